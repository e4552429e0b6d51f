/-! the law's cases: one call of the class, one of the reference, and the comparison -/
set_option maxRecDepth 100000 in
theorem k_addExpression {p : Program} {l : Launch} {e : Env} {s : State} {m : MethodId} {args : Array Value} {below : List Frame} {meth : Method} {c : Code} {Q : State → Prop} {cells slots : Nat} {D : va_G} {cI cJ : ClassId} {A : Nat → Prop} {sa : Nat → Nat} {b L : Nat} {xs : Nat → Int32} {i x o am : Nat} (X : yLx p s m args meth c D cI cJ A sa b L xs) (hi : i + 4 ≤ L) {p1 : Int32} (e1 : xs (i + 1) = p1) {wm wm' wc wc' : va_W} {f f' : Nat → Int64} {k : Nat} {r : Int32} {d mc ms d2 mc2 ms2 : Nat} {fs fs2 : List Value}
    (hH : ctH l yL_addExpression wsL_addExpression (rmD d mc ms) sa D [(cI, .int), (cJ, .long)] [.ref x, .int p1, .ref o] (WO cJ o f ++ wc) (WO cJ o f' ++ wc') (nI k) mc ms)
    (hN : ctI l yX4_addExpression wsX4_addExpression (rmD d2 mc2 ms2) D [(cI, .int)] [.ref am, .int p1] wm wm' r mc2 ms2)
    (hT : ctI l yX4_thrown wsX4_thrown (rmD 0 0 0) D [(cI, .int)] [.ref am] wm' wm' (nI k) 0 0) (hq : wm[0]? = some (am, .inr (4, fs))) (hq2 : wm'[0]? = some (am, .inr (4, fs2)))
    (hk : k = 0 → f' 0 = r.toInt64) (hkk : k < 2 ^ 31) (hd : d ≤ 9 ∧ mc ≤ 1 ∧ ms ≤ 6) (hd2 : d2 ≤ 9 ∧ mc2 ≤ 2 ∧ ms2 ≤ 120) (hc : cells + 3 ≤ 601024 ∧ slots + 126 ≤ 7293034)
    (kk : yW p l e room_1 s m args below meth c 7 D A Q (cells + 3) (slots + 126) (wm' ++ (WO cJ o f' ++ wc')) 1714 [(4, .int (nI i)), (3, .ref o), (2, .ref am), (1, .ref x), (0, .ref b)] []) : yW p l e room_1 s m args below meth c 7 D A Q cells slots (wm ++ (WO cJ o f ++ wc)) 168 [(4, .int (nI i)), (3, .ref o), (2, .ref am), (1, .ref x), (0, .ref b)] [] := by
  obtain ⟨C, hE, hX, hbl, hbA, hL⟩ := X
  refine y_aload_n C 3 dL_law_168 rfl rfl ?_
  refine y_aload_n C 4 dL_law_169 rfl rfl ?_
  refine y_iload C 0 dL_law_170 rfl ?_
  refine y_iconst C (v := nI 1) dL_law_172 rfl ?_
  refine y_iaddN C dL_law_173 ?_
  refine y_sld C hX hbl hbA (by omega) hL dL_law_174 ?_
  refine y_topE e1 ?_
  refine y_aload_n C 1 dL_law_175 rfl rfl ?_
  refine y_callS C hE (wr := wm) (st := []) 3 hH gL_law_L_addExpression rfl rfl rfl (by decide +kernel) ⟨by show d + 1 ≤ 11; omega, by show 8 + (4 + 11) + 30 * d ≤ 384; omega⟩ rfl rfl rfl (Nat.le_of_ble_eq_true rfl) dL_law_176 ⟨by show cells + mc ≤ 601024; omega, by show slots + ms ≤ 7293034; omega⟩ ?_
  refine y_istore C dL_law_179 (Nat.le_of_ble_eq_true rfl) rfl ?_
  refine y_aload_n C 3 dL_law_181 rfl rfl ?_
  refine y_aload_n C 5 dL_law_182 rfl rfl ?_
  refine y_iload C 1 dL_law_183 rfl ?_
  refine y_iconst C (v := nI 1) dL_law_185 rfl ?_
  refine y_iaddN C dL_law_186 ?_
  refine y_sld C hX hbl hbA (by omega) hL dL_law_187 ?_
  refine y_topE e1 ?_
  refine y_swap ?_
  refine y_callI C.s1 (wr := WO cJ o f' ++ wc') (st := []) 1 hN gL_law_X4_addExpression rfl rfl rfl (by decide +kernel) ⟨by show d2 + 1 ≤ 11; omega, by show 8 + (2 + 11) + 30 * d2 ≤ 384; omega⟩ (q0 := 0) (ci := 4) hq rfl rfl rfl rfl (Nat.le_of_ble_eq_true rfl) dL_law_188 ⟨by show cells + mc + mc2 ≤ 601024; omega, by show slots + ms + ms2 ≤ 7293034; omega⟩ ?_
  refine y_istore C dL_law_191 (Nat.le_of_ble_eq_true rfl) rfl ?_
  refine y_aload_n C 4 dL_law_193 rfl rfl ?_
  refine y_callI C.s1 (wr := WO cJ o f' ++ wc') (st := []) 0 hT gL_law_X4_thrown rfl rfl rfl (by decide +kernel) ⟨Nat.le_of_ble_eq_true rfl, Nat.le_of_ble_eq_true rfl⟩ (q0 := 0) (ci := 4) hq2 rfl rfl rfl rfl (Nat.le_of_ble_eq_true rfl) dL_law_194 ⟨by show cells + mc + mc2 + 0 ≤ 601024; omega, by show slots + ms + ms2 + 0 ≤ 7293034; omega⟩ ?_
  refine y_iload C 1 dL_law_197 rfl ?_
  refine y_icmpN_eq C (tgt := 204) dL_law_199 rfl hkk hkk (fun _ => ?_) (fun h => absurd rfl h)
  refine y_iload C 1 dL_law_204 rfl ?_
  refine y_ifN_ne C (tgt := 221) dL_law_206 rfl hkk (fun _ => ?_) (fun h0 => ?_)
  · refine y_goto C (tgt := 1714) dL_law_221 rfl ?_
    refine y_swap ?_
    refine y_sub (lv' := [(4, .int (nI i)), (3, .ref o), (2, .ref am), (1, .ref x), (0, .ref b)]) [2, 3, 4, 5, 6] rfl ?_
    exact y_widen (by omega) (by omega) kk
  · refine y_aload_n C 3 dL_law_209 rfl rfl ?_
    refine y_iconst C (v := nI 0) dL_law_210 rfl ?_
    refine y_lald C (q0 := 0) (t0 := 1) (j := 0) rfl rfl (Nat.le_of_ble_eq_true rfl) (Nat.le_of_ble_eq_true rfl) dL_law_211 ?_
    refine y_iload C 0 dL_law_212 rfl ?_
    refine y_i2l C dL_law_214 rfl ?_
    refine y_lcmp C dL_law_215 ?_
    refine y_if_eq C (tgt := 221) dL_law_216 rfl (fun _ => ?_) (fun h => absurd (yl_c.mpr (hk h0)) h)
    refine y_goto C (tgt := 1714) dL_law_221 rfl ?_
    refine y_swap ?_
    refine y_sub (lv' := [(4, .int (nI i)), (3, .ref o), (2, .ref am), (1, .ref x), (0, .ref b)]) [2, 3, 4, 5, 6] rfl ?_
    exact y_widen (by omega) (by omega) kk
set_option maxRecDepth 100000 in
theorem k_addBlock {p : Program} {l : Launch} {e : Env} {s : State} {m : MethodId} {args : Array Value} {below : List Frame} {meth : Method} {c : Code} {Q : State → Prop} {cells slots : Nat} {D : va_G} {cI cJ : ClassId} {A : Nat → Prop} {sa : Nat → Nat} {b L : Nat} {xs : Nat → Int32} {i x o am : Nat} (X : yLx p s m args meth c D cI cJ A sa b L xs) (hi : i + 4 ≤ L) {wm wm' wc wc' : va_W} {f f' : Nat → Int64} {k : Nat} {r : Int32} {d mc ms d2 mc2 ms2 : Nat} {fs fs2 : List Value}
    (hH : ctH l yL_addBlock wsL_addBlock (rmD d mc ms) sa D [(cI, .int), (cJ, .long)] [.ref x, .ref o] (WO cJ o f ++ wc) (WO cJ o f' ++ wc') (nI k) mc ms)
    (hN : ctI l yX4_addBlock wsX4_addBlock (rmD d2 mc2 ms2) D [(cI, .int)] [.ref am] wm wm' r mc2 ms2)
    (hT : ctI l yX4_thrown wsX4_thrown (rmD 0 0 0) D [(cI, .int)] [.ref am] wm' wm' (nI k) 0 0) (hq : wm[0]? = some (am, .inr (4, fs))) (hq2 : wm'[0]? = some (am, .inr (4, fs2)))
    (hk : k = 0 → f' 0 = r.toInt64) (hkk : k < 2 ^ 31) (hd : d ≤ 9 ∧ mc ≤ 1 ∧ ms ≤ 6) (hd2 : d2 ≤ 9 ∧ mc2 ≤ 2 ∧ ms2 ≤ 120) (hc : cells + 3 ≤ 601024 ∧ slots + 126 ≤ 7293034)
    (kk : yW p l e room_1 s m args below meth c 7 D A Q (cells + 3) (slots + 126) (wm' ++ (WO cJ o f' ++ wc')) 1714 [(4, .int (nI i)), (3, .ref o), (2, .ref am), (1, .ref x), (0, .ref b)] []) : yW p l e room_1 s m args below meth c 7 D A Q cells slots (wm ++ (WO cJ o f ++ wc)) 224 [(4, .int (nI i)), (3, .ref o), (2, .ref am), (1, .ref x), (0, .ref b)] [] := by
  obtain ⟨C, hE, hX, hbl, hbA, hL⟩ := X
  refine y_aload_n C 3 dL_law_224 rfl rfl ?_
  refine y_aload_n C 1 dL_law_225 rfl rfl ?_
  refine y_callS C hE (wr := wm) (st := []) 2 hH gL_law_L_addBlock rfl rfl rfl (by decide +kernel) ⟨by show d + 1 ≤ 11; omega, by show 8 + (3 + 11) + 30 * d ≤ 384; omega⟩ rfl rfl rfl (Nat.le_of_ble_eq_true rfl) dL_law_226 ⟨by show cells + mc ≤ 601024; omega, by show slots + ms ≤ 7293034; omega⟩ ?_
  refine y_istore C dL_law_229 (Nat.le_of_ble_eq_true rfl) rfl ?_
  refine y_aload_n C 3 dL_law_231 rfl rfl ?_
  refine y_swap ?_
  refine y_callI C.s1 (wr := WO cJ o f' ++ wc') (st := []) 0 hN gL_law_X4_addBlock rfl rfl rfl (by decide +kernel) ⟨by show d2 + 1 ≤ 11; omega, by show 8 + (1 + 11) + 30 * d2 ≤ 384; omega⟩ (q0 := 0) (ci := 4) hq rfl rfl rfl rfl (Nat.le_of_ble_eq_true rfl) dL_law_232 ⟨by show cells + mc + mc2 ≤ 601024; omega, by show slots + ms + ms2 ≤ 7293034; omega⟩ ?_
  refine y_istore C dL_law_235 (Nat.le_of_ble_eq_true rfl) rfl ?_
  refine y_aload_n C 4 dL_law_237 rfl rfl ?_
  refine y_callI C.s1 (wr := WO cJ o f' ++ wc') (st := []) 0 hT gL_law_X4_thrown rfl rfl rfl (by decide +kernel) ⟨Nat.le_of_ble_eq_true rfl, Nat.le_of_ble_eq_true rfl⟩ (q0 := 0) (ci := 4) hq2 rfl rfl rfl rfl (Nat.le_of_ble_eq_true rfl) dL_law_238 ⟨by show cells + mc + mc2 + 0 ≤ 601024; omega, by show slots + ms + ms2 + 0 ≤ 7293034; omega⟩ ?_
  refine y_iload C 1 dL_law_241 rfl ?_
  refine y_icmpN_eq C (tgt := 248) dL_law_243 rfl hkk hkk (fun _ => ?_) (fun h => absurd rfl h)
  refine y_iload C 1 dL_law_248 rfl ?_
  refine y_ifN_ne C (tgt := 265) dL_law_250 rfl hkk (fun _ => ?_) (fun h0 => ?_)
  · refine y_goto C (tgt := 1714) dL_law_265 rfl ?_
    refine y_swap ?_
    refine y_sub (lv' := [(4, .int (nI i)), (3, .ref o), (2, .ref am), (1, .ref x), (0, .ref b)]) [2, 3, 4, 5, 6] rfl ?_
    exact y_widen (by omega) (by omega) kk
  · refine y_aload_n C 3 dL_law_253 rfl rfl ?_
    refine y_iconst C (v := nI 0) dL_law_254 rfl ?_
    refine y_lald C (q0 := 0) (t0 := 1) (j := 0) rfl rfl (Nat.le_of_ble_eq_true rfl) (Nat.le_of_ble_eq_true rfl) dL_law_255 ?_
    refine y_iload C 0 dL_law_256 rfl ?_
    refine y_i2l C dL_law_258 rfl ?_
    refine y_lcmp C dL_law_259 ?_
    refine y_if_eq C (tgt := 265) dL_law_260 rfl (fun _ => ?_) (fun h => absurd (yl_c.mpr (hk h0)) h)
    refine y_goto C (tgt := 1714) dL_law_265 rfl ?_
    refine y_swap ?_
    refine y_sub (lv' := [(4, .int (nI i)), (3, .ref o), (2, .ref am), (1, .ref x), (0, .ref b)]) [2, 3, 4, 5, 6] rfl ?_
    exact y_widen (by omega) (by omega) kk
set_option maxRecDepth 100000 in
theorem k_addEdge {p : Program} {l : Launch} {e : Env} {s : State} {m : MethodId} {args : Array Value} {below : List Frame} {meth : Method} {c : Code} {Q : State → Prop} {cells slots : Nat} {D : va_G} {cI cJ : ClassId} {A : Nat → Prop} {sa : Nat → Nat} {b L : Nat} {xs : Nat → Int32} {i x o am : Nat} (X : yLx p s m args meth c D cI cJ A sa b L xs) (hi : i + 4 ≤ L) {p1 : Int32} (e1 : xs (i + 1) = p1) {p2 : Int32} (e2 : xs (i + 2) = p2) {wm wm' wc wc' : va_W} {f f' : Nat → Int64} {k : Nat} {r : Int32} {d mc ms d2 mc2 ms2 : Nat} {fs fs2 : List Value}
    (hH : ctH l yL_addEdge wsL_addEdge (rmD d mc ms) sa D [(cI, .int), (cJ, .long)] [.ref x, .int p1, .int p2, .ref o] (WO cJ o f ++ wc) (WO cJ o f' ++ wc') (nI k) mc ms)
    (hN : ctI l yX4_addEdge wsX4_addEdge (rmD d2 mc2 ms2) D [(cI, .int)] [.ref am, .int p1, .int p2] wm wm' r mc2 ms2)
    (hT : ctI l yX4_thrown wsX4_thrown (rmD 0 0 0) D [(cI, .int)] [.ref am] wm' wm' (nI k) 0 0) (hq : wm[0]? = some (am, .inr (4, fs))) (hq2 : wm'[0]? = some (am, .inr (4, fs2)))
    (hk : k = 0 → f' 0 = r.toInt64) (hkk : k < 2 ^ 31) (hd : d ≤ 9 ∧ mc ≤ 1 ∧ ms ≤ 6) (hd2 : d2 ≤ 9 ∧ mc2 ≤ 2 ∧ ms2 ≤ 120) (hc : cells + 3 ≤ 601024 ∧ slots + 126 ≤ 7293034)
    (kk : yW p l e room_1 s m args below meth c 7 D A Q (cells + 3) (slots + 126) (wm' ++ (WO cJ o f' ++ wc')) 1714 [(4, .int (nI i)), (3, .ref o), (2, .ref am), (1, .ref x), (0, .ref b)] []) : yW p l e room_1 s m args below meth c 7 D A Q cells slots (wm ++ (WO cJ o f ++ wc)) 268 [(4, .int (nI i)), (3, .ref o), (2, .ref am), (1, .ref x), (0, .ref b)] [] := by
  obtain ⟨C, hE, hX, hbl, hbA, hL⟩ := X
  refine y_aload_n C 3 dL_law_268 rfl rfl ?_
  refine y_aload_n C 4 dL_law_269 rfl rfl ?_
  refine y_iload C 0 dL_law_270 rfl ?_
  refine y_iconst C (v := nI 1) dL_law_272 rfl ?_
  refine y_iaddN C dL_law_273 ?_
  refine y_sld C hX hbl hbA (by omega) hL dL_law_274 ?_
  refine y_topE e1 ?_
  refine y_aload_n C 4 dL_law_275 rfl rfl ?_
  refine y_iload C 0 dL_law_276 rfl ?_
  refine y_iconst C (v := nI 2) dL_law_278 rfl ?_
  refine y_iaddN C dL_law_279 ?_
  refine y_sld C hX hbl hbA (by omega) hL dL_law_280 ?_
  refine y_topE e2 ?_
  refine y_aload_n C 1 dL_law_281 rfl rfl ?_
  refine y_callS C hE (wr := wm) (st := []) 4 hH gL_law_L_addEdge rfl rfl rfl (by decide +kernel) ⟨by show d + 1 ≤ 11; omega, by show 8 + (5 + 11) + 30 * d ≤ 384; omega⟩ rfl rfl rfl (Nat.le_of_ble_eq_true rfl) dL_law_282 ⟨by show cells + mc ≤ 601024; omega, by show slots + ms ≤ 7293034; omega⟩ ?_
  refine y_istore C dL_law_285 (Nat.le_of_ble_eq_true rfl) rfl ?_
  refine y_aload_n C 3 dL_law_287 rfl rfl ?_
  refine y_aload_n C 5 dL_law_288 rfl rfl ?_
  refine y_iload C 1 dL_law_289 rfl ?_
  refine y_iconst C (v := nI 1) dL_law_291 rfl ?_
  refine y_iaddN C dL_law_292 ?_
  refine y_sld C hX hbl hbA (by omega) hL dL_law_293 ?_
  refine y_topE e1 ?_
  refine y_aload_n C 5 dL_law_294 rfl rfl ?_
  refine y_iload C 1 dL_law_295 rfl ?_
  refine y_iconst C (v := nI 2) dL_law_297 rfl ?_
  refine y_iaddN C dL_law_298 ?_
  refine y_sld C hX hbl hbA (by omega) hL dL_law_299 ?_
  refine y_topE e2 ?_
  refine y_swap ?_
  refine y_callI C.s1 (wr := WO cJ o f' ++ wc') (st := []) 2 hN gL_law_X4_addEdge rfl rfl rfl (by decide +kernel) ⟨by show d2 + 1 ≤ 11; omega, by show 8 + (5 + 11) + 30 * d2 ≤ 384; omega⟩ (q0 := 0) (ci := 4) hq rfl rfl rfl rfl (Nat.le_of_ble_eq_true rfl) dL_law_300 ⟨by show cells + mc + mc2 ≤ 601024; omega, by show slots + ms + ms2 ≤ 7293034; omega⟩ ?_
  refine y_istore C dL_law_303 (Nat.le_of_ble_eq_true rfl) rfl ?_
  refine y_aload_n C 4 dL_law_305 rfl rfl ?_
  refine y_callI C.s1 (wr := WO cJ o f' ++ wc') (st := []) 0 hT gL_law_X4_thrown rfl rfl rfl (by decide +kernel) ⟨Nat.le_of_ble_eq_true rfl, Nat.le_of_ble_eq_true rfl⟩ (q0 := 0) (ci := 4) hq2 rfl rfl rfl rfl (Nat.le_of_ble_eq_true rfl) dL_law_306 ⟨by show cells + mc + mc2 + 0 ≤ 601024; omega, by show slots + ms + ms2 + 0 ≤ 7293034; omega⟩ ?_
  refine y_iload C 1 dL_law_309 rfl ?_
  refine y_icmpN_eq C (tgt := 316) dL_law_311 rfl hkk hkk (fun _ => ?_) (fun h => absurd rfl h)
  refine y_iload C 1 dL_law_316 rfl ?_
  refine y_ifN_ne C (tgt := 333) dL_law_318 rfl hkk (fun _ => ?_) (fun h0 => ?_)
  · refine y_goto C (tgt := 1714) dL_law_333 rfl ?_
    refine y_swap ?_
    refine y_sub (lv' := [(4, .int (nI i)), (3, .ref o), (2, .ref am), (1, .ref x), (0, .ref b)]) [2, 3, 4, 5, 6] rfl ?_
    exact y_widen (by omega) (by omega) kk
  · refine y_aload_n C 3 dL_law_321 rfl rfl ?_
    refine y_iconst C (v := nI 0) dL_law_322 rfl ?_
    refine y_lald C (q0 := 0) (t0 := 1) (j := 0) rfl rfl (Nat.le_of_ble_eq_true rfl) (Nat.le_of_ble_eq_true rfl) dL_law_323 ?_
    refine y_iload C 0 dL_law_324 rfl ?_
    refine y_i2l C dL_law_326 rfl ?_
    refine y_lcmp C dL_law_327 ?_
    refine y_if_eq C (tgt := 333) dL_law_328 rfl (fun _ => ?_) (fun h => absurd (yl_c.mpr (hk h0)) h)
    refine y_goto C (tgt := 1714) dL_law_333 rfl ?_
    refine y_swap ?_
    refine y_sub (lv' := [(4, .int (nI i)), (3, .ref o), (2, .ref am), (1, .ref x), (0, .ref b)]) [2, 3, 4, 5, 6] rfl ?_
    exact y_widen (by omega) (by omega) kk
set_option maxRecDepth 100000 in
theorem k_compute {p : Program} {l : Launch} {e : Env} {s : State} {m : MethodId} {args : Array Value} {below : List Frame} {meth : Method} {c : Code} {Q : State → Prop} {cells slots : Nat} {D : va_G} {cI cJ : ClassId} {A : Nat → Prop} {sa : Nat → Nat} {b L : Nat} {xs : Nat → Int32} {i x o am : Nat} (X : yLx p s m args meth c D cI cJ A sa b L xs) (hi : i + 4 ≤ L) {p1 : Int32} (e1 : xs (i + 1) = p1) {p2 : Int32} (e2 : xs (i + 2) = p2) {wm wm' wc wc' : va_W} {f f' : Nat → Int64} {k : Nat} {r : Int32} {d mc ms d2 mc2 ms2 : Nat} {fs fs2 : List Value}
    (hH : ctH l yL_compute wsL_compute (rmD d mc ms) sa D [(cI, .int), (cJ, .long)] [.ref x, .int p1, .int p2, .ref o] (WO cJ o f ++ wc) (WO cJ o f' ++ wc') (nI k) mc ms)
    (hN : ctI l yX4_compute wsX4_compute (rmD d2 mc2 ms2) D [(cI, .int)] [.ref am, .int p1, .int p2] wm wm' r mc2 ms2)
    (hT : ctI l yX4_thrown wsX4_thrown (rmD 0 0 0) D [(cI, .int)] [.ref am] wm' wm' (nI k) 0 0) (hq : wm[0]? = some (am, .inr (4, fs))) (hq2 : wm'[0]? = some (am, .inr (4, fs2)))
    (hk : k = 0 → f' 0 = r.toInt64) (hkk : k < 2 ^ 31) (hd : d ≤ 9 ∧ mc ≤ 1 ∧ ms ≤ 6) (hd2 : d2 ≤ 9 ∧ mc2 ≤ 2 ∧ ms2 ≤ 120) (hc : cells + 3 ≤ 601024 ∧ slots + 126 ≤ 7293034)
    (kk : yW p l e room_1 s m args below meth c 7 D A Q (cells + 3) (slots + 126) (wm' ++ (WO cJ o f' ++ wc')) 1714 [(4, .int (nI i)), (3, .ref o), (2, .ref am), (1, .ref x), (0, .ref b)] []) : yW p l e room_1 s m args below meth c 7 D A Q cells slots (wm ++ (WO cJ o f ++ wc)) 336 [(4, .int (nI i)), (3, .ref o), (2, .ref am), (1, .ref x), (0, .ref b)] [] := by
  obtain ⟨C, hE, hX, hbl, hbA, hL⟩ := X
  refine y_aload_n C 3 dL_law_336 rfl rfl ?_
  refine y_aload_n C 4 dL_law_337 rfl rfl ?_
  refine y_iload C 0 dL_law_338 rfl ?_
  refine y_iconst C (v := nI 1) dL_law_340 rfl ?_
  refine y_iaddN C dL_law_341 ?_
  refine y_sld C hX hbl hbA (by omega) hL dL_law_342 ?_
  refine y_topE e1 ?_
  refine y_aload_n C 4 dL_law_343 rfl rfl ?_
  refine y_iload C 0 dL_law_344 rfl ?_
  refine y_iconst C (v := nI 2) dL_law_346 rfl ?_
  refine y_iaddN C dL_law_347 ?_
  refine y_sld C hX hbl hbA (by omega) hL dL_law_348 ?_
  refine y_topE e2 ?_
  refine y_aload_n C 1 dL_law_349 rfl rfl ?_
  refine y_callS C hE (wr := wm) (st := []) 4 hH gL_law_L_compute rfl rfl rfl (by decide +kernel) ⟨by show d + 1 ≤ 11; omega, by show 8 + (5 + 11) + 30 * d ≤ 384; omega⟩ rfl rfl rfl (Nat.le_of_ble_eq_true rfl) dL_law_350 ⟨by show cells + mc ≤ 601024; omega, by show slots + ms ≤ 7293034; omega⟩ ?_
  refine y_istore C dL_law_353 (Nat.le_of_ble_eq_true rfl) rfl ?_
  refine y_aload_n C 3 dL_law_355 rfl rfl ?_
  refine y_aload_n C 5 dL_law_356 rfl rfl ?_
  refine y_iload C 1 dL_law_357 rfl ?_
  refine y_iconst C (v := nI 1) dL_law_359 rfl ?_
  refine y_iaddN C dL_law_360 ?_
  refine y_sld C hX hbl hbA (by omega) hL dL_law_361 ?_
  refine y_topE e1 ?_
  refine y_aload_n C 5 dL_law_362 rfl rfl ?_
  refine y_iload C 1 dL_law_363 rfl ?_
  refine y_iconst C (v := nI 2) dL_law_365 rfl ?_
  refine y_iaddN C dL_law_366 ?_
  refine y_sld C hX hbl hbA (by omega) hL dL_law_367 ?_
  refine y_topE e2 ?_
  refine y_swap ?_
  refine y_callI C.s1 (wr := WO cJ o f' ++ wc') (st := []) 2 hN gL_law_X4_compute rfl rfl rfl (by decide +kernel) ⟨by show d2 + 1 ≤ 11; omega, by show 8 + (3 + 11) + 30 * d2 ≤ 384; omega⟩ (q0 := 0) (ci := 4) hq rfl rfl rfl rfl (Nat.le_of_ble_eq_true rfl) dL_law_368 ⟨by show cells + mc + mc2 ≤ 601024; omega, by show slots + ms + ms2 ≤ 7293034; omega⟩ ?_
  refine y_istore C dL_law_371 (Nat.le_of_ble_eq_true rfl) rfl ?_
  refine y_aload_n C 4 dL_law_373 rfl rfl ?_
  refine y_callI C.s1 (wr := WO cJ o f' ++ wc') (st := []) 0 hT gL_law_X4_thrown rfl rfl rfl (by decide +kernel) ⟨Nat.le_of_ble_eq_true rfl, Nat.le_of_ble_eq_true rfl⟩ (q0 := 0) (ci := 4) hq2 rfl rfl rfl rfl (Nat.le_of_ble_eq_true rfl) dL_law_374 ⟨by show cells + mc + mc2 + 0 ≤ 601024; omega, by show slots + ms + ms2 + 0 ≤ 7293034; omega⟩ ?_
  refine y_iload C 1 dL_law_377 rfl ?_
  refine y_icmpN_eq C (tgt := 384) dL_law_379 rfl hkk hkk (fun _ => ?_) (fun h => absurd rfl h)
  refine y_iload C 1 dL_law_384 rfl ?_
  refine y_ifN_ne C (tgt := 401) dL_law_386 rfl hkk (fun _ => ?_) (fun h0 => ?_)
  · refine y_goto C (tgt := 1714) dL_law_401 rfl ?_
    refine y_swap ?_
    refine y_sub (lv' := [(4, .int (nI i)), (3, .ref o), (2, .ref am), (1, .ref x), (0, .ref b)]) [2, 3, 4, 5, 6] rfl ?_
    exact y_widen (by omega) (by omega) kk
  · refine y_aload_n C 3 dL_law_389 rfl rfl ?_
    refine y_iconst C (v := nI 0) dL_law_390 rfl ?_
    refine y_lald C (q0 := 0) (t0 := 1) (j := 0) rfl rfl (Nat.le_of_ble_eq_true rfl) (Nat.le_of_ble_eq_true rfl) dL_law_391 ?_
    refine y_iload C 0 dL_law_392 rfl ?_
    refine y_i2l C dL_law_394 rfl ?_
    refine y_lcmp C dL_law_395 ?_
    refine y_if_eq C (tgt := 401) dL_law_396 rfl (fun _ => ?_) (fun h => absurd (yl_c.mpr (hk h0)) h)
    refine y_goto C (tgt := 1714) dL_law_401 rfl ?_
    refine y_swap ?_
    refine y_sub (lv' := [(4, .int (nI i)), (3, .ref o), (2, .ref am), (1, .ref x), (0, .ref b)]) [2, 3, 4, 5, 6] rfl ?_
    exact y_widen (by omega) (by omega) kk
set_option maxRecDepth 100000 in
theorem k_use {p : Program} {l : Launch} {e : Env} {s : State} {m : MethodId} {args : Array Value} {below : List Frame} {meth : Method} {c : Code} {Q : State → Prop} {cells slots : Nat} {D : va_G} {cI cJ : ClassId} {A : Nat → Prop} {sa : Nat → Nat} {b L : Nat} {xs : Nat → Int32} {i x o am : Nat} (X : yLx p s m args meth c D cI cJ A sa b L xs) (hi : i + 4 ≤ L) {p1 : Int32} (e1 : xs (i + 1) = p1) {p2 : Int32} (e2 : xs (i + 2) = p2) {wm wm' wc wc' : va_W} {f f' : Nat → Int64} {k : Nat} {r : Int32} {d mc ms d2 mc2 ms2 : Nat} {fs fs2 : List Value}
    (hH : ctH l yL_use wsL_use (rmD d mc ms) sa D [(cI, .int), (cJ, .long)] [.ref x, .int p1, .int p2, .ref o] (WO cJ o f ++ wc) (WO cJ o f' ++ wc') (nI k) mc ms)
    (hN : ctI l yX4_use wsX4_use (rmD d2 mc2 ms2) D [(cI, .int)] [.ref am, .int p1, .int p2] wm wm' r mc2 ms2)
    (hT : ctI l yX4_thrown wsX4_thrown (rmD 0 0 0) D [(cI, .int)] [.ref am] wm' wm' (nI k) 0 0) (hq : wm[0]? = some (am, .inr (4, fs))) (hq2 : wm'[0]? = some (am, .inr (4, fs2)))
    (hk : k = 0 → f' 0 = r.toInt64) (hkk : k < 2 ^ 31) (hd : d ≤ 9 ∧ mc ≤ 1 ∧ ms ≤ 6) (hd2 : d2 ≤ 9 ∧ mc2 ≤ 2 ∧ ms2 ≤ 120) (hc : cells + 3 ≤ 601024 ∧ slots + 126 ≤ 7293034)
    (kk : yW p l e room_1 s m args below meth c 7 D A Q (cells + 3) (slots + 126) (wm' ++ (WO cJ o f' ++ wc')) 1714 [(4, .int (nI i)), (3, .ref o), (2, .ref am), (1, .ref x), (0, .ref b)] []) : yW p l e room_1 s m args below meth c 7 D A Q cells slots (wm ++ (WO cJ o f ++ wc)) 404 [(4, .int (nI i)), (3, .ref o), (2, .ref am), (1, .ref x), (0, .ref b)] [] := by
  obtain ⟨C, hE, hX, hbl, hbA, hL⟩ := X
  refine y_aload_n C 3 dL_law_404 rfl rfl ?_
  refine y_aload_n C 4 dL_law_405 rfl rfl ?_
  refine y_iload C 0 dL_law_406 rfl ?_
  refine y_iconst C (v := nI 1) dL_law_408 rfl ?_
  refine y_iaddN C dL_law_409 ?_
  refine y_sld C hX hbl hbA (by omega) hL dL_law_410 ?_
  refine y_topE e1 ?_
  refine y_aload_n C 4 dL_law_411 rfl rfl ?_
  refine y_iload C 0 dL_law_412 rfl ?_
  refine y_iconst C (v := nI 2) dL_law_414 rfl ?_
  refine y_iaddN C dL_law_415 ?_
  refine y_sld C hX hbl hbA (by omega) hL dL_law_416 ?_
  refine y_topE e2 ?_
  refine y_aload_n C 1 dL_law_417 rfl rfl ?_
  refine y_callS C hE (wr := wm) (st := []) 4 hH gL_law_L_use rfl rfl rfl (by decide +kernel) ⟨by show d + 1 ≤ 11; omega, by show 8 + (5 + 11) + 30 * d ≤ 384; omega⟩ rfl rfl rfl (Nat.le_of_ble_eq_true rfl) dL_law_418 ⟨by show cells + mc ≤ 601024; omega, by show slots + ms ≤ 7293034; omega⟩ ?_
  refine y_istore C dL_law_421 (Nat.le_of_ble_eq_true rfl) rfl ?_
  refine y_aload_n C 3 dL_law_423 rfl rfl ?_
  refine y_aload_n C 5 dL_law_424 rfl rfl ?_
  refine y_iload C 1 dL_law_425 rfl ?_
  refine y_iconst C (v := nI 1) dL_law_427 rfl ?_
  refine y_iaddN C dL_law_428 ?_
  refine y_sld C hX hbl hbA (by omega) hL dL_law_429 ?_
  refine y_topE e1 ?_
  refine y_aload_n C 5 dL_law_430 rfl rfl ?_
  refine y_iload C 1 dL_law_431 rfl ?_
  refine y_iconst C (v := nI 2) dL_law_433 rfl ?_
  refine y_iaddN C dL_law_434 ?_
  refine y_sld C hX hbl hbA (by omega) hL dL_law_435 ?_
  refine y_topE e2 ?_
  refine y_swap ?_
  refine y_callI C.s1 (wr := WO cJ o f' ++ wc') (st := []) 2 hN gL_law_X4_use rfl rfl rfl (by decide +kernel) ⟨by show d2 + 1 ≤ 11; omega, by show 8 + (3 + 11) + 30 * d2 ≤ 384; omega⟩ (q0 := 0) (ci := 4) hq rfl rfl rfl rfl (Nat.le_of_ble_eq_true rfl) dL_law_436 ⟨by show cells + mc + mc2 ≤ 601024; omega, by show slots + ms + ms2 ≤ 7293034; omega⟩ ?_
  refine y_istore C dL_law_439 (Nat.le_of_ble_eq_true rfl) rfl ?_
  refine y_aload_n C 4 dL_law_441 rfl rfl ?_
  refine y_callI C.s1 (wr := WO cJ o f' ++ wc') (st := []) 0 hT gL_law_X4_thrown rfl rfl rfl (by decide +kernel) ⟨Nat.le_of_ble_eq_true rfl, Nat.le_of_ble_eq_true rfl⟩ (q0 := 0) (ci := 4) hq2 rfl rfl rfl rfl (Nat.le_of_ble_eq_true rfl) dL_law_442 ⟨by show cells + mc + mc2 + 0 ≤ 601024; omega, by show slots + ms + ms2 + 0 ≤ 7293034; omega⟩ ?_
  refine y_iload C 1 dL_law_445 rfl ?_
  refine y_icmpN_eq C (tgt := 452) dL_law_447 rfl hkk hkk (fun _ => ?_) (fun h => absurd rfl h)
  refine y_iload C 1 dL_law_452 rfl ?_
  refine y_ifN_ne C (tgt := 469) dL_law_454 rfl hkk (fun _ => ?_) (fun h0 => ?_)
  · refine y_goto C (tgt := 1714) dL_law_469 rfl ?_
    refine y_swap ?_
    refine y_sub (lv' := [(4, .int (nI i)), (3, .ref o), (2, .ref am), (1, .ref x), (0, .ref b)]) [2, 3, 4, 5, 6] rfl ?_
    exact y_widen (by omega) (by omega) kk
  · refine y_aload_n C 3 dL_law_457 rfl rfl ?_
    refine y_iconst C (v := nI 0) dL_law_458 rfl ?_
    refine y_lald C (q0 := 0) (t0 := 1) (j := 0) rfl rfl (Nat.le_of_ble_eq_true rfl) (Nat.le_of_ble_eq_true rfl) dL_law_459 ?_
    refine y_iload C 0 dL_law_460 rfl ?_
    refine y_i2l C dL_law_462 rfl ?_
    refine y_lcmp C dL_law_463 ?_
    refine y_if_eq C (tgt := 469) dL_law_464 rfl (fun _ => ?_) (fun h => absurd (yl_c.mpr (hk h0)) h)
    refine y_goto C (tgt := 1714) dL_law_469 rfl ?_
    refine y_swap ?_
    refine y_sub (lv' := [(4, .int (nI i)), (3, .ref o), (2, .ref am), (1, .ref x), (0, .ref b)]) [2, 3, 4, 5, 6] rfl ?_
    exact y_widen (by omega) (by omega) kk
set_option maxRecDepth 100000 in
theorem k_assign {p : Program} {l : Launch} {e : Env} {s : State} {m : MethodId} {args : Array Value} {below : List Frame} {meth : Method} {c : Code} {Q : State → Prop} {cells slots : Nat} {D : va_G} {cI cJ : ClassId} {A : Nat → Prop} {sa : Nat → Nat} {b L : Nat} {xs : Nat → Int32} {i x o am : Nat} (X : yLx p s m args meth c D cI cJ A sa b L xs) (hi : i + 4 ≤ L) {p1 : Int32} (e1 : xs (i + 1) = p1) {p2 : Int32} (e2 : xs (i + 2) = p2) {wm wm' wc wc' : va_W} {f f' : Nat → Int64} {k : Nat} {r : Int32} {d mc ms d2 mc2 ms2 : Nat} {fs fs2 : List Value}
    (hH : ctH l yL_assign wsL_assign (rmD d mc ms) sa D [(cI, .int), (cJ, .long)] [.ref x, .int p1, .int p2, .ref o] (WO cJ o f ++ wc) (WO cJ o f' ++ wc') (nI k) mc ms)
    (hN : ctI l yX4_assign wsX4_assign (rmD d2 mc2 ms2) D [(cI, .int)] [.ref am, .int p1, .int p2] wm wm' r mc2 ms2)
    (hT : ctI l yX4_thrown wsX4_thrown (rmD 0 0 0) D [(cI, .int)] [.ref am] wm' wm' (nI k) 0 0) (hq : wm[0]? = some (am, .inr (4, fs))) (hq2 : wm'[0]? = some (am, .inr (4, fs2)))
    (hk : k = 0 → f' 0 = r.toInt64) (hkk : k < 2 ^ 31) (hd : d ≤ 9 ∧ mc ≤ 1 ∧ ms ≤ 6) (hd2 : d2 ≤ 9 ∧ mc2 ≤ 2 ∧ ms2 ≤ 120) (hc : cells + 3 ≤ 601024 ∧ slots + 126 ≤ 7293034)
    (kk : yW p l e room_1 s m args below meth c 7 D A Q (cells + 3) (slots + 126) (wm' ++ (WO cJ o f' ++ wc')) 1714 [(4, .int (nI i)), (3, .ref o), (2, .ref am), (1, .ref x), (0, .ref b)] []) : yW p l e room_1 s m args below meth c 7 D A Q cells slots (wm ++ (WO cJ o f ++ wc)) 472 [(4, .int (nI i)), (3, .ref o), (2, .ref am), (1, .ref x), (0, .ref b)] [] := by
  obtain ⟨C, hE, hX, hbl, hbA, hL⟩ := X
  refine y_aload_n C 3 dL_law_472 rfl rfl ?_
  refine y_aload_n C 4 dL_law_473 rfl rfl ?_
  refine y_iload C 0 dL_law_474 rfl ?_
  refine y_iconst C (v := nI 1) dL_law_476 rfl ?_
  refine y_iaddN C dL_law_477 ?_
  refine y_sld C hX hbl hbA (by omega) hL dL_law_478 ?_
  refine y_topE e1 ?_
  refine y_aload_n C 4 dL_law_479 rfl rfl ?_
  refine y_iload C 0 dL_law_480 rfl ?_
  refine y_iconst C (v := nI 2) dL_law_482 rfl ?_
  refine y_iaddN C dL_law_483 ?_
  refine y_sld C hX hbl hbA (by omega) hL dL_law_484 ?_
  refine y_topE e2 ?_
  refine y_aload_n C 1 dL_law_485 rfl rfl ?_
  refine y_callS C hE (wr := wm) (st := []) 4 hH gL_law_L_assign rfl rfl rfl (by decide +kernel) ⟨by show d + 1 ≤ 11; omega, by show 8 + (5 + 11) + 30 * d ≤ 384; omega⟩ rfl rfl rfl (Nat.le_of_ble_eq_true rfl) dL_law_486 ⟨by show cells + mc ≤ 601024; omega, by show slots + ms ≤ 7293034; omega⟩ ?_
  refine y_istore C dL_law_489 (Nat.le_of_ble_eq_true rfl) rfl ?_
  refine y_aload_n C 3 dL_law_491 rfl rfl ?_
  refine y_aload_n C 5 dL_law_492 rfl rfl ?_
  refine y_iload C 1 dL_law_493 rfl ?_
  refine y_iconst C (v := nI 1) dL_law_495 rfl ?_
  refine y_iaddN C dL_law_496 ?_
  refine y_sld C hX hbl hbA (by omega) hL dL_law_497 ?_
  refine y_topE e1 ?_
  refine y_aload_n C 5 dL_law_498 rfl rfl ?_
  refine y_iload C 1 dL_law_499 rfl ?_
  refine y_iconst C (v := nI 2) dL_law_501 rfl ?_
  refine y_iaddN C dL_law_502 ?_
  refine y_sld C hX hbl hbA (by omega) hL dL_law_503 ?_
  refine y_topE e2 ?_
  refine y_swap ?_
  refine y_callI C.s1 (wr := WO cJ o f' ++ wc') (st := []) 2 hN gL_law_X4_assign rfl rfl rfl (by decide +kernel) ⟨by show d2 + 1 ≤ 11; omega, by show 8 + (3 + 11) + 30 * d2 ≤ 384; omega⟩ (q0 := 0) (ci := 4) hq rfl rfl rfl rfl (Nat.le_of_ble_eq_true rfl) dL_law_504 ⟨by show cells + mc + mc2 ≤ 601024; omega, by show slots + ms + ms2 ≤ 7293034; omega⟩ ?_
  refine y_istore C dL_law_507 (Nat.le_of_ble_eq_true rfl) rfl ?_
  refine y_aload_n C 4 dL_law_509 rfl rfl ?_
  refine y_callI C.s1 (wr := WO cJ o f' ++ wc') (st := []) 0 hT gL_law_X4_thrown rfl rfl rfl (by decide +kernel) ⟨Nat.le_of_ble_eq_true rfl, Nat.le_of_ble_eq_true rfl⟩ (q0 := 0) (ci := 4) hq2 rfl rfl rfl rfl (Nat.le_of_ble_eq_true rfl) dL_law_510 ⟨by show cells + mc + mc2 + 0 ≤ 601024; omega, by show slots + ms + ms2 + 0 ≤ 7293034; omega⟩ ?_
  refine y_iload C 1 dL_law_513 rfl ?_
  refine y_icmpN_eq C (tgt := 520) dL_law_515 rfl hkk hkk (fun _ => ?_) (fun h => absurd rfl h)
  refine y_iload C 1 dL_law_520 rfl ?_
  refine y_ifN_ne C (tgt := 537) dL_law_522 rfl hkk (fun _ => ?_) (fun h0 => ?_)
  · refine y_goto C (tgt := 1714) dL_law_537 rfl ?_
    refine y_swap ?_
    refine y_sub (lv' := [(4, .int (nI i)), (3, .ref o), (2, .ref am), (1, .ref x), (0, .ref b)]) [2, 3, 4, 5, 6] rfl ?_
    exact y_widen (by omega) (by omega) kk
  · refine y_aload_n C 3 dL_law_525 rfl rfl ?_
    refine y_iconst C (v := nI 0) dL_law_526 rfl ?_
    refine y_lald C (q0 := 0) (t0 := 1) (j := 0) rfl rfl (Nat.le_of_ble_eq_true rfl) (Nat.le_of_ble_eq_true rfl) dL_law_527 ?_
    refine y_iload C 0 dL_law_528 rfl ?_
    refine y_i2l C dL_law_530 rfl ?_
    refine y_lcmp C dL_law_531 ?_
    refine y_if_eq C (tgt := 537) dL_law_532 rfl (fun _ => ?_) (fun h => absurd (yl_c.mpr (hk h0)) h)
    refine y_goto C (tgt := 1714) dL_law_537 rfl ?_
    refine y_swap ?_
    refine y_sub (lv' := [(4, .int (nI i)), (3, .ref o), (2, .ref am), (1, .ref x), (0, .ref b)]) [2, 3, 4, 5, 6] rfl ?_
    exact y_widen (by omega) (by omega) kk
set_option maxRecDepth 100000 in
theorem k_drop {p : Program} {l : Launch} {e : Env} {s : State} {m : MethodId} {args : Array Value} {below : List Frame} {meth : Method} {c : Code} {Q : State → Prop} {cells slots : Nat} {D : va_G} {cI cJ : ClassId} {A : Nat → Prop} {sa : Nat → Nat} {b L : Nat} {xs : Nat → Int32} {i x o am : Nat} (X : yLx p s m args meth c D cI cJ A sa b L xs) (hi : i + 4 ≤ L) {p1 : Int32} (e1 : xs (i + 1) = p1) {wm wm' wc wc' : va_W} {f f' : Nat → Int64} {k : Nat} {r : Int32} {d mc ms d2 mc2 ms2 : Nat} {fs fs2 : List Value}
    (hH : ctH l yL_drop wsL_drop (rmD d mc ms) sa D [(cI, .int), (cJ, .long)] [.ref x, .int p1, .ref o] (WO cJ o f ++ wc) (WO cJ o f' ++ wc') (nI k) mc ms)
    (hN : ctI l yX4_drop wsX4_drop (rmD d2 mc2 ms2) D [(cI, .int)] [.ref am, .int p1] wm wm' r mc2 ms2)
    (hT : ctI l yX4_thrown wsX4_thrown (rmD 0 0 0) D [(cI, .int)] [.ref am] wm' wm' (nI k) 0 0) (hq : wm[0]? = some (am, .inr (4, fs))) (hq2 : wm'[0]? = some (am, .inr (4, fs2)))
    (hk : k = 0 → f' 0 = r.toInt64) (hkk : k < 2 ^ 31) (hd : d ≤ 9 ∧ mc ≤ 1 ∧ ms ≤ 6) (hd2 : d2 ≤ 9 ∧ mc2 ≤ 2 ∧ ms2 ≤ 120) (hc : cells + 3 ≤ 601024 ∧ slots + 126 ≤ 7293034)
    (kk : yW p l e room_1 s m args below meth c 7 D A Q (cells + 3) (slots + 126) (wm' ++ (WO cJ o f' ++ wc')) 1714 [(4, .int (nI i)), (3, .ref o), (2, .ref am), (1, .ref x), (0, .ref b)] []) : yW p l e room_1 s m args below meth c 7 D A Q cells slots (wm ++ (WO cJ o f ++ wc)) 540 [(4, .int (nI i)), (3, .ref o), (2, .ref am), (1, .ref x), (0, .ref b)] [] := by
  obtain ⟨C, hE, hX, hbl, hbA, hL⟩ := X
  refine y_aload_n C 3 dL_law_540 rfl rfl ?_
  refine y_aload_n C 4 dL_law_541 rfl rfl ?_
  refine y_iload C 0 dL_law_542 rfl ?_
  refine y_iconst C (v := nI 1) dL_law_544 rfl ?_
  refine y_iaddN C dL_law_545 ?_
  refine y_sld C hX hbl hbA (by omega) hL dL_law_546 ?_
  refine y_topE e1 ?_
  refine y_aload_n C 1 dL_law_547 rfl rfl ?_
  refine y_callS C hE (wr := wm) (st := []) 3 hH gL_law_L_drop rfl rfl rfl (by decide +kernel) ⟨by show d + 1 ≤ 11; omega, by show 8 + (4 + 11) + 30 * d ≤ 384; omega⟩ rfl rfl rfl (Nat.le_of_ble_eq_true rfl) dL_law_548 ⟨by show cells + mc ≤ 601024; omega, by show slots + ms ≤ 7293034; omega⟩ ?_
  refine y_istore C dL_law_551 (Nat.le_of_ble_eq_true rfl) rfl ?_
  refine y_aload_n C 3 dL_law_553 rfl rfl ?_
  refine y_aload_n C 5 dL_law_554 rfl rfl ?_
  refine y_iload C 1 dL_law_555 rfl ?_
  refine y_iconst C (v := nI 1) dL_law_557 rfl ?_
  refine y_iaddN C dL_law_558 ?_
  refine y_sld C hX hbl hbA (by omega) hL dL_law_559 ?_
  refine y_topE e1 ?_
  refine y_swap ?_
  refine y_callI C.s1 (wr := WO cJ o f' ++ wc') (st := []) 1 hN gL_law_X4_drop rfl rfl rfl (by decide +kernel) ⟨by show d2 + 1 ≤ 11; omega, by show 8 + (2 + 11) + 30 * d2 ≤ 384; omega⟩ (q0 := 0) (ci := 4) hq rfl rfl rfl rfl (Nat.le_of_ble_eq_true rfl) dL_law_560 ⟨by show cells + mc + mc2 ≤ 601024; omega, by show slots + ms + ms2 ≤ 7293034; omega⟩ ?_
  refine y_istore C dL_law_563 (Nat.le_of_ble_eq_true rfl) rfl ?_
  refine y_aload_n C 4 dL_law_565 rfl rfl ?_
  refine y_callI C.s1 (wr := WO cJ o f' ++ wc') (st := []) 0 hT gL_law_X4_thrown rfl rfl rfl (by decide +kernel) ⟨Nat.le_of_ble_eq_true rfl, Nat.le_of_ble_eq_true rfl⟩ (q0 := 0) (ci := 4) hq2 rfl rfl rfl rfl (Nat.le_of_ble_eq_true rfl) dL_law_566 ⟨by show cells + mc + mc2 + 0 ≤ 601024; omega, by show slots + ms + ms2 + 0 ≤ 7293034; omega⟩ ?_
  refine y_iload C 1 dL_law_569 rfl ?_
  refine y_icmpN_eq C (tgt := 576) dL_law_571 rfl hkk hkk (fun _ => ?_) (fun h => absurd rfl h)
  refine y_iload C 1 dL_law_576 rfl ?_
  refine y_ifN_ne C (tgt := 593) dL_law_578 rfl hkk (fun _ => ?_) (fun h0 => ?_)
  · refine y_goto C (tgt := 1714) dL_law_593 rfl ?_
    refine y_swap ?_
    refine y_sub (lv' := [(4, .int (nI i)), (3, .ref o), (2, .ref am), (1, .ref x), (0, .ref b)]) [2, 3, 4, 5, 6] rfl ?_
    exact y_widen (by omega) (by omega) kk
  · refine y_aload_n C 3 dL_law_581 rfl rfl ?_
    refine y_iconst C (v := nI 0) dL_law_582 rfl ?_
    refine y_lald C (q0 := 0) (t0 := 1) (j := 0) rfl rfl (Nat.le_of_ble_eq_true rfl) (Nat.le_of_ble_eq_true rfl) dL_law_583 ?_
    refine y_iload C 0 dL_law_584 rfl ?_
    refine y_i2l C dL_law_586 rfl ?_
    refine y_lcmp C dL_law_587 ?_
    refine y_if_eq C (tgt := 593) dL_law_588 rfl (fun _ => ?_) (fun h => absurd (yl_c.mpr (hk h0)) h)
    refine y_goto C (tgt := 1714) dL_law_593 rfl ?_
    refine y_swap ?_
    refine y_sub (lv' := [(4, .int (nI i)), (3, .ref o), (2, .ref am), (1, .ref x), (0, .ref b)]) [2, 3, 4, 5, 6] rfl ?_
    exact y_widen (by omega) (by omega) kk
set_option maxRecDepth 100000 in
theorem k_size {p : Program} {l : Launch} {e : Env} {s : State} {m : MethodId} {args : Array Value} {below : List Frame} {meth : Method} {c : Code} {Q : State → Prop} {cells slots : Nat} {D : va_G} {cI cJ : ClassId} {A : Nat → Prop} {sa : Nat → Nat} {b L : Nat} {xs : Nat → Int32} {i x o am : Nat} (X : yLx p s m args meth c D cI cJ A sa b L xs) (hi : i + 4 ≤ L) {p1 : Int32} (e1 : xs (i + 1) = p1) {wm wm' wc wc' : va_W} {f f' : Nat → Int64} {k : Nat} {r : Int32} {d mc ms d2 mc2 ms2 : Nat} {fs fs2 : List Value}
    (hH : ctH l yL_size wsL_size (rmD d mc ms) sa D [(cI, .int), (cJ, .long)] [.ref x, .int p1, .ref o] (WO cJ o f ++ wc) (WO cJ o f' ++ wc') (nI k) mc ms)
    (hN : ctI l yX4_size wsX4_size (rmD d2 mc2 ms2) D [(cI, .int)] [.ref am, .int p1] wm wm' r mc2 ms2)
    (hT : ctI l yX4_thrown wsX4_thrown (rmD 0 0 0) D [(cI, .int)] [.ref am] wm' wm' (nI k) 0 0) (hq : wm[0]? = some (am, .inr (4, fs))) (hq2 : wm'[0]? = some (am, .inr (4, fs2)))
    (hk : k = 0 → f' 0 = r.toInt64) (hkk : k < 2 ^ 31) (hd : d ≤ 9 ∧ mc ≤ 1 ∧ ms ≤ 6) (hd2 : d2 ≤ 9 ∧ mc2 ≤ 2 ∧ ms2 ≤ 120) (hc : cells + 3 ≤ 601024 ∧ slots + 126 ≤ 7293034)
    (kk : yW p l e room_1 s m args below meth c 7 D A Q (cells + 3) (slots + 126) (wm' ++ (WO cJ o f' ++ wc')) 1714 [(4, .int (nI i)), (3, .ref o), (2, .ref am), (1, .ref x), (0, .ref b)] []) : yW p l e room_1 s m args below meth c 7 D A Q cells slots (wm ++ (WO cJ o f ++ wc)) 622 [(4, .int (nI i)), (3, .ref o), (2, .ref am), (1, .ref x), (0, .ref b)] [] := by
  obtain ⟨C, hE, hX, hbl, hbA, hL⟩ := X
  refine y_aload_n C 3 dL_law_622 rfl rfl ?_
  refine y_aload_n C 4 dL_law_623 rfl rfl ?_
  refine y_iload C 0 dL_law_624 rfl ?_
  refine y_iconst C (v := nI 1) dL_law_626 rfl ?_
  refine y_iaddN C dL_law_627 ?_
  refine y_sld C hX hbl hbA (by omega) hL dL_law_628 ?_
  refine y_topE e1 ?_
  refine y_aload_n C 1 dL_law_629 rfl rfl ?_
  refine y_callS C hE (wr := wm) (st := []) 3 hH gL_law_L_size rfl rfl rfl (by decide +kernel) ⟨by show d + 1 ≤ 11; omega, by show 8 + (4 + 11) + 30 * d ≤ 384; omega⟩ rfl rfl rfl (Nat.le_of_ble_eq_true rfl) dL_law_630 ⟨by show cells + mc ≤ 601024; omega, by show slots + ms ≤ 7293034; omega⟩ ?_
  refine y_istore C dL_law_633 (Nat.le_of_ble_eq_true rfl) rfl ?_
  refine y_aload_n C 3 dL_law_635 rfl rfl ?_
  refine y_aload_n C 5 dL_law_636 rfl rfl ?_
  refine y_iload C 1 dL_law_637 rfl ?_
  refine y_iconst C (v := nI 1) dL_law_639 rfl ?_
  refine y_iaddN C dL_law_640 ?_
  refine y_sld C hX hbl hbA (by omega) hL dL_law_641 ?_
  refine y_topE e1 ?_
  refine y_swap ?_
  refine y_callI C.s1 (wr := WO cJ o f' ++ wc') (st := []) 1 hN gL_law_X4_size rfl rfl rfl (by decide +kernel) ⟨by show d2 + 1 ≤ 11; omega, by show 8 + (2 + 11) + 30 * d2 ≤ 384; omega⟩ (q0 := 0) (ci := 4) hq rfl rfl rfl rfl (Nat.le_of_ble_eq_true rfl) dL_law_642 ⟨by show cells + mc + mc2 ≤ 601024; omega, by show slots + ms + ms2 ≤ 7293034; omega⟩ ?_
  refine y_istore C dL_law_645 (Nat.le_of_ble_eq_true rfl) rfl ?_
  refine y_aload_n C 4 dL_law_647 rfl rfl ?_
  refine y_callI C.s1 (wr := WO cJ o f' ++ wc') (st := []) 0 hT gL_law_X4_thrown rfl rfl rfl (by decide +kernel) ⟨Nat.le_of_ble_eq_true rfl, Nat.le_of_ble_eq_true rfl⟩ (q0 := 0) (ci := 4) hq2 rfl rfl rfl rfl (Nat.le_of_ble_eq_true rfl) dL_law_648 ⟨by show cells + mc + mc2 + 0 ≤ 601024; omega, by show slots + ms + ms2 + 0 ≤ 7293034; omega⟩ ?_
  refine y_iload C 1 dL_law_651 rfl ?_
  refine y_icmpN_eq C (tgt := 658) dL_law_653 rfl hkk hkk (fun _ => ?_) (fun h => absurd rfl h)
  refine y_iload C 1 dL_law_658 rfl ?_
  refine y_ifN_ne C (tgt := 675) dL_law_660 rfl hkk (fun _ => ?_) (fun h0 => ?_)
  · refine y_goto C (tgt := 1714) dL_law_675 rfl ?_
    refine y_swap ?_
    refine y_sub (lv' := [(4, .int (nI i)), (3, .ref o), (2, .ref am), (1, .ref x), (0, .ref b)]) [2, 3, 4, 5, 6] rfl ?_
    exact y_widen (by omega) (by omega) kk
  · refine y_aload_n C 3 dL_law_663 rfl rfl ?_
    refine y_iconst C (v := nI 0) dL_law_664 rfl ?_
    refine y_lald C (q0 := 0) (t0 := 1) (j := 0) rfl rfl (Nat.le_of_ble_eq_true rfl) (Nat.le_of_ble_eq_true rfl) dL_law_665 ?_
    refine y_iload C 0 dL_law_666 rfl ?_
    refine y_i2l C dL_law_668 rfl ?_
    refine y_lcmp C dL_law_669 ?_
    refine y_if_eq C (tgt := 675) dL_law_670 rfl (fun _ => ?_) (fun h => absurd (yl_c.mpr (hk h0)) h)
    refine y_goto C (tgt := 1714) dL_law_675 rfl ?_
    refine y_swap ?_
    refine y_sub (lv' := [(4, .int (nI i)), (3, .ref o), (2, .ref am), (1, .ref x), (0, .ref b)]) [2, 3, 4, 5, 6] rfl ?_
    exact y_widen (by omega) (by omega) kk
