/-! the helpers: what the class answers, or which exception it throws -/
set_option maxRecDepth 100000 in
theorem h_addExpression_ok {l : Launch} {sa : Nat → Nat} {D : va_G} {cI cJ : ClassId} {x o : Nat} (p0 : Int32) {wc wc' : va_W} {r : Int32} {d mc ms : Nat} {f : Nat → Int64} {fs : List Value} (hM : ctI l yX3_addExpression wsX3_addExpression (rmD d mc ms) D [(cI, .int)] [.ref x, .int p0] wc wc' r mc ms) (hq : wc[0]? = some (x, .inr (3, fs))) : ctH l yL_addExpression wsL_addExpression (rmD (d + 1) mc ms) sa D [(cI, .int), (cJ, .long)] [.ref x, .int p0, .ref o] (WO cJ o f ++ wc) (WO cJ o (vp_updL f 0 r.toInt64) ++ wc') (nI 0) mc ms := by
  refine ctH_of (by decide) rfl (Nat.le_of_ble_eq_true rfl) ?_
  intro p e s m args below meth c A Q C htab hE K
  refine y_lv (lv' := [(0, .ref x), (1, .int p0), (2, .ref o)]) rfl ?_
  refine y_aload_n C 2 dL_addExpression_0 rfl rfl ?_
  refine y_iconst C (v := nI 0) dL_addExpression_1 rfl ?_
  refine y_aload_n C 0 dL_addExpression_2 rfl rfl ?_
  refine y_iload_n C 1 dL_addExpression_3 rfl rfl ?_
  refine y_callI C.s1 (wr := WO cJ o f) (st := [.int (nI 0), .ref o]) 1 hM gL_addExpression_X3_addExpression rfl rfl rfl (by decide +kernel) ⟨Nat.le_refl _, by show 8 + (2 + 11) + 30 * d ≤ 30 * (d + 1); omega⟩ (q0 := 0) (ci := 3) hq rfl rfl rfl rfl (Nat.le_of_ble_eq_true rfl) dL_addExpression_4 ⟨Nat.le_of_eq (Nat.zero_add _), Nat.le_of_eq (Nat.zero_add _)⟩ ?_
  refine y_i2l C dL_addExpression_7 rfl ?_
  refine y_last C (q0 := 0) (t0 := 1) (j := 0) (ws' := WO cJ o (vp_updL f 0 r.toInt64) ++ wc') rfl rfl (Nat.le_of_ble_eq_true rfl) (Nat.le_of_ble_eq_true rfl) rfl dL_addExpression_8 ?_
  refine y_goto C (tgt := 18) dL_addExpression_9 rfl ?_
  refine y_iconst C (v := nI 0) dL_addExpression_18 rfl ?_
  exact K _ _ _ _ _ dL_addExpression_19 rfl (Nat.le_of_eq (Nat.zero_add _)) (Nat.le_of_eq (Nat.zero_add _))
set_option maxRecDepth 100000 in
theorem h_addExpression_A {l : Launch} {sa : Nat → Nat} {D : va_G} {cI cJ : ClassId} {x o : Nat} (p0 : Int32) {wc wc' : va_W} {d mc ms : Nat} {f : Nat → Int64} {fs : List Value} (hM : ctX l yX3_addExpression wsX3_addExpression (rmD d mc ms) sa D [(cI, .int)] [.ref x, .int p0] wc wc' exA mc ms) (hq : wc[0]? = some (x, .inr (3, fs))) : ctH l yL_addExpression wsL_addExpression (rmD (d + 1) mc ms) sa D [(cI, .int), (cJ, .long)] [.ref x, .int p0, .ref o] (WO cJ o f ++ wc) (WO cJ o f ++ wc') (nI 1) mc ms := by
  refine ctH_of (by decide) rfl (Nat.le_of_ble_eq_true rfl) ?_
  intro p e s m args below meth c A Q C htab hE K
  refine y_lv (lv' := [(0, .ref x), (1, .int p0), (2, .ref o)]) rfl ?_
  refine y_aload_n C 2 dL_addExpression_0 rfl rfl ?_
  refine y_iconst C (v := nI 0) dL_addExpression_1 rfl ?_
  refine y_aload_n C 0 dL_addExpression_2 rfl rfl ?_
  refine y_iload_n C 1 dL_addExpression_3 rfl rfl ?_
  refine y_callC C.s1 hE (name := "") (wr := WO cJ o f) (st := [.int (nI 0), .ref o]) 1 hM gL_addExpression_X3_addExpression rfl rfl rfl (by decide +kernel) ⟨Nat.le_refl _, by show 8 + (2 + 11) + 30 * d ≤ 30 * (d + 1); omega⟩ (q0 := 0) (ci := 3) hq rfl rfl rfl rfl (Nat.le_of_ble_eq_true rfl) dL_addExpression_4 ⟨Nat.le_of_eq (Nat.zero_add _), Nat.le_of_eq (Nat.zero_add _)⟩ [] ⟨0, 9, 12, 13⟩ [⟨0, 9, 15, 15⟩] htab (fun z hz => absurd hz List.not_mem_nil) (by decide) (by decide) (List.mem_of_getElem? (i := 1) rfl) (by decide +kernel) (fun q9 => ?_)
  refine y_astore_n C dL_addExpression_12 rfl (Nat.le_of_ble_eq_true rfl) rfl ?_
  refine y_iconst C (v := nI 1) dL_addExpression_13 rfl ?_
  exact K _ _ _ _ _ dL_addExpression_14 rfl (Nat.le_of_eq (Nat.zero_add _)) (Nat.le_of_eq (Nat.zero_add _))
set_option maxRecDepth 100000 in
theorem h_addExpression_S {l : Launch} {sa : Nat → Nat} {D : va_G} {cI cJ : ClassId} {x o : Nat} (p0 : Int32) {wc wc' : va_W} {d mc ms : Nat} {f : Nat → Int64} {fs : List Value} (hM : ctX l yX3_addExpression wsX3_addExpression (rmD d mc ms) sa D [(cI, .int)] [.ref x, .int p0] wc wc' exS mc ms) (hq : wc[0]? = some (x, .inr (3, fs))) : ctH l yL_addExpression wsL_addExpression (rmD (d + 1) mc ms) sa D [(cI, .int), (cJ, .long)] [.ref x, .int p0, .ref o] (WO cJ o f ++ wc) (WO cJ o f ++ wc') (nI 2) mc ms := by
  refine ctH_of (by decide) rfl (Nat.le_of_ble_eq_true rfl) ?_
  intro p e s m args below meth c A Q C htab hE K
  refine y_lv (lv' := [(0, .ref x), (1, .int p0), (2, .ref o)]) rfl ?_
  refine y_aload_n C 2 dL_addExpression_0 rfl rfl ?_
  refine y_iconst C (v := nI 0) dL_addExpression_1 rfl ?_
  refine y_aload_n C 0 dL_addExpression_2 rfl rfl ?_
  refine y_iload_n C 1 dL_addExpression_3 rfl rfl ?_
  refine y_callC C.s1 hE (name := "") (wr := WO cJ o f) (st := [.int (nI 0), .ref o]) 1 hM gL_addExpression_X3_addExpression rfl rfl rfl (by decide +kernel) ⟨Nat.le_refl _, by show 8 + (2 + 11) + 30 * d ≤ 30 * (d + 1); omega⟩ (q0 := 0) (ci := 3) hq rfl rfl rfl rfl (Nat.le_of_ble_eq_true rfl) dL_addExpression_4 ⟨Nat.le_of_eq (Nat.zero_add _), Nat.le_of_eq (Nat.zero_add _)⟩ [⟨0, 9, 12, 13⟩] ⟨0, 9, 15, 15⟩ [] htab (List.forall_mem_cons.mpr ⟨⟨by decide, exA, List.mem_of_getElem? (i := 1) rfl, hE.2.2.2.2.2.2⟩, fun z hz => absurd hz List.not_mem_nil⟩) (by decide) (by decide) (List.mem_of_getElem? (i := 2) rfl) (by decide +kernel) (fun q9 => ?_)
  refine y_astore_n C dL_addExpression_15 rfl (Nat.le_of_ble_eq_true rfl) rfl ?_
  refine y_iconst C (v := nI 2) dL_addExpression_16 rfl ?_
  exact K _ _ _ _ _ dL_addExpression_17 rfl (Nat.le_of_eq (Nat.zero_add _)) (Nat.le_of_eq (Nat.zero_add _))
set_option maxRecDepth 100000 in
theorem h_addBlock_ok {l : Launch} {sa : Nat → Nat} {D : va_G} {cI cJ : ClassId} {x o : Nat}  {wc wc' : va_W} {r : Int32} {d mc ms : Nat} {f : Nat → Int64} {fs : List Value} (hM : ctI l yX3_addBlock wsX3_addBlock (rmD d mc ms) D [(cI, .int)] [.ref x] wc wc' r mc ms) (hq : wc[0]? = some (x, .inr (3, fs))) : ctH l yL_addBlock wsL_addBlock (rmD (d + 1) mc ms) sa D [(cI, .int), (cJ, .long)] [.ref x, .ref o] (WO cJ o f ++ wc) (WO cJ o (vp_updL f 0 r.toInt64) ++ wc') (nI 0) mc ms := by
  refine ctH_of (by decide) rfl (Nat.le_of_ble_eq_true rfl) ?_
  intro p e s m args below meth c A Q C htab hE K
  refine y_lv (lv' := [(0, .ref x), (1, .ref o)]) rfl ?_
  refine y_aload_n C 1 dL_addBlock_0 rfl rfl ?_
  refine y_iconst C (v := nI 0) dL_addBlock_1 rfl ?_
  refine y_aload_n C 0 dL_addBlock_2 rfl rfl ?_
  refine y_callI C.s1 (wr := WO cJ o f) (st := [.int (nI 0), .ref o]) 0 hM gL_addBlock_X3_addBlock rfl rfl rfl (by decide +kernel) ⟨Nat.le_refl _, by show 8 + (1 + 11) + 30 * d ≤ 30 * (d + 1); omega⟩ (q0 := 0) (ci := 3) hq rfl rfl rfl rfl (Nat.le_of_ble_eq_true rfl) dL_addBlock_3 ⟨Nat.le_of_eq (Nat.zero_add _), Nat.le_of_eq (Nat.zero_add _)⟩ ?_
  refine y_i2l C dL_addBlock_6 rfl ?_
  refine y_last C (q0 := 0) (t0 := 1) (j := 0) (ws' := WO cJ o (vp_updL f 0 r.toInt64) ++ wc') rfl rfl (Nat.le_of_ble_eq_true rfl) (Nat.le_of_ble_eq_true rfl) rfl dL_addBlock_7 ?_
  refine y_goto C (tgt := 14) dL_addBlock_8 rfl ?_
  refine y_iconst C (v := nI 0) dL_addBlock_14 rfl ?_
  exact K _ _ _ _ _ dL_addBlock_15 rfl (Nat.le_of_eq (Nat.zero_add _)) (Nat.le_of_eq (Nat.zero_add _))
set_option maxRecDepth 100000 in
theorem h_addBlock_S {l : Launch} {sa : Nat → Nat} {D : va_G} {cI cJ : ClassId} {x o : Nat}  {wc wc' : va_W} {d mc ms : Nat} {f : Nat → Int64} {fs : List Value} (hM : ctX l yX3_addBlock wsX3_addBlock (rmD d mc ms) sa D [(cI, .int)] [.ref x] wc wc' exS mc ms) (hq : wc[0]? = some (x, .inr (3, fs))) : ctH l yL_addBlock wsL_addBlock (rmD (d + 1) mc ms) sa D [(cI, .int), (cJ, .long)] [.ref x, .ref o] (WO cJ o f ++ wc) (WO cJ o f ++ wc') (nI 1) mc ms := by
  refine ctH_of (by decide) rfl (Nat.le_of_ble_eq_true rfl) ?_
  intro p e s m args below meth c A Q C htab hE K
  refine y_lv (lv' := [(0, .ref x), (1, .ref o)]) rfl ?_
  refine y_aload_n C 1 dL_addBlock_0 rfl rfl ?_
  refine y_iconst C (v := nI 0) dL_addBlock_1 rfl ?_
  refine y_aload_n C 0 dL_addBlock_2 rfl rfl ?_
  refine y_callC C.s1 hE (name := "") (wr := WO cJ o f) (st := [.int (nI 0), .ref o]) 0 hM gL_addBlock_X3_addBlock rfl rfl rfl (by decide +kernel) ⟨Nat.le_refl _, by show 8 + (1 + 11) + 30 * d ≤ 30 * (d + 1); omega⟩ (q0 := 0) (ci := 3) hq rfl rfl rfl rfl (Nat.le_of_ble_eq_true rfl) dL_addBlock_3 ⟨Nat.le_of_eq (Nat.zero_add _), Nat.le_of_eq (Nat.zero_add _)⟩ [] ⟨0, 8, 11, 15⟩ [] htab (fun z hz => absurd hz List.not_mem_nil) (by decide) (by decide) (List.mem_of_getElem? (i := 1) rfl) (by decide +kernel) (fun q9 => ?_)
  refine y_astore_n C dL_addBlock_11 rfl (Nat.le_of_ble_eq_true rfl) rfl ?_
  refine y_iconst C (v := nI 1) dL_addBlock_12 rfl ?_
  exact K _ _ _ _ _ dL_addBlock_13 rfl (Nat.le_of_eq (Nat.zero_add _)) (Nat.le_of_eq (Nat.zero_add _))
set_option maxRecDepth 100000 in
theorem h_addEdge_ok {l : Launch} {sa : Nat → Nat} {D : va_G} {cI cJ : ClassId} {x o : Nat} (p0 : Int32) (p1 : Int32) {wc wc' : va_W} {r : Int32} {d mc ms : Nat} {f : Nat → Int64} {fs : List Value} (hM : ctI l yX3_addEdge wsX3_addEdge (rmD d mc ms) D [(cI, .int)] [.ref x, .int p0, .int p1] wc wc' r mc ms) (hq : wc[0]? = some (x, .inr (3, fs))) : ctH l yL_addEdge wsL_addEdge (rmD (d + 1) mc ms) sa D [(cI, .int), (cJ, .long)] [.ref x, .int p0, .int p1, .ref o] (WO cJ o f ++ wc) (WO cJ o (vp_updL f 0 r.toInt64) ++ wc') (nI 0) mc ms := by
  refine ctH_of (by decide) rfl (Nat.le_of_ble_eq_true rfl) ?_
  intro p e s m args below meth c A Q C htab hE K
  refine y_lv (lv' := [(0, .ref x), (1, .int p0), (2, .int p1), (3, .ref o)]) rfl ?_
  refine y_aload_n C 3 dL_addEdge_0 rfl rfl ?_
  refine y_iconst C (v := nI 0) dL_addEdge_1 rfl ?_
  refine y_aload_n C 0 dL_addEdge_2 rfl rfl ?_
  refine y_iload_n C 1 dL_addEdge_3 rfl rfl ?_
  refine y_iload_n C 2 dL_addEdge_4 rfl rfl ?_
  refine y_callI C.s1 (wr := WO cJ o f) (st := [.int (nI 0), .ref o]) 2 hM gL_addEdge_X3_addEdge rfl rfl rfl (by decide +kernel) ⟨Nat.le_refl _, by show 8 + (3 + 11) + 30 * d ≤ 30 * (d + 1); omega⟩ (q0 := 0) (ci := 3) hq rfl rfl rfl rfl (Nat.le_of_ble_eq_true rfl) dL_addEdge_5 ⟨Nat.le_of_eq (Nat.zero_add _), Nat.le_of_eq (Nat.zero_add _)⟩ ?_
  refine y_i2l C dL_addEdge_8 rfl ?_
  refine y_last C (q0 := 0) (t0 := 1) (j := 0) (ws' := WO cJ o (vp_updL f 0 r.toInt64) ++ wc') rfl rfl (Nat.le_of_ble_eq_true rfl) (Nat.le_of_ble_eq_true rfl) rfl dL_addEdge_9 ?_
  refine y_goto C (tgt := 25) dL_addEdge_10 rfl ?_
  refine y_iconst C (v := nI 0) dL_addEdge_25 rfl ?_
  exact K _ _ _ _ _ dL_addEdge_26 rfl (Nat.le_of_eq (Nat.zero_add _)) (Nat.le_of_eq (Nat.zero_add _))
set_option maxRecDepth 100000 in
theorem h_addEdge_I {l : Launch} {sa : Nat → Nat} {D : va_G} {cI cJ : ClassId} {x o : Nat} (p0 : Int32) (p1 : Int32) {wc wc' : va_W} {d mc ms : Nat} {f : Nat → Int64} {fs : List Value} (hM : ctX l yX3_addEdge wsX3_addEdge (rmD d mc ms) sa D [(cI, .int)] [.ref x, .int p0, .int p1] wc wc' exI mc ms) (hq : wc[0]? = some (x, .inr (3, fs))) : ctH l yL_addEdge wsL_addEdge (rmD (d + 1) mc ms) sa D [(cI, .int), (cJ, .long)] [.ref x, .int p0, .int p1, .ref o] (WO cJ o f ++ wc) (WO cJ o f ++ wc') (nI 1) mc ms := by
  refine ctH_of (by decide) rfl (Nat.le_of_ble_eq_true rfl) ?_
  intro p e s m args below meth c A Q C htab hE K
  refine y_lv (lv' := [(0, .ref x), (1, .int p0), (2, .int p1), (3, .ref o)]) rfl ?_
  refine y_aload_n C 3 dL_addEdge_0 rfl rfl ?_
  refine y_iconst C (v := nI 0) dL_addEdge_1 rfl ?_
  refine y_aload_n C 0 dL_addEdge_2 rfl rfl ?_
  refine y_iload_n C 1 dL_addEdge_3 rfl rfl ?_
  refine y_iload_n C 2 dL_addEdge_4 rfl rfl ?_
  refine y_callC C.s1 hE (name := "") (wr := WO cJ o f) (st := [.int (nI 0), .ref o]) 2 hM gL_addEdge_X3_addEdge rfl rfl rfl (by decide +kernel) ⟨Nat.le_refl _, by show 8 + (3 + 11) + 30 * d ≤ 30 * (d + 1); omega⟩ (q0 := 0) (ci := 3) hq rfl rfl rfl rfl (Nat.le_of_ble_eq_true rfl) dL_addEdge_5 ⟨Nat.le_of_eq (Nat.zero_add _), Nat.le_of_eq (Nat.zero_add _)⟩ [] ⟨0, 10, 13, 25⟩ [⟨0, 10, 17, 13⟩, ⟨0, 10, 21, 15⟩] htab (fun z hz => absurd hz List.not_mem_nil) (by decide) (by decide) (List.mem_of_getElem? (i := 1) rfl) (by decide +kernel) (fun q9 => ?_)
  refine y_astore C dL_addEdge_13 (Nat.le_of_ble_eq_true rfl) rfl ?_
  refine y_iconst C (v := nI 1) dL_addEdge_15 rfl ?_
  exact K _ _ _ _ _ dL_addEdge_16 rfl (Nat.le_of_eq (Nat.zero_add _)) (Nat.le_of_eq (Nat.zero_add _))
set_option maxRecDepth 100000 in
theorem h_addEdge_A {l : Launch} {sa : Nat → Nat} {D : va_G} {cI cJ : ClassId} {x o : Nat} (p0 : Int32) (p1 : Int32) {wc wc' : va_W} {d mc ms : Nat} {f : Nat → Int64} {fs : List Value} (hM : ctX l yX3_addEdge wsX3_addEdge (rmD d mc ms) sa D [(cI, .int)] [.ref x, .int p0, .int p1] wc wc' exA mc ms) (hq : wc[0]? = some (x, .inr (3, fs))) : ctH l yL_addEdge wsL_addEdge (rmD (d + 1) mc ms) sa D [(cI, .int), (cJ, .long)] [.ref x, .int p0, .int p1, .ref o] (WO cJ o f ++ wc) (WO cJ o f ++ wc') (nI 2) mc ms := by
  refine ctH_of (by decide) rfl (Nat.le_of_ble_eq_true rfl) ?_
  intro p e s m args below meth c A Q C htab hE K
  refine y_lv (lv' := [(0, .ref x), (1, .int p0), (2, .int p1), (3, .ref o)]) rfl ?_
  refine y_aload_n C 3 dL_addEdge_0 rfl rfl ?_
  refine y_iconst C (v := nI 0) dL_addEdge_1 rfl ?_
  refine y_aload_n C 0 dL_addEdge_2 rfl rfl ?_
  refine y_iload_n C 1 dL_addEdge_3 rfl rfl ?_
  refine y_iload_n C 2 dL_addEdge_4 rfl rfl ?_
  refine y_callC C.s1 hE (name := "") (wr := WO cJ o f) (st := [.int (nI 0), .ref o]) 2 hM gL_addEdge_X3_addEdge rfl rfl rfl (by decide +kernel) ⟨Nat.le_refl _, by show 8 + (3 + 11) + 30 * d ≤ 30 * (d + 1); omega⟩ (q0 := 0) (ci := 3) hq rfl rfl rfl rfl (Nat.le_of_ble_eq_true rfl) dL_addEdge_5 ⟨Nat.le_of_eq (Nat.zero_add _), Nat.le_of_eq (Nat.zero_add _)⟩ [⟨0, 10, 13, 25⟩] ⟨0, 10, 17, 13⟩ [⟨0, 10, 21, 15⟩] htab (List.forall_mem_cons.mpr ⟨⟨by decide, exI, List.mem_of_getElem? (i := 1) rfl, hE.2.2.2.2.1⟩, fun z hz => absurd hz List.not_mem_nil⟩) (by decide) (by decide) (List.mem_of_getElem? (i := 2) rfl) (by decide +kernel) (fun q9 => ?_)
  refine y_astore C dL_addEdge_17 (Nat.le_of_ble_eq_true rfl) rfl ?_
  refine y_iconst C (v := nI 2) dL_addEdge_19 rfl ?_
  exact K _ _ _ _ _ dL_addEdge_20 rfl (Nat.le_of_eq (Nat.zero_add _)) (Nat.le_of_eq (Nat.zero_add _))
set_option maxRecDepth 100000 in
theorem h_addEdge_S {l : Launch} {sa : Nat → Nat} {D : va_G} {cI cJ : ClassId} {x o : Nat} (p0 : Int32) (p1 : Int32) {wc wc' : va_W} {d mc ms : Nat} {f : Nat → Int64} {fs : List Value} (hM : ctX l yX3_addEdge wsX3_addEdge (rmD d mc ms) sa D [(cI, .int)] [.ref x, .int p0, .int p1] wc wc' exS mc ms) (hq : wc[0]? = some (x, .inr (3, fs))) : ctH l yL_addEdge wsL_addEdge (rmD (d + 1) mc ms) sa D [(cI, .int), (cJ, .long)] [.ref x, .int p0, .int p1, .ref o] (WO cJ o f ++ wc) (WO cJ o f ++ wc') (nI 3) mc ms := by
  refine ctH_of (by decide) rfl (Nat.le_of_ble_eq_true rfl) ?_
  intro p e s m args below meth c A Q C htab hE K
  refine y_lv (lv' := [(0, .ref x), (1, .int p0), (2, .int p1), (3, .ref o)]) rfl ?_
  refine y_aload_n C 3 dL_addEdge_0 rfl rfl ?_
  refine y_iconst C (v := nI 0) dL_addEdge_1 rfl ?_
  refine y_aload_n C 0 dL_addEdge_2 rfl rfl ?_
  refine y_iload_n C 1 dL_addEdge_3 rfl rfl ?_
  refine y_iload_n C 2 dL_addEdge_4 rfl rfl ?_
  refine y_callC C.s1 hE (name := "") (wr := WO cJ o f) (st := [.int (nI 0), .ref o]) 2 hM gL_addEdge_X3_addEdge rfl rfl rfl (by decide +kernel) ⟨Nat.le_refl _, by show 8 + (3 + 11) + 30 * d ≤ 30 * (d + 1); omega⟩ (q0 := 0) (ci := 3) hq rfl rfl rfl rfl (Nat.le_of_ble_eq_true rfl) dL_addEdge_5 ⟨Nat.le_of_eq (Nat.zero_add _), Nat.le_of_eq (Nat.zero_add _)⟩ [⟨0, 10, 13, 25⟩, ⟨0, 10, 17, 13⟩] ⟨0, 10, 21, 15⟩ [] htab (List.forall_mem_cons.mpr ⟨⟨by decide, exI, List.mem_of_getElem? (i := 1) rfl, hE.2.2.2.2.2.1⟩, List.forall_mem_cons.mpr ⟨⟨by decide, exA, List.mem_of_getElem? (i := 2) rfl, hE.2.2.2.2.2.2⟩, fun z hz => absurd hz List.not_mem_nil⟩⟩) (by decide) (by decide) (List.mem_of_getElem? (i := 3) rfl) (by decide +kernel) (fun q9 => ?_)
  refine y_astore C dL_addEdge_21 (Nat.le_of_ble_eq_true rfl) rfl ?_
  refine y_iconst C (v := nI 3) dL_addEdge_23 rfl ?_
  exact K _ _ _ _ _ dL_addEdge_24 rfl (Nat.le_of_eq (Nat.zero_add _)) (Nat.le_of_eq (Nat.zero_add _))
set_option maxRecDepth 100000 in
theorem h_compute_ok {l : Launch} {sa : Nat → Nat} {D : va_G} {cI cJ : ClassId} {x o : Nat} (p0 : Int32) (p1 : Int32) {wc wc' : va_W} {r : Int32} {d mc ms : Nat} {f : Nat → Int64} {fs : List Value} (hM : ctI l yX3_compute wsX3_compute (rmD d mc ms) D [(cI, .int)] [.ref x, .int p0, .int p1] wc wc' r mc ms) (hq : wc[0]? = some (x, .inr (3, fs))) : ctH l yL_compute wsL_compute (rmD (d + 1) mc ms) sa D [(cI, .int), (cJ, .long)] [.ref x, .int p0, .int p1, .ref o] (WO cJ o f ++ wc) (WO cJ o (vp_updL f 0 r.toInt64) ++ wc') (nI 0) mc ms := by
  refine ctH_of (by decide) rfl (Nat.le_of_ble_eq_true rfl) ?_
  intro p e s m args below meth c A Q C htab hE K
  refine y_lv (lv' := [(0, .ref x), (1, .int p0), (2, .int p1), (3, .ref o)]) rfl ?_
  refine y_aload_n C 3 dL_compute_0 rfl rfl ?_
  refine y_iconst C (v := nI 0) dL_compute_1 rfl ?_
  refine y_aload_n C 0 dL_compute_2 rfl rfl ?_
  refine y_iload_n C 1 dL_compute_3 rfl rfl ?_
  refine y_iload_n C 2 dL_compute_4 rfl rfl ?_
  refine y_callI C.s1 (wr := WO cJ o f) (st := [.int (nI 0), .ref o]) 2 hM gL_compute_X3_compute rfl rfl rfl (by decide +kernel) ⟨Nat.le_refl _, by show 8 + (3 + 11) + 30 * d ≤ 30 * (d + 1); omega⟩ (q0 := 0) (ci := 3) hq rfl rfl rfl rfl (Nat.le_of_ble_eq_true rfl) dL_compute_5 ⟨Nat.le_of_eq (Nat.zero_add _), Nat.le_of_eq (Nat.zero_add _)⟩ ?_
  refine y_i2l C dL_compute_8 rfl ?_
  refine y_last C (q0 := 0) (t0 := 1) (j := 0) (ws' := WO cJ o (vp_updL f 0 r.toInt64) ++ wc') rfl rfl (Nat.le_of_ble_eq_true rfl) (Nat.le_of_ble_eq_true rfl) rfl dL_compute_9 ?_
  refine y_goto C (tgt := 21) dL_compute_10 rfl ?_
  refine y_iconst C (v := nI 0) dL_compute_21 rfl ?_
  exact K _ _ _ _ _ dL_compute_22 rfl (Nat.le_of_eq (Nat.zero_add _)) (Nat.le_of_eq (Nat.zero_add _))
set_option maxRecDepth 100000 in
theorem h_compute_I {l : Launch} {sa : Nat → Nat} {D : va_G} {cI cJ : ClassId} {x o : Nat} (p0 : Int32) (p1 : Int32) {wc wc' : va_W} {d mc ms : Nat} {f : Nat → Int64} {fs : List Value} (hM : ctX l yX3_compute wsX3_compute (rmD d mc ms) sa D [(cI, .int)] [.ref x, .int p0, .int p1] wc wc' exI mc ms) (hq : wc[0]? = some (x, .inr (3, fs))) : ctH l yL_compute wsL_compute (rmD (d + 1) mc ms) sa D [(cI, .int), (cJ, .long)] [.ref x, .int p0, .int p1, .ref o] (WO cJ o f ++ wc) (WO cJ o f ++ wc') (nI 1) mc ms := by
  refine ctH_of (by decide) rfl (Nat.le_of_ble_eq_true rfl) ?_
  intro p e s m args below meth c A Q C htab hE K
  refine y_lv (lv' := [(0, .ref x), (1, .int p0), (2, .int p1), (3, .ref o)]) rfl ?_
  refine y_aload_n C 3 dL_compute_0 rfl rfl ?_
  refine y_iconst C (v := nI 0) dL_compute_1 rfl ?_
  refine y_aload_n C 0 dL_compute_2 rfl rfl ?_
  refine y_iload_n C 1 dL_compute_3 rfl rfl ?_
  refine y_iload_n C 2 dL_compute_4 rfl rfl ?_
  refine y_callC C.s1 hE (name := "") (wr := WO cJ o f) (st := [.int (nI 0), .ref o]) 2 hM gL_compute_X3_compute rfl rfl rfl (by decide +kernel) ⟨Nat.le_refl _, by show 8 + (3 + 11) + 30 * d ≤ 30 * (d + 1); omega⟩ (q0 := 0) (ci := 3) hq rfl rfl rfl rfl (Nat.le_of_ble_eq_true rfl) dL_compute_5 ⟨Nat.le_of_eq (Nat.zero_add _), Nat.le_of_eq (Nat.zero_add _)⟩ [] ⟨0, 10, 13, 25⟩ [⟨0, 10, 17, 15⟩] htab (fun z hz => absurd hz List.not_mem_nil) (by decide) (by decide) (List.mem_of_getElem? (i := 1) rfl) (by decide +kernel) (fun q9 => ?_)
  refine y_astore C dL_compute_13 (Nat.le_of_ble_eq_true rfl) rfl ?_
  refine y_iconst C (v := nI 1) dL_compute_15 rfl ?_
  exact K _ _ _ _ _ dL_compute_16 rfl (Nat.le_of_eq (Nat.zero_add _)) (Nat.le_of_eq (Nat.zero_add _))
set_option maxRecDepth 100000 in
theorem h_compute_S {l : Launch} {sa : Nat → Nat} {D : va_G} {cI cJ : ClassId} {x o : Nat} (p0 : Int32) (p1 : Int32) {wc wc' : va_W} {d mc ms : Nat} {f : Nat → Int64} {fs : List Value} (hM : ctX l yX3_compute wsX3_compute (rmD d mc ms) sa D [(cI, .int)] [.ref x, .int p0, .int p1] wc wc' exS mc ms) (hq : wc[0]? = some (x, .inr (3, fs))) : ctH l yL_compute wsL_compute (rmD (d + 1) mc ms) sa D [(cI, .int), (cJ, .long)] [.ref x, .int p0, .int p1, .ref o] (WO cJ o f ++ wc) (WO cJ o f ++ wc') (nI 2) mc ms := by
  refine ctH_of (by decide) rfl (Nat.le_of_ble_eq_true rfl) ?_
  intro p e s m args below meth c A Q C htab hE K
  refine y_lv (lv' := [(0, .ref x), (1, .int p0), (2, .int p1), (3, .ref o)]) rfl ?_
  refine y_aload_n C 3 dL_compute_0 rfl rfl ?_
  refine y_iconst C (v := nI 0) dL_compute_1 rfl ?_
  refine y_aload_n C 0 dL_compute_2 rfl rfl ?_
  refine y_iload_n C 1 dL_compute_3 rfl rfl ?_
  refine y_iload_n C 2 dL_compute_4 rfl rfl ?_
  refine y_callC C.s1 hE (name := "") (wr := WO cJ o f) (st := [.int (nI 0), .ref o]) 2 hM gL_compute_X3_compute rfl rfl rfl (by decide +kernel) ⟨Nat.le_refl _, by show 8 + (3 + 11) + 30 * d ≤ 30 * (d + 1); omega⟩ (q0 := 0) (ci := 3) hq rfl rfl rfl rfl (Nat.le_of_ble_eq_true rfl) dL_compute_5 ⟨Nat.le_of_eq (Nat.zero_add _), Nat.le_of_eq (Nat.zero_add _)⟩ [⟨0, 10, 13, 25⟩] ⟨0, 10, 17, 15⟩ [] htab (List.forall_mem_cons.mpr ⟨⟨by decide, exI, List.mem_of_getElem? (i := 1) rfl, hE.2.2.2.2.2.1⟩, fun z hz => absurd hz List.not_mem_nil⟩) (by decide) (by decide) (List.mem_of_getElem? (i := 2) rfl) (by decide +kernel) (fun q9 => ?_)
  refine y_astore C dL_compute_17 (Nat.le_of_ble_eq_true rfl) rfl ?_
  refine y_iconst C (v := nI 2) dL_compute_19 rfl ?_
  exact K _ _ _ _ _ dL_compute_20 rfl (Nat.le_of_eq (Nat.zero_add _)) (Nat.le_of_eq (Nat.zero_add _))
set_option maxRecDepth 100000 in
theorem h_use_ok {l : Launch} {sa : Nat → Nat} {D : va_G} {cI cJ : ClassId} {x o : Nat} (p0 : Int32) (p1 : Int32) {wc wc' : va_W} {r : Int32} {d mc ms : Nat} {f : Nat → Int64} {fs : List Value} (hM : ctI l yX3_use wsX3_use (rmD d mc ms) D [(cI, .int)] [.ref x, .int p0, .int p1] wc wc' r mc ms) (hq : wc[0]? = some (x, .inr (3, fs))) : ctH l yL_use wsL_use (rmD (d + 1) mc ms) sa D [(cI, .int), (cJ, .long)] [.ref x, .int p0, .int p1, .ref o] (WO cJ o f ++ wc) (WO cJ o (vp_updL f 0 r.toInt64) ++ wc') (nI 0) mc ms := by
  refine ctH_of (by decide) rfl (Nat.le_of_ble_eq_true rfl) ?_
  intro p e s m args below meth c A Q C htab hE K
  refine y_lv (lv' := [(0, .ref x), (1, .int p0), (2, .int p1), (3, .ref o)]) rfl ?_
  refine y_aload_n C 3 dL_use_0 rfl rfl ?_
  refine y_iconst C (v := nI 0) dL_use_1 rfl ?_
  refine y_aload_n C 0 dL_use_2 rfl rfl ?_
  refine y_iload_n C 1 dL_use_3 rfl rfl ?_
  refine y_iload_n C 2 dL_use_4 rfl rfl ?_
  refine y_callI C.s1 (wr := WO cJ o f) (st := [.int (nI 0), .ref o]) 2 hM gL_use_X3_use rfl rfl rfl (by decide +kernel) ⟨Nat.le_refl _, by show 8 + (3 + 11) + 30 * d ≤ 30 * (d + 1); omega⟩ (q0 := 0) (ci := 3) hq rfl rfl rfl rfl (Nat.le_of_ble_eq_true rfl) dL_use_5 ⟨Nat.le_of_eq (Nat.zero_add _), Nat.le_of_eq (Nat.zero_add _)⟩ ?_
  refine y_i2l C dL_use_8 rfl ?_
  refine y_last C (q0 := 0) (t0 := 1) (j := 0) (ws' := WO cJ o (vp_updL f 0 r.toInt64) ++ wc') rfl rfl (Nat.le_of_ble_eq_true rfl) (Nat.le_of_ble_eq_true rfl) rfl dL_use_9 ?_
  refine y_goto C (tgt := 21) dL_use_10 rfl ?_
  refine y_iconst C (v := nI 0) dL_use_21 rfl ?_
  exact K _ _ _ _ _ dL_use_22 rfl (Nat.le_of_eq (Nat.zero_add _)) (Nat.le_of_eq (Nat.zero_add _))
set_option maxRecDepth 100000 in
theorem h_use_I {l : Launch} {sa : Nat → Nat} {D : va_G} {cI cJ : ClassId} {x o : Nat} (p0 : Int32) (p1 : Int32) {wc wc' : va_W} {d mc ms : Nat} {f : Nat → Int64} {fs : List Value} (hM : ctX l yX3_use wsX3_use (rmD d mc ms) sa D [(cI, .int)] [.ref x, .int p0, .int p1] wc wc' exI mc ms) (hq : wc[0]? = some (x, .inr (3, fs))) : ctH l yL_use wsL_use (rmD (d + 1) mc ms) sa D [(cI, .int), (cJ, .long)] [.ref x, .int p0, .int p1, .ref o] (WO cJ o f ++ wc) (WO cJ o f ++ wc') (nI 1) mc ms := by
  refine ctH_of (by decide) rfl (Nat.le_of_ble_eq_true rfl) ?_
  intro p e s m args below meth c A Q C htab hE K
  refine y_lv (lv' := [(0, .ref x), (1, .int p0), (2, .int p1), (3, .ref o)]) rfl ?_
  refine y_aload_n C 3 dL_use_0 rfl rfl ?_
  refine y_iconst C (v := nI 0) dL_use_1 rfl ?_
  refine y_aload_n C 0 dL_use_2 rfl rfl ?_
  refine y_iload_n C 1 dL_use_3 rfl rfl ?_
  refine y_iload_n C 2 dL_use_4 rfl rfl ?_
  refine y_callC C.s1 hE (name := "") (wr := WO cJ o f) (st := [.int (nI 0), .ref o]) 2 hM gL_use_X3_use rfl rfl rfl (by decide +kernel) ⟨Nat.le_refl _, by show 8 + (3 + 11) + 30 * d ≤ 30 * (d + 1); omega⟩ (q0 := 0) (ci := 3) hq rfl rfl rfl rfl (Nat.le_of_ble_eq_true rfl) dL_use_5 ⟨Nat.le_of_eq (Nat.zero_add _), Nat.le_of_eq (Nat.zero_add _)⟩ [] ⟨0, 10, 13, 25⟩ [⟨0, 10, 17, 15⟩] htab (fun z hz => absurd hz List.not_mem_nil) (by decide) (by decide) (List.mem_of_getElem? (i := 1) rfl) (by decide +kernel) (fun q9 => ?_)
  refine y_astore C dL_use_13 (Nat.le_of_ble_eq_true rfl) rfl ?_
  refine y_iconst C (v := nI 1) dL_use_15 rfl ?_
  exact K _ _ _ _ _ dL_use_16 rfl (Nat.le_of_eq (Nat.zero_add _)) (Nat.le_of_eq (Nat.zero_add _))
set_option maxRecDepth 100000 in
theorem h_use_S {l : Launch} {sa : Nat → Nat} {D : va_G} {cI cJ : ClassId} {x o : Nat} (p0 : Int32) (p1 : Int32) {wc wc' : va_W} {d mc ms : Nat} {f : Nat → Int64} {fs : List Value} (hM : ctX l yX3_use wsX3_use (rmD d mc ms) sa D [(cI, .int)] [.ref x, .int p0, .int p1] wc wc' exS mc ms) (hq : wc[0]? = some (x, .inr (3, fs))) : ctH l yL_use wsL_use (rmD (d + 1) mc ms) sa D [(cI, .int), (cJ, .long)] [.ref x, .int p0, .int p1, .ref o] (WO cJ o f ++ wc) (WO cJ o f ++ wc') (nI 2) mc ms := by
  refine ctH_of (by decide) rfl (Nat.le_of_ble_eq_true rfl) ?_
  intro p e s m args below meth c A Q C htab hE K
  refine y_lv (lv' := [(0, .ref x), (1, .int p0), (2, .int p1), (3, .ref o)]) rfl ?_
  refine y_aload_n C 3 dL_use_0 rfl rfl ?_
  refine y_iconst C (v := nI 0) dL_use_1 rfl ?_
  refine y_aload_n C 0 dL_use_2 rfl rfl ?_
  refine y_iload_n C 1 dL_use_3 rfl rfl ?_
  refine y_iload_n C 2 dL_use_4 rfl rfl ?_
  refine y_callC C.s1 hE (name := "") (wr := WO cJ o f) (st := [.int (nI 0), .ref o]) 2 hM gL_use_X3_use rfl rfl rfl (by decide +kernel) ⟨Nat.le_refl _, by show 8 + (3 + 11) + 30 * d ≤ 30 * (d + 1); omega⟩ (q0 := 0) (ci := 3) hq rfl rfl rfl rfl (Nat.le_of_ble_eq_true rfl) dL_use_5 ⟨Nat.le_of_eq (Nat.zero_add _), Nat.le_of_eq (Nat.zero_add _)⟩ [⟨0, 10, 13, 25⟩] ⟨0, 10, 17, 15⟩ [] htab (List.forall_mem_cons.mpr ⟨⟨by decide, exI, List.mem_of_getElem? (i := 1) rfl, hE.2.2.2.2.2.1⟩, fun z hz => absurd hz List.not_mem_nil⟩) (by decide) (by decide) (List.mem_of_getElem? (i := 2) rfl) (by decide +kernel) (fun q9 => ?_)
  refine y_astore C dL_use_17 (Nat.le_of_ble_eq_true rfl) rfl ?_
  refine y_iconst C (v := nI 2) dL_use_19 rfl ?_
  exact K _ _ _ _ _ dL_use_20 rfl (Nat.le_of_eq (Nat.zero_add _)) (Nat.le_of_eq (Nat.zero_add _))
set_option maxRecDepth 100000 in
theorem h_assign_ok {l : Launch} {sa : Nat → Nat} {D : va_G} {cI cJ : ClassId} {x o : Nat} (p0 : Int32) (p1 : Int32) {wc wc' : va_W} {r : Int32} {d mc ms : Nat} {f : Nat → Int64} {fs : List Value} (hM : ctI l yX3_assign wsX3_assign (rmD d mc ms) D [(cI, .int)] [.ref x, .int p0, .int p1] wc wc' r mc ms) (hq : wc[0]? = some (x, .inr (3, fs))) : ctH l yL_assign wsL_assign (rmD (d + 1) mc ms) sa D [(cI, .int), (cJ, .long)] [.ref x, .int p0, .int p1, .ref o] (WO cJ o f ++ wc) (WO cJ o (vp_updL f 0 r.toInt64) ++ wc') (nI 0) mc ms := by
  refine ctH_of (by decide) rfl (Nat.le_of_ble_eq_true rfl) ?_
  intro p e s m args below meth c A Q C htab hE K
  refine y_lv (lv' := [(0, .ref x), (1, .int p0), (2, .int p1), (3, .ref o)]) rfl ?_
  refine y_aload_n C 3 dL_assign_0 rfl rfl ?_
  refine y_iconst C (v := nI 0) dL_assign_1 rfl ?_
  refine y_aload_n C 0 dL_assign_2 rfl rfl ?_
  refine y_iload_n C 1 dL_assign_3 rfl rfl ?_
  refine y_iload_n C 2 dL_assign_4 rfl rfl ?_
  refine y_callI C.s1 (wr := WO cJ o f) (st := [.int (nI 0), .ref o]) 2 hM gL_assign_X3_assign rfl rfl rfl (by decide +kernel) ⟨Nat.le_refl _, by show 8 + (3 + 11) + 30 * d ≤ 30 * (d + 1); omega⟩ (q0 := 0) (ci := 3) hq rfl rfl rfl rfl (Nat.le_of_ble_eq_true rfl) dL_assign_5 ⟨Nat.le_of_eq (Nat.zero_add _), Nat.le_of_eq (Nat.zero_add _)⟩ ?_
  refine y_i2l C dL_assign_8 rfl ?_
  refine y_last C (q0 := 0) (t0 := 1) (j := 0) (ws' := WO cJ o (vp_updL f 0 r.toInt64) ++ wc') rfl rfl (Nat.le_of_ble_eq_true rfl) (Nat.le_of_ble_eq_true rfl) rfl dL_assign_9 ?_
  refine y_goto C (tgt := 21) dL_assign_10 rfl ?_
  refine y_iconst C (v := nI 0) dL_assign_21 rfl ?_
  exact K _ _ _ _ _ dL_assign_22 rfl (Nat.le_of_eq (Nat.zero_add _)) (Nat.le_of_eq (Nat.zero_add _))
set_option maxRecDepth 100000 in
theorem h_assign_I {l : Launch} {sa : Nat → Nat} {D : va_G} {cI cJ : ClassId} {x o : Nat} (p0 : Int32) (p1 : Int32) {wc wc' : va_W} {d mc ms : Nat} {f : Nat → Int64} {fs : List Value} (hM : ctX l yX3_assign wsX3_assign (rmD d mc ms) sa D [(cI, .int)] [.ref x, .int p0, .int p1] wc wc' exI mc ms) (hq : wc[0]? = some (x, .inr (3, fs))) : ctH l yL_assign wsL_assign (rmD (d + 1) mc ms) sa D [(cI, .int), (cJ, .long)] [.ref x, .int p0, .int p1, .ref o] (WO cJ o f ++ wc) (WO cJ o f ++ wc') (nI 1) mc ms := by
  refine ctH_of (by decide) rfl (Nat.le_of_ble_eq_true rfl) ?_
  intro p e s m args below meth c A Q C htab hE K
  refine y_lv (lv' := [(0, .ref x), (1, .int p0), (2, .int p1), (3, .ref o)]) rfl ?_
  refine y_aload_n C 3 dL_assign_0 rfl rfl ?_
  refine y_iconst C (v := nI 0) dL_assign_1 rfl ?_
  refine y_aload_n C 0 dL_assign_2 rfl rfl ?_
  refine y_iload_n C 1 dL_assign_3 rfl rfl ?_
  refine y_iload_n C 2 dL_assign_4 rfl rfl ?_
  refine y_callC C.s1 hE (name := "") (wr := WO cJ o f) (st := [.int (nI 0), .ref o]) 2 hM gL_assign_X3_assign rfl rfl rfl (by decide +kernel) ⟨Nat.le_refl _, by show 8 + (3 + 11) + 30 * d ≤ 30 * (d + 1); omega⟩ (q0 := 0) (ci := 3) hq rfl rfl rfl rfl (Nat.le_of_ble_eq_true rfl) dL_assign_5 ⟨Nat.le_of_eq (Nat.zero_add _), Nat.le_of_eq (Nat.zero_add _)⟩ [] ⟨0, 10, 13, 25⟩ [⟨0, 10, 17, 15⟩] htab (fun z hz => absurd hz List.not_mem_nil) (by decide) (by decide) (List.mem_of_getElem? (i := 1) rfl) (by decide +kernel) (fun q9 => ?_)
  refine y_astore C dL_assign_13 (Nat.le_of_ble_eq_true rfl) rfl ?_
  refine y_iconst C (v := nI 1) dL_assign_15 rfl ?_
  exact K _ _ _ _ _ dL_assign_16 rfl (Nat.le_of_eq (Nat.zero_add _)) (Nat.le_of_eq (Nat.zero_add _))
set_option maxRecDepth 100000 in
theorem h_assign_S {l : Launch} {sa : Nat → Nat} {D : va_G} {cI cJ : ClassId} {x o : Nat} (p0 : Int32) (p1 : Int32) {wc wc' : va_W} {d mc ms : Nat} {f : Nat → Int64} {fs : List Value} (hM : ctX l yX3_assign wsX3_assign (rmD d mc ms) sa D [(cI, .int)] [.ref x, .int p0, .int p1] wc wc' exS mc ms) (hq : wc[0]? = some (x, .inr (3, fs))) : ctH l yL_assign wsL_assign (rmD (d + 1) mc ms) sa D [(cI, .int), (cJ, .long)] [.ref x, .int p0, .int p1, .ref o] (WO cJ o f ++ wc) (WO cJ o f ++ wc') (nI 2) mc ms := by
  refine ctH_of (by decide) rfl (Nat.le_of_ble_eq_true rfl) ?_
  intro p e s m args below meth c A Q C htab hE K
  refine y_lv (lv' := [(0, .ref x), (1, .int p0), (2, .int p1), (3, .ref o)]) rfl ?_
  refine y_aload_n C 3 dL_assign_0 rfl rfl ?_
  refine y_iconst C (v := nI 0) dL_assign_1 rfl ?_
  refine y_aload_n C 0 dL_assign_2 rfl rfl ?_
  refine y_iload_n C 1 dL_assign_3 rfl rfl ?_
  refine y_iload_n C 2 dL_assign_4 rfl rfl ?_
  refine y_callC C.s1 hE (name := "") (wr := WO cJ o f) (st := [.int (nI 0), .ref o]) 2 hM gL_assign_X3_assign rfl rfl rfl (by decide +kernel) ⟨Nat.le_refl _, by show 8 + (3 + 11) + 30 * d ≤ 30 * (d + 1); omega⟩ (q0 := 0) (ci := 3) hq rfl rfl rfl rfl (Nat.le_of_ble_eq_true rfl) dL_assign_5 ⟨Nat.le_of_eq (Nat.zero_add _), Nat.le_of_eq (Nat.zero_add _)⟩ [⟨0, 10, 13, 25⟩] ⟨0, 10, 17, 15⟩ [] htab (List.forall_mem_cons.mpr ⟨⟨by decide, exI, List.mem_of_getElem? (i := 1) rfl, hE.2.2.2.2.2.1⟩, fun z hz => absurd hz List.not_mem_nil⟩) (by decide) (by decide) (List.mem_of_getElem? (i := 2) rfl) (by decide +kernel) (fun q9 => ?_)
  refine y_astore C dL_assign_17 (Nat.le_of_ble_eq_true rfl) rfl ?_
  refine y_iconst C (v := nI 2) dL_assign_19 rfl ?_
  exact K _ _ _ _ _ dL_assign_20 rfl (Nat.le_of_eq (Nat.zero_add _)) (Nat.le_of_eq (Nat.zero_add _))
set_option maxRecDepth 100000 in
theorem h_drop_ok {l : Launch} {sa : Nat → Nat} {D : va_G} {cI cJ : ClassId} {x o : Nat} (p0 : Int32) {wc wc' : va_W} {r : Int32} {d mc ms : Nat} {f : Nat → Int64} {fs : List Value} (hM : ctI l yX3_drop wsX3_drop (rmD d mc ms) D [(cI, .int)] [.ref x, .int p0] wc wc' r mc ms) (hq : wc[0]? = some (x, .inr (3, fs))) : ctH l yL_drop wsL_drop (rmD (d + 1) mc ms) sa D [(cI, .int), (cJ, .long)] [.ref x, .int p0, .ref o] (WO cJ o f ++ wc) (WO cJ o (vp_updL f 0 r.toInt64) ++ wc') (nI 0) mc ms := by
  refine ctH_of (by decide) rfl (Nat.le_of_ble_eq_true rfl) ?_
  intro p e s m args below meth c A Q C htab hE K
  refine y_lv (lv' := [(0, .ref x), (1, .int p0), (2, .ref o)]) rfl ?_
  refine y_aload_n C 2 dL_drop_0 rfl rfl ?_
  refine y_iconst C (v := nI 0) dL_drop_1 rfl ?_
  refine y_aload_n C 0 dL_drop_2 rfl rfl ?_
  refine y_iload_n C 1 dL_drop_3 rfl rfl ?_
  refine y_callI C.s1 (wr := WO cJ o f) (st := [.int (nI 0), .ref o]) 1 hM gL_drop_X3_drop rfl rfl rfl (by decide +kernel) ⟨Nat.le_refl _, by show 8 + (2 + 11) + 30 * d ≤ 30 * (d + 1); omega⟩ (q0 := 0) (ci := 3) hq rfl rfl rfl rfl (Nat.le_of_ble_eq_true rfl) dL_drop_4 ⟨Nat.le_of_eq (Nat.zero_add _), Nat.le_of_eq (Nat.zero_add _)⟩ ?_
  refine y_i2l C dL_drop_7 rfl ?_
  refine y_last C (q0 := 0) (t0 := 1) (j := 0) (ws' := WO cJ o (vp_updL f 0 r.toInt64) ++ wc') rfl rfl (Nat.le_of_ble_eq_true rfl) (Nat.le_of_ble_eq_true rfl) rfl dL_drop_8 ?_
  refine y_goto C (tgt := 18) dL_drop_9 rfl ?_
  refine y_iconst C (v := nI 0) dL_drop_18 rfl ?_
  exact K _ _ _ _ _ dL_drop_19 rfl (Nat.le_of_eq (Nat.zero_add _)) (Nat.le_of_eq (Nat.zero_add _))
set_option maxRecDepth 100000 in
theorem h_drop_I {l : Launch} {sa : Nat → Nat} {D : va_G} {cI cJ : ClassId} {x o : Nat} (p0 : Int32) {wc wc' : va_W} {d mc ms : Nat} {f : Nat → Int64} {fs : List Value} (hM : ctX l yX3_drop wsX3_drop (rmD d mc ms) sa D [(cI, .int)] [.ref x, .int p0] wc wc' exI mc ms) (hq : wc[0]? = some (x, .inr (3, fs))) : ctH l yL_drop wsL_drop (rmD (d + 1) mc ms) sa D [(cI, .int), (cJ, .long)] [.ref x, .int p0, .ref o] (WO cJ o f ++ wc) (WO cJ o f ++ wc') (nI 1) mc ms := by
  refine ctH_of (by decide) rfl (Nat.le_of_ble_eq_true rfl) ?_
  intro p e s m args below meth c A Q C htab hE K
  refine y_lv (lv' := [(0, .ref x), (1, .int p0), (2, .ref o)]) rfl ?_
  refine y_aload_n C 2 dL_drop_0 rfl rfl ?_
  refine y_iconst C (v := nI 0) dL_drop_1 rfl ?_
  refine y_aload_n C 0 dL_drop_2 rfl rfl ?_
  refine y_iload_n C 1 dL_drop_3 rfl rfl ?_
  refine y_callC C.s1 hE (name := "") (wr := WO cJ o f) (st := [.int (nI 0), .ref o]) 1 hM gL_drop_X3_drop rfl rfl rfl (by decide +kernel) ⟨Nat.le_refl _, by show 8 + (2 + 11) + 30 * d ≤ 30 * (d + 1); omega⟩ (q0 := 0) (ci := 3) hq rfl rfl rfl rfl (Nat.le_of_ble_eq_true rfl) dL_drop_4 ⟨Nat.le_of_eq (Nat.zero_add _), Nat.le_of_eq (Nat.zero_add _)⟩ [] ⟨0, 9, 12, 25⟩ [⟨0, 9, 15, 15⟩] htab (fun z hz => absurd hz List.not_mem_nil) (by decide) (by decide) (List.mem_of_getElem? (i := 1) rfl) (by decide +kernel) (fun q9 => ?_)
  refine y_astore_n C dL_drop_12 rfl (Nat.le_of_ble_eq_true rfl) rfl ?_
  refine y_iconst C (v := nI 1) dL_drop_13 rfl ?_
  exact K _ _ _ _ _ dL_drop_14 rfl (Nat.le_of_eq (Nat.zero_add _)) (Nat.le_of_eq (Nat.zero_add _))
set_option maxRecDepth 100000 in
theorem h_drop_S {l : Launch} {sa : Nat → Nat} {D : va_G} {cI cJ : ClassId} {x o : Nat} (p0 : Int32) {wc wc' : va_W} {d mc ms : Nat} {f : Nat → Int64} {fs : List Value} (hM : ctX l yX3_drop wsX3_drop (rmD d mc ms) sa D [(cI, .int)] [.ref x, .int p0] wc wc' exS mc ms) (hq : wc[0]? = some (x, .inr (3, fs))) : ctH l yL_drop wsL_drop (rmD (d + 1) mc ms) sa D [(cI, .int), (cJ, .long)] [.ref x, .int p0, .ref o] (WO cJ o f ++ wc) (WO cJ o f ++ wc') (nI 2) mc ms := by
  refine ctH_of (by decide) rfl (Nat.le_of_ble_eq_true rfl) ?_
  intro p e s m args below meth c A Q C htab hE K
  refine y_lv (lv' := [(0, .ref x), (1, .int p0), (2, .ref o)]) rfl ?_
  refine y_aload_n C 2 dL_drop_0 rfl rfl ?_
  refine y_iconst C (v := nI 0) dL_drop_1 rfl ?_
  refine y_aload_n C 0 dL_drop_2 rfl rfl ?_
  refine y_iload_n C 1 dL_drop_3 rfl rfl ?_
  refine y_callC C.s1 hE (name := "") (wr := WO cJ o f) (st := [.int (nI 0), .ref o]) 1 hM gL_drop_X3_drop rfl rfl rfl (by decide +kernel) ⟨Nat.le_refl _, by show 8 + (2 + 11) + 30 * d ≤ 30 * (d + 1); omega⟩ (q0 := 0) (ci := 3) hq rfl rfl rfl rfl (Nat.le_of_ble_eq_true rfl) dL_drop_4 ⟨Nat.le_of_eq (Nat.zero_add _), Nat.le_of_eq (Nat.zero_add _)⟩ [⟨0, 9, 12, 25⟩] ⟨0, 9, 15, 15⟩ [] htab (List.forall_mem_cons.mpr ⟨⟨by decide, exI, List.mem_of_getElem? (i := 1) rfl, hE.2.2.2.2.2.1⟩, fun z hz => absurd hz List.not_mem_nil⟩) (by decide) (by decide) (List.mem_of_getElem? (i := 2) rfl) (by decide +kernel) (fun q9 => ?_)
  refine y_astore_n C dL_drop_15 rfl (Nat.le_of_ble_eq_true rfl) rfl ?_
  refine y_iconst C (v := nI 2) dL_drop_16 rfl ?_
  exact K _ _ _ _ _ dL_drop_17 rfl (Nat.le_of_eq (Nat.zero_add _)) (Nat.le_of_eq (Nat.zero_add _))
set_option maxRecDepth 100000 in
theorem h_size_ok {l : Launch} {sa : Nat → Nat} {D : va_G} {cI cJ : ClassId} {x o : Nat} (p0 : Int32) {wc wc' : va_W} {r : Int32} {d mc ms : Nat} {f : Nat → Int64} {fs : List Value} (hM : ctI l yX3_size wsX3_size (rmD d mc ms) D [(cI, .int)] [.ref x, .int p0] wc wc' r mc ms) (hq : wc[0]? = some (x, .inr (3, fs))) : ctH l yL_size wsL_size (rmD (d + 1) mc ms) sa D [(cI, .int), (cJ, .long)] [.ref x, .int p0, .ref o] (WO cJ o f ++ wc) (WO cJ o (vp_updL f 0 r.toInt64) ++ wc') (nI 0) mc ms := by
  refine ctH_of (by decide) rfl (Nat.le_of_ble_eq_true rfl) ?_
  intro p e s m args below meth c A Q C htab hE K
  refine y_lv (lv' := [(0, .ref x), (1, .int p0), (2, .ref o)]) rfl ?_
  refine y_aload_n C 2 dL_size_0 rfl rfl ?_
  refine y_iconst C (v := nI 0) dL_size_1 rfl ?_
  refine y_aload_n C 0 dL_size_2 rfl rfl ?_
  refine y_iload_n C 1 dL_size_3 rfl rfl ?_
  refine y_callI C.s1 (wr := WO cJ o f) (st := [.int (nI 0), .ref o]) 1 hM gL_size_X3_size rfl rfl rfl (by decide +kernel) ⟨Nat.le_refl _, by show 8 + (2 + 11) + 30 * d ≤ 30 * (d + 1); omega⟩ (q0 := 0) (ci := 3) hq rfl rfl rfl rfl (Nat.le_of_ble_eq_true rfl) dL_size_4 ⟨Nat.le_of_eq (Nat.zero_add _), Nat.le_of_eq (Nat.zero_add _)⟩ ?_
  refine y_i2l C dL_size_7 rfl ?_
  refine y_last C (q0 := 0) (t0 := 1) (j := 0) (ws' := WO cJ o (vp_updL f 0 r.toInt64) ++ wc') rfl rfl (Nat.le_of_ble_eq_true rfl) (Nat.le_of_ble_eq_true rfl) rfl dL_size_8 ?_
  refine y_goto C (tgt := 15) dL_size_9 rfl ?_
  refine y_iconst C (v := nI 0) dL_size_15 rfl ?_
  exact K _ _ _ _ _ dL_size_16 rfl (Nat.le_of_eq (Nat.zero_add _)) (Nat.le_of_eq (Nat.zero_add _))
set_option maxRecDepth 100000 in
theorem h_size_I {l : Launch} {sa : Nat → Nat} {D : va_G} {cI cJ : ClassId} {x o : Nat} (p0 : Int32) {wc wc' : va_W} {d mc ms : Nat} {f : Nat → Int64} {fs : List Value} (hM : ctX l yX3_size wsX3_size (rmD d mc ms) sa D [(cI, .int)] [.ref x, .int p0] wc wc' exI mc ms) (hq : wc[0]? = some (x, .inr (3, fs))) : ctH l yL_size wsL_size (rmD (d + 1) mc ms) sa D [(cI, .int), (cJ, .long)] [.ref x, .int p0, .ref o] (WO cJ o f ++ wc) (WO cJ o f ++ wc') (nI 1) mc ms := by
  refine ctH_of (by decide) rfl (Nat.le_of_ble_eq_true rfl) ?_
  intro p e s m args below meth c A Q C htab hE K
  refine y_lv (lv' := [(0, .ref x), (1, .int p0), (2, .ref o)]) rfl ?_
  refine y_aload_n C 2 dL_size_0 rfl rfl ?_
  refine y_iconst C (v := nI 0) dL_size_1 rfl ?_
  refine y_aload_n C 0 dL_size_2 rfl rfl ?_
  refine y_iload_n C 1 dL_size_3 rfl rfl ?_
  refine y_callC C.s1 hE (name := "") (wr := WO cJ o f) (st := [.int (nI 0), .ref o]) 1 hM gL_size_X3_size rfl rfl rfl (by decide +kernel) ⟨Nat.le_refl _, by show 8 + (2 + 11) + 30 * d ≤ 30 * (d + 1); omega⟩ (q0 := 0) (ci := 3) hq rfl rfl rfl rfl (Nat.le_of_ble_eq_true rfl) dL_size_4 ⟨Nat.le_of_eq (Nat.zero_add _), Nat.le_of_eq (Nat.zero_add _)⟩ [] ⟨0, 9, 12, 25⟩ [] htab (fun z hz => absurd hz List.not_mem_nil) (by decide) (by decide) (List.mem_of_getElem? (i := 1) rfl) (by decide +kernel) (fun q9 => ?_)
  refine y_astore_n C dL_size_12 rfl (Nat.le_of_ble_eq_true rfl) rfl ?_
  refine y_iconst C (v := nI 1) dL_size_13 rfl ?_
  exact K _ _ _ _ _ dL_size_14 rfl (Nat.le_of_eq (Nat.zero_add _)) (Nat.le_of_eq (Nat.zero_add _))
set_option maxRecDepth 100000 in
theorem h_instruction_ok {l : Launch} {sa : Nat → Nat} {D : va_G} {cI cJ : ClassId} {x o : Nat} (p0 : Int32) (p1 : Int32) {wc wc' : va_W} {r : Int32} {d mc ms : Nat} {f : Nat → Int64} {fs : List Value} (hM : ctI l yX3_instruction wsX3_instruction (rmD d mc ms) D [(cI, .int)] [.ref x, .int p0, .int p1] wc wc' r mc ms) (hq : wc[0]? = some (x, .inr (3, fs))) : ctH l yL_instruction wsL_instruction (rmD (d + 1) mc ms) sa D [(cI, .int), (cJ, .long)] [.ref x, .int p0, .int p1, .ref o] (WO cJ o f ++ wc) (WO cJ o (vp_updL f 0 r.toInt64) ++ wc') (nI 0) mc ms := by
  refine ctH_of (by decide) rfl (Nat.le_of_ble_eq_true rfl) ?_
  intro p e s m args below meth c A Q C htab hE K
  refine y_lv (lv' := [(0, .ref x), (1, .int p0), (2, .int p1), (3, .ref o)]) rfl ?_
  refine y_aload_n C 3 dL_instruction_0 rfl rfl ?_
  refine y_iconst C (v := nI 0) dL_instruction_1 rfl ?_
  refine y_aload_n C 0 dL_instruction_2 rfl rfl ?_
  refine y_iload_n C 1 dL_instruction_3 rfl rfl ?_
  refine y_iload_n C 2 dL_instruction_4 rfl rfl ?_
  refine y_callI C.s1 (wr := WO cJ o f) (st := [.int (nI 0), .ref o]) 2 hM gL_instruction_X3_instruction rfl rfl rfl (by decide +kernel) ⟨Nat.le_refl _, by show 8 + (3 + 11) + 30 * d ≤ 30 * (d + 1); omega⟩ (q0 := 0) (ci := 3) hq rfl rfl rfl rfl (Nat.le_of_ble_eq_true rfl) dL_instruction_5 ⟨Nat.le_of_eq (Nat.zero_add _), Nat.le_of_eq (Nat.zero_add _)⟩ ?_
  refine y_i2l C dL_instruction_8 rfl ?_
  refine y_last C (q0 := 0) (t0 := 1) (j := 0) (ws' := WO cJ o (vp_updL f 0 r.toInt64) ++ wc') rfl rfl (Nat.le_of_ble_eq_true rfl) (Nat.le_of_ble_eq_true rfl) rfl dL_instruction_9 ?_
  refine y_goto C (tgt := 17) dL_instruction_10 rfl ?_
  refine y_iconst C (v := nI 0) dL_instruction_17 rfl ?_
  exact K _ _ _ _ _ dL_instruction_18 rfl (Nat.le_of_eq (Nat.zero_add _)) (Nat.le_of_eq (Nat.zero_add _))
set_option maxRecDepth 100000 in
theorem h_instruction_I {l : Launch} {sa : Nat → Nat} {D : va_G} {cI cJ : ClassId} {x o : Nat} (p0 : Int32) (p1 : Int32) {wc wc' : va_W} {d mc ms : Nat} {f : Nat → Int64} {fs : List Value} (hM : ctX l yX3_instruction wsX3_instruction (rmD d mc ms) sa D [(cI, .int)] [.ref x, .int p0, .int p1] wc wc' exI mc ms) (hq : wc[0]? = some (x, .inr (3, fs))) : ctH l yL_instruction wsL_instruction (rmD (d + 1) mc ms) sa D [(cI, .int), (cJ, .long)] [.ref x, .int p0, .int p1, .ref o] (WO cJ o f ++ wc) (WO cJ o f ++ wc') (nI 1) mc ms := by
  refine ctH_of (by decide) rfl (Nat.le_of_ble_eq_true rfl) ?_
  intro p e s m args below meth c A Q C htab hE K
  refine y_lv (lv' := [(0, .ref x), (1, .int p0), (2, .int p1), (3, .ref o)]) rfl ?_
  refine y_aload_n C 3 dL_instruction_0 rfl rfl ?_
  refine y_iconst C (v := nI 0) dL_instruction_1 rfl ?_
  refine y_aload_n C 0 dL_instruction_2 rfl rfl ?_
  refine y_iload_n C 1 dL_instruction_3 rfl rfl ?_
  refine y_iload_n C 2 dL_instruction_4 rfl rfl ?_
  refine y_callC C.s1 hE (name := "") (wr := WO cJ o f) (st := [.int (nI 0), .ref o]) 2 hM gL_instruction_X3_instruction rfl rfl rfl (by decide +kernel) ⟨Nat.le_refl _, by show 8 + (3 + 11) + 30 * d ≤ 30 * (d + 1); omega⟩ (q0 := 0) (ci := 3) hq rfl rfl rfl rfl (Nat.le_of_ble_eq_true rfl) dL_instruction_5 ⟨Nat.le_of_eq (Nat.zero_add _), Nat.le_of_eq (Nat.zero_add _)⟩ [] ⟨0, 10, 13, 25⟩ [] htab (fun z hz => absurd hz List.not_mem_nil) (by decide) (by decide) (List.mem_of_getElem? (i := 1) rfl) (by decide +kernel) (fun q9 => ?_)
  refine y_astore C dL_instruction_13 (Nat.le_of_ble_eq_true rfl) rfl ?_
  refine y_iconst C (v := nI 1) dL_instruction_15 rfl ?_
  exact K _ _ _ _ _ dL_instruction_16 rfl (Nat.le_of_eq (Nat.zero_add _)) (Nat.le_of_eq (Nat.zero_add _))
set_option maxRecDepth 100000 in
theorem h_ends_ok {l : Launch} {sa : Nat → Nat} {D : va_G} {cI cJ : ClassId} {x o : Nat} (p0 : Int32) {wc wc' : va_W} {r : Int32} {d mc ms : Nat} {f : Nat → Int64} {fs : List Value} (hM : ctI l yX3_ends wsX3_ends (rmD d mc ms) D [(cI, .int)] [.ref x, .int p0] wc wc' r mc ms) (hq : wc[0]? = some (x, .inr (3, fs))) : ctH l yL_ends wsL_ends (rmD (d + 1) mc ms) sa D [(cI, .int), (cJ, .long)] [.ref x, .int p0, .ref o] (WO cJ o f ++ wc) (WO cJ o (vp_updL f 0 r.toInt64) ++ wc') (nI 0) mc ms := by
  refine ctH_of (by decide) rfl (Nat.le_of_ble_eq_true rfl) ?_
  intro p e s m args below meth c A Q C htab hE K
  refine y_lv (lv' := [(0, .ref x), (1, .int p0), (2, .ref o)]) rfl ?_
  refine y_aload_n C 2 dL_ends_0 rfl rfl ?_
  refine y_iconst C (v := nI 0) dL_ends_1 rfl ?_
  refine y_aload_n C 0 dL_ends_2 rfl rfl ?_
  refine y_iload_n C 1 dL_ends_3 rfl rfl ?_
  refine y_callI C.s1 (wr := WO cJ o f) (st := [.int (nI 0), .ref o]) 1 hM gL_ends_X3_ends rfl rfl rfl (by decide +kernel) ⟨Nat.le_refl _, by show 8 + (2 + 11) + 30 * d ≤ 30 * (d + 1); omega⟩ (q0 := 0) (ci := 3) hq rfl rfl rfl rfl (Nat.le_of_ble_eq_true rfl) dL_ends_4 ⟨Nat.le_of_eq (Nat.zero_add _), Nat.le_of_eq (Nat.zero_add _)⟩ ?_
  refine y_i2l C dL_ends_7 rfl ?_
  refine y_last C (q0 := 0) (t0 := 1) (j := 0) (ws' := WO cJ o (vp_updL f 0 r.toInt64) ++ wc') rfl rfl (Nat.le_of_ble_eq_true rfl) (Nat.le_of_ble_eq_true rfl) rfl dL_ends_8 ?_
  refine y_goto C (tgt := 15) dL_ends_9 rfl ?_
  refine y_iconst C (v := nI 0) dL_ends_15 rfl ?_
  exact K _ _ _ _ _ dL_ends_16 rfl (Nat.le_of_eq (Nat.zero_add _)) (Nat.le_of_eq (Nat.zero_add _))
set_option maxRecDepth 100000 in
theorem h_ends_I {l : Launch} {sa : Nat → Nat} {D : va_G} {cI cJ : ClassId} {x o : Nat} (p0 : Int32) {wc wc' : va_W} {d mc ms : Nat} {f : Nat → Int64} {fs : List Value} (hM : ctX l yX3_ends wsX3_ends (rmD d mc ms) sa D [(cI, .int)] [.ref x, .int p0] wc wc' exI mc ms) (hq : wc[0]? = some (x, .inr (3, fs))) : ctH l yL_ends wsL_ends (rmD (d + 1) mc ms) sa D [(cI, .int), (cJ, .long)] [.ref x, .int p0, .ref o] (WO cJ o f ++ wc) (WO cJ o f ++ wc') (nI 1) mc ms := by
  refine ctH_of (by decide) rfl (Nat.le_of_ble_eq_true rfl) ?_
  intro p e s m args below meth c A Q C htab hE K
  refine y_lv (lv' := [(0, .ref x), (1, .int p0), (2, .ref o)]) rfl ?_
  refine y_aload_n C 2 dL_ends_0 rfl rfl ?_
  refine y_iconst C (v := nI 0) dL_ends_1 rfl ?_
  refine y_aload_n C 0 dL_ends_2 rfl rfl ?_
  refine y_iload_n C 1 dL_ends_3 rfl rfl ?_
  refine y_callC C.s1 hE (name := "") (wr := WO cJ o f) (st := [.int (nI 0), .ref o]) 1 hM gL_ends_X3_ends rfl rfl rfl (by decide +kernel) ⟨Nat.le_refl _, by show 8 + (2 + 11) + 30 * d ≤ 30 * (d + 1); omega⟩ (q0 := 0) (ci := 3) hq rfl rfl rfl rfl (Nat.le_of_ble_eq_true rfl) dL_ends_4 ⟨Nat.le_of_eq (Nat.zero_add _), Nat.le_of_eq (Nat.zero_add _)⟩ [] ⟨0, 9, 12, 25⟩ [] htab (fun z hz => absurd hz List.not_mem_nil) (by decide) (by decide) (List.mem_of_getElem? (i := 1) rfl) (by decide +kernel) (fun q9 => ?_)
  refine y_astore_n C dL_ends_12 rfl (Nat.le_of_ble_eq_true rfl) rfl ?_
  refine y_iconst C (v := nI 1) dL_ends_13 rfl ?_
  exact K _ _ _ _ _ dL_ends_14 rfl (Nat.le_of_eq (Nat.zero_add _)) (Nat.le_of_eq (Nat.zero_add _))
set_option maxRecDepth 100000 in
theorem h_kept_ok {l : Launch} {sa : Nat → Nat} {D : va_G} {cI cJ : ClassId} {x o : Nat} (p0 : Int32) {wc wc' : va_W} {r : Int32} {d mc ms : Nat} {f : Nat → Int64} {fs : List Value} (hM : ctI l yX3_kept wsX3_kept (rmD d mc ms) D [(cI, .int)] [.ref x, .int p0] wc wc' r mc ms) (hq : wc[0]? = some (x, .inr (3, fs))) : ctH l yL_kept wsL_kept (rmD (d + 1) mc ms) sa D [(cI, .int), (cJ, .long)] [.ref x, .int p0, .ref o] (WO cJ o f ++ wc) (WO cJ o (vp_updL f 0 r.toInt64) ++ wc') (nI 0) mc ms := by
  refine ctH_of (by decide) rfl (Nat.le_of_ble_eq_true rfl) ?_
  intro p e s m args below meth c A Q C htab hE K
  refine y_lv (lv' := [(0, .ref x), (1, .int p0), (2, .ref o)]) rfl ?_
  refine y_aload_n C 2 dL_kept_0 rfl rfl ?_
  refine y_iconst C (v := nI 0) dL_kept_1 rfl ?_
  refine y_aload_n C 0 dL_kept_2 rfl rfl ?_
  refine y_iload_n C 1 dL_kept_3 rfl rfl ?_
  refine y_callI C.s1 (wr := WO cJ o f) (st := [.int (nI 0), .ref o]) 1 hM gL_kept_X3_kept rfl rfl rfl (by decide +kernel) ⟨Nat.le_refl _, by show 8 + (2 + 11) + 30 * d ≤ 30 * (d + 1); omega⟩ (q0 := 0) (ci := 3) hq rfl rfl rfl rfl (Nat.le_of_ble_eq_true rfl) dL_kept_4 ⟨Nat.le_of_eq (Nat.zero_add _), Nat.le_of_eq (Nat.zero_add _)⟩ ?_
  refine y_i2l C dL_kept_7 rfl ?_
  refine y_last C (q0 := 0) (t0 := 1) (j := 0) (ws' := WO cJ o (vp_updL f 0 r.toInt64) ++ wc') rfl rfl (Nat.le_of_ble_eq_true rfl) (Nat.le_of_ble_eq_true rfl) rfl dL_kept_8 ?_
  refine y_goto C (tgt := 15) dL_kept_9 rfl ?_
  refine y_iconst C (v := nI 0) dL_kept_15 rfl ?_
  exact K _ _ _ _ _ dL_kept_16 rfl (Nat.le_of_eq (Nat.zero_add _)) (Nat.le_of_eq (Nat.zero_add _))
set_option maxRecDepth 100000 in
theorem h_kept_I {l : Launch} {sa : Nat → Nat} {D : va_G} {cI cJ : ClassId} {x o : Nat} (p0 : Int32) {wc wc' : va_W} {d mc ms : Nat} {f : Nat → Int64} {fs : List Value} (hM : ctX l yX3_kept wsX3_kept (rmD d mc ms) sa D [(cI, .int)] [.ref x, .int p0] wc wc' exI mc ms) (hq : wc[0]? = some (x, .inr (3, fs))) : ctH l yL_kept wsL_kept (rmD (d + 1) mc ms) sa D [(cI, .int), (cJ, .long)] [.ref x, .int p0, .ref o] (WO cJ o f ++ wc) (WO cJ o f ++ wc') (nI 1) mc ms := by
  refine ctH_of (by decide) rfl (Nat.le_of_ble_eq_true rfl) ?_
  intro p e s m args below meth c A Q C htab hE K
  refine y_lv (lv' := [(0, .ref x), (1, .int p0), (2, .ref o)]) rfl ?_
  refine y_aload_n C 2 dL_kept_0 rfl rfl ?_
  refine y_iconst C (v := nI 0) dL_kept_1 rfl ?_
  refine y_aload_n C 0 dL_kept_2 rfl rfl ?_
  refine y_iload_n C 1 dL_kept_3 rfl rfl ?_
  refine y_callC C.s1 hE (name := "") (wr := WO cJ o f) (st := [.int (nI 0), .ref o]) 1 hM gL_kept_X3_kept rfl rfl rfl (by decide +kernel) ⟨Nat.le_refl _, by show 8 + (2 + 11) + 30 * d ≤ 30 * (d + 1); omega⟩ (q0 := 0) (ci := 3) hq rfl rfl rfl rfl (Nat.le_of_ble_eq_true rfl) dL_kept_4 ⟨Nat.le_of_eq (Nat.zero_add _), Nat.le_of_eq (Nat.zero_add _)⟩ [] ⟨0, 9, 12, 25⟩ [] htab (fun z hz => absurd hz List.not_mem_nil) (by decide) (by decide) (List.mem_of_getElem? (i := 1) rfl) (by decide +kernel) (fun q9 => ?_)
  refine y_astore_n C dL_kept_12 rfl (Nat.le_of_ble_eq_true rfl) rfl ?_
  refine y_iconst C (v := nI 1) dL_kept_13 rfl ?_
  exact K _ _ _ _ _ dL_kept_14 rfl (Nat.le_of_eq (Nat.zero_add _)) (Nat.le_of_eq (Nat.zero_add _))
set_option maxRecDepth 100000 in
theorem h_early_ok {l : Launch} {sa : Nat → Nat} {D : va_G} {cI cJ : ClassId} {x o : Nat} (p0 : Int32) {wc wc' : va_W} {r : Int32} {d mc ms : Nat} {f : Nat → Int64} {fs : List Value} (hM : ctI l yX3_early wsX3_early (rmD d mc ms) D [(cI, .int)] [.ref x, .int p0] wc wc' r mc ms) (hq : wc[0]? = some (x, .inr (3, fs))) : ctH l yL_early wsL_early (rmD (d + 1) mc ms) sa D [(cI, .int), (cJ, .long)] [.ref x, .int p0, .ref o] (WO cJ o f ++ wc) (WO cJ o (vp_updL f 0 r.toInt64) ++ wc') (nI 0) mc ms := by
  refine ctH_of (by decide) rfl (Nat.le_of_ble_eq_true rfl) ?_
  intro p e s m args below meth c A Q C htab hE K
  refine y_lv (lv' := [(0, .ref x), (1, .int p0), (2, .ref o)]) rfl ?_
  refine y_aload_n C 2 dL_early_0 rfl rfl ?_
  refine y_iconst C (v := nI 0) dL_early_1 rfl ?_
  refine y_aload_n C 0 dL_early_2 rfl rfl ?_
  refine y_iload_n C 1 dL_early_3 rfl rfl ?_
  refine y_callI C.s1 (wr := WO cJ o f) (st := [.int (nI 0), .ref o]) 1 hM gL_early_X3_early rfl rfl rfl (by decide +kernel) ⟨Nat.le_refl _, by show 8 + (2 + 11) + 30 * d ≤ 30 * (d + 1); omega⟩ (q0 := 0) (ci := 3) hq rfl rfl rfl rfl (Nat.le_of_ble_eq_true rfl) dL_early_4 ⟨Nat.le_of_eq (Nat.zero_add _), Nat.le_of_eq (Nat.zero_add _)⟩ ?_
  refine y_i2l C dL_early_7 rfl ?_
  refine y_last C (q0 := 0) (t0 := 1) (j := 0) (ws' := WO cJ o (vp_updL f 0 r.toInt64) ++ wc') rfl rfl (Nat.le_of_ble_eq_true rfl) (Nat.le_of_ble_eq_true rfl) rfl dL_early_8 ?_
  refine y_goto C (tgt := 15) dL_early_9 rfl ?_
  refine y_iconst C (v := nI 0) dL_early_15 rfl ?_
  exact K _ _ _ _ _ dL_early_16 rfl (Nat.le_of_eq (Nat.zero_add _)) (Nat.le_of_eq (Nat.zero_add _))
set_option maxRecDepth 100000 in
theorem h_early_I {l : Launch} {sa : Nat → Nat} {D : va_G} {cI cJ : ClassId} {x o : Nat} (p0 : Int32) {wc wc' : va_W} {d mc ms : Nat} {f : Nat → Int64} {fs : List Value} (hM : ctX l yX3_early wsX3_early (rmD d mc ms) sa D [(cI, .int)] [.ref x, .int p0] wc wc' exI mc ms) (hq : wc[0]? = some (x, .inr (3, fs))) : ctH l yL_early wsL_early (rmD (d + 1) mc ms) sa D [(cI, .int), (cJ, .long)] [.ref x, .int p0, .ref o] (WO cJ o f ++ wc) (WO cJ o f ++ wc') (nI 1) mc ms := by
  refine ctH_of (by decide) rfl (Nat.le_of_ble_eq_true rfl) ?_
  intro p e s m args below meth c A Q C htab hE K
  refine y_lv (lv' := [(0, .ref x), (1, .int p0), (2, .ref o)]) rfl ?_
  refine y_aload_n C 2 dL_early_0 rfl rfl ?_
  refine y_iconst C (v := nI 0) dL_early_1 rfl ?_
  refine y_aload_n C 0 dL_early_2 rfl rfl ?_
  refine y_iload_n C 1 dL_early_3 rfl rfl ?_
  refine y_callC C.s1 hE (name := "") (wr := WO cJ o f) (st := [.int (nI 0), .ref o]) 1 hM gL_early_X3_early rfl rfl rfl (by decide +kernel) ⟨Nat.le_refl _, by show 8 + (2 + 11) + 30 * d ≤ 30 * (d + 1); omega⟩ (q0 := 0) (ci := 3) hq rfl rfl rfl rfl (Nat.le_of_ble_eq_true rfl) dL_early_4 ⟨Nat.le_of_eq (Nat.zero_add _), Nat.le_of_eq (Nat.zero_add _)⟩ [] ⟨0, 9, 12, 25⟩ [] htab (fun z hz => absurd hz List.not_mem_nil) (by decide) (by decide) (List.mem_of_getElem? (i := 1) rfl) (by decide +kernel) (fun q9 => ?_)
  refine y_astore_n C dL_early_12 rfl (Nat.le_of_ble_eq_true rfl) rfl ?_
  refine y_iconst C (v := nI 1) dL_early_13 rfl ?_
  exact K _ _ _ _ _ dL_early_14 rfl (Nat.le_of_eq (Nat.zero_add _)) (Nat.le_of_eq (Nat.zero_add _))
set_option maxRecDepth 100000 in
theorem h_late_ok {l : Launch} {sa : Nat → Nat} {D : va_G} {cI cJ : ClassId} {x o : Nat} (p0 : Int32) {wc wc' : va_W} {r : Int32} {d mc ms : Nat} {f : Nat → Int64} {fs : List Value} (hM : ctI l yX3_late wsX3_late (rmD d mc ms) D [(cI, .int)] [.ref x, .int p0] wc wc' r mc ms) (hq : wc[0]? = some (x, .inr (3, fs))) : ctH l yL_late wsL_late (rmD (d + 1) mc ms) sa D [(cI, .int), (cJ, .long)] [.ref x, .int p0, .ref o] (WO cJ o f ++ wc) (WO cJ o (vp_updL f 0 r.toInt64) ++ wc') (nI 0) mc ms := by
  refine ctH_of (by decide) rfl (Nat.le_of_ble_eq_true rfl) ?_
  intro p e s m args below meth c A Q C htab hE K
  refine y_lv (lv' := [(0, .ref x), (1, .int p0), (2, .ref o)]) rfl ?_
  refine y_aload_n C 2 dL_late_0 rfl rfl ?_
  refine y_iconst C (v := nI 0) dL_late_1 rfl ?_
  refine y_aload_n C 0 dL_late_2 rfl rfl ?_
  refine y_iload_n C 1 dL_late_3 rfl rfl ?_
  refine y_callI C.s1 (wr := WO cJ o f) (st := [.int (nI 0), .ref o]) 1 hM gL_late_X3_late rfl rfl rfl (by decide +kernel) ⟨Nat.le_refl _, by show 8 + (2 + 11) + 30 * d ≤ 30 * (d + 1); omega⟩ (q0 := 0) (ci := 3) hq rfl rfl rfl rfl (Nat.le_of_ble_eq_true rfl) dL_late_4 ⟨Nat.le_of_eq (Nat.zero_add _), Nat.le_of_eq (Nat.zero_add _)⟩ ?_
  refine y_i2l C dL_late_7 rfl ?_
  refine y_last C (q0 := 0) (t0 := 1) (j := 0) (ws' := WO cJ o (vp_updL f 0 r.toInt64) ++ wc') rfl rfl (Nat.le_of_ble_eq_true rfl) (Nat.le_of_ble_eq_true rfl) rfl dL_late_8 ?_
  refine y_goto C (tgt := 15) dL_late_9 rfl ?_
  refine y_iconst C (v := nI 0) dL_late_15 rfl ?_
  exact K _ _ _ _ _ dL_late_16 rfl (Nat.le_of_eq (Nat.zero_add _)) (Nat.le_of_eq (Nat.zero_add _))
set_option maxRecDepth 100000 in
theorem h_late_I {l : Launch} {sa : Nat → Nat} {D : va_G} {cI cJ : ClassId} {x o : Nat} (p0 : Int32) {wc wc' : va_W} {d mc ms : Nat} {f : Nat → Int64} {fs : List Value} (hM : ctX l yX3_late wsX3_late (rmD d mc ms) sa D [(cI, .int)] [.ref x, .int p0] wc wc' exI mc ms) (hq : wc[0]? = some (x, .inr (3, fs))) : ctH l yL_late wsL_late (rmD (d + 1) mc ms) sa D [(cI, .int), (cJ, .long)] [.ref x, .int p0, .ref o] (WO cJ o f ++ wc) (WO cJ o f ++ wc') (nI 1) mc ms := by
  refine ctH_of (by decide) rfl (Nat.le_of_ble_eq_true rfl) ?_
  intro p e s m args below meth c A Q C htab hE K
  refine y_lv (lv' := [(0, .ref x), (1, .int p0), (2, .ref o)]) rfl ?_
  refine y_aload_n C 2 dL_late_0 rfl rfl ?_
  refine y_iconst C (v := nI 0) dL_late_1 rfl ?_
  refine y_aload_n C 0 dL_late_2 rfl rfl ?_
  refine y_iload_n C 1 dL_late_3 rfl rfl ?_
  refine y_callC C.s1 hE (name := "") (wr := WO cJ o f) (st := [.int (nI 0), .ref o]) 1 hM gL_late_X3_late rfl rfl rfl (by decide +kernel) ⟨Nat.le_refl _, by show 8 + (2 + 11) + 30 * d ≤ 30 * (d + 1); omega⟩ (q0 := 0) (ci := 3) hq rfl rfl rfl rfl (Nat.le_of_ble_eq_true rfl) dL_late_4 ⟨Nat.le_of_eq (Nat.zero_add _), Nat.le_of_eq (Nat.zero_add _)⟩ [] ⟨0, 9, 12, 25⟩ [] htab (fun z hz => absurd hz List.not_mem_nil) (by decide) (by decide) (List.mem_of_getElem? (i := 1) rfl) (by decide +kernel) (fun q9 => ?_)
  refine y_astore_n C dL_late_12 rfl (Nat.le_of_ble_eq_true rfl) rfl ?_
  refine y_iconst C (v := nI 1) dL_late_13 rfl ?_
  exact K _ _ _ _ _ dL_late_14 rfl (Nat.le_of_eq (Nat.zero_add _)) (Nat.le_of_eq (Nat.zero_add _))
set_option maxRecDepth 100000 in
theorem h_needed_ok {l : Launch} {sa : Nat → Nat} {D : va_G} {cI cJ : ClassId} {x o : Nat} (p0 : Int32) (p1 : Int32) {wc wc' : va_W} {r : Int32} {d mc ms : Nat} {f : Nat → Int64} {fs : List Value} (hM : ctI l yX3_needed wsX3_needed (rmD d mc ms) D [(cI, .int)] [.ref x, .int p0, .int p1] wc wc' r mc ms) (hq : wc[0]? = some (x, .inr (3, fs))) : ctH l yL_needed wsL_needed (rmD (d + 1) mc ms) sa D [(cI, .int), (cJ, .long)] [.ref x, .int p0, .int p1, .ref o] (WO cJ o f ++ wc) (WO cJ o (vp_updL f 0 r.toInt64) ++ wc') (nI 0) mc ms := by
  refine ctH_of (by decide) rfl (Nat.le_of_ble_eq_true rfl) ?_
  intro p e s m args below meth c A Q C htab hE K
  refine y_lv (lv' := [(0, .ref x), (1, .int p0), (2, .int p1), (3, .ref o)]) rfl ?_
  refine y_aload_n C 3 dL_needed_0 rfl rfl ?_
  refine y_iconst C (v := nI 0) dL_needed_1 rfl ?_
  refine y_aload_n C 0 dL_needed_2 rfl rfl ?_
  refine y_iload_n C 1 dL_needed_3 rfl rfl ?_
  refine y_iload_n C 2 dL_needed_4 rfl rfl ?_
  refine y_callI C.s1 (wr := WO cJ o f) (st := [.int (nI 0), .ref o]) 2 hM gL_needed_X3_needed rfl rfl rfl (by decide +kernel) ⟨Nat.le_refl _, by show 8 + (3 + 11) + 30 * d ≤ 30 * (d + 1); omega⟩ (q0 := 0) (ci := 3) hq rfl rfl rfl rfl (Nat.le_of_ble_eq_true rfl) dL_needed_5 ⟨Nat.le_of_eq (Nat.zero_add _), Nat.le_of_eq (Nat.zero_add _)⟩ ?_
  refine y_i2l C dL_needed_8 rfl ?_
  refine y_last C (q0 := 0) (t0 := 1) (j := 0) (ws' := WO cJ o (vp_updL f 0 r.toInt64) ++ wc') rfl rfl (Nat.le_of_ble_eq_true rfl) (Nat.le_of_ble_eq_true rfl) rfl dL_needed_9 ?_
  refine y_goto C (tgt := 17) dL_needed_10 rfl ?_
  refine y_iconst C (v := nI 0) dL_needed_17 rfl ?_
  exact K _ _ _ _ _ dL_needed_18 rfl (Nat.le_of_eq (Nat.zero_add _)) (Nat.le_of_eq (Nat.zero_add _))
set_option maxRecDepth 100000 in
theorem h_needed_I {l : Launch} {sa : Nat → Nat} {D : va_G} {cI cJ : ClassId} {x o : Nat} (p0 : Int32) (p1 : Int32) {wc wc' : va_W} {d mc ms : Nat} {f : Nat → Int64} {fs : List Value} (hM : ctX l yX3_needed wsX3_needed (rmD d mc ms) sa D [(cI, .int)] [.ref x, .int p0, .int p1] wc wc' exI mc ms) (hq : wc[0]? = some (x, .inr (3, fs))) : ctH l yL_needed wsL_needed (rmD (d + 1) mc ms) sa D [(cI, .int), (cJ, .long)] [.ref x, .int p0, .int p1, .ref o] (WO cJ o f ++ wc) (WO cJ o f ++ wc') (nI 1) mc ms := by
  refine ctH_of (by decide) rfl (Nat.le_of_ble_eq_true rfl) ?_
  intro p e s m args below meth c A Q C htab hE K
  refine y_lv (lv' := [(0, .ref x), (1, .int p0), (2, .int p1), (3, .ref o)]) rfl ?_
  refine y_aload_n C 3 dL_needed_0 rfl rfl ?_
  refine y_iconst C (v := nI 0) dL_needed_1 rfl ?_
  refine y_aload_n C 0 dL_needed_2 rfl rfl ?_
  refine y_iload_n C 1 dL_needed_3 rfl rfl ?_
  refine y_iload_n C 2 dL_needed_4 rfl rfl ?_
  refine y_callC C.s1 hE (name := "") (wr := WO cJ o f) (st := [.int (nI 0), .ref o]) 2 hM gL_needed_X3_needed rfl rfl rfl (by decide +kernel) ⟨Nat.le_refl _, by show 8 + (3 + 11) + 30 * d ≤ 30 * (d + 1); omega⟩ (q0 := 0) (ci := 3) hq rfl rfl rfl rfl (Nat.le_of_ble_eq_true rfl) dL_needed_5 ⟨Nat.le_of_eq (Nat.zero_add _), Nat.le_of_eq (Nat.zero_add _)⟩ [] ⟨0, 10, 13, 25⟩ [] htab (fun z hz => absurd hz List.not_mem_nil) (by decide) (by decide) (List.mem_of_getElem? (i := 1) rfl) (by decide +kernel) (fun q9 => ?_)
  refine y_astore C dL_needed_13 (Nat.le_of_ble_eq_true rfl) rfl ?_
  refine y_iconst C (v := nI 1) dL_needed_15 rfl ?_
  exact K _ _ _ _ _ dL_needed_16 rfl (Nat.le_of_eq (Nat.zero_add _)) (Nat.le_of_eq (Nat.zero_add _))
set_option maxRecDepth 100000 in
theorem h_there_ok {l : Launch} {sa : Nat → Nat} {D : va_G} {cI cJ : ClassId} {x o : Nat} (p0 : Int32) (p1 : Int32) {wc wc' : va_W} {r : Int32} {d mc ms : Nat} {f : Nat → Int64} {fs : List Value} (hM : ctI l yX3_there wsX3_there (rmD d mc ms) D [(cI, .int)] [.ref x, .int p0, .int p1] wc wc' r mc ms) (hq : wc[0]? = some (x, .inr (3, fs))) : ctH l yL_there wsL_there (rmD (d + 1) mc ms) sa D [(cI, .int), (cJ, .long)] [.ref x, .int p0, .int p1, .ref o] (WO cJ o f ++ wc) (WO cJ o (vp_updL f 0 r.toInt64) ++ wc') (nI 0) mc ms := by
  refine ctH_of (by decide) rfl (Nat.le_of_ble_eq_true rfl) ?_
  intro p e s m args below meth c A Q C htab hE K
  refine y_lv (lv' := [(0, .ref x), (1, .int p0), (2, .int p1), (3, .ref o)]) rfl ?_
  refine y_aload_n C 3 dL_there_0 rfl rfl ?_
  refine y_iconst C (v := nI 0) dL_there_1 rfl ?_
  refine y_aload_n C 0 dL_there_2 rfl rfl ?_
  refine y_iload_n C 1 dL_there_3 rfl rfl ?_
  refine y_iload_n C 2 dL_there_4 rfl rfl ?_
  refine y_callI C.s1 (wr := WO cJ o f) (st := [.int (nI 0), .ref o]) 2 hM gL_there_X3_there rfl rfl rfl (by decide +kernel) ⟨Nat.le_refl _, by show 8 + (3 + 11) + 30 * d ≤ 30 * (d + 1); omega⟩ (q0 := 0) (ci := 3) hq rfl rfl rfl rfl (Nat.le_of_ble_eq_true rfl) dL_there_5 ⟨Nat.le_of_eq (Nat.zero_add _), Nat.le_of_eq (Nat.zero_add _)⟩ ?_
  refine y_i2l C dL_there_8 rfl ?_
  refine y_last C (q0 := 0) (t0 := 1) (j := 0) (ws' := WO cJ o (vp_updL f 0 r.toInt64) ++ wc') rfl rfl (Nat.le_of_ble_eq_true rfl) (Nat.le_of_ble_eq_true rfl) rfl dL_there_9 ?_
  refine y_goto C (tgt := 17) dL_there_10 rfl ?_
  refine y_iconst C (v := nI 0) dL_there_17 rfl ?_
  exact K _ _ _ _ _ dL_there_18 rfl (Nat.le_of_eq (Nat.zero_add _)) (Nat.le_of_eq (Nat.zero_add _))
set_option maxRecDepth 100000 in
theorem h_there_I {l : Launch} {sa : Nat → Nat} {D : va_G} {cI cJ : ClassId} {x o : Nat} (p0 : Int32) (p1 : Int32) {wc wc' : va_W} {d mc ms : Nat} {f : Nat → Int64} {fs : List Value} (hM : ctX l yX3_there wsX3_there (rmD d mc ms) sa D [(cI, .int)] [.ref x, .int p0, .int p1] wc wc' exI mc ms) (hq : wc[0]? = some (x, .inr (3, fs))) : ctH l yL_there wsL_there (rmD (d + 1) mc ms) sa D [(cI, .int), (cJ, .long)] [.ref x, .int p0, .int p1, .ref o] (WO cJ o f ++ wc) (WO cJ o f ++ wc') (nI 1) mc ms := by
  refine ctH_of (by decide) rfl (Nat.le_of_ble_eq_true rfl) ?_
  intro p e s m args below meth c A Q C htab hE K
  refine y_lv (lv' := [(0, .ref x), (1, .int p0), (2, .int p1), (3, .ref o)]) rfl ?_
  refine y_aload_n C 3 dL_there_0 rfl rfl ?_
  refine y_iconst C (v := nI 0) dL_there_1 rfl ?_
  refine y_aload_n C 0 dL_there_2 rfl rfl ?_
  refine y_iload_n C 1 dL_there_3 rfl rfl ?_
  refine y_iload_n C 2 dL_there_4 rfl rfl ?_
  refine y_callC C.s1 hE (name := "") (wr := WO cJ o f) (st := [.int (nI 0), .ref o]) 2 hM gL_there_X3_there rfl rfl rfl (by decide +kernel) ⟨Nat.le_refl _, by show 8 + (3 + 11) + 30 * d ≤ 30 * (d + 1); omega⟩ (q0 := 0) (ci := 3) hq rfl rfl rfl rfl (Nat.le_of_ble_eq_true rfl) dL_there_5 ⟨Nat.le_of_eq (Nat.zero_add _), Nat.le_of_eq (Nat.zero_add _)⟩ [] ⟨0, 10, 13, 25⟩ [] htab (fun z hz => absurd hz List.not_mem_nil) (by decide) (by decide) (List.mem_of_getElem? (i := 1) rfl) (by decide +kernel) (fun q9 => ?_)
  refine y_astore C dL_there_13 (Nat.le_of_ble_eq_true rfl) rfl ?_
  refine y_iconst C (v := nI 1) dL_there_15 rfl ?_
  exact K _ _ _ _ _ dL_there_16 rfl (Nat.le_of_eq (Nat.zero_add _)) (Nat.le_of_eq (Nat.zero_add _))
set_option maxRecDepth 100000 in
theorem h_earliest_ok {l : Launch} {sa : Nat → Nat} {D : va_G} {cI cJ : ClassId} {x o : Nat} (p0 : Int32) {wc wc' : va_W} {r : Int32} {d mc ms : Nat} {f : Nat → Int64} {fs : List Value} (hM : ctI l yX3_earliest wsX3_earliest (rmD d mc ms) D [(cI, .int)] [.ref x, .int p0] wc wc' r mc ms) (hq : wc[0]? = some (x, .inr (3, fs))) : ctH l yL_earliest wsL_earliest (rmD (d + 1) mc ms) sa D [(cI, .int), (cJ, .long)] [.ref x, .int p0, .ref o] (WO cJ o f ++ wc) (WO cJ o (vp_updL f 0 r.toInt64) ++ wc') (nI 0) mc ms := by
  refine ctH_of (by decide) rfl (Nat.le_of_ble_eq_true rfl) ?_
  intro p e s m args below meth c A Q C htab hE K
  refine y_lv (lv' := [(0, .ref x), (1, .int p0), (2, .ref o)]) rfl ?_
  refine y_aload_n C 2 dL_earliest_0 rfl rfl ?_
  refine y_iconst C (v := nI 0) dL_earliest_1 rfl ?_
  refine y_aload_n C 0 dL_earliest_2 rfl rfl ?_
  refine y_iload_n C 1 dL_earliest_3 rfl rfl ?_
  refine y_callI C.s1 (wr := WO cJ o f) (st := [.int (nI 0), .ref o]) 1 hM gL_earliest_X3_earliest rfl rfl rfl (by decide +kernel) ⟨Nat.le_refl _, by show 8 + (2 + 11) + 30 * d ≤ 30 * (d + 1); omega⟩ (q0 := 0) (ci := 3) hq rfl rfl rfl rfl (Nat.le_of_ble_eq_true rfl) dL_earliest_4 ⟨Nat.le_of_eq (Nat.zero_add _), Nat.le_of_eq (Nat.zero_add _)⟩ ?_
  refine y_i2l C dL_earliest_7 rfl ?_
  refine y_last C (q0 := 0) (t0 := 1) (j := 0) (ws' := WO cJ o (vp_updL f 0 r.toInt64) ++ wc') rfl rfl (Nat.le_of_ble_eq_true rfl) (Nat.le_of_ble_eq_true rfl) rfl dL_earliest_8 ?_
  refine y_goto C (tgt := 15) dL_earliest_9 rfl ?_
  refine y_iconst C (v := nI 0) dL_earliest_15 rfl ?_
  exact K _ _ _ _ _ dL_earliest_16 rfl (Nat.le_of_eq (Nat.zero_add _)) (Nat.le_of_eq (Nat.zero_add _))
set_option maxRecDepth 100000 in
theorem h_earliest_I {l : Launch} {sa : Nat → Nat} {D : va_G} {cI cJ : ClassId} {x o : Nat} (p0 : Int32) {wc wc' : va_W} {d mc ms : Nat} {f : Nat → Int64} {fs : List Value} (hM : ctX l yX3_earliest wsX3_earliest (rmD d mc ms) sa D [(cI, .int)] [.ref x, .int p0] wc wc' exI mc ms) (hq : wc[0]? = some (x, .inr (3, fs))) : ctH l yL_earliest wsL_earliest (rmD (d + 1) mc ms) sa D [(cI, .int), (cJ, .long)] [.ref x, .int p0, .ref o] (WO cJ o f ++ wc) (WO cJ o f ++ wc') (nI 1) mc ms := by
  refine ctH_of (by decide) rfl (Nat.le_of_ble_eq_true rfl) ?_
  intro p e s m args below meth c A Q C htab hE K
  refine y_lv (lv' := [(0, .ref x), (1, .int p0), (2, .ref o)]) rfl ?_
  refine y_aload_n C 2 dL_earliest_0 rfl rfl ?_
  refine y_iconst C (v := nI 0) dL_earliest_1 rfl ?_
  refine y_aload_n C 0 dL_earliest_2 rfl rfl ?_
  refine y_iload_n C 1 dL_earliest_3 rfl rfl ?_
  refine y_callC C.s1 hE (name := "") (wr := WO cJ o f) (st := [.int (nI 0), .ref o]) 1 hM gL_earliest_X3_earliest rfl rfl rfl (by decide +kernel) ⟨Nat.le_refl _, by show 8 + (2 + 11) + 30 * d ≤ 30 * (d + 1); omega⟩ (q0 := 0) (ci := 3) hq rfl rfl rfl rfl (Nat.le_of_ble_eq_true rfl) dL_earliest_4 ⟨Nat.le_of_eq (Nat.zero_add _), Nat.le_of_eq (Nat.zero_add _)⟩ [] ⟨0, 9, 12, 25⟩ [] htab (fun z hz => absurd hz List.not_mem_nil) (by decide) (by decide) (List.mem_of_getElem? (i := 1) rfl) (by decide +kernel) (fun q9 => ?_)
  refine y_astore_n C dL_earliest_12 rfl (Nat.le_of_ble_eq_true rfl) rfl ?_
  refine y_iconst C (v := nI 1) dL_earliest_13 rfl ?_
  exact K _ _ _ _ _ dL_earliest_14 rfl (Nat.le_of_eq (Nat.zero_add _)) (Nat.le_of_eq (Nat.zero_add _))
set_option maxRecDepth 100000 in
theorem h_delayedOn_ok {l : Launch} {sa : Nat → Nat} {D : va_G} {cI cJ : ClassId} {x o : Nat} (p0 : Int32) {wc wc' : va_W} {r : Int32} {d mc ms : Nat} {f : Nat → Int64} {fs : List Value} (hM : ctI l yX3_delayedOn wsX3_delayedOn (rmD d mc ms) D [(cI, .int)] [.ref x, .int p0] wc wc' r mc ms) (hq : wc[0]? = some (x, .inr (3, fs))) : ctH l yL_delayedOn wsL_delayedOn (rmD (d + 1) mc ms) sa D [(cI, .int), (cJ, .long)] [.ref x, .int p0, .ref o] (WO cJ o f ++ wc) (WO cJ o (vp_updL f 0 r.toInt64) ++ wc') (nI 0) mc ms := by
  refine ctH_of (by decide) rfl (Nat.le_of_ble_eq_true rfl) ?_
  intro p e s m args below meth c A Q C htab hE K
  refine y_lv (lv' := [(0, .ref x), (1, .int p0), (2, .ref o)]) rfl ?_
  refine y_aload_n C 2 dL_delayedOn_0 rfl rfl ?_
  refine y_iconst C (v := nI 0) dL_delayedOn_1 rfl ?_
  refine y_aload_n C 0 dL_delayedOn_2 rfl rfl ?_
  refine y_iload_n C 1 dL_delayedOn_3 rfl rfl ?_
  refine y_callI C.s1 (wr := WO cJ o f) (st := [.int (nI 0), .ref o]) 1 hM gL_delayedOn_X3_delayedOn rfl rfl rfl (by decide +kernel) ⟨Nat.le_refl _, by show 8 + (2 + 11) + 30 * d ≤ 30 * (d + 1); omega⟩ (q0 := 0) (ci := 3) hq rfl rfl rfl rfl (Nat.le_of_ble_eq_true rfl) dL_delayedOn_4 ⟨Nat.le_of_eq (Nat.zero_add _), Nat.le_of_eq (Nat.zero_add _)⟩ ?_
  refine y_i2l C dL_delayedOn_7 rfl ?_
  refine y_last C (q0 := 0) (t0 := 1) (j := 0) (ws' := WO cJ o (vp_updL f 0 r.toInt64) ++ wc') rfl rfl (Nat.le_of_ble_eq_true rfl) (Nat.le_of_ble_eq_true rfl) rfl dL_delayedOn_8 ?_
  refine y_goto C (tgt := 15) dL_delayedOn_9 rfl ?_
  refine y_iconst C (v := nI 0) dL_delayedOn_15 rfl ?_
  exact K _ _ _ _ _ dL_delayedOn_16 rfl (Nat.le_of_eq (Nat.zero_add _)) (Nat.le_of_eq (Nat.zero_add _))
set_option maxRecDepth 100000 in
theorem h_delayedOn_I {l : Launch} {sa : Nat → Nat} {D : va_G} {cI cJ : ClassId} {x o : Nat} (p0 : Int32) {wc wc' : va_W} {d mc ms : Nat} {f : Nat → Int64} {fs : List Value} (hM : ctX l yX3_delayedOn wsX3_delayedOn (rmD d mc ms) sa D [(cI, .int)] [.ref x, .int p0] wc wc' exI mc ms) (hq : wc[0]? = some (x, .inr (3, fs))) : ctH l yL_delayedOn wsL_delayedOn (rmD (d + 1) mc ms) sa D [(cI, .int), (cJ, .long)] [.ref x, .int p0, .ref o] (WO cJ o f ++ wc) (WO cJ o f ++ wc') (nI 1) mc ms := by
  refine ctH_of (by decide) rfl (Nat.le_of_ble_eq_true rfl) ?_
  intro p e s m args below meth c A Q C htab hE K
  refine y_lv (lv' := [(0, .ref x), (1, .int p0), (2, .ref o)]) rfl ?_
  refine y_aload_n C 2 dL_delayedOn_0 rfl rfl ?_
  refine y_iconst C (v := nI 0) dL_delayedOn_1 rfl ?_
  refine y_aload_n C 0 dL_delayedOn_2 rfl rfl ?_
  refine y_iload_n C 1 dL_delayedOn_3 rfl rfl ?_
  refine y_callC C.s1 hE (name := "") (wr := WO cJ o f) (st := [.int (nI 0), .ref o]) 1 hM gL_delayedOn_X3_delayedOn rfl rfl rfl (by decide +kernel) ⟨Nat.le_refl _, by show 8 + (2 + 11) + 30 * d ≤ 30 * (d + 1); omega⟩ (q0 := 0) (ci := 3) hq rfl rfl rfl rfl (Nat.le_of_ble_eq_true rfl) dL_delayedOn_4 ⟨Nat.le_of_eq (Nat.zero_add _), Nat.le_of_eq (Nat.zero_add _)⟩ [] ⟨0, 9, 12, 25⟩ [] htab (fun z hz => absurd hz List.not_mem_nil) (by decide) (by decide) (List.mem_of_getElem? (i := 1) rfl) (by decide +kernel) (fun q9 => ?_)
  refine y_astore_n C dL_delayedOn_12 rfl (Nat.le_of_ble_eq_true rfl) rfl ?_
  refine y_iconst C (v := nI 1) dL_delayedOn_13 rfl ?_
  exact K _ _ _ _ _ dL_delayedOn_14 rfl (Nat.le_of_eq (Nat.zero_add _)) (Nat.le_of_eq (Nat.zero_add _))
set_option maxRecDepth 100000 in
theorem h_delayedAt_ok {l : Launch} {sa : Nat → Nat} {D : va_G} {cI cJ : ClassId} {x o : Nat} (p0 : Int32) {wc wc' : va_W} {r : Int32} {d mc ms : Nat} {f : Nat → Int64} {fs : List Value} (hM : ctI l yX3_delayedAt wsX3_delayedAt (rmD d mc ms) D [(cI, .int)] [.ref x, .int p0] wc wc' r mc ms) (hq : wc[0]? = some (x, .inr (3, fs))) : ctH l yL_delayedAt wsL_delayedAt (rmD (d + 1) mc ms) sa D [(cI, .int), (cJ, .long)] [.ref x, .int p0, .ref o] (WO cJ o f ++ wc) (WO cJ o (vp_updL f 0 r.toInt64) ++ wc') (nI 0) mc ms := by
  refine ctH_of (by decide) rfl (Nat.le_of_ble_eq_true rfl) ?_
  intro p e s m args below meth c A Q C htab hE K
  refine y_lv (lv' := [(0, .ref x), (1, .int p0), (2, .ref o)]) rfl ?_
  refine y_aload_n C 2 dL_delayedAt_0 rfl rfl ?_
  refine y_iconst C (v := nI 0) dL_delayedAt_1 rfl ?_
  refine y_aload_n C 0 dL_delayedAt_2 rfl rfl ?_
  refine y_iload_n C 1 dL_delayedAt_3 rfl rfl ?_
  refine y_callI C.s1 (wr := WO cJ o f) (st := [.int (nI 0), .ref o]) 1 hM gL_delayedAt_X3_delayedAt rfl rfl rfl (by decide +kernel) ⟨Nat.le_refl _, by show 8 + (2 + 11) + 30 * d ≤ 30 * (d + 1); omega⟩ (q0 := 0) (ci := 3) hq rfl rfl rfl rfl (Nat.le_of_ble_eq_true rfl) dL_delayedAt_4 ⟨Nat.le_of_eq (Nat.zero_add _), Nat.le_of_eq (Nat.zero_add _)⟩ ?_
  refine y_i2l C dL_delayedAt_7 rfl ?_
  refine y_last C (q0 := 0) (t0 := 1) (j := 0) (ws' := WO cJ o (vp_updL f 0 r.toInt64) ++ wc') rfl rfl (Nat.le_of_ble_eq_true rfl) (Nat.le_of_ble_eq_true rfl) rfl dL_delayedAt_8 ?_
  refine y_goto C (tgt := 15) dL_delayedAt_9 rfl ?_
  refine y_iconst C (v := nI 0) dL_delayedAt_15 rfl ?_
  exact K _ _ _ _ _ dL_delayedAt_16 rfl (Nat.le_of_eq (Nat.zero_add _)) (Nat.le_of_eq (Nat.zero_add _))
set_option maxRecDepth 100000 in
theorem h_delayedAt_I {l : Launch} {sa : Nat → Nat} {D : va_G} {cI cJ : ClassId} {x o : Nat} (p0 : Int32) {wc wc' : va_W} {d mc ms : Nat} {f : Nat → Int64} {fs : List Value} (hM : ctX l yX3_delayedAt wsX3_delayedAt (rmD d mc ms) sa D [(cI, .int)] [.ref x, .int p0] wc wc' exI mc ms) (hq : wc[0]? = some (x, .inr (3, fs))) : ctH l yL_delayedAt wsL_delayedAt (rmD (d + 1) mc ms) sa D [(cI, .int), (cJ, .long)] [.ref x, .int p0, .ref o] (WO cJ o f ++ wc) (WO cJ o f ++ wc') (nI 1) mc ms := by
  refine ctH_of (by decide) rfl (Nat.le_of_ble_eq_true rfl) ?_
  intro p e s m args below meth c A Q C htab hE K
  refine y_lv (lv' := [(0, .ref x), (1, .int p0), (2, .ref o)]) rfl ?_
  refine y_aload_n C 2 dL_delayedAt_0 rfl rfl ?_
  refine y_iconst C (v := nI 0) dL_delayedAt_1 rfl ?_
  refine y_aload_n C 0 dL_delayedAt_2 rfl rfl ?_
  refine y_iload_n C 1 dL_delayedAt_3 rfl rfl ?_
  refine y_callC C.s1 hE (name := "") (wr := WO cJ o f) (st := [.int (nI 0), .ref o]) 1 hM gL_delayedAt_X3_delayedAt rfl rfl rfl (by decide +kernel) ⟨Nat.le_refl _, by show 8 + (2 + 11) + 30 * d ≤ 30 * (d + 1); omega⟩ (q0 := 0) (ci := 3) hq rfl rfl rfl rfl (Nat.le_of_ble_eq_true rfl) dL_delayedAt_4 ⟨Nat.le_of_eq (Nat.zero_add _), Nat.le_of_eq (Nat.zero_add _)⟩ [] ⟨0, 9, 12, 25⟩ [] htab (fun z hz => absurd hz List.not_mem_nil) (by decide) (by decide) (List.mem_of_getElem? (i := 1) rfl) (by decide +kernel) (fun q9 => ?_)
  refine y_astore_n C dL_delayedAt_12 rfl (Nat.le_of_ble_eq_true rfl) rfl ?_
  refine y_iconst C (v := nI 1) dL_delayedAt_13 rfl ?_
  exact K _ _ _ _ _ dL_delayedAt_14 rfl (Nat.le_of_eq (Nat.zero_add _)) (Nat.le_of_eq (Nat.zero_add _))
set_option maxRecDepth 100000 in
theorem h_insertions_ok {l : Launch} {sa : Nat → Nat} {D : va_G} {cI cJ : ClassId} {x o : Nat} (p0 : Int32) {wc wc' : va_W} {r : Int32} {d mc ms : Nat} {f : Nat → Int64} {fs : List Value} (hM : ctI l yX3_insertions wsX3_insertions (rmD d mc ms) D [(cI, .int)] [.ref x, .int p0] wc wc' r mc ms) (hq : wc[0]? = some (x, .inr (3, fs))) : ctH l yL_insertions wsL_insertions (rmD (d + 1) mc ms) sa D [(cI, .int), (cJ, .long)] [.ref x, .int p0, .ref o] (WO cJ o f ++ wc) (WO cJ o (vp_updL f 0 r.toInt64) ++ wc') (nI 0) mc ms := by
  refine ctH_of (by decide) rfl (Nat.le_of_ble_eq_true rfl) ?_
  intro p e s m args below meth c A Q C htab hE K
  refine y_lv (lv' := [(0, .ref x), (1, .int p0), (2, .ref o)]) rfl ?_
  refine y_aload_n C 2 dL_insertions_0 rfl rfl ?_
  refine y_iconst C (v := nI 0) dL_insertions_1 rfl ?_
  refine y_aload_n C 0 dL_insertions_2 rfl rfl ?_
  refine y_iload_n C 1 dL_insertions_3 rfl rfl ?_
  refine y_callI C.s1 (wr := WO cJ o f) (st := [.int (nI 0), .ref o]) 1 hM gL_insertions_X3_insertions rfl rfl rfl (by decide +kernel) ⟨Nat.le_refl _, by show 8 + (2 + 11) + 30 * d ≤ 30 * (d + 1); omega⟩ (q0 := 0) (ci := 3) hq rfl rfl rfl rfl (Nat.le_of_ble_eq_true rfl) dL_insertions_4 ⟨Nat.le_of_eq (Nat.zero_add _), Nat.le_of_eq (Nat.zero_add _)⟩ ?_
  refine y_i2l C dL_insertions_7 rfl ?_
  refine y_last C (q0 := 0) (t0 := 1) (j := 0) (ws' := WO cJ o (vp_updL f 0 r.toInt64) ++ wc') rfl rfl (Nat.le_of_ble_eq_true rfl) (Nat.le_of_ble_eq_true rfl) rfl dL_insertions_8 ?_
  refine y_goto C (tgt := 15) dL_insertions_9 rfl ?_
  refine y_iconst C (v := nI 0) dL_insertions_15 rfl ?_
  exact K _ _ _ _ _ dL_insertions_16 rfl (Nat.le_of_eq (Nat.zero_add _)) (Nat.le_of_eq (Nat.zero_add _))
set_option maxRecDepth 100000 in
theorem h_insertions_I {l : Launch} {sa : Nat → Nat} {D : va_G} {cI cJ : ClassId} {x o : Nat} (p0 : Int32) {wc wc' : va_W} {d mc ms : Nat} {f : Nat → Int64} {fs : List Value} (hM : ctX l yX3_insertions wsX3_insertions (rmD d mc ms) sa D [(cI, .int)] [.ref x, .int p0] wc wc' exI mc ms) (hq : wc[0]? = some (x, .inr (3, fs))) : ctH l yL_insertions wsL_insertions (rmD (d + 1) mc ms) sa D [(cI, .int), (cJ, .long)] [.ref x, .int p0, .ref o] (WO cJ o f ++ wc) (WO cJ o f ++ wc') (nI 1) mc ms := by
  refine ctH_of (by decide) rfl (Nat.le_of_ble_eq_true rfl) ?_
  intro p e s m args below meth c A Q C htab hE K
  refine y_lv (lv' := [(0, .ref x), (1, .int p0), (2, .ref o)]) rfl ?_
  refine y_aload_n C 2 dL_insertions_0 rfl rfl ?_
  refine y_iconst C (v := nI 0) dL_insertions_1 rfl ?_
  refine y_aload_n C 0 dL_insertions_2 rfl rfl ?_
  refine y_iload_n C 1 dL_insertions_3 rfl rfl ?_
  refine y_callC C.s1 hE (name := "") (wr := WO cJ o f) (st := [.int (nI 0), .ref o]) 1 hM gL_insertions_X3_insertions rfl rfl rfl (by decide +kernel) ⟨Nat.le_refl _, by show 8 + (2 + 11) + 30 * d ≤ 30 * (d + 1); omega⟩ (q0 := 0) (ci := 3) hq rfl rfl rfl rfl (Nat.le_of_ble_eq_true rfl) dL_insertions_4 ⟨Nat.le_of_eq (Nat.zero_add _), Nat.le_of_eq (Nat.zero_add _)⟩ [] ⟨0, 9, 12, 25⟩ [] htab (fun z hz => absurd hz List.not_mem_nil) (by decide) (by decide) (List.mem_of_getElem? (i := 1) rfl) (by decide +kernel) (fun q9 => ?_)
  refine y_astore_n C dL_insertions_12 rfl (Nat.le_of_ble_eq_true rfl) rfl ?_
  refine y_iconst C (v := nI 1) dL_insertions_13 rfl ?_
  exact K _ _ _ _ _ dL_insertions_14 rfl (Nat.le_of_eq (Nat.zero_add _)) (Nat.le_of_eq (Nat.zero_add _))
set_option maxRecDepth 100000 in
theorem h_deletions_ok {l : Launch} {sa : Nat → Nat} {D : va_G} {cI cJ : ClassId} {x o : Nat} (p0 : Int32) {wc wc' : va_W} {r : Int32} {d mc ms : Nat} {f : Nat → Int64} {fs : List Value} (hM : ctI l yX3_deletions wsX3_deletions (rmD d mc ms) D [(cI, .int)] [.ref x, .int p0] wc wc' r mc ms) (hq : wc[0]? = some (x, .inr (3, fs))) : ctH l yL_deletions wsL_deletions (rmD (d + 1) mc ms) sa D [(cI, .int), (cJ, .long)] [.ref x, .int p0, .ref o] (WO cJ o f ++ wc) (WO cJ o (vp_updL f 0 r.toInt64) ++ wc') (nI 0) mc ms := by
  refine ctH_of (by decide) rfl (Nat.le_of_ble_eq_true rfl) ?_
  intro p e s m args below meth c A Q C htab hE K
  refine y_lv (lv' := [(0, .ref x), (1, .int p0), (2, .ref o)]) rfl ?_
  refine y_aload_n C 2 dL_deletions_0 rfl rfl ?_
  refine y_iconst C (v := nI 0) dL_deletions_1 rfl ?_
  refine y_aload_n C 0 dL_deletions_2 rfl rfl ?_
  refine y_iload_n C 1 dL_deletions_3 rfl rfl ?_
  refine y_callI C.s1 (wr := WO cJ o f) (st := [.int (nI 0), .ref o]) 1 hM gL_deletions_X3_deletions rfl rfl rfl (by decide +kernel) ⟨Nat.le_refl _, by show 8 + (2 + 11) + 30 * d ≤ 30 * (d + 1); omega⟩ (q0 := 0) (ci := 3) hq rfl rfl rfl rfl (Nat.le_of_ble_eq_true rfl) dL_deletions_4 ⟨Nat.le_of_eq (Nat.zero_add _), Nat.le_of_eq (Nat.zero_add _)⟩ ?_
  refine y_i2l C dL_deletions_7 rfl ?_
  refine y_last C (q0 := 0) (t0 := 1) (j := 0) (ws' := WO cJ o (vp_updL f 0 r.toInt64) ++ wc') rfl rfl (Nat.le_of_ble_eq_true rfl) (Nat.le_of_ble_eq_true rfl) rfl dL_deletions_8 ?_
  refine y_goto C (tgt := 15) dL_deletions_9 rfl ?_
  refine y_iconst C (v := nI 0) dL_deletions_15 rfl ?_
  exact K _ _ _ _ _ dL_deletions_16 rfl (Nat.le_of_eq (Nat.zero_add _)) (Nat.le_of_eq (Nat.zero_add _))
set_option maxRecDepth 100000 in
theorem h_deletions_I {l : Launch} {sa : Nat → Nat} {D : va_G} {cI cJ : ClassId} {x o : Nat} (p0 : Int32) {wc wc' : va_W} {d mc ms : Nat} {f : Nat → Int64} {fs : List Value} (hM : ctX l yX3_deletions wsX3_deletions (rmD d mc ms) sa D [(cI, .int)] [.ref x, .int p0] wc wc' exI mc ms) (hq : wc[0]? = some (x, .inr (3, fs))) : ctH l yL_deletions wsL_deletions (rmD (d + 1) mc ms) sa D [(cI, .int), (cJ, .long)] [.ref x, .int p0, .ref o] (WO cJ o f ++ wc) (WO cJ o f ++ wc') (nI 1) mc ms := by
  refine ctH_of (by decide) rfl (Nat.le_of_ble_eq_true rfl) ?_
  intro p e s m args below meth c A Q C htab hE K
  refine y_lv (lv' := [(0, .ref x), (1, .int p0), (2, .ref o)]) rfl ?_
  refine y_aload_n C 2 dL_deletions_0 rfl rfl ?_
  refine y_iconst C (v := nI 0) dL_deletions_1 rfl ?_
  refine y_aload_n C 0 dL_deletions_2 rfl rfl ?_
  refine y_iload_n C 1 dL_deletions_3 rfl rfl ?_
  refine y_callC C.s1 hE (name := "") (wr := WO cJ o f) (st := [.int (nI 0), .ref o]) 1 hM gL_deletions_X3_deletions rfl rfl rfl (by decide +kernel) ⟨Nat.le_refl _, by show 8 + (2 + 11) + 30 * d ≤ 30 * (d + 1); omega⟩ (q0 := 0) (ci := 3) hq rfl rfl rfl rfl (Nat.le_of_ble_eq_true rfl) dL_deletions_4 ⟨Nat.le_of_eq (Nat.zero_add _), Nat.le_of_eq (Nat.zero_add _)⟩ [] ⟨0, 9, 12, 25⟩ [] htab (fun z hz => absurd hz List.not_mem_nil) (by decide) (by decide) (List.mem_of_getElem? (i := 1) rfl) (by decide +kernel) (fun q9 => ?_)
  refine y_astore_n C dL_deletions_12 rfl (Nat.le_of_ble_eq_true rfl) rfl ?_
  refine y_iconst C (v := nI 1) dL_deletions_13 rfl ?_
  exact K _ _ _ _ _ dL_deletions_14 rfl (Nat.le_of_eq (Nat.zero_add _)) (Nat.le_of_eq (Nat.zero_add _))
set_option maxRecDepth 100000 in
theorem h_move_ok {l : Launch} {sa : Nat → Nat} {D : va_G} {cI cJ : ClassId} {x o : Nat}  {wc wc' : va_W} {r : Int32} {d mc ms : Nat} {f : Nat → Int64} {fs : List Value} (hM : ctI l yX3_move wsX3_move (rmD d mc ms) D [(cI, .int)] [.ref x] wc wc' r mc ms) (hq : wc[0]? = some (x, .inr (3, fs))) : ctH l yL_move wsL_move (rmD (d + 1) mc ms) sa D [(cI, .int), (cJ, .long)] [.ref x, .ref o] (WO cJ o f ++ wc) (WO cJ o (vp_updL f 0 r.toInt64) ++ wc') (nI 0) mc ms := by
  refine ctH_of (by decide) rfl (Nat.le_of_ble_eq_true rfl) ?_
  intro p e s m args below meth c A Q C htab hE K
  refine y_lv (lv' := [(0, .ref x), (1, .ref o)]) rfl ?_
  refine y_aload_n C 1 dL_move_0 rfl rfl ?_
  refine y_iconst C (v := nI 0) dL_move_1 rfl ?_
  refine y_aload_n C 0 dL_move_2 rfl rfl ?_
  refine y_callI C.s1 (wr := WO cJ o f) (st := [.int (nI 0), .ref o]) 0 hM gL_move_X3_move rfl rfl rfl (by decide +kernel) ⟨Nat.le_refl _, by show 8 + (2 + 11) + 30 * d ≤ 30 * (d + 1); omega⟩ (q0 := 0) (ci := 3) hq rfl rfl rfl rfl (Nat.le_of_ble_eq_true rfl) dL_move_3 ⟨Nat.le_of_eq (Nat.zero_add _), Nat.le_of_eq (Nat.zero_add _)⟩ ?_
  refine y_i2l C dL_move_6 rfl ?_
  refine y_last C (q0 := 0) (t0 := 1) (j := 0) (ws' := WO cJ o (vp_updL f 0 r.toInt64) ++ wc') rfl rfl (Nat.le_of_ble_eq_true rfl) (Nat.le_of_ble_eq_true rfl) rfl dL_move_7 ?_
  refine y_goto C (tgt := 14) dL_move_8 rfl ?_
  refine y_iconst C (v := nI 0) dL_move_14 rfl ?_
  exact K _ _ _ _ _ dL_move_15 rfl (Nat.le_of_eq (Nat.zero_add _)) (Nat.le_of_eq (Nat.zero_add _))
set_option maxRecDepth 100000 in
theorem h_move_S {l : Launch} {sa : Nat → Nat} {D : va_G} {cI cJ : ClassId} {x o : Nat}  {wc wc' : va_W} {d mc ms : Nat} {f : Nat → Int64} {fs : List Value} (hM : ctX l yX3_move wsX3_move (rmD d mc ms) sa D [(cI, .int)] [.ref x] wc wc' exS mc ms) (hq : wc[0]? = some (x, .inr (3, fs))) : ctH l yL_move wsL_move (rmD (d + 1) mc ms) sa D [(cI, .int), (cJ, .long)] [.ref x, .ref o] (WO cJ o f ++ wc) (WO cJ o f ++ wc') (nI 1) mc ms := by
  refine ctH_of (by decide) rfl (Nat.le_of_ble_eq_true rfl) ?_
  intro p e s m args below meth c A Q C htab hE K
  refine y_lv (lv' := [(0, .ref x), (1, .ref o)]) rfl ?_
  refine y_aload_n C 1 dL_move_0 rfl rfl ?_
  refine y_iconst C (v := nI 0) dL_move_1 rfl ?_
  refine y_aload_n C 0 dL_move_2 rfl rfl ?_
  refine y_callC C.s1 hE (name := "") (wr := WO cJ o f) (st := [.int (nI 0), .ref o]) 0 hM gL_move_X3_move rfl rfl rfl (by decide +kernel) ⟨Nat.le_refl _, by show 8 + (2 + 11) + 30 * d ≤ 30 * (d + 1); omega⟩ (q0 := 0) (ci := 3) hq rfl rfl rfl rfl (Nat.le_of_ble_eq_true rfl) dL_move_3 ⟨Nat.le_of_eq (Nat.zero_add _), Nat.le_of_eq (Nat.zero_add _)⟩ [] ⟨0, 8, 11, 15⟩ [] htab (fun z hz => absurd hz List.not_mem_nil) (by decide) (by decide) (List.mem_of_getElem? (i := 1) rfl) (by decide +kernel) (fun q9 => ?_)
  refine y_astore_n C dL_move_11 rfl (Nat.le_of_ble_eq_true rfl) rfl ?_
  refine y_iconst C (v := nI 1) dL_move_12 rfl ?_
  exact K _ _ _ _ _ dL_move_13 rfl (Nat.le_of_eq (Nat.zero_add _)) (Nat.le_of_eq (Nat.zero_add _))
set_option maxRecDepth 100000 in
theorem h_walk_ok {l : Launch} {sa : Nat → Nat} {D : va_G} {cI cJ : ClassId} {x o : Nat} (p0 : Int64) (p1 : Int32) {wc wc' : va_W} {r : Int32} {d mc ms : Nat} {f : Nat → Int64} {fs : List Value} (hM : ctI l yX3_walk wsX3_walk (rmD d mc ms) D [(cI, .int)] [.ref x, .long p0, .int p1] wc wc' r mc ms) (hq : wc[0]? = some (x, .inr (3, fs))) : ctH l yL_walk wsL_walk (rmD (d + 1) mc ms) sa D [(cI, .int), (cJ, .long)] [.ref x, .long p0, .int p1, .ref o] (WO cJ o f ++ wc) (WO cJ o (vp_updL f 0 r.toInt64) ++ wc') (nI 0) mc ms := by
  refine ctH_of (by decide) rfl (Nat.le_of_ble_eq_true rfl) ?_
  intro p e s m args below meth c A Q C htab hE K
  refine y_lv (lv' := [(0, .ref x), (1, .long p0), (3, .int p1), (4, .ref o)]) rfl ?_
  refine y_aload C 3 dL_walk_0 rfl ?_
  refine y_iconst C (v := nI 0) dL_walk_2 rfl ?_
  refine y_aload_n C 0 dL_walk_3 rfl rfl ?_
  refine y_lload_n C 1 dL_walk_4 rfl rfl ?_
  refine y_iload_n C 2 dL_walk_5 rfl rfl ?_
  refine y_callI C.s1 (wr := WO cJ o f) (st := [.int (nI 0), .ref o]) 2 hM gL_walk_X3_walk rfl rfl rfl (by decide +kernel) ⟨Nat.le_refl _, by show 8 + (4 + 11) + 30 * d ≤ 30 * (d + 1); omega⟩ (q0 := 0) (ci := 3) hq rfl rfl rfl rfl (Nat.le_of_ble_eq_true rfl) dL_walk_6 ⟨Nat.le_of_eq (Nat.zero_add _), Nat.le_of_eq (Nat.zero_add _)⟩ ?_
  refine y_i2l C dL_walk_9 rfl ?_
  refine y_last C (q0 := 0) (t0 := 1) (j := 0) (ws' := WO cJ o (vp_updL f 0 r.toInt64) ++ wc') rfl rfl (Nat.le_of_ble_eq_true rfl) (Nat.le_of_ble_eq_true rfl) rfl dL_walk_10 ?_
  refine y_goto C (tgt := 18) dL_walk_11 rfl ?_
  refine y_iconst C (v := nI 0) dL_walk_18 rfl ?_
  exact K _ _ _ _ _ dL_walk_19 rfl (Nat.le_of_eq (Nat.zero_add _)) (Nat.le_of_eq (Nat.zero_add _))
set_option maxRecDepth 100000 in
theorem h_walk_A {l : Launch} {sa : Nat → Nat} {D : va_G} {cI cJ : ClassId} {x o : Nat} (p0 : Int64) (p1 : Int32) {wc wc' : va_W} {d mc ms : Nat} {f : Nat → Int64} {fs : List Value} (hM : ctX l yX3_walk wsX3_walk (rmD d mc ms) sa D [(cI, .int)] [.ref x, .long p0, .int p1] wc wc' exA mc ms) (hq : wc[0]? = some (x, .inr (3, fs))) : ctH l yL_walk wsL_walk (rmD (d + 1) mc ms) sa D [(cI, .int), (cJ, .long)] [.ref x, .long p0, .int p1, .ref o] (WO cJ o f ++ wc) (WO cJ o f ++ wc') (nI 1) mc ms := by
  refine ctH_of (by decide) rfl (Nat.le_of_ble_eq_true rfl) ?_
  intro p e s m args below meth c A Q C htab hE K
  refine y_lv (lv' := [(0, .ref x), (1, .long p0), (3, .int p1), (4, .ref o)]) rfl ?_
  refine y_aload C 3 dL_walk_0 rfl ?_
  refine y_iconst C (v := nI 0) dL_walk_2 rfl ?_
  refine y_aload_n C 0 dL_walk_3 rfl rfl ?_
  refine y_lload_n C 1 dL_walk_4 rfl rfl ?_
  refine y_iload_n C 2 dL_walk_5 rfl rfl ?_
  refine y_callC C.s1 hE (name := "") (wr := WO cJ o f) (st := [.int (nI 0), .ref o]) 2 hM gL_walk_X3_walk rfl rfl rfl (by decide +kernel) ⟨Nat.le_refl _, by show 8 + (4 + 11) + 30 * d ≤ 30 * (d + 1); omega⟩ (q0 := 0) (ci := 3) hq rfl rfl rfl rfl (Nat.le_of_ble_eq_true rfl) dL_walk_6 ⟨Nat.le_of_eq (Nat.zero_add _), Nat.le_of_eq (Nat.zero_add _)⟩ [] ⟨0, 11, 14, 13⟩ [] htab (fun z hz => absurd hz List.not_mem_nil) (by decide) (by decide) (List.mem_of_getElem? (i := 1) rfl) (by decide +kernel) (fun q9 => ?_)
  refine y_astore C dL_walk_14 (Nat.le_of_ble_eq_true rfl) rfl ?_
  refine y_iconst C (v := nI 1) dL_walk_16 rfl ?_
  exact K _ _ _ _ _ dL_walk_17 rfl (Nat.le_of_eq (Nat.zero_add _)) (Nat.le_of_eq (Nat.zero_add _))
set_option maxRecDepth 100000 in
theorem h_computed_ok {l : Launch} {sa : Nat → Nat} {D : va_G} {cI cJ : ClassId} {x o : Nat} (p0 : Int32) {wc wc' : va_W} {r : Int32} {d mc ms : Nat} {f : Nat → Int64} {fs : List Value} (hM : ctI l yX3_computed wsX3_computed (rmD d mc ms) D [(cI, .int)] [.ref x, .int p0] wc wc' r mc ms) (hq : wc[0]? = some (x, .inr (3, fs))) : ctH l yL_computed wsL_computed (rmD (d + 1) mc ms) sa D [(cI, .int), (cJ, .long)] [.ref x, .int p0, .ref o] (WO cJ o f ++ wc) (WO cJ o (vp_updL f 0 r.toInt64) ++ wc') (nI 0) mc ms := by
  refine ctH_of (by decide) rfl (Nat.le_of_ble_eq_true rfl) ?_
  intro p e s m args below meth c A Q C htab hE K
  refine y_lv (lv' := [(0, .ref x), (1, .int p0), (2, .ref o)]) rfl ?_
  refine y_aload_n C 2 dL_computed_0 rfl rfl ?_
  refine y_iconst C (v := nI 0) dL_computed_1 rfl ?_
  refine y_aload_n C 0 dL_computed_2 rfl rfl ?_
  refine y_iload_n C 1 dL_computed_3 rfl rfl ?_
  refine y_callI C.s1 (wr := WO cJ o f) (st := [.int (nI 0), .ref o]) 1 hM gL_computed_X3_computed rfl rfl rfl (by decide +kernel) ⟨Nat.le_refl _, by show 8 + (2 + 11) + 30 * d ≤ 30 * (d + 1); omega⟩ (q0 := 0) (ci := 3) hq rfl rfl rfl rfl (Nat.le_of_ble_eq_true rfl) dL_computed_4 ⟨Nat.le_of_eq (Nat.zero_add _), Nat.le_of_eq (Nat.zero_add _)⟩ ?_
  refine y_i2l C dL_computed_7 rfl ?_
  refine y_last C (q0 := 0) (t0 := 1) (j := 0) (ws' := WO cJ o (vp_updL f 0 r.toInt64) ++ wc') rfl rfl (Nat.le_of_ble_eq_true rfl) (Nat.le_of_ble_eq_true rfl) rfl dL_computed_8 ?_
  refine y_goto C (tgt := 15) dL_computed_9 rfl ?_
  refine y_iconst C (v := nI 0) dL_computed_15 rfl ?_
  exact K _ _ _ _ _ dL_computed_16 rfl (Nat.le_of_eq (Nat.zero_add _)) (Nat.le_of_eq (Nat.zero_add _))
set_option maxRecDepth 100000 in
theorem h_computed_I {l : Launch} {sa : Nat → Nat} {D : va_G} {cI cJ : ClassId} {x o : Nat} (p0 : Int32) {wc wc' : va_W} {d mc ms : Nat} {f : Nat → Int64} {fs : List Value} (hM : ctX l yX3_computed wsX3_computed (rmD d mc ms) sa D [(cI, .int)] [.ref x, .int p0] wc wc' exI mc ms) (hq : wc[0]? = some (x, .inr (3, fs))) : ctH l yL_computed wsL_computed (rmD (d + 1) mc ms) sa D [(cI, .int), (cJ, .long)] [.ref x, .int p0, .ref o] (WO cJ o f ++ wc) (WO cJ o f ++ wc') (nI 1) mc ms := by
  refine ctH_of (by decide) rfl (Nat.le_of_ble_eq_true rfl) ?_
  intro p e s m args below meth c A Q C htab hE K
  refine y_lv (lv' := [(0, .ref x), (1, .int p0), (2, .ref o)]) rfl ?_
  refine y_aload_n C 2 dL_computed_0 rfl rfl ?_
  refine y_iconst C (v := nI 0) dL_computed_1 rfl ?_
  refine y_aload_n C 0 dL_computed_2 rfl rfl ?_
  refine y_iload_n C 1 dL_computed_3 rfl rfl ?_
  refine y_callC C.s1 hE (name := "") (wr := WO cJ o f) (st := [.int (nI 0), .ref o]) 1 hM gL_computed_X3_computed rfl rfl rfl (by decide +kernel) ⟨Nat.le_refl _, by show 8 + (2 + 11) + 30 * d ≤ 30 * (d + 1); omega⟩ (q0 := 0) (ci := 3) hq rfl rfl rfl rfl (Nat.le_of_ble_eq_true rfl) dL_computed_4 ⟨Nat.le_of_eq (Nat.zero_add _), Nat.le_of_eq (Nat.zero_add _)⟩ [] ⟨0, 9, 12, 25⟩ [] htab (fun z hz => absurd hz List.not_mem_nil) (by decide) (by decide) (List.mem_of_getElem? (i := 1) rfl) (by decide +kernel) (fun q9 => ?_)
  refine y_astore_n C dL_computed_12 rfl (Nat.le_of_ble_eq_true rfl) rfl ?_
  refine y_iconst C (v := nI 1) dL_computed_13 rfl ?_
  exact K _ _ _ _ _ dL_computed_14 rfl (Nat.le_of_eq (Nat.zero_add _)) (Nat.le_of_eq (Nat.zero_add _))
set_option maxRecDepth 100000 in
theorem h_heldFor_ok {l : Launch} {sa : Nat → Nat} {D : va_G} {cI cJ : ClassId} {x o : Nat} (p0 : Int32) {wc wc' : va_W} {r : Int32} {d mc ms : Nat} {f : Nat → Int64} {fs : List Value} (hM : ctI l yX3_heldFor wsX3_heldFor (rmD d mc ms) D [(cI, .int)] [.ref x, .int p0] wc wc' r mc ms) (hq : wc[0]? = some (x, .inr (3, fs))) : ctH l yL_heldFor wsL_heldFor (rmD (d + 1) mc ms) sa D [(cI, .int), (cJ, .long)] [.ref x, .int p0, .ref o] (WO cJ o f ++ wc) (WO cJ o (vp_updL f 0 r.toInt64) ++ wc') (nI 0) mc ms := by
  refine ctH_of (by decide) rfl (Nat.le_of_ble_eq_true rfl) ?_
  intro p e s m args below meth c A Q C htab hE K
  refine y_lv (lv' := [(0, .ref x), (1, .int p0), (2, .ref o)]) rfl ?_
  refine y_aload_n C 2 dL_heldFor_0 rfl rfl ?_
  refine y_iconst C (v := nI 0) dL_heldFor_1 rfl ?_
  refine y_aload_n C 0 dL_heldFor_2 rfl rfl ?_
  refine y_iload_n C 1 dL_heldFor_3 rfl rfl ?_
  refine y_callI C.s1 (wr := WO cJ o f) (st := [.int (nI 0), .ref o]) 1 hM gL_heldFor_X3_heldFor rfl rfl rfl (by decide +kernel) ⟨Nat.le_refl _, by show 8 + (2 + 11) + 30 * d ≤ 30 * (d + 1); omega⟩ (q0 := 0) (ci := 3) hq rfl rfl rfl rfl (Nat.le_of_ble_eq_true rfl) dL_heldFor_4 ⟨Nat.le_of_eq (Nat.zero_add _), Nat.le_of_eq (Nat.zero_add _)⟩ ?_
  refine y_i2l C dL_heldFor_7 rfl ?_
  refine y_last C (q0 := 0) (t0 := 1) (j := 0) (ws' := WO cJ o (vp_updL f 0 r.toInt64) ++ wc') rfl rfl (Nat.le_of_ble_eq_true rfl) (Nat.le_of_ble_eq_true rfl) rfl dL_heldFor_8 ?_
  refine y_goto C (tgt := 15) dL_heldFor_9 rfl ?_
  refine y_iconst C (v := nI 0) dL_heldFor_15 rfl ?_
  exact K _ _ _ _ _ dL_heldFor_16 rfl (Nat.le_of_eq (Nat.zero_add _)) (Nat.le_of_eq (Nat.zero_add _))
set_option maxRecDepth 100000 in
theorem h_heldFor_I {l : Launch} {sa : Nat → Nat} {D : va_G} {cI cJ : ClassId} {x o : Nat} (p0 : Int32) {wc wc' : va_W} {d mc ms : Nat} {f : Nat → Int64} {fs : List Value} (hM : ctX l yX3_heldFor wsX3_heldFor (rmD d mc ms) sa D [(cI, .int)] [.ref x, .int p0] wc wc' exI mc ms) (hq : wc[0]? = some (x, .inr (3, fs))) : ctH l yL_heldFor wsL_heldFor (rmD (d + 1) mc ms) sa D [(cI, .int), (cJ, .long)] [.ref x, .int p0, .ref o] (WO cJ o f ++ wc) (WO cJ o f ++ wc') (nI 1) mc ms := by
  refine ctH_of (by decide) rfl (Nat.le_of_ble_eq_true rfl) ?_
  intro p e s m args below meth c A Q C htab hE K
  refine y_lv (lv' := [(0, .ref x), (1, .int p0), (2, .ref o)]) rfl ?_
  refine y_aload_n C 2 dL_heldFor_0 rfl rfl ?_
  refine y_iconst C (v := nI 0) dL_heldFor_1 rfl ?_
  refine y_aload_n C 0 dL_heldFor_2 rfl rfl ?_
  refine y_iload_n C 1 dL_heldFor_3 rfl rfl ?_
  refine y_callC C.s1 hE (name := "") (wr := WO cJ o f) (st := [.int (nI 0), .ref o]) 1 hM gL_heldFor_X3_heldFor rfl rfl rfl (by decide +kernel) ⟨Nat.le_refl _, by show 8 + (2 + 11) + 30 * d ≤ 30 * (d + 1); omega⟩ (q0 := 0) (ci := 3) hq rfl rfl rfl rfl (Nat.le_of_ble_eq_true rfl) dL_heldFor_4 ⟨Nat.le_of_eq (Nat.zero_add _), Nat.le_of_eq (Nat.zero_add _)⟩ [] ⟨0, 9, 12, 25⟩ [] htab (fun z hz => absurd hz List.not_mem_nil) (by decide) (by decide) (List.mem_of_getElem? (i := 1) rfl) (by decide +kernel) (fun q9 => ?_)
  refine y_astore_n C dL_heldFor_12 rfl (Nat.le_of_ble_eq_true rfl) rfl ?_
  refine y_iconst C (v := nI 1) dL_heldFor_13 rfl ?_
  exact K _ _ _ _ _ dL_heldFor_14 rfl (Nat.le_of_eq (Nat.zero_add _)) (Nat.le_of_eq (Nat.zero_add _))
