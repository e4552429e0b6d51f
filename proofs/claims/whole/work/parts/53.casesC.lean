set_option maxRecDepth 100000 in
theorem k_delayedOn {p : Program} {l : Launch} {e : Env} {s : State} {m : MethodId} {args : Array Value} {below : List Frame} {meth : Method} {c : Code} {Q : State → Prop} {cells slots : Nat} {D : va_G} {cI cJ : ClassId} {A : Nat → Prop} {sa : Nat → Nat} {b L : Nat} {xs : Nat → Int32} {i x o am : Nat} (X : yLx p s m args meth c D cI cJ A sa b L xs) (hi : i + 4 ≤ L) {p1 : Int32} (e1 : xs (i + 1) = p1) {wm wm' wc wc' : va_W} {f f' : Nat → Int64} {k : Nat} {r : Int32} {d mc ms d2 mc2 ms2 : Nat} {fs fs2 : List Value}
    (hH : ctH l yL_delayedOn wsL_delayedOn (rmD d mc ms) sa D [(cI, .int), (cJ, .long)] [.ref x, .int p1, .ref o] (WO cJ o f ++ wc) (WO cJ o f' ++ wc') (nI k) mc ms)
    (hN : ctI l yX4_delayedOn wsX4_delayedOn (rmD d2 mc2 ms2) D [(cI, .int)] [.ref am, .int p1] wm wm' r mc2 ms2)
    (hT : ctI l yX4_thrown wsX4_thrown (rmD 0 0 0) D [(cI, .int)] [.ref am] wm' wm' (nI k) 0 0) (hq : wm[0]? = some (am, .inr (4, fs))) (hq2 : wm'[0]? = some (am, .inr (4, fs2)))
    (hk : k = 0 → f' 0 = r.toInt64) (hkk : k < 2 ^ 31) (hd : d ≤ 9 ∧ mc ≤ 1 ∧ ms ≤ 6) (hd2 : d2 ≤ 9 ∧ mc2 ≤ 2 ∧ ms2 ≤ 120) (hc : cells + 3 ≤ 601024 ∧ slots + 126 ≤ 7293034)
    (kk : yW p l e room_1 s m args below meth c 7 D A Q (cells + 3) (slots + 126) (wm' ++ (WO cJ o f' ++ wc')) 1714 [(4, .int (nI i)), (3, .ref o), (2, .ref am), (1, .ref x), (0, .ref b)] []) : yW p l e room_1 s m args below meth c 7 D A Q cells slots (wm ++ (WO cJ o f ++ wc)) 1194 [(4, .int (nI i)), (3, .ref o), (2, .ref am), (1, .ref x), (0, .ref b)] [] := by
  obtain ⟨C, hE, hX, hbl, hbA, hL⟩ := X
  refine y_aload_n C 3 dL_law_1194 rfl rfl ?_
  refine y_aload_n C 4 dL_law_1195 rfl rfl ?_
  refine y_iload C 0 dL_law_1196 rfl ?_
  refine y_iconst C (v := nI 1) dL_law_1198 rfl ?_
  refine y_iaddN C dL_law_1199 ?_
  refine y_sld C hX hbl hbA (by omega) hL dL_law_1200 ?_
  refine y_topE e1 ?_
  refine y_aload_n C 1 dL_law_1201 rfl rfl ?_
  refine y_callS C hE (wr := wm) (st := []) 3 hH gL_law_L_delayedOn rfl rfl rfl (by decide +kernel) ⟨by show d + 1 ≤ 11; omega, by show 8 + (4 + 11) + 30 * d ≤ 384; omega⟩ rfl rfl rfl (Nat.le_of_ble_eq_true rfl) dL_law_1202 ⟨by show cells + mc ≤ 601024; omega, by show slots + ms ≤ 7293034; omega⟩ ?_
  refine y_istore C dL_law_1205 (Nat.le_of_ble_eq_true rfl) rfl ?_
  refine y_aload_n C 3 dL_law_1207 rfl rfl ?_
  refine y_aload_n C 5 dL_law_1208 rfl rfl ?_
  refine y_iload C 1 dL_law_1209 rfl ?_
  refine y_iconst C (v := nI 1) dL_law_1211 rfl ?_
  refine y_iaddN C dL_law_1212 ?_
  refine y_sld C hX hbl hbA (by omega) hL dL_law_1213 ?_
  refine y_topE e1 ?_
  refine y_swap ?_
  refine y_callI C.s1 (wr := WO cJ o f' ++ wc') (st := []) 1 hN gL_law_X4_delayedOn rfl rfl rfl (by decide +kernel) ⟨by show d2 + 1 ≤ 11; omega, by show 8 + (2 + 11) + 30 * d2 ≤ 384; omega⟩ (q0 := 0) (ci := 4) hq rfl rfl rfl rfl (Nat.le_of_ble_eq_true rfl) dL_law_1214 ⟨by show cells + mc + mc2 ≤ 601024; omega, by show slots + ms + ms2 ≤ 7293034; omega⟩ ?_
  refine y_istore C dL_law_1217 (Nat.le_of_ble_eq_true rfl) rfl ?_
  refine y_aload_n C 4 dL_law_1219 rfl rfl ?_
  refine y_callI C.s1 (wr := WO cJ o f' ++ wc') (st := []) 0 hT gL_law_X4_thrown rfl rfl rfl (by decide +kernel) ⟨Nat.le_of_ble_eq_true rfl, Nat.le_of_ble_eq_true rfl⟩ (q0 := 0) (ci := 4) hq2 rfl rfl rfl rfl (Nat.le_of_ble_eq_true rfl) dL_law_1220 ⟨by show cells + mc + mc2 + 0 ≤ 601024; omega, by show slots + ms + ms2 + 0 ≤ 7293034; omega⟩ ?_
  refine y_iload C 1 dL_law_1223 rfl ?_
  refine y_icmpN_eq C (tgt := 1230) dL_law_1225 rfl hkk hkk (fun _ => ?_) (fun h => absurd rfl h)
  refine y_iload C 1 dL_law_1230 rfl ?_
  refine y_ifN_ne C (tgt := 1247) dL_law_1232 rfl hkk (fun _ => ?_) (fun h0 => ?_)
  · refine y_goto C (tgt := 1714) dL_law_1247 rfl ?_
    refine y_swap ?_
    refine y_sub (lv' := [(4, .int (nI i)), (3, .ref o), (2, .ref am), (1, .ref x), (0, .ref b)]) [2, 3, 4, 5, 6] rfl ?_
    exact y_widen (by omega) (by omega) kk
  · refine y_aload_n C 3 dL_law_1235 rfl rfl ?_
    refine y_iconst C (v := nI 0) dL_law_1236 rfl ?_
    refine y_lald C (q0 := 0) (t0 := 1) (j := 0) rfl rfl (Nat.le_of_ble_eq_true rfl) (Nat.le_of_ble_eq_true rfl) dL_law_1237 ?_
    refine y_iload C 0 dL_law_1238 rfl ?_
    refine y_i2l C dL_law_1240 rfl ?_
    refine y_lcmp C dL_law_1241 ?_
    refine y_if_eq C (tgt := 1247) dL_law_1242 rfl (fun _ => ?_) (fun h => absurd (yl_c.mpr (hk h0)) h)
    refine y_goto C (tgt := 1714) dL_law_1247 rfl ?_
    refine y_swap ?_
    refine y_sub (lv' := [(4, .int (nI i)), (3, .ref o), (2, .ref am), (1, .ref x), (0, .ref b)]) [2, 3, 4, 5, 6] rfl ?_
    exact y_widen (by omega) (by omega) kk
set_option maxRecDepth 100000 in
theorem k_delayedAt {p : Program} {l : Launch} {e : Env} {s : State} {m : MethodId} {args : Array Value} {below : List Frame} {meth : Method} {c : Code} {Q : State → Prop} {cells slots : Nat} {D : va_G} {cI cJ : ClassId} {A : Nat → Prop} {sa : Nat → Nat} {b L : Nat} {xs : Nat → Int32} {i x o am : Nat} (X : yLx p s m args meth c D cI cJ A sa b L xs) (hi : i + 4 ≤ L) {p1 : Int32} (e1 : xs (i + 1) = p1) {wm wm' wc wc' : va_W} {f f' : Nat → Int64} {k : Nat} {r : Int32} {d mc ms d2 mc2 ms2 : Nat} {fs fs2 : List Value}
    (hH : ctH l yL_delayedAt wsL_delayedAt (rmD d mc ms) sa D [(cI, .int), (cJ, .long)] [.ref x, .int p1, .ref o] (WO cJ o f ++ wc) (WO cJ o f' ++ wc') (nI k) mc ms)
    (hN : ctI l yX4_delayedAt wsX4_delayedAt (rmD d2 mc2 ms2) D [(cI, .int)] [.ref am, .int p1] wm wm' r mc2 ms2)
    (hT : ctI l yX4_thrown wsX4_thrown (rmD 0 0 0) D [(cI, .int)] [.ref am] wm' wm' (nI k) 0 0) (hq : wm[0]? = some (am, .inr (4, fs))) (hq2 : wm'[0]? = some (am, .inr (4, fs2)))
    (hk : k = 0 → f' 0 = r.toInt64) (hkk : k < 2 ^ 31) (hd : d ≤ 9 ∧ mc ≤ 1 ∧ ms ≤ 6) (hd2 : d2 ≤ 9 ∧ mc2 ≤ 2 ∧ ms2 ≤ 120) (hc : cells + 3 ≤ 601024 ∧ slots + 126 ≤ 7293034)
    (kk : yW p l e room_1 s m args below meth c 7 D A Q (cells + 3) (slots + 126) (wm' ++ (WO cJ o f' ++ wc')) 1714 [(4, .int (nI i)), (3, .ref o), (2, .ref am), (1, .ref x), (0, .ref b)] []) : yW p l e room_1 s m args below meth c 7 D A Q cells slots (wm ++ (WO cJ o f ++ wc)) 1250 [(4, .int (nI i)), (3, .ref o), (2, .ref am), (1, .ref x), (0, .ref b)] [] := by
  obtain ⟨C, hE, hX, hbl, hbA, hL⟩ := X
  refine y_aload_n C 3 dL_law_1250 rfl rfl ?_
  refine y_aload_n C 4 dL_law_1251 rfl rfl ?_
  refine y_iload C 0 dL_law_1252 rfl ?_
  refine y_iconst C (v := nI 1) dL_law_1254 rfl ?_
  refine y_iaddN C dL_law_1255 ?_
  refine y_sld C hX hbl hbA (by omega) hL dL_law_1256 ?_
  refine y_topE e1 ?_
  refine y_aload_n C 1 dL_law_1257 rfl rfl ?_
  refine y_callS C hE (wr := wm) (st := []) 3 hH gL_law_L_delayedAt rfl rfl rfl (by decide +kernel) ⟨by show d + 1 ≤ 11; omega, by show 8 + (4 + 11) + 30 * d ≤ 384; omega⟩ rfl rfl rfl (Nat.le_of_ble_eq_true rfl) dL_law_1258 ⟨by show cells + mc ≤ 601024; omega, by show slots + ms ≤ 7293034; omega⟩ ?_
  refine y_istore C dL_law_1261 (Nat.le_of_ble_eq_true rfl) rfl ?_
  refine y_aload_n C 3 dL_law_1263 rfl rfl ?_
  refine y_aload_n C 5 dL_law_1264 rfl rfl ?_
  refine y_iload C 1 dL_law_1265 rfl ?_
  refine y_iconst C (v := nI 1) dL_law_1267 rfl ?_
  refine y_iaddN C dL_law_1268 ?_
  refine y_sld C hX hbl hbA (by omega) hL dL_law_1269 ?_
  refine y_topE e1 ?_
  refine y_swap ?_
  refine y_callI C.s1 (wr := WO cJ o f' ++ wc') (st := []) 1 hN gL_law_X4_delayedAt rfl rfl rfl (by decide +kernel) ⟨by show d2 + 1 ≤ 11; omega, by show 8 + (2 + 11) + 30 * d2 ≤ 384; omega⟩ (q0 := 0) (ci := 4) hq rfl rfl rfl rfl (Nat.le_of_ble_eq_true rfl) dL_law_1270 ⟨by show cells + mc + mc2 ≤ 601024; omega, by show slots + ms + ms2 ≤ 7293034; omega⟩ ?_
  refine y_istore C dL_law_1273 (Nat.le_of_ble_eq_true rfl) rfl ?_
  refine y_aload_n C 4 dL_law_1275 rfl rfl ?_
  refine y_callI C.s1 (wr := WO cJ o f' ++ wc') (st := []) 0 hT gL_law_X4_thrown rfl rfl rfl (by decide +kernel) ⟨Nat.le_of_ble_eq_true rfl, Nat.le_of_ble_eq_true rfl⟩ (q0 := 0) (ci := 4) hq2 rfl rfl rfl rfl (Nat.le_of_ble_eq_true rfl) dL_law_1276 ⟨by show cells + mc + mc2 + 0 ≤ 601024; omega, by show slots + ms + ms2 + 0 ≤ 7293034; omega⟩ ?_
  refine y_iload C 1 dL_law_1279 rfl ?_
  refine y_icmpN_eq C (tgt := 1286) dL_law_1281 rfl hkk hkk (fun _ => ?_) (fun h => absurd rfl h)
  refine y_iload C 1 dL_law_1286 rfl ?_
  refine y_ifN_ne C (tgt := 1303) dL_law_1288 rfl hkk (fun _ => ?_) (fun h0 => ?_)
  · refine y_goto C (tgt := 1714) dL_law_1303 rfl ?_
    refine y_swap ?_
    refine y_sub (lv' := [(4, .int (nI i)), (3, .ref o), (2, .ref am), (1, .ref x), (0, .ref b)]) [2, 3, 4, 5, 6] rfl ?_
    exact y_widen (by omega) (by omega) kk
  · refine y_aload_n C 3 dL_law_1291 rfl rfl ?_
    refine y_iconst C (v := nI 0) dL_law_1292 rfl ?_
    refine y_lald C (q0 := 0) (t0 := 1) (j := 0) rfl rfl (Nat.le_of_ble_eq_true rfl) (Nat.le_of_ble_eq_true rfl) dL_law_1293 ?_
    refine y_iload C 0 dL_law_1294 rfl ?_
    refine y_i2l C dL_law_1296 rfl ?_
    refine y_lcmp C dL_law_1297 ?_
    refine y_if_eq C (tgt := 1303) dL_law_1298 rfl (fun _ => ?_) (fun h => absurd (yl_c.mpr (hk h0)) h)
    refine y_goto C (tgt := 1714) dL_law_1303 rfl ?_
    refine y_swap ?_
    refine y_sub (lv' := [(4, .int (nI i)), (3, .ref o), (2, .ref am), (1, .ref x), (0, .ref b)]) [2, 3, 4, 5, 6] rfl ?_
    exact y_widen (by omega) (by omega) kk
set_option maxRecDepth 100000 in
theorem k_insertions {p : Program} {l : Launch} {e : Env} {s : State} {m : MethodId} {args : Array Value} {below : List Frame} {meth : Method} {c : Code} {Q : State → Prop} {cells slots : Nat} {D : va_G} {cI cJ : ClassId} {A : Nat → Prop} {sa : Nat → Nat} {b L : Nat} {xs : Nat → Int32} {i x o am : Nat} (X : yLx p s m args meth c D cI cJ A sa b L xs) (hi : i + 4 ≤ L) {p1 : Int32} (e1 : xs (i + 1) = p1) {wm wm' wc wc' : va_W} {f f' : Nat → Int64} {k : Nat} {r : Int32} {d mc ms d2 mc2 ms2 : Nat} {fs fs2 : List Value}
    (hH : ctH l yL_insertions wsL_insertions (rmD d mc ms) sa D [(cI, .int), (cJ, .long)] [.ref x, .int p1, .ref o] (WO cJ o f ++ wc) (WO cJ o f' ++ wc') (nI k) mc ms)
    (hN : ctI l yX4_insertions wsX4_insertions (rmD d2 mc2 ms2) D [(cI, .int)] [.ref am, .int p1] wm wm' r mc2 ms2)
    (hT : ctI l yX4_thrown wsX4_thrown (rmD 0 0 0) D [(cI, .int)] [.ref am] wm' wm' (nI k) 0 0) (hq : wm[0]? = some (am, .inr (4, fs))) (hq2 : wm'[0]? = some (am, .inr (4, fs2)))
    (hk : k = 0 → f' 0 = r.toInt64) (hkk : k < 2 ^ 31) (hd : d ≤ 9 ∧ mc ≤ 1 ∧ ms ≤ 6) (hd2 : d2 ≤ 9 ∧ mc2 ≤ 2 ∧ ms2 ≤ 120) (hc : cells + 3 ≤ 601024 ∧ slots + 126 ≤ 7293034)
    (kk : yW p l e room_1 s m args below meth c 7 D A Q (cells + 3) (slots + 126) (wm' ++ (WO cJ o f' ++ wc')) 1714 [(4, .int (nI i)), (3, .ref o), (2, .ref am), (1, .ref x), (0, .ref b)] []) : yW p l e room_1 s m args below meth c 7 D A Q cells slots (wm ++ (WO cJ o f ++ wc)) 1306 [(4, .int (nI i)), (3, .ref o), (2, .ref am), (1, .ref x), (0, .ref b)] [] := by
  obtain ⟨C, hE, hX, hbl, hbA, hL⟩ := X
  refine y_aload_n C 3 dL_law_1306 rfl rfl ?_
  refine y_aload_n C 4 dL_law_1307 rfl rfl ?_
  refine y_iload C 0 dL_law_1308 rfl ?_
  refine y_iconst C (v := nI 1) dL_law_1310 rfl ?_
  refine y_iaddN C dL_law_1311 ?_
  refine y_sld C hX hbl hbA (by omega) hL dL_law_1312 ?_
  refine y_topE e1 ?_
  refine y_aload_n C 1 dL_law_1313 rfl rfl ?_
  refine y_callS C hE (wr := wm) (st := []) 3 hH gL_law_L_insertions rfl rfl rfl (by decide +kernel) ⟨by show d + 1 ≤ 11; omega, by show 8 + (4 + 11) + 30 * d ≤ 384; omega⟩ rfl rfl rfl (Nat.le_of_ble_eq_true rfl) dL_law_1314 ⟨by show cells + mc ≤ 601024; omega, by show slots + ms ≤ 7293034; omega⟩ ?_
  refine y_istore C dL_law_1317 (Nat.le_of_ble_eq_true rfl) rfl ?_
  refine y_aload_n C 3 dL_law_1319 rfl rfl ?_
  refine y_aload_n C 5 dL_law_1320 rfl rfl ?_
  refine y_iload C 1 dL_law_1321 rfl ?_
  refine y_iconst C (v := nI 1) dL_law_1323 rfl ?_
  refine y_iaddN C dL_law_1324 ?_
  refine y_sld C hX hbl hbA (by omega) hL dL_law_1325 ?_
  refine y_topE e1 ?_
  refine y_swap ?_
  refine y_callI C.s1 (wr := WO cJ o f' ++ wc') (st := []) 1 hN gL_law_X4_insertions rfl rfl rfl (by decide +kernel) ⟨by show d2 + 1 ≤ 11; omega, by show 8 + (2 + 11) + 30 * d2 ≤ 384; omega⟩ (q0 := 0) (ci := 4) hq rfl rfl rfl rfl (Nat.le_of_ble_eq_true rfl) dL_law_1326 ⟨by show cells + mc + mc2 ≤ 601024; omega, by show slots + ms + ms2 ≤ 7293034; omega⟩ ?_
  refine y_istore C dL_law_1329 (Nat.le_of_ble_eq_true rfl) rfl ?_
  refine y_aload_n C 4 dL_law_1331 rfl rfl ?_
  refine y_callI C.s1 (wr := WO cJ o f' ++ wc') (st := []) 0 hT gL_law_X4_thrown rfl rfl rfl (by decide +kernel) ⟨Nat.le_of_ble_eq_true rfl, Nat.le_of_ble_eq_true rfl⟩ (q0 := 0) (ci := 4) hq2 rfl rfl rfl rfl (Nat.le_of_ble_eq_true rfl) dL_law_1332 ⟨by show cells + mc + mc2 + 0 ≤ 601024; omega, by show slots + ms + ms2 + 0 ≤ 7293034; omega⟩ ?_
  refine y_iload C 1 dL_law_1335 rfl ?_
  refine y_icmpN_eq C (tgt := 1342) dL_law_1337 rfl hkk hkk (fun _ => ?_) (fun h => absurd rfl h)
  refine y_iload C 1 dL_law_1342 rfl ?_
  refine y_ifN_ne C (tgt := 1359) dL_law_1344 rfl hkk (fun _ => ?_) (fun h0 => ?_)
  · refine y_goto C (tgt := 1714) dL_law_1359 rfl ?_
    refine y_swap ?_
    refine y_sub (lv' := [(4, .int (nI i)), (3, .ref o), (2, .ref am), (1, .ref x), (0, .ref b)]) [2, 3, 4, 5, 6] rfl ?_
    exact y_widen (by omega) (by omega) kk
  · refine y_aload_n C 3 dL_law_1347 rfl rfl ?_
    refine y_iconst C (v := nI 0) dL_law_1348 rfl ?_
    refine y_lald C (q0 := 0) (t0 := 1) (j := 0) rfl rfl (Nat.le_of_ble_eq_true rfl) (Nat.le_of_ble_eq_true rfl) dL_law_1349 ?_
    refine y_iload C 0 dL_law_1350 rfl ?_
    refine y_i2l C dL_law_1352 rfl ?_
    refine y_lcmp C dL_law_1353 ?_
    refine y_if_eq C (tgt := 1359) dL_law_1354 rfl (fun _ => ?_) (fun h => absurd (yl_c.mpr (hk h0)) h)
    refine y_goto C (tgt := 1714) dL_law_1359 rfl ?_
    refine y_swap ?_
    refine y_sub (lv' := [(4, .int (nI i)), (3, .ref o), (2, .ref am), (1, .ref x), (0, .ref b)]) [2, 3, 4, 5, 6] rfl ?_
    exact y_widen (by omega) (by omega) kk
set_option maxRecDepth 100000 in
theorem k_deletions {p : Program} {l : Launch} {e : Env} {s : State} {m : MethodId} {args : Array Value} {below : List Frame} {meth : Method} {c : Code} {Q : State → Prop} {cells slots : Nat} {D : va_G} {cI cJ : ClassId} {A : Nat → Prop} {sa : Nat → Nat} {b L : Nat} {xs : Nat → Int32} {i x o am : Nat} (X : yLx p s m args meth c D cI cJ A sa b L xs) (hi : i + 4 ≤ L) {p1 : Int32} (e1 : xs (i + 1) = p1) {wm wm' wc wc' : va_W} {f f' : Nat → Int64} {k : Nat} {r : Int32} {d mc ms d2 mc2 ms2 : Nat} {fs fs2 : List Value}
    (hH : ctH l yL_deletions wsL_deletions (rmD d mc ms) sa D [(cI, .int), (cJ, .long)] [.ref x, .int p1, .ref o] (WO cJ o f ++ wc) (WO cJ o f' ++ wc') (nI k) mc ms)
    (hN : ctI l yX4_deletions wsX4_deletions (rmD d2 mc2 ms2) D [(cI, .int)] [.ref am, .int p1] wm wm' r mc2 ms2)
    (hT : ctI l yX4_thrown wsX4_thrown (rmD 0 0 0) D [(cI, .int)] [.ref am] wm' wm' (nI k) 0 0) (hq : wm[0]? = some (am, .inr (4, fs))) (hq2 : wm'[0]? = some (am, .inr (4, fs2)))
    (hk : k = 0 → f' 0 = r.toInt64) (hkk : k < 2 ^ 31) (hd : d ≤ 9 ∧ mc ≤ 1 ∧ ms ≤ 6) (hd2 : d2 ≤ 9 ∧ mc2 ≤ 2 ∧ ms2 ≤ 120) (hc : cells + 3 ≤ 601024 ∧ slots + 126 ≤ 7293034)
    (kk : yW p l e room_1 s m args below meth c 7 D A Q (cells + 3) (slots + 126) (wm' ++ (WO cJ o f' ++ wc')) 1714 [(4, .int (nI i)), (3, .ref o), (2, .ref am), (1, .ref x), (0, .ref b)] []) : yW p l e room_1 s m args below meth c 7 D A Q cells slots (wm ++ (WO cJ o f ++ wc)) 1362 [(4, .int (nI i)), (3, .ref o), (2, .ref am), (1, .ref x), (0, .ref b)] [] := by
  obtain ⟨C, hE, hX, hbl, hbA, hL⟩ := X
  refine y_aload_n C 3 dL_law_1362 rfl rfl ?_
  refine y_aload_n C 4 dL_law_1363 rfl rfl ?_
  refine y_iload C 0 dL_law_1364 rfl ?_
  refine y_iconst C (v := nI 1) dL_law_1366 rfl ?_
  refine y_iaddN C dL_law_1367 ?_
  refine y_sld C hX hbl hbA (by omega) hL dL_law_1368 ?_
  refine y_topE e1 ?_
  refine y_aload_n C 1 dL_law_1369 rfl rfl ?_
  refine y_callS C hE (wr := wm) (st := []) 3 hH gL_law_L_deletions rfl rfl rfl (by decide +kernel) ⟨by show d + 1 ≤ 11; omega, by show 8 + (4 + 11) + 30 * d ≤ 384; omega⟩ rfl rfl rfl (Nat.le_of_ble_eq_true rfl) dL_law_1370 ⟨by show cells + mc ≤ 601024; omega, by show slots + ms ≤ 7293034; omega⟩ ?_
  refine y_istore C dL_law_1373 (Nat.le_of_ble_eq_true rfl) rfl ?_
  refine y_aload_n C 3 dL_law_1375 rfl rfl ?_
  refine y_aload_n C 5 dL_law_1376 rfl rfl ?_
  refine y_iload C 1 dL_law_1377 rfl ?_
  refine y_iconst C (v := nI 1) dL_law_1379 rfl ?_
  refine y_iaddN C dL_law_1380 ?_
  refine y_sld C hX hbl hbA (by omega) hL dL_law_1381 ?_
  refine y_topE e1 ?_
  refine y_swap ?_
  refine y_callI C.s1 (wr := WO cJ o f' ++ wc') (st := []) 1 hN gL_law_X4_deletions rfl rfl rfl (by decide +kernel) ⟨by show d2 + 1 ≤ 11; omega, by show 8 + (2 + 11) + 30 * d2 ≤ 384; omega⟩ (q0 := 0) (ci := 4) hq rfl rfl rfl rfl (Nat.le_of_ble_eq_true rfl) dL_law_1382 ⟨by show cells + mc + mc2 ≤ 601024; omega, by show slots + ms + ms2 ≤ 7293034; omega⟩ ?_
  refine y_istore C dL_law_1385 (Nat.le_of_ble_eq_true rfl) rfl ?_
  refine y_aload_n C 4 dL_law_1387 rfl rfl ?_
  refine y_callI C.s1 (wr := WO cJ o f' ++ wc') (st := []) 0 hT gL_law_X4_thrown rfl rfl rfl (by decide +kernel) ⟨Nat.le_of_ble_eq_true rfl, Nat.le_of_ble_eq_true rfl⟩ (q0 := 0) (ci := 4) hq2 rfl rfl rfl rfl (Nat.le_of_ble_eq_true rfl) dL_law_1388 ⟨by show cells + mc + mc2 + 0 ≤ 601024; omega, by show slots + ms + ms2 + 0 ≤ 7293034; omega⟩ ?_
  refine y_iload C 1 dL_law_1391 rfl ?_
  refine y_icmpN_eq C (tgt := 1398) dL_law_1393 rfl hkk hkk (fun _ => ?_) (fun h => absurd rfl h)
  refine y_iload C 1 dL_law_1398 rfl ?_
  refine y_ifN_ne C (tgt := 1415) dL_law_1400 rfl hkk (fun _ => ?_) (fun h0 => ?_)
  · refine y_goto C (tgt := 1714) dL_law_1415 rfl ?_
    refine y_swap ?_
    refine y_sub (lv' := [(4, .int (nI i)), (3, .ref o), (2, .ref am), (1, .ref x), (0, .ref b)]) [2, 3, 4, 5, 6] rfl ?_
    exact y_widen (by omega) (by omega) kk
  · refine y_aload_n C 3 dL_law_1403 rfl rfl ?_
    refine y_iconst C (v := nI 0) dL_law_1404 rfl ?_
    refine y_lald C (q0 := 0) (t0 := 1) (j := 0) rfl rfl (Nat.le_of_ble_eq_true rfl) (Nat.le_of_ble_eq_true rfl) dL_law_1405 ?_
    refine y_iload C 0 dL_law_1406 rfl ?_
    refine y_i2l C dL_law_1408 rfl ?_
    refine y_lcmp C dL_law_1409 ?_
    refine y_if_eq C (tgt := 1415) dL_law_1410 rfl (fun _ => ?_) (fun h => absurd (yl_c.mpr (hk h0)) h)
    refine y_goto C (tgt := 1714) dL_law_1415 rfl ?_
    refine y_swap ?_
    refine y_sub (lv' := [(4, .int (nI i)), (3, .ref o), (2, .ref am), (1, .ref x), (0, .ref b)]) [2, 3, 4, 5, 6] rfl ?_
    exact y_widen (by omega) (by omega) kk
set_option maxRecDepth 100000 in
theorem k_move {p : Program} {l : Launch} {e : Env} {s : State} {m : MethodId} {args : Array Value} {below : List Frame} {meth : Method} {c : Code} {Q : State → Prop} {cells slots : Nat} {D : va_G} {cI cJ : ClassId} {A : Nat → Prop} {sa : Nat → Nat} {b L : Nat} {xs : Nat → Int32} {i x o am : Nat} (X : yLx p s m args meth c D cI cJ A sa b L xs) (hi : i + 4 ≤ L) {wm wm' wc wc' : va_W} {f f' : Nat → Int64} {k : Nat} {r : Int32} {d mc ms d2 mc2 ms2 : Nat} {fs fs2 : List Value}
    (hH : ctH l yL_move wsL_move (rmD d mc ms) sa D [(cI, .int), (cJ, .long)] [.ref x, .ref o] (WO cJ o f ++ wc) (WO cJ o f' ++ wc') (nI k) mc ms)
    (hN : ctI l yX4_move wsX4_move (rmD d2 mc2 ms2) D [(cI, .int)] [.ref am] wm wm' r mc2 ms2)
    (hT : ctI l yX4_thrown wsX4_thrown (rmD 0 0 0) D [(cI, .int)] [.ref am] wm' wm' (nI k) 0 0) (hq : wm[0]? = some (am, .inr (4, fs))) (hq2 : wm'[0]? = some (am, .inr (4, fs2)))
    (hk : k = 0 → f' 0 = r.toInt64) (hkk : k < 2 ^ 31) (hd : d ≤ 9 ∧ mc ≤ 1 ∧ ms ≤ 6) (hd2 : d2 ≤ 9 ∧ mc2 ≤ 2 ∧ ms2 ≤ 120) (hc : cells + 3 ≤ 601024 ∧ slots + 126 ≤ 7293034)
    (kk : yW p l e room_1 s m args below meth c 7 D A Q (cells + 3) (slots + 126) (wm' ++ (WO cJ o f' ++ wc')) 1714 [(4, .int (nI i)), (3, .ref o), (2, .ref am), (1, .ref x), (0, .ref b)] []) : yW p l e room_1 s m args below meth c 7 D A Q cells slots (wm ++ (WO cJ o f ++ wc)) 1418 [(4, .int (nI i)), (3, .ref o), (2, .ref am), (1, .ref x), (0, .ref b)] [] := by
  obtain ⟨C, hE, hX, hbl, hbA, hL⟩ := X
  refine y_aload_n C 3 dL_law_1418 rfl rfl ?_
  refine y_aload_n C 1 dL_law_1419 rfl rfl ?_
  refine y_callS C hE (wr := wm) (st := []) 2 hH gL_law_L_move rfl rfl rfl (by decide +kernel) ⟨by show d + 1 ≤ 11; omega, by show 8 + (3 + 11) + 30 * d ≤ 384; omega⟩ rfl rfl rfl (Nat.le_of_ble_eq_true rfl) dL_law_1420 ⟨by show cells + mc ≤ 601024; omega, by show slots + ms ≤ 7293034; omega⟩ ?_
  refine y_istore C dL_law_1423 (Nat.le_of_ble_eq_true rfl) rfl ?_
  refine y_aload_n C 3 dL_law_1425 rfl rfl ?_
  refine y_swap ?_
  refine y_callI C.s1 (wr := WO cJ o f' ++ wc') (st := []) 0 hN gL_law_X4_move rfl rfl rfl (by decide +kernel) ⟨by show d2 + 1 ≤ 11; omega, by show 8 + (6 + 11) + 30 * d2 ≤ 384; omega⟩ (q0 := 0) (ci := 4) hq rfl rfl rfl rfl (Nat.le_of_ble_eq_true rfl) dL_law_1426 ⟨by show cells + mc + mc2 ≤ 601024; omega, by show slots + ms + ms2 ≤ 7293034; omega⟩ ?_
  refine y_istore C dL_law_1429 (Nat.le_of_ble_eq_true rfl) rfl ?_
  refine y_aload_n C 4 dL_law_1431 rfl rfl ?_
  refine y_callI C.s1 (wr := WO cJ o f' ++ wc') (st := []) 0 hT gL_law_X4_thrown rfl rfl rfl (by decide +kernel) ⟨Nat.le_of_ble_eq_true rfl, Nat.le_of_ble_eq_true rfl⟩ (q0 := 0) (ci := 4) hq2 rfl rfl rfl rfl (Nat.le_of_ble_eq_true rfl) dL_law_1432 ⟨by show cells + mc + mc2 + 0 ≤ 601024; omega, by show slots + ms + ms2 + 0 ≤ 7293034; omega⟩ ?_
  refine y_iload C 1 dL_law_1435 rfl ?_
  refine y_icmpN_eq C (tgt := 1442) dL_law_1437 rfl hkk hkk (fun _ => ?_) (fun h => absurd rfl h)
  refine y_iload C 1 dL_law_1442 rfl ?_
  refine y_ifN_ne C (tgt := 1459) dL_law_1444 rfl hkk (fun _ => ?_) (fun h0 => ?_)
  · refine y_goto C (tgt := 1714) dL_law_1459 rfl ?_
    refine y_swap ?_
    refine y_sub (lv' := [(4, .int (nI i)), (3, .ref o), (2, .ref am), (1, .ref x), (0, .ref b)]) [2, 3, 4, 5, 6] rfl ?_
    exact y_widen (by omega) (by omega) kk
  · refine y_aload_n C 3 dL_law_1447 rfl rfl ?_
    refine y_iconst C (v := nI 0) dL_law_1448 rfl ?_
    refine y_lald C (q0 := 0) (t0 := 1) (j := 0) rfl rfl (Nat.le_of_ble_eq_true rfl) (Nat.le_of_ble_eq_true rfl) dL_law_1449 ?_
    refine y_iload C 0 dL_law_1450 rfl ?_
    refine y_i2l C dL_law_1452 rfl ?_
    refine y_lcmp C dL_law_1453 ?_
    refine y_if_eq C (tgt := 1459) dL_law_1454 rfl (fun _ => ?_) (fun h => absurd (yl_c.mpr (hk h0)) h)
    refine y_goto C (tgt := 1714) dL_law_1459 rfl ?_
    refine y_swap ?_
    refine y_sub (lv' := [(4, .int (nI i)), (3, .ref o), (2, .ref am), (1, .ref x), (0, .ref b)]) [2, 3, 4, 5, 6] rfl ?_
    exact y_widen (by omega) (by omega) kk
set_option maxRecDepth 100000 in
theorem k_walk {p : Program} {l : Launch} {e : Env} {s : State} {m : MethodId} {args : Array Value} {below : List Frame} {meth : Method} {c : Code} {Q : State → Prop} {cells slots : Nat} {D : va_G} {cI cJ : ClassId} {A : Nat → Prop} {sa : Nat → Nat} {b L : Nat} {xs : Nat → Int32} {i x o am : Nat} (X : yLx p s m args meth c D cI cJ A sa b L xs) (hi : i + 4 ≤ L) {ch : Int64} (hch : (xs (i + 1)).toInt64 <<< ((32 : Int32).toInt64 &&& 63) ||| (xs (i + 2)).toInt64 &&& 4294967295 = ch) {p3 : Int32} (e3 : xs (i + 3) = p3) {wm wm' wc wc' : va_W} {f f' : Nat → Int64} {k : Nat} {r : Int32} {d mc ms d2 mc2 ms2 : Nat} {fs fs2 : List Value}
    (hH : ctH l yL_walk wsL_walk (rmD d mc ms) sa D [(cI, .int), (cJ, .long)] [.ref x, .long ch, .int p3, .ref o] (WO cJ o f ++ wc) (WO cJ o f' ++ wc') (nI k) mc ms)
    (hN : ctI l yX4_walk wsX4_walk (rmD d2 mc2 ms2) D [(cI, .int)] [.ref am, .long ch, .int p3] wm wm' r mc2 ms2)
    (hT : ctI l yX4_thrown wsX4_thrown (rmD 0 0 0) D [(cI, .int)] [.ref am] wm' wm' (nI k) 0 0) (hq : wm[0]? = some (am, .inr (4, fs))) (hq2 : wm'[0]? = some (am, .inr (4, fs2)))
    (hk : k = 0 → f' 0 = r.toInt64) (hkk : k < 2 ^ 31) (hd : d ≤ 9 ∧ mc ≤ 1 ∧ ms ≤ 6) (hd2 : d2 ≤ 9 ∧ mc2 ≤ 2 ∧ ms2 ≤ 120) (hc : cells + 3 ≤ 601024 ∧ slots + 126 ≤ 7293034)
    (kk : yW p l e room_1 s m args below meth c 7 D A Q (cells + 3) (slots + 126) (wm' ++ (WO cJ o f' ++ wc')) 1714 [(4, .int (nI i)), (3, .ref o), (2, .ref am), (1, .ref x), (0, .ref b)] []) : yW p l e room_1 s m args below meth c 7 D A Q cells slots (wm ++ (WO cJ o f ++ wc)) 1462 [(4, .int (nI i)), (3, .ref o), (2, .ref am), (1, .ref x), (0, .ref b)] [] := by
  obtain ⟨C, hE, hX, hbl, hbA, hL⟩ := X
  refine y_aload_n C 3 dL_law_1462 rfl rfl ?_
  refine y_aload_n C 4 dL_law_1463 rfl rfl ?_
  refine y_iload C 0 dL_law_1464 rfl ?_
  refine y_iconst C (v := nI 1) dL_law_1466 rfl ?_
  refine y_iaddN C dL_law_1467 ?_
  refine y_sld C hX hbl hbA (by omega) hL dL_law_1468 ?_
  refine y_i2l C dL_law_1469 rfl ?_
  refine y_bipush C (v := 32) dL_law_1470 rfl ?_
  refine y_lshl C dL_law_1472 rfl ?_
  refine y_aload_n C 4 dL_law_1473 rfl rfl ?_
  refine y_iload C 0 dL_law_1474 rfl ?_
  refine y_iconst C (v := nI 2) dL_law_1476 rfl ?_
  refine y_iaddN C dL_law_1477 ?_
  refine y_sld C hX hbl hbA (by omega) hL dL_law_1478 ?_
  refine y_i2l C dL_law_1479 rfl ?_
  refine y_ldc2 C (v := 4294967295) (List.mem_of_getElem? (i := 7) rfl) dL_law_1480 ?_
  refine y_land C dL_law_1483 ?_
  refine y_lor C dL_law_1484 ?_
  refine y_topL hch ?_
  refine y_aload_n C 4 dL_law_1485 rfl rfl ?_
  refine y_iload C 0 dL_law_1486 rfl ?_
  refine y_iconst C (v := nI 3) dL_law_1488 rfl ?_
  refine y_iaddN C dL_law_1489 ?_
  refine y_sld C hX hbl hbA (by omega) hL dL_law_1490 ?_
  refine y_topE e3 ?_
  refine y_aload_n C 1 dL_law_1491 rfl rfl ?_
  refine y_callS C hE (wr := wm) (st := []) 4 hH gL_law_L_walk rfl rfl rfl (by decide +kernel) ⟨by show d + 1 ≤ 11; omega, by show 8 + (6 + 11) + 30 * d ≤ 384; omega⟩ rfl rfl rfl (Nat.le_of_ble_eq_true rfl) dL_law_1492 ⟨by show cells + mc ≤ 601024; omega, by show slots + ms ≤ 7293034; omega⟩ ?_
  refine y_istore C dL_law_1495 (Nat.le_of_ble_eq_true rfl) rfl ?_
  refine y_aload_n C 3 dL_law_1497 rfl rfl ?_
  refine y_aload_n C 5 dL_law_1498 rfl rfl ?_
  refine y_iload C 1 dL_law_1499 rfl ?_
  refine y_iconst C (v := nI 1) dL_law_1501 rfl ?_
  refine y_iaddN C dL_law_1502 ?_
  refine y_sld C hX hbl hbA (by omega) hL dL_law_1503 ?_
  refine y_i2l C dL_law_1504 rfl ?_
  refine y_bipush C (v := 32) dL_law_1505 rfl ?_
  refine y_lshl C dL_law_1507 rfl ?_
  refine y_aload_n C 5 dL_law_1508 rfl rfl ?_
  refine y_iload C 1 dL_law_1509 rfl ?_
  refine y_iconst C (v := nI 2) dL_law_1511 rfl ?_
  refine y_iaddN C dL_law_1512 ?_
  refine y_sld C hX hbl hbA (by omega) hL dL_law_1513 ?_
  refine y_i2l C dL_law_1514 rfl ?_
  refine y_ldc2 C (v := 4294967295) (List.mem_of_getElem? (i := 7) rfl) dL_law_1515 ?_
  refine y_land C dL_law_1518 ?_
  refine y_lor C dL_law_1519 ?_
  refine y_topL hch ?_
  refine y_aload_n C 5 dL_law_1520 rfl rfl ?_
  refine y_iload C 1 dL_law_1521 rfl ?_
  refine y_iconst C (v := nI 3) dL_law_1523 rfl ?_
  refine y_iaddN C dL_law_1524 ?_
  refine y_sld C hX hbl hbA (by omega) hL dL_law_1525 ?_
  refine y_topE e3 ?_
  refine y_swap ?_
  refine y_callI C.s1 (wr := WO cJ o f' ++ wc') (st := []) 2 hN gL_law_X4_walk rfl rfl rfl (by decide +kernel) ⟨by show d2 + 1 ≤ 11; omega, by show 8 + (10 + 11) + 30 * d2 ≤ 384; omega⟩ (q0 := 0) (ci := 4) hq rfl rfl rfl rfl (Nat.le_of_ble_eq_true rfl) dL_law_1526 ⟨by show cells + mc + mc2 ≤ 601024; omega, by show slots + ms + ms2 ≤ 7293034; omega⟩ ?_
  refine y_istore C dL_law_1529 (Nat.le_of_ble_eq_true rfl) rfl ?_
  refine y_aload_n C 4 dL_law_1531 rfl rfl ?_
  refine y_callI C.s1 (wr := WO cJ o f' ++ wc') (st := []) 0 hT gL_law_X4_thrown rfl rfl rfl (by decide +kernel) ⟨Nat.le_of_ble_eq_true rfl, Nat.le_of_ble_eq_true rfl⟩ (q0 := 0) (ci := 4) hq2 rfl rfl rfl rfl (Nat.le_of_ble_eq_true rfl) dL_law_1532 ⟨by show cells + mc + mc2 + 0 ≤ 601024; omega, by show slots + ms + ms2 + 0 ≤ 7293034; omega⟩ ?_
  refine y_iload C 1 dL_law_1535 rfl ?_
  refine y_icmpN_eq C (tgt := 1542) dL_law_1537 rfl hkk hkk (fun _ => ?_) (fun h => absurd rfl h)
  refine y_iload C 1 dL_law_1542 rfl ?_
  refine y_ifN_ne C (tgt := 1559) dL_law_1544 rfl hkk (fun _ => ?_) (fun h0 => ?_)
  · refine y_goto C (tgt := 1714) dL_law_1559 rfl ?_
    refine y_swap ?_
    refine y_sub (lv' := [(4, .int (nI i)), (3, .ref o), (2, .ref am), (1, .ref x), (0, .ref b)]) [2, 3, 4, 5, 6] rfl ?_
    exact y_widen (by omega) (by omega) kk
  · refine y_aload_n C 3 dL_law_1547 rfl rfl ?_
    refine y_iconst C (v := nI 0) dL_law_1548 rfl ?_
    refine y_lald C (q0 := 0) (t0 := 1) (j := 0) rfl rfl (Nat.le_of_ble_eq_true rfl) (Nat.le_of_ble_eq_true rfl) dL_law_1549 ?_
    refine y_iload C 0 dL_law_1550 rfl ?_
    refine y_i2l C dL_law_1552 rfl ?_
    refine y_lcmp C dL_law_1553 ?_
    refine y_if_eq C (tgt := 1559) dL_law_1554 rfl (fun _ => ?_) (fun h => absurd (yl_c.mpr (hk h0)) h)
    refine y_goto C (tgt := 1714) dL_law_1559 rfl ?_
    refine y_swap ?_
    refine y_sub (lv' := [(4, .int (nI i)), (3, .ref o), (2, .ref am), (1, .ref x), (0, .ref b)]) [2, 3, 4, 5, 6] rfl ?_
    exact y_widen (by omega) (by omega) kk
set_option maxRecDepth 100000 in
theorem k_computed {p : Program} {l : Launch} {e : Env} {s : State} {m : MethodId} {args : Array Value} {below : List Frame} {meth : Method} {c : Code} {Q : State → Prop} {cells slots : Nat} {D : va_G} {cI cJ : ClassId} {A : Nat → Prop} {sa : Nat → Nat} {b L : Nat} {xs : Nat → Int32} {i x o am : Nat} (X : yLx p s m args meth c D cI cJ A sa b L xs) (hi : i + 4 ≤ L) {p1 : Int32} (e1 : xs (i + 1) = p1) {wm wm' wc wc' : va_W} {f f' : Nat → Int64} {k : Nat} {r : Int32} {d mc ms d2 mc2 ms2 : Nat} {fs fs2 : List Value}
    (hH : ctH l yL_computed wsL_computed (rmD d mc ms) sa D [(cI, .int), (cJ, .long)] [.ref x, .int p1, .ref o] (WO cJ o f ++ wc) (WO cJ o f' ++ wc') (nI k) mc ms)
    (hN : ctI l yX4_computed wsX4_computed (rmD d2 mc2 ms2) D [(cI, .int)] [.ref am, .int p1] wm wm' r mc2 ms2)
    (hT : ctI l yX4_thrown wsX4_thrown (rmD 0 0 0) D [(cI, .int)] [.ref am] wm' wm' (nI k) 0 0) (hq : wm[0]? = some (am, .inr (4, fs))) (hq2 : wm'[0]? = some (am, .inr (4, fs2)))
    (hk : k = 0 → f' 0 = r.toInt64) (hkk : k < 2 ^ 31) (hd : d ≤ 9 ∧ mc ≤ 1 ∧ ms ≤ 6) (hd2 : d2 ≤ 9 ∧ mc2 ≤ 2 ∧ ms2 ≤ 120) (hc : cells + 3 ≤ 601024 ∧ slots + 126 ≤ 7293034)
    (kk : yW p l e room_1 s m args below meth c 7 D A Q (cells + 3) (slots + 126) (wm' ++ (WO cJ o f' ++ wc')) 1714 [(4, .int (nI i)), (3, .ref o), (2, .ref am), (1, .ref x), (0, .ref b)] []) : yW p l e room_1 s m args below meth c 7 D A Q cells slots (wm ++ (WO cJ o f ++ wc)) 1562 [(4, .int (nI i)), (3, .ref o), (2, .ref am), (1, .ref x), (0, .ref b)] [] := by
  obtain ⟨C, hE, hX, hbl, hbA, hL⟩ := X
  refine y_aload_n C 3 dL_law_1562 rfl rfl ?_
  refine y_aload_n C 4 dL_law_1563 rfl rfl ?_
  refine y_iload C 0 dL_law_1564 rfl ?_
  refine y_iconst C (v := nI 1) dL_law_1566 rfl ?_
  refine y_iaddN C dL_law_1567 ?_
  refine y_sld C hX hbl hbA (by omega) hL dL_law_1568 ?_
  refine y_topE e1 ?_
  refine y_aload_n C 1 dL_law_1569 rfl rfl ?_
  refine y_callS C hE (wr := wm) (st := []) 3 hH gL_law_L_computed rfl rfl rfl (by decide +kernel) ⟨by show d + 1 ≤ 11; omega, by show 8 + (4 + 11) + 30 * d ≤ 384; omega⟩ rfl rfl rfl (Nat.le_of_ble_eq_true rfl) dL_law_1570 ⟨by show cells + mc ≤ 601024; omega, by show slots + ms ≤ 7293034; omega⟩ ?_
  refine y_istore C dL_law_1573 (Nat.le_of_ble_eq_true rfl) rfl ?_
  refine y_aload_n C 3 dL_law_1575 rfl rfl ?_
  refine y_aload_n C 5 dL_law_1576 rfl rfl ?_
  refine y_iload C 1 dL_law_1577 rfl ?_
  refine y_iconst C (v := nI 1) dL_law_1579 rfl ?_
  refine y_iaddN C dL_law_1580 ?_
  refine y_sld C hX hbl hbA (by omega) hL dL_law_1581 ?_
  refine y_topE e1 ?_
  refine y_swap ?_
  refine y_callI C.s1 (wr := WO cJ o f' ++ wc') (st := []) 1 hN gL_law_X4_computed rfl rfl rfl (by decide +kernel) ⟨by show d2 + 1 ≤ 11; omega, by show 8 + (2 + 11) + 30 * d2 ≤ 384; omega⟩ (q0 := 0) (ci := 4) hq rfl rfl rfl rfl (Nat.le_of_ble_eq_true rfl) dL_law_1582 ⟨by show cells + mc + mc2 ≤ 601024; omega, by show slots + ms + ms2 ≤ 7293034; omega⟩ ?_
  refine y_istore C dL_law_1585 (Nat.le_of_ble_eq_true rfl) rfl ?_
  refine y_aload_n C 4 dL_law_1587 rfl rfl ?_
  refine y_callI C.s1 (wr := WO cJ o f' ++ wc') (st := []) 0 hT gL_law_X4_thrown rfl rfl rfl (by decide +kernel) ⟨Nat.le_of_ble_eq_true rfl, Nat.le_of_ble_eq_true rfl⟩ (q0 := 0) (ci := 4) hq2 rfl rfl rfl rfl (Nat.le_of_ble_eq_true rfl) dL_law_1588 ⟨by show cells + mc + mc2 + 0 ≤ 601024; omega, by show slots + ms + ms2 + 0 ≤ 7293034; omega⟩ ?_
  refine y_iload C 1 dL_law_1591 rfl ?_
  refine y_icmpN_eq C (tgt := 1598) dL_law_1593 rfl hkk hkk (fun _ => ?_) (fun h => absurd rfl h)
  refine y_iload C 1 dL_law_1598 rfl ?_
  refine y_ifN_ne C (tgt := 1615) dL_law_1600 rfl hkk (fun _ => ?_) (fun h0 => ?_)
  · refine y_goto C (tgt := 1714) dL_law_1615 rfl ?_
    refine y_swap ?_
    refine y_sub (lv' := [(4, .int (nI i)), (3, .ref o), (2, .ref am), (1, .ref x), (0, .ref b)]) [2, 3, 4, 5, 6] rfl ?_
    exact y_widen (by omega) (by omega) kk
  · refine y_aload_n C 3 dL_law_1603 rfl rfl ?_
    refine y_iconst C (v := nI 0) dL_law_1604 rfl ?_
    refine y_lald C (q0 := 0) (t0 := 1) (j := 0) rfl rfl (Nat.le_of_ble_eq_true rfl) (Nat.le_of_ble_eq_true rfl) dL_law_1605 ?_
    refine y_iload C 0 dL_law_1606 rfl ?_
    refine y_i2l C dL_law_1608 rfl ?_
    refine y_lcmp C dL_law_1609 ?_
    refine y_if_eq C (tgt := 1615) dL_law_1610 rfl (fun _ => ?_) (fun h => absurd (yl_c.mpr (hk h0)) h)
    refine y_goto C (tgt := 1714) dL_law_1615 rfl ?_
    refine y_swap ?_
    refine y_sub (lv' := [(4, .int (nI i)), (3, .ref o), (2, .ref am), (1, .ref x), (0, .ref b)]) [2, 3, 4, 5, 6] rfl ?_
    exact y_widen (by omega) (by omega) kk
set_option maxRecDepth 100000 in
theorem k_heldFor {p : Program} {l : Launch} {e : Env} {s : State} {m : MethodId} {args : Array Value} {below : List Frame} {meth : Method} {c : Code} {Q : State → Prop} {cells slots : Nat} {D : va_G} {cI cJ : ClassId} {A : Nat → Prop} {sa : Nat → Nat} {b L : Nat} {xs : Nat → Int32} {i x o am : Nat} (X : yLx p s m args meth c D cI cJ A sa b L xs) (hi : i + 4 ≤ L) {p1 : Int32} (e1 : xs (i + 1) = p1) {wm wm' wc wc' : va_W} {f f' : Nat → Int64} {k : Nat} {r : Int32} {d mc ms d2 mc2 ms2 : Nat} {fs fs2 : List Value}
    (hH : ctH l yL_heldFor wsL_heldFor (rmD d mc ms) sa D [(cI, .int), (cJ, .long)] [.ref x, .int p1, .ref o] (WO cJ o f ++ wc) (WO cJ o f' ++ wc') (nI k) mc ms)
    (hN : ctI l yX4_heldFor wsX4_heldFor (rmD d2 mc2 ms2) D [(cI, .int)] [.ref am, .int p1] wm wm' r mc2 ms2)
    (hT : ctI l yX4_thrown wsX4_thrown (rmD 0 0 0) D [(cI, .int)] [.ref am] wm' wm' (nI k) 0 0) (hq : wm[0]? = some (am, .inr (4, fs))) (hq2 : wm'[0]? = some (am, .inr (4, fs2)))
    (hk : k = 0 → f' 0 = r.toInt64) (hkk : k < 2 ^ 31) (hd : d ≤ 9 ∧ mc ≤ 1 ∧ ms ≤ 6) (hd2 : d2 ≤ 9 ∧ mc2 ≤ 2 ∧ ms2 ≤ 120) (hc : cells + 3 ≤ 601024 ∧ slots + 126 ≤ 7293034)
    (kk : yW p l e room_1 s m args below meth c 7 D A Q (cells + 3) (slots + 126) (wm' ++ (WO cJ o f' ++ wc')) 1714 [(4, .int (nI i)), (3, .ref o), (2, .ref am), (1, .ref x), (0, .ref b)] []) : yW p l e room_1 s m args below meth c 7 D A Q cells slots (wm ++ (WO cJ o f ++ wc)) 1644 [(4, .int (nI i)), (3, .ref o), (2, .ref am), (1, .ref x), (0, .ref b)] [] := by
  obtain ⟨C, hE, hX, hbl, hbA, hL⟩ := X
  refine y_aload_n C 3 dL_law_1644 rfl rfl ?_
  refine y_aload_n C 4 dL_law_1645 rfl rfl ?_
  refine y_iload C 0 dL_law_1646 rfl ?_
  refine y_iconst C (v := nI 1) dL_law_1648 rfl ?_
  refine y_iaddN C dL_law_1649 ?_
  refine y_sld C hX hbl hbA (by omega) hL dL_law_1650 ?_
  refine y_topE e1 ?_
  refine y_aload_n C 1 dL_law_1651 rfl rfl ?_
  refine y_callS C hE (wr := wm) (st := []) 3 hH gL_law_L_heldFor rfl rfl rfl (by decide +kernel) ⟨by show d + 1 ≤ 11; omega, by show 8 + (4 + 11) + 30 * d ≤ 384; omega⟩ rfl rfl rfl (Nat.le_of_ble_eq_true rfl) dL_law_1652 ⟨by show cells + mc ≤ 601024; omega, by show slots + ms ≤ 7293034; omega⟩ ?_
  refine y_istore C dL_law_1655 (Nat.le_of_ble_eq_true rfl) rfl ?_
  refine y_aload_n C 3 dL_law_1657 rfl rfl ?_
  refine y_aload_n C 5 dL_law_1658 rfl rfl ?_
  refine y_iload C 1 dL_law_1659 rfl ?_
  refine y_iconst C (v := nI 1) dL_law_1661 rfl ?_
  refine y_iaddN C dL_law_1662 ?_
  refine y_sld C hX hbl hbA (by omega) hL dL_law_1663 ?_
  refine y_topE e1 ?_
  refine y_swap ?_
  refine y_callI C.s1 (wr := WO cJ o f' ++ wc') (st := []) 1 hN gL_law_X4_heldFor rfl rfl rfl (by decide +kernel) ⟨by show d2 + 1 ≤ 11; omega, by show 8 + (2 + 11) + 30 * d2 ≤ 384; omega⟩ (q0 := 0) (ci := 4) hq rfl rfl rfl rfl (Nat.le_of_ble_eq_true rfl) dL_law_1664 ⟨by show cells + mc + mc2 ≤ 601024; omega, by show slots + ms + ms2 ≤ 7293034; omega⟩ ?_
  refine y_istore C dL_law_1667 (Nat.le_of_ble_eq_true rfl) rfl ?_
  refine y_aload_n C 4 dL_law_1669 rfl rfl ?_
  refine y_callI C.s1 (wr := WO cJ o f' ++ wc') (st := []) 0 hT gL_law_X4_thrown rfl rfl rfl (by decide +kernel) ⟨Nat.le_of_ble_eq_true rfl, Nat.le_of_ble_eq_true rfl⟩ (q0 := 0) (ci := 4) hq2 rfl rfl rfl rfl (Nat.le_of_ble_eq_true rfl) dL_law_1670 ⟨by show cells + mc + mc2 + 0 ≤ 601024; omega, by show slots + ms + ms2 + 0 ≤ 7293034; omega⟩ ?_
  refine y_iload C 1 dL_law_1673 rfl ?_
  refine y_icmpN_eq C (tgt := 1680) dL_law_1675 rfl hkk hkk (fun _ => ?_) (fun h => absurd rfl h)
  refine y_iload C 1 dL_law_1680 rfl ?_
  refine y_ifN_ne C (tgt := 1697) dL_law_1682 rfl hkk (fun _ => ?_) (fun h0 => ?_)
  · refine y_goto C (tgt := 1714) dL_law_1697 rfl ?_
    refine y_swap ?_
    refine y_sub (lv' := [(4, .int (nI i)), (3, .ref o), (2, .ref am), (1, .ref x), (0, .ref b)]) [2, 3, 4, 5, 6] rfl ?_
    exact y_widen (by omega) (by omega) kk
  · refine y_aload_n C 3 dL_law_1685 rfl rfl ?_
    refine y_iconst C (v := nI 0) dL_law_1686 rfl ?_
    refine y_lald C (q0 := 0) (t0 := 1) (j := 0) rfl rfl (Nat.le_of_ble_eq_true rfl) (Nat.le_of_ble_eq_true rfl) dL_law_1687 ?_
    refine y_iload C 0 dL_law_1688 rfl ?_
    refine y_i2l C dL_law_1690 rfl ?_
    refine y_lcmp C dL_law_1691 ?_
    refine y_if_eq C (tgt := 1697) dL_law_1692 rfl (fun _ => ?_) (fun h => absurd (yl_c.mpr (hk h0)) h)
    refine y_goto C (tgt := 1714) dL_law_1697 rfl ?_
    refine y_swap ?_
    refine y_sub (lv' := [(4, .int (nI i)), (3, .ref o), (2, .ref am), (1, .ref x), (0, .ref b)]) [2, 3, 4, 5, 6] rfl ?_
    exact y_widen (by omega) (by omega) kk
set_option maxRecDepth 100000 in
theorem k_blockCount {p : Program} {l : Launch} {e : Env} {s : State} {m : MethodId} {args : Array Value} {below : List Frame} {meth : Method} {c : Code} {Q : State → Prop} {cells slots : Nat} {D : va_G} {cI cJ : ClassId} {A : Nat → Prop} {sa : Nat → Nat} {b L : Nat} {xs : Nat → Int32} {i x o am : Nat} (X : yLx p s m args meth c D cI cJ A sa b L xs) {wm wm' wc : va_W} {f : Nat → Int64} {r r2 : Int32} {d d2 : Nat} {fs fs2 : List Value}
    (hH : ctI l yX3_blockCount wsX3_blockCount (rmD d 0 0) D [(cI, .int)] [.ref x] wc wc r 0 0) (hN : ctI l yX4_blockCount wsX4_blockCount (rmD d2 0 0) D [(cI, .int)] [.ref am] wm wm' r2 0 0) (hq1 : wc[0]? = some (x, .inr (3, fs))) (hq : wm[0]? = some (am, .inr (4, fs2)))
    (hk : r = r2) (hd : d ≤ 9) (hd2 : d2 ≤ 9) (hc : cells + 3 ≤ 601024 ∧ slots + 126 ≤ 7293034)
    (kk : yW p l e room_1 s m args below meth c 7 D A Q (cells + 3) (slots + 126) (wm' ++ (WO cJ o f ++ wc)) 1714 [(4, .int (nI i)), (3, .ref o), (2, .ref am), (1, .ref x), (0, .ref b)] []) : yW p l e room_1 s m args below meth c 7 D A Q cells slots (wm ++ (WO cJ o f ++ wc)) 596 [(4, .int (nI i)), (3, .ref o), (2, .ref am), (1, .ref x), (0, .ref b)] [] := by
  obtain ⟨C, hE, hX, hbl, hbA, hL⟩ := X
  subst hk
  refine y_aload_n C 3 dL_law_596 rfl rfl ?_
  refine y_callI C.s1 (wr := wm ++ WO cJ o f) (st := []) 0 hH gL_law_X3_blockCount rfl rfl rfl (by decide +kernel) ⟨by show d + 1 ≤ 11; omega, by show 8 + (1 + 11) + 30 * d ≤ 384; omega⟩ (q0 := 0) (ci := 3) hq1 rfl (List.append_assoc _ _ _).symm rfl rfl (Nat.le_of_ble_eq_true rfl) dL_law_597 ⟨by show cells + 0 ≤ 601024; omega, by show slots + 0 ≤ 7293034; omega⟩ ?_
  refine y_ws (List.append_assoc _ _ _) ?_
  refine y_swap ?_
  refine y_aload_n C 2 dL_law_600 rfl rfl ?_
  refine y_callI C.s1 (wr := WO cJ o f ++ wc) (st := [.int r]) 0 hN gL_law_X4_blockCount rfl rfl rfl (by decide +kernel) ⟨by show d2 + 1 ≤ 11; omega, by show 8 + (1 + 11) + 30 * d2 ≤ 384; omega⟩ (q0 := 0) (ci := 4) hq rfl rfl rfl rfl (Nat.le_of_ble_eq_true rfl) dL_law_601 ⟨by show cells + 0 + 0 ≤ 601024; omega, by show slots + 0 + 0 ≤ 7293034; omega⟩ ?_
  refine y_icmp_eq C (tgt := 1714) dL_law_604 rfl (fun _ => ?_) (fun h => absurd rfl h)
  refine y_swap ?_
  exact y_widen (by omega) (by omega) kk
set_option maxRecDepth 100000 in
theorem k_edgeCount {p : Program} {l : Launch} {e : Env} {s : State} {m : MethodId} {args : Array Value} {below : List Frame} {meth : Method} {c : Code} {Q : State → Prop} {cells slots : Nat} {D : va_G} {cI cJ : ClassId} {A : Nat → Prop} {sa : Nat → Nat} {b L : Nat} {xs : Nat → Int32} {i x o am : Nat} (X : yLx p s m args meth c D cI cJ A sa b L xs) {wm wm' wc : va_W} {f : Nat → Int64} {r r2 : Int32} {d d2 : Nat} {fs fs2 : List Value}
    (hH : ctI l yX3_edgeCount wsX3_edgeCount (rmD d 0 0) D [(cI, .int)] [.ref x] wc wc r 0 0) (hN : ctI l yX4_edgeCount wsX4_edgeCount (rmD d2 0 0) D [(cI, .int)] [.ref am] wm wm' r2 0 0) (hq1 : wc[0]? = some (x, .inr (3, fs))) (hq : wm[0]? = some (am, .inr (4, fs2)))
    (hk : r = r2) (hd : d ≤ 9) (hd2 : d2 ≤ 9) (hc : cells + 3 ≤ 601024 ∧ slots + 126 ≤ 7293034)
    (kk : yW p l e room_1 s m args below meth c 7 D A Q (cells + 3) (slots + 126) (wm' ++ (WO cJ o f ++ wc)) 1714 [(4, .int (nI i)), (3, .ref o), (2, .ref am), (1, .ref x), (0, .ref b)] []) : yW p l e room_1 s m args below meth c 7 D A Q cells slots (wm ++ (WO cJ o f ++ wc)) 609 [(4, .int (nI i)), (3, .ref o), (2, .ref am), (1, .ref x), (0, .ref b)] [] := by
  obtain ⟨C, hE, hX, hbl, hbA, hL⟩ := X
  subst hk
  refine y_aload_n C 3 dL_law_609 rfl rfl ?_
  refine y_callI C.s1 (wr := wm ++ WO cJ o f) (st := []) 0 hH gL_law_X3_edgeCount rfl rfl rfl (by decide +kernel) ⟨by show d + 1 ≤ 11; omega, by show 8 + (1 + 11) + 30 * d ≤ 384; omega⟩ (q0 := 0) (ci := 3) hq1 rfl (List.append_assoc _ _ _).symm rfl rfl (Nat.le_of_ble_eq_true rfl) dL_law_610 ⟨by show cells + 0 ≤ 601024; omega, by show slots + 0 ≤ 7293034; omega⟩ ?_
  refine y_ws (List.append_assoc _ _ _) ?_
  refine y_swap ?_
  refine y_aload_n C 2 dL_law_613 rfl rfl ?_
  refine y_callI C.s1 (wr := WO cJ o f ++ wc) (st := [.int r]) 0 hN gL_law_X4_edgeCount rfl rfl rfl (by decide +kernel) ⟨by show d2 + 1 ≤ 11; omega, by show 8 + (1 + 11) + 30 * d2 ≤ 384; omega⟩ (q0 := 0) (ci := 4) hq rfl rfl rfl rfl (Nat.le_of_ble_eq_true rfl) dL_law_614 ⟨by show cells + 0 + 0 ≤ 601024; omega, by show slots + 0 + 0 ≤ 7293034; omega⟩ ?_
  refine y_icmp_eq C (tgt := 1714) dL_law_617 rfl (fun _ => ?_) (fun h => absurd rfl h)
  refine y_swap ?_
  exact y_widen (by omega) (by omega) kk
set_option maxRecDepth 100000 in
theorem k_misses {p : Program} {l : Launch} {e : Env} {s : State} {m : MethodId} {args : Array Value} {below : List Frame} {meth : Method} {c : Code} {Q : State → Prop} {cells slots : Nat} {D : va_G} {cI cJ : ClassId} {A : Nat → Prop} {sa : Nat → Nat} {b L : Nat} {xs : Nat → Int32} {i x o am : Nat} (X : yLx p s m args meth c D cI cJ A sa b L xs) {wm wm' wc : va_W} {f : Nat → Int64} {r r2 : Int32} {d d2 : Nat} {fs fs2 : List Value}
    (hH : ctI l yX3_misses wsX3_misses (rmD d 0 0) D [(cI, .int)] [.ref x] wc wc r 0 0) (hN : ctI l yX4_misses wsX4_misses (rmD d2 0 0) D [(cI, .int)] [.ref am] wm wm' r2 0 0) (hq1 : wc[0]? = some (x, .inr (3, fs))) (hq : wm[0]? = some (am, .inr (4, fs2)))
    (hk : r = r2) (hd : d ≤ 9) (hd2 : d2 ≤ 9) (hc : cells + 3 ≤ 601024 ∧ slots + 126 ≤ 7293034)
    (kk : yW p l e room_1 s m args below meth c 7 D A Q (cells + 3) (slots + 126) (wm' ++ (WO cJ o f ++ wc)) 1714 [(4, .int (nI i)), (3, .ref o), (2, .ref am), (1, .ref x), (0, .ref b)] []) : yW p l e room_1 s m args below meth c 7 D A Q cells slots (wm ++ (WO cJ o f ++ wc)) 1618 [(4, .int (nI i)), (3, .ref o), (2, .ref am), (1, .ref x), (0, .ref b)] [] := by
  obtain ⟨C, hE, hX, hbl, hbA, hL⟩ := X
  subst hk
  refine y_aload_n C 3 dL_law_1618 rfl rfl ?_
  refine y_callI C.s1 (wr := wm ++ WO cJ o f) (st := []) 0 hH gL_law_X3_misses rfl rfl rfl (by decide +kernel) ⟨by show d + 1 ≤ 11; omega, by show 8 + (1 + 11) + 30 * d ≤ 384; omega⟩ (q0 := 0) (ci := 3) hq1 rfl (List.append_assoc _ _ _).symm rfl rfl (Nat.le_of_ble_eq_true rfl) dL_law_1619 ⟨by show cells + 0 ≤ 601024; omega, by show slots + 0 ≤ 7293034; omega⟩ ?_
  refine y_ws (List.append_assoc _ _ _) ?_
  refine y_swap ?_
  refine y_aload_n C 2 dL_law_1622 rfl rfl ?_
  refine y_callI C.s1 (wr := WO cJ o f ++ wc) (st := [.int r]) 0 hN gL_law_X4_misses rfl rfl rfl (by decide +kernel) ⟨by show d2 + 1 ≤ 11; omega, by show 8 + (1 + 11) + 30 * d2 ≤ 384; omega⟩ (q0 := 0) (ci := 4) hq rfl rfl rfl rfl (Nat.le_of_ble_eq_true rfl) dL_law_1623 ⟨by show cells + 0 + 0 ≤ 601024; omega, by show slots + 0 + 0 ≤ 7293034; omega⟩ ?_
  refine y_icmp_eq C (tgt := 1714) dL_law_1626 rfl (fun _ => ?_) (fun h => absurd rfl h)
  refine y_swap ?_
  exact y_widen (by omega) (by omega) kk
set_option maxRecDepth 100000 in
theorem k_lastBlock {p : Program} {l : Launch} {e : Env} {s : State} {m : MethodId} {args : Array Value} {below : List Frame} {meth : Method} {c : Code} {Q : State → Prop} {cells slots : Nat} {D : va_G} {cI cJ : ClassId} {A : Nat → Prop} {sa : Nat → Nat} {b L : Nat} {xs : Nat → Int32} {i x o am : Nat} (X : yLx p s m args meth c D cI cJ A sa b L xs) {wm wm' wc : va_W} {f : Nat → Int64} {r r2 : Int32} {d d2 : Nat} {fs fs2 : List Value}
    (hH : ctI l yX3_lastBlock wsX3_lastBlock (rmD d 0 0) D [(cI, .int)] [.ref x] wc wc r 0 0) (hN : ctI l yX4_lastBlock wsX4_lastBlock (rmD d2 0 0) D [(cI, .int)] [.ref am] wm wm' r2 0 0) (hq1 : wc[0]? = some (x, .inr (3, fs))) (hq : wm[0]? = some (am, .inr (4, fs2)))
    (hk : r = r2) (hd : d ≤ 9) (hd2 : d2 ≤ 9) (hc : cells + 3 ≤ 601024 ∧ slots + 126 ≤ 7293034)
    (kk : yW p l e room_1 s m args below meth c 7 D A Q (cells + 3) (slots + 126) (wm' ++ (WO cJ o f ++ wc)) 1714 [(4, .int (nI i)), (3, .ref o), (2, .ref am), (1, .ref x), (0, .ref b)] []) : yW p l e room_1 s m args below meth c 7 D A Q cells slots (wm ++ (WO cJ o f ++ wc)) 1631 [(4, .int (nI i)), (3, .ref o), (2, .ref am), (1, .ref x), (0, .ref b)] [] := by
  obtain ⟨C, hE, hX, hbl, hbA, hL⟩ := X
  subst hk
  refine y_aload_n C 3 dL_law_1631 rfl rfl ?_
  refine y_callI C.s1 (wr := wm ++ WO cJ o f) (st := []) 0 hH gL_law_X3_lastBlock rfl rfl rfl (by decide +kernel) ⟨by show d + 1 ≤ 11; omega, by show 8 + (1 + 11) + 30 * d ≤ 384; omega⟩ (q0 := 0) (ci := 3) hq1 rfl (List.append_assoc _ _ _).symm rfl rfl (Nat.le_of_ble_eq_true rfl) dL_law_1632 ⟨by show cells + 0 ≤ 601024; omega, by show slots + 0 ≤ 7293034; omega⟩ ?_
  refine y_ws (List.append_assoc _ _ _) ?_
  refine y_swap ?_
  refine y_aload_n C 2 dL_law_1635 rfl rfl ?_
  refine y_callI C.s1 (wr := WO cJ o f ++ wc) (st := [.int r]) 0 hN gL_law_X4_lastBlock rfl rfl rfl (by decide +kernel) ⟨by show d2 + 1 ≤ 11; omega, by show 8 + (1 + 11) + 30 * d2 ≤ 384; omega⟩ (q0 := 0) (ci := 4) hq rfl rfl rfl rfl (Nat.le_of_ble_eq_true rfl) dL_law_1636 ⟨by show cells + 0 + 0 ≤ 601024; omega, by show slots + 0 + 0 ≤ 7293034; omega⟩ ?_
  refine y_icmp_eq C (tgt := 1714) dL_law_1639 rfl (fun _ => ?_) (fun h => absurd rfl h)
  refine y_swap ?_
  exact y_widen (by omega) (by omega) kk
set_option maxRecDepth 100000 in
theorem k_digest {p : Program} {l : Launch} {e : Env} {s : State} {m : MethodId} {args : Array Value} {below : List Frame} {meth : Method} {c : Code} {Q : State → Prop} {cells slots : Nat} {D : va_G} {cI cJ : ClassId} {A : Nat → Prop} {sa : Nat → Nat} {b L : Nat} {xs : Nat → Int32} {i x o am : Nat} (X : yLx p s m args meth c D cI cJ A sa b L xs) {wm wm' wc : va_W} {f : Nat → Int64} {r r2 : Int64} {d d2 : Nat} {fs fs2 : List Value}
    (hH : ctL l yX3_digest wsX3_digest (rmD d 0 0) D [(cI, .int)] [.ref x] wc wc r 0 0) (hN : ctL l yX4_digest wsX4_digest (rmD d2 0 0) D [(cI, .int)] [.ref am] wm wm' r2 0 0) (hq1 : wc[0]? = some (x, .inr (3, fs))) (hq : wm[0]? = some (am, .inr (4, fs2)))
    (hk : r = r2) (hd : d ≤ 9) (hd2 : d2 ≤ 9) (hc : cells + 3 ≤ 601024 ∧ slots + 126 ≤ 7293034)
    (kk : yW p l e room_1 s m args below meth c 7 D A Q (cells + 3) (slots + 126) (wm' ++ (WO cJ o f ++ wc)) 1714 [(4, .int (nI i)), (3, .ref o), (2, .ref am), (1, .ref x), (0, .ref b)] []) : yW p l e room_1 s m args below meth c 7 D A Q cells slots (wm ++ (WO cJ o f ++ wc)) 1700 [(4, .int (nI i)), (3, .ref o), (2, .ref am), (1, .ref x), (0, .ref b)] [] := by
  obtain ⟨C, hE, hX, hbl, hbA, hL⟩ := X
  subst hk
  refine y_aload_n C 3 dL_law_1700 rfl rfl ?_
  refine y_callL C.s1 (wr := wm ++ WO cJ o f) (st := []) 0 hH gL_law_X3_digest rfl rfl rfl (by decide +kernel) ⟨by show d + 1 ≤ 11; omega, by show 8 + (3 + 11) + 30 * d ≤ 384; omega⟩ (q0 := 0) (ci := 3) hq1 rfl (List.append_assoc _ _ _).symm rfl rfl (Nat.le_of_ble_eq_true rfl) dL_law_1701 ⟨by show cells + 0 ≤ 601024; omega, by show slots + 0 ≤ 7293034; omega⟩ ?_
  refine y_ws (List.append_assoc _ _ _) ?_
  refine y_swap ?_
  refine y_aload_n C 2 dL_law_1704 rfl rfl ?_
  refine y_callL C.s1 (wr := WO cJ o f ++ wc) (st := [.long r]) 0 hN gL_law_X4_digest rfl rfl rfl (by decide +kernel) ⟨by show d2 + 1 ≤ 11; omega, by show 8 + (5 + 11) + 30 * d2 ≤ 384; omega⟩ (q0 := 0) (ci := 4) hq rfl rfl rfl rfl (Nat.le_of_ble_eq_true rfl) dL_law_1705 ⟨by show cells + 0 + 0 ≤ 601024; omega, by show slots + 0 + 0 ≤ 7293034; omega⟩ ?_
  refine y_lcmp C dL_law_1708 ?_
  refine y_if_eq C (tgt := 1714) dL_law_1709 rfl (fun _ => ?_) (fun h => absurd (yl_c.mpr rfl) h)
  refine y_swap ?_
  exact y_widen (by omega) (by omega) kk
