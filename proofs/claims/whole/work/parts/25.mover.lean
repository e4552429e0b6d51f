/-- the cell of a CodeMover -/
def WC (a p s j : Nat) : va_W := [(a, .inr (3, [.ref p, .ref s, .ref j]))]
/-- deletions and insertions of the class -/
def dlC (sz : Nat → Nat) (de : Nat → Int32) (cd : Nat → Nat) (h : Int32) : Nat → (Nat → Nat) × Int32
  | 0 => (cd, h)
  | b + 1 => (tfF (dlC sz de cd h b).1 b (de b) (dlC sz de cd h b).2 (sz b)).2
theorem tf_lt {cd : Nat → Nat} (h : ∀ j, cd j < 24) (b : Nat) (g ch : Int32) (n : Nat) : ∀ j, (tfF cd b g ch n).2.1 j < 24 := by
  induction n with
  | zero => exact h
  | succ n ih =>
    rcases hq : tfF cd b g ch n with ⟨lf, u, h9⟩
    rw [hq] at ih
    simp only [tfF, hq]
    split
    · split
      · exact ih
      · exact upN_lt ih (by have := ih (12 * b + n); simp only at this; omega)
    · exact ih
def miC (E : Nat) (io : Nat → Int32) (S : Nat × (Nat → Nat) × (Nat → Nat) × Nat × (Nat → Nat) × (Nat → Nat) × (Nat → Int32) × Int32) : Nat → Nat × (Nat → Nat) × (Nat → Nat) × Nat × (Nat → Nat) × (Nat → Nat) × (Nat → Int32) × Int32
  | 0 => S
  | j + 1 =>
    match miC E io S j with
    | (B, sz, cd, M, fr, tt, f1, h) => if io j = 0 then (B, sz, cd, M, fr, tt, f1, h) else (B + 1, (icF B (io j) sz cd E).1, (icF B (io j) sz cd E).2, M + 1, upN fr M B, upN (upN tt j B) M (tt j), upd f1 B (nI M), nI 1)
theorem ic_ne {B : Nat} {g : Int32} {sz cd : Nat → Nat} (n b : Nat) (h : b ≠ B) : (icF B g sz cd n).1 b = sz b := by
  induction n with
  | zero => rfl
  | succ n ih =>
    simp only [icF]
    split
    · exact ih
    · simp only [upN_n h]; exact ih
theorem yi_nle {x y : Int32} (h : x < y) (h2 : y ≤ x) : False := absurd h (Int32.not_lt.mpr h2)
theorem in_X3_requireBlock_1 : ∀ w ∈ wsX10, w ∈ wsX3_requireBlock := fun _ h => List.mem_cons_of_mem _ (List.mem_append_left _ (List.mem_append_right _ h))
theorem in_X3_requireBlock_3 : ∀ w ∈ wsX30, w ∈ wsX3_requireBlock := fun _ h => List.mem_cons_of_mem _ (List.mem_append_left _ (List.mem_append_left _ (List.mem_append_right _ h)))
set_option maxHeartbeats 4000000 in
set_option maxRecDepth 100000 in
theorem c_X3_requireBlock_ok (l : Launch) (D : va_G) (cI : ClassId) (aC : Nat → Nat) (aJ : Nat → Nat) (tc tl : Nat → Int32) (mi eb hd : Int32) (hs : Nat → Int32) (ig ct : Int32) (aS : Nat → Nat) (kp ea la ns ne ts te da de eo dn io : Nat → Int32) (aP : Nat → Nat) (E : Nat) (vs dp : Nat → Int32) (B : Nat) (sz cd : Nat → Nat) (M : Nat) (fr tt : Nat → Nat) (f1 f2 : Nat → Int32) (cg : Int32) (b : Nat) (hB : B ≤ 40) (hb : b < B) : ctV l yX3_requireBlock wsX3_requireBlock (rmD 0 0 0) D [(cI, .int)] [.ref (aC 0), .int (nI b)] (WC (aC 0) (aP 0) (aS 0) (aJ 0) ++ (WJ cI aJ (aP 0) tc tl mi eb hd hs ig ct ++ (WS cI aS (aP 0) kp ea la ns ne ts te da de eo dn io ++ (WP cI aP E vs dp B sz cd M fr tt f1 f2 cg)))) (WC (aC 0) (aP 0) (aS 0) (aJ 0) ++ (WJ cI aJ (aP 0) tc tl mi eb hd hs ig ct ++ (WS cI aS (aP 0) kp ea la ns ne ts te da de eo dn io ++ (WP cI aP E vs dp B sz cd M fr tt f1 f2 cg)))) 0 0 := by
  refine ctV_of (by decide) rfl (Nat.le_of_ble_eq_true rfl) ?_
  intro p e s m args below meth c A Q C hnm K
  refine y_lv (lv' := [(0, .ref (aC 0)), (1, .int (nI b))]) rfl ?_
  refine y_iload_n C 1 dX3_requireBlock_0 rfl rfl ?_
  refine y_ifN_lt C (tgt := 15) dX3_requireBlock_1 (by decide) (by omega) ?_
  refine y_iload_n C 1 dX3_requireBlock_4 rfl rfl ?_
  refine y_aload_n C 0 dX3_requireBlock_5 rfl rfl ?_
  refine y_get C in_X3_requireBlock_3 (ci := 3) rfl 0 (by decide) (List.mem_of_getElem? (i := 3) rfl) 0 rfl rfl dX3_requireBlock_6 ?_
  refine y_get C in_X3_requireBlock_1 (ci := 1) rfl 3 (by decide) (List.mem_of_getElem? (i := 4) rfl) 18 rfl rfl dX3_requireBlock_9 ?_
  refine y_icmpN_lt C (tgt := 25) dX3_requireBlock_12 (by decide) (by omega) (by omega) (fun h12 => ?_) (fun h12 => ?_)
  · skip
    exact K _ _ _ _ dX3_requireBlock_25 (by decide) (by decide)
  · skip
    exact absurd h12 (by omega)
set_option maxHeartbeats 4000000 in
set_option maxRecDepth 100000 in
theorem c_X3_requireBlock_bad (l : Launch) (hfl : l.stackTraces = false) (sa : Nat → Nat) (D : va_G) (cI : ClassId) (aC : Nat → Nat) (aJ : Nat → Nat) (tc tl : Nat → Int32) (mi eb hd : Int32) (hs : Nat → Int32) (ig ct : Int32) (aS : Nat → Nat) (kp ea la ns ne ts te da de eo dn io : Nat → Int32) (aP : Nat → Nat) (E : Nat) (vs dp : Nat → Int32) (B : Nat) (sz cd : Nat → Nat) (M : Nat) (fr tt : Nat → Nat) (f1 f2 : Nat → Int32) (cg : Int32) (b : Int32) (hB : B ≤ 40) (hb : b < 0 ∨ nI B ≤ b) : ctX l yX3_requireBlock wsX3_requireBlock (rmD 6 1 6) sa D [(cI, .int)] [.ref (aC 0), .int b] (WC (aC 0) (aP 0) (aS 0) (aJ 0) ++ (WJ cI aJ (aP 0) tc tl mi eb hd hs ig ct ++ (WS cI aS (aP 0) kp ea la ns ne ts te da de eo dn io ++ (WP cI aP E vs dp B sz cd M fr tt f1 f2 cg)))) (WC (aC 0) (aP 0) (aS 0) (aJ 0) ++ (WJ cI aJ (aP 0) tc tl mi eb hd hs ig ct ++ (WS cI aS (aP 0) kp ea la ns ne ts te da de eo dn io ++ (WP cI aP E vs dp B sz cd M fr tt f1 f2 cg)))) exI 1 6 := by
  refine ctX_of (by decide) rfl (Nat.le_of_ble_eq_true rfl) ?_
  intro p e s m args below meth c C hnt hE9
  refine y_lv (lv' := [(0, .ref (aC 0)), (1, .int b)]) rfl ?_
  refine y_iload_n C 1 dX3_requireBlock_0 rfl rfl ?_
  refine y_if_lt C (tgt := 15) dX3_requireBlock_1 (by decide)  (fun h1 => ?_) (fun h1 => ?_)
  · skip
    exact y_throw C hfl hE9 hnt (by decide +kernel) (List.mem_of_getElem? (i := 1) rfl) (List.mem_of_getElem? (i := 2) rfl) (List.mem_of_getElem? (i := 12) rfl) (fun _ h => List.mem_cons_of_mem _ (List.mem_append_right _ h)) xg_I xo_I dX3_requireBlock_15 dX3_requireBlock_18 dX3_requireBlock_19 dX3_requireBlock_21 dX3_requireBlock_24 ⟨Nat.le_of_ble_eq_true rfl, Nat.le_of_ble_eq_true rfl⟩ ⟨Nat.le_of_ble_eq_true rfl, Nat.le_of_ble_eq_true rfl⟩ ⟨Nat.le_of_ble_eq_true rfl, Nat.le_of_ble_eq_true rfl⟩ (rfl)
  · skip
    refine y_iload_n C 1 dX3_requireBlock_4 rfl rfl ?_
    refine y_aload_n C 0 dX3_requireBlock_5 rfl rfl ?_
    refine y_get C in_X3_requireBlock_3 (ci := 3) rfl 0 (by decide) (List.mem_of_getElem? (i := 3) rfl) 0 rfl rfl dX3_requireBlock_6 ?_
    refine y_get C in_X3_requireBlock_1 (ci := 1) rfl 3 (by decide) (List.mem_of_getElem? (i := 4) rfl) 18 rfl rfl dX3_requireBlock_9 ?_
    refine y_icmp_lt C (tgt := 25) dX3_requireBlock_12 (by decide)  (fun h12 => ?_) (fun h12 => ?_)
    · skip
      exact absurd hb (fun q => q.elim h1 (fun z => yi_nle h12 z))
    · skip
      exact y_throw C hfl hE9 hnt (by decide +kernel) (List.mem_of_getElem? (i := 1) rfl) (List.mem_of_getElem? (i := 2) rfl) (List.mem_of_getElem? (i := 12) rfl) (fun _ h => List.mem_cons_of_mem _ (List.mem_append_right _ h)) xg_I xo_I dX3_requireBlock_15 dX3_requireBlock_18 dX3_requireBlock_19 dX3_requireBlock_21 dX3_requireBlock_24 ⟨Nat.le_of_ble_eq_true rfl, Nat.le_of_ble_eq_true rfl⟩ ⟨Nat.le_of_ble_eq_true rfl, Nat.le_of_ble_eq_true rfl⟩ ⟨Nat.le_of_ble_eq_true rfl, Nat.le_of_ble_eq_true rfl⟩ (rfl)
theorem in_X3_requireEdge_1 : ∀ w ∈ wsX10, w ∈ wsX3_requireEdge := fun _ h => List.mem_cons_of_mem _ (List.mem_append_left _ (List.mem_append_right _ h))
theorem in_X3_requireEdge_3 : ∀ w ∈ wsX30, w ∈ wsX3_requireEdge := fun _ h => List.mem_cons_of_mem _ (List.mem_append_left _ (List.mem_append_left _ (List.mem_append_right _ h)))
set_option maxHeartbeats 4000000 in
set_option maxRecDepth 100000 in
theorem c_X3_requireEdge_ok (l : Launch) (D : va_G) (cI : ClassId) (aC : Nat → Nat) (aJ : Nat → Nat) (tc tl : Nat → Int32) (mi eb hd : Int32) (hs : Nat → Int32) (ig ct : Int32) (aS : Nat → Nat) (kp ea la ns ne ts te da de eo dn io : Nat → Int32) (aP : Nat → Nat) (E : Nat) (vs dp : Nat → Int32) (B : Nat) (sz cd : Nat → Nat) (M : Nat) (fr tt : Nat → Nat) (f1 f2 : Nat → Int32) (cg : Int32) (b : Nat) (hM : M ≤ 80) (hb : b < M) : ctV l yX3_requireEdge wsX3_requireEdge (rmD 0 0 0) D [(cI, .int)] [.ref (aC 0), .int (nI b)] (WC (aC 0) (aP 0) (aS 0) (aJ 0) ++ (WJ cI aJ (aP 0) tc tl mi eb hd hs ig ct ++ (WS cI aS (aP 0) kp ea la ns ne ts te da de eo dn io ++ (WP cI aP E vs dp B sz cd M fr tt f1 f2 cg)))) (WC (aC 0) (aP 0) (aS 0) (aJ 0) ++ (WJ cI aJ (aP 0) tc tl mi eb hd hs ig ct ++ (WS cI aS (aP 0) kp ea la ns ne ts te da de eo dn io ++ (WP cI aP E vs dp B sz cd M fr tt f1 f2 cg)))) 0 0 := by
  refine ctV_of (by decide) rfl (Nat.le_of_ble_eq_true rfl) ?_
  intro p e s m args below meth c A Q C hnm K
  refine y_lv (lv' := [(0, .ref (aC 0)), (1, .int (nI b))]) rfl ?_
  refine y_iload_n C 1 dX3_requireEdge_0 rfl rfl ?_
  refine y_ifN_lt C (tgt := 15) dX3_requireEdge_1 (by decide) (by omega) ?_
  refine y_iload_n C 1 dX3_requireEdge_4 rfl rfl ?_
  refine y_aload_n C 0 dX3_requireEdge_5 rfl rfl ?_
  refine y_get C in_X3_requireEdge_3 (ci := 3) rfl 0 (by decide) (List.mem_of_getElem? (i := 3) rfl) 0 rfl rfl dX3_requireEdge_6 ?_
  refine y_get C in_X3_requireEdge_1 (ci := 1) rfl 6 (by decide) (List.mem_of_getElem? (i := 4) rfl) 18 rfl rfl dX3_requireEdge_9 ?_
  refine y_icmpN_lt C (tgt := 25) dX3_requireEdge_12 (by decide) (by omega) (by omega) (fun h12 => ?_) (fun h12 => ?_)
  · skip
    exact K _ _ _ _ dX3_requireEdge_25 (by decide) (by decide)
  · skip
    exact absurd h12 (by omega)
set_option maxHeartbeats 4000000 in
set_option maxRecDepth 100000 in
theorem c_X3_requireEdge_bad (l : Launch) (hfl : l.stackTraces = false) (sa : Nat → Nat) (D : va_G) (cI : ClassId) (aC : Nat → Nat) (aJ : Nat → Nat) (tc tl : Nat → Int32) (mi eb hd : Int32) (hs : Nat → Int32) (ig ct : Int32) (aS : Nat → Nat) (kp ea la ns ne ts te da de eo dn io : Nat → Int32) (aP : Nat → Nat) (E : Nat) (vs dp : Nat → Int32) (B : Nat) (sz cd : Nat → Nat) (M : Nat) (fr tt : Nat → Nat) (f1 f2 : Nat → Int32) (cg : Int32) (b : Int32) (hM : M ≤ 80) (hb : b < 0 ∨ nI M ≤ b) : ctX l yX3_requireEdge wsX3_requireEdge (rmD 6 1 6) sa D [(cI, .int)] [.ref (aC 0), .int b] (WC (aC 0) (aP 0) (aS 0) (aJ 0) ++ (WJ cI aJ (aP 0) tc tl mi eb hd hs ig ct ++ (WS cI aS (aP 0) kp ea la ns ne ts te da de eo dn io ++ (WP cI aP E vs dp B sz cd M fr tt f1 f2 cg)))) (WC (aC 0) (aP 0) (aS 0) (aJ 0) ++ (WJ cI aJ (aP 0) tc tl mi eb hd hs ig ct ++ (WS cI aS (aP 0) kp ea la ns ne ts te da de eo dn io ++ (WP cI aP E vs dp B sz cd M fr tt f1 f2 cg)))) exI 1 6 := by
  refine ctX_of (by decide) rfl (Nat.le_of_ble_eq_true rfl) ?_
  intro p e s m args below meth c C hnt hE9
  refine y_lv (lv' := [(0, .ref (aC 0)), (1, .int b)]) rfl ?_
  refine y_iload_n C 1 dX3_requireEdge_0 rfl rfl ?_
  refine y_if_lt C (tgt := 15) dX3_requireEdge_1 (by decide)  (fun h1 => ?_) (fun h1 => ?_)
  · skip
    exact y_throw C hfl hE9 hnt (by decide +kernel) (List.mem_of_getElem? (i := 1) rfl) (List.mem_of_getElem? (i := 2) rfl) (List.mem_of_getElem? (i := 13) rfl) (fun _ h => List.mem_cons_of_mem _ (List.mem_append_right _ h)) xg_I xo_I dX3_requireEdge_15 dX3_requireEdge_18 dX3_requireEdge_19 dX3_requireEdge_21 dX3_requireEdge_24 ⟨Nat.le_of_ble_eq_true rfl, Nat.le_of_ble_eq_true rfl⟩ ⟨Nat.le_of_ble_eq_true rfl, Nat.le_of_ble_eq_true rfl⟩ ⟨Nat.le_of_ble_eq_true rfl, Nat.le_of_ble_eq_true rfl⟩ (rfl)
  · skip
    refine y_iload_n C 1 dX3_requireEdge_4 rfl rfl ?_
    refine y_aload_n C 0 dX3_requireEdge_5 rfl rfl ?_
    refine y_get C in_X3_requireEdge_3 (ci := 3) rfl 0 (by decide) (List.mem_of_getElem? (i := 3) rfl) 0 rfl rfl dX3_requireEdge_6 ?_
    refine y_get C in_X3_requireEdge_1 (ci := 1) rfl 6 (by decide) (List.mem_of_getElem? (i := 4) rfl) 18 rfl rfl dX3_requireEdge_9 ?_
    refine y_icmp_lt C (tgt := 25) dX3_requireEdge_12 (by decide)  (fun h12 => ?_) (fun h12 => ?_)
    · skip
      exact absurd hb (fun q => q.elim h1 (fun z => yi_nle h12 z))
    · skip
      exact y_throw C hfl hE9 hnt (by decide +kernel) (List.mem_of_getElem? (i := 1) rfl) (List.mem_of_getElem? (i := 2) rfl) (List.mem_of_getElem? (i := 13) rfl) (fun _ h => List.mem_cons_of_mem _ (List.mem_append_right _ h)) xg_I xo_I dX3_requireEdge_15 dX3_requireEdge_18 dX3_requireEdge_19 dX3_requireEdge_21 dX3_requireEdge_24 ⟨Nat.le_of_ble_eq_true rfl, Nat.le_of_ble_eq_true rfl⟩ ⟨Nat.le_of_ble_eq_true rfl, Nat.le_of_ble_eq_true rfl⟩ ⟨Nat.le_of_ble_eq_true rfl, Nat.le_of_ble_eq_true rfl⟩ (rfl)
theorem in_X3_requireExpression_1 : ∀ w ∈ wsX10, w ∈ wsX3_requireExpression := fun _ h => List.mem_cons_of_mem _ (List.mem_append_left _ (List.mem_append_right _ h))
theorem in_X3_requireExpression_3 : ∀ w ∈ wsX30, w ∈ wsX3_requireExpression := fun _ h => List.mem_cons_of_mem _ (List.mem_append_left _ (List.mem_append_left _ (List.mem_append_right _ h)))
set_option maxHeartbeats 4000000 in
set_option maxRecDepth 100000 in
theorem c_X3_requireExpression_ok (l : Launch) (D : va_G) (cI : ClassId) (aC : Nat → Nat) (aJ : Nat → Nat) (tc tl : Nat → Int32) (mi eb hd : Int32) (hs : Nat → Int32) (ig ct : Int32) (aS : Nat → Nat) (kp ea la ns ne ts te da de eo dn io : Nat → Int32) (aP : Nat → Nat) (E : Nat) (vs dp : Nat → Int32) (B : Nat) (sz cd : Nat → Nat) (M : Nat) (fr tt : Nat → Nat) (f1 f2 : Nat → Int32) (cg : Int32) (b : Nat) (hE : E ≤ 8) (hb : b < E) : ctV l yX3_requireExpression wsX3_requireExpression (rmD 0 0 0) D [(cI, .int)] [.ref (aC 0), .int (nI b)] (WC (aC 0) (aP 0) (aS 0) (aJ 0) ++ (WJ cI aJ (aP 0) tc tl mi eb hd hs ig ct ++ (WS cI aS (aP 0) kp ea la ns ne ts te da de eo dn io ++ (WP cI aP E vs dp B sz cd M fr tt f1 f2 cg)))) (WC (aC 0) (aP 0) (aS 0) (aJ 0) ++ (WJ cI aJ (aP 0) tc tl mi eb hd hs ig ct ++ (WS cI aS (aP 0) kp ea la ns ne ts te da de eo dn io ++ (WP cI aP E vs dp B sz cd M fr tt f1 f2 cg)))) 0 0 := by
  refine ctV_of (by decide) rfl (Nat.le_of_ble_eq_true rfl) ?_
  intro p e s m args below meth c A Q C hnm K
  refine y_lv (lv' := [(0, .ref (aC 0)), (1, .int (nI b))]) rfl ?_
  refine y_iload_n C 1 dX3_requireExpression_0 rfl rfl ?_
  refine y_ifN_lt C (tgt := 15) dX3_requireExpression_1 (by decide) (by omega) ?_
  refine y_iload_n C 1 dX3_requireExpression_4 rfl rfl ?_
  refine y_aload_n C 0 dX3_requireExpression_5 rfl rfl ?_
  refine y_get C in_X3_requireExpression_3 (ci := 3) rfl 0 (by decide) (List.mem_of_getElem? (i := 3) rfl) 0 rfl rfl dX3_requireExpression_6 ?_
  refine y_get C in_X3_requireExpression_1 (ci := 1) rfl 0 (by decide) (List.mem_of_getElem? (i := 4) rfl) 18 rfl rfl dX3_requireExpression_9 ?_
  refine y_icmpN_lt C (tgt := 25) dX3_requireExpression_12 (by decide) (by omega) (by omega) (fun h12 => ?_) (fun h12 => ?_)
  · skip
    exact K _ _ _ _ dX3_requireExpression_25 (by decide) (by decide)
  · skip
    exact absurd h12 (by omega)
set_option maxHeartbeats 4000000 in
set_option maxRecDepth 100000 in
theorem c_X3_requireExpression_bad (l : Launch) (hfl : l.stackTraces = false) (sa : Nat → Nat) (D : va_G) (cI : ClassId) (aC : Nat → Nat) (aJ : Nat → Nat) (tc tl : Nat → Int32) (mi eb hd : Int32) (hs : Nat → Int32) (ig ct : Int32) (aS : Nat → Nat) (kp ea la ns ne ts te da de eo dn io : Nat → Int32) (aP : Nat → Nat) (E : Nat) (vs dp : Nat → Int32) (B : Nat) (sz cd : Nat → Nat) (M : Nat) (fr tt : Nat → Nat) (f1 f2 : Nat → Int32) (cg : Int32) (b : Int32) (hE : E ≤ 8) (hb : b < 0 ∨ nI E ≤ b) : ctX l yX3_requireExpression wsX3_requireExpression (rmD 6 1 6) sa D [(cI, .int)] [.ref (aC 0), .int b] (WC (aC 0) (aP 0) (aS 0) (aJ 0) ++ (WJ cI aJ (aP 0) tc tl mi eb hd hs ig ct ++ (WS cI aS (aP 0) kp ea la ns ne ts te da de eo dn io ++ (WP cI aP E vs dp B sz cd M fr tt f1 f2 cg)))) (WC (aC 0) (aP 0) (aS 0) (aJ 0) ++ (WJ cI aJ (aP 0) tc tl mi eb hd hs ig ct ++ (WS cI aS (aP 0) kp ea la ns ne ts te da de eo dn io ++ (WP cI aP E vs dp B sz cd M fr tt f1 f2 cg)))) exI 1 6 := by
  refine ctX_of (by decide) rfl (Nat.le_of_ble_eq_true rfl) ?_
  intro p e s m args below meth c C hnt hE9
  refine y_lv (lv' := [(0, .ref (aC 0)), (1, .int b)]) rfl ?_
  refine y_iload_n C 1 dX3_requireExpression_0 rfl rfl ?_
  refine y_if_lt C (tgt := 15) dX3_requireExpression_1 (by decide)  (fun h1 => ?_) (fun h1 => ?_)
  · skip
    exact y_throw C hfl hE9 hnt (by decide +kernel) (List.mem_of_getElem? (i := 1) rfl) (List.mem_of_getElem? (i := 2) rfl) (List.mem_of_getElem? (i := 14) rfl) (fun _ h => List.mem_cons_of_mem _ (List.mem_append_right _ h)) xg_I xo_I dX3_requireExpression_15 dX3_requireExpression_18 dX3_requireExpression_19 dX3_requireExpression_21 dX3_requireExpression_24 ⟨Nat.le_of_ble_eq_true rfl, Nat.le_of_ble_eq_true rfl⟩ ⟨Nat.le_of_ble_eq_true rfl, Nat.le_of_ble_eq_true rfl⟩ ⟨Nat.le_of_ble_eq_true rfl, Nat.le_of_ble_eq_true rfl⟩ (rfl)
  · skip
    refine y_iload_n C 1 dX3_requireExpression_4 rfl rfl ?_
    refine y_aload_n C 0 dX3_requireExpression_5 rfl rfl ?_
    refine y_get C in_X3_requireExpression_3 (ci := 3) rfl 0 (by decide) (List.mem_of_getElem? (i := 3) rfl) 0 rfl rfl dX3_requireExpression_6 ?_
    refine y_get C in_X3_requireExpression_1 (ci := 1) rfl 0 (by decide) (List.mem_of_getElem? (i := 4) rfl) 18 rfl rfl dX3_requireExpression_9 ?_
    refine y_icmp_lt C (tgt := 25) dX3_requireExpression_12 (by decide)  (fun h12 => ?_) (fun h12 => ?_)
    · skip
      exact absurd hb (fun q => q.elim h1 (fun z => yi_nle h12 z))
    · skip
      exact y_throw C hfl hE9 hnt (by decide +kernel) (List.mem_of_getElem? (i := 1) rfl) (List.mem_of_getElem? (i := 2) rfl) (List.mem_of_getElem? (i := 14) rfl) (fun _ h => List.mem_cons_of_mem _ (List.mem_append_right _ h)) xg_I xo_I dX3_requireExpression_15 dX3_requireExpression_18 dX3_requireExpression_19 dX3_requireExpression_21 dX3_requireExpression_24 ⟨Nat.le_of_ble_eq_true rfl, Nat.le_of_ble_eq_true rfl⟩ ⟨Nat.le_of_ble_eq_true rfl, Nat.le_of_ble_eq_true rfl⟩ ⟨Nat.le_of_ble_eq_true rfl, Nat.le_of_ble_eq_true rfl⟩ (rfl)
theorem in_X3_requireRoom_1 : ∀ w ∈ wsX10, w ∈ wsX3_requireRoom := fun _ h => List.mem_cons_of_mem _ (List.mem_append_left _ (List.mem_append_right _ h))
theorem in_X3_requireRoom_3 : ∀ w ∈ wsX30, w ∈ wsX3_requireRoom := fun _ h => List.mem_cons_of_mem _ (List.mem_append_left _ (List.mem_append_left _ (List.mem_append_right _ h)))
set_option maxHeartbeats 4000000 in
set_option maxRecDepth 100000 in
theorem c_X3_requireRoom_ok (l : Launch) (D : va_G) (cI : ClassId) (aC : Nat → Nat) (aJ : Nat → Nat) (tc tl : Nat → Int32) (mi eb hd : Int32) (hs : Nat → Int32) (ig ct : Int32) (aS : Nat → Nat) (kp ea la ns ne ts te da de eo dn io : Nat → Int32) (aP : Nat → Nat) (E : Nat) (vs dp : Nat → Int32) (B : Nat) (sz cd : Nat → Nat) (M : Nat) (fr tt : Nat → Nat) (f1 f2 : Nat → Int32) (cg : Int32) (b : Nat) (hb : b < 40) (hz : sz b < 12) : ctV l yX3_requireRoom wsX3_requireRoom (rmD 0 0 0) D [(cI, .int)] [.ref (aC 0), .int (nI b)] (WC (aC 0) (aP 0) (aS 0) (aJ 0) ++ (WJ cI aJ (aP 0) tc tl mi eb hd hs ig ct ++ (WS cI aS (aP 0) kp ea la ns ne ts te da de eo dn io ++ (WP cI aP E vs dp B sz cd M fr tt f1 f2 cg)))) (WC (aC 0) (aP 0) (aS 0) (aJ 0) ++ (WJ cI aJ (aP 0) tc tl mi eb hd hs ig ct ++ (WS cI aS (aP 0) kp ea la ns ne ts te da de eo dn io ++ (WP cI aP E vs dp B sz cd M fr tt f1 f2 cg)))) 0 0 := by
  refine ctV_of (by decide) rfl (Nat.le_of_ble_eq_true rfl) ?_
  intro p e s m args below meth c A Q C hnm K
  refine y_lv (lv' := [(0, .ref (aC 0)), (1, .int (nI b))]) rfl ?_
  refine y_aload_n C 0 dX3_requireRoom_0 rfl rfl ?_
  refine y_get C in_X3_requireRoom_3 (ci := 3) rfl 0 (by decide) (List.mem_of_getElem? (i := 3) rfl) 0 rfl rfl dX3_requireRoom_1 ?_
  refine y_get C in_X3_requireRoom_1 (ci := 1) rfl 4 (by decide) (List.mem_of_getElem? (i := 4) rfl) 18 rfl rfl dX3_requireRoom_4 ?_
  refine y_iload_n C 1 dX3_requireRoom_7 rfl rfl ?_
  refine y_ialdA C (q0 := 21) (t0 := 0) rfl rfl (by decide) (by omega) dX3_requireRoom_8 ?_
  refine y_bipush C (v := nI 12) dX3_requireRoom_9 (by decide) ?_
  refine y_icmpN_lt C (tgt := 24) dX3_requireRoom_11 (by decide) (by omega) (by omega) (fun h11 => ?_) (fun h11 => ?_)
  · skip
    exact K _ _ _ _ dX3_requireRoom_24 (by decide) (by decide)
  · skip
    exact absurd h11 (by omega)
set_option maxHeartbeats 4000000 in
set_option maxRecDepth 100000 in
theorem c_X3_requireRoom_full (l : Launch) (hfl : l.stackTraces = false) (sa : Nat → Nat) (D : va_G) (cI : ClassId) (aC : Nat → Nat) (aJ : Nat → Nat) (tc tl : Nat → Int32) (mi eb hd : Int32) (hs : Nat → Int32) (ig ct : Int32) (aS : Nat → Nat) (kp ea la ns ne ts te da de eo dn io : Nat → Int32) (aP : Nat → Nat) (E : Nat) (vs dp : Nat → Int32) (B : Nat) (sz cd : Nat → Nat) (M : Nat) (fr tt : Nat → Nat) (f1 f2 : Nat → Int32) (cg : Int32) (b : Nat) (hb : b < 40) (hz : sz b = 12) : ctX l yX3_requireRoom wsX3_requireRoom (rmD 6 1 6) sa D [(cI, .int)] [.ref (aC 0), .int (nI b)] (WC (aC 0) (aP 0) (aS 0) (aJ 0) ++ (WJ cI aJ (aP 0) tc tl mi eb hd hs ig ct ++ (WS cI aS (aP 0) kp ea la ns ne ts te da de eo dn io ++ (WP cI aP E vs dp B sz cd M fr tt f1 f2 cg)))) (WC (aC 0) (aP 0) (aS 0) (aJ 0) ++ (WJ cI aJ (aP 0) tc tl mi eb hd hs ig ct ++ (WS cI aS (aP 0) kp ea la ns ne ts te da de eo dn io ++ (WP cI aP E vs dp B sz cd M fr tt f1 f2 cg)))) exS 1 6 := by
  refine ctX_of (by decide) rfl (Nat.le_of_ble_eq_true rfl) ?_
  intro p e s m args below meth c C hnt hE9
  refine y_lv (lv' := [(0, .ref (aC 0)), (1, .int (nI b))]) rfl ?_
  refine y_aload_n C 0 dX3_requireRoom_0 rfl rfl ?_
  refine y_get C in_X3_requireRoom_3 (ci := 3) rfl 0 (by decide) (List.mem_of_getElem? (i := 3) rfl) 0 rfl rfl dX3_requireRoom_1 ?_
  refine y_get C in_X3_requireRoom_1 (ci := 1) rfl 4 (by decide) (List.mem_of_getElem? (i := 4) rfl) 18 rfl rfl dX3_requireRoom_4 ?_
  refine y_iload_n C 1 dX3_requireRoom_7 rfl rfl ?_
  refine y_ialdA C (q0 := 21) (t0 := 0) rfl rfl (by decide) (by omega) dX3_requireRoom_8 ?_
  refine y_bipush C (v := nI 12) dX3_requireRoom_9 (by decide) ?_
  refine y_icmpN_lt C (tgt := 24) dX3_requireRoom_11 (by decide) (by omega) (by omega) (fun h11 => ?_) (fun h11 => ?_)
  · skip
    exact absurd h11 (by omega)
  · skip
    exact y_throw C hfl hE9 hnt (by decide +kernel) (List.mem_of_getElem? (i := 1) rfl) (List.mem_of_getElem? (i := 2) rfl) (List.mem_of_getElem? (i := 15) rfl) (fun _ h => List.mem_cons_of_mem _ (List.mem_append_right _ h)) xg_S xo_S dX3_requireRoom_14 dX3_requireRoom_17 dX3_requireRoom_18 dX3_requireRoom_20 dX3_requireRoom_23 ⟨Nat.le_of_ble_eq_true rfl, Nat.le_of_ble_eq_true rfl⟩ ⟨Nat.le_of_ble_eq_true rfl, Nat.le_of_ble_eq_true rfl⟩ ⟨Nat.le_of_ble_eq_true rfl, Nat.le_of_ble_eq_true rfl⟩ (rfl)
theorem in_X3_addExpression_1 : ∀ w ∈ wsX10, w ∈ wsX3_addExpression := fun _ h => List.mem_cons_of_mem _ (List.mem_append_left _ (List.mem_append_left _ (List.mem_append_right _ h)))
theorem in_X3_addExpression_3 : ∀ w ∈ wsX30, w ∈ wsX3_addExpression := fun _ h => List.mem_cons_of_mem _ (List.mem_append_left _ (List.mem_append_left _ (List.mem_append_left _ (List.mem_append_right _ h))))
set_option maxHeartbeats 4000000 in
set_option maxRecDepth 100000 in
theorem c_X3_addExpression_ok (l : Launch) (D : va_G) (cI : ClassId) (aC : Nat → Nat) (aJ : Nat → Nat) (tc tl : Nat → Int32) (mi eb hd : Int32) (hs : Nat → Int32) (ig ct : Int32) (aS : Nat → Nat) (kp ea la ns ne ts te da de eo dn io : Nat → Int32) (aP : Nat → Nat) (E : Nat) (vs dp : Nat → Int32) (B : Nat) (sz cd : Nat → Nat) (M : Nat) (fr tt : Nat → Nat) (f1 f2 : Nat → Int32) (cg : Int32) (k : Nat) (hE : E < 8) (hk : k ≤ 63) : ctI l yX3_addExpression wsX3_addExpression (rmD 1 0 0) D [(cI, .int)] [.ref (aC 0), .int (nI k)] (WC (aC 0) (aP 0) (aS 0) (aJ 0) ++ (WJ cI aJ (aP 0) tc tl mi eb hd hs ig ct ++ (WS cI aS (aP 0) kp ea la ns ne ts te da de eo dn io ++ (WP cI aP E vs dp B sz cd M fr tt f1 f2 cg)))) (WC (aC 0) (aP 0) (aS 0) (aJ 0) ++ (WJ cI aJ (aP 0) tc tl mi eb hd hs ig ct ++ (WS cI aS (aP 0) kp ea la ns ne ts te da de eo dn io ++ (WP cI aP (E + 1) (upd vs E (nI k)) (ndF dp k E 6) B sz cd M fr tt f1 f2 (nI 1))))) (nI E) 0 0 := by
  refine ctI_of (by decide) rfl (Nat.le_of_ble_eq_true rfl) ?_
  intro p e s m args below meth c A Q C hnm K
  refine y_lv (lv' := [(0, .ref (aC 0)), (1, .int (nI k))]) rfl ?_
  refine y_iload_n C 1 dX3_addExpression_0 rfl rfl ?_
  refine y_ifN_lt C (tgt := 10) dX3_addExpression_1 (by decide) (by omega) ?_
  refine y_iload_n C 1 dX3_addExpression_4 rfl rfl ?_
  refine y_bipush C (v := nI 64) dX3_addExpression_5 (by decide) ?_
  refine y_icmpN_lt C (tgt := 20) dX3_addExpression_7 (by decide) (by omega) (by omega) (fun h7 => ?_) (fun h7 => ?_)
  · skip
    refine y_aload_n C 0 dX3_addExpression_20 rfl rfl ?_
    refine y_get C in_X3_addExpression_3 (ci := 3) rfl 0 (by decide) (List.mem_of_getElem? (i := 5) rfl) 0 rfl rfl dX3_addExpression_21 ?_
    refine y_get C in_X3_addExpression_1 (ci := 1) rfl 0 (by decide) (List.mem_of_getElem? (i := 6) rfl) 18 rfl rfl dX3_addExpression_24 ?_
    refine y_bipush C (v := nI 8) dX3_addExpression_27 (by decide) ?_
    refine y_icmpN_lt C (tgt := 42) dX3_addExpression_29 (by decide) (by omega) (by omega) (fun h29 => ?_) (fun h29 => ?_)
    · skip
      refine y_aload_n C 0 dX3_addExpression_42 rfl rfl ?_
      refine y_get C in_X3_addExpression_3 (ci := 3) rfl 0 (by decide) (List.mem_of_getElem? (i := 5) rfl) 0 rfl rfl dX3_addExpression_43 ?_
      refine y_iload_n C 1 dX3_addExpression_46 rfl rfl ?_
      refine y_callI C (wr := WC (aC 0) (aP 0) (aS 0) (aJ 0) ++ WJ cI aJ (aP 0) tc tl mi eb hd hs ig ct ++ WS cI aS (aP 0) kp ea la ns ne ts te da de eo dn io) 1 (c_X1_newExpression l D cI aP E vs dp B sz cd M fr tt f1 f2 cg k hE hk) gX3_addExpression_X1_newExpression rfl rfl rfl (by decide +kernel) ⟨Nat.le_of_ble_eq_true rfl, Nat.le_of_ble_eq_true rfl⟩ (q0 := 0) (ci := 1) rfl rfl (by simp only [List.append_assoc]) rfl rfl (Nat.le_of_ble_eq_true rfl) dX3_addExpression_47 ⟨Nat.le_of_ble_eq_true rfl, Nat.le_of_ble_eq_true rfl⟩ ?_
      refine y_ws (ws' := WC (aC 0) (aP 0) (aS 0) (aJ 0) ++ (WJ cI aJ (aP 0) tc tl mi eb hd hs ig ct ++ (WS cI aS (aP 0) kp ea la ns ne ts te da de eo dn io ++ (WP cI aP (E + 1) (upd vs E (nI k)) (ndF dp k E 6) B sz cd M fr tt f1 f2 (nI 1))))) (by simp only [List.append_assoc]) ?_
      exact K _ _ _ _ _ dX3_addExpression_50 (rfl) (by decide) (by decide)
    · skip
      exact absurd h29 (by omega)
  · skip
    exact absurd h7 (by omega)
set_option maxHeartbeats 4000000 in
set_option maxRecDepth 100000 in
theorem c_X3_addExpression_bad (l : Launch) (hfl : l.stackTraces = false) (sa : Nat → Nat) (D : va_G) (cI : ClassId) (aC : Nat → Nat) (aJ : Nat → Nat) (tc tl : Nat → Int32) (mi eb hd : Int32) (hs : Nat → Int32) (ig ct : Int32) (aS : Nat → Nat) (kp ea la ns ne ts te da de eo dn io : Nat → Int32) (aP : Nat → Nat) (E : Nat) (vs dp : Nat → Int32) (B : Nat) (sz cd : Nat → Nat) (M : Nat) (fr tt : Nat → Nat) (f1 f2 : Nat → Int32) (cg : Int32) (k : Int32) (hk : k < 0 ∨ ¬ k < nI 64) : ctX l yX3_addExpression wsX3_addExpression (rmD 6 1 6) sa D [(cI, .int)] [.ref (aC 0), .int k] (WC (aC 0) (aP 0) (aS 0) (aJ 0) ++ (WJ cI aJ (aP 0) tc tl mi eb hd hs ig ct ++ (WS cI aS (aP 0) kp ea la ns ne ts te da de eo dn io ++ (WP cI aP E vs dp B sz cd M fr tt f1 f2 cg)))) (WC (aC 0) (aP 0) (aS 0) (aJ 0) ++ (WJ cI aJ (aP 0) tc tl mi eb hd hs ig ct ++ (WS cI aS (aP 0) kp ea la ns ne ts te da de eo dn io ++ (WP cI aP E vs dp B sz cd M fr tt f1 f2 cg)))) exA 1 6 := by
  refine ctX_of (by decide) rfl (Nat.le_of_ble_eq_true rfl) ?_
  intro p e s m args below meth c C hnt hE9
  refine y_lv (lv' := [(0, .ref (aC 0)), (1, .int k)]) rfl ?_
  refine y_iload_n C 1 dX3_addExpression_0 rfl rfl ?_
  refine y_if_lt C (tgt := 10) dX3_addExpression_1 (by decide)  (fun h1 => ?_) (fun h1 => ?_)
  · skip
    exact y_throw C hfl hE9 hnt (by decide +kernel) (List.mem_of_getElem? (i := 1) rfl) (List.mem_of_getElem? (i := 2) rfl) (List.mem_of_getElem? (i := 0) rfl) (fun _ h => List.mem_cons_of_mem _ (List.mem_append_left _ (List.mem_append_right _ h))) xg_A xo_A dX3_addExpression_10 dX3_addExpression_13 dX3_addExpression_14 dX3_addExpression_16 dX3_addExpression_19 ⟨Nat.le_of_ble_eq_true rfl, Nat.le_of_ble_eq_true rfl⟩ ⟨Nat.le_of_ble_eq_true rfl, Nat.le_of_ble_eq_true rfl⟩ ⟨Nat.le_of_ble_eq_true rfl, Nat.le_of_ble_eq_true rfl⟩ (rfl)
  · skip
    refine y_iload_n C 1 dX3_addExpression_4 rfl rfl ?_
    refine y_bipush C (v := nI 64) dX3_addExpression_5 (by decide) ?_
    refine y_icmp_lt C (tgt := 20) dX3_addExpression_7 (by decide)  (fun h7 => ?_) (fun h7 => ?_)
    · skip
      exact absurd hk (fun q => q.elim h1 (fun z => z h7))
    · skip
      exact y_throw C hfl hE9 hnt (by decide +kernel) (List.mem_of_getElem? (i := 1) rfl) (List.mem_of_getElem? (i := 2) rfl) (List.mem_of_getElem? (i := 0) rfl) (fun _ h => List.mem_cons_of_mem _ (List.mem_append_left _ (List.mem_append_right _ h))) xg_A xo_A dX3_addExpression_10 dX3_addExpression_13 dX3_addExpression_14 dX3_addExpression_16 dX3_addExpression_19 ⟨Nat.le_of_ble_eq_true rfl, Nat.le_of_ble_eq_true rfl⟩ ⟨Nat.le_of_ble_eq_true rfl, Nat.le_of_ble_eq_true rfl⟩ ⟨Nat.le_of_ble_eq_true rfl, Nat.le_of_ble_eq_true rfl⟩ (rfl)
set_option maxHeartbeats 4000000 in
set_option maxRecDepth 100000 in
theorem c_X3_addExpression_full (l : Launch) (hfl : l.stackTraces = false) (sa : Nat → Nat) (D : va_G) (cI : ClassId) (aC : Nat → Nat) (aJ : Nat → Nat) (tc tl : Nat → Int32) (mi eb hd : Int32) (hs : Nat → Int32) (ig ct : Int32) (aS : Nat → Nat) (kp ea la ns ne ts te da de eo dn io : Nat → Int32) (aP : Nat → Nat) (E : Nat) (vs dp : Nat → Int32) (B : Nat) (sz cd : Nat → Nat) (M : Nat) (fr tt : Nat → Nat) (f1 f2 : Nat → Int32) (cg : Int32) (k : Nat) (hE : E = 8) (hk : k ≤ 63) : ctX l yX3_addExpression wsX3_addExpression (rmD 6 1 6) sa D [(cI, .int)] [.ref (aC 0), .int (nI k)] (WC (aC 0) (aP 0) (aS 0) (aJ 0) ++ (WJ cI aJ (aP 0) tc tl mi eb hd hs ig ct ++ (WS cI aS (aP 0) kp ea la ns ne ts te da de eo dn io ++ (WP cI aP E vs dp B sz cd M fr tt f1 f2 cg)))) (WC (aC 0) (aP 0) (aS 0) (aJ 0) ++ (WJ cI aJ (aP 0) tc tl mi eb hd hs ig ct ++ (WS cI aS (aP 0) kp ea la ns ne ts te da de eo dn io ++ (WP cI aP E vs dp B sz cd M fr tt f1 f2 cg)))) exS 1 6 := by
  refine ctX_of (by decide) rfl (Nat.le_of_ble_eq_true rfl) ?_
  intro p e s m args below meth c C hnt hE9
  refine y_lv (lv' := [(0, .ref (aC 0)), (1, .int (nI k))]) rfl ?_
  refine y_iload_n C 1 dX3_addExpression_0 rfl rfl ?_
  refine y_ifN_lt C (tgt := 10) dX3_addExpression_1 (by decide) (by omega) ?_
  refine y_iload_n C 1 dX3_addExpression_4 rfl rfl ?_
  refine y_bipush C (v := nI 64) dX3_addExpression_5 (by decide) ?_
  refine y_icmpN_lt C (tgt := 20) dX3_addExpression_7 (by decide) (by omega) (by omega) (fun h7 => ?_) (fun h7 => ?_)
  · skip
    refine y_aload_n C 0 dX3_addExpression_20 rfl rfl ?_
    refine y_get C in_X3_addExpression_3 (ci := 3) rfl 0 (by decide) (List.mem_of_getElem? (i := 5) rfl) 0 rfl rfl dX3_addExpression_21 ?_
    refine y_get C in_X3_addExpression_1 (ci := 1) rfl 0 (by decide) (List.mem_of_getElem? (i := 6) rfl) 18 rfl rfl dX3_addExpression_24 ?_
    refine y_bipush C (v := nI 8) dX3_addExpression_27 (by decide) ?_
    refine y_icmpN_lt C (tgt := 42) dX3_addExpression_29 (by decide) (by omega) (by omega) (fun h29 => ?_) (fun h29 => ?_)
    · skip
      exact absurd h29 (by omega)
    · skip
      exact y_throw C hfl hE9 hnt (by decide +kernel) (List.mem_of_getElem? (i := 3) rfl) (List.mem_of_getElem? (i := 4) rfl) (List.mem_of_getElem? (i := 1) rfl) (fun _ h => List.mem_cons_of_mem _ (List.mem_append_right _ h)) xg_S xo_S dX3_addExpression_32 dX3_addExpression_35 dX3_addExpression_36 dX3_addExpression_38 dX3_addExpression_41 ⟨Nat.le_of_ble_eq_true rfl, Nat.le_of_ble_eq_true rfl⟩ ⟨Nat.le_of_ble_eq_true rfl, Nat.le_of_ble_eq_true rfl⟩ ⟨Nat.le_of_ble_eq_true rfl, Nat.le_of_ble_eq_true rfl⟩ (rfl)
  · skip
    exact absurd h7 (by omega)
theorem in_X3_addBlock_1 : ∀ w ∈ wsX10, w ∈ wsX3_addBlock := fun _ h => List.mem_cons_of_mem _ (List.mem_append_left _ (List.mem_append_right _ h))
theorem in_X3_addBlock_3 : ∀ w ∈ wsX30, w ∈ wsX3_addBlock := fun _ h => List.mem_cons_of_mem _ (List.mem_append_left _ (List.mem_append_left _ (List.mem_append_right _ h)))
set_option maxHeartbeats 4000000 in
set_option maxRecDepth 100000 in
theorem c_X3_addBlock_ok (l : Launch) (D : va_G) (cI : ClassId) (aC : Nat → Nat) (aJ : Nat → Nat) (tc tl : Nat → Int32) (mi eb hd : Int32) (hs : Nat → Int32) (ig ct : Int32) (aS : Nat → Nat) (kp ea la ns ne ts te da de eo dn io : Nat → Int32) (aP : Nat → Nat) (E : Nat) (vs dp : Nat → Int32) (B : Nat) (sz cd : Nat → Nat) (M : Nat) (fr tt : Nat → Nat) (f1 f2 : Nat → Int32) (cg : Int32) (hB : B < 40) : ctI l yX3_addBlock wsX3_addBlock (rmD 1 0 0) D [(cI, .int)] [.ref (aC 0)] (WC (aC 0) (aP 0) (aS 0) (aJ 0) ++ (WJ cI aJ (aP 0) tc tl mi eb hd hs ig ct ++ (WS cI aS (aP 0) kp ea la ns ne ts te da de eo dn io ++ (WP cI aP E vs dp B sz cd M fr tt f1 f2 cg)))) (WC (aC 0) (aP 0) (aS 0) (aJ 0) ++ (WJ cI aJ (aP 0) tc tl mi eb hd hs ig ct ++ (WS cI aS (aP 0) kp ea la ns ne ts te da de eo dn io ++ (WP cI aP E vs dp (B + 1) sz cd M fr tt f1 f2 (nI 1))))) (nI B) 0 0 := by
  refine ctI_of (by decide) rfl (Nat.le_of_ble_eq_true rfl) ?_
  intro p e s m args below meth c A Q C hnm K
  refine y_lv (lv' := [(0, .ref (aC 0))]) rfl ?_
  refine y_aload_n C 0 dX3_addBlock_0 rfl rfl ?_
  refine y_get C in_X3_addBlock_3 (ci := 3) rfl 0 (by decide) (List.mem_of_getElem? (i := 3) rfl) 0 rfl rfl dX3_addBlock_1 ?_
  refine y_get C in_X3_addBlock_1 (ci := 1) rfl 3 (by decide) (List.mem_of_getElem? (i := 4) rfl) 18 rfl rfl dX3_addBlock_4 ?_
  refine y_bipush C (v := nI 40) dX3_addBlock_7 (by decide) ?_
  refine y_icmpN_lt C (tgt := 22) dX3_addBlock_9 (by decide) (by omega) (by omega) (fun h9 => ?_) (fun h9 => ?_)
  · skip
    refine y_aload_n C 0 dX3_addBlock_22 rfl rfl ?_
    refine y_get C in_X3_addBlock_3 (ci := 3) rfl 0 (by decide) (List.mem_of_getElem? (i := 3) rfl) 0 rfl rfl dX3_addBlock_23 ?_
    refine y_callI C (wr := WC (aC 0) (aP 0) (aS 0) (aJ 0) ++ WJ cI aJ (aP 0) tc tl mi eb hd hs ig ct ++ WS cI aS (aP 0) kp ea la ns ne ts te da de eo dn io) 0 (c_X1_newBlock l D cI aP E vs dp B sz cd M fr tt f1 f2 cg) gX3_addBlock_X1_newBlock rfl rfl rfl (by decide +kernel) ⟨Nat.le_of_ble_eq_true rfl, Nat.le_of_ble_eq_true rfl⟩ (q0 := 0) (ci := 1) rfl rfl (by simp only [List.append_assoc]) rfl rfl (Nat.le_of_ble_eq_true rfl) dX3_addBlock_26 ⟨Nat.le_of_ble_eq_true rfl, Nat.le_of_ble_eq_true rfl⟩ ?_
    refine y_ws (ws' := WC (aC 0) (aP 0) (aS 0) (aJ 0) ++ (WJ cI aJ (aP 0) tc tl mi eb hd hs ig ct ++ (WS cI aS (aP 0) kp ea la ns ne ts te da de eo dn io ++ (WP cI aP E vs dp (B + 1) sz cd M fr tt f1 f2 (nI 1))))) (by simp only [List.append_assoc]) ?_
    exact K _ _ _ _ _ dX3_addBlock_29 (rfl) (by decide) (by decide)
  · skip
    exact absurd h9 (by omega)
set_option maxHeartbeats 4000000 in
set_option maxRecDepth 100000 in
theorem c_X3_addBlock_full (l : Launch) (hfl : l.stackTraces = false) (sa : Nat → Nat) (D : va_G) (cI : ClassId) (aC : Nat → Nat) (aJ : Nat → Nat) (tc tl : Nat → Int32) (mi eb hd : Int32) (hs : Nat → Int32) (ig ct : Int32) (aS : Nat → Nat) (kp ea la ns ne ts te da de eo dn io : Nat → Int32) (aP : Nat → Nat) (E : Nat) (vs dp : Nat → Int32) (B : Nat) (sz cd : Nat → Nat) (M : Nat) (fr tt : Nat → Nat) (f1 f2 : Nat → Int32) (cg : Int32) (hB : B = 40) : ctX l yX3_addBlock wsX3_addBlock (rmD 6 1 6) sa D [(cI, .int)] [.ref (aC 0)] (WC (aC 0) (aP 0) (aS 0) (aJ 0) ++ (WJ cI aJ (aP 0) tc tl mi eb hd hs ig ct ++ (WS cI aS (aP 0) kp ea la ns ne ts te da de eo dn io ++ (WP cI aP E vs dp B sz cd M fr tt f1 f2 cg)))) (WC (aC 0) (aP 0) (aS 0) (aJ 0) ++ (WJ cI aJ (aP 0) tc tl mi eb hd hs ig ct ++ (WS cI aS (aP 0) kp ea la ns ne ts te da de eo dn io ++ (WP cI aP E vs dp B sz cd M fr tt f1 f2 cg)))) exS 1 6 := by
  refine ctX_of (by decide) rfl (Nat.le_of_ble_eq_true rfl) ?_
  intro p e s m args below meth c C hnt hE9
  refine y_lv (lv' := [(0, .ref (aC 0))]) rfl ?_
  refine y_aload_n C 0 dX3_addBlock_0 rfl rfl ?_
  refine y_get C in_X3_addBlock_3 (ci := 3) rfl 0 (by decide) (List.mem_of_getElem? (i := 3) rfl) 0 rfl rfl dX3_addBlock_1 ?_
  refine y_get C in_X3_addBlock_1 (ci := 1) rfl 3 (by decide) (List.mem_of_getElem? (i := 4) rfl) 18 rfl rfl dX3_addBlock_4 ?_
  refine y_bipush C (v := nI 40) dX3_addBlock_7 (by decide) ?_
  refine y_icmpN_lt C (tgt := 22) dX3_addBlock_9 (by decide) (by omega) (by omega) (fun h9 => ?_) (fun h9 => ?_)
  · skip
    exact absurd h9 (by omega)
  · skip
    exact y_throw C hfl hE9 hnt (by decide +kernel) (List.mem_of_getElem? (i := 1) rfl) (List.mem_of_getElem? (i := 2) rfl) (List.mem_of_getElem? (i := 2) rfl) (fun _ h => List.mem_cons_of_mem _ (List.mem_append_right _ h)) xg_S xo_S dX3_addBlock_12 dX3_addBlock_15 dX3_addBlock_16 dX3_addBlock_18 dX3_addBlock_21 ⟨Nat.le_of_ble_eq_true rfl, Nat.le_of_ble_eq_true rfl⟩ ⟨Nat.le_of_ble_eq_true rfl, Nat.le_of_ble_eq_true rfl⟩ ⟨Nat.le_of_ble_eq_true rfl, Nat.le_of_ble_eq_true rfl⟩ (rfl)
theorem in_X3_addEdge_1 : ∀ w ∈ wsX10, w ∈ wsX3_addEdge := fun _ h => List.mem_cons_of_mem _ (List.mem_append_left _ (List.mem_append_left _ (List.mem_append_left _ (List.mem_append_right _ h))))
theorem in_X3_addEdge_3 : ∀ w ∈ wsX30, w ∈ wsX3_addEdge := fun _ h => List.mem_cons_of_mem _ (List.mem_append_left _ (List.mem_append_left _ (List.mem_append_left _ (List.mem_append_left _ (List.mem_append_right _ h)))))
set_option maxHeartbeats 4000000 in
set_option maxRecDepth 100000 in
theorem c_X3_addEdge_badf (l : Launch) (hfl : l.stackTraces = false) (sa : Nat → Nat) (D : va_G) (cI : ClassId) (aC : Nat → Nat) (aJ : Nat → Nat) (tc tl : Nat → Int32) (mi eb hd : Int32) (hs : Nat → Int32) (ig ct : Int32) (aS : Nat → Nat) (kp ea la ns ne ts te da de eo dn io : Nat → Int32) (aP : Nat → Nat) (E : Nat) (vs dp : Nat → Int32) (B : Nat) (sz cd : Nat → Nat) (M : Nat) (fr tt : Nat → Nat) (f1 f2 : Nat → Int32) (cg : Int32) (f t : Int32) (hB : B ≤ 40) (hf : f < 0 ∨ nI B ≤ f) : ctX l yX3_addEdge wsX3_addEdge (rmD 7 1 6) sa D [(cI, .int)] [.ref (aC 0), .int f, .int t] (WC (aC 0) (aP 0) (aS 0) (aJ 0) ++ (WJ cI aJ (aP 0) tc tl mi eb hd hs ig ct ++ (WS cI aS (aP 0) kp ea la ns ne ts te da de eo dn io ++ (WP cI aP E vs dp B sz cd M fr tt f1 f2 cg)))) (WC (aC 0) (aP 0) (aS 0) (aJ 0) ++ (WJ cI aJ (aP 0) tc tl mi eb hd hs ig ct ++ (WS cI aS (aP 0) kp ea la ns ne ts te da de eo dn io ++ (WP cI aP E vs dp B sz cd M fr tt f1 f2 cg)))) exI 1 6 := by
  refine ctX_of (by decide) rfl (Nat.le_of_ble_eq_true rfl) ?_
  intro p e s m args below meth c C hnt hE9
  refine y_lv (lv' := [(0, .ref (aC 0)), (1, .int f), (2, .int t)]) rfl ?_
  refine y_aload_n C 0 dX3_addEdge_0 rfl rfl ?_
  refine y_iload_n C 1 dX3_addEdge_1 rfl rfl ?_
  exact y_callX C hE9 hnt (wr := []) 1 (c_X3_requireBlock_bad l hfl sa D cI aC aJ tc tl mi eb hd hs ig ct aS kp ea la ns ne ts te da de eo dn io aP E vs dp B sz cd M fr tt f1 f2 cg f hB (hf)) gX3_addEdge_X3_requireBlock rfl rfl rfl (by decide +kernel) ⟨Nat.le_of_ble_eq_true rfl, Nat.le_of_ble_eq_true rfl⟩ (q0 := 0) (ci := 3) rfl rfl rfl rfl rfl (Nat.le_of_ble_eq_true rfl) dX3_addEdge_2 ⟨Nat.le_of_ble_eq_true rfl, Nat.le_of_ble_eq_true rfl⟩ rfl ⟨Nat.le_of_ble_eq_true rfl, Nat.le_of_ble_eq_true rfl⟩
set_option maxHeartbeats 4000000 in
set_option maxRecDepth 100000 in
theorem c_X3_addEdge_badt (l : Launch) (hfl : l.stackTraces = false) (sa : Nat → Nat) (D : va_G) (cI : ClassId) (aC : Nat → Nat) (aJ : Nat → Nat) (tc tl : Nat → Int32) (mi eb hd : Int32) (hs : Nat → Int32) (ig ct : Int32) (aS : Nat → Nat) (kp ea la ns ne ts te da de eo dn io : Nat → Int32) (aP : Nat → Nat) (E : Nat) (vs dp : Nat → Int32) (B : Nat) (sz cd : Nat → Nat) (M : Nat) (fr tt : Nat → Nat) (f1 f2 : Nat → Int32) (cg : Int32) (f : Nat) (t : Int32) (hB : B ≤ 40) (hf : f < B) (ht : t < 0 ∨ nI B ≤ t) : ctX l yX3_addEdge wsX3_addEdge (rmD 7 1 6) sa D [(cI, .int)] [.ref (aC 0), .int (nI f), .int t] (WC (aC 0) (aP 0) (aS 0) (aJ 0) ++ (WJ cI aJ (aP 0) tc tl mi eb hd hs ig ct ++ (WS cI aS (aP 0) kp ea la ns ne ts te da de eo dn io ++ (WP cI aP E vs dp B sz cd M fr tt f1 f2 cg)))) (WC (aC 0) (aP 0) (aS 0) (aJ 0) ++ (WJ cI aJ (aP 0) tc tl mi eb hd hs ig ct ++ (WS cI aS (aP 0) kp ea la ns ne ts te da de eo dn io ++ (WP cI aP E vs dp B sz cd M fr tt f1 f2 cg)))) exI 1 6 := by
  refine ctX_of (by decide) rfl (Nat.le_of_ble_eq_true rfl) ?_
  intro p e s m args below meth c C hnt hE9
  refine y_lv (lv' := [(0, .ref (aC 0)), (1, .int (nI f)), (2, .int t)]) rfl ?_
  refine y_aload_n C 0 dX3_addEdge_0 rfl rfl ?_
  refine y_iload_n C 1 dX3_addEdge_1 rfl rfl ?_
  refine y_callV C (wr := []) 1 (c_X3_requireBlock_ok l D cI aC aJ tc tl mi eb hd hs ig ct aS kp ea la ns ne ts te da de eo dn io aP E vs dp B sz cd M fr tt f1 f2 cg f hB (by omega)) gX3_addEdge_X3_requireBlock rfl rfl rfl (by decide +kernel) ⟨Nat.le_of_ble_eq_true rfl, Nat.le_of_ble_eq_true rfl⟩ (q0 := 0) (ci := 3) rfl rfl rfl rfl rfl (Nat.le_of_ble_eq_true rfl) dX3_addEdge_2 ⟨Nat.le_of_ble_eq_true rfl, Nat.le_of_ble_eq_true rfl⟩ ?_
  refine y_ws (ws' := WC (aC 0) (aP 0) (aS 0) (aJ 0) ++ (WJ cI aJ (aP 0) tc tl mi eb hd hs ig ct ++ (WS cI aS (aP 0) kp ea la ns ne ts te da de eo dn io ++ (WP cI aP E vs dp B sz cd M fr tt f1 f2 cg)))) rfl ?_
  refine y_aload_n C 0 dX3_addEdge_5 rfl rfl ?_
  refine y_iload_n C 2 dX3_addEdge_6 rfl rfl ?_
  exact y_callX C hE9 hnt (wr := []) 1 (c_X3_requireBlock_bad l hfl sa D cI aC aJ tc tl mi eb hd hs ig ct aS kp ea la ns ne ts te da de eo dn io aP E vs dp B sz cd M fr tt f1 f2 cg t hB (ht)) gX3_addEdge_X3_requireBlock rfl rfl rfl (by decide +kernel) ⟨Nat.le_of_ble_eq_true rfl, Nat.le_of_ble_eq_true rfl⟩ (q0 := 0) (ci := 3) rfl rfl rfl rfl rfl (Nat.le_of_ble_eq_true rfl) dX3_addEdge_7 ⟨Nat.le_of_ble_eq_true rfl, Nat.le_of_ble_eq_true rfl⟩ rfl ⟨Nat.le_of_ble_eq_true rfl, Nat.le_of_ble_eq_true rfl⟩
set_option maxHeartbeats 4000000 in
set_option maxRecDepth 100000 in
theorem c_X3_addEdge_zero (l : Launch) (hfl : l.stackTraces = false) (sa : Nat → Nat) (D : va_G) (cI : ClassId) (aC : Nat → Nat) (aJ : Nat → Nat) (tc tl : Nat → Int32) (mi eb hd : Int32) (hs : Nat → Int32) (ig ct : Int32) (aS : Nat → Nat) (kp ea la ns ne ts te da de eo dn io : Nat → Int32) (aP : Nat → Nat) (E : Nat) (vs dp : Nat → Int32) (B : Nat) (sz cd : Nat → Nat) (M : Nat) (fr tt : Nat → Nat) (f1 f2 : Nat → Int32) (cg : Int32) (f t : Nat) (hB : B ≤ 40) (hM : M ≤ 80) (htt : ∀ j, tt j < 40) (hf1 : ∀ b, f1 b = -1 ∨ ∃ q, q < 80 ∧ f1 b = nI q) (hf2 : ∀ b, f2 b = -1 ∨ ∃ q, q < 80 ∧ f2 b = nI q) (hf : f < B) (ht : t < B) (ht0 : t = 0) : ctX l yX3_addEdge wsX3_addEdge (rmD 7 1 6) sa D [(cI, .int)] [.ref (aC 0), .int (nI f), .int (nI t)] (WC (aC 0) (aP 0) (aS 0) (aJ 0) ++ (WJ cI aJ (aP 0) tc tl mi eb hd hs ig ct ++ (WS cI aS (aP 0) kp ea la ns ne ts te da de eo dn io ++ (WP cI aP E vs dp B sz cd M fr tt f1 f2 cg)))) (WC (aC 0) (aP 0) (aS 0) (aJ 0) ++ (WJ cI aJ (aP 0) tc tl mi eb hd hs ig ct ++ (WS cI aS (aP 0) kp ea la ns ne ts te da de eo dn io ++ (WP cI aP E vs dp B sz cd M fr tt f1 f2 cg)))) exA 1 6 := by
  refine ctX_of (by decide) rfl (Nat.le_of_ble_eq_true rfl) ?_
  intro p e s m args below meth c C hnt hE9
  refine y_lv (lv' := [(0, .ref (aC 0)), (1, .int (nI f)), (2, .int (nI t))]) rfl ?_
  refine y_aload_n C 0 dX3_addEdge_0 rfl rfl ?_
  refine y_iload_n C 1 dX3_addEdge_1 rfl rfl ?_
  refine y_callV C (wr := []) 1 (c_X3_requireBlock_ok l D cI aC aJ tc tl mi eb hd hs ig ct aS kp ea la ns ne ts te da de eo dn io aP E vs dp B sz cd M fr tt f1 f2 cg f hB (by omega)) gX3_addEdge_X3_requireBlock rfl rfl rfl (by decide +kernel) ⟨Nat.le_of_ble_eq_true rfl, Nat.le_of_ble_eq_true rfl⟩ (q0 := 0) (ci := 3) rfl rfl rfl rfl rfl (Nat.le_of_ble_eq_true rfl) dX3_addEdge_2 ⟨Nat.le_of_ble_eq_true rfl, Nat.le_of_ble_eq_true rfl⟩ ?_
  refine y_ws (ws' := WC (aC 0) (aP 0) (aS 0) (aJ 0) ++ (WJ cI aJ (aP 0) tc tl mi eb hd hs ig ct ++ (WS cI aS (aP 0) kp ea la ns ne ts te da de eo dn io ++ (WP cI aP E vs dp B sz cd M fr tt f1 f2 cg)))) rfl ?_
  refine y_aload_n C 0 dX3_addEdge_5 rfl rfl ?_
  refine y_iload_n C 2 dX3_addEdge_6 rfl rfl ?_
  refine y_callV C (wr := []) 1 (c_X3_requireBlock_ok l D cI aC aJ tc tl mi eb hd hs ig ct aS kp ea la ns ne ts te da de eo dn io aP E vs dp B sz cd M fr tt f1 f2 cg t hB (by omega)) gX3_addEdge_X3_requireBlock rfl rfl rfl (by decide +kernel) ⟨Nat.le_of_ble_eq_true rfl, Nat.le_of_ble_eq_true rfl⟩ (q0 := 0) (ci := 3) rfl rfl rfl rfl rfl (Nat.le_of_ble_eq_true rfl) dX3_addEdge_7 ⟨Nat.le_of_ble_eq_true rfl, Nat.le_of_ble_eq_true rfl⟩ ?_
  refine y_ws (ws' := WC (aC 0) (aP 0) (aS 0) (aJ 0) ++ (WJ cI aJ (aP 0) tc tl mi eb hd hs ig ct ++ (WS cI aS (aP 0) kp ea la ns ne ts te da de eo dn io ++ (WP cI aP E vs dp B sz cd M fr tt f1 f2 cg)))) rfl ?_
  refine y_iload_n C 2 dX3_addEdge_10 rfl rfl ?_
  refine y_ifN_ne C (tgt := 24) dX3_addEdge_11 (by decide) (by omega) (fun h11 => ?_) (fun h11 => ?_)
  · skip
    exact absurd ht0 h11
  · skip
    exact y_throw C hfl hE9 hnt (by decide +kernel) (List.mem_of_getElem? (i := 1) rfl) (List.mem_of_getElem? (i := 2) rfl) (List.mem_of_getElem? (i := 3) rfl) (fun _ h => List.mem_cons_of_mem _ (List.mem_append_left _ (List.mem_append_left _ (List.mem_append_right _ h)))) xg_A xo_A dX3_addEdge_14 dX3_addEdge_17 dX3_addEdge_18 dX3_addEdge_20 dX3_addEdge_23 ⟨Nat.le_of_ble_eq_true rfl, Nat.le_of_ble_eq_true rfl⟩ ⟨Nat.le_of_ble_eq_true rfl, Nat.le_of_ble_eq_true rfl⟩ ⟨Nat.le_of_ble_eq_true rfl, Nat.le_of_ble_eq_true rfl⟩ (rfl)
set_option maxHeartbeats 4000000 in
set_option maxRecDepth 100000 in
theorem c_X3_addEdge_dup (l : Launch) (hfl : l.stackTraces = false) (sa : Nat → Nat) (D : va_G) (cI : ClassId) (aC : Nat → Nat) (aJ : Nat → Nat) (tc tl : Nat → Int32) (mi eb hd : Int32) (hs : Nat → Int32) (ig ct : Int32) (aS : Nat → Nat) (kp ea la ns ne ts te da de eo dn io : Nat → Int32) (aP : Nat → Nat) (E : Nat) (vs dp : Nat → Int32) (B : Nat) (sz cd : Nat → Nat) (M : Nat) (fr tt : Nat → Nat) (f1 f2 : Nat → Int32) (cg : Int32) (f t : Nat) (hB : B ≤ 40) (hM : M ≤ 80) (htt : ∀ j, tt j < 40) (hf1 : ∀ b, f1 b = -1 ∨ ∃ q, q < 80 ∧ f1 b = nI q) (hf2 : ∀ b, f2 b = -1 ∨ ∃ q, q < 80 ∧ f2 b = nI q) (hf : f < B) (ht : t < B) (ht0 : t ≠ 0) (hd0 : hasF tt f1 f2 f t ≠ 0) : ctX l yX3_addEdge wsX3_addEdge (rmD 7 1 6) sa D [(cI, .int)] [.ref (aC 0), .int (nI f), .int (nI t)] (WC (aC 0) (aP 0) (aS 0) (aJ 0) ++ (WJ cI aJ (aP 0) tc tl mi eb hd hs ig ct ++ (WS cI aS (aP 0) kp ea la ns ne ts te da de eo dn io ++ (WP cI aP E vs dp B sz cd M fr tt f1 f2 cg)))) (WC (aC 0) (aP 0) (aS 0) (aJ 0) ++ (WJ cI aJ (aP 0) tc tl mi eb hd hs ig ct ++ (WS cI aS (aP 0) kp ea la ns ne ts te da de eo dn io ++ (WP cI aP E vs dp B sz cd M fr tt f1 f2 cg)))) exA 1 6 := by
  refine ctX_of (by decide) rfl (Nat.le_of_ble_eq_true rfl) ?_
  intro p e s m args below meth c C hnt hE9
  refine y_lv (lv' := [(0, .ref (aC 0)), (1, .int (nI f)), (2, .int (nI t))]) rfl ?_
  refine y_aload_n C 0 dX3_addEdge_0 rfl rfl ?_
  refine y_iload_n C 1 dX3_addEdge_1 rfl rfl ?_
  refine y_callV C (wr := []) 1 (c_X3_requireBlock_ok l D cI aC aJ tc tl mi eb hd hs ig ct aS kp ea la ns ne ts te da de eo dn io aP E vs dp B sz cd M fr tt f1 f2 cg f hB (by omega)) gX3_addEdge_X3_requireBlock rfl rfl rfl (by decide +kernel) ⟨Nat.le_of_ble_eq_true rfl, Nat.le_of_ble_eq_true rfl⟩ (q0 := 0) (ci := 3) rfl rfl rfl rfl rfl (Nat.le_of_ble_eq_true rfl) dX3_addEdge_2 ⟨Nat.le_of_ble_eq_true rfl, Nat.le_of_ble_eq_true rfl⟩ ?_
  refine y_ws (ws' := WC (aC 0) (aP 0) (aS 0) (aJ 0) ++ (WJ cI aJ (aP 0) tc tl mi eb hd hs ig ct ++ (WS cI aS (aP 0) kp ea la ns ne ts te da de eo dn io ++ (WP cI aP E vs dp B sz cd M fr tt f1 f2 cg)))) rfl ?_
  refine y_aload_n C 0 dX3_addEdge_5 rfl rfl ?_
  refine y_iload_n C 2 dX3_addEdge_6 rfl rfl ?_
  refine y_callV C (wr := []) 1 (c_X3_requireBlock_ok l D cI aC aJ tc tl mi eb hd hs ig ct aS kp ea la ns ne ts te da de eo dn io aP E vs dp B sz cd M fr tt f1 f2 cg t hB (by omega)) gX3_addEdge_X3_requireBlock rfl rfl rfl (by decide +kernel) ⟨Nat.le_of_ble_eq_true rfl, Nat.le_of_ble_eq_true rfl⟩ (q0 := 0) (ci := 3) rfl rfl rfl rfl rfl (Nat.le_of_ble_eq_true rfl) dX3_addEdge_7 ⟨Nat.le_of_ble_eq_true rfl, Nat.le_of_ble_eq_true rfl⟩ ?_
  refine y_ws (ws' := WC (aC 0) (aP 0) (aS 0) (aJ 0) ++ (WJ cI aJ (aP 0) tc tl mi eb hd hs ig ct ++ (WS cI aS (aP 0) kp ea la ns ne ts te da de eo dn io ++ (WP cI aP E vs dp B sz cd M fr tt f1 f2 cg)))) rfl ?_
  refine y_iload_n C 2 dX3_addEdge_10 rfl rfl ?_
  refine y_ifN_ne C (tgt := 24) dX3_addEdge_11 (by decide) (by omega) (fun h11 => ?_) (fun h11 => ?_)
  · skip
    refine y_aload_n C 0 dX3_addEdge_24 rfl rfl ?_
    refine y_get C in_X3_addEdge_3 (ci := 3) rfl 0 (by decide) (List.mem_of_getElem? (i := 5) rfl) 0 rfl rfl dX3_addEdge_25 ?_
    refine y_iload_n C 1 dX3_addEdge_28 rfl rfl ?_
    refine y_iload_n C 2 dX3_addEdge_29 rfl rfl ?_
    refine y_callI C (wr := WC (aC 0) (aP 0) (aS 0) (aJ 0) ++ WJ cI aJ (aP 0) tc tl mi eb hd hs ig ct ++ WS cI aS (aP 0) kp ea la ns ne ts te da de eo dn io) 2 (c_X1_hasEdge l D cI aP E vs dp B sz cd M fr tt f1 f2 cg f t htt hf1 hf2 (by omega) (by omega)) gX3_addEdge_X1_hasEdge rfl rfl rfl (by decide +kernel) ⟨Nat.le_of_ble_eq_true rfl, Nat.le_of_ble_eq_true rfl⟩ (q0 := 0) (ci := 1) rfl rfl (by simp only [List.append_assoc]) rfl rfl (Nat.le_of_ble_eq_true rfl) dX3_addEdge_30 ⟨Nat.le_of_ble_eq_true rfl, Nat.le_of_ble_eq_true rfl⟩ ?_
    refine y_ws (ws' := WC (aC 0) (aP 0) (aS 0) (aJ 0) ++ (WJ cI aJ (aP 0) tc tl mi eb hd hs ig ct ++ (WS cI aS (aP 0) kp ea la ns ne ts te da de eo dn io ++ (WP cI aP E vs dp B sz cd M fr tt f1 f2 cg)))) (by simp only [List.append_assoc]) ?_
    refine y_ifN_eq C (tgt := 46) dX3_addEdge_33 (by decide) (by have := hasF_le tt f1 f2 f t; omega) (fun h33 => ?_) (fun h33 => ?_)
    · skip
      exact absurd h33 hd0
    · skip
      exact y_throw C hfl hE9 hnt (by decide +kernel) (List.mem_of_getElem? (i := 1) rfl) (List.mem_of_getElem? (i := 2) rfl) (List.mem_of_getElem? (i := 4) rfl) (fun _ h => List.mem_cons_of_mem _ (List.mem_append_left _ (List.mem_append_left _ (List.mem_append_right _ h)))) xg_A xo_A dX3_addEdge_36 dX3_addEdge_39 dX3_addEdge_40 dX3_addEdge_42 dX3_addEdge_45 ⟨Nat.le_of_ble_eq_true rfl, Nat.le_of_ble_eq_true rfl⟩ ⟨Nat.le_of_ble_eq_true rfl, Nat.le_of_ble_eq_true rfl⟩ ⟨Nat.le_of_ble_eq_true rfl, Nat.le_of_ble_eq_true rfl⟩ (rfl)
  · skip
    exact absurd h11 ht0
set_option maxHeartbeats 4000000 in
set_option maxRecDepth 100000 in
theorem c_X3_addEdge_two (l : Launch) (hfl : l.stackTraces = false) (sa : Nat → Nat) (D : va_G) (cI : ClassId) (aC : Nat → Nat) (aJ : Nat → Nat) (tc tl : Nat → Int32) (mi eb hd : Int32) (hs : Nat → Int32) (ig ct : Int32) (aS : Nat → Nat) (kp ea la ns ne ts te da de eo dn io : Nat → Int32) (aP : Nat → Nat) (E : Nat) (vs dp : Nat → Int32) (B : Nat) (sz cd : Nat → Nat) (M : Nat) (fr tt : Nat → Nat) (f1 f2 : Nat → Int32) (cg : Int32) (f t : Nat) (hB : B ≤ 40) (hM : M ≤ 80) (htt : ∀ j, tt j < 40) (hf1 : ∀ b, f1 b = -1 ∨ ∃ q, q < 80 ∧ f1 b = nI q) (hf2 : ∀ b, f2 b = -1 ∨ ∃ q, q < 80 ∧ f2 b = nI q) (hf : f < B) (ht : t < B) (ht0 : t ≠ 0) (hd0 : hasF tt f1 f2 f t = 0) (hx : ¬ f2 f = -1) : ctX l yX3_addEdge wsX3_addEdge (rmD 7 1 6) sa D [(cI, .int)] [.ref (aC 0), .int (nI f), .int (nI t)] (WC (aC 0) (aP 0) (aS 0) (aJ 0) ++ (WJ cI aJ (aP 0) tc tl mi eb hd hs ig ct ++ (WS cI aS (aP 0) kp ea la ns ne ts te da de eo dn io ++ (WP cI aP E vs dp B sz cd M fr tt f1 f2 cg)))) (WC (aC 0) (aP 0) (aS 0) (aJ 0) ++ (WJ cI aJ (aP 0) tc tl mi eb hd hs ig ct ++ (WS cI aS (aP 0) kp ea la ns ne ts te da de eo dn io ++ (WP cI aP E vs dp B sz cd M fr tt f1 f2 cg)))) exS 1 6 := by
  refine ctX_of (by decide) rfl (Nat.le_of_ble_eq_true rfl) ?_
  intro p e s m args below meth c C hnt hE9
  refine y_lv (lv' := [(0, .ref (aC 0)), (1, .int (nI f)), (2, .int (nI t))]) rfl ?_
  refine y_aload_n C 0 dX3_addEdge_0 rfl rfl ?_
  refine y_iload_n C 1 dX3_addEdge_1 rfl rfl ?_
  refine y_callV C (wr := []) 1 (c_X3_requireBlock_ok l D cI aC aJ tc tl mi eb hd hs ig ct aS kp ea la ns ne ts te da de eo dn io aP E vs dp B sz cd M fr tt f1 f2 cg f hB (by omega)) gX3_addEdge_X3_requireBlock rfl rfl rfl (by decide +kernel) ⟨Nat.le_of_ble_eq_true rfl, Nat.le_of_ble_eq_true rfl⟩ (q0 := 0) (ci := 3) rfl rfl rfl rfl rfl (Nat.le_of_ble_eq_true rfl) dX3_addEdge_2 ⟨Nat.le_of_ble_eq_true rfl, Nat.le_of_ble_eq_true rfl⟩ ?_
  refine y_ws (ws' := WC (aC 0) (aP 0) (aS 0) (aJ 0) ++ (WJ cI aJ (aP 0) tc tl mi eb hd hs ig ct ++ (WS cI aS (aP 0) kp ea la ns ne ts te da de eo dn io ++ (WP cI aP E vs dp B sz cd M fr tt f1 f2 cg)))) rfl ?_
  refine y_aload_n C 0 dX3_addEdge_5 rfl rfl ?_
  refine y_iload_n C 2 dX3_addEdge_6 rfl rfl ?_
  refine y_callV C (wr := []) 1 (c_X3_requireBlock_ok l D cI aC aJ tc tl mi eb hd hs ig ct aS kp ea la ns ne ts te da de eo dn io aP E vs dp B sz cd M fr tt f1 f2 cg t hB (by omega)) gX3_addEdge_X3_requireBlock rfl rfl rfl (by decide +kernel) ⟨Nat.le_of_ble_eq_true rfl, Nat.le_of_ble_eq_true rfl⟩ (q0 := 0) (ci := 3) rfl rfl rfl rfl rfl (Nat.le_of_ble_eq_true rfl) dX3_addEdge_7 ⟨Nat.le_of_ble_eq_true rfl, Nat.le_of_ble_eq_true rfl⟩ ?_
  refine y_ws (ws' := WC (aC 0) (aP 0) (aS 0) (aJ 0) ++ (WJ cI aJ (aP 0) tc tl mi eb hd hs ig ct ++ (WS cI aS (aP 0) kp ea la ns ne ts te da de eo dn io ++ (WP cI aP E vs dp B sz cd M fr tt f1 f2 cg)))) rfl ?_
  refine y_iload_n C 2 dX3_addEdge_10 rfl rfl ?_
  refine y_ifN_ne C (tgt := 24) dX3_addEdge_11 (by decide) (by omega) (fun h11 => ?_) (fun h11 => ?_)
  · skip
    refine y_aload_n C 0 dX3_addEdge_24 rfl rfl ?_
    refine y_get C in_X3_addEdge_3 (ci := 3) rfl 0 (by decide) (List.mem_of_getElem? (i := 5) rfl) 0 rfl rfl dX3_addEdge_25 ?_
    refine y_iload_n C 1 dX3_addEdge_28 rfl rfl ?_
    refine y_iload_n C 2 dX3_addEdge_29 rfl rfl ?_
    refine y_callI C (wr := WC (aC 0) (aP 0) (aS 0) (aJ 0) ++ WJ cI aJ (aP 0) tc tl mi eb hd hs ig ct ++ WS cI aS (aP 0) kp ea la ns ne ts te da de eo dn io) 2 (c_X1_hasEdge l D cI aP E vs dp B sz cd M fr tt f1 f2 cg f t htt hf1 hf2 (by omega) (by omega)) gX3_addEdge_X1_hasEdge rfl rfl rfl (by decide +kernel) ⟨Nat.le_of_ble_eq_true rfl, Nat.le_of_ble_eq_true rfl⟩ (q0 := 0) (ci := 1) rfl rfl (by simp only [List.append_assoc]) rfl rfl (Nat.le_of_ble_eq_true rfl) dX3_addEdge_30 ⟨Nat.le_of_ble_eq_true rfl, Nat.le_of_ble_eq_true rfl⟩ ?_
    refine y_ws (ws' := WC (aC 0) (aP 0) (aS 0) (aJ 0) ++ (WJ cI aJ (aP 0) tc tl mi eb hd hs ig ct ++ (WS cI aS (aP 0) kp ea la ns ne ts te da de eo dn io ++ (WP cI aP E vs dp B sz cd M fr tt f1 f2 cg)))) (by simp only [List.append_assoc]) ?_
    refine y_ifN_eq C (tgt := 46) dX3_addEdge_33 (by decide) (by have := hasF_le tt f1 f2 f t; omega) (fun h33 => ?_) (fun h33 => ?_)
    · skip
      refine y_aload_n C 0 dX3_addEdge_46 rfl rfl ?_
      refine y_get C in_X3_addEdge_3 (ci := 3) rfl 0 (by decide) (List.mem_of_getElem? (i := 5) rfl) 0 rfl rfl dX3_addEdge_47 ?_
      refine y_get C in_X3_addEdge_1 (ci := 1) rfl 10 (by decide) (List.mem_of_getElem? (i := 6) rfl) 18 rfl rfl dX3_addEdge_50 ?_
      refine y_iload_n C 1 dX3_addEdge_53 rfl rfl ?_
      refine y_iald C (q0 := 26) (t0 := 0) rfl rfl (by decide) (by omega) dX3_addEdge_54 ?_
      refine y_iconst C (v := (-1)) dX3_addEdge_55 (by decide) ?_
      refine y_icmp_eq C (tgt := 69) dX3_addEdge_56 (by decide)  (fun h56 => ?_) (fun h56 => ?_)
      · skip
        exact absurd h56 hx
      · skip
        exact y_throw C hfl hE9 hnt (by decide +kernel) (List.mem_of_getElem? (i := 3) rfl) (List.mem_of_getElem? (i := 4) rfl) (List.mem_of_getElem? (i := 5) rfl) (fun _ h => List.mem_cons_of_mem _ (List.mem_append_left _ (List.mem_append_right _ h))) xg_S xo_S dX3_addEdge_59 dX3_addEdge_62 dX3_addEdge_63 dX3_addEdge_65 dX3_addEdge_68 ⟨Nat.le_of_ble_eq_true rfl, Nat.le_of_ble_eq_true rfl⟩ ⟨Nat.le_of_ble_eq_true rfl, Nat.le_of_ble_eq_true rfl⟩ ⟨Nat.le_of_ble_eq_true rfl, Nat.le_of_ble_eq_true rfl⟩ (rfl)
    · skip
      exact absurd hd0 h33
  · skip
    exact absurd h11 ht0
set_option maxHeartbeats 4000000 in
set_option maxRecDepth 100000 in
theorem c_X3_addEdge_full (l : Launch) (hfl : l.stackTraces = false) (sa : Nat → Nat) (D : va_G) (cI : ClassId) (aC : Nat → Nat) (aJ : Nat → Nat) (tc tl : Nat → Int32) (mi eb hd : Int32) (hs : Nat → Int32) (ig ct : Int32) (aS : Nat → Nat) (kp ea la ns ne ts te da de eo dn io : Nat → Int32) (aP : Nat → Nat) (E : Nat) (vs dp : Nat → Int32) (B : Nat) (sz cd : Nat → Nat) (M : Nat) (fr tt : Nat → Nat) (f1 f2 : Nat → Int32) (cg : Int32) (f t : Nat) (hB : B ≤ 40) (hM : M ≤ 80) (htt : ∀ j, tt j < 40) (hf1 : ∀ b, f1 b = -1 ∨ ∃ q, q < 80 ∧ f1 b = nI q) (hf2 : ∀ b, f2 b = -1 ∨ ∃ q, q < 80 ∧ f2 b = nI q) (hf : f < B) (ht : t < B) (ht0 : t ≠ 0) (hd0 : hasF tt f1 f2 f t = 0) (hx : f2 f = -1) (hx2 : M = 80) : ctX l yX3_addEdge wsX3_addEdge (rmD 7 1 6) sa D [(cI, .int)] [.ref (aC 0), .int (nI f), .int (nI t)] (WC (aC 0) (aP 0) (aS 0) (aJ 0) ++ (WJ cI aJ (aP 0) tc tl mi eb hd hs ig ct ++ (WS cI aS (aP 0) kp ea la ns ne ts te da de eo dn io ++ (WP cI aP E vs dp B sz cd M fr tt f1 f2 cg)))) (WC (aC 0) (aP 0) (aS 0) (aJ 0) ++ (WJ cI aJ (aP 0) tc tl mi eb hd hs ig ct ++ (WS cI aS (aP 0) kp ea la ns ne ts te da de eo dn io ++ (WP cI aP E vs dp B sz cd M fr tt f1 f2 cg)))) exS 1 6 := by
  refine ctX_of (by decide) rfl (Nat.le_of_ble_eq_true rfl) ?_
  intro p e s m args below meth c C hnt hE9
  refine y_lv (lv' := [(0, .ref (aC 0)), (1, .int (nI f)), (2, .int (nI t))]) rfl ?_
  refine y_aload_n C 0 dX3_addEdge_0 rfl rfl ?_
  refine y_iload_n C 1 dX3_addEdge_1 rfl rfl ?_
  refine y_callV C (wr := []) 1 (c_X3_requireBlock_ok l D cI aC aJ tc tl mi eb hd hs ig ct aS kp ea la ns ne ts te da de eo dn io aP E vs dp B sz cd M fr tt f1 f2 cg f hB (by omega)) gX3_addEdge_X3_requireBlock rfl rfl rfl (by decide +kernel) ⟨Nat.le_of_ble_eq_true rfl, Nat.le_of_ble_eq_true rfl⟩ (q0 := 0) (ci := 3) rfl rfl rfl rfl rfl (Nat.le_of_ble_eq_true rfl) dX3_addEdge_2 ⟨Nat.le_of_ble_eq_true rfl, Nat.le_of_ble_eq_true rfl⟩ ?_
  refine y_ws (ws' := WC (aC 0) (aP 0) (aS 0) (aJ 0) ++ (WJ cI aJ (aP 0) tc tl mi eb hd hs ig ct ++ (WS cI aS (aP 0) kp ea la ns ne ts te da de eo dn io ++ (WP cI aP E vs dp B sz cd M fr tt f1 f2 cg)))) rfl ?_
  refine y_aload_n C 0 dX3_addEdge_5 rfl rfl ?_
  refine y_iload_n C 2 dX3_addEdge_6 rfl rfl ?_
  refine y_callV C (wr := []) 1 (c_X3_requireBlock_ok l D cI aC aJ tc tl mi eb hd hs ig ct aS kp ea la ns ne ts te da de eo dn io aP E vs dp B sz cd M fr tt f1 f2 cg t hB (by omega)) gX3_addEdge_X3_requireBlock rfl rfl rfl (by decide +kernel) ⟨Nat.le_of_ble_eq_true rfl, Nat.le_of_ble_eq_true rfl⟩ (q0 := 0) (ci := 3) rfl rfl rfl rfl rfl (Nat.le_of_ble_eq_true rfl) dX3_addEdge_7 ⟨Nat.le_of_ble_eq_true rfl, Nat.le_of_ble_eq_true rfl⟩ ?_
  refine y_ws (ws' := WC (aC 0) (aP 0) (aS 0) (aJ 0) ++ (WJ cI aJ (aP 0) tc tl mi eb hd hs ig ct ++ (WS cI aS (aP 0) kp ea la ns ne ts te da de eo dn io ++ (WP cI aP E vs dp B sz cd M fr tt f1 f2 cg)))) rfl ?_
  refine y_iload_n C 2 dX3_addEdge_10 rfl rfl ?_
  refine y_ifN_ne C (tgt := 24) dX3_addEdge_11 (by decide) (by omega) (fun h11 => ?_) (fun h11 => ?_)
  · skip
    refine y_aload_n C 0 dX3_addEdge_24 rfl rfl ?_
    refine y_get C in_X3_addEdge_3 (ci := 3) rfl 0 (by decide) (List.mem_of_getElem? (i := 5) rfl) 0 rfl rfl dX3_addEdge_25 ?_
    refine y_iload_n C 1 dX3_addEdge_28 rfl rfl ?_
    refine y_iload_n C 2 dX3_addEdge_29 rfl rfl ?_
    refine y_callI C (wr := WC (aC 0) (aP 0) (aS 0) (aJ 0) ++ WJ cI aJ (aP 0) tc tl mi eb hd hs ig ct ++ WS cI aS (aP 0) kp ea la ns ne ts te da de eo dn io) 2 (c_X1_hasEdge l D cI aP E vs dp B sz cd M fr tt f1 f2 cg f t htt hf1 hf2 (by omega) (by omega)) gX3_addEdge_X1_hasEdge rfl rfl rfl (by decide +kernel) ⟨Nat.le_of_ble_eq_true rfl, Nat.le_of_ble_eq_true rfl⟩ (q0 := 0) (ci := 1) rfl rfl (by simp only [List.append_assoc]) rfl rfl (Nat.le_of_ble_eq_true rfl) dX3_addEdge_30 ⟨Nat.le_of_ble_eq_true rfl, Nat.le_of_ble_eq_true rfl⟩ ?_
    refine y_ws (ws' := WC (aC 0) (aP 0) (aS 0) (aJ 0) ++ (WJ cI aJ (aP 0) tc tl mi eb hd hs ig ct ++ (WS cI aS (aP 0) kp ea la ns ne ts te da de eo dn io ++ (WP cI aP E vs dp B sz cd M fr tt f1 f2 cg)))) (by simp only [List.append_assoc]) ?_
    refine y_ifN_eq C (tgt := 46) dX3_addEdge_33 (by decide) (by have := hasF_le tt f1 f2 f t; omega) (fun h33 => ?_) (fun h33 => ?_)
    · skip
      refine y_aload_n C 0 dX3_addEdge_46 rfl rfl ?_
      refine y_get C in_X3_addEdge_3 (ci := 3) rfl 0 (by decide) (List.mem_of_getElem? (i := 5) rfl) 0 rfl rfl dX3_addEdge_47 ?_
      refine y_get C in_X3_addEdge_1 (ci := 1) rfl 10 (by decide) (List.mem_of_getElem? (i := 6) rfl) 18 rfl rfl dX3_addEdge_50 ?_
      refine y_iload_n C 1 dX3_addEdge_53 rfl rfl ?_
      refine y_iald C (q0 := 26) (t0 := 0) rfl rfl (by decide) (by omega) dX3_addEdge_54 ?_
      refine y_iconst C (v := (-1)) dX3_addEdge_55 (by decide) ?_
      refine y_icmp_eq C (tgt := 69) dX3_addEdge_56 (by decide)  (fun h56 => ?_) (fun h56 => ?_)
      · skip
        refine y_aload_n C 0 dX3_addEdge_69 rfl rfl ?_
        refine y_get C in_X3_addEdge_3 (ci := 3) rfl 0 (by decide) (List.mem_of_getElem? (i := 5) rfl) 0 rfl rfl dX3_addEdge_70 ?_
        refine y_get C in_X3_addEdge_1 (ci := 1) rfl 6 (by decide) (List.mem_of_getElem? (i := 7) rfl) 18 rfl rfl dX3_addEdge_73 ?_
        refine y_bipush C (v := nI 80) dX3_addEdge_76 (by decide) ?_
        refine y_icmpN_lt C (tgt := 91) dX3_addEdge_78 (by decide) (by omega) (by omega) (fun h78 => ?_) (fun h78 => ?_)
        · skip
          exact absurd h78 (by omega)
        · skip
          exact y_throw C hfl hE9 hnt (by decide +kernel) (List.mem_of_getElem? (i := 3) rfl) (List.mem_of_getElem? (i := 4) rfl) (List.mem_of_getElem? (i := 6) rfl) (fun _ h => List.mem_cons_of_mem _ (List.mem_append_left _ (List.mem_append_right _ h))) xg_S xo_S dX3_addEdge_81 dX3_addEdge_84 dX3_addEdge_85 dX3_addEdge_87 dX3_addEdge_90 ⟨Nat.le_of_ble_eq_true rfl, Nat.le_of_ble_eq_true rfl⟩ ⟨Nat.le_of_ble_eq_true rfl, Nat.le_of_ble_eq_true rfl⟩ ⟨Nat.le_of_ble_eq_true rfl, Nat.le_of_ble_eq_true rfl⟩ (rfl)
      · skip
        exact absurd hx h56
    · skip
      exact absurd hd0 h33
  · skip
    exact absurd h11 ht0
set_option maxHeartbeats 4000000 in
set_option maxRecDepth 100000 in
theorem c_X3_addEdge_ok (l : Launch) (D : va_G) (cI : ClassId) (aC : Nat → Nat) (aJ : Nat → Nat) (tc tl : Nat → Int32) (mi eb hd : Int32) (hs : Nat → Int32) (ig ct : Int32) (aS : Nat → Nat) (kp ea la ns ne ts te da de eo dn io : Nat → Int32) (aP : Nat → Nat) (E : Nat) (vs dp : Nat → Int32) (B : Nat) (sz cd : Nat → Nat) (M : Nat) (fr tt : Nat → Nat) (f1 f2 : Nat → Int32) (cg : Int32) (f t : Nat) (hB : B ≤ 40) (hM : M ≤ 80) (htt : ∀ j, tt j < 40) (hf1 : ∀ b, f1 b = -1 ∨ ∃ q, q < 80 ∧ f1 b = nI q) (hf2 : ∀ b, f2 b = -1 ∨ ∃ q, q < 80 ∧ f2 b = nI q) (hf : f < B) (ht : t < B) (ht0 : t ≠ 0) (hd0 : hasF tt f1 f2 f t = 0) (hx : f2 f = -1) (hx2 : M < 80) : ctI l yX3_addEdge wsX3_addEdge (rmD 1 0 0) D [(cI, .int)] [.ref (aC 0), .int (nI f), .int (nI t)] (WC (aC 0) (aP 0) (aS 0) (aJ 0) ++ (WJ cI aJ (aP 0) tc tl mi eb hd hs ig ct ++ (WS cI aS (aP 0) kp ea la ns ne ts te da de eo dn io ++ (WP cI aP E vs dp B sz cd M fr tt f1 f2 cg)))) (WC (aC 0) (aP 0) (aS 0) (aJ 0) ++ (WJ cI aJ (aP 0) tc tl mi eb hd hs ig ct ++ (WS cI aS (aP 0) kp ea la ns ne ts te da de eo dn io ++ (WP cI aP E vs dp B sz cd (M + 1) (upN fr M f) (upN tt M t) (if f1 f = -1 then upd f1 f (nI M) else f1) (if f1 f = -1 then f2 else upd f2 f (nI M)) (nI 1))))) (nI M) 0 0 := by
  refine ctI_of (by decide) rfl (Nat.le_of_ble_eq_true rfl) ?_
  intro p e s m args below meth c A Q C hnm K
  refine y_lv (lv' := [(0, .ref (aC 0)), (1, .int (nI f)), (2, .int (nI t))]) rfl ?_
  refine y_aload_n C 0 dX3_addEdge_0 rfl rfl ?_
  refine y_iload_n C 1 dX3_addEdge_1 rfl rfl ?_
  refine y_callV C (wr := []) 1 (c_X3_requireBlock_ok l D cI aC aJ tc tl mi eb hd hs ig ct aS kp ea la ns ne ts te da de eo dn io aP E vs dp B sz cd M fr tt f1 f2 cg f hB (by omega)) gX3_addEdge_X3_requireBlock rfl rfl rfl (by decide +kernel) ⟨Nat.le_of_ble_eq_true rfl, Nat.le_of_ble_eq_true rfl⟩ (q0 := 0) (ci := 3) rfl rfl rfl rfl rfl (Nat.le_of_ble_eq_true rfl) dX3_addEdge_2 ⟨Nat.le_of_ble_eq_true rfl, Nat.le_of_ble_eq_true rfl⟩ ?_
  refine y_ws (ws' := WC (aC 0) (aP 0) (aS 0) (aJ 0) ++ (WJ cI aJ (aP 0) tc tl mi eb hd hs ig ct ++ (WS cI aS (aP 0) kp ea la ns ne ts te da de eo dn io ++ (WP cI aP E vs dp B sz cd M fr tt f1 f2 cg)))) rfl ?_
  refine y_aload_n C 0 dX3_addEdge_5 rfl rfl ?_
  refine y_iload_n C 2 dX3_addEdge_6 rfl rfl ?_
  refine y_callV C (wr := []) 1 (c_X3_requireBlock_ok l D cI aC aJ tc tl mi eb hd hs ig ct aS kp ea la ns ne ts te da de eo dn io aP E vs dp B sz cd M fr tt f1 f2 cg t hB (by omega)) gX3_addEdge_X3_requireBlock rfl rfl rfl (by decide +kernel) ⟨Nat.le_of_ble_eq_true rfl, Nat.le_of_ble_eq_true rfl⟩ (q0 := 0) (ci := 3) rfl rfl rfl rfl rfl (Nat.le_of_ble_eq_true rfl) dX3_addEdge_7 ⟨Nat.le_of_ble_eq_true rfl, Nat.le_of_ble_eq_true rfl⟩ ?_
  refine y_ws (ws' := WC (aC 0) (aP 0) (aS 0) (aJ 0) ++ (WJ cI aJ (aP 0) tc tl mi eb hd hs ig ct ++ (WS cI aS (aP 0) kp ea la ns ne ts te da de eo dn io ++ (WP cI aP E vs dp B sz cd M fr tt f1 f2 cg)))) rfl ?_
  refine y_iload_n C 2 dX3_addEdge_10 rfl rfl ?_
  refine y_ifN_ne C (tgt := 24) dX3_addEdge_11 (by decide) (by omega) (fun h11 => ?_) (fun h11 => ?_)
  · skip
    refine y_aload_n C 0 dX3_addEdge_24 rfl rfl ?_
    refine y_get C in_X3_addEdge_3 (ci := 3) rfl 0 (by decide) (List.mem_of_getElem? (i := 5) rfl) 0 rfl rfl dX3_addEdge_25 ?_
    refine y_iload_n C 1 dX3_addEdge_28 rfl rfl ?_
    refine y_iload_n C 2 dX3_addEdge_29 rfl rfl ?_
    refine y_callI C (wr := WC (aC 0) (aP 0) (aS 0) (aJ 0) ++ WJ cI aJ (aP 0) tc tl mi eb hd hs ig ct ++ WS cI aS (aP 0) kp ea la ns ne ts te da de eo dn io) 2 (c_X1_hasEdge l D cI aP E vs dp B sz cd M fr tt f1 f2 cg f t htt hf1 hf2 (by omega) (by omega)) gX3_addEdge_X1_hasEdge rfl rfl rfl (by decide +kernel) ⟨Nat.le_of_ble_eq_true rfl, Nat.le_of_ble_eq_true rfl⟩ (q0 := 0) (ci := 1) rfl rfl (by simp only [List.append_assoc]) rfl rfl (Nat.le_of_ble_eq_true rfl) dX3_addEdge_30 ⟨Nat.le_of_ble_eq_true rfl, Nat.le_of_ble_eq_true rfl⟩ ?_
    refine y_ws (ws' := WC (aC 0) (aP 0) (aS 0) (aJ 0) ++ (WJ cI aJ (aP 0) tc tl mi eb hd hs ig ct ++ (WS cI aS (aP 0) kp ea la ns ne ts te da de eo dn io ++ (WP cI aP E vs dp B sz cd M fr tt f1 f2 cg)))) (by simp only [List.append_assoc]) ?_
    refine y_ifN_eq C (tgt := 46) dX3_addEdge_33 (by decide) (by have := hasF_le tt f1 f2 f t; omega) (fun h33 => ?_) (fun h33 => ?_)
    · skip
      refine y_aload_n C 0 dX3_addEdge_46 rfl rfl ?_
      refine y_get C in_X3_addEdge_3 (ci := 3) rfl 0 (by decide) (List.mem_of_getElem? (i := 5) rfl) 0 rfl rfl dX3_addEdge_47 ?_
      refine y_get C in_X3_addEdge_1 (ci := 1) rfl 10 (by decide) (List.mem_of_getElem? (i := 6) rfl) 18 rfl rfl dX3_addEdge_50 ?_
      refine y_iload_n C 1 dX3_addEdge_53 rfl rfl ?_
      refine y_iald C (q0 := 26) (t0 := 0) rfl rfl (by decide) (by omega) dX3_addEdge_54 ?_
      refine y_iconst C (v := (-1)) dX3_addEdge_55 (by decide) ?_
      refine y_icmp_eq C (tgt := 69) dX3_addEdge_56 (by decide)  (fun h56 => ?_) (fun h56 => ?_)
      · skip
        refine y_aload_n C 0 dX3_addEdge_69 rfl rfl ?_
        refine y_get C in_X3_addEdge_3 (ci := 3) rfl 0 (by decide) (List.mem_of_getElem? (i := 5) rfl) 0 rfl rfl dX3_addEdge_70 ?_
        refine y_get C in_X3_addEdge_1 (ci := 1) rfl 6 (by decide) (List.mem_of_getElem? (i := 7) rfl) 18 rfl rfl dX3_addEdge_73 ?_
        refine y_bipush C (v := nI 80) dX3_addEdge_76 (by decide) ?_
        refine y_icmpN_lt C (tgt := 91) dX3_addEdge_78 (by decide) (by omega) (by omega) (fun h78 => ?_) (fun h78 => ?_)
        · skip
          refine y_aload_n C 0 dX3_addEdge_91 rfl rfl ?_
          refine y_get C in_X3_addEdge_3 (ci := 3) rfl 0 (by decide) (List.mem_of_getElem? (i := 5) rfl) 0 rfl rfl dX3_addEdge_92 ?_
          refine y_iload_n C 1 dX3_addEdge_95 rfl rfl ?_
          refine y_iload_n C 2 dX3_addEdge_96 rfl rfl ?_
          refine y_callI C (wr := WC (aC 0) (aP 0) (aS 0) (aJ 0) ++ WJ cI aJ (aP 0) tc tl mi eb hd hs ig ct ++ WS cI aS (aP 0) kp ea la ns ne ts te da de eo dn io) 2 (c_X1_newEdge l D cI aP E vs dp B sz cd M fr tt f1 f2 cg f t (by omega) (by omega) (by omega)) gX3_addEdge_X1_newEdge rfl rfl rfl (by decide +kernel) ⟨Nat.le_of_ble_eq_true rfl, Nat.le_of_ble_eq_true rfl⟩ (q0 := 0) (ci := 1) rfl rfl (by simp only [List.append_assoc]) rfl rfl (Nat.le_of_ble_eq_true rfl) dX3_addEdge_97 ⟨Nat.le_of_ble_eq_true rfl, Nat.le_of_ble_eq_true rfl⟩ ?_
          refine y_ws (ws' := WC (aC 0) (aP 0) (aS 0) (aJ 0) ++ (WJ cI aJ (aP 0) tc tl mi eb hd hs ig ct ++ (WS cI aS (aP 0) kp ea la ns ne ts te da de eo dn io ++ (WP cI aP E vs dp B sz cd (M + 1) (upN fr M f) (upN tt M t) (if f1 f = -1 then upd f1 f (nI M) else f1) (if f1 f = -1 then f2 else upd f2 f (nI M)) (nI 1))))) (by simp only [List.append_assoc]) ?_
          exact K _ _ _ _ _ dX3_addEdge_100 (rfl) (by decide) (by decide)
        · skip
          exact absurd h78 (by omega)
      · skip
        exact absurd hx h56
    · skip
      exact absurd hd0 h33
  · skip
    exact absurd h11 ht0
theorem in_X3_compute_1 : ∀ w ∈ wsX10, w ∈ wsX3_compute := fun _ h => List.mem_cons_of_mem _ (List.mem_append_left _ (List.mem_append_left _ (List.mem_append_right _ h)))
theorem in_X3_compute_3 : ∀ w ∈ wsX30, w ∈ wsX3_compute := fun _ h => List.mem_cons_of_mem _ (List.mem_append_left _ (List.mem_append_left _ (List.mem_append_left _ (List.mem_append_right _ h))))
set_option maxHeartbeats 4000000 in
set_option maxRecDepth 100000 in
theorem c_X3_compute_ok (l : Launch) (D : va_G) (cI : ClassId) (aC : Nat → Nat) (aJ : Nat → Nat) (tc tl : Nat → Int32) (mi eb hd : Int32) (hs : Nat → Int32) (ig ct : Int32) (aS : Nat → Nat) (kp ea la ns ne ts te da de eo dn io : Nat → Int32) (aP : Nat → Nat) (E : Nat) (vs dp : Nat → Int32) (B : Nat) (sz cd : Nat → Nat) (M : Nat) (fr tt : Nat → Nat) (f1 f2 : Nat → Int32) (cg : Int32) (b k : Nat) (hB : B ≤ 40) (hE : E ≤ 8) (hb : b < B) (hk : k < E) (hz : sz b < 12) : ctI l yX3_compute wsX3_compute (rmD 1 0 0) D [(cI, .int)] [.ref (aC 0), .int (nI b), .int (nI k)] (WC (aC 0) (aP 0) (aS 0) (aJ 0) ++ (WJ cI aJ (aP 0) tc tl mi eb hd hs ig ct ++ (WS cI aS (aP 0) kp ea la ns ne ts te da de eo dn io ++ (WP cI aP E vs dp B sz cd M fr tt f1 f2 cg)))) (WC (aC 0) (aP 0) (aS 0) (aJ 0) ++ (WJ cI aJ (aP 0) tc tl mi eb hd hs ig ct ++ (WS cI aS (aP 0) kp ea la ns ne ts te da de eo dn io ++ (WP cI aP E vs dp B (upN sz b (sz b + 1)) (upN cd (12 * b + sz b) (3 * k + 0)) M fr tt f1 f2 (nI 1))))) (nI (sz b + 1)) 0 0 := by
  refine ctI_of (by decide) rfl (Nat.le_of_ble_eq_true rfl) ?_
  intro p e s m args below meth c A Q C hnm K
  refine y_lv (lv' := [(0, .ref (aC 0)), (1, .int (nI b)), (2, .int (nI k))]) rfl ?_
  refine y_aload_n C 0 dX3_compute_0 rfl rfl ?_
  refine y_iload_n C 1 dX3_compute_1 rfl rfl ?_
  refine y_callV C (wr := []) 1 (c_X3_requireBlock_ok l D cI aC aJ tc tl mi eb hd hs ig ct aS kp ea la ns ne ts te da de eo dn io aP E vs dp B sz cd M fr tt f1 f2 cg b hB hb) gX3_compute_X3_requireBlock rfl rfl rfl (by decide +kernel) ⟨Nat.le_of_ble_eq_true rfl, Nat.le_of_ble_eq_true rfl⟩ (q0 := 0) (ci := 3) rfl rfl rfl rfl rfl (Nat.le_of_ble_eq_true rfl) dX3_compute_2 ⟨Nat.le_of_ble_eq_true rfl, Nat.le_of_ble_eq_true rfl⟩ ?_
  refine y_ws (ws' := WC (aC 0) (aP 0) (aS 0) (aJ 0) ++ (WJ cI aJ (aP 0) tc tl mi eb hd hs ig ct ++ (WS cI aS (aP 0) kp ea la ns ne ts te da de eo dn io ++ (WP cI aP E vs dp B sz cd M fr tt f1 f2 cg)))) rfl ?_
  refine y_aload_n C 0 dX3_compute_5 rfl rfl ?_
  refine y_iload_n C 2 dX3_compute_6 rfl rfl ?_
  refine y_callV C (wr := []) 1 (c_X3_requireExpression_ok l D cI aC aJ tc tl mi eb hd hs ig ct aS kp ea la ns ne ts te da de eo dn io aP E vs dp B sz cd M fr tt f1 f2 cg k hE (hk)) gX3_compute_X3_requireExpression rfl rfl rfl (by decide +kernel) ⟨Nat.le_of_ble_eq_true rfl, Nat.le_of_ble_eq_true rfl⟩ (q0 := 0) (ci := 3) rfl rfl rfl rfl rfl (Nat.le_of_ble_eq_true rfl) dX3_compute_7 ⟨Nat.le_of_ble_eq_true rfl, Nat.le_of_ble_eq_true rfl⟩ ?_
  refine y_ws (ws' := WC (aC 0) (aP 0) (aS 0) (aJ 0) ++ (WJ cI aJ (aP 0) tc tl mi eb hd hs ig ct ++ (WS cI aS (aP 0) kp ea la ns ne ts te da de eo dn io ++ (WP cI aP E vs dp B sz cd M fr tt f1 f2 cg)))) rfl ?_
  refine y_aload_n C 0 dX3_compute_10 rfl rfl ?_
  refine y_iload_n C 1 dX3_compute_11 rfl rfl ?_
  refine y_callV C (wr := []) 1 (c_X3_requireRoom_ok l D cI aC aJ tc tl mi eb hd hs ig ct aS kp ea la ns ne ts te da de eo dn io aP E vs dp B sz cd M fr tt f1 f2 cg b (by omega) hz) gX3_compute_X3_requireRoom rfl rfl rfl (by decide +kernel) ⟨Nat.le_of_ble_eq_true rfl, Nat.le_of_ble_eq_true rfl⟩ (q0 := 0) (ci := 3) rfl rfl rfl rfl rfl (Nat.le_of_ble_eq_true rfl) dX3_compute_12 ⟨Nat.le_of_ble_eq_true rfl, Nat.le_of_ble_eq_true rfl⟩ ?_
  refine y_ws (ws' := WC (aC 0) (aP 0) (aS 0) (aJ 0) ++ (WJ cI aJ (aP 0) tc tl mi eb hd hs ig ct ++ (WS cI aS (aP 0) kp ea la ns ne ts te da de eo dn io ++ (WP cI aP E vs dp B sz cd M fr tt f1 f2 cg)))) rfl ?_
  refine y_aload_n C 0 dX3_compute_15 rfl rfl ?_
  refine y_get C in_X3_compute_3 (ci := 3) rfl 0 (by decide) (List.mem_of_getElem? (i := 1) rfl) 0 rfl rfl dX3_compute_16 ?_
  refine y_iload_n C 1 dX3_compute_19 rfl rfl ?_
  refine y_iconst C (v := nI 0) dX3_compute_20 (by decide) ?_
  refine y_iload_n C 2 dX3_compute_21 rfl rfl ?_
  refine y_callI C (wr := WC (aC 0) (aP 0) (aS 0) (aJ 0) ++ WJ cI aJ (aP 0) tc tl mi eb hd hs ig ct ++ WS cI aS (aP 0) kp ea la ns ne ts te da de eo dn io) 3 (c_X1_append l D cI aP E vs dp B sz cd M fr tt f1 f2 cg b 0 k (by omega) (by omega)) gX3_compute_X1_append rfl rfl rfl (by decide +kernel) ⟨Nat.le_of_ble_eq_true rfl, Nat.le_of_ble_eq_true rfl⟩ (q0 := 0) (ci := 1) rfl rfl (by simp only [List.append_assoc]) rfl rfl (Nat.le_of_ble_eq_true rfl) dX3_compute_22 ⟨Nat.le_of_ble_eq_true rfl, Nat.le_of_ble_eq_true rfl⟩ ?_
  refine y_ws (ws' := WC (aC 0) (aP 0) (aS 0) (aJ 0) ++ (WJ cI aJ (aP 0) tc tl mi eb hd hs ig ct ++ (WS cI aS (aP 0) kp ea la ns ne ts te da de eo dn io ++ (WP cI aP E vs dp B (upN sz b (sz b + 1)) (upN cd (12 * b + sz b) (3 * k + 0)) M fr tt f1 f2 (nI 1))))) (by simp only [List.append_assoc]) ?_
  exact K _ _ _ _ _ dX3_compute_25 (rfl) (by decide) (by decide)
set_option maxHeartbeats 4000000 in
set_option maxRecDepth 100000 in
theorem c_X3_compute_full (l : Launch) (hfl : l.stackTraces = false) (sa : Nat → Nat) (D : va_G) (cI : ClassId) (aC : Nat → Nat) (aJ : Nat → Nat) (tc tl : Nat → Int32) (mi eb hd : Int32) (hs : Nat → Int32) (ig ct : Int32) (aS : Nat → Nat) (kp ea la ns ne ts te da de eo dn io : Nat → Int32) (aP : Nat → Nat) (E : Nat) (vs dp : Nat → Int32) (B : Nat) (sz cd : Nat → Nat) (M : Nat) (fr tt : Nat → Nat) (f1 f2 : Nat → Int32) (cg : Int32) (b k : Nat) (hB : B ≤ 40) (hE : E ≤ 8) (hb : b < B) (hk : k < E) (hz : sz b = 12) : ctX l yX3_compute wsX3_compute (rmD 7 1 6) sa D [(cI, .int)] [.ref (aC 0), .int (nI b), .int (nI k)] (WC (aC 0) (aP 0) (aS 0) (aJ 0) ++ (WJ cI aJ (aP 0) tc tl mi eb hd hs ig ct ++ (WS cI aS (aP 0) kp ea la ns ne ts te da de eo dn io ++ (WP cI aP E vs dp B sz cd M fr tt f1 f2 cg)))) (WC (aC 0) (aP 0) (aS 0) (aJ 0) ++ (WJ cI aJ (aP 0) tc tl mi eb hd hs ig ct ++ (WS cI aS (aP 0) kp ea la ns ne ts te da de eo dn io ++ (WP cI aP E vs dp B sz cd M fr tt f1 f2 cg)))) exS 1 6 := by
  refine ctX_of (by decide) rfl (Nat.le_of_ble_eq_true rfl) ?_
  intro p e s m args below meth c C hnt hE9
  refine y_lv (lv' := [(0, .ref (aC 0)), (1, .int (nI b)), (2, .int (nI k))]) rfl ?_
  refine y_aload_n C 0 dX3_compute_0 rfl rfl ?_
  refine y_iload_n C 1 dX3_compute_1 rfl rfl ?_
  refine y_callV C (wr := []) 1 (c_X3_requireBlock_ok l D cI aC aJ tc tl mi eb hd hs ig ct aS kp ea la ns ne ts te da de eo dn io aP E vs dp B sz cd M fr tt f1 f2 cg b hB hb) gX3_compute_X3_requireBlock rfl rfl rfl (by decide +kernel) ⟨Nat.le_of_ble_eq_true rfl, Nat.le_of_ble_eq_true rfl⟩ (q0 := 0) (ci := 3) rfl rfl rfl rfl rfl (Nat.le_of_ble_eq_true rfl) dX3_compute_2 ⟨Nat.le_of_ble_eq_true rfl, Nat.le_of_ble_eq_true rfl⟩ ?_
  refine y_ws (ws' := WC (aC 0) (aP 0) (aS 0) (aJ 0) ++ (WJ cI aJ (aP 0) tc tl mi eb hd hs ig ct ++ (WS cI aS (aP 0) kp ea la ns ne ts te da de eo dn io ++ (WP cI aP E vs dp B sz cd M fr tt f1 f2 cg)))) rfl ?_
  refine y_aload_n C 0 dX3_compute_5 rfl rfl ?_
  refine y_iload_n C 2 dX3_compute_6 rfl rfl ?_
  refine y_callV C (wr := []) 1 (c_X3_requireExpression_ok l D cI aC aJ tc tl mi eb hd hs ig ct aS kp ea la ns ne ts te da de eo dn io aP E vs dp B sz cd M fr tt f1 f2 cg k hE (hk)) gX3_compute_X3_requireExpression rfl rfl rfl (by decide +kernel) ⟨Nat.le_of_ble_eq_true rfl, Nat.le_of_ble_eq_true rfl⟩ (q0 := 0) (ci := 3) rfl rfl rfl rfl rfl (Nat.le_of_ble_eq_true rfl) dX3_compute_7 ⟨Nat.le_of_ble_eq_true rfl, Nat.le_of_ble_eq_true rfl⟩ ?_
  refine y_ws (ws' := WC (aC 0) (aP 0) (aS 0) (aJ 0) ++ (WJ cI aJ (aP 0) tc tl mi eb hd hs ig ct ++ (WS cI aS (aP 0) kp ea la ns ne ts te da de eo dn io ++ (WP cI aP E vs dp B sz cd M fr tt f1 f2 cg)))) rfl ?_
  refine y_aload_n C 0 dX3_compute_10 rfl rfl ?_
  refine y_iload_n C 1 dX3_compute_11 rfl rfl ?_
  exact y_callX C hE9 hnt (wr := []) 1 (c_X3_requireRoom_full l hfl sa D cI aC aJ tc tl mi eb hd hs ig ct aS kp ea la ns ne ts te da de eo dn io aP E vs dp B sz cd M fr tt f1 f2 cg b (by omega) hz) gX3_compute_X3_requireRoom rfl rfl rfl (by decide +kernel) ⟨Nat.le_of_ble_eq_true rfl, Nat.le_of_ble_eq_true rfl⟩ (q0 := 0) (ci := 3) rfl rfl rfl rfl rfl (Nat.le_of_ble_eq_true rfl) dX3_compute_12 ⟨Nat.le_of_ble_eq_true rfl, Nat.le_of_ble_eq_true rfl⟩ rfl ⟨Nat.le_of_ble_eq_true rfl, Nat.le_of_ble_eq_true rfl⟩
set_option maxHeartbeats 4000000 in
set_option maxRecDepth 100000 in
theorem c_X3_compute_badb (l : Launch) (hfl : l.stackTraces = false) (sa : Nat → Nat) (D : va_G) (cI : ClassId) (aC : Nat → Nat) (aJ : Nat → Nat) (tc tl : Nat → Int32) (mi eb hd : Int32) (hs : Nat → Int32) (ig ct : Int32) (aS : Nat → Nat) (kp ea la ns ne ts te da de eo dn io : Nat → Int32) (aP : Nat → Nat) (E : Nat) (vs dp : Nat → Int32) (B : Nat) (sz cd : Nat → Nat) (M : Nat) (fr tt : Nat → Nat) (f1 f2 : Nat → Int32) (cg : Int32) (b k : Int32) (hB : B ≤ 40) (hb : b < 0 ∨ nI B ≤ b) : ctX l yX3_compute wsX3_compute (rmD 7 1 6) sa D [(cI, .int)] [.ref (aC 0), .int b, .int k] (WC (aC 0) (aP 0) (aS 0) (aJ 0) ++ (WJ cI aJ (aP 0) tc tl mi eb hd hs ig ct ++ (WS cI aS (aP 0) kp ea la ns ne ts te da de eo dn io ++ (WP cI aP E vs dp B sz cd M fr tt f1 f2 cg)))) (WC (aC 0) (aP 0) (aS 0) (aJ 0) ++ (WJ cI aJ (aP 0) tc tl mi eb hd hs ig ct ++ (WS cI aS (aP 0) kp ea la ns ne ts te da de eo dn io ++ (WP cI aP E vs dp B sz cd M fr tt f1 f2 cg)))) exI 1 6 := by
  refine ctX_of (by decide) rfl (Nat.le_of_ble_eq_true rfl) ?_
  intro p e s m args below meth c C hnt hE9
  refine y_lv (lv' := [(0, .ref (aC 0)), (1, .int b), (2, .int k)]) rfl ?_
  refine y_aload_n C 0 dX3_compute_0 rfl rfl ?_
  refine y_iload_n C 1 dX3_compute_1 rfl rfl ?_
  exact y_callX C hE9 hnt (wr := []) 1 (c_X3_requireBlock_bad l hfl sa D cI aC aJ tc tl mi eb hd hs ig ct aS kp ea la ns ne ts te da de eo dn io aP E vs dp B sz cd M fr tt f1 f2 cg b hB hb) gX3_compute_X3_requireBlock rfl rfl rfl (by decide +kernel) ⟨Nat.le_of_ble_eq_true rfl, Nat.le_of_ble_eq_true rfl⟩ (q0 := 0) (ci := 3) rfl rfl rfl rfl rfl (Nat.le_of_ble_eq_true rfl) dX3_compute_2 ⟨Nat.le_of_ble_eq_true rfl, Nat.le_of_ble_eq_true rfl⟩ rfl ⟨Nat.le_of_ble_eq_true rfl, Nat.le_of_ble_eq_true rfl⟩
set_option maxHeartbeats 4000000 in
set_option maxRecDepth 100000 in
theorem c_X3_compute_badk (l : Launch) (hfl : l.stackTraces = false) (sa : Nat → Nat) (D : va_G) (cI : ClassId) (aC : Nat → Nat) (aJ : Nat → Nat) (tc tl : Nat → Int32) (mi eb hd : Int32) (hs : Nat → Int32) (ig ct : Int32) (aS : Nat → Nat) (kp ea la ns ne ts te da de eo dn io : Nat → Int32) (aP : Nat → Nat) (E : Nat) (vs dp : Nat → Int32) (B : Nat) (sz cd : Nat → Nat) (M : Nat) (fr tt : Nat → Nat) (f1 f2 : Nat → Int32) (cg : Int32) (b : Nat) (k : Int32) (hB : B ≤ 40) (hE : E ≤ 8) (hb : b < B) (hk : k < 0 ∨ nI E ≤ k) : ctX l yX3_compute wsX3_compute (rmD 7 1 6) sa D [(cI, .int)] [.ref (aC 0), .int (nI b), .int k] (WC (aC 0) (aP 0) (aS 0) (aJ 0) ++ (WJ cI aJ (aP 0) tc tl mi eb hd hs ig ct ++ (WS cI aS (aP 0) kp ea la ns ne ts te da de eo dn io ++ (WP cI aP E vs dp B sz cd M fr tt f1 f2 cg)))) (WC (aC 0) (aP 0) (aS 0) (aJ 0) ++ (WJ cI aJ (aP 0) tc tl mi eb hd hs ig ct ++ (WS cI aS (aP 0) kp ea la ns ne ts te da de eo dn io ++ (WP cI aP E vs dp B sz cd M fr tt f1 f2 cg)))) exI 1 6 := by
  refine ctX_of (by decide) rfl (Nat.le_of_ble_eq_true rfl) ?_
  intro p e s m args below meth c C hnt hE9
  refine y_lv (lv' := [(0, .ref (aC 0)), (1, .int (nI b)), (2, .int k)]) rfl ?_
  refine y_aload_n C 0 dX3_compute_0 rfl rfl ?_
  refine y_iload_n C 1 dX3_compute_1 rfl rfl ?_
  refine y_callV C (wr := []) 1 (c_X3_requireBlock_ok l D cI aC aJ tc tl mi eb hd hs ig ct aS kp ea la ns ne ts te da de eo dn io aP E vs dp B sz cd M fr tt f1 f2 cg b hB hb) gX3_compute_X3_requireBlock rfl rfl rfl (by decide +kernel) ⟨Nat.le_of_ble_eq_true rfl, Nat.le_of_ble_eq_true rfl⟩ (q0 := 0) (ci := 3) rfl rfl rfl rfl rfl (Nat.le_of_ble_eq_true rfl) dX3_compute_2 ⟨Nat.le_of_ble_eq_true rfl, Nat.le_of_ble_eq_true rfl⟩ ?_
  refine y_ws (ws' := WC (aC 0) (aP 0) (aS 0) (aJ 0) ++ (WJ cI aJ (aP 0) tc tl mi eb hd hs ig ct ++ (WS cI aS (aP 0) kp ea la ns ne ts te da de eo dn io ++ (WP cI aP E vs dp B sz cd M fr tt f1 f2 cg)))) rfl ?_
  refine y_aload_n C 0 dX3_compute_5 rfl rfl ?_
  refine y_iload_n C 2 dX3_compute_6 rfl rfl ?_
  exact y_callX C hE9 hnt (wr := []) 1 (c_X3_requireExpression_bad l hfl sa D cI aC aJ tc tl mi eb hd hs ig ct aS kp ea la ns ne ts te da de eo dn io aP E vs dp B sz cd M fr tt f1 f2 cg k hE (hk)) gX3_compute_X3_requireExpression rfl rfl rfl (by decide +kernel) ⟨Nat.le_of_ble_eq_true rfl, Nat.le_of_ble_eq_true rfl⟩ (q0 := 0) (ci := 3) rfl rfl rfl rfl rfl (Nat.le_of_ble_eq_true rfl) dX3_compute_7 ⟨Nat.le_of_ble_eq_true rfl, Nat.le_of_ble_eq_true rfl⟩ rfl ⟨Nat.le_of_ble_eq_true rfl, Nat.le_of_ble_eq_true rfl⟩
theorem in_X3_use_1 : ∀ w ∈ wsX10, w ∈ wsX3_use := fun _ h => List.mem_cons_of_mem _ (List.mem_append_left _ (List.mem_append_left _ (List.mem_append_right _ h)))
theorem in_X3_use_3 : ∀ w ∈ wsX30, w ∈ wsX3_use := fun _ h => List.mem_cons_of_mem _ (List.mem_append_left _ (List.mem_append_left _ (List.mem_append_left _ (List.mem_append_right _ h))))
set_option maxHeartbeats 4000000 in
set_option maxRecDepth 100000 in
theorem c_X3_use_ok (l : Launch) (D : va_G) (cI : ClassId) (aC : Nat → Nat) (aJ : Nat → Nat) (tc tl : Nat → Int32) (mi eb hd : Int32) (hs : Nat → Int32) (ig ct : Int32) (aS : Nat → Nat) (kp ea la ns ne ts te da de eo dn io : Nat → Int32) (aP : Nat → Nat) (E : Nat) (vs dp : Nat → Int32) (B : Nat) (sz cd : Nat → Nat) (M : Nat) (fr tt : Nat → Nat) (f1 f2 : Nat → Int32) (cg : Int32) (b k : Nat) (hB : B ≤ 40) (hE : E ≤ 8) (hb : b < B) (hk : k < E) (hz : sz b < 12) : ctI l yX3_use wsX3_use (rmD 1 0 0) D [(cI, .int)] [.ref (aC 0), .int (nI b), .int (nI k)] (WC (aC 0) (aP 0) (aS 0) (aJ 0) ++ (WJ cI aJ (aP 0) tc tl mi eb hd hs ig ct ++ (WS cI aS (aP 0) kp ea la ns ne ts te da de eo dn io ++ (WP cI aP E vs dp B sz cd M fr tt f1 f2 cg)))) (WC (aC 0) (aP 0) (aS 0) (aJ 0) ++ (WJ cI aJ (aP 0) tc tl mi eb hd hs ig ct ++ (WS cI aS (aP 0) kp ea la ns ne ts te da de eo dn io ++ (WP cI aP E vs dp B (upN sz b (sz b + 1)) (upN cd (12 * b + sz b) (3 * k + 1)) M fr tt f1 f2 (nI 1))))) (nI (sz b + 1)) 0 0 := by
  refine ctI_of (by decide) rfl (Nat.le_of_ble_eq_true rfl) ?_
  intro p e s m args below meth c A Q C hnm K
  refine y_lv (lv' := [(0, .ref (aC 0)), (1, .int (nI b)), (2, .int (nI k))]) rfl ?_
  refine y_aload_n C 0 dX3_use_0 rfl rfl ?_
  refine y_iload_n C 1 dX3_use_1 rfl rfl ?_
  refine y_callV C (wr := []) 1 (c_X3_requireBlock_ok l D cI aC aJ tc tl mi eb hd hs ig ct aS kp ea la ns ne ts te da de eo dn io aP E vs dp B sz cd M fr tt f1 f2 cg b hB hb) gX3_use_X3_requireBlock rfl rfl rfl (by decide +kernel) ⟨Nat.le_of_ble_eq_true rfl, Nat.le_of_ble_eq_true rfl⟩ (q0 := 0) (ci := 3) rfl rfl rfl rfl rfl (Nat.le_of_ble_eq_true rfl) dX3_use_2 ⟨Nat.le_of_ble_eq_true rfl, Nat.le_of_ble_eq_true rfl⟩ ?_
  refine y_ws (ws' := WC (aC 0) (aP 0) (aS 0) (aJ 0) ++ (WJ cI aJ (aP 0) tc tl mi eb hd hs ig ct ++ (WS cI aS (aP 0) kp ea la ns ne ts te da de eo dn io ++ (WP cI aP E vs dp B sz cd M fr tt f1 f2 cg)))) rfl ?_
  refine y_aload_n C 0 dX3_use_5 rfl rfl ?_
  refine y_iload_n C 2 dX3_use_6 rfl rfl ?_
  refine y_callV C (wr := []) 1 (c_X3_requireExpression_ok l D cI aC aJ tc tl mi eb hd hs ig ct aS kp ea la ns ne ts te da de eo dn io aP E vs dp B sz cd M fr tt f1 f2 cg k hE (hk)) gX3_use_X3_requireExpression rfl rfl rfl (by decide +kernel) ⟨Nat.le_of_ble_eq_true rfl, Nat.le_of_ble_eq_true rfl⟩ (q0 := 0) (ci := 3) rfl rfl rfl rfl rfl (Nat.le_of_ble_eq_true rfl) dX3_use_7 ⟨Nat.le_of_ble_eq_true rfl, Nat.le_of_ble_eq_true rfl⟩ ?_
  refine y_ws (ws' := WC (aC 0) (aP 0) (aS 0) (aJ 0) ++ (WJ cI aJ (aP 0) tc tl mi eb hd hs ig ct ++ (WS cI aS (aP 0) kp ea la ns ne ts te da de eo dn io ++ (WP cI aP E vs dp B sz cd M fr tt f1 f2 cg)))) rfl ?_
  refine y_aload_n C 0 dX3_use_10 rfl rfl ?_
  refine y_iload_n C 1 dX3_use_11 rfl rfl ?_
  refine y_callV C (wr := []) 1 (c_X3_requireRoom_ok l D cI aC aJ tc tl mi eb hd hs ig ct aS kp ea la ns ne ts te da de eo dn io aP E vs dp B sz cd M fr tt f1 f2 cg b (by omega) hz) gX3_use_X3_requireRoom rfl rfl rfl (by decide +kernel) ⟨Nat.le_of_ble_eq_true rfl, Nat.le_of_ble_eq_true rfl⟩ (q0 := 0) (ci := 3) rfl rfl rfl rfl rfl (Nat.le_of_ble_eq_true rfl) dX3_use_12 ⟨Nat.le_of_ble_eq_true rfl, Nat.le_of_ble_eq_true rfl⟩ ?_
  refine y_ws (ws' := WC (aC 0) (aP 0) (aS 0) (aJ 0) ++ (WJ cI aJ (aP 0) tc tl mi eb hd hs ig ct ++ (WS cI aS (aP 0) kp ea la ns ne ts te da de eo dn io ++ (WP cI aP E vs dp B sz cd M fr tt f1 f2 cg)))) rfl ?_
  refine y_aload_n C 0 dX3_use_15 rfl rfl ?_
  refine y_get C in_X3_use_3 (ci := 3) rfl 0 (by decide) (List.mem_of_getElem? (i := 1) rfl) 0 rfl rfl dX3_use_16 ?_
  refine y_iload_n C 1 dX3_use_19 rfl rfl ?_
  refine y_iconst C (v := nI 1) dX3_use_20 (by decide) ?_
  refine y_iload_n C 2 dX3_use_21 rfl rfl ?_
  refine y_callI C (wr := WC (aC 0) (aP 0) (aS 0) (aJ 0) ++ WJ cI aJ (aP 0) tc tl mi eb hd hs ig ct ++ WS cI aS (aP 0) kp ea la ns ne ts te da de eo dn io) 3 (c_X1_append l D cI aP E vs dp B sz cd M fr tt f1 f2 cg b 1 k (by omega) (by omega)) gX3_use_X1_append rfl rfl rfl (by decide +kernel) ⟨Nat.le_of_ble_eq_true rfl, Nat.le_of_ble_eq_true rfl⟩ (q0 := 0) (ci := 1) rfl rfl (by simp only [List.append_assoc]) rfl rfl (Nat.le_of_ble_eq_true rfl) dX3_use_22 ⟨Nat.le_of_ble_eq_true rfl, Nat.le_of_ble_eq_true rfl⟩ ?_
  refine y_ws (ws' := WC (aC 0) (aP 0) (aS 0) (aJ 0) ++ (WJ cI aJ (aP 0) tc tl mi eb hd hs ig ct ++ (WS cI aS (aP 0) kp ea la ns ne ts te da de eo dn io ++ (WP cI aP E vs dp B (upN sz b (sz b + 1)) (upN cd (12 * b + sz b) (3 * k + 1)) M fr tt f1 f2 (nI 1))))) (by simp only [List.append_assoc]) ?_
  exact K _ _ _ _ _ dX3_use_25 (rfl) (by decide) (by decide)
set_option maxHeartbeats 4000000 in
set_option maxRecDepth 100000 in
theorem c_X3_use_full (l : Launch) (hfl : l.stackTraces = false) (sa : Nat → Nat) (D : va_G) (cI : ClassId) (aC : Nat → Nat) (aJ : Nat → Nat) (tc tl : Nat → Int32) (mi eb hd : Int32) (hs : Nat → Int32) (ig ct : Int32) (aS : Nat → Nat) (kp ea la ns ne ts te da de eo dn io : Nat → Int32) (aP : Nat → Nat) (E : Nat) (vs dp : Nat → Int32) (B : Nat) (sz cd : Nat → Nat) (M : Nat) (fr tt : Nat → Nat) (f1 f2 : Nat → Int32) (cg : Int32) (b k : Nat) (hB : B ≤ 40) (hE : E ≤ 8) (hb : b < B) (hk : k < E) (hz : sz b = 12) : ctX l yX3_use wsX3_use (rmD 7 1 6) sa D [(cI, .int)] [.ref (aC 0), .int (nI b), .int (nI k)] (WC (aC 0) (aP 0) (aS 0) (aJ 0) ++ (WJ cI aJ (aP 0) tc tl mi eb hd hs ig ct ++ (WS cI aS (aP 0) kp ea la ns ne ts te da de eo dn io ++ (WP cI aP E vs dp B sz cd M fr tt f1 f2 cg)))) (WC (aC 0) (aP 0) (aS 0) (aJ 0) ++ (WJ cI aJ (aP 0) tc tl mi eb hd hs ig ct ++ (WS cI aS (aP 0) kp ea la ns ne ts te da de eo dn io ++ (WP cI aP E vs dp B sz cd M fr tt f1 f2 cg)))) exS 1 6 := by
  refine ctX_of (by decide) rfl (Nat.le_of_ble_eq_true rfl) ?_
  intro p e s m args below meth c C hnt hE9
  refine y_lv (lv' := [(0, .ref (aC 0)), (1, .int (nI b)), (2, .int (nI k))]) rfl ?_
  refine y_aload_n C 0 dX3_use_0 rfl rfl ?_
  refine y_iload_n C 1 dX3_use_1 rfl rfl ?_
  refine y_callV C (wr := []) 1 (c_X3_requireBlock_ok l D cI aC aJ tc tl mi eb hd hs ig ct aS kp ea la ns ne ts te da de eo dn io aP E vs dp B sz cd M fr tt f1 f2 cg b hB hb) gX3_use_X3_requireBlock rfl rfl rfl (by decide +kernel) ⟨Nat.le_of_ble_eq_true rfl, Nat.le_of_ble_eq_true rfl⟩ (q0 := 0) (ci := 3) rfl rfl rfl rfl rfl (Nat.le_of_ble_eq_true rfl) dX3_use_2 ⟨Nat.le_of_ble_eq_true rfl, Nat.le_of_ble_eq_true rfl⟩ ?_
  refine y_ws (ws' := WC (aC 0) (aP 0) (aS 0) (aJ 0) ++ (WJ cI aJ (aP 0) tc tl mi eb hd hs ig ct ++ (WS cI aS (aP 0) kp ea la ns ne ts te da de eo dn io ++ (WP cI aP E vs dp B sz cd M fr tt f1 f2 cg)))) rfl ?_
  refine y_aload_n C 0 dX3_use_5 rfl rfl ?_
  refine y_iload_n C 2 dX3_use_6 rfl rfl ?_
  refine y_callV C (wr := []) 1 (c_X3_requireExpression_ok l D cI aC aJ tc tl mi eb hd hs ig ct aS kp ea la ns ne ts te da de eo dn io aP E vs dp B sz cd M fr tt f1 f2 cg k hE (hk)) gX3_use_X3_requireExpression rfl rfl rfl (by decide +kernel) ⟨Nat.le_of_ble_eq_true rfl, Nat.le_of_ble_eq_true rfl⟩ (q0 := 0) (ci := 3) rfl rfl rfl rfl rfl (Nat.le_of_ble_eq_true rfl) dX3_use_7 ⟨Nat.le_of_ble_eq_true rfl, Nat.le_of_ble_eq_true rfl⟩ ?_
  refine y_ws (ws' := WC (aC 0) (aP 0) (aS 0) (aJ 0) ++ (WJ cI aJ (aP 0) tc tl mi eb hd hs ig ct ++ (WS cI aS (aP 0) kp ea la ns ne ts te da de eo dn io ++ (WP cI aP E vs dp B sz cd M fr tt f1 f2 cg)))) rfl ?_
  refine y_aload_n C 0 dX3_use_10 rfl rfl ?_
  refine y_iload_n C 1 dX3_use_11 rfl rfl ?_
  exact y_callX C hE9 hnt (wr := []) 1 (c_X3_requireRoom_full l hfl sa D cI aC aJ tc tl mi eb hd hs ig ct aS kp ea la ns ne ts te da de eo dn io aP E vs dp B sz cd M fr tt f1 f2 cg b (by omega) hz) gX3_use_X3_requireRoom rfl rfl rfl (by decide +kernel) ⟨Nat.le_of_ble_eq_true rfl, Nat.le_of_ble_eq_true rfl⟩ (q0 := 0) (ci := 3) rfl rfl rfl rfl rfl (Nat.le_of_ble_eq_true rfl) dX3_use_12 ⟨Nat.le_of_ble_eq_true rfl, Nat.le_of_ble_eq_true rfl⟩ rfl ⟨Nat.le_of_ble_eq_true rfl, Nat.le_of_ble_eq_true rfl⟩
set_option maxHeartbeats 4000000 in
set_option maxRecDepth 100000 in
theorem c_X3_use_badb (l : Launch) (hfl : l.stackTraces = false) (sa : Nat → Nat) (D : va_G) (cI : ClassId) (aC : Nat → Nat) (aJ : Nat → Nat) (tc tl : Nat → Int32) (mi eb hd : Int32) (hs : Nat → Int32) (ig ct : Int32) (aS : Nat → Nat) (kp ea la ns ne ts te da de eo dn io : Nat → Int32) (aP : Nat → Nat) (E : Nat) (vs dp : Nat → Int32) (B : Nat) (sz cd : Nat → Nat) (M : Nat) (fr tt : Nat → Nat) (f1 f2 : Nat → Int32) (cg : Int32) (b k : Int32) (hB : B ≤ 40) (hb : b < 0 ∨ nI B ≤ b) : ctX l yX3_use wsX3_use (rmD 7 1 6) sa D [(cI, .int)] [.ref (aC 0), .int b, .int k] (WC (aC 0) (aP 0) (aS 0) (aJ 0) ++ (WJ cI aJ (aP 0) tc tl mi eb hd hs ig ct ++ (WS cI aS (aP 0) kp ea la ns ne ts te da de eo dn io ++ (WP cI aP E vs dp B sz cd M fr tt f1 f2 cg)))) (WC (aC 0) (aP 0) (aS 0) (aJ 0) ++ (WJ cI aJ (aP 0) tc tl mi eb hd hs ig ct ++ (WS cI aS (aP 0) kp ea la ns ne ts te da de eo dn io ++ (WP cI aP E vs dp B sz cd M fr tt f1 f2 cg)))) exI 1 6 := by
  refine ctX_of (by decide) rfl (Nat.le_of_ble_eq_true rfl) ?_
  intro p e s m args below meth c C hnt hE9
  refine y_lv (lv' := [(0, .ref (aC 0)), (1, .int b), (2, .int k)]) rfl ?_
  refine y_aload_n C 0 dX3_use_0 rfl rfl ?_
  refine y_iload_n C 1 dX3_use_1 rfl rfl ?_
  exact y_callX C hE9 hnt (wr := []) 1 (c_X3_requireBlock_bad l hfl sa D cI aC aJ tc tl mi eb hd hs ig ct aS kp ea la ns ne ts te da de eo dn io aP E vs dp B sz cd M fr tt f1 f2 cg b hB hb) gX3_use_X3_requireBlock rfl rfl rfl (by decide +kernel) ⟨Nat.le_of_ble_eq_true rfl, Nat.le_of_ble_eq_true rfl⟩ (q0 := 0) (ci := 3) rfl rfl rfl rfl rfl (Nat.le_of_ble_eq_true rfl) dX3_use_2 ⟨Nat.le_of_ble_eq_true rfl, Nat.le_of_ble_eq_true rfl⟩ rfl ⟨Nat.le_of_ble_eq_true rfl, Nat.le_of_ble_eq_true rfl⟩
set_option maxHeartbeats 4000000 in
set_option maxRecDepth 100000 in
theorem c_X3_use_badk (l : Launch) (hfl : l.stackTraces = false) (sa : Nat → Nat) (D : va_G) (cI : ClassId) (aC : Nat → Nat) (aJ : Nat → Nat) (tc tl : Nat → Int32) (mi eb hd : Int32) (hs : Nat → Int32) (ig ct : Int32) (aS : Nat → Nat) (kp ea la ns ne ts te da de eo dn io : Nat → Int32) (aP : Nat → Nat) (E : Nat) (vs dp : Nat → Int32) (B : Nat) (sz cd : Nat → Nat) (M : Nat) (fr tt : Nat → Nat) (f1 f2 : Nat → Int32) (cg : Int32) (b : Nat) (k : Int32) (hB : B ≤ 40) (hE : E ≤ 8) (hb : b < B) (hk : k < 0 ∨ nI E ≤ k) : ctX l yX3_use wsX3_use (rmD 7 1 6) sa D [(cI, .int)] [.ref (aC 0), .int (nI b), .int k] (WC (aC 0) (aP 0) (aS 0) (aJ 0) ++ (WJ cI aJ (aP 0) tc tl mi eb hd hs ig ct ++ (WS cI aS (aP 0) kp ea la ns ne ts te da de eo dn io ++ (WP cI aP E vs dp B sz cd M fr tt f1 f2 cg)))) (WC (aC 0) (aP 0) (aS 0) (aJ 0) ++ (WJ cI aJ (aP 0) tc tl mi eb hd hs ig ct ++ (WS cI aS (aP 0) kp ea la ns ne ts te da de eo dn io ++ (WP cI aP E vs dp B sz cd M fr tt f1 f2 cg)))) exI 1 6 := by
  refine ctX_of (by decide) rfl (Nat.le_of_ble_eq_true rfl) ?_
  intro p e s m args below meth c C hnt hE9
  refine y_lv (lv' := [(0, .ref (aC 0)), (1, .int (nI b)), (2, .int k)]) rfl ?_
  refine y_aload_n C 0 dX3_use_0 rfl rfl ?_
  refine y_iload_n C 1 dX3_use_1 rfl rfl ?_
  refine y_callV C (wr := []) 1 (c_X3_requireBlock_ok l D cI aC aJ tc tl mi eb hd hs ig ct aS kp ea la ns ne ts te da de eo dn io aP E vs dp B sz cd M fr tt f1 f2 cg b hB hb) gX3_use_X3_requireBlock rfl rfl rfl (by decide +kernel) ⟨Nat.le_of_ble_eq_true rfl, Nat.le_of_ble_eq_true rfl⟩ (q0 := 0) (ci := 3) rfl rfl rfl rfl rfl (Nat.le_of_ble_eq_true rfl) dX3_use_2 ⟨Nat.le_of_ble_eq_true rfl, Nat.le_of_ble_eq_true rfl⟩ ?_
  refine y_ws (ws' := WC (aC 0) (aP 0) (aS 0) (aJ 0) ++ (WJ cI aJ (aP 0) tc tl mi eb hd hs ig ct ++ (WS cI aS (aP 0) kp ea la ns ne ts te da de eo dn io ++ (WP cI aP E vs dp B sz cd M fr tt f1 f2 cg)))) rfl ?_
  refine y_aload_n C 0 dX3_use_5 rfl rfl ?_
  refine y_iload_n C 2 dX3_use_6 rfl rfl ?_
  exact y_callX C hE9 hnt (wr := []) 1 (c_X3_requireExpression_bad l hfl sa D cI aC aJ tc tl mi eb hd hs ig ct aS kp ea la ns ne ts te da de eo dn io aP E vs dp B sz cd M fr tt f1 f2 cg k hE (hk)) gX3_use_X3_requireExpression rfl rfl rfl (by decide +kernel) ⟨Nat.le_of_ble_eq_true rfl, Nat.le_of_ble_eq_true rfl⟩ (q0 := 0) (ci := 3) rfl rfl rfl rfl rfl (Nat.le_of_ble_eq_true rfl) dX3_use_7 ⟨Nat.le_of_ble_eq_true rfl, Nat.le_of_ble_eq_true rfl⟩ rfl ⟨Nat.le_of_ble_eq_true rfl, Nat.le_of_ble_eq_true rfl⟩
theorem in_X3_assign_1 : ∀ w ∈ wsX10, w ∈ wsX3_assign := fun _ h => List.mem_cons_of_mem _ (List.mem_append_left _ (List.mem_append_left _ (List.mem_append_right _ h)))
theorem in_X3_assign_3 : ∀ w ∈ wsX30, w ∈ wsX3_assign := fun _ h => List.mem_cons_of_mem _ (List.mem_append_left _ (List.mem_append_left _ (List.mem_append_left _ (List.mem_append_right _ h))))
set_option maxHeartbeats 4000000 in
set_option maxRecDepth 100000 in
theorem c_X3_assign_ok (l : Launch) (D : va_G) (cI : ClassId) (aC : Nat → Nat) (aJ : Nat → Nat) (tc tl : Nat → Int32) (mi eb hd : Int32) (hs : Nat → Int32) (ig ct : Int32) (aS : Nat → Nat) (kp ea la ns ne ts te da de eo dn io : Nat → Int32) (aP : Nat → Nat) (E : Nat) (vs dp : Nat → Int32) (B : Nat) (sz cd : Nat → Nat) (M : Nat) (fr tt : Nat → Nat) (f1 f2 : Nat → Int32) (cg : Int32) (b k : Nat) (hB : B ≤ 40) (hE : E ≤ 8) (hb : b < B) (hk : k < 6) (hz : sz b < 12) : ctI l yX3_assign wsX3_assign (rmD 1 0 0) D [(cI, .int)] [.ref (aC 0), .int (nI b), .int (nI k)] (WC (aC 0) (aP 0) (aS 0) (aJ 0) ++ (WJ cI aJ (aP 0) tc tl mi eb hd hs ig ct ++ (WS cI aS (aP 0) kp ea la ns ne ts te da de eo dn io ++ (WP cI aP E vs dp B sz cd M fr tt f1 f2 cg)))) (WC (aC 0) (aP 0) (aS 0) (aJ 0) ++ (WJ cI aJ (aP 0) tc tl mi eb hd hs ig ct ++ (WS cI aS (aP 0) kp ea la ns ne ts te da de eo dn io ++ (WP cI aP E vs dp B (upN sz b (sz b + 1)) (upN cd (12 * b + sz b) (3 * k + 2)) M fr tt f1 f2 (nI 1))))) (nI (sz b + 1)) 0 0 := by
  refine ctI_of (by decide) rfl (Nat.le_of_ble_eq_true rfl) ?_
  intro p e s m args below meth c A Q C hnm K
  refine y_lv (lv' := [(0, .ref (aC 0)), (1, .int (nI b)), (2, .int (nI k))]) rfl ?_
  refine y_aload_n C 0 dX3_assign_0 rfl rfl ?_
  refine y_iload_n C 1 dX3_assign_1 rfl rfl ?_
  refine y_callV C (wr := []) 1 (c_X3_requireBlock_ok l D cI aC aJ tc tl mi eb hd hs ig ct aS kp ea la ns ne ts te da de eo dn io aP E vs dp B sz cd M fr tt f1 f2 cg b hB hb) gX3_assign_X3_requireBlock rfl rfl rfl (by decide +kernel) ⟨Nat.le_of_ble_eq_true rfl, Nat.le_of_ble_eq_true rfl⟩ (q0 := 0) (ci := 3) rfl rfl rfl rfl rfl (Nat.le_of_ble_eq_true rfl) dX3_assign_2 ⟨Nat.le_of_ble_eq_true rfl, Nat.le_of_ble_eq_true rfl⟩ ?_
  refine y_ws (ws' := WC (aC 0) (aP 0) (aS 0) (aJ 0) ++ (WJ cI aJ (aP 0) tc tl mi eb hd hs ig ct ++ (WS cI aS (aP 0) kp ea la ns ne ts te da de eo dn io ++ (WP cI aP E vs dp B sz cd M fr tt f1 f2 cg)))) rfl ?_
  refine y_iload_n C 2 dX3_assign_5 rfl rfl ?_
  refine y_ifN_lt C (tgt := 15) dX3_assign_6 (by decide) (by omega) ?_
  refine y_iload_n C 2 dX3_assign_9 rfl rfl ?_
  refine y_bipush C (v := nI 6) dX3_assign_10 (by decide) ?_
  refine y_icmpN_lt C (tgt := 25) dX3_assign_12 (by decide) (by omega) (by omega) (fun h12 => ?_) (fun h12 => ?_)
  · skip
    refine y_aload_n C 0 dX3_assign_25 rfl rfl ?_
    refine y_iload_n C 1 dX3_assign_26 rfl rfl ?_
    refine y_callV C (wr := []) 1 (c_X3_requireRoom_ok l D cI aC aJ tc tl mi eb hd hs ig ct aS kp ea la ns ne ts te da de eo dn io aP E vs dp B sz cd M fr tt f1 f2 cg b (by omega) hz) gX3_assign_X3_requireRoom rfl rfl rfl (by decide +kernel) ⟨Nat.le_of_ble_eq_true rfl, Nat.le_of_ble_eq_true rfl⟩ (q0 := 0) (ci := 3) rfl rfl rfl rfl rfl (Nat.le_of_ble_eq_true rfl) dX3_assign_27 ⟨Nat.le_of_ble_eq_true rfl, Nat.le_of_ble_eq_true rfl⟩ ?_
    refine y_ws (ws' := WC (aC 0) (aP 0) (aS 0) (aJ 0) ++ (WJ cI aJ (aP 0) tc tl mi eb hd hs ig ct ++ (WS cI aS (aP 0) kp ea la ns ne ts te da de eo dn io ++ (WP cI aP E vs dp B sz cd M fr tt f1 f2 cg)))) rfl ?_
    refine y_aload_n C 0 dX3_assign_30 rfl rfl ?_
    refine y_get C in_X3_assign_3 (ci := 3) rfl 0 (by decide) (List.mem_of_getElem? (i := 3) rfl) 0 rfl rfl dX3_assign_31 ?_
    refine y_iload_n C 1 dX3_assign_34 rfl rfl ?_
    refine y_iconst C (v := nI 2) dX3_assign_35 (by decide) ?_
    refine y_iload_n C 2 dX3_assign_36 rfl rfl ?_
    refine y_callI C (wr := WC (aC 0) (aP 0) (aS 0) (aJ 0) ++ WJ cI aJ (aP 0) tc tl mi eb hd hs ig ct ++ WS cI aS (aP 0) kp ea la ns ne ts te da de eo dn io) 3 (c_X1_append l D cI aP E vs dp B sz cd M fr tt f1 f2 cg b 2 k (by omega) (by omega)) gX3_assign_X1_append rfl rfl rfl (by decide +kernel) ⟨Nat.le_of_ble_eq_true rfl, Nat.le_of_ble_eq_true rfl⟩ (q0 := 0) (ci := 1) rfl rfl (by simp only [List.append_assoc]) rfl rfl (Nat.le_of_ble_eq_true rfl) dX3_assign_37 ⟨Nat.le_of_ble_eq_true rfl, Nat.le_of_ble_eq_true rfl⟩ ?_
    refine y_ws (ws' := WC (aC 0) (aP 0) (aS 0) (aJ 0) ++ (WJ cI aJ (aP 0) tc tl mi eb hd hs ig ct ++ (WS cI aS (aP 0) kp ea la ns ne ts te da de eo dn io ++ (WP cI aP E vs dp B (upN sz b (sz b + 1)) (upN cd (12 * b + sz b) (3 * k + 2)) M fr tt f1 f2 (nI 1))))) (by simp only [List.append_assoc]) ?_
    exact K _ _ _ _ _ dX3_assign_40 (rfl) (by decide) (by decide)
  · skip
    exact absurd h12 (by omega)
set_option maxHeartbeats 4000000 in
set_option maxRecDepth 100000 in
theorem c_X3_assign_full (l : Launch) (hfl : l.stackTraces = false) (sa : Nat → Nat) (D : va_G) (cI : ClassId) (aC : Nat → Nat) (aJ : Nat → Nat) (tc tl : Nat → Int32) (mi eb hd : Int32) (hs : Nat → Int32) (ig ct : Int32) (aS : Nat → Nat) (kp ea la ns ne ts te da de eo dn io : Nat → Int32) (aP : Nat → Nat) (E : Nat) (vs dp : Nat → Int32) (B : Nat) (sz cd : Nat → Nat) (M : Nat) (fr tt : Nat → Nat) (f1 f2 : Nat → Int32) (cg : Int32) (b k : Nat) (hB : B ≤ 40) (hE : E ≤ 8) (hb : b < B) (hk : k < 6) (hz : sz b = 12) : ctX l yX3_assign wsX3_assign (rmD 7 1 6) sa D [(cI, .int)] [.ref (aC 0), .int (nI b), .int (nI k)] (WC (aC 0) (aP 0) (aS 0) (aJ 0) ++ (WJ cI aJ (aP 0) tc tl mi eb hd hs ig ct ++ (WS cI aS (aP 0) kp ea la ns ne ts te da de eo dn io ++ (WP cI aP E vs dp B sz cd M fr tt f1 f2 cg)))) (WC (aC 0) (aP 0) (aS 0) (aJ 0) ++ (WJ cI aJ (aP 0) tc tl mi eb hd hs ig ct ++ (WS cI aS (aP 0) kp ea la ns ne ts te da de eo dn io ++ (WP cI aP E vs dp B sz cd M fr tt f1 f2 cg)))) exS 1 6 := by
  refine ctX_of (by decide) rfl (Nat.le_of_ble_eq_true rfl) ?_
  intro p e s m args below meth c C hnt hE9
  refine y_lv (lv' := [(0, .ref (aC 0)), (1, .int (nI b)), (2, .int (nI k))]) rfl ?_
  refine y_aload_n C 0 dX3_assign_0 rfl rfl ?_
  refine y_iload_n C 1 dX3_assign_1 rfl rfl ?_
  refine y_callV C (wr := []) 1 (c_X3_requireBlock_ok l D cI aC aJ tc tl mi eb hd hs ig ct aS kp ea la ns ne ts te da de eo dn io aP E vs dp B sz cd M fr tt f1 f2 cg b hB hb) gX3_assign_X3_requireBlock rfl rfl rfl (by decide +kernel) ⟨Nat.le_of_ble_eq_true rfl, Nat.le_of_ble_eq_true rfl⟩ (q0 := 0) (ci := 3) rfl rfl rfl rfl rfl (Nat.le_of_ble_eq_true rfl) dX3_assign_2 ⟨Nat.le_of_ble_eq_true rfl, Nat.le_of_ble_eq_true rfl⟩ ?_
  refine y_ws (ws' := WC (aC 0) (aP 0) (aS 0) (aJ 0) ++ (WJ cI aJ (aP 0) tc tl mi eb hd hs ig ct ++ (WS cI aS (aP 0) kp ea la ns ne ts te da de eo dn io ++ (WP cI aP E vs dp B sz cd M fr tt f1 f2 cg)))) rfl ?_
  refine y_iload_n C 2 dX3_assign_5 rfl rfl ?_
  refine y_ifN_lt C (tgt := 15) dX3_assign_6 (by decide) (by omega) ?_
  refine y_iload_n C 2 dX3_assign_9 rfl rfl ?_
  refine y_bipush C (v := nI 6) dX3_assign_10 (by decide) ?_
  refine y_icmpN_lt C (tgt := 25) dX3_assign_12 (by decide) (by omega) (by omega) (fun h12 => ?_) (fun h12 => ?_)
  · skip
    refine y_aload_n C 0 dX3_assign_25 rfl rfl ?_
    refine y_iload_n C 1 dX3_assign_26 rfl rfl ?_
    exact y_callX C hE9 hnt (wr := []) 1 (c_X3_requireRoom_full l hfl sa D cI aC aJ tc tl mi eb hd hs ig ct aS kp ea la ns ne ts te da de eo dn io aP E vs dp B sz cd M fr tt f1 f2 cg b (by omega) hz) gX3_assign_X3_requireRoom rfl rfl rfl (by decide +kernel) ⟨Nat.le_of_ble_eq_true rfl, Nat.le_of_ble_eq_true rfl⟩ (q0 := 0) (ci := 3) rfl rfl rfl rfl rfl (Nat.le_of_ble_eq_true rfl) dX3_assign_27 ⟨Nat.le_of_ble_eq_true rfl, Nat.le_of_ble_eq_true rfl⟩ rfl ⟨Nat.le_of_ble_eq_true rfl, Nat.le_of_ble_eq_true rfl⟩
  · skip
    exact absurd h12 (by omega)
set_option maxHeartbeats 4000000 in
set_option maxRecDepth 100000 in
theorem c_X3_assign_badb (l : Launch) (hfl : l.stackTraces = false) (sa : Nat → Nat) (D : va_G) (cI : ClassId) (aC : Nat → Nat) (aJ : Nat → Nat) (tc tl : Nat → Int32) (mi eb hd : Int32) (hs : Nat → Int32) (ig ct : Int32) (aS : Nat → Nat) (kp ea la ns ne ts te da de eo dn io : Nat → Int32) (aP : Nat → Nat) (E : Nat) (vs dp : Nat → Int32) (B : Nat) (sz cd : Nat → Nat) (M : Nat) (fr tt : Nat → Nat) (f1 f2 : Nat → Int32) (cg : Int32) (b k : Int32) (hB : B ≤ 40) (hb : b < 0 ∨ nI B ≤ b) : ctX l yX3_assign wsX3_assign (rmD 7 1 6) sa D [(cI, .int)] [.ref (aC 0), .int b, .int k] (WC (aC 0) (aP 0) (aS 0) (aJ 0) ++ (WJ cI aJ (aP 0) tc tl mi eb hd hs ig ct ++ (WS cI aS (aP 0) kp ea la ns ne ts te da de eo dn io ++ (WP cI aP E vs dp B sz cd M fr tt f1 f2 cg)))) (WC (aC 0) (aP 0) (aS 0) (aJ 0) ++ (WJ cI aJ (aP 0) tc tl mi eb hd hs ig ct ++ (WS cI aS (aP 0) kp ea la ns ne ts te da de eo dn io ++ (WP cI aP E vs dp B sz cd M fr tt f1 f2 cg)))) exI 1 6 := by
  refine ctX_of (by decide) rfl (Nat.le_of_ble_eq_true rfl) ?_
  intro p e s m args below meth c C hnt hE9
  refine y_lv (lv' := [(0, .ref (aC 0)), (1, .int b), (2, .int k)]) rfl ?_
  refine y_aload_n C 0 dX3_assign_0 rfl rfl ?_
  refine y_iload_n C 1 dX3_assign_1 rfl rfl ?_
  exact y_callX C hE9 hnt (wr := []) 1 (c_X3_requireBlock_bad l hfl sa D cI aC aJ tc tl mi eb hd hs ig ct aS kp ea la ns ne ts te da de eo dn io aP E vs dp B sz cd M fr tt f1 f2 cg b hB hb) gX3_assign_X3_requireBlock rfl rfl rfl (by decide +kernel) ⟨Nat.le_of_ble_eq_true rfl, Nat.le_of_ble_eq_true rfl⟩ (q0 := 0) (ci := 3) rfl rfl rfl rfl rfl (Nat.le_of_ble_eq_true rfl) dX3_assign_2 ⟨Nat.le_of_ble_eq_true rfl, Nat.le_of_ble_eq_true rfl⟩ rfl ⟨Nat.le_of_ble_eq_true rfl, Nat.le_of_ble_eq_true rfl⟩
set_option maxHeartbeats 4000000 in
set_option maxRecDepth 100000 in
theorem c_X3_assign_badk (l : Launch) (hfl : l.stackTraces = false) (sa : Nat → Nat) (D : va_G) (cI : ClassId) (aC : Nat → Nat) (aJ : Nat → Nat) (tc tl : Nat → Int32) (mi eb hd : Int32) (hs : Nat → Int32) (ig ct : Int32) (aS : Nat → Nat) (kp ea la ns ne ts te da de eo dn io : Nat → Int32) (aP : Nat → Nat) (E : Nat) (vs dp : Nat → Int32) (B : Nat) (sz cd : Nat → Nat) (M : Nat) (fr tt : Nat → Nat) (f1 f2 : Nat → Int32) (cg : Int32) (b : Nat) (k : Int32) (hB : B ≤ 40) (hb : b < B) (hk : k < 0 ∨ nI 6 ≤ k) : ctX l yX3_assign wsX3_assign (rmD 7 1 6) sa D [(cI, .int)] [.ref (aC 0), .int (nI b), .int k] (WC (aC 0) (aP 0) (aS 0) (aJ 0) ++ (WJ cI aJ (aP 0) tc tl mi eb hd hs ig ct ++ (WS cI aS (aP 0) kp ea la ns ne ts te da de eo dn io ++ (WP cI aP E vs dp B sz cd M fr tt f1 f2 cg)))) (WC (aC 0) (aP 0) (aS 0) (aJ 0) ++ (WJ cI aJ (aP 0) tc tl mi eb hd hs ig ct ++ (WS cI aS (aP 0) kp ea la ns ne ts te da de eo dn io ++ (WP cI aP E vs dp B sz cd M fr tt f1 f2 cg)))) exI 1 6 := by
  refine ctX_of (by decide) rfl (Nat.le_of_ble_eq_true rfl) ?_
  intro p e s m args below meth c C hnt hE9
  refine y_lv (lv' := [(0, .ref (aC 0)), (1, .int (nI b)), (2, .int k)]) rfl ?_
  refine y_aload_n C 0 dX3_assign_0 rfl rfl ?_
  refine y_iload_n C 1 dX3_assign_1 rfl rfl ?_
  refine y_callV C (wr := []) 1 (c_X3_requireBlock_ok l D cI aC aJ tc tl mi eb hd hs ig ct aS kp ea la ns ne ts te da de eo dn io aP E vs dp B sz cd M fr tt f1 f2 cg b hB hb) gX3_assign_X3_requireBlock rfl rfl rfl (by decide +kernel) ⟨Nat.le_of_ble_eq_true rfl, Nat.le_of_ble_eq_true rfl⟩ (q0 := 0) (ci := 3) rfl rfl rfl rfl rfl (Nat.le_of_ble_eq_true rfl) dX3_assign_2 ⟨Nat.le_of_ble_eq_true rfl, Nat.le_of_ble_eq_true rfl⟩ ?_
  refine y_ws (ws' := WC (aC 0) (aP 0) (aS 0) (aJ 0) ++ (WJ cI aJ (aP 0) tc tl mi eb hd hs ig ct ++ (WS cI aS (aP 0) kp ea la ns ne ts te da de eo dn io ++ (WP cI aP E vs dp B sz cd M fr tt f1 f2 cg)))) rfl ?_
  refine y_iload_n C 2 dX3_assign_5 rfl rfl ?_
  refine y_if_lt C (tgt := 15) dX3_assign_6 (by decide)  (fun h6 => ?_) (fun h6 => ?_)
  · skip
    exact y_throw C hfl hE9 hnt (by decide +kernel) (List.mem_of_getElem? (i := 1) rfl) (List.mem_of_getElem? (i := 2) rfl) (List.mem_of_getElem? (i := 7) rfl) (fun _ h => List.mem_cons_of_mem _ (List.mem_append_left _ (List.mem_append_right _ h))) xg_I xo_I dX3_assign_15 dX3_assign_18 dX3_assign_19 dX3_assign_21 dX3_assign_24 ⟨Nat.le_of_ble_eq_true rfl, Nat.le_of_ble_eq_true rfl⟩ ⟨Nat.le_of_ble_eq_true rfl, Nat.le_of_ble_eq_true rfl⟩ ⟨Nat.le_of_ble_eq_true rfl, Nat.le_of_ble_eq_true rfl⟩ (rfl)
  · skip
    refine y_iload_n C 2 dX3_assign_9 rfl rfl ?_
    refine y_bipush C (v := nI 6) dX3_assign_10 (by decide) ?_
    refine y_icmp_lt C (tgt := 25) dX3_assign_12 (by decide)  (fun h12 => ?_) (fun h12 => ?_)
    · skip
      exact absurd hk (fun q => q.elim h6 (fun z => yi_nle h12 z))
    · skip
      exact y_throw C hfl hE9 hnt (by decide +kernel) (List.mem_of_getElem? (i := 1) rfl) (List.mem_of_getElem? (i := 2) rfl) (List.mem_of_getElem? (i := 7) rfl) (fun _ h => List.mem_cons_of_mem _ (List.mem_append_left _ (List.mem_append_right _ h))) xg_I xo_I dX3_assign_15 dX3_assign_18 dX3_assign_19 dX3_assign_21 dX3_assign_24 ⟨Nat.le_of_ble_eq_true rfl, Nat.le_of_ble_eq_true rfl⟩ ⟨Nat.le_of_ble_eq_true rfl, Nat.le_of_ble_eq_true rfl⟩ ⟨Nat.le_of_ble_eq_true rfl, Nat.le_of_ble_eq_true rfl⟩ (rfl)
theorem in_X3_drop_1 : ∀ w ∈ wsX10, w ∈ wsX3_drop := fun _ h => List.mem_cons_of_mem _ (List.mem_append_left _ (List.mem_append_left _ (List.mem_append_right _ h)))
theorem in_X3_drop_3 : ∀ w ∈ wsX30, w ∈ wsX3_drop := fun _ h => List.mem_cons_of_mem _ (List.mem_append_left _ (List.mem_append_left _ (List.mem_append_left _ (List.mem_append_right _ h))))
set_option maxHeartbeats 4000000 in
set_option maxRecDepth 100000 in
theorem c_X3_drop_ok (l : Launch) (D : va_G) (cI : ClassId) (aC : Nat → Nat) (aJ : Nat → Nat) (tc tl : Nat → Int32) (mi eb hd : Int32) (hs : Nat → Int32) (ig ct : Int32) (aS : Nat → Nat) (kp ea la ns ne ts te da de eo dn io : Nat → Int32) (aP : Nat → Nat) (E : Nat) (vs dp : Nat → Int32) (B : Nat) (sz cd : Nat → Nat) (M : Nat) (fr tt : Nat → Nat) (f1 f2 : Nat → Int32) (cg : Int32) (b : Nat) (hB : B ≤ 40) (hsz : ∀ j, sz j ≤ 12) (hb : b < B) (hz : sz b ≠ 0) : ctI l yX3_drop wsX3_drop (rmD 1 0 0) D [(cI, .int)] [.ref (aC 0), .int (nI b)] (WC (aC 0) (aP 0) (aS 0) (aJ 0) ++ (WJ cI aJ (aP 0) tc tl mi eb hd hs ig ct ++ (WS cI aS (aP 0) kp ea la ns ne ts te da de eo dn io ++ (WP cI aP E vs dp B sz cd M fr tt f1 f2 cg)))) (WC (aC 0) (aP 0) (aS 0) (aJ 0) ++ (WJ cI aJ (aP 0) tc tl mi eb hd hs ig ct ++ (WS cI aS (aP 0) kp ea la ns ne ts te da de eo dn io ++ (WP cI aP E vs dp B (upN sz b (sz b - 1)) cd M fr tt f1 f2 (nI 1))))) (nI (sz b - 1)) 0 0 := by
  refine ctI_of (by decide) rfl (Nat.le_of_ble_eq_true rfl) ?_
  intro p e s m args below meth c A Q C hnm K
  refine y_lv (lv' := [(0, .ref (aC 0)), (1, .int (nI b))]) rfl ?_
  refine y_aload_n C 0 dX3_drop_0 rfl rfl ?_
  refine y_iload_n C 1 dX3_drop_1 rfl rfl ?_
  refine y_callV C (wr := []) 1 (c_X3_requireBlock_ok l D cI aC aJ tc tl mi eb hd hs ig ct aS kp ea la ns ne ts te da de eo dn io aP E vs dp B sz cd M fr tt f1 f2 cg b hB hb) gX3_drop_X3_requireBlock rfl rfl rfl (by decide +kernel) ⟨Nat.le_of_ble_eq_true rfl, Nat.le_of_ble_eq_true rfl⟩ (q0 := 0) (ci := 3) rfl rfl rfl rfl rfl (Nat.le_of_ble_eq_true rfl) dX3_drop_2 ⟨Nat.le_of_ble_eq_true rfl, Nat.le_of_ble_eq_true rfl⟩ ?_
  refine y_ws (ws' := WC (aC 0) (aP 0) (aS 0) (aJ 0) ++ (WJ cI aJ (aP 0) tc tl mi eb hd hs ig ct ++ (WS cI aS (aP 0) kp ea la ns ne ts te da de eo dn io ++ (WP cI aP E vs dp B sz cd M fr tt f1 f2 cg)))) rfl ?_
  refine y_aload_n C 0 dX3_drop_5 rfl rfl ?_
  refine y_get C in_X3_drop_3 (ci := 3) rfl 0 (by decide) (List.mem_of_getElem? (i := 3) rfl) 0 rfl rfl dX3_drop_6 ?_
  refine y_get C in_X3_drop_1 (ci := 1) rfl 4 (by decide) (List.mem_of_getElem? (i := 4) rfl) 18 rfl rfl dX3_drop_9 ?_
  refine y_iload_n C 1 dX3_drop_12 rfl rfl ?_
  refine y_ialdA C (q0 := 21) (t0 := 0) rfl rfl (by decide) (by omega) dX3_drop_13 ?_
  refine y_ifN_ne C (tgt := 27) dX3_drop_14 (by decide) (by have := hsz b; omega) (fun h14 => ?_) (fun h14 => ?_)
  · skip
    refine y_aload_n C 0 dX3_drop_27 rfl rfl ?_
    refine y_get C in_X3_drop_3 (ci := 3) rfl 0 (by decide) (List.mem_of_getElem? (i := 3) rfl) 0 rfl rfl dX3_drop_28 ?_
    refine y_iload_n C 1 dX3_drop_31 rfl rfl ?_
    refine y_callI C (wr := WC (aC 0) (aP 0) (aS 0) (aJ 0) ++ WJ cI aJ (aP 0) tc tl mi eb hd hs ig ct ++ WS cI aS (aP 0) kp ea la ns ne ts te da de eo dn io) 1 (c_X1_removeLast l D cI aP E vs dp B sz cd M fr tt f1 f2 cg b hsz (by omega) (by omega)) gX3_drop_X1_removeLast rfl rfl rfl (by decide +kernel) ⟨Nat.le_of_ble_eq_true rfl, Nat.le_of_ble_eq_true rfl⟩ (q0 := 0) (ci := 1) rfl rfl (by simp only [List.append_assoc]) rfl rfl (Nat.le_of_ble_eq_true rfl) dX3_drop_32 ⟨Nat.le_of_ble_eq_true rfl, Nat.le_of_ble_eq_true rfl⟩ ?_
    refine y_ws (ws' := WC (aC 0) (aP 0) (aS 0) (aJ 0) ++ (WJ cI aJ (aP 0) tc tl mi eb hd hs ig ct ++ (WS cI aS (aP 0) kp ea la ns ne ts te da de eo dn io ++ (WP cI aP E vs dp B (upN sz b (sz b - 1)) cd M fr tt f1 f2 (nI 1))))) (by simp only [List.append_assoc]) ?_
    exact K _ _ _ _ _ dX3_drop_35 (rfl) (by decide) (by decide)
  · skip
    exact absurd h14 hz
set_option maxHeartbeats 4000000 in
set_option maxRecDepth 100000 in
theorem c_X3_drop_empty (l : Launch) (hfl : l.stackTraces = false) (sa : Nat → Nat) (D : va_G) (cI : ClassId) (aC : Nat → Nat) (aJ : Nat → Nat) (tc tl : Nat → Int32) (mi eb hd : Int32) (hs : Nat → Int32) (ig ct : Int32) (aS : Nat → Nat) (kp ea la ns ne ts te da de eo dn io : Nat → Int32) (aP : Nat → Nat) (E : Nat) (vs dp : Nat → Int32) (B : Nat) (sz cd : Nat → Nat) (M : Nat) (fr tt : Nat → Nat) (f1 f2 : Nat → Int32) (cg : Int32) (b : Nat) (hB : B ≤ 40) (hsz : ∀ j, sz j ≤ 12) (hb : b < B) (hz : sz b = 0) : ctX l yX3_drop wsX3_drop (rmD 7 1 6) sa D [(cI, .int)] [.ref (aC 0), .int (nI b)] (WC (aC 0) (aP 0) (aS 0) (aJ 0) ++ (WJ cI aJ (aP 0) tc tl mi eb hd hs ig ct ++ (WS cI aS (aP 0) kp ea la ns ne ts te da de eo dn io ++ (WP cI aP E vs dp B sz cd M fr tt f1 f2 cg)))) (WC (aC 0) (aP 0) (aS 0) (aJ 0) ++ (WJ cI aJ (aP 0) tc tl mi eb hd hs ig ct ++ (WS cI aS (aP 0) kp ea la ns ne ts te da de eo dn io ++ (WP cI aP E vs dp B sz cd M fr tt f1 f2 cg)))) exS 1 6 := by
  refine ctX_of (by decide) rfl (Nat.le_of_ble_eq_true rfl) ?_
  intro p e s m args below meth c C hnt hE9
  refine y_lv (lv' := [(0, .ref (aC 0)), (1, .int (nI b))]) rfl ?_
  refine y_aload_n C 0 dX3_drop_0 rfl rfl ?_
  refine y_iload_n C 1 dX3_drop_1 rfl rfl ?_
  refine y_callV C (wr := []) 1 (c_X3_requireBlock_ok l D cI aC aJ tc tl mi eb hd hs ig ct aS kp ea la ns ne ts te da de eo dn io aP E vs dp B sz cd M fr tt f1 f2 cg b hB hb) gX3_drop_X3_requireBlock rfl rfl rfl (by decide +kernel) ⟨Nat.le_of_ble_eq_true rfl, Nat.le_of_ble_eq_true rfl⟩ (q0 := 0) (ci := 3) rfl rfl rfl rfl rfl (Nat.le_of_ble_eq_true rfl) dX3_drop_2 ⟨Nat.le_of_ble_eq_true rfl, Nat.le_of_ble_eq_true rfl⟩ ?_
  refine y_ws (ws' := WC (aC 0) (aP 0) (aS 0) (aJ 0) ++ (WJ cI aJ (aP 0) tc tl mi eb hd hs ig ct ++ (WS cI aS (aP 0) kp ea la ns ne ts te da de eo dn io ++ (WP cI aP E vs dp B sz cd M fr tt f1 f2 cg)))) rfl ?_
  refine y_aload_n C 0 dX3_drop_5 rfl rfl ?_
  refine y_get C in_X3_drop_3 (ci := 3) rfl 0 (by decide) (List.mem_of_getElem? (i := 3) rfl) 0 rfl rfl dX3_drop_6 ?_
  refine y_get C in_X3_drop_1 (ci := 1) rfl 4 (by decide) (List.mem_of_getElem? (i := 4) rfl) 18 rfl rfl dX3_drop_9 ?_
  refine y_iload_n C 1 dX3_drop_12 rfl rfl ?_
  refine y_ialdA C (q0 := 21) (t0 := 0) rfl rfl (by decide) (by omega) dX3_drop_13 ?_
  refine y_ifN_ne C (tgt := 27) dX3_drop_14 (by decide) (by have := hsz b; omega) (fun h14 => ?_) (fun h14 => ?_)
  · skip
    exact absurd hz h14
  · skip
    exact y_throw C hfl hE9 hnt (by decide +kernel) (List.mem_of_getElem? (i := 1) rfl) (List.mem_of_getElem? (i := 2) rfl) (List.mem_of_getElem? (i := 8) rfl) (fun _ h => List.mem_cons_of_mem _ (List.mem_append_left _ (List.mem_append_right _ h))) xg_S xo_S dX3_drop_17 dX3_drop_20 dX3_drop_21 dX3_drop_23 dX3_drop_26 ⟨Nat.le_of_ble_eq_true rfl, Nat.le_of_ble_eq_true rfl⟩ ⟨Nat.le_of_ble_eq_true rfl, Nat.le_of_ble_eq_true rfl⟩ ⟨Nat.le_of_ble_eq_true rfl, Nat.le_of_ble_eq_true rfl⟩ (rfl)
set_option maxHeartbeats 4000000 in
set_option maxRecDepth 100000 in
theorem c_X3_drop_bad (l : Launch) (hfl : l.stackTraces = false) (sa : Nat → Nat) (D : va_G) (cI : ClassId) (aC : Nat → Nat) (aJ : Nat → Nat) (tc tl : Nat → Int32) (mi eb hd : Int32) (hs : Nat → Int32) (ig ct : Int32) (aS : Nat → Nat) (kp ea la ns ne ts te da de eo dn io : Nat → Int32) (aP : Nat → Nat) (E : Nat) (vs dp : Nat → Int32) (B : Nat) (sz cd : Nat → Nat) (M : Nat) (fr tt : Nat → Nat) (f1 f2 : Nat → Int32) (cg : Int32) (b : Int32) (hB : B ≤ 40) (hb : b < 0 ∨ nI B ≤ b) : ctX l yX3_drop wsX3_drop (rmD 7 1 6) sa D [(cI, .int)] [.ref (aC 0), .int b] (WC (aC 0) (aP 0) (aS 0) (aJ 0) ++ (WJ cI aJ (aP 0) tc tl mi eb hd hs ig ct ++ (WS cI aS (aP 0) kp ea la ns ne ts te da de eo dn io ++ (WP cI aP E vs dp B sz cd M fr tt f1 f2 cg)))) (WC (aC 0) (aP 0) (aS 0) (aJ 0) ++ (WJ cI aJ (aP 0) tc tl mi eb hd hs ig ct ++ (WS cI aS (aP 0) kp ea la ns ne ts te da de eo dn io ++ (WP cI aP E vs dp B sz cd M fr tt f1 f2 cg)))) exI 1 6 := by
  refine ctX_of (by decide) rfl (Nat.le_of_ble_eq_true rfl) ?_
  intro p e s m args below meth c C hnt hE9
  refine y_lv (lv' := [(0, .ref (aC 0)), (1, .int b)]) rfl ?_
  refine y_aload_n C 0 dX3_drop_0 rfl rfl ?_
  refine y_iload_n C 1 dX3_drop_1 rfl rfl ?_
  exact y_callX C hE9 hnt (wr := []) 1 (c_X3_requireBlock_bad l hfl sa D cI aC aJ tc tl mi eb hd hs ig ct aS kp ea la ns ne ts te da de eo dn io aP E vs dp B sz cd M fr tt f1 f2 cg b hB hb) gX3_drop_X3_requireBlock rfl rfl rfl (by decide +kernel) ⟨Nat.le_of_ble_eq_true rfl, Nat.le_of_ble_eq_true rfl⟩ (q0 := 0) (ci := 3) rfl rfl rfl rfl rfl (Nat.le_of_ble_eq_true rfl) dX3_drop_2 ⟨Nat.le_of_ble_eq_true rfl, Nat.le_of_ble_eq_true rfl⟩ rfl ⟨Nat.le_of_ble_eq_true rfl, Nat.le_of_ble_eq_true rfl⟩
theorem in_X3_size_1 : ∀ w ∈ wsX10, w ∈ wsX3_size := fun _ h => List.mem_cons_of_mem _ (List.mem_append_left _ (List.mem_append_right _ h))
theorem in_X3_size_3 : ∀ w ∈ wsX30, w ∈ wsX3_size := fun _ h => List.mem_cons_of_mem _ (List.mem_append_left _ (List.mem_append_left _ (List.mem_append_right _ h)))
set_option maxHeartbeats 4000000 in
set_option maxRecDepth 100000 in
theorem c_X3_size_bad (l : Launch) (hfl : l.stackTraces = false) (sa : Nat → Nat) (D : va_G) (cI : ClassId) (aC : Nat → Nat) (aJ : Nat → Nat) (tc tl : Nat → Int32) (mi eb hd : Int32) (hs : Nat → Int32) (ig ct : Int32) (aS : Nat → Nat) (kp ea la ns ne ts te da de eo dn io : Nat → Int32) (aP : Nat → Nat) (E : Nat) (vs dp : Nat → Int32) (B : Nat) (sz cd : Nat → Nat) (M : Nat) (fr tt : Nat → Nat) (f1 f2 : Nat → Int32) (cg : Int32) (b : Int32) (hB : B ≤ 40) (hb : b < 0 ∨ nI B ≤ b) : ctX l yX3_size wsX3_size (rmD 7 1 6) sa D [(cI, .int)] [.ref (aC 0), .int b] (WC (aC 0) (aP 0) (aS 0) (aJ 0) ++ (WJ cI aJ (aP 0) tc tl mi eb hd hs ig ct ++ (WS cI aS (aP 0) kp ea la ns ne ts te da de eo dn io ++ (WP cI aP E vs dp B sz cd M fr tt f1 f2 cg)))) (WC (aC 0) (aP 0) (aS 0) (aJ 0) ++ (WJ cI aJ (aP 0) tc tl mi eb hd hs ig ct ++ (WS cI aS (aP 0) kp ea la ns ne ts te da de eo dn io ++ (WP cI aP E vs dp B sz cd M fr tt f1 f2 cg)))) exI 1 6 := by
  refine ctX_of (by decide) rfl (Nat.le_of_ble_eq_true rfl) ?_
  intro p e s m args below meth c C hnt hE9
  refine y_lv (lv' := [(0, .ref (aC 0)), (1, .int b)]) rfl ?_
  refine y_aload_n C 0 dX3_size_0 rfl rfl ?_
  refine y_iload_n C 1 dX3_size_1 rfl rfl ?_
  exact y_callX C hE9 hnt (wr := []) 1 (c_X3_requireBlock_bad l hfl sa D cI aC aJ tc tl mi eb hd hs ig ct aS kp ea la ns ne ts te da de eo dn io aP E vs dp B sz cd M fr tt f1 f2 cg b hB hb) gX3_size_X3_requireBlock rfl rfl rfl (by decide +kernel) ⟨Nat.le_of_ble_eq_true rfl, Nat.le_of_ble_eq_true rfl⟩ (q0 := 0) (ci := 3) rfl rfl rfl rfl rfl (Nat.le_of_ble_eq_true rfl) dX3_size_2 ⟨Nat.le_of_ble_eq_true rfl, Nat.le_of_ble_eq_true rfl⟩ rfl ⟨Nat.le_of_ble_eq_true rfl, Nat.le_of_ble_eq_true rfl⟩
theorem in_X3_kept_1 : ∀ w ∈ wsX10, w ∈ wsX3_kept := fun _ h => List.mem_cons_of_mem _ (List.mem_append_left _ (List.mem_append_right _ h))
theorem in_X3_kept_2 : ∀ w ∈ wsX20, w ∈ wsX3_kept := fun _ h => List.mem_cons_of_mem _ (List.mem_append_left _ (List.mem_append_left _ (List.mem_append_right _ h)))
theorem in_X3_kept_3 : ∀ w ∈ wsX30, w ∈ wsX3_kept := fun _ h => List.mem_cons_of_mem _ (List.mem_append_left _ (List.mem_append_left _ (List.mem_append_left _ (List.mem_append_right _ h))))
set_option maxHeartbeats 4000000 in
set_option maxRecDepth 100000 in
theorem c_X3_kept_bad (l : Launch) (hfl : l.stackTraces = false) (sa : Nat → Nat) (D : va_G) (cI : ClassId) (aC : Nat → Nat) (aJ : Nat → Nat) (tc tl : Nat → Int32) (mi eb hd : Int32) (hs : Nat → Int32) (ig ct : Int32) (aS : Nat → Nat) (kp ea la ns ne ts te da de eo dn io : Nat → Int32) (aP : Nat → Nat) (E : Nat) (vs dp : Nat → Int32) (B : Nat) (sz cd : Nat → Nat) (M : Nat) (fr tt : Nat → Nat) (f1 f2 : Nat → Int32) (cg : Int32) (b : Int32) (hB : B ≤ 40) (hb : b < 0 ∨ nI B ≤ b) : ctX l yX3_kept wsX3_kept (rmD 7 1 6) sa D [(cI, .int)] [.ref (aC 0), .int b] (WC (aC 0) (aP 0) (aS 0) (aJ 0) ++ (WJ cI aJ (aP 0) tc tl mi eb hd hs ig ct ++ (WS cI aS (aP 0) kp ea la ns ne ts te da de eo dn io ++ (WP cI aP E vs dp B sz cd M fr tt f1 f2 cg)))) (WC (aC 0) (aP 0) (aS 0) (aJ 0) ++ (WJ cI aJ (aP 0) tc tl mi eb hd hs ig ct ++ (WS cI aS (aP 0) kp ea la ns ne ts te da de eo dn io ++ (WP cI aP E vs dp B sz cd M fr tt f1 f2 cg)))) exI 1 6 := by
  refine ctX_of (by decide) rfl (Nat.le_of_ble_eq_true rfl) ?_
  intro p e s m args below meth c C hnt hE9
  refine y_lv (lv' := [(0, .ref (aC 0)), (1, .int b)]) rfl ?_
  refine y_aload_n C 0 dX3_kept_0 rfl rfl ?_
  refine y_iload_n C 1 dX3_kept_1 rfl rfl ?_
  exact y_callX C hE9 hnt (wr := []) 1 (c_X3_requireBlock_bad l hfl sa D cI aC aJ tc tl mi eb hd hs ig ct aS kp ea la ns ne ts te da de eo dn io aP E vs dp B sz cd M fr tt f1 f2 cg b hB hb) gX3_kept_X3_requireBlock rfl rfl rfl (by decide +kernel) ⟨Nat.le_of_ble_eq_true rfl, Nat.le_of_ble_eq_true rfl⟩ (q0 := 0) (ci := 3) rfl rfl rfl rfl rfl (Nat.le_of_ble_eq_true rfl) dX3_kept_2 ⟨Nat.le_of_ble_eq_true rfl, Nat.le_of_ble_eq_true rfl⟩ rfl ⟨Nat.le_of_ble_eq_true rfl, Nat.le_of_ble_eq_true rfl⟩
theorem in_X3_early_1 : ∀ w ∈ wsX10, w ∈ wsX3_early := fun _ h => List.mem_cons_of_mem _ (List.mem_append_left _ (List.mem_append_right _ h))
theorem in_X3_early_2 : ∀ w ∈ wsX20, w ∈ wsX3_early := fun _ h => List.mem_cons_of_mem _ (List.mem_append_left _ (List.mem_append_left _ (List.mem_append_right _ h)))
theorem in_X3_early_3 : ∀ w ∈ wsX30, w ∈ wsX3_early := fun _ h => List.mem_cons_of_mem _ (List.mem_append_left _ (List.mem_append_left _ (List.mem_append_left _ (List.mem_append_right _ h))))
set_option maxHeartbeats 4000000 in
set_option maxRecDepth 100000 in
theorem c_X3_early_bad (l : Launch) (hfl : l.stackTraces = false) (sa : Nat → Nat) (D : va_G) (cI : ClassId) (aC : Nat → Nat) (aJ : Nat → Nat) (tc tl : Nat → Int32) (mi eb hd : Int32) (hs : Nat → Int32) (ig ct : Int32) (aS : Nat → Nat) (kp ea la ns ne ts te da de eo dn io : Nat → Int32) (aP : Nat → Nat) (E : Nat) (vs dp : Nat → Int32) (B : Nat) (sz cd : Nat → Nat) (M : Nat) (fr tt : Nat → Nat) (f1 f2 : Nat → Int32) (cg : Int32) (b : Int32) (hB : B ≤ 40) (hb : b < 0 ∨ nI B ≤ b) : ctX l yX3_early wsX3_early (rmD 7 1 6) sa D [(cI, .int)] [.ref (aC 0), .int b] (WC (aC 0) (aP 0) (aS 0) (aJ 0) ++ (WJ cI aJ (aP 0) tc tl mi eb hd hs ig ct ++ (WS cI aS (aP 0) kp ea la ns ne ts te da de eo dn io ++ (WP cI aP E vs dp B sz cd M fr tt f1 f2 cg)))) (WC (aC 0) (aP 0) (aS 0) (aJ 0) ++ (WJ cI aJ (aP 0) tc tl mi eb hd hs ig ct ++ (WS cI aS (aP 0) kp ea la ns ne ts te da de eo dn io ++ (WP cI aP E vs dp B sz cd M fr tt f1 f2 cg)))) exI 1 6 := by
  refine ctX_of (by decide) rfl (Nat.le_of_ble_eq_true rfl) ?_
  intro p e s m args below meth c C hnt hE9
  refine y_lv (lv' := [(0, .ref (aC 0)), (1, .int b)]) rfl ?_
  refine y_aload_n C 0 dX3_early_0 rfl rfl ?_
  refine y_iload_n C 1 dX3_early_1 rfl rfl ?_
  exact y_callX C hE9 hnt (wr := []) 1 (c_X3_requireBlock_bad l hfl sa D cI aC aJ tc tl mi eb hd hs ig ct aS kp ea la ns ne ts te da de eo dn io aP E vs dp B sz cd M fr tt f1 f2 cg b hB hb) gX3_early_X3_requireBlock rfl rfl rfl (by decide +kernel) ⟨Nat.le_of_ble_eq_true rfl, Nat.le_of_ble_eq_true rfl⟩ (q0 := 0) (ci := 3) rfl rfl rfl rfl rfl (Nat.le_of_ble_eq_true rfl) dX3_early_2 ⟨Nat.le_of_ble_eq_true rfl, Nat.le_of_ble_eq_true rfl⟩ rfl ⟨Nat.le_of_ble_eq_true rfl, Nat.le_of_ble_eq_true rfl⟩
theorem in_X3_late_1 : ∀ w ∈ wsX10, w ∈ wsX3_late := fun _ h => List.mem_cons_of_mem _ (List.mem_append_left _ (List.mem_append_right _ h))
theorem in_X3_late_2 : ∀ w ∈ wsX20, w ∈ wsX3_late := fun _ h => List.mem_cons_of_mem _ (List.mem_append_left _ (List.mem_append_left _ (List.mem_append_right _ h)))
theorem in_X3_late_3 : ∀ w ∈ wsX30, w ∈ wsX3_late := fun _ h => List.mem_cons_of_mem _ (List.mem_append_left _ (List.mem_append_left _ (List.mem_append_left _ (List.mem_append_right _ h))))
set_option maxHeartbeats 4000000 in
set_option maxRecDepth 100000 in
theorem c_X3_late_bad (l : Launch) (hfl : l.stackTraces = false) (sa : Nat → Nat) (D : va_G) (cI : ClassId) (aC : Nat → Nat) (aJ : Nat → Nat) (tc tl : Nat → Int32) (mi eb hd : Int32) (hs : Nat → Int32) (ig ct : Int32) (aS : Nat → Nat) (kp ea la ns ne ts te da de eo dn io : Nat → Int32) (aP : Nat → Nat) (E : Nat) (vs dp : Nat → Int32) (B : Nat) (sz cd : Nat → Nat) (M : Nat) (fr tt : Nat → Nat) (f1 f2 : Nat → Int32) (cg : Int32) (b : Int32) (hB : B ≤ 40) (hb : b < 0 ∨ nI B ≤ b) : ctX l yX3_late wsX3_late (rmD 7 1 6) sa D [(cI, .int)] [.ref (aC 0), .int b] (WC (aC 0) (aP 0) (aS 0) (aJ 0) ++ (WJ cI aJ (aP 0) tc tl mi eb hd hs ig ct ++ (WS cI aS (aP 0) kp ea la ns ne ts te da de eo dn io ++ (WP cI aP E vs dp B sz cd M fr tt f1 f2 cg)))) (WC (aC 0) (aP 0) (aS 0) (aJ 0) ++ (WJ cI aJ (aP 0) tc tl mi eb hd hs ig ct ++ (WS cI aS (aP 0) kp ea la ns ne ts te da de eo dn io ++ (WP cI aP E vs dp B sz cd M fr tt f1 f2 cg)))) exI 1 6 := by
  refine ctX_of (by decide) rfl (Nat.le_of_ble_eq_true rfl) ?_
  intro p e s m args below meth c C hnt hE9
  refine y_lv (lv' := [(0, .ref (aC 0)), (1, .int b)]) rfl ?_
  refine y_aload_n C 0 dX3_late_0 rfl rfl ?_
  refine y_iload_n C 1 dX3_late_1 rfl rfl ?_
  exact y_callX C hE9 hnt (wr := []) 1 (c_X3_requireBlock_bad l hfl sa D cI aC aJ tc tl mi eb hd hs ig ct aS kp ea la ns ne ts te da de eo dn io aP E vs dp B sz cd M fr tt f1 f2 cg b hB hb) gX3_late_X3_requireBlock rfl rfl rfl (by decide +kernel) ⟨Nat.le_of_ble_eq_true rfl, Nat.le_of_ble_eq_true rfl⟩ (q0 := 0) (ci := 3) rfl rfl rfl rfl rfl (Nat.le_of_ble_eq_true rfl) dX3_late_2 ⟨Nat.le_of_ble_eq_true rfl, Nat.le_of_ble_eq_true rfl⟩ rfl ⟨Nat.le_of_ble_eq_true rfl, Nat.le_of_ble_eq_true rfl⟩
theorem in_X3_delayedAt_1 : ∀ w ∈ wsX10, w ∈ wsX3_delayedAt := fun _ h => List.mem_cons_of_mem _ (List.mem_append_left _ (List.mem_append_right _ h))
theorem in_X3_delayedAt_2 : ∀ w ∈ wsX20, w ∈ wsX3_delayedAt := fun _ h => List.mem_cons_of_mem _ (List.mem_append_left _ (List.mem_append_left _ (List.mem_append_right _ h)))
theorem in_X3_delayedAt_3 : ∀ w ∈ wsX30, w ∈ wsX3_delayedAt := fun _ h => List.mem_cons_of_mem _ (List.mem_append_left _ (List.mem_append_left _ (List.mem_append_left _ (List.mem_append_right _ h))))
set_option maxHeartbeats 4000000 in
set_option maxRecDepth 100000 in
theorem c_X3_delayedAt_bad (l : Launch) (hfl : l.stackTraces = false) (sa : Nat → Nat) (D : va_G) (cI : ClassId) (aC : Nat → Nat) (aJ : Nat → Nat) (tc tl : Nat → Int32) (mi eb hd : Int32) (hs : Nat → Int32) (ig ct : Int32) (aS : Nat → Nat) (kp ea la ns ne ts te da de eo dn io : Nat → Int32) (aP : Nat → Nat) (E : Nat) (vs dp : Nat → Int32) (B : Nat) (sz cd : Nat → Nat) (M : Nat) (fr tt : Nat → Nat) (f1 f2 : Nat → Int32) (cg : Int32) (b : Int32) (hB : B ≤ 40) (hb : b < 0 ∨ nI B ≤ b) : ctX l yX3_delayedAt wsX3_delayedAt (rmD 7 1 6) sa D [(cI, .int)] [.ref (aC 0), .int b] (WC (aC 0) (aP 0) (aS 0) (aJ 0) ++ (WJ cI aJ (aP 0) tc tl mi eb hd hs ig ct ++ (WS cI aS (aP 0) kp ea la ns ne ts te da de eo dn io ++ (WP cI aP E vs dp B sz cd M fr tt f1 f2 cg)))) (WC (aC 0) (aP 0) (aS 0) (aJ 0) ++ (WJ cI aJ (aP 0) tc tl mi eb hd hs ig ct ++ (WS cI aS (aP 0) kp ea la ns ne ts te da de eo dn io ++ (WP cI aP E vs dp B sz cd M fr tt f1 f2 cg)))) exI 1 6 := by
  refine ctX_of (by decide) rfl (Nat.le_of_ble_eq_true rfl) ?_
  intro p e s m args below meth c C hnt hE9
  refine y_lv (lv' := [(0, .ref (aC 0)), (1, .int b)]) rfl ?_
  refine y_aload_n C 0 dX3_delayedAt_0 rfl rfl ?_
  refine y_iload_n C 1 dX3_delayedAt_1 rfl rfl ?_
  exact y_callX C hE9 hnt (wr := []) 1 (c_X3_requireBlock_bad l hfl sa D cI aC aJ tc tl mi eb hd hs ig ct aS kp ea la ns ne ts te da de eo dn io aP E vs dp B sz cd M fr tt f1 f2 cg b hB hb) gX3_delayedAt_X3_requireBlock rfl rfl rfl (by decide +kernel) ⟨Nat.le_of_ble_eq_true rfl, Nat.le_of_ble_eq_true rfl⟩ (q0 := 0) (ci := 3) rfl rfl rfl rfl rfl (Nat.le_of_ble_eq_true rfl) dX3_delayedAt_2 ⟨Nat.le_of_ble_eq_true rfl, Nat.le_of_ble_eq_true rfl⟩ rfl ⟨Nat.le_of_ble_eq_true rfl, Nat.le_of_ble_eq_true rfl⟩
theorem in_X3_deletions_1 : ∀ w ∈ wsX10, w ∈ wsX3_deletions := fun _ h => List.mem_cons_of_mem _ (List.mem_append_left _ (List.mem_append_right _ h))
theorem in_X3_deletions_2 : ∀ w ∈ wsX20, w ∈ wsX3_deletions := fun _ h => List.mem_cons_of_mem _ (List.mem_append_left _ (List.mem_append_left _ (List.mem_append_right _ h)))
theorem in_X3_deletions_3 : ∀ w ∈ wsX30, w ∈ wsX3_deletions := fun _ h => List.mem_cons_of_mem _ (List.mem_append_left _ (List.mem_append_left _ (List.mem_append_left _ (List.mem_append_right _ h))))
set_option maxHeartbeats 4000000 in
set_option maxRecDepth 100000 in
theorem c_X3_deletions_bad (l : Launch) (hfl : l.stackTraces = false) (sa : Nat → Nat) (D : va_G) (cI : ClassId) (aC : Nat → Nat) (aJ : Nat → Nat) (tc tl : Nat → Int32) (mi eb hd : Int32) (hs : Nat → Int32) (ig ct : Int32) (aS : Nat → Nat) (kp ea la ns ne ts te da de eo dn io : Nat → Int32) (aP : Nat → Nat) (E : Nat) (vs dp : Nat → Int32) (B : Nat) (sz cd : Nat → Nat) (M : Nat) (fr tt : Nat → Nat) (f1 f2 : Nat → Int32) (cg : Int32) (b : Int32) (hB : B ≤ 40) (hb : b < 0 ∨ nI B ≤ b) : ctX l yX3_deletions wsX3_deletions (rmD 7 1 6) sa D [(cI, .int)] [.ref (aC 0), .int b] (WC (aC 0) (aP 0) (aS 0) (aJ 0) ++ (WJ cI aJ (aP 0) tc tl mi eb hd hs ig ct ++ (WS cI aS (aP 0) kp ea la ns ne ts te da de eo dn io ++ (WP cI aP E vs dp B sz cd M fr tt f1 f2 cg)))) (WC (aC 0) (aP 0) (aS 0) (aJ 0) ++ (WJ cI aJ (aP 0) tc tl mi eb hd hs ig ct ++ (WS cI aS (aP 0) kp ea la ns ne ts te da de eo dn io ++ (WP cI aP E vs dp B sz cd M fr tt f1 f2 cg)))) exI 1 6 := by
  refine ctX_of (by decide) rfl (Nat.le_of_ble_eq_true rfl) ?_
  intro p e s m args below meth c C hnt hE9
  refine y_lv (lv' := [(0, .ref (aC 0)), (1, .int b)]) rfl ?_
  refine y_aload_n C 0 dX3_deletions_0 rfl rfl ?_
  refine y_iload_n C 1 dX3_deletions_1 rfl rfl ?_
  exact y_callX C hE9 hnt (wr := []) 1 (c_X3_requireBlock_bad l hfl sa D cI aC aJ tc tl mi eb hd hs ig ct aS kp ea la ns ne ts te da de eo dn io aP E vs dp B sz cd M fr tt f1 f2 cg b hB hb) gX3_deletions_X3_requireBlock rfl rfl rfl (by decide +kernel) ⟨Nat.le_of_ble_eq_true rfl, Nat.le_of_ble_eq_true rfl⟩ (q0 := 0) (ci := 3) rfl rfl rfl rfl rfl (Nat.le_of_ble_eq_true rfl) dX3_deletions_2 ⟨Nat.le_of_ble_eq_true rfl, Nat.le_of_ble_eq_true rfl⟩ rfl ⟨Nat.le_of_ble_eq_true rfl, Nat.le_of_ble_eq_true rfl⟩
theorem in_X3_needed_1 : ∀ w ∈ wsX10, w ∈ wsX3_needed := fun _ h => List.mem_cons_of_mem _ (List.mem_append_left _ (List.mem_append_right _ h))
theorem in_X3_needed_2 : ∀ w ∈ wsX20, w ∈ wsX3_needed := fun _ h => List.mem_cons_of_mem _ (List.mem_append_left _ (List.mem_append_left _ (List.mem_append_right _ h)))
theorem in_X3_needed_3 : ∀ w ∈ wsX30, w ∈ wsX3_needed := fun _ h => List.mem_cons_of_mem _ (List.mem_append_left _ (List.mem_append_left _ (List.mem_append_left _ (List.mem_append_right _ h))))
set_option maxHeartbeats 4000000 in
set_option maxRecDepth 100000 in
theorem c_X3_needed_bad (l : Launch) (hfl : l.stackTraces = false) (sa : Nat → Nat) (D : va_G) (cI : ClassId) (aC : Nat → Nat) (aJ : Nat → Nat) (tc tl : Nat → Int32) (mi eb hd : Int32) (hs : Nat → Int32) (ig ct : Int32) (aS : Nat → Nat) (kp ea la ns ne ts te da de eo dn io : Nat → Int32) (aP : Nat → Nat) (E : Nat) (vs dp : Nat → Int32) (B : Nat) (sz cd : Nat → Nat) (M : Nat) (fr tt : Nat → Nat) (f1 f2 : Nat → Int32) (cg : Int32) (b : Int32) (z : Nat) (hB : B ≤ 40) (hb : b < 0 ∨ nI B ≤ b) : ctX l yX3_needed wsX3_needed (rmD 7 1 6) sa D [(cI, .int)] [.ref (aC 0), .int b, .int (nI z)] (WC (aC 0) (aP 0) (aS 0) (aJ 0) ++ (WJ cI aJ (aP 0) tc tl mi eb hd hs ig ct ++ (WS cI aS (aP 0) kp ea la ns ne ts te da de eo dn io ++ (WP cI aP E vs dp B sz cd M fr tt f1 f2 cg)))) (WC (aC 0) (aP 0) (aS 0) (aJ 0) ++ (WJ cI aJ (aP 0) tc tl mi eb hd hs ig ct ++ (WS cI aS (aP 0) kp ea la ns ne ts te da de eo dn io ++ (WP cI aP E vs dp B sz cd M fr tt f1 f2 cg)))) exI 1 6 := by
  refine ctX_of (by decide) rfl (Nat.le_of_ble_eq_true rfl) ?_
  intro p e s m args below meth c C hnt hE9
  refine y_lv (lv' := [(0, .ref (aC 0)), (1, .int b), (2, .int (nI z))]) rfl ?_
  refine y_aload_n C 0 dX3_needed_0 rfl rfl ?_
  refine y_iload_n C 1 dX3_needed_1 rfl rfl ?_
  exact y_callX C hE9 hnt (wr := []) 1 (c_X3_requireBlock_bad l hfl sa D cI aC aJ tc tl mi eb hd hs ig ct aS kp ea la ns ne ts te da de eo dn io aP E vs dp B sz cd M fr tt f1 f2 cg b hB hb) gX3_needed_X3_requireBlock rfl rfl rfl (by decide +kernel) ⟨Nat.le_of_ble_eq_true rfl, Nat.le_of_ble_eq_true rfl⟩ (q0 := 0) (ci := 3) rfl rfl rfl rfl rfl (Nat.le_of_ble_eq_true rfl) dX3_needed_2 ⟨Nat.le_of_ble_eq_true rfl, Nat.le_of_ble_eq_true rfl⟩ rfl ⟨Nat.le_of_ble_eq_true rfl, Nat.le_of_ble_eq_true rfl⟩
theorem in_X3_there_1 : ∀ w ∈ wsX10, w ∈ wsX3_there := fun _ h => List.mem_cons_of_mem _ (List.mem_append_left _ (List.mem_append_right _ h))
theorem in_X3_there_2 : ∀ w ∈ wsX20, w ∈ wsX3_there := fun _ h => List.mem_cons_of_mem _ (List.mem_append_left _ (List.mem_append_left _ (List.mem_append_right _ h)))
theorem in_X3_there_3 : ∀ w ∈ wsX30, w ∈ wsX3_there := fun _ h => List.mem_cons_of_mem _ (List.mem_append_left _ (List.mem_append_left _ (List.mem_append_left _ (List.mem_append_right _ h))))
set_option maxHeartbeats 4000000 in
set_option maxRecDepth 100000 in
theorem c_X3_there_bad (l : Launch) (hfl : l.stackTraces = false) (sa : Nat → Nat) (D : va_G) (cI : ClassId) (aC : Nat → Nat) (aJ : Nat → Nat) (tc tl : Nat → Int32) (mi eb hd : Int32) (hs : Nat → Int32) (ig ct : Int32) (aS : Nat → Nat) (kp ea la ns ne ts te da de eo dn io : Nat → Int32) (aP : Nat → Nat) (E : Nat) (vs dp : Nat → Int32) (B : Nat) (sz cd : Nat → Nat) (M : Nat) (fr tt : Nat → Nat) (f1 f2 : Nat → Int32) (cg : Int32) (b : Int32) (z : Nat) (hB : B ≤ 40) (hb : b < 0 ∨ nI B ≤ b) : ctX l yX3_there wsX3_there (rmD 7 1 6) sa D [(cI, .int)] [.ref (aC 0), .int b, .int (nI z)] (WC (aC 0) (aP 0) (aS 0) (aJ 0) ++ (WJ cI aJ (aP 0) tc tl mi eb hd hs ig ct ++ (WS cI aS (aP 0) kp ea la ns ne ts te da de eo dn io ++ (WP cI aP E vs dp B sz cd M fr tt f1 f2 cg)))) (WC (aC 0) (aP 0) (aS 0) (aJ 0) ++ (WJ cI aJ (aP 0) tc tl mi eb hd hs ig ct ++ (WS cI aS (aP 0) kp ea la ns ne ts te da de eo dn io ++ (WP cI aP E vs dp B sz cd M fr tt f1 f2 cg)))) exI 1 6 := by
  refine ctX_of (by decide) rfl (Nat.le_of_ble_eq_true rfl) ?_
  intro p e s m args below meth c C hnt hE9
  refine y_lv (lv' := [(0, .ref (aC 0)), (1, .int b), (2, .int (nI z))]) rfl ?_
  refine y_aload_n C 0 dX3_there_0 rfl rfl ?_
  refine y_iload_n C 1 dX3_there_1 rfl rfl ?_
  exact y_callX C hE9 hnt (wr := []) 1 (c_X3_requireBlock_bad l hfl sa D cI aC aJ tc tl mi eb hd hs ig ct aS kp ea la ns ne ts te da de eo dn io aP E vs dp B sz cd M fr tt f1 f2 cg b hB hb) gX3_there_X3_requireBlock rfl rfl rfl (by decide +kernel) ⟨Nat.le_of_ble_eq_true rfl, Nat.le_of_ble_eq_true rfl⟩ (q0 := 0) (ci := 3) rfl rfl rfl rfl rfl (Nat.le_of_ble_eq_true rfl) dX3_there_2 ⟨Nat.le_of_ble_eq_true rfl, Nat.le_of_ble_eq_true rfl⟩ rfl ⟨Nat.le_of_ble_eq_true rfl, Nat.le_of_ble_eq_true rfl⟩
theorem in_X3_ends_1 : ∀ w ∈ wsX10, w ∈ wsX3_ends := fun _ h => List.mem_cons_of_mem _ (List.mem_append_left _ (List.mem_append_right _ h))
theorem in_X3_ends_3 : ∀ w ∈ wsX30, w ∈ wsX3_ends := fun _ h => List.mem_cons_of_mem _ (List.mem_append_left _ (List.mem_append_left _ (List.mem_append_right _ h)))
set_option maxHeartbeats 4000000 in
set_option maxRecDepth 100000 in
theorem c_X3_ends_bad (l : Launch) (hfl : l.stackTraces = false) (sa : Nat → Nat) (D : va_G) (cI : ClassId) (aC : Nat → Nat) (aJ : Nat → Nat) (tc tl : Nat → Int32) (mi eb hd : Int32) (hs : Nat → Int32) (ig ct : Int32) (aS : Nat → Nat) (kp ea la ns ne ts te da de eo dn io : Nat → Int32) (aP : Nat → Nat) (E : Nat) (vs dp : Nat → Int32) (B : Nat) (sz cd : Nat → Nat) (M : Nat) (fr tt : Nat → Nat) (f1 f2 : Nat → Int32) (cg : Int32) (b : Int32) (hM : M ≤ 80) (hb : b < 0 ∨ nI M ≤ b) : ctX l yX3_ends wsX3_ends (rmD 7 1 6) sa D [(cI, .int)] [.ref (aC 0), .int b] (WC (aC 0) (aP 0) (aS 0) (aJ 0) ++ (WJ cI aJ (aP 0) tc tl mi eb hd hs ig ct ++ (WS cI aS (aP 0) kp ea la ns ne ts te da de eo dn io ++ (WP cI aP E vs dp B sz cd M fr tt f1 f2 cg)))) (WC (aC 0) (aP 0) (aS 0) (aJ 0) ++ (WJ cI aJ (aP 0) tc tl mi eb hd hs ig ct ++ (WS cI aS (aP 0) kp ea la ns ne ts te da de eo dn io ++ (WP cI aP E vs dp B sz cd M fr tt f1 f2 cg)))) exI 1 6 := by
  refine ctX_of (by decide) rfl (Nat.le_of_ble_eq_true rfl) ?_
  intro p e s m args below meth c C hnt hE9
  refine y_lv (lv' := [(0, .ref (aC 0)), (1, .int b)]) rfl ?_
  refine y_aload_n C 0 dX3_ends_0 rfl rfl ?_
  refine y_iload_n C 1 dX3_ends_1 rfl rfl ?_
  exact y_callX C hE9 hnt (wr := []) 1 (c_X3_requireEdge_bad l hfl sa D cI aC aJ tc tl mi eb hd hs ig ct aS kp ea la ns ne ts te da de eo dn io aP E vs dp B sz cd M fr tt f1 f2 cg b hM hb) gX3_ends_X3_requireEdge rfl rfl rfl (by decide +kernel) ⟨Nat.le_of_ble_eq_true rfl, Nat.le_of_ble_eq_true rfl⟩ (q0 := 0) (ci := 3) rfl rfl rfl rfl rfl (Nat.le_of_ble_eq_true rfl) dX3_ends_2 ⟨Nat.le_of_ble_eq_true rfl, Nat.le_of_ble_eq_true rfl⟩ rfl ⟨Nat.le_of_ble_eq_true rfl, Nat.le_of_ble_eq_true rfl⟩
theorem in_X3_earliest_1 : ∀ w ∈ wsX10, w ∈ wsX3_earliest := fun _ h => List.mem_cons_of_mem _ (List.mem_append_left _ (List.mem_append_right _ h))
theorem in_X3_earliest_2 : ∀ w ∈ wsX20, w ∈ wsX3_earliest := fun _ h => List.mem_cons_of_mem _ (List.mem_append_left _ (List.mem_append_left _ (List.mem_append_right _ h)))
theorem in_X3_earliest_3 : ∀ w ∈ wsX30, w ∈ wsX3_earliest := fun _ h => List.mem_cons_of_mem _ (List.mem_append_left _ (List.mem_append_left _ (List.mem_append_left _ (List.mem_append_right _ h))))
set_option maxHeartbeats 4000000 in
set_option maxRecDepth 100000 in
theorem c_X3_earliest_bad (l : Launch) (hfl : l.stackTraces = false) (sa : Nat → Nat) (D : va_G) (cI : ClassId) (aC : Nat → Nat) (aJ : Nat → Nat) (tc tl : Nat → Int32) (mi eb hd : Int32) (hs : Nat → Int32) (ig ct : Int32) (aS : Nat → Nat) (kp ea la ns ne ts te da de eo dn io : Nat → Int32) (aP : Nat → Nat) (E : Nat) (vs dp : Nat → Int32) (B : Nat) (sz cd : Nat → Nat) (M : Nat) (fr tt : Nat → Nat) (f1 f2 : Nat → Int32) (cg : Int32) (b : Int32) (hM : M ≤ 80) (hb : b < 0 ∨ nI M ≤ b) : ctX l yX3_earliest wsX3_earliest (rmD 7 1 6) sa D [(cI, .int)] [.ref (aC 0), .int b] (WC (aC 0) (aP 0) (aS 0) (aJ 0) ++ (WJ cI aJ (aP 0) tc tl mi eb hd hs ig ct ++ (WS cI aS (aP 0) kp ea la ns ne ts te da de eo dn io ++ (WP cI aP E vs dp B sz cd M fr tt f1 f2 cg)))) (WC (aC 0) (aP 0) (aS 0) (aJ 0) ++ (WJ cI aJ (aP 0) tc tl mi eb hd hs ig ct ++ (WS cI aS (aP 0) kp ea la ns ne ts te da de eo dn io ++ (WP cI aP E vs dp B sz cd M fr tt f1 f2 cg)))) exI 1 6 := by
  refine ctX_of (by decide) rfl (Nat.le_of_ble_eq_true rfl) ?_
  intro p e s m args below meth c C hnt hE9
  refine y_lv (lv' := [(0, .ref (aC 0)), (1, .int b)]) rfl ?_
  refine y_aload_n C 0 dX3_earliest_0 rfl rfl ?_
  refine y_iload_n C 1 dX3_earliest_1 rfl rfl ?_
  exact y_callX C hE9 hnt (wr := []) 1 (c_X3_requireEdge_bad l hfl sa D cI aC aJ tc tl mi eb hd hs ig ct aS kp ea la ns ne ts te da de eo dn io aP E vs dp B sz cd M fr tt f1 f2 cg b hM hb) gX3_earliest_X3_requireEdge rfl rfl rfl (by decide +kernel) ⟨Nat.le_of_ble_eq_true rfl, Nat.le_of_ble_eq_true rfl⟩ (q0 := 0) (ci := 3) rfl rfl rfl rfl rfl (Nat.le_of_ble_eq_true rfl) dX3_earliest_2 ⟨Nat.le_of_ble_eq_true rfl, Nat.le_of_ble_eq_true rfl⟩ rfl ⟨Nat.le_of_ble_eq_true rfl, Nat.le_of_ble_eq_true rfl⟩
theorem in_X3_delayedOn_1 : ∀ w ∈ wsX10, w ∈ wsX3_delayedOn := fun _ h => List.mem_cons_of_mem _ (List.mem_append_left _ (List.mem_append_right _ h))
theorem in_X3_delayedOn_2 : ∀ w ∈ wsX20, w ∈ wsX3_delayedOn := fun _ h => List.mem_cons_of_mem _ (List.mem_append_left _ (List.mem_append_left _ (List.mem_append_right _ h)))
theorem in_X3_delayedOn_3 : ∀ w ∈ wsX30, w ∈ wsX3_delayedOn := fun _ h => List.mem_cons_of_mem _ (List.mem_append_left _ (List.mem_append_left _ (List.mem_append_left _ (List.mem_append_right _ h))))
set_option maxHeartbeats 4000000 in
set_option maxRecDepth 100000 in
theorem c_X3_delayedOn_bad (l : Launch) (hfl : l.stackTraces = false) (sa : Nat → Nat) (D : va_G) (cI : ClassId) (aC : Nat → Nat) (aJ : Nat → Nat) (tc tl : Nat → Int32) (mi eb hd : Int32) (hs : Nat → Int32) (ig ct : Int32) (aS : Nat → Nat) (kp ea la ns ne ts te da de eo dn io : Nat → Int32) (aP : Nat → Nat) (E : Nat) (vs dp : Nat → Int32) (B : Nat) (sz cd : Nat → Nat) (M : Nat) (fr tt : Nat → Nat) (f1 f2 : Nat → Int32) (cg : Int32) (b : Int32) (hM : M ≤ 80) (hb : b < 0 ∨ nI M ≤ b) : ctX l yX3_delayedOn wsX3_delayedOn (rmD 7 1 6) sa D [(cI, .int)] [.ref (aC 0), .int b] (WC (aC 0) (aP 0) (aS 0) (aJ 0) ++ (WJ cI aJ (aP 0) tc tl mi eb hd hs ig ct ++ (WS cI aS (aP 0) kp ea la ns ne ts te da de eo dn io ++ (WP cI aP E vs dp B sz cd M fr tt f1 f2 cg)))) (WC (aC 0) (aP 0) (aS 0) (aJ 0) ++ (WJ cI aJ (aP 0) tc tl mi eb hd hs ig ct ++ (WS cI aS (aP 0) kp ea la ns ne ts te da de eo dn io ++ (WP cI aP E vs dp B sz cd M fr tt f1 f2 cg)))) exI 1 6 := by
  refine ctX_of (by decide) rfl (Nat.le_of_ble_eq_true rfl) ?_
  intro p e s m args below meth c C hnt hE9
  refine y_lv (lv' := [(0, .ref (aC 0)), (1, .int b)]) rfl ?_
  refine y_aload_n C 0 dX3_delayedOn_0 rfl rfl ?_
  refine y_iload_n C 1 dX3_delayedOn_1 rfl rfl ?_
  exact y_callX C hE9 hnt (wr := []) 1 (c_X3_requireEdge_bad l hfl sa D cI aC aJ tc tl mi eb hd hs ig ct aS kp ea la ns ne ts te da de eo dn io aP E vs dp B sz cd M fr tt f1 f2 cg b hM hb) gX3_delayedOn_X3_requireEdge rfl rfl rfl (by decide +kernel) ⟨Nat.le_of_ble_eq_true rfl, Nat.le_of_ble_eq_true rfl⟩ (q0 := 0) (ci := 3) rfl rfl rfl rfl rfl (Nat.le_of_ble_eq_true rfl) dX3_delayedOn_2 ⟨Nat.le_of_ble_eq_true rfl, Nat.le_of_ble_eq_true rfl⟩ rfl ⟨Nat.le_of_ble_eq_true rfl, Nat.le_of_ble_eq_true rfl⟩
theorem in_X3_insertions_1 : ∀ w ∈ wsX10, w ∈ wsX3_insertions := fun _ h => List.mem_cons_of_mem _ (List.mem_append_left _ (List.mem_append_right _ h))
theorem in_X3_insertions_2 : ∀ w ∈ wsX20, w ∈ wsX3_insertions := fun _ h => List.mem_cons_of_mem _ (List.mem_append_left _ (List.mem_append_left _ (List.mem_append_right _ h)))
theorem in_X3_insertions_3 : ∀ w ∈ wsX30, w ∈ wsX3_insertions := fun _ h => List.mem_cons_of_mem _ (List.mem_append_left _ (List.mem_append_left _ (List.mem_append_left _ (List.mem_append_right _ h))))
set_option maxHeartbeats 4000000 in
set_option maxRecDepth 100000 in
theorem c_X3_insertions_bad (l : Launch) (hfl : l.stackTraces = false) (sa : Nat → Nat) (D : va_G) (cI : ClassId) (aC : Nat → Nat) (aJ : Nat → Nat) (tc tl : Nat → Int32) (mi eb hd : Int32) (hs : Nat → Int32) (ig ct : Int32) (aS : Nat → Nat) (kp ea la ns ne ts te da de eo dn io : Nat → Int32) (aP : Nat → Nat) (E : Nat) (vs dp : Nat → Int32) (B : Nat) (sz cd : Nat → Nat) (M : Nat) (fr tt : Nat → Nat) (f1 f2 : Nat → Int32) (cg : Int32) (b : Int32) (hM : M ≤ 80) (hb : b < 0 ∨ nI M ≤ b) : ctX l yX3_insertions wsX3_insertions (rmD 7 1 6) sa D [(cI, .int)] [.ref (aC 0), .int b] (WC (aC 0) (aP 0) (aS 0) (aJ 0) ++ (WJ cI aJ (aP 0) tc tl mi eb hd hs ig ct ++ (WS cI aS (aP 0) kp ea la ns ne ts te da de eo dn io ++ (WP cI aP E vs dp B sz cd M fr tt f1 f2 cg)))) (WC (aC 0) (aP 0) (aS 0) (aJ 0) ++ (WJ cI aJ (aP 0) tc tl mi eb hd hs ig ct ++ (WS cI aS (aP 0) kp ea la ns ne ts te da de eo dn io ++ (WP cI aP E vs dp B sz cd M fr tt f1 f2 cg)))) exI 1 6 := by
  refine ctX_of (by decide) rfl (Nat.le_of_ble_eq_true rfl) ?_
  intro p e s m args below meth c C hnt hE9
  refine y_lv (lv' := [(0, .ref (aC 0)), (1, .int b)]) rfl ?_
  refine y_aload_n C 0 dX3_insertions_0 rfl rfl ?_
  refine y_iload_n C 1 dX3_insertions_1 rfl rfl ?_
  exact y_callX C hE9 hnt (wr := []) 1 (c_X3_requireEdge_bad l hfl sa D cI aC aJ tc tl mi eb hd hs ig ct aS kp ea la ns ne ts te da de eo dn io aP E vs dp B sz cd M fr tt f1 f2 cg b hM hb) gX3_insertions_X3_requireEdge rfl rfl rfl (by decide +kernel) ⟨Nat.le_of_ble_eq_true rfl, Nat.le_of_ble_eq_true rfl⟩ (q0 := 0) (ci := 3) rfl rfl rfl rfl rfl (Nat.le_of_ble_eq_true rfl) dX3_insertions_2 ⟨Nat.le_of_ble_eq_true rfl, Nat.le_of_ble_eq_true rfl⟩ rfl ⟨Nat.le_of_ble_eq_true rfl, Nat.le_of_ble_eq_true rfl⟩
theorem in_X3_computed_0 : ∀ w ∈ wsX00, w ∈ wsX3_computed := fun _ h => List.mem_cons_of_mem _ (List.mem_append_left _ (List.mem_append_left _ (List.mem_append_right _ h)))
theorem in_X3_computed_1 : ∀ w ∈ wsX10, w ∈ wsX3_computed := fun _ h => List.mem_cons_of_mem _ (List.mem_append_left _ (List.mem_append_right _ h))
theorem in_X3_computed_3 : ∀ w ∈ wsX30, w ∈ wsX3_computed := fun _ h => List.mem_cons_of_mem _ (List.mem_append_left _ (List.mem_append_left _ (List.mem_append_left _ (List.mem_append_right _ h))))
set_option maxHeartbeats 4000000 in
set_option maxRecDepth 100000 in
theorem c_X3_computed_bad (l : Launch) (hfl : l.stackTraces = false) (sa : Nat → Nat) (D : va_G) (cI : ClassId) (aC : Nat → Nat) (aJ : Nat → Nat) (tc tl : Nat → Int32) (mi eb hd : Int32) (hs : Nat → Int32) (ig ct : Int32) (aS : Nat → Nat) (kp ea la ns ne ts te da de eo dn io : Nat → Int32) (aP : Nat → Nat) (E : Nat) (vs dp : Nat → Int32) (B : Nat) (sz cd : Nat → Nat) (M : Nat) (fr tt : Nat → Nat) (f1 f2 : Nat → Int32) (cg : Int32) (b : Int32) (hE : E ≤ 8) (hb : b < 0 ∨ nI E ≤ b) : ctX l yX3_computed wsX3_computed (rmD 7 1 6) sa D [(cI, .int)] [.ref (aC 0), .int b] (WC (aC 0) (aP 0) (aS 0) (aJ 0) ++ (WJ cI aJ (aP 0) tc tl mi eb hd hs ig ct ++ (WS cI aS (aP 0) kp ea la ns ne ts te da de eo dn io ++ (WP cI aP E vs dp B sz cd M fr tt f1 f2 cg)))) (WC (aC 0) (aP 0) (aS 0) (aJ 0) ++ (WJ cI aJ (aP 0) tc tl mi eb hd hs ig ct ++ (WS cI aS (aP 0) kp ea la ns ne ts te da de eo dn io ++ (WP cI aP E vs dp B sz cd M fr tt f1 f2 cg)))) exI 1 6 := by
  refine ctX_of (by decide) rfl (Nat.le_of_ble_eq_true rfl) ?_
  intro p e s m args below meth c C hnt hE9
  refine y_lv (lv' := [(0, .ref (aC 0)), (1, .int b)]) rfl ?_
  refine y_aload_n C 0 dX3_computed_0 rfl rfl ?_
  refine y_iload_n C 1 dX3_computed_1 rfl rfl ?_
  exact y_callX C hE9 hnt (wr := []) 1 (c_X3_requireExpression_bad l hfl sa D cI aC aJ tc tl mi eb hd hs ig ct aS kp ea la ns ne ts te da de eo dn io aP E vs dp B sz cd M fr tt f1 f2 cg b hE hb) gX3_computed_X3_requireExpression rfl rfl rfl (by decide +kernel) ⟨Nat.le_of_ble_eq_true rfl, Nat.le_of_ble_eq_true rfl⟩ (q0 := 0) (ci := 3) rfl rfl rfl rfl rfl (Nat.le_of_ble_eq_true rfl) dX3_computed_2 ⟨Nat.le_of_ble_eq_true rfl, Nat.le_of_ble_eq_true rfl⟩ rfl ⟨Nat.le_of_ble_eq_true rfl, Nat.le_of_ble_eq_true rfl⟩
theorem in_X3_heldFor_0 : ∀ w ∈ wsX00, w ∈ wsX3_heldFor := fun _ h => List.mem_cons_of_mem _ (List.mem_append_left _ (List.mem_append_left _ (List.mem_append_right _ h)))
theorem in_X3_heldFor_1 : ∀ w ∈ wsX10, w ∈ wsX3_heldFor := fun _ h => List.mem_cons_of_mem _ (List.mem_append_left _ (List.mem_append_right _ h))
theorem in_X3_heldFor_3 : ∀ w ∈ wsX30, w ∈ wsX3_heldFor := fun _ h => List.mem_cons_of_mem _ (List.mem_append_left _ (List.mem_append_left _ (List.mem_append_left _ (List.mem_append_right _ h))))
set_option maxHeartbeats 4000000 in
set_option maxRecDepth 100000 in
theorem c_X3_heldFor_bad (l : Launch) (hfl : l.stackTraces = false) (sa : Nat → Nat) (D : va_G) (cI : ClassId) (aC : Nat → Nat) (aJ : Nat → Nat) (tc tl : Nat → Int32) (mi eb hd : Int32) (hs : Nat → Int32) (ig ct : Int32) (aS : Nat → Nat) (kp ea la ns ne ts te da de eo dn io : Nat → Int32) (aP : Nat → Nat) (E : Nat) (vs dp : Nat → Int32) (B : Nat) (sz cd : Nat → Nat) (M : Nat) (fr tt : Nat → Nat) (f1 f2 : Nat → Int32) (cg : Int32) (b : Int32) (hE : E ≤ 8) (hb : b < 0 ∨ nI E ≤ b) : ctX l yX3_heldFor wsX3_heldFor (rmD 7 1 6) sa D [(cI, .int)] [.ref (aC 0), .int b] (WC (aC 0) (aP 0) (aS 0) (aJ 0) ++ (WJ cI aJ (aP 0) tc tl mi eb hd hs ig ct ++ (WS cI aS (aP 0) kp ea la ns ne ts te da de eo dn io ++ (WP cI aP E vs dp B sz cd M fr tt f1 f2 cg)))) (WC (aC 0) (aP 0) (aS 0) (aJ 0) ++ (WJ cI aJ (aP 0) tc tl mi eb hd hs ig ct ++ (WS cI aS (aP 0) kp ea la ns ne ts te da de eo dn io ++ (WP cI aP E vs dp B sz cd M fr tt f1 f2 cg)))) exI 1 6 := by
  refine ctX_of (by decide) rfl (Nat.le_of_ble_eq_true rfl) ?_
  intro p e s m args below meth c C hnt hE9
  refine y_lv (lv' := [(0, .ref (aC 0)), (1, .int b)]) rfl ?_
  refine y_aload_n C 0 dX3_heldFor_0 rfl rfl ?_
  refine y_iload_n C 1 dX3_heldFor_1 rfl rfl ?_
  exact y_callX C hE9 hnt (wr := []) 1 (c_X3_requireExpression_bad l hfl sa D cI aC aJ tc tl mi eb hd hs ig ct aS kp ea la ns ne ts te da de eo dn io aP E vs dp B sz cd M fr tt f1 f2 cg b hE hb) gX3_heldFor_X3_requireExpression rfl rfl rfl (by decide +kernel) ⟨Nat.le_of_ble_eq_true rfl, Nat.le_of_ble_eq_true rfl⟩ (q0 := 0) (ci := 3) rfl rfl rfl rfl rfl (Nat.le_of_ble_eq_true rfl) dX3_heldFor_2 ⟨Nat.le_of_ble_eq_true rfl, Nat.le_of_ble_eq_true rfl⟩ rfl ⟨Nat.le_of_ble_eq_true rfl, Nat.le_of_ble_eq_true rfl⟩
set_option maxHeartbeats 4000000 in
set_option maxRecDepth 100000 in
theorem c_X3_size_ok (l : Launch) (D : va_G) (cI : ClassId) (aC : Nat → Nat) (aJ : Nat → Nat) (tc tl : Nat → Int32) (mi eb hd : Int32) (hs : Nat → Int32) (ig ct : Int32) (aS : Nat → Nat) (kp ea la ns ne ts te da de eo dn io : Nat → Int32) (aP : Nat → Nat) (E : Nat) (vs dp : Nat → Int32) (B : Nat) (sz cd : Nat → Nat) (M : Nat) (fr tt : Nat → Nat) (f1 f2 : Nat → Int32) (cg : Int32) (b : Nat) (hB : B ≤ 40) (hsz : ∀ j, sz j ≤ 12) (hb : b < B) : ctI l yX3_size wsX3_size (rmD 1 0 0) D [(cI, .int)] [.ref (aC 0), .int (nI b)] (WC (aC 0) (aP 0) (aS 0) (aJ 0) ++ (WJ cI aJ (aP 0) tc tl mi eb hd hs ig ct ++ (WS cI aS (aP 0) kp ea la ns ne ts te da de eo dn io ++ (WP cI aP E vs dp B sz cd M fr tt f1 f2 cg)))) (WC (aC 0) (aP 0) (aS 0) (aJ 0) ++ (WJ cI aJ (aP 0) tc tl mi eb hd hs ig ct ++ (WS cI aS (aP 0) kp ea la ns ne ts te da de eo dn io ++ (WP cI aP E vs dp B sz cd M fr tt f1 f2 cg)))) (nI (sz b)) 0 0 := by
  refine ctI_of (by decide) rfl (Nat.le_of_ble_eq_true rfl) ?_
  intro p e s m args below meth c A Q C hnm K
  refine y_lv (lv' := [(0, .ref (aC 0)), (1, .int (nI b))]) rfl ?_
  refine y_aload_n C 0 dX3_size_0 rfl rfl ?_
  refine y_iload_n C 1 dX3_size_1 rfl rfl ?_
  refine y_callV C (wr := []) 1 (c_X3_requireBlock_ok l D cI aC aJ tc tl mi eb hd hs ig ct aS kp ea la ns ne ts te da de eo dn io aP E vs dp B sz cd M fr tt f1 f2 cg b hB hb) gX3_size_X3_requireBlock rfl rfl rfl (by decide +kernel) ⟨Nat.le_of_ble_eq_true rfl, Nat.le_of_ble_eq_true rfl⟩ (q0 := 0) (ci := 3) rfl rfl rfl rfl rfl (Nat.le_of_ble_eq_true rfl) dX3_size_2 ⟨Nat.le_of_ble_eq_true rfl, Nat.le_of_ble_eq_true rfl⟩ ?_
  refine y_ws (ws' := WC (aC 0) (aP 0) (aS 0) (aJ 0) ++ (WJ cI aJ (aP 0) tc tl mi eb hd hs ig ct ++ (WS cI aS (aP 0) kp ea la ns ne ts te da de eo dn io ++ (WP cI aP E vs dp B sz cd M fr tt f1 f2 cg)))) rfl ?_
  refine y_aload_n C 0 dX3_size_5 rfl rfl ?_
  refine y_get C in_X3_size_3 (ci := 3) rfl 0 (by decide) (List.mem_of_getElem? (i := 1) rfl) 0 rfl rfl dX3_size_6 ?_
  refine y_get C in_X3_size_1 (ci := 1) rfl 4 (by decide) (List.mem_of_getElem? (i := 2) rfl) 18 rfl rfl dX3_size_9 ?_
  refine y_iload_n C 1 dX3_size_12 rfl rfl ?_
  refine y_ialdA C (q0 := 21) (t0 := 0) rfl rfl (by decide) (by omega) dX3_size_13 ?_
  exact K _ _ _ _ _ dX3_size_14 (rfl) (by decide) (by decide)
theorem in_X3_instruction_1 : ∀ w ∈ wsX10, w ∈ wsX3_instruction := fun _ h => List.mem_cons_of_mem _ (List.mem_append_left _ (List.mem_append_right _ h))
theorem in_X3_instruction_3 : ∀ w ∈ wsX30, w ∈ wsX3_instruction := fun _ h => List.mem_cons_of_mem _ (List.mem_append_left _ (List.mem_append_left _ (List.mem_append_right _ h)))
set_option maxHeartbeats 4000000 in
set_option maxRecDepth 100000 in
theorem c_X3_instruction_ok (l : Launch) (D : va_G) (cI : ClassId) (aC : Nat → Nat) (aJ : Nat → Nat) (tc tl : Nat → Int32) (mi eb hd : Int32) (hs : Nat → Int32) (ig ct : Int32) (aS : Nat → Nat) (kp ea la ns ne ts te da de eo dn io : Nat → Int32) (aP : Nat → Nat) (E : Nat) (vs dp : Nat → Int32) (B : Nat) (sz cd : Nat → Nat) (M : Nat) (fr tt : Nat → Nat) (f1 f2 : Nat → Int32) (cg : Int32) (b k : Nat) (hB : B ≤ 40) (hsz : ∀ j, sz j ≤ 12) (hcd : ∀ j, cd j < 24) (hb : b < B) (hk : k < sz b) : ctI l yX3_instruction wsX3_instruction (rmD 1 0 0) D [(cI, .int)] [.ref (aC 0), .int (nI b), .int (nI k)] (WC (aC 0) (aP 0) (aS 0) (aJ 0) ++ (WJ cI aJ (aP 0) tc tl mi eb hd hs ig ct ++ (WS cI aS (aP 0) kp ea la ns ne ts te da de eo dn io ++ (WP cI aP E vs dp B sz cd M fr tt f1 f2 cg)))) (WC (aC 0) (aP 0) (aS 0) (aJ 0) ++ (WJ cI aJ (aP 0) tc tl mi eb hd hs ig ct ++ (WS cI aS (aP 0) kp ea la ns ne ts te da de eo dn io ++ (WP cI aP E vs dp B sz cd M fr tt f1 f2 cg)))) (nI (cd (12 * b + k))) 0 0 := by
  have hzb := hsz b
  refine ctI_of (by decide) rfl (Nat.le_of_ble_eq_true rfl) ?_
  intro p e s m args below meth c A Q C hnm K
  refine y_lv (lv' := [(0, .ref (aC 0)), (1, .int (nI b)), (2, .int (nI k))]) rfl ?_
  refine y_aload_n C 0 dX3_instruction_0 rfl rfl ?_
  refine y_iload_n C 1 dX3_instruction_1 rfl rfl ?_
  refine y_callV C (wr := []) 1 (c_X3_requireBlock_ok l D cI aC aJ tc tl mi eb hd hs ig ct aS kp ea la ns ne ts te da de eo dn io aP E vs dp B sz cd M fr tt f1 f2 cg b hB hb) gX3_instruction_X3_requireBlock rfl rfl rfl (by decide +kernel) ⟨Nat.le_of_ble_eq_true rfl, Nat.le_of_ble_eq_true rfl⟩ (q0 := 0) (ci := 3) rfl rfl rfl rfl rfl (Nat.le_of_ble_eq_true rfl) dX3_instruction_2 ⟨Nat.le_of_ble_eq_true rfl, Nat.le_of_ble_eq_true rfl⟩ ?_
  refine y_ws (ws' := WC (aC 0) (aP 0) (aS 0) (aJ 0) ++ (WJ cI aJ (aP 0) tc tl mi eb hd hs ig ct ++ (WS cI aS (aP 0) kp ea la ns ne ts te da de eo dn io ++ (WP cI aP E vs dp B sz cd M fr tt f1 f2 cg)))) rfl ?_
  refine y_iload_n C 2 dX3_instruction_5 rfl rfl ?_
  refine y_ifN_lt C (tgt := 22) dX3_instruction_6 (by decide) (by omega) ?_
  refine y_iload_n C 2 dX3_instruction_9 rfl rfl ?_
  refine y_aload_n C 0 dX3_instruction_10 rfl rfl ?_
  refine y_get C in_X3_instruction_3 (ci := 3) rfl 0 (by decide) (List.mem_of_getElem? (i := 3) rfl) 0 rfl rfl dX3_instruction_11 ?_
  refine y_get C in_X3_instruction_1 (ci := 1) rfl 4 (by decide) (List.mem_of_getElem? (i := 4) rfl) 18 rfl rfl dX3_instruction_14 ?_
  refine y_iload_n C 1 dX3_instruction_17 rfl rfl ?_
  refine y_ialdA C (q0 := 21) (t0 := 0) rfl rfl (by decide) (by omega) dX3_instruction_18 ?_
  refine y_icmpN_lt C (tgt := 32) dX3_instruction_19 (by decide) (by omega) (by have := hsz b; omega) (fun h19 => ?_) (fun h19 => ?_)
  · skip
    refine y_aload_n C 0 dX3_instruction_32 rfl rfl ?_
    refine y_get C in_X3_instruction_3 (ci := 3) rfl 0 (by decide) (List.mem_of_getElem? (i := 3) rfl) 0 rfl rfl dX3_instruction_33 ?_
    refine y_iload_n C 1 dX3_instruction_36 rfl rfl ?_
    refine y_iload_n C 2 dX3_instruction_37 rfl rfl ?_
    refine y_callI C (wr := WC (aC 0) (aP 0) (aS 0) (aJ 0) ++ WJ cI aJ (aP 0) tc tl mi eb hd hs ig ct ++ WS cI aS (aP 0) kp ea la ns ne ts te da de eo dn io) 2 (c_X1_codeAt l D cI aP E vs dp B sz cd M fr tt f1 f2 cg b k hcd (by omega) (by omega)) gX3_instruction_X1_codeAt rfl rfl rfl (by decide +kernel) ⟨Nat.le_of_ble_eq_true rfl, Nat.le_of_ble_eq_true rfl⟩ (q0 := 0) (ci := 1) rfl rfl (by simp only [List.append_assoc]) rfl rfl (Nat.le_of_ble_eq_true rfl) dX3_instruction_38 ⟨Nat.le_of_ble_eq_true rfl, Nat.le_of_ble_eq_true rfl⟩ ?_
    refine y_ws (ws' := WC (aC 0) (aP 0) (aS 0) (aJ 0) ++ (WJ cI aJ (aP 0) tc tl mi eb hd hs ig ct ++ (WS cI aS (aP 0) kp ea la ns ne ts te da de eo dn io ++ (WP cI aP E vs dp B sz cd M fr tt f1 f2 cg)))) (by simp only [List.append_assoc]) ?_
    exact K _ _ _ _ _ dX3_instruction_41 (rfl) (by decide) (by decide)
  · skip
    exact absurd h19 (by omega)
set_option maxHeartbeats 4000000 in
set_option maxRecDepth 100000 in
theorem c_X3_instruction_badb (l : Launch) (hfl : l.stackTraces = false) (sa : Nat → Nat) (D : va_G) (cI : ClassId) (aC : Nat → Nat) (aJ : Nat → Nat) (tc tl : Nat → Int32) (mi eb hd : Int32) (hs : Nat → Int32) (ig ct : Int32) (aS : Nat → Nat) (kp ea la ns ne ts te da de eo dn io : Nat → Int32) (aP : Nat → Nat) (E : Nat) (vs dp : Nat → Int32) (B : Nat) (sz cd : Nat → Nat) (M : Nat) (fr tt : Nat → Nat) (f1 f2 : Nat → Int32) (cg : Int32) (b k : Int32) (hB : B ≤ 40) (hb : b < 0 ∨ nI B ≤ b) : ctX l yX3_instruction wsX3_instruction (rmD 7 1 6) sa D [(cI, .int)] [.ref (aC 0), .int b, .int k] (WC (aC 0) (aP 0) (aS 0) (aJ 0) ++ (WJ cI aJ (aP 0) tc tl mi eb hd hs ig ct ++ (WS cI aS (aP 0) kp ea la ns ne ts te da de eo dn io ++ (WP cI aP E vs dp B sz cd M fr tt f1 f2 cg)))) (WC (aC 0) (aP 0) (aS 0) (aJ 0) ++ (WJ cI aJ (aP 0) tc tl mi eb hd hs ig ct ++ (WS cI aS (aP 0) kp ea la ns ne ts te da de eo dn io ++ (WP cI aP E vs dp B sz cd M fr tt f1 f2 cg)))) exI 1 6 := by
  refine ctX_of (by decide) rfl (Nat.le_of_ble_eq_true rfl) ?_
  intro p e s m args below meth c C hnt hE9
  refine y_lv (lv' := [(0, .ref (aC 0)), (1, .int b), (2, .int k)]) rfl ?_
  refine y_aload_n C 0 dX3_instruction_0 rfl rfl ?_
  refine y_iload_n C 1 dX3_instruction_1 rfl rfl ?_
  exact y_callX C hE9 hnt (wr := []) 1 (c_X3_requireBlock_bad l hfl sa D cI aC aJ tc tl mi eb hd hs ig ct aS kp ea la ns ne ts te da de eo dn io aP E vs dp B sz cd M fr tt f1 f2 cg b hB hb) gX3_instruction_X3_requireBlock rfl rfl rfl (by decide +kernel) ⟨Nat.le_of_ble_eq_true rfl, Nat.le_of_ble_eq_true rfl⟩ (q0 := 0) (ci := 3) rfl rfl rfl rfl rfl (Nat.le_of_ble_eq_true rfl) dX3_instruction_2 ⟨Nat.le_of_ble_eq_true rfl, Nat.le_of_ble_eq_true rfl⟩ rfl ⟨Nat.le_of_ble_eq_true rfl, Nat.le_of_ble_eq_true rfl⟩
set_option maxHeartbeats 4000000 in
set_option maxRecDepth 100000 in
theorem c_X3_instruction_badk (l : Launch) (hfl : l.stackTraces = false) (sa : Nat → Nat) (D : va_G) (cI : ClassId) (aC : Nat → Nat) (aJ : Nat → Nat) (tc tl : Nat → Int32) (mi eb hd : Int32) (hs : Nat → Int32) (ig ct : Int32) (aS : Nat → Nat) (kp ea la ns ne ts te da de eo dn io : Nat → Int32) (aP : Nat → Nat) (E : Nat) (vs dp : Nat → Int32) (B : Nat) (sz cd : Nat → Nat) (M : Nat) (fr tt : Nat → Nat) (f1 f2 : Nat → Int32) (cg : Int32) (b : Nat) (k : Int32) (hB : B ≤ 40) (hsz : ∀ j, sz j ≤ 12) (hb : b < B) (hk : k < 0 ∨ nI (sz b) ≤ k) : ctX l yX3_instruction wsX3_instruction (rmD 7 1 6) sa D [(cI, .int)] [.ref (aC 0), .int (nI b), .int k] (WC (aC 0) (aP 0) (aS 0) (aJ 0) ++ (WJ cI aJ (aP 0) tc tl mi eb hd hs ig ct ++ (WS cI aS (aP 0) kp ea la ns ne ts te da de eo dn io ++ (WP cI aP E vs dp B sz cd M fr tt f1 f2 cg)))) (WC (aC 0) (aP 0) (aS 0) (aJ 0) ++ (WJ cI aJ (aP 0) tc tl mi eb hd hs ig ct ++ (WS cI aS (aP 0) kp ea la ns ne ts te da de eo dn io ++ (WP cI aP E vs dp B sz cd M fr tt f1 f2 cg)))) exI 1 6 := by
  refine ctX_of (by decide) rfl (Nat.le_of_ble_eq_true rfl) ?_
  intro p e s m args below meth c C hnt hE9
  refine y_lv (lv' := [(0, .ref (aC 0)), (1, .int (nI b)), (2, .int k)]) rfl ?_
  refine y_aload_n C 0 dX3_instruction_0 rfl rfl ?_
  refine y_iload_n C 1 dX3_instruction_1 rfl rfl ?_
  refine y_callV C (wr := []) 1 (c_X3_requireBlock_ok l D cI aC aJ tc tl mi eb hd hs ig ct aS kp ea la ns ne ts te da de eo dn io aP E vs dp B sz cd M fr tt f1 f2 cg b hB hb) gX3_instruction_X3_requireBlock rfl rfl rfl (by decide +kernel) ⟨Nat.le_of_ble_eq_true rfl, Nat.le_of_ble_eq_true rfl⟩ (q0 := 0) (ci := 3) rfl rfl rfl rfl rfl (Nat.le_of_ble_eq_true rfl) dX3_instruction_2 ⟨Nat.le_of_ble_eq_true rfl, Nat.le_of_ble_eq_true rfl⟩ ?_
  refine y_ws (ws' := WC (aC 0) (aP 0) (aS 0) (aJ 0) ++ (WJ cI aJ (aP 0) tc tl mi eb hd hs ig ct ++ (WS cI aS (aP 0) kp ea la ns ne ts te da de eo dn io ++ (WP cI aP E vs dp B sz cd M fr tt f1 f2 cg)))) rfl ?_
  refine y_iload_n C 2 dX3_instruction_5 rfl rfl ?_
  refine y_if_lt C (tgt := 22) dX3_instruction_6 (by decide)  (fun h6 => ?_) (fun h6 => ?_)
  · skip
    exact y_throw C hfl hE9 hnt (by decide +kernel) (List.mem_of_getElem? (i := 1) rfl) (List.mem_of_getElem? (i := 2) rfl) (List.mem_of_getElem? (i := 9) rfl) (fun _ h => List.mem_cons_of_mem _ (List.mem_append_right _ h)) xg_I xo_I dX3_instruction_22 dX3_instruction_25 dX3_instruction_26 dX3_instruction_28 dX3_instruction_31 ⟨Nat.le_of_ble_eq_true rfl, Nat.le_of_ble_eq_true rfl⟩ ⟨Nat.le_of_ble_eq_true rfl, Nat.le_of_ble_eq_true rfl⟩ ⟨Nat.le_of_ble_eq_true rfl, Nat.le_of_ble_eq_true rfl⟩ (rfl)
  · skip
    refine y_iload_n C 2 dX3_instruction_9 rfl rfl ?_
    refine y_aload_n C 0 dX3_instruction_10 rfl rfl ?_
    refine y_get C in_X3_instruction_3 (ci := 3) rfl 0 (by decide) (List.mem_of_getElem? (i := 3) rfl) 0 rfl rfl dX3_instruction_11 ?_
    refine y_get C in_X3_instruction_1 (ci := 1) rfl 4 (by decide) (List.mem_of_getElem? (i := 4) rfl) 18 rfl rfl dX3_instruction_14 ?_
    refine y_iload_n C 1 dX3_instruction_17 rfl rfl ?_
    refine y_ialdA C (q0 := 21) (t0 := 0) rfl rfl (by decide) (by omega) dX3_instruction_18 ?_
    refine y_icmp_lt C (tgt := 32) dX3_instruction_19 (by decide)  (fun h19 => ?_) (fun h19 => ?_)
    · skip
      exact absurd hk (fun q => q.elim h6 (fun z => yi_nle h19 z))
    · skip
      exact y_throw C hfl hE9 hnt (by decide +kernel) (List.mem_of_getElem? (i := 1) rfl) (List.mem_of_getElem? (i := 2) rfl) (List.mem_of_getElem? (i := 9) rfl) (fun _ h => List.mem_cons_of_mem _ (List.mem_append_right _ h)) xg_I xo_I dX3_instruction_22 dX3_instruction_25 dX3_instruction_26 dX3_instruction_28 dX3_instruction_31 ⟨Nat.le_of_ble_eq_true rfl, Nat.le_of_ble_eq_true rfl⟩ ⟨Nat.le_of_ble_eq_true rfl, Nat.le_of_ble_eq_true rfl⟩ ⟨Nat.le_of_ble_eq_true rfl, Nat.le_of_ble_eq_true rfl⟩ (rfl)
set_option maxHeartbeats 4000000 in
set_option maxRecDepth 100000 in
theorem c_X3_ends_ok (l : Launch) (D : va_G) (cI : ClassId) (aC : Nat → Nat) (aJ : Nat → Nat) (tc tl : Nat → Int32) (mi eb hd : Int32) (hs : Nat → Int32) (ig ct : Int32) (aS : Nat → Nat) (kp ea la ns ne ts te da de eo dn io : Nat → Int32) (aP : Nat → Nat) (E : Nat) (vs dp : Nat → Int32) (B : Nat) (sz cd : Nat → Nat) (M : Nat) (fr tt : Nat → Nat) (f1 f2 : Nat → Int32) (cg : Int32) (b : Nat) (hM : M ≤ 80) (hfr : ∀ j, fr j < 40) (htt : ∀ j, tt j < 40) (hb : b < M) : ctI l yX3_ends wsX3_ends (rmD 1 0 0) D [(cI, .int)] [.ref (aC 0), .int (nI b)] (WC (aC 0) (aP 0) (aS 0) (aJ 0) ++ (WJ cI aJ (aP 0) tc tl mi eb hd hs ig ct ++ (WS cI aS (aP 0) kp ea la ns ne ts te da de eo dn io ++ (WP cI aP E vs dp B sz cd M fr tt f1 f2 cg)))) (WC (aC 0) (aP 0) (aS 0) (aJ 0) ++ (WJ cI aJ (aP 0) tc tl mi eb hd hs ig ct ++ (WS cI aS (aP 0) kp ea la ns ne ts te da de eo dn io ++ (WP cI aP E vs dp B sz cd M fr tt f1 f2 cg)))) (nI (40 * fr b + tt b)) 0 0 := by
  refine ctI_of (by decide) rfl (Nat.le_of_ble_eq_true rfl) ?_
  intro p e s m args below meth c A Q C hnm K
  refine y_lv (lv' := [(0, .ref (aC 0)), (1, .int (nI b))]) rfl ?_
  refine y_aload_n C 0 dX3_ends_0 rfl rfl ?_
  refine y_iload_n C 1 dX3_ends_1 rfl rfl ?_
  refine y_callV C (wr := []) 1 (c_X3_requireEdge_ok l D cI aC aJ tc tl mi eb hd hs ig ct aS kp ea la ns ne ts te da de eo dn io aP E vs dp B sz cd M fr tt f1 f2 cg b hM hb) gX3_ends_X3_requireEdge rfl rfl rfl (by decide +kernel) ⟨Nat.le_of_ble_eq_true rfl, Nat.le_of_ble_eq_true rfl⟩ (q0 := 0) (ci := 3) rfl rfl rfl rfl rfl (Nat.le_of_ble_eq_true rfl) dX3_ends_2 ⟨Nat.le_of_ble_eq_true rfl, Nat.le_of_ble_eq_true rfl⟩ ?_
  refine y_ws (ws' := WC (aC 0) (aP 0) (aS 0) (aJ 0) ++ (WJ cI aJ (aP 0) tc tl mi eb hd hs ig ct ++ (WS cI aS (aP 0) kp ea la ns ne ts te da de eo dn io ++ (WP cI aP E vs dp B sz cd M fr tt f1 f2 cg)))) rfl ?_
  refine y_aload_n C 0 dX3_ends_5 rfl rfl ?_
  refine y_get C in_X3_ends_3 (ci := 3) rfl 0 (by decide) (List.mem_of_getElem? (i := 1) rfl) 0 rfl rfl dX3_ends_6 ?_
  refine y_iload_n C 1 dX3_ends_9 rfl rfl ?_
  refine y_callI C (wr := WC (aC 0) (aP 0) (aS 0) (aJ 0) ++ WJ cI aJ (aP 0) tc tl mi eb hd hs ig ct ++ WS cI aS (aP 0) kp ea la ns ne ts te da de eo dn io) 1 (c_X1_endsOf l D cI aP E vs dp B sz cd M fr tt f1 f2 cg b (by omega) (by omega) (by omega)) gX3_ends_X1_endsOf rfl rfl rfl (by decide +kernel) ⟨Nat.le_of_ble_eq_true rfl, Nat.le_of_ble_eq_true rfl⟩ (q0 := 0) (ci := 1) rfl rfl (by simp only [List.append_assoc]) rfl rfl (Nat.le_of_ble_eq_true rfl) dX3_ends_10 ⟨Nat.le_of_ble_eq_true rfl, Nat.le_of_ble_eq_true rfl⟩ ?_
  refine y_ws (ws' := WC (aC 0) (aP 0) (aS 0) (aJ 0) ++ (WJ cI aJ (aP 0) tc tl mi eb hd hs ig ct ++ (WS cI aS (aP 0) kp ea la ns ne ts te da de eo dn io ++ (WP cI aP E vs dp B sz cd M fr tt f1 f2 cg)))) (by simp only [List.append_assoc]) ?_
  exact K _ _ _ _ _ dX3_ends_13 (rfl) (by decide) (by decide)
set_option maxHeartbeats 4000000 in
set_option maxRecDepth 100000 in
theorem c_X3_kept_ok (l : Launch) (D : va_G) (cI : ClassId) (aC : Nat → Nat) (aJ : Nat → Nat) (tc tl : Nat → Int32) (mi eb hd : Int32) (hs : Nat → Int32) (ig ct : Int32) (aS : Nat → Nat) (kp ea la ns ne ts te da de eo dn io : Nat → Int32) (aP : Nat → Nat) (E : Nat) (vs dp : Nat → Int32) (B : Nat) (sz cd : Nat → Nat) (M : Nat) (fr tt : Nat → Nat) (f1 f2 : Nat → Int32) (cg : Int32) (b : Nat) (kp2 ea2 la2 ns2 ne2 ts2 te2 da2 de2 eo2 dn2 io2 : Nat → Int32) (hE : E ≤ 8) (hB : B ≤ 40) (hM : M ≤ 80) (hsz : ∀ j, sz j ≤ 12) (hcd : ∀ j, cd j < 24) (hfr : ∀ j, fr j < 40) (htt : ∀ j, tt j < 40) (hcv : ∀ j, cd j % 3 = 2 → cd j / 3 < 6) (hU : upR E dp B sz cd M fr tt f1 cg kp ea la ns ne ts te da de eo dn io kp2 ea2 la2 ns2 ne2 ts2 te2 da2 de2 eo2 dn2 io2) (hb : b < B) : ctI l yX3_kept wsX3_kept (rmD 4 0 0) D [(cI, .int)] [.ref (aC 0), .int (nI b)] (WC (aC 0) (aP 0) (aS 0) (aJ 0) ++ (WJ cI aJ (aP 0) tc tl mi eb hd hs ig ct ++ (WS cI aS (aP 0) kp ea la ns ne ts te da de eo dn io ++ (WP cI aP E vs dp B sz cd M fr tt f1 f2 cg)))) (WC (aC 0) (aP 0) (aS 0) (aJ 0) ++ (WJ cI aJ (aP 0) tc tl mi eb hd hs ig ct ++ (WS cI aS (aP 0) kp2 ea2 la2 ns2 ne2 ts2 te2 da2 de2 eo2 dn2 io2 ++ (WP cI aP E vs dp B sz cd M fr tt f1 f2 (nI 0))))) (kp2 b) 0 0 := by
  refine ctI_of (by decide) rfl (Nat.le_of_ble_eq_true rfl) ?_
  intro p e s m args below meth c A Q C hnm K
  refine y_lv (lv' := [(0, .ref (aC 0)), (1, .int (nI b))]) rfl ?_
  refine y_aload_n C 0 dX3_kept_0 rfl rfl ?_
  refine y_iload_n C 1 dX3_kept_1 rfl rfl ?_
  refine y_callV C (wr := []) 1 (c_X3_requireBlock_ok l D cI aC aJ tc tl mi eb hd hs ig ct aS kp ea la ns ne ts te da de eo dn io aP E vs dp B sz cd M fr tt f1 f2 cg b hB hb) gX3_kept_X3_requireBlock rfl rfl rfl (by decide +kernel) ⟨Nat.le_of_ble_eq_true rfl, Nat.le_of_ble_eq_true rfl⟩ (q0 := 0) (ci := 3) rfl rfl rfl rfl rfl (Nat.le_of_ble_eq_true rfl) dX3_kept_2 ⟨Nat.le_of_ble_eq_true rfl, Nat.le_of_ble_eq_true rfl⟩ ?_
  refine y_ws (ws' := WC (aC 0) (aP 0) (aS 0) (aJ 0) ++ (WJ cI aJ (aP 0) tc tl mi eb hd hs ig ct ++ (WS cI aS (aP 0) kp ea la ns ne ts te da de eo dn io ++ (WP cI aP E vs dp B sz cd M fr tt f1 f2 cg)))) rfl ?_
  refine y_aload_n C 0 dX3_kept_5 rfl rfl ?_
  refine y_get C in_X3_kept_3 (ci := 3) rfl 1 (by decide) (List.mem_of_getElem? (i := 1) rfl) 0 rfl rfl dX3_kept_6 ?_
  refine y_callV C (wr := WC (aC 0) (aP 0) (aS 0) (aJ 0) ++ WJ cI aJ (aP 0) tc tl mi eb hd hs ig ct) 0 (c_X2_bringUpToDate_any l D cI aS kp ea la ns ne ts te da de eo dn io aP E vs dp B sz cd M fr tt f1 f2 cg kp2 ea2 la2 ns2 ne2 ts2 te2 da2 de2 eo2 dn2 io2 hE hB hM hsz hcd hfr htt hcv hU) gX3_kept_X2_bringUpToDate rfl rfl rfl (by decide +kernel) ⟨Nat.le_of_ble_eq_true rfl, Nat.le_of_ble_eq_true rfl⟩ (q0 := 0) (ci := 2) rfl rfl (by simp only [List.append_assoc]) rfl rfl (Nat.le_of_ble_eq_true rfl) dX3_kept_9 ⟨Nat.le_of_ble_eq_true rfl, Nat.le_of_ble_eq_true rfl⟩ ?_
  refine y_ws (ws' := WC (aC 0) (aP 0) (aS 0) (aJ 0) ++ (WJ cI aJ (aP 0) tc tl mi eb hd hs ig ct ++ (WS cI aS (aP 0) kp2 ea2 la2 ns2 ne2 ts2 te2 da2 de2 eo2 dn2 io2 ++ (WP cI aP E vs dp B sz cd M fr tt f1 f2 (nI 0))))) (by simp only [List.append_assoc]) ?_
  refine y_aload_n C 0 dX3_kept_12 rfl rfl ?_
  refine y_get C in_X3_kept_3 (ci := 3) rfl 1 (by decide) (List.mem_of_getElem? (i := 1) rfl) 0 rfl rfl dX3_kept_13 ?_
  refine y_get C in_X3_kept_2 (ci := 2) rfl 1 (by decide) (List.mem_of_getElem? (i := 2) rfl) 5 rfl rfl dX3_kept_16 ?_
  refine y_iload_n C 1 dX3_kept_19 rfl rfl ?_
  refine y_iald C (q0 := 6) (t0 := 0) rfl rfl (by decide) (by omega) dX3_kept_20 ?_
  exact K _ _ _ _ _ dX3_kept_21 (rfl) (by decide) (by decide)
set_option maxHeartbeats 4000000 in
set_option maxRecDepth 100000 in
theorem c_X3_early_ok (l : Launch) (D : va_G) (cI : ClassId) (aC : Nat → Nat) (aJ : Nat → Nat) (tc tl : Nat → Int32) (mi eb hd : Int32) (hs : Nat → Int32) (ig ct : Int32) (aS : Nat → Nat) (kp ea la ns ne ts te da de eo dn io : Nat → Int32) (aP : Nat → Nat) (E : Nat) (vs dp : Nat → Int32) (B : Nat) (sz cd : Nat → Nat) (M : Nat) (fr tt : Nat → Nat) (f1 f2 : Nat → Int32) (cg : Int32) (b : Nat) (kp2 ea2 la2 ns2 ne2 ts2 te2 da2 de2 eo2 dn2 io2 : Nat → Int32) (hE : E ≤ 8) (hB : B ≤ 40) (hM : M ≤ 80) (hsz : ∀ j, sz j ≤ 12) (hcd : ∀ j, cd j < 24) (hfr : ∀ j, fr j < 40) (htt : ∀ j, tt j < 40) (hcv : ∀ j, cd j % 3 = 2 → cd j / 3 < 6) (hU : upR E dp B sz cd M fr tt f1 cg kp ea la ns ne ts te da de eo dn io kp2 ea2 la2 ns2 ne2 ts2 te2 da2 de2 eo2 dn2 io2) (hb : b < B) : ctI l yX3_early wsX3_early (rmD 4 0 0) D [(cI, .int)] [.ref (aC 0), .int (nI b)] (WC (aC 0) (aP 0) (aS 0) (aJ 0) ++ (WJ cI aJ (aP 0) tc tl mi eb hd hs ig ct ++ (WS cI aS (aP 0) kp ea la ns ne ts te da de eo dn io ++ (WP cI aP E vs dp B sz cd M fr tt f1 f2 cg)))) (WC (aC 0) (aP 0) (aS 0) (aJ 0) ++ (WJ cI aJ (aP 0) tc tl mi eb hd hs ig ct ++ (WS cI aS (aP 0) kp2 ea2 la2 ns2 ne2 ts2 te2 da2 de2 eo2 dn2 io2 ++ (WP cI aP E vs dp B sz cd M fr tt f1 f2 (nI 0))))) (ea2 b) 0 0 := by
  refine ctI_of (by decide) rfl (Nat.le_of_ble_eq_true rfl) ?_
  intro p e s m args below meth c A Q C hnm K
  refine y_lv (lv' := [(0, .ref (aC 0)), (1, .int (nI b))]) rfl ?_
  refine y_aload_n C 0 dX3_early_0 rfl rfl ?_
  refine y_iload_n C 1 dX3_early_1 rfl rfl ?_
  refine y_callV C (wr := []) 1 (c_X3_requireBlock_ok l D cI aC aJ tc tl mi eb hd hs ig ct aS kp ea la ns ne ts te da de eo dn io aP E vs dp B sz cd M fr tt f1 f2 cg b hB hb) gX3_early_X3_requireBlock rfl rfl rfl (by decide +kernel) ⟨Nat.le_of_ble_eq_true rfl, Nat.le_of_ble_eq_true rfl⟩ (q0 := 0) (ci := 3) rfl rfl rfl rfl rfl (Nat.le_of_ble_eq_true rfl) dX3_early_2 ⟨Nat.le_of_ble_eq_true rfl, Nat.le_of_ble_eq_true rfl⟩ ?_
  refine y_ws (ws' := WC (aC 0) (aP 0) (aS 0) (aJ 0) ++ (WJ cI aJ (aP 0) tc tl mi eb hd hs ig ct ++ (WS cI aS (aP 0) kp ea la ns ne ts te da de eo dn io ++ (WP cI aP E vs dp B sz cd M fr tt f1 f2 cg)))) rfl ?_
  refine y_aload_n C 0 dX3_early_5 rfl rfl ?_
  refine y_get C in_X3_early_3 (ci := 3) rfl 1 (by decide) (List.mem_of_getElem? (i := 1) rfl) 0 rfl rfl dX3_early_6 ?_
  refine y_callV C (wr := WC (aC 0) (aP 0) (aS 0) (aJ 0) ++ WJ cI aJ (aP 0) tc tl mi eb hd hs ig ct) 0 (c_X2_bringUpToDate_any l D cI aS kp ea la ns ne ts te da de eo dn io aP E vs dp B sz cd M fr tt f1 f2 cg kp2 ea2 la2 ns2 ne2 ts2 te2 da2 de2 eo2 dn2 io2 hE hB hM hsz hcd hfr htt hcv hU) gX3_early_X2_bringUpToDate rfl rfl rfl (by decide +kernel) ⟨Nat.le_of_ble_eq_true rfl, Nat.le_of_ble_eq_true rfl⟩ (q0 := 0) (ci := 2) rfl rfl (by simp only [List.append_assoc]) rfl rfl (Nat.le_of_ble_eq_true rfl) dX3_early_9 ⟨Nat.le_of_ble_eq_true rfl, Nat.le_of_ble_eq_true rfl⟩ ?_
  refine y_ws (ws' := WC (aC 0) (aP 0) (aS 0) (aJ 0) ++ (WJ cI aJ (aP 0) tc tl mi eb hd hs ig ct ++ (WS cI aS (aP 0) kp2 ea2 la2 ns2 ne2 ts2 te2 da2 de2 eo2 dn2 io2 ++ (WP cI aP E vs dp B sz cd M fr tt f1 f2 (nI 0))))) (by simp only [List.append_assoc]) ?_
  refine y_aload_n C 0 dX3_early_12 rfl rfl ?_
  refine y_get C in_X3_early_3 (ci := 3) rfl 1 (by decide) (List.mem_of_getElem? (i := 1) rfl) 0 rfl rfl dX3_early_13 ?_
  refine y_get C in_X3_early_2 (ci := 2) rfl 2 (by decide) (List.mem_of_getElem? (i := 2) rfl) 5 rfl rfl dX3_early_16 ?_
  refine y_iload_n C 1 dX3_early_19 rfl rfl ?_
  refine y_iald C (q0 := 7) (t0 := 0) rfl rfl (by decide) (by omega) dX3_early_20 ?_
  exact K _ _ _ _ _ dX3_early_21 (rfl) (by decide) (by decide)
set_option maxHeartbeats 4000000 in
set_option maxRecDepth 100000 in
theorem c_X3_late_ok (l : Launch) (D : va_G) (cI : ClassId) (aC : Nat → Nat) (aJ : Nat → Nat) (tc tl : Nat → Int32) (mi eb hd : Int32) (hs : Nat → Int32) (ig ct : Int32) (aS : Nat → Nat) (kp ea la ns ne ts te da de eo dn io : Nat → Int32) (aP : Nat → Nat) (E : Nat) (vs dp : Nat → Int32) (B : Nat) (sz cd : Nat → Nat) (M : Nat) (fr tt : Nat → Nat) (f1 f2 : Nat → Int32) (cg : Int32) (b : Nat) (kp2 ea2 la2 ns2 ne2 ts2 te2 da2 de2 eo2 dn2 io2 : Nat → Int32) (hE : E ≤ 8) (hB : B ≤ 40) (hM : M ≤ 80) (hsz : ∀ j, sz j ≤ 12) (hcd : ∀ j, cd j < 24) (hfr : ∀ j, fr j < 40) (htt : ∀ j, tt j < 40) (hcv : ∀ j, cd j % 3 = 2 → cd j / 3 < 6) (hU : upR E dp B sz cd M fr tt f1 cg kp ea la ns ne ts te da de eo dn io kp2 ea2 la2 ns2 ne2 ts2 te2 da2 de2 eo2 dn2 io2) (hb : b < B) : ctI l yX3_late wsX3_late (rmD 4 0 0) D [(cI, .int)] [.ref (aC 0), .int (nI b)] (WC (aC 0) (aP 0) (aS 0) (aJ 0) ++ (WJ cI aJ (aP 0) tc tl mi eb hd hs ig ct ++ (WS cI aS (aP 0) kp ea la ns ne ts te da de eo dn io ++ (WP cI aP E vs dp B sz cd M fr tt f1 f2 cg)))) (WC (aC 0) (aP 0) (aS 0) (aJ 0) ++ (WJ cI aJ (aP 0) tc tl mi eb hd hs ig ct ++ (WS cI aS (aP 0) kp2 ea2 la2 ns2 ne2 ts2 te2 da2 de2 eo2 dn2 io2 ++ (WP cI aP E vs dp B sz cd M fr tt f1 f2 (nI 0))))) (la2 b) 0 0 := by
  refine ctI_of (by decide) rfl (Nat.le_of_ble_eq_true rfl) ?_
  intro p e s m args below meth c A Q C hnm K
  refine y_lv (lv' := [(0, .ref (aC 0)), (1, .int (nI b))]) rfl ?_
  refine y_aload_n C 0 dX3_late_0 rfl rfl ?_
  refine y_iload_n C 1 dX3_late_1 rfl rfl ?_
  refine y_callV C (wr := []) 1 (c_X3_requireBlock_ok l D cI aC aJ tc tl mi eb hd hs ig ct aS kp ea la ns ne ts te da de eo dn io aP E vs dp B sz cd M fr tt f1 f2 cg b hB hb) gX3_late_X3_requireBlock rfl rfl rfl (by decide +kernel) ⟨Nat.le_of_ble_eq_true rfl, Nat.le_of_ble_eq_true rfl⟩ (q0 := 0) (ci := 3) rfl rfl rfl rfl rfl (Nat.le_of_ble_eq_true rfl) dX3_late_2 ⟨Nat.le_of_ble_eq_true rfl, Nat.le_of_ble_eq_true rfl⟩ ?_
  refine y_ws (ws' := WC (aC 0) (aP 0) (aS 0) (aJ 0) ++ (WJ cI aJ (aP 0) tc tl mi eb hd hs ig ct ++ (WS cI aS (aP 0) kp ea la ns ne ts te da de eo dn io ++ (WP cI aP E vs dp B sz cd M fr tt f1 f2 cg)))) rfl ?_
  refine y_aload_n C 0 dX3_late_5 rfl rfl ?_
  refine y_get C in_X3_late_3 (ci := 3) rfl 1 (by decide) (List.mem_of_getElem? (i := 1) rfl) 0 rfl rfl dX3_late_6 ?_
  refine y_callV C (wr := WC (aC 0) (aP 0) (aS 0) (aJ 0) ++ WJ cI aJ (aP 0) tc tl mi eb hd hs ig ct) 0 (c_X2_bringUpToDate_any l D cI aS kp ea la ns ne ts te da de eo dn io aP E vs dp B sz cd M fr tt f1 f2 cg kp2 ea2 la2 ns2 ne2 ts2 te2 da2 de2 eo2 dn2 io2 hE hB hM hsz hcd hfr htt hcv hU) gX3_late_X2_bringUpToDate rfl rfl rfl (by decide +kernel) ⟨Nat.le_of_ble_eq_true rfl, Nat.le_of_ble_eq_true rfl⟩ (q0 := 0) (ci := 2) rfl rfl (by simp only [List.append_assoc]) rfl rfl (Nat.le_of_ble_eq_true rfl) dX3_late_9 ⟨Nat.le_of_ble_eq_true rfl, Nat.le_of_ble_eq_true rfl⟩ ?_
  refine y_ws (ws' := WC (aC 0) (aP 0) (aS 0) (aJ 0) ++ (WJ cI aJ (aP 0) tc tl mi eb hd hs ig ct ++ (WS cI aS (aP 0) kp2 ea2 la2 ns2 ne2 ts2 te2 da2 de2 eo2 dn2 io2 ++ (WP cI aP E vs dp B sz cd M fr tt f1 f2 (nI 0))))) (by simp only [List.append_assoc]) ?_
  refine y_aload_n C 0 dX3_late_12 rfl rfl ?_
  refine y_get C in_X3_late_3 (ci := 3) rfl 1 (by decide) (List.mem_of_getElem? (i := 1) rfl) 0 rfl rfl dX3_late_13 ?_
  refine y_get C in_X3_late_2 (ci := 2) rfl 3 (by decide) (List.mem_of_getElem? (i := 2) rfl) 5 rfl rfl dX3_late_16 ?_
  refine y_iload_n C 1 dX3_late_19 rfl rfl ?_
  refine y_iald C (q0 := 8) (t0 := 0) rfl rfl (by decide) (by omega) dX3_late_20 ?_
  exact K _ _ _ _ _ dX3_late_21 (rfl) (by decide) (by decide)
set_option maxHeartbeats 4000000 in
set_option maxRecDepth 100000 in
theorem c_X3_delayedAt_ok (l : Launch) (D : va_G) (cI : ClassId) (aC : Nat → Nat) (aJ : Nat → Nat) (tc tl : Nat → Int32) (mi eb hd : Int32) (hs : Nat → Int32) (ig ct : Int32) (aS : Nat → Nat) (kp ea la ns ne ts te da de eo dn io : Nat → Int32) (aP : Nat → Nat) (E : Nat) (vs dp : Nat → Int32) (B : Nat) (sz cd : Nat → Nat) (M : Nat) (fr tt : Nat → Nat) (f1 f2 : Nat → Int32) (cg : Int32) (b : Nat) (kp2 ea2 la2 ns2 ne2 ts2 te2 da2 de2 eo2 dn2 io2 : Nat → Int32) (hE : E ≤ 8) (hB : B ≤ 40) (hM : M ≤ 80) (hsz : ∀ j, sz j ≤ 12) (hcd : ∀ j, cd j < 24) (hfr : ∀ j, fr j < 40) (htt : ∀ j, tt j < 40) (hcv : ∀ j, cd j % 3 = 2 → cd j / 3 < 6) (hU : upR E dp B sz cd M fr tt f1 cg kp ea la ns ne ts te da de eo dn io kp2 ea2 la2 ns2 ne2 ts2 te2 da2 de2 eo2 dn2 io2) (hb : b < B) : ctI l yX3_delayedAt wsX3_delayedAt (rmD 4 0 0) D [(cI, .int)] [.ref (aC 0), .int (nI b)] (WC (aC 0) (aP 0) (aS 0) (aJ 0) ++ (WJ cI aJ (aP 0) tc tl mi eb hd hs ig ct ++ (WS cI aS (aP 0) kp ea la ns ne ts te da de eo dn io ++ (WP cI aP E vs dp B sz cd M fr tt f1 f2 cg)))) (WC (aC 0) (aP 0) (aS 0) (aJ 0) ++ (WJ cI aJ (aP 0) tc tl mi eb hd hs ig ct ++ (WS cI aS (aP 0) kp2 ea2 la2 ns2 ne2 ts2 te2 da2 de2 eo2 dn2 io2 ++ (WP cI aP E vs dp B sz cd M fr tt f1 f2 (nI 0))))) (da2 b) 0 0 := by
  refine ctI_of (by decide) rfl (Nat.le_of_ble_eq_true rfl) ?_
  intro p e s m args below meth c A Q C hnm K
  refine y_lv (lv' := [(0, .ref (aC 0)), (1, .int (nI b))]) rfl ?_
  refine y_aload_n C 0 dX3_delayedAt_0 rfl rfl ?_
  refine y_iload_n C 1 dX3_delayedAt_1 rfl rfl ?_
  refine y_callV C (wr := []) 1 (c_X3_requireBlock_ok l D cI aC aJ tc tl mi eb hd hs ig ct aS kp ea la ns ne ts te da de eo dn io aP E vs dp B sz cd M fr tt f1 f2 cg b hB hb) gX3_delayedAt_X3_requireBlock rfl rfl rfl (by decide +kernel) ⟨Nat.le_of_ble_eq_true rfl, Nat.le_of_ble_eq_true rfl⟩ (q0 := 0) (ci := 3) rfl rfl rfl rfl rfl (Nat.le_of_ble_eq_true rfl) dX3_delayedAt_2 ⟨Nat.le_of_ble_eq_true rfl, Nat.le_of_ble_eq_true rfl⟩ ?_
  refine y_ws (ws' := WC (aC 0) (aP 0) (aS 0) (aJ 0) ++ (WJ cI aJ (aP 0) tc tl mi eb hd hs ig ct ++ (WS cI aS (aP 0) kp ea la ns ne ts te da de eo dn io ++ (WP cI aP E vs dp B sz cd M fr tt f1 f2 cg)))) rfl ?_
  refine y_aload_n C 0 dX3_delayedAt_5 rfl rfl ?_
  refine y_get C in_X3_delayedAt_3 (ci := 3) rfl 1 (by decide) (List.mem_of_getElem? (i := 1) rfl) 0 rfl rfl dX3_delayedAt_6 ?_
  refine y_callV C (wr := WC (aC 0) (aP 0) (aS 0) (aJ 0) ++ WJ cI aJ (aP 0) tc tl mi eb hd hs ig ct) 0 (c_X2_bringUpToDate_any l D cI aS kp ea la ns ne ts te da de eo dn io aP E vs dp B sz cd M fr tt f1 f2 cg kp2 ea2 la2 ns2 ne2 ts2 te2 da2 de2 eo2 dn2 io2 hE hB hM hsz hcd hfr htt hcv hU) gX3_delayedAt_X2_bringUpToDate rfl rfl rfl (by decide +kernel) ⟨Nat.le_of_ble_eq_true rfl, Nat.le_of_ble_eq_true rfl⟩ (q0 := 0) (ci := 2) rfl rfl (by simp only [List.append_assoc]) rfl rfl (Nat.le_of_ble_eq_true rfl) dX3_delayedAt_9 ⟨Nat.le_of_ble_eq_true rfl, Nat.le_of_ble_eq_true rfl⟩ ?_
  refine y_ws (ws' := WC (aC 0) (aP 0) (aS 0) (aJ 0) ++ (WJ cI aJ (aP 0) tc tl mi eb hd hs ig ct ++ (WS cI aS (aP 0) kp2 ea2 la2 ns2 ne2 ts2 te2 da2 de2 eo2 dn2 io2 ++ (WP cI aP E vs dp B sz cd M fr tt f1 f2 (nI 0))))) (by simp only [List.append_assoc]) ?_
  refine y_aload_n C 0 dX3_delayedAt_12 rfl rfl ?_
  refine y_get C in_X3_delayedAt_3 (ci := 3) rfl 1 (by decide) (List.mem_of_getElem? (i := 1) rfl) 0 rfl rfl dX3_delayedAt_13 ?_
  refine y_get C in_X3_delayedAt_2 (ci := 2) rfl 8 (by decide) (List.mem_of_getElem? (i := 2) rfl) 5 rfl rfl dX3_delayedAt_16 ?_
  refine y_iload_n C 1 dX3_delayedAt_19 rfl rfl ?_
  refine y_iald C (q0 := 13) (t0 := 0) rfl rfl (by decide) (by omega) dX3_delayedAt_20 ?_
  exact K _ _ _ _ _ dX3_delayedAt_21 (rfl) (by decide) (by decide)
set_option maxHeartbeats 4000000 in
set_option maxRecDepth 100000 in
theorem c_X3_deletions_ok (l : Launch) (D : va_G) (cI : ClassId) (aC : Nat → Nat) (aJ : Nat → Nat) (tc tl : Nat → Int32) (mi eb hd : Int32) (hs : Nat → Int32) (ig ct : Int32) (aS : Nat → Nat) (kp ea la ns ne ts te da de eo dn io : Nat → Int32) (aP : Nat → Nat) (E : Nat) (vs dp : Nat → Int32) (B : Nat) (sz cd : Nat → Nat) (M : Nat) (fr tt : Nat → Nat) (f1 f2 : Nat → Int32) (cg : Int32) (b : Nat) (kp2 ea2 la2 ns2 ne2 ts2 te2 da2 de2 eo2 dn2 io2 : Nat → Int32) (hE : E ≤ 8) (hB : B ≤ 40) (hM : M ≤ 80) (hsz : ∀ j, sz j ≤ 12) (hcd : ∀ j, cd j < 24) (hfr : ∀ j, fr j < 40) (htt : ∀ j, tt j < 40) (hcv : ∀ j, cd j % 3 = 2 → cd j / 3 < 6) (hU : upR E dp B sz cd M fr tt f1 cg kp ea la ns ne ts te da de eo dn io kp2 ea2 la2 ns2 ne2 ts2 te2 da2 de2 eo2 dn2 io2) (hb : b < B) : ctI l yX3_deletions wsX3_deletions (rmD 4 0 0) D [(cI, .int)] [.ref (aC 0), .int (nI b)] (WC (aC 0) (aP 0) (aS 0) (aJ 0) ++ (WJ cI aJ (aP 0) tc tl mi eb hd hs ig ct ++ (WS cI aS (aP 0) kp ea la ns ne ts te da de eo dn io ++ (WP cI aP E vs dp B sz cd M fr tt f1 f2 cg)))) (WC (aC 0) (aP 0) (aS 0) (aJ 0) ++ (WJ cI aJ (aP 0) tc tl mi eb hd hs ig ct ++ (WS cI aS (aP 0) kp2 ea2 la2 ns2 ne2 ts2 te2 da2 de2 eo2 dn2 io2 ++ (WP cI aP E vs dp B sz cd M fr tt f1 f2 (nI 0))))) (de2 b) 0 0 := by
  refine ctI_of (by decide) rfl (Nat.le_of_ble_eq_true rfl) ?_
  intro p e s m args below meth c A Q C hnm K
  refine y_lv (lv' := [(0, .ref (aC 0)), (1, .int (nI b))]) rfl ?_
  refine y_aload_n C 0 dX3_deletions_0 rfl rfl ?_
  refine y_iload_n C 1 dX3_deletions_1 rfl rfl ?_
  refine y_callV C (wr := []) 1 (c_X3_requireBlock_ok l D cI aC aJ tc tl mi eb hd hs ig ct aS kp ea la ns ne ts te da de eo dn io aP E vs dp B sz cd M fr tt f1 f2 cg b hB hb) gX3_deletions_X3_requireBlock rfl rfl rfl (by decide +kernel) ⟨Nat.le_of_ble_eq_true rfl, Nat.le_of_ble_eq_true rfl⟩ (q0 := 0) (ci := 3) rfl rfl rfl rfl rfl (Nat.le_of_ble_eq_true rfl) dX3_deletions_2 ⟨Nat.le_of_ble_eq_true rfl, Nat.le_of_ble_eq_true rfl⟩ ?_
  refine y_ws (ws' := WC (aC 0) (aP 0) (aS 0) (aJ 0) ++ (WJ cI aJ (aP 0) tc tl mi eb hd hs ig ct ++ (WS cI aS (aP 0) kp ea la ns ne ts te da de eo dn io ++ (WP cI aP E vs dp B sz cd M fr tt f1 f2 cg)))) rfl ?_
  refine y_aload_n C 0 dX3_deletions_5 rfl rfl ?_
  refine y_get C in_X3_deletions_3 (ci := 3) rfl 1 (by decide) (List.mem_of_getElem? (i := 1) rfl) 0 rfl rfl dX3_deletions_6 ?_
  refine y_callV C (wr := WC (aC 0) (aP 0) (aS 0) (aJ 0) ++ WJ cI aJ (aP 0) tc tl mi eb hd hs ig ct) 0 (c_X2_bringUpToDate_any l D cI aS kp ea la ns ne ts te da de eo dn io aP E vs dp B sz cd M fr tt f1 f2 cg kp2 ea2 la2 ns2 ne2 ts2 te2 da2 de2 eo2 dn2 io2 hE hB hM hsz hcd hfr htt hcv hU) gX3_deletions_X2_bringUpToDate rfl rfl rfl (by decide +kernel) ⟨Nat.le_of_ble_eq_true rfl, Nat.le_of_ble_eq_true rfl⟩ (q0 := 0) (ci := 2) rfl rfl (by simp only [List.append_assoc]) rfl rfl (Nat.le_of_ble_eq_true rfl) dX3_deletions_9 ⟨Nat.le_of_ble_eq_true rfl, Nat.le_of_ble_eq_true rfl⟩ ?_
  refine y_ws (ws' := WC (aC 0) (aP 0) (aS 0) (aJ 0) ++ (WJ cI aJ (aP 0) tc tl mi eb hd hs ig ct ++ (WS cI aS (aP 0) kp2 ea2 la2 ns2 ne2 ts2 te2 da2 de2 eo2 dn2 io2 ++ (WP cI aP E vs dp B sz cd M fr tt f1 f2 (nI 0))))) (by simp only [List.append_assoc]) ?_
  refine y_aload_n C 0 dX3_deletions_12 rfl rfl ?_
  refine y_get C in_X3_deletions_3 (ci := 3) rfl 1 (by decide) (List.mem_of_getElem? (i := 1) rfl) 0 rfl rfl dX3_deletions_13 ?_
  refine y_get C in_X3_deletions_2 (ci := 2) rfl 9 (by decide) (List.mem_of_getElem? (i := 2) rfl) 5 rfl rfl dX3_deletions_16 ?_
  refine y_iload_n C 1 dX3_deletions_19 rfl rfl ?_
  refine y_iald C (q0 := 14) (t0 := 0) rfl rfl (by decide) (by omega) dX3_deletions_20 ?_
  exact K _ _ _ _ _ dX3_deletions_21 (rfl) (by decide) (by decide)
set_option maxHeartbeats 4000000 in
set_option maxRecDepth 100000 in
theorem c_X3_earliest_ok (l : Launch) (D : va_G) (cI : ClassId) (aC : Nat → Nat) (aJ : Nat → Nat) (tc tl : Nat → Int32) (mi eb hd : Int32) (hs : Nat → Int32) (ig ct : Int32) (aS : Nat → Nat) (kp ea la ns ne ts te da de eo dn io : Nat → Int32) (aP : Nat → Nat) (E : Nat) (vs dp : Nat → Int32) (B : Nat) (sz cd : Nat → Nat) (M : Nat) (fr tt : Nat → Nat) (f1 f2 : Nat → Int32) (cg : Int32) (b : Nat) (kp2 ea2 la2 ns2 ne2 ts2 te2 da2 de2 eo2 dn2 io2 : Nat → Int32) (hE : E ≤ 8) (hB : B ≤ 40) (hM : M ≤ 80) (hsz : ∀ j, sz j ≤ 12) (hcd : ∀ j, cd j < 24) (hfr : ∀ j, fr j < 40) (htt : ∀ j, tt j < 40) (hcv : ∀ j, cd j % 3 = 2 → cd j / 3 < 6) (hU : upR E dp B sz cd M fr tt f1 cg kp ea la ns ne ts te da de eo dn io kp2 ea2 la2 ns2 ne2 ts2 te2 da2 de2 eo2 dn2 io2) (hb : b < M) : ctI l yX3_earliest wsX3_earliest (rmD 4 0 0) D [(cI, .int)] [.ref (aC 0), .int (nI b)] (WC (aC 0) (aP 0) (aS 0) (aJ 0) ++ (WJ cI aJ (aP 0) tc tl mi eb hd hs ig ct ++ (WS cI aS (aP 0) kp ea la ns ne ts te da de eo dn io ++ (WP cI aP E vs dp B sz cd M fr tt f1 f2 cg)))) (WC (aC 0) (aP 0) (aS 0) (aJ 0) ++ (WJ cI aJ (aP 0) tc tl mi eb hd hs ig ct ++ (WS cI aS (aP 0) kp2 ea2 la2 ns2 ne2 ts2 te2 da2 de2 eo2 dn2 io2 ++ (WP cI aP E vs dp B sz cd M fr tt f1 f2 (nI 0))))) (eo2 b) 0 0 := by
  refine ctI_of (by decide) rfl (Nat.le_of_ble_eq_true rfl) ?_
  intro p e s m args below meth c A Q C hnm K
  refine y_lv (lv' := [(0, .ref (aC 0)), (1, .int (nI b))]) rfl ?_
  refine y_aload_n C 0 dX3_earliest_0 rfl rfl ?_
  refine y_iload_n C 1 dX3_earliest_1 rfl rfl ?_
  refine y_callV C (wr := []) 1 (c_X3_requireEdge_ok l D cI aC aJ tc tl mi eb hd hs ig ct aS kp ea la ns ne ts te da de eo dn io aP E vs dp B sz cd M fr tt f1 f2 cg b hM hb) gX3_earliest_X3_requireEdge rfl rfl rfl (by decide +kernel) ⟨Nat.le_of_ble_eq_true rfl, Nat.le_of_ble_eq_true rfl⟩ (q0 := 0) (ci := 3) rfl rfl rfl rfl rfl (Nat.le_of_ble_eq_true rfl) dX3_earliest_2 ⟨Nat.le_of_ble_eq_true rfl, Nat.le_of_ble_eq_true rfl⟩ ?_
  refine y_ws (ws' := WC (aC 0) (aP 0) (aS 0) (aJ 0) ++ (WJ cI aJ (aP 0) tc tl mi eb hd hs ig ct ++ (WS cI aS (aP 0) kp ea la ns ne ts te da de eo dn io ++ (WP cI aP E vs dp B sz cd M fr tt f1 f2 cg)))) rfl ?_
  refine y_aload_n C 0 dX3_earliest_5 rfl rfl ?_
  refine y_get C in_X3_earliest_3 (ci := 3) rfl 1 (by decide) (List.mem_of_getElem? (i := 1) rfl) 0 rfl rfl dX3_earliest_6 ?_
  refine y_callV C (wr := WC (aC 0) (aP 0) (aS 0) (aJ 0) ++ WJ cI aJ (aP 0) tc tl mi eb hd hs ig ct) 0 (c_X2_bringUpToDate_any l D cI aS kp ea la ns ne ts te da de eo dn io aP E vs dp B sz cd M fr tt f1 f2 cg kp2 ea2 la2 ns2 ne2 ts2 te2 da2 de2 eo2 dn2 io2 hE hB hM hsz hcd hfr htt hcv hU) gX3_earliest_X2_bringUpToDate rfl rfl rfl (by decide +kernel) ⟨Nat.le_of_ble_eq_true rfl, Nat.le_of_ble_eq_true rfl⟩ (q0 := 0) (ci := 2) rfl rfl (by simp only [List.append_assoc]) rfl rfl (Nat.le_of_ble_eq_true rfl) dX3_earliest_9 ⟨Nat.le_of_ble_eq_true rfl, Nat.le_of_ble_eq_true rfl⟩ ?_
  refine y_ws (ws' := WC (aC 0) (aP 0) (aS 0) (aJ 0) ++ (WJ cI aJ (aP 0) tc tl mi eb hd hs ig ct ++ (WS cI aS (aP 0) kp2 ea2 la2 ns2 ne2 ts2 te2 da2 de2 eo2 dn2 io2 ++ (WP cI aP E vs dp B sz cd M fr tt f1 f2 (nI 0))))) (by simp only [List.append_assoc]) ?_
  refine y_aload_n C 0 dX3_earliest_12 rfl rfl ?_
  refine y_get C in_X3_earliest_3 (ci := 3) rfl 1 (by decide) (List.mem_of_getElem? (i := 1) rfl) 0 rfl rfl dX3_earliest_13 ?_
  refine y_get C in_X3_earliest_2 (ci := 2) rfl 10 (by decide) (List.mem_of_getElem? (i := 2) rfl) 5 rfl rfl dX3_earliest_16 ?_
  refine y_iload_n C 1 dX3_earliest_19 rfl rfl ?_
  refine y_iald C (q0 := 15) (t0 := 0) rfl rfl (by decide) (by omega) dX3_earliest_20 ?_
  exact K _ _ _ _ _ dX3_earliest_21 (rfl) (by decide) (by decide)
set_option maxHeartbeats 4000000 in
set_option maxRecDepth 100000 in
theorem c_X3_delayedOn_ok (l : Launch) (D : va_G) (cI : ClassId) (aC : Nat → Nat) (aJ : Nat → Nat) (tc tl : Nat → Int32) (mi eb hd : Int32) (hs : Nat → Int32) (ig ct : Int32) (aS : Nat → Nat) (kp ea la ns ne ts te da de eo dn io : Nat → Int32) (aP : Nat → Nat) (E : Nat) (vs dp : Nat → Int32) (B : Nat) (sz cd : Nat → Nat) (M : Nat) (fr tt : Nat → Nat) (f1 f2 : Nat → Int32) (cg : Int32) (b : Nat) (kp2 ea2 la2 ns2 ne2 ts2 te2 da2 de2 eo2 dn2 io2 : Nat → Int32) (hE : E ≤ 8) (hB : B ≤ 40) (hM : M ≤ 80) (hsz : ∀ j, sz j ≤ 12) (hcd : ∀ j, cd j < 24) (hfr : ∀ j, fr j < 40) (htt : ∀ j, tt j < 40) (hcv : ∀ j, cd j % 3 = 2 → cd j / 3 < 6) (hU : upR E dp B sz cd M fr tt f1 cg kp ea la ns ne ts te da de eo dn io kp2 ea2 la2 ns2 ne2 ts2 te2 da2 de2 eo2 dn2 io2) (hb : b < M) : ctI l yX3_delayedOn wsX3_delayedOn (rmD 4 0 0) D [(cI, .int)] [.ref (aC 0), .int (nI b)] (WC (aC 0) (aP 0) (aS 0) (aJ 0) ++ (WJ cI aJ (aP 0) tc tl mi eb hd hs ig ct ++ (WS cI aS (aP 0) kp ea la ns ne ts te da de eo dn io ++ (WP cI aP E vs dp B sz cd M fr tt f1 f2 cg)))) (WC (aC 0) (aP 0) (aS 0) (aJ 0) ++ (WJ cI aJ (aP 0) tc tl mi eb hd hs ig ct ++ (WS cI aS (aP 0) kp2 ea2 la2 ns2 ne2 ts2 te2 da2 de2 eo2 dn2 io2 ++ (WP cI aP E vs dp B sz cd M fr tt f1 f2 (nI 0))))) (dn2 b) 0 0 := by
  refine ctI_of (by decide) rfl (Nat.le_of_ble_eq_true rfl) ?_
  intro p e s m args below meth c A Q C hnm K
  refine y_lv (lv' := [(0, .ref (aC 0)), (1, .int (nI b))]) rfl ?_
  refine y_aload_n C 0 dX3_delayedOn_0 rfl rfl ?_
  refine y_iload_n C 1 dX3_delayedOn_1 rfl rfl ?_
  refine y_callV C (wr := []) 1 (c_X3_requireEdge_ok l D cI aC aJ tc tl mi eb hd hs ig ct aS kp ea la ns ne ts te da de eo dn io aP E vs dp B sz cd M fr tt f1 f2 cg b hM hb) gX3_delayedOn_X3_requireEdge rfl rfl rfl (by decide +kernel) ⟨Nat.le_of_ble_eq_true rfl, Nat.le_of_ble_eq_true rfl⟩ (q0 := 0) (ci := 3) rfl rfl rfl rfl rfl (Nat.le_of_ble_eq_true rfl) dX3_delayedOn_2 ⟨Nat.le_of_ble_eq_true rfl, Nat.le_of_ble_eq_true rfl⟩ ?_
  refine y_ws (ws' := WC (aC 0) (aP 0) (aS 0) (aJ 0) ++ (WJ cI aJ (aP 0) tc tl mi eb hd hs ig ct ++ (WS cI aS (aP 0) kp ea la ns ne ts te da de eo dn io ++ (WP cI aP E vs dp B sz cd M fr tt f1 f2 cg)))) rfl ?_
  refine y_aload_n C 0 dX3_delayedOn_5 rfl rfl ?_
  refine y_get C in_X3_delayedOn_3 (ci := 3) rfl 1 (by decide) (List.mem_of_getElem? (i := 1) rfl) 0 rfl rfl dX3_delayedOn_6 ?_
  refine y_callV C (wr := WC (aC 0) (aP 0) (aS 0) (aJ 0) ++ WJ cI aJ (aP 0) tc tl mi eb hd hs ig ct) 0 (c_X2_bringUpToDate_any l D cI aS kp ea la ns ne ts te da de eo dn io aP E vs dp B sz cd M fr tt f1 f2 cg kp2 ea2 la2 ns2 ne2 ts2 te2 da2 de2 eo2 dn2 io2 hE hB hM hsz hcd hfr htt hcv hU) gX3_delayedOn_X2_bringUpToDate rfl rfl rfl (by decide +kernel) ⟨Nat.le_of_ble_eq_true rfl, Nat.le_of_ble_eq_true rfl⟩ (q0 := 0) (ci := 2) rfl rfl (by simp only [List.append_assoc]) rfl rfl (Nat.le_of_ble_eq_true rfl) dX3_delayedOn_9 ⟨Nat.le_of_ble_eq_true rfl, Nat.le_of_ble_eq_true rfl⟩ ?_
  refine y_ws (ws' := WC (aC 0) (aP 0) (aS 0) (aJ 0) ++ (WJ cI aJ (aP 0) tc tl mi eb hd hs ig ct ++ (WS cI aS (aP 0) kp2 ea2 la2 ns2 ne2 ts2 te2 da2 de2 eo2 dn2 io2 ++ (WP cI aP E vs dp B sz cd M fr tt f1 f2 (nI 0))))) (by simp only [List.append_assoc]) ?_
  refine y_aload_n C 0 dX3_delayedOn_12 rfl rfl ?_
  refine y_get C in_X3_delayedOn_3 (ci := 3) rfl 1 (by decide) (List.mem_of_getElem? (i := 1) rfl) 0 rfl rfl dX3_delayedOn_13 ?_
  refine y_get C in_X3_delayedOn_2 (ci := 2) rfl 11 (by decide) (List.mem_of_getElem? (i := 2) rfl) 5 rfl rfl dX3_delayedOn_16 ?_
  refine y_iload_n C 1 dX3_delayedOn_19 rfl rfl ?_
  refine y_iald C (q0 := 16) (t0 := 0) rfl rfl (by decide) (by omega) dX3_delayedOn_20 ?_
  exact K _ _ _ _ _ dX3_delayedOn_21 (rfl) (by decide) (by decide)
set_option maxHeartbeats 4000000 in
set_option maxRecDepth 100000 in
theorem c_X3_insertions_ok (l : Launch) (D : va_G) (cI : ClassId) (aC : Nat → Nat) (aJ : Nat → Nat) (tc tl : Nat → Int32) (mi eb hd : Int32) (hs : Nat → Int32) (ig ct : Int32) (aS : Nat → Nat) (kp ea la ns ne ts te da de eo dn io : Nat → Int32) (aP : Nat → Nat) (E : Nat) (vs dp : Nat → Int32) (B : Nat) (sz cd : Nat → Nat) (M : Nat) (fr tt : Nat → Nat) (f1 f2 : Nat → Int32) (cg : Int32) (b : Nat) (kp2 ea2 la2 ns2 ne2 ts2 te2 da2 de2 eo2 dn2 io2 : Nat → Int32) (hE : E ≤ 8) (hB : B ≤ 40) (hM : M ≤ 80) (hsz : ∀ j, sz j ≤ 12) (hcd : ∀ j, cd j < 24) (hfr : ∀ j, fr j < 40) (htt : ∀ j, tt j < 40) (hcv : ∀ j, cd j % 3 = 2 → cd j / 3 < 6) (hU : upR E dp B sz cd M fr tt f1 cg kp ea la ns ne ts te da de eo dn io kp2 ea2 la2 ns2 ne2 ts2 te2 da2 de2 eo2 dn2 io2) (hb : b < M) : ctI l yX3_insertions wsX3_insertions (rmD 4 0 0) D [(cI, .int)] [.ref (aC 0), .int (nI b)] (WC (aC 0) (aP 0) (aS 0) (aJ 0) ++ (WJ cI aJ (aP 0) tc tl mi eb hd hs ig ct ++ (WS cI aS (aP 0) kp ea la ns ne ts te da de eo dn io ++ (WP cI aP E vs dp B sz cd M fr tt f1 f2 cg)))) (WC (aC 0) (aP 0) (aS 0) (aJ 0) ++ (WJ cI aJ (aP 0) tc tl mi eb hd hs ig ct ++ (WS cI aS (aP 0) kp2 ea2 la2 ns2 ne2 ts2 te2 da2 de2 eo2 dn2 io2 ++ (WP cI aP E vs dp B sz cd M fr tt f1 f2 (nI 0))))) (io2 b) 0 0 := by
  refine ctI_of (by decide) rfl (Nat.le_of_ble_eq_true rfl) ?_
  intro p e s m args below meth c A Q C hnm K
  refine y_lv (lv' := [(0, .ref (aC 0)), (1, .int (nI b))]) rfl ?_
  refine y_aload_n C 0 dX3_insertions_0 rfl rfl ?_
  refine y_iload_n C 1 dX3_insertions_1 rfl rfl ?_
  refine y_callV C (wr := []) 1 (c_X3_requireEdge_ok l D cI aC aJ tc tl mi eb hd hs ig ct aS kp ea la ns ne ts te da de eo dn io aP E vs dp B sz cd M fr tt f1 f2 cg b hM hb) gX3_insertions_X3_requireEdge rfl rfl rfl (by decide +kernel) ⟨Nat.le_of_ble_eq_true rfl, Nat.le_of_ble_eq_true rfl⟩ (q0 := 0) (ci := 3) rfl rfl rfl rfl rfl (Nat.le_of_ble_eq_true rfl) dX3_insertions_2 ⟨Nat.le_of_ble_eq_true rfl, Nat.le_of_ble_eq_true rfl⟩ ?_
  refine y_ws (ws' := WC (aC 0) (aP 0) (aS 0) (aJ 0) ++ (WJ cI aJ (aP 0) tc tl mi eb hd hs ig ct ++ (WS cI aS (aP 0) kp ea la ns ne ts te da de eo dn io ++ (WP cI aP E vs dp B sz cd M fr tt f1 f2 cg)))) rfl ?_
  refine y_aload_n C 0 dX3_insertions_5 rfl rfl ?_
  refine y_get C in_X3_insertions_3 (ci := 3) rfl 1 (by decide) (List.mem_of_getElem? (i := 1) rfl) 0 rfl rfl dX3_insertions_6 ?_
  refine y_callV C (wr := WC (aC 0) (aP 0) (aS 0) (aJ 0) ++ WJ cI aJ (aP 0) tc tl mi eb hd hs ig ct) 0 (c_X2_bringUpToDate_any l D cI aS kp ea la ns ne ts te da de eo dn io aP E vs dp B sz cd M fr tt f1 f2 cg kp2 ea2 la2 ns2 ne2 ts2 te2 da2 de2 eo2 dn2 io2 hE hB hM hsz hcd hfr htt hcv hU) gX3_insertions_X2_bringUpToDate rfl rfl rfl (by decide +kernel) ⟨Nat.le_of_ble_eq_true rfl, Nat.le_of_ble_eq_true rfl⟩ (q0 := 0) (ci := 2) rfl rfl (by simp only [List.append_assoc]) rfl rfl (Nat.le_of_ble_eq_true rfl) dX3_insertions_9 ⟨Nat.le_of_ble_eq_true rfl, Nat.le_of_ble_eq_true rfl⟩ ?_
  refine y_ws (ws' := WC (aC 0) (aP 0) (aS 0) (aJ 0) ++ (WJ cI aJ (aP 0) tc tl mi eb hd hs ig ct ++ (WS cI aS (aP 0) kp2 ea2 la2 ns2 ne2 ts2 te2 da2 de2 eo2 dn2 io2 ++ (WP cI aP E vs dp B sz cd M fr tt f1 f2 (nI 0))))) (by simp only [List.append_assoc]) ?_
  refine y_aload_n C 0 dX3_insertions_12 rfl rfl ?_
  refine y_get C in_X3_insertions_3 (ci := 3) rfl 1 (by decide) (List.mem_of_getElem? (i := 1) rfl) 0 rfl rfl dX3_insertions_13 ?_
  refine y_get C in_X3_insertions_2 (ci := 2) rfl 12 (by decide) (List.mem_of_getElem? (i := 2) rfl) 5 rfl rfl dX3_insertions_16 ?_
  refine y_iload_n C 1 dX3_insertions_19 rfl rfl ?_
  refine y_iald C (q0 := 17) (t0 := 0) rfl rfl (by decide) (by omega) dX3_insertions_20 ?_
  exact K _ _ _ _ _ dX3_insertions_21 (rfl) (by decide) (by decide)
set_option maxHeartbeats 4000000 in
set_option maxRecDepth 100000 in
theorem c_X3_needed_ok (l : Launch) (D : va_G) (cI : ClassId) (aC : Nat → Nat) (aJ : Nat → Nat) (tc tl : Nat → Int32) (mi eb hd : Int32) (hs : Nat → Int32) (ig ct : Int32) (aS : Nat → Nat) (kp ea la ns ne ts te da de eo dn io : Nat → Int32) (aP : Nat → Nat) (E : Nat) (vs dp : Nat → Int32) (B : Nat) (sz cd : Nat → Nat) (M : Nat) (fr tt : Nat → Nat) (f1 f2 : Nat → Int32) (cg : Int32) (b z : Nat) (kp2 ea2 la2 ns2 ne2 ts2 te2 da2 de2 eo2 dn2 io2 : Nat → Int32) (hE : E ≤ 8) (hB : B ≤ 40) (hM : M ≤ 80) (hsz : ∀ j, sz j ≤ 12) (hcd : ∀ j, cd j < 24) (hfr : ∀ j, fr j < 40) (htt : ∀ j, tt j < 40) (hcv : ∀ j, cd j % 3 = 2 → cd j / 3 < 6) (hU : upR E dp B sz cd M fr tt f1 cg kp ea la ns ne ts te da de eo dn io kp2 ea2 la2 ns2 ne2 ts2 te2 da2 de2 eo2 dn2 io2) (hb : b < B) (hz : z ≤ 1) : ctI l yX3_needed wsX3_needed (rmD 4 0 0) D [(cI, .int)] [.ref (aC 0), .int (nI b), .int (nI z)] (WC (aC 0) (aP 0) (aS 0) (aJ 0) ++ (WJ cI aJ (aP 0) tc tl mi eb hd hs ig ct ++ (WS cI aS (aP 0) kp ea la ns ne ts te da de eo dn io ++ (WP cI aP E vs dp B sz cd M fr tt f1 f2 cg)))) (WC (aC 0) (aP 0) (aS 0) (aJ 0) ++ (WJ cI aJ (aP 0) tc tl mi eb hd hs ig ct ++ (WS cI aS (aP 0) kp2 ea2 la2 ns2 ne2 ts2 te2 da2 de2 eo2 dn2 io2 ++ (WP cI aP E vs dp B sz cd M fr tt f1 f2 (nI 0))))) (if z = 0 then ns2 b else ne2 b) 0 0 := by
  refine ctI_of (by decide) rfl (Nat.le_of_ble_eq_true rfl) ?_
  intro p e s m args below meth c A Q C hnm K
  refine y_lv (lv' := [(0, .ref (aC 0)), (1, .int (nI b)), (2, .int (nI z))]) rfl ?_
  refine y_aload_n C 0 dX3_needed_0 rfl rfl ?_
  refine y_iload_n C 1 dX3_needed_1 rfl rfl ?_
  refine y_callV C (wr := []) 1 (c_X3_requireBlock_ok l D cI aC aJ tc tl mi eb hd hs ig ct aS kp ea la ns ne ts te da de eo dn io aP E vs dp B sz cd M fr tt f1 f2 cg b hB hb) gX3_needed_X3_requireBlock rfl rfl rfl (by decide +kernel) ⟨Nat.le_of_ble_eq_true rfl, Nat.le_of_ble_eq_true rfl⟩ (q0 := 0) (ci := 3) rfl rfl rfl rfl rfl (Nat.le_of_ble_eq_true rfl) dX3_needed_2 ⟨Nat.le_of_ble_eq_true rfl, Nat.le_of_ble_eq_true rfl⟩ ?_
  refine y_ws (ws' := WC (aC 0) (aP 0) (aS 0) (aJ 0) ++ (WJ cI aJ (aP 0) tc tl mi eb hd hs ig ct ++ (WS cI aS (aP 0) kp ea la ns ne ts te da de eo dn io ++ (WP cI aP E vs dp B sz cd M fr tt f1 f2 cg)))) rfl ?_
  refine y_aload_n C 0 dX3_needed_5 rfl rfl ?_
  refine y_get C in_X3_needed_3 (ci := 3) rfl 1 (by decide) (List.mem_of_getElem? (i := 1) rfl) 0 rfl rfl dX3_needed_6 ?_
  refine y_callV C (wr := WC (aC 0) (aP 0) (aS 0) (aJ 0) ++ WJ cI aJ (aP 0) tc tl mi eb hd hs ig ct) 0 (c_X2_bringUpToDate_any l D cI aS kp ea la ns ne ts te da de eo dn io aP E vs dp B sz cd M fr tt f1 f2 cg kp2 ea2 la2 ns2 ne2 ts2 te2 da2 de2 eo2 dn2 io2 hE hB hM hsz hcd hfr htt hcv hU) gX3_needed_X2_bringUpToDate rfl rfl rfl (by decide +kernel) ⟨Nat.le_of_ble_eq_true rfl, Nat.le_of_ble_eq_true rfl⟩ (q0 := 0) (ci := 2) rfl rfl (by simp only [List.append_assoc]) rfl rfl (Nat.le_of_ble_eq_true rfl) dX3_needed_9 ⟨Nat.le_of_ble_eq_true rfl, Nat.le_of_ble_eq_true rfl⟩ ?_
  refine y_ws (ws' := WC (aC 0) (aP 0) (aS 0) (aJ 0) ++ (WJ cI aJ (aP 0) tc tl mi eb hd hs ig ct ++ (WS cI aS (aP 0) kp2 ea2 la2 ns2 ne2 ts2 te2 da2 de2 eo2 dn2 io2 ++ (WP cI aP E vs dp B sz cd M fr tt f1 f2 (nI 0))))) (by simp only [List.append_assoc]) ?_
  refine y_iload_n C 2 dX3_needed_12 rfl rfl ?_
  refine y_ifN_eq C (tgt := 28) dX3_needed_13 (by decide) (by have := hz; omega) (fun h13 => ?_) (fun h13 => ?_)
  · skip
    refine y_aload_n C 0 dX3_needed_28 rfl rfl ?_
    refine y_get C in_X3_needed_3 (ci := 3) rfl 1 (by decide) (List.mem_of_getElem? (i := 1) rfl) 0 rfl rfl dX3_needed_29 ?_
    refine y_get C in_X3_needed_2 (ci := 2) rfl 4 (by decide) (List.mem_of_getElem? (i := 3) rfl) 5 rfl rfl dX3_needed_32 ?_
    refine y_iload_n C 1 dX3_needed_35 rfl rfl ?_
    refine y_iald C (q0 := 9) (t0 := 0) rfl rfl (by decide) (by omega) dX3_needed_36 ?_
    exact K _ _ _ _ _ dX3_needed_37 (by simp [h13]) (by decide) (by decide)
  · skip
    refine y_aload_n C 0 dX3_needed_16 rfl rfl ?_
    refine y_get C in_X3_needed_3 (ci := 3) rfl 1 (by decide) (List.mem_of_getElem? (i := 1) rfl) 0 rfl rfl dX3_needed_17 ?_
    refine y_get C in_X3_needed_2 (ci := 2) rfl 5 (by decide) (List.mem_of_getElem? (i := 2) rfl) 5 rfl rfl dX3_needed_20 ?_
    refine y_iload_n C 1 dX3_needed_23 rfl rfl ?_
    refine y_iald C (q0 := 10) (t0 := 0) rfl rfl (by decide) (by omega) dX3_needed_24 ?_
    refine y_goto C (tgt := 37) dX3_needed_25 (by decide) ?_
    exact K _ _ _ _ _ dX3_needed_37 (by simp [h13]) (by decide) (by decide)
set_option maxHeartbeats 4000000 in
set_option maxRecDepth 100000 in
theorem c_X3_there_ok (l : Launch) (D : va_G) (cI : ClassId) (aC : Nat → Nat) (aJ : Nat → Nat) (tc tl : Nat → Int32) (mi eb hd : Int32) (hs : Nat → Int32) (ig ct : Int32) (aS : Nat → Nat) (kp ea la ns ne ts te da de eo dn io : Nat → Int32) (aP : Nat → Nat) (E : Nat) (vs dp : Nat → Int32) (B : Nat) (sz cd : Nat → Nat) (M : Nat) (fr tt : Nat → Nat) (f1 f2 : Nat → Int32) (cg : Int32) (b z : Nat) (kp2 ea2 la2 ns2 ne2 ts2 te2 da2 de2 eo2 dn2 io2 : Nat → Int32) (hE : E ≤ 8) (hB : B ≤ 40) (hM : M ≤ 80) (hsz : ∀ j, sz j ≤ 12) (hcd : ∀ j, cd j < 24) (hfr : ∀ j, fr j < 40) (htt : ∀ j, tt j < 40) (hcv : ∀ j, cd j % 3 = 2 → cd j / 3 < 6) (hU : upR E dp B sz cd M fr tt f1 cg kp ea la ns ne ts te da de eo dn io kp2 ea2 la2 ns2 ne2 ts2 te2 da2 de2 eo2 dn2 io2) (hb : b < B) (hz : z ≤ 1) : ctI l yX3_there wsX3_there (rmD 4 0 0) D [(cI, .int)] [.ref (aC 0), .int (nI b), .int (nI z)] (WC (aC 0) (aP 0) (aS 0) (aJ 0) ++ (WJ cI aJ (aP 0) tc tl mi eb hd hs ig ct ++ (WS cI aS (aP 0) kp ea la ns ne ts te da de eo dn io ++ (WP cI aP E vs dp B sz cd M fr tt f1 f2 cg)))) (WC (aC 0) (aP 0) (aS 0) (aJ 0) ++ (WJ cI aJ (aP 0) tc tl mi eb hd hs ig ct ++ (WS cI aS (aP 0) kp2 ea2 la2 ns2 ne2 ts2 te2 da2 de2 eo2 dn2 io2 ++ (WP cI aP E vs dp B sz cd M fr tt f1 f2 (nI 0))))) (if z = 0 then ts2 b else te2 b) 0 0 := by
  refine ctI_of (by decide) rfl (Nat.le_of_ble_eq_true rfl) ?_
  intro p e s m args below meth c A Q C hnm K
  refine y_lv (lv' := [(0, .ref (aC 0)), (1, .int (nI b)), (2, .int (nI z))]) rfl ?_
  refine y_aload_n C 0 dX3_there_0 rfl rfl ?_
  refine y_iload_n C 1 dX3_there_1 rfl rfl ?_
  refine y_callV C (wr := []) 1 (c_X3_requireBlock_ok l D cI aC aJ tc tl mi eb hd hs ig ct aS kp ea la ns ne ts te da de eo dn io aP E vs dp B sz cd M fr tt f1 f2 cg b hB hb) gX3_there_X3_requireBlock rfl rfl rfl (by decide +kernel) ⟨Nat.le_of_ble_eq_true rfl, Nat.le_of_ble_eq_true rfl⟩ (q0 := 0) (ci := 3) rfl rfl rfl rfl rfl (Nat.le_of_ble_eq_true rfl) dX3_there_2 ⟨Nat.le_of_ble_eq_true rfl, Nat.le_of_ble_eq_true rfl⟩ ?_
  refine y_ws (ws' := WC (aC 0) (aP 0) (aS 0) (aJ 0) ++ (WJ cI aJ (aP 0) tc tl mi eb hd hs ig ct ++ (WS cI aS (aP 0) kp ea la ns ne ts te da de eo dn io ++ (WP cI aP E vs dp B sz cd M fr tt f1 f2 cg)))) rfl ?_
  refine y_aload_n C 0 dX3_there_5 rfl rfl ?_
  refine y_get C in_X3_there_3 (ci := 3) rfl 1 (by decide) (List.mem_of_getElem? (i := 1) rfl) 0 rfl rfl dX3_there_6 ?_
  refine y_callV C (wr := WC (aC 0) (aP 0) (aS 0) (aJ 0) ++ WJ cI aJ (aP 0) tc tl mi eb hd hs ig ct) 0 (c_X2_bringUpToDate_any l D cI aS kp ea la ns ne ts te da de eo dn io aP E vs dp B sz cd M fr tt f1 f2 cg kp2 ea2 la2 ns2 ne2 ts2 te2 da2 de2 eo2 dn2 io2 hE hB hM hsz hcd hfr htt hcv hU) gX3_there_X2_bringUpToDate rfl rfl rfl (by decide +kernel) ⟨Nat.le_of_ble_eq_true rfl, Nat.le_of_ble_eq_true rfl⟩ (q0 := 0) (ci := 2) rfl rfl (by simp only [List.append_assoc]) rfl rfl (Nat.le_of_ble_eq_true rfl) dX3_there_9 ⟨Nat.le_of_ble_eq_true rfl, Nat.le_of_ble_eq_true rfl⟩ ?_
  refine y_ws (ws' := WC (aC 0) (aP 0) (aS 0) (aJ 0) ++ (WJ cI aJ (aP 0) tc tl mi eb hd hs ig ct ++ (WS cI aS (aP 0) kp2 ea2 la2 ns2 ne2 ts2 te2 da2 de2 eo2 dn2 io2 ++ (WP cI aP E vs dp B sz cd M fr tt f1 f2 (nI 0))))) (by simp only [List.append_assoc]) ?_
  refine y_iload_n C 2 dX3_there_12 rfl rfl ?_
  refine y_ifN_eq C (tgt := 28) dX3_there_13 (by decide) (by have := hz; omega) (fun h13 => ?_) (fun h13 => ?_)
  · skip
    refine y_aload_n C 0 dX3_there_28 rfl rfl ?_
    refine y_get C in_X3_there_3 (ci := 3) rfl 1 (by decide) (List.mem_of_getElem? (i := 1) rfl) 0 rfl rfl dX3_there_29 ?_
    refine y_get C in_X3_there_2 (ci := 2) rfl 6 (by decide) (List.mem_of_getElem? (i := 3) rfl) 5 rfl rfl dX3_there_32 ?_
    refine y_iload_n C 1 dX3_there_35 rfl rfl ?_
    refine y_iald C (q0 := 11) (t0 := 0) rfl rfl (by decide) (by omega) dX3_there_36 ?_
    exact K _ _ _ _ _ dX3_there_37 (by simp [h13]) (by decide) (by decide)
  · skip
    refine y_aload_n C 0 dX3_there_16 rfl rfl ?_
    refine y_get C in_X3_there_3 (ci := 3) rfl 1 (by decide) (List.mem_of_getElem? (i := 1) rfl) 0 rfl rfl dX3_there_17 ?_
    refine y_get C in_X3_there_2 (ci := 2) rfl 7 (by decide) (List.mem_of_getElem? (i := 2) rfl) 5 rfl rfl dX3_there_20 ?_
    refine y_iload_n C 1 dX3_there_23 rfl rfl ?_
    refine y_iald C (q0 := 12) (t0 := 0) rfl rfl (by decide) (by omega) dX3_there_24 ?_
    refine y_goto C (tgt := 37) dX3_there_25 (by decide) ?_
    exact K _ _ _ _ _ dX3_there_37 (by simp [h13]) (by decide) (by decide)
theorem in_X3_blockCount_1 : ∀ w ∈ wsX10, w ∈ wsX3_blockCount := fun _ h => List.mem_cons_of_mem _ (List.mem_append_right _ h)
theorem in_X3_blockCount_3 : ∀ w ∈ wsX30, w ∈ wsX3_blockCount := fun _ h => List.mem_cons_of_mem _ (List.mem_append_left _ (List.mem_append_right _ h))
set_option maxHeartbeats 4000000 in
set_option maxRecDepth 100000 in
theorem c_X3_blockCount (l : Launch) (D : va_G) (cI : ClassId) (aC : Nat → Nat) (aJ : Nat → Nat) (tc tl : Nat → Int32) (mi eb hd : Int32) (hs : Nat → Int32) (ig ct : Int32) (aS : Nat → Nat) (kp ea la ns ne ts te da de eo dn io : Nat → Int32) (aP : Nat → Nat) (E : Nat) (vs dp : Nat → Int32) (B : Nat) (sz cd : Nat → Nat) (M : Nat) (fr tt : Nat → Nat) (f1 f2 : Nat → Int32) (cg : Int32)  : ctI l yX3_blockCount wsX3_blockCount (rmD 0 0 0) D [(cI, .int)] [.ref (aC 0)] (WC (aC 0) (aP 0) (aS 0) (aJ 0) ++ (WJ cI aJ (aP 0) tc tl mi eb hd hs ig ct ++ (WS cI aS (aP 0) kp ea la ns ne ts te da de eo dn io ++ (WP cI aP E vs dp B sz cd M fr tt f1 f2 cg)))) (WC (aC 0) (aP 0) (aS 0) (aJ 0) ++ (WJ cI aJ (aP 0) tc tl mi eb hd hs ig ct ++ (WS cI aS (aP 0) kp ea la ns ne ts te da de eo dn io ++ (WP cI aP E vs dp B sz cd M fr tt f1 f2 cg)))) (nI B) 0 0 := by
  refine ctI_of (by decide) rfl (Nat.le_of_ble_eq_true rfl) ?_
  intro p e s m args below meth c A Q C hnm K
  refine y_lv (lv' := [(0, .ref (aC 0))]) rfl ?_
  refine y_aload_n C 0 dX3_blockCount_0 rfl rfl ?_
  refine y_get C in_X3_blockCount_3 (ci := 3) rfl 0 (by decide) (List.mem_of_getElem? (i := 1) rfl) 0 rfl rfl dX3_blockCount_1 ?_
  refine y_get C in_X3_blockCount_1 (ci := 1) rfl 3 (by decide) (List.mem_of_getElem? (i := 2) rfl) 18 rfl rfl dX3_blockCount_4 ?_
  exact K _ _ _ _ _ dX3_blockCount_7 (rfl) (by decide) (by decide)
theorem in_X3_edgeCount_1 : ∀ w ∈ wsX10, w ∈ wsX3_edgeCount := fun _ h => List.mem_cons_of_mem _ (List.mem_append_right _ h)
theorem in_X3_edgeCount_3 : ∀ w ∈ wsX30, w ∈ wsX3_edgeCount := fun _ h => List.mem_cons_of_mem _ (List.mem_append_left _ (List.mem_append_right _ h))
set_option maxHeartbeats 4000000 in
set_option maxRecDepth 100000 in
theorem c_X3_edgeCount (l : Launch) (D : va_G) (cI : ClassId) (aC : Nat → Nat) (aJ : Nat → Nat) (tc tl : Nat → Int32) (mi eb hd : Int32) (hs : Nat → Int32) (ig ct : Int32) (aS : Nat → Nat) (kp ea la ns ne ts te da de eo dn io : Nat → Int32) (aP : Nat → Nat) (E : Nat) (vs dp : Nat → Int32) (B : Nat) (sz cd : Nat → Nat) (M : Nat) (fr tt : Nat → Nat) (f1 f2 : Nat → Int32) (cg : Int32)  : ctI l yX3_edgeCount wsX3_edgeCount (rmD 0 0 0) D [(cI, .int)] [.ref (aC 0)] (WC (aC 0) (aP 0) (aS 0) (aJ 0) ++ (WJ cI aJ (aP 0) tc tl mi eb hd hs ig ct ++ (WS cI aS (aP 0) kp ea la ns ne ts te da de eo dn io ++ (WP cI aP E vs dp B sz cd M fr tt f1 f2 cg)))) (WC (aC 0) (aP 0) (aS 0) (aJ 0) ++ (WJ cI aJ (aP 0) tc tl mi eb hd hs ig ct ++ (WS cI aS (aP 0) kp ea la ns ne ts te da de eo dn io ++ (WP cI aP E vs dp B sz cd M fr tt f1 f2 cg)))) (nI M) 0 0 := by
  refine ctI_of (by decide) rfl (Nat.le_of_ble_eq_true rfl) ?_
  intro p e s m args below meth c A Q C hnm K
  refine y_lv (lv' := [(0, .ref (aC 0))]) rfl ?_
  refine y_aload_n C 0 dX3_edgeCount_0 rfl rfl ?_
  refine y_get C in_X3_edgeCount_3 (ci := 3) rfl 0 (by decide) (List.mem_of_getElem? (i := 1) rfl) 0 rfl rfl dX3_edgeCount_1 ?_
  refine y_get C in_X3_edgeCount_1 (ci := 1) rfl 6 (by decide) (List.mem_of_getElem? (i := 2) rfl) 18 rfl rfl dX3_edgeCount_4 ?_
  exact K _ _ _ _ _ dX3_edgeCount_7 (rfl) (by decide) (by decide)
theorem in_X3_misses_0 : ∀ w ∈ wsX00, w ∈ wsX3_misses := fun _ h => List.mem_cons_of_mem _ (List.mem_append_right _ h)
theorem in_X3_misses_3 : ∀ w ∈ wsX30, w ∈ wsX3_misses := fun _ h => List.mem_cons_of_mem _ (List.mem_append_left _ (List.mem_append_right _ h))
set_option maxHeartbeats 4000000 in
set_option maxRecDepth 100000 in
theorem c_X3_misses (l : Launch) (D : va_G) (cI : ClassId) (aC : Nat → Nat) (aJ : Nat → Nat) (tc tl : Nat → Int32) (mi eb hd : Int32) (hs : Nat → Int32) (ig ct : Int32) (aS : Nat → Nat) (kp ea la ns ne ts te da de eo dn io : Nat → Int32) (aP : Nat → Nat) (E : Nat) (vs dp : Nat → Int32) (B : Nat) (sz cd : Nat → Nat) (M : Nat) (fr tt : Nat → Nat) (f1 f2 : Nat → Int32) (cg : Int32)  : ctI l yX3_misses wsX3_misses (rmD 0 0 0) D [(cI, .int)] [.ref (aC 0)] (WC (aC 0) (aP 0) (aS 0) (aJ 0) ++ (WJ cI aJ (aP 0) tc tl mi eb hd hs ig ct ++ (WS cI aS (aP 0) kp ea la ns ne ts te da de eo dn io ++ (WP cI aP E vs dp B sz cd M fr tt f1 f2 cg)))) (WC (aC 0) (aP 0) (aS 0) (aJ 0) ++ (WJ cI aJ (aP 0) tc tl mi eb hd hs ig ct ++ (WS cI aS (aP 0) kp ea la ns ne ts te da de eo dn io ++ (WP cI aP E vs dp B sz cd M fr tt f1 f2 cg)))) mi 0 0 := by
  refine ctI_of (by decide) rfl (Nat.le_of_ble_eq_true rfl) ?_
  intro p e s m args below meth c A Q C hnm K
  refine y_lv (lv' := [(0, .ref (aC 0))]) rfl ?_
  refine y_aload_n C 0 dX3_misses_0 rfl rfl ?_
  refine y_get C in_X3_misses_3 (ci := 3) rfl 2 (by decide) (List.mem_of_getElem? (i := 1) rfl) 0 rfl rfl dX3_misses_1 ?_
  refine y_get C in_X3_misses_0 (ci := 0) rfl 3 (by decide) (List.mem_of_getElem? (i := 2) rfl) 1 rfl rfl dX3_misses_4 ?_
  exact K _ _ _ _ _ dX3_misses_7 (rfl) (by decide) (by decide)
theorem in_X3_lastBlock_0 : ∀ w ∈ wsX00, w ∈ wsX3_lastBlock := fun _ h => List.mem_cons_of_mem _ (List.mem_append_right _ h)
theorem in_X3_lastBlock_3 : ∀ w ∈ wsX30, w ∈ wsX3_lastBlock := fun _ h => List.mem_cons_of_mem _ (List.mem_append_left _ (List.mem_append_right _ h))
set_option maxHeartbeats 4000000 in
set_option maxRecDepth 100000 in
theorem c_X3_lastBlock (l : Launch) (D : va_G) (cI : ClassId) (aC : Nat → Nat) (aJ : Nat → Nat) (tc tl : Nat → Int32) (mi eb hd : Int32) (hs : Nat → Int32) (ig ct : Int32) (aS : Nat → Nat) (kp ea la ns ne ts te da de eo dn io : Nat → Int32) (aP : Nat → Nat) (E : Nat) (vs dp : Nat → Int32) (B : Nat) (sz cd : Nat → Nat) (M : Nat) (fr tt : Nat → Nat) (f1 f2 : Nat → Int32) (cg : Int32)  : ctI l yX3_lastBlock wsX3_lastBlock (rmD 0 0 0) D [(cI, .int)] [.ref (aC 0)] (WC (aC 0) (aP 0) (aS 0) (aJ 0) ++ (WJ cI aJ (aP 0) tc tl mi eb hd hs ig ct ++ (WS cI aS (aP 0) kp ea la ns ne ts te da de eo dn io ++ (WP cI aP E vs dp B sz cd M fr tt f1 f2 cg)))) (WC (aC 0) (aP 0) (aS 0) (aJ 0) ++ (WJ cI aJ (aP 0) tc tl mi eb hd hs ig ct ++ (WS cI aS (aP 0) kp ea la ns ne ts te da de eo dn io ++ (WP cI aP E vs dp B sz cd M fr tt f1 f2 cg)))) eb 0 0 := by
  refine ctI_of (by decide) rfl (Nat.le_of_ble_eq_true rfl) ?_
  intro p e s m args below meth c A Q C hnm K
  refine y_lv (lv' := [(0, .ref (aC 0))]) rfl ?_
  refine y_aload_n C 0 dX3_lastBlock_0 rfl rfl ?_
  refine y_get C in_X3_lastBlock_3 (ci := 3) rfl 2 (by decide) (List.mem_of_getElem? (i := 1) rfl) 0 rfl rfl dX3_lastBlock_1 ?_
  refine y_get C in_X3_lastBlock_0 (ci := 0) rfl 4 (by decide) (List.mem_of_getElem? (i := 2) rfl) 1 rfl rfl dX3_lastBlock_4 ?_
  exact K _ _ _ _ _ dX3_lastBlock_7 (rfl) (by decide) (by decide)
set_option maxHeartbeats 4000000 in
set_option maxRecDepth 100000 in
theorem c_X3_computed_ok (l : Launch) (D : va_G) (cI : ClassId) (aC : Nat → Nat) (aJ : Nat → Nat) (tc tl : Nat → Int32) (mi eb hd : Int32) (hs : Nat → Int32) (ig ct : Int32) (aS : Nat → Nat) (kp ea la ns ne ts te da de eo dn io : Nat → Int32) (aP : Nat → Nat) (E : Nat) (vs dp : Nat → Int32) (B : Nat) (sz cd : Nat → Nat) (M : Nat) (fr tt : Nat → Nat) (f1 f2 : Nat → Int32) (cg : Int32) (b : Nat) (hE : E ≤ 8) (hb : b < E) : ctI l yX3_computed wsX3_computed (rmD 1 0 0) D [(cI, .int)] [.ref (aC 0), .int (nI b)] (WC (aC 0) (aP 0) (aS 0) (aJ 0) ++ (WJ cI aJ (aP 0) tc tl mi eb hd hs ig ct ++ (WS cI aS (aP 0) kp ea la ns ne ts te da de eo dn io ++ (WP cI aP E vs dp B sz cd M fr tt f1 f2 cg)))) (WC (aC 0) (aP 0) (aS 0) (aJ 0) ++ (WJ cI aJ (aP 0) tc tl mi eb hd hs ig ct ++ (WS cI aS (aP 0) kp ea la ns ne ts te da de eo dn io ++ (WP cI aP E vs dp B sz cd M fr tt f1 f2 cg)))) (tc b) 0 0 := by
  refine ctI_of (by decide) rfl (Nat.le_of_ble_eq_true rfl) ?_
  intro p e s m args below meth c A Q C hnm K
  refine y_lv (lv' := [(0, .ref (aC 0)), (1, .int (nI b))]) rfl ?_
  refine y_aload_n C 0 dX3_computed_0 rfl rfl ?_
  refine y_iload_n C 1 dX3_computed_1 rfl rfl ?_
  refine y_callV C (wr := []) 1 (c_X3_requireExpression_ok l D cI aC aJ tc tl mi eb hd hs ig ct aS kp ea la ns ne ts te da de eo dn io aP E vs dp B sz cd M fr tt f1 f2 cg b hE hb) gX3_computed_X3_requireExpression rfl rfl rfl (by decide +kernel) ⟨Nat.le_of_ble_eq_true rfl, Nat.le_of_ble_eq_true rfl⟩ (q0 := 0) (ci := 3) rfl rfl rfl rfl rfl (Nat.le_of_ble_eq_true rfl) dX3_computed_2 ⟨Nat.le_of_ble_eq_true rfl, Nat.le_of_ble_eq_true rfl⟩ ?_
  refine y_ws (ws' := WC (aC 0) (aP 0) (aS 0) (aJ 0) ++ (WJ cI aJ (aP 0) tc tl mi eb hd hs ig ct ++ (WS cI aS (aP 0) kp ea la ns ne ts te da de eo dn io ++ (WP cI aP E vs dp B sz cd M fr tt f1 f2 cg)))) rfl ?_
  refine y_aload_n C 0 dX3_computed_5 rfl rfl ?_
  refine y_get C in_X3_computed_3 (ci := 3) rfl 2 (by decide) (List.mem_of_getElem? (i := 1) rfl) 0 rfl rfl dX3_computed_6 ?_
  refine y_get C in_X3_computed_0 (ci := 0) rfl 1 (by decide) (List.mem_of_getElem? (i := 2) rfl) 1 rfl rfl dX3_computed_9 ?_
  refine y_iload_n C 1 dX3_computed_12 rfl rfl ?_
  refine y_iald C (q0 := 2) (t0 := 0) rfl rfl (by decide) (by omega) dX3_computed_13 ?_
  exact K _ _ _ _ _ dX3_computed_14 (rfl) (by decide) (by decide)
set_option maxHeartbeats 4000000 in
set_option maxRecDepth 100000 in
theorem c_X3_heldFor_ok (l : Launch) (D : va_G) (cI : ClassId) (aC : Nat → Nat) (aJ : Nat → Nat) (tc tl : Nat → Int32) (mi eb hd : Int32) (hs : Nat → Int32) (ig ct : Int32) (aS : Nat → Nat) (kp ea la ns ne ts te da de eo dn io : Nat → Int32) (aP : Nat → Nat) (E : Nat) (vs dp : Nat → Int32) (B : Nat) (sz cd : Nat → Nat) (M : Nat) (fr tt : Nat → Nat) (f1 f2 : Nat → Int32) (cg : Int32) (b : Nat) (hE : E ≤ 8) (hb : b < E) : ctI l yX3_heldFor wsX3_heldFor (rmD 1 0 0) D [(cI, .int)] [.ref (aC 0), .int (nI b)] (WC (aC 0) (aP 0) (aS 0) (aJ 0) ++ (WJ cI aJ (aP 0) tc tl mi eb hd hs ig ct ++ (WS cI aS (aP 0) kp ea la ns ne ts te da de eo dn io ++ (WP cI aP E vs dp B sz cd M fr tt f1 f2 cg)))) (WC (aC 0) (aP 0) (aS 0) (aJ 0) ++ (WJ cI aJ (aP 0) tc tl mi eb hd hs ig ct ++ (WS cI aS (aP 0) kp ea la ns ne ts te da de eo dn io ++ (WP cI aP E vs dp B sz cd M fr tt f1 f2 cg)))) (tl b) 0 0 := by
  refine ctI_of (by decide) rfl (Nat.le_of_ble_eq_true rfl) ?_
  intro p e s m args below meth c A Q C hnm K
  refine y_lv (lv' := [(0, .ref (aC 0)), (1, .int (nI b))]) rfl ?_
  refine y_aload_n C 0 dX3_heldFor_0 rfl rfl ?_
  refine y_iload_n C 1 dX3_heldFor_1 rfl rfl ?_
  refine y_callV C (wr := []) 1 (c_X3_requireExpression_ok l D cI aC aJ tc tl mi eb hd hs ig ct aS kp ea la ns ne ts te da de eo dn io aP E vs dp B sz cd M fr tt f1 f2 cg b hE hb) gX3_heldFor_X3_requireExpression rfl rfl rfl (by decide +kernel) ⟨Nat.le_of_ble_eq_true rfl, Nat.le_of_ble_eq_true rfl⟩ (q0 := 0) (ci := 3) rfl rfl rfl rfl rfl (Nat.le_of_ble_eq_true rfl) dX3_heldFor_2 ⟨Nat.le_of_ble_eq_true rfl, Nat.le_of_ble_eq_true rfl⟩ ?_
  refine y_ws (ws' := WC (aC 0) (aP 0) (aS 0) (aJ 0) ++ (WJ cI aJ (aP 0) tc tl mi eb hd hs ig ct ++ (WS cI aS (aP 0) kp ea la ns ne ts te da de eo dn io ++ (WP cI aP E vs dp B sz cd M fr tt f1 f2 cg)))) rfl ?_
  refine y_aload_n C 0 dX3_heldFor_5 rfl rfl ?_
  refine y_get C in_X3_heldFor_3 (ci := 3) rfl 2 (by decide) (List.mem_of_getElem? (i := 1) rfl) 0 rfl rfl dX3_heldFor_6 ?_
  refine y_get C in_X3_heldFor_0 (ci := 0) rfl 2 (by decide) (List.mem_of_getElem? (i := 2) rfl) 1 rfl rfl dX3_heldFor_9 ?_
  refine y_iload_n C 1 dX3_heldFor_12 rfl rfl ?_
  refine y_iald C (q0 := 3) (t0 := 0) rfl rfl (by decide) (by omega) dX3_heldFor_13 ?_
  exact K _ _ _ _ _ dX3_heldFor_14 (rfl) (by decide) (by decide)
theorem in_X3_digest_0 : ∀ w ∈ wsX00, w ∈ wsX3_digest := fun _ h => List.mem_cons_of_mem _ (List.mem_append_left _ (List.mem_append_right _ h))
theorem in_X3_digest_1 : ∀ w ∈ wsX10, w ∈ wsX3_digest := fun _ h => List.mem_cons_of_mem _ (List.mem_append_right _ h)
theorem in_X3_digest_3 : ∀ w ∈ wsX30, w ∈ wsX3_digest := fun _ h => List.mem_cons_of_mem _ (List.mem_append_left _ (List.mem_append_left _ (List.mem_append_right _ h)))
set_option maxHeartbeats 4000000 in
set_option maxRecDepth 100000 in
theorem c_X3_digest (l : Launch) (D : va_G) (cI : ClassId) (aC : Nat → Nat) (aJ : Nat → Nat) (tc tl : Nat → Int32) (mi eb hd : Int32) (hs : Nat → Int32) (ig ct : Int32) (aS : Nat → Nat) (kp ea la ns ne ts te da de eo dn io : Nat → Int32) (aP : Nat → Nat) (E : Nat) (vs dp : Nat → Int32) (B : Nat) (sz cd : Nat → Nat) (M : Nat) (fr tt : Nat → Nat) (f1 f2 : Nat → Int32) (cg : Int32) (hE : E ≤ 8) (hB : B ≤ 40) (hM : M ≤ 80) (hsz : ∀ j, sz j ≤ 12) (hcd : ∀ j, cd j < 24) (hfr : ∀ j, fr j < 40) (htt : ∀ j, tt j < 40) : ctL l yX3_digest wsX3_digest (rmD 2 0 0) D [(cI, .int)] [.ref (aC 0)] (WC (aC 0) (aP 0) (aS 0) (aJ 0) ++ (WJ cI aJ (aP 0) tc tl mi eb hd hs ig ct ++ (WS cI aS (aP 0) kp ea la ns ne ts te da de eo dn io ++ (WP cI aP E vs dp B sz cd M fr tt f1 f2 cg)))) (WC (aC 0) (aP 0) (aS 0) (aJ 0) ++ (WJ cI aJ (aP 0) tc tl mi eb hd hs ig ct ++ (WS cI aS (aP 0) kp ea la ns ne ts te da de eo dn io ++ (WP cI aP E vs dp B sz cd M fr tt f1 f2 cg)))) ((dgM E vs B sz cd M fr tt M * 31 + mi.toInt64) * 31 + eb.toInt64) 0 0 := by
  refine ctL_of (by decide) rfl (Nat.le_of_ble_eq_true rfl) ?_
  intro p e s m args below meth c A Q C hnm K
  refine y_lv (lv' := [(0, .ref (aC 0))]) rfl ?_
  refine y_aload_n C 0 dX3_digest_0 rfl rfl ?_
  refine y_get C in_X3_digest_3 (ci := 3) rfl 0 (by decide) (List.mem_of_getElem? (i := 1) rfl) 0 rfl rfl dX3_digest_1 ?_
  refine y_ldc2 C (List.mem_of_getElem? (i := 2) rfl) dX3_digest_4 ?_
  refine y_callL C (wr := WC (aC 0) (aP 0) (aS 0) (aJ 0) ++ WJ cI aJ (aP 0) tc tl mi eb hd hs ig ct ++ WS cI aS (aP 0) kp ea la ns ne ts te da de eo dn io) 1 (c_X1_addToChecksum l D cI aP E vs dp B sz cd M fr tt f1 f2 cg hE hB hM hsz hcd hfr htt) gX3_digest_X1_addToChecksum rfl rfl rfl (by decide +kernel) ⟨Nat.le_of_ble_eq_true rfl, Nat.le_of_ble_eq_true rfl⟩ (q0 := 0) (ci := 1) rfl rfl (by simp only [List.append_assoc]) rfl rfl (Nat.le_of_ble_eq_true rfl) dX3_digest_7 ⟨Nat.le_of_ble_eq_true rfl, Nat.le_of_ble_eq_true rfl⟩ ?_
  refine y_ws (ws' := WC (aC 0) (aP 0) (aS 0) (aJ 0) ++ (WJ cI aJ (aP 0) tc tl mi eb hd hs ig ct ++ (WS cI aS (aP 0) kp ea la ns ne ts te da de eo dn io ++ (WP cI aP E vs dp B sz cd M fr tt f1 f2 cg)))) (by simp only [List.append_assoc]) ?_
  refine y_lstore_n C (lv' := [(1, .long (dgM E vs B sz cd M fr tt M)), (0, .ref (aC 0))]) dX3_digest_10 rfl (by decide) rfl ?_
  refine y_lload_n C 0 dX3_digest_11 rfl rfl ?_
  refine y_ldc2 C (List.mem_of_getElem? (i := 3) rfl) dX3_digest_12 ?_
  refine y_lmul C dX3_digest_15 ?_
  refine y_aload_n C 1 dX3_digest_16 rfl rfl ?_
  refine y_get C in_X3_digest_3 (ci := 3) rfl 2 (by decide) (List.mem_of_getElem? (i := 4) rfl) 0 rfl rfl dX3_digest_17 ?_
  refine y_get C in_X3_digest_0 (ci := 0) rfl 3 (by decide) (List.mem_of_getElem? (i := 5) rfl) 1 rfl rfl dX3_digest_20 ?_
  refine y_i2l C dX3_digest_23 rfl ?_
  refine y_ladd C dX3_digest_24 ?_
  refine y_lstore_n C (lv' := [(1, .long (((dgM E vs B sz cd M fr tt M) * ((31 : Int64))) + mi.toInt64)), (0, .ref (aC 0))]) dX3_digest_25 rfl (by decide) rfl ?_
  refine y_lload_n C 0 dX3_digest_26 rfl rfl ?_
  refine y_ldc2 C (List.mem_of_getElem? (i := 3) rfl) dX3_digest_27 ?_
  refine y_lmul C dX3_digest_30 ?_
  refine y_aload_n C 1 dX3_digest_31 rfl rfl ?_
  refine y_get C in_X3_digest_3 (ci := 3) rfl 2 (by decide) (List.mem_of_getElem? (i := 4) rfl) 0 rfl rfl dX3_digest_32 ?_
  refine y_get C in_X3_digest_0 (ci := 0) rfl 4 (by decide) (List.mem_of_getElem? (i := 6) rfl) 1 rfl rfl dX3_digest_35 ?_
  refine y_i2l C dX3_digest_38 rfl ?_
  refine y_ladd C dX3_digest_39 ?_
  exact K _ _ _ _ _ dX3_digest_40 (rfl) (by decide) (by decide)
theorem in_X3_walk_0 : ∀ w ∈ wsX00, w ∈ wsX3_walk := fun _ h => List.mem_cons_of_mem _ (List.mem_append_left _ (List.mem_append_left _ (List.mem_append_right _ h)))
theorem in_X3_walk_1 : ∀ w ∈ wsX10, w ∈ wsX3_walk := fun _ h => List.mem_cons_of_mem _ (List.mem_append_left _ (List.mem_append_right _ h))
theorem in_X3_walk_3 : ∀ w ∈ wsX30, w ∈ wsX3_walk := fun _ h => List.mem_cons_of_mem _ (List.mem_append_left _ (List.mem_append_left _ (List.mem_append_left _ (List.mem_append_right _ h))))
set_option maxHeartbeats 4000000 in
set_option maxRecDepth 100000 in
theorem c_X3_walk_bad (l : Launch) (hfl : l.stackTraces = false) (sa : Nat → Nat) (D : va_G) (cI : ClassId) (aC : Nat → Nat) (aJ : Nat → Nat) (tc tl : Nat → Int32) (mi eb hd : Int32) (hs : Nat → Int32) (ig ct : Int32) (aS : Nat → Nat) (kp ea la ns ne ts te da de eo dn io : Nat → Int32) (aP : Nat → Nat) (E : Nat) (vs dp : Nat → Int32) (B : Nat) (sz cd : Nat → Nat) (M : Nat) (fr tt : Nat → Nat) (f1 f2 : Nat → Int32) (cg : Int32) (ch : Int64) (t : Int32) (ht : t < nI 1 ∨ ¬ t ≤ nI 1000) : ctX l yX3_walk wsX3_walk (rmD 6 1 6) sa D [(cI, .int)] [.ref (aC 0), .long ch, .int t] (WC (aC 0) (aP 0) (aS 0) (aJ 0) ++ (WJ cI aJ (aP 0) tc tl mi eb hd hs ig ct ++ (WS cI aS (aP 0) kp ea la ns ne ts te da de eo dn io ++ (WP cI aP E vs dp B sz cd M fr tt f1 f2 cg)))) (WC (aC 0) (aP 0) (aS 0) (aJ 0) ++ (WJ cI aJ (aP 0) tc tl mi eb hd hs ig ct ++ (WS cI aS (aP 0) kp ea la ns ne ts te da de eo dn io ++ (WP cI aP E vs dp B sz cd M fr tt f1 f2 cg)))) exA 1 6 := by
  refine ctX_of (by decide) rfl (Nat.le_of_ble_eq_true rfl) ?_
  intro p e s m args below meth c C hnt hE9
  refine y_lv (lv' := [(0, .ref (aC 0)), (1, .long ch), (3, .int t)]) rfl ?_
  refine y_iload_n C 2 dX3_walk_0 rfl rfl ?_
  refine y_iconst C (v := nI 1) dX3_walk_1 (by decide) ?_
  refine y_icmp_lt C (tgt := 12) dX3_walk_2 (by decide)  (fun h2 => ?_) (fun h2 => ?_)
  · skip
    exact y_throw C hfl hE9 hnt (by decide +kernel) (List.mem_of_getElem? (i := 1) rfl) (List.mem_of_getElem? (i := 2) rfl) (List.mem_of_getElem? (i := 11) rfl) (fun _ h => List.mem_cons_of_mem _ (List.mem_append_right _ h)) xg_A xo_A dX3_walk_12 dX3_walk_15 dX3_walk_16 dX3_walk_18 dX3_walk_21 ⟨Nat.le_of_ble_eq_true rfl, Nat.le_of_ble_eq_true rfl⟩ ⟨Nat.le_of_ble_eq_true rfl, Nat.le_of_ble_eq_true rfl⟩ ⟨Nat.le_of_ble_eq_true rfl, Nat.le_of_ble_eq_true rfl⟩ (rfl)
  · skip
    refine y_iload_n C 2 dX3_walk_5 rfl rfl ?_
    refine y_sipush C (v := nI 1000) dX3_walk_6 (by decide) ?_
    refine y_icmp_le C (tgt := 22) dX3_walk_9 (by decide)  (fun h9 => ?_) (fun h9 => ?_)
    · skip
      exact absurd ht (fun q => q.elim h2 (fun z => z h9))
    · skip
      exact y_throw C hfl hE9 hnt (by decide +kernel) (List.mem_of_getElem? (i := 1) rfl) (List.mem_of_getElem? (i := 2) rfl) (List.mem_of_getElem? (i := 11) rfl) (fun _ h => List.mem_cons_of_mem _ (List.mem_append_right _ h)) xg_A xo_A dX3_walk_12 dX3_walk_15 dX3_walk_16 dX3_walk_18 dX3_walk_21 ⟨Nat.le_of_ble_eq_true rfl, Nat.le_of_ble_eq_true rfl⟩ ⟨Nat.le_of_ble_eq_true rfl, Nat.le_of_ble_eq_true rfl⟩ ⟨Nat.le_of_ble_eq_true rfl, Nat.le_of_ble_eq_true rfl⟩ (rfl)
set_option maxHeartbeats 4000000 in
set_option maxRecDepth 100000 in
theorem c_X3_walk_ok (l : Launch) (D : va_G) (cI : ClassId) (aC : Nat → Nat) (aJ : Nat → Nat) (tc tl : Nat → Int32) (mi eb hd : Int32) (hs : Nat → Int32) (ig ct : Int32) (aS : Nat → Nat) (kp ea la ns ne ts te da de eo dn io : Nat → Int32) (aP : Nat → Nat) (E : Nat) (vs dp : Nat → Int32) (B : Nat) (sz cd : Nat → Nat) (M : Nat) (fr tt : Nat → Nat) (f1 f2 : Nat → Int32) (cg : Int32) (ch : Int64) (t : Nat) (tc2 tl2 : Nat → Int32) (mi2 eb2 hd2 : Int32) (hs2 : Nat → Int32) (ig2 ct2 : Int32) (gn2 : Nat) (nx2 : Int32) (hE : E ≤ 8) (hsz : ∀ j, sz j ≤ 12) (hcd : ∀ j, cd j < 24) (htt : ∀ j, tt j < 40) (hcv : ∀ j, cd j % 3 = 2 → cd j / 3 < 6) (hf1 : ∀ b, f1 b = -1 ∨ ∃ q, q < 80 ∧ f1 b = nI q) (hf2 : ∀ b, f2 b = -1 ∨ ∃ q, q < 80 ∧ f2 b = nI q) (ht : 1 ≤ t) (ht2 : t ≤ 1000) (hW : jwF E dp sz cd tt f1 f2 ch t (fillF tc 8 0, fillF tl 8 0, 0, eb, 0, hs, 0, 0, 0, nI 0) = (tc2, tl2, mi2, eb2, hd2, hs2, ig2, ct2, gn2, nx2)) : ctI l yX3_walk wsX3_walk (rmD 3 0 0) D [(cI, .int)] [.ref (aC 0), .long ch, .int (nI t)] (WC (aC 0) (aP 0) (aS 0) (aJ 0) ++ (WJ cI aJ (aP 0) tc tl mi eb hd hs ig ct ++ (WS cI aS (aP 0) kp ea la ns ne ts te da de eo dn io ++ (WP cI aP E vs dp B sz cd M fr tt f1 f2 cg)))) (WC (aC 0) (aP 0) (aS 0) (aJ 0) ++ (WJ cI aJ (aP 0) tc2 (lgF hd2 ig2 hs2 tl2 E) mi2 eb2 (hd2 &&& (hd2 ^^^ -1)) hs2 ig2 ct2 ++ (WS cI aS (aP 0) kp ea la ns ne ts te da de eo dn io ++ (WP cI aP E vs dp B sz cd M fr tt f1 f2 cg)))) (nI gn2) 0 0 := by
  refine ctI_of (by decide) rfl (Nat.le_of_ble_eq_true rfl) ?_
  intro p e s m args below meth c A Q C hnm K
  refine y_lv (lv' := [(0, .ref (aC 0)), (1, .long ch), (3, .int (nI t))]) rfl ?_
  refine y_iload_n C 2 dX3_walk_0 rfl rfl ?_
  refine y_iconst C (v := nI 1) dX3_walk_1 (by decide) ?_
  refine y_icmpN_lt C (tgt := 12) dX3_walk_2 (by decide) (by omega) (by omega) (fun h2 => ?_) (fun h2 => ?_)
  · skip
    exact absurd h2 (by omega)
  · skip
    refine y_iload_n C 2 dX3_walk_5 rfl rfl ?_
    refine y_sipush C (v := nI 1000) dX3_walk_6 (by decide) ?_
    refine y_icmpN_le C (tgt := 22) dX3_walk_9 (by decide) (by omega) (by omega) (fun h9 => ?_) (fun h9 => ?_)
    · skip
      refine y_aload_n C 0 dX3_walk_22 rfl rfl ?_
      refine y_get C in_X3_walk_3 (ci := 3) rfl 2 (by decide) (List.mem_of_getElem? (i := 3) rfl) 0 rfl rfl dX3_walk_23 ?_
      refine y_lload_n C 1 dX3_walk_26 rfl rfl ?_
      refine y_iload_n C 2 dX3_walk_27 rfl rfl ?_
      refine y_mid ?_
      refine y_callI C (wr := WC (aC 0) (aP 0) (aS 0) (aJ 0) ++ WS cI aS (aP 0) kp ea la ns ne ts te da de eo dn io) 2 (c_X0_goThrough l D cI aJ tc tl mi eb hd hs ig ct aP E vs dp B sz cd M fr tt f1 f2 cg ch t tc2 tl2 mi2 eb2 hd2 hs2 ig2 ct2 gn2 nx2 hE hsz hcd htt hcv hf1 hf2 ht2 hW) gX3_walk_X0_goThrough rfl rfl rfl (by decide +kernel) ⟨Nat.le_of_ble_eq_true rfl, Nat.le_of_ble_eq_true rfl⟩ (q0 := 0) (ci := 0) rfl rfl (by simp only [List.append_assoc]) rfl rfl (Nat.le_of_ble_eq_true rfl) dX3_walk_28 ⟨Nat.le_of_ble_eq_true rfl, Nat.le_of_ble_eq_true rfl⟩ ?_
      refine y_ws (ws' := WC (aC 0) (aP 0) (aS 0) (aJ 0) ++ (WS cI aS (aP 0) kp ea la ns ne ts te da de eo dn io ++ (WJ cI aJ (aP 0) tc2 (lgF hd2 ig2 hs2 tl2 E) mi2 eb2 (hd2 &&& (hd2 ^^^ -1)) hs2 ig2 ct2 ++ (WP cI aP E vs dp B sz cd M fr tt f1 f2 cg)))) (by simp only [List.append_assoc]) ?_
      refine y_mid ?_
      refine y_ws (ws' := WC (aC 0) (aP 0) (aS 0) (aJ 0) ++ (WJ cI aJ (aP 0) tc2 (lgF hd2 ig2 hs2 tl2 E) mi2 eb2 (hd2 &&& (hd2 ^^^ -1)) hs2 ig2 ct2 ++ (WS cI aS (aP 0) kp ea la ns ne ts te da de eo dn io ++ (WP cI aP E vs dp B sz cd M fr tt f1 f2 cg)))) rfl ?_
      exact K _ _ _ _ _ dX3_walk_31 (rfl) (by decide) (by decide)
    · skip
      exact absurd h9 (by omega)
theorem in_X3_deleteComputations_1 : ∀ w ∈ wsX10, w ∈ wsX3_deleteComputations := fun _ h => List.mem_cons_of_mem _ (List.mem_append_left _ (List.mem_append_right _ h))
theorem in_X3_deleteComputations_2 : ∀ w ∈ wsX20, w ∈ wsX3_deleteComputations := fun _ h => List.mem_cons_of_mem _ (List.mem_append_right _ h)
theorem in_X3_deleteComputations_3 : ∀ w ∈ wsX30, w ∈ wsX3_deleteComputations := fun _ h => List.mem_cons_of_mem _ (List.mem_append_left _ (List.mem_append_left _ (List.mem_append_right _ h)))
set_option maxHeartbeats 4000000 in
set_option maxRecDepth 100000 in
theorem c_X3_deleteComputations (l : Launch) (D : va_G) (cI : ClassId) (aC : Nat → Nat) (aJ : Nat → Nat) (tc tl : Nat → Int32) (mi eb hd : Int32) (hs : Nat → Int32) (ig ct : Int32) (aS : Nat → Nat) (kp ea la ns ne ts te da de eo dn io : Nat → Int32) (aP : Nat → Nat) (E : Nat) (vs dp : Nat → Int32) (B : Nat) (sz cd : Nat → Nat) (M : Nat) (fr tt : Nat → Nat) (f1 f2 : Nat → Int32) (cg : Int32) (hB : B ≤ 40) (hsz : ∀ j, sz j ≤ 12) (hcd : ∀ j, cd j < 24) : ctV l yX3_deleteComputations wsX3_deleteComputations (rmD 2 0 0) D [(cI, .int)] [.ref (aC 0)] (WC (aC 0) (aP 0) (aS 0) (aJ 0) ++ (WJ cI aJ (aP 0) tc tl mi eb hd hs ig ct ++ (WS cI aS (aP 0) kp ea la ns ne ts te da de eo dn io ++ (WP cI aP E vs dp B sz cd M fr tt f1 f2 cg)))) (WC (aC 0) (aP 0) (aS 0) (aJ 0) ++ (WJ cI aJ (aP 0) tc tl mi eb hd hs ig ct ++ (WS cI aS (aP 0) kp ea la ns ne ts te da de eo dn io ++ (WP cI aP E vs dp B sz ((dlC sz de cd cg B).1) M fr tt f1 f2 ((dlC sz de cd cg B).2))))) 0 0 := by
  refine ctV_of (by decide) rfl (Nat.le_of_ble_eq_true rfl) ?_
  intro p e s m args below meth c A Q C hnm K
  refine y_lv (lv' := [(0, .ref (aC 0))]) rfl ?_
  refine y_iconst C (v := nI 0) dX3_deleteComputations_0 (by decide) ?_
  refine y_istore_n C (lv' := [(1, .int (nI 0)), (0, .ref (aC 0))]) dX3_deleteComputations_1 rfl (by decide) rfl ?_
  have lp2 : ∀ (n2 : Nat) (i : Nat) (u : (Nat → Nat)) (h : Int32), (i ≤ B) → ((u, h) = dlC sz de cd cg i) → (∀ j, u j < 24) → (B - i) < n2 → yW p l e (rmD 2 0 0) s m args below meth c 2 D A Q 0 0 (WC (aC 0) (aP 0) (aS 0) (aJ 0) ++ (WJ cI aJ (aP 0) tc tl mi eb hd hs ig ct ++ (WS cI aS (aP 0) kp ea la ns ne ts te da de eo dn io ++ (WP cI aP E vs dp B sz u M fr tt f1 f2 h)))) 2 [(0, .ref (aC 0)), (1, .int (nI i))] [] := by
    intro n2
    induction n2 with
    | zero => intro i u h hi hT hu hm; exact absurd hm (Nat.not_lt_zero _)
    | succ n2 ih2 =>
      intro i u h hi hT hu hm2
      refine y_iload_n C 1 dX3_deleteComputations_2 rfl rfl ?_
      refine y_aload_n C 0 dX3_deleteComputations_3 rfl rfl ?_
      refine y_get C in_X3_deleteComputations_3 (ci := 3) rfl 0 (by decide) (List.mem_of_getElem? (i := 1) rfl) 0 rfl rfl dX3_deleteComputations_4 ?_
      refine y_get C in_X3_deleteComputations_1 (ci := 1) rfl 3 (by decide) (List.mem_of_getElem? (i := 2) rfl) 18 rfl rfl dX3_deleteComputations_7 ?_
      refine y_icmpN_ge C (tgt := 36) dX3_deleteComputations_10 (by decide) (by omega) (by omega) (fun h10 => ?_) (fun h10 => ?_)
      · skip
        rw [show i = B by omega] at hT
        refine y_ws (ws' := WC (aC 0) (aP 0) (aS 0) (aJ 0) ++ (WJ cI aJ (aP 0) tc tl mi eb hd hs ig ct ++ (WS cI aS (aP 0) kp ea la ns ne ts te da de eo dn io ++ (WP cI aP E vs dp B sz ((dlC sz de cd cg B).1) M fr tt f1 f2 ((dlC sz de cd cg B).2))))) (by rw [← hT]) ?_
        exact K _ _ _ _ dX3_deleteComputations_36 (by decide) (by decide)
      · skip
        refine y_aload_n C 0 dX3_deleteComputations_13 rfl rfl ?_
        refine y_get C in_X3_deleteComputations_3 (ci := 3) rfl 0 (by decide) (List.mem_of_getElem? (i := 1) rfl) 0 rfl rfl dX3_deleteComputations_14 ?_
        refine y_iload_n C 1 dX3_deleteComputations_17 rfl rfl ?_
        refine y_aload_n C 0 dX3_deleteComputations_18 rfl rfl ?_
        refine y_get C in_X3_deleteComputations_3 (ci := 3) rfl 1 (by decide) (List.mem_of_getElem? (i := 3) rfl) 0 rfl rfl dX3_deleteComputations_19 ?_
        refine y_get C in_X3_deleteComputations_2 (ci := 2) rfl 9 (by decide) (List.mem_of_getElem? (i := 4) rfl) 5 rfl rfl dX3_deleteComputations_22 ?_
        refine y_iload_n C 1 dX3_deleteComputations_25 rfl rfl ?_
        refine y_iald C (q0 := 14) (t0 := 0) rfl rfl (by decide) (by omega) dX3_deleteComputations_26 ?_
        refine y_callV C (wr := WC (aC 0) (aP 0) (aS 0) (aJ 0) ++ WJ cI aJ (aP 0) tc tl mi eb hd hs ig ct ++ WS cI aS (aP 0) kp ea la ns ne ts te da de eo dn io) 2 (c_X1_turnFirstComputesToUses l D cI aP E vs dp B sz u M fr tt f1 f2 h i (de i) hsz (hu) (by omega)) gX3_deleteComputations_X1_turnFirstComputesToUses rfl rfl rfl (by decide +kernel) ⟨Nat.le_of_ble_eq_true rfl, Nat.le_of_ble_eq_true rfl⟩ (q0 := 0) (ci := 1) rfl rfl (by simp only [List.append_assoc]) rfl rfl (Nat.le_of_ble_eq_true rfl) dX3_deleteComputations_27 ⟨Nat.le_of_ble_eq_true rfl, Nat.le_of_ble_eq_true rfl⟩ ?_
        refine y_ws (ws' := WC (aC 0) (aP 0) (aS 0) (aJ 0) ++ (WJ cI aJ (aP 0) tc tl mi eb hd hs ig ct ++ (WS cI aS (aP 0) kp ea la ns ne ts te da de eo dn io ++ (WP cI aP E vs dp B sz ((tfF u i (de i) h (sz i)).2.1) M fr tt f1 f2 ((tfF u i (de i) h (sz i)).2.2))))) (by simp only [List.append_assoc]) ?_
        refine y_iinc C (k := 1) (lv' := [(1, .int (nI (i + 1))), (0, .ref (aC 0))]) dX3_deleteComputations_30 rfl (yn_inc rfl) (by decide) rfl ?_
        refine y_goto C (tgt := 2) dX3_deleteComputations_33 (by decide) ?_
        refine y_sub [1, 0] (lv' := [(0, .ref (aC 0)), (1, .int (nI (i + 1)))]) rfl ?_
        exact ih2 _ _ _ (by omega) (by simp only [dlC, ← hT]) (tf_lt hu _ _ _ _) (by omega)
  refine y_sub [1, 0] (lv' := [(0, .ref (aC 0)), (1, .int (nI 0))]) rfl ?_
  exact lp2 _ _ _ _ (Nat.zero_le _) rfl hcd (Nat.lt_succ_self _)
theorem in_X3_insertComputations_1 : ∀ w ∈ wsX10, w ∈ wsX3_insertComputations := fun _ h => List.mem_cons_of_mem _ (List.mem_append_left _ (List.mem_append_right _ h))
theorem in_X3_insertComputations_2 : ∀ w ∈ wsX20, w ∈ wsX3_insertComputations := fun _ h => List.mem_cons_of_mem _ (List.mem_append_right _ h)
theorem in_X3_insertComputations_3 : ∀ w ∈ wsX30, w ∈ wsX3_insertComputations := fun _ h => List.mem_cons_of_mem _ (List.mem_append_left _ (List.mem_append_left _ (List.mem_append_right _ h)))
set_option maxHeartbeats 4000000 in
set_option maxRecDepth 100000 in
theorem c_X3_insertComputations (l : Launch) (D : va_G) (cI : ClassId) (aC : Nat → Nat) (aJ : Nat → Nat) (tc tl : Nat → Int32) (mi eb hd : Int32) (hs : Nat → Int32) (ig ct : Int32) (aS : Nat → Nat) (kp ea la ns ne ts te da de eo dn io : Nat → Int32) (aP : Nat → Nat) (E : Nat) (vs dp : Nat → Int32) (B : Nat) (sz cd : Nat → Nat) (M : Nat) (fr tt : Nat → Nat) (f1 f2 : Nat → Int32) (cg : Int32) (B2 : Nat) (sz2 cd2 : Nat → Nat) (M2 : Nat) (fr2 tt2 : Nat → Nat) (f12 : Nat → Int32) (cg2 : Int32) (hE : E ≤ 8) (hB : B ≤ 40) (hM : M ≤ 80) (htt : ∀ j, tt j < 40) (hzB : ∀ b, B ≤ b → sz b = 0) (hfB : ∀ b, B ≤ b → f1 b = -1) (hb : B + cntF io M ≤ 40) (hb2 : M + cntF io M ≤ 80) (hV : (B2, sz2, cd2, M2, fr2, tt2, f12, cg2) = miC E io (B, sz, cd, M, fr, tt, f1, cg) M) : ctV l yX3_insertComputations wsX3_insertComputations (rmD 2 0 0) D [(cI, .int)] [.ref (aC 0)] (WC (aC 0) (aP 0) (aS 0) (aJ 0) ++ (WJ cI aJ (aP 0) tc tl mi eb hd hs ig ct ++ (WS cI aS (aP 0) kp ea la ns ne ts te da de eo dn io ++ (WP cI aP E vs dp B sz cd M fr tt f1 f2 cg)))) (WC (aC 0) (aP 0) (aS 0) (aJ 0) ++ (WJ cI aJ (aP 0) tc tl mi eb hd hs ig ct ++ (WS cI aS (aP 0) kp ea la ns ne ts te da de eo dn io ++ (WP cI aP E vs dp B2 sz2 cd2 M2 fr2 tt2 f12 f2 cg2)))) 0 0 := by
  refine ctV_of (by decide) rfl (Nat.le_of_ble_eq_true rfl) ?_
  intro p e s m args below meth c A Q C hnm K
  refine y_lv (lv' := [(0, .ref (aC 0))]) rfl ?_
  refine y_aload_n C 0 dX3_insertComputations_0 rfl rfl ?_
  refine y_get C in_X3_insertComputations_3 (ci := 3) rfl 0 (by decide) (List.mem_of_getElem? (i := 1) rfl) 0 rfl rfl dX3_insertComputations_1 ?_
  refine y_get C in_X3_insertComputations_1 (ci := 1) rfl 6 (by decide) (List.mem_of_getElem? (i := 2) rfl) 18 rfl rfl dX3_insertComputations_4 ?_
  refine y_istore_n C (lv' := [(1, .int (nI M)), (0, .ref (aC 0))]) dX3_insertComputations_7 rfl (by decide) rfl ?_
  refine y_iconst C (v := nI 0) dX3_insertComputations_8 (by decide) ?_
  refine y_istore_n C (lv' := [(2, .int (nI 0)), (1, .int (nI M)), (0, .ref (aC 0))]) dX3_insertComputations_9 rfl (by decide) rfl ?_
  have lp10 : ∀ (n10 : Nat) (j : Nat) (B1 : Nat) (s1 : (Nat → Nat)) (c1 : (Nat → Nat)) (M1 : Nat) (r1 : (Nat → Nat)) (t1 : (Nat → Nat)) (x1 : (Nat → Int32)) (h1 : Int32), (j ≤ M) → ((B1, s1, c1, M1, r1, t1, x1, h1) = miC E io (B, sz, cd, M, fr, tt, f1, cg) j) → (B1 = B + cntF io j) → (M1 = M + cntF io j) → (∀ b, B1 ≤ b → s1 b = 0) → (∀ b, B1 ≤ b → x1 b = -1) → (∀ q, t1 q < 40) → (M - j) < n10 → yW p l e (rmD 2 0 0) s m args below meth c 3 D A Q 0 0 (WC (aC 0) (aP 0) (aS 0) (aJ 0) ++ (WJ cI aJ (aP 0) tc tl mi eb hd hs ig ct ++ (WS cI aS (aP 0) kp ea la ns ne ts te da de eo dn io ++ (WP cI aP E vs dp B1 s1 c1 M1 r1 t1 x1 f2 h1)))) 10 [(0, .ref (aC 0)), (1, .int (nI M)), (2, .int (nI j))] [] := by
    intro n10
    induction n10 with
    | zero => intro j B1 s1 c1 M1 r1 t1 x1 h1 hj hT hB1 hM1 hz1 hf9 ht1 hm; exact absurd hm (Nat.not_lt_zero _)
    | succ n10 ih10 =>
      intro j B1 s1 c1 M1 r1 t1 x1 h1 hj hT hB1 hM1 hz1 hf9 ht1 hm10
      refine y_iload_n C 2 dX3_insertComputations_10 rfl rfl ?_
      refine y_iload_n C 1 dX3_insertComputations_11 rfl rfl ?_
      refine y_icmpN_ge C (tgt := 50) dX3_insertComputations_12 (by decide) (by omega) (by omega) (fun h12 => ?_) (fun h12 => ?_)
      · skip
        rw [show j = M by omega, ← hV] at hT
        simp only [Prod.mk.injEq] at hT
        obtain ⟨e1, e2, e3, e4, e5, e6, e7, e8⟩ := hT
        refine y_ws (ws' := WC (aC 0) (aP 0) (aS 0) (aJ 0) ++ (WJ cI aJ (aP 0) tc tl mi eb hd hs ig ct ++ (WS cI aS (aP 0) kp ea la ns ne ts te da de eo dn io ++ (WP cI aP E vs dp B2 sz2 cd2 M2 fr2 tt2 f12 f2 cg2)))) (by rw [e1, e2, e3, e4, e5, e6, e7, e8]) ?_
        exact K _ _ _ _ dX3_insertComputations_50 (by decide) (by decide)
      · skip
        refine y_aload_n C 0 dX3_insertComputations_15 rfl rfl ?_
        refine y_get C in_X3_insertComputations_3 (ci := 3) rfl 1 (by decide) (List.mem_of_getElem? (i := 3) rfl) 0 rfl rfl dX3_insertComputations_16 ?_
        refine y_get C in_X3_insertComputations_2 (ci := 2) rfl 12 (by decide) (List.mem_of_getElem? (i := 4) rfl) 5 rfl rfl dX3_insertComputations_19 ?_
        refine y_iload_n C 2 dX3_insertComputations_22 rfl rfl ?_
        refine y_iald C (q0 := 17) (t0 := 0) rfl rfl (by decide) (by omega) dX3_insertComputations_23 ?_
        refine y_if_eq C (tgt := 44) dX3_insertComputations_24 (by decide)  (fun h24 => ?_) (fun h24 => ?_)
        · skip
          refine y_iinc C (k := 2) (lv' := [(2, .int (nI (j + 1))), (0, .ref (aC 0)), (1, .int (nI M))]) dX3_insertComputations_44 rfl (yn_inc rfl) (by decide) rfl ?_
          refine y_goto C (tgt := 10) dX3_insertComputations_47 (by decide) ?_
          refine y_sub [1, 2, 0] (lv' := [(0, .ref (aC 0)), (1, .int (nI M)), (2, .int (nI (j + 1)))]) rfl ?_
          exact ih10 _ _ _ _ _ _ _ _ _ (by omega) (by simp only [miC, ← hT, h24, if_true, if_false]) (by simp [cntF, h24, hB1]; try omega) (by simp [cntF, h24, hM1]; try omega) hz1 hf9 ht1 (by omega)
        · skip
          have hlt := cnt_lt (g := io) (show j < M by omega) h24
          refine y_aload_n C 0 dX3_insertComputations_27 rfl rfl ?_
          refine y_get C in_X3_insertComputations_3 (ci := 3) rfl 0 (by decide) (List.mem_of_getElem? (i := 1) rfl) 0 rfl rfl dX3_insertComputations_28 ?_
          refine y_iload_n C 2 dX3_insertComputations_31 rfl rfl ?_
          refine y_aload_n C 0 dX3_insertComputations_32 rfl rfl ?_
          refine y_get C in_X3_insertComputations_3 (ci := 3) rfl 1 (by decide) (List.mem_of_getElem? (i := 3) rfl) 0 rfl rfl dX3_insertComputations_33 ?_
          refine y_get C in_X3_insertComputations_2 (ci := 2) rfl 12 (by decide) (List.mem_of_getElem? (i := 4) rfl) 5 rfl rfl dX3_insertComputations_36 ?_
          refine y_iload_n C 2 dX3_insertComputations_39 rfl rfl ?_
          refine y_iald C (q0 := 17) (t0 := 0) rfl rfl (by decide) (by omega) dX3_insertComputations_40 ?_
          refine y_callV C (wr := WC (aC 0) (aP 0) (aS 0) (aJ 0) ++ WJ cI aJ (aP 0) tc tl mi eb hd hs ig ct ++ WS cI aS (aP 0) kp ea la ns ne ts te da de eo dn io) 2 (c_X1_splitEdge l D cI aP E vs dp B1 s1 c1 M1 r1 t1 x1 f2 h1 j (io j) hE (ht1) (by omega) (by omega) (by omega) (hz1 B1 (Nat.le_refl _)) (hf9 B1 (Nat.le_refl _))) gX3_insertComputations_X1_splitEdge rfl rfl rfl (by decide +kernel) ⟨Nat.le_of_ble_eq_true rfl, Nat.le_of_ble_eq_true rfl⟩ (q0 := 0) (ci := 1) rfl rfl (by simp only [List.append_assoc]) rfl rfl (Nat.le_of_ble_eq_true rfl) dX3_insertComputations_41 ⟨Nat.le_of_ble_eq_true rfl, Nat.le_of_ble_eq_true rfl⟩ ?_
          refine y_ws (ws' := WC (aC 0) (aP 0) (aS 0) (aJ 0) ++ (WJ cI aJ (aP 0) tc tl mi eb hd hs ig ct ++ (WS cI aS (aP 0) kp ea la ns ne ts te da de eo dn io ++ (WP cI aP E vs dp (B1 + 1) ((icF B1 (io j) s1 c1 E).1) ((icF B1 (io j) s1 c1 E).2) (M1 + 1) (upN r1 M1 B1) (upN (upN t1 j B1) M1 (t1 j)) (upd x1 B1 (nI M1)) f2 (nI 1))))) (by simp only [List.append_assoc]) ?_
          refine y_iinc C (k := 2) (lv' := [(2, .int (nI (j + 1))), (0, .ref (aC 0)), (1, .int (nI M))]) dX3_insertComputations_44 rfl (yn_inc rfl) (by decide) rfl ?_
          refine y_goto C (tgt := 10) dX3_insertComputations_47 (by decide) ?_
          refine y_sub [1, 2, 0] (lv' := [(0, .ref (aC 0)), (1, .int (nI M)), (2, .int (nI (j + 1)))]) rfl ?_
          exact ih10 _ _ _ _ _ _ _ _ _ (by omega) (by simp only [miC, ← hT, h24, if_true, if_false]) (by simp [cntF, h24, hB1]; try omega) (by simp [cntF, h24, hM1]; try omega) (fun b hq => by rw [ic_ne _ _ (by omega)]; exact hz1 b (by omega)) (fun b hq => by rw [pk_un (by omega)]; exact hf9 b (by omega)) (upN_lt (upN_lt ht1 (by omega)) (ht1 j)) (by omega)
  refine y_sub [2, 1, 0] (lv' := [(0, .ref (aC 0)), (1, .int (nI M)), (2, .int (nI 0))]) rfl ?_
  exact lp10 _ _ _ _ _ _ _ _ _ _ (Nat.zero_le _) rfl rfl rfl hzB hfB htt (Nat.lt_succ_self _)
theorem in_X3_move_1 : ∀ w ∈ wsX10, w ∈ wsX3_move := fun _ h => List.mem_cons_of_mem _ (List.mem_append_left _ (List.mem_append_left _ (List.mem_append_right _ h)))
theorem in_X3_move_2 : ∀ w ∈ wsX20, w ∈ wsX3_move := fun _ h => List.mem_cons_of_mem _ (List.mem_append_left _ (List.mem_append_right _ h))
theorem in_X3_move_3 : ∀ w ∈ wsX30, w ∈ wsX3_move := fun _ h => List.mem_cons_of_mem _ (List.mem_append_left _ (List.mem_append_left _ (List.mem_append_left _ (List.mem_append_right _ h))))
set_option maxHeartbeats 4000000 in
set_option maxRecDepth 100000 in
theorem c_X3_move_bad (l : Launch) (hfl : l.stackTraces = false) (sa : Nat → Nat) (D : va_G) (cI : ClassId) (aC : Nat → Nat) (aJ : Nat → Nat) (tc tl : Nat → Int32) (mi eb hd : Int32) (hs : Nat → Int32) (ig ct : Int32) (aS : Nat → Nat) (kp ea la ns ne ts te da de eo dn io : Nat → Int32) (aP : Nat → Nat) (E : Nat) (vs dp : Nat → Int32) (B : Nat) (sz cd : Nat → Nat) (M : Nat) (fr tt : Nat → Nat) (f1 f2 : Nat → Int32) (cg : Int32) (kp2 ea2 la2 ns2 ne2 ts2 te2 da2 de2 eo2 dn2 io2 : Nat → Int32) (hE : E ≤ 8) (hB : B ≤ 40) (hM : M ≤ 80) (hsz : ∀ j, sz j ≤ 12) (hcd : ∀ j, cd j < 24) (hfr : ∀ j, fr j < 40) (htt : ∀ j, tt j < 40) (hcv : ∀ j, cd j % 3 = 2 → cd j / 3 < 6) (hU : upR E dp B sz cd M fr tt f1 cg kp ea la ns ne ts te da de eo dn io kp2 ea2 la2 ns2 ne2 ts2 te2 da2 de2 eo2 dn2 io2) (hb : 40 < B + cntF io2 M ∨ 80 < M + cntF io2 M) : ctX l yX3_move wsX3_move (rmD 6 1 6) sa D [(cI, .int)] [.ref (aC 0)] (WC (aC 0) (aP 0) (aS 0) (aJ 0) ++ (WJ cI aJ (aP 0) tc tl mi eb hd hs ig ct ++ (WS cI aS (aP 0) kp ea la ns ne ts te da de eo dn io ++ (WP cI aP E vs dp B sz cd M fr tt f1 f2 cg)))) (WC (aC 0) (aP 0) (aS 0) (aJ 0) ++ (WJ cI aJ (aP 0) tc tl mi eb hd hs ig ct ++ (WS cI aS (aP 0) kp2 ea2 la2 ns2 ne2 ts2 te2 da2 de2 eo2 dn2 io2 ++ (WP cI aP E vs dp B sz cd M fr tt f1 f2 (nI 0))))) exS 1 6 := by
  refine ctX_of (by decide) rfl (Nat.le_of_ble_eq_true rfl) ?_
  intro p e s m args below meth c C hnt hE9
  refine y_lv (lv' := [(0, .ref (aC 0))]) rfl ?_
  refine y_aload_n C 0 dX3_move_0 rfl rfl ?_
  refine y_get C in_X3_move_3 (ci := 3) rfl 1 (by decide) (List.mem_of_getElem? (i := 3) rfl) 0 rfl rfl dX3_move_1 ?_
  refine y_callV C (wr := WC (aC 0) (aP 0) (aS 0) (aJ 0) ++ WJ cI aJ (aP 0) tc tl mi eb hd hs ig ct) 0 (c_X2_bringUpToDate_any l D cI aS kp ea la ns ne ts te da de eo dn io aP E vs dp B sz cd M fr tt f1 f2 cg kp2 ea2 la2 ns2 ne2 ts2 te2 da2 de2 eo2 dn2 io2 hE hB hM hsz hcd hfr htt hcv hU) gX3_move_X2_bringUpToDate rfl rfl rfl (by decide +kernel) ⟨Nat.le_of_ble_eq_true rfl, Nat.le_of_ble_eq_true rfl⟩ (q0 := 0) (ci := 2) rfl rfl (by simp only [List.append_assoc]) rfl rfl (Nat.le_of_ble_eq_true rfl) dX3_move_4 ⟨Nat.le_of_ble_eq_true rfl, Nat.le_of_ble_eq_true rfl⟩ ?_
  refine y_ws (ws' := WC (aC 0) (aP 0) (aS 0) (aJ 0) ++ (WJ cI aJ (aP 0) tc tl mi eb hd hs ig ct ++ (WS cI aS (aP 0) kp2 ea2 la2 ns2 ne2 ts2 te2 da2 de2 eo2 dn2 io2 ++ (WP cI aP E vs dp B sz cd M fr tt f1 f2 (nI 0))))) (by simp only [List.append_assoc]) ?_
  refine y_aload_n C 0 dX3_move_7 rfl rfl ?_
  refine y_get C in_X3_move_3 (ci := 3) rfl 1 (by decide) (List.mem_of_getElem? (i := 3) rfl) 0 rfl rfl dX3_move_8 ?_
  refine y_callI C (wr := WC (aC 0) (aP 0) (aS 0) (aJ 0) ++ WJ cI aJ (aP 0) tc tl mi eb hd hs ig ct) 0 (c_X2_countEdgesWithInsertions l D cI aS kp2 ea2 la2 ns2 ne2 ts2 te2 da2 de2 eo2 dn2 io2 aP E vs dp B sz cd M fr tt f1 f2 (nI 0) hM) gX3_move_X2_countEdgesWithInsertions rfl rfl rfl (by decide +kernel) ⟨Nat.le_of_ble_eq_true rfl, Nat.le_of_ble_eq_true rfl⟩ (q0 := 0) (ci := 2) rfl rfl (by simp only [List.append_assoc]) rfl rfl (Nat.le_of_ble_eq_true rfl) dX3_move_11 ⟨Nat.le_of_ble_eq_true rfl, Nat.le_of_ble_eq_true rfl⟩ ?_
  refine y_ws (ws' := WC (aC 0) (aP 0) (aS 0) (aJ 0) ++ (WJ cI aJ (aP 0) tc tl mi eb hd hs ig ct ++ (WS cI aS (aP 0) kp2 ea2 la2 ns2 ne2 ts2 te2 da2 de2 eo2 dn2 io2 ++ (WP cI aP E vs dp B sz cd M fr tt f1 f2 (nI 0))))) (by simp only [List.append_assoc]) ?_
  refine y_istore_n C (lv' := [(1, .int (nI (cntF io2 M))), (0, .ref (aC 0))]) dX3_move_14 rfl (by decide) rfl ?_
  refine y_aload_n C 1 dX3_move_15 rfl rfl ?_
  refine y_get C in_X3_move_3 (ci := 3) rfl 0 (by decide) (List.mem_of_getElem? (i := 4) rfl) 0 rfl rfl dX3_move_16 ?_
  refine y_get C in_X3_move_1 (ci := 1) rfl 3 (by decide) (List.mem_of_getElem? (i := 5) rfl) 18 rfl rfl dX3_move_19 ?_
  refine y_iload_n C 0 dX3_move_22 rfl rfl ?_
  refine y_iaddN C dX3_move_23 ?_
  refine y_bipush C (v := nI 40) dX3_move_24 (by decide) ?_
  refine y_icmpN_gt C (tgt := 43) dX3_move_26 (by decide) (by have := cnt_le io2 M; omega) (by omega) (fun h26 => ?_) (fun h26 => ?_)
  · skip
    exact y_throw C hfl hE9 hnt (by decide +kernel) (List.mem_of_getElem? (i := 1) rfl) (List.mem_of_getElem? (i := 2) rfl) (List.mem_of_getElem? (i := 10) rfl) (fun _ h => List.mem_cons_of_mem _ (List.mem_append_right _ h)) xg_S xo_S dX3_move_43 dX3_move_46 dX3_move_47 dX3_move_49 dX3_move_52 ⟨Nat.le_of_ble_eq_true rfl, Nat.le_of_ble_eq_true rfl⟩ ⟨Nat.le_of_ble_eq_true rfl, Nat.le_of_ble_eq_true rfl⟩ ⟨Nat.le_of_ble_eq_true rfl, Nat.le_of_ble_eq_true rfl⟩ (rfl)
  · skip
    refine y_aload_n C 1 dX3_move_29 rfl rfl ?_
    refine y_get C in_X3_move_3 (ci := 3) rfl 0 (by decide) (List.mem_of_getElem? (i := 4) rfl) 0 rfl rfl dX3_move_30 ?_
    refine y_get C in_X3_move_1 (ci := 1) rfl 6 (by decide) (List.mem_of_getElem? (i := 6) rfl) 18 rfl rfl dX3_move_33 ?_
    refine y_iload_n C 0 dX3_move_36 rfl rfl ?_
    refine y_iaddN C dX3_move_37 ?_
    refine y_bipush C (v := nI 80) dX3_move_38 (by decide) ?_
    refine y_icmpN_le C (tgt := 53) dX3_move_40 (by decide) (by have := cnt_le io2 M; omega) (by omega) (fun h40 => ?_) (fun h40 => ?_)
    · skip
      exact absurd hb (by omega)
    · skip
      exact y_throw C hfl hE9 hnt (by decide +kernel) (List.mem_of_getElem? (i := 1) rfl) (List.mem_of_getElem? (i := 2) rfl) (List.mem_of_getElem? (i := 10) rfl) (fun _ h => List.mem_cons_of_mem _ (List.mem_append_right _ h)) xg_S xo_S dX3_move_43 dX3_move_46 dX3_move_47 dX3_move_49 dX3_move_52 ⟨Nat.le_of_ble_eq_true rfl, Nat.le_of_ble_eq_true rfl⟩ ⟨Nat.le_of_ble_eq_true rfl, Nat.le_of_ble_eq_true rfl⟩ ⟨Nat.le_of_ble_eq_true rfl, Nat.le_of_ble_eq_true rfl⟩ (rfl)
set_option maxHeartbeats 4000000 in
set_option maxRecDepth 100000 in
theorem c_X3_move_ok (l : Launch) (D : va_G) (cI : ClassId) (aC : Nat → Nat) (aJ : Nat → Nat) (tc tl : Nat → Int32) (mi eb hd : Int32) (hs : Nat → Int32) (ig ct : Int32) (aS : Nat → Nat) (kp ea la ns ne ts te da de eo dn io : Nat → Int32) (aP : Nat → Nat) (E : Nat) (vs dp : Nat → Int32) (B : Nat) (sz cd : Nat → Nat) (M : Nat) (fr tt : Nat → Nat) (f1 f2 : Nat → Int32) (cg : Int32) (kp2 ea2 la2 ns2 ne2 ts2 te2 da2 de2 eo2 dn2 io2 : Nat → Int32) (B2 : Nat) (sz2 cd2 : Nat → Nat) (M2 : Nat) (fr2 tt2 : Nat → Nat) (f12 : Nat → Int32) (cg2 : Int32) (hE : E ≤ 8) (hB : B ≤ 40) (hM : M ≤ 80) (hsz : ∀ j, sz j ≤ 12) (hcd : ∀ j, cd j < 24) (hfr : ∀ j, fr j < 40) (htt : ∀ j, tt j < 40) (hcv : ∀ j, cd j % 3 = 2 → cd j / 3 < 6) (hU : upR E dp B sz cd M fr tt f1 cg kp ea la ns ne ts te da de eo dn io kp2 ea2 la2 ns2 ne2 ts2 te2 da2 de2 eo2 dn2 io2) (hzB : ∀ b, B ≤ b → sz b = 0) (hfB : ∀ b, B ≤ b → f1 b = -1) (hb : B + cntF io2 M ≤ 40) (hb2 : M + cntF io2 M ≤ 80) (hV : (B2, sz2, cd2, M2, fr2, tt2, f12, cg2) = miC E io2 (B, sz, (dlC sz de2 cd (nI 0) B).1, M, fr, tt, f1, (dlC sz de2 cd (nI 0) B).2) M) : ctI l yX3_move wsX3_move (rmD 4 0 0) D [(cI, .int)] [.ref (aC 0)] (WC (aC 0) (aP 0) (aS 0) (aJ 0) ++ (WJ cI aJ (aP 0) tc tl mi eb hd hs ig ct ++ (WS cI aS (aP 0) kp ea la ns ne ts te da de eo dn io ++ (WP cI aP E vs dp B sz cd M fr tt f1 f2 cg)))) (WC (aC 0) (aP 0) (aS 0) (aJ 0) ++ (WJ cI aJ (aP 0) tc tl mi eb hd hs ig ct ++ (WS cI aS (aP 0) kp2 ea2 la2 ns2 ne2 ts2 te2 da2 de2 eo2 dn2 io2 ++ (WP cI aP E vs dp B2 sz2 cd2 M2 fr2 tt2 f12 f2 cg2)))) (nI (cntF io2 M)) 0 0 := by
  refine ctI_of (by decide) rfl (Nat.le_of_ble_eq_true rfl) ?_
  intro p e s m args below meth c A Q C hnm K
  refine y_lv (lv' := [(0, .ref (aC 0))]) rfl ?_
  refine y_aload_n C 0 dX3_move_0 rfl rfl ?_
  refine y_get C in_X3_move_3 (ci := 3) rfl 1 (by decide) (List.mem_of_getElem? (i := 3) rfl) 0 rfl rfl dX3_move_1 ?_
  refine y_callV C (wr := WC (aC 0) (aP 0) (aS 0) (aJ 0) ++ WJ cI aJ (aP 0) tc tl mi eb hd hs ig ct) 0 (c_X2_bringUpToDate_any l D cI aS kp ea la ns ne ts te da de eo dn io aP E vs dp B sz cd M fr tt f1 f2 cg kp2 ea2 la2 ns2 ne2 ts2 te2 da2 de2 eo2 dn2 io2 hE hB hM hsz hcd hfr htt hcv hU) gX3_move_X2_bringUpToDate rfl rfl rfl (by decide +kernel) ⟨Nat.le_of_ble_eq_true rfl, Nat.le_of_ble_eq_true rfl⟩ (q0 := 0) (ci := 2) rfl rfl (by simp only [List.append_assoc]) rfl rfl (Nat.le_of_ble_eq_true rfl) dX3_move_4 ⟨Nat.le_of_ble_eq_true rfl, Nat.le_of_ble_eq_true rfl⟩ ?_
  refine y_ws (ws' := WC (aC 0) (aP 0) (aS 0) (aJ 0) ++ (WJ cI aJ (aP 0) tc tl mi eb hd hs ig ct ++ (WS cI aS (aP 0) kp2 ea2 la2 ns2 ne2 ts2 te2 da2 de2 eo2 dn2 io2 ++ (WP cI aP E vs dp B sz cd M fr tt f1 f2 (nI 0))))) (by simp only [List.append_assoc]) ?_
  refine y_aload_n C 0 dX3_move_7 rfl rfl ?_
  refine y_get C in_X3_move_3 (ci := 3) rfl 1 (by decide) (List.mem_of_getElem? (i := 3) rfl) 0 rfl rfl dX3_move_8 ?_
  refine y_callI C (wr := WC (aC 0) (aP 0) (aS 0) (aJ 0) ++ WJ cI aJ (aP 0) tc tl mi eb hd hs ig ct) 0 (c_X2_countEdgesWithInsertions l D cI aS kp2 ea2 la2 ns2 ne2 ts2 te2 da2 de2 eo2 dn2 io2 aP E vs dp B sz cd M fr tt f1 f2 (nI 0) hM) gX3_move_X2_countEdgesWithInsertions rfl rfl rfl (by decide +kernel) ⟨Nat.le_of_ble_eq_true rfl, Nat.le_of_ble_eq_true rfl⟩ (q0 := 0) (ci := 2) rfl rfl (by simp only [List.append_assoc]) rfl rfl (Nat.le_of_ble_eq_true rfl) dX3_move_11 ⟨Nat.le_of_ble_eq_true rfl, Nat.le_of_ble_eq_true rfl⟩ ?_
  refine y_ws (ws' := WC (aC 0) (aP 0) (aS 0) (aJ 0) ++ (WJ cI aJ (aP 0) tc tl mi eb hd hs ig ct ++ (WS cI aS (aP 0) kp2 ea2 la2 ns2 ne2 ts2 te2 da2 de2 eo2 dn2 io2 ++ (WP cI aP E vs dp B sz cd M fr tt f1 f2 (nI 0))))) (by simp only [List.append_assoc]) ?_
  refine y_istore_n C (lv' := [(1, .int (nI (cntF io2 M))), (0, .ref (aC 0))]) dX3_move_14 rfl (by decide) rfl ?_
  refine y_aload_n C 1 dX3_move_15 rfl rfl ?_
  refine y_get C in_X3_move_3 (ci := 3) rfl 0 (by decide) (List.mem_of_getElem? (i := 4) rfl) 0 rfl rfl dX3_move_16 ?_
  refine y_get C in_X3_move_1 (ci := 1) rfl 3 (by decide) (List.mem_of_getElem? (i := 5) rfl) 18 rfl rfl dX3_move_19 ?_
  refine y_iload_n C 0 dX3_move_22 rfl rfl ?_
  refine y_iaddN C dX3_move_23 ?_
  refine y_bipush C (v := nI 40) dX3_move_24 (by decide) ?_
  refine y_icmpN_gt C (tgt := 43) dX3_move_26 (by decide) (by have := cnt_le io2 M; omega) (by omega) (fun h26 => ?_) (fun h26 => ?_)
  · skip
    exact absurd h26 (by omega)
  · skip
    refine y_aload_n C 1 dX3_move_29 rfl rfl ?_
    refine y_get C in_X3_move_3 (ci := 3) rfl 0 (by decide) (List.mem_of_getElem? (i := 4) rfl) 0 rfl rfl dX3_move_30 ?_
    refine y_get C in_X3_move_1 (ci := 1) rfl 6 (by decide) (List.mem_of_getElem? (i := 6) rfl) 18 rfl rfl dX3_move_33 ?_
    refine y_iload_n C 0 dX3_move_36 rfl rfl ?_
    refine y_iaddN C dX3_move_37 ?_
    refine y_bipush C (v := nI 80) dX3_move_38 (by decide) ?_
    refine y_icmpN_le C (tgt := 53) dX3_move_40 (by decide) (by have := cnt_le io2 M; omega) (by omega) (fun h40 => ?_) (fun h40 => ?_)
    · skip
      refine y_aload_n C 1 dX3_move_53 rfl rfl ?_
      refine y_callV C (wr := []) 0 (c_X3_deleteComputations l D cI aC aJ tc tl mi eb hd hs ig ct aS kp2 ea2 la2 ns2 ne2 ts2 te2 da2 de2 eo2 dn2 io2 aP E vs dp B sz cd M fr tt f1 f2 (nI 0) hB hsz hcd) gX3_move_X3_deleteComputations rfl rfl rfl (by decide +kernel) ⟨Nat.le_of_ble_eq_true rfl, Nat.le_of_ble_eq_true rfl⟩ (q0 := 0) (ci := 3) rfl rfl rfl rfl rfl (Nat.le_of_ble_eq_true rfl) dX3_move_54 ⟨Nat.le_of_ble_eq_true rfl, Nat.le_of_ble_eq_true rfl⟩ ?_
      refine y_ws (ws' := WC (aC 0) (aP 0) (aS 0) (aJ 0) ++ (WJ cI aJ (aP 0) tc tl mi eb hd hs ig ct ++ (WS cI aS (aP 0) kp2 ea2 la2 ns2 ne2 ts2 te2 da2 de2 eo2 dn2 io2 ++ (WP cI aP E vs dp B sz ((dlC sz de2 cd (nI 0) B).1) M fr tt f1 f2 ((dlC sz de2 cd (nI 0) B).2))))) rfl ?_
      refine y_aload_n C 1 dX3_move_57 rfl rfl ?_
      refine y_callV C (wr := []) 0 (c_X3_insertComputations l D cI aC aJ tc tl mi eb hd hs ig ct aS kp2 ea2 la2 ns2 ne2 ts2 te2 da2 de2 eo2 dn2 io2 aP E vs dp B sz ((dlC sz de2 cd (nI 0) B).1) M fr tt f1 f2 ((dlC sz de2 cd (nI 0) B).2) B2 sz2 cd2 M2 fr2 tt2 f12 cg2 hE hB hM htt hzB hfB hb hb2 (hV)) gX3_move_X3_insertComputations rfl rfl rfl (by decide +kernel) ⟨Nat.le_of_ble_eq_true rfl, Nat.le_of_ble_eq_true rfl⟩ (q0 := 0) (ci := 3) rfl rfl rfl rfl rfl (Nat.le_of_ble_eq_true rfl) dX3_move_58 ⟨Nat.le_of_ble_eq_true rfl, Nat.le_of_ble_eq_true rfl⟩ ?_
      refine y_ws (ws' := WC (aC 0) (aP 0) (aS 0) (aJ 0) ++ (WJ cI aJ (aP 0) tc tl mi eb hd hs ig ct ++ (WS cI aS (aP 0) kp2 ea2 la2 ns2 ne2 ts2 te2 da2 de2 eo2 dn2 io2 ++ (WP cI aP E vs dp B2 sz2 cd2 M2 fr2 tt2 f12 f2 cg2)))) rfl ?_
      refine y_iload_n C 0 dX3_move_61 rfl rfl ?_
      exact K _ _ _ _ _ dX3_move_62 (rfl) (by decide) (by decide)
    · skip
      exact absurd h40 (by omega)
