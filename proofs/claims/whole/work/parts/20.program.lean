/-- the cells of a Program -/
def WP (cI : ClassId) (a : Nat → Nat) (E : Nat) (vs dp : Nat → Int32) (B : Nat) (sz cd : Nat → Nat) (M : Nat) (fr tt : Nat → Nat) (f1 f2 : Nat → Int32) (ch : Int32) : va_W :=
  [(a 0, .inr (1, [.int (nI E), .ref (a 1), .ref (a 2), .int (nI B), .ref (a 3), .ref (a 4), .int (nI M), .ref (a 5), .ref (a 6), .ref (a 7), .ref (a 8), .int ch])),
   (a 1, .inl (cI, 8, .inl vs)), (a 2, .inl (cI, 6, .inl dp)), (a 3, .inl (cI, 40, .inl (nA sz))), (a 4, .inl (cI, 480, .inl (nA cd))), (a 5, .inl (cI, 80, .inl (nA fr))), (a 6, .inl (cI, 80, .inl (nA tt))), (a 7, .inl (cI, 40, .inl f1)), (a 8, .inl (cI, 40, .inl f2))]
/-- dependents, with a new expression E of the variables k: the first n variables -/
def ndF (dp : Nat → Int32) (k E : Nat) : Nat → Nat → Int32
  | 0 => dp
  | v + 1 => if (nI k >>> (nI v &&& 31)) &&& 1 = 0 then ndF dp k E v else upd (ndF dp k E v) v (ndF dp k E v v ||| oneF E)
/-- turning: what is left, the codes, the flag -/
def tfF (cd : Nat → Nat) (b : Nat) (g ch : Int32) : Nat → Int32 × (Nat → Nat) × Int32
  | 0 => (g, cd, ch)
  | k + 1 =>
    match tfF cd b g ch k with
    | (lf, u, h) => if u (12 * b + k) % 3 = 0 then (if lf &&& oneF (u (12 * b + k) / 3) = 0 then (lf, u, h) else (lf &&& (oneF (u (12 * b + k) / 3) ^^^ -1), upN u (12 * b + k) (u (12 * b + k) - 0 + 1), nI 1)) else (lf, u, h)
/-- a split edge's new block -/
def icF (B : Nat) (g : Int32) (sz cd : Nat → Nat) : Nat → (Nat → Nat) × (Nat → Nat)
  | 0 => (sz, cd)
  | i + 1 =>
    match icF B g sz cd i with
    | (u, c) => if (g >>> (nI i &&& 31)) &&& 1 = 0 then (u, c) else (upN u B (u B + 1), upN c (12 * B + u B) (3 * i + 0))
theorem dg83 : (83 : Int64) * 31 = 2573 := by decide
def hasF (tt : Nat → Nat) (f1 f2 : Nat → Int32) (f t : Nat) : Nat := if ¬ f1 f = -1 ∧ tt (f1 f).toNatClampNeg = t then 1 else if ¬ f2 f = -1 ∧ tt (f2 f).toNatClampNeg = t then 1 else 0
theorem hasF_le (tt : Nat → Nat) (f1 f2 : Nat → Int32) (f t : Nat) : hasF tt f1 f2 f t ≤ 1 := by
  unfold hasF; split
  · exact Nat.le_refl _
  · split
    · exact Nat.le_refl _
    · exact Nat.zero_le _
theorem in_X1_allExpressions_1 : ∀ w ∈ wsX10, w ∈ wsX1_allExpressions := fun _ h => List.mem_cons_of_mem _ (List.mem_append_right _ h)
set_option maxHeartbeats 4000000 in
set_option maxRecDepth 100000 in
theorem c_X1_allExpressions (l : Launch) (D : va_G) (cI : ClassId) (aP : Nat → Nat) (E : Nat) (vs dp : Nat → Int32) (B : Nat) (sz cd : Nat → Nat) (M : Nat) (fr tt : Nat → Nat) (f1 f2 : Nat → Int32) (ch : Int32)  : ctI l yX1_allExpressions wsX1_allExpressions (rmD 0 0 0) D [(cI, .int)] [.ref (aP 0)] (WP cI aP E vs dp B sz cd M fr tt f1 f2 ch) (WP cI aP E vs dp B sz cd M fr tt f1 f2 ch) (allF E) 0 0 := by
  refine ctI_of (by decide) rfl (Nat.le_of_ble_eq_true rfl) ?_
  intro p e s m args below meth c A Q C hnm K
  refine y_lv (lv' := [(0, .ref (aP 0))]) rfl ?_
  refine y_iconst C (v := (1 : Int32)) dX1_allExpressions_0 (by decide) ?_
  refine y_aload_n C 0 dX1_allExpressions_1 rfl rfl ?_
  refine y_get C in_X1_allExpressions_1 (ci := 1) rfl 0 (by decide) (List.mem_of_getElem? (i := 1) rfl) 0 rfl rfl dX1_allExpressions_2 ?_
  refine y_ishl C dX1_allExpressions_5 ?_
  refine y_iconst C (v := (1 : Int32)) dX1_allExpressions_6 (by decide) ?_
  refine y_isub C dX1_allExpressions_7 ?_
  exact K _ _ _ _ _ dX1_allExpressions_8 (rfl) (by decide) (by decide)
theorem in_X1_codeAt_1 : ∀ w ∈ wsX10, w ∈ wsX1_codeAt := fun _ h => List.mem_cons_of_mem _ (List.mem_append_right _ h)
set_option maxHeartbeats 4000000 in
set_option maxRecDepth 100000 in
theorem c_X1_codeAt (l : Launch) (D : va_G) (cI : ClassId) (aP : Nat → Nat) (E : Nat) (vs dp : Nat → Int32) (B : Nat) (sz cd : Nat → Nat) (M : Nat) (fr tt : Nat → Nat) (f1 f2 : Nat → Int32) (ch : Int32) (b k : Nat) (hcd : ∀ j, cd j < 24) (hb : b < 40) (hk : k < 12) : ctI l yX1_codeAt wsX1_codeAt (rmD 0 0 0) D [(cI, .int)] [.ref (aP 0), .int (nI b), .int (nI k)] (WP cI aP E vs dp B sz cd M fr tt f1 f2 ch) (WP cI aP E vs dp B sz cd M fr tt f1 f2 ch) (nI (cd (12 * b + k))) 0 0 := by
  refine ctI_of (by decide) rfl (Nat.le_of_ble_eq_true rfl) ?_
  intro p e s m args below meth c A Q C hnm K
  refine y_lv (lv' := [(0, .ref (aP 0)), (1, .int (nI b)), (2, .int (nI k))]) rfl ?_
  refine y_aload_n C 0 dX1_codeAt_0 rfl rfl ?_
  refine y_get C in_X1_codeAt_1 (ci := 1) rfl 5 (by decide) (List.mem_of_getElem? (i := 1) rfl) 0 rfl rfl dX1_codeAt_1 ?_
  refine y_iload_n C 1 dX1_codeAt_4 rfl rfl ?_
  refine y_bipush C (v := nI 12) dX1_codeAt_5 (by decide) ?_
  refine y_imulN C dX1_codeAt_7 ?_
  refine y_topE (congrArg nI (Nat.mul_comm _ _)) ?_
  refine y_iload_n C 2 dX1_codeAt_8 rfl rfl ?_
  refine y_iaddN C dX1_codeAt_9 ?_
  refine y_ialdA C (q0 := 4) (t0 := 0) rfl rfl (by decide) (by omega) dX1_codeAt_10 ?_
  exact K _ _ _ _ _ dX1_codeAt_11 (rfl) (by decide) (by decide)
theorem in_X1_endsOf_1 : ∀ w ∈ wsX10, w ∈ wsX1_endsOf := fun _ h => List.mem_cons_of_mem _ (List.mem_append_right _ h)
set_option maxHeartbeats 4000000 in
set_option maxRecDepth 100000 in
theorem c_X1_endsOf (l : Launch) (D : va_G) (cI : ClassId) (aP : Nat → Nat) (E : Nat) (vs dp : Nat → Int32) (B : Nat) (sz cd : Nat → Nat) (M : Nat) (fr tt : Nat → Nat) (f1 f2 : Nat → Int32) (ch : Int32) (j : Nat) (hfr : ∀ j, fr j < 40) (htt : ∀ j, tt j < 40) (hj : j < 80) : ctI l yX1_endsOf wsX1_endsOf (rmD 0 0 0) D [(cI, .int)] [.ref (aP 0), .int (nI j)] (WP cI aP E vs dp B sz cd M fr tt f1 f2 ch) (WP cI aP E vs dp B sz cd M fr tt f1 f2 ch) (nI (40 * fr j + tt j)) 0 0 := by
  refine ctI_of (by decide) rfl (Nat.le_of_ble_eq_true rfl) ?_
  intro p e s m args below meth c A Q C hnm K
  refine y_lv (lv' := [(0, .ref (aP 0)), (1, .int (nI j))]) rfl ?_
  refine y_bipush C (v := nI 40) dX1_endsOf_0 (by decide) ?_
  refine y_aload_n C 0 dX1_endsOf_2 rfl rfl ?_
  refine y_get C in_X1_endsOf_1 (ci := 1) rfl 7 (by decide) (List.mem_of_getElem? (i := 1) rfl) 0 rfl rfl dX1_endsOf_3 ?_
  refine y_iload_n C 1 dX1_endsOf_6 rfl rfl ?_
  refine y_ialdA C (q0 := 5) (t0 := 0) rfl rfl (by decide) (by omega) dX1_endsOf_7 ?_
  refine y_imulN C dX1_endsOf_8 ?_
  refine y_aload_n C 0 dX1_endsOf_9 rfl rfl ?_
  refine y_get C in_X1_endsOf_1 (ci := 1) rfl 8 (by decide) (List.mem_of_getElem? (i := 2) rfl) 0 rfl rfl dX1_endsOf_10 ?_
  refine y_iload_n C 1 dX1_endsOf_13 rfl rfl ?_
  refine y_ialdA C (q0 := 6) (t0 := 0) rfl rfl (by decide) (by omega) dX1_endsOf_14 ?_
  refine y_iaddN C dX1_endsOf_15 ?_
  exact K _ _ _ _ _ dX1_endsOf_16 (rfl) (by decide) (by decide)
theorem in_X1_newBlock_1 : ∀ w ∈ wsX10, w ∈ wsX1_newBlock := fun _ h => List.mem_cons_of_mem _ (List.mem_append_right _ h)
set_option maxHeartbeats 4000000 in
set_option maxRecDepth 100000 in
theorem c_X1_newBlock (l : Launch) (D : va_G) (cI : ClassId) (aP : Nat → Nat) (E : Nat) (vs dp : Nat → Int32) (B : Nat) (sz cd : Nat → Nat) (M : Nat) (fr tt : Nat → Nat) (f1 f2 : Nat → Int32) (ch : Int32)  : ctI l yX1_newBlock wsX1_newBlock (rmD 0 0 0) D [(cI, .int)] [.ref (aP 0)] (WP cI aP E vs dp B sz cd M fr tt f1 f2 ch) (WP cI aP E vs dp (B + 1) sz cd M fr tt f1 f2 (nI 1)) (nI B) 0 0 := by
  refine ctI_of (by decide) rfl (Nat.le_of_ble_eq_true rfl) ?_
  intro p e s m args below meth c A Q C hnm K
  refine y_lv (lv' := [(0, .ref (aP 0))]) rfl ?_
  refine y_aload_n C 0 dX1_newBlock_0 rfl rfl ?_
  refine y_get C in_X1_newBlock_1 (ci := 1) rfl 3 (by decide) (List.mem_of_getElem? (i := 1) rfl) 0 rfl rfl dX1_newBlock_1 ?_
  refine y_istore_n C (lv' := [(1, .int (nI B)), (0, .ref (aP 0))]) dX1_newBlock_4 rfl (by decide) rfl ?_
  refine y_aload_n C 1 dX1_newBlock_5 rfl rfl ?_
  refine y_dup C dX1_newBlock_6 rfl ?_
  refine y_get C in_X1_newBlock_1 (ci := 1) rfl 3 (by decide) (List.mem_of_getElem? (i := 1) rfl) 0 rfl rfl dX1_newBlock_7 ?_
  refine y_iconst C (v := nI 1) dX1_newBlock_10 (by decide) ?_
  refine y_iaddN C dX1_newBlock_11 ?_
  refine y_put C in_X1_newBlock_1 tyX1 tyX1_ok nmX1 (ci := 1) rfl 3 (by decide) rfl (List.mem_of_getElem? (i := 1) rfl) 0 rfl rfl rfl (Nat.le_of_ble_eq_true rfl) (ws' := WP cI aP E vs dp (B + 1) sz cd M fr tt f1 f2 ch) rfl dX1_newBlock_12 ?_
  refine y_aload_n C 1 dX1_newBlock_15 rfl rfl ?_
  refine y_iconst C (v := nI 1) dX1_newBlock_16 (by decide) ?_
  refine y_put C in_X1_newBlock_1 tyX1 tyX1_ok nmX1 (ci := 1) rfl 11 (by decide) rfl (List.mem_of_getElem? (i := 2) rfl) 0 rfl rfl rfl (Nat.le_of_ble_eq_true rfl) (ws' := WP cI aP E vs dp (B + 1) sz cd M fr tt f1 f2 (nI 1)) rfl dX1_newBlock_17 ?_
  refine y_iload_n C 0 dX1_newBlock_20 rfl rfl ?_
  exact K _ _ _ _ _ dX1_newBlock_21 (rfl) (by decide) (by decide)
theorem in_X1_removeLast_1 : ∀ w ∈ wsX10, w ∈ wsX1_removeLast := fun _ h => List.mem_cons_of_mem _ (List.mem_append_right _ h)
set_option maxHeartbeats 4000000 in
set_option maxRecDepth 100000 in
theorem c_X1_removeLast (l : Launch) (D : va_G) (cI : ClassId) (aP : Nat → Nat) (E : Nat) (vs dp : Nat → Int32) (B : Nat) (sz cd : Nat → Nat) (M : Nat) (fr tt : Nat → Nat) (f1 f2 : Nat → Int32) (ch : Int32) (b : Nat) (hsz : ∀ j, sz j ≤ 12) (hb : b < 40) (hs : sz b ≠ 0) : ctI l yX1_removeLast wsX1_removeLast (rmD 0 0 0) D [(cI, .int)] [.ref (aP 0), .int (nI b)] (WP cI aP E vs dp B sz cd M fr tt f1 f2 ch) (WP cI aP E vs dp B (upN sz b (sz b - 1)) cd M fr tt f1 f2 (nI 1)) (nI (sz b - 1)) 0 0 := by
  refine ctI_of (by decide) rfl (Nat.le_of_ble_eq_true rfl) ?_
  intro p e s m args below meth c A Q C hnm K
  refine y_lv (lv' := [(0, .ref (aP 0)), (1, .int (nI b))]) rfl ?_
  refine y_aload_n C 0 dX1_removeLast_0 rfl rfl ?_
  refine y_get C in_X1_removeLast_1 (ci := 1) rfl 4 (by decide) (List.mem_of_getElem? (i := 1) rfl) 0 rfl rfl dX1_removeLast_1 ?_
  refine y_iload_n C 1 dX1_removeLast_4 rfl rfl ?_
  refine y_dup2_11 C dX1_removeLast_5 rfl rfl ?_
  refine y_ialdA C (q0 := 3) (t0 := 0) rfl rfl (by decide) (by omega) dX1_removeLast_6 ?_
  refine y_iconst C (v := nI 1) dX1_removeLast_7 (by decide) ?_
  refine y_isubN C dX1_removeLast_8 (by have := hsz b; omega) ?_
  refine y_iastA C (q0 := 3) (t0 := 0) rfl rfl (by decide) (by omega) (ws' := WP cI aP E vs dp B (upN sz b ((sz b) - 1)) cd M fr tt f1 f2 ch) rfl dX1_removeLast_9 ?_
  refine y_aload_n C 0 dX1_removeLast_10 rfl rfl ?_
  refine y_iconst C (v := nI 1) dX1_removeLast_11 (by decide) ?_
  refine y_put C in_X1_removeLast_1 tyX1 tyX1_ok nmX1 (ci := 1) rfl 11 (by decide) rfl (List.mem_of_getElem? (i := 2) rfl) 0 rfl rfl rfl (Nat.le_of_ble_eq_true rfl) (ws' := WP cI aP E vs dp B (upN sz b ((sz b) - 1)) cd M fr tt f1 f2 (nI 1)) rfl dX1_removeLast_12 ?_
  refine y_aload_n C 0 dX1_removeLast_15 rfl rfl ?_
  refine y_get C in_X1_removeLast_1 (ci := 1) rfl 4 (by decide) (List.mem_of_getElem? (i := 1) rfl) 0 rfl rfl dX1_removeLast_16 ?_
  refine y_iload_n C 1 dX1_removeLast_19 rfl rfl ?_
  refine y_ialdA C (q0 := 3) (t0 := 0) rfl rfl (by decide) (by omega) dX1_removeLast_20 ?_
  refine y_topE (congrArg nI upN_s) ?_
  exact K _ _ _ _ _ dX1_removeLast_21 (rfl) (by decide) (by decide)
theorem in_X1_append_1 : ∀ w ∈ wsX10, w ∈ wsX1_append := fun _ h => List.mem_cons_of_mem _ (List.mem_append_right _ h)
set_option maxHeartbeats 4000000 in
set_option maxRecDepth 100000 in
theorem c_X1_append (l : Launch) (D : va_G) (cI : ClassId) (aP : Nat → Nat) (E : Nat) (vs dp : Nat → Int32) (B : Nat) (sz cd : Nat → Nat) (M : Nat) (fr tt : Nat → Nat) (f1 f2 : Nat → Int32) (ch : Int32) (b k v : Nat) (hb : b < 40) (hs : sz b < 12) : ctI l yX1_append wsX1_append (rmD 0 0 0) D [(cI, .int)] [.ref (aP 0), .int (nI b), .int (nI k), .int (nI v)] (WP cI aP E vs dp B sz cd M fr tt f1 f2 ch) (WP cI aP E vs dp B (upN sz b (sz b + 1)) (upN cd (12 * b + sz b) (3 * v + k)) M fr tt f1 f2 (nI 1)) (nI (sz b + 1)) 0 0 := by
  refine ctI_of (by decide) rfl (Nat.le_of_ble_eq_true rfl) ?_
  intro p e s m args below meth c A Q C hnm K
  refine y_lv (lv' := [(0, .ref (aP 0)), (1, .int (nI b)), (2, .int (nI k)), (3, .int (nI v))]) rfl ?_
  refine y_aload_n C 0 dX1_append_0 rfl rfl ?_
  refine y_get C in_X1_append_1 (ci := 1) rfl 5 (by decide) (List.mem_of_getElem? (i := 1) rfl) 0 rfl rfl dX1_append_1 ?_
  refine y_iload_n C 1 dX1_append_4 rfl rfl ?_
  refine y_bipush C (v := nI 12) dX1_append_5 (by decide) ?_
  refine y_imulN C dX1_append_7 ?_
  refine y_topE (congrArg nI (Nat.mul_comm _ _)) ?_
  refine y_aload_n C 0 dX1_append_8 rfl rfl ?_
  refine y_get C in_X1_append_1 (ci := 1) rfl 4 (by decide) (List.mem_of_getElem? (i := 2) rfl) 0 rfl rfl dX1_append_9 ?_
  refine y_iload_n C 1 dX1_append_12 rfl rfl ?_
  refine y_ialdA C (q0 := 3) (t0 := 0) rfl rfl (by decide) (by omega) dX1_append_13 ?_
  refine y_iaddN C dX1_append_14 ?_
  refine y_iconst C (v := nI 3) dX1_append_15 (by decide) ?_
  refine y_iload_n C 3 dX1_append_16 rfl rfl ?_
  refine y_imulN C dX1_append_17 ?_
  refine y_iload_n C 2 dX1_append_18 rfl rfl ?_
  refine y_iaddN C dX1_append_19 ?_
  refine y_iastA C (q0 := 4) (t0 := 0) rfl rfl (by decide) (by omega) (ws' := WP cI aP E vs dp B sz (upN cd ((12 * b) + (sz b)) ((3 * v) + k)) M fr tt f1 f2 ch) rfl dX1_append_20 ?_
  refine y_aload_n C 0 dX1_append_21 rfl rfl ?_
  refine y_get C in_X1_append_1 (ci := 1) rfl 4 (by decide) (List.mem_of_getElem? (i := 2) rfl) 0 rfl rfl dX1_append_22 ?_
  refine y_iload_n C 1 dX1_append_25 rfl rfl ?_
  refine y_dup2_11 C dX1_append_26 rfl rfl ?_
  refine y_ialdA C (q0 := 3) (t0 := 0) rfl rfl (by decide) (by omega) dX1_append_27 ?_
  refine y_iconst C (v := nI 1) dX1_append_28 (by decide) ?_
  refine y_iaddN C dX1_append_29 ?_
  refine y_iastA C (q0 := 3) (t0 := 0) rfl rfl (by decide) (by omega) (ws' := WP cI aP E vs dp B (upN sz b ((sz b) + 1)) (upN cd ((12 * b) + (sz b)) ((3 * v) + k)) M fr tt f1 f2 ch) rfl dX1_append_30 ?_
  refine y_aload_n C 0 dX1_append_31 rfl rfl ?_
  refine y_iconst C (v := nI 1) dX1_append_32 (by decide) ?_
  refine y_put C in_X1_append_1 tyX1 tyX1_ok nmX1 (ci := 1) rfl 11 (by decide) rfl (List.mem_of_getElem? (i := 3) rfl) 0 rfl rfl rfl (Nat.le_of_ble_eq_true rfl) (ws' := WP cI aP E vs dp B (upN sz b ((sz b) + 1)) (upN cd ((12 * b) + (sz b)) ((3 * v) + k)) M fr tt f1 f2 (nI 1)) rfl dX1_append_33 ?_
  refine y_aload_n C 0 dX1_append_36 rfl rfl ?_
  refine y_get C in_X1_append_1 (ci := 1) rfl 4 (by decide) (List.mem_of_getElem? (i := 2) rfl) 0 rfl rfl dX1_append_37 ?_
  refine y_iload_n C 1 dX1_append_40 rfl rfl ?_
  refine y_ialdA C (q0 := 3) (t0 := 0) rfl rfl (by decide) (by omega) dX1_append_41 ?_
  refine y_topE (congrArg nI upN_s) ?_
  exact K _ _ _ _ _ dX1_append_42 (rfl) (by decide) (by decide)
theorem in_X1_hasEdge_1 : ∀ w ∈ wsX10, w ∈ wsX1_hasEdge := fun _ h => List.mem_cons_of_mem _ (List.mem_append_right _ h)
set_option maxHeartbeats 4000000 in
set_option maxRecDepth 100000 in
theorem c_X1_hasEdge (l : Launch) (D : va_G) (cI : ClassId) (aP : Nat → Nat) (E : Nat) (vs dp : Nat → Int32) (B : Nat) (sz cd : Nat → Nat) (M : Nat) (fr tt : Nat → Nat) (f1 f2 : Nat → Int32) (ch : Int32) (f t : Nat) (htt : ∀ j, tt j < 40) (hf1 : ∀ b, f1 b = -1 ∨ ∃ q, q < 80 ∧ f1 b = nI q) (hf2 : ∀ b, f2 b = -1 ∨ ∃ q, q < 80 ∧ f2 b = nI q) (hf : f < 40) (ht : t < 40) : ctI l yX1_hasEdge wsX1_hasEdge (rmD 0 0 0) D [(cI, .int)] [.ref (aP 0), .int (nI f), .int (nI t)] (WP cI aP E vs dp B sz cd M fr tt f1 f2 ch) (WP cI aP E vs dp B sz cd M fr tt f1 f2 ch) (nI (hasF tt f1 f2 f t)) 0 0 := by
  refine ctZ_of (by decide) rfl (Nat.le_of_ble_eq_true rfl) ?_
  intro p e s m args below meth c A Q C hnm K
  refine y_lv (lv' := [(0, .ref (aP 0)), (1, .int (nI f)), (2, .int (nI t))]) rfl ?_
  refine y_aload_n C 0 dX1_hasEdge_0 rfl rfl ?_
  refine y_get C in_X1_hasEdge_1 (ci := 1) rfl 9 (by decide) (List.mem_of_getElem? (i := 1) rfl) 0 rfl rfl dX1_hasEdge_1 ?_
  refine y_iload_n C 1 dX1_hasEdge_4 rfl rfl ?_
  refine y_iald C (q0 := 7) (t0 := 0) rfl rfl (by decide) (by omega) dX1_hasEdge_5 ?_
  refine y_istore_n C (lv' := [(3, .int (f1 f)), (0, .ref (aP 0)), (1, .int (nI f)), (2, .int (nI t))]) dX1_hasEdge_6 rfl (by decide) rfl ?_
  refine y_aload_n C 1 dX1_hasEdge_7 rfl rfl ?_
  refine y_get C in_X1_hasEdge_1 (ci := 1) rfl 10 (by decide) (List.mem_of_getElem? (i := 2) rfl) 0 rfl rfl dX1_hasEdge_8 ?_
  refine y_iload_n C 2 dX1_hasEdge_11 rfl rfl ?_
  refine y_iald C (q0 := 8) (t0 := 0) rfl rfl (by decide) (by omega) dX1_hasEdge_12 ?_
  refine y_istore C (lv' := [(4, .int (f2 f)), (3, .int (f1 f)), (0, .ref (aP 0)), (1, .int (nI f)), (2, .int (nI t))]) dX1_hasEdge_13 (by decide) rfl ?_
  refine y_iload_n C 1 dX1_hasEdge_15 rfl rfl ?_
  refine y_iconst C (v := (-1)) dX1_hasEdge_16 (by decide) ?_
  refine y_icmp_eq C (tgt := 30) dX1_hasEdge_17 (by decide)  (fun h17 => ?_) (fun h17 => ?_)
  · skip
    refine y_iload C 0 dX1_hasEdge_30 rfl ?_
    refine y_iconst C (v := (-1)) dX1_hasEdge_32 (by decide) ?_
    refine y_icmp_eq C (tgt := 51) dX1_hasEdge_33 (by decide)  (fun h33 => ?_) (fun h33 => ?_)
    · skip
      refine y_iconst C (v := nI 0) dX1_hasEdge_51 (by decide) ?_
      exact K _ _ _ _ _ dX1_hasEdge_52 (by simp [hasF, h17, h33]) (rfl) (by decide) (by decide)
    · skip
      obtain ⟨q2, hq2, hqe2⟩ := (hf2 f).resolve_left h33
      have hqc2 : (f2 f).toNatClampNeg = q2 := by rw [hqe2]; exact nI_clamp (by omega)
      refine y_aload_n C 2 dX1_hasEdge_36 rfl rfl ?_
      refine y_get C in_X1_hasEdge_1 (ci := 1) rfl 8 (by decide) (List.mem_of_getElem? (i := 3) rfl) 0 rfl rfl dX1_hasEdge_37 ?_
      refine y_iload C 0 dX1_hasEdge_40 rfl ?_
      refine y_topN hqe2 ?_
      refine y_ialdA C (q0 := 6) (t0 := 0) rfl rfl (by decide) (by omega) dX1_hasEdge_42 ?_
      refine y_iload_n C 4 dX1_hasEdge_43 rfl rfl ?_
      refine y_icmpN_ne C (tgt := 51) dX1_hasEdge_44 (by decide) (by have := htt q2; omega) (by omega) (fun h44 => ?_) (fun h44 => ?_)
      · skip
        refine y_iconst C (v := nI 0) dX1_hasEdge_51 (by decide) ?_
        exact K _ _ _ _ _ dX1_hasEdge_52 (by simp [hasF, h17, h33, h44, hqc2]) (rfl) (by decide) (by decide)
      · skip
        refine y_iconst C (v := nI 1) dX1_hasEdge_47 (by decide) ?_
        refine y_goto C (tgt := 52) dX1_hasEdge_48 (by decide) ?_
        exact K _ _ _ _ _ dX1_hasEdge_52 (by simp [hasF, h17, h33, h44, hqc2]) (rfl) (by decide) (by decide)
  · skip
    obtain ⟨q1, hq1, hqe1⟩ := (hf1 f).resolve_left h17
    have hqc1 : (f1 f).toNatClampNeg = q1 := by rw [hqe1]; exact nI_clamp (by omega)
    refine y_aload_n C 2 dX1_hasEdge_20 rfl rfl ?_
    refine y_get C in_X1_hasEdge_1 (ci := 1) rfl 8 (by decide) (List.mem_of_getElem? (i := 3) rfl) 0 rfl rfl dX1_hasEdge_21 ?_
    refine y_iload_n C 1 dX1_hasEdge_24 rfl rfl ?_
    refine y_topN hqe1 ?_
    refine y_ialdA C (q0 := 6) (t0 := 0) rfl rfl (by decide) (by omega) dX1_hasEdge_25 ?_
    refine y_iload_n C 4 dX1_hasEdge_26 rfl rfl ?_
    refine y_icmpN_eq C (tgt := 47) dX1_hasEdge_27 (by decide) (by have := htt q1; omega) (by omega) (fun h27 => ?_) (fun h27 => ?_)
    · skip
      refine y_iconst C (v := nI 1) dX1_hasEdge_47 (by decide) ?_
      refine y_goto C (tgt := 52) dX1_hasEdge_48 (by decide) ?_
      exact K _ _ _ _ _ dX1_hasEdge_52 (by simp [hasF, h17, h27, hqc1]) (rfl) (by decide) (by decide)
    · skip
      refine y_iload C 0 dX1_hasEdge_30 rfl ?_
      refine y_iconst C (v := (-1)) dX1_hasEdge_32 (by decide) ?_
      refine y_icmp_eq C (tgt := 51) dX1_hasEdge_33 (by decide)  (fun h33 => ?_) (fun h33 => ?_)
      · skip
        refine y_iconst C (v := nI 0) dX1_hasEdge_51 (by decide) ?_
        exact K _ _ _ _ _ dX1_hasEdge_52 (by simp [hasF, h17, h27, hqc1, h33]) (rfl) (by decide) (by decide)
      · skip
        obtain ⟨q2, hq2, hqe2⟩ := (hf2 f).resolve_left h33
        have hqc2 : (f2 f).toNatClampNeg = q2 := by rw [hqe2]; exact nI_clamp (by omega)
        refine y_aload_n C 2 dX1_hasEdge_36 rfl rfl ?_
        refine y_get C in_X1_hasEdge_1 (ci := 1) rfl 8 (by decide) (List.mem_of_getElem? (i := 3) rfl) 0 rfl rfl dX1_hasEdge_37 ?_
        refine y_iload C 0 dX1_hasEdge_40 rfl ?_
        refine y_topN hqe2 ?_
        refine y_ialdA C (q0 := 6) (t0 := 0) rfl rfl (by decide) (by omega) dX1_hasEdge_42 ?_
        refine y_iload_n C 4 dX1_hasEdge_43 rfl rfl ?_
        refine y_icmpN_ne C (tgt := 51) dX1_hasEdge_44 (by decide) (by have := htt q2; omega) (by omega) (fun h44 => ?_) (fun h44 => ?_)
        · skip
          refine y_iconst C (v := nI 0) dX1_hasEdge_51 (by decide) ?_
          exact K _ _ _ _ _ dX1_hasEdge_52 (by simp [hasF, h17, h27, hqc1, h33, h44, hqc2]) (rfl) (by decide) (by decide)
        · skip
          refine y_iconst C (v := nI 1) dX1_hasEdge_47 (by decide) ?_
          refine y_goto C (tgt := 52) dX1_hasEdge_48 (by decide) ?_
          exact K _ _ _ _ _ dX1_hasEdge_52 (by simp [hasF, h17, h27, hqc1, h33, h44, hqc2]) (rfl) (by decide) (by decide)
theorem in_X1_newEdge_1 : ∀ w ∈ wsX10, w ∈ wsX1_newEdge := fun _ h => List.mem_cons_of_mem _ (List.mem_append_right _ h)
set_option maxHeartbeats 4000000 in
set_option maxRecDepth 100000 in
theorem c_X1_newEdge (l : Launch) (D : va_G) (cI : ClassId) (aP : Nat → Nat) (E : Nat) (vs dp : Nat → Int32) (B : Nat) (sz cd : Nat → Nat) (M : Nat) (fr tt : Nat → Nat) (f1 f2 : Nat → Int32) (ch : Int32) (f t : Nat) (hM : M < 80) (hf : f < 40) (ht : t < 40) : ctI l yX1_newEdge wsX1_newEdge (rmD 0 0 0) D [(cI, .int)] [.ref (aP 0), .int (nI f), .int (nI t)] (WP cI aP E vs dp B sz cd M fr tt f1 f2 ch) (WP cI aP E vs dp B sz cd (M + 1) (upN fr M f) (upN tt M t) (if f1 f = -1 then upd f1 f (nI M) else f1) (if f1 f = -1 then f2 else upd f2 f (nI M)) (nI 1)) (nI M) 0 0 := by
  refine ctI_of (by decide) rfl (Nat.le_of_ble_eq_true rfl) ?_
  intro p e s m args below meth c A Q C hnm K
  refine y_lv (lv' := [(0, .ref (aP 0)), (1, .int (nI f)), (2, .int (nI t))]) rfl ?_
  refine y_aload_n C 0 dX1_newEdge_0 rfl rfl ?_
  refine y_get C in_X1_newEdge_1 (ci := 1) rfl 6 (by decide) (List.mem_of_getElem? (i := 1) rfl) 0 rfl rfl dX1_newEdge_1 ?_
  refine y_istore_n C (lv' := [(3, .int (nI M)), (0, .ref (aP 0)), (1, .int (nI f)), (2, .int (nI t))]) dX1_newEdge_4 rfl (by decide) rfl ?_
  refine y_aload_n C 1 dX1_newEdge_5 rfl rfl ?_
  refine y_get C in_X1_newEdge_1 (ci := 1) rfl 7 (by decide) (List.mem_of_getElem? (i := 2) rfl) 0 rfl rfl dX1_newEdge_6 ?_
  refine y_iload_n C 0 dX1_newEdge_9 rfl rfl ?_
  refine y_iload_n C 2 dX1_newEdge_10 rfl rfl ?_
  refine y_iastA C (q0 := 5) (t0 := 0) rfl rfl (by decide) (by omega) (ws' := WP cI aP E vs dp B sz cd M (upN fr M f) tt f1 f2 ch) rfl dX1_newEdge_11 ?_
  refine y_aload_n C 1 dX1_newEdge_12 rfl rfl ?_
  refine y_get C in_X1_newEdge_1 (ci := 1) rfl 8 (by decide) (List.mem_of_getElem? (i := 3) rfl) 0 rfl rfl dX1_newEdge_13 ?_
  refine y_iload_n C 0 dX1_newEdge_16 rfl rfl ?_
  refine y_iload_n C 3 dX1_newEdge_17 rfl rfl ?_
  refine y_iastA C (q0 := 6) (t0 := 0) rfl rfl (by decide) (by omega) (ws' := WP cI aP E vs dp B sz cd M (upN fr M f) (upN tt M t) f1 f2 ch) rfl dX1_newEdge_18 ?_
  refine y_aload_n C 1 dX1_newEdge_19 rfl rfl ?_
  refine y_get C in_X1_newEdge_1 (ci := 1) rfl 9 (by decide) (List.mem_of_getElem? (i := 4) rfl) 0 rfl rfl dX1_newEdge_20 ?_
  refine y_iload_n C 2 dX1_newEdge_23 rfl rfl ?_
  refine y_iald C (q0 := 7) (t0 := 0) rfl rfl (by decide) (by omega) dX1_newEdge_24 ?_
  refine y_iconst C (v := (-1)) dX1_newEdge_25 (by decide) ?_
  refine y_icmp_ne C (tgt := 39) dX1_newEdge_26 (by decide)  (fun h26 => ?_) (fun h26 => ?_)
  · skip
    refine y_aload_n C 1 dX1_newEdge_39 rfl rfl ?_
    refine y_get C in_X1_newEdge_1 (ci := 1) rfl 10 (by decide) (List.mem_of_getElem? (i := 5) rfl) 0 rfl rfl dX1_newEdge_40 ?_
    refine y_iload_n C 2 dX1_newEdge_43 rfl rfl ?_
    refine y_iload_n C 0 dX1_newEdge_44 rfl rfl ?_
    refine y_iast C (q0 := 8) (t0 := 0) rfl rfl (by decide) (by omega) (ws' := WP cI aP E vs dp B sz cd M (upN fr M f) (upN tt M t) f1 (upd f2 f (nI M)) ch) rfl dX1_newEdge_45 ?_
    refine y_aload_n C 1 dX1_newEdge_46 rfl rfl ?_
    refine y_dup C dX1_newEdge_47 rfl ?_
    refine y_get C in_X1_newEdge_1 (ci := 1) rfl 6 (by decide) (List.mem_of_getElem? (i := 1) rfl) 0 rfl rfl dX1_newEdge_48 ?_
    refine y_iconst C (v := nI 1) dX1_newEdge_51 (by decide) ?_
    refine y_iaddN C dX1_newEdge_52 ?_
    refine y_put C in_X1_newEdge_1 tyX1 tyX1_ok nmX1 (ci := 1) rfl 6 (by decide) rfl (List.mem_of_getElem? (i := 1) rfl) 0 rfl rfl rfl (Nat.le_of_ble_eq_true rfl) (ws' := WP cI aP E vs dp B sz cd (M + 1) (upN fr M f) (upN tt M t) f1 (upd f2 f (nI M)) ch) rfl dX1_newEdge_53 ?_
    refine y_aload_n C 1 dX1_newEdge_56 rfl rfl ?_
    refine y_iconst C (v := nI 1) dX1_newEdge_57 (by decide) ?_
    refine y_put C in_X1_newEdge_1 tyX1 tyX1_ok nmX1 (ci := 1) rfl 11 (by decide) rfl (List.mem_of_getElem? (i := 6) rfl) 0 rfl rfl rfl (Nat.le_of_ble_eq_true rfl) (ws' := WP cI aP E vs dp B sz cd (M + 1) (upN fr M f) (upN tt M t) f1 (upd f2 f (nI M)) (nI 1)) rfl dX1_newEdge_58 ?_
    refine y_iload_n C 0 dX1_newEdge_61 rfl rfl ?_
    refine y_ws (ws' := WP cI aP E vs dp B sz cd (M + 1) (upN fr M f) (upN tt M t) (if f1 f = -1 then upd f1 f (nI M) else f1) (if f1 f = -1 then f2 else upd f2 f (nI M)) (nI 1)) (by simp [h26]) ?_
    exact K _ _ _ _ _ dX1_newEdge_62 (rfl) (by decide) (by decide)
  · skip
    refine y_aload_n C 1 dX1_newEdge_29 rfl rfl ?_
    refine y_get C in_X1_newEdge_1 (ci := 1) rfl 9 (by decide) (List.mem_of_getElem? (i := 4) rfl) 0 rfl rfl dX1_newEdge_30 ?_
    refine y_iload_n C 2 dX1_newEdge_33 rfl rfl ?_
    refine y_iload_n C 0 dX1_newEdge_34 rfl rfl ?_
    refine y_iast C (q0 := 7) (t0 := 0) rfl rfl (by decide) (by omega) (ws' := WP cI aP E vs dp B sz cd M (upN fr M f) (upN tt M t) (upd f1 f (nI M)) f2 ch) rfl dX1_newEdge_35 ?_
    refine y_goto C (tgt := 46) dX1_newEdge_36 (by decide) ?_
    refine y_aload_n C 1 dX1_newEdge_46 rfl rfl ?_
    refine y_dup C dX1_newEdge_47 rfl ?_
    refine y_get C in_X1_newEdge_1 (ci := 1) rfl 6 (by decide) (List.mem_of_getElem? (i := 1) rfl) 0 rfl rfl dX1_newEdge_48 ?_
    refine y_iconst C (v := nI 1) dX1_newEdge_51 (by decide) ?_
    refine y_iaddN C dX1_newEdge_52 ?_
    refine y_put C in_X1_newEdge_1 tyX1 tyX1_ok nmX1 (ci := 1) rfl 6 (by decide) rfl (List.mem_of_getElem? (i := 1) rfl) 0 rfl rfl rfl (Nat.le_of_ble_eq_true rfl) (ws' := WP cI aP E vs dp B sz cd (M + 1) (upN fr M f) (upN tt M t) (upd f1 f (nI M)) f2 ch) rfl dX1_newEdge_53 ?_
    refine y_aload_n C 1 dX1_newEdge_56 rfl rfl ?_
    refine y_iconst C (v := nI 1) dX1_newEdge_57 (by decide) ?_
    refine y_put C in_X1_newEdge_1 tyX1 tyX1_ok nmX1 (ci := 1) rfl 11 (by decide) rfl (List.mem_of_getElem? (i := 6) rfl) 0 rfl rfl rfl (Nat.le_of_ble_eq_true rfl) (ws' := WP cI aP E vs dp B sz cd (M + 1) (upN fr M f) (upN tt M t) (upd f1 f (nI M)) f2 (nI 1)) rfl dX1_newEdge_58 ?_
    refine y_iload_n C 0 dX1_newEdge_61 rfl rfl ?_
    refine y_ws (ws' := WP cI aP E vs dp B sz cd (M + 1) (upN fr M f) (upN tt M t) (if f1 f = -1 then upd f1 f (nI M) else f1) (if f1 f = -1 then f2 else upd f2 f (nI M)) (nI 1)) (by simp [h26]) ?_
    exact K _ _ _ _ _ dX1_newEdge_62 (rfl) (by decide) (by decide)
theorem in_X1_newExpression_1 : ∀ w ∈ wsX10, w ∈ wsX1_newExpression := fun _ h => List.mem_cons_of_mem _ (List.mem_append_right _ h)
set_option maxHeartbeats 4000000 in
set_option maxRecDepth 100000 in
theorem c_X1_newExpression (l : Launch) (D : va_G) (cI : ClassId) (aP : Nat → Nat) (E : Nat) (vs dp : Nat → Int32) (B : Nat) (sz cd : Nat → Nat) (M : Nat) (fr tt : Nat → Nat) (f1 f2 : Nat → Int32) (ch : Int32) (k : Nat) (hE : E < 8) (hk : k ≤ 63) : ctI l yX1_newExpression wsX1_newExpression (rmD 0 0 0) D [(cI, .int)] [.ref (aP 0), .int (nI k)] (WP cI aP E vs dp B sz cd M fr tt f1 f2 ch) (WP cI aP (E + 1) (upd vs E (nI k)) (ndF dp k E 6) B sz cd M fr tt f1 f2 (nI 1)) (nI E) 0 0 := by
  refine ctI_of (by decide) rfl (Nat.le_of_ble_eq_true rfl) ?_
  intro p e s m args below meth c A Q C hnm K
  refine y_lv (lv' := [(0, .ref (aP 0)), (1, .int (nI k))]) rfl ?_
  refine y_aload_n C 0 dX1_newExpression_0 rfl rfl ?_
  refine y_get C in_X1_newExpression_1 (ci := 1) rfl 0 (by decide) (List.mem_of_getElem? (i := 1) rfl) 0 rfl rfl dX1_newExpression_1 ?_
  refine y_istore_n C (lv' := [(2, .int (nI E)), (0, .ref (aP 0)), (1, .int (nI k))]) dX1_newExpression_4 rfl (by decide) rfl ?_
  refine y_aload_n C 1 dX1_newExpression_5 rfl rfl ?_
  refine y_get C in_X1_newExpression_1 (ci := 1) rfl 1 (by decide) (List.mem_of_getElem? (i := 2) rfl) 0 rfl rfl dX1_newExpression_6 ?_
  refine y_iload_n C 0 dX1_newExpression_9 rfl rfl ?_
  refine y_iload_n C 2 dX1_newExpression_10 rfl rfl ?_
  refine y_iast C (q0 := 1) (t0 := 0) rfl rfl (by decide) (by omega) (ws' := WP cI aP E (upd vs E (nI k)) dp B sz cd M fr tt f1 f2 ch) rfl dX1_newExpression_11 ?_
  refine y_iconst C (v := nI 0) dX1_newExpression_12 (by decide) ?_
  refine y_istore_n C (lv' := [(3, .int (nI 0)), (2, .int (nI E)), (0, .ref (aP 0)), (1, .int (nI k))]) dX1_newExpression_13 rfl (by decide) rfl ?_
  have lp14 : ∀ (n14 : Nat) (v : Nat) (d : (Nat → Int32)), (v ≤ 6) → (d = ndF dp k E v) → (6 - v) < n14 → yW p l e (rmD 0 0 0) s m args below meth c 4 D A Q 0 0 (WP cI aP E (upd vs E (nI k)) d B sz cd M fr tt f1 f2 ch) 14 [(0, .ref (aP 0)), (1, .int (nI k)), (2, .int (nI E)), (3, .int (nI v))] [] := by
    intro n14
    induction n14 with
    | zero => intro v d hv hd hm; exact absurd hm (Nat.not_lt_zero _)
    | succ n14 ih14 =>
      intro v d hv hd hm14
      refine y_iload_n C 3 dX1_newExpression_14 rfl rfl ?_
      refine y_bipush C (v := nI 6) dX1_newExpression_15 (by decide) ?_
      refine y_icmpN_ge C (tgt := 46) dX1_newExpression_17 (by decide) (by omega) (by omega) (fun h17 => ?_) (fun h17 => ?_)
      · skip
        rw [show v = 6 by omega] at hd; subst hd
        refine y_aload_n C 0 dX1_newExpression_46 rfl rfl ?_
        refine y_dup C dX1_newExpression_47 rfl ?_
        refine y_get C in_X1_newExpression_1 (ci := 1) rfl 0 (by decide) (List.mem_of_getElem? (i := 1) rfl) 0 rfl rfl dX1_newExpression_48 ?_
        refine y_iconst C (v := nI 1) dX1_newExpression_51 (by decide) ?_
        refine y_iaddN C dX1_newExpression_52 ?_
        refine y_put C in_X1_newExpression_1 tyX1 tyX1_ok nmX1 (ci := 1) rfl 0 (by decide) rfl (List.mem_of_getElem? (i := 1) rfl) 0 rfl rfl rfl (Nat.le_of_ble_eq_true rfl) (ws' := WP cI aP (E + 1) (upd vs E (nI k)) (ndF dp k E 6) B sz cd M fr tt f1 f2 ch) rfl dX1_newExpression_53 ?_
        refine y_aload_n C 0 dX1_newExpression_56 rfl rfl ?_
        refine y_iconst C (v := nI 1) dX1_newExpression_57 (by decide) ?_
        refine y_put C in_X1_newExpression_1 tyX1 tyX1_ok nmX1 (ci := 1) rfl 11 (by decide) rfl (List.mem_of_getElem? (i := 4) rfl) 0 rfl rfl rfl (Nat.le_of_ble_eq_true rfl) (ws' := WP cI aP (E + 1) (upd vs E (nI k)) (ndF dp k E 6) B sz cd M fr tt f1 f2 (nI 1)) rfl dX1_newExpression_58 ?_
        refine y_iload_n C 2 dX1_newExpression_61 rfl rfl ?_
        exact K _ _ _ _ _ dX1_newExpression_62 (rfl) (by decide) (by decide)
      · skip
        refine y_iload_n C 1 dX1_newExpression_20 rfl rfl ?_
        refine y_iload_n C 3 dX1_newExpression_21 rfl rfl ?_
        refine y_ishr C dX1_newExpression_22 ?_
        refine y_iconst C (v := (1 : Int32)) dX1_newExpression_23 (by decide) ?_
        refine y_iand C dX1_newExpression_24 ?_
        refine y_if_eq C (tgt := 40) dX1_newExpression_25 (by decide)  (fun h25 => ?_) (fun h25 => ?_)
        · skip
          refine y_iinc C (k := 3) (lv' := [(3, .int (nI (v + 1))), (0, .ref (aP 0)), (1, .int (nI k)), (2, .int (nI E))]) dX1_newExpression_40 rfl (yn_inc rfl) (by decide) rfl ?_
          refine y_goto C (tgt := 14) dX1_newExpression_43 (by decide) ?_
          refine y_sub [1, 2, 3, 0] (lv' := [(0, .ref (aP 0)), (1, .int (nI k)), (2, .int (nI E)), (3, .int (nI (v + 1)))]) rfl ?_
          exact ih14 _ _ (by omega) (by simp [ndF, oneF, hd, h25]) (by omega)
        · skip
          refine y_aload_n C 0 dX1_newExpression_28 rfl rfl ?_
          refine y_get C in_X1_newExpression_1 (ci := 1) rfl 2 (by decide) (List.mem_of_getElem? (i := 3) rfl) 0 rfl rfl dX1_newExpression_29 ?_
          refine y_iload_n C 3 dX1_newExpression_32 rfl rfl ?_
          refine y_dup2_11 C dX1_newExpression_33 rfl rfl ?_
          refine y_iald C (q0 := 2) (t0 := 0) rfl rfl (by decide) (by omega) dX1_newExpression_34 ?_
          refine y_iconst C (v := (1 : Int32)) dX1_newExpression_35 (by decide) ?_
          refine y_iload_n C 2 dX1_newExpression_36 rfl rfl ?_
          refine y_ishl C dX1_newExpression_37 ?_
          refine y_ior C dX1_newExpression_38 ?_
          refine y_iast C (q0 := 2) (t0 := 0) rfl rfl (by decide) (by omega) (ws' := WP cI aP E (upd vs E (nI k)) (upd d v ((d v) ||| (((1 : Int32)) <<< ((nI E) &&& 31)))) B sz cd M fr tt f1 f2 ch) rfl dX1_newExpression_39 ?_
          refine y_iinc C (k := 3) (lv' := [(3, .int (nI (v + 1))), (0, .ref (aP 0)), (1, .int (nI k)), (2, .int (nI E))]) dX1_newExpression_40 rfl (yn_inc rfl) (by decide) rfl ?_
          refine y_goto C (tgt := 14) dX1_newExpression_43 (by decide) ?_
          refine y_sub [1, 2, 3, 0] (lv' := [(0, .ref (aP 0)), (1, .int (nI k)), (2, .int (nI E)), (3, .int (nI (v + 1)))]) rfl ?_
          exact ih14 _ _ (by omega) (by simp [ndF, oneF, hd, h25]) (by omega)
  refine y_sub [2, 3, 1, 0] (lv' := [(0, .ref (aP 0)), (1, .int (nI k)), (2, .int (nI E)), (3, .int (nI 0))]) rfl ?_
  exact lp14 _ _ _ (Nat.zero_le _) rfl (Nat.lt_succ_self _)
theorem in_X1_turnFirstComputesToUses_1 : ∀ w ∈ wsX10, w ∈ wsX1_turnFirstComputesToUses := fun _ h => List.mem_cons_of_mem _ (List.mem_append_right _ h)
set_option maxHeartbeats 4000000 in
set_option maxRecDepth 100000 in
theorem c_X1_turnFirstComputesToUses (l : Launch) (D : va_G) (cI : ClassId) (aP : Nat → Nat) (E : Nat) (vs dp : Nat → Int32) (B : Nat) (sz cd : Nat → Nat) (M : Nat) (fr tt : Nat → Nat) (f1 f2 : Nat → Int32) (ch : Int32) (b : Nat) (g : Int32) (hsz : ∀ j, sz j ≤ 12) (hcd : ∀ j, cd j < 24) (hb : b < 40) : ctV l yX1_turnFirstComputesToUses wsX1_turnFirstComputesToUses (rmD 1 0 0) D [(cI, .int)] [.ref (aP 0), .int (nI b), .int g] (WP cI aP E vs dp B sz cd M fr tt f1 f2 ch) (WP cI aP E vs dp B sz ((tfF cd b g ch (sz b)).2.1) M fr tt f1 f2 ((tfF cd b g ch (sz b)).2.2)) 0 0 := by
  refine ctV_of (by decide) rfl (Nat.le_of_ble_eq_true rfl) ?_
  intro p e s m args below meth c A Q C hnm K
  refine y_lv (lv' := [(0, .ref (aP 0)), (1, .int (nI b)), (2, .int g)]) rfl ?_
  refine y_iload_n C 2 dX1_turnFirstComputesToUses_0 rfl rfl ?_
  refine y_istore_n C (lv' := [(3, .int g), (0, .ref (aP 0)), (1, .int (nI b)), (2, .int g)]) dX1_turnFirstComputesToUses_1 rfl (by decide) rfl ?_
  refine y_iconst C (v := nI 0) dX1_turnFirstComputesToUses_2 (by decide) ?_
  refine y_istore C (lv' := [(4, .int (nI 0)), (3, .int g), (0, .ref (aP 0)), (1, .int (nI b)), (2, .int g)]) dX1_turnFirstComputesToUses_3 (by decide) rfl ?_
  have lp5 : ∀ (n5 : Nat) (i : Nat) (lf : Int32) (u : (Nat → Nat)) (h : Int32), (i ≤ sz b) → ((lf, u, h) = tfF cd b g ch i) → (∀ j, u j < 24) → (sz b - i) < n5 → yW p l e (rmD 1 0 0) s m args below meth c 7 D A Q 0 0 (WP cI aP E vs dp B sz u M fr tt f1 f2 h) 5 [(0, .ref (aP 0)), (1, .int (nI b)), (3, .int lf), (4, .int (nI i))] [] := by
    intro n5
    induction n5 with
    | zero => intro i lf u h hi hT hu hm; exact absurd hm (Nat.not_lt_zero _)
    | succ n5 ih5 =>
      intro i lf u h hi hT hu hm5
      have hzb := hsz b
      refine y_iload C 3 dX1_turnFirstComputesToUses_5 rfl ?_
      refine y_aload_n C 0 dX1_turnFirstComputesToUses_7 rfl rfl ?_
      refine y_get C in_X1_turnFirstComputesToUses_1 (ci := 1) rfl 4 (by decide) (List.mem_of_getElem? (i := 1) rfl) 0 rfl rfl dX1_turnFirstComputesToUses_8 ?_
      refine y_iload_n C 1 dX1_turnFirstComputesToUses_11 rfl rfl ?_
      refine y_ialdA C (q0 := 3) (t0 := 0) rfl rfl (by decide) (by omega) dX1_turnFirstComputesToUses_12 ?_
      refine y_icmpN_ge C (tgt := 83) dX1_turnFirstComputesToUses_13 (by decide) (by omega) (by have := hsz b; omega) (fun h13 => ?_) (fun h13 => ?_)
      · skip
        rw [show i = sz b by omega] at hT
        refine y_ws (ws' := WP cI aP E vs dp B sz ((tfF cd b g ch (sz b)).2.1) M fr tt f1 f2 ((tfF cd b g ch (sz b)).2.2)) (by rw [← hT]) ?_
        exact K _ _ _ _ dX1_turnFirstComputesToUses_83 (by decide) (by decide)
      · skip
        refine y_aload_n C 0 dX1_turnFirstComputesToUses_16 rfl rfl ?_
        refine y_iload_n C 1 dX1_turnFirstComputesToUses_17 rfl rfl ?_
        refine y_iload C 3 dX1_turnFirstComputesToUses_18 rfl ?_
        refine y_callI C (wr := []) 2 (c_X1_codeAt l D cI aP E vs dp B sz u M fr tt f1 f2 h b i (hu) hb (by omega)) gX1_turnFirstComputesToUses_X1_codeAt rfl rfl rfl (by decide +kernel) ⟨Nat.le_of_ble_eq_true rfl, Nat.le_of_ble_eq_true rfl⟩ (q0 := 0) (ci := 1) rfl rfl rfl rfl rfl (Nat.le_of_ble_eq_true rfl) dX1_turnFirstComputesToUses_20 ⟨Nat.le_of_ble_eq_true rfl, Nat.le_of_ble_eq_true rfl⟩ ?_
        refine y_ws (ws' := WP cI aP E vs dp B sz u M fr tt f1 f2 h) rfl ?_
        refine y_istore C (lv' := [(5, .int (nI (u (12 * b + i)))), (0, .ref (aP 0)), (1, .int (nI b)), (3, .int lf), (4, .int (nI i))]) dX1_turnFirstComputesToUses_23 (by decide) rfl ?_
        refine y_iconst C (v := (1 : Int32)) dX1_turnFirstComputesToUses_25 (by decide) ?_
        refine y_iload C 0 dX1_turnFirstComputesToUses_26 rfl ?_
        refine y_iconst C (v := nI 3) dX1_turnFirstComputesToUses_28 (by decide) ?_
        refine y_idivN C dX1_turnFirstComputesToUses_29 (by have := hu (12 * b + i); omega) (by decide) (by decide) ?_
        refine y_ishl C dX1_turnFirstComputesToUses_30 ?_
        refine y_istore C (lv' := [(6, .int (((1 : Int32)) <<< ((nI ((u (12 * b + i)) / 3)) &&& 31))), (5, .int (nI (u (12 * b + i)))), (0, .ref (aP 0)), (1, .int (nI b)), (3, .int lf), (4, .int (nI i))]) dX1_turnFirstComputesToUses_31 (by decide) rfl ?_
        refine y_iload C 1 dX1_turnFirstComputesToUses_33 rfl ?_
        refine y_iconst C (v := nI 3) dX1_turnFirstComputesToUses_35 (by decide) ?_
        refine y_iremN C dX1_turnFirstComputesToUses_36 (by have := hu (12 * b + i); omega) (by decide) (by decide) ?_
        refine y_ifN_ne C (tgt := 77) dX1_turnFirstComputesToUses_37 (by decide) (by have := hu (12 * b + i); omega) (fun h37 => ?_) (fun h37 => ?_)
        · skip
          refine y_iinc C (k := 5) (lv' := [(4, .int (nI (i + 1))), (6, .int (((1 : Int32)) <<< ((nI ((u (12 * b + i)) / 3)) &&& 31))), (5, .int (nI (u (12 * b + i)))), (0, .ref (aP 0)), (1, .int (nI b)), (3, .int lf)]) dX1_turnFirstComputesToUses_77 rfl (yn_inc rfl) (by decide) rfl ?_
          refine y_goto C (tgt := 5) dX1_turnFirstComputesToUses_80 (by decide) ?_
          refine y_sub [3, 4, 5, 0] (lv' := [(0, .ref (aP 0)), (1, .int (nI b)), (3, .int lf), (4, .int (nI (i + 1)))]) rfl ?_
          exact ih5 _ _ _ _ (by omega) (by simp [tfF, oneF, ← hT, h37]) hu (by omega)
        · skip
          refine y_iload_n C 4 dX1_turnFirstComputesToUses_40 rfl rfl ?_
          refine y_iload C 0 dX1_turnFirstComputesToUses_41 rfl ?_
          refine y_iand C dX1_turnFirstComputesToUses_43 ?_
          refine y_if_eq C (tgt := 77) dX1_turnFirstComputesToUses_44 (by decide)  (fun h44 => ?_) (fun h44 => ?_)
          · skip
            refine y_iinc C (k := 5) (lv' := [(4, .int (nI (i + 1))), (6, .int (((1 : Int32)) <<< ((nI ((u (12 * b + i)) / 3)) &&& 31))), (5, .int (nI (u (12 * b + i)))), (0, .ref (aP 0)), (1, .int (nI b)), (3, .int lf)]) dX1_turnFirstComputesToUses_77 rfl (yn_inc rfl) (by decide) rfl ?_
            refine y_goto C (tgt := 5) dX1_turnFirstComputesToUses_80 (by decide) ?_
            refine y_sub [3, 4, 5, 0] (lv' := [(0, .ref (aP 0)), (1, .int (nI b)), (3, .int lf), (4, .int (nI (i + 1)))]) rfl ?_
            exact ih5 _ _ _ _ (by omega) (by simp [tfF, oneF, ← hT, h37, h44]) hu (by omega)
          · skip
            refine y_aload_n C 2 dX1_turnFirstComputesToUses_47 rfl rfl ?_
            refine y_get C in_X1_turnFirstComputesToUses_1 (ci := 1) rfl 5 (by decide) (List.mem_of_getElem? (i := 2) rfl) 0 rfl rfl dX1_turnFirstComputesToUses_48 ?_
            refine y_iload_n C 3 dX1_turnFirstComputesToUses_51 rfl rfl ?_
            refine y_bipush C (v := nI 12) dX1_turnFirstComputesToUses_52 (by decide) ?_
            refine y_imulN C dX1_turnFirstComputesToUses_54 ?_
            refine y_topE (congrArg nI (Nat.mul_comm _ _)) ?_
            refine y_iload C 5 dX1_turnFirstComputesToUses_55 rfl ?_
            refine y_iaddN C dX1_turnFirstComputesToUses_57 ?_
            refine y_iload C 1 dX1_turnFirstComputesToUses_58 rfl ?_
            refine y_iconst C (v := nI 0) dX1_turnFirstComputesToUses_60 (by decide) ?_
            refine y_isubN C dX1_turnFirstComputesToUses_61 (by have := hu (12 * b + i); omega) ?_
            refine y_iconst C (v := nI 1) dX1_turnFirstComputesToUses_62 (by decide) ?_
            refine y_iaddN C dX1_turnFirstComputesToUses_63 ?_
            refine y_iastA C (q0 := 4) (t0 := 0) rfl rfl (by decide) (by omega) (ws' := WP cI aP E vs dp B sz (upN u ((12 * b) + i) (((u (12 * b + i)) - 0) + 1)) M fr tt f1 f2 h) rfl dX1_turnFirstComputesToUses_64 ?_
            refine y_iload_n C 4 dX1_turnFirstComputesToUses_65 rfl rfl ?_
            refine y_iload C 0 dX1_turnFirstComputesToUses_66 rfl ?_
            refine y_iconst C (v := (-1)) dX1_turnFirstComputesToUses_68 (by decide) ?_
            refine y_ixor C dX1_turnFirstComputesToUses_69 ?_
            refine y_iand C dX1_turnFirstComputesToUses_70 ?_
            refine y_istore_n C (lv' := [(3, .int (lf &&& ((((1 : Int32)) <<< ((nI ((u (12 * b + i)) / 3)) &&& 31)) ^^^ ((-1))))), (6, .int (((1 : Int32)) <<< ((nI ((u (12 * b + i)) / 3)) &&& 31))), (5, .int (nI (u (12 * b + i)))), (0, .ref (aP 0)), (1, .int (nI b)), (4, .int (nI i))]) dX1_turnFirstComputesToUses_71 rfl (by decide) rfl ?_
            refine y_aload_n C 3 dX1_turnFirstComputesToUses_72 rfl rfl ?_
            refine y_iconst C (v := nI 1) dX1_turnFirstComputesToUses_73 (by decide) ?_
            refine y_put C in_X1_turnFirstComputesToUses_1 tyX1 tyX1_ok nmX1 (ci := 1) rfl 11 (by decide) rfl (List.mem_of_getElem? (i := 3) rfl) 0 rfl rfl rfl (Nat.le_of_ble_eq_true rfl) (ws' := WP cI aP E vs dp B sz (upN u ((12 * b) + i) (((u (12 * b + i)) - 0) + 1)) M fr tt f1 f2 (nI 1)) rfl dX1_turnFirstComputesToUses_74 ?_
            refine y_iinc C (k := 5) (lv' := [(4, .int (nI (i + 1))), (3, .int (lf &&& ((((1 : Int32)) <<< ((nI ((u (12 * b + i)) / 3)) &&& 31)) ^^^ ((-1))))), (6, .int (((1 : Int32)) <<< ((nI ((u (12 * b + i)) / 3)) &&& 31))), (5, .int (nI (u (12 * b + i)))), (0, .ref (aP 0)), (1, .int (nI b))]) dX1_turnFirstComputesToUses_77 rfl (yn_inc rfl) (by decide) rfl ?_
            refine y_goto C (tgt := 5) dX1_turnFirstComputesToUses_80 (by decide) ?_
            refine y_sub [4, 5, 1, 0] (lv' := [(0, .ref (aP 0)), (1, .int (nI b)), (3, .int (lf &&& ((((1 : Int32)) <<< ((nI ((u (12 * b + i)) / 3)) &&& 31)) ^^^ ((-1))))), (4, .int (nI (i + 1)))]) rfl ?_
            exact ih5 _ _ _ _ (by omega) (by simp [tfF, oneF, ← hT, h37, h44]) (upN_lt hu (by have := hu (12 * b + i); omega)) (by omega)
  refine y_sub [2, 3, 1, 0] (lv' := [(0, .ref (aP 0)), (1, .int (nI b)), (3, .int g), (4, .int (nI 0))]) rfl ?_
  exact lp5 _ _ _ _ _ (Nat.zero_le _) rfl hcd (Nat.lt_succ_self _)
theorem in_X1_splitEdge_1 : ∀ w ∈ wsX10, w ∈ wsX1_splitEdge := fun _ h => List.mem_cons_of_mem _ (List.mem_append_right _ h)
set_option maxHeartbeats 4000000 in
set_option maxRecDepth 100000 in
theorem c_X1_splitEdge (l : Launch) (D : va_G) (cI : ClassId) (aP : Nat → Nat) (E : Nat) (vs dp : Nat → Int32) (B : Nat) (sz cd : Nat → Nat) (M : Nat) (fr tt : Nat → Nat) (f1 f2 : Nat → Int32) (ch : Int32) (j : Nat) (g : Int32) (hE : E ≤ 8) (htt : ∀ j, tt j < 40) (hB : B < 40) (hM : M < 80) (hj : j < 80) (hsB : sz B = 0) (hfB : f1 B = -1) : ctV l yX1_splitEdge wsX1_splitEdge (rmD 1 0 0) D [(cI, .int)] [.ref (aP 0), .int (nI j), .int g] (WP cI aP E vs dp B sz cd M fr tt f1 f2 ch) (WP cI aP E vs dp (B + 1) ((icF B g sz cd E).1) ((icF B g sz cd E).2) (M + 1) (upN fr M B) (upN (upN tt j B) M (tt j)) (upd f1 B (nI M)) f2 (nI 1)) 0 0 := by
  refine ctV_of (by decide) rfl (Nat.le_of_ble_eq_true rfl) ?_
  intro p e s m args below meth c A Q C hnm K
  refine y_lv (lv' := [(0, .ref (aP 0)), (1, .int (nI j)), (2, .int g)]) rfl ?_
  refine y_aload_n C 0 dX1_splitEdge_0 rfl rfl ?_
  refine y_callI C (wr := []) 0 (c_X1_newBlock l D cI aP E vs dp B sz cd M fr tt f1 f2 ch) gX1_splitEdge_X1_newBlock rfl rfl rfl (by decide +kernel) ⟨Nat.le_of_ble_eq_true rfl, Nat.le_of_ble_eq_true rfl⟩ (q0 := 0) (ci := 1) rfl rfl rfl rfl rfl (Nat.le_of_ble_eq_true rfl) dX1_splitEdge_1 ⟨Nat.le_of_ble_eq_true rfl, Nat.le_of_ble_eq_true rfl⟩ ?_
  refine y_ws (ws' := WP cI aP E vs dp (B + 1) sz cd M fr tt f1 f2 (nI 1)) rfl ?_
  refine y_istore_n C (lv' := [(3, .int (nI B)), (0, .ref (aP 0)), (1, .int (nI j)), (2, .int g)]) dX1_splitEdge_4 rfl (by decide) rfl ?_
  refine y_iconst C (v := nI 0) dX1_splitEdge_5 (by decide) ?_
  refine y_istore C (lv' := [(4, .int (nI 0)), (3, .int (nI B)), (0, .ref (aP 0)), (1, .int (nI j)), (2, .int g)]) dX1_splitEdge_6 (by decide) rfl ?_
  have lp8 : ∀ (n8 : Nat) (i : Nat) (u : (Nat → Nat)) (c2 : (Nat → Nat)) (h : Int32), (i ≤ E) → ((u, c2) = icF B g sz cd i) → (u B ≤ i) → (E - i) < n8 → yW p l e (rmD 1 0 0) s m args below meth c 5 D A Q 0 0 (WP cI aP E vs dp (B + 1) u c2 M fr tt f1 f2 h) 8 [(0, .ref (aP 0)), (1, .int (nI j)), (2, .int g), (3, .int (nI B)), (4, .int (nI i))] [] := by
    intro n8
    induction n8 with
    | zero => intro i u c2 h hi hT hu hm; exact absurd hm (Nat.not_lt_zero _)
    | succ n8 ih8 =>
      intro i u c2 h hi hT hu hm8
      refine y_iload C 4 dX1_splitEdge_8 rfl ?_
      refine y_aload_n C 0 dX1_splitEdge_10 rfl rfl ?_
      refine y_get C in_X1_splitEdge_1 (ci := 1) rfl 0 (by decide) (List.mem_of_getElem? (i := 1) rfl) 0 rfl rfl dX1_splitEdge_11 ?_
      refine y_icmpN_ge C (tgt := 41) dX1_splitEdge_14 (by decide) (by omega) (by omega) (fun h14 => ?_) (fun h14 => ?_)
      · skip
        rw [show i = E by omega] at hT
        refine y_ws (ws' := WP cI aP E vs dp (B + 1) ((icF B g sz cd E).1) ((icF B g sz cd E).2) M fr tt f1 f2 h) (by rw [← hT]) ?_
        refine y_aload_n C 0 dX1_splitEdge_41 rfl rfl ?_
        refine y_get C in_X1_splitEdge_1 (ci := 1) rfl 8 (by decide) (List.mem_of_getElem? (i := 2) rfl) 0 rfl rfl dX1_splitEdge_42 ?_
        refine y_iload_n C 1 dX1_splitEdge_45 rfl rfl ?_
        refine y_ialdA C (q0 := 6) (t0 := 0) rfl rfl (by decide) (by omega) dX1_splitEdge_46 ?_
        refine y_istore C (lv' := [(4, .int (nI (tt j))), (0, .ref (aP 0)), (1, .int (nI j)), (2, .int g), (3, .int (nI B))]) dX1_splitEdge_47 (by decide) rfl ?_
        refine y_aload_n C 1 dX1_splitEdge_49 rfl rfl ?_
        refine y_get C in_X1_splitEdge_1 (ci := 1) rfl 8 (by decide) (List.mem_of_getElem? (i := 2) rfl) 0 rfl rfl dX1_splitEdge_50 ?_
        refine y_iload_n C 2 dX1_splitEdge_53 rfl rfl ?_
        refine y_iload_n C 4 dX1_splitEdge_54 rfl rfl ?_
        refine y_iastA C (q0 := 6) (t0 := 0) rfl rfl (by decide) (by omega) (ws' := WP cI aP E vs dp (B + 1) ((icF B g sz cd E).1) ((icF B g sz cd E).2) M fr (upN tt j B) f1 f2 h) rfl dX1_splitEdge_55 ?_
        refine y_aload_n C 1 dX1_splitEdge_56 rfl rfl ?_
        refine y_iload_n C 4 dX1_splitEdge_57 rfl rfl ?_
        refine y_iload C 0 dX1_splitEdge_58 rfl ?_
        refine y_callI C (wr := []) 2 (c_X1_newEdge l D cI aP E vs dp (B + 1) ((icF B g sz cd E).1) ((icF B g sz cd E).2) M fr (upN tt j B) f1 f2 h B (tt j) hM (by have := htt j; omega) (htt j)) gX1_splitEdge_X1_newEdge rfl rfl rfl (by decide +kernel) ⟨Nat.le_of_ble_eq_true rfl, Nat.le_of_ble_eq_true rfl⟩ (q0 := 0) (ci := 1) rfl rfl rfl rfl rfl (Nat.le_of_ble_eq_true rfl) dX1_splitEdge_60 ⟨Nat.le_of_ble_eq_true rfl, Nat.le_of_ble_eq_true rfl⟩ ?_
        refine y_ws (ws' := WP cI aP E vs dp (B + 1) ((icF B g sz cd E).1) ((icF B g sz cd E).2) (M + 1) (upN fr M B) (upN (upN tt j B) M (tt j)) (if f1 B = -1 then upd f1 B (nI M) else f1) (if f1 B = -1 then f2 else upd f2 B (nI M)) (nI 1)) rfl ?_
        refine y_pop C dX1_splitEdge_63 rfl ?_
        refine y_ws (ws' := WP cI aP E vs dp (B + 1) ((icF B g sz cd E).1) ((icF B g sz cd E).2) (M + 1) (upN fr M B) (upN (upN tt j B) M (tt j)) (upd f1 B (nI M)) f2 (nI 1)) (by simp [hfB]) ?_
        exact K _ _ _ _ dX1_splitEdge_64 (by decide) (by decide)
      · skip
        refine y_iload_n C 2 dX1_splitEdge_17 rfl rfl ?_
        refine y_iload C 4 dX1_splitEdge_18 rfl ?_
        refine y_ishr C dX1_splitEdge_20 ?_
        refine y_iconst C (v := (1 : Int32)) dX1_splitEdge_21 (by decide) ?_
        refine y_iand C dX1_splitEdge_22 ?_
        refine y_if_eq C (tgt := 35) dX1_splitEdge_23 (by decide)  (fun h23 => ?_) (fun h23 => ?_)
        · skip
          refine y_iinc C (k := 4) (lv' := [(4, .int (nI (i + 1))), (0, .ref (aP 0)), (1, .int (nI j)), (2, .int g), (3, .int (nI B))]) dX1_splitEdge_35 rfl (yn_inc rfl) (by decide) rfl ?_
          refine y_goto C (tgt := 8) dX1_splitEdge_38 (by decide) ?_
          refine y_sub [1, 2, 3, 4, 0] (lv' := [(0, .ref (aP 0)), (1, .int (nI j)), (2, .int g), (3, .int (nI B)), (4, .int (nI (i + 1)))]) rfl ?_
          exact ih8 _ _ _ _ (by omega) (by simp [icF, ← hT, h23]) (by omega) (by omega)
        · skip
          refine y_aload_n C 0 dX1_splitEdge_26 rfl rfl ?_
          refine y_iload_n C 3 dX1_splitEdge_27 rfl rfl ?_
          refine y_iconst C (v := nI 0) dX1_splitEdge_28 (by decide) ?_
          refine y_iload C 4 dX1_splitEdge_29 rfl ?_
          refine y_callI C (wr := []) 3 (c_X1_append l D cI aP E vs dp (B + 1) u c2 M fr tt f1 f2 h B 0 i (by omega) (by omega)) gX1_splitEdge_X1_append rfl rfl rfl (by decide +kernel) ⟨Nat.le_of_ble_eq_true rfl, Nat.le_of_ble_eq_true rfl⟩ (q0 := 0) (ci := 1) rfl rfl rfl rfl rfl (Nat.le_of_ble_eq_true rfl) dX1_splitEdge_31 ⟨Nat.le_of_ble_eq_true rfl, Nat.le_of_ble_eq_true rfl⟩ ?_
          refine y_ws (ws' := WP cI aP E vs dp (B + 1) (upN u B (u B + 1)) (upN c2 (12 * B + u B) (3 * i + 0)) M fr tt f1 f2 (nI 1)) rfl ?_
          refine y_pop C dX1_splitEdge_34 rfl ?_
          refine y_iinc C (k := 4) (lv' := [(4, .int (nI (i + 1))), (0, .ref (aP 0)), (1, .int (nI j)), (2, .int g), (3, .int (nI B))]) dX1_splitEdge_35 rfl (yn_inc rfl) (by decide) rfl ?_
          refine y_goto C (tgt := 8) dX1_splitEdge_38 (by decide) ?_
          refine y_sub [1, 2, 3, 4, 0] (lv' := [(0, .ref (aP 0)), (1, .int (nI j)), (2, .int g), (3, .int (nI B)), (4, .int (nI (i + 1)))]) rfl ?_
          exact ih8 _ _ _ _ (by omega) (by simp [icF, ← hT, h23]) (by rw [upN_s]; omega) (by omega)
  refine y_sub [2, 3, 4, 1, 0] (lv' := [(0, .ref (aP 0)), (1, .int (nI j)), (2, .int g), (3, .int (nI B)), (4, .int (nI 0))]) rfl ?_
  exact lp8 _ _ _ _ _ (Nat.zero_le _) rfl (Nat.le_of_eq hsB) (Nat.lt_succ_self _)
theorem in_X1_addToChecksum_1 : ∀ w ∈ wsX10, w ∈ wsX1_addToChecksum := fun _ h => List.mem_cons_of_mem _ (List.mem_append_right _ h)
set_option maxHeartbeats 4000000 in
set_option maxRecDepth 100000 in
theorem c_X1_addToChecksum (l : Launch) (D : va_G) (cI : ClassId) (aP : Nat → Nat) (E : Nat) (vs dp : Nat → Int32) (B : Nat) (sz cd : Nat → Nat) (M : Nat) (fr tt : Nat → Nat) (f1 f2 : Nat → Int32) (ch : Int32) (hE : E ≤ 8) (hB : B ≤ 40) (hM : M ≤ 80) (hsz : ∀ j, sz j ≤ 12) (hcd : ∀ j, cd j < 24) (hfr : ∀ j, fr j < 40) (htt : ∀ j, tt j < 40) : ctL l yX1_addToChecksum wsX1_addToChecksum (rmD 1 0 0) D [(cI, .int)] [.ref (aP 0), .long ((83 : Int64))] (WP cI aP E vs dp B sz cd M fr tt f1 f2 ch) (WP cI aP E vs dp B sz cd M fr tt f1 f2 ch) (dgM E vs B sz cd M fr tt M) 0 0 := by
  refine ctL_of (by decide) rfl (Nat.le_of_ble_eq_true rfl) ?_
  intro p e s m args below meth c A Q C hnm K
  refine y_lv (lv' := [(0, .ref (aP 0)), (1, .long ((83 : Int64)))]) rfl ?_
  refine y_lload_n C 1 dX1_addToChecksum_0 rfl rfl ?_
  refine y_ldc2 C (List.mem_of_getElem? (i := 1) rfl) dX1_addToChecksum_1 ?_
  refine y_lmul C dX1_addToChecksum_4 ?_
  refine y_aload_n C 0 dX1_addToChecksum_5 rfl rfl ?_
  refine y_get C in_X1_addToChecksum_1 (ci := 1) rfl 0 (by decide) (List.mem_of_getElem? (i := 2) rfl) 0 rfl rfl dX1_addToChecksum_6 ?_
  refine y_i2l C dX1_addToChecksum_9 rfl ?_
  refine y_ladd C dX1_addToChecksum_10 ?_
  refine y_lstore_n C (lv' := [(3, .long ((((83 : Int64)) * ((31 : Int64))) + ((nI E).toInt64))), (0, .ref (aP 0)), (1, .long ((83 : Int64)))]) dX1_addToChecksum_11 rfl (by decide) rfl ?_
  refine y_iconst C (v := nI 0) dX1_addToChecksum_12 (by decide) ?_
  refine y_istore C (lv' := [(5, .int (nI 0)), (3, .long ((((83 : Int64)) * ((31 : Int64))) + ((nI E).toInt64))), (0, .ref (aP 0)), (1, .long ((83 : Int64)))]) dX1_addToChecksum_13 (by decide) rfl ?_
  have lp15 : ∀ (n15 : Nat) (i : Nat) (d : Int64), (i ≤ E) → (d = dgE E vs i) → (E - i) < n15 → yW p l e (rmD 1 0 0) s m args below meth c 7 D A Q 0 0 (WP cI aP E vs dp B sz cd M fr tt f1 f2 ch) 15 [(0, .ref (aP 0)), (3, .long d), (5, .int (nI i))] [] := by
    intro n15
    induction n15 with
    | zero => intro i d hi hd hm; exact absurd hm (Nat.not_lt_zero _)
    | succ n15 ih15 =>
      intro i d hi hd hm15
      refine y_iload C 2 dX1_addToChecksum_15 rfl ?_
      refine y_aload_n C 0 dX1_addToChecksum_17 rfl rfl ?_
      refine y_get C in_X1_addToChecksum_1 (ci := 1) rfl 0 (by decide) (List.mem_of_getElem? (i := 2) rfl) 0 rfl rfl dX1_addToChecksum_18 ?_
      refine y_icmpN_ge C (tgt := 45) dX1_addToChecksum_21 (by decide) (by omega) (by omega) (fun h21 => ?_) (fun h21 => ?_)
      · skip
        have hq_i : i = E := by omega
        rw [hq_i] at hd; subst hd
        refine y_lload_n C 1 dX1_addToChecksum_45 rfl rfl ?_
        refine y_ldc2 C (List.mem_of_getElem? (i := 1) rfl) dX1_addToChecksum_46 ?_
        refine y_lmul C dX1_addToChecksum_49 ?_
        refine y_aload_n C 0 dX1_addToChecksum_50 rfl rfl ?_
        refine y_get C in_X1_addToChecksum_1 (ci := 1) rfl 3 (by decide) (List.mem_of_getElem? (i := 4) rfl) 0 rfl rfl dX1_addToChecksum_51 ?_
        refine y_i2l C dX1_addToChecksum_54 rfl ?_
        refine y_ladd C dX1_addToChecksum_55 ?_
        refine y_lstore_n C (lv' := [(3, .long (((dgE E vs E) * ((31 : Int64))) + ((nI B).toInt64))), (0, .ref (aP 0)), (5, .int (nI i))]) dX1_addToChecksum_56 rfl (by decide) rfl ?_
        refine y_iconst C (v := nI 0) dX1_addToChecksum_57 (by decide) ?_
        refine y_istore C (lv' := [(5, .int (nI 0)), (3, .long (((dgE E vs E) * ((31 : Int64))) + ((nI B).toInt64))), (0, .ref (aP 0))]) dX1_addToChecksum_58 (by decide) rfl ?_
        have lp60 : ∀ (n60 : Nat) (b : Nat) (d : Int64), (b ≤ B) → (d = dgB E vs B sz cd b) → (B - b) < n60 → yW p l e (rmD 1 0 0) s m args below meth c 7 D A Q 0 0 (WP cI aP E vs dp B sz cd M fr tt f1 f2 ch) 60 [(0, .ref (aP 0)), (3, .long d), (5, .int (nI b))] [] := by
          intro n60
          induction n60 with
          | zero => intro b d hb hd hm; exact absurd hm (Nat.not_lt_zero _)
          | succ n60 ih60 =>
            intro b d hb hd hm60
            refine y_iload C 2 dX1_addToChecksum_60 rfl ?_
            refine y_aload_n C 0 dX1_addToChecksum_62 rfl rfl ?_
            refine y_get C in_X1_addToChecksum_1 (ci := 1) rfl 3 (by decide) (List.mem_of_getElem? (i := 4) rfl) 0 rfl rfl dX1_addToChecksum_63 ?_
            refine y_icmpN_ge C (tgt := 127) dX1_addToChecksum_66 (by decide) (by omega) (by omega) (fun h66 => ?_) (fun h66 => ?_)
            · skip
              have hq_b : b = B := by omega
              rw [hq_b] at hd; subst hd
              refine y_lload_n C 1 dX1_addToChecksum_127 rfl rfl ?_
              refine y_ldc2 C (List.mem_of_getElem? (i := 1) rfl) dX1_addToChecksum_128 ?_
              refine y_lmul C dX1_addToChecksum_131 ?_
              refine y_aload_n C 0 dX1_addToChecksum_132 rfl rfl ?_
              refine y_get C in_X1_addToChecksum_1 (ci := 1) rfl 6 (by decide) (List.mem_of_getElem? (i := 6) rfl) 0 rfl rfl dX1_addToChecksum_133 ?_
              refine y_i2l C dX1_addToChecksum_136 rfl ?_
              refine y_ladd C dX1_addToChecksum_137 ?_
              refine y_lstore_n C (lv' := [(3, .long (((dgB E vs B sz cd B) * ((31 : Int64))) + ((nI M).toInt64))), (0, .ref (aP 0)), (5, .int (nI b))]) dX1_addToChecksum_138 rfl (by decide) rfl ?_
              refine y_iconst C (v := nI 0) dX1_addToChecksum_139 (by decide) ?_
              refine y_istore C (lv' := [(5, .int (nI 0)), (3, .long (((dgB E vs B sz cd B) * ((31 : Int64))) + ((nI M).toInt64))), (0, .ref (aP 0))]) dX1_addToChecksum_140 (by decide) rfl ?_
              have lp142 : ∀ (n142 : Nat) (i : Nat) (d : Int64), (i ≤ M) → (d = dgM E vs B sz cd M fr tt i) → (M - i) < n142 → yW p l e (rmD 1 0 0) s m args below meth c 7 D A Q 0 0 (WP cI aP E vs dp B sz cd M fr tt f1 f2 ch) 142 [(0, .ref (aP 0)), (3, .long d), (5, .int (nI i))] [] := by
                intro n142
                induction n142 with
                | zero => intro i d hi hd hm; exact absurd hm (Nat.not_lt_zero _)
                | succ n142 ih142 =>
                  intro i d hi hd hm142
                  refine y_iload C 2 dX1_addToChecksum_142 rfl ?_
                  refine y_aload_n C 0 dX1_addToChecksum_144 rfl rfl ?_
                  refine y_get C in_X1_addToChecksum_1 (ci := 1) rfl 6 (by decide) (List.mem_of_getElem? (i := 6) rfl) 0 rfl rfl dX1_addToChecksum_145 ?_
                  refine y_icmpN_ge C (tgt := 171) dX1_addToChecksum_148 (by decide) (by omega) (by omega) (fun h148 => ?_) (fun h148 => ?_)
                  · skip
                    have hq_i : i = M := by omega
                    rw [hq_i] at hd; subst hd
                    refine y_lload_n C 1 dX1_addToChecksum_171 rfl rfl ?_
                    exact K _ _ _ _ _ dX1_addToChecksum_172 (rfl) (by decide) (by decide)
                  · skip
                    refine y_lload_n C 1 dX1_addToChecksum_151 rfl rfl ?_
                    refine y_ldc2 C (List.mem_of_getElem? (i := 1) rfl) dX1_addToChecksum_152 ?_
                    refine y_lmul C dX1_addToChecksum_155 ?_
                    refine y_aload_n C 0 dX1_addToChecksum_156 rfl rfl ?_
                    refine y_iload C 2 dX1_addToChecksum_157 rfl ?_
                    refine y_callI C (wr := []) 1 (c_X1_endsOf l D cI aP E vs dp B sz cd M fr tt f1 f2 ch i (by omega) (by omega) (by omega)) gX1_addToChecksum_X1_endsOf rfl rfl rfl (by decide +kernel) ⟨Nat.le_of_ble_eq_true rfl, Nat.le_of_ble_eq_true rfl⟩ (q0 := 0) (ci := 1) rfl rfl rfl rfl rfl (Nat.le_of_ble_eq_true rfl) dX1_addToChecksum_159 ⟨Nat.le_of_ble_eq_true rfl, Nat.le_of_ble_eq_true rfl⟩ ?_
                    refine y_ws (ws' := WP cI aP E vs dp B sz cd M fr tt f1 f2 ch) rfl ?_
                    refine y_i2l C dX1_addToChecksum_162 rfl ?_
                    refine y_ladd C dX1_addToChecksum_163 ?_
                    refine y_lstore_n C (lv' := [(3, .long ((d * ((31 : Int64))) + ((nI (40 * fr i + tt i)).toInt64))), (0, .ref (aP 0)), (5, .int (nI i))]) dX1_addToChecksum_164 rfl (by decide) rfl ?_
                    refine y_iinc C (k := 2) (lv' := [(5, .int (nI (i + 1))), (3, .long ((d * ((31 : Int64))) + ((nI (40 * fr i + tt i)).toInt64))), (0, .ref (aP 0))]) dX1_addToChecksum_165 rfl (yn_inc rfl) (by decide) rfl ?_
                    refine y_goto C (tgt := 142) dX1_addToChecksum_168 (by decide) ?_
                    refine y_sub [2, 1, 0] (lv' := [(0, .ref (aP 0)), (3, .long ((d * ((31 : Int64))) + ((nI (40 * fr i + tt i)).toInt64))), (5, .int (nI (i + 1)))]) rfl ?_
                    exact ih142 _ _ (by omega) (by simp only [dgM, hd]) (by omega)
              refine y_sub [2, 1, 0] (lv' := [(0, .ref (aP 0)), (3, .long (((dgB E vs B sz cd B) * ((31 : Int64))) + ((nI M).toInt64))), (5, .int (nI 0))]) rfl ?_
              exact lp142 _ _ _ (Nat.zero_le _) rfl (Nat.lt_succ_self _)
            · skip
              refine y_lload_n C 1 dX1_addToChecksum_69 rfl rfl ?_
              refine y_ldc2 C (List.mem_of_getElem? (i := 1) rfl) dX1_addToChecksum_70 ?_
              refine y_lmul C dX1_addToChecksum_73 ?_
              refine y_aload_n C 0 dX1_addToChecksum_74 rfl rfl ?_
              refine y_get C in_X1_addToChecksum_1 (ci := 1) rfl 4 (by decide) (List.mem_of_getElem? (i := 5) rfl) 0 rfl rfl dX1_addToChecksum_75 ?_
              refine y_iload C 2 dX1_addToChecksum_78 rfl ?_
              refine y_ialdA C (q0 := 3) (t0 := 0) rfl rfl (by decide) (by omega) dX1_addToChecksum_80 ?_
              refine y_i2l C dX1_addToChecksum_81 rfl ?_
              refine y_ladd C dX1_addToChecksum_82 ?_
              refine y_lstore_n C (lv' := [(3, .long ((d * ((31 : Int64))) + ((nI (sz b)).toInt64))), (0, .ref (aP 0)), (5, .int (nI b))]) dX1_addToChecksum_83 rfl (by decide) rfl ?_
              refine y_iconst C (v := nI 0) dX1_addToChecksum_84 (by decide) ?_
              refine y_istore C (lv' := [(6, .int (nI 0)), (3, .long ((d * ((31 : Int64))) + ((nI (sz b)).toInt64))), (0, .ref (aP 0)), (5, .int (nI b))]) dX1_addToChecksum_85 (by decide) rfl ?_
              have lp87 : ∀ (n87 : Nat) (k : Nat) (d2 : Int64), (k ≤ sz b) → (d2 = dgI sz cd d b k) → (sz b - k) < n87 → yW p l e (rmD 1 0 0) s m args below meth c 7 D A Q 0 0 (WP cI aP E vs dp B sz cd M fr tt f1 f2 ch) 87 [(0, .ref (aP 0)), (3, .long d2), (5, .int (nI b)), (6, .int (nI k))] [] := by
                intro n87
                induction n87 with
                | zero => intro k d2 hk hd2 hm; exact absurd hm (Nat.not_lt_zero _)
                | succ n87 ih87 =>
                  intro k d2 hk hd2 hm87
                  have hzb := hsz b
                  refine y_iload C 3 dX1_addToChecksum_87 rfl ?_
                  refine y_aload_n C 0 dX1_addToChecksum_89 rfl rfl ?_
                  refine y_get C in_X1_addToChecksum_1 (ci := 1) rfl 4 (by decide) (List.mem_of_getElem? (i := 5) rfl) 0 rfl rfl dX1_addToChecksum_90 ?_
                  refine y_iload C 2 dX1_addToChecksum_93 rfl ?_
                  refine y_ialdA C (q0 := 3) (t0 := 0) rfl rfl (by decide) (by omega) dX1_addToChecksum_95 ?_
                  refine y_icmpN_ge C (tgt := 121) dX1_addToChecksum_96 (by decide) (by omega) (by have := hsz b; omega) (fun h96 => ?_) (fun h96 => ?_)
                  · skip
                    have hq_k : k = sz b := by omega
                    rw [hq_k] at hd2
                    refine y_iinc C (k := 2) (lv' := [(5, .int (nI (b + 1))), (0, .ref (aP 0)), (3, .long d2), (6, .int (nI k))]) dX1_addToChecksum_121 rfl (yn_inc rfl) (by decide) rfl ?_
                    refine y_goto C (tgt := 60) dX1_addToChecksum_124 (by decide) ?_
                    refine y_sub [1, 2, 0] (lv' := [(0, .ref (aP 0)), (3, .long d2), (5, .int (nI (b + 1)))]) rfl ?_
                    exact ih60 _ _ (by omega) (by simp only [dgB, hd2, hd]) (by omega)
                  · skip
                    refine y_lload_n C 1 dX1_addToChecksum_99 rfl rfl ?_
                    refine y_ldc2 C (List.mem_of_getElem? (i := 1) rfl) dX1_addToChecksum_100 ?_
                    refine y_lmul C dX1_addToChecksum_103 ?_
                    refine y_aload_n C 0 dX1_addToChecksum_104 rfl rfl ?_
                    refine y_iload C 2 dX1_addToChecksum_105 rfl ?_
                    refine y_iload C 3 dX1_addToChecksum_107 rfl ?_
                    refine y_callI C (wr := []) 2 (c_X1_codeAt l D cI aP E vs dp B sz cd M fr tt f1 f2 ch b k hcd (by omega) (by omega)) gX1_addToChecksum_X1_codeAt rfl rfl rfl (by decide +kernel) ⟨Nat.le_of_ble_eq_true rfl, Nat.le_of_ble_eq_true rfl⟩ (q0 := 0) (ci := 1) rfl rfl rfl rfl rfl (Nat.le_of_ble_eq_true rfl) dX1_addToChecksum_109 ⟨Nat.le_of_ble_eq_true rfl, Nat.le_of_ble_eq_true rfl⟩ ?_
                    refine y_ws (ws' := WP cI aP E vs dp B sz cd M fr tt f1 f2 ch) rfl ?_
                    refine y_i2l C dX1_addToChecksum_112 rfl ?_
                    refine y_ladd C dX1_addToChecksum_113 ?_
                    refine y_lstore_n C (lv' := [(3, .long ((d2 * ((31 : Int64))) + ((nI (cd (12 * b + k))).toInt64))), (0, .ref (aP 0)), (5, .int (nI b)), (6, .int (nI k))]) dX1_addToChecksum_114 rfl (by decide) rfl ?_
                    refine y_iinc C (k := 3) (lv' := [(6, .int (nI (k + 1))), (3, .long ((d2 * ((31 : Int64))) + ((nI (cd (12 * b + k))).toInt64))), (0, .ref (aP 0)), (5, .int (nI b))]) dX1_addToChecksum_115 rfl (yn_inc rfl) (by decide) rfl ?_
                    refine y_goto C (tgt := 87) dX1_addToChecksum_118 (by decide) ?_
                    refine y_sub [2, 1, 3, 0] (lv' := [(0, .ref (aP 0)), (3, .long ((d2 * ((31 : Int64))) + ((nI (cd (12 * b + k))).toInt64))), (5, .int (nI b)), (6, .int (nI (k + 1)))]) rfl ?_
                    exact ih87 _ _ (by omega) (by simp only [dgI, hd2]) (by omega)
              refine y_sub [2, 1, 3, 0] (lv' := [(0, .ref (aP 0)), (3, .long ((d * ((31 : Int64))) + ((nI (sz b)).toInt64))), (5, .int (nI b)), (6, .int (nI 0))]) rfl ?_
              exact lp87 _ _ _ (Nat.zero_le _) rfl (Nat.lt_succ_self _)
        refine y_sub [2, 1, 0] (lv' := [(0, .ref (aP 0)), (3, .long (((dgE E vs E) * ((31 : Int64))) + ((nI B).toInt64))), (5, .int (nI 0))]) rfl ?_
        exact lp60 _ _ _ (Nat.zero_le _) rfl (Nat.lt_succ_self _)
      · skip
        refine y_lload_n C 1 dX1_addToChecksum_24 rfl rfl ?_
        refine y_ldc2 C (List.mem_of_getElem? (i := 1) rfl) dX1_addToChecksum_25 ?_
        refine y_lmul C dX1_addToChecksum_28 ?_
        refine y_aload_n C 0 dX1_addToChecksum_29 rfl rfl ?_
        refine y_get C in_X1_addToChecksum_1 (ci := 1) rfl 1 (by decide) (List.mem_of_getElem? (i := 3) rfl) 0 rfl rfl dX1_addToChecksum_30 ?_
        refine y_iload C 2 dX1_addToChecksum_33 rfl ?_
        refine y_iald C (q0 := 1) (t0 := 0) rfl rfl (by decide) (by omega) dX1_addToChecksum_35 ?_
        refine y_i2l C dX1_addToChecksum_36 rfl ?_
        refine y_ladd C dX1_addToChecksum_37 ?_
        refine y_lstore_n C (lv' := [(3, .long ((d * ((31 : Int64))) + ((vs i).toInt64))), (0, .ref (aP 0)), (5, .int (nI i))]) dX1_addToChecksum_38 rfl (by decide) rfl ?_
        refine y_iinc C (k := 2) (lv' := [(5, .int (nI (i + 1))), (3, .long ((d * ((31 : Int64))) + ((vs i).toInt64))), (0, .ref (aP 0))]) dX1_addToChecksum_39 rfl (yn_inc rfl) (by decide) rfl ?_
        refine y_goto C (tgt := 15) dX1_addToChecksum_42 (by decide) ?_
        refine y_sub [2, 1, 0] (lv' := [(0, .ref (aP 0)), (3, .long ((d * ((31 : Int64))) + ((vs i).toInt64))), (5, .int (nI (i + 1)))]) rfl ?_
        exact ih15 _ _ (by omega) (by simp only [dgE, hd]) (by omega)
  refine y_sub [2, 1, 0] (lv' := [(0, .ref (aP 0)), (3, .long ((((83 : Int64)) * ((31 : Int64))) + ((nI E).toInt64))), (5, .int (nI 0))]) rfl ?_
  exact lp15 _ _ _ (Nat.zero_le _) (by rw [dg83]; rfl) (Nat.lt_succ_self _)
