/-! the law's beginning: what the tables and the start give; two objects and a row are made -/
section YST
variable {p : Program} {l : Launch} {e : Env} {R : Room} {s : State} {m : MethodId} {args : Array Value} {below : List Frame} {meth : Method} {c : Code} {Q : State → Prop} {cells slots : Nat} {nL : Nat} {D : va_G} {A : Nat → Prop} {pc : Nat} {lv : List (Nat × Value)} {st : List Value} {w0 : va_W}
theorem y_wp {cI : ClassId} {a : Nat → Nat} {E : Nat} {vs dp : Nat → Int32} {B : Nat} {sz cd : Nat → Nat} {M : Nat} {fr tt : Nat → Nat} {f1 f2 g1 g2 : Nat → Int32} {ch : Int32} (h1 : ∀ j, j < 40 → f1 j = g1 j) (h2 : ∀ j, j < 40 → f2 j = g2 j) (kk : yW p l e R s m args below meth c nL D A Q cells slots (w0 ++ WP cI a E vs dp B sz cd M fr tt g1 g2 ch) pc lv st) : yW p l e R s m args below meth c nL D A Q cells slots (w0 ++ WP cI a E vs dp B sz cd M fr tt f1 f2 ch) pc lv st := by
  have e1 : w0 ++ WP cI a E vs dp B sz cd M fr tt f1 f2 ch = (w0 ++ (WP cI a E vs dp B sz cd M fr tt f1 f2 ch).take 7) ++ (a 7, .inl (cI, 40, .inl f1)) :: [(a 8, .inl (cI, 40, .inl f2))] := by
    rw [List.append_assoc]; rfl
  have e2 : (w0 ++ (WP cI a E vs dp B sz cd M fr tt f1 f2 ch).take 7) ++ (a 7, .inl (cI, 40, .inl g1)) :: [(a 8, .inl (cI, 40, .inl f2))] = (w0 ++ (WP cI a E vs dp B sz cd M fr tt g1 f2 ch).take 8) ++ (a 8, .inl (cI, 40, .inl f2)) :: [] := by
    rw [List.append_assoc, List.append_assoc]; rfl
  have e3 : (w0 ++ (WP cI a E vs dp B sz cd M fr tt g1 f2 ch).take 8) ++ (a 8, .inl (cI, 40, .inl g2)) :: [] = w0 ++ WP cI a E vs dp B sz cd M fr tt g1 g2 ch := by
    rw [List.append_assoc]; rfl
  refine y_ws e1 (y_cell (q' := (a 7, .inl (cI, 40, .inl g1))) rfl (fun H h => at_arr h1 H h) (y_ws e2 (y_cell (q' := (a 8, .inl (cI, 40, .inl g2))) rfl (fun H h => at_arr h2 H h) (y_ws e3 kk))))
end YST
set_option maxRecDepth 100000 in
set_option maxHeartbeats 4000000 in
theorem l_start {p : Program} {l : Launch} {e : Env} {s : State} {m : MethodId} {args : Array Value} {below : List Frame} {meth : Method} {c : Code} {Q : State → Prop} {D : va_G} {cI cJ : ClassId} {A : Nat → Prop} {sa : Nat → Nat} {b L : Nat} {xs : Nat → Int32} (X : yLx p s m args meth c D cI cJ A sa b L xs) (hfl : l.stackTraces = false) (K : ∀ (cells slots : Nat) (w : va_W) (lv : List (Nat × Value)), cells ≤ 601024 → slots ≤ 7293034 → yW p l e room_1 s m args below meth c 7 D A Q cells slots w 1720 lv []) : yW p l e room_1 s m args below meth c 7 D A Q 0 0 [] 0 [(0, .ref b)] [] := by
  have C := X.1
  have hL := X.2.2.2.2.2
  refine y_new C inlX3 tyX3 tyX3_ok (List.mem_of_getElem? (i := 0) rfl) (List.mem_of_getElem? (i := 1) rfl) (List.mem_of_getElem? (i := 2) rfl) (ci := 3) (fs := [.null, .null, .null]) rfl (by decide) (Nat.le_of_ble_eq_true rfl) (Nat.le_of_ble_eq_true rfl) dL_law_0 (fun x => ?_)
  refine y_dup C dL_law_3 rfl ?_
  refine y_callN C.s1 (wr := []) (st := [.ref x]) 0 (c_X3_init l D cI x) gL_law_X3_init rfl rfl rfl (List.mem_of_getElem? (i := 2) rfl) (List.mem_of_getElem? (i := 8) rfl) (List.mem_of_getElem? (i := 9) rfl) rfl (by decide +kernel) ⟨Nat.le_of_ble_eq_true rfl, Nat.le_of_ble_eq_true rfl⟩ rfl rfl rfl (Nat.le_of_ble_eq_true rfl) dL_law_4 ⟨Nat.le_of_ble_eq_true rfl, Nat.le_of_ble_eq_true rfl⟩ (fun u hu => ?_)
  obtain ⟨aC, aP, aS, aJ⟩ := u
  have hu : aC 0 = x := hu
  subst hu
  refine y_astore_n C (lv' := [(1, .ref (aC 0)), (0, .ref b)]) dL_law_7 rfl (Nat.le_of_ble_eq_true rfl) rfl ?_
  refine y_ws (ws' := WC (aC 0) (aP 0) (aS 0) (aJ 0) ++ (WJ cI aJ (aP 0) (fun _ => 0) (fun _ => 0) 0 (-1) 0 (fun _ => 0) 0 0 ++ (WS cI aS (aP 0) (fun _ => 0) (fun _ => 0) (fun _ => 0) (fun _ => 0) (fun _ => 0) (fun _ => 0) (fun _ => 0) (fun _ => 0) (fun _ => 0) (fun _ => 0) (fun _ => 0) (fun _ => 0) ++ WP cI aP 0 (fun _ => 0) (fun _ => 0) 1 (fun _ => 0) (fun _ => 0) 0 (fun _ => 0) (fun _ => 0) (fillF (fun _ => 0) 40 (-1)) (fillF (fun _ => 0) 40 (-1)) (nI 1)))) rfl ?_
  refine y_new C inlX4 tyX4 tyX4_ok (List.mem_of_getElem? (i := 3) rfl) (List.mem_of_getElem? (i := 4) rfl) (List.mem_of_getElem? (i := 5) rfl) (ci := 4) (fs := [.int 0, .int 0, .null, .int 0, .null, .null, .int 0, .null, .null, .null, .null, .null, .null, .null, .null, .null, .int 0, .int 0]) rfl (by decide) (Nat.le_of_ble_eq_true rfl) (Nat.le_of_ble_eq_true rfl) dL_law_8 (fun y => ?_)
  refine y_dup C dL_law_11 rfl ?_
  refine y_callN C.s1 (wr := WC (aC 0) (aP 0) (aS 0) (aJ 0) ++ (WJ cI aJ (aP 0) (fun _ => 0) (fun _ => 0) 0 (-1) 0 (fun _ => 0) 0 0 ++ (WS cI aS (aP 0) (fun _ => 0) (fun _ => 0) (fun _ => 0) (fun _ => 0) (fun _ => 0) (fun _ => 0) (fun _ => 0) (fun _ => 0) (fun _ => 0) (fun _ => 0) (fun _ => 0) (fun _ => 0) ++ WP cI aP 0 (fun _ => 0) (fun _ => 0) 1 (fun _ => 0) (fun _ => 0) 0 (fun _ => 0) (fun _ => 0) (fillF (fun _ => 0) 40 (-1)) (fillF (fun _ => 0) 40 (-1)) (nI 1)))) (st := [.ref y]) 0 (c_X4_init l D cI y) gL_law_X4_init rfl rfl rfl (List.mem_of_getElem? (i := 5) rfl) (List.mem_of_getElem? (i := 73) rfl) (List.mem_of_getElem? (i := 74) rfl) rfl (by decide +kernel) ⟨Nat.le_of_ble_eq_true rfl, Nat.le_of_ble_eq_true rfl⟩ rfl rfl rfl (Nat.le_of_ble_eq_true rfl) dL_law_12 ⟨Nat.le_of_ble_eq_true rfl, Nat.le_of_ble_eq_true rfl⟩ (fun aM hu => ?_)
  have hu : aM 0 = y := hu
  subst hu
  refine y_astore_n C (lv' := [(2, .ref (aM 0)), (1, .ref (aC 0)), (0, .ref b)]) dL_law_15 rfl (Nat.le_of_ble_eq_true rfl) rfl ?_
  refine y_iconst C (v := nI 1) dL_law_16 rfl ?_
  refine y_newl C (t0 := 1) (cJ := cJ) rfl (List.mem_of_getElem? (i := 6) rfl) (Nat.le_of_ble_eq_true rfl) (Nat.le_of_ble_eq_true rfl) (Nat.le_of_ble_eq_true rfl) dL_law_17 (fun o => ?_)
  refine y_astore_n C (lv' := [(3, .ref o), (2, .ref (aM 0)), (1, .ref (aC 0)), (0, .ref b)]) dL_law_19 rfl (Nat.le_of_ble_eq_true rfl) rfl ?_
  refine y_iconst C (v := nI 0) dL_law_20 rfl ?_
  refine y_istore C (lv' := [(4, .int (nI 0)), (3, .ref o), (2, .ref (aM 0)), (1, .ref (aC 0)), (0, .ref b)]) dL_law_21 (Nat.le_of_ble_eq_true rfl) rfl ?_
  refine y_ws (List.append_assoc _ _ _) ?_
  refine y_swap ?_
  refine y_ws (ws' := (WM cI aM 0 0 (fun _ => 0) 1 (fun _ => 0) (fun _ => 0) 0 (fun _ => 0) (fun _ => 0) (fun _ => 0) (fun _ => 0) (fun _ => 0) (fun _ => 0) (fun _ => 0) (fun _ => 0) (fun _ => 0) 0 (-1) ++ (WO cJ o (fun _ => 0) ++ (WC (aC 0) (aP 0) (aS 0) (aJ 0) ++ (WJ cI aJ (aP 0) (fun _ => 0) (fun _ => 0) 0 (-1) 0 (fun _ => 0) 0 0 ++ WS cI aS (aP 0) (fun _ => 0) (fun _ => 0) (fun _ => 0) (fun _ => 0) (fun _ => 0) (fun _ => 0) (fun _ => 0) (fun _ => 0) (fun _ => 0) (fun _ => 0) (fun _ => 0) (fun _ => 0))))) ++ WP cI aP 0 (fun _ => 0) (fun _ => 0) 1 (fun _ => 0) (fun _ => 0) 0 (fun _ => 0) (fun _ => 0) (fillF (fun _ => 0) 40 (-1)) (fillF (fun _ => 0) 40 (-1)) (nI 1)) (by simp only [List.append_assoc, WO]) ?_
  refine y_wp (g1 := fun _ => -1) (g2 := fun _ => -1) (fun j hj => if_pos hj) (fun j hj => if_pos hj) ?_
  refine y_ws (ws' := WM cI aM 0 0 (fun _ => 0) 1 (fun _ => 0) (fun _ => 0) 0 (fun _ => 0) (fun _ => 0) (fun _ => 0) (fun _ => 0) (fun _ => 0) (fun _ => 0) (fun _ => 0) (fun _ => 0) (fun _ => 0) 0 (-1) ++ (WO cJ o (fun _ => 0) ++ (WC (aC 0) (aP 0) (aS 0) (aJ 0) ++ (WJ cI aJ (aP 0) (fun _ => 0) (fun _ => 0) 0 (-1) 0 (fun _ => 0) 0 0 ++ (WS cI aS (aP 0) (fun _ => 0) (fun _ => 0) (fun _ => 0) (fun _ => 0) (fun _ => 0) (fun _ => 0) (fun _ => 0) (fun _ => 0) (fun _ => 0) (fun _ => 0) (fun _ => 0) (fun _ => 0) ++ (WP cI aP 0 (fun _ => 0) (fun _ => 0) 1 (fun _ => 0) (fun _ => 0) 0 (fun _ => 0) (fun _ => 0) (fun _ => -1) (fun _ => -1) (nI 1))))))) (by simp only [List.append_assoc]) ?_
  exact lp_all X hfl K 512 0 _ _ _ (gd pv_0 (Or.inr rfl) (fun q => absurd q n10)) (by omega) (Nat.zero_le _) (Nat.le_of_ble_eq_true rfl) (Nat.le_of_ble_eq_true rfl)
theorem ng_in : ∀ w ∈ yNG, w ∈ lw_tbl := by decide +kernel
theorem st_in : ∀ q ∈ yST, Cond.stringRef RX3 q.1 q.2 ∈ lw_tbl := by decide +kernel
theorem st_ex : ∀ q ∈ yST, Cond.exactly (.string RX3 q.1) "java/lang/String" ∈ flatC (Jvm.Cond.and given_1 narrow_1) := by decide +kernel
theorem nc_in : ∀ w ∈ [Cond.not (.castable exA exI), Cond.not (.castable exS exI), Cond.not (.castable exS exA), Cond.isRef (.static Bundle.tN "UNASSIGNED_STACK" Bundle.steD), Cond.isRef (.static Bundle.tN "SUPPRESSED_SENTINEL" Bundle.listD)], w ∈ flatC (Jvm.Cond.and given_1 narrow_1) := by decide +kernel
theorem ls_in : ∀ w ∈ [Cond.laysStatic Bundle.tN "UNASSIGNED_STACK" Bundle.steD, Cond.laysStatic Bundle.tN "SUPPRESSED_SENTINEL" Bundle.listD, Cond.initialized Bundle.tN], w ∈ lw_tbl := by decide +kernel
