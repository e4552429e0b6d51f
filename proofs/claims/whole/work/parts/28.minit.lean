theorem yp_init (a b c d : va_W) : (((a ++ b) ++ c) ++ d).Perm (a ++ (d ++ (c ++ b))) := by
  rw [List.append_assoc, List.append_assoc]
  refine List.Perm.append_left a ?_
  rw [← List.append_assoc]
  exact List.perm_append_comm.trans (List.Perm.append_left d List.perm_append_comm)
theorem in_X3_init_0 : ∀ w ∈ wsX00, w ∈ wsX3_init := fun _ h => List.mem_cons_of_mem _ (List.mem_append_right _ h)
theorem in_X3_init_1 : ∀ w ∈ wsX10, w ∈ wsX3_init := fun _ h => List.mem_cons_of_mem _ (List.mem_append_left _ (List.mem_append_left _ (List.mem_append_left _ (List.mem_append_right _ h))))
theorem in_X3_init_2 : ∀ w ∈ wsX20, w ∈ wsX3_init := fun _ h => List.mem_cons_of_mem _ (List.mem_append_left _ (List.mem_append_right _ h))
theorem in_X3_init_3 : ∀ w ∈ wsX30, w ∈ wsX3_init := fun _ h => List.mem_cons_of_mem _ (List.mem_append_left _ (List.mem_append_left _ (List.mem_append_right _ h)))
theorem yf_lt {n : Nat} {P : Nat → Prop} (h : ∀ j, j < n → P j) : ∀ j, j < n → P j := h
set_option maxHeartbeats 4000000 in
set_option maxRecDepth 100000 in
theorem c_X3_init (l : Launch) (D : va_G) (cI : ClassId) (h0 : Nat) : ctN l yX3_init wsX3_init (rmD 2 26 1432) D [(cI, .int)] [.ref h0] [(h0, .inr (3, [.null, .null, .null]))] (fun (u : (Nat → Nat) × (Nat → Nat) × (Nat → Nat) × (Nat → Nat)) => u.1 0 = h0) (fun u => WC (u.1 0) (u.2.1 0) (u.2.2.1 0) (u.2.2.2 0) ++ (WJ cI u.2.2.2 (u.2.1 0) (fun _ => 0) (fun _ => 0) 0 (-1) 0 (fun _ => 0) 0 0 ++ (WS cI u.2.2.1 (u.2.1 0) (fun _ => 0) (fun _ => 0) (fun _ => 0) (fun _ => 0) (fun _ => 0) (fun _ => 0) (fun _ => 0) (fun _ => 0) (fun _ => 0) (fun _ => 0) (fun _ => 0) (fun _ => 0) ++ WP cI u.2.1 0 (fun _ => 0) (fun _ => 0) 1 (fun _ => 0) (fun _ => 0) 0 (fun _ => 0) (fun _ => 0) (fillF (fun _ => 0) 40 (-1)) (fillF (fun _ => 0) 40 (-1)) (nI 1)))) 26 1432 := by
  refine ctN_of (by decide) rfl (Nat.le_of_ble_eq_true rfl) ?_
  intro p e s m args below meth c A Q C hnm K
  refine y_lv (lv' := [(0, .ref h0)]) rfl ?_
  refine y_aload_n C 0 dX3_init_0 rfl rfl ?_
  refine y_objInit C (List.mem_of_getElem? (i := 1) rfl) (List.mem_of_getElem? (i := 2) rfl) (List.mem_of_getElem? (i := 3) rfl) dX3_init_1 ⟨Nat.le_of_ble_eq_true rfl, Nat.le_of_ble_eq_true rfl⟩ ?_
  refine y_aload_n C 0 dX3_init_4 rfl rfl ?_
  refine y_new C in_X3_init_1 tyX1 tyX1_ok (List.mem_of_getElem? (i := 4) rfl) (List.mem_of_getElem? (i := 5) rfl) (List.mem_of_getElem? (i := 6) rfl) (ci := 1) (fs := [.int 0, .null, .null, .int 0, .null, .null, .int 0, .null, .null, .null, .null, .int 0]) rfl (by decide) (Nat.le_of_ble_eq_true rfl) (Nat.le_of_ble_eq_true rfl) dX3_init_5 (fun x1 => ?_)
  refine y_dup C dX3_init_8 rfl ?_
  refine y_callN C (wr := [(h0, .inr (3, [.null, .null, .null]))]) 0 (c_X1_init l D cI x1) gX3_init_X1_init rfl rfl rfl (List.mem_of_getElem? (i := 6) rfl) (List.mem_of_getElem? (i := 16) rfl) (List.mem_of_getElem? (i := 17) rfl) rfl (by decide +kernel) ⟨Nat.le_of_ble_eq_true rfl, Nat.le_of_ble_eq_true rfl⟩ rfl rfl rfl (Nat.le_of_ble_eq_true rfl) dX3_init_9 ⟨Nat.le_of_ble_eq_true rfl, Nat.le_of_ble_eq_true rfl⟩ (fun aP haP => ?_)
  have haP : aP 0 = x1 := haP
  subst haP
  refine y_putF C in_X3_init_3 tyX3 tyX3_ok nmX3 (ci := 3) rfl 0 (by decide) rfl hnm rfl (List.mem_of_getElem? (i := 7) rfl) 0 rfl rfl rfl (Nat.le_of_ble_eq_true rfl) (ws' := [(h0, .inr (3, [.ref (aP 0), .null, .null]))] ++ (WP cI aP 0 (fun _ => 0) (fun _ => 0) 1 (fun _ => 0) (fun _ => 0) 0 (fun _ => 0) (fun _ => 0) (fillF (fun _ => 0) 40 (-1)) (fillF (fun _ => 0) 40 (-1)) (nI 1))) rfl dX3_init_12 ?_
  refine y_aload_n C 0 dX3_init_15 rfl rfl ?_
  refine y_new C in_X3_init_2 tyX2 tyX2_ok (List.mem_of_getElem? (i := 8) rfl) (List.mem_of_getElem? (i := 9) rfl) (List.mem_of_getElem? (i := 10) rfl) (ci := 2) (fs := [.null, .null, .null, .null, .null, .null, .null, .null, .null, .null, .null, .null, .null]) rfl (by decide) (Nat.le_of_ble_eq_true rfl) (Nat.le_of_ble_eq_true rfl) dX3_init_16 (fun x2 => ?_)
  refine y_dup C dX3_init_19 rfl ?_
  refine y_aload_n C 0 dX3_init_20 rfl rfl ?_
  refine y_get C in_X3_init_3 (ci := 3) rfl 0 (by decide) (List.mem_of_getElem? (i := 7) rfl) 0 rfl rfl dX3_init_21 ?_
  refine y_callN C (wr := [(h0, .inr (3, [.ref (aP 0), .null, .null]))] ++ (WP cI aP 0 (fun _ => 0) (fun _ => 0) 1 (fun _ => 0) (fun _ => 0) 0 (fun _ => 0) (fun _ => 0) (fillF (fun _ => 0) 40 (-1)) (fillF (fun _ => 0) 40 (-1)) (nI 1))) 1 (c_X2_init l D cI x2 (aP 0)) gX3_init_X2_init rfl rfl rfl (List.mem_of_getElem? (i := 10) rfl) (List.mem_of_getElem? (i := 33) rfl) (List.mem_of_getElem? (i := 34) rfl) rfl (by decide +kernel) ⟨Nat.le_of_ble_eq_true rfl, Nat.le_of_ble_eq_true rfl⟩ rfl rfl rfl (Nat.le_of_ble_eq_true rfl) dX3_init_24 ⟨Nat.le_of_ble_eq_true rfl, Nat.le_of_ble_eq_true rfl⟩ (fun aS haS => ?_)
  have haS : aS 0 = x2 := haS
  subst haS
  refine y_putF C in_X3_init_3 tyX3 tyX3_ok nmX3 (ci := 3) rfl 1 (by decide) rfl hnm rfl (List.mem_of_getElem? (i := 11) rfl) 0 rfl rfl rfl (Nat.le_of_ble_eq_true rfl) (ws' := [(h0, .inr (3, [.ref (aP 0), .ref (aS 0), .null]))] ++ (WP cI aP 0 (fun _ => 0) (fun _ => 0) 1 (fun _ => 0) (fun _ => 0) 0 (fun _ => 0) (fun _ => 0) (fillF (fun _ => 0) 40 (-1)) (fillF (fun _ => 0) 40 (-1)) (nI 1)) ++ (WS cI aS (aP 0) (fun _ => 0) (fun _ => 0) (fun _ => 0) (fun _ => 0) (fun _ => 0) (fun _ => 0) (fun _ => 0) (fun _ => 0) (fun _ => 0) (fun _ => 0) (fun _ => 0) (fun _ => 0))) rfl dX3_init_27 ?_
  refine y_aload_n C 0 dX3_init_30 rfl rfl ?_
  refine y_new C in_X3_init_0 tyX0 tyX0_ok (List.mem_of_getElem? (i := 12) rfl) (List.mem_of_getElem? (i := 13) rfl) (List.mem_of_getElem? (i := 14) rfl) (ci := 0) (fs := [.null, .null, .null, .int 0, .int 0, .int 0, .null, .int 0, .int 0]) rfl (by decide) (Nat.le_of_ble_eq_true rfl) (Nat.le_of_ble_eq_true rfl) dX3_init_31 (fun x3 => ?_)
  refine y_dup C dX3_init_34 rfl ?_
  refine y_aload_n C 0 dX3_init_35 rfl rfl ?_
  refine y_get C in_X3_init_3 (ci := 3) rfl 0 (by decide) (List.mem_of_getElem? (i := 7) rfl) 0 rfl rfl dX3_init_36 ?_
  refine y_callN C (wr := [(h0, .inr (3, [.ref (aP 0), .ref (aS 0), .null]))] ++ (WP cI aP 0 (fun _ => 0) (fun _ => 0) 1 (fun _ => 0) (fun _ => 0) 0 (fun _ => 0) (fun _ => 0) (fillF (fun _ => 0) 40 (-1)) (fillF (fun _ => 0) 40 (-1)) (nI 1)) ++ (WS cI aS (aP 0) (fun _ => 0) (fun _ => 0) (fun _ => 0) (fun _ => 0) (fun _ => 0) (fun _ => 0) (fun _ => 0) (fun _ => 0) (fun _ => 0) (fun _ => 0) (fun _ => 0) (fun _ => 0))) 1 (c_X0_init l D cI x3 (aP 0)) gX3_init_X0_init rfl rfl rfl (List.mem_of_getElem? (i := 14) rfl) (List.mem_of_getElem? (i := 50) rfl) (List.mem_of_getElem? (i := 51) rfl) rfl (by decide +kernel) ⟨Nat.le_of_ble_eq_true rfl, Nat.le_of_ble_eq_true rfl⟩ rfl rfl rfl (Nat.le_of_ble_eq_true rfl) dX3_init_39 ⟨Nat.le_of_ble_eq_true rfl, Nat.le_of_ble_eq_true rfl⟩ (fun aJ haJ => ?_)
  have haJ : aJ 0 = x3 := haJ
  subst haJ
  refine y_putF C in_X3_init_3 tyX3 tyX3_ok nmX3 (ci := 3) rfl 2 (by decide) rfl hnm rfl (List.mem_of_getElem? (i := 15) rfl) 0 rfl rfl rfl (Nat.le_of_ble_eq_true rfl) (ws' := [(h0, .inr (3, [.ref (aP 0), .ref (aS 0), .ref (aJ 0)]))] ++ (WP cI aP 0 (fun _ => 0) (fun _ => 0) 1 (fun _ => 0) (fun _ => 0) 0 (fun _ => 0) (fun _ => 0) (fillF (fun _ => 0) 40 (-1)) (fillF (fun _ => 0) 40 (-1)) (nI 1)) ++ (WS cI aS (aP 0) (fun _ => 0) (fun _ => 0) (fun _ => 0) (fun _ => 0) (fun _ => 0) (fun _ => 0) (fun _ => 0) (fun _ => 0) (fun _ => 0) (fun _ => 0) (fun _ => 0) (fun _ => 0)) ++ (WJ cI aJ (aP 0) (fun _ => 0) (fun _ => 0) 0 (-1) 0 (fun _ => 0) 0 0)) rfl dX3_init_42 ?_
  refine y_shuf (w2 := WC h0 (aP 0) (aS 0) (aJ 0) ++ (WJ cI aJ (aP 0) (fun _ => 0) (fun _ => 0) 0 (-1) 0 (fun _ => 0) 0 0 ++ (WS cI aS (aP 0) (fun _ => 0) (fun _ => 0) (fun _ => 0) (fun _ => 0) (fun _ => 0) (fun _ => 0) (fun _ => 0) (fun _ => 0) (fun _ => 0) (fun _ => 0) (fun _ => 0) (fun _ => 0) ++ WP cI aP 0 (fun _ => 0) (fun _ => 0) 1 (fun _ => 0) (fun _ => 0) 0 (fun _ => 0) (fun _ => 0) (fillF (fun _ => 0) 40 (-1)) (fillF (fun _ => 0) 40 (-1)) (nI 1)))) (yp_init _ _ _ _) ?_
  exact K _ _ _ _ (fun _ => h0, aP, aS, aJ) dX3_init_45 rfl (by decide) (by decide)
