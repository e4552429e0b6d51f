theorem in_X4_isEdge_4 : ∀ w ∈ wsX40, w ∈ wsX4_isEdge := fun _ h => List.mem_cons_of_mem _ (List.mem_append_right _ h)
set_option maxHeartbeats 4000000 in
set_option maxRecDepth 100000 in
theorem c_X4_isEdge_ok (l : Launch) (D : va_G) (cI : ClassId) (aM : Nat → Nat) (th E : Nat) (vs : Nat → Int32) (B : Nat) (sz cd : Nat → Nat) (M : Nat) (fr tt : Nat → Nat) (na nb ta tb dl co he : Nat → Int32) (mi la : Int32) (b : Nat) (hM : M ≤ 80) (hb : b < M) : ctI l yX4_isEdge wsX4_isEdge (rmD 0 0 0) D [(cI, .int)] [.ref (aM 0), .int (nI b)] (WM cI aM th E vs B sz cd M fr tt na nb ta tb dl co he mi la) (WM cI aM th E vs B sz cd M fr tt na nb ta tb dl co he mi la) (nI 1) 0 0 := by
  refine ctZ_of (by decide) rfl (Nat.le_of_ble_eq_true rfl) ?_
  intro p e s m args below meth c A Q C hnm K
  refine y_lv (lv' := [(0, .ref (aM 0)), (1, .int (nI b))]) rfl ?_
  refine y_iload_n C 1 dX4_isEdge_0 rfl rfl ?_
  refine y_ifN_lt C (tgt := 16) dX4_isEdge_1 (by decide) (by omega) ?_
  refine y_iload_n C 1 dX4_isEdge_4 rfl rfl ?_
  refine y_aload_n C 0 dX4_isEdge_5 rfl rfl ?_
  refine y_get C in_X4_isEdge_4 (ci := 4) rfl 6 (by decide) (List.mem_of_getElem? (i := 1) rfl) 0 rfl rfl dX4_isEdge_6 ?_
  refine y_icmpN_ge C (tgt := 16) dX4_isEdge_9 (by decide) (by omega) (by omega) (fun h9 => ?_) (fun h9 => ?_)
  · skip
    exact absurd h9 (by omega)
  · skip
    refine y_iconst C (v := nI 1) dX4_isEdge_12 (by decide) ?_
    refine y_goto C (tgt := 17) dX4_isEdge_13 (by decide) ?_
    exact K _ _ _ _ _ dX4_isEdge_17 (rfl) (rfl) (by decide) (by decide)
set_option maxHeartbeats 4000000 in
set_option maxRecDepth 100000 in
theorem c_X4_isEdge_bad (l : Launch) (D : va_G) (cI : ClassId) (aM : Nat → Nat) (th E : Nat) (vs : Nat → Int32) (B : Nat) (sz cd : Nat → Nat) (M : Nat) (fr tt : Nat → Nat) (na nb ta tb dl co he : Nat → Int32) (mi la : Int32) (b : Int32) (hM : M ≤ 80) (hb : b < 0 ∨ nI M ≤ b) : ctI l yX4_isEdge wsX4_isEdge (rmD 0 0 0) D [(cI, .int)] [.ref (aM 0), .int b] (WM cI aM th E vs B sz cd M fr tt na nb ta tb dl co he mi la) (WM cI aM th E vs B sz cd M fr tt na nb ta tb dl co he mi la) (nI 0) 0 0 := by
  refine ctZ_of (by decide) rfl (Nat.le_of_ble_eq_true rfl) ?_
  intro p e s m args below meth c A Q C hnm K
  refine y_lv (lv' := [(0, .ref (aM 0)), (1, .int b)]) rfl ?_
  refine y_iload_n C 1 dX4_isEdge_0 rfl rfl ?_
  refine y_if_lt C (tgt := 16) dX4_isEdge_1 (by decide)  (fun h1 => ?_) (fun h1 => ?_)
  · skip
    refine y_iconst C (v := nI 0) dX4_isEdge_16 (by decide) ?_
    exact K _ _ _ _ _ dX4_isEdge_17 (rfl) (rfl) (by decide) (by decide)
  · skip
    refine y_iload_n C 1 dX4_isEdge_4 rfl rfl ?_
    refine y_aload_n C 0 dX4_isEdge_5 rfl rfl ?_
    refine y_get C in_X4_isEdge_4 (ci := 4) rfl 6 (by decide) (List.mem_of_getElem? (i := 1) rfl) 0 rfl rfl dX4_isEdge_6 ?_
    refine y_icmp_ge C (tgt := 16) dX4_isEdge_9 (by decide)  (fun h9 => ?_) (fun h9 => ?_)
    · skip
      refine y_iconst C (v := nI 0) dX4_isEdge_16 (by decide) ?_
      exact K _ _ _ _ _ dX4_isEdge_17 (rfl) (rfl) (by decide) (by decide)
    · skip
      exact absurd hb (fun q => q.elim h1 h9)
theorem in_X4_isExpression_4 : ∀ w ∈ wsX40, w ∈ wsX4_isExpression := fun _ h => List.mem_cons_of_mem _ (List.mem_append_right _ h)
set_option maxHeartbeats 4000000 in
set_option maxRecDepth 100000 in
theorem c_X4_isExpression_ok (l : Launch) (D : va_G) (cI : ClassId) (aM : Nat → Nat) (th E : Nat) (vs : Nat → Int32) (B : Nat) (sz cd : Nat → Nat) (M : Nat) (fr tt : Nat → Nat) (na nb ta tb dl co he : Nat → Int32) (mi la : Int32) (b : Nat) (hE : E ≤ 8) (hb : b < E) : ctI l yX4_isExpression wsX4_isExpression (rmD 0 0 0) D [(cI, .int)] [.ref (aM 0), .int (nI b)] (WM cI aM th E vs B sz cd M fr tt na nb ta tb dl co he mi la) (WM cI aM th E vs B sz cd M fr tt na nb ta tb dl co he mi la) (nI 1) 0 0 := by
  refine ctZ_of (by decide) rfl (Nat.le_of_ble_eq_true rfl) ?_
  intro p e s m args below meth c A Q C hnm K
  refine y_lv (lv' := [(0, .ref (aM 0)), (1, .int (nI b))]) rfl ?_
  refine y_iload_n C 1 dX4_isExpression_0 rfl rfl ?_
  refine y_ifN_lt C (tgt := 16) dX4_isExpression_1 (by decide) (by omega) ?_
  refine y_iload_n C 1 dX4_isExpression_4 rfl rfl ?_
  refine y_aload_n C 0 dX4_isExpression_5 rfl rfl ?_
  refine y_get C in_X4_isExpression_4 (ci := 4) rfl 1 (by decide) (List.mem_of_getElem? (i := 1) rfl) 0 rfl rfl dX4_isExpression_6 ?_
  refine y_icmpN_ge C (tgt := 16) dX4_isExpression_9 (by decide) (by omega) (by omega) (fun h9 => ?_) (fun h9 => ?_)
  · skip
    exact absurd h9 (by omega)
  · skip
    refine y_iconst C (v := nI 1) dX4_isExpression_12 (by decide) ?_
    refine y_goto C (tgt := 17) dX4_isExpression_13 (by decide) ?_
    exact K _ _ _ _ _ dX4_isExpression_17 (rfl) (rfl) (by decide) (by decide)
set_option maxHeartbeats 4000000 in
set_option maxRecDepth 100000 in
theorem c_X4_isExpression_bad (l : Launch) (D : va_G) (cI : ClassId) (aM : Nat → Nat) (th E : Nat) (vs : Nat → Int32) (B : Nat) (sz cd : Nat → Nat) (M : Nat) (fr tt : Nat → Nat) (na nb ta tb dl co he : Nat → Int32) (mi la : Int32) (b : Int32) (hE : E ≤ 8) (hb : b < 0 ∨ nI E ≤ b) : ctI l yX4_isExpression wsX4_isExpression (rmD 0 0 0) D [(cI, .int)] [.ref (aM 0), .int b] (WM cI aM th E vs B sz cd M fr tt na nb ta tb dl co he mi la) (WM cI aM th E vs B sz cd M fr tt na nb ta tb dl co he mi la) (nI 0) 0 0 := by
  refine ctZ_of (by decide) rfl (Nat.le_of_ble_eq_true rfl) ?_
  intro p e s m args below meth c A Q C hnm K
  refine y_lv (lv' := [(0, .ref (aM 0)), (1, .int b)]) rfl ?_
  refine y_iload_n C 1 dX4_isExpression_0 rfl rfl ?_
  refine y_if_lt C (tgt := 16) dX4_isExpression_1 (by decide)  (fun h1 => ?_) (fun h1 => ?_)
  · skip
    refine y_iconst C (v := nI 0) dX4_isExpression_16 (by decide) ?_
    exact K _ _ _ _ _ dX4_isExpression_17 (rfl) (rfl) (by decide) (by decide)
  · skip
    refine y_iload_n C 1 dX4_isExpression_4 rfl rfl ?_
    refine y_aload_n C 0 dX4_isExpression_5 rfl rfl ?_
    refine y_get C in_X4_isExpression_4 (ci := 4) rfl 1 (by decide) (List.mem_of_getElem? (i := 1) rfl) 0 rfl rfl dX4_isExpression_6 ?_
    refine y_icmp_ge C (tgt := 16) dX4_isExpression_9 (by decide)  (fun h9 => ?_) (fun h9 => ?_)
    · skip
      refine y_iconst C (v := nI 0) dX4_isExpression_16 (by decide) ?_
      exact K _ _ _ _ _ dX4_isExpression_17 (rfl) (rfl) (by decide) (by decide)
    · skip
      exact absurd hb (fun q => q.elim h1 h9)
theorem in_X4_asks_4 : ∀ w ∈ wsX40, w ∈ wsX4_asks := fun _ h => List.mem_cons_of_mem _ (List.mem_append_right _ h)
set_option maxHeartbeats 4000000 in
set_option maxRecDepth 100000 in
theorem c_X4_asks_ok (l : Launch) (D : va_G) (cI : ClassId) (aM : Nat → Nat) (th E : Nat) (vs : Nat → Int32) (B : Nat) (sz cd : Nat → Nat) (M : Nat) (fr tt : Nat → Nat) (na nb ta tb dl co he : Nat → Int32) (mi la : Int32) (na2 nb2 ta2 tb2 dl2 : Nat → Int32) (hE : E ≤ 8) (hB : B ≤ 40) (hM : M ≤ 80) (hsz : ∀ j, sz j ≤ 12) (hcd : ∀ j, cd j < 24) (hfr : ∀ j, fr j < 40) (htt : ∀ j, tt j < 40) (hF : findR E vs B sz cd M fr tt na nb ta tb dl na2 nb2 ta2 tb2 dl2) : ctI l yX4_asks wsX4_asks (rmD 5 0 0) D [(cI, .int)] [.ref (aM 0), .int (nI 1)] (WM cI aM th E vs B sz cd M fr tt na nb ta tb dl co he mi la) (WM cI aM 0 E vs B sz cd M fr tt na2 nb2 ta2 tb2 dl2 co he mi la) (nI 1) 0 0 := by
  refine ctZ_of (by decide) rfl (Nat.le_of_ble_eq_true rfl) ?_
  intro p e s m args below meth c A Q C hnm K
  refine y_lv (lv' := [(0, .ref (aM 0)), (1, .int (nI 1))]) rfl ?_
  refine y_aload_n C 0 dX4_asks_0 rfl rfl ?_
  refine y_iload_n C 1 dX4_asks_1 rfl rfl ?_
  refine y_ifN_eq C (tgt := 9) dX4_asks_2 (by decide) (by decide) (fun h => absurd h (by decide)) (fun _ => ?_)
  refine y_iconst C (v := nI 0) dX4_asks_5 (by decide) ?_
  refine y_goto C (tgt := 10) dX4_asks_6 (by decide) ?_
  refine y_put C in_X4_asks_4 tyX4 tyX4_ok nmX4 (ci := 4) rfl 0 (by decide) rfl (List.mem_of_getElem? (i := 1) rfl) 0 rfl rfl rfl (Nat.le_of_ble_eq_true rfl) (ws' := WM cI aM 0 E vs B sz cd M fr tt na nb ta tb dl co he mi la) rfl dX4_asks_10 ?_
  refine y_iload_n C 1 dX4_asks_13 rfl rfl ?_
  refine y_ifN_eq C (tgt := 21) dX4_asks_14 (by decide) (by decide) (fun h => absurd h (by decide)) (fun _ => ?_)
  refine y_aload_n C 0 dX4_asks_17 rfl rfl ?_
  refine y_callV C (wr := []) 0 (c_X4_find l D cI aM 0 E vs B sz cd M fr tt na nb ta tb dl co he mi la na2 nb2 ta2 tb2 dl2 hE hB hM hsz hcd hfr htt hF) gX4_asks_X4_find rfl rfl rfl (by decide +kernel) ⟨Nat.le_of_ble_eq_true rfl, Nat.le_of_ble_eq_true rfl⟩ (q0 := 0) (ci := 4) rfl rfl rfl rfl rfl (Nat.le_of_ble_eq_true rfl) dX4_asks_18 ⟨Nat.le_of_ble_eq_true rfl, Nat.le_of_ble_eq_true rfl⟩ ?_
  refine y_ws (ws' := WM cI aM 0 E vs B sz cd M fr tt na2 nb2 ta2 tb2 dl2 co he mi la) rfl ?_
  refine y_iload_n C 1 dX4_asks_21 rfl rfl ?_
  exact K _ _ _ _ _ dX4_asks_22 (rfl) (rfl) (by decide) (by decide)
set_option maxHeartbeats 4000000 in
set_option maxRecDepth 100000 in
theorem c_X4_asks_bad (l : Launch) (D : va_G) (cI : ClassId) (aM : Nat → Nat) (th E : Nat) (vs : Nat → Int32) (B : Nat) (sz cd : Nat → Nat) (M : Nat) (fr tt : Nat → Nat) (na nb ta tb dl co he : Nat → Int32) (mi la : Int32)  : ctI l yX4_asks wsX4_asks (rmD 0 0 0) D [(cI, .int)] [.ref (aM 0), .int (nI 0)] (WM cI aM th E vs B sz cd M fr tt na nb ta tb dl co he mi la) (WM cI aM 1 E vs B sz cd M fr tt na nb ta tb dl co he mi la) (nI 0) 0 0 := by
  refine ctZ_of (by decide) rfl (Nat.le_of_ble_eq_true rfl) ?_
  intro p e s m args below meth c A Q C hnm K
  refine y_lv (lv' := [(0, .ref (aM 0)), (1, .int (nI 0))]) rfl ?_
  refine y_aload_n C 0 dX4_asks_0 rfl rfl ?_
  refine y_iload_n C 1 dX4_asks_1 rfl rfl ?_
  refine y_ifN_eq C (tgt := 9) dX4_asks_2 (by decide) (by decide) (fun _ => ?_) (fun h => absurd h (by decide))
  refine y_iconst C (v := nI 1) dX4_asks_9 (by decide) ?_
  refine y_put C in_X4_asks_4 tyX4 tyX4_ok nmX4 (ci := 4) rfl 0 (by decide) rfl (List.mem_of_getElem? (i := 1) rfl) 0 rfl rfl rfl (Nat.le_of_ble_eq_true rfl) (ws' := WM cI aM 1 E vs B sz cd M fr tt na nb ta tb dl co he mi la) rfl dX4_asks_10 ?_
  refine y_iload_n C 1 dX4_asks_13 rfl rfl ?_
  refine y_ifN_eq C (tgt := 21) dX4_asks_14 (by decide) (by decide) (fun _ => ?_) (fun h => absurd h (by decide))
  refine y_iload_n C 1 dX4_asks_21 rfl rfl ?_
  exact K _ _ _ _ _ dX4_asks_22 (rfl) (rfl) (by decide) (by decide)
theorem in_X4_kept_4 : ∀ w ∈ wsX40, w ∈ wsX4_kept := fun _ h => List.mem_cons_of_mem _ (List.mem_append_right _ h)
set_option maxHeartbeats 4000000 in
set_option maxRecDepth 100000 in
theorem c_X4_kept_ok (l : Launch) (D : va_G) (cI : ClassId) (aM : Nat → Nat) (th E : Nat) (vs : Nat → Int32) (B : Nat) (sz cd : Nat → Nat) (M : Nat) (fr tt : Nat → Nat) (na nb ta tb dl co he : Nat → Int32) (mi la : Int32) (b : Nat) (na2 nb2 ta2 tb2 dl2 : Nat → Int32) (hE : E ≤ 8) (hB : B ≤ 40) (hM : M ≤ 80) (hsz : ∀ j, sz j ≤ 12) (hcd : ∀ j, cd j < 24) (hfr : ∀ j, fr j < 40) (htt : ∀ j, tt j < 40) (hF : findR E vs B sz cd M fr tt na nb ta tb dl na2 nb2 ta2 tb2 dl2) (hb : b < B) : ctI l yX4_kept wsX4_kept (rmD 6 0 0) D [(cI, .int)] [.ref (aM 0), .int (nI b)] (WM cI aM th E vs B sz cd M fr tt na nb ta tb dl co he mi la) (WM cI aM 0 E vs B sz cd M fr tt na2 nb2 ta2 tb2 dl2 co he mi la) (kpF E vs cd b (sz b)) 0 0 := by
  refine ctI_of (by decide) rfl (Nat.le_of_ble_eq_true rfl) ?_
  intro p e s m args below meth c A Q C hnm K
  refine y_lv (lv' := [(0, .ref (aM 0)), (1, .int (nI b))]) rfl ?_
  refine y_aload_n C 0 dX4_kept_0 rfl rfl ?_
  refine y_aload_n C 0 dX4_kept_1 rfl rfl ?_
  refine y_iload_n C 1 dX4_kept_2 rfl rfl ?_
  refine y_callI C (wr := []) 1 (c_X4_isBlock_ok l D cI aM th E vs B sz cd M fr tt na nb ta tb dl co he mi la b hB hb) gX4_kept_X4_isBlock rfl rfl rfl (by decide +kernel) ⟨Nat.le_of_ble_eq_true rfl, Nat.le_of_ble_eq_true rfl⟩ (q0 := 0) (ci := 4) rfl rfl rfl rfl rfl (Nat.le_of_ble_eq_true rfl) dX4_kept_3 ⟨Nat.le_of_ble_eq_true rfl, Nat.le_of_ble_eq_true rfl⟩ ?_
  refine y_ws (ws' := WM cI aM th E vs B sz cd M fr tt na nb ta tb dl co he mi la) rfl ?_
  refine y_callI C (wr := []) 1 (c_X4_asks_ok l D cI aM th E vs B sz cd M fr tt na nb ta tb dl co he mi la na2 nb2 ta2 tb2 dl2 hE hB hM hsz hcd hfr htt hF) gX4_kept_X4_asks rfl rfl rfl (by decide +kernel) ⟨Nat.le_of_ble_eq_true rfl, Nat.le_of_ble_eq_true rfl⟩ (q0 := 0) (ci := 4) rfl rfl rfl rfl rfl (Nat.le_of_ble_eq_true rfl) dX4_kept_6 ⟨Nat.le_of_ble_eq_true rfl, Nat.le_of_ble_eq_true rfl⟩ ?_
  refine y_ws (ws' := WM cI aM 0 E vs B sz cd M fr tt na2 nb2 ta2 tb2 dl2 co he mi la) rfl ?_
  refine y_ifN_eq C (tgt := 20) dX4_kept_9 (by decide) (by decide) (fun h => absurd h (by decide)) (fun _ => ?_)
  refine y_aload_n C 0 dX4_kept_12 rfl rfl ?_
  refine y_iload_n C 1 dX4_kept_13 rfl rfl ?_
  refine y_callI C (wr := []) 1 (c_X4_keptBy l D cI aM 0 E vs B sz cd M fr tt na2 nb2 ta2 tb2 dl2 co he mi la b hE hsz hcd (by omega)) gX4_kept_X4_keptBy rfl rfl rfl (by decide +kernel) ⟨Nat.le_of_ble_eq_true rfl, Nat.le_of_ble_eq_true rfl⟩ (q0 := 0) (ci := 4) rfl rfl rfl rfl rfl (Nat.le_of_ble_eq_true rfl) dX4_kept_14 ⟨Nat.le_of_ble_eq_true rfl, Nat.le_of_ble_eq_true rfl⟩ ?_
  refine y_ws (ws' := WM cI aM 0 E vs B sz cd M fr tt na2 nb2 ta2 tb2 dl2 co he mi la) rfl ?_
  refine y_goto C (tgt := 21) dX4_kept_17 (by decide) ?_
  exact K _ _ _ _ _ dX4_kept_21 (rfl) (by decide) (by decide)
set_option maxHeartbeats 4000000 in
set_option maxRecDepth 100000 in
theorem c_X4_kept_bad (l : Launch) (D : va_G) (cI : ClassId) (aM : Nat → Nat) (th E : Nat) (vs : Nat → Int32) (B : Nat) (sz cd : Nat → Nat) (M : Nat) (fr tt : Nat → Nat) (na nb ta tb dl co he : Nat → Int32) (mi la : Int32) (b : Int32) (hB : B ≤ 40) (hb : b < 0 ∨ nI B ≤ b) : ctI l yX4_kept wsX4_kept (rmD 6 0 0) D [(cI, .int)] [.ref (aM 0), .int b] (WM cI aM th E vs B sz cd M fr tt na nb ta tb dl co he mi la) (WM cI aM 1 E vs B sz cd M fr tt na nb ta tb dl co he mi la) (nI 0) 0 0 := by
  refine ctI_of (by decide) rfl (Nat.le_of_ble_eq_true rfl) ?_
  intro p e s m args below meth c A Q C hnm K
  refine y_lv (lv' := [(0, .ref (aM 0)), (1, .int b)]) rfl ?_
  refine y_aload_n C 0 dX4_kept_0 rfl rfl ?_
  refine y_aload_n C 0 dX4_kept_1 rfl rfl ?_
  refine y_iload_n C 1 dX4_kept_2 rfl rfl ?_
  refine y_callI C (wr := []) 1 (c_X4_isBlock_bad l D cI aM th E vs B sz cd M fr tt na nb ta tb dl co he mi la b hB hb) gX4_kept_X4_isBlock rfl rfl rfl (by decide +kernel) ⟨Nat.le_of_ble_eq_true rfl, Nat.le_of_ble_eq_true rfl⟩ (q0 := 0) (ci := 4) rfl rfl rfl rfl rfl (Nat.le_of_ble_eq_true rfl) dX4_kept_3 ⟨Nat.le_of_ble_eq_true rfl, Nat.le_of_ble_eq_true rfl⟩ ?_
  refine y_ws (ws' := WM cI aM th E vs B sz cd M fr tt na nb ta tb dl co he mi la) rfl ?_
  refine y_callI C (wr := []) 1 (c_X4_asks_bad l D cI aM th E vs B sz cd M fr tt na nb ta tb dl co he mi la) gX4_kept_X4_asks rfl rfl rfl (by decide +kernel) ⟨Nat.le_of_ble_eq_true rfl, Nat.le_of_ble_eq_true rfl⟩ (q0 := 0) (ci := 4) rfl rfl rfl rfl rfl (Nat.le_of_ble_eq_true rfl) dX4_kept_6 ⟨Nat.le_of_ble_eq_true rfl, Nat.le_of_ble_eq_true rfl⟩ ?_
  refine y_ws (ws' := WM cI aM 1 E vs B sz cd M fr tt na nb ta tb dl co he mi la) rfl ?_
  refine y_ifN_eq C (tgt := 20) dX4_kept_9 (by decide) (by decide) (fun _ => ?_) (fun h => absurd h (by decide))
  refine y_iconst C (v := nI 0) dX4_kept_20 (by decide) ?_
  exact K _ _ _ _ _ dX4_kept_21 (rfl) (by decide) (by decide)
theorem in_X4_early_4 : ∀ w ∈ wsX40, w ∈ wsX4_early := fun _ h => List.mem_cons_of_mem _ (List.mem_append_right _ h)
set_option maxHeartbeats 4000000 in
set_option maxRecDepth 100000 in
theorem c_X4_early_ok (l : Launch) (D : va_G) (cI : ClassId) (aM : Nat → Nat) (th E : Nat) (vs : Nat → Int32) (B : Nat) (sz cd : Nat → Nat) (M : Nat) (fr tt : Nat → Nat) (na nb ta tb dl co he : Nat → Int32) (mi la : Int32) (b : Nat) (na2 nb2 ta2 tb2 dl2 : Nat → Int32) (hE : E ≤ 8) (hB : B ≤ 40) (hM : M ≤ 80) (hsz : ∀ j, sz j ≤ 12) (hcd : ∀ j, cd j < 24) (hfr : ∀ j, fr j < 40) (htt : ∀ j, tt j < 40) (hF : findR E vs B sz cd M fr tt na nb ta tb dl na2 nb2 ta2 tb2 dl2) (hb : b < B) : ctI l yX4_early wsX4_early (rmD 6 0 0) D [(cI, .int)] [.ref (aM 0), .int (nI b)] (WM cI aM th E vs B sz cd M fr tt na nb ta tb dl co he mi la) (WM cI aM 0 E vs B sz cd M fr tt na2 nb2 ta2 tb2 dl2 co he mi la) (eaF E vs cd b (sz b)) 0 0 := by
  refine ctI_of (by decide) rfl (Nat.le_of_ble_eq_true rfl) ?_
  intro p e s m args below meth c A Q C hnm K
  refine y_lv (lv' := [(0, .ref (aM 0)), (1, .int (nI b))]) rfl ?_
  refine y_aload_n C 0 dX4_early_0 rfl rfl ?_
  refine y_aload_n C 0 dX4_early_1 rfl rfl ?_
  refine y_iload_n C 1 dX4_early_2 rfl rfl ?_
  refine y_callI C (wr := []) 1 (c_X4_isBlock_ok l D cI aM th E vs B sz cd M fr tt na nb ta tb dl co he mi la b hB hb) gX4_early_X4_isBlock rfl rfl rfl (by decide +kernel) ⟨Nat.le_of_ble_eq_true rfl, Nat.le_of_ble_eq_true rfl⟩ (q0 := 0) (ci := 4) rfl rfl rfl rfl rfl (Nat.le_of_ble_eq_true rfl) dX4_early_3 ⟨Nat.le_of_ble_eq_true rfl, Nat.le_of_ble_eq_true rfl⟩ ?_
  refine y_ws (ws' := WM cI aM th E vs B sz cd M fr tt na nb ta tb dl co he mi la) rfl ?_
  refine y_callI C (wr := []) 1 (c_X4_asks_ok l D cI aM th E vs B sz cd M fr tt na nb ta tb dl co he mi la na2 nb2 ta2 tb2 dl2 hE hB hM hsz hcd hfr htt hF) gX4_early_X4_asks rfl rfl rfl (by decide +kernel) ⟨Nat.le_of_ble_eq_true rfl, Nat.le_of_ble_eq_true rfl⟩ (q0 := 0) (ci := 4) rfl rfl rfl rfl rfl (Nat.le_of_ble_eq_true rfl) dX4_early_6 ⟨Nat.le_of_ble_eq_true rfl, Nat.le_of_ble_eq_true rfl⟩ ?_
  refine y_ws (ws' := WM cI aM 0 E vs B sz cd M fr tt na2 nb2 ta2 tb2 dl2 co he mi la) rfl ?_
  refine y_ifN_eq C (tgt := 20) dX4_early_9 (by decide) (by decide) (fun h => absurd h (by decide)) (fun _ => ?_)
  refine y_aload_n C 0 dX4_early_12 rfl rfl ?_
  refine y_iload_n C 1 dX4_early_13 rfl rfl ?_
  refine y_callI C (wr := []) 1 (c_X4_earlyIn l D cI aM 0 E vs B sz cd M fr tt na2 nb2 ta2 tb2 dl2 co he mi la b hE hsz hcd (by omega)) gX4_early_X4_earlyIn rfl rfl rfl (by decide +kernel) ⟨Nat.le_of_ble_eq_true rfl, Nat.le_of_ble_eq_true rfl⟩ (q0 := 0) (ci := 4) rfl rfl rfl rfl rfl (Nat.le_of_ble_eq_true rfl) dX4_early_14 ⟨Nat.le_of_ble_eq_true rfl, Nat.le_of_ble_eq_true rfl⟩ ?_
  refine y_ws (ws' := WM cI aM 0 E vs B sz cd M fr tt na2 nb2 ta2 tb2 dl2 co he mi la) rfl ?_
  refine y_goto C (tgt := 21) dX4_early_17 (by decide) ?_
  exact K _ _ _ _ _ dX4_early_21 (rfl) (by decide) (by decide)
set_option maxHeartbeats 4000000 in
set_option maxRecDepth 100000 in
theorem c_X4_early_bad (l : Launch) (D : va_G) (cI : ClassId) (aM : Nat → Nat) (th E : Nat) (vs : Nat → Int32) (B : Nat) (sz cd : Nat → Nat) (M : Nat) (fr tt : Nat → Nat) (na nb ta tb dl co he : Nat → Int32) (mi la : Int32) (b : Int32) (hB : B ≤ 40) (hb : b < 0 ∨ nI B ≤ b) : ctI l yX4_early wsX4_early (rmD 6 0 0) D [(cI, .int)] [.ref (aM 0), .int b] (WM cI aM th E vs B sz cd M fr tt na nb ta tb dl co he mi la) (WM cI aM 1 E vs B sz cd M fr tt na nb ta tb dl co he mi la) (nI 0) 0 0 := by
  refine ctI_of (by decide) rfl (Nat.le_of_ble_eq_true rfl) ?_
  intro p e s m args below meth c A Q C hnm K
  refine y_lv (lv' := [(0, .ref (aM 0)), (1, .int b)]) rfl ?_
  refine y_aload_n C 0 dX4_early_0 rfl rfl ?_
  refine y_aload_n C 0 dX4_early_1 rfl rfl ?_
  refine y_iload_n C 1 dX4_early_2 rfl rfl ?_
  refine y_callI C (wr := []) 1 (c_X4_isBlock_bad l D cI aM th E vs B sz cd M fr tt na nb ta tb dl co he mi la b hB hb) gX4_early_X4_isBlock rfl rfl rfl (by decide +kernel) ⟨Nat.le_of_ble_eq_true rfl, Nat.le_of_ble_eq_true rfl⟩ (q0 := 0) (ci := 4) rfl rfl rfl rfl rfl (Nat.le_of_ble_eq_true rfl) dX4_early_3 ⟨Nat.le_of_ble_eq_true rfl, Nat.le_of_ble_eq_true rfl⟩ ?_
  refine y_ws (ws' := WM cI aM th E vs B sz cd M fr tt na nb ta tb dl co he mi la) rfl ?_
  refine y_callI C (wr := []) 1 (c_X4_asks_bad l D cI aM th E vs B sz cd M fr tt na nb ta tb dl co he mi la) gX4_early_X4_asks rfl rfl rfl (by decide +kernel) ⟨Nat.le_of_ble_eq_true rfl, Nat.le_of_ble_eq_true rfl⟩ (q0 := 0) (ci := 4) rfl rfl rfl rfl rfl (Nat.le_of_ble_eq_true rfl) dX4_early_6 ⟨Nat.le_of_ble_eq_true rfl, Nat.le_of_ble_eq_true rfl⟩ ?_
  refine y_ws (ws' := WM cI aM 1 E vs B sz cd M fr tt na nb ta tb dl co he mi la) rfl ?_
  refine y_ifN_eq C (tgt := 20) dX4_early_9 (by decide) (by decide) (fun _ => ?_) (fun h => absurd h (by decide))
  refine y_iconst C (v := nI 0) dX4_early_20 (by decide) ?_
  exact K _ _ _ _ _ dX4_early_21 (rfl) (by decide) (by decide)
theorem in_X4_late_4 : ∀ w ∈ wsX40, w ∈ wsX4_late := fun _ h => List.mem_cons_of_mem _ (List.mem_append_right _ h)
set_option maxHeartbeats 4000000 in
set_option maxRecDepth 100000 in
theorem c_X4_late_ok (l : Launch) (D : va_G) (cI : ClassId) (aM : Nat → Nat) (th E : Nat) (vs : Nat → Int32) (B : Nat) (sz cd : Nat → Nat) (M : Nat) (fr tt : Nat → Nat) (na nb ta tb dl co he : Nat → Int32) (mi la : Int32) (b : Nat) (na2 nb2 ta2 tb2 dl2 : Nat → Int32) (hE : E ≤ 8) (hB : B ≤ 40) (hM : M ≤ 80) (hsz : ∀ j, sz j ≤ 12) (hcd : ∀ j, cd j < 24) (hfr : ∀ j, fr j < 40) (htt : ∀ j, tt j < 40) (hF : findR E vs B sz cd M fr tt na nb ta tb dl na2 nb2 ta2 tb2 dl2) (hb : b < B) : ctI l yX4_late wsX4_late (rmD 6 0 0) D [(cI, .int)] [.ref (aM 0), .int (nI b)] (WM cI aM th E vs B sz cd M fr tt na nb ta tb dl co he mi la) (WM cI aM 0 E vs B sz cd M fr tt na2 nb2 ta2 tb2 dl2 co he mi la) (laF E vs cd b (sz b)) 0 0 := by
  refine ctI_of (by decide) rfl (Nat.le_of_ble_eq_true rfl) ?_
  intro p e s m args below meth c A Q C hnm K
  refine y_lv (lv' := [(0, .ref (aM 0)), (1, .int (nI b))]) rfl ?_
  refine y_aload_n C 0 dX4_late_0 rfl rfl ?_
  refine y_aload_n C 0 dX4_late_1 rfl rfl ?_
  refine y_iload_n C 1 dX4_late_2 rfl rfl ?_
  refine y_callI C (wr := []) 1 (c_X4_isBlock_ok l D cI aM th E vs B sz cd M fr tt na nb ta tb dl co he mi la b hB hb) gX4_late_X4_isBlock rfl rfl rfl (by decide +kernel) ⟨Nat.le_of_ble_eq_true rfl, Nat.le_of_ble_eq_true rfl⟩ (q0 := 0) (ci := 4) rfl rfl rfl rfl rfl (Nat.le_of_ble_eq_true rfl) dX4_late_3 ⟨Nat.le_of_ble_eq_true rfl, Nat.le_of_ble_eq_true rfl⟩ ?_
  refine y_ws (ws' := WM cI aM th E vs B sz cd M fr tt na nb ta tb dl co he mi la) rfl ?_
  refine y_callI C (wr := []) 1 (c_X4_asks_ok l D cI aM th E vs B sz cd M fr tt na nb ta tb dl co he mi la na2 nb2 ta2 tb2 dl2 hE hB hM hsz hcd hfr htt hF) gX4_late_X4_asks rfl rfl rfl (by decide +kernel) ⟨Nat.le_of_ble_eq_true rfl, Nat.le_of_ble_eq_true rfl⟩ (q0 := 0) (ci := 4) rfl rfl rfl rfl rfl (Nat.le_of_ble_eq_true rfl) dX4_late_6 ⟨Nat.le_of_ble_eq_true rfl, Nat.le_of_ble_eq_true rfl⟩ ?_
  refine y_ws (ws' := WM cI aM 0 E vs B sz cd M fr tt na2 nb2 ta2 tb2 dl2 co he mi la) rfl ?_
  refine y_ifN_eq C (tgt := 20) dX4_late_9 (by decide) (by decide) (fun h => absurd h (by decide)) (fun _ => ?_)
  refine y_aload_n C 0 dX4_late_12 rfl rfl ?_
  refine y_iload_n C 1 dX4_late_13 rfl rfl ?_
  refine y_callI C (wr := []) 1 (c_X4_lateIn l D cI aM 0 E vs B sz cd M fr tt na2 nb2 ta2 tb2 dl2 co he mi la b hE hsz hcd (by omega)) gX4_late_X4_lateIn rfl rfl rfl (by decide +kernel) ⟨Nat.le_of_ble_eq_true rfl, Nat.le_of_ble_eq_true rfl⟩ (q0 := 0) (ci := 4) rfl rfl rfl rfl rfl (Nat.le_of_ble_eq_true rfl) dX4_late_14 ⟨Nat.le_of_ble_eq_true rfl, Nat.le_of_ble_eq_true rfl⟩ ?_
  refine y_ws (ws' := WM cI aM 0 E vs B sz cd M fr tt na2 nb2 ta2 tb2 dl2 co he mi la) rfl ?_
  refine y_goto C (tgt := 21) dX4_late_17 (by decide) ?_
  exact K _ _ _ _ _ dX4_late_21 (rfl) (by decide) (by decide)
set_option maxHeartbeats 4000000 in
set_option maxRecDepth 100000 in
theorem c_X4_late_bad (l : Launch) (D : va_G) (cI : ClassId) (aM : Nat → Nat) (th E : Nat) (vs : Nat → Int32) (B : Nat) (sz cd : Nat → Nat) (M : Nat) (fr tt : Nat → Nat) (na nb ta tb dl co he : Nat → Int32) (mi la : Int32) (b : Int32) (hB : B ≤ 40) (hb : b < 0 ∨ nI B ≤ b) : ctI l yX4_late wsX4_late (rmD 6 0 0) D [(cI, .int)] [.ref (aM 0), .int b] (WM cI aM th E vs B sz cd M fr tt na nb ta tb dl co he mi la) (WM cI aM 1 E vs B sz cd M fr tt na nb ta tb dl co he mi la) (nI 0) 0 0 := by
  refine ctI_of (by decide) rfl (Nat.le_of_ble_eq_true rfl) ?_
  intro p e s m args below meth c A Q C hnm K
  refine y_lv (lv' := [(0, .ref (aM 0)), (1, .int b)]) rfl ?_
  refine y_aload_n C 0 dX4_late_0 rfl rfl ?_
  refine y_aload_n C 0 dX4_late_1 rfl rfl ?_
  refine y_iload_n C 1 dX4_late_2 rfl rfl ?_
  refine y_callI C (wr := []) 1 (c_X4_isBlock_bad l D cI aM th E vs B sz cd M fr tt na nb ta tb dl co he mi la b hB hb) gX4_late_X4_isBlock rfl rfl rfl (by decide +kernel) ⟨Nat.le_of_ble_eq_true rfl, Nat.le_of_ble_eq_true rfl⟩ (q0 := 0) (ci := 4) rfl rfl rfl rfl rfl (Nat.le_of_ble_eq_true rfl) dX4_late_3 ⟨Nat.le_of_ble_eq_true rfl, Nat.le_of_ble_eq_true rfl⟩ ?_
  refine y_ws (ws' := WM cI aM th E vs B sz cd M fr tt na nb ta tb dl co he mi la) rfl ?_
  refine y_callI C (wr := []) 1 (c_X4_asks_bad l D cI aM th E vs B sz cd M fr tt na nb ta tb dl co he mi la) gX4_late_X4_asks rfl rfl rfl (by decide +kernel) ⟨Nat.le_of_ble_eq_true rfl, Nat.le_of_ble_eq_true rfl⟩ (q0 := 0) (ci := 4) rfl rfl rfl rfl rfl (Nat.le_of_ble_eq_true rfl) dX4_late_6 ⟨Nat.le_of_ble_eq_true rfl, Nat.le_of_ble_eq_true rfl⟩ ?_
  refine y_ws (ws' := WM cI aM 1 E vs B sz cd M fr tt na nb ta tb dl co he mi la) rfl ?_
  refine y_ifN_eq C (tgt := 20) dX4_late_9 (by decide) (by decide) (fun _ => ?_) (fun h => absurd h (by decide))
  refine y_iconst C (v := nI 0) dX4_late_20 (by decide) ?_
  exact K _ _ _ _ _ dX4_late_21 (rfl) (by decide) (by decide)
theorem in_X4_deletions_4 : ∀ w ∈ wsX40, w ∈ wsX4_deletions := fun _ h => List.mem_cons_of_mem _ (List.mem_append_right _ h)
set_option maxHeartbeats 4000000 in
set_option maxRecDepth 100000 in
theorem c_X4_deletions_ok (l : Launch) (D : va_G) (cI : ClassId) (aM : Nat → Nat) (th E : Nat) (vs : Nat → Int32) (B : Nat) (sz cd : Nat → Nat) (M : Nat) (fr tt : Nat → Nat) (na nb ta tb dl co he : Nat → Int32) (mi la : Int32) (b : Nat) (na2 nb2 ta2 tb2 dl2 : Nat → Int32) (hE : E ≤ 8) (hB : B ≤ 40) (hM : M ≤ 80) (hsz : ∀ j, sz j ≤ 12) (hcd : ∀ j, cd j < 24) (hfr : ∀ j, fr j < 40) (htt : ∀ j, tt j < 40) (hF : findR E vs B sz cd M fr tt na nb ta tb dl na2 nb2 ta2 tb2 dl2) (hb : b < B) : ctI l yX4_deletions wsX4_deletions (rmD 6 0 0) D [(cI, .int)] [.ref (aM 0), .int (nI b)] (WM cI aM th E vs B sz cd M fr tt na nb ta tb dl co he mi la) (WM cI aM 0 E vs B sz cd M fr tt na2 nb2 ta2 tb2 dl2 co he mi la) (deF E vs sz cd dl2 b) 0 0 := by
  refine ctI_of (by decide) rfl (Nat.le_of_ble_eq_true rfl) ?_
  intro p e s m args below meth c A Q C hnm K
  refine y_lv (lv' := [(0, .ref (aM 0)), (1, .int (nI b))]) rfl ?_
  refine y_aload_n C 0 dX4_deletions_0 rfl rfl ?_
  refine y_aload_n C 0 dX4_deletions_1 rfl rfl ?_
  refine y_iload_n C 1 dX4_deletions_2 rfl rfl ?_
  refine y_callI C (wr := []) 1 (c_X4_isBlock_ok l D cI aM th E vs B sz cd M fr tt na nb ta tb dl co he mi la b hB hb) gX4_deletions_X4_isBlock rfl rfl rfl (by decide +kernel) ⟨Nat.le_of_ble_eq_true rfl, Nat.le_of_ble_eq_true rfl⟩ (q0 := 0) (ci := 4) rfl rfl rfl rfl rfl (Nat.le_of_ble_eq_true rfl) dX4_deletions_3 ⟨Nat.le_of_ble_eq_true rfl, Nat.le_of_ble_eq_true rfl⟩ ?_
  refine y_ws (ws' := WM cI aM th E vs B sz cd M fr tt na nb ta tb dl co he mi la) rfl ?_
  refine y_callI C (wr := []) 1 (c_X4_asks_ok l D cI aM th E vs B sz cd M fr tt na nb ta tb dl co he mi la na2 nb2 ta2 tb2 dl2 hE hB hM hsz hcd hfr htt hF) gX4_deletions_X4_asks rfl rfl rfl (by decide +kernel) ⟨Nat.le_of_ble_eq_true rfl, Nat.le_of_ble_eq_true rfl⟩ (q0 := 0) (ci := 4) rfl rfl rfl rfl rfl (Nat.le_of_ble_eq_true rfl) dX4_deletions_6 ⟨Nat.le_of_ble_eq_true rfl, Nat.le_of_ble_eq_true rfl⟩ ?_
  refine y_ws (ws' := WM cI aM 0 E vs B sz cd M fr tt na2 nb2 ta2 tb2 dl2 co he mi la) rfl ?_
  refine y_ifN_eq C (tgt := 20) dX4_deletions_9 (by decide) (by decide) (fun h => absurd h (by decide)) (fun _ => ?_)
  refine y_aload_n C 0 dX4_deletions_12 rfl rfl ?_
  refine y_iload_n C 1 dX4_deletions_13 rfl rfl ?_
  refine y_callI C (wr := []) 1 (c_X4_deletedIn l D cI aM 0 E vs B sz cd M fr tt na2 nb2 ta2 tb2 dl2 co he mi la b hE hsz hcd (by omega)) gX4_deletions_X4_deletedIn rfl rfl rfl (by decide +kernel) ⟨Nat.le_of_ble_eq_true rfl, Nat.le_of_ble_eq_true rfl⟩ (q0 := 0) (ci := 4) rfl rfl rfl rfl rfl (Nat.le_of_ble_eq_true rfl) dX4_deletions_14 ⟨Nat.le_of_ble_eq_true rfl, Nat.le_of_ble_eq_true rfl⟩ ?_
  refine y_ws (ws' := WM cI aM 0 E vs B sz cd M fr tt na2 nb2 ta2 tb2 dl2 co he mi la) rfl ?_
  refine y_goto C (tgt := 21) dX4_deletions_17 (by decide) ?_
  exact K _ _ _ _ _ dX4_deletions_21 (rfl) (by decide) (by decide)
set_option maxHeartbeats 4000000 in
set_option maxRecDepth 100000 in
theorem c_X4_deletions_bad (l : Launch) (D : va_G) (cI : ClassId) (aM : Nat → Nat) (th E : Nat) (vs : Nat → Int32) (B : Nat) (sz cd : Nat → Nat) (M : Nat) (fr tt : Nat → Nat) (na nb ta tb dl co he : Nat → Int32) (mi la : Int32) (b : Int32) (hB : B ≤ 40) (hb : b < 0 ∨ nI B ≤ b) : ctI l yX4_deletions wsX4_deletions (rmD 6 0 0) D [(cI, .int)] [.ref (aM 0), .int b] (WM cI aM th E vs B sz cd M fr tt na nb ta tb dl co he mi la) (WM cI aM 1 E vs B sz cd M fr tt na nb ta tb dl co he mi la) (nI 0) 0 0 := by
  refine ctI_of (by decide) rfl (Nat.le_of_ble_eq_true rfl) ?_
  intro p e s m args below meth c A Q C hnm K
  refine y_lv (lv' := [(0, .ref (aM 0)), (1, .int b)]) rfl ?_
  refine y_aload_n C 0 dX4_deletions_0 rfl rfl ?_
  refine y_aload_n C 0 dX4_deletions_1 rfl rfl ?_
  refine y_iload_n C 1 dX4_deletions_2 rfl rfl ?_
  refine y_callI C (wr := []) 1 (c_X4_isBlock_bad l D cI aM th E vs B sz cd M fr tt na nb ta tb dl co he mi la b hB hb) gX4_deletions_X4_isBlock rfl rfl rfl (by decide +kernel) ⟨Nat.le_of_ble_eq_true rfl, Nat.le_of_ble_eq_true rfl⟩ (q0 := 0) (ci := 4) rfl rfl rfl rfl rfl (Nat.le_of_ble_eq_true rfl) dX4_deletions_3 ⟨Nat.le_of_ble_eq_true rfl, Nat.le_of_ble_eq_true rfl⟩ ?_
  refine y_ws (ws' := WM cI aM th E vs B sz cd M fr tt na nb ta tb dl co he mi la) rfl ?_
  refine y_callI C (wr := []) 1 (c_X4_asks_bad l D cI aM th E vs B sz cd M fr tt na nb ta tb dl co he mi la) gX4_deletions_X4_asks rfl rfl rfl (by decide +kernel) ⟨Nat.le_of_ble_eq_true rfl, Nat.le_of_ble_eq_true rfl⟩ (q0 := 0) (ci := 4) rfl rfl rfl rfl rfl (Nat.le_of_ble_eq_true rfl) dX4_deletions_6 ⟨Nat.le_of_ble_eq_true rfl, Nat.le_of_ble_eq_true rfl⟩ ?_
  refine y_ws (ws' := WM cI aM 1 E vs B sz cd M fr tt na nb ta tb dl co he mi la) rfl ?_
  refine y_ifN_eq C (tgt := 20) dX4_deletions_9 (by decide) (by decide) (fun _ => ?_) (fun h => absurd h (by decide))
  refine y_iconst C (v := nI 0) dX4_deletions_20 (by decide) ?_
  exact K _ _ _ _ _ dX4_deletions_21 (rfl) (by decide) (by decide)
theorem in_X4_delayedAt_4 : ∀ w ∈ wsX40, w ∈ wsX4_delayedAt := fun _ h => List.mem_cons_of_mem _ (List.mem_append_right _ h)
set_option maxHeartbeats 4000000 in
set_option maxRecDepth 100000 in
theorem c_X4_delayedAt_ok (l : Launch) (D : va_G) (cI : ClassId) (aM : Nat → Nat) (th E : Nat) (vs : Nat → Int32) (B : Nat) (sz cd : Nat → Nat) (M : Nat) (fr tt : Nat → Nat) (na nb ta tb dl co he : Nat → Int32) (mi la : Int32) (b : Nat) (na2 nb2 ta2 tb2 dl2 : Nat → Int32) (hE : E ≤ 8) (hB : B ≤ 40) (hM : M ≤ 80) (hsz : ∀ j, sz j ≤ 12) (hcd : ∀ j, cd j < 24) (hfr : ∀ j, fr j < 40) (htt : ∀ j, tt j < 40) (hF : findR E vs B sz cd M fr tt na nb ta tb dl na2 nb2 ta2 tb2 dl2) (hb : b < B) : ctI l yX4_delayedAt wsX4_delayedAt (rmD 6 0 0) D [(cI, .int)] [.ref (aM 0), .int (nI b)] (WM cI aM th E vs B sz cd M fr tt na nb ta tb dl co he mi la) (WM cI aM 0 E vs B sz cd M fr tt na2 nb2 ta2 tb2 dl2 co he mi la) (dl2 b) 0 0 := by
  refine ctI_of (by decide) rfl (Nat.le_of_ble_eq_true rfl) ?_
  intro p e s m args below meth c A Q C hnm K
  refine y_lv (lv' := [(0, .ref (aM 0)), (1, .int (nI b))]) rfl ?_
  refine y_aload_n C 0 dX4_delayedAt_0 rfl rfl ?_
  refine y_aload_n C 0 dX4_delayedAt_1 rfl rfl ?_
  refine y_iload_n C 1 dX4_delayedAt_2 rfl rfl ?_
  refine y_callI C (wr := []) 1 (c_X4_isBlock_ok l D cI aM th E vs B sz cd M fr tt na nb ta tb dl co he mi la b hB hb) gX4_delayedAt_X4_isBlock rfl rfl rfl (by decide +kernel) ⟨Nat.le_of_ble_eq_true rfl, Nat.le_of_ble_eq_true rfl⟩ (q0 := 0) (ci := 4) rfl rfl rfl rfl rfl (Nat.le_of_ble_eq_true rfl) dX4_delayedAt_3 ⟨Nat.le_of_ble_eq_true rfl, Nat.le_of_ble_eq_true rfl⟩ ?_
  refine y_ws (ws' := WM cI aM th E vs B sz cd M fr tt na nb ta tb dl co he mi la) rfl ?_
  refine y_callI C (wr := []) 1 (c_X4_asks_ok l D cI aM th E vs B sz cd M fr tt na nb ta tb dl co he mi la na2 nb2 ta2 tb2 dl2 hE hB hM hsz hcd hfr htt hF) gX4_delayedAt_X4_asks rfl rfl rfl (by decide +kernel) ⟨Nat.le_of_ble_eq_true rfl, Nat.le_of_ble_eq_true rfl⟩ (q0 := 0) (ci := 4) rfl rfl rfl rfl rfl (Nat.le_of_ble_eq_true rfl) dX4_delayedAt_6 ⟨Nat.le_of_ble_eq_true rfl, Nat.le_of_ble_eq_true rfl⟩ ?_
  refine y_ws (ws' := WM cI aM 0 E vs B sz cd M fr tt na2 nb2 ta2 tb2 dl2 co he mi la) rfl ?_
  refine y_ifN_eq C (tgt := 21) dX4_delayedAt_9 (by decide) (by decide) (fun h => absurd h (by decide)) (fun _ => ?_)
  refine y_aload_n C 0 dX4_delayedAt_12 rfl rfl ?_
  refine y_get C in_X4_delayedAt_4 (ci := 4) rfl 13 (by decide) (List.mem_of_getElem? (i := 1) rfl) 0 rfl rfl dX4_delayedAt_13 ?_
  refine y_iload_n C 1 dX4_delayedAt_16 rfl rfl ?_
  refine y_iald C (q0 := 10) (t0 := 0) rfl rfl (by decide) (by omega) dX4_delayedAt_17 ?_
  refine y_goto C (tgt := 22) dX4_delayedAt_18 (by decide) ?_
  exact K _ _ _ _ _ dX4_delayedAt_22 (rfl) (by decide) (by decide)
set_option maxHeartbeats 4000000 in
set_option maxRecDepth 100000 in
theorem c_X4_delayedAt_bad (l : Launch) (D : va_G) (cI : ClassId) (aM : Nat → Nat) (th E : Nat) (vs : Nat → Int32) (B : Nat) (sz cd : Nat → Nat) (M : Nat) (fr tt : Nat → Nat) (na nb ta tb dl co he : Nat → Int32) (mi la : Int32) (b : Int32) (hB : B ≤ 40) (hb : b < 0 ∨ nI B ≤ b) : ctI l yX4_delayedAt wsX4_delayedAt (rmD 6 0 0) D [(cI, .int)] [.ref (aM 0), .int b] (WM cI aM th E vs B sz cd M fr tt na nb ta tb dl co he mi la) (WM cI aM 1 E vs B sz cd M fr tt na nb ta tb dl co he mi la) (nI 0) 0 0 := by
  refine ctI_of (by decide) rfl (Nat.le_of_ble_eq_true rfl) ?_
  intro p e s m args below meth c A Q C hnm K
  refine y_lv (lv' := [(0, .ref (aM 0)), (1, .int b)]) rfl ?_
  refine y_aload_n C 0 dX4_delayedAt_0 rfl rfl ?_
  refine y_aload_n C 0 dX4_delayedAt_1 rfl rfl ?_
  refine y_iload_n C 1 dX4_delayedAt_2 rfl rfl ?_
  refine y_callI C (wr := []) 1 (c_X4_isBlock_bad l D cI aM th E vs B sz cd M fr tt na nb ta tb dl co he mi la b hB hb) gX4_delayedAt_X4_isBlock rfl rfl rfl (by decide +kernel) ⟨Nat.le_of_ble_eq_true rfl, Nat.le_of_ble_eq_true rfl⟩ (q0 := 0) (ci := 4) rfl rfl rfl rfl rfl (Nat.le_of_ble_eq_true rfl) dX4_delayedAt_3 ⟨Nat.le_of_ble_eq_true rfl, Nat.le_of_ble_eq_true rfl⟩ ?_
  refine y_ws (ws' := WM cI aM th E vs B sz cd M fr tt na nb ta tb dl co he mi la) rfl ?_
  refine y_callI C (wr := []) 1 (c_X4_asks_bad l D cI aM th E vs B sz cd M fr tt na nb ta tb dl co he mi la) gX4_delayedAt_X4_asks rfl rfl rfl (by decide +kernel) ⟨Nat.le_of_ble_eq_true rfl, Nat.le_of_ble_eq_true rfl⟩ (q0 := 0) (ci := 4) rfl rfl rfl rfl rfl (Nat.le_of_ble_eq_true rfl) dX4_delayedAt_6 ⟨Nat.le_of_ble_eq_true rfl, Nat.le_of_ble_eq_true rfl⟩ ?_
  refine y_ws (ws' := WM cI aM 1 E vs B sz cd M fr tt na nb ta tb dl co he mi la) rfl ?_
  refine y_ifN_eq C (tgt := 21) dX4_delayedAt_9 (by decide) (by decide) (fun _ => ?_) (fun h => absurd h (by decide))
  refine y_iconst C (v := nI 0) dX4_delayedAt_21 (by decide) ?_
  exact K _ _ _ _ _ dX4_delayedAt_22 (rfl) (by decide) (by decide)
theorem in_X4_earliest_4 : ∀ w ∈ wsX40, w ∈ wsX4_earliest := fun _ h => List.mem_cons_of_mem _ (List.mem_append_right _ h)
set_option maxHeartbeats 4000000 in
set_option maxRecDepth 100000 in
theorem c_X4_earliest_ok (l : Launch) (D : va_G) (cI : ClassId) (aM : Nat → Nat) (th E : Nat) (vs : Nat → Int32) (B : Nat) (sz cd : Nat → Nat) (M : Nat) (fr tt : Nat → Nat) (na nb ta tb dl co he : Nat → Int32) (mi la : Int32) (b : Nat) (na2 nb2 ta2 tb2 dl2 : Nat → Int32) (hE : E ≤ 8) (hB : B ≤ 40) (hM : M ≤ 80) (hsz : ∀ j, sz j ≤ 12) (hcd : ∀ j, cd j < 24) (hfr : ∀ j, fr j < 40) (htt : ∀ j, tt j < 40) (hF : findR E vs B sz cd M fr tt na nb ta tb dl na2 nb2 ta2 tb2 dl2) (hb : b < M) : ctI l yX4_earliest wsX4_earliest (rmD 6 0 0) D [(cI, .int)] [.ref (aM 0), .int (nI b)] (WM cI aM th E vs B sz cd M fr tt na nb ta tb dl co he mi la) (WM cI aM 0 E vs B sz cd M fr tt na2 nb2 ta2 tb2 dl2 co he mi la) (erF E vs sz cd fr tt na2 nb2 tb2 b) 0 0 := by
  refine ctI_of (by decide) rfl (Nat.le_of_ble_eq_true rfl) ?_
  intro p e s m args below meth c A Q C hnm K
  refine y_lv (lv' := [(0, .ref (aM 0)), (1, .int (nI b))]) rfl ?_
  refine y_aload_n C 0 dX4_earliest_0 rfl rfl ?_
  refine y_aload_n C 0 dX4_earliest_1 rfl rfl ?_
  refine y_iload_n C 1 dX4_earliest_2 rfl rfl ?_
  refine y_callI C (wr := []) 1 (c_X4_isEdge_ok l D cI aM th E vs B sz cd M fr tt na nb ta tb dl co he mi la b hM hb) gX4_earliest_X4_isEdge rfl rfl rfl (by decide +kernel) ⟨Nat.le_of_ble_eq_true rfl, Nat.le_of_ble_eq_true rfl⟩ (q0 := 0) (ci := 4) rfl rfl rfl rfl rfl (Nat.le_of_ble_eq_true rfl) dX4_earliest_3 ⟨Nat.le_of_ble_eq_true rfl, Nat.le_of_ble_eq_true rfl⟩ ?_
  refine y_ws (ws' := WM cI aM th E vs B sz cd M fr tt na nb ta tb dl co he mi la) rfl ?_
  refine y_callI C (wr := []) 1 (c_X4_asks_ok l D cI aM th E vs B sz cd M fr tt na nb ta tb dl co he mi la na2 nb2 ta2 tb2 dl2 hE hB hM hsz hcd hfr htt hF) gX4_earliest_X4_asks rfl rfl rfl (by decide +kernel) ⟨Nat.le_of_ble_eq_true rfl, Nat.le_of_ble_eq_true rfl⟩ (q0 := 0) (ci := 4) rfl rfl rfl rfl rfl (Nat.le_of_ble_eq_true rfl) dX4_earliest_6 ⟨Nat.le_of_ble_eq_true rfl, Nat.le_of_ble_eq_true rfl⟩ ?_
  refine y_ws (ws' := WM cI aM 0 E vs B sz cd M fr tt na2 nb2 ta2 tb2 dl2 co he mi la) rfl ?_
  refine y_ifN_eq C (tgt := 20) dX4_earliest_9 (by decide) (by decide) (fun h => absurd h (by decide)) (fun _ => ?_)
  refine y_aload_n C 0 dX4_earliest_12 rfl rfl ?_
  refine y_iload_n C 1 dX4_earliest_13 rfl rfl ?_
  refine y_callI C (wr := []) 1 (c_X4_earliestFor l D cI aM 0 E vs B sz cd M fr tt na2 nb2 ta2 tb2 dl2 co he mi la b hE (by omega) (by omega) (by omega) (by omega) (by omega)) gX4_earliest_X4_earliestFor rfl rfl rfl (by decide +kernel) ⟨Nat.le_of_ble_eq_true rfl, Nat.le_of_ble_eq_true rfl⟩ (q0 := 0) (ci := 4) rfl rfl rfl rfl rfl (Nat.le_of_ble_eq_true rfl) dX4_earliest_14 ⟨Nat.le_of_ble_eq_true rfl, Nat.le_of_ble_eq_true rfl⟩ ?_
  refine y_ws (ws' := WM cI aM 0 E vs B sz cd M fr tt na2 nb2 ta2 tb2 dl2 co he mi la) rfl ?_
  refine y_goto C (tgt := 21) dX4_earliest_17 (by decide) ?_
  exact K _ _ _ _ _ dX4_earliest_21 (rfl) (by decide) (by decide)
set_option maxHeartbeats 4000000 in
set_option maxRecDepth 100000 in
theorem c_X4_earliest_bad (l : Launch) (D : va_G) (cI : ClassId) (aM : Nat → Nat) (th E : Nat) (vs : Nat → Int32) (B : Nat) (sz cd : Nat → Nat) (M : Nat) (fr tt : Nat → Nat) (na nb ta tb dl co he : Nat → Int32) (mi la : Int32) (b : Int32) (hM : M ≤ 80) (hb : b < 0 ∨ nI M ≤ b) : ctI l yX4_earliest wsX4_earliest (rmD 6 0 0) D [(cI, .int)] [.ref (aM 0), .int b] (WM cI aM th E vs B sz cd M fr tt na nb ta tb dl co he mi la) (WM cI aM 1 E vs B sz cd M fr tt na nb ta tb dl co he mi la) (nI 0) 0 0 := by
  refine ctI_of (by decide) rfl (Nat.le_of_ble_eq_true rfl) ?_
  intro p e s m args below meth c A Q C hnm K
  refine y_lv (lv' := [(0, .ref (aM 0)), (1, .int b)]) rfl ?_
  refine y_aload_n C 0 dX4_earliest_0 rfl rfl ?_
  refine y_aload_n C 0 dX4_earliest_1 rfl rfl ?_
  refine y_iload_n C 1 dX4_earliest_2 rfl rfl ?_
  refine y_callI C (wr := []) 1 (c_X4_isEdge_bad l D cI aM th E vs B sz cd M fr tt na nb ta tb dl co he mi la b hM hb) gX4_earliest_X4_isEdge rfl rfl rfl (by decide +kernel) ⟨Nat.le_of_ble_eq_true rfl, Nat.le_of_ble_eq_true rfl⟩ (q0 := 0) (ci := 4) rfl rfl rfl rfl rfl (Nat.le_of_ble_eq_true rfl) dX4_earliest_3 ⟨Nat.le_of_ble_eq_true rfl, Nat.le_of_ble_eq_true rfl⟩ ?_
  refine y_ws (ws' := WM cI aM th E vs B sz cd M fr tt na nb ta tb dl co he mi la) rfl ?_
  refine y_callI C (wr := []) 1 (c_X4_asks_bad l D cI aM th E vs B sz cd M fr tt na nb ta tb dl co he mi la) gX4_earliest_X4_asks rfl rfl rfl (by decide +kernel) ⟨Nat.le_of_ble_eq_true rfl, Nat.le_of_ble_eq_true rfl⟩ (q0 := 0) (ci := 4) rfl rfl rfl rfl rfl (Nat.le_of_ble_eq_true rfl) dX4_earliest_6 ⟨Nat.le_of_ble_eq_true rfl, Nat.le_of_ble_eq_true rfl⟩ ?_
  refine y_ws (ws' := WM cI aM 1 E vs B sz cd M fr tt na nb ta tb dl co he mi la) rfl ?_
  refine y_ifN_eq C (tgt := 20) dX4_earliest_9 (by decide) (by decide) (fun _ => ?_) (fun h => absurd h (by decide))
  refine y_iconst C (v := nI 0) dX4_earliest_20 (by decide) ?_
  exact K _ _ _ _ _ dX4_earliest_21 (rfl) (by decide) (by decide)
theorem in_X4_delayedOn_4 : ∀ w ∈ wsX40, w ∈ wsX4_delayedOn := fun _ h => List.mem_cons_of_mem _ (List.mem_append_right _ h)
set_option maxHeartbeats 4000000 in
set_option maxRecDepth 100000 in
theorem c_X4_delayedOn_ok (l : Launch) (D : va_G) (cI : ClassId) (aM : Nat → Nat) (th E : Nat) (vs : Nat → Int32) (B : Nat) (sz cd : Nat → Nat) (M : Nat) (fr tt : Nat → Nat) (na nb ta tb dl co he : Nat → Int32) (mi la : Int32) (b : Nat) (na2 nb2 ta2 tb2 dl2 : Nat → Int32) (hE : E ≤ 8) (hB : B ≤ 40) (hM : M ≤ 80) (hsz : ∀ j, sz j ≤ 12) (hcd : ∀ j, cd j < 24) (hfr : ∀ j, fr j < 40) (htt : ∀ j, tt j < 40) (hF : findR E vs B sz cd M fr tt na nb ta tb dl na2 nb2 ta2 tb2 dl2) (hb : b < M) : ctI l yX4_delayedOn wsX4_delayedOn (rmD 6 0 0) D [(cI, .int)] [.ref (aM 0), .int (nI b)] (WM cI aM th E vs B sz cd M fr tt na nb ta tb dl co he mi la) (WM cI aM 0 E vs B sz cd M fr tt na2 nb2 ta2 tb2 dl2 co he mi la) (daF E vs sz cd fr tt na2 nb2 tb2 dl2 b) 0 0 := by
  refine ctI_of (by decide) rfl (Nat.le_of_ble_eq_true rfl) ?_
  intro p e s m args below meth c A Q C hnm K
  refine y_lv (lv' := [(0, .ref (aM 0)), (1, .int (nI b))]) rfl ?_
  refine y_aload_n C 0 dX4_delayedOn_0 rfl rfl ?_
  refine y_aload_n C 0 dX4_delayedOn_1 rfl rfl ?_
  refine y_iload_n C 1 dX4_delayedOn_2 rfl rfl ?_
  refine y_callI C (wr := []) 1 (c_X4_isEdge_ok l D cI aM th E vs B sz cd M fr tt na nb ta tb dl co he mi la b hM hb) gX4_delayedOn_X4_isEdge rfl rfl rfl (by decide +kernel) ⟨Nat.le_of_ble_eq_true rfl, Nat.le_of_ble_eq_true rfl⟩ (q0 := 0) (ci := 4) rfl rfl rfl rfl rfl (Nat.le_of_ble_eq_true rfl) dX4_delayedOn_3 ⟨Nat.le_of_ble_eq_true rfl, Nat.le_of_ble_eq_true rfl⟩ ?_
  refine y_ws (ws' := WM cI aM th E vs B sz cd M fr tt na nb ta tb dl co he mi la) rfl ?_
  refine y_callI C (wr := []) 1 (c_X4_asks_ok l D cI aM th E vs B sz cd M fr tt na nb ta tb dl co he mi la na2 nb2 ta2 tb2 dl2 hE hB hM hsz hcd hfr htt hF) gX4_delayedOn_X4_asks rfl rfl rfl (by decide +kernel) ⟨Nat.le_of_ble_eq_true rfl, Nat.le_of_ble_eq_true rfl⟩ (q0 := 0) (ci := 4) rfl rfl rfl rfl rfl (Nat.le_of_ble_eq_true rfl) dX4_delayedOn_6 ⟨Nat.le_of_ble_eq_true rfl, Nat.le_of_ble_eq_true rfl⟩ ?_
  refine y_ws (ws' := WM cI aM 0 E vs B sz cd M fr tt na2 nb2 ta2 tb2 dl2 co he mi la) rfl ?_
  refine y_ifN_eq C (tgt := 20) dX4_delayedOn_9 (by decide) (by decide) (fun h => absurd h (by decide)) (fun _ => ?_)
  refine y_aload_n C 0 dX4_delayedOn_12 rfl rfl ?_
  refine y_iload_n C 1 dX4_delayedOn_13 rfl rfl ?_
  refine y_callI C (wr := []) 1 (c_X4_delayedAlong l D cI aM 0 E vs B sz cd M fr tt na2 nb2 ta2 tb2 dl2 co he mi la b hE (by omega) (by omega) (by omega) (by omega) (by omega)) gX4_delayedOn_X4_delayedAlong rfl rfl rfl (by decide +kernel) ⟨Nat.le_of_ble_eq_true rfl, Nat.le_of_ble_eq_true rfl⟩ (q0 := 0) (ci := 4) rfl rfl rfl rfl rfl (Nat.le_of_ble_eq_true rfl) dX4_delayedOn_14 ⟨Nat.le_of_ble_eq_true rfl, Nat.le_of_ble_eq_true rfl⟩ ?_
  refine y_ws (ws' := WM cI aM 0 E vs B sz cd M fr tt na2 nb2 ta2 tb2 dl2 co he mi la) rfl ?_
  refine y_goto C (tgt := 21) dX4_delayedOn_17 (by decide) ?_
  exact K _ _ _ _ _ dX4_delayedOn_21 (rfl) (by decide) (by decide)
set_option maxHeartbeats 4000000 in
set_option maxRecDepth 100000 in
theorem c_X4_delayedOn_bad (l : Launch) (D : va_G) (cI : ClassId) (aM : Nat → Nat) (th E : Nat) (vs : Nat → Int32) (B : Nat) (sz cd : Nat → Nat) (M : Nat) (fr tt : Nat → Nat) (na nb ta tb dl co he : Nat → Int32) (mi la : Int32) (b : Int32) (hM : M ≤ 80) (hb : b < 0 ∨ nI M ≤ b) : ctI l yX4_delayedOn wsX4_delayedOn (rmD 6 0 0) D [(cI, .int)] [.ref (aM 0), .int b] (WM cI aM th E vs B sz cd M fr tt na nb ta tb dl co he mi la) (WM cI aM 1 E vs B sz cd M fr tt na nb ta tb dl co he mi la) (nI 0) 0 0 := by
  refine ctI_of (by decide) rfl (Nat.le_of_ble_eq_true rfl) ?_
  intro p e s m args below meth c A Q C hnm K
  refine y_lv (lv' := [(0, .ref (aM 0)), (1, .int b)]) rfl ?_
  refine y_aload_n C 0 dX4_delayedOn_0 rfl rfl ?_
  refine y_aload_n C 0 dX4_delayedOn_1 rfl rfl ?_
  refine y_iload_n C 1 dX4_delayedOn_2 rfl rfl ?_
  refine y_callI C (wr := []) 1 (c_X4_isEdge_bad l D cI aM th E vs B sz cd M fr tt na nb ta tb dl co he mi la b hM hb) gX4_delayedOn_X4_isEdge rfl rfl rfl (by decide +kernel) ⟨Nat.le_of_ble_eq_true rfl, Nat.le_of_ble_eq_true rfl⟩ (q0 := 0) (ci := 4) rfl rfl rfl rfl rfl (Nat.le_of_ble_eq_true rfl) dX4_delayedOn_3 ⟨Nat.le_of_ble_eq_true rfl, Nat.le_of_ble_eq_true rfl⟩ ?_
  refine y_ws (ws' := WM cI aM th E vs B sz cd M fr tt na nb ta tb dl co he mi la) rfl ?_
  refine y_callI C (wr := []) 1 (c_X4_asks_bad l D cI aM th E vs B sz cd M fr tt na nb ta tb dl co he mi la) gX4_delayedOn_X4_asks rfl rfl rfl (by decide +kernel) ⟨Nat.le_of_ble_eq_true rfl, Nat.le_of_ble_eq_true rfl⟩ (q0 := 0) (ci := 4) rfl rfl rfl rfl rfl (Nat.le_of_ble_eq_true rfl) dX4_delayedOn_6 ⟨Nat.le_of_ble_eq_true rfl, Nat.le_of_ble_eq_true rfl⟩ ?_
  refine y_ws (ws' := WM cI aM 1 E vs B sz cd M fr tt na nb ta tb dl co he mi la) rfl ?_
  refine y_ifN_eq C (tgt := 20) dX4_delayedOn_9 (by decide) (by decide) (fun _ => ?_) (fun h => absurd h (by decide))
  refine y_iconst C (v := nI 0) dX4_delayedOn_20 (by decide) ?_
  exact K _ _ _ _ _ dX4_delayedOn_21 (rfl) (by decide) (by decide)
theorem in_X4_insertions_4 : ∀ w ∈ wsX40, w ∈ wsX4_insertions := fun _ h => List.mem_cons_of_mem _ (List.mem_append_right _ h)
set_option maxHeartbeats 4000000 in
set_option maxRecDepth 100000 in
theorem c_X4_insertions_ok (l : Launch) (D : va_G) (cI : ClassId) (aM : Nat → Nat) (th E : Nat) (vs : Nat → Int32) (B : Nat) (sz cd : Nat → Nat) (M : Nat) (fr tt : Nat → Nat) (na nb ta tb dl co he : Nat → Int32) (mi la : Int32) (b : Nat) (na2 nb2 ta2 tb2 dl2 : Nat → Int32) (hE : E ≤ 8) (hB : B ≤ 40) (hM : M ≤ 80) (hsz : ∀ j, sz j ≤ 12) (hcd : ∀ j, cd j < 24) (hfr : ∀ j, fr j < 40) (htt : ∀ j, tt j < 40) (hF : findR E vs B sz cd M fr tt na nb ta tb dl na2 nb2 ta2 tb2 dl2) (hb : b < M) : ctI l yX4_insertions wsX4_insertions (rmD 6 0 0) D [(cI, .int)] [.ref (aM 0), .int (nI b)] (WM cI aM th E vs B sz cd M fr tt na nb ta tb dl co he mi la) (WM cI aM 0 E vs B sz cd M fr tt na2 nb2 ta2 tb2 dl2 co he mi la) (inF E vs sz cd fr tt na2 nb2 tb2 dl2 b) 0 0 := by
  refine ctI_of (by decide) rfl (Nat.le_of_ble_eq_true rfl) ?_
  intro p e s m args below meth c A Q C hnm K
  refine y_lv (lv' := [(0, .ref (aM 0)), (1, .int (nI b))]) rfl ?_
  refine y_aload_n C 0 dX4_insertions_0 rfl rfl ?_
  refine y_aload_n C 0 dX4_insertions_1 rfl rfl ?_
  refine y_iload_n C 1 dX4_insertions_2 rfl rfl ?_
  refine y_callI C (wr := []) 1 (c_X4_isEdge_ok l D cI aM th E vs B sz cd M fr tt na nb ta tb dl co he mi la b hM hb) gX4_insertions_X4_isEdge rfl rfl rfl (by decide +kernel) ⟨Nat.le_of_ble_eq_true rfl, Nat.le_of_ble_eq_true rfl⟩ (q0 := 0) (ci := 4) rfl rfl rfl rfl rfl (Nat.le_of_ble_eq_true rfl) dX4_insertions_3 ⟨Nat.le_of_ble_eq_true rfl, Nat.le_of_ble_eq_true rfl⟩ ?_
  refine y_ws (ws' := WM cI aM th E vs B sz cd M fr tt na nb ta tb dl co he mi la) rfl ?_
  refine y_callI C (wr := []) 1 (c_X4_asks_ok l D cI aM th E vs B sz cd M fr tt na nb ta tb dl co he mi la na2 nb2 ta2 tb2 dl2 hE hB hM hsz hcd hfr htt hF) gX4_insertions_X4_asks rfl rfl rfl (by decide +kernel) ⟨Nat.le_of_ble_eq_true rfl, Nat.le_of_ble_eq_true rfl⟩ (q0 := 0) (ci := 4) rfl rfl rfl rfl rfl (Nat.le_of_ble_eq_true rfl) dX4_insertions_6 ⟨Nat.le_of_ble_eq_true rfl, Nat.le_of_ble_eq_true rfl⟩ ?_
  refine y_ws (ws' := WM cI aM 0 E vs B sz cd M fr tt na2 nb2 ta2 tb2 dl2 co he mi la) rfl ?_
  refine y_ifN_eq C (tgt := 20) dX4_insertions_9 (by decide) (by decide) (fun h => absurd h (by decide)) (fun _ => ?_)
  refine y_aload_n C 0 dX4_insertions_12 rfl rfl ?_
  refine y_iload_n C 1 dX4_insertions_13 rfl rfl ?_
  refine y_callI C (wr := []) 1 (c_X4_insertedOn l D cI aM 0 E vs B sz cd M fr tt na2 nb2 ta2 tb2 dl2 co he mi la b hE (by omega) (by omega) (by omega) (by omega) (by omega)) gX4_insertions_X4_insertedOn rfl rfl rfl (by decide +kernel) ⟨Nat.le_of_ble_eq_true rfl, Nat.le_of_ble_eq_true rfl⟩ (q0 := 0) (ci := 4) rfl rfl rfl rfl rfl (Nat.le_of_ble_eq_true rfl) dX4_insertions_14 ⟨Nat.le_of_ble_eq_true rfl, Nat.le_of_ble_eq_true rfl⟩ ?_
  refine y_ws (ws' := WM cI aM 0 E vs B sz cd M fr tt na2 nb2 ta2 tb2 dl2 co he mi la) rfl ?_
  refine y_goto C (tgt := 21) dX4_insertions_17 (by decide) ?_
  exact K _ _ _ _ _ dX4_insertions_21 (rfl) (by decide) (by decide)
set_option maxHeartbeats 4000000 in
set_option maxRecDepth 100000 in
theorem c_X4_insertions_bad (l : Launch) (D : va_G) (cI : ClassId) (aM : Nat → Nat) (th E : Nat) (vs : Nat → Int32) (B : Nat) (sz cd : Nat → Nat) (M : Nat) (fr tt : Nat → Nat) (na nb ta tb dl co he : Nat → Int32) (mi la : Int32) (b : Int32) (hM : M ≤ 80) (hb : b < 0 ∨ nI M ≤ b) : ctI l yX4_insertions wsX4_insertions (rmD 6 0 0) D [(cI, .int)] [.ref (aM 0), .int b] (WM cI aM th E vs B sz cd M fr tt na nb ta tb dl co he mi la) (WM cI aM 1 E vs B sz cd M fr tt na nb ta tb dl co he mi la) (nI 0) 0 0 := by
  refine ctI_of (by decide) rfl (Nat.le_of_ble_eq_true rfl) ?_
  intro p e s m args below meth c A Q C hnm K
  refine y_lv (lv' := [(0, .ref (aM 0)), (1, .int b)]) rfl ?_
  refine y_aload_n C 0 dX4_insertions_0 rfl rfl ?_
  refine y_aload_n C 0 dX4_insertions_1 rfl rfl ?_
  refine y_iload_n C 1 dX4_insertions_2 rfl rfl ?_
  refine y_callI C (wr := []) 1 (c_X4_isEdge_bad l D cI aM th E vs B sz cd M fr tt na nb ta tb dl co he mi la b hM hb) gX4_insertions_X4_isEdge rfl rfl rfl (by decide +kernel) ⟨Nat.le_of_ble_eq_true rfl, Nat.le_of_ble_eq_true rfl⟩ (q0 := 0) (ci := 4) rfl rfl rfl rfl rfl (Nat.le_of_ble_eq_true rfl) dX4_insertions_3 ⟨Nat.le_of_ble_eq_true rfl, Nat.le_of_ble_eq_true rfl⟩ ?_
  refine y_ws (ws' := WM cI aM th E vs B sz cd M fr tt na nb ta tb dl co he mi la) rfl ?_
  refine y_callI C (wr := []) 1 (c_X4_asks_bad l D cI aM th E vs B sz cd M fr tt na nb ta tb dl co he mi la) gX4_insertions_X4_asks rfl rfl rfl (by decide +kernel) ⟨Nat.le_of_ble_eq_true rfl, Nat.le_of_ble_eq_true rfl⟩ (q0 := 0) (ci := 4) rfl rfl rfl rfl rfl (Nat.le_of_ble_eq_true rfl) dX4_insertions_6 ⟨Nat.le_of_ble_eq_true rfl, Nat.le_of_ble_eq_true rfl⟩ ?_
  refine y_ws (ws' := WM cI aM 1 E vs B sz cd M fr tt na nb ta tb dl co he mi la) rfl ?_
  refine y_ifN_eq C (tgt := 20) dX4_insertions_9 (by decide) (by decide) (fun _ => ?_) (fun h => absurd h (by decide))
  refine y_iconst C (v := nI 0) dX4_insertions_20 (by decide) ?_
  exact K _ _ _ _ _ dX4_insertions_21 (rfl) (by decide) (by decide)
theorem in_X4_needed_4 : ∀ w ∈ wsX40, w ∈ wsX4_needed := fun _ h => List.mem_cons_of_mem _ (List.mem_append_right _ h)
set_option maxHeartbeats 4000000 in
set_option maxRecDepth 100000 in
theorem c_X4_needed_ok (l : Launch) (D : va_G) (cI : ClassId) (aM : Nat → Nat) (th E : Nat) (vs : Nat → Int32) (B : Nat) (sz cd : Nat → Nat) (M : Nat) (fr tt : Nat → Nat) (na nb ta tb dl co he : Nat → Int32) (mi la : Int32) (b z : Nat) (na2 nb2 ta2 tb2 dl2 : Nat → Int32) (hE : E ≤ 8) (hB : B ≤ 40) (hM : M ≤ 80) (hsz : ∀ j, sz j ≤ 12) (hcd : ∀ j, cd j < 24) (hfr : ∀ j, fr j < 40) (htt : ∀ j, tt j < 40) (hF : findR E vs B sz cd M fr tt na nb ta tb dl na2 nb2 ta2 tb2 dl2) (hb : b < B) (hz : z ≤ 1) : ctI l yX4_needed wsX4_needed (rmD 6 0 0) D [(cI, .int)] [.ref (aM 0), .int (nI b), .int (nI z)] (WM cI aM th E vs B sz cd M fr tt na nb ta tb dl co he mi la) (WM cI aM 0 E vs B sz cd M fr tt na2 nb2 ta2 tb2 dl2 co he mi la) (if z = 0 then na2 b else nb2 b) 0 0 := by
  refine ctI_of (by decide) rfl (Nat.le_of_ble_eq_true rfl) ?_
  intro p e s m args below meth c A Q C hnm K
  refine y_lv (lv' := [(0, .ref (aM 0)), (1, .int (nI b)), (2, .int (nI z))]) rfl ?_
  refine y_aload_n C 0 dX4_needed_0 rfl rfl ?_
  refine y_aload_n C 0 dX4_needed_1 rfl rfl ?_
  refine y_iload_n C 1 dX4_needed_2 rfl rfl ?_
  refine y_callI C (wr := []) 1 (c_X4_isBlock_ok l D cI aM th E vs B sz cd M fr tt na nb ta tb dl co he mi la b hB hb) gX4_needed_X4_isBlock rfl rfl rfl (by decide +kernel) ⟨Nat.le_of_ble_eq_true rfl, Nat.le_of_ble_eq_true rfl⟩ (q0 := 0) (ci := 4) rfl rfl rfl rfl rfl (Nat.le_of_ble_eq_true rfl) dX4_needed_3 ⟨Nat.le_of_ble_eq_true rfl, Nat.le_of_ble_eq_true rfl⟩ ?_
  refine y_ws (ws' := WM cI aM th E vs B sz cd M fr tt na nb ta tb dl co he mi la) rfl ?_
  refine y_callI C (wr := []) 1 (c_X4_asks_ok l D cI aM th E vs B sz cd M fr tt na nb ta tb dl co he mi la na2 nb2 ta2 tb2 dl2 hE hB hM hsz hcd hfr htt hF) gX4_needed_X4_asks rfl rfl rfl (by decide +kernel) ⟨Nat.le_of_ble_eq_true rfl, Nat.le_of_ble_eq_true rfl⟩ (q0 := 0) (ci := 4) rfl rfl rfl rfl rfl (Nat.le_of_ble_eq_true rfl) dX4_needed_6 ⟨Nat.le_of_ble_eq_true rfl, Nat.le_of_ble_eq_true rfl⟩ ?_
  refine y_ws (ws' := WM cI aM 0 E vs B sz cd M fr tt na2 nb2 ta2 tb2 dl2 co he mi la) rfl ?_
  refine y_ifN_ne C (tgt := 16) dX4_needed_9 (by decide) (by decide) (fun _ => ?_) (fun h => absurd h (by decide))
  refine y_iload_n C 2 dX4_needed_16 rfl rfl ?_
  refine y_ifN_eq C (tgt := 29) dX4_needed_17 (by decide) (by have := hz; omega) (fun h17 => ?_) (fun h17 => ?_)
  · skip
    refine y_aload_n C 0 dX4_needed_29 rfl rfl ?_
    refine y_get C in_X4_needed_4 (ci := 4) rfl 9 (by decide) (List.mem_of_getElem? (i := 2) rfl) 0 rfl rfl dX4_needed_30 ?_
    refine y_iload_n C 1 dX4_needed_33 rfl rfl ?_
    refine y_iald C (q0 := 6) (t0 := 0) rfl rfl (by decide) (by omega) dX4_needed_34 ?_
    exact K _ _ _ _ _ dX4_needed_35 (by simp [h17]) (by decide) (by decide)
  · skip
    refine y_aload_n C 0 dX4_needed_20 rfl rfl ?_
    refine y_get C in_X4_needed_4 (ci := 4) rfl 10 (by decide) (List.mem_of_getElem? (i := 1) rfl) 0 rfl rfl dX4_needed_21 ?_
    refine y_iload_n C 1 dX4_needed_24 rfl rfl ?_
    refine y_iald C (q0 := 7) (t0 := 0) rfl rfl (by decide) (by omega) dX4_needed_25 ?_
    refine y_goto C (tgt := 35) dX4_needed_26 (by decide) ?_
    exact K _ _ _ _ _ dX4_needed_35 (by simp [h17]) (by decide) (by decide)
set_option maxHeartbeats 4000000 in
set_option maxRecDepth 100000 in
theorem c_X4_needed_bad (l : Launch) (D : va_G) (cI : ClassId) (aM : Nat → Nat) (th E : Nat) (vs : Nat → Int32) (B : Nat) (sz cd : Nat → Nat) (M : Nat) (fr tt : Nat → Nat) (na nb ta tb dl co he : Nat → Int32) (mi la : Int32) (b : Int32) (z : Nat) (hB : B ≤ 40) (hb : b < 0 ∨ nI B ≤ b) : ctI l yX4_needed wsX4_needed (rmD 6 0 0) D [(cI, .int)] [.ref (aM 0), .int b, .int (nI z)] (WM cI aM th E vs B sz cd M fr tt na nb ta tb dl co he mi la) (WM cI aM 1 E vs B sz cd M fr tt na nb ta tb dl co he mi la) (nI 0) 0 0 := by
  refine ctI_of (by decide) rfl (Nat.le_of_ble_eq_true rfl) ?_
  intro p e s m args below meth c A Q C hnm K
  refine y_lv (lv' := [(0, .ref (aM 0)), (1, .int b), (2, .int (nI z))]) rfl ?_
  refine y_aload_n C 0 dX4_needed_0 rfl rfl ?_
  refine y_aload_n C 0 dX4_needed_1 rfl rfl ?_
  refine y_iload_n C 1 dX4_needed_2 rfl rfl ?_
  refine y_callI C (wr := []) 1 (c_X4_isBlock_bad l D cI aM th E vs B sz cd M fr tt na nb ta tb dl co he mi la b hB hb) gX4_needed_X4_isBlock rfl rfl rfl (by decide +kernel) ⟨Nat.le_of_ble_eq_true rfl, Nat.le_of_ble_eq_true rfl⟩ (q0 := 0) (ci := 4) rfl rfl rfl rfl rfl (Nat.le_of_ble_eq_true rfl) dX4_needed_3 ⟨Nat.le_of_ble_eq_true rfl, Nat.le_of_ble_eq_true rfl⟩ ?_
  refine y_ws (ws' := WM cI aM th E vs B sz cd M fr tt na nb ta tb dl co he mi la) rfl ?_
  refine y_callI C (wr := []) 1 (c_X4_asks_bad l D cI aM th E vs B sz cd M fr tt na nb ta tb dl co he mi la) gX4_needed_X4_asks rfl rfl rfl (by decide +kernel) ⟨Nat.le_of_ble_eq_true rfl, Nat.le_of_ble_eq_true rfl⟩ (q0 := 0) (ci := 4) rfl rfl rfl rfl rfl (Nat.le_of_ble_eq_true rfl) dX4_needed_6 ⟨Nat.le_of_ble_eq_true rfl, Nat.le_of_ble_eq_true rfl⟩ ?_
  refine y_ws (ws' := WM cI aM 1 E vs B sz cd M fr tt na nb ta tb dl co he mi la) rfl ?_
  refine y_ifN_ne C (tgt := 16) dX4_needed_9 (by decide) (by decide) (fun h => absurd h (by decide)) (fun _ => ?_)
  refine y_iconst C (v := nI 0) dX4_needed_12 (by decide) ?_
  refine y_goto C (tgt := 35) dX4_needed_13 (by decide) ?_
  exact K _ _ _ _ _ dX4_needed_35 (rfl) (by decide) (by decide)
theorem in_X4_there_4 : ∀ w ∈ wsX40, w ∈ wsX4_there := fun _ h => List.mem_cons_of_mem _ (List.mem_append_right _ h)
set_option maxHeartbeats 4000000 in
set_option maxRecDepth 100000 in
theorem c_X4_there_ok (l : Launch) (D : va_G) (cI : ClassId) (aM : Nat → Nat) (th E : Nat) (vs : Nat → Int32) (B : Nat) (sz cd : Nat → Nat) (M : Nat) (fr tt : Nat → Nat) (na nb ta tb dl co he : Nat → Int32) (mi la : Int32) (b z : Nat) (na2 nb2 ta2 tb2 dl2 : Nat → Int32) (hE : E ≤ 8) (hB : B ≤ 40) (hM : M ≤ 80) (hsz : ∀ j, sz j ≤ 12) (hcd : ∀ j, cd j < 24) (hfr : ∀ j, fr j < 40) (htt : ∀ j, tt j < 40) (hF : findR E vs B sz cd M fr tt na nb ta tb dl na2 nb2 ta2 tb2 dl2) (hb : b < B) (hz : z ≤ 1) : ctI l yX4_there wsX4_there (rmD 6 0 0) D [(cI, .int)] [.ref (aM 0), .int (nI b), .int (nI z)] (WM cI aM th E vs B sz cd M fr tt na nb ta tb dl co he mi la) (WM cI aM 0 E vs B sz cd M fr tt na2 nb2 ta2 tb2 dl2 co he mi la) (if z = 0 then ta2 b else tb2 b) 0 0 := by
  refine ctI_of (by decide) rfl (Nat.le_of_ble_eq_true rfl) ?_
  intro p e s m args below meth c A Q C hnm K
  refine y_lv (lv' := [(0, .ref (aM 0)), (1, .int (nI b)), (2, .int (nI z))]) rfl ?_
  refine y_aload_n C 0 dX4_there_0 rfl rfl ?_
  refine y_aload_n C 0 dX4_there_1 rfl rfl ?_
  refine y_iload_n C 1 dX4_there_2 rfl rfl ?_
  refine y_callI C (wr := []) 1 (c_X4_isBlock_ok l D cI aM th E vs B sz cd M fr tt na nb ta tb dl co he mi la b hB hb) gX4_there_X4_isBlock rfl rfl rfl (by decide +kernel) ⟨Nat.le_of_ble_eq_true rfl, Nat.le_of_ble_eq_true rfl⟩ (q0 := 0) (ci := 4) rfl rfl rfl rfl rfl (Nat.le_of_ble_eq_true rfl) dX4_there_3 ⟨Nat.le_of_ble_eq_true rfl, Nat.le_of_ble_eq_true rfl⟩ ?_
  refine y_ws (ws' := WM cI aM th E vs B sz cd M fr tt na nb ta tb dl co he mi la) rfl ?_
  refine y_callI C (wr := []) 1 (c_X4_asks_ok l D cI aM th E vs B sz cd M fr tt na nb ta tb dl co he mi la na2 nb2 ta2 tb2 dl2 hE hB hM hsz hcd hfr htt hF) gX4_there_X4_asks rfl rfl rfl (by decide +kernel) ⟨Nat.le_of_ble_eq_true rfl, Nat.le_of_ble_eq_true rfl⟩ (q0 := 0) (ci := 4) rfl rfl rfl rfl rfl (Nat.le_of_ble_eq_true rfl) dX4_there_6 ⟨Nat.le_of_ble_eq_true rfl, Nat.le_of_ble_eq_true rfl⟩ ?_
  refine y_ws (ws' := WM cI aM 0 E vs B sz cd M fr tt na2 nb2 ta2 tb2 dl2 co he mi la) rfl ?_
  refine y_ifN_ne C (tgt := 16) dX4_there_9 (by decide) (by decide) (fun _ => ?_) (fun h => absurd h (by decide))
  refine y_iload_n C 2 dX4_there_16 rfl rfl ?_
  refine y_ifN_eq C (tgt := 29) dX4_there_17 (by decide) (by have := hz; omega) (fun h17 => ?_) (fun h17 => ?_)
  · skip
    refine y_aload_n C 0 dX4_there_29 rfl rfl ?_
    refine y_get C in_X4_there_4 (ci := 4) rfl 11 (by decide) (List.mem_of_getElem? (i := 2) rfl) 0 rfl rfl dX4_there_30 ?_
    refine y_iload_n C 1 dX4_there_33 rfl rfl ?_
    refine y_iald C (q0 := 8) (t0 := 0) rfl rfl (by decide) (by omega) dX4_there_34 ?_
    exact K _ _ _ _ _ dX4_there_35 (by simp [h17]) (by decide) (by decide)
  · skip
    refine y_aload_n C 0 dX4_there_20 rfl rfl ?_
    refine y_get C in_X4_there_4 (ci := 4) rfl 12 (by decide) (List.mem_of_getElem? (i := 1) rfl) 0 rfl rfl dX4_there_21 ?_
    refine y_iload_n C 1 dX4_there_24 rfl rfl ?_
    refine y_iald C (q0 := 9) (t0 := 0) rfl rfl (by decide) (by omega) dX4_there_25 ?_
    refine y_goto C (tgt := 35) dX4_there_26 (by decide) ?_
    exact K _ _ _ _ _ dX4_there_35 (by simp [h17]) (by decide) (by decide)
set_option maxHeartbeats 4000000 in
set_option maxRecDepth 100000 in
theorem c_X4_there_bad (l : Launch) (D : va_G) (cI : ClassId) (aM : Nat → Nat) (th E : Nat) (vs : Nat → Int32) (B : Nat) (sz cd : Nat → Nat) (M : Nat) (fr tt : Nat → Nat) (na nb ta tb dl co he : Nat → Int32) (mi la : Int32) (b : Int32) (z : Nat) (hB : B ≤ 40) (hb : b < 0 ∨ nI B ≤ b) : ctI l yX4_there wsX4_there (rmD 6 0 0) D [(cI, .int)] [.ref (aM 0), .int b, .int (nI z)] (WM cI aM th E vs B sz cd M fr tt na nb ta tb dl co he mi la) (WM cI aM 1 E vs B sz cd M fr tt na nb ta tb dl co he mi la) (nI 0) 0 0 := by
  refine ctI_of (by decide) rfl (Nat.le_of_ble_eq_true rfl) ?_
  intro p e s m args below meth c A Q C hnm K
  refine y_lv (lv' := [(0, .ref (aM 0)), (1, .int b), (2, .int (nI z))]) rfl ?_
  refine y_aload_n C 0 dX4_there_0 rfl rfl ?_
  refine y_aload_n C 0 dX4_there_1 rfl rfl ?_
  refine y_iload_n C 1 dX4_there_2 rfl rfl ?_
  refine y_callI C (wr := []) 1 (c_X4_isBlock_bad l D cI aM th E vs B sz cd M fr tt na nb ta tb dl co he mi la b hB hb) gX4_there_X4_isBlock rfl rfl rfl (by decide +kernel) ⟨Nat.le_of_ble_eq_true rfl, Nat.le_of_ble_eq_true rfl⟩ (q0 := 0) (ci := 4) rfl rfl rfl rfl rfl (Nat.le_of_ble_eq_true rfl) dX4_there_3 ⟨Nat.le_of_ble_eq_true rfl, Nat.le_of_ble_eq_true rfl⟩ ?_
  refine y_ws (ws' := WM cI aM th E vs B sz cd M fr tt na nb ta tb dl co he mi la) rfl ?_
  refine y_callI C (wr := []) 1 (c_X4_asks_bad l D cI aM th E vs B sz cd M fr tt na nb ta tb dl co he mi la) gX4_there_X4_asks rfl rfl rfl (by decide +kernel) ⟨Nat.le_of_ble_eq_true rfl, Nat.le_of_ble_eq_true rfl⟩ (q0 := 0) (ci := 4) rfl rfl rfl rfl rfl (Nat.le_of_ble_eq_true rfl) dX4_there_6 ⟨Nat.le_of_ble_eq_true rfl, Nat.le_of_ble_eq_true rfl⟩ ?_
  refine y_ws (ws' := WM cI aM 1 E vs B sz cd M fr tt na nb ta tb dl co he mi la) rfl ?_
  refine y_ifN_ne C (tgt := 16) dX4_there_9 (by decide) (by decide) (fun h => absurd h (by decide)) (fun _ => ?_)
  refine y_iconst C (v := nI 0) dX4_there_12 (by decide) ?_
  refine y_goto C (tgt := 35) dX4_there_13 (by decide) ?_
  exact K _ _ _ _ _ dX4_there_35 (rfl) (by decide) (by decide)
theorem in_X4_blockCount_4 : ∀ w ∈ wsX40, w ∈ wsX4_blockCount := fun _ h => List.mem_cons_of_mem _ (List.mem_append_right _ h)
set_option maxHeartbeats 4000000 in
set_option maxRecDepth 100000 in
theorem c_X4_blockCount (l : Launch) (D : va_G) (cI : ClassId) (aM : Nat → Nat) (th E : Nat) (vs : Nat → Int32) (B : Nat) (sz cd : Nat → Nat) (M : Nat) (fr tt : Nat → Nat) (na nb ta tb dl co he : Nat → Int32) (mi la : Int32)  : ctI l yX4_blockCount wsX4_blockCount (rmD 0 0 0) D [(cI, .int)] [.ref (aM 0)] (WM cI aM th E vs B sz cd M fr tt na nb ta tb dl co he mi la) (WM cI aM 0 E vs B sz cd M fr tt na nb ta tb dl co he mi la) (nI B) 0 0 := by
  refine ctI_of (by decide) rfl (Nat.le_of_ble_eq_true rfl) ?_
  intro p e s m args below meth c A Q C hnm K
  refine y_lv (lv' := [(0, .ref (aM 0))]) rfl ?_
  refine y_aload_n C 0 dX4_blockCount_0 rfl rfl ?_
  refine y_iconst C (v := nI 0) dX4_blockCount_1 (by decide) ?_
  refine y_put C in_X4_blockCount_4 tyX4 tyX4_ok nmX4 (ci := 4) rfl 0 (by decide) rfl (List.mem_of_getElem? (i := 1) rfl) 0 rfl rfl rfl (Nat.le_of_ble_eq_true rfl) (ws' := WM cI aM 0 E vs B sz cd M fr tt na nb ta tb dl co he mi la) rfl dX4_blockCount_2 ?_
  refine y_aload_n C 0 dX4_blockCount_5 rfl rfl ?_
  refine y_get C in_X4_blockCount_4 (ci := 4) rfl 3 (by decide) (List.mem_of_getElem? (i := 2) rfl) 0 rfl rfl dX4_blockCount_6 ?_
  exact K _ _ _ _ _ dX4_blockCount_9 (rfl) (by decide) (by decide)
theorem in_X4_edgeCount_4 : ∀ w ∈ wsX40, w ∈ wsX4_edgeCount := fun _ h => List.mem_cons_of_mem _ (List.mem_append_right _ h)
set_option maxHeartbeats 4000000 in
set_option maxRecDepth 100000 in
theorem c_X4_edgeCount (l : Launch) (D : va_G) (cI : ClassId) (aM : Nat → Nat) (th E : Nat) (vs : Nat → Int32) (B : Nat) (sz cd : Nat → Nat) (M : Nat) (fr tt : Nat → Nat) (na nb ta tb dl co he : Nat → Int32) (mi la : Int32)  : ctI l yX4_edgeCount wsX4_edgeCount (rmD 0 0 0) D [(cI, .int)] [.ref (aM 0)] (WM cI aM th E vs B sz cd M fr tt na nb ta tb dl co he mi la) (WM cI aM 0 E vs B sz cd M fr tt na nb ta tb dl co he mi la) (nI M) 0 0 := by
  refine ctI_of (by decide) rfl (Nat.le_of_ble_eq_true rfl) ?_
  intro p e s m args below meth c A Q C hnm K
  refine y_lv (lv' := [(0, .ref (aM 0))]) rfl ?_
  refine y_aload_n C 0 dX4_edgeCount_0 rfl rfl ?_
  refine y_iconst C (v := nI 0) dX4_edgeCount_1 (by decide) ?_
  refine y_put C in_X4_edgeCount_4 tyX4 tyX4_ok nmX4 (ci := 4) rfl 0 (by decide) rfl (List.mem_of_getElem? (i := 1) rfl) 0 rfl rfl rfl (Nat.le_of_ble_eq_true rfl) (ws' := WM cI aM 0 E vs B sz cd M fr tt na nb ta tb dl co he mi la) rfl dX4_edgeCount_2 ?_
  refine y_aload_n C 0 dX4_edgeCount_5 rfl rfl ?_
  refine y_get C in_X4_edgeCount_4 (ci := 4) rfl 6 (by decide) (List.mem_of_getElem? (i := 2) rfl) 0 rfl rfl dX4_edgeCount_6 ?_
  exact K _ _ _ _ _ dX4_edgeCount_9 (rfl) (by decide) (by decide)
theorem in_X4_misses_4 : ∀ w ∈ wsX40, w ∈ wsX4_misses := fun _ h => List.mem_cons_of_mem _ (List.mem_append_right _ h)
set_option maxHeartbeats 4000000 in
set_option maxRecDepth 100000 in
theorem c_X4_misses (l : Launch) (D : va_G) (cI : ClassId) (aM : Nat → Nat) (th E : Nat) (vs : Nat → Int32) (B : Nat) (sz cd : Nat → Nat) (M : Nat) (fr tt : Nat → Nat) (na nb ta tb dl co he : Nat → Int32) (mi la : Int32)  : ctI l yX4_misses wsX4_misses (rmD 0 0 0) D [(cI, .int)] [.ref (aM 0)] (WM cI aM th E vs B sz cd M fr tt na nb ta tb dl co he mi la) (WM cI aM 0 E vs B sz cd M fr tt na nb ta tb dl co he mi la) mi 0 0 := by
  refine ctI_of (by decide) rfl (Nat.le_of_ble_eq_true rfl) ?_
  intro p e s m args below meth c A Q C hnm K
  refine y_lv (lv' := [(0, .ref (aM 0))]) rfl ?_
  refine y_aload_n C 0 dX4_misses_0 rfl rfl ?_
  refine y_iconst C (v := nI 0) dX4_misses_1 (by decide) ?_
  refine y_put C in_X4_misses_4 tyX4 tyX4_ok nmX4 (ci := 4) rfl 0 (by decide) rfl (List.mem_of_getElem? (i := 1) rfl) 0 rfl rfl rfl (Nat.le_of_ble_eq_true rfl) (ws' := WM cI aM 0 E vs B sz cd M fr tt na nb ta tb dl co he mi la) rfl dX4_misses_2 ?_
  refine y_aload_n C 0 dX4_misses_5 rfl rfl ?_
  refine y_get C in_X4_misses_4 (ci := 4) rfl 16 (by decide) (List.mem_of_getElem? (i := 2) rfl) 0 rfl rfl dX4_misses_6 ?_
  exact K _ _ _ _ _ dX4_misses_9 (rfl) (by decide) (by decide)
theorem in_X4_lastBlock_4 : ∀ w ∈ wsX40, w ∈ wsX4_lastBlock := fun _ h => List.mem_cons_of_mem _ (List.mem_append_right _ h)
set_option maxHeartbeats 4000000 in
set_option maxRecDepth 100000 in
theorem c_X4_lastBlock (l : Launch) (D : va_G) (cI : ClassId) (aM : Nat → Nat) (th E : Nat) (vs : Nat → Int32) (B : Nat) (sz cd : Nat → Nat) (M : Nat) (fr tt : Nat → Nat) (na nb ta tb dl co he : Nat → Int32) (mi la : Int32)  : ctI l yX4_lastBlock wsX4_lastBlock (rmD 0 0 0) D [(cI, .int)] [.ref (aM 0)] (WM cI aM th E vs B sz cd M fr tt na nb ta tb dl co he mi la) (WM cI aM 0 E vs B sz cd M fr tt na nb ta tb dl co he mi la) la 0 0 := by
  refine ctI_of (by decide) rfl (Nat.le_of_ble_eq_true rfl) ?_
  intro p e s m args below meth c A Q C hnm K
  refine y_lv (lv' := [(0, .ref (aM 0))]) rfl ?_
  refine y_aload_n C 0 dX4_lastBlock_0 rfl rfl ?_
  refine y_iconst C (v := nI 0) dX4_lastBlock_1 (by decide) ?_
  refine y_put C in_X4_lastBlock_4 tyX4 tyX4_ok nmX4 (ci := 4) rfl 0 (by decide) rfl (List.mem_of_getElem? (i := 1) rfl) 0 rfl rfl rfl (Nat.le_of_ble_eq_true rfl) (ws' := WM cI aM 0 E vs B sz cd M fr tt na nb ta tb dl co he mi la) rfl dX4_lastBlock_2 ?_
  refine y_aload_n C 0 dX4_lastBlock_5 rfl rfl ?_
  refine y_get C in_X4_lastBlock_4 (ci := 4) rfl 17 (by decide) (List.mem_of_getElem? (i := 2) rfl) 0 rfl rfl dX4_lastBlock_6 ?_
  exact K _ _ _ _ _ dX4_lastBlock_9 (rfl) (by decide) (by decide)
theorem in_X4_computed_4 : ∀ w ∈ wsX40, w ∈ wsX4_computed := fun _ h => List.mem_cons_of_mem _ (List.mem_append_right _ h)
set_option maxHeartbeats 4000000 in
set_option maxRecDepth 100000 in
theorem c_X4_computed_ok (l : Launch) (D : va_G) (cI : ClassId) (aM : Nat → Nat) (th E : Nat) (vs : Nat → Int32) (B : Nat) (sz cd : Nat → Nat) (M : Nat) (fr tt : Nat → Nat) (na nb ta tb dl co he : Nat → Int32) (mi la : Int32) (b : Nat) (hE : E ≤ 8) (hb : b < E) : ctI l yX4_computed wsX4_computed (rmD 1 0 0) D [(cI, .int)] [.ref (aM 0), .int (nI b)] (WM cI aM th E vs B sz cd M fr tt na nb ta tb dl co he mi la) (WM cI aM 0 E vs B sz cd M fr tt na nb ta tb dl co he mi la) (co b) 0 0 := by
  refine ctI_of (by decide) rfl (Nat.le_of_ble_eq_true rfl) ?_
  intro p e s m args below meth c A Q C hnm K
  refine y_lv (lv' := [(0, .ref (aM 0)), (1, .int (nI b))]) rfl ?_
  refine y_aload_n C 0 dX4_computed_0 rfl rfl ?_
  refine y_iconst C (v := nI 0) dX4_computed_1 (by decide) ?_
  refine y_put C in_X4_computed_4 tyX4 tyX4_ok nmX4 (ci := 4) rfl 0 (by decide) rfl (List.mem_of_getElem? (i := 1) rfl) 0 rfl rfl rfl (Nat.le_of_ble_eq_true rfl) (ws' := WM cI aM 0 E vs B sz cd M fr tt na nb ta tb dl co he mi la) rfl dX4_computed_2 ?_
  refine y_aload_n C 0 dX4_computed_5 rfl rfl ?_
  refine y_iload_n C 1 dX4_computed_6 rfl rfl ?_
  refine y_callI C (wr := []) 1 (c_X4_isExpression_ok l D cI aM 0 E vs B sz cd M fr tt na nb ta tb dl co he mi la b hE hb) gX4_computed_X4_isExpression rfl rfl rfl (by decide +kernel) ⟨Nat.le_of_ble_eq_true rfl, Nat.le_of_ble_eq_true rfl⟩ (q0 := 0) (ci := 4) rfl rfl rfl rfl rfl (Nat.le_of_ble_eq_true rfl) dX4_computed_7 ⟨Nat.le_of_ble_eq_true rfl, Nat.le_of_ble_eq_true rfl⟩ ?_
  refine y_ws (ws' := WM cI aM 0 E vs B sz cd M fr tt na nb ta tb dl co he mi la) rfl ?_
  refine y_ifN_eq C (tgt := 22) dX4_computed_10 (by decide) (by decide) (fun h => absurd h (by decide)) (fun _ => ?_)
  refine y_aload_n C 0 dX4_computed_13 rfl rfl ?_
  refine y_get C in_X4_computed_4 (ci := 4) rfl 14 (by decide) (List.mem_of_getElem? (i := 2) rfl) 0 rfl rfl dX4_computed_14 ?_
  refine y_iload_n C 1 dX4_computed_17 rfl rfl ?_
  refine y_iald C (q0 := 11) (t0 := 0) rfl rfl (by decide) (by omega) dX4_computed_18 ?_
  refine y_goto C (tgt := 27) dX4_computed_19 (by decide) ?_
  exact K _ _ _ _ _ dX4_computed_27 (rfl) (by decide) (by decide)
set_option maxHeartbeats 4000000 in
set_option maxRecDepth 100000 in
theorem c_X4_computed_bad (l : Launch) (D : va_G) (cI : ClassId) (aM : Nat → Nat) (th E : Nat) (vs : Nat → Int32) (B : Nat) (sz cd : Nat → Nat) (M : Nat) (fr tt : Nat → Nat) (na nb ta tb dl co he : Nat → Int32) (mi la : Int32) (b : Int32) (hE : E ≤ 8) (hb : b < 0 ∨ nI E ≤ b) : ctI l yX4_computed wsX4_computed (rmD 1 0 0) D [(cI, .int)] [.ref (aM 0), .int b] (WM cI aM th E vs B sz cd M fr tt na nb ta tb dl co he mi la) (WM cI aM 1 E vs B sz cd M fr tt na nb ta tb dl co he mi la) (nI 0) 0 0 := by
  refine ctI_of (by decide) rfl (Nat.le_of_ble_eq_true rfl) ?_
  intro p e s m args below meth c A Q C hnm K
  refine y_lv (lv' := [(0, .ref (aM 0)), (1, .int b)]) rfl ?_
  refine y_aload_n C 0 dX4_computed_0 rfl rfl ?_
  refine y_iconst C (v := nI 0) dX4_computed_1 (by decide) ?_
  refine y_put C in_X4_computed_4 tyX4 tyX4_ok nmX4 (ci := 4) rfl 0 (by decide) rfl (List.mem_of_getElem? (i := 1) rfl) 0 rfl rfl rfl (Nat.le_of_ble_eq_true rfl) (ws' := WM cI aM 0 E vs B sz cd M fr tt na nb ta tb dl co he mi la) rfl dX4_computed_2 ?_
  refine y_aload_n C 0 dX4_computed_5 rfl rfl ?_
  refine y_iload_n C 1 dX4_computed_6 rfl rfl ?_
  refine y_callI C (wr := []) 1 (c_X4_isExpression_bad l D cI aM 0 E vs B sz cd M fr tt na nb ta tb dl co he mi la b hE hb) gX4_computed_X4_isExpression rfl rfl rfl (by decide +kernel) ⟨Nat.le_of_ble_eq_true rfl, Nat.le_of_ble_eq_true rfl⟩ (q0 := 0) (ci := 4) rfl rfl rfl rfl rfl (Nat.le_of_ble_eq_true rfl) dX4_computed_7 ⟨Nat.le_of_ble_eq_true rfl, Nat.le_of_ble_eq_true rfl⟩ ?_
  refine y_ws (ws' := WM cI aM 0 E vs B sz cd M fr tt na nb ta tb dl co he mi la) rfl ?_
  refine y_ifN_eq C (tgt := 22) dX4_computed_10 (by decide) (by decide) (fun _ => ?_) (fun h => absurd h (by decide))
  refine y_aload_n C 0 dX4_computed_22 rfl rfl ?_
  refine y_iconst C (v := nI 1) dX4_computed_23 (by decide) ?_
  refine y_callI C (wr := []) 1 (c_X4_no l D cI aM 0 E vs B sz cd M fr tt na nb ta tb dl co he mi la 1) gX4_computed_X4_no rfl rfl rfl (by decide +kernel) ⟨Nat.le_of_ble_eq_true rfl, Nat.le_of_ble_eq_true rfl⟩ (q0 := 0) (ci := 4) rfl rfl rfl rfl rfl (Nat.le_of_ble_eq_true rfl) dX4_computed_24 ⟨Nat.le_of_ble_eq_true rfl, Nat.le_of_ble_eq_true rfl⟩ ?_
  refine y_ws (ws' := WM cI aM 1 E vs B sz cd M fr tt na nb ta tb dl co he mi la) rfl ?_
  exact K _ _ _ _ _ dX4_computed_27 (rfl) (by decide) (by decide)
theorem in_X4_heldFor_4 : ∀ w ∈ wsX40, w ∈ wsX4_heldFor := fun _ h => List.mem_cons_of_mem _ (List.mem_append_right _ h)
set_option maxHeartbeats 4000000 in
set_option maxRecDepth 100000 in
theorem c_X4_heldFor_ok (l : Launch) (D : va_G) (cI : ClassId) (aM : Nat → Nat) (th E : Nat) (vs : Nat → Int32) (B : Nat) (sz cd : Nat → Nat) (M : Nat) (fr tt : Nat → Nat) (na nb ta tb dl co he : Nat → Int32) (mi la : Int32) (b : Nat) (hE : E ≤ 8) (hb : b < E) : ctI l yX4_heldFor wsX4_heldFor (rmD 1 0 0) D [(cI, .int)] [.ref (aM 0), .int (nI b)] (WM cI aM th E vs B sz cd M fr tt na nb ta tb dl co he mi la) (WM cI aM 0 E vs B sz cd M fr tt na nb ta tb dl co he mi la) (he b) 0 0 := by
  refine ctI_of (by decide) rfl (Nat.le_of_ble_eq_true rfl) ?_
  intro p e s m args below meth c A Q C hnm K
  refine y_lv (lv' := [(0, .ref (aM 0)), (1, .int (nI b))]) rfl ?_
  refine y_aload_n C 0 dX4_heldFor_0 rfl rfl ?_
  refine y_iconst C (v := nI 0) dX4_heldFor_1 (by decide) ?_
  refine y_put C in_X4_heldFor_4 tyX4 tyX4_ok nmX4 (ci := 4) rfl 0 (by decide) rfl (List.mem_of_getElem? (i := 1) rfl) 0 rfl rfl rfl (Nat.le_of_ble_eq_true rfl) (ws' := WM cI aM 0 E vs B sz cd M fr tt na nb ta tb dl co he mi la) rfl dX4_heldFor_2 ?_
  refine y_aload_n C 0 dX4_heldFor_5 rfl rfl ?_
  refine y_iload_n C 1 dX4_heldFor_6 rfl rfl ?_
  refine y_callI C (wr := []) 1 (c_X4_isExpression_ok l D cI aM 0 E vs B sz cd M fr tt na nb ta tb dl co he mi la b hE hb) gX4_heldFor_X4_isExpression rfl rfl rfl (by decide +kernel) ⟨Nat.le_of_ble_eq_true rfl, Nat.le_of_ble_eq_true rfl⟩ (q0 := 0) (ci := 4) rfl rfl rfl rfl rfl (Nat.le_of_ble_eq_true rfl) dX4_heldFor_7 ⟨Nat.le_of_ble_eq_true rfl, Nat.le_of_ble_eq_true rfl⟩ ?_
  refine y_ws (ws' := WM cI aM 0 E vs B sz cd M fr tt na nb ta tb dl co he mi la) rfl ?_
  refine y_ifN_eq C (tgt := 22) dX4_heldFor_10 (by decide) (by decide) (fun h => absurd h (by decide)) (fun _ => ?_)
  refine y_aload_n C 0 dX4_heldFor_13 rfl rfl ?_
  refine y_get C in_X4_heldFor_4 (ci := 4) rfl 15 (by decide) (List.mem_of_getElem? (i := 2) rfl) 0 rfl rfl dX4_heldFor_14 ?_
  refine y_iload_n C 1 dX4_heldFor_17 rfl rfl ?_
  refine y_iald C (q0 := 12) (t0 := 0) rfl rfl (by decide) (by omega) dX4_heldFor_18 ?_
  refine y_goto C (tgt := 27) dX4_heldFor_19 (by decide) ?_
  exact K _ _ _ _ _ dX4_heldFor_27 (rfl) (by decide) (by decide)
set_option maxHeartbeats 4000000 in
set_option maxRecDepth 100000 in
theorem c_X4_heldFor_bad (l : Launch) (D : va_G) (cI : ClassId) (aM : Nat → Nat) (th E : Nat) (vs : Nat → Int32) (B : Nat) (sz cd : Nat → Nat) (M : Nat) (fr tt : Nat → Nat) (na nb ta tb dl co he : Nat → Int32) (mi la : Int32) (b : Int32) (hE : E ≤ 8) (hb : b < 0 ∨ nI E ≤ b) : ctI l yX4_heldFor wsX4_heldFor (rmD 1 0 0) D [(cI, .int)] [.ref (aM 0), .int b] (WM cI aM th E vs B sz cd M fr tt na nb ta tb dl co he mi la) (WM cI aM 1 E vs B sz cd M fr tt na nb ta tb dl co he mi la) (nI 0) 0 0 := by
  refine ctI_of (by decide) rfl (Nat.le_of_ble_eq_true rfl) ?_
  intro p e s m args below meth c A Q C hnm K
  refine y_lv (lv' := [(0, .ref (aM 0)), (1, .int b)]) rfl ?_
  refine y_aload_n C 0 dX4_heldFor_0 rfl rfl ?_
  refine y_iconst C (v := nI 0) dX4_heldFor_1 (by decide) ?_
  refine y_put C in_X4_heldFor_4 tyX4 tyX4_ok nmX4 (ci := 4) rfl 0 (by decide) rfl (List.mem_of_getElem? (i := 1) rfl) 0 rfl rfl rfl (Nat.le_of_ble_eq_true rfl) (ws' := WM cI aM 0 E vs B sz cd M fr tt na nb ta tb dl co he mi la) rfl dX4_heldFor_2 ?_
  refine y_aload_n C 0 dX4_heldFor_5 rfl rfl ?_
  refine y_iload_n C 1 dX4_heldFor_6 rfl rfl ?_
  refine y_callI C (wr := []) 1 (c_X4_isExpression_bad l D cI aM 0 E vs B sz cd M fr tt na nb ta tb dl co he mi la b hE hb) gX4_heldFor_X4_isExpression rfl rfl rfl (by decide +kernel) ⟨Nat.le_of_ble_eq_true rfl, Nat.le_of_ble_eq_true rfl⟩ (q0 := 0) (ci := 4) rfl rfl rfl rfl rfl (Nat.le_of_ble_eq_true rfl) dX4_heldFor_7 ⟨Nat.le_of_ble_eq_true rfl, Nat.le_of_ble_eq_true rfl⟩ ?_
  refine y_ws (ws' := WM cI aM 0 E vs B sz cd M fr tt na nb ta tb dl co he mi la) rfl ?_
  refine y_ifN_eq C (tgt := 22) dX4_heldFor_10 (by decide) (by decide) (fun _ => ?_) (fun h => absurd h (by decide))
  refine y_aload_n C 0 dX4_heldFor_22 rfl rfl ?_
  refine y_iconst C (v := nI 1) dX4_heldFor_23 (by decide) ?_
  refine y_callI C (wr := []) 1 (c_X4_no l D cI aM 0 E vs B sz cd M fr tt na nb ta tb dl co he mi la 1) gX4_heldFor_X4_no rfl rfl rfl (by decide +kernel) ⟨Nat.le_of_ble_eq_true rfl, Nat.le_of_ble_eq_true rfl⟩ (q0 := 0) (ci := 4) rfl rfl rfl rfl rfl (Nat.le_of_ble_eq_true rfl) dX4_heldFor_24 ⟨Nat.le_of_ble_eq_true rfl, Nat.le_of_ble_eq_true rfl⟩ ?_
  refine y_ws (ws' := WM cI aM 1 E vs B sz cd M fr tt na nb ta tb dl co he mi la) rfl ?_
  exact K _ _ _ _ _ dX4_heldFor_27 (rfl) (by decide) (by decide)
theorem in_X4_size_4 : ∀ w ∈ wsX40, w ∈ wsX4_size := fun _ h => List.mem_cons_of_mem _ (List.mem_append_right _ h)
set_option maxHeartbeats 4000000 in
set_option maxRecDepth 100000 in
theorem c_X4_size_ok (l : Launch) (D : va_G) (cI : ClassId) (aM : Nat → Nat) (th E : Nat) (vs : Nat → Int32) (B : Nat) (sz cd : Nat → Nat) (M : Nat) (fr tt : Nat → Nat) (na nb ta tb dl co he : Nat → Int32) (mi la : Int32) (b : Nat) (hB : B ≤ 40) (hsz : ∀ j, sz j ≤ 12) (hb : b < B) : ctI l yX4_size wsX4_size (rmD 1 0 0) D [(cI, .int)] [.ref (aM 0), .int (nI b)] (WM cI aM th E vs B sz cd M fr tt na nb ta tb dl co he mi la) (WM cI aM 0 E vs B sz cd M fr tt na nb ta tb dl co he mi la) (nI (sz b)) 0 0 := by
  refine ctI_of (by decide) rfl (Nat.le_of_ble_eq_true rfl) ?_
  intro p e s m args below meth c A Q C hnm K
  refine y_lv (lv' := [(0, .ref (aM 0)), (1, .int (nI b))]) rfl ?_
  refine y_aload_n C 0 dX4_size_0 rfl rfl ?_
  refine y_iconst C (v := nI 0) dX4_size_1 (by decide) ?_
  refine y_put C in_X4_size_4 tyX4 tyX4_ok nmX4 (ci := 4) rfl 0 (by decide) rfl (List.mem_of_getElem? (i := 1) rfl) 0 rfl rfl rfl (Nat.le_of_ble_eq_true rfl) (ws' := WM cI aM 0 E vs B sz cd M fr tt na nb ta tb dl co he mi la) rfl dX4_size_2 ?_
  refine y_aload_n C 0 dX4_size_5 rfl rfl ?_
  refine y_iload_n C 1 dX4_size_6 rfl rfl ?_
  refine y_callI C (wr := []) 1 (c_X4_isBlock_ok l D cI aM 0 E vs B sz cd M fr tt na nb ta tb dl co he mi la b hB hb) gX4_size_X4_isBlock rfl rfl rfl (by decide +kernel) ⟨Nat.le_of_ble_eq_true rfl, Nat.le_of_ble_eq_true rfl⟩ (q0 := 0) (ci := 4) rfl rfl rfl rfl rfl (Nat.le_of_ble_eq_true rfl) dX4_size_7 ⟨Nat.le_of_ble_eq_true rfl, Nat.le_of_ble_eq_true rfl⟩ ?_
  refine y_ws (ws' := WM cI aM 0 E vs B sz cd M fr tt na nb ta tb dl co he mi la) rfl ?_
  refine y_ifN_eq C (tgt := 22) dX4_size_10 (by decide) (by decide) (fun h => absurd h (by decide)) (fun _ => ?_)
  refine y_aload_n C 0 dX4_size_13 rfl rfl ?_
  refine y_get C in_X4_size_4 (ci := 4) rfl 4 (by decide) (List.mem_of_getElem? (i := 2) rfl) 0 rfl rfl dX4_size_14 ?_
  refine y_iload_n C 1 dX4_size_17 rfl rfl ?_
  refine y_ialdA C (q0 := 2) (t0 := 0) rfl rfl (by decide) (by omega) dX4_size_18 ?_
  refine y_goto C (tgt := 27) dX4_size_19 (by decide) ?_
  exact K _ _ _ _ _ dX4_size_27 (rfl) (by decide) (by decide)
set_option maxHeartbeats 4000000 in
set_option maxRecDepth 100000 in
theorem c_X4_size_bad (l : Launch) (D : va_G) (cI : ClassId) (aM : Nat → Nat) (th E : Nat) (vs : Nat → Int32) (B : Nat) (sz cd : Nat → Nat) (M : Nat) (fr tt : Nat → Nat) (na nb ta tb dl co he : Nat → Int32) (mi la : Int32) (b : Int32) (hB : B ≤ 40) (hb : b < 0 ∨ nI B ≤ b) : ctI l yX4_size wsX4_size (rmD 1 0 0) D [(cI, .int)] [.ref (aM 0), .int b] (WM cI aM th E vs B sz cd M fr tt na nb ta tb dl co he mi la) (WM cI aM 1 E vs B sz cd M fr tt na nb ta tb dl co he mi la) (nI 0) 0 0 := by
  refine ctI_of (by decide) rfl (Nat.le_of_ble_eq_true rfl) ?_
  intro p e s m args below meth c A Q C hnm K
  refine y_lv (lv' := [(0, .ref (aM 0)), (1, .int b)]) rfl ?_
  refine y_aload_n C 0 dX4_size_0 rfl rfl ?_
  refine y_iconst C (v := nI 0) dX4_size_1 (by decide) ?_
  refine y_put C in_X4_size_4 tyX4 tyX4_ok nmX4 (ci := 4) rfl 0 (by decide) rfl (List.mem_of_getElem? (i := 1) rfl) 0 rfl rfl rfl (Nat.le_of_ble_eq_true rfl) (ws' := WM cI aM 0 E vs B sz cd M fr tt na nb ta tb dl co he mi la) rfl dX4_size_2 ?_
  refine y_aload_n C 0 dX4_size_5 rfl rfl ?_
  refine y_iload_n C 1 dX4_size_6 rfl rfl ?_
  refine y_callI C (wr := []) 1 (c_X4_isBlock_bad l D cI aM 0 E vs B sz cd M fr tt na nb ta tb dl co he mi la b hB hb) gX4_size_X4_isBlock rfl rfl rfl (by decide +kernel) ⟨Nat.le_of_ble_eq_true rfl, Nat.le_of_ble_eq_true rfl⟩ (q0 := 0) (ci := 4) rfl rfl rfl rfl rfl (Nat.le_of_ble_eq_true rfl) dX4_size_7 ⟨Nat.le_of_ble_eq_true rfl, Nat.le_of_ble_eq_true rfl⟩ ?_
  refine y_ws (ws' := WM cI aM 0 E vs B sz cd M fr tt na nb ta tb dl co he mi la) rfl ?_
  refine y_ifN_eq C (tgt := 22) dX4_size_10 (by decide) (by decide) (fun _ => ?_) (fun h => absurd h (by decide))
  refine y_aload_n C 0 dX4_size_22 rfl rfl ?_
  refine y_iconst C (v := nI 1) dX4_size_23 (by decide) ?_
  refine y_callI C (wr := []) 1 (c_X4_no l D cI aM 0 E vs B sz cd M fr tt na nb ta tb dl co he mi la 1) gX4_size_X4_no rfl rfl rfl (by decide +kernel) ⟨Nat.le_of_ble_eq_true rfl, Nat.le_of_ble_eq_true rfl⟩ (q0 := 0) (ci := 4) rfl rfl rfl rfl rfl (Nat.le_of_ble_eq_true rfl) dX4_size_24 ⟨Nat.le_of_ble_eq_true rfl, Nat.le_of_ble_eq_true rfl⟩ ?_
  refine y_ws (ws' := WM cI aM 1 E vs B sz cd M fr tt na nb ta tb dl co he mi la) rfl ?_
  exact K _ _ _ _ _ dX4_size_27 (rfl) (by decide) (by decide)
theorem in_X4_instruction_4 : ∀ w ∈ wsX40, w ∈ wsX4_instruction := fun _ h => List.mem_cons_of_mem _ (List.mem_append_right _ h)
set_option maxHeartbeats 4000000 in
set_option maxRecDepth 100000 in
theorem c_X4_instruction_ok (l : Launch) (D : va_G) (cI : ClassId) (aM : Nat → Nat) (th E : Nat) (vs : Nat → Int32) (B : Nat) (sz cd : Nat → Nat) (M : Nat) (fr tt : Nat → Nat) (na nb ta tb dl co he : Nat → Int32) (mi la : Int32) (b k : Nat) (hB : B ≤ 40) (hsz : ∀ j, sz j ≤ 12) (hcd : ∀ j, cd j < 24) (hb : b < B) (hk : k < sz b) : ctI l yX4_instruction wsX4_instruction (rmD 1 0 0) D [(cI, .int)] [.ref (aM 0), .int (nI b), .int (nI k)] (WM cI aM th E vs B sz cd M fr tt na nb ta tb dl co he mi la) (WM cI aM 0 E vs B sz cd M fr tt na nb ta tb dl co he mi la) (nI (cd (12 * b + k))) 0 0 := by
  have hzb := hsz b
  refine ctI_of (by decide) rfl (Nat.le_of_ble_eq_true rfl) ?_
  intro p e s m args below meth c A Q C hnm K
  refine y_lv (lv' := [(0, .ref (aM 0)), (1, .int (nI b)), (2, .int (nI k))]) rfl ?_
  refine y_aload_n C 0 dX4_instruction_0 rfl rfl ?_
  refine y_iconst C (v := nI 0) dX4_instruction_1 (by decide) ?_
  refine y_put C in_X4_instruction_4 tyX4 tyX4_ok nmX4 (ci := 4) rfl 0 (by decide) rfl (List.mem_of_getElem? (i := 1) rfl) 0 rfl rfl rfl (Nat.le_of_ble_eq_true rfl) (ws' := WM cI aM 0 E vs B sz cd M fr tt na nb ta tb dl co he mi la) rfl dX4_instruction_2 ?_
  refine y_aload_n C 0 dX4_instruction_5 rfl rfl ?_
  refine y_iload_n C 1 dX4_instruction_6 rfl rfl ?_
  refine y_callI C (wr := []) 1 (c_X4_isBlock_ok l D cI aM 0 E vs B sz cd M fr tt na nb ta tb dl co he mi la b hB hb) gX4_instruction_X4_isBlock rfl rfl rfl (by decide +kernel) ⟨Nat.le_of_ble_eq_true rfl, Nat.le_of_ble_eq_true rfl⟩ (q0 := 0) (ci := 4) rfl rfl rfl rfl rfl (Nat.le_of_ble_eq_true rfl) dX4_instruction_7 ⟨Nat.le_of_ble_eq_true rfl, Nat.le_of_ble_eq_true rfl⟩ ?_
  refine y_ws (ws' := WM cI aM 0 E vs B sz cd M fr tt na nb ta tb dl co he mi la) rfl ?_
  refine y_ifN_eq C (tgt := 36) dX4_instruction_10 (by decide) (by decide) (fun h => absurd h (by decide)) (fun _ => ?_)
  refine y_iload_n C 2 dX4_instruction_13 rfl rfl ?_
  refine y_ifN_lt C (tgt := 36) dX4_instruction_14 (by decide) (by omega) ?_
  refine y_iload_n C 2 dX4_instruction_17 rfl rfl ?_
  refine y_aload_n C 0 dX4_instruction_18 rfl rfl ?_
  refine y_get C in_X4_instruction_4 (ci := 4) rfl 4 (by decide) (List.mem_of_getElem? (i := 2) rfl) 0 rfl rfl dX4_instruction_19 ?_
  refine y_iload_n C 1 dX4_instruction_22 rfl rfl ?_
  refine y_ialdA C (q0 := 2) (t0 := 0) rfl rfl (by decide) (by omega) dX4_instruction_23 ?_
  refine y_icmpN_ge C (tgt := 36) dX4_instruction_24 (by decide) (by omega) (by have := hsz b; omega) (fun h24 => ?_) (fun h24 => ?_)
  · skip
    exact absurd h24 (by omega)
  · skip
    refine y_aload_n C 0 dX4_instruction_27 rfl rfl ?_
    refine y_iload_n C 1 dX4_instruction_28 rfl rfl ?_
    refine y_iload_n C 2 dX4_instruction_29 rfl rfl ?_
    refine y_callI C (wr := []) 2 (c_X4_at l D cI aM 0 E vs B sz cd M fr tt na nb ta tb dl co he mi la b k hcd (by omega) (by omega)) gX4_instruction_X4_at rfl rfl rfl (by decide +kernel) ⟨Nat.le_of_ble_eq_true rfl, Nat.le_of_ble_eq_true rfl⟩ (q0 := 0) (ci := 4) rfl rfl rfl rfl rfl (Nat.le_of_ble_eq_true rfl) dX4_instruction_30 ⟨Nat.le_of_ble_eq_true rfl, Nat.le_of_ble_eq_true rfl⟩ ?_
    refine y_ws (ws' := WM cI aM 0 E vs B sz cd M fr tt na nb ta tb dl co he mi la) rfl ?_
    refine y_goto C (tgt := 41) dX4_instruction_33 (by decide) ?_
    exact K _ _ _ _ _ dX4_instruction_41 (rfl) (by decide) (by decide)
set_option maxHeartbeats 4000000 in
set_option maxRecDepth 100000 in
theorem c_X4_instruction_badb (l : Launch) (D : va_G) (cI : ClassId) (aM : Nat → Nat) (th E : Nat) (vs : Nat → Int32) (B : Nat) (sz cd : Nat → Nat) (M : Nat) (fr tt : Nat → Nat) (na nb ta tb dl co he : Nat → Int32) (mi la : Int32) (b k : Int32) (hB : B ≤ 40) (hb : b < 0 ∨ nI B ≤ b) : ctI l yX4_instruction wsX4_instruction (rmD 1 0 0) D [(cI, .int)] [.ref (aM 0), .int b, .int k] (WM cI aM th E vs B sz cd M fr tt na nb ta tb dl co he mi la) (WM cI aM 1 E vs B sz cd M fr tt na nb ta tb dl co he mi la) (nI 0) 0 0 := by
  refine ctI_of (by decide) rfl (Nat.le_of_ble_eq_true rfl) ?_
  intro p e s m args below meth c A Q C hnm K
  refine y_lv (lv' := [(0, .ref (aM 0)), (1, .int b), (2, .int k)]) rfl ?_
  refine y_aload_n C 0 dX4_instruction_0 rfl rfl ?_
  refine y_iconst C (v := nI 0) dX4_instruction_1 (by decide) ?_
  refine y_put C in_X4_instruction_4 tyX4 tyX4_ok nmX4 (ci := 4) rfl 0 (by decide) rfl (List.mem_of_getElem? (i := 1) rfl) 0 rfl rfl rfl (Nat.le_of_ble_eq_true rfl) (ws' := WM cI aM 0 E vs B sz cd M fr tt na nb ta tb dl co he mi la) rfl dX4_instruction_2 ?_
  refine y_aload_n C 0 dX4_instruction_5 rfl rfl ?_
  refine y_iload_n C 1 dX4_instruction_6 rfl rfl ?_
  refine y_callI C (wr := []) 1 (c_X4_isBlock_bad l D cI aM 0 E vs B sz cd M fr tt na nb ta tb dl co he mi la b hB hb) gX4_instruction_X4_isBlock rfl rfl rfl (by decide +kernel) ⟨Nat.le_of_ble_eq_true rfl, Nat.le_of_ble_eq_true rfl⟩ (q0 := 0) (ci := 4) rfl rfl rfl rfl rfl (Nat.le_of_ble_eq_true rfl) dX4_instruction_7 ⟨Nat.le_of_ble_eq_true rfl, Nat.le_of_ble_eq_true rfl⟩ ?_
  refine y_ws (ws' := WM cI aM 0 E vs B sz cd M fr tt na nb ta tb dl co he mi la) rfl ?_
  refine y_ifN_eq C (tgt := 36) dX4_instruction_10 (by decide) (by decide) (fun _ => ?_) (fun h => absurd h (by decide))
  refine y_aload_n C 0 dX4_instruction_36 rfl rfl ?_
  refine y_iconst C (v := nI 1) dX4_instruction_37 (by decide) ?_
  refine y_callI C (wr := []) 1 (c_X4_no l D cI aM 0 E vs B sz cd M fr tt na nb ta tb dl co he mi la 1) gX4_instruction_X4_no rfl rfl rfl (by decide +kernel) ⟨Nat.le_of_ble_eq_true rfl, Nat.le_of_ble_eq_true rfl⟩ (q0 := 0) (ci := 4) rfl rfl rfl rfl rfl (Nat.le_of_ble_eq_true rfl) dX4_instruction_38 ⟨Nat.le_of_ble_eq_true rfl, Nat.le_of_ble_eq_true rfl⟩ ?_
  refine y_ws (ws' := WM cI aM 1 E vs B sz cd M fr tt na nb ta tb dl co he mi la) rfl ?_
  exact K _ _ _ _ _ dX4_instruction_41 (rfl) (by decide) (by decide)
set_option maxHeartbeats 4000000 in
set_option maxRecDepth 100000 in
theorem c_X4_instruction_badk (l : Launch) (D : va_G) (cI : ClassId) (aM : Nat → Nat) (th E : Nat) (vs : Nat → Int32) (B : Nat) (sz cd : Nat → Nat) (M : Nat) (fr tt : Nat → Nat) (na nb ta tb dl co he : Nat → Int32) (mi la : Int32) (b : Nat) (k : Int32) (hB : B ≤ 40) (hsz : ∀ j, sz j ≤ 12) (hb : b < B) (hk : k < 0 ∨ nI (sz b) ≤ k) : ctI l yX4_instruction wsX4_instruction (rmD 1 0 0) D [(cI, .int)] [.ref (aM 0), .int (nI b), .int k] (WM cI aM th E vs B sz cd M fr tt na nb ta tb dl co he mi la) (WM cI aM 1 E vs B sz cd M fr tt na nb ta tb dl co he mi la) (nI 0) 0 0 := by
  refine ctI_of (by decide) rfl (Nat.le_of_ble_eq_true rfl) ?_
  intro p e s m args below meth c A Q C hnm K
  refine y_lv (lv' := [(0, .ref (aM 0)), (1, .int (nI b)), (2, .int k)]) rfl ?_
  refine y_aload_n C 0 dX4_instruction_0 rfl rfl ?_
  refine y_iconst C (v := nI 0) dX4_instruction_1 (by decide) ?_
  refine y_put C in_X4_instruction_4 tyX4 tyX4_ok nmX4 (ci := 4) rfl 0 (by decide) rfl (List.mem_of_getElem? (i := 1) rfl) 0 rfl rfl rfl (Nat.le_of_ble_eq_true rfl) (ws' := WM cI aM 0 E vs B sz cd M fr tt na nb ta tb dl co he mi la) rfl dX4_instruction_2 ?_
  refine y_aload_n C 0 dX4_instruction_5 rfl rfl ?_
  refine y_iload_n C 1 dX4_instruction_6 rfl rfl ?_
  refine y_callI C (wr := []) 1 (c_X4_isBlock_ok l D cI aM 0 E vs B sz cd M fr tt na nb ta tb dl co he mi la b hB hb) gX4_instruction_X4_isBlock rfl rfl rfl (by decide +kernel) ⟨Nat.le_of_ble_eq_true rfl, Nat.le_of_ble_eq_true rfl⟩ (q0 := 0) (ci := 4) rfl rfl rfl rfl rfl (Nat.le_of_ble_eq_true rfl) dX4_instruction_7 ⟨Nat.le_of_ble_eq_true rfl, Nat.le_of_ble_eq_true rfl⟩ ?_
  refine y_ws (ws' := WM cI aM 0 E vs B sz cd M fr tt na nb ta tb dl co he mi la) rfl ?_
  refine y_ifN_eq C (tgt := 36) dX4_instruction_10 (by decide) (by decide) (fun h => absurd h (by decide)) (fun _ => ?_)
  refine y_iload_n C 2 dX4_instruction_13 rfl rfl ?_
  refine y_if_lt C (tgt := 36) dX4_instruction_14 (by decide)  (fun h14 => ?_) (fun h14 => ?_)
  · skip
    refine y_aload_n C 0 dX4_instruction_36 rfl rfl ?_
    refine y_iconst C (v := nI 1) dX4_instruction_37 (by decide) ?_
    refine y_callI C (wr := []) 1 (c_X4_no l D cI aM 0 E vs B sz cd M fr tt na nb ta tb dl co he mi la 1) gX4_instruction_X4_no rfl rfl rfl (by decide +kernel) ⟨Nat.le_of_ble_eq_true rfl, Nat.le_of_ble_eq_true rfl⟩ (q0 := 0) (ci := 4) rfl rfl rfl rfl rfl (Nat.le_of_ble_eq_true rfl) dX4_instruction_38 ⟨Nat.le_of_ble_eq_true rfl, Nat.le_of_ble_eq_true rfl⟩ ?_
    refine y_ws (ws' := WM cI aM 1 E vs B sz cd M fr tt na nb ta tb dl co he mi la) rfl ?_
    exact K _ _ _ _ _ dX4_instruction_41 (rfl) (by decide) (by decide)
  · skip
    refine y_iload_n C 2 dX4_instruction_17 rfl rfl ?_
    refine y_aload_n C 0 dX4_instruction_18 rfl rfl ?_
    refine y_get C in_X4_instruction_4 (ci := 4) rfl 4 (by decide) (List.mem_of_getElem? (i := 2) rfl) 0 rfl rfl dX4_instruction_19 ?_
    refine y_iload_n C 1 dX4_instruction_22 rfl rfl ?_
    refine y_ialdA C (q0 := 2) (t0 := 0) rfl rfl (by decide) (by omega) dX4_instruction_23 ?_
    refine y_icmp_ge C (tgt := 36) dX4_instruction_24 (by decide)  (fun h24 => ?_) (fun h24 => ?_)
    · skip
      refine y_aload_n C 0 dX4_instruction_36 rfl rfl ?_
      refine y_iconst C (v := nI 1) dX4_instruction_37 (by decide) ?_
      refine y_callI C (wr := []) 1 (c_X4_no l D cI aM 0 E vs B sz cd M fr tt na nb ta tb dl co he mi la 1) gX4_instruction_X4_no rfl rfl rfl (by decide +kernel) ⟨Nat.le_of_ble_eq_true rfl, Nat.le_of_ble_eq_true rfl⟩ (q0 := 0) (ci := 4) rfl rfl rfl rfl rfl (Nat.le_of_ble_eq_true rfl) dX4_instruction_38 ⟨Nat.le_of_ble_eq_true rfl, Nat.le_of_ble_eq_true rfl⟩ ?_
      refine y_ws (ws' := WM cI aM 1 E vs B sz cd M fr tt na nb ta tb dl co he mi la) rfl ?_
      exact K _ _ _ _ _ dX4_instruction_41 (rfl) (by decide) (by decide)
    · skip
      exact absurd hk (fun q => q.elim h14 h24)
theorem in_X4_ends_4 : ∀ w ∈ wsX40, w ∈ wsX4_ends := fun _ h => List.mem_cons_of_mem _ (List.mem_append_right _ h)
set_option maxHeartbeats 4000000 in
set_option maxRecDepth 100000 in
theorem c_X4_ends_ok (l : Launch) (D : va_G) (cI : ClassId) (aM : Nat → Nat) (th E : Nat) (vs : Nat → Int32) (B : Nat) (sz cd : Nat → Nat) (M : Nat) (fr tt : Nat → Nat) (na nb ta tb dl co he : Nat → Int32) (mi la : Int32) (b : Nat) (hM : M ≤ 80) (hfr : ∀ j, fr j < 40) (htt : ∀ j, tt j < 40) (hb : b < M) : ctI l yX4_ends wsX4_ends (rmD 1 0 0) D [(cI, .int)] [.ref (aM 0), .int (nI b)] (WM cI aM th E vs B sz cd M fr tt na nb ta tb dl co he mi la) (WM cI aM 0 E vs B sz cd M fr tt na nb ta tb dl co he mi la) (nI (40 * fr b + tt b)) 0 0 := by
  refine ctI_of (by decide) rfl (Nat.le_of_ble_eq_true rfl) ?_
  intro p e s m args below meth c A Q C hnm K
  refine y_lv (lv' := [(0, .ref (aM 0)), (1, .int (nI b))]) rfl ?_
  refine y_aload_n C 0 dX4_ends_0 rfl rfl ?_
  refine y_iconst C (v := nI 0) dX4_ends_1 (by decide) ?_
  refine y_put C in_X4_ends_4 tyX4 tyX4_ok nmX4 (ci := 4) rfl 0 (by decide) rfl (List.mem_of_getElem? (i := 1) rfl) 0 rfl rfl rfl (Nat.le_of_ble_eq_true rfl) (ws' := WM cI aM 0 E vs B sz cd M fr tt na nb ta tb dl co he mi la) rfl dX4_ends_2 ?_
  refine y_aload_n C 0 dX4_ends_5 rfl rfl ?_
  refine y_iload_n C 1 dX4_ends_6 rfl rfl ?_
  refine y_callI C (wr := []) 1 (c_X4_isEdge_ok l D cI aM 0 E vs B sz cd M fr tt na nb ta tb dl co he mi la b hM hb) gX4_ends_X4_isEdge rfl rfl rfl (by decide +kernel) ⟨Nat.le_of_ble_eq_true rfl, Nat.le_of_ble_eq_true rfl⟩ (q0 := 0) (ci := 4) rfl rfl rfl rfl rfl (Nat.le_of_ble_eq_true rfl) dX4_ends_7 ⟨Nat.le_of_ble_eq_true rfl, Nat.le_of_ble_eq_true rfl⟩ ?_
  refine y_ws (ws' := WM cI aM 0 E vs B sz cd M fr tt na nb ta tb dl co he mi la) rfl ?_
  refine y_ifN_eq C (tgt := 32) dX4_ends_10 (by decide) (by decide) (fun h => absurd h (by decide)) (fun _ => ?_)
  refine y_bipush C (v := nI 40) dX4_ends_13 (by decide) ?_
  refine y_aload_n C 0 dX4_ends_15 rfl rfl ?_
  refine y_get C in_X4_ends_4 (ci := 4) rfl 7 (by decide) (List.mem_of_getElem? (i := 2) rfl) 0 rfl rfl dX4_ends_16 ?_
  refine y_iload_n C 1 dX4_ends_19 rfl rfl ?_
  refine y_ialdA C (q0 := 4) (t0 := 0) rfl rfl (by decide) (by omega) dX4_ends_20 ?_
  refine y_imulN C dX4_ends_21 ?_
  refine y_aload_n C 0 dX4_ends_22 rfl rfl ?_
  refine y_get C in_X4_ends_4 (ci := 4) rfl 8 (by decide) (List.mem_of_getElem? (i := 3) rfl) 0 rfl rfl dX4_ends_23 ?_
  refine y_iload_n C 1 dX4_ends_26 rfl rfl ?_
  refine y_ialdA C (q0 := 5) (t0 := 0) rfl rfl (by decide) (by omega) dX4_ends_27 ?_
  refine y_iaddN C dX4_ends_28 ?_
  refine y_goto C (tgt := 37) dX4_ends_29 (by decide) ?_
  exact K _ _ _ _ _ dX4_ends_37 (rfl) (by decide) (by decide)
set_option maxHeartbeats 4000000 in
set_option maxRecDepth 100000 in
theorem c_X4_ends_bad (l : Launch) (D : va_G) (cI : ClassId) (aM : Nat → Nat) (th E : Nat) (vs : Nat → Int32) (B : Nat) (sz cd : Nat → Nat) (M : Nat) (fr tt : Nat → Nat) (na nb ta tb dl co he : Nat → Int32) (mi la : Int32) (b : Int32) (hM : M ≤ 80) (hb : b < 0 ∨ nI M ≤ b) : ctI l yX4_ends wsX4_ends (rmD 1 0 0) D [(cI, .int)] [.ref (aM 0), .int b] (WM cI aM th E vs B sz cd M fr tt na nb ta tb dl co he mi la) (WM cI aM 1 E vs B sz cd M fr tt na nb ta tb dl co he mi la) (nI 0) 0 0 := by
  refine ctI_of (by decide) rfl (Nat.le_of_ble_eq_true rfl) ?_
  intro p e s m args below meth c A Q C hnm K
  refine y_lv (lv' := [(0, .ref (aM 0)), (1, .int b)]) rfl ?_
  refine y_aload_n C 0 dX4_ends_0 rfl rfl ?_
  refine y_iconst C (v := nI 0) dX4_ends_1 (by decide) ?_
  refine y_put C in_X4_ends_4 tyX4 tyX4_ok nmX4 (ci := 4) rfl 0 (by decide) rfl (List.mem_of_getElem? (i := 1) rfl) 0 rfl rfl rfl (Nat.le_of_ble_eq_true rfl) (ws' := WM cI aM 0 E vs B sz cd M fr tt na nb ta tb dl co he mi la) rfl dX4_ends_2 ?_
  refine y_aload_n C 0 dX4_ends_5 rfl rfl ?_
  refine y_iload_n C 1 dX4_ends_6 rfl rfl ?_
  refine y_callI C (wr := []) 1 (c_X4_isEdge_bad l D cI aM 0 E vs B sz cd M fr tt na nb ta tb dl co he mi la b hM hb) gX4_ends_X4_isEdge rfl rfl rfl (by decide +kernel) ⟨Nat.le_of_ble_eq_true rfl, Nat.le_of_ble_eq_true rfl⟩ (q0 := 0) (ci := 4) rfl rfl rfl rfl rfl (Nat.le_of_ble_eq_true rfl) dX4_ends_7 ⟨Nat.le_of_ble_eq_true rfl, Nat.le_of_ble_eq_true rfl⟩ ?_
  refine y_ws (ws' := WM cI aM 0 E vs B sz cd M fr tt na nb ta tb dl co he mi la) rfl ?_
  refine y_ifN_eq C (tgt := 32) dX4_ends_10 (by decide) (by decide) (fun _ => ?_) (fun h => absurd h (by decide))
  refine y_aload_n C 0 dX4_ends_32 rfl rfl ?_
  refine y_iconst C (v := nI 1) dX4_ends_33 (by decide) ?_
  refine y_callI C (wr := []) 1 (c_X4_no l D cI aM 0 E vs B sz cd M fr tt na nb ta tb dl co he mi la 1) gX4_ends_X4_no rfl rfl rfl (by decide +kernel) ⟨Nat.le_of_ble_eq_true rfl, Nat.le_of_ble_eq_true rfl⟩ (q0 := 0) (ci := 4) rfl rfl rfl rfl rfl (Nat.le_of_ble_eq_true rfl) dX4_ends_34 ⟨Nat.le_of_ble_eq_true rfl, Nat.le_of_ble_eq_true rfl⟩ ?_
  refine y_ws (ws' := WM cI aM 1 E vs B sz cd M fr tt na nb ta tb dl co he mi la) rfl ?_
  exact K _ _ _ _ _ dX4_ends_37 (rfl) (by decide) (by decide)
theorem in_X4_addExpression_4 : ∀ w ∈ wsX40, w ∈ wsX4_addExpression := fun _ h => List.mem_cons_of_mem _ (List.mem_append_right _ h)
set_option maxHeartbeats 4000000 in
set_option maxRecDepth 100000 in
theorem c_X4_addExpression_ok (l : Launch) (D : va_G) (cI : ClassId) (aM : Nat → Nat) (th E : Nat) (vs : Nat → Int32) (B : Nat) (sz cd : Nat → Nat) (M : Nat) (fr tt : Nat → Nat) (na nb ta tb dl co he : Nat → Int32) (mi la : Int32) (k : Nat) (hE : E < 8) (hk : k ≤ 63) : ctI l yX4_addExpression wsX4_addExpression (rmD 1 0 0) D [(cI, .int)] [.ref (aM 0), .int (nI k)] (WM cI aM th E vs B sz cd M fr tt na nb ta tb dl co he mi la) (WM cI aM 0 (E + 1) (upd vs E (nI k)) B sz cd M fr tt na nb ta tb dl co he mi la) (nI E) 0 0 := by
  refine ctI_of (by decide) rfl (Nat.le_of_ble_eq_true rfl) ?_
  intro p e s m args below meth c A Q C hnm K
  refine y_lv (lv' := [(0, .ref (aM 0)), (1, .int (nI k))]) rfl ?_
  refine y_aload_n C 0 dX4_addExpression_0 rfl rfl ?_
  refine y_iconst C (v := nI 0) dX4_addExpression_1 (by decide) ?_
  refine y_put C in_X4_addExpression_4 tyX4 tyX4_ok nmX4 (ci := 4) rfl 0 (by decide) rfl (List.mem_of_getElem? (i := 1) rfl) 0 rfl rfl rfl (Nat.le_of_ble_eq_true rfl) (ws' := WM cI aM 0 E vs B sz cd M fr tt na nb ta tb dl co he mi la) rfl dX4_addExpression_2 ?_
  refine y_iload_n C 1 dX4_addExpression_5 rfl rfl ?_
  refine y_ifN_lt C (tgt := 15) dX4_addExpression_6 (by decide) (by omega) ?_
  refine y_iload_n C 1 dX4_addExpression_9 rfl rfl ?_
  refine y_bipush C (v := nI 63) dX4_addExpression_10 (by decide) ?_
  refine y_icmpN_le C (tgt := 21) dX4_addExpression_12 (by decide) (by omega) (by omega) (fun h12 => ?_) (fun h12 => ?_)
  · skip
    refine y_aload_n C 0 dX4_addExpression_21 rfl rfl ?_
    refine y_get C in_X4_addExpression_4 (ci := 4) rfl 1 (by decide) (List.mem_of_getElem? (i := 2) rfl) 0 rfl rfl dX4_addExpression_22 ?_
    refine y_bipush C (v := nI 8) dX4_addExpression_25 (by decide) ?_
    refine y_icmpN_ne C (tgt := 36) dX4_addExpression_27 (by decide) (by omega) (by omega) (fun h27 => ?_) (fun h27 => ?_)
    · skip
      refine y_aload_n C 0 dX4_addExpression_36 rfl rfl ?_
      refine y_get C in_X4_addExpression_4 (ci := 4) rfl 2 (by decide) (List.mem_of_getElem? (i := 3) rfl) 0 rfl rfl dX4_addExpression_37 ?_
      refine y_aload_n C 0 dX4_addExpression_40 rfl rfl ?_
      refine y_get C in_X4_addExpression_4 (ci := 4) rfl 1 (by decide) (List.mem_of_getElem? (i := 2) rfl) 0 rfl rfl dX4_addExpression_41 ?_
      refine y_iload_n C 1 dX4_addExpression_44 rfl rfl ?_
      refine y_iast C (q0 := 1) (t0 := 0) rfl rfl (by decide) (by omega) (ws' := WM cI aM 0 E (upd vs E (nI k)) B sz cd M fr tt na nb ta tb dl co he mi la) rfl dX4_addExpression_45 ?_
      refine y_aload_n C 0 dX4_addExpression_46 rfl rfl ?_
      refine y_dup C dX4_addExpression_47 rfl ?_
      refine y_get C in_X4_addExpression_4 (ci := 4) rfl 1 (by decide) (List.mem_of_getElem? (i := 2) rfl) 0 rfl rfl dX4_addExpression_48 ?_
      refine y_iconst C (v := nI 1) dX4_addExpression_51 (by decide) ?_
      refine y_iaddN C dX4_addExpression_52 ?_
      refine y_put C in_X4_addExpression_4 tyX4 tyX4_ok nmX4 (ci := 4) rfl 1 (by decide) rfl (List.mem_of_getElem? (i := 2) rfl) 0 rfl rfl rfl (Nat.le_of_ble_eq_true rfl) (ws' := WM cI aM 0 (E + 1) (upd vs E (nI k)) B sz cd M fr tt na nb ta tb dl co he mi la) rfl dX4_addExpression_53 ?_
      refine y_aload_n C 0 dX4_addExpression_56 rfl rfl ?_
      refine y_get C in_X4_addExpression_4 (ci := 4) rfl 1 (by decide) (List.mem_of_getElem? (i := 2) rfl) 0 rfl rfl dX4_addExpression_57 ?_
      refine y_iconst C (v := nI 1) dX4_addExpression_60 (by decide) ?_
      refine y_isubN C dX4_addExpression_61 (by omega) ?_
      exact K _ _ _ _ _ dX4_addExpression_62 (congrArg nI (by omega)) (by decide) (by decide)
    · skip
      exact absurd h27 (by omega)
  · skip
    exact absurd h12 (by omega)
set_option maxHeartbeats 4000000 in
set_option maxRecDepth 100000 in
theorem c_X4_addExpression_bad (l : Launch) (D : va_G) (cI : ClassId) (aM : Nat → Nat) (th E : Nat) (vs : Nat → Int32) (B : Nat) (sz cd : Nat → Nat) (M : Nat) (fr tt : Nat → Nat) (na nb ta tb dl co he : Nat → Int32) (mi la : Int32) (k : Int32) (hk : k < 0 ∨ ¬ k ≤ nI 63) : ctI l yX4_addExpression wsX4_addExpression (rmD 1 0 0) D [(cI, .int)] [.ref (aM 0), .int k] (WM cI aM th E vs B sz cd M fr tt na nb ta tb dl co he mi la) (WM cI aM 1 E vs B sz cd M fr tt na nb ta tb dl co he mi la) (nI 0) 0 0 := by
  refine ctI_of (by decide) rfl (Nat.le_of_ble_eq_true rfl) ?_
  intro p e s m args below meth c A Q C hnm K
  refine y_lv (lv' := [(0, .ref (aM 0)), (1, .int k)]) rfl ?_
  refine y_aload_n C 0 dX4_addExpression_0 rfl rfl ?_
  refine y_iconst C (v := nI 0) dX4_addExpression_1 (by decide) ?_
  refine y_put C in_X4_addExpression_4 tyX4 tyX4_ok nmX4 (ci := 4) rfl 0 (by decide) rfl (List.mem_of_getElem? (i := 1) rfl) 0 rfl rfl rfl (Nat.le_of_ble_eq_true rfl) (ws' := WM cI aM 0 E vs B sz cd M fr tt na nb ta tb dl co he mi la) rfl dX4_addExpression_2 ?_
  refine y_iload_n C 1 dX4_addExpression_5 rfl rfl ?_
  refine y_if_lt C (tgt := 15) dX4_addExpression_6 (by decide)  (fun h6 => ?_) (fun h6 => ?_)
  · skip
    refine y_aload_n C 0 dX4_addExpression_15 rfl rfl ?_
    refine y_iconst C (v := nI 1) dX4_addExpression_16 (by decide) ?_
    refine y_callI C (wr := []) 1 (c_X4_no l D cI aM 0 E vs B sz cd M fr tt na nb ta tb dl co he mi la 1) gX4_addExpression_X4_no rfl rfl rfl (by decide +kernel) ⟨Nat.le_of_ble_eq_true rfl, Nat.le_of_ble_eq_true rfl⟩ (q0 := 0) (ci := 4) rfl rfl rfl rfl rfl (Nat.le_of_ble_eq_true rfl) dX4_addExpression_17 ⟨Nat.le_of_ble_eq_true rfl, Nat.le_of_ble_eq_true rfl⟩ ?_
    refine y_ws (ws' := WM cI aM 1 E vs B sz cd M fr tt na nb ta tb dl co he mi la) rfl ?_
    exact K _ _ _ _ _ dX4_addExpression_20 (rfl) (by decide) (by decide)
  · skip
    refine y_iload_n C 1 dX4_addExpression_9 rfl rfl ?_
    refine y_bipush C (v := nI 63) dX4_addExpression_10 (by decide) ?_
    refine y_icmp_le C (tgt := 21) dX4_addExpression_12 (by decide)  (fun h12 => ?_) (fun h12 => ?_)
    · skip
      exact absurd hk (fun q => q.elim h6 (fun z => z h12))
    · skip
      refine y_aload_n C 0 dX4_addExpression_15 rfl rfl ?_
      refine y_iconst C (v := nI 1) dX4_addExpression_16 (by decide) ?_
      refine y_callI C (wr := []) 1 (c_X4_no l D cI aM 0 E vs B sz cd M fr tt na nb ta tb dl co he mi la 1) gX4_addExpression_X4_no rfl rfl rfl (by decide +kernel) ⟨Nat.le_of_ble_eq_true rfl, Nat.le_of_ble_eq_true rfl⟩ (q0 := 0) (ci := 4) rfl rfl rfl rfl rfl (Nat.le_of_ble_eq_true rfl) dX4_addExpression_17 ⟨Nat.le_of_ble_eq_true rfl, Nat.le_of_ble_eq_true rfl⟩ ?_
      refine y_ws (ws' := WM cI aM 1 E vs B sz cd M fr tt na nb ta tb dl co he mi la) rfl ?_
      exact K _ _ _ _ _ dX4_addExpression_20 (rfl) (by decide) (by decide)
set_option maxHeartbeats 4000000 in
set_option maxRecDepth 100000 in
theorem c_X4_addExpression_full (l : Launch) (D : va_G) (cI : ClassId) (aM : Nat → Nat) (th E : Nat) (vs : Nat → Int32) (B : Nat) (sz cd : Nat → Nat) (M : Nat) (fr tt : Nat → Nat) (na nb ta tb dl co he : Nat → Int32) (mi la : Int32) (k : Nat) (hE : E = 8) (hk : k ≤ 63) : ctI l yX4_addExpression wsX4_addExpression (rmD 1 0 0) D [(cI, .int)] [.ref (aM 0), .int (nI k)] (WM cI aM th E vs B sz cd M fr tt na nb ta tb dl co he mi la) (WM cI aM 2 E vs B sz cd M fr tt na nb ta tb dl co he mi la) (nI 0) 0 0 := by
  refine ctI_of (by decide) rfl (Nat.le_of_ble_eq_true rfl) ?_
  intro p e s m args below meth c A Q C hnm K
  refine y_lv (lv' := [(0, .ref (aM 0)), (1, .int (nI k))]) rfl ?_
  refine y_aload_n C 0 dX4_addExpression_0 rfl rfl ?_
  refine y_iconst C (v := nI 0) dX4_addExpression_1 (by decide) ?_
  refine y_put C in_X4_addExpression_4 tyX4 tyX4_ok nmX4 (ci := 4) rfl 0 (by decide) rfl (List.mem_of_getElem? (i := 1) rfl) 0 rfl rfl rfl (Nat.le_of_ble_eq_true rfl) (ws' := WM cI aM 0 E vs B sz cd M fr tt na nb ta tb dl co he mi la) rfl dX4_addExpression_2 ?_
  refine y_iload_n C 1 dX4_addExpression_5 rfl rfl ?_
  refine y_ifN_lt C (tgt := 15) dX4_addExpression_6 (by decide) (by omega) ?_
  refine y_iload_n C 1 dX4_addExpression_9 rfl rfl ?_
  refine y_bipush C (v := nI 63) dX4_addExpression_10 (by decide) ?_
  refine y_icmpN_le C (tgt := 21) dX4_addExpression_12 (by decide) (by omega) (by omega) (fun h12 => ?_) (fun h12 => ?_)
  · skip
    refine y_aload_n C 0 dX4_addExpression_21 rfl rfl ?_
    refine y_get C in_X4_addExpression_4 (ci := 4) rfl 1 (by decide) (List.mem_of_getElem? (i := 2) rfl) 0 rfl rfl dX4_addExpression_22 ?_
    refine y_bipush C (v := nI 8) dX4_addExpression_25 (by decide) ?_
    refine y_icmpN_ne C (tgt := 36) dX4_addExpression_27 (by decide) (by omega) (by omega) (fun h27 => ?_) (fun h27 => ?_)
    · skip
      exact absurd h27 (by omega)
    · skip
      refine y_aload_n C 0 dX4_addExpression_30 rfl rfl ?_
      refine y_iconst C (v := nI 2) dX4_addExpression_31 (by decide) ?_
      refine y_callI C (wr := []) 1 (c_X4_no l D cI aM 0 E vs B sz cd M fr tt na nb ta tb dl co he mi la 2) gX4_addExpression_X4_no rfl rfl rfl (by decide +kernel) ⟨Nat.le_of_ble_eq_true rfl, Nat.le_of_ble_eq_true rfl⟩ (q0 := 0) (ci := 4) rfl rfl rfl rfl rfl (Nat.le_of_ble_eq_true rfl) dX4_addExpression_32 ⟨Nat.le_of_ble_eq_true rfl, Nat.le_of_ble_eq_true rfl⟩ ?_
      refine y_ws (ws' := WM cI aM 2 E vs B sz cd M fr tt na nb ta tb dl co he mi la) rfl ?_
      exact K _ _ _ _ _ dX4_addExpression_35 (rfl) (by decide) (by decide)
  · skip
    exact absurd h12 (by omega)
theorem in_X4_addBlock_4 : ∀ w ∈ wsX40, w ∈ wsX4_addBlock := fun _ h => List.mem_cons_of_mem _ (List.mem_append_right _ h)
set_option maxHeartbeats 4000000 in
set_option maxRecDepth 100000 in
theorem c_X4_addBlock_ok (l : Launch) (D : va_G) (cI : ClassId) (aM : Nat → Nat) (th E : Nat) (vs : Nat → Int32) (B : Nat) (sz cd : Nat → Nat) (M : Nat) (fr tt : Nat → Nat) (na nb ta tb dl co he : Nat → Int32) (mi la : Int32) (hB : B < 40) : ctI l yX4_addBlock wsX4_addBlock (rmD 1 0 0) D [(cI, .int)] [.ref (aM 0)] (WM cI aM th E vs B sz cd M fr tt na nb ta tb dl co he mi la) (WM cI aM 0 E vs (B + 1) sz cd M fr tt na nb ta tb dl co he mi la) (nI B) 0 0 := by
  refine ctI_of (by decide) rfl (Nat.le_of_ble_eq_true rfl) ?_
  intro p e s m args below meth c A Q C hnm K
  refine y_lv (lv' := [(0, .ref (aM 0))]) rfl ?_
  refine y_aload_n C 0 dX4_addBlock_0 rfl rfl ?_
  refine y_iconst C (v := nI 0) dX4_addBlock_1 (by decide) ?_
  refine y_put C in_X4_addBlock_4 tyX4 tyX4_ok nmX4 (ci := 4) rfl 0 (by decide) rfl (List.mem_of_getElem? (i := 1) rfl) 0 rfl rfl rfl (Nat.le_of_ble_eq_true rfl) (ws' := WM cI aM 0 E vs B sz cd M fr tt na nb ta tb dl co he mi la) rfl dX4_addBlock_2 ?_
  refine y_aload_n C 0 dX4_addBlock_5 rfl rfl ?_
  refine y_get C in_X4_addBlock_4 (ci := 4) rfl 3 (by decide) (List.mem_of_getElem? (i := 2) rfl) 0 rfl rfl dX4_addBlock_6 ?_
  refine y_bipush C (v := nI 40) dX4_addBlock_9 (by decide) ?_
  refine y_icmpN_ne C (tgt := 20) dX4_addBlock_11 (by decide) (by omega) (by omega) (fun h11 => ?_) (fun h11 => ?_)
  · skip
    refine y_aload_n C 0 dX4_addBlock_20 rfl rfl ?_
    refine y_dup C dX4_addBlock_21 rfl ?_
    refine y_get C in_X4_addBlock_4 (ci := 4) rfl 3 (by decide) (List.mem_of_getElem? (i := 2) rfl) 0 rfl rfl dX4_addBlock_22 ?_
    refine y_iconst C (v := nI 1) dX4_addBlock_25 (by decide) ?_
    refine y_iaddN C dX4_addBlock_26 ?_
    refine y_put C in_X4_addBlock_4 tyX4 tyX4_ok nmX4 (ci := 4) rfl 3 (by decide) rfl (List.mem_of_getElem? (i := 2) rfl) 0 rfl rfl rfl (Nat.le_of_ble_eq_true rfl) (ws' := WM cI aM 0 E vs (B + 1) sz cd M fr tt na nb ta tb dl co he mi la) rfl dX4_addBlock_27 ?_
    refine y_aload_n C 0 dX4_addBlock_30 rfl rfl ?_
    refine y_get C in_X4_addBlock_4 (ci := 4) rfl 3 (by decide) (List.mem_of_getElem? (i := 2) rfl) 0 rfl rfl dX4_addBlock_31 ?_
    refine y_iconst C (v := nI 1) dX4_addBlock_34 (by decide) ?_
    refine y_isubN C dX4_addBlock_35 (by omega) ?_
    exact K _ _ _ _ _ dX4_addBlock_36 (congrArg nI (by omega)) (by decide) (by decide)
  · skip
    exact absurd h11 (by omega)
set_option maxHeartbeats 4000000 in
set_option maxRecDepth 100000 in
theorem c_X4_addBlock_full (l : Launch) (D : va_G) (cI : ClassId) (aM : Nat → Nat) (th E : Nat) (vs : Nat → Int32) (B : Nat) (sz cd : Nat → Nat) (M : Nat) (fr tt : Nat → Nat) (na nb ta tb dl co he : Nat → Int32) (mi la : Int32) (hB : B = 40) : ctI l yX4_addBlock wsX4_addBlock (rmD 1 0 0) D [(cI, .int)] [.ref (aM 0)] (WM cI aM th E vs B sz cd M fr tt na nb ta tb dl co he mi la) (WM cI aM 1 E vs B sz cd M fr tt na nb ta tb dl co he mi la) (nI 0) 0 0 := by
  refine ctI_of (by decide) rfl (Nat.le_of_ble_eq_true rfl) ?_
  intro p e s m args below meth c A Q C hnm K
  refine y_lv (lv' := [(0, .ref (aM 0))]) rfl ?_
  refine y_aload_n C 0 dX4_addBlock_0 rfl rfl ?_
  refine y_iconst C (v := nI 0) dX4_addBlock_1 (by decide) ?_
  refine y_put C in_X4_addBlock_4 tyX4 tyX4_ok nmX4 (ci := 4) rfl 0 (by decide) rfl (List.mem_of_getElem? (i := 1) rfl) 0 rfl rfl rfl (Nat.le_of_ble_eq_true rfl) (ws' := WM cI aM 0 E vs B sz cd M fr tt na nb ta tb dl co he mi la) rfl dX4_addBlock_2 ?_
  refine y_aload_n C 0 dX4_addBlock_5 rfl rfl ?_
  refine y_get C in_X4_addBlock_4 (ci := 4) rfl 3 (by decide) (List.mem_of_getElem? (i := 2) rfl) 0 rfl rfl dX4_addBlock_6 ?_
  refine y_bipush C (v := nI 40) dX4_addBlock_9 (by decide) ?_
  refine y_icmpN_ne C (tgt := 20) dX4_addBlock_11 (by decide) (by omega) (by omega) (fun h11 => ?_) (fun h11 => ?_)
  · skip
    exact absurd h11 (by omega)
  · skip
    refine y_aload_n C 0 dX4_addBlock_14 rfl rfl ?_
    refine y_iconst C (v := nI 1) dX4_addBlock_15 (by decide) ?_
    refine y_callI C (wr := []) 1 (c_X4_no l D cI aM 0 E vs B sz cd M fr tt na nb ta tb dl co he mi la 1) gX4_addBlock_X4_no rfl rfl rfl (by decide +kernel) ⟨Nat.le_of_ble_eq_true rfl, Nat.le_of_ble_eq_true rfl⟩ (q0 := 0) (ci := 4) rfl rfl rfl rfl rfl (Nat.le_of_ble_eq_true rfl) dX4_addBlock_16 ⟨Nat.le_of_ble_eq_true rfl, Nat.le_of_ble_eq_true rfl⟩ ?_
    refine y_ws (ws' := WM cI aM 1 E vs B sz cd M fr tt na nb ta tb dl co he mi la) rfl ?_
    exact K _ _ _ _ _ dX4_addBlock_19 (rfl) (by decide) (by decide)
theorem in_X4_append_4 : ∀ w ∈ wsX40, w ∈ wsX4_append := fun _ h => List.mem_cons_of_mem _ (List.mem_append_right _ h)
set_option maxHeartbeats 4000000 in
set_option maxRecDepth 100000 in
theorem c_X4_append_ok (l : Launch) (D : va_G) (cI : ClassId) (aM : Nat → Nat) (th E : Nat) (vs : Nat → Int32) (B : Nat) (sz cd : Nat → Nat) (M : Nat) (fr tt : Nat → Nat) (na nb ta tb dl co he : Nat → Int32) (mi la : Int32) (b v : Nat) (hb : b < 40) (hs : sz b < 12) : ctI l yX4_append wsX4_append (rmD 1 0 0) D [(cI, .int)] [.ref (aM 0), .int (nI b), .int (nI v)] (WM cI aM th E vs B sz cd M fr tt na nb ta tb dl co he mi la) (WM cI aM th E vs B (upN sz b (sz b + 1)) (upN cd (12 * b + sz b) v) M fr tt na nb ta tb dl co he mi la) (nI (sz b + 1)) 0 0 := by
  refine ctI_of (by decide) rfl (Nat.le_of_ble_eq_true rfl) ?_
  intro p e s m args below meth c A Q C hnm K
  refine y_lv (lv' := [(0, .ref (aM 0)), (1, .int (nI b)), (2, .int (nI v))]) rfl ?_
  refine y_aload_n C 0 dX4_append_0 rfl rfl ?_
  refine y_get C in_X4_append_4 (ci := 4) rfl 4 (by decide) (List.mem_of_getElem? (i := 1) rfl) 0 rfl rfl dX4_append_1 ?_
  refine y_iload_n C 1 dX4_append_4 rfl rfl ?_
  refine y_ialdA C (q0 := 2) (t0 := 0) rfl rfl (by decide) (by omega) dX4_append_5 ?_
  refine y_bipush C (v := nI 12) dX4_append_6 (by decide) ?_
  refine y_icmpN_ne C (tgt := 17) dX4_append_8 (by decide) (by omega) (by omega) (fun h8 => ?_) (fun h8 => ?_)
  · skip
    refine y_aload_n C 0 dX4_append_17 rfl rfl ?_
    refine y_get C in_X4_append_4 (ci := 4) rfl 5 (by decide) (List.mem_of_getElem? (i := 2) rfl) 0 rfl rfl dX4_append_18 ?_
    refine y_bipush C (v := nI 12) dX4_append_21 (by decide) ?_
    refine y_iload_n C 1 dX4_append_23 rfl rfl ?_
    refine y_imulN C dX4_append_24 ?_
    refine y_aload_n C 0 dX4_append_25 rfl rfl ?_
    refine y_get C in_X4_append_4 (ci := 4) rfl 4 (by decide) (List.mem_of_getElem? (i := 1) rfl) 0 rfl rfl dX4_append_26 ?_
    refine y_iload_n C 1 dX4_append_29 rfl rfl ?_
    refine y_ialdA C (q0 := 2) (t0 := 0) rfl rfl (by decide) (by omega) dX4_append_30 ?_
    refine y_iaddN C dX4_append_31 ?_
    refine y_iload_n C 2 dX4_append_32 rfl rfl ?_
    refine y_iastA C (q0 := 3) (t0 := 0) rfl rfl (by decide) (by omega) (ws' := WM cI aM th E vs B sz (upN cd ((12 * b) + (sz b)) v) M fr tt na nb ta tb dl co he mi la) rfl dX4_append_33 ?_
    refine y_aload_n C 0 dX4_append_34 rfl rfl ?_
    refine y_get C in_X4_append_4 (ci := 4) rfl 4 (by decide) (List.mem_of_getElem? (i := 1) rfl) 0 rfl rfl dX4_append_35 ?_
    refine y_iload_n C 1 dX4_append_38 rfl rfl ?_
    refine y_dup2_11 C dX4_append_39 rfl rfl ?_
    refine y_ialdA C (q0 := 2) (t0 := 0) rfl rfl (by decide) (by omega) dX4_append_40 ?_
    refine y_iconst C (v := nI 1) dX4_append_41 (by decide) ?_
    refine y_iaddN C dX4_append_42 ?_
    refine y_iastA C (q0 := 2) (t0 := 0) rfl rfl (by decide) (by omega) (ws' := WM cI aM th E vs B (upN sz b ((sz b) + 1)) (upN cd ((12 * b) + (sz b)) v) M fr tt na nb ta tb dl co he mi la) rfl dX4_append_43 ?_
    refine y_aload_n C 0 dX4_append_44 rfl rfl ?_
    refine y_get C in_X4_append_4 (ci := 4) rfl 4 (by decide) (List.mem_of_getElem? (i := 1) rfl) 0 rfl rfl dX4_append_45 ?_
    refine y_iload_n C 1 dX4_append_48 rfl rfl ?_
    refine y_ialdA C (q0 := 2) (t0 := 0) rfl rfl (by decide) (by omega) dX4_append_49 ?_
    refine y_topE (congrArg nI upN_s) ?_
    exact K _ _ _ _ _ dX4_append_50 (rfl) (by decide) (by decide)
  · skip
    exact absurd h8 (by omega)
set_option maxHeartbeats 4000000 in
set_option maxRecDepth 100000 in
theorem c_X4_append_full (l : Launch) (D : va_G) (cI : ClassId) (aM : Nat → Nat) (th E : Nat) (vs : Nat → Int32) (B : Nat) (sz cd : Nat → Nat) (M : Nat) (fr tt : Nat → Nat) (na nb ta tb dl co he : Nat → Int32) (mi la : Int32) (b v : Nat) (hb : b < 40) (hs : sz b = 12) : ctI l yX4_append wsX4_append (rmD 1 0 0) D [(cI, .int)] [.ref (aM 0), .int (nI b), .int (nI v)] (WM cI aM th E vs B sz cd M fr tt na nb ta tb dl co he mi la) (WM cI aM 2 E vs B sz cd M fr tt na nb ta tb dl co he mi la) (nI 0) 0 0 := by
  refine ctI_of (by decide) rfl (Nat.le_of_ble_eq_true rfl) ?_
  intro p e s m args below meth c A Q C hnm K
  refine y_lv (lv' := [(0, .ref (aM 0)), (1, .int (nI b)), (2, .int (nI v))]) rfl ?_
  refine y_aload_n C 0 dX4_append_0 rfl rfl ?_
  refine y_get C in_X4_append_4 (ci := 4) rfl 4 (by decide) (List.mem_of_getElem? (i := 1) rfl) 0 rfl rfl dX4_append_1 ?_
  refine y_iload_n C 1 dX4_append_4 rfl rfl ?_
  refine y_ialdA C (q0 := 2) (t0 := 0) rfl rfl (by decide) (by omega) dX4_append_5 ?_
  refine y_bipush C (v := nI 12) dX4_append_6 (by decide) ?_
  refine y_icmpN_ne C (tgt := 17) dX4_append_8 (by decide) (by omega) (by omega) (fun h8 => ?_) (fun h8 => ?_)
  · skip
    exact absurd h8 (by omega)
  · skip
    refine y_aload_n C 0 dX4_append_11 rfl rfl ?_
    refine y_iconst C (v := nI 2) dX4_append_12 (by decide) ?_
    refine y_callI C (wr := []) 1 (c_X4_no l D cI aM th E vs B sz cd M fr tt na nb ta tb dl co he mi la 2) gX4_append_X4_no rfl rfl rfl (by decide +kernel) ⟨Nat.le_of_ble_eq_true rfl, Nat.le_of_ble_eq_true rfl⟩ (q0 := 0) (ci := 4) rfl rfl rfl rfl rfl (Nat.le_of_ble_eq_true rfl) dX4_append_13 ⟨Nat.le_of_ble_eq_true rfl, Nat.le_of_ble_eq_true rfl⟩ ?_
    refine y_ws (ws' := WM cI aM 2 E vs B sz cd M fr tt na nb ta tb dl co he mi la) rfl ?_
    exact K _ _ _ _ _ dX4_append_16 (rfl) (by decide) (by decide)
theorem in_X4_compute_4 : ∀ w ∈ wsX40, w ∈ wsX4_compute := fun _ h => List.mem_cons_of_mem _ (List.mem_append_right _ h)
set_option maxHeartbeats 4000000 in
set_option maxRecDepth 100000 in
theorem c_X4_compute_ok (l : Launch) (D : va_G) (cI : ClassId) (aM : Nat → Nat) (th E : Nat) (vs : Nat → Int32) (B : Nat) (sz cd : Nat → Nat) (M : Nat) (fr tt : Nat → Nat) (na nb ta tb dl co he : Nat → Int32) (mi la : Int32) (b k : Nat) (hB : B ≤ 40) (hE : E ≤ 8) (hb : b < B) (hk : k < E) (hs : sz b < 12) : ctI l yX4_compute wsX4_compute (rmD 2 0 0) D [(cI, .int)] [.ref (aM 0), .int (nI b), .int (nI k)] (WM cI aM th E vs B sz cd M fr tt na nb ta tb dl co he mi la) (WM cI aM 0 E vs B (upN sz b (sz b + 1)) (upN cd (12 * b + sz b) (3 * k + 0)) M fr tt na nb ta tb dl co he mi la) (nI (sz b + 1)) 0 0 := by
  refine ctI_of (by decide) rfl (Nat.le_of_ble_eq_true rfl) ?_
  intro p e s m args below meth c A Q C hnm K
  refine y_lv (lv' := [(0, .ref (aM 0)), (1, .int (nI b)), (2, .int (nI k))]) rfl ?_
  refine y_aload_n C 0 dX4_compute_0 rfl rfl ?_
  refine y_iconst C (v := nI 0) dX4_compute_1 (by decide) ?_
  refine y_put C in_X4_compute_4 tyX4 tyX4_ok nmX4 (ci := 4) rfl 0 (by decide) rfl (List.mem_of_getElem? (i := 1) rfl) 0 rfl rfl rfl (Nat.le_of_ble_eq_true rfl) (ws' := WM cI aM 0 E vs B sz cd M fr tt na nb ta tb dl co he mi la) rfl dX4_compute_2 ?_
  refine y_aload_n C 0 dX4_compute_5 rfl rfl ?_
  refine y_iload_n C 1 dX4_compute_6 rfl rfl ?_
  refine y_callI C (wr := []) 1 (c_X4_isBlock_ok l D cI aM 0 E vs B sz cd M fr tt na nb ta tb dl co he mi la b hB hb) gX4_compute_X4_isBlock rfl rfl rfl (by decide +kernel) ⟨Nat.le_of_ble_eq_true rfl, Nat.le_of_ble_eq_true rfl⟩ (q0 := 0) (ci := 4) rfl rfl rfl rfl rfl (Nat.le_of_ble_eq_true rfl) dX4_compute_7 ⟨Nat.le_of_ble_eq_true rfl, Nat.le_of_ble_eq_true rfl⟩ ?_
  refine y_ws (ws' := WM cI aM 0 E vs B sz cd M fr tt na nb ta tb dl co he mi la) rfl ?_
  refine y_ifN_eq C (tgt := 34) dX4_compute_10 (by decide) (by decide) (fun h => absurd h (by decide)) (fun _ => ?_)
  refine y_aload_n C 0 dX4_compute_13 rfl rfl ?_
  refine y_iload_n C 2 dX4_compute_14 rfl rfl ?_
  refine y_callI C (wr := []) 1 (c_X4_isExpression_ok l D cI aM 0 E vs B sz cd M fr tt na nb ta tb dl co he mi la k hE (by omega)) gX4_compute_X4_isExpression rfl rfl rfl (by decide +kernel) ⟨Nat.le_of_ble_eq_true rfl, Nat.le_of_ble_eq_true rfl⟩ (q0 := 0) (ci := 4) rfl rfl rfl rfl rfl (Nat.le_of_ble_eq_true rfl) dX4_compute_15 ⟨Nat.le_of_ble_eq_true rfl, Nat.le_of_ble_eq_true rfl⟩ ?_
  refine y_ws (ws' := WM cI aM 0 E vs B sz cd M fr tt na nb ta tb dl co he mi la) rfl ?_
  refine y_ifN_eq C (tgt := 34) dX4_compute_18 (by decide) (by decide) (fun h => absurd h (by decide)) (fun _ => ?_)
  refine y_aload_n C 0 dX4_compute_21 rfl rfl ?_
  refine y_iload_n C 1 dX4_compute_22 rfl rfl ?_
  refine y_iconst C (v := nI 3) dX4_compute_23 (by decide) ?_
  refine y_iload_n C 2 dX4_compute_24 rfl rfl ?_
  refine y_imulN C dX4_compute_25 ?_
  refine y_iconst C (v := nI 0) dX4_compute_26 (by decide) ?_
  refine y_iaddN C dX4_compute_27 ?_
  refine y_callI C (wr := []) 2 (c_X4_append_ok l D cI aM 0 E vs B sz cd M fr tt na nb ta tb dl co he mi la b ((3 * k) + 0) (by omega) hs) gX4_compute_X4_append rfl rfl rfl (by decide +kernel) ⟨Nat.le_of_ble_eq_true rfl, Nat.le_of_ble_eq_true rfl⟩ (q0 := 0) (ci := 4) rfl rfl rfl rfl rfl (Nat.le_of_ble_eq_true rfl) dX4_compute_28 ⟨Nat.le_of_ble_eq_true rfl, Nat.le_of_ble_eq_true rfl⟩ ?_
  refine y_ws (ws' := WM cI aM 0 E vs B (upN sz b (sz b + 1)) (upN cd (12 * b + sz b) ((3 * k) + 0)) M fr tt na nb ta tb dl co he mi la) rfl ?_
  refine y_goto C (tgt := 39) dX4_compute_31 (by decide) ?_
  exact K _ _ _ _ _ dX4_compute_39 (rfl) (by decide) (by decide)
set_option maxHeartbeats 4000000 in
set_option maxRecDepth 100000 in
theorem c_X4_compute_full (l : Launch) (D : va_G) (cI : ClassId) (aM : Nat → Nat) (th E : Nat) (vs : Nat → Int32) (B : Nat) (sz cd : Nat → Nat) (M : Nat) (fr tt : Nat → Nat) (na nb ta tb dl co he : Nat → Int32) (mi la : Int32) (b k : Nat) (hB : B ≤ 40) (hE : E ≤ 8) (hb : b < B) (hk : k < E) (hs : sz b = 12) : ctI l yX4_compute wsX4_compute (rmD 2 0 0) D [(cI, .int)] [.ref (aM 0), .int (nI b), .int (nI k)] (WM cI aM th E vs B sz cd M fr tt na nb ta tb dl co he mi la) (WM cI aM 2 E vs B sz cd M fr tt na nb ta tb dl co he mi la) (nI 0) 0 0 := by
  refine ctI_of (by decide) rfl (Nat.le_of_ble_eq_true rfl) ?_
  intro p e s m args below meth c A Q C hnm K
  refine y_lv (lv' := [(0, .ref (aM 0)), (1, .int (nI b)), (2, .int (nI k))]) rfl ?_
  refine y_aload_n C 0 dX4_compute_0 rfl rfl ?_
  refine y_iconst C (v := nI 0) dX4_compute_1 (by decide) ?_
  refine y_put C in_X4_compute_4 tyX4 tyX4_ok nmX4 (ci := 4) rfl 0 (by decide) rfl (List.mem_of_getElem? (i := 1) rfl) 0 rfl rfl rfl (Nat.le_of_ble_eq_true rfl) (ws' := WM cI aM 0 E vs B sz cd M fr tt na nb ta tb dl co he mi la) rfl dX4_compute_2 ?_
  refine y_aload_n C 0 dX4_compute_5 rfl rfl ?_
  refine y_iload_n C 1 dX4_compute_6 rfl rfl ?_
  refine y_callI C (wr := []) 1 (c_X4_isBlock_ok l D cI aM 0 E vs B sz cd M fr tt na nb ta tb dl co he mi la b hB hb) gX4_compute_X4_isBlock rfl rfl rfl (by decide +kernel) ⟨Nat.le_of_ble_eq_true rfl, Nat.le_of_ble_eq_true rfl⟩ (q0 := 0) (ci := 4) rfl rfl rfl rfl rfl (Nat.le_of_ble_eq_true rfl) dX4_compute_7 ⟨Nat.le_of_ble_eq_true rfl, Nat.le_of_ble_eq_true rfl⟩ ?_
  refine y_ws (ws' := WM cI aM 0 E vs B sz cd M fr tt na nb ta tb dl co he mi la) rfl ?_
  refine y_ifN_eq C (tgt := 34) dX4_compute_10 (by decide) (by decide) (fun h => absurd h (by decide)) (fun _ => ?_)
  refine y_aload_n C 0 dX4_compute_13 rfl rfl ?_
  refine y_iload_n C 2 dX4_compute_14 rfl rfl ?_
  refine y_callI C (wr := []) 1 (c_X4_isExpression_ok l D cI aM 0 E vs B sz cd M fr tt na nb ta tb dl co he mi la k hE (by omega)) gX4_compute_X4_isExpression rfl rfl rfl (by decide +kernel) ⟨Nat.le_of_ble_eq_true rfl, Nat.le_of_ble_eq_true rfl⟩ (q0 := 0) (ci := 4) rfl rfl rfl rfl rfl (Nat.le_of_ble_eq_true rfl) dX4_compute_15 ⟨Nat.le_of_ble_eq_true rfl, Nat.le_of_ble_eq_true rfl⟩ ?_
  refine y_ws (ws' := WM cI aM 0 E vs B sz cd M fr tt na nb ta tb dl co he mi la) rfl ?_
  refine y_ifN_eq C (tgt := 34) dX4_compute_18 (by decide) (by decide) (fun h => absurd h (by decide)) (fun _ => ?_)
  refine y_aload_n C 0 dX4_compute_21 rfl rfl ?_
  refine y_iload_n C 1 dX4_compute_22 rfl rfl ?_
  refine y_iconst C (v := nI 3) dX4_compute_23 (by decide) ?_
  refine y_iload_n C 2 dX4_compute_24 rfl rfl ?_
  refine y_imulN C dX4_compute_25 ?_
  refine y_iconst C (v := nI 0) dX4_compute_26 (by decide) ?_
  refine y_iaddN C dX4_compute_27 ?_
  refine y_callI C (wr := []) 2 (c_X4_append_full l D cI aM 0 E vs B sz cd M fr tt na nb ta tb dl co he mi la b ((3 * k) + 0) (by omega) hs) gX4_compute_X4_append rfl rfl rfl (by decide +kernel) ⟨Nat.le_of_ble_eq_true rfl, Nat.le_of_ble_eq_true rfl⟩ (q0 := 0) (ci := 4) rfl rfl rfl rfl rfl (Nat.le_of_ble_eq_true rfl) dX4_compute_28 ⟨Nat.le_of_ble_eq_true rfl, Nat.le_of_ble_eq_true rfl⟩ ?_
  refine y_ws (ws' := WM cI aM 2 E vs B sz cd M fr tt na nb ta tb dl co he mi la) rfl ?_
  refine y_goto C (tgt := 39) dX4_compute_31 (by decide) ?_
  exact K _ _ _ _ _ dX4_compute_39 (rfl) (by decide) (by decide)
set_option maxHeartbeats 4000000 in
set_option maxRecDepth 100000 in
theorem c_X4_compute_badb (l : Launch) (D : va_G) (cI : ClassId) (aM : Nat → Nat) (th E : Nat) (vs : Nat → Int32) (B : Nat) (sz cd : Nat → Nat) (M : Nat) (fr tt : Nat → Nat) (na nb ta tb dl co he : Nat → Int32) (mi la : Int32) (b k : Int32) (hB : B ≤ 40) (hb : b < 0 ∨ nI B ≤ b) : ctI l yX4_compute wsX4_compute (rmD 2 0 0) D [(cI, .int)] [.ref (aM 0), .int b, .int k] (WM cI aM th E vs B sz cd M fr tt na nb ta tb dl co he mi la) (WM cI aM 1 E vs B sz cd M fr tt na nb ta tb dl co he mi la) (nI 0) 0 0 := by
  refine ctI_of (by decide) rfl (Nat.le_of_ble_eq_true rfl) ?_
  intro p e s m args below meth c A Q C hnm K
  refine y_lv (lv' := [(0, .ref (aM 0)), (1, .int b), (2, .int k)]) rfl ?_
  refine y_aload_n C 0 dX4_compute_0 rfl rfl ?_
  refine y_iconst C (v := nI 0) dX4_compute_1 (by decide) ?_
  refine y_put C in_X4_compute_4 tyX4 tyX4_ok nmX4 (ci := 4) rfl 0 (by decide) rfl (List.mem_of_getElem? (i := 1) rfl) 0 rfl rfl rfl (Nat.le_of_ble_eq_true rfl) (ws' := WM cI aM 0 E vs B sz cd M fr tt na nb ta tb dl co he mi la) rfl dX4_compute_2 ?_
  refine y_aload_n C 0 dX4_compute_5 rfl rfl ?_
  refine y_iload_n C 1 dX4_compute_6 rfl rfl ?_
  refine y_callI C (wr := []) 1 (c_X4_isBlock_bad l D cI aM 0 E vs B sz cd M fr tt na nb ta tb dl co he mi la b hB hb) gX4_compute_X4_isBlock rfl rfl rfl (by decide +kernel) ⟨Nat.le_of_ble_eq_true rfl, Nat.le_of_ble_eq_true rfl⟩ (q0 := 0) (ci := 4) rfl rfl rfl rfl rfl (Nat.le_of_ble_eq_true rfl) dX4_compute_7 ⟨Nat.le_of_ble_eq_true rfl, Nat.le_of_ble_eq_true rfl⟩ ?_
  refine y_ws (ws' := WM cI aM 0 E vs B sz cd M fr tt na nb ta tb dl co he mi la) rfl ?_
  refine y_ifN_eq C (tgt := 34) dX4_compute_10 (by decide) (by decide) (fun _ => ?_) (fun h => absurd h (by decide))
  refine y_aload_n C 0 dX4_compute_34 rfl rfl ?_
  refine y_iconst C (v := nI 1) dX4_compute_35 (by decide) ?_
  refine y_callI C (wr := []) 1 (c_X4_no l D cI aM 0 E vs B sz cd M fr tt na nb ta tb dl co he mi la 1) gX4_compute_X4_no rfl rfl rfl (by decide +kernel) ⟨Nat.le_of_ble_eq_true rfl, Nat.le_of_ble_eq_true rfl⟩ (q0 := 0) (ci := 4) rfl rfl rfl rfl rfl (Nat.le_of_ble_eq_true rfl) dX4_compute_36 ⟨Nat.le_of_ble_eq_true rfl, Nat.le_of_ble_eq_true rfl⟩ ?_
  refine y_ws (ws' := WM cI aM 1 E vs B sz cd M fr tt na nb ta tb dl co he mi la) rfl ?_
  exact K _ _ _ _ _ dX4_compute_39 (rfl) (by decide) (by decide)
set_option maxHeartbeats 4000000 in
set_option maxRecDepth 100000 in
theorem c_X4_compute_badk (l : Launch) (D : va_G) (cI : ClassId) (aM : Nat → Nat) (th E : Nat) (vs : Nat → Int32) (B : Nat) (sz cd : Nat → Nat) (M : Nat) (fr tt : Nat → Nat) (na nb ta tb dl co he : Nat → Int32) (mi la : Int32) (b : Nat) (k : Int32) (hB : B ≤ 40) (hE : E ≤ 8) (hb : b < B) (hk : k < 0 ∨ nI E ≤ k) : ctI l yX4_compute wsX4_compute (rmD 2 0 0) D [(cI, .int)] [.ref (aM 0), .int (nI b), .int k] (WM cI aM th E vs B sz cd M fr tt na nb ta tb dl co he mi la) (WM cI aM 1 E vs B sz cd M fr tt na nb ta tb dl co he mi la) (nI 0) 0 0 := by
  refine ctI_of (by decide) rfl (Nat.le_of_ble_eq_true rfl) ?_
  intro p e s m args below meth c A Q C hnm K
  refine y_lv (lv' := [(0, .ref (aM 0)), (1, .int (nI b)), (2, .int k)]) rfl ?_
  refine y_aload_n C 0 dX4_compute_0 rfl rfl ?_
  refine y_iconst C (v := nI 0) dX4_compute_1 (by decide) ?_
  refine y_put C in_X4_compute_4 tyX4 tyX4_ok nmX4 (ci := 4) rfl 0 (by decide) rfl (List.mem_of_getElem? (i := 1) rfl) 0 rfl rfl rfl (Nat.le_of_ble_eq_true rfl) (ws' := WM cI aM 0 E vs B sz cd M fr tt na nb ta tb dl co he mi la) rfl dX4_compute_2 ?_
  refine y_aload_n C 0 dX4_compute_5 rfl rfl ?_
  refine y_iload_n C 1 dX4_compute_6 rfl rfl ?_
  refine y_callI C (wr := []) 1 (c_X4_isBlock_ok l D cI aM 0 E vs B sz cd M fr tt na nb ta tb dl co he mi la b hB hb) gX4_compute_X4_isBlock rfl rfl rfl (by decide +kernel) ⟨Nat.le_of_ble_eq_true rfl, Nat.le_of_ble_eq_true rfl⟩ (q0 := 0) (ci := 4) rfl rfl rfl rfl rfl (Nat.le_of_ble_eq_true rfl) dX4_compute_7 ⟨Nat.le_of_ble_eq_true rfl, Nat.le_of_ble_eq_true rfl⟩ ?_
  refine y_ws (ws' := WM cI aM 0 E vs B sz cd M fr tt na nb ta tb dl co he mi la) rfl ?_
  refine y_ifN_eq C (tgt := 34) dX4_compute_10 (by decide) (by decide) (fun h => absurd h (by decide)) (fun _ => ?_)
  refine y_aload_n C 0 dX4_compute_13 rfl rfl ?_
  refine y_iload_n C 2 dX4_compute_14 rfl rfl ?_
  refine y_callI C (wr := []) 1 (c_X4_isExpression_bad l D cI aM 0 E vs B sz cd M fr tt na nb ta tb dl co he mi la k hE (hk)) gX4_compute_X4_isExpression rfl rfl rfl (by decide +kernel) ⟨Nat.le_of_ble_eq_true rfl, Nat.le_of_ble_eq_true rfl⟩ (q0 := 0) (ci := 4) rfl rfl rfl rfl rfl (Nat.le_of_ble_eq_true rfl) dX4_compute_15 ⟨Nat.le_of_ble_eq_true rfl, Nat.le_of_ble_eq_true rfl⟩ ?_
  refine y_ws (ws' := WM cI aM 0 E vs B sz cd M fr tt na nb ta tb dl co he mi la) rfl ?_
  refine y_ifN_eq C (tgt := 34) dX4_compute_18 (by decide) (by decide) (fun _ => ?_) (fun h => absurd h (by decide))
  refine y_aload_n C 0 dX4_compute_34 rfl rfl ?_
  refine y_iconst C (v := nI 1) dX4_compute_35 (by decide) ?_
  refine y_callI C (wr := []) 1 (c_X4_no l D cI aM 0 E vs B sz cd M fr tt na nb ta tb dl co he mi la 1) gX4_compute_X4_no rfl rfl rfl (by decide +kernel) ⟨Nat.le_of_ble_eq_true rfl, Nat.le_of_ble_eq_true rfl⟩ (q0 := 0) (ci := 4) rfl rfl rfl rfl rfl (Nat.le_of_ble_eq_true rfl) dX4_compute_36 ⟨Nat.le_of_ble_eq_true rfl, Nat.le_of_ble_eq_true rfl⟩ ?_
  refine y_ws (ws' := WM cI aM 1 E vs B sz cd M fr tt na nb ta tb dl co he mi la) rfl ?_
  exact K _ _ _ _ _ dX4_compute_39 (rfl) (by decide) (by decide)
theorem in_X4_use_4 : ∀ w ∈ wsX40, w ∈ wsX4_use := fun _ h => List.mem_cons_of_mem _ (List.mem_append_right _ h)
set_option maxHeartbeats 4000000 in
set_option maxRecDepth 100000 in
theorem c_X4_use_ok (l : Launch) (D : va_G) (cI : ClassId) (aM : Nat → Nat) (th E : Nat) (vs : Nat → Int32) (B : Nat) (sz cd : Nat → Nat) (M : Nat) (fr tt : Nat → Nat) (na nb ta tb dl co he : Nat → Int32) (mi la : Int32) (b k : Nat) (hB : B ≤ 40) (hE : E ≤ 8) (hb : b < B) (hk : k < E) (hs : sz b < 12) : ctI l yX4_use wsX4_use (rmD 2 0 0) D [(cI, .int)] [.ref (aM 0), .int (nI b), .int (nI k)] (WM cI aM th E vs B sz cd M fr tt na nb ta tb dl co he mi la) (WM cI aM 0 E vs B (upN sz b (sz b + 1)) (upN cd (12 * b + sz b) (3 * k + 1)) M fr tt na nb ta tb dl co he mi la) (nI (sz b + 1)) 0 0 := by
  refine ctI_of (by decide) rfl (Nat.le_of_ble_eq_true rfl) ?_
  intro p e s m args below meth c A Q C hnm K
  refine y_lv (lv' := [(0, .ref (aM 0)), (1, .int (nI b)), (2, .int (nI k))]) rfl ?_
  refine y_aload_n C 0 dX4_use_0 rfl rfl ?_
  refine y_iconst C (v := nI 0) dX4_use_1 (by decide) ?_
  refine y_put C in_X4_use_4 tyX4 tyX4_ok nmX4 (ci := 4) rfl 0 (by decide) rfl (List.mem_of_getElem? (i := 1) rfl) 0 rfl rfl rfl (Nat.le_of_ble_eq_true rfl) (ws' := WM cI aM 0 E vs B sz cd M fr tt na nb ta tb dl co he mi la) rfl dX4_use_2 ?_
  refine y_aload_n C 0 dX4_use_5 rfl rfl ?_
  refine y_iload_n C 1 dX4_use_6 rfl rfl ?_
  refine y_callI C (wr := []) 1 (c_X4_isBlock_ok l D cI aM 0 E vs B sz cd M fr tt na nb ta tb dl co he mi la b hB hb) gX4_use_X4_isBlock rfl rfl rfl (by decide +kernel) ⟨Nat.le_of_ble_eq_true rfl, Nat.le_of_ble_eq_true rfl⟩ (q0 := 0) (ci := 4) rfl rfl rfl rfl rfl (Nat.le_of_ble_eq_true rfl) dX4_use_7 ⟨Nat.le_of_ble_eq_true rfl, Nat.le_of_ble_eq_true rfl⟩ ?_
  refine y_ws (ws' := WM cI aM 0 E vs B sz cd M fr tt na nb ta tb dl co he mi la) rfl ?_
  refine y_ifN_eq C (tgt := 34) dX4_use_10 (by decide) (by decide) (fun h => absurd h (by decide)) (fun _ => ?_)
  refine y_aload_n C 0 dX4_use_13 rfl rfl ?_
  refine y_iload_n C 2 dX4_use_14 rfl rfl ?_
  refine y_callI C (wr := []) 1 (c_X4_isExpression_ok l D cI aM 0 E vs B sz cd M fr tt na nb ta tb dl co he mi la k hE (by omega)) gX4_use_X4_isExpression rfl rfl rfl (by decide +kernel) ⟨Nat.le_of_ble_eq_true rfl, Nat.le_of_ble_eq_true rfl⟩ (q0 := 0) (ci := 4) rfl rfl rfl rfl rfl (Nat.le_of_ble_eq_true rfl) dX4_use_15 ⟨Nat.le_of_ble_eq_true rfl, Nat.le_of_ble_eq_true rfl⟩ ?_
  refine y_ws (ws' := WM cI aM 0 E vs B sz cd M fr tt na nb ta tb dl co he mi la) rfl ?_
  refine y_ifN_eq C (tgt := 34) dX4_use_18 (by decide) (by decide) (fun h => absurd h (by decide)) (fun _ => ?_)
  refine y_aload_n C 0 dX4_use_21 rfl rfl ?_
  refine y_iload_n C 1 dX4_use_22 rfl rfl ?_
  refine y_iconst C (v := nI 3) dX4_use_23 (by decide) ?_
  refine y_iload_n C 2 dX4_use_24 rfl rfl ?_
  refine y_imulN C dX4_use_25 ?_
  refine y_iconst C (v := nI 1) dX4_use_26 (by decide) ?_
  refine y_iaddN C dX4_use_27 ?_
  refine y_callI C (wr := []) 2 (c_X4_append_ok l D cI aM 0 E vs B sz cd M fr tt na nb ta tb dl co he mi la b ((3 * k) + 1) (by omega) hs) gX4_use_X4_append rfl rfl rfl (by decide +kernel) ⟨Nat.le_of_ble_eq_true rfl, Nat.le_of_ble_eq_true rfl⟩ (q0 := 0) (ci := 4) rfl rfl rfl rfl rfl (Nat.le_of_ble_eq_true rfl) dX4_use_28 ⟨Nat.le_of_ble_eq_true rfl, Nat.le_of_ble_eq_true rfl⟩ ?_
  refine y_ws (ws' := WM cI aM 0 E vs B (upN sz b (sz b + 1)) (upN cd (12 * b + sz b) ((3 * k) + 1)) M fr tt na nb ta tb dl co he mi la) rfl ?_
  refine y_goto C (tgt := 39) dX4_use_31 (by decide) ?_
  exact K _ _ _ _ _ dX4_use_39 (rfl) (by decide) (by decide)
set_option maxHeartbeats 4000000 in
set_option maxRecDepth 100000 in
theorem c_X4_use_full (l : Launch) (D : va_G) (cI : ClassId) (aM : Nat → Nat) (th E : Nat) (vs : Nat → Int32) (B : Nat) (sz cd : Nat → Nat) (M : Nat) (fr tt : Nat → Nat) (na nb ta tb dl co he : Nat → Int32) (mi la : Int32) (b k : Nat) (hB : B ≤ 40) (hE : E ≤ 8) (hb : b < B) (hk : k < E) (hs : sz b = 12) : ctI l yX4_use wsX4_use (rmD 2 0 0) D [(cI, .int)] [.ref (aM 0), .int (nI b), .int (nI k)] (WM cI aM th E vs B sz cd M fr tt na nb ta tb dl co he mi la) (WM cI aM 2 E vs B sz cd M fr tt na nb ta tb dl co he mi la) (nI 0) 0 0 := by
  refine ctI_of (by decide) rfl (Nat.le_of_ble_eq_true rfl) ?_
  intro p e s m args below meth c A Q C hnm K
  refine y_lv (lv' := [(0, .ref (aM 0)), (1, .int (nI b)), (2, .int (nI k))]) rfl ?_
  refine y_aload_n C 0 dX4_use_0 rfl rfl ?_
  refine y_iconst C (v := nI 0) dX4_use_1 (by decide) ?_
  refine y_put C in_X4_use_4 tyX4 tyX4_ok nmX4 (ci := 4) rfl 0 (by decide) rfl (List.mem_of_getElem? (i := 1) rfl) 0 rfl rfl rfl (Nat.le_of_ble_eq_true rfl) (ws' := WM cI aM 0 E vs B sz cd M fr tt na nb ta tb dl co he mi la) rfl dX4_use_2 ?_
  refine y_aload_n C 0 dX4_use_5 rfl rfl ?_
  refine y_iload_n C 1 dX4_use_6 rfl rfl ?_
  refine y_callI C (wr := []) 1 (c_X4_isBlock_ok l D cI aM 0 E vs B sz cd M fr tt na nb ta tb dl co he mi la b hB hb) gX4_use_X4_isBlock rfl rfl rfl (by decide +kernel) ⟨Nat.le_of_ble_eq_true rfl, Nat.le_of_ble_eq_true rfl⟩ (q0 := 0) (ci := 4) rfl rfl rfl rfl rfl (Nat.le_of_ble_eq_true rfl) dX4_use_7 ⟨Nat.le_of_ble_eq_true rfl, Nat.le_of_ble_eq_true rfl⟩ ?_
  refine y_ws (ws' := WM cI aM 0 E vs B sz cd M fr tt na nb ta tb dl co he mi la) rfl ?_
  refine y_ifN_eq C (tgt := 34) dX4_use_10 (by decide) (by decide) (fun h => absurd h (by decide)) (fun _ => ?_)
  refine y_aload_n C 0 dX4_use_13 rfl rfl ?_
  refine y_iload_n C 2 dX4_use_14 rfl rfl ?_
  refine y_callI C (wr := []) 1 (c_X4_isExpression_ok l D cI aM 0 E vs B sz cd M fr tt na nb ta tb dl co he mi la k hE (by omega)) gX4_use_X4_isExpression rfl rfl rfl (by decide +kernel) ⟨Nat.le_of_ble_eq_true rfl, Nat.le_of_ble_eq_true rfl⟩ (q0 := 0) (ci := 4) rfl rfl rfl rfl rfl (Nat.le_of_ble_eq_true rfl) dX4_use_15 ⟨Nat.le_of_ble_eq_true rfl, Nat.le_of_ble_eq_true rfl⟩ ?_
  refine y_ws (ws' := WM cI aM 0 E vs B sz cd M fr tt na nb ta tb dl co he mi la) rfl ?_
  refine y_ifN_eq C (tgt := 34) dX4_use_18 (by decide) (by decide) (fun h => absurd h (by decide)) (fun _ => ?_)
  refine y_aload_n C 0 dX4_use_21 rfl rfl ?_
  refine y_iload_n C 1 dX4_use_22 rfl rfl ?_
  refine y_iconst C (v := nI 3) dX4_use_23 (by decide) ?_
  refine y_iload_n C 2 dX4_use_24 rfl rfl ?_
  refine y_imulN C dX4_use_25 ?_
  refine y_iconst C (v := nI 1) dX4_use_26 (by decide) ?_
  refine y_iaddN C dX4_use_27 ?_
  refine y_callI C (wr := []) 2 (c_X4_append_full l D cI aM 0 E vs B sz cd M fr tt na nb ta tb dl co he mi la b ((3 * k) + 1) (by omega) hs) gX4_use_X4_append rfl rfl rfl (by decide +kernel) ⟨Nat.le_of_ble_eq_true rfl, Nat.le_of_ble_eq_true rfl⟩ (q0 := 0) (ci := 4) rfl rfl rfl rfl rfl (Nat.le_of_ble_eq_true rfl) dX4_use_28 ⟨Nat.le_of_ble_eq_true rfl, Nat.le_of_ble_eq_true rfl⟩ ?_
  refine y_ws (ws' := WM cI aM 2 E vs B sz cd M fr tt na nb ta tb dl co he mi la) rfl ?_
  refine y_goto C (tgt := 39) dX4_use_31 (by decide) ?_
  exact K _ _ _ _ _ dX4_use_39 (rfl) (by decide) (by decide)
set_option maxHeartbeats 4000000 in
set_option maxRecDepth 100000 in
theorem c_X4_use_badb (l : Launch) (D : va_G) (cI : ClassId) (aM : Nat → Nat) (th E : Nat) (vs : Nat → Int32) (B : Nat) (sz cd : Nat → Nat) (M : Nat) (fr tt : Nat → Nat) (na nb ta tb dl co he : Nat → Int32) (mi la : Int32) (b k : Int32) (hB : B ≤ 40) (hb : b < 0 ∨ nI B ≤ b) : ctI l yX4_use wsX4_use (rmD 2 0 0) D [(cI, .int)] [.ref (aM 0), .int b, .int k] (WM cI aM th E vs B sz cd M fr tt na nb ta tb dl co he mi la) (WM cI aM 1 E vs B sz cd M fr tt na nb ta tb dl co he mi la) (nI 0) 0 0 := by
  refine ctI_of (by decide) rfl (Nat.le_of_ble_eq_true rfl) ?_
  intro p e s m args below meth c A Q C hnm K
  refine y_lv (lv' := [(0, .ref (aM 0)), (1, .int b), (2, .int k)]) rfl ?_
  refine y_aload_n C 0 dX4_use_0 rfl rfl ?_
  refine y_iconst C (v := nI 0) dX4_use_1 (by decide) ?_
  refine y_put C in_X4_use_4 tyX4 tyX4_ok nmX4 (ci := 4) rfl 0 (by decide) rfl (List.mem_of_getElem? (i := 1) rfl) 0 rfl rfl rfl (Nat.le_of_ble_eq_true rfl) (ws' := WM cI aM 0 E vs B sz cd M fr tt na nb ta tb dl co he mi la) rfl dX4_use_2 ?_
  refine y_aload_n C 0 dX4_use_5 rfl rfl ?_
  refine y_iload_n C 1 dX4_use_6 rfl rfl ?_
  refine y_callI C (wr := []) 1 (c_X4_isBlock_bad l D cI aM 0 E vs B sz cd M fr tt na nb ta tb dl co he mi la b hB hb) gX4_use_X4_isBlock rfl rfl rfl (by decide +kernel) ⟨Nat.le_of_ble_eq_true rfl, Nat.le_of_ble_eq_true rfl⟩ (q0 := 0) (ci := 4) rfl rfl rfl rfl rfl (Nat.le_of_ble_eq_true rfl) dX4_use_7 ⟨Nat.le_of_ble_eq_true rfl, Nat.le_of_ble_eq_true rfl⟩ ?_
  refine y_ws (ws' := WM cI aM 0 E vs B sz cd M fr tt na nb ta tb dl co he mi la) rfl ?_
  refine y_ifN_eq C (tgt := 34) dX4_use_10 (by decide) (by decide) (fun _ => ?_) (fun h => absurd h (by decide))
  refine y_aload_n C 0 dX4_use_34 rfl rfl ?_
  refine y_iconst C (v := nI 1) dX4_use_35 (by decide) ?_
  refine y_callI C (wr := []) 1 (c_X4_no l D cI aM 0 E vs B sz cd M fr tt na nb ta tb dl co he mi la 1) gX4_use_X4_no rfl rfl rfl (by decide +kernel) ⟨Nat.le_of_ble_eq_true rfl, Nat.le_of_ble_eq_true rfl⟩ (q0 := 0) (ci := 4) rfl rfl rfl rfl rfl (Nat.le_of_ble_eq_true rfl) dX4_use_36 ⟨Nat.le_of_ble_eq_true rfl, Nat.le_of_ble_eq_true rfl⟩ ?_
  refine y_ws (ws' := WM cI aM 1 E vs B sz cd M fr tt na nb ta tb dl co he mi la) rfl ?_
  exact K _ _ _ _ _ dX4_use_39 (rfl) (by decide) (by decide)
set_option maxHeartbeats 4000000 in
set_option maxRecDepth 100000 in
theorem c_X4_use_badk (l : Launch) (D : va_G) (cI : ClassId) (aM : Nat → Nat) (th E : Nat) (vs : Nat → Int32) (B : Nat) (sz cd : Nat → Nat) (M : Nat) (fr tt : Nat → Nat) (na nb ta tb dl co he : Nat → Int32) (mi la : Int32) (b : Nat) (k : Int32) (hB : B ≤ 40) (hE : E ≤ 8) (hb : b < B) (hk : k < 0 ∨ nI E ≤ k) : ctI l yX4_use wsX4_use (rmD 2 0 0) D [(cI, .int)] [.ref (aM 0), .int (nI b), .int k] (WM cI aM th E vs B sz cd M fr tt na nb ta tb dl co he mi la) (WM cI aM 1 E vs B sz cd M fr tt na nb ta tb dl co he mi la) (nI 0) 0 0 := by
  refine ctI_of (by decide) rfl (Nat.le_of_ble_eq_true rfl) ?_
  intro p e s m args below meth c A Q C hnm K
  refine y_lv (lv' := [(0, .ref (aM 0)), (1, .int (nI b)), (2, .int k)]) rfl ?_
  refine y_aload_n C 0 dX4_use_0 rfl rfl ?_
  refine y_iconst C (v := nI 0) dX4_use_1 (by decide) ?_
  refine y_put C in_X4_use_4 tyX4 tyX4_ok nmX4 (ci := 4) rfl 0 (by decide) rfl (List.mem_of_getElem? (i := 1) rfl) 0 rfl rfl rfl (Nat.le_of_ble_eq_true rfl) (ws' := WM cI aM 0 E vs B sz cd M fr tt na nb ta tb dl co he mi la) rfl dX4_use_2 ?_
  refine y_aload_n C 0 dX4_use_5 rfl rfl ?_
  refine y_iload_n C 1 dX4_use_6 rfl rfl ?_
  refine y_callI C (wr := []) 1 (c_X4_isBlock_ok l D cI aM 0 E vs B sz cd M fr tt na nb ta tb dl co he mi la b hB hb) gX4_use_X4_isBlock rfl rfl rfl (by decide +kernel) ⟨Nat.le_of_ble_eq_true rfl, Nat.le_of_ble_eq_true rfl⟩ (q0 := 0) (ci := 4) rfl rfl rfl rfl rfl (Nat.le_of_ble_eq_true rfl) dX4_use_7 ⟨Nat.le_of_ble_eq_true rfl, Nat.le_of_ble_eq_true rfl⟩ ?_
  refine y_ws (ws' := WM cI aM 0 E vs B sz cd M fr tt na nb ta tb dl co he mi la) rfl ?_
  refine y_ifN_eq C (tgt := 34) dX4_use_10 (by decide) (by decide) (fun h => absurd h (by decide)) (fun _ => ?_)
  refine y_aload_n C 0 dX4_use_13 rfl rfl ?_
  refine y_iload_n C 2 dX4_use_14 rfl rfl ?_
  refine y_callI C (wr := []) 1 (c_X4_isExpression_bad l D cI aM 0 E vs B sz cd M fr tt na nb ta tb dl co he mi la k hE (hk)) gX4_use_X4_isExpression rfl rfl rfl (by decide +kernel) ⟨Nat.le_of_ble_eq_true rfl, Nat.le_of_ble_eq_true rfl⟩ (q0 := 0) (ci := 4) rfl rfl rfl rfl rfl (Nat.le_of_ble_eq_true rfl) dX4_use_15 ⟨Nat.le_of_ble_eq_true rfl, Nat.le_of_ble_eq_true rfl⟩ ?_
  refine y_ws (ws' := WM cI aM 0 E vs B sz cd M fr tt na nb ta tb dl co he mi la) rfl ?_
  refine y_ifN_eq C (tgt := 34) dX4_use_18 (by decide) (by decide) (fun _ => ?_) (fun h => absurd h (by decide))
  refine y_aload_n C 0 dX4_use_34 rfl rfl ?_
  refine y_iconst C (v := nI 1) dX4_use_35 (by decide) ?_
  refine y_callI C (wr := []) 1 (c_X4_no l D cI aM 0 E vs B sz cd M fr tt na nb ta tb dl co he mi la 1) gX4_use_X4_no rfl rfl rfl (by decide +kernel) ⟨Nat.le_of_ble_eq_true rfl, Nat.le_of_ble_eq_true rfl⟩ (q0 := 0) (ci := 4) rfl rfl rfl rfl rfl (Nat.le_of_ble_eq_true rfl) dX4_use_36 ⟨Nat.le_of_ble_eq_true rfl, Nat.le_of_ble_eq_true rfl⟩ ?_
  refine y_ws (ws' := WM cI aM 1 E vs B sz cd M fr tt na nb ta tb dl co he mi la) rfl ?_
  exact K _ _ _ _ _ dX4_use_39 (rfl) (by decide) (by decide)
theorem in_X4_assign_4 : ∀ w ∈ wsX40, w ∈ wsX4_assign := fun _ h => List.mem_cons_of_mem _ (List.mem_append_right _ h)
set_option maxHeartbeats 4000000 in
set_option maxRecDepth 100000 in
theorem c_X4_assign_ok (l : Launch) (D : va_G) (cI : ClassId) (aM : Nat → Nat) (th E : Nat) (vs : Nat → Int32) (B : Nat) (sz cd : Nat → Nat) (M : Nat) (fr tt : Nat → Nat) (na nb ta tb dl co he : Nat → Int32) (mi la : Int32) (b k : Nat) (hB : B ≤ 40) (hb : b < B) (hk : k < 6) (hs : sz b < 12) : ctI l yX4_assign wsX4_assign (rmD 2 0 0) D [(cI, .int)] [.ref (aM 0), .int (nI b), .int (nI k)] (WM cI aM th E vs B sz cd M fr tt na nb ta tb dl co he mi la) (WM cI aM 0 E vs B (upN sz b (sz b + 1)) (upN cd (12 * b + sz b) (3 * k + 2)) M fr tt na nb ta tb dl co he mi la) (nI (sz b + 1)) 0 0 := by
  refine ctI_of (by decide) rfl (Nat.le_of_ble_eq_true rfl) ?_
  intro p e s m args below meth c A Q C hnm K
  refine y_lv (lv' := [(0, .ref (aM 0)), (1, .int (nI b)), (2, .int (nI k))]) rfl ?_
  refine y_aload_n C 0 dX4_assign_0 rfl rfl ?_
  refine y_iconst C (v := nI 0) dX4_assign_1 (by decide) ?_
  refine y_put C in_X4_assign_4 tyX4 tyX4_ok nmX4 (ci := 4) rfl 0 (by decide) rfl (List.mem_of_getElem? (i := 1) rfl) 0 rfl rfl rfl (Nat.le_of_ble_eq_true rfl) (ws' := WM cI aM 0 E vs B sz cd M fr tt na nb ta tb dl co he mi la) rfl dX4_assign_2 ?_
  refine y_aload_n C 0 dX4_assign_5 rfl rfl ?_
  refine y_iload_n C 1 dX4_assign_6 rfl rfl ?_
  refine y_callI C (wr := []) 1 (c_X4_isBlock_ok l D cI aM 0 E vs B sz cd M fr tt na nb ta tb dl co he mi la b hB hb) gX4_assign_X4_isBlock rfl rfl rfl (by decide +kernel) ⟨Nat.le_of_ble_eq_true rfl, Nat.le_of_ble_eq_true rfl⟩ (q0 := 0) (ci := 4) rfl rfl rfl rfl rfl (Nat.le_of_ble_eq_true rfl) dX4_assign_7 ⟨Nat.le_of_ble_eq_true rfl, Nat.le_of_ble_eq_true rfl⟩ ?_
  refine y_ws (ws' := WM cI aM 0 E vs B sz cd M fr tt na nb ta tb dl co he mi la) rfl ?_
  refine y_ifN_eq C (tgt := 36) dX4_assign_10 (by decide) (by decide) (fun h => absurd h (by decide)) (fun _ => ?_)
  refine y_iload_n C 2 dX4_assign_13 rfl rfl ?_
  refine y_ifN_lt C (tgt := 36) dX4_assign_14 (by decide) (by omega) ?_
  refine y_iload_n C 2 dX4_assign_17 rfl rfl ?_
  refine y_bipush C (v := nI 6) dX4_assign_18 (by decide) ?_
  refine y_icmpN_ge C (tgt := 36) dX4_assign_20 (by decide) (by omega) (by omega) (fun h20 => ?_) (fun h20 => ?_)
  · skip
    exact absurd h20 (by omega)
  · skip
    refine y_aload_n C 0 dX4_assign_23 rfl rfl ?_
    refine y_iload_n C 1 dX4_assign_24 rfl rfl ?_
    refine y_iconst C (v := nI 3) dX4_assign_25 (by decide) ?_
    refine y_iload_n C 2 dX4_assign_26 rfl rfl ?_
    refine y_imulN C dX4_assign_27 ?_
    refine y_iconst C (v := nI 2) dX4_assign_28 (by decide) ?_
    refine y_iaddN C dX4_assign_29 ?_
    refine y_callI C (wr := []) 2 (c_X4_append_ok l D cI aM 0 E vs B sz cd M fr tt na nb ta tb dl co he mi la b ((3 * k) + 2) (by omega) hs) gX4_assign_X4_append rfl rfl rfl (by decide +kernel) ⟨Nat.le_of_ble_eq_true rfl, Nat.le_of_ble_eq_true rfl⟩ (q0 := 0) (ci := 4) rfl rfl rfl rfl rfl (Nat.le_of_ble_eq_true rfl) dX4_assign_30 ⟨Nat.le_of_ble_eq_true rfl, Nat.le_of_ble_eq_true rfl⟩ ?_
    refine y_ws (ws' := WM cI aM 0 E vs B (upN sz b (sz b + 1)) (upN cd (12 * b + sz b) ((3 * k) + 2)) M fr tt na nb ta tb dl co he mi la) rfl ?_
    refine y_goto C (tgt := 41) dX4_assign_33 (by decide) ?_
    exact K _ _ _ _ _ dX4_assign_41 (rfl) (by decide) (by decide)
set_option maxHeartbeats 4000000 in
set_option maxRecDepth 100000 in
theorem c_X4_assign_full (l : Launch) (D : va_G) (cI : ClassId) (aM : Nat → Nat) (th E : Nat) (vs : Nat → Int32) (B : Nat) (sz cd : Nat → Nat) (M : Nat) (fr tt : Nat → Nat) (na nb ta tb dl co he : Nat → Int32) (mi la : Int32) (b k : Nat) (hB : B ≤ 40) (hb : b < B) (hk : k < 6) (hs : sz b = 12) : ctI l yX4_assign wsX4_assign (rmD 2 0 0) D [(cI, .int)] [.ref (aM 0), .int (nI b), .int (nI k)] (WM cI aM th E vs B sz cd M fr tt na nb ta tb dl co he mi la) (WM cI aM 2 E vs B sz cd M fr tt na nb ta tb dl co he mi la) (nI 0) 0 0 := by
  refine ctI_of (by decide) rfl (Nat.le_of_ble_eq_true rfl) ?_
  intro p e s m args below meth c A Q C hnm K
  refine y_lv (lv' := [(0, .ref (aM 0)), (1, .int (nI b)), (2, .int (nI k))]) rfl ?_
  refine y_aload_n C 0 dX4_assign_0 rfl rfl ?_
  refine y_iconst C (v := nI 0) dX4_assign_1 (by decide) ?_
  refine y_put C in_X4_assign_4 tyX4 tyX4_ok nmX4 (ci := 4) rfl 0 (by decide) rfl (List.mem_of_getElem? (i := 1) rfl) 0 rfl rfl rfl (Nat.le_of_ble_eq_true rfl) (ws' := WM cI aM 0 E vs B sz cd M fr tt na nb ta tb dl co he mi la) rfl dX4_assign_2 ?_
  refine y_aload_n C 0 dX4_assign_5 rfl rfl ?_
  refine y_iload_n C 1 dX4_assign_6 rfl rfl ?_
  refine y_callI C (wr := []) 1 (c_X4_isBlock_ok l D cI aM 0 E vs B sz cd M fr tt na nb ta tb dl co he mi la b hB hb) gX4_assign_X4_isBlock rfl rfl rfl (by decide +kernel) ⟨Nat.le_of_ble_eq_true rfl, Nat.le_of_ble_eq_true rfl⟩ (q0 := 0) (ci := 4) rfl rfl rfl rfl rfl (Nat.le_of_ble_eq_true rfl) dX4_assign_7 ⟨Nat.le_of_ble_eq_true rfl, Nat.le_of_ble_eq_true rfl⟩ ?_
  refine y_ws (ws' := WM cI aM 0 E vs B sz cd M fr tt na nb ta tb dl co he mi la) rfl ?_
  refine y_ifN_eq C (tgt := 36) dX4_assign_10 (by decide) (by decide) (fun h => absurd h (by decide)) (fun _ => ?_)
  refine y_iload_n C 2 dX4_assign_13 rfl rfl ?_
  refine y_ifN_lt C (tgt := 36) dX4_assign_14 (by decide) (by omega) ?_
  refine y_iload_n C 2 dX4_assign_17 rfl rfl ?_
  refine y_bipush C (v := nI 6) dX4_assign_18 (by decide) ?_
  refine y_icmpN_ge C (tgt := 36) dX4_assign_20 (by decide) (by omega) (by omega) (fun h20 => ?_) (fun h20 => ?_)
  · skip
    exact absurd h20 (by omega)
  · skip
    refine y_aload_n C 0 dX4_assign_23 rfl rfl ?_
    refine y_iload_n C 1 dX4_assign_24 rfl rfl ?_
    refine y_iconst C (v := nI 3) dX4_assign_25 (by decide) ?_
    refine y_iload_n C 2 dX4_assign_26 rfl rfl ?_
    refine y_imulN C dX4_assign_27 ?_
    refine y_iconst C (v := nI 2) dX4_assign_28 (by decide) ?_
    refine y_iaddN C dX4_assign_29 ?_
    refine y_callI C (wr := []) 2 (c_X4_append_full l D cI aM 0 E vs B sz cd M fr tt na nb ta tb dl co he mi la b ((3 * k) + 2) (by omega) hs) gX4_assign_X4_append rfl rfl rfl (by decide +kernel) ⟨Nat.le_of_ble_eq_true rfl, Nat.le_of_ble_eq_true rfl⟩ (q0 := 0) (ci := 4) rfl rfl rfl rfl rfl (Nat.le_of_ble_eq_true rfl) dX4_assign_30 ⟨Nat.le_of_ble_eq_true rfl, Nat.le_of_ble_eq_true rfl⟩ ?_
    refine y_ws (ws' := WM cI aM 2 E vs B sz cd M fr tt na nb ta tb dl co he mi la) rfl ?_
    refine y_goto C (tgt := 41) dX4_assign_33 (by decide) ?_
    exact K _ _ _ _ _ dX4_assign_41 (rfl) (by decide) (by decide)
set_option maxHeartbeats 4000000 in
set_option maxRecDepth 100000 in
theorem c_X4_assign_badb (l : Launch) (D : va_G) (cI : ClassId) (aM : Nat → Nat) (th E : Nat) (vs : Nat → Int32) (B : Nat) (sz cd : Nat → Nat) (M : Nat) (fr tt : Nat → Nat) (na nb ta tb dl co he : Nat → Int32) (mi la : Int32) (b k : Int32) (hB : B ≤ 40) (hb : b < 0 ∨ nI B ≤ b) : ctI l yX4_assign wsX4_assign (rmD 2 0 0) D [(cI, .int)] [.ref (aM 0), .int b, .int k] (WM cI aM th E vs B sz cd M fr tt na nb ta tb dl co he mi la) (WM cI aM 1 E vs B sz cd M fr tt na nb ta tb dl co he mi la) (nI 0) 0 0 := by
  refine ctI_of (by decide) rfl (Nat.le_of_ble_eq_true rfl) ?_
  intro p e s m args below meth c A Q C hnm K
  refine y_lv (lv' := [(0, .ref (aM 0)), (1, .int b), (2, .int k)]) rfl ?_
  refine y_aload_n C 0 dX4_assign_0 rfl rfl ?_
  refine y_iconst C (v := nI 0) dX4_assign_1 (by decide) ?_
  refine y_put C in_X4_assign_4 tyX4 tyX4_ok nmX4 (ci := 4) rfl 0 (by decide) rfl (List.mem_of_getElem? (i := 1) rfl) 0 rfl rfl rfl (Nat.le_of_ble_eq_true rfl) (ws' := WM cI aM 0 E vs B sz cd M fr tt na nb ta tb dl co he mi la) rfl dX4_assign_2 ?_
  refine y_aload_n C 0 dX4_assign_5 rfl rfl ?_
  refine y_iload_n C 1 dX4_assign_6 rfl rfl ?_
  refine y_callI C (wr := []) 1 (c_X4_isBlock_bad l D cI aM 0 E vs B sz cd M fr tt na nb ta tb dl co he mi la b hB hb) gX4_assign_X4_isBlock rfl rfl rfl (by decide +kernel) ⟨Nat.le_of_ble_eq_true rfl, Nat.le_of_ble_eq_true rfl⟩ (q0 := 0) (ci := 4) rfl rfl rfl rfl rfl (Nat.le_of_ble_eq_true rfl) dX4_assign_7 ⟨Nat.le_of_ble_eq_true rfl, Nat.le_of_ble_eq_true rfl⟩ ?_
  refine y_ws (ws' := WM cI aM 0 E vs B sz cd M fr tt na nb ta tb dl co he mi la) rfl ?_
  refine y_ifN_eq C (tgt := 36) dX4_assign_10 (by decide) (by decide) (fun _ => ?_) (fun h => absurd h (by decide))
  refine y_aload_n C 0 dX4_assign_36 rfl rfl ?_
  refine y_iconst C (v := nI 1) dX4_assign_37 (by decide) ?_
  refine y_callI C (wr := []) 1 (c_X4_no l D cI aM 0 E vs B sz cd M fr tt na nb ta tb dl co he mi la 1) gX4_assign_X4_no rfl rfl rfl (by decide +kernel) ⟨Nat.le_of_ble_eq_true rfl, Nat.le_of_ble_eq_true rfl⟩ (q0 := 0) (ci := 4) rfl rfl rfl rfl rfl (Nat.le_of_ble_eq_true rfl) dX4_assign_38 ⟨Nat.le_of_ble_eq_true rfl, Nat.le_of_ble_eq_true rfl⟩ ?_
  refine y_ws (ws' := WM cI aM 1 E vs B sz cd M fr tt na nb ta tb dl co he mi la) rfl ?_
  exact K _ _ _ _ _ dX4_assign_41 (rfl) (by decide) (by decide)
set_option maxHeartbeats 4000000 in
set_option maxRecDepth 100000 in
theorem c_X4_assign_badk (l : Launch) (D : va_G) (cI : ClassId) (aM : Nat → Nat) (th E : Nat) (vs : Nat → Int32) (B : Nat) (sz cd : Nat → Nat) (M : Nat) (fr tt : Nat → Nat) (na nb ta tb dl co he : Nat → Int32) (mi la : Int32) (b : Nat) (k : Int32) (hB : B ≤ 40) (hb : b < B) (hk : k < 0 ∨ nI 6 ≤ k) : ctI l yX4_assign wsX4_assign (rmD 2 0 0) D [(cI, .int)] [.ref (aM 0), .int (nI b), .int k] (WM cI aM th E vs B sz cd M fr tt na nb ta tb dl co he mi la) (WM cI aM 1 E vs B sz cd M fr tt na nb ta tb dl co he mi la) (nI 0) 0 0 := by
  refine ctI_of (by decide) rfl (Nat.le_of_ble_eq_true rfl) ?_
  intro p e s m args below meth c A Q C hnm K
  refine y_lv (lv' := [(0, .ref (aM 0)), (1, .int (nI b)), (2, .int k)]) rfl ?_
  refine y_aload_n C 0 dX4_assign_0 rfl rfl ?_
  refine y_iconst C (v := nI 0) dX4_assign_1 (by decide) ?_
  refine y_put C in_X4_assign_4 tyX4 tyX4_ok nmX4 (ci := 4) rfl 0 (by decide) rfl (List.mem_of_getElem? (i := 1) rfl) 0 rfl rfl rfl (Nat.le_of_ble_eq_true rfl) (ws' := WM cI aM 0 E vs B sz cd M fr tt na nb ta tb dl co he mi la) rfl dX4_assign_2 ?_
  refine y_aload_n C 0 dX4_assign_5 rfl rfl ?_
  refine y_iload_n C 1 dX4_assign_6 rfl rfl ?_
  refine y_callI C (wr := []) 1 (c_X4_isBlock_ok l D cI aM 0 E vs B sz cd M fr tt na nb ta tb dl co he mi la b hB hb) gX4_assign_X4_isBlock rfl rfl rfl (by decide +kernel) ⟨Nat.le_of_ble_eq_true rfl, Nat.le_of_ble_eq_true rfl⟩ (q0 := 0) (ci := 4) rfl rfl rfl rfl rfl (Nat.le_of_ble_eq_true rfl) dX4_assign_7 ⟨Nat.le_of_ble_eq_true rfl, Nat.le_of_ble_eq_true rfl⟩ ?_
  refine y_ws (ws' := WM cI aM 0 E vs B sz cd M fr tt na nb ta tb dl co he mi la) rfl ?_
  refine y_ifN_eq C (tgt := 36) dX4_assign_10 (by decide) (by decide) (fun h => absurd h (by decide)) (fun _ => ?_)
  refine y_iload_n C 2 dX4_assign_13 rfl rfl ?_
  refine y_if_lt C (tgt := 36) dX4_assign_14 (by decide)  (fun h14 => ?_) (fun h14 => ?_)
  · skip
    refine y_aload_n C 0 dX4_assign_36 rfl rfl ?_
    refine y_iconst C (v := nI 1) dX4_assign_37 (by decide) ?_
    refine y_callI C (wr := []) 1 (c_X4_no l D cI aM 0 E vs B sz cd M fr tt na nb ta tb dl co he mi la 1) gX4_assign_X4_no rfl rfl rfl (by decide +kernel) ⟨Nat.le_of_ble_eq_true rfl, Nat.le_of_ble_eq_true rfl⟩ (q0 := 0) (ci := 4) rfl rfl rfl rfl rfl (Nat.le_of_ble_eq_true rfl) dX4_assign_38 ⟨Nat.le_of_ble_eq_true rfl, Nat.le_of_ble_eq_true rfl⟩ ?_
    refine y_ws (ws' := WM cI aM 1 E vs B sz cd M fr tt na nb ta tb dl co he mi la) rfl ?_
    exact K _ _ _ _ _ dX4_assign_41 (rfl) (by decide) (by decide)
  · skip
    refine y_iload_n C 2 dX4_assign_17 rfl rfl ?_
    refine y_bipush C (v := nI 6) dX4_assign_18 (by decide) ?_
    refine y_icmp_ge C (tgt := 36) dX4_assign_20 (by decide)  (fun h20 => ?_) (fun h20 => ?_)
    · skip
      refine y_aload_n C 0 dX4_assign_36 rfl rfl ?_
      refine y_iconst C (v := nI 1) dX4_assign_37 (by decide) ?_
      refine y_callI C (wr := []) 1 (c_X4_no l D cI aM 0 E vs B sz cd M fr tt na nb ta tb dl co he mi la 1) gX4_assign_X4_no rfl rfl rfl (by decide +kernel) ⟨Nat.le_of_ble_eq_true rfl, Nat.le_of_ble_eq_true rfl⟩ (q0 := 0) (ci := 4) rfl rfl rfl rfl rfl (Nat.le_of_ble_eq_true rfl) dX4_assign_38 ⟨Nat.le_of_ble_eq_true rfl, Nat.le_of_ble_eq_true rfl⟩ ?_
      refine y_ws (ws' := WM cI aM 1 E vs B sz cd M fr tt na nb ta tb dl co he mi la) rfl ?_
      exact K _ _ _ _ _ dX4_assign_41 (rfl) (by decide) (by decide)
    · skip
      exact absurd hk (fun q => q.elim h14 h20)
theorem in_X4_drop_4 : ∀ w ∈ wsX40, w ∈ wsX4_drop := fun _ h => List.mem_cons_of_mem _ (List.mem_append_right _ h)
set_option maxHeartbeats 4000000 in
set_option maxRecDepth 100000 in
theorem c_X4_drop_ok (l : Launch) (D : va_G) (cI : ClassId) (aM : Nat → Nat) (th E : Nat) (vs : Nat → Int32) (B : Nat) (sz cd : Nat → Nat) (M : Nat) (fr tt : Nat → Nat) (na nb ta tb dl co he : Nat → Int32) (mi la : Int32) (b : Nat) (hB : B ≤ 40) (hsz : ∀ j, sz j ≤ 12) (hb : b < B) (hs : sz b ≠ 0) : ctI l yX4_drop wsX4_drop (rmD 1 0 0) D [(cI, .int)] [.ref (aM 0), .int (nI b)] (WM cI aM th E vs B sz cd M fr tt na nb ta tb dl co he mi la) (WM cI aM 0 E vs B (upN sz b (sz b - 1)) cd M fr tt na nb ta tb dl co he mi la) (nI (sz b - 1)) 0 0 := by
  refine ctI_of (by decide) rfl (Nat.le_of_ble_eq_true rfl) ?_
  intro p e s m args below meth c A Q C hnm K
  refine y_lv (lv' := [(0, .ref (aM 0)), (1, .int (nI b))]) rfl ?_
  refine y_aload_n C 0 dX4_drop_0 rfl rfl ?_
  refine y_iconst C (v := nI 0) dX4_drop_1 (by decide) ?_
  refine y_put C in_X4_drop_4 tyX4 tyX4_ok nmX4 (ci := 4) rfl 0 (by decide) rfl (List.mem_of_getElem? (i := 1) rfl) 0 rfl rfl rfl (Nat.le_of_ble_eq_true rfl) (ws' := WM cI aM 0 E vs B sz cd M fr tt na nb ta tb dl co he mi la) rfl dX4_drop_2 ?_
  refine y_aload_n C 0 dX4_drop_5 rfl rfl ?_
  refine y_iload_n C 1 dX4_drop_6 rfl rfl ?_
  refine y_callI C (wr := []) 1 (c_X4_isBlock_ok l D cI aM 0 E vs B sz cd M fr tt na nb ta tb dl co he mi la b hB hb) gX4_drop_X4_isBlock rfl rfl rfl (by decide +kernel) ⟨Nat.le_of_ble_eq_true rfl, Nat.le_of_ble_eq_true rfl⟩ (q0 := 0) (ci := 4) rfl rfl rfl rfl rfl (Nat.le_of_ble_eq_true rfl) dX4_drop_7 ⟨Nat.le_of_ble_eq_true rfl, Nat.le_of_ble_eq_true rfl⟩ ?_
  refine y_ws (ws' := WM cI aM 0 E vs B sz cd M fr tt na nb ta tb dl co he mi la) rfl ?_
  refine y_ifN_ne C (tgt := 19) dX4_drop_10 (by decide) (by decide) (fun _ => ?_) (fun h => absurd h (by decide))
  refine y_aload_n C 0 dX4_drop_19 rfl rfl ?_
  refine y_get C in_X4_drop_4 (ci := 4) rfl 4 (by decide) (List.mem_of_getElem? (i := 2) rfl) 0 rfl rfl dX4_drop_20 ?_
  refine y_iload_n C 1 dX4_drop_23 rfl rfl ?_
  refine y_ialdA C (q0 := 2) (t0 := 0) rfl rfl (by decide) (by omega) dX4_drop_24 ?_
  refine y_ifN_ne C (tgt := 34) dX4_drop_25 (by decide) (by have := hsz b; omega) (fun h25 => ?_) (fun h25 => ?_)
  · skip
    refine y_aload_n C 0 dX4_drop_34 rfl rfl ?_
    refine y_get C in_X4_drop_4 (ci := 4) rfl 4 (by decide) (List.mem_of_getElem? (i := 2) rfl) 0 rfl rfl dX4_drop_35 ?_
    refine y_iload_n C 1 dX4_drop_38 rfl rfl ?_
    refine y_dup2_11 C dX4_drop_39 rfl rfl ?_
    refine y_ialdA C (q0 := 2) (t0 := 0) rfl rfl (by decide) (by omega) dX4_drop_40 ?_
    refine y_iconst C (v := nI 1) dX4_drop_41 (by decide) ?_
    refine y_isubN C dX4_drop_42 (by have := hsz b; omega) ?_
    refine y_iastA C (q0 := 2) (t0 := 0) rfl rfl (by decide) (by omega) (ws' := WM cI aM 0 E vs B (upN sz b ((sz b) - 1)) cd M fr tt na nb ta tb dl co he mi la) rfl dX4_drop_43 ?_
    refine y_aload_n C 0 dX4_drop_44 rfl rfl ?_
    refine y_get C in_X4_drop_4 (ci := 4) rfl 4 (by decide) (List.mem_of_getElem? (i := 2) rfl) 0 rfl rfl dX4_drop_45 ?_
    refine y_iload_n C 1 dX4_drop_48 rfl rfl ?_
    refine y_ialdA C (q0 := 2) (t0 := 0) rfl rfl (by decide) (by omega) dX4_drop_49 ?_
    refine y_topE (congrArg nI upN_s) ?_
    exact K _ _ _ _ _ dX4_drop_50 (rfl) (by decide) (by decide)
  · skip
    exact absurd h25 hs
set_option maxHeartbeats 4000000 in
set_option maxRecDepth 100000 in
theorem c_X4_drop_empty (l : Launch) (D : va_G) (cI : ClassId) (aM : Nat → Nat) (th E : Nat) (vs : Nat → Int32) (B : Nat) (sz cd : Nat → Nat) (M : Nat) (fr tt : Nat → Nat) (na nb ta tb dl co he : Nat → Int32) (mi la : Int32) (b : Nat) (hB : B ≤ 40) (hsz : ∀ j, sz j ≤ 12) (hb : b < B) (hs : sz b = 0) : ctI l yX4_drop wsX4_drop (rmD 1 0 0) D [(cI, .int)] [.ref (aM 0), .int (nI b)] (WM cI aM th E vs B sz cd M fr tt na nb ta tb dl co he mi la) (WM cI aM 2 E vs B sz cd M fr tt na nb ta tb dl co he mi la) (nI 0) 0 0 := by
  refine ctI_of (by decide) rfl (Nat.le_of_ble_eq_true rfl) ?_
  intro p e s m args below meth c A Q C hnm K
  refine y_lv (lv' := [(0, .ref (aM 0)), (1, .int (nI b))]) rfl ?_
  refine y_aload_n C 0 dX4_drop_0 rfl rfl ?_
  refine y_iconst C (v := nI 0) dX4_drop_1 (by decide) ?_
  refine y_put C in_X4_drop_4 tyX4 tyX4_ok nmX4 (ci := 4) rfl 0 (by decide) rfl (List.mem_of_getElem? (i := 1) rfl) 0 rfl rfl rfl (Nat.le_of_ble_eq_true rfl) (ws' := WM cI aM 0 E vs B sz cd M fr tt na nb ta tb dl co he mi la) rfl dX4_drop_2 ?_
  refine y_aload_n C 0 dX4_drop_5 rfl rfl ?_
  refine y_iload_n C 1 dX4_drop_6 rfl rfl ?_
  refine y_callI C (wr := []) 1 (c_X4_isBlock_ok l D cI aM 0 E vs B sz cd M fr tt na nb ta tb dl co he mi la b hB hb) gX4_drop_X4_isBlock rfl rfl rfl (by decide +kernel) ⟨Nat.le_of_ble_eq_true rfl, Nat.le_of_ble_eq_true rfl⟩ (q0 := 0) (ci := 4) rfl rfl rfl rfl rfl (Nat.le_of_ble_eq_true rfl) dX4_drop_7 ⟨Nat.le_of_ble_eq_true rfl, Nat.le_of_ble_eq_true rfl⟩ ?_
  refine y_ws (ws' := WM cI aM 0 E vs B sz cd M fr tt na nb ta tb dl co he mi la) rfl ?_
  refine y_ifN_ne C (tgt := 19) dX4_drop_10 (by decide) (by decide) (fun _ => ?_) (fun h => absurd h (by decide))
  refine y_aload_n C 0 dX4_drop_19 rfl rfl ?_
  refine y_get C in_X4_drop_4 (ci := 4) rfl 4 (by decide) (List.mem_of_getElem? (i := 2) rfl) 0 rfl rfl dX4_drop_20 ?_
  refine y_iload_n C 1 dX4_drop_23 rfl rfl ?_
  refine y_ialdA C (q0 := 2) (t0 := 0) rfl rfl (by decide) (by omega) dX4_drop_24 ?_
  refine y_ifN_ne C (tgt := 34) dX4_drop_25 (by decide) (by have := hsz b; omega) (fun h25 => ?_) (fun h25 => ?_)
  · skip
    exact absurd hs h25
  · skip
    refine y_aload_n C 0 dX4_drop_28 rfl rfl ?_
    refine y_iconst C (v := nI 2) dX4_drop_29 (by decide) ?_
    refine y_callI C (wr := []) 1 (c_X4_no l D cI aM 0 E vs B sz cd M fr tt na nb ta tb dl co he mi la 2) gX4_drop_X4_no rfl rfl rfl (by decide +kernel) ⟨Nat.le_of_ble_eq_true rfl, Nat.le_of_ble_eq_true rfl⟩ (q0 := 0) (ci := 4) rfl rfl rfl rfl rfl (Nat.le_of_ble_eq_true rfl) dX4_drop_30 ⟨Nat.le_of_ble_eq_true rfl, Nat.le_of_ble_eq_true rfl⟩ ?_
    refine y_ws (ws' := WM cI aM 2 E vs B sz cd M fr tt na nb ta tb dl co he mi la) rfl ?_
    exact K _ _ _ _ _ dX4_drop_33 (rfl) (by decide) (by decide)
set_option maxHeartbeats 4000000 in
set_option maxRecDepth 100000 in
theorem c_X4_drop_bad (l : Launch) (D : va_G) (cI : ClassId) (aM : Nat → Nat) (th E : Nat) (vs : Nat → Int32) (B : Nat) (sz cd : Nat → Nat) (M : Nat) (fr tt : Nat → Nat) (na nb ta tb dl co he : Nat → Int32) (mi la : Int32) (b : Int32) (hB : B ≤ 40) (hb : b < 0 ∨ nI B ≤ b) : ctI l yX4_drop wsX4_drop (rmD 1 0 0) D [(cI, .int)] [.ref (aM 0), .int b] (WM cI aM th E vs B sz cd M fr tt na nb ta tb dl co he mi la) (WM cI aM 1 E vs B sz cd M fr tt na nb ta tb dl co he mi la) (nI 0) 0 0 := by
  refine ctI_of (by decide) rfl (Nat.le_of_ble_eq_true rfl) ?_
  intro p e s m args below meth c A Q C hnm K
  refine y_lv (lv' := [(0, .ref (aM 0)), (1, .int b)]) rfl ?_
  refine y_aload_n C 0 dX4_drop_0 rfl rfl ?_
  refine y_iconst C (v := nI 0) dX4_drop_1 (by decide) ?_
  refine y_put C in_X4_drop_4 tyX4 tyX4_ok nmX4 (ci := 4) rfl 0 (by decide) rfl (List.mem_of_getElem? (i := 1) rfl) 0 rfl rfl rfl (Nat.le_of_ble_eq_true rfl) (ws' := WM cI aM 0 E vs B sz cd M fr tt na nb ta tb dl co he mi la) rfl dX4_drop_2 ?_
  refine y_aload_n C 0 dX4_drop_5 rfl rfl ?_
  refine y_iload_n C 1 dX4_drop_6 rfl rfl ?_
  refine y_callI C (wr := []) 1 (c_X4_isBlock_bad l D cI aM 0 E vs B sz cd M fr tt na nb ta tb dl co he mi la b hB hb) gX4_drop_X4_isBlock rfl rfl rfl (by decide +kernel) ⟨Nat.le_of_ble_eq_true rfl, Nat.le_of_ble_eq_true rfl⟩ (q0 := 0) (ci := 4) rfl rfl rfl rfl rfl (Nat.le_of_ble_eq_true rfl) dX4_drop_7 ⟨Nat.le_of_ble_eq_true rfl, Nat.le_of_ble_eq_true rfl⟩ ?_
  refine y_ws (ws' := WM cI aM 0 E vs B sz cd M fr tt na nb ta tb dl co he mi la) rfl ?_
  refine y_ifN_ne C (tgt := 19) dX4_drop_10 (by decide) (by decide) (fun h => absurd h (by decide)) (fun _ => ?_)
  refine y_aload_n C 0 dX4_drop_13 rfl rfl ?_
  refine y_iconst C (v := nI 1) dX4_drop_14 (by decide) ?_
  refine y_callI C (wr := []) 1 (c_X4_no l D cI aM 0 E vs B sz cd M fr tt na nb ta tb dl co he mi la 1) gX4_drop_X4_no rfl rfl rfl (by decide +kernel) ⟨Nat.le_of_ble_eq_true rfl, Nat.le_of_ble_eq_true rfl⟩ (q0 := 0) (ci := 4) rfl rfl rfl rfl rfl (Nat.le_of_ble_eq_true rfl) dX4_drop_15 ⟨Nat.le_of_ble_eq_true rfl, Nat.le_of_ble_eq_true rfl⟩ ?_
  refine y_ws (ws' := WM cI aM 1 E vs B sz cd M fr tt na nb ta tb dl co he mi la) rfl ?_
  exact K _ _ _ _ _ dX4_drop_18 (rfl) (by decide) (by decide)
theorem in_X4_addEdge_4 : ∀ w ∈ wsX40, w ∈ wsX4_addEdge := fun _ h => List.mem_cons_of_mem _ (List.mem_append_right _ h)
set_option maxHeartbeats 4000000 in
set_option maxRecDepth 100000 in
theorem c_X4_addEdge_badf (l : Launch) (D : va_G) (cI : ClassId) (aM : Nat → Nat) (th E : Nat) (vs : Nat → Int32) (B : Nat) (sz cd : Nat → Nat) (M : Nat) (fr tt : Nat → Nat) (na nb ta tb dl co he : Nat → Int32) (mi la : Int32) (f t : Int32) (hB : B ≤ 40) (hf : f < 0 ∨ nI B ≤ f) : ctI l yX4_addEdge wsX4_addEdge (rmD 1 0 0) D [(cI, .int)] [.ref (aM 0), .int f, .int t] (WM cI aM th E vs B sz cd M fr tt na nb ta tb dl co he mi la) (WM cI aM 1 E vs B sz cd M fr tt na nb ta tb dl co he mi la) (nI 0) 0 0 := by
  refine ctI_of (by decide) rfl (Nat.le_of_ble_eq_true rfl) ?_
  intro p e s m args below meth c A Q C hnm K
  refine y_lv (lv' := [(0, .ref (aM 0)), (1, .int f), (2, .int t)]) rfl ?_
  refine y_aload_n C 0 dX4_addEdge_0 rfl rfl ?_
  refine y_iconst C (v := nI 0) dX4_addEdge_1 (by decide) ?_
  refine y_put C in_X4_addEdge_4 tyX4 tyX4_ok nmX4 (ci := 4) rfl 0 (by decide) rfl (List.mem_of_getElem? (i := 1) rfl) 0 rfl rfl rfl (Nat.le_of_ble_eq_true rfl) (ws' := WM cI aM 0 E vs B sz cd M fr tt na nb ta tb dl co he mi la) rfl dX4_addEdge_2 ?_
  refine y_aload_n C 0 dX4_addEdge_5 rfl rfl ?_
  refine y_iload_n C 1 dX4_addEdge_6 rfl rfl ?_
  refine y_callI C (wr := []) 1 (c_X4_isBlock_bad l D cI aM 0 E vs B sz cd M fr tt na nb ta tb dl co he mi la f hB (hf)) gX4_addEdge_X4_isBlock rfl rfl rfl (by decide +kernel) ⟨Nat.le_of_ble_eq_true rfl, Nat.le_of_ble_eq_true rfl⟩ (q0 := 0) (ci := 4) rfl rfl rfl rfl rfl (Nat.le_of_ble_eq_true rfl) dX4_addEdge_7 ⟨Nat.le_of_ble_eq_true rfl, Nat.le_of_ble_eq_true rfl⟩ ?_
  refine y_ws (ws' := WM cI aM 0 E vs B sz cd M fr tt na nb ta tb dl co he mi la) rfl ?_
  refine y_ifN_eq C (tgt := 21) dX4_addEdge_10 (by decide) (by decide) (fun _ => ?_) (fun h => absurd h (by decide))
  refine y_aload_n C 0 dX4_addEdge_21 rfl rfl ?_
  refine y_iconst C (v := nI 1) dX4_addEdge_22 (by decide) ?_
  refine y_callI C (wr := []) 1 (c_X4_no l D cI aM 0 E vs B sz cd M fr tt na nb ta tb dl co he mi la 1) gX4_addEdge_X4_no rfl rfl rfl (by decide +kernel) ⟨Nat.le_of_ble_eq_true rfl, Nat.le_of_ble_eq_true rfl⟩ (q0 := 0) (ci := 4) rfl rfl rfl rfl rfl (Nat.le_of_ble_eq_true rfl) dX4_addEdge_23 ⟨Nat.le_of_ble_eq_true rfl, Nat.le_of_ble_eq_true rfl⟩ ?_
  refine y_ws (ws' := WM cI aM 1 E vs B sz cd M fr tt na nb ta tb dl co he mi la) rfl ?_
  exact K _ _ _ _ _ dX4_addEdge_26 (rfl) (by decide) (by decide)
set_option maxHeartbeats 4000000 in
set_option maxRecDepth 100000 in
theorem c_X4_addEdge_badt (l : Launch) (D : va_G) (cI : ClassId) (aM : Nat → Nat) (th E : Nat) (vs : Nat → Int32) (B : Nat) (sz cd : Nat → Nat) (M : Nat) (fr tt : Nat → Nat) (na nb ta tb dl co he : Nat → Int32) (mi la : Int32) (f : Nat) (t : Int32) (hB : B ≤ 40) (hf : f < B) (ht : t < 0 ∨ nI B ≤ t) : ctI l yX4_addEdge wsX4_addEdge (rmD 1 0 0) D [(cI, .int)] [.ref (aM 0), .int (nI f), .int t] (WM cI aM th E vs B sz cd M fr tt na nb ta tb dl co he mi la) (WM cI aM 1 E vs B sz cd M fr tt na nb ta tb dl co he mi la) (nI 0) 0 0 := by
  refine ctI_of (by decide) rfl (Nat.le_of_ble_eq_true rfl) ?_
  intro p e s m args below meth c A Q C hnm K
  refine y_lv (lv' := [(0, .ref (aM 0)), (1, .int (nI f)), (2, .int t)]) rfl ?_
  refine y_aload_n C 0 dX4_addEdge_0 rfl rfl ?_
  refine y_iconst C (v := nI 0) dX4_addEdge_1 (by decide) ?_
  refine y_put C in_X4_addEdge_4 tyX4 tyX4_ok nmX4 (ci := 4) rfl 0 (by decide) rfl (List.mem_of_getElem? (i := 1) rfl) 0 rfl rfl rfl (Nat.le_of_ble_eq_true rfl) (ws' := WM cI aM 0 E vs B sz cd M fr tt na nb ta tb dl co he mi la) rfl dX4_addEdge_2 ?_
  refine y_aload_n C 0 dX4_addEdge_5 rfl rfl ?_
  refine y_iload_n C 1 dX4_addEdge_6 rfl rfl ?_
  refine y_callI C (wr := []) 1 (c_X4_isBlock_ok l D cI aM 0 E vs B sz cd M fr tt na nb ta tb dl co he mi la f hB (by omega)) gX4_addEdge_X4_isBlock rfl rfl rfl (by decide +kernel) ⟨Nat.le_of_ble_eq_true rfl, Nat.le_of_ble_eq_true rfl⟩ (q0 := 0) (ci := 4) rfl rfl rfl rfl rfl (Nat.le_of_ble_eq_true rfl) dX4_addEdge_7 ⟨Nat.le_of_ble_eq_true rfl, Nat.le_of_ble_eq_true rfl⟩ ?_
  refine y_ws (ws' := WM cI aM 0 E vs B sz cd M fr tt na nb ta tb dl co he mi la) rfl ?_
  refine y_ifN_eq C (tgt := 21) dX4_addEdge_10 (by decide) (by decide) (fun h => absurd h (by decide)) (fun _ => ?_)
  refine y_aload_n C 0 dX4_addEdge_13 rfl rfl ?_
  refine y_iload_n C 2 dX4_addEdge_14 rfl rfl ?_
  refine y_callI C (wr := []) 1 (c_X4_isBlock_bad l D cI aM 0 E vs B sz cd M fr tt na nb ta tb dl co he mi la t hB (ht)) gX4_addEdge_X4_isBlock rfl rfl rfl (by decide +kernel) ⟨Nat.le_of_ble_eq_true rfl, Nat.le_of_ble_eq_true rfl⟩ (q0 := 0) (ci := 4) rfl rfl rfl rfl rfl (Nat.le_of_ble_eq_true rfl) dX4_addEdge_15 ⟨Nat.le_of_ble_eq_true rfl, Nat.le_of_ble_eq_true rfl⟩ ?_
  refine y_ws (ws' := WM cI aM 0 E vs B sz cd M fr tt na nb ta tb dl co he mi la) rfl ?_
  refine y_ifN_ne C (tgt := 27) dX4_addEdge_18 (by decide) (by decide) (fun h => absurd h (by decide)) (fun _ => ?_)
  refine y_aload_n C 0 dX4_addEdge_21 rfl rfl ?_
  refine y_iconst C (v := nI 1) dX4_addEdge_22 (by decide) ?_
  refine y_callI C (wr := []) 1 (c_X4_no l D cI aM 0 E vs B sz cd M fr tt na nb ta tb dl co he mi la 1) gX4_addEdge_X4_no rfl rfl rfl (by decide +kernel) ⟨Nat.le_of_ble_eq_true rfl, Nat.le_of_ble_eq_true rfl⟩ (q0 := 0) (ci := 4) rfl rfl rfl rfl rfl (Nat.le_of_ble_eq_true rfl) dX4_addEdge_23 ⟨Nat.le_of_ble_eq_true rfl, Nat.le_of_ble_eq_true rfl⟩ ?_
  refine y_ws (ws' := WM cI aM 1 E vs B sz cd M fr tt na nb ta tb dl co he mi la) rfl ?_
  exact K _ _ _ _ _ dX4_addEdge_26 (rfl) (by decide) (by decide)
set_option maxHeartbeats 4000000 in
set_option maxRecDepth 100000 in
theorem c_X4_addEdge_dup (l : Launch) (D : va_G) (cI : ClassId) (aM : Nat → Nat) (th E : Nat) (vs : Nat → Int32) (B : Nat) (sz cd : Nat → Nat) (M : Nat) (fr tt : Nat → Nat) (na nb ta tb dl co he : Nat → Int32) (mi la : Int32) (f t : Nat) (hB : B ≤ 40) (hM : M ≤ 80) (hfr : ∀ j, fr j < 40) (htt : ∀ j, tt j < 40) (hf : f < B) (ht : t < B) (hd : dpF fr tt f t M ≠ 0) : ctI l yX4_addEdge wsX4_addEdge (rmD 1 0 0) D [(cI, .int)] [.ref (aM 0), .int (nI f), .int (nI t)] (WM cI aM th E vs B sz cd M fr tt na nb ta tb dl co he mi la) (WM cI aM 2 E vs B sz cd M fr tt na nb ta tb dl co he mi la) (nI 0) 0 0 := by
  refine ctI_of (by decide) rfl (Nat.le_of_ble_eq_true rfl) ?_
  intro p e s m args below meth c A Q C hnm K
  refine y_lv (lv' := [(0, .ref (aM 0)), (1, .int (nI f)), (2, .int (nI t))]) rfl ?_
  refine y_aload_n C 0 dX4_addEdge_0 rfl rfl ?_
  refine y_iconst C (v := nI 0) dX4_addEdge_1 (by decide) ?_
  refine y_put C in_X4_addEdge_4 tyX4 tyX4_ok nmX4 (ci := 4) rfl 0 (by decide) rfl (List.mem_of_getElem? (i := 1) rfl) 0 rfl rfl rfl (Nat.le_of_ble_eq_true rfl) (ws' := WM cI aM 0 E vs B sz cd M fr tt na nb ta tb dl co he mi la) rfl dX4_addEdge_2 ?_
  refine y_aload_n C 0 dX4_addEdge_5 rfl rfl ?_
  refine y_iload_n C 1 dX4_addEdge_6 rfl rfl ?_
  refine y_callI C (wr := []) 1 (c_X4_isBlock_ok l D cI aM 0 E vs B sz cd M fr tt na nb ta tb dl co he mi la f hB (by omega)) gX4_addEdge_X4_isBlock rfl rfl rfl (by decide +kernel) ⟨Nat.le_of_ble_eq_true rfl, Nat.le_of_ble_eq_true rfl⟩ (q0 := 0) (ci := 4) rfl rfl rfl rfl rfl (Nat.le_of_ble_eq_true rfl) dX4_addEdge_7 ⟨Nat.le_of_ble_eq_true rfl, Nat.le_of_ble_eq_true rfl⟩ ?_
  refine y_ws (ws' := WM cI aM 0 E vs B sz cd M fr tt na nb ta tb dl co he mi la) rfl ?_
  refine y_ifN_eq C (tgt := 21) dX4_addEdge_10 (by decide) (by decide) (fun h => absurd h (by decide)) (fun _ => ?_)
  refine y_aload_n C 0 dX4_addEdge_13 rfl rfl ?_
  refine y_iload_n C 2 dX4_addEdge_14 rfl rfl ?_
  refine y_callI C (wr := []) 1 (c_X4_isBlock_ok l D cI aM 0 E vs B sz cd M fr tt na nb ta tb dl co he mi la t hB (by omega)) gX4_addEdge_X4_isBlock rfl rfl rfl (by decide +kernel) ⟨Nat.le_of_ble_eq_true rfl, Nat.le_of_ble_eq_true rfl⟩ (q0 := 0) (ci := 4) rfl rfl rfl rfl rfl (Nat.le_of_ble_eq_true rfl) dX4_addEdge_15 ⟨Nat.le_of_ble_eq_true rfl, Nat.le_of_ble_eq_true rfl⟩ ?_
  refine y_ws (ws' := WM cI aM 0 E vs B sz cd M fr tt na nb ta tb dl co he mi la) rfl ?_
  refine y_ifN_ne C (tgt := 27) dX4_addEdge_18 (by decide) (by decide) (fun _ => ?_) (fun h => absurd h (by decide))
  refine y_iload_n C 2 dX4_addEdge_27 rfl rfl ?_
  have jn36 : ∀ (w : Nat), (w = dpF fr tt f t 0) → (w ≤ 1) → yW p l e (rmD 1 0 0) s m args below meth c 5 D A Q 0 0 (WM cI aM 0 E vs B sz cd M fr tt na nb ta tb dl co he mi la) 36 [(0, .ref (aM 0)), (1, .int (nI f)), (2, .int (nI t))] [.int (nI w)] := by
    intro w hw hwl
    refine y_istore_n C (lv' := [(3, .int (nI w)), (0, .ref (aM 0)), (1, .int (nI f)), (2, .int (nI t))]) dX4_addEdge_36 rfl (by decide) rfl ?_
    refine y_iconst C (v := nI 0) dX4_addEdge_37 (by decide) ?_
    refine y_istore C (lv' := [(4, .int (nI 0)), (3, .int (nI w)), (0, .ref (aM 0)), (1, .int (nI f)), (2, .int (nI t))]) dX4_addEdge_38 (by decide) rfl ?_
    have lp40 : ∀ (n40 : Nat) (i : Nat) (g : Nat), (i ≤ M) → (g = dpF fr tt f t i) → (g ≤ 1) → (M - i) < n40 → yW p l e (rmD 1 0 0) s m args below meth c 5 D A Q 0 0 (WM cI aM 0 E vs B sz cd M fr tt na nb ta tb dl co he mi la) 40 [(0, .ref (aM 0)), (1, .int (nI f)), (2, .int (nI t)), (3, .int (nI g)), (4, .int (nI i))] [] := by
      intro n40
      induction n40 with
      | zero => intro i g hi hg hgl hm; exact absurd hm (Nat.not_lt_zero _)
      | succ n40 ih40 =>
        intro i g hi hg hgl hm40
        refine y_iload C 4 dX4_addEdge_40 rfl ?_
        refine y_aload_n C 0 dX4_addEdge_42 rfl rfl ?_
        refine y_get C in_X4_addEdge_4 (ci := 4) rfl 6 (by decide) (List.mem_of_getElem? (i := 2) rfl) 0 rfl rfl dX4_addEdge_43 ?_
        refine y_icmpN_ge C (tgt := 87) dX4_addEdge_46 (by decide) (by omega) (by omega) (fun h46 => ?_) (fun h46 => ?_)
        · skip
          have hq_i : i = M := by omega
          rw [hq_i] at hg
          refine y_iload_n C 3 dX4_addEdge_87 rfl rfl ?_
          refine y_ifN_eq C (tgt := 97) dX4_addEdge_88 (by decide) (by have := hgl; omega) (fun h88 => ?_) (fun h88 => ?_)
          · skip
            exact absurd (hg.symm.trans h88) hd
          · skip
            refine y_aload_n C 0 dX4_addEdge_91 rfl rfl ?_
            refine y_iconst C (v := nI 2) dX4_addEdge_92 (by decide) ?_
            refine y_callI C (wr := []) 1 (c_X4_no l D cI aM 0 E vs B sz cd M fr tt na nb ta tb dl co he mi la 2) gX4_addEdge_X4_no rfl rfl rfl (by decide +kernel) ⟨Nat.le_of_ble_eq_true rfl, Nat.le_of_ble_eq_true rfl⟩ (q0 := 0) (ci := 4) rfl rfl rfl rfl rfl (Nat.le_of_ble_eq_true rfl) dX4_addEdge_93 ⟨Nat.le_of_ble_eq_true rfl, Nat.le_of_ble_eq_true rfl⟩ ?_
            refine y_ws (ws' := WM cI aM 2 E vs B sz cd M fr tt na nb ta tb dl co he mi la) rfl ?_
            exact K _ _ _ _ _ dX4_addEdge_96 (rfl) (by decide) (by decide)
        · skip
          refine y_iload_n C 3 dX4_addEdge_49 rfl rfl ?_
          refine y_ifN_ne C (tgt := 75) dX4_addEdge_50 (by decide) (by have := hgl; omega) (fun h50 => ?_) (fun h50 => ?_)
          · skip
            refine y_iconst C (v := nI 1) dX4_addEdge_75 (by decide) ?_
            refine y_goto C (tgt := 80) dX4_addEdge_76 (by decide) ?_
            refine y_istore_n C (lv' := [(3, .int (nI 1)), (0, .ref (aM 0)), (1, .int (nI f)), (2, .int (nI t)), (4, .int (nI i))]) dX4_addEdge_80 rfl (by decide) rfl ?_
            refine y_iinc C (k := 4) (lv' := [(4, .int (nI (i + 1))), (3, .int (nI 1)), (0, .ref (aM 0)), (1, .int (nI f)), (2, .int (nI t))]) dX4_addEdge_81 rfl (yn_inc rfl) (by decide) rfl ?_
            refine y_goto C (tgt := 40) dX4_addEdge_84 (by decide) ?_
            refine y_sub [2, 3, 4, 1, 0] (lv' := [(0, .ref (aM 0)), (1, .int (nI f)), (2, .int (nI t)), (3, .int (nI 1)), (4, .int (nI (i + 1)))]) rfl ?_
            exact ih40 _ _ (by omega) (by simp [dpF, ← hg, h50]) (by omega) (by omega)
          · skip
            refine y_aload_n C 0 dX4_addEdge_53 rfl rfl ?_
            refine y_get C in_X4_addEdge_4 (ci := 4) rfl 7 (by decide) (List.mem_of_getElem? (i := 3) rfl) 0 rfl rfl dX4_addEdge_54 ?_
            refine y_iload C 4 dX4_addEdge_57 rfl ?_
            refine y_ialdA C (q0 := 4) (t0 := 0) rfl rfl (by decide) (by omega) dX4_addEdge_59 ?_
            refine y_iload_n C 1 dX4_addEdge_60 rfl rfl ?_
            refine y_icmpN_ne C (tgt := 79) dX4_addEdge_61 (by decide) (by have := hfr i; omega) (by omega) (fun h61 => ?_) (fun h61 => ?_)
            · skip
              refine y_iconst C (v := nI 0) dX4_addEdge_79 (by decide) ?_
              refine y_istore_n C (lv' := [(3, .int (nI 0)), (0, .ref (aM 0)), (1, .int (nI f)), (2, .int (nI t)), (4, .int (nI i))]) dX4_addEdge_80 rfl (by decide) rfl ?_
              refine y_iinc C (k := 4) (lv' := [(4, .int (nI (i + 1))), (3, .int (nI 0)), (0, .ref (aM 0)), (1, .int (nI f)), (2, .int (nI t))]) dX4_addEdge_81 rfl (yn_inc rfl) (by decide) rfl ?_
              refine y_goto C (tgt := 40) dX4_addEdge_84 (by decide) ?_
              refine y_sub [2, 3, 4, 1, 0] (lv' := [(0, .ref (aM 0)), (1, .int (nI f)), (2, .int (nI t)), (3, .int (nI 0)), (4, .int (nI (i + 1)))]) rfl ?_
              exact ih40 _ _ (by omega) (by simp [dpF, ← hg, h50, h61]) (by omega) (by omega)
            · skip
              refine y_aload_n C 0 dX4_addEdge_64 rfl rfl ?_
              refine y_get C in_X4_addEdge_4 (ci := 4) rfl 8 (by decide) (List.mem_of_getElem? (i := 4) rfl) 0 rfl rfl dX4_addEdge_65 ?_
              refine y_iload C 4 dX4_addEdge_68 rfl ?_
              refine y_ialdA C (q0 := 5) (t0 := 0) rfl rfl (by decide) (by omega) dX4_addEdge_70 ?_
              refine y_iload_n C 2 dX4_addEdge_71 rfl rfl ?_
              refine y_icmpN_ne C (tgt := 79) dX4_addEdge_72 (by decide) (by have := htt i; omega) (by omega) (fun h72 => ?_) (fun h72 => ?_)
              · skip
                refine y_iconst C (v := nI 0) dX4_addEdge_79 (by decide) ?_
                refine y_istore_n C (lv' := [(3, .int (nI 0)), (0, .ref (aM 0)), (1, .int (nI f)), (2, .int (nI t)), (4, .int (nI i))]) dX4_addEdge_80 rfl (by decide) rfl ?_
                refine y_iinc C (k := 4) (lv' := [(4, .int (nI (i + 1))), (3, .int (nI 0)), (0, .ref (aM 0)), (1, .int (nI f)), (2, .int (nI t))]) dX4_addEdge_81 rfl (yn_inc rfl) (by decide) rfl ?_
                refine y_goto C (tgt := 40) dX4_addEdge_84 (by decide) ?_
                refine y_sub [2, 3, 4, 1, 0] (lv' := [(0, .ref (aM 0)), (1, .int (nI f)), (2, .int (nI t)), (3, .int (nI 0)), (4, .int (nI (i + 1)))]) rfl ?_
                exact ih40 _ _ (by omega) (by simp [dpF, ← hg, h50, h61, h72]) (by omega) (by omega)
              · skip
                refine y_iconst C (v := nI 1) dX4_addEdge_75 (by decide) ?_
                refine y_goto C (tgt := 80) dX4_addEdge_76 (by decide) ?_
                refine y_istore_n C (lv' := [(3, .int (nI 1)), (0, .ref (aM 0)), (1, .int (nI f)), (2, .int (nI t)), (4, .int (nI i))]) dX4_addEdge_80 rfl (by decide) rfl ?_
                refine y_iinc C (k := 4) (lv' := [(4, .int (nI (i + 1))), (3, .int (nI 1)), (0, .ref (aM 0)), (1, .int (nI f)), (2, .int (nI t))]) dX4_addEdge_81 rfl (yn_inc rfl) (by decide) rfl ?_
                refine y_goto C (tgt := 40) dX4_addEdge_84 (by decide) ?_
                refine y_sub [2, 3, 4, 1, 0] (lv' := [(0, .ref (aM 0)), (1, .int (nI f)), (2, .int (nI t)), (3, .int (nI 1)), (4, .int (nI (i + 1)))]) rfl ?_
                exact ih40 _ _ (by omega) (by simp [dpF, ← hg, h50, h61, h72]) (by omega) (by omega)
    refine y_sub [2, 3, 4, 1, 0] (lv' := [(0, .ref (aM 0)), (1, .int (nI f)), (2, .int (nI t)), (3, .int (nI w)), (4, .int (nI 0))]) rfl ?_
    exact lp40 _ _ _ (Nat.zero_le _) hw hwl (Nat.lt_succ_self _)
  refine y_ifN_ne C (tgt := 35) dX4_addEdge_28 (by decide) (by omega) (fun h28 => ?_) (fun h28 => ?_)
  · skip
    refine y_iconst C (v := nI 0) dX4_addEdge_35 (by decide) ?_
    exact jn36 _ (by simp [dpF, h28]) (by omega)
  · skip
    refine y_iconst C (v := nI 1) dX4_addEdge_31 (by decide) ?_
    refine y_goto C (tgt := 36) dX4_addEdge_32 (by decide) ?_
    exact jn36 _ (by simp [dpF, h28]) (by omega)
set_option maxHeartbeats 4000000 in
set_option maxRecDepth 100000 in
theorem c_X4_addEdge_full (l : Launch) (D : va_G) (cI : ClassId) (aM : Nat → Nat) (th E : Nat) (vs : Nat → Int32) (B : Nat) (sz cd : Nat → Nat) (M : Nat) (fr tt : Nat → Nat) (na nb ta tb dl co he : Nat → Int32) (mi la : Int32) (f t : Nat) (hB : B ≤ 40) (hM : M ≤ 80) (hfr : ∀ j, fr j < 40) (htt : ∀ j, tt j < 40) (hf : f < B) (ht : t < B) (hd : dpF fr tt f t M = 0) (hx : exF fr f M = 2 ∨ M = 80) : ctI l yX4_addEdge wsX4_addEdge (rmD 1 0 0) D [(cI, .int)] [.ref (aM 0), .int (nI f), .int (nI t)] (WM cI aM th E vs B sz cd M fr tt na nb ta tb dl co he mi la) (WM cI aM 3 E vs B sz cd M fr tt na nb ta tb dl co he mi la) (nI 0) 0 0 := by
  refine ctI_of (by decide) rfl (Nat.le_of_ble_eq_true rfl) ?_
  intro p e s m args below meth c A Q C hnm K
  refine y_lv (lv' := [(0, .ref (aM 0)), (1, .int (nI f)), (2, .int (nI t))]) rfl ?_
  refine y_aload_n C 0 dX4_addEdge_0 rfl rfl ?_
  refine y_iconst C (v := nI 0) dX4_addEdge_1 (by decide) ?_
  refine y_put C in_X4_addEdge_4 tyX4 tyX4_ok nmX4 (ci := 4) rfl 0 (by decide) rfl (List.mem_of_getElem? (i := 1) rfl) 0 rfl rfl rfl (Nat.le_of_ble_eq_true rfl) (ws' := WM cI aM 0 E vs B sz cd M fr tt na nb ta tb dl co he mi la) rfl dX4_addEdge_2 ?_
  refine y_aload_n C 0 dX4_addEdge_5 rfl rfl ?_
  refine y_iload_n C 1 dX4_addEdge_6 rfl rfl ?_
  refine y_callI C (wr := []) 1 (c_X4_isBlock_ok l D cI aM 0 E vs B sz cd M fr tt na nb ta tb dl co he mi la f hB (by omega)) gX4_addEdge_X4_isBlock rfl rfl rfl (by decide +kernel) ⟨Nat.le_of_ble_eq_true rfl, Nat.le_of_ble_eq_true rfl⟩ (q0 := 0) (ci := 4) rfl rfl rfl rfl rfl (Nat.le_of_ble_eq_true rfl) dX4_addEdge_7 ⟨Nat.le_of_ble_eq_true rfl, Nat.le_of_ble_eq_true rfl⟩ ?_
  refine y_ws (ws' := WM cI aM 0 E vs B sz cd M fr tt na nb ta tb dl co he mi la) rfl ?_
  refine y_ifN_eq C (tgt := 21) dX4_addEdge_10 (by decide) (by decide) (fun h => absurd h (by decide)) (fun _ => ?_)
  refine y_aload_n C 0 dX4_addEdge_13 rfl rfl ?_
  refine y_iload_n C 2 dX4_addEdge_14 rfl rfl ?_
  refine y_callI C (wr := []) 1 (c_X4_isBlock_ok l D cI aM 0 E vs B sz cd M fr tt na nb ta tb dl co he mi la t hB (by omega)) gX4_addEdge_X4_isBlock rfl rfl rfl (by decide +kernel) ⟨Nat.le_of_ble_eq_true rfl, Nat.le_of_ble_eq_true rfl⟩ (q0 := 0) (ci := 4) rfl rfl rfl rfl rfl (Nat.le_of_ble_eq_true rfl) dX4_addEdge_15 ⟨Nat.le_of_ble_eq_true rfl, Nat.le_of_ble_eq_true rfl⟩ ?_
  refine y_ws (ws' := WM cI aM 0 E vs B sz cd M fr tt na nb ta tb dl co he mi la) rfl ?_
  refine y_ifN_ne C (tgt := 27) dX4_addEdge_18 (by decide) (by decide) (fun _ => ?_) (fun h => absurd h (by decide))
  refine y_iload_n C 2 dX4_addEdge_27 rfl rfl ?_
  have jn36 : ∀ (w : Nat), (w = dpF fr tt f t 0) → (w ≤ 1) → yW p l e (rmD 1 0 0) s m args below meth c 5 D A Q 0 0 (WM cI aM 0 E vs B sz cd M fr tt na nb ta tb dl co he mi la) 36 [(0, .ref (aM 0)), (1, .int (nI f)), (2, .int (nI t))] [.int (nI w)] := by
    intro w hw hwl
    refine y_istore_n C (lv' := [(3, .int (nI w)), (0, .ref (aM 0)), (1, .int (nI f)), (2, .int (nI t))]) dX4_addEdge_36 rfl (by decide) rfl ?_
    refine y_iconst C (v := nI 0) dX4_addEdge_37 (by decide) ?_
    refine y_istore C (lv' := [(4, .int (nI 0)), (3, .int (nI w)), (0, .ref (aM 0)), (1, .int (nI f)), (2, .int (nI t))]) dX4_addEdge_38 (by decide) rfl ?_
    have lp40 : ∀ (n40 : Nat) (i : Nat) (g : Nat), (i ≤ M) → (g = dpF fr tt f t i) → (g ≤ 1) → (M - i) < n40 → yW p l e (rmD 1 0 0) s m args below meth c 5 D A Q 0 0 (WM cI aM 0 E vs B sz cd M fr tt na nb ta tb dl co he mi la) 40 [(0, .ref (aM 0)), (1, .int (nI f)), (2, .int (nI t)), (3, .int (nI g)), (4, .int (nI i))] [] := by
      intro n40
      induction n40 with
      | zero => intro i g hi hg hgl hm; exact absurd hm (Nat.not_lt_zero _)
      | succ n40 ih40 =>
        intro i g hi hg hgl hm40
        refine y_iload C 4 dX4_addEdge_40 rfl ?_
        refine y_aload_n C 0 dX4_addEdge_42 rfl rfl ?_
        refine y_get C in_X4_addEdge_4 (ci := 4) rfl 6 (by decide) (List.mem_of_getElem? (i := 2) rfl) 0 rfl rfl dX4_addEdge_43 ?_
        refine y_icmpN_ge C (tgt := 87) dX4_addEdge_46 (by decide) (by omega) (by omega) (fun h46 => ?_) (fun h46 => ?_)
        · skip
          have hq_i : i = M := by omega
          rw [hq_i] at hg
          refine y_iload_n C 3 dX4_addEdge_87 rfl rfl ?_
          refine y_ifN_eq C (tgt := 97) dX4_addEdge_88 (by decide) (by have := hgl; omega) (fun h88 => ?_) (fun h88 => ?_)
          · skip
            refine y_aload_n C 0 dX4_addEdge_97 rfl rfl ?_
            refine y_iload_n C 1 dX4_addEdge_98 rfl rfl ?_
            refine y_callI C (wr := []) 1 (c_X4_exits l D cI aM 0 E vs B sz cd M fr tt na nb ta tb dl co he mi la f hM hfr (by omega)) gX4_addEdge_X4_exits rfl rfl rfl (by decide +kernel) ⟨Nat.le_of_ble_eq_true rfl, Nat.le_of_ble_eq_true rfl⟩ (q0 := 0) (ci := 4) rfl rfl rfl rfl rfl (Nat.le_of_ble_eq_true rfl) dX4_addEdge_99 ⟨Nat.le_of_ble_eq_true rfl, Nat.le_of_ble_eq_true rfl⟩ ?_
            refine y_ws (ws' := WM cI aM 0 E vs B sz cd M fr tt na nb ta tb dl co he mi la) rfl ?_
            refine y_iconst C (v := nI 2) dX4_addEdge_102 (by decide) ?_
            refine y_icmpN_eq C (tgt := 115) dX4_addEdge_103 (by decide) (by have := exF_le fr f M; omega) (by omega) (fun h103 => ?_) (fun h103 => ?_)
            · skip
              refine y_aload_n C 0 dX4_addEdge_115 rfl rfl ?_
              refine y_iconst C (v := nI 3) dX4_addEdge_116 (by decide) ?_
              refine y_callI C (wr := []) 1 (c_X4_no l D cI aM 0 E vs B sz cd M fr tt na nb ta tb dl co he mi la 3) gX4_addEdge_X4_no rfl rfl rfl (by decide +kernel) ⟨Nat.le_of_ble_eq_true rfl, Nat.le_of_ble_eq_true rfl⟩ (q0 := 0) (ci := 4) rfl rfl rfl rfl rfl (Nat.le_of_ble_eq_true rfl) dX4_addEdge_117 ⟨Nat.le_of_ble_eq_true rfl, Nat.le_of_ble_eq_true rfl⟩ ?_
              refine y_ws (ws' := WM cI aM 3 E vs B sz cd M fr tt na nb ta tb dl co he mi la) rfl ?_
              exact K _ _ _ _ _ dX4_addEdge_120 (rfl) (by decide) (by decide)
            · skip
              refine y_aload_n C 0 dX4_addEdge_106 rfl rfl ?_
              refine y_get C in_X4_addEdge_4 (ci := 4) rfl 6 (by decide) (List.mem_of_getElem? (i := 2) rfl) 0 rfl rfl dX4_addEdge_107 ?_
              refine y_bipush C (v := nI 80) dX4_addEdge_110 (by decide) ?_
              refine y_icmpN_ne C (tgt := 121) dX4_addEdge_112 (by decide) (by omega) (by omega) (fun h112 => ?_) (fun h112 => ?_)
              · skip
                exact absurd hx (fun q => q.elim h103 h112)
              · skip
                refine y_aload_n C 0 dX4_addEdge_115 rfl rfl ?_
                refine y_iconst C (v := nI 3) dX4_addEdge_116 (by decide) ?_
                refine y_callI C (wr := []) 1 (c_X4_no l D cI aM 0 E vs B sz cd M fr tt na nb ta tb dl co he mi la 3) gX4_addEdge_X4_no rfl rfl rfl (by decide +kernel) ⟨Nat.le_of_ble_eq_true rfl, Nat.le_of_ble_eq_true rfl⟩ (q0 := 0) (ci := 4) rfl rfl rfl rfl rfl (Nat.le_of_ble_eq_true rfl) dX4_addEdge_117 ⟨Nat.le_of_ble_eq_true rfl, Nat.le_of_ble_eq_true rfl⟩ ?_
                refine y_ws (ws' := WM cI aM 3 E vs B sz cd M fr tt na nb ta tb dl co he mi la) rfl ?_
                exact K _ _ _ _ _ dX4_addEdge_120 (rfl) (by decide) (by decide)
          · skip
            exact absurd (hg.trans hd) h88
        · skip
          refine y_iload_n C 3 dX4_addEdge_49 rfl rfl ?_
          refine y_ifN_ne C (tgt := 75) dX4_addEdge_50 (by decide) (by have := hgl; omega) (fun h50 => ?_) (fun h50 => ?_)
          · skip
            refine y_iconst C (v := nI 1) dX4_addEdge_75 (by decide) ?_
            refine y_goto C (tgt := 80) dX4_addEdge_76 (by decide) ?_
            refine y_istore_n C (lv' := [(3, .int (nI 1)), (0, .ref (aM 0)), (1, .int (nI f)), (2, .int (nI t)), (4, .int (nI i))]) dX4_addEdge_80 rfl (by decide) rfl ?_
            refine y_iinc C (k := 4) (lv' := [(4, .int (nI (i + 1))), (3, .int (nI 1)), (0, .ref (aM 0)), (1, .int (nI f)), (2, .int (nI t))]) dX4_addEdge_81 rfl (yn_inc rfl) (by decide) rfl ?_
            refine y_goto C (tgt := 40) dX4_addEdge_84 (by decide) ?_
            refine y_sub [2, 3, 4, 1, 0] (lv' := [(0, .ref (aM 0)), (1, .int (nI f)), (2, .int (nI t)), (3, .int (nI 1)), (4, .int (nI (i + 1)))]) rfl ?_
            exact ih40 _ _ (by omega) (by simp [dpF, ← hg, h50]) (by omega) (by omega)
          · skip
            refine y_aload_n C 0 dX4_addEdge_53 rfl rfl ?_
            refine y_get C in_X4_addEdge_4 (ci := 4) rfl 7 (by decide) (List.mem_of_getElem? (i := 3) rfl) 0 rfl rfl dX4_addEdge_54 ?_
            refine y_iload C 4 dX4_addEdge_57 rfl ?_
            refine y_ialdA C (q0 := 4) (t0 := 0) rfl rfl (by decide) (by omega) dX4_addEdge_59 ?_
            refine y_iload_n C 1 dX4_addEdge_60 rfl rfl ?_
            refine y_icmpN_ne C (tgt := 79) dX4_addEdge_61 (by decide) (by have := hfr i; omega) (by omega) (fun h61 => ?_) (fun h61 => ?_)
            · skip
              refine y_iconst C (v := nI 0) dX4_addEdge_79 (by decide) ?_
              refine y_istore_n C (lv' := [(3, .int (nI 0)), (0, .ref (aM 0)), (1, .int (nI f)), (2, .int (nI t)), (4, .int (nI i))]) dX4_addEdge_80 rfl (by decide) rfl ?_
              refine y_iinc C (k := 4) (lv' := [(4, .int (nI (i + 1))), (3, .int (nI 0)), (0, .ref (aM 0)), (1, .int (nI f)), (2, .int (nI t))]) dX4_addEdge_81 rfl (yn_inc rfl) (by decide) rfl ?_
              refine y_goto C (tgt := 40) dX4_addEdge_84 (by decide) ?_
              refine y_sub [2, 3, 4, 1, 0] (lv' := [(0, .ref (aM 0)), (1, .int (nI f)), (2, .int (nI t)), (3, .int (nI 0)), (4, .int (nI (i + 1)))]) rfl ?_
              exact ih40 _ _ (by omega) (by simp [dpF, ← hg, h50, h61]) (by omega) (by omega)
            · skip
              refine y_aload_n C 0 dX4_addEdge_64 rfl rfl ?_
              refine y_get C in_X4_addEdge_4 (ci := 4) rfl 8 (by decide) (List.mem_of_getElem? (i := 4) rfl) 0 rfl rfl dX4_addEdge_65 ?_
              refine y_iload C 4 dX4_addEdge_68 rfl ?_
              refine y_ialdA C (q0 := 5) (t0 := 0) rfl rfl (by decide) (by omega) dX4_addEdge_70 ?_
              refine y_iload_n C 2 dX4_addEdge_71 rfl rfl ?_
              refine y_icmpN_ne C (tgt := 79) dX4_addEdge_72 (by decide) (by have := htt i; omega) (by omega) (fun h72 => ?_) (fun h72 => ?_)
              · skip
                refine y_iconst C (v := nI 0) dX4_addEdge_79 (by decide) ?_
                refine y_istore_n C (lv' := [(3, .int (nI 0)), (0, .ref (aM 0)), (1, .int (nI f)), (2, .int (nI t)), (4, .int (nI i))]) dX4_addEdge_80 rfl (by decide) rfl ?_
                refine y_iinc C (k := 4) (lv' := [(4, .int (nI (i + 1))), (3, .int (nI 0)), (0, .ref (aM 0)), (1, .int (nI f)), (2, .int (nI t))]) dX4_addEdge_81 rfl (yn_inc rfl) (by decide) rfl ?_
                refine y_goto C (tgt := 40) dX4_addEdge_84 (by decide) ?_
                refine y_sub [2, 3, 4, 1, 0] (lv' := [(0, .ref (aM 0)), (1, .int (nI f)), (2, .int (nI t)), (3, .int (nI 0)), (4, .int (nI (i + 1)))]) rfl ?_
                exact ih40 _ _ (by omega) (by simp [dpF, ← hg, h50, h61, h72]) (by omega) (by omega)
              · skip
                refine y_iconst C (v := nI 1) dX4_addEdge_75 (by decide) ?_
                refine y_goto C (tgt := 80) dX4_addEdge_76 (by decide) ?_
                refine y_istore_n C (lv' := [(3, .int (nI 1)), (0, .ref (aM 0)), (1, .int (nI f)), (2, .int (nI t)), (4, .int (nI i))]) dX4_addEdge_80 rfl (by decide) rfl ?_
                refine y_iinc C (k := 4) (lv' := [(4, .int (nI (i + 1))), (3, .int (nI 1)), (0, .ref (aM 0)), (1, .int (nI f)), (2, .int (nI t))]) dX4_addEdge_81 rfl (yn_inc rfl) (by decide) rfl ?_
                refine y_goto C (tgt := 40) dX4_addEdge_84 (by decide) ?_
                refine y_sub [2, 3, 4, 1, 0] (lv' := [(0, .ref (aM 0)), (1, .int (nI f)), (2, .int (nI t)), (3, .int (nI 1)), (4, .int (nI (i + 1)))]) rfl ?_
                exact ih40 _ _ (by omega) (by simp [dpF, ← hg, h50, h61, h72]) (by omega) (by omega)
    refine y_sub [2, 3, 4, 1, 0] (lv' := [(0, .ref (aM 0)), (1, .int (nI f)), (2, .int (nI t)), (3, .int (nI w)), (4, .int (nI 0))]) rfl ?_
    exact lp40 _ _ _ (Nat.zero_le _) hw hwl (Nat.lt_succ_self _)
  refine y_ifN_ne C (tgt := 35) dX4_addEdge_28 (by decide) (by omega) (fun h28 => ?_) (fun h28 => ?_)
  · skip
    refine y_iconst C (v := nI 0) dX4_addEdge_35 (by decide) ?_
    exact jn36 _ (by simp [dpF, h28]) (by omega)
  · skip
    refine y_iconst C (v := nI 1) dX4_addEdge_31 (by decide) ?_
    refine y_goto C (tgt := 36) dX4_addEdge_32 (by decide) ?_
    exact jn36 _ (by simp [dpF, h28]) (by omega)
set_option maxHeartbeats 4000000 in
set_option maxRecDepth 100000 in
theorem c_X4_addEdge_ok (l : Launch) (D : va_G) (cI : ClassId) (aM : Nat → Nat) (th E : Nat) (vs : Nat → Int32) (B : Nat) (sz cd : Nat → Nat) (M : Nat) (fr tt : Nat → Nat) (na nb ta tb dl co he : Nat → Int32) (mi la : Int32) (f t : Nat) (hB : B ≤ 40) (hM : M ≤ 80) (hfr : ∀ j, fr j < 40) (htt : ∀ j, tt j < 40) (hf : f < B) (ht : t < B) (hd : dpF fr tt f t M = 0) (hx : exF fr f M ≠ 2) (hx2 : M ≠ 80) : ctI l yX4_addEdge wsX4_addEdge (rmD 1 0 0) D [(cI, .int)] [.ref (aM 0), .int (nI f), .int (nI t)] (WM cI aM th E vs B sz cd M fr tt na nb ta tb dl co he mi la) (WM cI aM 0 E vs B sz cd (M + 1) (upN fr M f) (upN tt M t) na nb ta tb dl co he mi la) (nI M) 0 0 := by
  refine ctI_of (by decide) rfl (Nat.le_of_ble_eq_true rfl) ?_
  intro p e s m args below meth c A Q C hnm K
  refine y_lv (lv' := [(0, .ref (aM 0)), (1, .int (nI f)), (2, .int (nI t))]) rfl ?_
  refine y_aload_n C 0 dX4_addEdge_0 rfl rfl ?_
  refine y_iconst C (v := nI 0) dX4_addEdge_1 (by decide) ?_
  refine y_put C in_X4_addEdge_4 tyX4 tyX4_ok nmX4 (ci := 4) rfl 0 (by decide) rfl (List.mem_of_getElem? (i := 1) rfl) 0 rfl rfl rfl (Nat.le_of_ble_eq_true rfl) (ws' := WM cI aM 0 E vs B sz cd M fr tt na nb ta tb dl co he mi la) rfl dX4_addEdge_2 ?_
  refine y_aload_n C 0 dX4_addEdge_5 rfl rfl ?_
  refine y_iload_n C 1 dX4_addEdge_6 rfl rfl ?_
  refine y_callI C (wr := []) 1 (c_X4_isBlock_ok l D cI aM 0 E vs B sz cd M fr tt na nb ta tb dl co he mi la f hB (by omega)) gX4_addEdge_X4_isBlock rfl rfl rfl (by decide +kernel) ⟨Nat.le_of_ble_eq_true rfl, Nat.le_of_ble_eq_true rfl⟩ (q0 := 0) (ci := 4) rfl rfl rfl rfl rfl (Nat.le_of_ble_eq_true rfl) dX4_addEdge_7 ⟨Nat.le_of_ble_eq_true rfl, Nat.le_of_ble_eq_true rfl⟩ ?_
  refine y_ws (ws' := WM cI aM 0 E vs B sz cd M fr tt na nb ta tb dl co he mi la) rfl ?_
  refine y_ifN_eq C (tgt := 21) dX4_addEdge_10 (by decide) (by decide) (fun h => absurd h (by decide)) (fun _ => ?_)
  refine y_aload_n C 0 dX4_addEdge_13 rfl rfl ?_
  refine y_iload_n C 2 dX4_addEdge_14 rfl rfl ?_
  refine y_callI C (wr := []) 1 (c_X4_isBlock_ok l D cI aM 0 E vs B sz cd M fr tt na nb ta tb dl co he mi la t hB (by omega)) gX4_addEdge_X4_isBlock rfl rfl rfl (by decide +kernel) ⟨Nat.le_of_ble_eq_true rfl, Nat.le_of_ble_eq_true rfl⟩ (q0 := 0) (ci := 4) rfl rfl rfl rfl rfl (Nat.le_of_ble_eq_true rfl) dX4_addEdge_15 ⟨Nat.le_of_ble_eq_true rfl, Nat.le_of_ble_eq_true rfl⟩ ?_
  refine y_ws (ws' := WM cI aM 0 E vs B sz cd M fr tt na nb ta tb dl co he mi la) rfl ?_
  refine y_ifN_ne C (tgt := 27) dX4_addEdge_18 (by decide) (by decide) (fun _ => ?_) (fun h => absurd h (by decide))
  refine y_iload_n C 2 dX4_addEdge_27 rfl rfl ?_
  have jn36 : ∀ (w : Nat), (w = dpF fr tt f t 0) → (w ≤ 1) → yW p l e (rmD 1 0 0) s m args below meth c 5 D A Q 0 0 (WM cI aM 0 E vs B sz cd M fr tt na nb ta tb dl co he mi la) 36 [(0, .ref (aM 0)), (1, .int (nI f)), (2, .int (nI t))] [.int (nI w)] := by
    intro w hw hwl
    refine y_istore_n C (lv' := [(3, .int (nI w)), (0, .ref (aM 0)), (1, .int (nI f)), (2, .int (nI t))]) dX4_addEdge_36 rfl (by decide) rfl ?_
    refine y_iconst C (v := nI 0) dX4_addEdge_37 (by decide) ?_
    refine y_istore C (lv' := [(4, .int (nI 0)), (3, .int (nI w)), (0, .ref (aM 0)), (1, .int (nI f)), (2, .int (nI t))]) dX4_addEdge_38 (by decide) rfl ?_
    have lp40 : ∀ (n40 : Nat) (i : Nat) (g : Nat), (i ≤ M) → (g = dpF fr tt f t i) → (g ≤ 1) → (M - i) < n40 → yW p l e (rmD 1 0 0) s m args below meth c 5 D A Q 0 0 (WM cI aM 0 E vs B sz cd M fr tt na nb ta tb dl co he mi la) 40 [(0, .ref (aM 0)), (1, .int (nI f)), (2, .int (nI t)), (3, .int (nI g)), (4, .int (nI i))] [] := by
      intro n40
      induction n40 with
      | zero => intro i g hi hg hgl hm; exact absurd hm (Nat.not_lt_zero _)
      | succ n40 ih40 =>
        intro i g hi hg hgl hm40
        refine y_iload C 4 dX4_addEdge_40 rfl ?_
        refine y_aload_n C 0 dX4_addEdge_42 rfl rfl ?_
        refine y_get C in_X4_addEdge_4 (ci := 4) rfl 6 (by decide) (List.mem_of_getElem? (i := 2) rfl) 0 rfl rfl dX4_addEdge_43 ?_
        refine y_icmpN_ge C (tgt := 87) dX4_addEdge_46 (by decide) (by omega) (by omega) (fun h46 => ?_) (fun h46 => ?_)
        · skip
          have hq_i : i = M := by omega
          rw [hq_i] at hg
          refine y_iload_n C 3 dX4_addEdge_87 rfl rfl ?_
          refine y_ifN_eq C (tgt := 97) dX4_addEdge_88 (by decide) (by have := hgl; omega) (fun h88 => ?_) (fun h88 => ?_)
          · skip
            refine y_aload_n C 0 dX4_addEdge_97 rfl rfl ?_
            refine y_iload_n C 1 dX4_addEdge_98 rfl rfl ?_
            refine y_callI C (wr := []) 1 (c_X4_exits l D cI aM 0 E vs B sz cd M fr tt na nb ta tb dl co he mi la f hM hfr (by omega)) gX4_addEdge_X4_exits rfl rfl rfl (by decide +kernel) ⟨Nat.le_of_ble_eq_true rfl, Nat.le_of_ble_eq_true rfl⟩ (q0 := 0) (ci := 4) rfl rfl rfl rfl rfl (Nat.le_of_ble_eq_true rfl) dX4_addEdge_99 ⟨Nat.le_of_ble_eq_true rfl, Nat.le_of_ble_eq_true rfl⟩ ?_
            refine y_ws (ws' := WM cI aM 0 E vs B sz cd M fr tt na nb ta tb dl co he mi la) rfl ?_
            refine y_iconst C (v := nI 2) dX4_addEdge_102 (by decide) ?_
            refine y_icmpN_eq C (tgt := 115) dX4_addEdge_103 (by decide) (by have := exF_le fr f M; omega) (by omega) (fun h103 => ?_) (fun h103 => ?_)
            · skip
              exact absurd h103 hx
            · skip
              refine y_aload_n C 0 dX4_addEdge_106 rfl rfl ?_
              refine y_get C in_X4_addEdge_4 (ci := 4) rfl 6 (by decide) (List.mem_of_getElem? (i := 2) rfl) 0 rfl rfl dX4_addEdge_107 ?_
              refine y_bipush C (v := nI 80) dX4_addEdge_110 (by decide) ?_
              refine y_icmpN_ne C (tgt := 121) dX4_addEdge_112 (by decide) (by omega) (by omega) (fun h112 => ?_) (fun h112 => ?_)
              · skip
                refine y_aload_n C 0 dX4_addEdge_121 rfl rfl ?_
                refine y_get C in_X4_addEdge_4 (ci := 4) rfl 7 (by decide) (List.mem_of_getElem? (i := 3) rfl) 0 rfl rfl dX4_addEdge_122 ?_
                refine y_aload_n C 0 dX4_addEdge_125 rfl rfl ?_
                refine y_get C in_X4_addEdge_4 (ci := 4) rfl 6 (by decide) (List.mem_of_getElem? (i := 2) rfl) 0 rfl rfl dX4_addEdge_126 ?_
                refine y_iload_n C 1 dX4_addEdge_129 rfl rfl ?_
                refine y_iastA C (q0 := 4) (t0 := 0) rfl rfl (by decide) (by omega) (ws' := WM cI aM 0 E vs B sz cd M (upN fr M f) tt na nb ta tb dl co he mi la) rfl dX4_addEdge_130 ?_
                refine y_aload_n C 0 dX4_addEdge_131 rfl rfl ?_
                refine y_get C in_X4_addEdge_4 (ci := 4) rfl 8 (by decide) (List.mem_of_getElem? (i := 4) rfl) 0 rfl rfl dX4_addEdge_132 ?_
                refine y_aload_n C 0 dX4_addEdge_135 rfl rfl ?_
                refine y_get C in_X4_addEdge_4 (ci := 4) rfl 6 (by decide) (List.mem_of_getElem? (i := 2) rfl) 0 rfl rfl dX4_addEdge_136 ?_
                refine y_iload_n C 2 dX4_addEdge_139 rfl rfl ?_
                refine y_iastA C (q0 := 5) (t0 := 0) rfl rfl (by decide) (by omega) (ws' := WM cI aM 0 E vs B sz cd M (upN fr M f) (upN tt M t) na nb ta tb dl co he mi la) rfl dX4_addEdge_140 ?_
                refine y_aload_n C 0 dX4_addEdge_141 rfl rfl ?_
                refine y_dup C dX4_addEdge_142 rfl ?_
                refine y_get C in_X4_addEdge_4 (ci := 4) rfl 6 (by decide) (List.mem_of_getElem? (i := 2) rfl) 0 rfl rfl dX4_addEdge_143 ?_
                refine y_iconst C (v := nI 1) dX4_addEdge_146 (by decide) ?_
                refine y_iaddN C dX4_addEdge_147 ?_
                refine y_put C in_X4_addEdge_4 tyX4 tyX4_ok nmX4 (ci := 4) rfl 6 (by decide) rfl (List.mem_of_getElem? (i := 2) rfl) 0 rfl rfl rfl (Nat.le_of_ble_eq_true rfl) (ws' := WM cI aM 0 E vs B sz cd (M + 1) (upN fr M f) (upN tt M t) na nb ta tb dl co he mi la) rfl dX4_addEdge_148 ?_
                refine y_aload_n C 0 dX4_addEdge_151 rfl rfl ?_
                refine y_get C in_X4_addEdge_4 (ci := 4) rfl 6 (by decide) (List.mem_of_getElem? (i := 2) rfl) 0 rfl rfl dX4_addEdge_152 ?_
                refine y_iconst C (v := nI 1) dX4_addEdge_155 (by decide) ?_
                refine y_isubN C dX4_addEdge_156 (by omega) ?_
                exact K _ _ _ _ _ dX4_addEdge_157 (congrArg nI (by omega)) (by decide) (by decide)
              · skip
                exact absurd h112 hx2
          · skip
            exact absurd (hg.trans hd) h88
        · skip
          refine y_iload_n C 3 dX4_addEdge_49 rfl rfl ?_
          refine y_ifN_ne C (tgt := 75) dX4_addEdge_50 (by decide) (by have := hgl; omega) (fun h50 => ?_) (fun h50 => ?_)
          · skip
            refine y_iconst C (v := nI 1) dX4_addEdge_75 (by decide) ?_
            refine y_goto C (tgt := 80) dX4_addEdge_76 (by decide) ?_
            refine y_istore_n C (lv' := [(3, .int (nI 1)), (0, .ref (aM 0)), (1, .int (nI f)), (2, .int (nI t)), (4, .int (nI i))]) dX4_addEdge_80 rfl (by decide) rfl ?_
            refine y_iinc C (k := 4) (lv' := [(4, .int (nI (i + 1))), (3, .int (nI 1)), (0, .ref (aM 0)), (1, .int (nI f)), (2, .int (nI t))]) dX4_addEdge_81 rfl (yn_inc rfl) (by decide) rfl ?_
            refine y_goto C (tgt := 40) dX4_addEdge_84 (by decide) ?_
            refine y_sub [2, 3, 4, 1, 0] (lv' := [(0, .ref (aM 0)), (1, .int (nI f)), (2, .int (nI t)), (3, .int (nI 1)), (4, .int (nI (i + 1)))]) rfl ?_
            exact ih40 _ _ (by omega) (by simp [dpF, ← hg, h50]) (by omega) (by omega)
          · skip
            refine y_aload_n C 0 dX4_addEdge_53 rfl rfl ?_
            refine y_get C in_X4_addEdge_4 (ci := 4) rfl 7 (by decide) (List.mem_of_getElem? (i := 3) rfl) 0 rfl rfl dX4_addEdge_54 ?_
            refine y_iload C 4 dX4_addEdge_57 rfl ?_
            refine y_ialdA C (q0 := 4) (t0 := 0) rfl rfl (by decide) (by omega) dX4_addEdge_59 ?_
            refine y_iload_n C 1 dX4_addEdge_60 rfl rfl ?_
            refine y_icmpN_ne C (tgt := 79) dX4_addEdge_61 (by decide) (by have := hfr i; omega) (by omega) (fun h61 => ?_) (fun h61 => ?_)
            · skip
              refine y_iconst C (v := nI 0) dX4_addEdge_79 (by decide) ?_
              refine y_istore_n C (lv' := [(3, .int (nI 0)), (0, .ref (aM 0)), (1, .int (nI f)), (2, .int (nI t)), (4, .int (nI i))]) dX4_addEdge_80 rfl (by decide) rfl ?_
              refine y_iinc C (k := 4) (lv' := [(4, .int (nI (i + 1))), (3, .int (nI 0)), (0, .ref (aM 0)), (1, .int (nI f)), (2, .int (nI t))]) dX4_addEdge_81 rfl (yn_inc rfl) (by decide) rfl ?_
              refine y_goto C (tgt := 40) dX4_addEdge_84 (by decide) ?_
              refine y_sub [2, 3, 4, 1, 0] (lv' := [(0, .ref (aM 0)), (1, .int (nI f)), (2, .int (nI t)), (3, .int (nI 0)), (4, .int (nI (i + 1)))]) rfl ?_
              exact ih40 _ _ (by omega) (by simp [dpF, ← hg, h50, h61]) (by omega) (by omega)
            · skip
              refine y_aload_n C 0 dX4_addEdge_64 rfl rfl ?_
              refine y_get C in_X4_addEdge_4 (ci := 4) rfl 8 (by decide) (List.mem_of_getElem? (i := 4) rfl) 0 rfl rfl dX4_addEdge_65 ?_
              refine y_iload C 4 dX4_addEdge_68 rfl ?_
              refine y_ialdA C (q0 := 5) (t0 := 0) rfl rfl (by decide) (by omega) dX4_addEdge_70 ?_
              refine y_iload_n C 2 dX4_addEdge_71 rfl rfl ?_
              refine y_icmpN_ne C (tgt := 79) dX4_addEdge_72 (by decide) (by have := htt i; omega) (by omega) (fun h72 => ?_) (fun h72 => ?_)
              · skip
                refine y_iconst C (v := nI 0) dX4_addEdge_79 (by decide) ?_
                refine y_istore_n C (lv' := [(3, .int (nI 0)), (0, .ref (aM 0)), (1, .int (nI f)), (2, .int (nI t)), (4, .int (nI i))]) dX4_addEdge_80 rfl (by decide) rfl ?_
                refine y_iinc C (k := 4) (lv' := [(4, .int (nI (i + 1))), (3, .int (nI 0)), (0, .ref (aM 0)), (1, .int (nI f)), (2, .int (nI t))]) dX4_addEdge_81 rfl (yn_inc rfl) (by decide) rfl ?_
                refine y_goto C (tgt := 40) dX4_addEdge_84 (by decide) ?_
                refine y_sub [2, 3, 4, 1, 0] (lv' := [(0, .ref (aM 0)), (1, .int (nI f)), (2, .int (nI t)), (3, .int (nI 0)), (4, .int (nI (i + 1)))]) rfl ?_
                exact ih40 _ _ (by omega) (by simp [dpF, ← hg, h50, h61, h72]) (by omega) (by omega)
              · skip
                refine y_iconst C (v := nI 1) dX4_addEdge_75 (by decide) ?_
                refine y_goto C (tgt := 80) dX4_addEdge_76 (by decide) ?_
                refine y_istore_n C (lv' := [(3, .int (nI 1)), (0, .ref (aM 0)), (1, .int (nI f)), (2, .int (nI t)), (4, .int (nI i))]) dX4_addEdge_80 rfl (by decide) rfl ?_
                refine y_iinc C (k := 4) (lv' := [(4, .int (nI (i + 1))), (3, .int (nI 1)), (0, .ref (aM 0)), (1, .int (nI f)), (2, .int (nI t))]) dX4_addEdge_81 rfl (yn_inc rfl) (by decide) rfl ?_
                refine y_goto C (tgt := 40) dX4_addEdge_84 (by decide) ?_
                refine y_sub [2, 3, 4, 1, 0] (lv' := [(0, .ref (aM 0)), (1, .int (nI f)), (2, .int (nI t)), (3, .int (nI 1)), (4, .int (nI (i + 1)))]) rfl ?_
                exact ih40 _ _ (by omega) (by simp [dpF, ← hg, h50, h61, h72]) (by omega) (by omega)
    refine y_sub [2, 3, 4, 1, 0] (lv' := [(0, .ref (aM 0)), (1, .int (nI f)), (2, .int (nI t)), (3, .int (nI w)), (4, .int (nI 0))]) rfl ?_
    exact lp40 _ _ _ (Nat.zero_le _) hw hwl (Nat.lt_succ_self _)
  refine y_ifN_ne C (tgt := 35) dX4_addEdge_28 (by decide) (by omega) (fun h28 => ?_) (fun h28 => ?_)
  · skip
    refine y_iconst C (v := nI 0) dX4_addEdge_35 (by decide) ?_
    exact jn36 _ (by simp [dpF, h28]) (by omega)
  · skip
    refine y_iconst C (v := nI 1) dX4_addEdge_31 (by decide) ?_
    refine y_goto C (tgt := 36) dX4_addEdge_32 (by decide) ?_
    exact jn36 _ (by simp [dpF, h28]) (by omega)
theorem in_X4_digest_4 : ∀ w ∈ wsX40, w ∈ wsX4_digest := fun _ h => List.mem_cons_of_mem _ (List.mem_append_right _ h)
set_option maxHeartbeats 4000000 in
set_option maxRecDepth 100000 in
theorem c_X4_digest (l : Launch) (D : va_G) (cI : ClassId) (aM : Nat → Nat) (th E : Nat) (vs : Nat → Int32) (B : Nat) (sz cd : Nat → Nat) (M : Nat) (fr tt : Nat → Nat) (na nb ta tb dl co he : Nat → Int32) (mi la : Int32) (hE : E ≤ 8) (hB : B ≤ 40) (hM : M ≤ 80) (hsz : ∀ j, sz j ≤ 12) (hcd : ∀ j, cd j < 24) (hfr : ∀ j, fr j < 40) (htt : ∀ j, tt j < 40) : ctL l yX4_digest wsX4_digest (rmD 1 0 0) D [(cI, .int)] [.ref (aM 0)] (WM cI aM th E vs B sz cd M fr tt na nb ta tb dl co he mi la) (WM cI aM 0 E vs B sz cd M fr tt na nb ta tb dl co he mi la) ((dgM E vs B sz cd M fr tt M * 31 + mi.toInt64) * 31 + la.toInt64) 0 0 := by
  refine ctL_of (by decide) rfl (Nat.le_of_ble_eq_true rfl) ?_
  intro p e s m args below meth c A Q C hnm K
  refine y_lv (lv' := [(0, .ref (aM 0))]) rfl ?_
  refine y_aload_n C 0 dX4_digest_0 rfl rfl ?_
  refine y_iconst C (v := nI 0) dX4_digest_1 (by decide) ?_
  refine y_put C in_X4_digest_4 tyX4 tyX4_ok nmX4 (ci := 4) rfl 0 (by decide) rfl (List.mem_of_getElem? (i := 1) rfl) 0 rfl rfl rfl (Nat.le_of_ble_eq_true rfl) (ws' := WM cI aM 0 E vs B sz cd M fr tt na nb ta tb dl co he mi la) rfl dX4_digest_2 ?_
  refine y_ldc2 C (List.mem_of_getElem? (i := 2) rfl) dX4_digest_5 ?_
  refine y_aload_n C 0 dX4_digest_8 rfl rfl ?_
  refine y_get C in_X4_digest_4 (ci := 4) rfl 1 (by decide) (List.mem_of_getElem? (i := 3) rfl) 0 rfl rfl dX4_digest_9 ?_
  refine y_i2l C dX4_digest_12 rfl ?_
  refine y_ladd C dX4_digest_13 ?_
  refine y_lstore_n C (lv' := [(1, .long (((2573 : Int64)) + ((nI E).toInt64))), (0, .ref (aM 0))]) dX4_digest_14 rfl (by decide) rfl ?_
  refine y_iconst C (v := nI 0) dX4_digest_15 (by decide) ?_
  refine y_istore_n C (lv' := [(3, .int (nI 0)), (1, .long (((2573 : Int64)) + ((nI E).toInt64))), (0, .ref (aM 0))]) dX4_digest_16 rfl (by decide) rfl ?_
  have lp17 : ∀ (n17 : Nat) (i : Nat) (d : Int64), (i ≤ E) → (d = dgE E vs i) → (E - i) < n17 → yW p l e (rmD 1 0 0) s m args below meth c 5 D A Q 0 0 (WM cI aM 0 E vs B sz cd M fr tt na nb ta tb dl co he mi la) 17 [(0, .ref (aM 0)), (1, .long d), (3, .int (nI i))] [] := by
    intro n17
    induction n17 with
    | zero => intro i d hi hd hm; exact absurd hm (Nat.not_lt_zero _)
    | succ n17 ih17 =>
      intro i d hi hd hm17
      refine y_iload_n C 2 dX4_digest_17 rfl rfl ?_
      refine y_aload_n C 0 dX4_digest_18 rfl rfl ?_
      refine y_get C in_X4_digest_4 (ci := 4) rfl 1 (by decide) (List.mem_of_getElem? (i := 3) rfl) 0 rfl rfl dX4_digest_19 ?_
      refine y_icmpN_ge C (tgt := 45) dX4_digest_22 (by decide) (by omega) (by omega) (fun h22 => ?_) (fun h22 => ?_)
      · skip
        have hq_i : i = E := by omega
        rw [hq_i] at hd; subst hd
        refine y_lload_n C 1 dX4_digest_45 rfl rfl ?_
        refine y_ldc2 C (List.mem_of_getElem? (i := 4) rfl) dX4_digest_46 ?_
        refine y_lmul C dX4_digest_49 ?_
        refine y_aload_n C 0 dX4_digest_50 rfl rfl ?_
        refine y_get C in_X4_digest_4 (ci := 4) rfl 3 (by decide) (List.mem_of_getElem? (i := 6) rfl) 0 rfl rfl dX4_digest_51 ?_
        refine y_i2l C dX4_digest_54 rfl ?_
        refine y_ladd C dX4_digest_55 ?_
        refine y_lstore_n C (lv' := [(1, .long (((dgE E vs E) * ((31 : Int64))) + ((nI B).toInt64))), (0, .ref (aM 0)), (3, .int (nI i))]) dX4_digest_56 rfl (by decide) rfl ?_
        refine y_iconst C (v := nI 0) dX4_digest_57 (by decide) ?_
        refine y_istore_n C (lv' := [(3, .int (nI 0)), (1, .long (((dgE E vs E) * ((31 : Int64))) + ((nI B).toInt64))), (0, .ref (aM 0))]) dX4_digest_58 rfl (by decide) rfl ?_
        have lp59 : ∀ (n59 : Nat) (b : Nat) (d : Int64), (b ≤ B) → (d = dgB E vs B sz cd b) → (B - b) < n59 → yW p l e (rmD 1 0 0) s m args below meth c 5 D A Q 0 0 (WM cI aM 0 E vs B sz cd M fr tt na nb ta tb dl co he mi la) 59 [(0, .ref (aM 0)), (1, .long d), (3, .int (nI b))] [] := by
          intro n59
          induction n59 with
          | zero => intro b d hb hd hm; exact absurd hm (Nat.not_lt_zero _)
          | succ n59 ih59 =>
            intro b d hb hd hm59
            refine y_iload_n C 2 dX4_digest_59 rfl rfl ?_
            refine y_aload_n C 0 dX4_digest_60 rfl rfl ?_
            refine y_get C in_X4_digest_4 (ci := 4) rfl 3 (by decide) (List.mem_of_getElem? (i := 6) rfl) 0 rfl rfl dX4_digest_61 ?_
            refine y_icmpN_ge C (tgt := 122) dX4_digest_64 (by decide) (by omega) (by omega) (fun h64 => ?_) (fun h64 => ?_)
            · skip
              have hq_b : b = B := by omega
              rw [hq_b] at hd; subst hd
              refine y_lload_n C 1 dX4_digest_122 rfl rfl ?_
              refine y_ldc2 C (List.mem_of_getElem? (i := 4) rfl) dX4_digest_123 ?_
              refine y_lmul C dX4_digest_126 ?_
              refine y_aload_n C 0 dX4_digest_127 rfl rfl ?_
              refine y_get C in_X4_digest_4 (ci := 4) rfl 6 (by decide) (List.mem_of_getElem? (i := 8) rfl) 0 rfl rfl dX4_digest_128 ?_
              refine y_i2l C dX4_digest_131 rfl ?_
              refine y_ladd C dX4_digest_132 ?_
              refine y_lstore_n C (lv' := [(1, .long (((dgB E vs B sz cd B) * ((31 : Int64))) + ((nI M).toInt64))), (0, .ref (aM 0)), (3, .int (nI b))]) dX4_digest_133 rfl (by decide) rfl ?_
              refine y_iconst C (v := nI 0) dX4_digest_134 (by decide) ?_
              refine y_istore_n C (lv' := [(3, .int (nI 0)), (1, .long (((dgB E vs B sz cd B) * ((31 : Int64))) + ((nI M).toInt64))), (0, .ref (aM 0))]) dX4_digest_135 rfl (by decide) rfl ?_
              have lp136 : ∀ (n136 : Nat) (i : Nat) (d : Int64), (i ≤ M) → (d = dgM E vs B sz cd M fr tt i) → (M - i) < n136 → yW p l e (rmD 1 0 0) s m args below meth c 5 D A Q 0 0 (WM cI aM 0 E vs B sz cd M fr tt na nb ta tb dl co he mi la) 136 [(0, .ref (aM 0)), (1, .long d), (3, .int (nI i))] [] := by
                intro n136
                induction n136 with
                | zero => intro i d hi hd hm; exact absurd hm (Nat.not_lt_zero _)
                | succ n136 ih136 =>
                  intro i d hi hd hm136
                  refine y_iload_n C 2 dX4_digest_136 rfl rfl ?_
                  refine y_aload_n C 0 dX4_digest_137 rfl rfl ?_
                  refine y_get C in_X4_digest_4 (ci := 4) rfl 6 (by decide) (List.mem_of_getElem? (i := 8) rfl) 0 rfl rfl dX4_digest_138 ?_
                  refine y_icmpN_ge C (tgt := 174) dX4_digest_141 (by decide) (by omega) (by omega) (fun h141 => ?_) (fun h141 => ?_)
                  · skip
                    have hq_i : i = M := by omega
                    rw [hq_i] at hd; subst hd
                    refine y_lload_n C 1 dX4_digest_174 rfl rfl ?_
                    refine y_ldc2 C (List.mem_of_getElem? (i := 4) rfl) dX4_digest_175 ?_
                    refine y_lmul C dX4_digest_178 ?_
                    refine y_aload_n C 0 dX4_digest_179 rfl rfl ?_
                    refine y_get C in_X4_digest_4 (ci := 4) rfl 16 (by decide) (List.mem_of_getElem? (i := 11) rfl) 0 rfl rfl dX4_digest_180 ?_
                    refine y_i2l C dX4_digest_183 rfl ?_
                    refine y_ladd C dX4_digest_184 ?_
                    refine y_ldc2 C (List.mem_of_getElem? (i := 4) rfl) dX4_digest_185 ?_
                    refine y_lmul C dX4_digest_188 ?_
                    refine y_aload_n C 0 dX4_digest_189 rfl rfl ?_
                    refine y_get C in_X4_digest_4 (ci := 4) rfl 17 (by decide) (List.mem_of_getElem? (i := 12) rfl) 0 rfl rfl dX4_digest_190 ?_
                    refine y_i2l C dX4_digest_193 rfl ?_
                    refine y_ladd C dX4_digest_194 ?_
                    exact K _ _ _ _ _ dX4_digest_195 (rfl) (by decide) (by decide)
                  · skip
                    refine y_lload_n C 1 dX4_digest_144 rfl rfl ?_
                    refine y_ldc2 C (List.mem_of_getElem? (i := 4) rfl) dX4_digest_145 ?_
                    refine y_lmul C dX4_digest_148 ?_
                    refine y_bipush C (v := nI 40) dX4_digest_149 (by decide) ?_
                    refine y_aload_n C 0 dX4_digest_151 rfl rfl ?_
                    refine y_get C in_X4_digest_4 (ci := 4) rfl 7 (by decide) (List.mem_of_getElem? (i := 9) rfl) 0 rfl rfl dX4_digest_152 ?_
                    refine y_iload_n C 2 dX4_digest_155 rfl rfl ?_
                    refine y_ialdA C (q0 := 4) (t0 := 0) rfl rfl (by decide) (by omega) dX4_digest_156 ?_
                    refine y_imulN C dX4_digest_157 ?_
                    refine y_aload_n C 0 dX4_digest_158 rfl rfl ?_
                    refine y_get C in_X4_digest_4 (ci := 4) rfl 8 (by decide) (List.mem_of_getElem? (i := 10) rfl) 0 rfl rfl dX4_digest_159 ?_
                    refine y_iload_n C 2 dX4_digest_162 rfl rfl ?_
                    refine y_ialdA C (q0 := 5) (t0 := 0) rfl rfl (by decide) (by omega) dX4_digest_163 ?_
                    refine y_iaddN C dX4_digest_164 ?_
                    refine y_i2l C dX4_digest_165 rfl ?_
                    refine y_ladd C dX4_digest_166 ?_
                    refine y_lstore_n C (lv' := [(1, .long ((d * ((31 : Int64))) + ((nI ((40 * (fr i)) + (tt i))).toInt64))), (0, .ref (aM 0)), (3, .int (nI i))]) dX4_digest_167 rfl (by decide) rfl ?_
                    refine y_iinc C (k := 2) (lv' := [(3, .int (nI (i + 1))), (1, .long ((d * ((31 : Int64))) + ((nI ((40 * (fr i)) + (tt i))).toInt64))), (0, .ref (aM 0))]) dX4_digest_168 rfl (yn_inc rfl) (by decide) rfl ?_
                    refine y_goto C (tgt := 136) dX4_digest_171 (by decide) ?_
                    refine y_sub [2, 1, 0] (lv' := [(0, .ref (aM 0)), (1, .long ((d * ((31 : Int64))) + ((nI ((40 * (fr i)) + (tt i))).toInt64))), (3, .int (nI (i + 1)))]) rfl ?_
                    exact ih136 _ _ (by omega) (by simp only [dgM, hd]) (by omega)
              refine y_sub [2, 1, 0] (lv' := [(0, .ref (aM 0)), (1, .long (((dgB E vs B sz cd B) * ((31 : Int64))) + ((nI M).toInt64))), (3, .int (nI 0))]) rfl ?_
              exact lp136 _ _ _ (Nat.zero_le _) rfl (Nat.lt_succ_self _)
            · skip
              refine y_lload_n C 1 dX4_digest_67 rfl rfl ?_
              refine y_ldc2 C (List.mem_of_getElem? (i := 4) rfl) dX4_digest_68 ?_
              refine y_lmul C dX4_digest_71 ?_
              refine y_aload_n C 0 dX4_digest_72 rfl rfl ?_
              refine y_get C in_X4_digest_4 (ci := 4) rfl 4 (by decide) (List.mem_of_getElem? (i := 7) rfl) 0 rfl rfl dX4_digest_73 ?_
              refine y_iload_n C 2 dX4_digest_76 rfl rfl ?_
              refine y_ialdA C (q0 := 2) (t0 := 0) rfl rfl (by decide) (by omega) dX4_digest_77 ?_
              refine y_i2l C dX4_digest_78 rfl ?_
              refine y_ladd C dX4_digest_79 ?_
              refine y_lstore_n C (lv' := [(1, .long ((d * ((31 : Int64))) + ((nI (sz b)).toInt64))), (0, .ref (aM 0)), (3, .int (nI b))]) dX4_digest_80 rfl (by decide) rfl ?_
              refine y_iconst C (v := nI 0) dX4_digest_81 (by decide) ?_
              refine y_istore C (lv' := [(4, .int (nI 0)), (1, .long ((d * ((31 : Int64))) + ((nI (sz b)).toInt64))), (0, .ref (aM 0)), (3, .int (nI b))]) dX4_digest_82 (by decide) rfl ?_
              have lp84 : ∀ (n84 : Nat) (k : Nat) (d2 : Int64), (k ≤ sz b) → (d2 = dgI sz cd d b k) → (sz b - k) < n84 → yW p l e (rmD 1 0 0) s m args below meth c 5 D A Q 0 0 (WM cI aM 0 E vs B sz cd M fr tt na nb ta tb dl co he mi la) 84 [(0, .ref (aM 0)), (1, .long d2), (3, .int (nI b)), (4, .int (nI k))] [] := by
                intro n84
                induction n84 with
                | zero => intro k d2 hk hd2 hm; exact absurd hm (Nat.not_lt_zero _)
                | succ n84 ih84 =>
                  intro k d2 hk hd2 hm84
                  have hzb := hsz b
                  refine y_iload C 3 dX4_digest_84 rfl ?_
                  refine y_aload_n C 0 dX4_digest_86 rfl rfl ?_
                  refine y_get C in_X4_digest_4 (ci := 4) rfl 4 (by decide) (List.mem_of_getElem? (i := 7) rfl) 0 rfl rfl dX4_digest_87 ?_
                  refine y_iload_n C 2 dX4_digest_90 rfl rfl ?_
                  refine y_ialdA C (q0 := 2) (t0 := 0) rfl rfl (by decide) (by omega) dX4_digest_91 ?_
                  refine y_icmpN_ge C (tgt := 116) dX4_digest_92 (by decide) (by omega) (by have := hsz b; omega) (fun h92 => ?_) (fun h92 => ?_)
                  · skip
                    have hq_k : k = sz b := by omega
                    rw [hq_k] at hd2
                    refine y_iinc C (k := 2) (lv' := [(3, .int (nI (b + 1))), (0, .ref (aM 0)), (1, .long d2), (4, .int (nI k))]) dX4_digest_116 rfl (yn_inc rfl) (by decide) rfl ?_
                    refine y_goto C (tgt := 59) dX4_digest_119 (by decide) ?_
                    refine y_sub [1, 2, 0] (lv' := [(0, .ref (aM 0)), (1, .long d2), (3, .int (nI (b + 1)))]) rfl ?_
                    exact ih59 _ _ (by omega) (by simp only [dgB, hd2, hd]) (by omega)
                  · skip
                    refine y_lload_n C 1 dX4_digest_95 rfl rfl ?_
                    refine y_ldc2 C (List.mem_of_getElem? (i := 4) rfl) dX4_digest_96 ?_
                    refine y_lmul C dX4_digest_99 ?_
                    refine y_aload_n C 0 dX4_digest_100 rfl rfl ?_
                    refine y_iload_n C 2 dX4_digest_101 rfl rfl ?_
                    refine y_iload C 3 dX4_digest_102 rfl ?_
                    refine y_callI C (wr := []) 2 (c_X4_at l D cI aM 0 E vs B sz cd M fr tt na nb ta tb dl co he mi la b k hcd (by omega) (by omega)) gX4_digest_X4_at rfl rfl rfl (by decide +kernel) ⟨Nat.le_of_ble_eq_true rfl, Nat.le_of_ble_eq_true rfl⟩ (q0 := 0) (ci := 4) rfl rfl rfl rfl rfl (Nat.le_of_ble_eq_true rfl) dX4_digest_104 ⟨Nat.le_of_ble_eq_true rfl, Nat.le_of_ble_eq_true rfl⟩ ?_
                    refine y_ws (ws' := WM cI aM 0 E vs B sz cd M fr tt na nb ta tb dl co he mi la) rfl ?_
                    refine y_i2l C dX4_digest_107 rfl ?_
                    refine y_ladd C dX4_digest_108 ?_
                    refine y_lstore_n C (lv' := [(1, .long ((d2 * ((31 : Int64))) + ((nI (cd (12 * b + k))).toInt64))), (0, .ref (aM 0)), (3, .int (nI b)), (4, .int (nI k))]) dX4_digest_109 rfl (by decide) rfl ?_
                    refine y_iinc C (k := 3) (lv' := [(4, .int (nI (k + 1))), (1, .long ((d2 * ((31 : Int64))) + ((nI (cd (12 * b + k))).toInt64))), (0, .ref (aM 0)), (3, .int (nI b))]) dX4_digest_110 rfl (yn_inc rfl) (by decide) rfl ?_
                    refine y_goto C (tgt := 84) dX4_digest_113 (by decide) ?_
                    refine y_sub [2, 1, 3, 0] (lv' := [(0, .ref (aM 0)), (1, .long ((d2 * ((31 : Int64))) + ((nI (cd (12 * b + k))).toInt64))), (3, .int (nI b)), (4, .int (nI (k + 1)))]) rfl ?_
                    exact ih84 _ _ (by omega) (by simp only [dgI, hd2]) (by omega)
              refine y_sub [2, 1, 3, 0] (lv' := [(0, .ref (aM 0)), (1, .long ((d * ((31 : Int64))) + ((nI (sz b)).toInt64))), (3, .int (nI b)), (4, .int (nI 0))]) rfl ?_
              exact lp84 _ _ _ (Nat.zero_le _) rfl (Nat.lt_succ_self _)
        refine y_sub [2, 1, 0] (lv' := [(0, .ref (aM 0)), (1, .long (((dgE E vs E) * ((31 : Int64))) + ((nI B).toInt64))), (3, .int (nI 0))]) rfl ?_
        exact lp59 _ _ _ (Nat.zero_le _) rfl (Nat.lt_succ_self _)
      · skip
        refine y_lload_n C 1 dX4_digest_25 rfl rfl ?_
        refine y_ldc2 C (List.mem_of_getElem? (i := 4) rfl) dX4_digest_26 ?_
        refine y_lmul C dX4_digest_29 ?_
        refine y_aload_n C 0 dX4_digest_30 rfl rfl ?_
        refine y_get C in_X4_digest_4 (ci := 4) rfl 2 (by decide) (List.mem_of_getElem? (i := 5) rfl) 0 rfl rfl dX4_digest_31 ?_
        refine y_iload_n C 2 dX4_digest_34 rfl rfl ?_
        refine y_iald C (q0 := 1) (t0 := 0) rfl rfl (by decide) (by omega) dX4_digest_35 ?_
        refine y_i2l C dX4_digest_36 rfl ?_
        refine y_ladd C dX4_digest_37 ?_
        refine y_lstore_n C (lv' := [(1, .long ((d * ((31 : Int64))) + ((vs i).toInt64))), (0, .ref (aM 0)), (3, .int (nI i))]) dX4_digest_38 rfl (by decide) rfl ?_
        refine y_iinc C (k := 2) (lv' := [(3, .int (nI (i + 1))), (1, .long ((d * ((31 : Int64))) + ((vs i).toInt64))), (0, .ref (aM 0))]) dX4_digest_39 rfl (yn_inc rfl) (by decide) rfl ?_
        refine y_goto C (tgt := 17) dX4_digest_42 (by decide) ?_
        refine y_sub [2, 1, 0] (lv' := [(0, .ref (aM 0)), (1, .long ((d * ((31 : Int64))) + ((vs i).toInt64))), (3, .int (nI (i + 1)))]) rfl ?_
        exact ih17 _ _ (by omega) (by simp only [dgE, hd]) (by omega)
  refine y_sub [2, 1, 0] (lv' := [(0, .ref (aM 0)), (1, .long (((2573 : Int64)) + ((nI E).toInt64))), (3, .int (nI 0))]) rfl ?_
  exact lp17 _ _ _ (Nat.zero_le _) rfl (Nat.lt_succ_self _)
