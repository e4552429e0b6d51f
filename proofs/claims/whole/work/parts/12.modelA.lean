theorem in_X4_thrown_4 : ∀ w ∈ wsX40, w ∈ wsX4_thrown := fun _ h => List.mem_cons_of_mem _ (List.mem_append_right _ h)
set_option maxHeartbeats 4000000 in
set_option maxRecDepth 100000 in
theorem c_X4_thrown (l : Launch) (D : va_G) (cI : ClassId) (aM : Nat → Nat) (th E : Nat) (vs : Nat → Int32) (B : Nat) (sz cd : Nat → Nat) (M : Nat) (fr tt : Nat → Nat) (na nb ta tb dl co he : Nat → Int32) (mi la : Int32)  : ctI l yX4_thrown wsX4_thrown (rmD 0 0 0) D [(cI, .int)] [.ref (aM 0)] (WM cI aM th E vs B sz cd M fr tt na nb ta tb dl co he mi la) (WM cI aM th E vs B sz cd M fr tt na nb ta tb dl co he mi la) (nI th) 0 0 := by
  refine ctI_of (by decide) rfl (Nat.le_of_ble_eq_true rfl) ?_
  intro p e s m args below meth c A Q C hnm K
  refine y_lv (lv' := [(0, .ref (aM 0))]) rfl ?_
  refine y_aload_n C 0 dX4_thrown_0 rfl rfl ?_
  refine y_get C in_X4_thrown_4 (ci := 4) rfl 0 (by decide) (List.mem_of_getElem? (i := 1) rfl) 0 rfl rfl dX4_thrown_1 ?_
  exact K _ _ _ _ _ dX4_thrown_4 (rfl) (by decide) (by decide)
theorem in_X4_no_4 : ∀ w ∈ wsX40, w ∈ wsX4_no := fun _ h => List.mem_cons_of_mem _ (List.mem_append_right _ h)
set_option maxHeartbeats 4000000 in
set_option maxRecDepth 100000 in
theorem c_X4_no (l : Launch) (D : va_G) (cI : ClassId) (aM : Nat → Nat) (th E : Nat) (vs : Nat → Int32) (B : Nat) (sz cd : Nat → Nat) (M : Nat) (fr tt : Nat → Nat) (na nb ta tb dl co he : Nat → Int32) (mi la : Int32) (k : Nat)  : ctI l yX4_no wsX4_no (rmD 0 0 0) D [(cI, .int)] [.ref (aM 0), .int (nI k)] (WM cI aM th E vs B sz cd M fr tt na nb ta tb dl co he mi la) (WM cI aM k E vs B sz cd M fr tt na nb ta tb dl co he mi la) (nI 0) 0 0 := by
  refine ctI_of (by decide) rfl (Nat.le_of_ble_eq_true rfl) ?_
  intro p e s m args below meth c A Q C hnm K
  refine y_lv (lv' := [(0, .ref (aM 0)), (1, .int (nI k))]) rfl ?_
  refine y_aload_n C 0 dX4_no_0 rfl rfl ?_
  refine y_iload_n C 1 dX4_no_1 rfl rfl ?_
  refine y_put C in_X4_no_4 tyX4 tyX4_ok nmX4 (ci := 4) rfl 0 (by decide) rfl (List.mem_of_getElem? (i := 1) rfl) 0 rfl rfl rfl (Nat.le_of_ble_eq_true rfl) (ws' := WM cI aM k E vs B sz cd M fr tt na nb ta tb dl co he mi la) rfl dX4_no_2 ?_
  refine y_iconst C (v := nI 0) dX4_no_5 (by decide) ?_
  exact K _ _ _ _ _ dX4_no_6 (rfl) (by decide) (by decide)
theorem in_X4_isBlock_4 : ∀ w ∈ wsX40, w ∈ wsX4_isBlock := fun _ h => List.mem_cons_of_mem _ (List.mem_append_right _ h)
set_option maxHeartbeats 4000000 in
set_option maxRecDepth 100000 in
theorem c_X4_isBlock_ok (l : Launch) (D : va_G) (cI : ClassId) (aM : Nat → Nat) (th E : Nat) (vs : Nat → Int32) (B : Nat) (sz cd : Nat → Nat) (M : Nat) (fr tt : Nat → Nat) (na nb ta tb dl co he : Nat → Int32) (mi la : Int32) (b : Nat) (hB : B ≤ 40) (hb : b < B) : ctI l yX4_isBlock wsX4_isBlock (rmD 0 0 0) D [(cI, .int)] [.ref (aM 0), .int (nI b)] (WM cI aM th E vs B sz cd M fr tt na nb ta tb dl co he mi la) (WM cI aM th E vs B sz cd M fr tt na nb ta tb dl co he mi la) (nI 1) 0 0 := by
  refine ctZ_of (by decide) rfl (Nat.le_of_ble_eq_true rfl) ?_
  intro p e s m args below meth c A Q C hnm K
  refine y_lv (lv' := [(0, .ref (aM 0)), (1, .int (nI b))]) rfl ?_
  refine y_iload_n C 1 dX4_isBlock_0 rfl rfl ?_
  refine y_ifN_lt C (tgt := 16) dX4_isBlock_1 (by decide) (by omega) ?_
  refine y_iload_n C 1 dX4_isBlock_4 rfl rfl ?_
  refine y_aload_n C 0 dX4_isBlock_5 rfl rfl ?_
  refine y_get C in_X4_isBlock_4 (ci := 4) rfl 3 (by decide) (List.mem_of_getElem? (i := 1) rfl) 0 rfl rfl dX4_isBlock_6 ?_
  refine y_icmpN_ge C (tgt := 16) dX4_isBlock_9 (by decide) (by omega) (by omega) (fun h9 => ?_) (fun h9 => ?_)
  · skip
    exact absurd h9 (by omega)
  · skip
    refine y_iconst C (v := nI 1) dX4_isBlock_12 (by decide) ?_
    refine y_goto C (tgt := 17) dX4_isBlock_13 (by decide) ?_
    exact K _ _ _ _ _ dX4_isBlock_17 (rfl) (rfl) (by decide) (by decide)
set_option maxHeartbeats 4000000 in
set_option maxRecDepth 100000 in
theorem c_X4_isBlock_bad (l : Launch) (D : va_G) (cI : ClassId) (aM : Nat → Nat) (th E : Nat) (vs : Nat → Int32) (B : Nat) (sz cd : Nat → Nat) (M : Nat) (fr tt : Nat → Nat) (na nb ta tb dl co he : Nat → Int32) (mi la : Int32) (b : Int32) (hB : B ≤ 40) (hb : b < 0 ∨ nI B ≤ b) : ctI l yX4_isBlock wsX4_isBlock (rmD 0 0 0) D [(cI, .int)] [.ref (aM 0), .int b] (WM cI aM th E vs B sz cd M fr tt na nb ta tb dl co he mi la) (WM cI aM th E vs B sz cd M fr tt na nb ta tb dl co he mi la) (nI 0) 0 0 := by
  refine ctZ_of (by decide) rfl (Nat.le_of_ble_eq_true rfl) ?_
  intro p e s m args below meth c A Q C hnm K
  refine y_lv (lv' := [(0, .ref (aM 0)), (1, .int b)]) rfl ?_
  refine y_iload_n C 1 dX4_isBlock_0 rfl rfl ?_
  refine y_if_lt C (tgt := 16) dX4_isBlock_1 (by decide)  (fun h1 => ?_) (fun h1 => ?_)
  · skip
    refine y_iconst C (v := nI 0) dX4_isBlock_16 (by decide) ?_
    exact K _ _ _ _ _ dX4_isBlock_17 (rfl) (rfl) (by decide) (by decide)
  · skip
    refine y_iload_n C 1 dX4_isBlock_4 rfl rfl ?_
    refine y_aload_n C 0 dX4_isBlock_5 rfl rfl ?_
    refine y_get C in_X4_isBlock_4 (ci := 4) rfl 3 (by decide) (List.mem_of_getElem? (i := 1) rfl) 0 rfl rfl dX4_isBlock_6 ?_
    refine y_icmp_ge C (tgt := 16) dX4_isBlock_9 (by decide)  (fun h9 => ?_) (fun h9 => ?_)
    · skip
      refine y_iconst C (v := nI 0) dX4_isBlock_16 (by decide) ?_
      exact K _ _ _ _ _ dX4_isBlock_17 (rfl) (rfl) (by decide) (by decide)
    · skip
      exact absurd hb (fun q => q.elim h1 h9)
theorem in_X4_exits_4 : ∀ w ∈ wsX40, w ∈ wsX4_exits := fun _ h => List.mem_cons_of_mem _ (List.mem_append_right _ h)
set_option maxHeartbeats 4000000 in
set_option maxRecDepth 100000 in
theorem c_X4_exits (l : Launch) (D : va_G) (cI : ClassId) (aM : Nat → Nat) (th E : Nat) (vs : Nat → Int32) (B : Nat) (sz cd : Nat → Nat) (M : Nat) (fr tt : Nat → Nat) (na nb ta tb dl co he : Nat → Int32) (mi la : Int32) (b : Nat) (hM : M ≤ 80) (hfr : ∀ j, fr j < 40) (hb : b < 40) : ctI l yX4_exits wsX4_exits (rmD 0 0 0) D [(cI, .int)] [.ref (aM 0), .int (nI b)] (WM cI aM th E vs B sz cd M fr tt na nb ta tb dl co he mi la) (WM cI aM th E vs B sz cd M fr tt na nb ta tb dl co he mi la) (nI (exF fr b M)) 0 0 := by
  refine ctI_of (by decide) rfl (Nat.le_of_ble_eq_true rfl) ?_
  intro p e s m args below meth c A Q C hnm K
  refine y_lv (lv' := [(0, .ref (aM 0)), (1, .int (nI b))]) rfl ?_
  refine y_iconst C (v := nI 0) dX4_exits_0 (by decide) ?_
  refine y_istore_n C (lv' := [(2, .int (nI 0)), (0, .ref (aM 0)), (1, .int (nI b))]) dX4_exits_1 rfl (by decide) rfl ?_
  refine y_iconst C (v := nI 0) dX4_exits_2 (by decide) ?_
  refine y_istore_n C (lv' := [(3, .int (nI 0)), (2, .int (nI 0)), (0, .ref (aM 0)), (1, .int (nI b))]) dX4_exits_3 rfl (by decide) rfl ?_
  have lp4 : ∀ (n4 : Nat) (i : Nat) (x : Nat), (i ≤ M) → (x = exF fr b i) → (M - i) < n4 → yW p l e (rmD 0 0 0) s m args below meth c 4 D A Q 0 0 (WM cI aM th E vs B sz cd M fr tt na nb ta tb dl co he mi la) 4 [(0, .ref (aM 0)), (1, .int (nI b)), (2, .int (nI x)), (3, .int (nI i))] [] := by
    intro n4
    induction n4 with
    | zero => intro i x hi hx hm; exact absurd hm (Nat.not_lt_zero _)
    | succ n4 ih4 =>
      intro i x hi hx hm4
      refine y_iload_n C 3 dX4_exits_4 rfl rfl ?_
      refine y_aload_n C 0 dX4_exits_5 rfl rfl ?_
      refine y_get C in_X4_exits_4 (ci := 4) rfl 6 (by decide) (List.mem_of_getElem? (i := 1) rfl) 0 rfl rfl dX4_exits_6 ?_
      refine y_icmpN_ge C (tgt := 36) dX4_exits_9 (by decide) (by omega) (by omega) (fun h9 => ?_) (fun h9 => ?_)
      · skip
        refine y_iload_n C 2 dX4_exits_36 rfl rfl ?_
        exact K _ _ _ _ _ dX4_exits_37 (by rw [hx, show i = M by omega]) (by decide) (by decide)
      · skip
        refine y_iload_n C 2 dX4_exits_12 rfl rfl ?_
        refine y_aload_n C 0 dX4_exits_13 rfl rfl ?_
        refine y_get C in_X4_exits_4 (ci := 4) rfl 7 (by decide) (List.mem_of_getElem? (i := 2) rfl) 0 rfl rfl dX4_exits_14 ?_
        refine y_iload_n C 3 dX4_exits_17 rfl rfl ?_
        refine y_ialdA C (q0 := 4) (t0 := 0) rfl rfl (by decide) (by omega) dX4_exits_18 ?_
        refine y_iload_n C 1 dX4_exits_19 rfl rfl ?_
        refine y_icmpN_ne C (tgt := 27) dX4_exits_20 (by decide) (by have := hfr i; omega) (by omega) (fun h20 => ?_) (fun h20 => ?_)
        · skip
          refine y_iconst C (v := nI 0) dX4_exits_27 (by decide) ?_
          refine y_iaddN C dX4_exits_28 ?_
          refine y_istore_n C (lv' := [(2, .int (nI (x + 0))), (0, .ref (aM 0)), (1, .int (nI b)), (3, .int (nI i))]) dX4_exits_29 rfl (by decide) rfl ?_
          refine y_iinc C (k := 3) (lv' := [(3, .int (nI (i + 1))), (2, .int (nI (x + 0))), (0, .ref (aM 0)), (1, .int (nI b))]) dX4_exits_30 rfl (yn_inc rfl) (by decide) rfl ?_
          refine y_goto C (tgt := 4) dX4_exits_33 (by decide) ?_
          refine y_sub [2, 3, 1, 0] (lv' := [(0, .ref (aM 0)), (1, .int (nI b)), (2, .int (nI (x + 0))), (3, .int (nI (i + 1)))]) rfl ?_
          exact ih4 _ _ (by omega) (by simp [exF, hx, h20]) (by omega)
        · skip
          refine y_iconst C (v := nI 1) dX4_exits_23 (by decide) ?_
          refine y_goto C (tgt := 28) dX4_exits_24 (by decide) ?_
          refine y_iaddN C dX4_exits_28 ?_
          refine y_istore_n C (lv' := [(2, .int (nI (x + 1))), (0, .ref (aM 0)), (1, .int (nI b)), (3, .int (nI i))]) dX4_exits_29 rfl (by decide) rfl ?_
          refine y_iinc C (k := 3) (lv' := [(3, .int (nI (i + 1))), (2, .int (nI (x + 1))), (0, .ref (aM 0)), (1, .int (nI b))]) dX4_exits_30 rfl (yn_inc rfl) (by decide) rfl ?_
          refine y_goto C (tgt := 4) dX4_exits_33 (by decide) ?_
          refine y_sub [2, 3, 1, 0] (lv' := [(0, .ref (aM 0)), (1, .int (nI b)), (2, .int (nI (x + 1))), (3, .int (nI (i + 1)))]) rfl ?_
          exact ih4 _ _ (by omega) (by simp [exF, hx, h20]) (by omega)
  refine y_sub [2, 3, 1, 0] (lv' := [(0, .ref (aM 0)), (1, .int (nI b)), (2, .int (nI 0)), (3, .int (nI 0))]) rfl ?_
  exact lp4 _ _ _ (Nat.zero_le _) rfl (Nat.lt_succ_self _)
theorem in_X4_all_4 : ∀ w ∈ wsX40, w ∈ wsX4_all := fun _ h => List.mem_cons_of_mem _ (List.mem_append_right _ h)
set_option maxHeartbeats 4000000 in
set_option maxRecDepth 100000 in
theorem c_X4_all (l : Launch) (D : va_G) (cI : ClassId) (aM : Nat → Nat) (th E : Nat) (vs : Nat → Int32) (B : Nat) (sz cd : Nat → Nat) (M : Nat) (fr tt : Nat → Nat) (na nb ta tb dl co he : Nat → Int32) (mi la : Int32)  : ctI l yX4_all wsX4_all (rmD 0 0 0) D [(cI, .int)] [.ref (aM 0)] (WM cI aM th E vs B sz cd M fr tt na nb ta tb dl co he mi la) (WM cI aM th E vs B sz cd M fr tt na nb ta tb dl co he mi la) (allF E) 0 0 := by
  refine ctI_of (by decide) rfl (Nat.le_of_ble_eq_true rfl) ?_
  intro p e s m args below meth c A Q C hnm K
  refine y_lv (lv' := [(0, .ref (aM 0))]) rfl ?_
  refine y_iconst C (v := (1 : Int32)) dX4_all_0 (by decide) ?_
  refine y_aload_n C 0 dX4_all_1 rfl rfl ?_
  refine y_get C in_X4_all_4 (ci := 4) rfl 1 (by decide) (List.mem_of_getElem? (i := 1) rfl) 0 rfl rfl dX4_all_2 ?_
  refine y_ishl C dX4_all_5 ?_
  refine y_iconst C (v := (1 : Int32)) dX4_all_6 (by decide) ?_
  refine y_isub C dX4_all_7 ?_
  exact K _ _ _ _ _ dX4_all_8 (rfl) (by decide) (by decide)
theorem in_X4_at_4 : ∀ w ∈ wsX40, w ∈ wsX4_at := fun _ h => List.mem_cons_of_mem _ (List.mem_append_right _ h)
set_option maxHeartbeats 4000000 in
set_option maxRecDepth 100000 in
theorem c_X4_at (l : Launch) (D : va_G) (cI : ClassId) (aM : Nat → Nat) (th E : Nat) (vs : Nat → Int32) (B : Nat) (sz cd : Nat → Nat) (M : Nat) (fr tt : Nat → Nat) (na nb ta tb dl co he : Nat → Int32) (mi la : Int32) (b k : Nat) (hcd : ∀ j, cd j < 24) (hb : b < 40) (hk : k < 12) : ctI l yX4_at wsX4_at (rmD 0 0 0) D [(cI, .int)] [.ref (aM 0), .int (nI b), .int (nI k)] (WM cI aM th E vs B sz cd M fr tt na nb ta tb dl co he mi la) (WM cI aM th E vs B sz cd M fr tt na nb ta tb dl co he mi la) (nI (cd (12 * b + k))) 0 0 := by
  refine ctI_of (by decide) rfl (Nat.le_of_ble_eq_true rfl) ?_
  intro p e s m args below meth c A Q C hnm K
  refine y_lv (lv' := [(0, .ref (aM 0)), (1, .int (nI b)), (2, .int (nI k))]) rfl ?_
  refine y_aload_n C 0 dX4_at_0 rfl rfl ?_
  refine y_get C in_X4_at_4 (ci := 4) rfl 5 (by decide) (List.mem_of_getElem? (i := 1) rfl) 0 rfl rfl dX4_at_1 ?_
  refine y_bipush C (v := nI 12) dX4_at_4 (by decide) ?_
  refine y_iload_n C 1 dX4_at_6 rfl rfl ?_
  refine y_imulN C dX4_at_7 ?_
  refine y_iload_n C 2 dX4_at_8 rfl rfl ?_
  refine y_iaddN C dX4_at_9 ?_
  refine y_ialdA C (q0 := 3) (t0 := 0) rfl rfl (by decide) (by omega) dX4_at_10 ?_
  exact K _ _ _ _ _ dX4_at_11 (rfl) (by decide) (by decide)
theorem in_X4_dependent_4 : ∀ w ∈ wsX40, w ∈ wsX4_dependent := fun _ h => List.mem_cons_of_mem _ (List.mem_append_right _ h)
set_option maxHeartbeats 4000000 in
set_option maxRecDepth 100000 in
theorem c_X4_dependent (l : Launch) (D : va_G) (cI : ClassId) (aM : Nat → Nat) (th E : Nat) (vs : Nat → Int32) (B : Nat) (sz cd : Nat → Nat) (M : Nat) (fr tt : Nat → Nat) (na nb ta tb dl co he : Nat → Int32) (mi la : Int32) (v : Nat) (hE : E ≤ 8) : ctI l yX4_dependent wsX4_dependent (rmD 0 0 0) D [(cI, .int)] [.ref (aM 0), .int (nI v)] (WM cI aM th E vs B sz cd M fr tt na nb ta tb dl co he mi la) (WM cI aM th E vs B sz cd M fr tt na nb ta tb dl co he mi la) (depF vs v E) 0 0 := by
  refine ctI_of (by decide) rfl (Nat.le_of_ble_eq_true rfl) ?_
  intro p e s m args below meth c A Q C hnm K
  refine y_lv (lv' := [(0, .ref (aM 0)), (1, .int (nI v))]) rfl ?_
  refine y_iconst C (v := (0 : Int32)) dX4_dependent_0 (by decide) ?_
  refine y_istore_n C (lv' := [(2, .int ((0 : Int32))), (0, .ref (aM 0)), (1, .int (nI v))]) dX4_dependent_1 rfl (by decide) rfl ?_
  refine y_iconst C (v := nI 0) dX4_dependent_2 (by decide) ?_
  refine y_istore_n C (lv' := [(3, .int (nI 0)), (2, .int ((0 : Int32))), (0, .ref (aM 0)), (1, .int (nI v))]) dX4_dependent_3 rfl (by decide) rfl ?_
  have lp4 : ∀ (n4 : Nat) (i : Nat) (x : Int32), (i ≤ E) → (x = depF vs v i) → (E - i) < n4 → yW p l e (rmD 0 0 0) s m args below meth c 4 D A Q 0 0 (WM cI aM th E vs B sz cd M fr tt na nb ta tb dl co he mi la) 4 [(0, .ref (aM 0)), (1, .int (nI v)), (2, .int x), (3, .int (nI i))] [] := by
    intro n4
    induction n4 with
    | zero => intro i x hi hx hm; exact absurd hm (Nat.not_lt_zero _)
    | succ n4 ih4 =>
      intro i x hi hx hm4
      refine y_iload_n C 3 dX4_dependent_4 rfl rfl ?_
      refine y_aload_n C 0 dX4_dependent_5 rfl rfl ?_
      refine y_get C in_X4_dependent_4 (ci := 4) rfl 1 (by decide) (List.mem_of_getElem? (i := 1) rfl) 0 rfl rfl dX4_dependent_6 ?_
      refine y_icmpN_ge C (tgt := 38) dX4_dependent_9 (by decide) (by omega) (by omega) (fun h9 => ?_) (fun h9 => ?_)
      · skip
        refine y_iload_n C 2 dX4_dependent_38 rfl rfl ?_
        exact K _ _ _ _ _ dX4_dependent_39 (by rw [hx, show i = E by omega]) (by decide) (by decide)
      · skip
        refine y_aload_n C 0 dX4_dependent_12 rfl rfl ?_
        refine y_get C in_X4_dependent_4 (ci := 4) rfl 2 (by decide) (List.mem_of_getElem? (i := 2) rfl) 0 rfl rfl dX4_dependent_13 ?_
        refine y_iload_n C 3 dX4_dependent_16 rfl rfl ?_
        refine y_iald C (q0 := 1) (t0 := 0) rfl rfl (by decide) (by omega) dX4_dependent_17 ?_
        refine y_iload_n C 1 dX4_dependent_18 rfl rfl ?_
        refine y_ishr C dX4_dependent_19 ?_
        refine y_iconst C (v := (1 : Int32)) dX4_dependent_20 (by decide) ?_
        refine y_iand C dX4_dependent_21 ?_
        refine y_iconst C (v := (1 : Int32)) dX4_dependent_22 (by decide) ?_
        refine y_icmp_ne C (tgt := 32) dX4_dependent_23 (by decide)  (fun h23 => ?_) (fun h23 => ?_)
        · skip
          refine y_iinc C (k := 3) (lv' := [(3, .int (nI (i + 1))), (0, .ref (aM 0)), (1, .int (nI v)), (2, .int x)]) dX4_dependent_32 rfl (yn_inc rfl) (by decide) rfl ?_
          refine y_goto C (tgt := 4) dX4_dependent_35 (by decide) ?_
          refine y_sub [1, 2, 3, 0] (lv' := [(0, .ref (aM 0)), (1, .int (nI v)), (2, .int x), (3, .int (nI (i + 1)))]) rfl ?_
          exact ih4 _ _ (by omega) (by simp [depF, oneF, hx, h23]) (by omega)
        · skip
          refine y_iload_n C 2 dX4_dependent_26 rfl rfl ?_
          refine y_iconst C (v := (1 : Int32)) dX4_dependent_27 (by decide) ?_
          refine y_iload_n C 3 dX4_dependent_28 rfl rfl ?_
          refine y_ishl C dX4_dependent_29 ?_
          refine y_ior C dX4_dependent_30 ?_
          refine y_istore_n C (lv' := [(2, .int (x ||| (((1 : Int32)) <<< ((nI i) &&& 31)))), (0, .ref (aM 0)), (1, .int (nI v)), (3, .int (nI i))]) dX4_dependent_31 rfl (by decide) rfl ?_
          refine y_iinc C (k := 3) (lv' := [(3, .int (nI (i + 1))), (2, .int (x ||| (((1 : Int32)) <<< ((nI i) &&& 31)))), (0, .ref (aM 0)), (1, .int (nI v))]) dX4_dependent_32 rfl (yn_inc rfl) (by decide) rfl ?_
          refine y_goto C (tgt := 4) dX4_dependent_35 (by decide) ?_
          refine y_sub [2, 3, 1, 0] (lv' := [(0, .ref (aM 0)), (1, .int (nI v)), (2, .int (x ||| (((1 : Int32)) <<< ((nI i) &&& 31)))), (3, .int (nI (i + 1)))]) rfl ?_
          exact ih4 _ _ (by omega) (by simp [depF, oneF, hx, h23]) (by omega)
  refine y_sub [2, 3, 1, 0] (lv' := [(0, .ref (aM 0)), (1, .int (nI v)), (2, .int ((0 : Int32))), (3, .int (nI 0))]) rfl ?_
  exact lp4 _ _ _ (Nat.zero_le _) rfl (Nat.lt_succ_self _)
theorem in_X4_keptBy_4 : ∀ w ∈ wsX40, w ∈ wsX4_keptBy := fun _ h => List.mem_cons_of_mem _ (List.mem_append_right _ h)
set_option maxHeartbeats 4000000 in
set_option maxRecDepth 100000 in
theorem c_X4_keptBy (l : Launch) (D : va_G) (cI : ClassId) (aM : Nat → Nat) (th E : Nat) (vs : Nat → Int32) (B : Nat) (sz cd : Nat → Nat) (M : Nat) (fr tt : Nat → Nat) (na nb ta tb dl co he : Nat → Int32) (mi la : Int32) (b : Nat) (hE : E ≤ 8) (hsz : ∀ j, sz j ≤ 12) (hcd : ∀ j, cd j < 24) (hb : b < 40) : ctI l yX4_keptBy wsX4_keptBy (rmD 1 0 0) D [(cI, .int)] [.ref (aM 0), .int (nI b)] (WM cI aM th E vs B sz cd M fr tt na nb ta tb dl co he mi la) (WM cI aM th E vs B sz cd M fr tt na nb ta tb dl co he mi la) (kpF E vs cd b (sz b)) 0 0 := by
  refine ctI_of (by decide) rfl (Nat.le_of_ble_eq_true rfl) ?_
  intro p e s m args below meth c A Q C hnm K
  refine y_lv (lv' := [(0, .ref (aM 0)), (1, .int (nI b))]) rfl ?_
  refine y_aload_n C 0 dX4_keptBy_0 rfl rfl ?_
  refine y_callI C (wr := []) 0 (c_X4_all l D cI aM th E vs B sz cd M fr tt na nb ta tb dl co he mi la) gX4_keptBy_X4_all rfl rfl rfl (by decide +kernel) ⟨Nat.le_of_ble_eq_true rfl, Nat.le_of_ble_eq_true rfl⟩ (q0 := 0) (ci := 4) rfl rfl rfl rfl rfl (Nat.le_of_ble_eq_true rfl) dX4_keptBy_1 ⟨Nat.le_of_ble_eq_true rfl, Nat.le_of_ble_eq_true rfl⟩ ?_
  refine y_ws (ws' := WM cI aM th E vs B sz cd M fr tt na nb ta tb dl co he mi la) rfl ?_
  refine y_istore_n C (lv' := [(2, .int (allF E)), (0, .ref (aM 0)), (1, .int (nI b))]) dX4_keptBy_4 rfl (by decide) rfl ?_
  refine y_iconst C (v := nI 0) dX4_keptBy_5 (by decide) ?_
  refine y_istore_n C (lv' := [(3, .int (nI 0)), (2, .int (allF E)), (0, .ref (aM 0)), (1, .int (nI b))]) dX4_keptBy_6 rfl (by decide) rfl ?_
  have lp7 : ∀ (n7 : Nat) (i : Nat) (x : Int32), (i ≤ sz b) → (x = kpF E vs cd b i) → (sz b - i) < n7 → yW p l e (rmD 1 0 0) s m args below meth c 4 D A Q 0 0 (WM cI aM th E vs B sz cd M fr tt na nb ta tb dl co he mi la) 7 [(0, .ref (aM 0)), (1, .int (nI b)), (2, .int x), (3, .int (nI i))] [] := by
    intro n7
    induction n7 with
    | zero => intro i x hi hx hm; exact absurd hm (Nat.not_lt_zero _)
    | succ n7 ih7 =>
      intro i x hi hx hm7
      have hzb := hsz b
      refine y_iload_n C 3 dX4_keptBy_7 rfl rfl ?_
      refine y_aload_n C 0 dX4_keptBy_8 rfl rfl ?_
      refine y_get C in_X4_keptBy_4 (ci := 4) rfl 4 (by decide) (List.mem_of_getElem? (i := 1) rfl) 0 rfl rfl dX4_keptBy_9 ?_
      refine y_iload_n C 1 dX4_keptBy_12 rfl rfl ?_
      refine y_ialdA C (q0 := 2) (t0 := 0) rfl rfl (by decide) (by omega) dX4_keptBy_13 ?_
      refine y_icmpN_ge C (tgt := 52) dX4_keptBy_14 (by decide) (by omega) (by have := hsz b; omega) (fun h14 => ?_) (fun h14 => ?_)
      · skip
        refine y_iload_n C 2 dX4_keptBy_52 rfl rfl ?_
        exact K _ _ _ _ _ dX4_keptBy_53 (by rw [hx, show i = sz b by omega]) (by decide) (by decide)
      · skip
        refine y_aload_n C 0 dX4_keptBy_17 rfl rfl ?_
        refine y_iload_n C 1 dX4_keptBy_18 rfl rfl ?_
        refine y_iload_n C 3 dX4_keptBy_19 rfl rfl ?_
        refine y_callI C (wr := []) 2 (c_X4_at l D cI aM th E vs B sz cd M fr tt na nb ta tb dl co he mi la b i hcd hb (by omega)) gX4_keptBy_X4_at rfl rfl rfl (by decide +kernel) ⟨Nat.le_of_ble_eq_true rfl, Nat.le_of_ble_eq_true rfl⟩ (q0 := 0) (ci := 4) rfl rfl rfl rfl rfl (Nat.le_of_ble_eq_true rfl) dX4_keptBy_20 ⟨Nat.le_of_ble_eq_true rfl, Nat.le_of_ble_eq_true rfl⟩ ?_
        refine y_ws (ws' := WM cI aM th E vs B sz cd M fr tt na nb ta tb dl co he mi la) rfl ?_
        refine y_iconst C (v := nI 3) dX4_keptBy_23 (by decide) ?_
        refine y_iremN C dX4_keptBy_24 (by have := hcd (12 * b + i); omega) (by decide) (by decide) ?_
        refine y_iconst C (v := nI 2) dX4_keptBy_25 (by decide) ?_
        refine y_icmpN_ne C (tgt := 46) dX4_keptBy_26 (by decide) (by have := hcd (12 * b + i); omega) (by omega) (fun h26 => ?_) (fun h26 => ?_)
        · skip
          refine y_iinc C (k := 3) (lv' := [(3, .int (nI (i + 1))), (0, .ref (aM 0)), (1, .int (nI b)), (2, .int x)]) dX4_keptBy_46 rfl (yn_inc rfl) (by decide) rfl ?_
          refine y_goto C (tgt := 7) dX4_keptBy_49 (by decide) ?_
          refine y_sub [1, 2, 3, 0] (lv' := [(0, .ref (aM 0)), (1, .int (nI b)), (2, .int x), (3, .int (nI (i + 1)))]) rfl ?_
          exact ih7 _ _ (by omega) (by simp [kpF, hx, h26]) (by omega)
        · skip
          refine y_iload_n C 2 dX4_keptBy_29 rfl rfl ?_
          refine y_aload_n C 0 dX4_keptBy_30 rfl rfl ?_
          refine y_aload_n C 0 dX4_keptBy_31 rfl rfl ?_
          refine y_iload_n C 1 dX4_keptBy_32 rfl rfl ?_
          refine y_iload_n C 3 dX4_keptBy_33 rfl rfl ?_
          refine y_callI C (wr := []) 2 (c_X4_at l D cI aM th E vs B sz cd M fr tt na nb ta tb dl co he mi la b i hcd hb (by omega)) gX4_keptBy_X4_at rfl rfl rfl (by decide +kernel) ⟨Nat.le_of_ble_eq_true rfl, Nat.le_of_ble_eq_true rfl⟩ (q0 := 0) (ci := 4) rfl rfl rfl rfl rfl (Nat.le_of_ble_eq_true rfl) dX4_keptBy_34 ⟨Nat.le_of_ble_eq_true rfl, Nat.le_of_ble_eq_true rfl⟩ ?_
          refine y_ws (ws' := WM cI aM th E vs B sz cd M fr tt na nb ta tb dl co he mi la) rfl ?_
          refine y_iconst C (v := nI 3) dX4_keptBy_37 (by decide) ?_
          refine y_idivN C dX4_keptBy_38 (by have := hcd (12 * b + i); omega) (by decide) (by decide) ?_
          refine y_callI C (wr := []) 1 (c_X4_dependent l D cI aM th E vs B sz cd M fr tt na nb ta tb dl co he mi la ((cd (12 * b + i)) / 3) hE) gX4_keptBy_X4_dependent rfl rfl rfl (by decide +kernel) ⟨Nat.le_of_ble_eq_true rfl, Nat.le_of_ble_eq_true rfl⟩ (q0 := 0) (ci := 4) rfl rfl rfl rfl rfl (Nat.le_of_ble_eq_true rfl) dX4_keptBy_39 ⟨Nat.le_of_ble_eq_true rfl, Nat.le_of_ble_eq_true rfl⟩ ?_
          refine y_ws (ws' := WM cI aM th E vs B sz cd M fr tt na nb ta tb dl co he mi la) rfl ?_
          refine y_iconst C (v := (-1)) dX4_keptBy_42 (by decide) ?_
          refine y_ixor C dX4_keptBy_43 ?_
          refine y_iand C dX4_keptBy_44 ?_
          refine y_istore_n C (lv' := [(2, .int (x &&& ((depF vs ((cd (12 * b + i)) / 3) E) ^^^ ((-1))))), (0, .ref (aM 0)), (1, .int (nI b)), (3, .int (nI i))]) dX4_keptBy_45 rfl (by decide) rfl ?_
          refine y_iinc C (k := 3) (lv' := [(3, .int (nI (i + 1))), (2, .int (x &&& ((depF vs ((cd (12 * b + i)) / 3) E) ^^^ ((-1))))), (0, .ref (aM 0)), (1, .int (nI b))]) dX4_keptBy_46 rfl (yn_inc rfl) (by decide) rfl ?_
          refine y_goto C (tgt := 7) dX4_keptBy_49 (by decide) ?_
          refine y_sub [2, 3, 1, 0] (lv' := [(0, .ref (aM 0)), (1, .int (nI b)), (2, .int (x &&& ((depF vs ((cd (12 * b + i)) / 3) E) ^^^ ((-1))))), (3, .int (nI (i + 1)))]) rfl ?_
          exact ih7 _ _ (by omega) (by simp [kpF, hx, h26]) (by omega)
  refine y_sub [2, 3, 1, 0] (lv' := [(0, .ref (aM 0)), (1, .int (nI b)), (2, .int (allF E)), (3, .int (nI 0))]) rfl ?_
  exact lp7 _ _ _ (Nat.zero_le _) rfl (Nat.lt_succ_self _)
theorem in_X4_earlyIn_4 : ∀ w ∈ wsX40, w ∈ wsX4_earlyIn := fun _ h => List.mem_cons_of_mem _ (List.mem_append_right _ h)
set_option maxHeartbeats 4000000 in
set_option maxRecDepth 100000 in
theorem c_X4_earlyIn (l : Launch) (D : va_G) (cI : ClassId) (aM : Nat → Nat) (th E : Nat) (vs : Nat → Int32) (B : Nat) (sz cd : Nat → Nat) (M : Nat) (fr tt : Nat → Nat) (na nb ta tb dl co he : Nat → Int32) (mi la : Int32) (b : Nat) (hE : E ≤ 8) (hsz : ∀ j, sz j ≤ 12) (hcd : ∀ j, cd j < 24) (hb : b < 40) : ctI l yX4_earlyIn wsX4_earlyIn (rmD 1 0 0) D [(cI, .int)] [.ref (aM 0), .int (nI b)] (WM cI aM th E vs B sz cd M fr tt na nb ta tb dl co he mi la) (WM cI aM th E vs B sz cd M fr tt na nb ta tb dl co he mi la) (eaF E vs cd b (sz b)) 0 0 := by
  refine ctI_of (by decide) rfl (Nat.le_of_ble_eq_true rfl) ?_
  intro p e s m args below meth c A Q C hnm K
  refine y_lv (lv' := [(0, .ref (aM 0)), (1, .int (nI b))]) rfl ?_
  refine y_iconst C (v := (0 : Int32)) dX4_earlyIn_0 (by decide) ?_
  refine y_istore_n C (lv' := [(2, .int ((0 : Int32))), (0, .ref (aM 0)), (1, .int (nI b))]) dX4_earlyIn_1 rfl (by decide) rfl ?_
  refine y_iconst C (v := (0 : Int32)) dX4_earlyIn_2 (by decide) ?_
  refine y_istore_n C (lv' := [(3, .int ((0 : Int32))), (2, .int ((0 : Int32))), (0, .ref (aM 0)), (1, .int (nI b))]) dX4_earlyIn_3 rfl (by decide) rfl ?_
  refine y_iconst C (v := nI 0) dX4_earlyIn_4 (by decide) ?_
  refine y_istore C (lv' := [(4, .int (nI 0)), (3, .int ((0 : Int32))), (2, .int ((0 : Int32))), (0, .ref (aM 0)), (1, .int (nI b))]) dX4_earlyIn_5 (by decide) rfl ?_
  have lp7 : ∀ (n7 : Nat) (i : Nat) (x : Int32) (g : Int32), (i ≤ sz b) → (x = eaF E vs cd b i) → (g = goF E vs cd b i) → (sz b - i) < n7 → yW p l e (rmD 1 0 0) s m args below meth c 6 D A Q 0 0 (WM cI aM th E vs B sz cd M fr tt na nb ta tb dl co he mi la) 7 [(0, .ref (aM 0)), (1, .int (nI b)), (2, .int x), (3, .int g), (4, .int (nI i))] [] := by
    intro n7
    induction n7 with
    | zero => intro i x g hi hx hg hm; exact absurd hm (Nat.not_lt_zero _)
    | succ n7 ih7 =>
      intro i x g hi hx hg hm7
      have hzb := hsz b
      refine y_iload C 4 dX4_earlyIn_7 rfl ?_
      refine y_aload_n C 0 dX4_earlyIn_9 rfl rfl ?_
      refine y_get C in_X4_earlyIn_4 (ci := 4) rfl 4 (by decide) (List.mem_of_getElem? (i := 1) rfl) 0 rfl rfl dX4_earlyIn_10 ?_
      refine y_iload_n C 1 dX4_earlyIn_13 rfl rfl ?_
      refine y_ialdA C (q0 := 2) (t0 := 0) rfl rfl (by decide) (by omega) dX4_earlyIn_14 ?_
      refine y_icmpN_ge C (tgt := 72) dX4_earlyIn_15 (by decide) (by omega) (by have := hsz b; omega) (fun h15 => ?_) (fun h15 => ?_)
      · skip
        refine y_iload_n C 2 dX4_earlyIn_72 rfl rfl ?_
        exact K _ _ _ _ _ dX4_earlyIn_73 (by rw [hx, show i = sz b by omega]) (by decide) (by decide)
      · skip
        refine y_aload_n C 0 dX4_earlyIn_18 rfl rfl ?_
        refine y_iload_n C 1 dX4_earlyIn_19 rfl rfl ?_
        refine y_iload C 4 dX4_earlyIn_20 rfl ?_
        refine y_callI C (wr := []) 2 (c_X4_at l D cI aM th E vs B sz cd M fr tt na nb ta tb dl co he mi la b i hcd hb (by omega)) gX4_earlyIn_X4_at rfl rfl rfl (by decide +kernel) ⟨Nat.le_of_ble_eq_true rfl, Nat.le_of_ble_eq_true rfl⟩ (q0 := 0) (ci := 4) rfl rfl rfl rfl rfl (Nat.le_of_ble_eq_true rfl) dX4_earlyIn_22 ⟨Nat.le_of_ble_eq_true rfl, Nat.le_of_ble_eq_true rfl⟩ ?_
        refine y_ws (ws' := WM cI aM th E vs B sz cd M fr tt na nb ta tb dl co he mi la) rfl ?_
        refine y_istore C (lv' := [(5, .int (nI (cd (12 * b + i)))), (0, .ref (aM 0)), (1, .int (nI b)), (2, .int x), (3, .int g), (4, .int (nI i))]) dX4_earlyIn_25 (by decide) rfl ?_
        refine y_iload C 0 dX4_earlyIn_27 rfl ?_
        refine y_iconst C (v := nI 3) dX4_earlyIn_29 (by decide) ?_
        refine y_iremN C dX4_earlyIn_30 (by have := hcd (12 * b + i); omega) (by decide) (by decide) ?_
        refine y_iconst C (v := nI 2) dX4_earlyIn_31 (by decide) ?_
        refine y_icmpN_ne C (tgt := 46) dX4_earlyIn_32 (by decide) (by have := hcd (12 * b + i); omega) (by omega) (fun h32 => ?_) (fun h32 => ?_)
        · skip
          refine y_iload C 0 dX4_earlyIn_46 rfl ?_
          refine y_iconst C (v := nI 3) dX4_earlyIn_48 (by decide) ?_
          refine y_iremN C dX4_earlyIn_49 (by have := hcd (12 * b + i); omega) (by decide) (by decide) ?_
          refine y_ifN_ne C (tgt := 66) dX4_earlyIn_50 (by decide) (by have := hcd (12 * b + i); omega) (fun h50 => ?_) (fun h50 => ?_)
          · skip
            refine y_iinc C (k := 5) (lv' := [(4, .int (nI (i + 1))), (5, .int (nI (cd (12 * b + i)))), (0, .ref (aM 0)), (1, .int (nI b)), (2, .int x), (3, .int g)]) dX4_earlyIn_66 rfl (yn_inc rfl) (by decide) rfl ?_
            refine y_goto C (tgt := 7) dX4_earlyIn_69 (by decide) ?_
            refine y_sub [2, 3, 4, 5, 0] (lv' := [(0, .ref (aM 0)), (1, .int (nI b)), (2, .int x), (3, .int g), (4, .int (nI (i + 1)))]) rfl ?_
            exact ih7 _ _ _ (by omega) (by simp [eaF, oneF, hx, hg, h50]) (by simp [goF, hg, h32]) (by omega)
          · skip
            refine y_iload_n C 3 dX4_earlyIn_53 rfl rfl ?_
            refine y_iconst C (v := (1 : Int32)) dX4_earlyIn_54 (by decide) ?_
            refine y_iload C 0 dX4_earlyIn_55 rfl ?_
            refine y_iconst C (v := nI 3) dX4_earlyIn_57 (by decide) ?_
            refine y_idivN C dX4_earlyIn_58 (by have := hcd (12 * b + i); omega) (by decide) (by decide) ?_
            refine y_ishl C dX4_earlyIn_59 ?_
            refine y_iload_n C 4 dX4_earlyIn_60 rfl rfl ?_
            refine y_iconst C (v := (-1)) dX4_earlyIn_61 (by decide) ?_
            refine y_ixor C dX4_earlyIn_62 ?_
            refine y_iand C dX4_earlyIn_63 ?_
            refine y_ior C dX4_earlyIn_64 ?_
            refine y_istore_n C (lv' := [(2, .int (x ||| ((((1 : Int32)) <<< ((nI ((cd (12 * b + i)) / 3)) &&& 31)) &&& (g ^^^ ((-1)))))), (5, .int (nI (cd (12 * b + i)))), (0, .ref (aM 0)), (1, .int (nI b)), (3, .int g), (4, .int (nI i))]) dX4_earlyIn_65 rfl (by decide) rfl ?_
            refine y_iinc C (k := 5) (lv' := [(4, .int (nI (i + 1))), (2, .int (x ||| ((((1 : Int32)) <<< ((nI ((cd (12 * b + i)) / 3)) &&& 31)) &&& (g ^^^ ((-1)))))), (5, .int (nI (cd (12 * b + i)))), (0, .ref (aM 0)), (1, .int (nI b)), (3, .int g)]) dX4_earlyIn_66 rfl (yn_inc rfl) (by decide) rfl ?_
            refine y_goto C (tgt := 7) dX4_earlyIn_69 (by decide) ?_
            refine y_sub [3, 4, 1, 5, 0] (lv' := [(0, .ref (aM 0)), (1, .int (nI b)), (2, .int (x ||| ((((1 : Int32)) <<< ((nI ((cd (12 * b + i)) / 3)) &&& 31)) &&& (g ^^^ ((-1)))))), (3, .int g), (4, .int (nI (i + 1)))]) rfl ?_
            exact ih7 _ _ _ (by omega) (by simp [eaF, oneF, hx, hg, h50]) (by simp [goF, hg, h32]) (by omega)
        · skip
          refine y_iload_n C 4 dX4_earlyIn_35 rfl rfl ?_
          refine y_aload_n C 1 dX4_earlyIn_36 rfl rfl ?_
          refine y_iload C 0 dX4_earlyIn_37 rfl ?_
          refine y_iconst C (v := nI 3) dX4_earlyIn_39 (by decide) ?_
          refine y_idivN C dX4_earlyIn_40 (by have := hcd (12 * b + i); omega) (by decide) (by decide) ?_
          refine y_callI C (wr := []) 1 (c_X4_dependent l D cI aM th E vs B sz cd M fr tt na nb ta tb dl co he mi la ((cd (12 * b + i)) / 3) hE) gX4_earlyIn_X4_dependent rfl rfl rfl (by decide +kernel) ⟨Nat.le_of_ble_eq_true rfl, Nat.le_of_ble_eq_true rfl⟩ (q0 := 0) (ci := 4) rfl rfl rfl rfl rfl (Nat.le_of_ble_eq_true rfl) dX4_earlyIn_41 ⟨Nat.le_of_ble_eq_true rfl, Nat.le_of_ble_eq_true rfl⟩ ?_
          refine y_ws (ws' := WM cI aM th E vs B sz cd M fr tt na nb ta tb dl co he mi la) rfl ?_
          refine y_ior C dX4_earlyIn_44 ?_
          refine y_istore_n C (lv' := [(3, .int (g ||| (depF vs ((cd (12 * b + i)) / 3) E))), (5, .int (nI (cd (12 * b + i)))), (0, .ref (aM 0)), (1, .int (nI b)), (2, .int x), (4, .int (nI i))]) dX4_earlyIn_45 rfl (by decide) rfl ?_
          refine y_iload C 1 dX4_earlyIn_46 rfl ?_
          refine y_iconst C (v := nI 3) dX4_earlyIn_48 (by decide) ?_
          refine y_iremN C dX4_earlyIn_49 (by have := hcd (12 * b + i); omega) (by decide) (by decide) ?_
          refine y_ifN_ne C (tgt := 66) dX4_earlyIn_50 (by decide) (by have := hcd (12 * b + i); omega) (fun h50 => ?_) (fun h50 => ?_)
          · skip
            refine y_iinc C (k := 5) (lv' := [(4, .int (nI (i + 1))), (3, .int (g ||| (depF vs ((cd (12 * b + i)) / 3) E))), (5, .int (nI (cd (12 * b + i)))), (0, .ref (aM 0)), (1, .int (nI b)), (2, .int x)]) dX4_earlyIn_66 rfl (yn_inc rfl) (by decide) rfl ?_
            refine y_goto C (tgt := 7) dX4_earlyIn_69 (by decide) ?_
            refine y_sub [3, 4, 5, 1, 0] (lv' := [(0, .ref (aM 0)), (1, .int (nI b)), (2, .int x), (3, .int (g ||| (depF vs ((cd (12 * b + i)) / 3) E))), (4, .int (nI (i + 1)))]) rfl ?_
            exact ih7 _ _ _ (by omega) (by simp [eaF, oneF, hx, hg, h50]) (by simp [goF, hg, h32]) (by omega)
          · skip
            exact absurd h50 (by omega)
  refine y_sub [3, 4, 2, 1, 0] (lv' := [(0, .ref (aM 0)), (1, .int (nI b)), (2, .int ((0 : Int32))), (3, .int ((0 : Int32))), (4, .int (nI 0))]) rfl ?_
  exact lp7 _ _ _ _ (Nat.zero_le _) rfl rfl (Nat.lt_succ_self _)
theorem in_X4_lateIn_4 : ∀ w ∈ wsX40, w ∈ wsX4_lateIn := fun _ h => List.mem_cons_of_mem _ (List.mem_append_right _ h)
set_option maxHeartbeats 4000000 in
set_option maxRecDepth 100000 in
theorem c_X4_lateIn (l : Launch) (D : va_G) (cI : ClassId) (aM : Nat → Nat) (th E : Nat) (vs : Nat → Int32) (B : Nat) (sz cd : Nat → Nat) (M : Nat) (fr tt : Nat → Nat) (na nb ta tb dl co he : Nat → Int32) (mi la : Int32) (b : Nat) (hE : E ≤ 8) (hsz : ∀ j, sz j ≤ 12) (hcd : ∀ j, cd j < 24) (hb : b < 40) : ctI l yX4_lateIn wsX4_lateIn (rmD 1 0 0) D [(cI, .int)] [.ref (aM 0), .int (nI b)] (WM cI aM th E vs B sz cd M fr tt na nb ta tb dl co he mi la) (WM cI aM th E vs B sz cd M fr tt na nb ta tb dl co he mi la) (laF E vs cd b (sz b)) 0 0 := by
  refine ctI_of (by decide) rfl (Nat.le_of_ble_eq_true rfl) ?_
  intro p e s m args below meth c A Q C hnm K
  refine y_lv (lv' := [(0, .ref (aM 0)), (1, .int (nI b))]) rfl ?_
  refine y_iconst C (v := (0 : Int32)) dX4_lateIn_0 (by decide) ?_
  refine y_istore_n C (lv' := [(2, .int ((0 : Int32))), (0, .ref (aM 0)), (1, .int (nI b))]) dX4_lateIn_1 rfl (by decide) rfl ?_
  refine y_iconst C (v := nI 0) dX4_lateIn_2 (by decide) ?_
  refine y_istore_n C (lv' := [(3, .int (nI 0)), (2, .int ((0 : Int32))), (0, .ref (aM 0)), (1, .int (nI b))]) dX4_lateIn_3 rfl (by decide) rfl ?_
  have lp4 : ∀ (n4 : Nat) (i : Nat) (x : Int32), (i ≤ sz b) → (x = laF E vs cd b i) → (sz b - i) < n4 → yW p l e (rmD 1 0 0) s m args below meth c 5 D A Q 0 0 (WM cI aM th E vs B sz cd M fr tt na nb ta tb dl co he mi la) 4 [(0, .ref (aM 0)), (1, .int (nI b)), (2, .int x), (3, .int (nI i))] [] := by
    intro n4
    induction n4 with
    | zero => intro i x hi hx hm; exact absurd hm (Nat.not_lt_zero _)
    | succ n4 ih4 =>
      intro i x hi hx hm4
      have hzb := hsz b
      refine y_iload_n C 3 dX4_lateIn_4 rfl rfl ?_
      refine y_aload_n C 0 dX4_lateIn_5 rfl rfl ?_
      refine y_get C in_X4_lateIn_4 (ci := 4) rfl 4 (by decide) (List.mem_of_getElem? (i := 1) rfl) 0 rfl rfl dX4_lateIn_6 ?_
      refine y_iload_n C 1 dX4_lateIn_9 rfl rfl ?_
      refine y_ialdA C (q0 := 2) (t0 := 0) rfl rfl (by decide) (by omega) dX4_lateIn_10 ?_
      refine y_icmpN_ge C (tgt := 65) dX4_lateIn_11 (by decide) (by omega) (by have := hsz b; omega) (fun h11 => ?_) (fun h11 => ?_)
      · skip
        refine y_iload_n C 2 dX4_lateIn_65 rfl rfl ?_
        exact K _ _ _ _ _ dX4_lateIn_66 (by rw [hx, show i = sz b by omega]) (by decide) (by decide)
      · skip
        refine y_aload_n C 0 dX4_lateIn_14 rfl rfl ?_
        refine y_iload_n C 1 dX4_lateIn_15 rfl rfl ?_
        refine y_iload_n C 3 dX4_lateIn_16 rfl rfl ?_
        refine y_callI C (wr := []) 2 (c_X4_at l D cI aM th E vs B sz cd M fr tt na nb ta tb dl co he mi la b i hcd hb (by omega)) gX4_lateIn_X4_at rfl rfl rfl (by decide +kernel) ⟨Nat.le_of_ble_eq_true rfl, Nat.le_of_ble_eq_true rfl⟩ (q0 := 0) (ci := 4) rfl rfl rfl rfl rfl (Nat.le_of_ble_eq_true rfl) dX4_lateIn_17 ⟨Nat.le_of_ble_eq_true rfl, Nat.le_of_ble_eq_true rfl⟩ ?_
        refine y_ws (ws' := WM cI aM th E vs B sz cd M fr tt na nb ta tb dl co he mi la) rfl ?_
        refine y_istore C (lv' := [(4, .int (nI (cd (12 * b + i)))), (0, .ref (aM 0)), (1, .int (nI b)), (2, .int x), (3, .int (nI i))]) dX4_lateIn_20 (by decide) rfl ?_
        refine y_iload C 0 dX4_lateIn_22 rfl ?_
        refine y_iconst C (v := nI 3) dX4_lateIn_24 (by decide) ?_
        refine y_iremN C dX4_lateIn_25 (by have := hcd (12 * b + i); omega) (by decide) (by decide) ?_
        refine y_iconst C (v := nI 2) dX4_lateIn_26 (by decide) ?_
        refine y_icmpN_ne C (tgt := 43) dX4_lateIn_27 (by decide) (by have := hcd (12 * b + i); omega) (by omega) (fun h27 => ?_) (fun h27 => ?_)
        · skip
          refine y_iload C 0 dX4_lateIn_43 rfl ?_
          refine y_iconst C (v := nI 3) dX4_lateIn_45 (by decide) ?_
          refine y_iremN C dX4_lateIn_46 (by have := hcd (12 * b + i); omega) (by decide) (by decide) ?_
          refine y_ifN_ne C (tgt := 59) dX4_lateIn_47 (by decide) (by have := hcd (12 * b + i); omega) (fun h47 => ?_) (fun h47 => ?_)
          · skip
            refine y_iinc C (k := 4) (lv' := [(3, .int (nI (i + 1))), (4, .int (nI (cd (12 * b + i)))), (0, .ref (aM 0)), (1, .int (nI b)), (2, .int x)]) dX4_lateIn_59 rfl (yn_inc rfl) (by decide) rfl ?_
            refine y_goto C (tgt := 4) dX4_lateIn_62 (by decide) ?_
            refine y_sub [2, 3, 4, 0] (lv' := [(0, .ref (aM 0)), (1, .int (nI b)), (2, .int x), (3, .int (nI (i + 1)))]) rfl ?_
            exact ih4 _ _ (by omega) (by simp [laF, oneF, hx, h27, h47]) (by omega)
          · skip
            refine y_iload_n C 3 dX4_lateIn_50 rfl rfl ?_
            refine y_iconst C (v := (1 : Int32)) dX4_lateIn_51 (by decide) ?_
            refine y_iload C 0 dX4_lateIn_52 rfl ?_
            refine y_iconst C (v := nI 3) dX4_lateIn_54 (by decide) ?_
            refine y_idivN C dX4_lateIn_55 (by have := hcd (12 * b + i); omega) (by decide) (by decide) ?_
            refine y_ishl C dX4_lateIn_56 ?_
            refine y_ior C dX4_lateIn_57 ?_
            refine y_istore_n C (lv' := [(2, .int (x ||| (((1 : Int32)) <<< ((nI ((cd (12 * b + i)) / 3)) &&& 31)))), (4, .int (nI (cd (12 * b + i)))), (0, .ref (aM 0)), (1, .int (nI b)), (3, .int (nI i))]) dX4_lateIn_58 rfl (by decide) rfl ?_
            refine y_iinc C (k := 4) (lv' := [(3, .int (nI (i + 1))), (2, .int (x ||| (((1 : Int32)) <<< ((nI ((cd (12 * b + i)) / 3)) &&& 31)))), (4, .int (nI (cd (12 * b + i)))), (0, .ref (aM 0)), (1, .int (nI b))]) dX4_lateIn_59 rfl (yn_inc rfl) (by decide) rfl ?_
            refine y_goto C (tgt := 4) dX4_lateIn_62 (by decide) ?_
            refine y_sub [3, 4, 1, 0] (lv' := [(0, .ref (aM 0)), (1, .int (nI b)), (2, .int (x ||| (((1 : Int32)) <<< ((nI ((cd (12 * b + i)) / 3)) &&& 31)))), (3, .int (nI (i + 1)))]) rfl ?_
            exact ih4 _ _ (by omega) (by simp [laF, oneF, hx, h27, h47]) (by omega)
        · skip
          refine y_iload_n C 3 dX4_lateIn_30 rfl rfl ?_
          refine y_aload_n C 1 dX4_lateIn_31 rfl rfl ?_
          refine y_iload C 0 dX4_lateIn_32 rfl ?_
          refine y_iconst C (v := nI 3) dX4_lateIn_34 (by decide) ?_
          refine y_idivN C dX4_lateIn_35 (by have := hcd (12 * b + i); omega) (by decide) (by decide) ?_
          refine y_callI C (wr := []) 1 (c_X4_dependent l D cI aM th E vs B sz cd M fr tt na nb ta tb dl co he mi la ((cd (12 * b + i)) / 3) hE) gX4_lateIn_X4_dependent rfl rfl rfl (by decide +kernel) ⟨Nat.le_of_ble_eq_true rfl, Nat.le_of_ble_eq_true rfl⟩ (q0 := 0) (ci := 4) rfl rfl rfl rfl rfl (Nat.le_of_ble_eq_true rfl) dX4_lateIn_36 ⟨Nat.le_of_ble_eq_true rfl, Nat.le_of_ble_eq_true rfl⟩ ?_
          refine y_ws (ws' := WM cI aM th E vs B sz cd M fr tt na nb ta tb dl co he mi la) rfl ?_
          refine y_iconst C (v := (-1)) dX4_lateIn_39 (by decide) ?_
          refine y_ixor C dX4_lateIn_40 ?_
          refine y_iand C dX4_lateIn_41 ?_
          refine y_istore_n C (lv' := [(2, .int (x &&& ((depF vs ((cd (12 * b + i)) / 3) E) ^^^ ((-1))))), (4, .int (nI (cd (12 * b + i)))), (0, .ref (aM 0)), (1, .int (nI b)), (3, .int (nI i))]) dX4_lateIn_42 rfl (by decide) rfl ?_
          refine y_iload C 1 dX4_lateIn_43 rfl ?_
          refine y_iconst C (v := nI 3) dX4_lateIn_45 (by decide) ?_
          refine y_iremN C dX4_lateIn_46 (by have := hcd (12 * b + i); omega) (by decide) (by decide) ?_
          refine y_ifN_ne C (tgt := 59) dX4_lateIn_47 (by decide) (by have := hcd (12 * b + i); omega) (fun h47 => ?_) (fun h47 => ?_)
          · skip
            refine y_iinc C (k := 4) (lv' := [(3, .int (nI (i + 1))), (2, .int (x &&& ((depF vs ((cd (12 * b + i)) / 3) E) ^^^ ((-1))))), (4, .int (nI (cd (12 * b + i)))), (0, .ref (aM 0)), (1, .int (nI b))]) dX4_lateIn_59 rfl (yn_inc rfl) (by decide) rfl ?_
            refine y_goto C (tgt := 4) dX4_lateIn_62 (by decide) ?_
            refine y_sub [3, 4, 1, 0] (lv' := [(0, .ref (aM 0)), (1, .int (nI b)), (2, .int (x &&& ((depF vs ((cd (12 * b + i)) / 3) E) ^^^ ((-1))))), (3, .int (nI (i + 1)))]) rfl ?_
            exact ih4 _ _ (by omega) (by simp [laF, oneF, hx, h27, h47]) (by omega)
          · skip
            exact absurd h47 (by omega)
  refine y_sub [2, 3, 1, 0] (lv' := [(0, .ref (aM 0)), (1, .int (nI b)), (2, .int ((0 : Int32))), (3, .int (nI 0))]) rfl ?_
  exact lp4 _ _ _ (Nat.zero_le _) rfl (Nat.lt_succ_self _)
theorem in_X4_findNeeded_4 : ∀ w ∈ wsX40, w ∈ wsX4_findNeeded := fun _ h => List.mem_cons_of_mem _ (List.mem_append_right _ h)
set_option maxHeartbeats 4000000 in
set_option maxRecDepth 100000 in
theorem c_X4_findNeeded (l : Launch) (D : va_G) (cI : ClassId) (aM : Nat → Nat) (th E : Nat) (vs : Nat → Int32) (B : Nat) (sz cd : Nat → Nat) (M : Nat) (fr tt : Nat → Nat) (na nb ta tb dl co he : Nat → Int32) (mi la : Int32) (b : Nat) (hE : E ≤ 8) (hM : M ≤ 80) (hsz : ∀ j, sz j ≤ 12) (hcd : ∀ j, cd j < 24) (hfr : ∀ j, fr j < 40) (htt : ∀ j, tt j < 40) (hb : b < 40) : ctI l yX4_findNeeded wsX4_findNeeded (rmD 2 0 0) D [(cI, .int)] [.ref (aM 0), .int (nI b)] (WM cI aM th E vs B sz cd M fr tt na nb ta tb dl co he mi la) (WM cI aM th E vs B sz cd M fr tt (upd na b (neN E vs sz cd M fr tt na b)) (upd nb b (snF E M fr tt na b M)) ta tb dl co he mi la) (nI (chF (neN E vs sz cd M fr tt na b) (na b))) 0 0 := by
  refine ctZ_of (by decide) rfl (Nat.le_of_ble_eq_true rfl) ?_
  intro p e s m args below meth c A Q C hnm K
  refine y_lv (lv' := [(0, .ref (aM 0)), (1, .int (nI b))]) rfl ?_
  refine y_aload_n C 0 dX4_findNeeded_0 rfl rfl ?_
  refine y_iload_n C 1 dX4_findNeeded_1 rfl rfl ?_
  refine y_callI C (wr := []) 1 (c_X4_exits l D cI aM th E vs B sz cd M fr tt na nb ta tb dl co he mi la b hM hfr hb) gX4_findNeeded_X4_exits rfl rfl rfl (by decide +kernel) ⟨Nat.le_of_ble_eq_true rfl, Nat.le_of_ble_eq_true rfl⟩ (q0 := 0) (ci := 4) rfl rfl rfl rfl rfl (Nat.le_of_ble_eq_true rfl) dX4_findNeeded_2 ⟨Nat.le_of_ble_eq_true rfl, Nat.le_of_ble_eq_true rfl⟩ ?_
  refine y_ws (ws' := WM cI aM th E vs B sz cd M fr tt na nb ta tb dl co he mi la) rfl ?_
  have jn16 : ∀ (y : Int32), (y = snF E M fr tt na b 0) → yW p l e (rmD 2 0 0) s m args below meth c 4 D A Q 0 0 (WM cI aM th E vs B sz cd M fr tt na nb ta tb dl co he mi la) 16 [(0, .ref (aM 0)), (1, .int (nI b))] [.int y] := by
    intro y hy
    refine y_istore_n C (lv' := [(2, .int y), (0, .ref (aM 0)), (1, .int (nI b))]) dX4_findNeeded_16 rfl (by decide) rfl ?_
    refine y_iconst C (v := nI 0) dX4_findNeeded_17 (by decide) ?_
    refine y_istore_n C (lv' := [(3, .int (nI 0)), (2, .int y), (0, .ref (aM 0)), (1, .int (nI b))]) dX4_findNeeded_18 rfl (by decide) rfl ?_
    have lp19 : ∀ (n19 : Nat) (i : Nat) (x : Int32), (i ≤ M) → (x = snF E M fr tt na b i) → (M - i) < n19 → yW p l e (rmD 2 0 0) s m args below meth c 4 D A Q 0 0 (WM cI aM th E vs B sz cd M fr tt na nb ta tb dl co he mi la) 19 [(0, .ref (aM 0)), (1, .int (nI b)), (2, .int x), (3, .int (nI i))] [] := by
      intro n19
      induction n19 with
      | zero => intro i x hi hx hm; exact absurd hm (Nat.not_lt_zero _)
      | succ n19 ih19 =>
        intro i x hi hx hm19
        refine y_iload_n C 3 dX4_findNeeded_19 rfl rfl ?_
        refine y_aload_n C 0 dX4_findNeeded_20 rfl rfl ?_
        refine y_get C in_X4_findNeeded_4 (ci := 4) rfl 6 (by decide) (List.mem_of_getElem? (i := 1) rfl) 0 rfl rfl dX4_findNeeded_21 ?_
        refine y_icmpN_ge C (tgt := 57) dX4_findNeeded_24 (by decide) (by omega) (by omega) (fun h24 => ?_) (fun h24 => ?_)
        · skip
          have hq_i : i = M := by omega
          rw [hq_i] at hx; subst hx
          refine y_aload_n C 0 dX4_findNeeded_57 rfl rfl ?_
          refine y_get C in_X4_findNeeded_4 (ci := 4) rfl 10 (by decide) (List.mem_of_getElem? (i := 5) rfl) 0 rfl rfl dX4_findNeeded_58 ?_
          refine y_iload_n C 1 dX4_findNeeded_61 rfl rfl ?_
          refine y_iload_n C 2 dX4_findNeeded_62 rfl rfl ?_
          refine y_iast C (q0 := 7) (t0 := 0) rfl rfl (by decide) (by omega) (ws' := WM cI aM th E vs B sz cd M fr tt na (upd nb b (snF E M fr tt na b M)) ta tb dl co he mi la) rfl dX4_findNeeded_63 ?_
          refine y_aload_n C 0 dX4_findNeeded_64 rfl rfl ?_
          refine y_get C in_X4_findNeeded_4 (ci := 4) rfl 9 (by decide) (List.mem_of_getElem? (i := 3) rfl) 0 rfl rfl dX4_findNeeded_65 ?_
          refine y_iload_n C 1 dX4_findNeeded_68 rfl rfl ?_
          refine y_iald C (q0 := 6) (t0 := 0) rfl rfl (by decide) (by omega) dX4_findNeeded_69 ?_
          refine y_istore_n C (lv' := [(3, .int (na b)), (0, .ref (aM 0)), (1, .int (nI b)), (2, .int (snF E M fr tt na b M))]) dX4_findNeeded_70 rfl (by decide) rfl ?_
          refine y_aload_n C 1 dX4_findNeeded_71 rfl rfl ?_
          refine y_get C in_X4_findNeeded_4 (ci := 4) rfl 9 (by decide) (List.mem_of_getElem? (i := 3) rfl) 0 rfl rfl dX4_findNeeded_72 ?_
          refine y_iload_n C 2 dX4_findNeeded_75 rfl rfl ?_
          refine y_aload_n C 1 dX4_findNeeded_76 rfl rfl ?_
          refine y_iload_n C 2 dX4_findNeeded_77 rfl rfl ?_
          refine y_callI C (wr := []) 1 (c_X4_earlyIn l D cI aM th E vs B sz cd M fr tt na (upd nb b (snF E M fr tt na b M)) ta tb dl co he mi la b hE hsz hcd hb) gX4_findNeeded_X4_earlyIn rfl rfl rfl (by decide +kernel) ⟨Nat.le_of_ble_eq_true rfl, Nat.le_of_ble_eq_true rfl⟩ (q0 := 0) (ci := 4) rfl rfl rfl rfl rfl (Nat.le_of_ble_eq_true rfl) dX4_findNeeded_78 ⟨Nat.le_of_ble_eq_true rfl, Nat.le_of_ble_eq_true rfl⟩ ?_
          refine y_ws (ws' := WM cI aM th E vs B sz cd M fr tt na (upd nb b (snF E M fr tt na b M)) ta tb dl co he mi la) rfl ?_
          refine y_aload_n C 1 dX4_findNeeded_81 rfl rfl ?_
          refine y_iload_n C 2 dX4_findNeeded_82 rfl rfl ?_
          refine y_callI C (wr := []) 1 (c_X4_keptBy l D cI aM th E vs B sz cd M fr tt na (upd nb b (snF E M fr tt na b M)) ta tb dl co he mi la b hE hsz hcd hb) gX4_findNeeded_X4_keptBy rfl rfl rfl (by decide +kernel) ⟨Nat.le_of_ble_eq_true rfl, Nat.le_of_ble_eq_true rfl⟩ (q0 := 0) (ci := 4) rfl rfl rfl rfl rfl (Nat.le_of_ble_eq_true rfl) dX4_findNeeded_83 ⟨Nat.le_of_ble_eq_true rfl, Nat.le_of_ble_eq_true rfl⟩ ?_
          refine y_ws (ws' := WM cI aM th E vs B sz cd M fr tt na (upd nb b (snF E M fr tt na b M)) ta tb dl co he mi la) rfl ?_
          refine y_iload_n C 3 dX4_findNeeded_86 rfl rfl ?_
          refine y_iand C dX4_findNeeded_87 ?_
          refine y_ior C dX4_findNeeded_88 ?_
          refine y_iast C (q0 := 6) (t0 := 0) rfl rfl (by decide) (by omega) (ws' := WM cI aM th E vs B sz cd M fr tt (upd na b ((eaF E vs cd b (sz b)) ||| ((kpF E vs cd b (sz b)) &&& (snF E M fr tt na b M)))) (upd nb b (snF E M fr tt na b M)) ta tb dl co he mi la) rfl dX4_findNeeded_89 ?_
          refine y_aload_n C 1 dX4_findNeeded_90 rfl rfl ?_
          refine y_get C in_X4_findNeeded_4 (ci := 4) rfl 9 (by decide) (List.mem_of_getElem? (i := 3) rfl) 0 rfl rfl dX4_findNeeded_91 ?_
          refine y_iload_n C 2 dX4_findNeeded_94 rfl rfl ?_
          refine y_iald C (q0 := 6) (t0 := 0) rfl rfl (by decide) (by omega) dX4_findNeeded_95 ?_
          refine y_topE pk_us ?_
          refine y_iload_n C 0 dX4_findNeeded_96 rfl rfl ?_
          refine y_icmp_eq C (tgt := 104) dX4_findNeeded_97 (by decide)  (fun h97 => ?_) (fun h97 => ?_)
          · skip
            refine y_iconst C (v := nI 0) dX4_findNeeded_104 (by decide) ?_
            exact K _ _ _ _ _ dX4_findNeeded_105 (by simp [chF, neN, h97]) (rfl) (by decide) (by decide)
          · skip
            refine y_iconst C (v := nI 1) dX4_findNeeded_100 (by decide) ?_
            refine y_goto C (tgt := 105) dX4_findNeeded_101 (by decide) ?_
            exact K _ _ _ _ _ dX4_findNeeded_105 (by simp [chF, neN, h97]) (rfl) (by decide) (by decide)
        · skip
          refine y_aload_n C 0 dX4_findNeeded_27 rfl rfl ?_
          refine y_get C in_X4_findNeeded_4 (ci := 4) rfl 7 (by decide) (List.mem_of_getElem? (i := 2) rfl) 0 rfl rfl dX4_findNeeded_28 ?_
          refine y_iload_n C 3 dX4_findNeeded_31 rfl rfl ?_
          refine y_ialdA C (q0 := 4) (t0 := 0) rfl rfl (by decide) (by omega) dX4_findNeeded_32 ?_
          refine y_iload_n C 1 dX4_findNeeded_33 rfl rfl ?_
          refine y_icmpN_ne C (tgt := 51) dX4_findNeeded_34 (by decide) (by have := hfr i; omega) (by omega) (fun h34 => ?_) (fun h34 => ?_)
          · skip
            refine y_iinc C (k := 3) (lv' := [(3, .int (nI (i + 1))), (0, .ref (aM 0)), (1, .int (nI b)), (2, .int x)]) dX4_findNeeded_51 rfl (yn_inc rfl) (by decide) rfl ?_
            refine y_goto C (tgt := 19) dX4_findNeeded_54 (by decide) ?_
            refine y_sub [1, 2, 3, 0] (lv' := [(0, .ref (aM 0)), (1, .int (nI b)), (2, .int x), (3, .int (nI (i + 1)))]) rfl ?_
            exact ih19 _ _ (by omega) (by simp [snF, hx, h34]) (by omega)
          · skip
            refine y_iload_n C 2 dX4_findNeeded_37 rfl rfl ?_
            refine y_aload_n C 0 dX4_findNeeded_38 rfl rfl ?_
            refine y_get C in_X4_findNeeded_4 (ci := 4) rfl 9 (by decide) (List.mem_of_getElem? (i := 3) rfl) 0 rfl rfl dX4_findNeeded_39 ?_
            refine y_aload_n C 0 dX4_findNeeded_42 rfl rfl ?_
            refine y_get C in_X4_findNeeded_4 (ci := 4) rfl 8 (by decide) (List.mem_of_getElem? (i := 4) rfl) 0 rfl rfl dX4_findNeeded_43 ?_
            refine y_iload_n C 3 dX4_findNeeded_46 rfl rfl ?_
            refine y_ialdA C (q0 := 5) (t0 := 0) rfl rfl (by decide) (by omega) dX4_findNeeded_47 ?_
            refine y_iald C (q0 := 6) (t0 := 0) rfl rfl (by decide) (by have := htt i; omega) dX4_findNeeded_48 ?_
            refine y_iand C dX4_findNeeded_49 ?_
            refine y_istore_n C (lv' := [(2, .int (x &&& (na (tt i)))), (0, .ref (aM 0)), (1, .int (nI b)), (3, .int (nI i))]) dX4_findNeeded_50 rfl (by decide) rfl ?_
            refine y_iinc C (k := 3) (lv' := [(3, .int (nI (i + 1))), (2, .int (x &&& (na (tt i)))), (0, .ref (aM 0)), (1, .int (nI b))]) dX4_findNeeded_51 rfl (yn_inc rfl) (by decide) rfl ?_
            refine y_goto C (tgt := 19) dX4_findNeeded_54 (by decide) ?_
            refine y_sub [2, 3, 1, 0] (lv' := [(0, .ref (aM 0)), (1, .int (nI b)), (2, .int (x &&& (na (tt i)))), (3, .int (nI (i + 1)))]) rfl ?_
            exact ih19 _ _ (by omega) (by simp [snF, hx, h34]) (by omega)
    refine y_sub [2, 3, 1, 0] (lv' := [(0, .ref (aM 0)), (1, .int (nI b)), (2, .int y), (3, .int (nI 0))]) rfl ?_
    exact lp19 _ _ _ (Nat.zero_le _) hy (Nat.lt_succ_self _)
  refine y_ifN_ne C (tgt := 12) dX4_findNeeded_5 (by decide) (by have := exF_le fr b M; omega) (fun h5 => ?_) (fun h5 => ?_)
  · skip
    refine y_aload_n C 0 dX4_findNeeded_12 rfl rfl ?_
    refine y_callI C (wr := []) 0 (c_X4_all l D cI aM th E vs B sz cd M fr tt na nb ta tb dl co he mi la) gX4_findNeeded_X4_all rfl rfl rfl (by decide +kernel) ⟨Nat.le_of_ble_eq_true rfl, Nat.le_of_ble_eq_true rfl⟩ (q0 := 0) (ci := 4) rfl rfl rfl rfl rfl (Nat.le_of_ble_eq_true rfl) dX4_findNeeded_13 ⟨Nat.le_of_ble_eq_true rfl, Nat.le_of_ble_eq_true rfl⟩ ?_
    refine y_ws (ws' := WM cI aM th E vs B sz cd M fr tt na nb ta tb dl co he mi la) rfl ?_
    exact jn16 _ (by simp [snF, h5])
  · skip
    refine y_iconst C (v := (0 : Int32)) dX4_findNeeded_8 (by decide) ?_
    refine y_goto C (tgt := 16) dX4_findNeeded_9 (by decide) ?_
    exact jn16 _ (by simp [snF, h5])
