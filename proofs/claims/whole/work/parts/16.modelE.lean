theorem in_X4_delete_4 : ∀ w ∈ wsX40, w ∈ wsX4_delete := fun _ h => List.mem_cons_of_mem _ (List.mem_append_right _ h)
set_option maxHeartbeats 4000000 in
set_option maxRecDepth 100000 in
theorem c_X4_delete (l : Launch) (D : va_G) (cI : ClassId) (aM : Nat → Nat) (th E : Nat) (vs : Nat → Int32) (B : Nat) (sz cd : Nat → Nat) (M : Nat) (fr tt : Nat → Nat) (na nb ta tb dl co he : Nat → Int32) (mi la : Int32) (b : Nat) (g : Int32) (hsz : ∀ j, sz j ≤ 12) (hcd : ∀ j, cd j < 24) (hb : b < 40) : ctV l yX4_delete wsX4_delete (rmD 1 0 0) D [(cI, .int)] [.ref (aM 0), .int (nI b), .int g] (WM cI aM th E vs B sz cd M fr tt na nb ta tb dl co he mi la) (WM cI aM th E vs B sz ((dtF cd b g (sz b)).2) M fr tt na nb ta tb dl co he mi la) 0 0 := by
  refine ctV_of (by decide) rfl (Nat.le_of_ble_eq_true rfl) ?_
  intro p e s m args below meth c A Q C hnm K
  refine y_lv (lv' := [(0, .ref (aM 0)), (1, .int (nI b)), (2, .int g)]) rfl ?_
  refine y_iload_n C 2 dX4_delete_0 rfl rfl ?_
  refine y_istore_n C (lv' := [(3, .int g), (0, .ref (aM 0)), (1, .int (nI b)), (2, .int g)]) dX4_delete_1 rfl (by decide) rfl ?_
  refine y_iconst C (v := nI 0) dX4_delete_2 (by decide) ?_
  refine y_istore C (lv' := [(4, .int (nI 0)), (3, .int g), (0, .ref (aM 0)), (1, .int (nI b)), (2, .int g)]) dX4_delete_3 (by decide) rfl ?_
  have lp5 : ∀ (n5 : Nat) (i : Nat) (lf : Int32) (u : (Nat → Nat)), (i ≤ sz b) → ((lf, u) = dtF cd b g i) → (∀ j, u j < 24) → (sz b - i) < n5 → yW p l e (rmD 1 0 0) s m args below meth c 6 D A Q 0 0 (WM cI aM th E vs B sz u M fr tt na nb ta tb dl co he mi la) 5 [(0, .ref (aM 0)), (1, .int (nI b)), (3, .int lf), (4, .int (nI i))] [] := by
    intro n5
    induction n5 with
    | zero => intro i lf u hi hT hu hm; exact absurd hm (Nat.not_lt_zero _)
    | succ n5 ih5 =>
      intro i lf u hi hT hu hm5
      have hzb := hsz b
      refine y_iload C 3 dX4_delete_5 rfl ?_
      refine y_aload_n C 0 dX4_delete_7 rfl rfl ?_
      refine y_get C in_X4_delete_4 (ci := 4) rfl 4 (by decide) (List.mem_of_getElem? (i := 1) rfl) 0 rfl rfl dX4_delete_8 ?_
      refine y_iload_n C 1 dX4_delete_11 rfl rfl ?_
      refine y_ialdA C (q0 := 2) (t0 := 0) rfl rfl (by decide) (by omega) dX4_delete_12 ?_
      refine y_icmpN_ge C (tgt := 79) dX4_delete_13 (by decide) (by omega) (by have := hsz b; omega) (fun h13 => ?_) (fun h13 => ?_)
      · skip
        rw [show i = sz b by omega] at hT
        refine y_ws (ws' := WM cI aM th E vs B sz ((dtF cd b g (sz b)).2) M fr tt na nb ta tb dl co he mi la) (by rw [← hT]) ?_
        exact K _ _ _ _ dX4_delete_79 (by decide) (by decide)
      · skip
        refine y_aload_n C 0 dX4_delete_16 rfl rfl ?_
        refine y_iload_n C 1 dX4_delete_17 rfl rfl ?_
        refine y_iload C 3 dX4_delete_18 rfl ?_
        refine y_callI C (wr := []) 2 (c_X4_at l D cI aM th E vs B sz u M fr tt na nb ta tb dl co he mi la b i (hu) hb (by omega)) gX4_delete_X4_at rfl rfl rfl (by decide +kernel) ⟨Nat.le_of_ble_eq_true rfl, Nat.le_of_ble_eq_true rfl⟩ (q0 := 0) (ci := 4) rfl rfl rfl rfl rfl (Nat.le_of_ble_eq_true rfl) dX4_delete_20 ⟨Nat.le_of_ble_eq_true rfl, Nat.le_of_ble_eq_true rfl⟩ ?_
        refine y_ws (ws' := WM cI aM th E vs B sz u M fr tt na nb ta tb dl co he mi la) rfl ?_
        refine y_istore C (lv' := [(5, .int (nI (u (12 * b + i)))), (0, .ref (aM 0)), (1, .int (nI b)), (3, .int lf), (4, .int (nI i))]) dX4_delete_23 (by decide) rfl ?_
        refine y_iload C 0 dX4_delete_25 rfl ?_
        refine y_iconst C (v := nI 3) dX4_delete_27 (by decide) ?_
        refine y_iremN C dX4_delete_28 (by have := hu (12 * b + i); omega) (by decide) (by decide) ?_
        refine y_ifN_ne C (tgt := 73) dX4_delete_29 (by decide) (by have := hu (12 * b + i); omega) (fun h29 => ?_) (fun h29 => ?_)
        · skip
          refine y_iinc C (k := 4) (lv' := [(4, .int (nI (i + 1))), (5, .int (nI (u (12 * b + i)))), (0, .ref (aM 0)), (1, .int (nI b)), (3, .int lf)]) dX4_delete_73 rfl (yn_inc rfl) (by decide) rfl ?_
          refine y_goto C (tgt := 5) dX4_delete_76 (by decide) ?_
          refine y_sub [2, 3, 4, 0] (lv' := [(0, .ref (aM 0)), (1, .int (nI b)), (3, .int lf), (4, .int (nI (i + 1)))]) rfl ?_
          exact ih5 _ _ _ (by omega) (by simp [dtF, oneF, ← hT, h29]) hu (by omega)
        · skip
          refine y_iload_n C 3 dX4_delete_32 rfl rfl ?_
          refine y_iload C 0 dX4_delete_33 rfl ?_
          refine y_iconst C (v := nI 3) dX4_delete_35 (by decide) ?_
          refine y_idivN C dX4_delete_36 (by have := hu (12 * b + i); omega) (by decide) (by decide) ?_
          refine y_ishr C dX4_delete_37 ?_
          refine y_iconst C (v := (1 : Int32)) dX4_delete_38 (by decide) ?_
          refine y_iand C dX4_delete_39 ?_
          refine y_if_ne C (tgt := 46) dX4_delete_40 (by decide)  (fun h40 => ?_) (fun h40 => ?_)
          · skip
            refine y_iload_n C 3 dX4_delete_46 rfl rfl ?_
            refine y_iconst C (v := (1 : Int32)) dX4_delete_47 (by decide) ?_
            refine y_iload C 0 dX4_delete_48 rfl ?_
            refine y_iconst C (v := nI 3) dX4_delete_50 (by decide) ?_
            refine y_idivN C dX4_delete_51 (by have := hu (12 * b + i); omega) (by decide) (by decide) ?_
            refine y_ishl C dX4_delete_52 ?_
            refine y_iconst C (v := (-1)) dX4_delete_53 (by decide) ?_
            refine y_ixor C dX4_delete_54 ?_
            refine y_iand C dX4_delete_55 ?_
            refine y_istore_n C (lv' := [(3, .int (lf &&& ((((1 : Int32)) <<< ((nI ((u (12 * b + i)) / 3)) &&& 31)) ^^^ ((-1))))), (5, .int (nI (u (12 * b + i)))), (0, .ref (aM 0)), (1, .int (nI b)), (4, .int (nI i))]) dX4_delete_56 rfl (by decide) rfl ?_
            refine y_aload_n C 2 dX4_delete_57 rfl rfl ?_
            refine y_get C in_X4_delete_4 (ci := 4) rfl 5 (by decide) (List.mem_of_getElem? (i := 2) rfl) 0 rfl rfl dX4_delete_58 ?_
            refine y_bipush C (v := nI 12) dX4_delete_61 (by decide) ?_
            refine y_iload_n C 3 dX4_delete_63 rfl rfl ?_
            refine y_imulN C dX4_delete_64 ?_
            refine y_iload C 4 dX4_delete_65 rfl ?_
            refine y_iaddN C dX4_delete_67 ?_
            refine y_iload C 1 dX4_delete_68 rfl ?_
            refine y_iconst C (v := nI 1) dX4_delete_70 (by decide) ?_
            refine y_iaddN C dX4_delete_71 ?_
            refine y_iastA C (q0 := 3) (t0 := 0) rfl rfl (by decide) (by omega) (ws' := WM cI aM th E vs B sz (upN u ((12 * b) + i) ((u (12 * b + i)) + 1)) M fr tt na nb ta tb dl co he mi la) rfl dX4_delete_72 ?_
            refine y_iinc C (k := 4) (lv' := [(4, .int (nI (i + 1))), (3, .int (lf &&& ((((1 : Int32)) <<< ((nI ((u (12 * b + i)) / 3)) &&& 31)) ^^^ ((-1))))), (5, .int (nI (u (12 * b + i)))), (0, .ref (aM 0)), (1, .int (nI b))]) dX4_delete_73 rfl (yn_inc rfl) (by decide) rfl ?_
            refine y_goto C (tgt := 5) dX4_delete_76 (by decide) ?_
            refine y_sub [3, 4, 1, 0] (lv' := [(0, .ref (aM 0)), (1, .int (nI b)), (3, .int (lf &&& ((((1 : Int32)) <<< ((nI ((u (12 * b + i)) / 3)) &&& 31)) ^^^ ((-1))))), (4, .int (nI (i + 1)))]) rfl ?_
            exact ih5 _ _ _ (by omega) (by simp [dtF, oneF, ← hT, h29, h40]) (upN_lt hu (by have := hu (12 * b + i); omega)) (by omega)
          · skip
            refine y_goto C (tgt := 73) dX4_delete_43 (by decide) ?_
            refine y_iinc C (k := 4) (lv' := [(4, .int (nI (i + 1))), (5, .int (nI (u (12 * b + i)))), (0, .ref (aM 0)), (1, .int (nI b)), (3, .int lf)]) dX4_delete_73 rfl (yn_inc rfl) (by decide) rfl ?_
            refine y_goto C (tgt := 5) dX4_delete_76 (by decide) ?_
            refine y_sub [2, 3, 4, 0] (lv' := [(0, .ref (aM 0)), (1, .int (nI b)), (3, .int lf), (4, .int (nI (i + 1)))]) rfl ?_
            exact ih5 _ _ _ (by omega) (by simp [dtF, oneF, ← hT, h29, h40]) hu (by omega)
  refine y_sub [2, 3, 1, 0] (lv' := [(0, .ref (aM 0)), (1, .int (nI b)), (3, .int g), (4, .int (nI 0))]) rfl ?_
  exact lp5 _ _ _ _ (Nat.zero_le _) rfl hcd (Nat.lt_succ_self _)
theorem in_X4_insert_4 : ∀ w ∈ wsX40, w ∈ wsX4_insert := fun _ h => List.mem_cons_of_mem _ (List.mem_append_right _ h)
set_option maxHeartbeats 4000000 in
set_option maxRecDepth 100000 in
theorem c_X4_insert (l : Launch) (D : va_G) (cI : ClassId) (aM : Nat → Nat) (th E : Nat) (vs : Nat → Int32) (B : Nat) (sz cd : Nat → Nat) (M : Nat) (fr tt : Nat → Nat) (na nb ta tb dl co he : Nat → Int32) (mi la : Int32) (j : Nat) (g : Int32) (hE : E ≤ 8) (hB : B < 40) (hM : M < 80) (hj : j < 80) : ctV l yX4_insert wsX4_insert (rmD 2 0 0) D [(cI, .int)] [.ref (aM 0), .int (nI j), .int g] (WM cI aM th E vs B sz cd M fr tt na nb ta tb dl co he mi la) (WM cI aM th E vs (B + 1) ((isF B g sz cd E).1) ((isF B g sz cd E).2) (M + 1) (upN fr M B) (upN (upN tt M (tt j)) j B) na nb ta tb dl co he mi la) 0 0 := by
  refine ctV_of (by decide) rfl (Nat.le_of_ble_eq_true rfl) ?_
  intro p e s m args below meth c A Q C hnm K
  refine y_lv (lv' := [(0, .ref (aM 0)), (1, .int (nI j)), (2, .int g)]) rfl ?_
  refine y_aload_n C 0 dX4_insert_0 rfl rfl ?_
  refine y_get C in_X4_insert_4 (ci := 4) rfl 3 (by decide) (List.mem_of_getElem? (i := 1) rfl) 0 rfl rfl dX4_insert_1 ?_
  refine y_istore_n C (lv' := [(3, .int (nI B)), (0, .ref (aM 0)), (1, .int (nI j)), (2, .int g)]) dX4_insert_4 rfl (by decide) rfl ?_
  refine y_aload_n C 1 dX4_insert_5 rfl rfl ?_
  refine y_dup C dX4_insert_6 rfl ?_
  refine y_get C in_X4_insert_4 (ci := 4) rfl 3 (by decide) (List.mem_of_getElem? (i := 1) rfl) 0 rfl rfl dX4_insert_7 ?_
  refine y_iconst C (v := nI 1) dX4_insert_10 (by decide) ?_
  refine y_iaddN C dX4_insert_11 ?_
  refine y_put C in_X4_insert_4 tyX4 tyX4_ok nmX4 (ci := 4) rfl 3 (by decide) rfl (List.mem_of_getElem? (i := 1) rfl) 0 rfl rfl rfl (Nat.le_of_ble_eq_true rfl) (ws' := WM cI aM th E vs (B + 1) sz cd M fr tt na nb ta tb dl co he mi la) rfl dX4_insert_12 ?_
  refine y_aload_n C 1 dX4_insert_15 rfl rfl ?_
  refine y_get C in_X4_insert_4 (ci := 4) rfl 4 (by decide) (List.mem_of_getElem? (i := 2) rfl) 0 rfl rfl dX4_insert_16 ?_
  refine y_iload_n C 0 dX4_insert_19 rfl rfl ?_
  refine y_iconst C (v := nI 0) dX4_insert_20 (by decide) ?_
  refine y_iastA C (q0 := 2) (t0 := 0) rfl rfl (by decide) (by omega) (ws' := WM cI aM th E vs (B + 1) (upN sz B 0) cd M fr tt na nb ta tb dl co he mi la) rfl dX4_insert_21 ?_
  refine y_iconst C (v := nI 0) dX4_insert_22 (by decide) ?_
  refine y_istore C (lv' := [(4, .int (nI 0)), (3, .int (nI B)), (0, .ref (aM 0)), (1, .int (nI j)), (2, .int g)]) dX4_insert_23 (by decide) rfl ?_
  have lp25 : ∀ (n25 : Nat) (i : Nat) (u : (Nat → Nat)) (c2 : (Nat → Nat)), (i ≤ E) → ((u, c2) = isF B g sz cd i) → (u B ≤ i) → (E - i) < n25 → yW p l e (rmD 2 0 0) s m args below meth c 5 D A Q 0 0 (WM cI aM th E vs (B + 1) u c2 M fr tt na nb ta tb dl co he mi la) 25 [(0, .ref (aM 0)), (1, .int (nI j)), (2, .int g), (3, .int (nI B)), (4, .int (nI i))] [] := by
    intro n25
    induction n25 with
    | zero => intro i u c2 hi hT hu hm; exact absurd hm (Nat.not_lt_zero _)
    | succ n25 ih25 =>
      intro i u c2 hi hT hu hm25
      refine y_iload C 4 dX4_insert_25 rfl ?_
      refine y_aload_n C 0 dX4_insert_27 rfl rfl ?_
      refine y_get C in_X4_insert_4 (ci := 4) rfl 1 (by decide) (List.mem_of_getElem? (i := 3) rfl) 0 rfl rfl dX4_insert_28 ?_
      refine y_icmpN_ge C (tgt := 62) dX4_insert_31 (by decide) (by omega) (by omega) (fun h31 => ?_) (fun h31 => ?_)
      · skip
        rw [show i = E by omega] at hT
        refine y_ws (ws' := WM cI aM th E vs (B + 1) ((isF B g sz cd E).1) ((isF B g sz cd E).2) M fr tt na nb ta tb dl co he mi la) (by rw [← hT]) ?_
        refine y_aload_n C 0 dX4_insert_62 rfl rfl ?_
        refine y_get C in_X4_insert_4 (ci := 4) rfl 7 (by decide) (List.mem_of_getElem? (i := 4) rfl) 0 rfl rfl dX4_insert_63 ?_
        refine y_aload_n C 0 dX4_insert_66 rfl rfl ?_
        refine y_get C in_X4_insert_4 (ci := 4) rfl 6 (by decide) (List.mem_of_getElem? (i := 5) rfl) 0 rfl rfl dX4_insert_67 ?_
        refine y_iload_n C 3 dX4_insert_70 rfl rfl ?_
        refine y_iastA C (q0 := 4) (t0 := 0) rfl rfl (by decide) (by omega) (ws' := WM cI aM th E vs (B + 1) ((isF B g sz cd E).1) ((isF B g sz cd E).2) M (upN fr M B) tt na nb ta tb dl co he mi la) rfl dX4_insert_71 ?_
        refine y_aload_n C 0 dX4_insert_72 rfl rfl ?_
        refine y_get C in_X4_insert_4 (ci := 4) rfl 8 (by decide) (List.mem_of_getElem? (i := 6) rfl) 0 rfl rfl dX4_insert_73 ?_
        refine y_aload_n C 0 dX4_insert_76 rfl rfl ?_
        refine y_get C in_X4_insert_4 (ci := 4) rfl 6 (by decide) (List.mem_of_getElem? (i := 5) rfl) 0 rfl rfl dX4_insert_77 ?_
        refine y_aload_n C 0 dX4_insert_80 rfl rfl ?_
        refine y_get C in_X4_insert_4 (ci := 4) rfl 8 (by decide) (List.mem_of_getElem? (i := 6) rfl) 0 rfl rfl dX4_insert_81 ?_
        refine y_iload_n C 1 dX4_insert_84 rfl rfl ?_
        refine y_ialdA C (q0 := 5) (t0 := 0) rfl rfl (by decide) (by omega) dX4_insert_85 ?_
        refine y_iastA C (q0 := 5) (t0 := 0) rfl rfl (by decide) (by omega) (ws' := WM cI aM th E vs (B + 1) ((isF B g sz cd E).1) ((isF B g sz cd E).2) M (upN fr M B) (upN tt M (tt j)) na nb ta tb dl co he mi la) rfl dX4_insert_86 ?_
        refine y_aload_n C 0 dX4_insert_87 rfl rfl ?_
        refine y_dup C dX4_insert_88 rfl ?_
        refine y_get C in_X4_insert_4 (ci := 4) rfl 6 (by decide) (List.mem_of_getElem? (i := 5) rfl) 0 rfl rfl dX4_insert_89 ?_
        refine y_iconst C (v := nI 1) dX4_insert_92 (by decide) ?_
        refine y_iaddN C dX4_insert_93 ?_
        refine y_put C in_X4_insert_4 tyX4 tyX4_ok nmX4 (ci := 4) rfl 6 (by decide) rfl (List.mem_of_getElem? (i := 5) rfl) 0 rfl rfl rfl (Nat.le_of_ble_eq_true rfl) (ws' := WM cI aM th E vs (B + 1) ((isF B g sz cd E).1) ((isF B g sz cd E).2) (M + 1) (upN fr M B) (upN tt M (tt j)) na nb ta tb dl co he mi la) rfl dX4_insert_94 ?_
        refine y_aload_n C 0 dX4_insert_97 rfl rfl ?_
        refine y_get C in_X4_insert_4 (ci := 4) rfl 8 (by decide) (List.mem_of_getElem? (i := 6) rfl) 0 rfl rfl dX4_insert_98 ?_
        refine y_iload_n C 1 dX4_insert_101 rfl rfl ?_
        refine y_iload_n C 3 dX4_insert_102 rfl rfl ?_
        refine y_iastA C (q0 := 5) (t0 := 0) rfl rfl (by decide) (by omega) (ws' := WM cI aM th E vs (B + 1) ((isF B g sz cd E).1) ((isF B g sz cd E).2) (M + 1) (upN fr M B) (upN (upN tt M (tt j)) j B) na nb ta tb dl co he mi la) rfl dX4_insert_103 ?_
        exact K _ _ _ _ dX4_insert_104 (by decide) (by decide)
      · skip
        refine y_iload_n C 2 dX4_insert_34 rfl rfl ?_
        refine y_iload C 4 dX4_insert_35 rfl ?_
        refine y_ishr C dX4_insert_37 ?_
        refine y_iconst C (v := (1 : Int32)) dX4_insert_38 (by decide) ?_
        refine y_iand C dX4_insert_39 ?_
        refine y_iconst C (v := (1 : Int32)) dX4_insert_40 (by decide) ?_
        refine y_icmp_ne C (tgt := 56) dX4_insert_41 (by decide)  (fun h41 => ?_) (fun h41 => ?_)
        · skip
          refine y_iinc C (k := 4) (lv' := [(4, .int (nI (i + 1))), (0, .ref (aM 0)), (1, .int (nI j)), (2, .int g), (3, .int (nI B))]) dX4_insert_56 rfl (yn_inc rfl) (by decide) rfl ?_
          refine y_goto C (tgt := 25) dX4_insert_59 (by decide) ?_
          refine y_sub [1, 2, 3, 4, 0] (lv' := [(0, .ref (aM 0)), (1, .int (nI j)), (2, .int g), (3, .int (nI B)), (4, .int (nI (i + 1)))]) rfl ?_
          exact ih25 _ _ _ (by omega) (by simp [isF, ← hT, h41]) (by omega) (by omega)
        · skip
          refine y_aload_n C 0 dX4_insert_44 rfl rfl ?_
          refine y_iload_n C 3 dX4_insert_45 rfl rfl ?_
          refine y_iconst C (v := nI 3) dX4_insert_46 (by decide) ?_
          refine y_iload C 4 dX4_insert_47 rfl ?_
          refine y_imulN C dX4_insert_49 ?_
          refine y_iconst C (v := nI 0) dX4_insert_50 (by decide) ?_
          refine y_iaddN C dX4_insert_51 ?_
          refine y_callI C (wr := []) 2 (c_X4_append_ok l D cI aM th E vs (B + 1) u c2 M fr tt na nb ta tb dl co he mi la B ((3 * i) + 0) (by omega) (by omega)) gX4_insert_X4_append rfl rfl rfl (by decide +kernel) ⟨Nat.le_of_ble_eq_true rfl, Nat.le_of_ble_eq_true rfl⟩ (q0 := 0) (ci := 4) rfl rfl rfl rfl rfl (Nat.le_of_ble_eq_true rfl) dX4_insert_52 ⟨Nat.le_of_ble_eq_true rfl, Nat.le_of_ble_eq_true rfl⟩ ?_
          refine y_ws (ws' := WM cI aM th E vs (B + 1) (upN u B (u B + 1)) (upN c2 (12 * B + u B) ((3 * i) + 0)) M fr tt na nb ta tb dl co he mi la) rfl ?_
          refine y_pop C dX4_insert_55 rfl ?_
          refine y_iinc C (k := 4) (lv' := [(4, .int (nI (i + 1))), (0, .ref (aM 0)), (1, .int (nI j)), (2, .int g), (3, .int (nI B))]) dX4_insert_56 rfl (yn_inc rfl) (by decide) rfl ?_
          refine y_goto C (tgt := 25) dX4_insert_59 (by decide) ?_
          refine y_sub [1, 2, 3, 4, 0] (lv' := [(0, .ref (aM 0)), (1, .int (nI j)), (2, .int g), (3, .int (nI B)), (4, .int (nI (i + 1)))]) rfl ?_
          exact ih25 _ _ _ (by omega) (by simp [isF, ← hT, h41]) (by rw [upN_s]; omega) (by omega)
  refine y_sub [2, 3, 4, 1, 0] (lv' := [(0, .ref (aM 0)), (1, .int (nI j)), (2, .int g), (3, .int (nI B)), (4, .int (nI 0))]) rfl ?_
  exact lp25 _ _ _ _ (Nat.zero_le _) rfl (Nat.le_of_eq upN_s) (Nat.lt_succ_self _)
theorem in_X4_move_4 : ∀ w ∈ wsX40, w ∈ wsX4_move := fun _ h => List.mem_cons_of_mem _ (List.mem_append_right _ h)
set_option maxHeartbeats 4000000 in
set_option maxRecDepth 100000 in
theorem c_X4_move_bad (l : Launch) (D : va_G) (cI : ClassId) (aM : Nat → Nat) (th E : Nat) (vs : Nat → Int32) (B : Nat) (sz cd : Nat → Nat) (M : Nat) (fr tt : Nat → Nat) (na nb ta tb dl co he : Nat → Int32) (mi la : Int32) (na2 nb2 ta2 tb2 dl2 : Nat → Int32) (hE : E ≤ 8) (hB : B ≤ 40) (hM : M ≤ 80) (hsz : ∀ j, sz j ≤ 12) (hcd : ∀ j, cd j < 24) (hfr : ∀ j, fr j < 40) (htt : ∀ j, tt j < 40) (hF : findR E vs B sz cd M fr tt na nb ta tb dl na2 nb2 ta2 tb2 dl2) (hb : 40 < B + cntF (inF E vs sz cd fr tt na2 nb2 tb2 dl2) M ∨ 80 < M + cntF (inF E vs sz cd fr tt na2 nb2 tb2 dl2) M) : ctI l yX4_move wsX4_move (rmD 5 1 80) D [(cI, .int)] [.ref (aM 0)] (WM cI aM th E vs B sz cd M fr tt na nb ta tb dl co he mi la) (WM cI aM 1 E vs B sz cd M fr tt na2 nb2 ta2 tb2 dl2 co he mi la) (nI 0) 1 80 := by
  refine ctI_of (by decide) rfl (Nat.le_of_ble_eq_true rfl) ?_
  intro p e s m args below meth c A Q C hnm K
  refine y_lv (lv' := [(0, .ref (aM 0))]) rfl ?_
  refine y_aload_n C 0 dX4_move_0 rfl rfl ?_
  refine y_iconst C (v := nI 0) dX4_move_1 (by decide) ?_
  refine y_put C in_X4_move_4 tyX4 tyX4_ok nmX4 (ci := 4) rfl 0 (by decide) rfl (List.mem_of_getElem? (i := 1) rfl) 0 rfl rfl rfl (Nat.le_of_ble_eq_true rfl) (ws' := WM cI aM 0 E vs B sz cd M fr tt na nb ta tb dl co he mi la) rfl dX4_move_2 ?_
  refine y_aload_n C 0 dX4_move_5 rfl rfl ?_
  refine y_callV C (wr := []) 0 (c_X4_find l D cI aM 0 E vs B sz cd M fr tt na nb ta tb dl co he mi la na2 nb2 ta2 tb2 dl2 hE hB hM hsz hcd hfr htt hF) gX4_move_X4_find rfl rfl rfl (by decide +kernel) ⟨Nat.le_of_ble_eq_true rfl, Nat.le_of_ble_eq_true rfl⟩ (q0 := 0) (ci := 4) rfl rfl rfl rfl rfl (Nat.le_of_ble_eq_true rfl) dX4_move_6 ⟨Nat.le_of_ble_eq_true rfl, Nat.le_of_ble_eq_true rfl⟩ ?_
  refine y_ws (ws' := WM cI aM 0 E vs B sz cd M fr tt na2 nb2 ta2 tb2 dl2 co he mi la) rfl ?_
  refine y_bipush C (v := nI 80) dX4_move_9 (by decide) ?_
  refine y_newF C (t0 := 0) rfl (List.mem_of_getElem? (i := 2) rfl) (by decide) (Nat.le_of_ble_eq_true rfl) (Nat.le_of_ble_eq_true rfl) dX4_move_11 (fun q1 => ?_)
  refine y_ws (ws' := W1 cI q1 80 ((fun _ => 0)) ++ (WM cI aM 0 E vs B sz cd M fr tt na2 nb2 ta2 tb2 dl2 co he mi la)) rfl ?_
  refine y_astore_n C (lv' := [(1, .ref q1), (0, .ref (aM 0))]) dX4_move_13 rfl (by decide) rfl ?_
  refine y_iconst C (v := nI 0) dX4_move_14 (by decide) ?_
  refine y_istore_n C (lv' := [(2, .int (nI 0)), (1, .ref q1), (0, .ref (aM 0))]) dX4_move_15 rfl (by decide) rfl ?_
  refine y_iconst C (v := nI 0) dX4_move_16 (by decide) ?_
  refine y_istore_n C (lv' := [(3, .int (nI 0)), (2, .int (nI 0)), (1, .ref q1), (0, .ref (aM 0))]) dX4_move_17 rfl (by decide) rfl ?_
  have lp18 : ∀ (n18 : Nat) (i : Nat) (x : Nat) (f : (Nat → Int32)), (i ≤ M) → (x = cntF (inF E vs sz cd fr tt na2 nb2 tb2 dl2) i) → (f = rowF (inF E vs sz cd fr tt na2 nb2 tb2 dl2) i) → (M - i) < n18 → yW p l e (rmD 5 1 80) s m args below meth c 6 D A Q 1 80 (W1 cI q1 80 f ++ (WM cI aM 0 E vs B sz cd M fr tt na2 nb2 ta2 tb2 dl2 co he mi la)) 18 [(0, .ref (aM 0)), (1, .ref q1), (2, .int (nI x)), (3, .int (nI i))] [] := by
    intro n18
    induction n18 with
    | zero => intro i x f hi hx hf hm; exact absurd hm (Nat.not_lt_zero _)
    | succ n18 ih18 =>
      intro i x f hi hx hf hm18
      have hxl : x ≤ 80 := by rw [hx]; exact Nat.le_trans (cnt_le _ _) (by omega)
      refine y_iload_n C 3 dX4_move_18 rfl rfl ?_
      refine y_aload_n C 0 dX4_move_19 rfl rfl ?_
      refine y_get C in_X4_move_4 (ci := 4) rfl 6 (by decide) (List.mem_of_getElem? (i := 3) rfl) 1 rfl rfl dX4_move_20 ?_
      refine y_icmpN_ge C (tgt := 54) dX4_move_23 (by decide) (by omega) (by omega) (fun h23 => ?_) (fun h23 => ?_)
      · skip
        have hq_i : i = M := by omega
        rw [hq_i] at hx hf
        have hcl := cnt_le (inF E vs sz cd fr tt na2 nb2 tb2 dl2) M
        subst hx hf
        refine y_aload_n C 0 dX4_move_54 rfl rfl ?_
        refine y_get C in_X4_move_4 (ci := 4) rfl 3 (by decide) (List.mem_of_getElem? (i := 4) rfl) 1 rfl rfl dX4_move_55 ?_
        refine y_iload_n C 2 dX4_move_58 rfl rfl ?_
        refine y_iaddN C dX4_move_59 ?_
        refine y_bipush C (v := nI 40) dX4_move_60 (by decide) ?_
        refine y_icmpN_gt C (tgt := 76) dX4_move_62 (by decide) (by have := hcl; omega) (by omega) (fun h62 => ?_) (fun h62 => ?_)
        · skip
          refine y_aload_n C 0 dX4_move_76 rfl rfl ?_
          refine y_iconst C (v := nI 1) dX4_move_77 (by decide) ?_
          refine y_callI C (wr := W1 cI q1 80 (rowF (inF E vs sz cd fr tt na2 nb2 tb2 dl2) M)) 1 (c_X4_no l D cI aM 0 E vs B sz cd M fr tt na2 nb2 ta2 tb2 dl2 co he mi la 1) gX4_move_X4_no rfl rfl rfl (by decide +kernel) ⟨Nat.le_of_ble_eq_true rfl, Nat.le_of_ble_eq_true rfl⟩ (q0 := 0) (ci := 4) rfl rfl rfl rfl rfl (Nat.le_of_ble_eq_true rfl) dX4_move_78 ⟨Nat.le_of_ble_eq_true rfl, Nat.le_of_ble_eq_true rfl⟩ ?_
          refine y_ws (ws' := W1 cI q1 80 (rowF (inF E vs sz cd fr tt na2 nb2 tb2 dl2) M) ++ (WM cI aM 1 E vs B sz cd M fr tt na2 nb2 ta2 tb2 dl2 co he mi la)) rfl ?_
          refine y_drop ?_
          exact K _ _ _ _ _ dX4_move_81 (rfl) (by decide) (by decide)
        · skip
          refine y_aload_n C 0 dX4_move_65 rfl rfl ?_
          refine y_get C in_X4_move_4 (ci := 4) rfl 6 (by decide) (List.mem_of_getElem? (i := 3) rfl) 1 rfl rfl dX4_move_66 ?_
          refine y_iload_n C 2 dX4_move_69 rfl rfl ?_
          refine y_iaddN C dX4_move_70 ?_
          refine y_bipush C (v := nI 80) dX4_move_71 (by decide) ?_
          refine y_icmpN_le C (tgt := 82) dX4_move_73 (by decide) (by have := hcl; omega) (by omega) (fun h73 => ?_) (fun h73 => ?_)
          · skip
            exact absurd hb (by omega)
          · skip
            refine y_aload_n C 0 dX4_move_76 rfl rfl ?_
            refine y_iconst C (v := nI 1) dX4_move_77 (by decide) ?_
            refine y_callI C (wr := W1 cI q1 80 (rowF (inF E vs sz cd fr tt na2 nb2 tb2 dl2) M)) 1 (c_X4_no l D cI aM 0 E vs B sz cd M fr tt na2 nb2 ta2 tb2 dl2 co he mi la 1) gX4_move_X4_no rfl rfl rfl (by decide +kernel) ⟨Nat.le_of_ble_eq_true rfl, Nat.le_of_ble_eq_true rfl⟩ (q0 := 0) (ci := 4) rfl rfl rfl rfl rfl (Nat.le_of_ble_eq_true rfl) dX4_move_78 ⟨Nat.le_of_ble_eq_true rfl, Nat.le_of_ble_eq_true rfl⟩ ?_
            refine y_ws (ws' := W1 cI q1 80 (rowF (inF E vs sz cd fr tt na2 nb2 tb2 dl2) M) ++ (WM cI aM 1 E vs B sz cd M fr tt na2 nb2 ta2 tb2 dl2 co he mi la)) rfl ?_
            refine y_drop ?_
            exact K _ _ _ _ _ dX4_move_81 (rfl) (by decide) (by decide)
      · skip
        refine y_aload_n C 1 dX4_move_26 rfl rfl ?_
        refine y_iload_n C 3 dX4_move_27 rfl rfl ?_
        refine y_aload_n C 0 dX4_move_28 rfl rfl ?_
        refine y_iload_n C 3 dX4_move_29 rfl rfl ?_
        refine y_callI C (wr := W1 cI q1 80 f) 1 (c_X4_insertedOn l D cI aM 0 E vs B sz cd M fr tt na2 nb2 ta2 tb2 dl2 co he mi la i hE (by omega) (by omega) (by omega) (by omega) (by omega)) gX4_move_X4_insertedOn rfl rfl rfl (by decide +kernel) ⟨Nat.le_of_ble_eq_true rfl, Nat.le_of_ble_eq_true rfl⟩ (q0 := 0) (ci := 4) rfl rfl rfl rfl rfl (Nat.le_of_ble_eq_true rfl) dX4_move_30 ⟨Nat.le_of_ble_eq_true rfl, Nat.le_of_ble_eq_true rfl⟩ ?_
        refine y_ws (ws' := W1 cI q1 80 f ++ (WM cI aM 0 E vs B sz cd M fr tt na2 nb2 ta2 tb2 dl2 co he mi la)) rfl ?_
        refine y_iast C (q0 := 0) (t0 := 0) rfl rfl (by decide) (by omega) (ws' := W1 cI q1 80 (upd f i (inF E vs sz cd fr tt na2 nb2 tb2 dl2 i)) ++ (WM cI aM 0 E vs B sz cd M fr tt na2 nb2 ta2 tb2 dl2 co he mi la)) rfl dX4_move_33 ?_
        refine y_iload_n C 2 dX4_move_34 rfl rfl ?_
        refine y_aload_n C 1 dX4_move_35 rfl rfl ?_
        refine y_iload_n C 3 dX4_move_36 rfl rfl ?_
        refine y_iald C (q0 := 0) (t0 := 0) rfl rfl (by decide) (by omega) dX4_move_37 ?_
        refine y_topE pk_us ?_
        refine y_if_ne C (tgt := 45) dX4_move_38 (by decide)  (fun h38 => ?_) (fun h38 => ?_)
        · skip
          refine y_iconst C (v := nI 1) dX4_move_45 (by decide) ?_
          refine y_iaddN C dX4_move_46 ?_
          refine y_istore_n C (lv' := [(2, .int (nI (x + 1))), (0, .ref (aM 0)), (1, .ref q1), (3, .int (nI i))]) dX4_move_47 rfl (by decide) rfl ?_
          refine y_iinc C (k := 3) (lv' := [(3, .int (nI (i + 1))), (2, .int (nI (x + 1))), (0, .ref (aM 0)), (1, .ref q1)]) dX4_move_48 rfl (yn_inc rfl) (by decide) rfl ?_
          refine y_goto C (tgt := 18) dX4_move_51 (by decide) ?_
          refine y_sub [2, 3, 1, 0] (lv' := [(0, .ref (aM 0)), (1, .ref q1), (2, .int (nI (x + 1))), (3, .int (nI (i + 1)))]) rfl ?_
          exact ih18 _ _ _ (by omega) (by simp [cntF, hx, h38]) (by rw [hf, row_s]) (by omega)
        · skip
          refine y_iconst C (v := nI 0) dX4_move_41 (by decide) ?_
          refine y_goto C (tgt := 46) dX4_move_42 (by decide) ?_
          refine y_iaddN C dX4_move_46 ?_
          refine y_istore_n C (lv' := [(2, .int (nI (x + 0))), (0, .ref (aM 0)), (1, .ref q1), (3, .int (nI i))]) dX4_move_47 rfl (by decide) rfl ?_
          refine y_iinc C (k := 3) (lv' := [(3, .int (nI (i + 1))), (2, .int (nI (x + 0))), (0, .ref (aM 0)), (1, .ref q1)]) dX4_move_48 rfl (yn_inc rfl) (by decide) rfl ?_
          refine y_goto C (tgt := 18) dX4_move_51 (by decide) ?_
          refine y_sub [2, 3, 1, 0] (lv' := [(0, .ref (aM 0)), (1, .ref q1), (2, .int (nI (x + 0))), (3, .int (nI (i + 1)))]) rfl ?_
          exact ih18 _ _ _ (by omega) (by simp [cntF, hx, h38]) (by rw [hf, row_s]) (by omega)
  refine y_sub [3, 2, 1, 0] (lv' := [(0, .ref (aM 0)), (1, .ref q1), (2, .int (nI 0)), (3, .int (nI 0))]) rfl ?_
  exact lp18 _ _ _ _ (Nat.zero_le _) rfl ((row_0 _).symm) (Nat.lt_succ_self _)
set_option maxHeartbeats 4000000 in
set_option maxRecDepth 100000 in
theorem c_X4_move_ok (l : Launch) (D : va_G) (cI : ClassId) (aM : Nat → Nat) (th E : Nat) (vs : Nat → Int32) (B : Nat) (sz cd : Nat → Nat) (M : Nat) (fr tt : Nat → Nat) (na nb ta tb dl co he : Nat → Int32) (mi la : Int32) (na2 nb2 ta2 tb2 dl2 : Nat → Int32) (B2 : Nat) (sz2 cd2 : Nat → Nat) (M2 : Nat) (fr2 tt2 : Nat → Nat) (hE : E ≤ 8) (hB : B ≤ 40) (hM : M ≤ 80) (hsz : ∀ j, sz j ≤ 12) (hcd : ∀ j, cd j < 24) (hfr : ∀ j, fr j < 40) (htt : ∀ j, tt j < 40) (hF : findR E vs B sz cd M fr tt na nb ta tb dl na2 nb2 ta2 tb2 dl2) (hb : B + cntF (inF E vs sz cd fr tt na2 nb2 tb2 dl2) M ≤ 40) (hb2 : M + cntF (inF E vs sz cd fr tt na2 nb2 tb2 dl2) M ≤ 80) (hV : (B2, sz2, cd2, M2, fr2, tt2) = mvF E (inF E vs sz cd fr tt na2 nb2 tb2 dl2) (B, sz, cdF sz (deF E vs sz cd dl2) cd B, M, fr, tt) M) : ctI l yX4_move wsX4_move (rmD 5 2 120) D [(cI, .int)] [.ref (aM 0)] (WM cI aM th E vs B sz cd M fr tt na nb ta tb dl co he mi la) (WM cI aM 0 E vs B2 sz2 cd2 M2 fr2 tt2 na2 nb2 ta2 tb2 dl2 co he mi la) (nI (cntF (inF E vs sz cd fr tt na2 nb2 tb2 dl2) M)) 2 120 := by
  refine ctI_of (by decide) rfl (Nat.le_of_ble_eq_true rfl) ?_
  intro p e s m args below meth c A Q C hnm K
  refine y_lv (lv' := [(0, .ref (aM 0))]) rfl ?_
  refine y_aload_n C 0 dX4_move_0 rfl rfl ?_
  refine y_iconst C (v := nI 0) dX4_move_1 (by decide) ?_
  refine y_put C in_X4_move_4 tyX4 tyX4_ok nmX4 (ci := 4) rfl 0 (by decide) rfl (List.mem_of_getElem? (i := 1) rfl) 0 rfl rfl rfl (Nat.le_of_ble_eq_true rfl) (ws' := WM cI aM 0 E vs B sz cd M fr tt na nb ta tb dl co he mi la) rfl dX4_move_2 ?_
  refine y_aload_n C 0 dX4_move_5 rfl rfl ?_
  refine y_callV C (wr := []) 0 (c_X4_find l D cI aM 0 E vs B sz cd M fr tt na nb ta tb dl co he mi la na2 nb2 ta2 tb2 dl2 hE hB hM hsz hcd hfr htt hF) gX4_move_X4_find rfl rfl rfl (by decide +kernel) ⟨Nat.le_of_ble_eq_true rfl, Nat.le_of_ble_eq_true rfl⟩ (q0 := 0) (ci := 4) rfl rfl rfl rfl rfl (Nat.le_of_ble_eq_true rfl) dX4_move_6 ⟨Nat.le_of_ble_eq_true rfl, Nat.le_of_ble_eq_true rfl⟩ ?_
  refine y_ws (ws' := WM cI aM 0 E vs B sz cd M fr tt na2 nb2 ta2 tb2 dl2 co he mi la) rfl ?_
  refine y_bipush C (v := nI 80) dX4_move_9 (by decide) ?_
  refine y_newF C (t0 := 0) rfl (List.mem_of_getElem? (i := 2) rfl) (by decide) (Nat.le_of_ble_eq_true rfl) (Nat.le_of_ble_eq_true rfl) dX4_move_11 (fun q1 => ?_)
  refine y_ws (ws' := W1 cI q1 80 ((fun _ => 0)) ++ (WM cI aM 0 E vs B sz cd M fr tt na2 nb2 ta2 tb2 dl2 co he mi la)) rfl ?_
  refine y_astore_n C (lv' := [(1, .ref q1), (0, .ref (aM 0))]) dX4_move_13 rfl (by decide) rfl ?_
  refine y_iconst C (v := nI 0) dX4_move_14 (by decide) ?_
  refine y_istore_n C (lv' := [(2, .int (nI 0)), (1, .ref q1), (0, .ref (aM 0))]) dX4_move_15 rfl (by decide) rfl ?_
  refine y_iconst C (v := nI 0) dX4_move_16 (by decide) ?_
  refine y_istore_n C (lv' := [(3, .int (nI 0)), (2, .int (nI 0)), (1, .ref q1), (0, .ref (aM 0))]) dX4_move_17 rfl (by decide) rfl ?_
  have lp18 : ∀ (n18 : Nat) (i : Nat) (x : Nat) (f : (Nat → Int32)), (i ≤ M) → (x = cntF (inF E vs sz cd fr tt na2 nb2 tb2 dl2) i) → (f = rowF (inF E vs sz cd fr tt na2 nb2 tb2 dl2) i) → (M - i) < n18 → yW p l e (rmD 5 2 120) s m args below meth c 6 D A Q 1 80 (W1 cI q1 80 f ++ (WM cI aM 0 E vs B sz cd M fr tt na2 nb2 ta2 tb2 dl2 co he mi la)) 18 [(0, .ref (aM 0)), (1, .ref q1), (2, .int (nI x)), (3, .int (nI i))] [] := by
    intro n18
    induction n18 with
    | zero => intro i x f hi hx hf hm; exact absurd hm (Nat.not_lt_zero _)
    | succ n18 ih18 =>
      intro i x f hi hx hf hm18
      have hxl : x ≤ 80 := by rw [hx]; exact Nat.le_trans (cnt_le _ _) (by omega)
      refine y_iload_n C 3 dX4_move_18 rfl rfl ?_
      refine y_aload_n C 0 dX4_move_19 rfl rfl ?_
      refine y_get C in_X4_move_4 (ci := 4) rfl 6 (by decide) (List.mem_of_getElem? (i := 3) rfl) 1 rfl rfl dX4_move_20 ?_
      refine y_icmpN_ge C (tgt := 54) dX4_move_23 (by decide) (by omega) (by omega) (fun h23 => ?_) (fun h23 => ?_)
      · skip
        have hq_i : i = M := by omega
        rw [hq_i] at hx hf
        have hcl := cnt_le (inF E vs sz cd fr tt na2 nb2 tb2 dl2) M
        subst hx hf
        refine y_aload_n C 0 dX4_move_54 rfl rfl ?_
        refine y_get C in_X4_move_4 (ci := 4) rfl 3 (by decide) (List.mem_of_getElem? (i := 4) rfl) 1 rfl rfl dX4_move_55 ?_
        refine y_iload_n C 2 dX4_move_58 rfl rfl ?_
        refine y_iaddN C dX4_move_59 ?_
        refine y_bipush C (v := nI 40) dX4_move_60 (by decide) ?_
        refine y_icmpN_gt C (tgt := 76) dX4_move_62 (by decide) (by have := hcl; omega) (by omega) (fun h62 => ?_) (fun h62 => ?_)
        · skip
          exact absurd h62 (by omega)
        · skip
          refine y_aload_n C 0 dX4_move_65 rfl rfl ?_
          refine y_get C in_X4_move_4 (ci := 4) rfl 6 (by decide) (List.mem_of_getElem? (i := 3) rfl) 1 rfl rfl dX4_move_66 ?_
          refine y_iload_n C 2 dX4_move_69 rfl rfl ?_
          refine y_iaddN C dX4_move_70 ?_
          refine y_bipush C (v := nI 80) dX4_move_71 (by decide) ?_
          refine y_icmpN_le C (tgt := 82) dX4_move_73 (by decide) (by have := hcl; omega) (by omega) (fun h73 => ?_) (fun h73 => ?_)
          · skip
            refine y_bipush C (v := nI 40) dX4_move_82 (by decide) ?_
            refine y_newF C (t0 := 0) rfl (List.mem_of_getElem? (i := 2) rfl) (by decide) (Nat.le_of_ble_eq_true rfl) (Nat.le_of_ble_eq_true rfl) dX4_move_84 (fun q2 => ?_)
            refine y_ws (ws' := W1 cI q2 40 ((fun _ => 0)) ++ (W1 cI q1 80 (rowF (inF E vs sz cd fr tt na2 nb2 tb2 dl2) M) ++ (WM cI aM 0 E vs B sz cd M fr tt na2 nb2 ta2 tb2 dl2 co he mi la))) rfl ?_
            refine y_astore_n C (lv' := [(3, .ref q2), (0, .ref (aM 0)), (1, .ref q1), (2, .int (nI (cntF (inF E vs sz cd fr tt na2 nb2 tb2 dl2) M)))]) dX4_move_86 rfl (by decide) rfl ?_
            refine y_iconst C (v := nI 0) dX4_move_87 (by decide) ?_
            refine y_istore C (lv' := [(4, .int (nI 0)), (3, .ref q2), (0, .ref (aM 0)), (1, .ref q1), (2, .int (nI (cntF (inF E vs sz cd fr tt na2 nb2 tb2 dl2) M)))]) dX4_move_88 (by decide) rfl ?_
            have lp90 : ∀ (n90 : Nat) (b : Nat) (f : (Nat → Int32)), (b ≤ B) → (f = rowF (deF E vs sz cd dl2) b) → (B - b) < n90 → yW p l e (rmD 5 2 120) s m args below meth c 6 D A Q 2 120 (W1 cI q2 40 f ++ (W1 cI q1 80 (rowF (inF E vs sz cd fr tt na2 nb2 tb2 dl2) M) ++ (WM cI aM 0 E vs B sz cd M fr tt na2 nb2 ta2 tb2 dl2 co he mi la))) 90 [(0, .ref (aM 0)), (1, .ref q1), (2, .int (nI (cntF (inF E vs sz cd fr tt na2 nb2 tb2 dl2) M))), (3, .ref q2), (4, .int (nI b))] [] := by
              intro n90
              induction n90 with
              | zero => intro b f hbB hf hm; exact absurd hm (Nat.not_lt_zero _)
              | succ n90 ih90 =>
                intro b f hbB hf hm90
                refine y_iload C 4 dX4_move_90 rfl ?_
                refine y_aload_n C 0 dX4_move_92 rfl rfl ?_
                refine y_get C in_X4_move_4 (ci := 4) rfl 3 (by decide) (List.mem_of_getElem? (i := 4) rfl) 2 rfl rfl dX4_move_93 ?_
                refine y_icmpN_ge C (tgt := 115) dX4_move_96 (by decide) (by omega) (by omega) (fun h96 => ?_) (fun h96 => ?_)
                · skip
                  rw [show b = B by omega] at hf; subst hf
                  refine y_iconst C (v := nI 0) dX4_move_115 (by decide) ?_
                  refine y_istore C (lv' := [(4, .int (nI 0)), (0, .ref (aM 0)), (1, .ref q1), (2, .int (nI (cntF (inF E vs sz cd fr tt na2 nb2 tb2 dl2) M))), (3, .ref q2)]) dX4_move_116 (by decide) rfl ?_
                  have lp118 : ∀ (n118 : Nat) (b : Nat) (u : (Nat → Nat)), (b ≤ B) → (u = cdF sz (deF E vs sz cd dl2) cd b) → (∀ j, u j < 24) → (B - b) < n118 → yW p l e (rmD 5 2 120) s m args below meth c 6 D A Q 2 120 (W1 cI q2 40 (rowF (deF E vs sz cd dl2) B) ++ (W1 cI q1 80 (rowF (inF E vs sz cd fr tt na2 nb2 tb2 dl2) M) ++ (WM cI aM 0 E vs B sz u M fr tt na2 nb2 ta2 tb2 dl2 co he mi la))) 118 [(0, .ref (aM 0)), (1, .ref q1), (2, .int (nI (cntF (inF E vs sz cd fr tt na2 nb2 tb2 dl2) M))), (3, .ref q2), (4, .int (nI b))] [] := by
                    intro n118
                    induction n118 with
                    | zero => intro b u hbB hT hu hm; exact absurd hm (Nat.not_lt_zero _)
                    | succ n118 ih118 =>
                      intro b u hbB hT hu hm118
                      refine y_iload C 4 dX4_move_118 rfl ?_
                      refine y_aload_n C 0 dX4_move_120 rfl rfl ?_
                      refine y_get C in_X4_move_4 (ci := 4) rfl 3 (by decide) (List.mem_of_getElem? (i := 4) rfl) 2 rfl rfl dX4_move_121 ?_
                      refine y_icmpN_ge C (tgt := 143) dX4_move_124 (by decide) (by omega) (by omega) (fun h124 => ?_) (fun h124 => ?_)
                      · skip
                        rw [show b = B by omega] at hT; subst hT
                        refine y_aload_n C 0 dX4_move_143 rfl rfl ?_
                        refine y_get C in_X4_move_4 (ci := 4) rfl 6 (by decide) (List.mem_of_getElem? (i := 3) rfl) 2 rfl rfl dX4_move_144 ?_
                        refine y_istore C (lv' := [(4, .int (nI M)), (0, .ref (aM 0)), (1, .ref q1), (2, .int (nI (cntF (inF E vs sz cd fr tt na2 nb2 tb2 dl2) M))), (3, .ref q2)]) dX4_move_147 (by decide) rfl ?_
                        refine y_iconst C (v := nI 0) dX4_move_149 (by decide) ?_
                        refine y_istore C (lv' := [(5, .int (nI 0)), (4, .int (nI M)), (0, .ref (aM 0)), (1, .ref q1), (2, .int (nI (cntF (inF E vs sz cd fr tt na2 nb2 tb2 dl2) M))), (3, .ref q2)]) dX4_move_150 (by decide) rfl ?_
                        have lp152 : ∀ (n152 : Nat) (j : Nat) (B1 : Nat) (s1 : (Nat → Nat)) (c1 : (Nat → Nat)) (M1 : Nat) (r1 : (Nat → Nat)) (t1 : (Nat → Nat)), (j ≤ M) → ((B1, s1, c1, M1, r1, t1) = mvF E (inF E vs sz cd fr tt na2 nb2 tb2 dl2) (B, sz, cdF sz (deF E vs sz cd dl2) cd B, M, fr, tt) j) → (B1 = B + cntF (inF E vs sz cd fr tt na2 nb2 tb2 dl2) j) → (M1 = M + cntF (inF E vs sz cd fr tt na2 nb2 tb2 dl2) j) → (M - j) < n152 → yW p l e (rmD 5 2 120) s m args below meth c 6 D A Q 2 120 (W1 cI q2 40 (rowF (deF E vs sz cd dl2) B) ++ (W1 cI q1 80 (rowF (inF E vs sz cd fr tt na2 nb2 tb2 dl2) M) ++ (WM cI aM 0 E vs B1 s1 c1 M1 r1 t1 na2 nb2 ta2 tb2 dl2 co he mi la))) 152 [(0, .ref (aM 0)), (1, .ref q1), (2, .int (nI (cntF (inF E vs sz cd fr tt na2 nb2 tb2 dl2) M))), (4, .int (nI M)), (5, .int (nI j))] [] := by
                          intro n152
                          induction n152 with
                          | zero => intro j B1 s1 c1 M1 r1 t1 hj hT hB1 hM1 hm; exact absurd hm (Nat.not_lt_zero _)
                          | succ n152 ih152 =>
                            intro j B1 s1 c1 M1 r1 t1 hj hT hB1 hM1 hm152
                            refine y_iload C 4 dX4_move_152 rfl ?_
                            refine y_iload C 3 dX4_move_154 rfl ?_
                            refine y_icmpN_ge C (tgt := 182) dX4_move_156 (by decide) (by omega) (by omega) (fun h156 => ?_) (fun h156 => ?_)
                            · skip
                              refine y_iload_n C 2 dX4_move_182 rfl rfl ?_
                              rw [show j = M by omega, ← hV] at hT
                              simp only [Prod.mk.injEq] at hT
                              obtain ⟨e1, e2, e3, e4, e5, e6⟩ := hT
                              refine y_drop ?_
                              refine y_drop ?_
                              refine y_ws (ws' := WM cI aM 0 E vs B2 sz2 cd2 M2 fr2 tt2 na2 nb2 ta2 tb2 dl2 co he mi la) (by rw [e1, e2, e3, e4, e5, e6]) ?_
                              exact K _ _ _ _ _ dX4_move_183 (rfl) (by decide) (by decide)
                            · skip
                              refine y_aload_n C 1 dX4_move_159 rfl rfl ?_
                              refine y_iload C 4 dX4_move_160 rfl ?_
                              refine y_iald C (q0 := 1) (t0 := 0) rfl rfl (by decide) (by omega) dX4_move_162 ?_
                              refine y_topE (row_lt (by omega)) ?_
                              refine y_if_eq C (tgt := 176) dX4_move_163 (by decide)  (fun h163 => ?_) (fun h163 => ?_)
                              · skip
                                refine y_iinc C (k := 4) (lv' := [(5, .int (nI (j + 1))), (0, .ref (aM 0)), (1, .ref q1), (2, .int (nI (cntF (inF E vs sz cd fr tt na2 nb2 tb2 dl2) M))), (4, .int (nI M))]) dX4_move_176 rfl (yn_inc rfl) (by decide) rfl ?_
                                refine y_goto C (tgt := 152) dX4_move_179 (by decide) ?_
                                refine y_sub [1, 2, 3, 4, 0] (lv' := [(0, .ref (aM 0)), (1, .ref q1), (2, .int (nI (cntF (inF E vs sz cd fr tt na2 nb2 tb2 dl2) M))), (4, .int (nI M)), (5, .int (nI (j + 1)))]) rfl ?_
                                exact ih152 _ _ _ _ _ _ _ (by omega) (by simp only [mvF, ← hT, h163, if_true, if_false]) (by simp [cntF, h163, hB1]; try omega) (by simp [cntF, h163, hM1]; try omega) (by omega)
                              · skip
                                refine y_aload_n C 0 dX4_move_166 rfl rfl ?_
                                refine y_iload C 4 dX4_move_167 rfl ?_
                                refine y_aload_n C 1 dX4_move_169 rfl rfl ?_
                                refine y_iload C 4 dX4_move_170 rfl ?_
                                refine y_iald C (q0 := 1) (t0 := 0) rfl rfl (by decide) (by omega) dX4_move_172 ?_
                                refine y_topE (row_lt (by omega)) ?_
                                have hlt := cnt_lt (g := inF E vs sz cd fr tt na2 nb2 tb2 dl2) (show j < M by omega) h163
                                refine y_callV C (wr := W1 cI q2 40 (rowF (deF E vs sz cd dl2) B) ++ W1 cI q1 80 (rowF (inF E vs sz cd fr tt na2 nb2 tb2 dl2) M)) 2 (c_X4_insert l D cI aM 0 E vs B1 s1 c1 M1 r1 t1 na2 nb2 ta2 tb2 dl2 co he mi la j (inF E vs sz cd fr tt na2 nb2 tb2 dl2 j) hE (by omega) (by omega) (by omega)) gX4_move_X4_insert rfl rfl rfl (by decide +kernel) ⟨Nat.le_of_ble_eq_true rfl, Nat.le_of_ble_eq_true rfl⟩ (q0 := 0) (ci := 4) rfl rfl (by simp only [List.append_assoc]) rfl rfl (Nat.le_of_ble_eq_true rfl) dX4_move_173 ⟨Nat.le_of_ble_eq_true rfl, Nat.le_of_ble_eq_true rfl⟩ ?_
                                refine y_ws (ws' := W1 cI q2 40 (rowF (deF E vs sz cd dl2) B) ++ (W1 cI q1 80 (rowF (inF E vs sz cd fr tt na2 nb2 tb2 dl2) M) ++ (WM cI aM 0 E vs (B1 + 1) ((isF B1 (inF E vs sz cd fr tt na2 nb2 tb2 dl2 j) s1 c1 E).1) ((isF B1 (inF E vs sz cd fr tt na2 nb2 tb2 dl2 j) s1 c1 E).2) (M1 + 1) (upN r1 M1 B1) (upN (upN t1 M1 (t1 j)) j B1) na2 nb2 ta2 tb2 dl2 co he mi la))) (by simp only [List.append_assoc]) ?_
                                refine y_iinc C (k := 4) (lv' := [(5, .int (nI (j + 1))), (0, .ref (aM 0)), (1, .ref q1), (2, .int (nI (cntF (inF E vs sz cd fr tt na2 nb2 tb2 dl2) M))), (4, .int (nI M))]) dX4_move_176 rfl (yn_inc rfl) (by decide) rfl ?_
                                refine y_goto C (tgt := 152) dX4_move_179 (by decide) ?_
                                refine y_sub [1, 2, 3, 4, 0] (lv' := [(0, .ref (aM 0)), (1, .ref q1), (2, .int (nI (cntF (inF E vs sz cd fr tt na2 nb2 tb2 dl2) M))), (4, .int (nI M)), (5, .int (nI (j + 1)))]) rfl ?_
                                exact ih152 _ _ _ _ _ _ _ (by omega) (by simp only [mvF, ← hT, h163, if_true, if_false]) (by simp [cntF, h163, hB1]; try omega) (by simp [cntF, h163, hM1]; try omega) (by omega)
                        refine y_sub [2, 3, 4, 1, 0] (lv' := [(0, .ref (aM 0)), (1, .ref q1), (2, .int (nI (cntF (inF E vs sz cd fr tt na2 nb2 tb2 dl2) M))), (4, .int (nI M)), (5, .int (nI 0))]) rfl ?_
                        exact lp152 _ _ _ _ _ _ _ _ (Nat.zero_le _) rfl rfl rfl (Nat.lt_succ_self _)
                      · skip
                        refine y_aload_n C 0 dX4_move_127 rfl rfl ?_
                        refine y_iload C 4 dX4_move_128 rfl ?_
                        refine y_aload_n C 3 dX4_move_130 rfl rfl ?_
                        refine y_iload C 4 dX4_move_131 rfl ?_
                        refine y_iald C (q0 := 0) (t0 := 0) rfl rfl (by decide) (by omega) dX4_move_133 ?_
                        refine y_topE (row_lt (by omega)) ?_
                        refine y_callV C (wr := W1 cI q2 40 (rowF (deF E vs sz cd dl2) B) ++ W1 cI q1 80 (rowF (inF E vs sz cd fr tt na2 nb2 tb2 dl2) M)) 2 (c_X4_delete l D cI aM 0 E vs B sz u M fr tt na2 nb2 ta2 tb2 dl2 co he mi la b (deF E vs sz cd dl2 b) hsz (by omega) (by omega)) gX4_move_X4_delete rfl rfl rfl (by decide +kernel) ⟨Nat.le_of_ble_eq_true rfl, Nat.le_of_ble_eq_true rfl⟩ (q0 := 0) (ci := 4) rfl rfl (by simp only [List.append_assoc]) rfl rfl (Nat.le_of_ble_eq_true rfl) dX4_move_134 ⟨Nat.le_of_ble_eq_true rfl, Nat.le_of_ble_eq_true rfl⟩ ?_
                        refine y_ws (ws' := W1 cI q2 40 (rowF (deF E vs sz cd dl2) B) ++ (W1 cI q1 80 (rowF (inF E vs sz cd fr tt na2 nb2 tb2 dl2) M) ++ (WM cI aM 0 E vs B sz ((dtF u b (deF E vs sz cd dl2 b) (sz b)).2) M fr tt na2 nb2 ta2 tb2 dl2 co he mi la))) (by simp only [List.append_assoc]) ?_
                        refine y_iinc C (k := 4) (lv' := [(4, .int (nI (b + 1))), (0, .ref (aM 0)), (1, .ref q1), (2, .int (nI (cntF (inF E vs sz cd fr tt na2 nb2 tb2 dl2) M))), (3, .ref q2)]) dX4_move_137 rfl (yn_inc rfl) (by decide) rfl ?_
                        refine y_goto C (tgt := 118) dX4_move_140 (by decide) ?_
                        refine y_sub [1, 2, 3, 4, 0] (lv' := [(0, .ref (aM 0)), (1, .ref q1), (2, .int (nI (cntF (inF E vs sz cd fr tt na2 nb2 tb2 dl2) M))), (3, .ref q2), (4, .int (nI (b + 1)))]) rfl ?_
                        exact ih118 _ _ (by omega) (by simp only [cdF, hT]) (dt_lt hu _ _ _) (by omega)
                  refine y_sub [1, 2, 3, 4, 0] (lv' := [(0, .ref (aM 0)), (1, .ref q1), (2, .int (nI (cntF (inF E vs sz cd fr tt na2 nb2 tb2 dl2) M))), (3, .ref q2), (4, .int (nI 0))]) rfl ?_
                  exact lp118 _ _ _ (Nat.zero_le _) rfl hcd (Nat.lt_succ_self _)
                · skip
                  refine y_aload_n C 3 dX4_move_99 rfl rfl ?_
                  refine y_iload C 4 dX4_move_100 rfl ?_
                  refine y_aload_n C 0 dX4_move_102 rfl rfl ?_
                  refine y_iload C 4 dX4_move_103 rfl ?_
                  refine y_callI C (wr := W1 cI q2 40 f ++ W1 cI q1 80 (rowF (inF E vs sz cd fr tt na2 nb2 tb2 dl2) M)) 1 (c_X4_deletedIn l D cI aM 0 E vs B sz cd M fr tt na2 nb2 ta2 tb2 dl2 co he mi la b hE hsz hcd (by omega)) gX4_move_X4_deletedIn rfl rfl rfl (by decide +kernel) ⟨Nat.le_of_ble_eq_true rfl, Nat.le_of_ble_eq_true rfl⟩ (q0 := 0) (ci := 4) rfl rfl (by simp only [List.append_assoc]) rfl rfl (Nat.le_of_ble_eq_true rfl) dX4_move_105 ⟨Nat.le_of_ble_eq_true rfl, Nat.le_of_ble_eq_true rfl⟩ ?_
                  refine y_ws (ws' := W1 cI q2 40 f ++ (W1 cI q1 80 (rowF (inF E vs sz cd fr tt na2 nb2 tb2 dl2) M) ++ (WM cI aM 0 E vs B sz cd M fr tt na2 nb2 ta2 tb2 dl2 co he mi la))) (by simp only [List.append_assoc]) ?_
                  refine y_iast C (q0 := 0) (t0 := 0) rfl rfl (by decide) (by omega) (ws' := W1 cI q2 40 (upd f b (deF E vs sz cd dl2 b)) ++ (W1 cI q1 80 (rowF (inF E vs sz cd fr tt na2 nb2 tb2 dl2) M) ++ (WM cI aM 0 E vs B sz cd M fr tt na2 nb2 ta2 tb2 dl2 co he mi la))) rfl dX4_move_108 ?_
                  refine y_iinc C (k := 4) (lv' := [(4, .int (nI (b + 1))), (0, .ref (aM 0)), (1, .ref q1), (2, .int (nI (cntF (inF E vs sz cd fr tt na2 nb2 tb2 dl2) M))), (3, .ref q2)]) dX4_move_109 rfl (yn_inc rfl) (by decide) rfl ?_
                  refine y_goto C (tgt := 90) dX4_move_112 (by decide) ?_
                  refine y_sub [1, 2, 3, 4, 0] (lv' := [(0, .ref (aM 0)), (1, .ref q1), (2, .int (nI (cntF (inF E vs sz cd fr tt na2 nb2 tb2 dl2) M))), (3, .ref q2), (4, .int (nI (b + 1)))]) rfl ?_
                  exact ih90 _ _ (by omega) (by rw [hf, row_s]) (by omega)
            refine y_sub [2, 3, 4, 1, 0] (lv' := [(0, .ref (aM 0)), (1, .ref q1), (2, .int (nI (cntF (inF E vs sz cd fr tt na2 nb2 tb2 dl2) M))), (3, .ref q2), (4, .int (nI 0))]) rfl ?_
            exact lp90 _ _ _ (Nat.zero_le _) ((row_0 _).symm) (Nat.lt_succ_self _)
          · skip
            exact absurd h73 (by omega)
      · skip
        refine y_aload_n C 1 dX4_move_26 rfl rfl ?_
        refine y_iload_n C 3 dX4_move_27 rfl rfl ?_
        refine y_aload_n C 0 dX4_move_28 rfl rfl ?_
        refine y_iload_n C 3 dX4_move_29 rfl rfl ?_
        refine y_callI C (wr := W1 cI q1 80 f) 1 (c_X4_insertedOn l D cI aM 0 E vs B sz cd M fr tt na2 nb2 ta2 tb2 dl2 co he mi la i hE (by omega) (by omega) (by omega) (by omega) (by omega)) gX4_move_X4_insertedOn rfl rfl rfl (by decide +kernel) ⟨Nat.le_of_ble_eq_true rfl, Nat.le_of_ble_eq_true rfl⟩ (q0 := 0) (ci := 4) rfl rfl rfl rfl rfl (Nat.le_of_ble_eq_true rfl) dX4_move_30 ⟨Nat.le_of_ble_eq_true rfl, Nat.le_of_ble_eq_true rfl⟩ ?_
        refine y_ws (ws' := W1 cI q1 80 f ++ (WM cI aM 0 E vs B sz cd M fr tt na2 nb2 ta2 tb2 dl2 co he mi la)) rfl ?_
        refine y_iast C (q0 := 0) (t0 := 0) rfl rfl (by decide) (by omega) (ws' := W1 cI q1 80 (upd f i (inF E vs sz cd fr tt na2 nb2 tb2 dl2 i)) ++ (WM cI aM 0 E vs B sz cd M fr tt na2 nb2 ta2 tb2 dl2 co he mi la)) rfl dX4_move_33 ?_
        refine y_iload_n C 2 dX4_move_34 rfl rfl ?_
        refine y_aload_n C 1 dX4_move_35 rfl rfl ?_
        refine y_iload_n C 3 dX4_move_36 rfl rfl ?_
        refine y_iald C (q0 := 0) (t0 := 0) rfl rfl (by decide) (by omega) dX4_move_37 ?_
        refine y_topE pk_us ?_
        refine y_if_ne C (tgt := 45) dX4_move_38 (by decide)  (fun h38 => ?_) (fun h38 => ?_)
        · skip
          refine y_iconst C (v := nI 1) dX4_move_45 (by decide) ?_
          refine y_iaddN C dX4_move_46 ?_
          refine y_istore_n C (lv' := [(2, .int (nI (x + 1))), (0, .ref (aM 0)), (1, .ref q1), (3, .int (nI i))]) dX4_move_47 rfl (by decide) rfl ?_
          refine y_iinc C (k := 3) (lv' := [(3, .int (nI (i + 1))), (2, .int (nI (x + 1))), (0, .ref (aM 0)), (1, .ref q1)]) dX4_move_48 rfl (yn_inc rfl) (by decide) rfl ?_
          refine y_goto C (tgt := 18) dX4_move_51 (by decide) ?_
          refine y_sub [2, 3, 1, 0] (lv' := [(0, .ref (aM 0)), (1, .ref q1), (2, .int (nI (x + 1))), (3, .int (nI (i + 1)))]) rfl ?_
          exact ih18 _ _ _ (by omega) (by simp [cntF, hx, h38]) (by rw [hf, row_s]) (by omega)
        · skip
          refine y_iconst C (v := nI 0) dX4_move_41 (by decide) ?_
          refine y_goto C (tgt := 46) dX4_move_42 (by decide) ?_
          refine y_iaddN C dX4_move_46 ?_
          refine y_istore_n C (lv' := [(2, .int (nI (x + 0))), (0, .ref (aM 0)), (1, .ref q1), (3, .int (nI i))]) dX4_move_47 rfl (by decide) rfl ?_
          refine y_iinc C (k := 3) (lv' := [(3, .int (nI (i + 1))), (2, .int (nI (x + 0))), (0, .ref (aM 0)), (1, .ref q1)]) dX4_move_48 rfl (yn_inc rfl) (by decide) rfl ?_
          refine y_goto C (tgt := 18) dX4_move_51 (by decide) ?_
          refine y_sub [2, 3, 1, 0] (lv' := [(0, .ref (aM 0)), (1, .ref q1), (2, .int (nI (x + 0))), (3, .int (nI (i + 1)))]) rfl ?_
          exact ih18 _ _ _ (by omega) (by simp [cntF, hx, h38]) (by rw [hf, row_s]) (by omega)
  refine y_sub [3, 2, 1, 0] (lv' := [(0, .ref (aM 0)), (1, .ref q1), (2, .int (nI 0)), (3, .int (nI 0))]) rfl ?_
  exact lp18 _ _ _ _ (Nat.zero_le _) rfl ((row_0 _).symm) (Nat.lt_succ_self _)
