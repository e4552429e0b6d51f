theorem in_X4_go_4 : ∀ w ∈ wsX40, w ∈ wsX4_go := fun _ h => List.mem_cons_of_mem _ (List.mem_append_right _ h)
set_option maxHeartbeats 4000000 in
set_option maxRecDepth 100000 in
theorem c_X4_go (l : Launch) (D : va_G) (cI : ClassId) (aM : Nat → Nat) (th E : Nat) (vs : Nat → Int32) (B : Nat) (sz cd : Nat → Nat) (M : Nat) (fr tt : Nat → Nat) (na nb ta tb dl co he : Nat → Int32) (mi la : Int32) (k : Nat) (g : Int32) (hE : E ≤ 8) (hk : k < 24) : ctI l yX4_go wsX4_go (rmD 1 0 0) D [(cI, .int)] [.ref (aM 0), .int (nI k), .int g] (WM cI aM th E vs B sz cd M fr tt na nb ta tb dl co he mi la) (WM cI aM th E vs B sz cd M fr tt na nb ta tb dl (coF co k) (hlF he g E) (miF mi g k) la) (hoF E vs g k) 0 0 := by
  refine ctI_of (by decide) rfl (Nat.le_of_ble_eq_true rfl) ?_
  intro p e s m args below meth c A Q C hnm K
  refine y_lv (lv' := [(0, .ref (aM 0)), (1, .int (nI k)), (2, .int g)]) rfl ?_
  refine y_iconst C (v := nI 0) dX4_go_0 (by decide) ?_
  refine y_istore_n C (lv' := [(3, .int (nI 0)), (0, .ref (aM 0)), (1, .int (nI k)), (2, .int g)]) dX4_go_1 rfl (by decide) rfl ?_
  have lp2 : ∀ (n2 : Nat) (i : Nat) (f : (Nat → Int32)), (i ≤ E) → (f = hlF he g i) → (E - i) < n2 → yW p l e (rmD 1 0 0) s m args below meth c 4 D A Q 0 0 (WM cI aM th E vs B sz cd M fr tt na nb ta tb dl co f mi la) 2 [(0, .ref (aM 0)), (1, .int (nI k)), (2, .int g), (3, .int (nI i))] [] := by
    intro n2
    induction n2 with
    | zero => intro i f hi hf hm; exact absurd hm (Nat.not_lt_zero _)
    | succ n2 ih2 =>
      intro i f hi hf hm2
      refine y_iload_n C 3 dX4_go_2 rfl rfl ?_
      refine y_aload_n C 0 dX4_go_3 rfl rfl ?_
      refine y_get C in_X4_go_4 (ci := 4) rfl 1 (by decide) (List.mem_of_getElem? (i := 1) rfl) 0 rfl rfl dX4_go_4 ?_
      refine y_icmpN_ge C (tgt := 30) dX4_go_7 (by decide) (by omega) (by omega) (fun h7 => ?_) (fun h7 => ?_)
      · skip
        rw [show i = E by omega] at hf; subst hf
        refine y_iload_n C 1 dX4_go_30 rfl rfl ?_
        refine y_iconst C (v := nI 3) dX4_go_31 (by decide) ?_
        refine y_iremN C dX4_go_32 (by omega) (by decide) (by decide) ?_
        refine y_iconst C (v := nI 2) dX4_go_33 (by decide) ?_
        refine y_icmpN_ne C (tgt := 49) dX4_go_34 (by decide) (by omega) (by omega) (fun h34 => ?_) (fun h34 => ?_)
        · skip
          refine y_iload_n C 1 dX4_go_49 rfl rfl ?_
          refine y_iconst C (v := nI 3) dX4_go_50 (by decide) ?_
          refine y_iremN C dX4_go_51 (by omega) (by decide) (by decide) ?_
          refine y_iconst C (v := nI 1) dX4_go_52 (by decide) ?_
          refine y_icmpN_ne C (tgt := 82) dX4_go_53 (by decide) (by omega) (by omega) (fun h53 => ?_) (fun h53 => ?_)
          · skip
            refine y_aload_n C 0 dX4_go_82 rfl rfl ?_
            refine y_get C in_X4_go_4 (ci := 4) rfl 14 (by decide) (List.mem_of_getElem? (i := 4) rfl) 0 rfl rfl dX4_go_83 ?_
            refine y_iload_n C 1 dX4_go_86 rfl rfl ?_
            refine y_iconst C (v := nI 3) dX4_go_87 (by decide) ?_
            refine y_idivN C dX4_go_88 (by omega) (by decide) (by decide) ?_
            refine y_dup2_11 C dX4_go_89 rfl rfl ?_
            refine y_iald C (q0 := 11) (t0 := 0) rfl rfl (by decide) (by omega) dX4_go_90 ?_
            refine y_iconst C (v := (1 : Int32)) dX4_go_91 (by decide) ?_
            refine y_iadd C dX4_go_92 ?_
            refine y_iast C (q0 := 11) (t0 := 0) rfl rfl (by decide) (by omega) (ws' := WM cI aM th E vs B sz cd M fr tt na nb ta tb dl (upd co (k / 3) ((co (k / 3)) + ((1 : Int32)))) (hlF he g E) mi la) rfl dX4_go_93 ?_
            refine y_iload_n C 2 dX4_go_94 rfl rfl ?_
            refine y_iconst C (v := (1 : Int32)) dX4_go_95 (by decide) ?_
            refine y_iload_n C 1 dX4_go_96 rfl rfl ?_
            refine y_iconst C (v := nI 3) dX4_go_97 (by decide) ?_
            refine y_idivN C dX4_go_98 (by omega) (by decide) (by decide) ?_
            refine y_ishl C dX4_go_99 ?_
            refine y_ior C dX4_go_100 ?_
            have h0 : k % 3 = 0 := by omega
            refine y_ws (ws' := WM cI aM th E vs B sz cd M fr tt na nb ta tb dl (coF co k) (hlF he g E) (miF mi g k) la) (by simp [coF, miF, h0]) ?_
            exact K _ _ _ _ _ dX4_go_101 (by simp [hoF, oneF, h0]) (by decide) (by decide)
          · skip
            refine y_aload_n C 0 dX4_go_56 rfl rfl ?_
            refine y_dup C dX4_go_57 rfl ?_
            refine y_get C in_X4_go_4 (ci := 4) rfl 16 (by decide) (List.mem_of_getElem? (i := 3) rfl) 0 rfl rfl dX4_go_58 ?_
            refine y_iload_n C 2 dX4_go_61 rfl rfl ?_
            refine y_iload_n C 1 dX4_go_62 rfl rfl ?_
            refine y_iconst C (v := nI 3) dX4_go_63 (by decide) ?_
            refine y_idivN C dX4_go_64 (by omega) (by decide) (by decide) ?_
            refine y_ishr C dX4_go_65 ?_
            refine y_iconst C (v := (1 : Int32)) dX4_go_66 (by decide) ?_
            refine y_iand C dX4_go_67 ?_
            refine y_if_ne C (tgt := 75) dX4_go_68 (by decide)  (fun h68 => ?_) (fun h68 => ?_)
            · skip
              refine y_iconst C (v := (0 : Int32)) dX4_go_75 (by decide) ?_
              refine y_iadd C dX4_go_76 ?_
              refine y_put C in_X4_go_4 tyX4 tyX4_ok nmX4 (ci := 4) rfl 16 (by decide) rfl (List.mem_of_getElem? (i := 3) rfl) 0 rfl rfl rfl (Nat.le_of_ble_eq_true rfl) (ws' := WM cI aM th E vs B sz cd M fr tt na nb ta tb dl co (hlF he g E) (mi + ((0 : Int32))) la) rfl dX4_go_77 ?_
              refine y_iload_n C 2 dX4_go_80 rfl rfl ?_
              refine y_ws (ws' := WM cI aM th E vs B sz cd M fr tt na nb ta tb dl (coF co k) (hlF he g E) (miF mi g k) la) (by simp [coF, miF, h53, h68]) ?_
              exact K _ _ _ _ _ dX4_go_81 (by simp [hoF, h53]) (by decide) (by decide)
            · skip
              refine y_iconst C (v := (1 : Int32)) dX4_go_71 (by decide) ?_
              refine y_goto C (tgt := 76) dX4_go_72 (by decide) ?_
              refine y_iadd C dX4_go_76 ?_
              refine y_put C in_X4_go_4 tyX4 tyX4_ok nmX4 (ci := 4) rfl 16 (by decide) rfl (List.mem_of_getElem? (i := 3) rfl) 0 rfl rfl rfl (Nat.le_of_ble_eq_true rfl) (ws' := WM cI aM th E vs B sz cd M fr tt na nb ta tb dl co (hlF he g E) (mi + ((1 : Int32))) la) rfl dX4_go_77 ?_
              refine y_iload_n C 2 dX4_go_80 rfl rfl ?_
              refine y_ws (ws' := WM cI aM th E vs B sz cd M fr tt na nb ta tb dl (coF co k) (hlF he g E) (miF mi g k) la) (by simp [coF, miF, h53, h68]) ?_
              exact K _ _ _ _ _ dX4_go_81 (by simp [hoF, h53]) (by decide) (by decide)
        · skip
          refine y_iload_n C 2 dX4_go_37 rfl rfl ?_
          refine y_aload_n C 0 dX4_go_38 rfl rfl ?_
          refine y_iload_n C 1 dX4_go_39 rfl rfl ?_
          refine y_iconst C (v := nI 3) dX4_go_40 (by decide) ?_
          refine y_idivN C dX4_go_41 (by omega) (by decide) (by decide) ?_
          refine y_callI C (wr := []) 1 (c_X4_dependent l D cI aM th E vs B sz cd M fr tt na nb ta tb dl co (hlF he g E) mi la (k / 3) hE) gX4_go_X4_dependent rfl rfl rfl (by decide +kernel) ⟨Nat.le_of_ble_eq_true rfl, Nat.le_of_ble_eq_true rfl⟩ (q0 := 0) (ci := 4) rfl rfl rfl rfl rfl (Nat.le_of_ble_eq_true rfl) dX4_go_42 ⟨Nat.le_of_ble_eq_true rfl, Nat.le_of_ble_eq_true rfl⟩ ?_
          refine y_ws (ws' := WM cI aM th E vs B sz cd M fr tt na nb ta tb dl co (hlF he g E) mi la) rfl ?_
          refine y_iconst C (v := (-1)) dX4_go_45 (by decide) ?_
          refine y_ixor C dX4_go_46 ?_
          refine y_iand C dX4_go_47 ?_
          refine y_ws (ws' := WM cI aM th E vs B sz cd M fr tt na nb ta tb dl (coF co k) (hlF he g E) (miF mi g k) la) (by simp [coF, miF, h34]) ?_
          exact K _ _ _ _ _ dX4_go_48 (by simp [hoF, h34]) (by decide) (by decide)
      · skip
        refine y_aload_n C 0 dX4_go_10 rfl rfl ?_
        refine y_get C in_X4_go_4 (ci := 4) rfl 15 (by decide) (List.mem_of_getElem? (i := 2) rfl) 0 rfl rfl dX4_go_11 ?_
        refine y_iload_n C 3 dX4_go_14 rfl rfl ?_
        refine y_dup2_11 C dX4_go_15 rfl rfl ?_
        refine y_iald C (q0 := 12) (t0 := 0) rfl rfl (by decide) (by omega) dX4_go_16 ?_
        refine y_iload_n C 2 dX4_go_17 rfl rfl ?_
        refine y_iload_n C 3 dX4_go_18 rfl rfl ?_
        refine y_ishr C dX4_go_19 ?_
        refine y_iconst C (v := (1 : Int32)) dX4_go_20 (by decide) ?_
        refine y_iand C dX4_go_21 ?_
        refine y_iadd C dX4_go_22 ?_
        refine y_iast C (q0 := 12) (t0 := 0) rfl rfl (by decide) (by omega) (ws' := WM cI aM th E vs B sz cd M fr tt na nb ta tb dl co (upd f i ((f i) + ((g >>> ((nI i) &&& 31)) &&& ((1 : Int32))))) mi la) rfl dX4_go_23 ?_
        refine y_iinc C (k := 3) (lv' := [(3, .int (nI (i + 1))), (0, .ref (aM 0)), (1, .int (nI k)), (2, .int g)]) dX4_go_24 rfl (yn_inc rfl) (by decide) rfl ?_
        refine y_goto C (tgt := 2) dX4_go_27 (by decide) ?_
        refine y_sub [1, 2, 3, 0] (lv' := [(0, .ref (aM 0)), (1, .int (nI k)), (2, .int g), (3, .int (nI (i + 1)))]) rfl ?_
        exact ih2 _ _ (by omega) (by rw [hf, hl_s]) (by omega)
  refine y_sub [1, 2, 3, 0] (lv' := [(0, .ref (aM 0)), (1, .int (nI k)), (2, .int g), (3, .int (nI 0))]) rfl ?_
  exact lp2 _ _ _ (Nat.zero_le _) ((hl_0 _ _).symm) (Nat.lt_succ_self _)
theorem in_X4_exit_4 : ∀ w ∈ wsX40, w ∈ wsX4_exit := fun _ h => List.mem_cons_of_mem _ (List.mem_append_right _ h)
set_option maxHeartbeats 4000000 in
set_option maxRecDepth 100000 in
theorem c_X4_exit (l : Launch) (D : va_G) (cI : ClassId) (aM : Nat → Nat) (th E : Nat) (vs : Nat → Int32) (B : Nat) (sz cd : Nat → Nat) (M : Nat) (fr tt : Nat → Nat) (na nb ta tb dl co he : Nat → Int32) (mi la : Int32) (b w : Nat) (hM : M ≤ 80) (hfr : ∀ j, fr j < 40) (htt : ∀ j, tt j < 40) (hb : b < 40) (hw : w ≤ 1) : ctI l yX4_exit wsX4_exit (rmD 0 0 0) D [(cI, .int)] [.ref (aM 0), .int (nI b), .int (nI w)] (WM cI aM th E vs B sz cd M fr tt na nb ta tb dl co he mi la) (WM cI aM th E vs B sz cd M fr tt na nb ta tb dl co he mi la) (xtF fr tt b M 0 w) 0 0 := by
  refine ctI_of (by decide) rfl (Nat.le_of_ble_eq_true rfl) ?_
  intro p e s m args below meth c A Q C hnm K
  refine y_lv (lv' := [(0, .ref (aM 0)), (1, .int (nI b)), (2, .int (nI w))]) rfl ?_
  refine y_iload_n C 2 dX4_exit_0 rfl rfl ?_
  refine y_istore_n C (lv' := [(3, .int (nI w)), (0, .ref (aM 0)), (1, .int (nI b)), (2, .int (nI w))]) dX4_exit_1 rfl (by decide) rfl ?_
  refine y_iconst C (v := nI 0) dX4_exit_2 (by decide) ?_
  refine y_istore C (lv' := [(4, .int (nI 0)), (3, .int (nI w)), (0, .ref (aM 0)), (1, .int (nI b)), (2, .int (nI w))]) dX4_exit_3 (by decide) rfl ?_
  have lp5 : ∀ (n5 : Nat) (i : Nat) (lf : Nat), (i ≤ M) → (xtF fr tt b (M - i) i lf = xtF fr tt b M 0 w) → (lf ≤ 1) → (M - i) < n5 → yW p l e (rmD 0 0 0) s m args below meth c 5 D A Q 0 0 (WM cI aM th E vs B sz cd M fr tt na nb ta tb dl co he mi la) 5 [(0, .ref (aM 0)), (1, .int (nI b)), (3, .int (nI lf)), (4, .int (nI i))] [] := by
    intro n5
    induction n5 with
    | zero => intro i lf hi hx hl hm; exact absurd hm (Nat.not_lt_zero _)
    | succ n5 ih5 =>
      intro i lf hi hx hl hm5
      refine y_iload C 3 dX4_exit_5 rfl ?_
      refine y_aload_n C 0 dX4_exit_7 rfl rfl ?_
      refine y_get C in_X4_exit_4 (ci := 4) rfl 6 (by decide) (List.mem_of_getElem? (i := 1) rfl) 0 rfl rfl dX4_exit_8 ?_
      refine y_icmpN_ge C (tgt := 49) dX4_exit_11 (by decide) (by omega) (by omega) (fun h11 => ?_) (fun h11 => ?_)
      · skip
        refine y_iconst C (v := (-1)) dX4_exit_49 (by decide) ?_
        exact K _ _ _ _ _ dX4_exit_50 (by rw [← hx, show M - i = 0 by omega]; rfl) (by decide) (by decide)
      · skip
        refine y_aload_n C 0 dX4_exit_14 rfl rfl ?_
        refine y_get C in_X4_exit_4 (ci := 4) rfl 7 (by decide) (List.mem_of_getElem? (i := 2) rfl) 0 rfl rfl dX4_exit_15 ?_
        refine y_iload C 3 dX4_exit_18 rfl ?_
        refine y_ialdA C (q0 := 4) (t0 := 0) rfl rfl (by decide) (by omega) dX4_exit_20 ?_
        refine y_iload_n C 1 dX4_exit_21 rfl rfl ?_
        refine y_icmpN_eq C (tgt := 28) dX4_exit_22 (by decide) (by have := hfr i; omega) (by omega) (fun h22 => ?_) (fun h22 => ?_)
        · skip
          refine y_iload_n C 2 dX4_exit_28 rfl rfl ?_
          refine y_ifN_ne C (tgt := 40) dX4_exit_29 (by decide) (by omega) (fun h29 => ?_) (fun h29 => ?_)
          · skip
            refine y_iinc C (k := 2) (lv' := [(3, .int (nI (lf - 1))), (0, .ref (aM 0)), (1, .int (nI b)), (4, .int (nI i))]) dX4_exit_40 rfl (yn_dec (by omega)) (by decide) rfl ?_
            refine y_iinc C (k := 3) (lv' := [(4, .int (nI (i + 1))), (3, .int (nI (lf - 1))), (0, .ref (aM 0)), (1, .int (nI b))]) dX4_exit_43 rfl (yn_inc rfl) (by decide) rfl ?_
            refine y_goto C (tgt := 5) dX4_exit_46 (by decide) ?_
            refine y_sub [2, 3, 1, 0] (lv' := [(0, .ref (aM 0)), (1, .int (nI b)), (3, .int (nI (lf - 1))), (4, .int (nI (i + 1)))]) rfl ?_
            exact ih5 _ _ (by omega) (by rw [← hx, show M - i = (M - (i + 1)) + 1 by omega]; simp [xtF, h22, h29]) (by omega) (by omega)
          · skip
            refine y_aload_n C 0 dX4_exit_32 rfl rfl ?_
            refine y_get C in_X4_exit_4 (ci := 4) rfl 8 (by decide) (List.mem_of_getElem? (i := 3) rfl) 0 rfl rfl dX4_exit_33 ?_
            refine y_iload C 3 dX4_exit_36 rfl ?_
            refine y_ialdA C (q0 := 5) (t0 := 0) rfl rfl (by decide) (by omega) dX4_exit_38 ?_
            exact K _ _ _ _ _ dX4_exit_39 (by rw [← hx, show M - i = (M - (i + 1)) + 1 by omega]; simp [xtF, h22, h29]) (by decide) (by decide)
        · skip
          refine y_goto C (tgt := 43) dX4_exit_25 (by decide) ?_
          refine y_iinc C (k := 3) (lv' := [(4, .int (nI (i + 1))), (0, .ref (aM 0)), (1, .int (nI b)), (3, .int (nI lf))]) dX4_exit_43 rfl (yn_inc rfl) (by decide) rfl ?_
          refine y_goto C (tgt := 5) dX4_exit_46 (by decide) ?_
          refine y_sub [1, 2, 3, 0] (lv' := [(0, .ref (aM 0)), (1, .int (nI b)), (3, .int (nI lf)), (4, .int (nI (i + 1)))]) rfl ?_
          exact ih5 _ _ (by omega) (by rw [← hx, show M - i = (M - (i + 1)) + 1 by omega]; simp [xtF, h22]) (by omega) (by omega)
  refine y_sub [2, 3, 1, 0] (lv' := [(0, .ref (aM 0)), (1, .int (nI b)), (3, .int (nI w)), (4, .int (nI 0))]) rfl ?_
  exact lp5 _ _ _ (Nat.zero_le _) rfl hw (Nat.lt_succ_self _)
theorem in_X4_walk_4 : ∀ w ∈ wsX40, w ∈ wsX4_walk := fun _ h => List.mem_cons_of_mem _ (List.mem_append_right _ h)
set_option maxHeartbeats 4000000 in
set_option maxRecDepth 100000 in
theorem c_X4_walk_bad (l : Launch) (D : va_G) (cI : ClassId) (aM : Nat → Nat) (th E : Nat) (vs : Nat → Int32) (B : Nat) (sz cd : Nat → Nat) (M : Nat) (fr tt : Nat → Nat) (na nb ta tb dl co he : Nat → Int32) (mi la : Int32) (ch : Int64) (t : Int32) (ht : t < nI 1 ∨ ¬ t ≤ nI 1000) : ctI l yX4_walk wsX4_walk (rmD 3 0 0) D [(cI, .int)] [.ref (aM 0), .long ch, .int t] (WM cI aM th E vs B sz cd M fr tt na nb ta tb dl co he mi la) (WM cI aM 1 E vs B sz cd M fr tt na nb ta tb dl co he mi la) (nI 0) 0 0 := by
  refine ctI_of (by decide) rfl (Nat.le_of_ble_eq_true rfl) ?_
  intro p e s m args below meth c A Q C hnm K
  refine y_lv (lv' := [(0, .ref (aM 0)), (1, .long ch), (3, .int t)]) rfl ?_
  refine y_aload_n C 0 dX4_walk_0 rfl rfl ?_
  refine y_iconst C (v := nI 0) dX4_walk_1 (by decide) ?_
  refine y_put C in_X4_walk_4 tyX4 tyX4_ok nmX4 (ci := 4) rfl 0 (by decide) rfl (List.mem_of_getElem? (i := 1) rfl) 0 rfl rfl rfl (Nat.le_of_ble_eq_true rfl) (ws' := WM cI aM 0 E vs B sz cd M fr tt na nb ta tb dl co he mi la) rfl dX4_walk_2 ?_
  refine y_iload_n C 2 dX4_walk_5 rfl rfl ?_
  refine y_iconst C (v := nI 1) dX4_walk_6 (by decide) ?_
  refine y_icmp_lt C (tgt := 17) dX4_walk_7 (by decide)  (fun h7 => ?_) (fun h7 => ?_)
  · skip
    refine y_aload_n C 0 dX4_walk_17 rfl rfl ?_
    refine y_iconst C (v := nI 1) dX4_walk_18 (by decide) ?_
    refine y_callI C (wr := []) 1 (c_X4_no l D cI aM 0 E vs B sz cd M fr tt na nb ta tb dl co he mi la 1) gX4_walk_X4_no rfl rfl rfl (by decide +kernel) ⟨Nat.le_of_ble_eq_true rfl, Nat.le_of_ble_eq_true rfl⟩ (q0 := 0) (ci := 4) rfl rfl rfl rfl rfl (Nat.le_of_ble_eq_true rfl) dX4_walk_19 ⟨Nat.le_of_ble_eq_true rfl, Nat.le_of_ble_eq_true rfl⟩ ?_
    refine y_ws (ws' := WM cI aM 1 E vs B sz cd M fr tt na nb ta tb dl co he mi la) rfl ?_
    exact K _ _ _ _ _ dX4_walk_22 (rfl) (by decide) (by decide)
  · skip
    refine y_iload_n C 2 dX4_walk_10 rfl rfl ?_
    refine y_sipush C (v := nI 1000) dX4_walk_11 (by decide) ?_
    refine y_icmp_le C (tgt := 23) dX4_walk_14 (by decide)  (fun h14 => ?_) (fun h14 => ?_)
    · skip
      exact absurd ht (fun q => q.elim h7 (fun z => z h14))
    · skip
      refine y_aload_n C 0 dX4_walk_17 rfl rfl ?_
      refine y_iconst C (v := nI 1) dX4_walk_18 (by decide) ?_
      refine y_callI C (wr := []) 1 (c_X4_no l D cI aM 0 E vs B sz cd M fr tt na nb ta tb dl co he mi la 1) gX4_walk_X4_no rfl rfl rfl (by decide +kernel) ⟨Nat.le_of_ble_eq_true rfl, Nat.le_of_ble_eq_true rfl⟩ (q0 := 0) (ci := 4) rfl rfl rfl rfl rfl (Nat.le_of_ble_eq_true rfl) dX4_walk_19 ⟨Nat.le_of_ble_eq_true rfl, Nat.le_of_ble_eq_true rfl⟩ ?_
      refine y_ws (ws' := WM cI aM 1 E vs B sz cd M fr tt na nb ta tb dl co he mi la) rfl ?_
      exact K _ _ _ _ _ dX4_walk_22 (rfl) (by decide) (by decide)
set_option maxHeartbeats 4000000 in
set_option maxRecDepth 100000 in
theorem c_X4_walk_ok (l : Launch) (D : va_G) (cI : ClassId) (aM : Nat → Nat) (th E : Nat) (vs : Nat → Int32) (B : Nat) (sz cd : Nat → Nat) (M : Nat) (fr tt : Nat → Nat) (na nb ta tb dl co he : Nat → Int32) (mi la : Int32) (ch : Int64) (t : Nat) (co2 he2 : Nat → Int32) (mi2 la2 ho2 : Int32) (bt2 mn2 : Nat) (nx2 : Int32) (hE : E ≤ 8) (hM : M ≤ 80) (hsz : ∀ j, sz j ≤ 12) (hcd : ∀ j, cd j < 24) (hfr : ∀ j, fr j < 40) (htt : ∀ j, tt j < 40) (ht : 1 ≤ t) (ht2 : t ≤ 1000) (hW : wkF E vs sz cd M fr tt ch t (fillF co 8 0, fillF he 8 0, 0, la, 0, 0, 0, nI 0) = (co2, he2, mi2, la2, ho2, bt2, mn2, nx2)) : ctI l yX4_walk wsX4_walk (rmD 3 0 0) D [(cI, .int)] [.ref (aM 0), .long ch, .int (nI t)] (WM cI aM th E vs B sz cd M fr tt na nb ta tb dl co he mi la) (WM cI aM 0 E vs B sz cd M fr tt na nb ta tb dl co2 he2 mi2 la2) (nI mn2) 0 0 := by
  refine ctI_of (by decide) rfl (Nat.le_of_ble_eq_true rfl) ?_
  intro p e s m args below meth c A Q C hnm K
  refine y_lv (lv' := [(0, .ref (aM 0)), (1, .long ch), (3, .int (nI t))]) rfl ?_
  refine y_aload_n C 0 dX4_walk_0 rfl rfl ?_
  refine y_iconst C (v := nI 0) dX4_walk_1 (by decide) ?_
  refine y_put C in_X4_walk_4 tyX4 tyX4_ok nmX4 (ci := 4) rfl 0 (by decide) rfl (List.mem_of_getElem? (i := 1) rfl) 0 rfl rfl rfl (Nat.le_of_ble_eq_true rfl) (ws' := WM cI aM 0 E vs B sz cd M fr tt na nb ta tb dl co he mi la) rfl dX4_walk_2 ?_
  refine y_iload_n C 2 dX4_walk_5 rfl rfl ?_
  refine y_iconst C (v := nI 1) dX4_walk_6 (by decide) ?_
  refine y_icmpN_lt C (tgt := 17) dX4_walk_7 (by decide) (by omega) (by omega) (fun h7 => ?_) (fun h7 => ?_)
  · skip
    exact absurd h7 (by omega)
  · skip
    refine y_iload_n C 2 dX4_walk_10 rfl rfl ?_
    refine y_sipush C (v := nI 1000) dX4_walk_11 (by decide) ?_
    refine y_icmpN_le C (tgt := 23) dX4_walk_14 (by decide) (by omega) (by omega) (fun h14 => ?_) (fun h14 => ?_)
    · skip
      refine y_iconst C (v := nI 0) dX4_walk_23 (by decide) ?_
      refine y_istore C (lv' := [(4, .int (nI 0)), (0, .ref (aM 0)), (1, .long ch), (3, .int (nI t))]) dX4_walk_24 (by decide) rfl ?_
      have lp26 : ∀ (n26 : Nat) (i : Nat) (f1 : (Nat → Int32)) (f2 : (Nat → Int32)), (i ≤ 8) → (f1 = fillF co i 0) → (f2 = fillF he i 0) → (8 - i) < n26 → yW p l e (rmD 3 0 0) s m args below meth c 10 D A Q 0 0 (WM cI aM 0 E vs B sz cd M fr tt na nb ta tb dl f1 f2 mi la) 26 [(0, .ref (aM 0)), (1, .long ch), (3, .int (nI t)), (4, .int (nI i))] [] := by
        intro n26
        induction n26 with
        | zero => intro i f1 f2 hi hf1 hf2 hm; exact absurd hm (Nat.not_lt_zero _)
        | succ n26 ih26 =>
          intro i f1 f2 hi hf1 hf2 hm26
          refine y_iload C 3 dX4_walk_26 rfl ?_
          refine y_bipush C (v := nI 8) dX4_walk_28 (by decide) ?_
          refine y_icmpN_ge C (tgt := 55) dX4_walk_30 (by decide) (by omega) (by omega) (fun h30 => ?_) (fun h30 => ?_)
          · skip
            rw [show i = 8 by omega] at hf1 hf2; subst hf1 hf2
            refine y_aload_n C 0 dX4_walk_55 rfl rfl ?_
            refine y_iconst C (v := (0 : Int32)) dX4_walk_56 (by decide) ?_
            refine y_put C in_X4_walk_4 tyX4 tyX4_ok nmX4 (ci := 4) rfl 16 (by decide) rfl (List.mem_of_getElem? (i := 4) rfl) 0 rfl rfl rfl (Nat.le_of_ble_eq_true rfl) (ws' := WM cI aM 0 E vs B sz cd M fr tt na nb ta tb dl (fillF co 8 0) (fillF he 8 0) ((0 : Int32)) la) rfl dX4_walk_57 ?_
            refine y_iconst C (v := (0 : Int32)) dX4_walk_60 (by decide) ?_
            refine y_istore C (lv' := [(4, .int ((0 : Int32))), (0, .ref (aM 0)), (1, .long ch), (3, .int (nI t))]) dX4_walk_61 (by decide) rfl ?_
            refine y_iconst C (v := nI 0) dX4_walk_63 (by decide) ?_
            refine y_istore C (lv' := [(5, .int (nI 0)), (4, .int ((0 : Int32))), (0, .ref (aM 0)), (1, .long ch), (3, .int (nI t))]) dX4_walk_64 (by decide) rfl ?_
            refine y_iconst C (v := nI 0) dX4_walk_66 (by decide) ?_
            refine y_istore C (lv' := [(6, .int (nI 0)), (5, .int (nI 0)), (4, .int ((0 : Int32))), (0, .ref (aM 0)), (1, .long ch), (3, .int (nI t))]) dX4_walk_67 (by decide) rfl ?_
            refine y_iconst C (v := nI 0) dX4_walk_69 (by decide) ?_
            refine y_istore C (lv' := [(7, .int (nI 0)), (6, .int (nI 0)), (5, .int (nI 0)), (4, .int ((0 : Int32))), (0, .ref (aM 0)), (1, .long ch), (3, .int (nI t))]) dX4_walk_70 (by decide) rfl ?_
            have lp72 : ∀ (n72 : Nat) (c1 : (Nat → Int32)) (c2 : (Nat → Int32)) (m1 : Int32) (la1 : Int32) (ho : Int32) (bt : Nat) (mn : Nat) (nx : Int32), (bt < 64) → (mn ≤ t) → ((nx = -1 ∨ ∃ b, b < 40 ∧ nx = nI b)) → (wkF E vs sz cd M fr tt ch (t - mn) (c1, c2, m1, la1, ho, bt, mn, nx) = (co2, he2, mi2, la2, ho2, bt2, mn2, nx2)) → (t - mn) < n72 → yW p l e (rmD 3 0 0) s m args below meth c 10 D A Q 0 0 (WM cI aM 0 E vs B sz cd M fr tt na nb ta tb dl c1 c2 m1 la1) 72 [(0, .ref (aM 0)), (1, .long ch), (3, .int (nI t)), (4, .int ho), (5, .int (nI bt)), (6, .int (nI mn)), (7, .int nx)] [] := by
              intro n72
              induction n72 with
              | zero => intro c1 c2 m1 la1 ho bt mn nx hbt hmn hnx hK hm; exact absurd hm (Nat.not_lt_zero _)
              | succ n72 ih72 =>
                intro c1 c2 m1 la1 ho bt mn nx hbt hmn hnx hK hm72
                refine y_iload C 6 dX4_walk_72 rfl ?_
                refine y_iconst C (v := (-1)) dX4_walk_74 (by decide) ?_
                refine y_icmp_eq C (tgt := 196) dX4_walk_75 (by decide)  (fun h75 => ?_) (fun h75 => ?_)
                · skip
                  rw [wk_stop h75] at hK
                  simp only [Prod.mk.injEq] at hK
                  obtain ⟨e1, e2, e3, e4, e5, e6, e7, e8⟩ := hK
                  refine y_iload C 5 dX4_walk_196 rfl ?_
                  refine y_ws (ws' := WM cI aM 0 E vs B sz cd M fr tt na nb ta tb dl co2 he2 mi2 la2) (by rw [e1, e2, e3, e4]) ?_
                  exact K _ _ _ _ _ dX4_walk_198 (by rw [e7]) (by decide) (by decide)
                · skip
                  refine y_iload C 5 dX4_walk_78 rfl ?_
                  refine y_iload_n C 2 dX4_walk_80 rfl rfl ?_
                  refine y_icmpN_ge C (tgt := 196) dX4_walk_81 (by decide) (by omega) (by omega) (fun h81 => ?_) (fun h81 => ?_)
                  · skip
                    rw [show t - mn = 0 by omega] at hK
                    simp only [wkF] at hK
                    simp only [Prod.mk.injEq] at hK
                    obtain ⟨e1, e2, e3, e4, e5, e6, e7, e8⟩ := hK
                    refine y_iload C 5 dX4_walk_196 rfl ?_
                    refine y_ws (ws' := WM cI aM 0 E vs B sz cd M fr tt na nb ta tb dl co2 he2 mi2 la2) (by rw [e1, e2, e3, e4]) ?_
                    exact K _ _ _ _ _ dX4_walk_198 (by rw [e7]) (by decide) (by decide)
                  · skip
                    obtain ⟨b, hb, rfl⟩ : ∃ b, b < 40 ∧ nx = nI b := hnx.resolve_left h75
                    refine y_aload_n C 0 dX4_walk_84 rfl rfl ?_
                    refine y_iload C 6 dX4_walk_85 rfl ?_
                    refine y_put C in_X4_walk_4 tyX4 tyX4_ok nmX4 (ci := 4) rfl 17 (by decide) rfl (List.mem_of_getElem? (i := 5) rfl) 0 rfl rfl rfl (Nat.le_of_ble_eq_true rfl) (ws' := WM cI aM 0 E vs B sz cd M fr tt na nb ta tb dl c1 c2 m1 (nI b)) rfl dX4_walk_87 ?_
                    refine y_iinc C (k := 5) (lv' := [(6, .int (nI (mn + 1))), (0, .ref (aM 0)), (1, .long ch), (3, .int (nI t)), (4, .int ho), (5, .int (nI bt)), (7, .int (nI b))]) dX4_walk_90 rfl (yn_inc rfl) (by decide) rfl ?_
                    refine y_iconst C (v := nI 0) dX4_walk_93 (by decide) ?_
                    refine y_istore C (lv' := [(8, .int (nI 0)), (6, .int (nI (mn + 1))), (0, .ref (aM 0)), (1, .long ch), (3, .int (nI t)), (4, .int ho), (5, .int (nI bt)), (7, .int (nI b))]) dX4_walk_94 (by decide) rfl ?_
                    have lp96 : ∀ (n96 : Nat) (k : Nat) (h2 : Int32) (d1 : (Nat → Int32)) (d2 : (Nat → Int32)) (m2 : Int32), (k ≤ sz b) → ((d1, d2, m2, h2) = gbF E vs cd (c1, c2, m1, ho) b k) → (sz b - k) < n96 → yW p l e (rmD 3 0 0) s m args below meth c 10 D A Q 0 0 (WM cI aM 0 E vs B sz cd M fr tt na nb ta tb dl d1 d2 m2 (nI b)) 96 [(0, .ref (aM 0)), (1, .long ch), (3, .int (nI t)), (4, .int h2), (5, .int (nI bt)), (6, .int (nI (mn + 1))), (8, .int (nI k))] [] := by
                      intro n96
                      induction n96 with
                      | zero => intro k h2 d1 d2 m2 hk hG hm; exact absurd hm (Nat.not_lt_zero _)
                      | succ n96 ih96 =>
                        intro k h2 d1 d2 m2 hk hG hm96
                        have hzb := hsz b
                        refine y_iload C 6 dX4_walk_96 rfl ?_
                        refine y_aload_n C 0 dX4_walk_98 rfl rfl ?_
                        refine y_get C in_X4_walk_4 (ci := 4) rfl 4 (by decide) (List.mem_of_getElem? (i := 6) rfl) 0 rfl rfl dX4_walk_99 ?_
                        refine y_aload_n C 0 dX4_walk_102 rfl rfl ?_
                        refine y_get C in_X4_walk_4 (ci := 4) rfl 17 (by decide) (List.mem_of_getElem? (i := 5) rfl) 0 rfl rfl dX4_walk_103 ?_
                        refine y_ialdA C (q0 := 2) (t0 := 0) rfl rfl (by decide) (by omega) dX4_walk_106 ?_
                        refine y_icmpN_ge C (tgt := 134) dX4_walk_107 (by decide) (by omega) (by have := hsz b; omega) (fun h107 => ?_) (fun h107 => ?_)
                        · skip
                          rw [show k = sz b by omega] at hG
                          refine y_aload_n C 0 dX4_walk_134 rfl rfl ?_
                          refine y_aload_n C 0 dX4_walk_135 rfl rfl ?_
                          refine y_get C in_X4_walk_4 (ci := 4) rfl 17 (by decide) (List.mem_of_getElem? (i := 5) rfl) 0 rfl rfl dX4_walk_136 ?_
                          refine y_iconst C (v := nI 0) dX4_walk_139 (by decide) ?_
                          refine y_callI C (wr := []) 2 (c_X4_exit l D cI aM 0 E vs B sz cd M fr tt na nb ta tb dl d1 d2 m2 (nI b) b 0 hM hfr htt (by omega) (by omega)) gX4_walk_X4_exit rfl rfl rfl (by decide +kernel) ⟨Nat.le_of_ble_eq_true rfl, Nat.le_of_ble_eq_true rfl⟩ (q0 := 0) (ci := 4) rfl rfl rfl rfl rfl (Nat.le_of_ble_eq_true rfl) dX4_walk_140 ⟨Nat.le_of_ble_eq_true rfl, Nat.le_of_ble_eq_true rfl⟩ ?_
                          refine y_ws (ws' := WM cI aM 0 E vs B sz cd M fr tt na nb ta tb dl d1 d2 m2 (nI b)) rfl ?_
                          refine y_istore C (lv' := [(8, .int (xtF fr tt b M 0 0)), (0, .ref (aM 0)), (1, .long ch), (3, .int (nI t)), (4, .int h2), (5, .int (nI bt)), (6, .int (nI (mn + 1)))]) dX4_walk_143 (by decide) rfl ?_
                          refine y_aload_n C 1 dX4_walk_145 rfl rfl ?_
                          refine y_aload_n C 1 dX4_walk_146 rfl rfl ?_
                          refine y_get C in_X4_walk_4 (ci := 4) rfl 17 (by decide) (List.mem_of_getElem? (i := 5) rfl) 0 rfl rfl dX4_walk_147 ?_
                          refine y_iconst C (v := nI 1) dX4_walk_150 (by decide) ?_
                          refine y_callI C (wr := []) 2 (c_X4_exit l D cI aM 0 E vs B sz cd M fr tt na nb ta tb dl d1 d2 m2 (nI b) b 1 hM hfr htt (by omega) (by omega)) gX4_walk_X4_exit rfl rfl rfl (by decide +kernel) ⟨Nat.le_of_ble_eq_true rfl, Nat.le_of_ble_eq_true rfl⟩ (q0 := 0) (ci := 4) rfl rfl rfl rfl rfl (Nat.le_of_ble_eq_true rfl) dX4_walk_151 ⟨Nat.le_of_ble_eq_true rfl, Nat.le_of_ble_eq_true rfl⟩ ?_
                          refine y_ws (ws' := WM cI aM 0 E vs B sz cd M fr tt na nb ta tb dl d1 d2 m2 (nI b)) rfl ?_
                          refine y_istore C (lv' := [(9, .int (xtF fr tt b M 0 1)), (8, .int (xtF fr tt b M 0 0)), (0, .ref (aM 0)), (1, .long ch), (3, .int (nI t)), (4, .int h2), (5, .int (nI bt)), (6, .int (nI (mn + 1)))]) dX4_walk_154 (by decide) rfl ?_
                          refine y_iload C 1 dX4_walk_156 rfl ?_
                          refine y_istore C (lv' := [(7, .int (xtF fr tt b M 0 0)), (9, .int (xtF fr tt b M 0 1)), (8, .int (xtF fr tt b M 0 0)), (0, .ref (aM 0)), (1, .long ch), (3, .int (nI t)), (4, .int h2), (5, .int (nI bt)), (6, .int (nI (mn + 1)))]) dX4_walk_158 (by decide) rfl ?_
                          refine y_iload C 1 dX4_walk_160 rfl ?_
                          refine y_iconst C (v := (-1)) dX4_walk_162 (by decide) ?_
                          refine y_icmp_ne C (tgt := 169) dX4_walk_163 (by decide)  (fun h163 => ?_) (fun h163 => ?_)
                          · skip
                            refine y_lload_n C 4 dX4_walk_169 rfl rfl ?_
                            refine y_iload C 7 dX4_walk_170 rfl ?_
                            refine y_lshr C dX4_walk_172 rfl ?_
                            refine y_lconst C (v := 1) dX4_walk_173 (by decide) ?_
                            refine y_land C dX4_walk_174 ?_
                            refine y_lconst C (v := 1) dX4_walk_175 (by decide) ?_
                            refine y_lcmp C dX4_walk_176 ?_
                            refine y_if_ne C (tgt := 184) dX4_walk_177 (by decide)  (fun h177 => ?_) (fun h177 => ?_)
                            · skip
                              refine y_iload C 7 dX4_walk_184 rfl ?_
                              refine y_iconst C (v := nI 1) dX4_walk_186 (by decide) ?_
                              refine y_iaddN C dX4_walk_187 ?_
                              refine y_bipush C (v := nI 64) dX4_walk_188 (by decide) ?_
                              refine y_iremN C dX4_walk_190 (by omega) (by decide) (by decide) ?_
                              refine y_istore C (lv' := [(5, .int (nI ((bt + 1) % 64))), (7, .int (xtF fr tt b M 0 0)), (9, .int (xtF fr tt b M 0 1)), (8, .int (xtF fr tt b M 0 0)), (0, .ref (aM 0)), (1, .long ch), (3, .int (nI t)), (4, .int h2), (6, .int (nI (mn + 1)))]) dX4_walk_191 (by decide) rfl ?_
                              refine y_goto C (tgt := 72) dX4_walk_193 (by decide) ?_
                              refine y_sub [4, 5, 6, 7, 0, 8, 1] (lv' := [(0, .ref (aM 0)), (1, .long ch), (3, .int (nI t)), (4, .int h2), (5, .int (nI ((bt + 1) % 64))), (6, .int (nI (mn + 1))), (7, .int (xtF fr tt b M 0 0))]) rfl ?_
                              exact ih72 _ _ _ _ _ _ _ _ (by omega) (by omega) (xt_ok htt _ _ _ _) (by rw [← hK, show t - mn = (t - (mn + 1)) + 1 by omega, wk_go hb]; simp only [wsF, ← hG]; rw [if_neg h163, if_neg (fun q => h177 (yl_c.mpr q))]) (by omega)
                            · skip
                              refine y_iload C 1 dX4_walk_180 rfl ?_
                              refine y_istore C (lv' := [(7, .int (xtF fr tt b M 0 1)), (9, .int (xtF fr tt b M 0 1)), (8, .int (xtF fr tt b M 0 0)), (0, .ref (aM 0)), (1, .long ch), (3, .int (nI t)), (4, .int h2), (5, .int (nI bt)), (6, .int (nI (mn + 1)))]) dX4_walk_182 (by decide) rfl ?_
                              refine y_iload C 7 dX4_walk_184 rfl ?_
                              refine y_iconst C (v := nI 1) dX4_walk_186 (by decide) ?_
                              refine y_iaddN C dX4_walk_187 ?_
                              refine y_bipush C (v := nI 64) dX4_walk_188 (by decide) ?_
                              refine y_iremN C dX4_walk_190 (by omega) (by decide) (by decide) ?_
                              refine y_istore C (lv' := [(5, .int (nI ((bt + 1) % 64))), (7, .int (xtF fr tt b M 0 1)), (9, .int (xtF fr tt b M 0 1)), (8, .int (xtF fr tt b M 0 0)), (0, .ref (aM 0)), (1, .long ch), (3, .int (nI t)), (4, .int h2), (6, .int (nI (mn + 1)))]) dX4_walk_191 (by decide) rfl ?_
                              refine y_goto C (tgt := 72) dX4_walk_193 (by decide) ?_
                              refine y_sub [4, 5, 6, 7, 0, 8, 1] (lv' := [(0, .ref (aM 0)), (1, .long ch), (3, .int (nI t)), (4, .int h2), (5, .int (nI ((bt + 1) % 64))), (6, .int (nI (mn + 1))), (7, .int (xtF fr tt b M 0 1))]) rfl ?_
                              exact ih72 _ _ _ _ _ _ _ _ (by omega) (by omega) (xt_ok htt _ _ _ _) (by rw [← hK, show t - mn = (t - (mn + 1)) + 1 by omega, wk_go hb]; simp only [wsF, ← hG]; rw [if_neg h163, if_pos (yl_c.mp h177)]) (by omega)
                          · skip
                            refine y_goto C (tgt := 72) dX4_walk_166 (by decide) ?_
                            refine y_sub [3, 4, 5, 6, 7, 8, 0] (lv' := [(0, .ref (aM 0)), (1, .long ch), (3, .int (nI t)), (4, .int h2), (5, .int (nI bt)), (6, .int (nI (mn + 1))), (7, .int (xtF fr tt b M 0 0))]) rfl ?_
                            exact ih72 _ _ _ _ _ _ _ _ (by omega) (by omega) (xt_ok htt _ _ _ _) (by rw [← hK, show t - mn = (t - (mn + 1)) + 1 by omega, wk_go hb]; simp only [wsF, ← hG]; rw [if_pos h163]) (by omega)
                        · skip
                          refine y_aload_n C 0 dX4_walk_110 rfl rfl ?_
                          refine y_aload_n C 0 dX4_walk_111 rfl rfl ?_
                          refine y_aload_n C 0 dX4_walk_112 rfl rfl ?_
                          refine y_get C in_X4_walk_4 (ci := 4) rfl 17 (by decide) (List.mem_of_getElem? (i := 5) rfl) 0 rfl rfl dX4_walk_113 ?_
                          refine y_iload C 6 dX4_walk_116 rfl ?_
                          refine y_callI C (wr := []) 2 (c_X4_at l D cI aM 0 E vs B sz cd M fr tt na nb ta tb dl d1 d2 m2 (nI b) b k hcd (by omega) (by omega)) gX4_walk_X4_at rfl rfl rfl (by decide +kernel) ⟨Nat.le_of_ble_eq_true rfl, Nat.le_of_ble_eq_true rfl⟩ (q0 := 0) (ci := 4) rfl rfl rfl rfl rfl (Nat.le_of_ble_eq_true rfl) dX4_walk_118 ⟨Nat.le_of_ble_eq_true rfl, Nat.le_of_ble_eq_true rfl⟩ ?_
                          refine y_ws (ws' := WM cI aM 0 E vs B sz cd M fr tt na nb ta tb dl d1 d2 m2 (nI b)) rfl ?_
                          refine y_iload C 3 dX4_walk_121 rfl ?_
                          refine y_callI C (wr := []) 2 (c_X4_go l D cI aM 0 E vs B sz cd M fr tt na nb ta tb dl d1 d2 m2 (nI b) (cd (12 * b + k)) h2 hE (by have := hcd (12 * b + k); omega)) gX4_walk_X4_go rfl rfl rfl (by decide +kernel) ⟨Nat.le_of_ble_eq_true rfl, Nat.le_of_ble_eq_true rfl⟩ (q0 := 0) (ci := 4) rfl rfl rfl rfl rfl (Nat.le_of_ble_eq_true rfl) dX4_walk_123 ⟨Nat.le_of_ble_eq_true rfl, Nat.le_of_ble_eq_true rfl⟩ ?_
                          refine y_ws (ws' := WM cI aM 0 E vs B sz cd M fr tt na nb ta tb dl (coF d1 (cd (12 * b + k))) (hlF d2 h2 E) (miF m2 h2 (cd (12 * b + k))) (nI b)) rfl ?_
                          refine y_istore C (lv' := [(4, .int (hoF E vs h2 (cd (12 * b + k)))), (0, .ref (aM 0)), (1, .long ch), (3, .int (nI t)), (5, .int (nI bt)), (6, .int (nI (mn + 1))), (8, .int (nI k))]) dX4_walk_126 (by decide) rfl ?_
                          refine y_iinc C (k := 6) (lv' := [(8, .int (nI (k + 1))), (4, .int (hoF E vs h2 (cd (12 * b + k)))), (0, .ref (aM 0)), (1, .long ch), (3, .int (nI t)), (5, .int (nI bt)), (6, .int (nI (mn + 1)))]) dX4_walk_128 rfl (yn_inc rfl) (by decide) rfl ?_
                          refine y_goto C (tgt := 96) dX4_walk_131 (by decide) ?_
                          refine y_sub [2, 3, 4, 1, 5, 6, 0] (lv' := [(0, .ref (aM 0)), (1, .long ch), (3, .int (nI t)), (4, .int (hoF E vs h2 (cd (12 * b + k)))), (5, .int (nI bt)), (6, .int (nI (mn + 1))), (8, .int (nI (k + 1)))]) rfl ?_
                          exact ih96 _ _ _ _ _ (by omega) (by simp only [gbF, ← hG]) (by omega)
                    refine y_sub [2, 3, 4, 5, 6, 1, 0] (lv' := [(0, .ref (aM 0)), (1, .long ch), (3, .int (nI t)), (4, .int ho), (5, .int (nI bt)), (6, .int (nI (mn + 1))), (8, .int (nI 0))]) rfl ?_
                    exact lp96 _ _ _ _ _ _ (Nat.zero_le _) rfl (Nat.lt_succ_self _)
            refine y_sub [4, 5, 6, 3, 2, 1, 0] (lv' := [(0, .ref (aM 0)), (1, .long ch), (3, .int (nI t)), (4, .int ((0 : Int32))), (5, .int (nI 0)), (6, .int (nI 0)), (7, .int (nI 0))]) rfl ?_
            exact lp72 _ _ _ _ _ _ _ _ _ (by decide) (Nat.zero_le _) (Or.inr ⟨0, by decide, rfl⟩) hW (Nat.lt_succ_self _)
          · skip
            refine y_aload_n C 0 dX4_walk_33 rfl rfl ?_
            refine y_get C in_X4_walk_4 (ci := 4) rfl 14 (by decide) (List.mem_of_getElem? (i := 2) rfl) 0 rfl rfl dX4_walk_34 ?_
            refine y_iload C 3 dX4_walk_37 rfl ?_
            refine y_iconst C (v := (0 : Int32)) dX4_walk_39 (by decide) ?_
            refine y_iast C (q0 := 11) (t0 := 0) rfl rfl (by decide) (by omega) (ws' := WM cI aM 0 E vs B sz cd M fr tt na nb ta tb dl (upd f1 i ((0 : Int32))) f2 mi la) rfl dX4_walk_40 ?_
            refine y_aload_n C 0 dX4_walk_41 rfl rfl ?_
            refine y_get C in_X4_walk_4 (ci := 4) rfl 15 (by decide) (List.mem_of_getElem? (i := 3) rfl) 0 rfl rfl dX4_walk_42 ?_
            refine y_iload C 3 dX4_walk_45 rfl ?_
            refine y_iconst C (v := (0 : Int32)) dX4_walk_47 (by decide) ?_
            refine y_iast C (q0 := 12) (t0 := 0) rfl rfl (by decide) (by omega) (ws' := WM cI aM 0 E vs B sz cd M fr tt na nb ta tb dl (upd f1 i ((0 : Int32))) (upd f2 i ((0 : Int32))) mi la) rfl dX4_walk_48 ?_
            refine y_iinc C (k := 3) (lv' := [(4, .int (nI (i + 1))), (0, .ref (aM 0)), (1, .long ch), (3, .int (nI t))]) dX4_walk_49 rfl (yn_inc rfl) (by decide) rfl ?_
            refine y_goto C (tgt := 26) dX4_walk_52 (by decide) ?_
            refine y_sub [1, 2, 3, 0] (lv' := [(0, .ref (aM 0)), (1, .long ch), (3, .int (nI t)), (4, .int (nI (i + 1)))]) rfl ?_
            exact ih26 _ _ _ (by omega) (by rw [hf1, fill_s]) (by rw [hf2, fill_s]) (by omega)
      refine y_sub [1, 2, 3, 0] (lv' := [(0, .ref (aM 0)), (1, .long ch), (3, .int (nI t)), (4, .int (nI 0))]) rfl ?_
      exact lp26 _ _ _ _ (Nat.zero_le _) ((fill_0 _ _).symm) ((fill_0 _ _).symm) (Nat.lt_succ_self _)
    · skip
      exact absurd h14 (by omega)
