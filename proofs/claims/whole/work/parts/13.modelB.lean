theorem in_X4_findThere_4 : ∀ w ∈ wsX40, w ∈ wsX4_findThere := fun _ h => List.mem_cons_of_mem _ (List.mem_append_right _ h)
set_option maxHeartbeats 4000000 in
set_option maxRecDepth 100000 in
theorem c_X4_findThere (l : Launch) (D : va_G) (cI : ClassId) (aM : Nat → Nat) (th E : Nat) (vs : Nat → Int32) (B : Nat) (sz cd : Nat → Nat) (M : Nat) (fr tt : Nat → Nat) (na nb ta tb dl co he : Nat → Int32) (mi la : Int32) (b : Nat) (hE : E ≤ 8) (hM : M ≤ 80) (hsz : ∀ j, sz j ≤ 12) (hcd : ∀ j, cd j < 24) (hfr : ∀ j, fr j < 40) (htt : ∀ j, tt j < 40) (hb : b < 40) : ctI l yX4_findThere wsX4_findThere (rmD 2 0 0) D [(cI, .int)] [.ref (aM 0), .int (nI b)] (WM cI aM th E vs B sz cd M fr tt na nb ta tb dl co he mi la) (WM cI aM th E vs B sz cd M fr tt na nb (upd ta b (taN E M fr tt tb b)) (upd tb b (tbN E vs sz cd M fr tt tb b)) dl co he mi la) (nI (chF (tbN E vs sz cd M fr tt tb b) (tb b))) 0 0 := by
  refine ctZ_of (by decide) rfl (Nat.le_of_ble_eq_true rfl) ?_
  intro p e s m args below meth c A Q C hnm K
  refine y_lv (lv' := [(0, .ref (aM 0)), (1, .int (nI b))]) rfl ?_
  refine y_aload_n C 0 dX4_findThere_0 rfl rfl ?_
  refine y_callI C (wr := []) 0 (c_X4_all l D cI aM th E vs B sz cd M fr tt na nb ta tb dl co he mi la) gX4_findThere_X4_all rfl rfl rfl (by decide +kernel) ⟨Nat.le_of_ble_eq_true rfl, Nat.le_of_ble_eq_true rfl⟩ (q0 := 0) (ci := 4) rfl rfl rfl rfl rfl (Nat.le_of_ble_eq_true rfl) dX4_findThere_1 ⟨Nat.le_of_ble_eq_true rfl, Nat.le_of_ble_eq_true rfl⟩ ?_
  refine y_ws (ws' := WM cI aM th E vs B sz cd M fr tt na nb ta tb dl co he mi la) rfl ?_
  refine y_istore_n C (lv' := [(2, .int (allF E)), (0, .ref (aM 0)), (1, .int (nI b))]) dX4_findThere_4 rfl (by decide) rfl ?_
  refine y_iconst C (v := nI 0) dX4_findThere_5 (by decide) ?_
  refine y_istore_n C (lv' := [(3, .int (nI 0)), (2, .int (allF E)), (0, .ref (aM 0)), (1, .int (nI b))]) dX4_findThere_6 rfl (by decide) rfl ?_
  refine y_iconst C (v := nI 0) dX4_findThere_7 (by decide) ?_
  refine y_istore C (lv' := [(4, .int (nI 0)), (3, .int (nI 0)), (2, .int (allF E)), (0, .ref (aM 0)), (1, .int (nI b))]) dX4_findThere_8 (by decide) rfl ?_
  have lp10 : ∀ (n10 : Nat) (i : Nat) (x : Int32) (g : Nat), (i ≤ M) → (x = stF E fr tt tb b i) → (g = hwF tt b i) → (M - i) < n10 → yW p l e (rmD 2 0 0) s m args below meth c 5 D A Q 0 0 (WM cI aM th E vs B sz cd M fr tt na nb ta tb dl co he mi la) 10 [(0, .ref (aM 0)), (1, .int (nI b)), (2, .int x), (3, .int (nI g)), (4, .int (nI i))] [] := by
    intro n10
    induction n10 with
    | zero => intro i x g hi hx hg hm; exact absurd hm (Nat.not_lt_zero _)
    | succ n10 ih10 =>
      intro i x g hi hx hg hm10
      have hgl : g ≤ 1 := by rw [hg]; exact hwF_le _ _ _
      refine y_iload C 4 dX4_findThere_10 rfl ?_
      refine y_aload_n C 0 dX4_findThere_12 rfl rfl ?_
      refine y_get C in_X4_findThere_4 (ci := 4) rfl 6 (by decide) (List.mem_of_getElem? (i := 1) rfl) 0 rfl rfl dX4_findThere_13 ?_
      refine y_icmpN_ge C (tgt := 56) dX4_findThere_16 (by decide) (by omega) (by omega) (fun h16 => ?_) (fun h16 => ?_)
      · skip
        have hq_i : i = M := by omega
        rw [hq_i] at hx; subst hx
        rw [hq_i] at hg; subst hg
        refine y_aload_n C 0 dX4_findThere_56 rfl rfl ?_
        refine y_get C in_X4_findThere_4 (ci := 4) rfl 11 (by decide) (List.mem_of_getElem? (i := 5) rfl) 0 rfl rfl dX4_findThere_57 ?_
        refine y_iload_n C 1 dX4_findThere_60 rfl rfl ?_
        refine y_iload_n C 3 dX4_findThere_61 rfl rfl ?_
        have jn70 : ∀ (y : Int32), (y = taN E M fr tt tb b) → yW p l e (rmD 2 0 0) s m args below meth c 5 D A Q 0 0 (WM cI aM th E vs B sz cd M fr tt na nb ta tb dl co he mi la) 70 [(0, .ref (aM 0)), (1, .int (nI b))] [.int y, .int (nI b), .ref (aM 8)] := by
          intro y hy
          refine y_iast C (q0 := 8) (t0 := 0) rfl rfl (by decide) (by omega) (ws' := WM cI aM th E vs B sz cd M fr tt na nb (upd ta b y) tb dl co he mi la) rfl dX4_findThere_70 ?_
          subst hy
          refine y_aload_n C 0 dX4_findThere_71 rfl rfl ?_
          refine y_get C in_X4_findThere_4 (ci := 4) rfl 12 (by decide) (List.mem_of_getElem? (i := 3) rfl) 0 rfl rfl dX4_findThere_72 ?_
          refine y_iload_n C 1 dX4_findThere_75 rfl rfl ?_
          refine y_iald C (q0 := 9) (t0 := 0) rfl rfl (by decide) (by omega) dX4_findThere_76 ?_
          refine y_istore C (lv' := [(4, .int (tb b)), (0, .ref (aM 0)), (1, .int (nI b))]) dX4_findThere_77 (by decide) rfl ?_
          refine y_aload_n C 1 dX4_findThere_79 rfl rfl ?_
          refine y_get C in_X4_findThere_4 (ci := 4) rfl 12 (by decide) (List.mem_of_getElem? (i := 3) rfl) 0 rfl rfl dX4_findThere_80 ?_
          refine y_iload_n C 2 dX4_findThere_83 rfl rfl ?_
          refine y_aload_n C 1 dX4_findThere_84 rfl rfl ?_
          refine y_iload_n C 2 dX4_findThere_85 rfl rfl ?_
          refine y_callI C (wr := []) 1 (c_X4_lateIn l D cI aM th E vs B sz cd M fr tt na nb (upd ta b (taN E M fr tt tb b)) tb dl co he mi la b hE hsz hcd hb) gX4_findThere_X4_lateIn rfl rfl rfl (by decide +kernel) ⟨Nat.le_of_ble_eq_true rfl, Nat.le_of_ble_eq_true rfl⟩ (q0 := 0) (ci := 4) rfl rfl rfl rfl rfl (Nat.le_of_ble_eq_true rfl) dX4_findThere_86 ⟨Nat.le_of_ble_eq_true rfl, Nat.le_of_ble_eq_true rfl⟩ ?_
          refine y_ws (ws' := WM cI aM th E vs B sz cd M fr tt na nb (upd ta b (taN E M fr tt tb b)) tb dl co he mi la) rfl ?_
          refine y_aload_n C 1 dX4_findThere_89 rfl rfl ?_
          refine y_iload_n C 2 dX4_findThere_90 rfl rfl ?_
          refine y_callI C (wr := []) 1 (c_X4_keptBy l D cI aM th E vs B sz cd M fr tt na nb (upd ta b (taN E M fr tt tb b)) tb dl co he mi la b hE hsz hcd hb) gX4_findThere_X4_keptBy rfl rfl rfl (by decide +kernel) ⟨Nat.le_of_ble_eq_true rfl, Nat.le_of_ble_eq_true rfl⟩ (q0 := 0) (ci := 4) rfl rfl rfl rfl rfl (Nat.le_of_ble_eq_true rfl) dX4_findThere_91 ⟨Nat.le_of_ble_eq_true rfl, Nat.le_of_ble_eq_true rfl⟩ ?_
          refine y_ws (ws' := WM cI aM th E vs B sz cd M fr tt na nb (upd ta b (taN E M fr tt tb b)) tb dl co he mi la) rfl ?_
          refine y_aload_n C 1 dX4_findThere_94 rfl rfl ?_
          refine y_get C in_X4_findThere_4 (ci := 4) rfl 11 (by decide) (List.mem_of_getElem? (i := 5) rfl) 0 rfl rfl dX4_findThere_95 ?_
          refine y_iload_n C 2 dX4_findThere_98 rfl rfl ?_
          refine y_iald C (q0 := 8) (t0 := 0) rfl rfl (by decide) (by omega) dX4_findThere_99 ?_
          refine y_topE pk_us ?_
          refine y_iand C dX4_findThere_100 ?_
          refine y_ior C dX4_findThere_101 ?_
          refine y_iast C (q0 := 9) (t0 := 0) rfl rfl (by decide) (by omega) (ws' := WM cI aM th E vs B sz cd M fr tt na nb (upd ta b (taN E M fr tt tb b)) (upd tb b ((laF E vs cd b (sz b)) ||| ((kpF E vs cd b (sz b)) &&& (taN E M fr tt tb b)))) dl co he mi la) rfl dX4_findThere_102 ?_
          refine y_aload_n C 1 dX4_findThere_103 rfl rfl ?_
          refine y_get C in_X4_findThere_4 (ci := 4) rfl 12 (by decide) (List.mem_of_getElem? (i := 3) rfl) 0 rfl rfl dX4_findThere_104 ?_
          refine y_iload_n C 2 dX4_findThere_107 rfl rfl ?_
          refine y_iald C (q0 := 9) (t0 := 0) rfl rfl (by decide) (by omega) dX4_findThere_108 ?_
          refine y_topE pk_us ?_
          refine y_iload C 0 dX4_findThere_109 rfl ?_
          refine y_icmp_eq C (tgt := 118) dX4_findThere_111 (by decide)  (fun h111 => ?_) (fun h111 => ?_)
          · skip
            refine y_iconst C (v := nI 0) dX4_findThere_118 (by decide) ?_
            exact K _ _ _ _ _ dX4_findThere_119 (by simp [chF, tbN, h111]) (rfl) (by decide) (by decide)
          · skip
            refine y_iconst C (v := nI 1) dX4_findThere_114 (by decide) ?_
            refine y_goto C (tgt := 119) dX4_findThere_115 (by decide) ?_
            exact K _ _ _ _ _ dX4_findThere_119 (by simp [chF, tbN, h111]) (rfl) (by decide) (by decide)
        refine y_ifN_eq C (tgt := 69) dX4_findThere_62 (by decide) (by have := hwF_le tt b M; omega) (fun h62 => ?_) (fun h62 => ?_)
        · skip
          refine y_iconst C (v := (0 : Int32)) dX4_findThere_69 (by decide) ?_
          refine y_sub [0, 1] (lv' := [(0, .ref (aM 0)), (1, .int (nI b))]) rfl ?_
          exact jn70 _ (by simp [taN, h62])
        · skip
          refine y_iload_n C 2 dX4_findThere_65 rfl rfl ?_
          refine y_goto C (tgt := 70) dX4_findThere_66 (by decide) ?_
          refine y_sub [0, 1] (lv' := [(0, .ref (aM 0)), (1, .int (nI b))]) rfl ?_
          exact jn70 _ (by simp [taN, h62])
      · skip
        refine y_aload_n C 0 dX4_findThere_19 rfl rfl ?_
        refine y_get C in_X4_findThere_4 (ci := 4) rfl 8 (by decide) (List.mem_of_getElem? (i := 2) rfl) 0 rfl rfl dX4_findThere_20 ?_
        refine y_iload C 4 dX4_findThere_23 rfl ?_
        refine y_ialdA C (q0 := 5) (t0 := 0) rfl rfl (by decide) (by omega) dX4_findThere_25 ?_
        refine y_iload_n C 1 dX4_findThere_26 rfl rfl ?_
        refine y_icmpN_eq C (tgt := 33) dX4_findThere_27 (by decide) (by have := htt i; omega) (by omega) (fun h27 => ?_) (fun h27 => ?_)
        · skip
          refine y_iconst C (v := nI 1) dX4_findThere_33 (by decide) ?_
          refine y_istore_n C (lv' := [(3, .int (nI 1)), (0, .ref (aM 0)), (1, .int (nI b)), (2, .int x), (4, .int (nI i))]) dX4_findThere_34 rfl (by decide) rfl ?_
          refine y_iload_n C 3 dX4_findThere_35 rfl rfl ?_
          refine y_aload_n C 1 dX4_findThere_36 rfl rfl ?_
          refine y_get C in_X4_findThere_4 (ci := 4) rfl 12 (by decide) (List.mem_of_getElem? (i := 3) rfl) 0 rfl rfl dX4_findThere_37 ?_
          refine y_aload_n C 1 dX4_findThere_40 rfl rfl ?_
          refine y_get C in_X4_findThere_4 (ci := 4) rfl 7 (by decide) (List.mem_of_getElem? (i := 4) rfl) 0 rfl rfl dX4_findThere_41 ?_
          refine y_iload C 4 dX4_findThere_44 rfl ?_
          refine y_ialdA C (q0 := 4) (t0 := 0) rfl rfl (by decide) (by omega) dX4_findThere_46 ?_
          refine y_iald C (q0 := 9) (t0 := 0) rfl rfl (by decide) (by have := hfr i; omega) dX4_findThere_47 ?_
          refine y_iand C dX4_findThere_48 ?_
          refine y_istore_n C (lv' := [(2, .int (x &&& (tb (fr i)))), (3, .int (nI 1)), (0, .ref (aM 0)), (1, .int (nI b)), (4, .int (nI i))]) dX4_findThere_49 rfl (by decide) rfl ?_
          refine y_iinc C (k := 4) (lv' := [(4, .int (nI (i + 1))), (2, .int (x &&& (tb (fr i)))), (3, .int (nI 1)), (0, .ref (aM 0)), (1, .int (nI b))]) dX4_findThere_50 rfl (yn_inc rfl) (by decide) rfl ?_
          refine y_goto C (tgt := 10) dX4_findThere_53 (by decide) ?_
          refine y_sub [3, 4, 1, 2, 0] (lv' := [(0, .ref (aM 0)), (1, .int (nI b)), (2, .int (x &&& (tb (fr i)))), (3, .int (nI 1)), (4, .int (nI (i + 1)))]) rfl ?_
          exact ih10 _ _ _ (by omega) (by simp [stF, hx, h27]) (by simp [hwF, hg, h27]) (by omega)
        · skip
          refine y_goto C (tgt := 50) dX4_findThere_30 (by decide) ?_
          refine y_iinc C (k := 4) (lv' := [(4, .int (nI (i + 1))), (0, .ref (aM 0)), (1, .int (nI b)), (2, .int x), (3, .int (nI g))]) dX4_findThere_50 rfl (yn_inc rfl) (by decide) rfl ?_
          refine y_goto C (tgt := 10) dX4_findThere_53 (by decide) ?_
          refine y_sub [1, 2, 3, 4, 0] (lv' := [(0, .ref (aM 0)), (1, .int (nI b)), (2, .int x), (3, .int (nI g)), (4, .int (nI (i + 1)))]) rfl ?_
          exact ih10 _ _ _ (by omega) (by simp [stF, hx, h27]) (by simp [hwF, hg, h27]) (by omega)
  refine y_sub [3, 4, 2, 1, 0] (lv' := [(0, .ref (aM 0)), (1, .int (nI b)), (2, .int (allF E)), (3, .int (nI 0)), (4, .int (nI 0))]) rfl ?_
  exact lp10 _ _ _ _ (Nat.zero_le _) rfl rfl (Nat.lt_succ_self _)
theorem in_X4_earliestFor_4 : ∀ w ∈ wsX40, w ∈ wsX4_earliestFor := fun _ h => List.mem_cons_of_mem _ (List.mem_append_right _ h)
set_option maxHeartbeats 4000000 in
set_option maxRecDepth 100000 in
theorem c_X4_earliestFor (l : Launch) (D : va_G) (cI : ClassId) (aM : Nat → Nat) (th E : Nat) (vs : Nat → Int32) (B : Nat) (sz cd : Nat → Nat) (M : Nat) (fr tt : Nat → Nat) (na nb ta tb dl co he : Nat → Int32) (mi la : Int32) (j : Nat) (hE : E ≤ 8) (hsz : ∀ j, sz j ≤ 12) (hcd : ∀ j, cd j < 24) (hfr : ∀ j, fr j < 40) (htt : ∀ j, tt j < 40) (hj : j < 80) : ctI l yX4_earliestFor wsX4_earliestFor (rmD 2 0 0) D [(cI, .int)] [.ref (aM 0), .int (nI j)] (WM cI aM th E vs B sz cd M fr tt na nb ta tb dl co he mi la) (WM cI aM th E vs B sz cd M fr tt na nb ta tb dl co he mi la) (erF E vs sz cd fr tt na nb tb j) 0 0 := by
  refine ctI_of (by decide) rfl (Nat.le_of_ble_eq_true rfl) ?_
  intro p e s m args below meth c A Q C hnm K
  refine y_lv (lv' := [(0, .ref (aM 0)), (1, .int (nI j))]) rfl ?_
  refine y_aload_n C 0 dX4_earliestFor_0 rfl rfl ?_
  refine y_get C in_X4_earliestFor_4 (ci := 4) rfl 9 (by decide) (List.mem_of_getElem? (i := 1) rfl) 0 rfl rfl dX4_earliestFor_1 ?_
  refine y_aload_n C 0 dX4_earliestFor_4 rfl rfl ?_
  refine y_get C in_X4_earliestFor_4 (ci := 4) rfl 8 (by decide) (List.mem_of_getElem? (i := 2) rfl) 0 rfl rfl dX4_earliestFor_5 ?_
  refine y_iload_n C 1 dX4_earliestFor_8 rfl rfl ?_
  refine y_ialdA C (q0 := 5) (t0 := 0) rfl rfl (by decide) (by omega) dX4_earliestFor_9 ?_
  refine y_iald C (q0 := 6) (t0 := 0) rfl rfl (by decide) (by have := htt j; omega) dX4_earliestFor_10 ?_
  refine y_aload_n C 0 dX4_earliestFor_11 rfl rfl ?_
  refine y_get C in_X4_earliestFor_4 (ci := 4) rfl 12 (by decide) (List.mem_of_getElem? (i := 3) rfl) 0 rfl rfl dX4_earliestFor_12 ?_
  refine y_aload_n C 0 dX4_earliestFor_15 rfl rfl ?_
  refine y_get C in_X4_earliestFor_4 (ci := 4) rfl 7 (by decide) (List.mem_of_getElem? (i := 4) rfl) 0 rfl rfl dX4_earliestFor_16 ?_
  refine y_iload_n C 1 dX4_earliestFor_19 rfl rfl ?_
  refine y_ialdA C (q0 := 4) (t0 := 0) rfl rfl (by decide) (by omega) dX4_earliestFor_20 ?_
  refine y_iald C (q0 := 9) (t0 := 0) rfl rfl (by decide) (by have := hfr j; omega) dX4_earliestFor_21 ?_
  refine y_iconst C (v := (-1)) dX4_earliestFor_22 (by decide) ?_
  refine y_ixor C dX4_earliestFor_23 ?_
  refine y_iand C dX4_earliestFor_24 ?_
  refine y_aload_n C 0 dX4_earliestFor_25 rfl rfl ?_
  refine y_aload_n C 0 dX4_earliestFor_26 rfl rfl ?_
  refine y_get C in_X4_earliestFor_4 (ci := 4) rfl 7 (by decide) (List.mem_of_getElem? (i := 4) rfl) 0 rfl rfl dX4_earliestFor_27 ?_
  refine y_iload_n C 1 dX4_earliestFor_30 rfl rfl ?_
  refine y_ialdA C (q0 := 4) (t0 := 0) rfl rfl (by decide) (by omega) dX4_earliestFor_31 ?_
  refine y_callI C (wr := []) 1 (c_X4_keptBy l D cI aM th E vs B sz cd M fr tt na nb ta tb dl co he mi la (fr j) hE hsz hcd (by have := hfr j; omega)) gX4_earliestFor_X4_keptBy rfl rfl rfl (by decide +kernel) ⟨Nat.le_of_ble_eq_true rfl, Nat.le_of_ble_eq_true rfl⟩ (q0 := 0) (ci := 4) rfl rfl rfl rfl rfl (Nat.le_of_ble_eq_true rfl) dX4_earliestFor_32 ⟨Nat.le_of_ble_eq_true rfl, Nat.le_of_ble_eq_true rfl⟩ ?_
  refine y_ws (ws' := WM cI aM th E vs B sz cd M fr tt na nb ta tb dl co he mi la) rfl ?_
  refine y_aload_n C 0 dX4_earliestFor_35 rfl rfl ?_
  refine y_get C in_X4_earliestFor_4 (ci := 4) rfl 10 (by decide) (List.mem_of_getElem? (i := 5) rfl) 0 rfl rfl dX4_earliestFor_36 ?_
  refine y_aload_n C 0 dX4_earliestFor_39 rfl rfl ?_
  refine y_get C in_X4_earliestFor_4 (ci := 4) rfl 7 (by decide) (List.mem_of_getElem? (i := 4) rfl) 0 rfl rfl dX4_earliestFor_40 ?_
  refine y_iload_n C 1 dX4_earliestFor_43 rfl rfl ?_
  refine y_ialdA C (q0 := 4) (t0 := 0) rfl rfl (by decide) (by omega) dX4_earliestFor_44 ?_
  refine y_iald C (q0 := 7) (t0 := 0) rfl rfl (by decide) (by have := hfr j; omega) dX4_earliestFor_45 ?_
  refine y_iand C dX4_earliestFor_46 ?_
  refine y_iconst C (v := (-1)) dX4_earliestFor_47 (by decide) ?_
  refine y_ixor C dX4_earliestFor_48 ?_
  refine y_iand C dX4_earliestFor_49 ?_
  exact K _ _ _ _ _ dX4_earliestFor_50 (rfl) (by decide) (by decide)
theorem in_X4_delayedAlong_4 : ∀ w ∈ wsX40, w ∈ wsX4_delayedAlong := fun _ h => List.mem_cons_of_mem _ (List.mem_append_right _ h)
set_option maxHeartbeats 4000000 in
set_option maxRecDepth 100000 in
theorem c_X4_delayedAlong (l : Launch) (D : va_G) (cI : ClassId) (aM : Nat → Nat) (th E : Nat) (vs : Nat → Int32) (B : Nat) (sz cd : Nat → Nat) (M : Nat) (fr tt : Nat → Nat) (na nb ta tb dl co he : Nat → Int32) (mi la : Int32) (j : Nat) (hE : E ≤ 8) (hsz : ∀ j, sz j ≤ 12) (hcd : ∀ j, cd j < 24) (hfr : ∀ j, fr j < 40) (htt : ∀ j, tt j < 40) (hj : j < 80) : ctI l yX4_delayedAlong wsX4_delayedAlong (rmD 3 0 0) D [(cI, .int)] [.ref (aM 0), .int (nI j)] (WM cI aM th E vs B sz cd M fr tt na nb ta tb dl co he mi la) (WM cI aM th E vs B sz cd M fr tt na nb ta tb dl co he mi la) (daF E vs sz cd fr tt na nb tb dl j) 0 0 := by
  refine ctI_of (by decide) rfl (Nat.le_of_ble_eq_true rfl) ?_
  intro p e s m args below meth c A Q C hnm K
  refine y_lv (lv' := [(0, .ref (aM 0)), (1, .int (nI j))]) rfl ?_
  refine y_aload_n C 0 dX4_delayedAlong_0 rfl rfl ?_
  refine y_iload_n C 1 dX4_delayedAlong_1 rfl rfl ?_
  refine y_callI C (wr := []) 1 (c_X4_earliestFor l D cI aM th E vs B sz cd M fr tt na nb ta tb dl co he mi la j hE hsz hcd hfr htt hj) gX4_delayedAlong_X4_earliestFor rfl rfl rfl (by decide +kernel) ⟨Nat.le_of_ble_eq_true rfl, Nat.le_of_ble_eq_true rfl⟩ (q0 := 0) (ci := 4) rfl rfl rfl rfl rfl (Nat.le_of_ble_eq_true rfl) dX4_delayedAlong_2 ⟨Nat.le_of_ble_eq_true rfl, Nat.le_of_ble_eq_true rfl⟩ ?_
  refine y_ws (ws' := WM cI aM th E vs B sz cd M fr tt na nb ta tb dl co he mi la) rfl ?_
  refine y_aload_n C 0 dX4_delayedAlong_5 rfl rfl ?_
  refine y_get C in_X4_delayedAlong_4 (ci := 4) rfl 13 (by decide) (List.mem_of_getElem? (i := 1) rfl) 0 rfl rfl dX4_delayedAlong_6 ?_
  refine y_aload_n C 0 dX4_delayedAlong_9 rfl rfl ?_
  refine y_get C in_X4_delayedAlong_4 (ci := 4) rfl 7 (by decide) (List.mem_of_getElem? (i := 2) rfl) 0 rfl rfl dX4_delayedAlong_10 ?_
  refine y_iload_n C 1 dX4_delayedAlong_13 rfl rfl ?_
  refine y_ialdA C (q0 := 4) (t0 := 0) rfl rfl (by decide) (by omega) dX4_delayedAlong_14 ?_
  refine y_iald C (q0 := 10) (t0 := 0) rfl rfl (by decide) (by have := hfr j; omega) dX4_delayedAlong_15 ?_
  refine y_aload_n C 0 dX4_delayedAlong_16 rfl rfl ?_
  refine y_aload_n C 0 dX4_delayedAlong_17 rfl rfl ?_
  refine y_get C in_X4_delayedAlong_4 (ci := 4) rfl 7 (by decide) (List.mem_of_getElem? (i := 2) rfl) 0 rfl rfl dX4_delayedAlong_18 ?_
  refine y_iload_n C 1 dX4_delayedAlong_21 rfl rfl ?_
  refine y_ialdA C (q0 := 4) (t0 := 0) rfl rfl (by decide) (by omega) dX4_delayedAlong_22 ?_
  refine y_callI C (wr := []) 1 (c_X4_earlyIn l D cI aM th E vs B sz cd M fr tt na nb ta tb dl co he mi la (fr j) hE hsz hcd (by have := hfr j; omega)) gX4_delayedAlong_X4_earlyIn rfl rfl rfl (by decide +kernel) ⟨Nat.le_of_ble_eq_true rfl, Nat.le_of_ble_eq_true rfl⟩ (q0 := 0) (ci := 4) rfl rfl rfl rfl rfl (Nat.le_of_ble_eq_true rfl) dX4_delayedAlong_23 ⟨Nat.le_of_ble_eq_true rfl, Nat.le_of_ble_eq_true rfl⟩ ?_
  refine y_ws (ws' := WM cI aM th E vs B sz cd M fr tt na nb ta tb dl co he mi la) rfl ?_
  refine y_iconst C (v := (-1)) dX4_delayedAlong_26 (by decide) ?_
  refine y_ixor C dX4_delayedAlong_27 ?_
  refine y_iand C dX4_delayedAlong_28 ?_
  refine y_ior C dX4_delayedAlong_29 ?_
  exact K _ _ _ _ _ dX4_delayedAlong_30 (rfl) (by decide) (by decide)
theorem in_X4_insertedOn_4 : ∀ w ∈ wsX40, w ∈ wsX4_insertedOn := fun _ h => List.mem_cons_of_mem _ (List.mem_append_right _ h)
set_option maxHeartbeats 4000000 in
set_option maxRecDepth 100000 in
theorem c_X4_insertedOn (l : Launch) (D : va_G) (cI : ClassId) (aM : Nat → Nat) (th E : Nat) (vs : Nat → Int32) (B : Nat) (sz cd : Nat → Nat) (M : Nat) (fr tt : Nat → Nat) (na nb ta tb dl co he : Nat → Int32) (mi la : Int32) (j : Nat) (hE : E ≤ 8) (hsz : ∀ j, sz j ≤ 12) (hcd : ∀ j, cd j < 24) (hfr : ∀ j, fr j < 40) (htt : ∀ j, tt j < 40) (hj : j < 80) : ctI l yX4_insertedOn wsX4_insertedOn (rmD 4 0 0) D [(cI, .int)] [.ref (aM 0), .int (nI j)] (WM cI aM th E vs B sz cd M fr tt na nb ta tb dl co he mi la) (WM cI aM th E vs B sz cd M fr tt na nb ta tb dl co he mi la) (inF E vs sz cd fr tt na nb tb dl j) 0 0 := by
  refine ctI_of (by decide) rfl (Nat.le_of_ble_eq_true rfl) ?_
  intro p e s m args below meth c A Q C hnm K
  refine y_lv (lv' := [(0, .ref (aM 0)), (1, .int (nI j))]) rfl ?_
  refine y_aload_n C 0 dX4_insertedOn_0 rfl rfl ?_
  refine y_iload_n C 1 dX4_insertedOn_1 rfl rfl ?_
  refine y_callI C (wr := []) 1 (c_X4_delayedAlong l D cI aM th E vs B sz cd M fr tt na nb ta tb dl co he mi la j hE hsz hcd hfr htt hj) gX4_insertedOn_X4_delayedAlong rfl rfl rfl (by decide +kernel) ⟨Nat.le_of_ble_eq_true rfl, Nat.le_of_ble_eq_true rfl⟩ (q0 := 0) (ci := 4) rfl rfl rfl rfl rfl (Nat.le_of_ble_eq_true rfl) dX4_insertedOn_2 ⟨Nat.le_of_ble_eq_true rfl, Nat.le_of_ble_eq_true rfl⟩ ?_
  refine y_ws (ws' := WM cI aM th E vs B sz cd M fr tt na nb ta tb dl co he mi la) rfl ?_
  refine y_aload_n C 0 dX4_insertedOn_5 rfl rfl ?_
  refine y_get C in_X4_insertedOn_4 (ci := 4) rfl 13 (by decide) (List.mem_of_getElem? (i := 1) rfl) 0 rfl rfl dX4_insertedOn_6 ?_
  refine y_aload_n C 0 dX4_insertedOn_9 rfl rfl ?_
  refine y_get C in_X4_insertedOn_4 (ci := 4) rfl 8 (by decide) (List.mem_of_getElem? (i := 2) rfl) 0 rfl rfl dX4_insertedOn_10 ?_
  refine y_iload_n C 1 dX4_insertedOn_13 rfl rfl ?_
  refine y_ialdA C (q0 := 5) (t0 := 0) rfl rfl (by decide) (by omega) dX4_insertedOn_14 ?_
  refine y_iald C (q0 := 10) (t0 := 0) rfl rfl (by decide) (by have := htt j; omega) dX4_insertedOn_15 ?_
  refine y_iconst C (v := (-1)) dX4_insertedOn_16 (by decide) ?_
  refine y_ixor C dX4_insertedOn_17 ?_
  refine y_iand C dX4_insertedOn_18 ?_
  exact K _ _ _ _ _ dX4_insertedOn_19 (rfl) (by decide) (by decide)
theorem in_X4_deletedIn_4 : ∀ w ∈ wsX40, w ∈ wsX4_deletedIn := fun _ h => List.mem_cons_of_mem _ (List.mem_append_right _ h)
set_option maxHeartbeats 4000000 in
set_option maxRecDepth 100000 in
theorem c_X4_deletedIn (l : Launch) (D : va_G) (cI : ClassId) (aM : Nat → Nat) (th E : Nat) (vs : Nat → Int32) (B : Nat) (sz cd : Nat → Nat) (M : Nat) (fr tt : Nat → Nat) (na nb ta tb dl co he : Nat → Int32) (mi la : Int32) (b : Nat) (hE : E ≤ 8) (hsz : ∀ j, sz j ≤ 12) (hcd : ∀ j, cd j < 24) (hb : b < 40) : ctI l yX4_deletedIn wsX4_deletedIn (rmD 2 0 0) D [(cI, .int)] [.ref (aM 0), .int (nI b)] (WM cI aM th E vs B sz cd M fr tt na nb ta tb dl co he mi la) (WM cI aM th E vs B sz cd M fr tt na nb ta tb dl co he mi la) (deF E vs sz cd dl b) 0 0 := by
  refine ctI_of (by decide) rfl (Nat.le_of_ble_eq_true rfl) ?_
  intro p e s m args below meth c A Q C hnm K
  refine y_lv (lv' := [(0, .ref (aM 0)), (1, .int (nI b))]) rfl ?_
  refine y_aload_n C 0 dX4_deletedIn_0 rfl rfl ?_
  refine y_iload_n C 1 dX4_deletedIn_1 rfl rfl ?_
  refine y_callI C (wr := []) 1 (c_X4_earlyIn l D cI aM th E vs B sz cd M fr tt na nb ta tb dl co he mi la b hE hsz hcd hb) gX4_deletedIn_X4_earlyIn rfl rfl rfl (by decide +kernel) ⟨Nat.le_of_ble_eq_true rfl, Nat.le_of_ble_eq_true rfl⟩ (q0 := 0) (ci := 4) rfl rfl rfl rfl rfl (Nat.le_of_ble_eq_true rfl) dX4_deletedIn_2 ⟨Nat.le_of_ble_eq_true rfl, Nat.le_of_ble_eq_true rfl⟩ ?_
  refine y_ws (ws' := WM cI aM th E vs B sz cd M fr tt na nb ta tb dl co he mi la) rfl ?_
  refine y_aload_n C 0 dX4_deletedIn_5 rfl rfl ?_
  refine y_get C in_X4_deletedIn_4 (ci := 4) rfl 13 (by decide) (List.mem_of_getElem? (i := 1) rfl) 0 rfl rfl dX4_deletedIn_6 ?_
  refine y_iload_n C 1 dX4_deletedIn_9 rfl rfl ?_
  refine y_iald C (q0 := 10) (t0 := 0) rfl rfl (by decide) (by omega) dX4_deletedIn_10 ?_
  refine y_iconst C (v := (-1)) dX4_deletedIn_11 (by decide) ?_
  refine y_ixor C dX4_deletedIn_12 ?_
  refine y_iand C dX4_deletedIn_13 ?_
  exact K _ _ _ _ _ dX4_deletedIn_14 (rfl) (by decide) (by decide)
