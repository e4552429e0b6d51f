/-- what bringUpToDate makes of the rows, where it works -/
def setsR (E : Nat) (dp : Nat → Int32) (B : Nat) (sz cd : Nat → Nat) (M : Nat) (fr tt : Nat → Nat) (f1 kp ea la ns ne ts te da de eo dn io kp2 ea2 la2 ns2 ne2 ts2 te2 da2 de2 eo2 dn2 io2 : Nat → Int32) : Prop :=
  kp2 = rowU kp (fun b => allF E &&& (gpD dp cd b (sz b) ^^^ -1)) B ∧ ea2 = rowU ea (fun b => epD dp cd b (sz b)) B ∧ la2 = rowU la (fun b => lpD dp cd b (sz b)) B ∧
  fnR E B M fr tt f1 kp2 ea2 ne ns ne2 ns2 ∧ ftR E B M fr tt kp2 la2 ts te ts2 te2 ∧ eo2 = rowU eo (ecF kp2 ns2 ne2 te2 fr tt) M ∧ fdR E B M fr tt ea2 ns2 eo2 da da2 ∧
  dn2 = rowU dn (dcF ea2 eo2 da2 fr) M ∧ io2 = rowU io (fun j => dn2 j &&& (da2 (tt j) ^^^ -1)) M ∧ de2 = rowU de (fun b => ea2 b &&& (da2 b ^^^ -1)) B
def upR (E : Nat) (dp : Nat → Int32) (B : Nat) (sz cd : Nat → Nat) (M : Nat) (fr tt : Nat → Nat) (f1 : Nat → Int32) (ch : Int32) (kp ea la ns ne ts te da de eo dn io kp2 ea2 la2 ns2 ne2 ts2 te2 da2 de2 eo2 dn2 io2 : Nat → Int32) : Prop :=
  (ch = nI 0 ∧ kp2 = kp ∧ ea2 = ea ∧ la2 = la ∧ ns2 = ns ∧ ne2 = ne ∧ ts2 = ts ∧ te2 = te ∧ da2 = da ∧ de2 = de ∧ eo2 = eo ∧ dn2 = dn ∧ io2 = io) ∨
  (ch = nI 1 ∧ setsR E dp B sz cd M fr tt f1 kp ea la ns ne ts te da de eo dn io kp2 ea2 la2 ns2 ne2 ts2 te2 da2 de2 eo2 dn2 io2)
theorem in_X2_bringUpToDate_1 : ∀ w ∈ wsX10, w ∈ wsX2_bringUpToDate := fun _ h => List.mem_cons_of_mem _ (List.mem_append_right _ h)
theorem in_X2_bringUpToDate_2 : ∀ w ∈ wsX20, w ∈ wsX2_bringUpToDate := fun _ h => List.mem_cons_of_mem _ (List.mem_append_left _ (List.mem_append_right _ h))
set_option maxHeartbeats 4000000 in
set_option maxRecDepth 100000 in
theorem c_X2_bringUpToDate_no (l : Launch) (D : va_G) (cI : ClassId) (aS : Nat → Nat) (kp ea la ns ne ts te da de eo dn io : Nat → Int32) (aP : Nat → Nat) (E : Nat) (vs dp : Nat → Int32) (B : Nat) (sz cd : Nat → Nat) (M : Nat) (fr tt : Nat → Nat) (f1 f2 : Nat → Int32) (ch : Int32)  : ctV l yX2_bringUpToDate wsX2_bringUpToDate (rmD 3 0 0) D [(cI, .int)] [.ref (aS 0)] (WS cI aS (aP 0) kp ea la ns ne ts te da de eo dn io ++ (WP cI aP E vs dp B sz cd M fr tt f1 f2 (nI 0))) (WS cI aS (aP 0) kp ea la ns ne ts te da de eo dn io ++ (WP cI aP E vs dp B sz cd M fr tt f1 f2 (nI 0))) 0 0 := by
  refine ctV_of (by decide) rfl (Nat.le_of_ble_eq_true rfl) ?_
  intro p e s m args below meth c A Q C hnm K
  refine y_lv (lv' := [(0, .ref (aS 0))]) rfl ?_
  refine y_aload_n C 0 dX2_bringUpToDate_0 rfl rfl ?_
  refine y_get C in_X2_bringUpToDate_2 (ci := 2) rfl 0 (by decide) (List.mem_of_getElem? (i := 1) rfl) 0 rfl rfl dX2_bringUpToDate_1 ?_
  refine y_get C in_X2_bringUpToDate_1 (ci := 1) rfl 11 (by decide) (List.mem_of_getElem? (i := 2) rfl) 13 rfl rfl dX2_bringUpToDate_4 ?_
  refine y_ifN_ne C (tgt := 11) dX2_bringUpToDate_7 (by decide) (by decide) (fun h => absurd h (by decide)) (fun _ => ?_)
  exact K _ _ _ _ dX2_bringUpToDate_10 (by decide) (by decide)
set_option maxHeartbeats 4000000 in
set_option maxRecDepth 100000 in
theorem c_X2_bringUpToDate_yes (l : Launch) (D : va_G) (cI : ClassId) (aS : Nat → Nat) (kp ea la ns ne ts te da de eo dn io : Nat → Int32) (aP : Nat → Nat) (E : Nat) (vs dp : Nat → Int32) (B : Nat) (sz cd : Nat → Nat) (M : Nat) (fr tt : Nat → Nat) (f1 f2 : Nat → Int32) (ch : Int32) (kp2 ea2 la2 ns2 ne2 ts2 te2 da2 de2 eo2 dn2 io2 : Nat → Int32) (hE : E ≤ 8) (hB : B ≤ 40) (hM : M ≤ 80) (hsz : ∀ j, sz j ≤ 12) (hcd : ∀ j, cd j < 24) (hfr : ∀ j, fr j < 40) (htt : ∀ j, tt j < 40) (hcv : ∀ j, cd j % 3 = 2 → cd j / 3 < 6) (hU : setsR E dp B sz cd M fr tt f1 kp ea la ns ne ts te da de eo dn io kp2 ea2 la2 ns2 ne2 ts2 te2 da2 de2 eo2 dn2 io2) : ctV l yX2_bringUpToDate wsX2_bringUpToDate (rmD 3 0 0) D [(cI, .int)] [.ref (aS 0)] (WS cI aS (aP 0) kp ea la ns ne ts te da de eo dn io ++ (WP cI aP E vs dp B sz cd M fr tt f1 f2 (nI 1))) (WS cI aS (aP 0) kp2 ea2 la2 ns2 ne2 ts2 te2 da2 de2 eo2 dn2 io2 ++ (WP cI aP E vs dp B sz cd M fr tt f1 f2 (nI 0))) 0 0 := by
  obtain ⟨u1, u2, u3, u4, u5, u6, u7, u8, u9, u10⟩ := hU
  refine ctV_of (by decide) rfl (Nat.le_of_ble_eq_true rfl) ?_
  intro p e s m args below meth c A Q C hnm K
  refine y_lv (lv' := [(0, .ref (aS 0))]) rfl ?_
  refine y_aload_n C 0 dX2_bringUpToDate_0 rfl rfl ?_
  refine y_get C in_X2_bringUpToDate_2 (ci := 2) rfl 0 (by decide) (List.mem_of_getElem? (i := 1) rfl) 0 rfl rfl dX2_bringUpToDate_1 ?_
  refine y_get C in_X2_bringUpToDate_1 (ci := 1) rfl 11 (by decide) (List.mem_of_getElem? (i := 2) rfl) 13 rfl rfl dX2_bringUpToDate_4 ?_
  refine y_ifN_ne C (tgt := 11) dX2_bringUpToDate_7 (by decide) (by decide) (fun _ => ?_) (fun h => absurd h (by decide))
  refine y_iconst C (v := nI 0) dX2_bringUpToDate_11 (by decide) ?_
  refine y_istore_n C (lv' := [(1, .int (nI 0)), (0, .ref (aS 0))]) dX2_bringUpToDate_12 rfl (by decide) rfl ?_
  have lp13 : ∀ (n13 : Nat) (i : Nat) (m1 : (Nat → Int32)) (m2 : (Nat → Int32)) (m3 : (Nat → Int32)), (i ≤ B) → (m1 = rowU kp (fun b => allF E &&& (gpD dp cd b (sz b) ^^^ -1)) i) → (m2 = rowU ea (fun b => epD dp cd b (sz b)) i) → (m3 = rowU la (fun b => lpD dp cd b (sz b)) i) → (B - i) < n13 → yW p l e (rmD 3 0 0) s m args below meth c 2 D A Q 0 0 (WS cI aS (aP 0) m1 m2 m3 ns ne ts te da de eo dn io ++ (WP cI aP E vs dp B sz cd M fr tt f1 f2 (nI 1))) 13 [(0, .ref (aS 0)), (1, .int (nI i))] [] := by
    intro n13
    induction n13 with
    | zero => intro i m1 m2 m3 hi hf1 hf2 hf3 hm; exact absurd hm (Nat.not_lt_zero _)
    | succ n13 ih13 =>
      intro i m1 m2 m3 hi hf1 hf2 hf3 hm13
      refine y_iload_n C 1 dX2_bringUpToDate_13 rfl rfl ?_
      refine y_aload_n C 0 dX2_bringUpToDate_14 rfl rfl ?_
      refine y_get C in_X2_bringUpToDate_2 (ci := 2) rfl 0 (by decide) (List.mem_of_getElem? (i := 1) rfl) 0 rfl rfl dX2_bringUpToDate_15 ?_
      refine y_get C in_X2_bringUpToDate_1 (ci := 1) rfl 3 (by decide) (List.mem_of_getElem? (i := 3) rfl) 13 rfl rfl dX2_bringUpToDate_18 ?_
      refine y_icmpN_ge C (tgt := 35) dX2_bringUpToDate_21 (by decide) (by omega) (by omega) (fun h21 => ?_) (fun h21 => ?_)
      · skip
        rw [show i = B by omega] at hf1 hf2 hf3
        rw [← u1] at hf1; rw [← u2] at hf2; rw [← u3] at hf3
        refine y_ws (ws' := WS cI aS (aP 0) kp2 ea2 la2 ns ne ts te da de eo dn io ++ (WP cI aP E vs dp B sz cd M fr tt f1 f2 (nI 1))) (by rw [hf1, hf2, hf3]) ?_
        refine y_aload_n C 0 dX2_bringUpToDate_35 rfl rfl ?_
        refine y_callV C (wr := []) 0 (c_X2_findNeeded l D cI aS kp2 ea2 la2 ns ne ts te da de eo dn io aP E vs dp B sz cd M fr tt f1 f2 (nI 1) ne2 ns2 hE hB hM hfr htt (u4)) gX2_bringUpToDate_X2_findNeeded rfl rfl rfl (by decide +kernel) ⟨Nat.le_of_ble_eq_true rfl, Nat.le_of_ble_eq_true rfl⟩ (q0 := 0) (ci := 2) rfl rfl rfl rfl rfl (Nat.le_of_ble_eq_true rfl) dX2_bringUpToDate_36 ⟨Nat.le_of_ble_eq_true rfl, Nat.le_of_ble_eq_true rfl⟩ ?_
        refine y_ws (ws' := WS cI aS (aP 0) kp2 ea2 la2 ns2 ne2 ts te da de eo dn io ++ (WP cI aP E vs dp B sz cd M fr tt f1 f2 (nI 1))) rfl ?_
        refine y_aload_n C 0 dX2_bringUpToDate_39 rfl rfl ?_
        refine y_callV C (wr := []) 0 (c_X2_findThere l D cI aS kp2 ea2 la2 ns2 ne2 ts te da de eo dn io aP E vs dp B sz cd M fr tt f1 f2 (nI 1) ts2 te2 hE hB hM hfr htt (u5)) gX2_bringUpToDate_X2_findThere rfl rfl rfl (by decide +kernel) ⟨Nat.le_of_ble_eq_true rfl, Nat.le_of_ble_eq_true rfl⟩ (q0 := 0) (ci := 2) rfl rfl rfl rfl rfl (Nat.le_of_ble_eq_true rfl) dX2_bringUpToDate_40 ⟨Nat.le_of_ble_eq_true rfl, Nat.le_of_ble_eq_true rfl⟩ ?_
        refine y_ws (ws' := WS cI aS (aP 0) kp2 ea2 la2 ns2 ne2 ts2 te2 da de eo dn io ++ (WP cI aP E vs dp B sz cd M fr tt f1 f2 (nI 1))) rfl ?_
        refine y_aload_n C 0 dX2_bringUpToDate_43 rfl rfl ?_
        refine y_callV C (wr := []) 0 (c_X2_findEarliest l D cI aS kp2 ea2 la2 ns2 ne2 ts2 te2 da de eo dn io aP E vs dp B sz cd M fr tt f1 f2 (nI 1) hM hfr htt) gX2_bringUpToDate_X2_findEarliest rfl rfl rfl (by decide +kernel) ⟨Nat.le_of_ble_eq_true rfl, Nat.le_of_ble_eq_true rfl⟩ (q0 := 0) (ci := 2) rfl rfl rfl rfl rfl (Nat.le_of_ble_eq_true rfl) dX2_bringUpToDate_44 ⟨Nat.le_of_ble_eq_true rfl, Nat.le_of_ble_eq_true rfl⟩ ?_
        refine y_ws (ws' := WS cI aS (aP 0) kp2 ea2 la2 ns2 ne2 ts2 te2 da de (rowU eo (ecF kp2 ns2 ne2 te2 fr tt) M) dn io ++ (WP cI aP E vs dp B sz cd M fr tt f1 f2 (nI 1))) rfl ?_
        refine y_aload_n C 0 dX2_bringUpToDate_47 rfl rfl ?_
        refine y_callV C (wr := []) 0 (c_X2_findDelayed l D cI aS kp2 ea2 la2 ns2 ne2 ts2 te2 da de (rowU eo (ecF kp2 ns2 ne2 te2 fr tt) M) dn io aP E vs dp B sz cd M fr tt f1 f2 (nI 1) da2 hE hB hM hfr htt (by rw [← u6]; exact u7)) gX2_bringUpToDate_X2_findDelayed rfl rfl rfl (by decide +kernel) ⟨Nat.le_of_ble_eq_true rfl, Nat.le_of_ble_eq_true rfl⟩ (q0 := 0) (ci := 2) rfl rfl rfl rfl rfl (Nat.le_of_ble_eq_true rfl) dX2_bringUpToDate_48 ⟨Nat.le_of_ble_eq_true rfl, Nat.le_of_ble_eq_true rfl⟩ ?_
        refine y_ws (ws' := WS cI aS (aP 0) kp2 ea2 la2 ns2 ne2 ts2 te2 da2 de (rowU eo (ecF kp2 ns2 ne2 te2 fr tt) M) (rowU dn (dcF ea2 (rowU eo (ecF kp2 ns2 ne2 te2 fr tt) M) da2 fr) M) io ++ (WP cI aP E vs dp B sz cd M fr tt f1 f2 (nI 1))) rfl ?_
        refine y_aload_n C 0 dX2_bringUpToDate_51 rfl rfl ?_
        refine y_callV C (wr := []) 0 (c_X2_findInsertionsAndDeletions l D cI aS kp2 ea2 la2 ns2 ne2 ts2 te2 da2 de (rowU eo (ecF kp2 ns2 ne2 te2 fr tt) M) (rowU dn (dcF ea2 (rowU eo (ecF kp2 ns2 ne2 te2 fr tt) M) da2 fr) M) io aP E vs dp B sz cd M fr tt f1 f2 (nI 1) hB hM htt) gX2_bringUpToDate_X2_findInsertionsAndDeletions rfl rfl rfl (by decide +kernel) ⟨Nat.le_of_ble_eq_true rfl, Nat.le_of_ble_eq_true rfl⟩ (q0 := 0) (ci := 2) rfl rfl rfl rfl rfl (Nat.le_of_ble_eq_true rfl) dX2_bringUpToDate_52 ⟨Nat.le_of_ble_eq_true rfl, Nat.le_of_ble_eq_true rfl⟩ ?_
        refine y_ws (ws' := WS cI aS (aP 0) kp2 ea2 la2 ns2 ne2 ts2 te2 da2 (rowU de (fun b => ea2 b &&& (da2 b ^^^ -1)) B) (rowU eo (ecF kp2 ns2 ne2 te2 fr tt) M) (rowU dn (dcF ea2 (rowU eo (ecF kp2 ns2 ne2 te2 fr tt) M) da2 fr) M) (rowU io (fun j => (rowU dn (dcF ea2 (rowU eo (ecF kp2 ns2 ne2 te2 fr tt) M) da2 fr) M) j &&& (da2 (tt j) ^^^ -1)) M) ++ (WP cI aP E vs dp B sz cd M fr tt f1 f2 (nI 1))) rfl ?_
        refine y_aload_n C 0 dX2_bringUpToDate_55 rfl rfl ?_
        refine y_get C in_X2_bringUpToDate_2 (ci := 2) rfl 0 (by decide) (List.mem_of_getElem? (i := 1) rfl) 0 rfl rfl dX2_bringUpToDate_56 ?_
        refine y_iconst C (v := nI 0) dX2_bringUpToDate_59 (by decide) ?_
        refine y_put C in_X2_bringUpToDate_1 tyX1 tyX1_ok nmX1 (ci := 1) rfl 11 (by decide) rfl (List.mem_of_getElem? (i := 2) rfl) 13 rfl rfl rfl (Nat.le_of_ble_eq_true rfl) (ws' := WS cI aS (aP 0) kp2 ea2 la2 ns2 ne2 ts2 te2 da2 (rowU de (fun b => ea2 b &&& (da2 b ^^^ -1)) B) (rowU eo (ecF kp2 ns2 ne2 te2 fr tt) M) (rowU dn (dcF ea2 (rowU eo (ecF kp2 ns2 ne2 te2 fr tt) M) da2 fr) M) (rowU io (fun j => (rowU dn (dcF ea2 (rowU eo (ecF kp2 ns2 ne2 te2 fr tt) M) da2 fr) M) j &&& (da2 (tt j) ^^^ -1)) M) ++ (WP cI aP E vs dp B sz cd M fr tt f1 f2 (nI 0))) rfl dX2_bringUpToDate_60 ?_
        refine y_ws (ws' := WS cI aS (aP 0) kp2 ea2 la2 ns2 ne2 ts2 te2 da2 de2 eo2 dn2 io2 ++ (WP cI aP E vs dp B sz cd M fr tt f1 f2 (nI 0))) (by rw [← u6, ← u8, ← u9, ← u10]) ?_
        exact K _ _ _ _ dX2_bringUpToDate_63 (by decide) (by decide)
      · skip
        refine y_aload_n C 0 dX2_bringUpToDate_24 rfl rfl ?_
        refine y_iload_n C 1 dX2_bringUpToDate_25 rfl rfl ?_
        refine y_callV C (wr := []) 1 (c_X2_findSetsOfBlock l D cI aS m1 m2 m3 ns ne ts te da de eo dn io aP E vs dp B sz cd M fr tt f1 f2 (nI 1) i hsz hcd (by omega) hcv) gX2_bringUpToDate_X2_findSetsOfBlock rfl rfl rfl (by decide +kernel) ⟨Nat.le_of_ble_eq_true rfl, Nat.le_of_ble_eq_true rfl⟩ (q0 := 0) (ci := 2) rfl rfl rfl rfl rfl (Nat.le_of_ble_eq_true rfl) dX2_bringUpToDate_26 ⟨Nat.le_of_ble_eq_true rfl, Nat.le_of_ble_eq_true rfl⟩ ?_
        refine y_ws (ws' := WS cI aS (aP 0) (upd m1 i (allF E &&& (gpD dp cd i (sz i) ^^^ -1))) (upd m2 i (epD dp cd i (sz i))) (upd m3 i (lpD dp cd i (sz i))) ns ne ts te da de eo dn io ++ (WP cI aP E vs dp B sz cd M fr tt f1 f2 (nI 1))) rfl ?_
        refine y_iinc C (k := 1) (lv' := [(1, .int (nI (i + 1))), (0, .ref (aS 0))]) dX2_bringUpToDate_29 rfl (yn_inc rfl) (by decide) rfl ?_
        refine y_goto C (tgt := 13) dX2_bringUpToDate_32 (by decide) ?_
        refine y_sub [1, 0] (lv' := [(0, .ref (aS 0)), (1, .int (nI (i + 1)))]) rfl ?_
        exact ih13 _ _ _ _ (by omega) (by rw [hf1]; exact ru_s _ _ _) (by rw [hf2]; exact ru_s _ _ _) (by rw [hf3]; exact ru_s _ _ _) (by omega)
  refine y_sub [1, 0] (lv' := [(0, .ref (aS 0)), (1, .int (nI 0))]) rfl ?_
  exact lp13 _ _ _ _ _ (Nat.zero_le _) ((ru_0 _ _).symm) ((ru_0 _ _).symm) ((ru_0 _ _).symm) (Nat.lt_succ_self _)
theorem c_X2_bringUpToDate_any (l : Launch) (D : va_G) (cI : ClassId) (aS : Nat → Nat) (kp ea la ns ne ts te da de eo dn io : Nat → Int32) (aP : Nat → Nat) (E : Nat) (vs dp : Nat → Int32) (B : Nat) (sz cd : Nat → Nat) (M : Nat) (fr tt : Nat → Nat) (f1 f2 : Nat → Int32) (ch : Int32) (kp2 ea2 la2 ns2 ne2 ts2 te2 da2 de2 eo2 dn2 io2 : Nat → Int32) (hE : E ≤ 8) (hB : B ≤ 40) (hM : M ≤ 80) (hsz : ∀ j, sz j ≤ 12) (hcd : ∀ j, cd j < 24) (hfr : ∀ j, fr j < 40) (htt : ∀ j, tt j < 40) (hcv : ∀ j, cd j % 3 = 2 → cd j / 3 < 6) (hU : upR E dp B sz cd M fr tt f1 ch kp ea la ns ne ts te da de eo dn io kp2 ea2 la2 ns2 ne2 ts2 te2 da2 de2 eo2 dn2 io2) : ctV l yX2_bringUpToDate wsX2_bringUpToDate (rmD 3 0 0) D [(cI, .int)] [.ref (aS 0)] (WS cI aS (aP 0) kp ea la ns ne ts te da de eo dn io ++ (WP cI aP E vs dp B sz cd M fr tt f1 f2 ch)) (WS cI aS (aP 0) kp2 ea2 la2 ns2 ne2 ts2 te2 da2 de2 eo2 dn2 io2 ++ (WP cI aP E vs dp B sz cd M fr tt f1 f2 (nI 0))) 0 0 := by
  rcases hU with ⟨rfl, rfl, rfl, rfl, rfl, rfl, rfl, rfl, rfl, rfl, rfl, rfl, rfl⟩ | ⟨rfl, hU⟩
  · exact c_X2_bringUpToDate_no l D cI aS kp2 ea2 la2 ns2 ne2 ts2 te2 da2 de2 eo2 dn2 io2 aP E vs dp B sz cd M fr tt f1 f2 (nI 0)
  · exact c_X2_bringUpToDate_yes l D cI aS kp ea la ns ne ts te da de eo dn io aP E vs dp B sz cd M fr tt f1 f2 (nI 1) kp2 ea2 la2 ns2 ne2 ts2 te2 da2 de2 eo2 dn2 io2 hE hB hM hsz hcd hfr htt hcv hU
