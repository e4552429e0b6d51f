set_option maxRecDepth 100000 in
theorem k_instruction {p : Program} {l : Launch} {e : Env} {s : State} {m : MethodId} {args : Array Value} {below : List Frame} {meth : Method} {c : Code} {Q : State → Prop} {cells slots : Nat} {D : va_G} {cI cJ : ClassId} {A : Nat → Prop} {sa : Nat → Nat} {b L : Nat} {xs : Nat → Int32} {i x o am : Nat} (X : yLx p s m args meth c D cI cJ A sa b L xs) (hi : i + 4 ≤ L) {p1 : Int32} (e1 : xs (i + 1) = p1) {p2 : Int32} (e2 : xs (i + 2) = p2) {wm wm' wc wc' : va_W} {f f' : Nat → Int64} {k : Nat} {r : Int32} {d mc ms d2 mc2 ms2 : Nat} {fs fs2 : List Value}
    (hH : ctH l yL_instruction wsL_instruction (rmD d mc ms) sa D [(cI, .int), (cJ, .long)] [.ref x, .int p1, .int p2, .ref o] (WO cJ o f ++ wc) (WO cJ o f' ++ wc') (nI k) mc ms)
    (hN : ctI l yX4_instruction wsX4_instruction (rmD d2 mc2 ms2) D [(cI, .int)] [.ref am, .int p1, .int p2] wm wm' r mc2 ms2)
    (hT : ctI l yX4_thrown wsX4_thrown (rmD 0 0 0) D [(cI, .int)] [.ref am] wm' wm' (nI k) 0 0) (hq : wm[0]? = some (am, .inr (4, fs))) (hq2 : wm'[0]? = some (am, .inr (4, fs2)))
    (hk : k = 0 → f' 0 = r.toInt64) (hkk : k < 2 ^ 31) (hd : d ≤ 9 ∧ mc ≤ 1 ∧ ms ≤ 6) (hd2 : d2 ≤ 9 ∧ mc2 ≤ 2 ∧ ms2 ≤ 120) (hc : cells + 3 ≤ 601024 ∧ slots + 126 ≤ 7293034)
    (kk : yW p l e room_1 s m args below meth c 7 D A Q (cells + 3) (slots + 126) (wm' ++ (WO cJ o f' ++ wc')) 1714 [(4, .int (nI i)), (3, .ref o), (2, .ref am), (1, .ref x), (0, .ref b)] []) : yW p l e room_1 s m args below meth c 7 D A Q cells slots (wm ++ (WO cJ o f ++ wc)) 678 [(4, .int (nI i)), (3, .ref o), (2, .ref am), (1, .ref x), (0, .ref b)] [] := by
  obtain ⟨C, hE, hX, hbl, hbA, hL⟩ := X
  refine y_aload_n C 3 dL_law_678 rfl rfl ?_
  refine y_aload_n C 4 dL_law_679 rfl rfl ?_
  refine y_iload C 0 dL_law_680 rfl ?_
  refine y_iconst C (v := nI 1) dL_law_682 rfl ?_
  refine y_iaddN C dL_law_683 ?_
  refine y_sld C hX hbl hbA (by omega) hL dL_law_684 ?_
  refine y_topE e1 ?_
  refine y_aload_n C 4 dL_law_685 rfl rfl ?_
  refine y_iload C 0 dL_law_686 rfl ?_
  refine y_iconst C (v := nI 2) dL_law_688 rfl ?_
  refine y_iaddN C dL_law_689 ?_
  refine y_sld C hX hbl hbA (by omega) hL dL_law_690 ?_
  refine y_topE e2 ?_
  refine y_aload_n C 1 dL_law_691 rfl rfl ?_
  refine y_callS C hE (wr := wm) (st := []) 4 hH gL_law_L_instruction rfl rfl rfl (by decide +kernel) ⟨by show d + 1 ≤ 11; omega, by show 8 + (5 + 11) + 30 * d ≤ 384; omega⟩ rfl rfl rfl (Nat.le_of_ble_eq_true rfl) dL_law_692 ⟨by show cells + mc ≤ 601024; omega, by show slots + ms ≤ 7293034; omega⟩ ?_
  refine y_istore C dL_law_695 (Nat.le_of_ble_eq_true rfl) rfl ?_
  refine y_aload_n C 3 dL_law_697 rfl rfl ?_
  refine y_aload_n C 5 dL_law_698 rfl rfl ?_
  refine y_iload C 1 dL_law_699 rfl ?_
  refine y_iconst C (v := nI 1) dL_law_701 rfl ?_
  refine y_iaddN C dL_law_702 ?_
  refine y_sld C hX hbl hbA (by omega) hL dL_law_703 ?_
  refine y_topE e1 ?_
  refine y_aload_n C 5 dL_law_704 rfl rfl ?_
  refine y_iload C 1 dL_law_705 rfl ?_
  refine y_iconst C (v := nI 2) dL_law_707 rfl ?_
  refine y_iaddN C dL_law_708 ?_
  refine y_sld C hX hbl hbA (by omega) hL dL_law_709 ?_
  refine y_topE e2 ?_
  refine y_swap ?_
  refine y_callI C.s1 (wr := WO cJ o f' ++ wc') (st := []) 2 hN gL_law_X4_instruction rfl rfl rfl (by decide +kernel) ⟨by show d2 + 1 ≤ 11; omega, by show 8 + (3 + 11) + 30 * d2 ≤ 384; omega⟩ (q0 := 0) (ci := 4) hq rfl rfl rfl rfl (Nat.le_of_ble_eq_true rfl) dL_law_710 ⟨by show cells + mc + mc2 ≤ 601024; omega, by show slots + ms + ms2 ≤ 7293034; omega⟩ ?_
  refine y_istore C dL_law_713 (Nat.le_of_ble_eq_true rfl) rfl ?_
  refine y_aload_n C 4 dL_law_715 rfl rfl ?_
  refine y_callI C.s1 (wr := WO cJ o f' ++ wc') (st := []) 0 hT gL_law_X4_thrown rfl rfl rfl (by decide +kernel) ⟨Nat.le_of_ble_eq_true rfl, Nat.le_of_ble_eq_true rfl⟩ (q0 := 0) (ci := 4) hq2 rfl rfl rfl rfl (Nat.le_of_ble_eq_true rfl) dL_law_716 ⟨by show cells + mc + mc2 + 0 ≤ 601024; omega, by show slots + ms + ms2 + 0 ≤ 7293034; omega⟩ ?_
  refine y_iload C 1 dL_law_719 rfl ?_
  refine y_icmpN_eq C (tgt := 726) dL_law_721 rfl hkk hkk (fun _ => ?_) (fun h => absurd rfl h)
  refine y_iload C 1 dL_law_726 rfl ?_
  refine y_ifN_ne C (tgt := 743) dL_law_728 rfl hkk (fun _ => ?_) (fun h0 => ?_)
  · refine y_goto C (tgt := 1714) dL_law_743 rfl ?_
    refine y_swap ?_
    refine y_sub (lv' := [(4, .int (nI i)), (3, .ref o), (2, .ref am), (1, .ref x), (0, .ref b)]) [2, 3, 4, 5, 6] rfl ?_
    exact y_widen (by omega) (by omega) kk
  · refine y_aload_n C 3 dL_law_731 rfl rfl ?_
    refine y_iconst C (v := nI 0) dL_law_732 rfl ?_
    refine y_lald C (q0 := 0) (t0 := 1) (j := 0) rfl rfl (Nat.le_of_ble_eq_true rfl) (Nat.le_of_ble_eq_true rfl) dL_law_733 ?_
    refine y_iload C 0 dL_law_734 rfl ?_
    refine y_i2l C dL_law_736 rfl ?_
    refine y_lcmp C dL_law_737 ?_
    refine y_if_eq C (tgt := 743) dL_law_738 rfl (fun _ => ?_) (fun h => absurd (yl_c.mpr (hk h0)) h)
    refine y_goto C (tgt := 1714) dL_law_743 rfl ?_
    refine y_swap ?_
    refine y_sub (lv' := [(4, .int (nI i)), (3, .ref o), (2, .ref am), (1, .ref x), (0, .ref b)]) [2, 3, 4, 5, 6] rfl ?_
    exact y_widen (by omega) (by omega) kk
set_option maxRecDepth 100000 in
theorem k_ends {p : Program} {l : Launch} {e : Env} {s : State} {m : MethodId} {args : Array Value} {below : List Frame} {meth : Method} {c : Code} {Q : State → Prop} {cells slots : Nat} {D : va_G} {cI cJ : ClassId} {A : Nat → Prop} {sa : Nat → Nat} {b L : Nat} {xs : Nat → Int32} {i x o am : Nat} (X : yLx p s m args meth c D cI cJ A sa b L xs) (hi : i + 4 ≤ L) {p1 : Int32} (e1 : xs (i + 1) = p1) {wm wm' wc wc' : va_W} {f f' : Nat → Int64} {k : Nat} {r : Int32} {d mc ms d2 mc2 ms2 : Nat} {fs fs2 : List Value}
    (hH : ctH l yL_ends wsL_ends (rmD d mc ms) sa D [(cI, .int), (cJ, .long)] [.ref x, .int p1, .ref o] (WO cJ o f ++ wc) (WO cJ o f' ++ wc') (nI k) mc ms)
    (hN : ctI l yX4_ends wsX4_ends (rmD d2 mc2 ms2) D [(cI, .int)] [.ref am, .int p1] wm wm' r mc2 ms2)
    (hT : ctI l yX4_thrown wsX4_thrown (rmD 0 0 0) D [(cI, .int)] [.ref am] wm' wm' (nI k) 0 0) (hq : wm[0]? = some (am, .inr (4, fs))) (hq2 : wm'[0]? = some (am, .inr (4, fs2)))
    (hk : k = 0 → f' 0 = r.toInt64) (hkk : k < 2 ^ 31) (hd : d ≤ 9 ∧ mc ≤ 1 ∧ ms ≤ 6) (hd2 : d2 ≤ 9 ∧ mc2 ≤ 2 ∧ ms2 ≤ 120) (hc : cells + 3 ≤ 601024 ∧ slots + 126 ≤ 7293034)
    (kk : yW p l e room_1 s m args below meth c 7 D A Q (cells + 3) (slots + 126) (wm' ++ (WO cJ o f' ++ wc')) 1714 [(4, .int (nI i)), (3, .ref o), (2, .ref am), (1, .ref x), (0, .ref b)] []) : yW p l e room_1 s m args below meth c 7 D A Q cells slots (wm ++ (WO cJ o f ++ wc)) 746 [(4, .int (nI i)), (3, .ref o), (2, .ref am), (1, .ref x), (0, .ref b)] [] := by
  obtain ⟨C, hE, hX, hbl, hbA, hL⟩ := X
  refine y_aload_n C 3 dL_law_746 rfl rfl ?_
  refine y_aload_n C 4 dL_law_747 rfl rfl ?_
  refine y_iload C 0 dL_law_748 rfl ?_
  refine y_iconst C (v := nI 1) dL_law_750 rfl ?_
  refine y_iaddN C dL_law_751 ?_
  refine y_sld C hX hbl hbA (by omega) hL dL_law_752 ?_
  refine y_topE e1 ?_
  refine y_aload_n C 1 dL_law_753 rfl rfl ?_
  refine y_callS C hE (wr := wm) (st := []) 3 hH gL_law_L_ends rfl rfl rfl (by decide +kernel) ⟨by show d + 1 ≤ 11; omega, by show 8 + (4 + 11) + 30 * d ≤ 384; omega⟩ rfl rfl rfl (Nat.le_of_ble_eq_true rfl) dL_law_754 ⟨by show cells + mc ≤ 601024; omega, by show slots + ms ≤ 7293034; omega⟩ ?_
  refine y_istore C dL_law_757 (Nat.le_of_ble_eq_true rfl) rfl ?_
  refine y_aload_n C 3 dL_law_759 rfl rfl ?_
  refine y_aload_n C 5 dL_law_760 rfl rfl ?_
  refine y_iload C 1 dL_law_761 rfl ?_
  refine y_iconst C (v := nI 1) dL_law_763 rfl ?_
  refine y_iaddN C dL_law_764 ?_
  refine y_sld C hX hbl hbA (by omega) hL dL_law_765 ?_
  refine y_topE e1 ?_
  refine y_swap ?_
  refine y_callI C.s1 (wr := WO cJ o f' ++ wc') (st := []) 1 hN gL_law_X4_ends rfl rfl rfl (by decide +kernel) ⟨by show d2 + 1 ≤ 11; omega, by show 8 + (2 + 11) + 30 * d2 ≤ 384; omega⟩ (q0 := 0) (ci := 4) hq rfl rfl rfl rfl (Nat.le_of_ble_eq_true rfl) dL_law_766 ⟨by show cells + mc + mc2 ≤ 601024; omega, by show slots + ms + ms2 ≤ 7293034; omega⟩ ?_
  refine y_istore C dL_law_769 (Nat.le_of_ble_eq_true rfl) rfl ?_
  refine y_aload_n C 4 dL_law_771 rfl rfl ?_
  refine y_callI C.s1 (wr := WO cJ o f' ++ wc') (st := []) 0 hT gL_law_X4_thrown rfl rfl rfl (by decide +kernel) ⟨Nat.le_of_ble_eq_true rfl, Nat.le_of_ble_eq_true rfl⟩ (q0 := 0) (ci := 4) hq2 rfl rfl rfl rfl (Nat.le_of_ble_eq_true rfl) dL_law_772 ⟨by show cells + mc + mc2 + 0 ≤ 601024; omega, by show slots + ms + ms2 + 0 ≤ 7293034; omega⟩ ?_
  refine y_iload C 1 dL_law_775 rfl ?_
  refine y_icmpN_eq C (tgt := 782) dL_law_777 rfl hkk hkk (fun _ => ?_) (fun h => absurd rfl h)
  refine y_iload C 1 dL_law_782 rfl ?_
  refine y_ifN_ne C (tgt := 799) dL_law_784 rfl hkk (fun _ => ?_) (fun h0 => ?_)
  · refine y_goto C (tgt := 1714) dL_law_799 rfl ?_
    refine y_swap ?_
    refine y_sub (lv' := [(4, .int (nI i)), (3, .ref o), (2, .ref am), (1, .ref x), (0, .ref b)]) [2, 3, 4, 5, 6] rfl ?_
    exact y_widen (by omega) (by omega) kk
  · refine y_aload_n C 3 dL_law_787 rfl rfl ?_
    refine y_iconst C (v := nI 0) dL_law_788 rfl ?_
    refine y_lald C (q0 := 0) (t0 := 1) (j := 0) rfl rfl (Nat.le_of_ble_eq_true rfl) (Nat.le_of_ble_eq_true rfl) dL_law_789 ?_
    refine y_iload C 0 dL_law_790 rfl ?_
    refine y_i2l C dL_law_792 rfl ?_
    refine y_lcmp C dL_law_793 ?_
    refine y_if_eq C (tgt := 799) dL_law_794 rfl (fun _ => ?_) (fun h => absurd (yl_c.mpr (hk h0)) h)
    refine y_goto C (tgt := 1714) dL_law_799 rfl ?_
    refine y_swap ?_
    refine y_sub (lv' := [(4, .int (nI i)), (3, .ref o), (2, .ref am), (1, .ref x), (0, .ref b)]) [2, 3, 4, 5, 6] rfl ?_
    exact y_widen (by omega) (by omega) kk
set_option maxRecDepth 100000 in
theorem k_kept {p : Program} {l : Launch} {e : Env} {s : State} {m : MethodId} {args : Array Value} {below : List Frame} {meth : Method} {c : Code} {Q : State → Prop} {cells slots : Nat} {D : va_G} {cI cJ : ClassId} {A : Nat → Prop} {sa : Nat → Nat} {b L : Nat} {xs : Nat → Int32} {i x o am : Nat} (X : yLx p s m args meth c D cI cJ A sa b L xs) (hi : i + 4 ≤ L) {p1 : Int32} (e1 : xs (i + 1) = p1) {wm wm' wc wc' : va_W} {f f' : Nat → Int64} {k : Nat} {r : Int32} {d mc ms d2 mc2 ms2 : Nat} {fs fs2 : List Value}
    (hH : ctH l yL_kept wsL_kept (rmD d mc ms) sa D [(cI, .int), (cJ, .long)] [.ref x, .int p1, .ref o] (WO cJ o f ++ wc) (WO cJ o f' ++ wc') (nI k) mc ms)
    (hN : ctI l yX4_kept wsX4_kept (rmD d2 mc2 ms2) D [(cI, .int)] [.ref am, .int p1] wm wm' r mc2 ms2)
    (hT : ctI l yX4_thrown wsX4_thrown (rmD 0 0 0) D [(cI, .int)] [.ref am] wm' wm' (nI k) 0 0) (hq : wm[0]? = some (am, .inr (4, fs))) (hq2 : wm'[0]? = some (am, .inr (4, fs2)))
    (hk : k = 0 → f' 0 = r.toInt64) (hkk : k < 2 ^ 31) (hd : d ≤ 9 ∧ mc ≤ 1 ∧ ms ≤ 6) (hd2 : d2 ≤ 9 ∧ mc2 ≤ 2 ∧ ms2 ≤ 120) (hc : cells + 3 ≤ 601024 ∧ slots + 126 ≤ 7293034)
    (kk : yW p l e room_1 s m args below meth c 7 D A Q (cells + 3) (slots + 126) (wm' ++ (WO cJ o f' ++ wc')) 1714 [(4, .int (nI i)), (3, .ref o), (2, .ref am), (1, .ref x), (0, .ref b)] []) : yW p l e room_1 s m args below meth c 7 D A Q cells slots (wm ++ (WO cJ o f ++ wc)) 802 [(4, .int (nI i)), (3, .ref o), (2, .ref am), (1, .ref x), (0, .ref b)] [] := by
  obtain ⟨C, hE, hX, hbl, hbA, hL⟩ := X
  refine y_aload_n C 3 dL_law_802 rfl rfl ?_
  refine y_aload_n C 4 dL_law_803 rfl rfl ?_
  refine y_iload C 0 dL_law_804 rfl ?_
  refine y_iconst C (v := nI 1) dL_law_806 rfl ?_
  refine y_iaddN C dL_law_807 ?_
  refine y_sld C hX hbl hbA (by omega) hL dL_law_808 ?_
  refine y_topE e1 ?_
  refine y_aload_n C 1 dL_law_809 rfl rfl ?_
  refine y_callS C hE (wr := wm) (st := []) 3 hH gL_law_L_kept rfl rfl rfl (by decide +kernel) ⟨by show d + 1 ≤ 11; omega, by show 8 + (4 + 11) + 30 * d ≤ 384; omega⟩ rfl rfl rfl (Nat.le_of_ble_eq_true rfl) dL_law_810 ⟨by show cells + mc ≤ 601024; omega, by show slots + ms ≤ 7293034; omega⟩ ?_
  refine y_istore C dL_law_813 (Nat.le_of_ble_eq_true rfl) rfl ?_
  refine y_aload_n C 3 dL_law_815 rfl rfl ?_
  refine y_aload_n C 5 dL_law_816 rfl rfl ?_
  refine y_iload C 1 dL_law_817 rfl ?_
  refine y_iconst C (v := nI 1) dL_law_819 rfl ?_
  refine y_iaddN C dL_law_820 ?_
  refine y_sld C hX hbl hbA (by omega) hL dL_law_821 ?_
  refine y_topE e1 ?_
  refine y_swap ?_
  refine y_callI C.s1 (wr := WO cJ o f' ++ wc') (st := []) 1 hN gL_law_X4_kept rfl rfl rfl (by decide +kernel) ⟨by show d2 + 1 ≤ 11; omega, by show 8 + (2 + 11) + 30 * d2 ≤ 384; omega⟩ (q0 := 0) (ci := 4) hq rfl rfl rfl rfl (Nat.le_of_ble_eq_true rfl) dL_law_822 ⟨by show cells + mc + mc2 ≤ 601024; omega, by show slots + ms + ms2 ≤ 7293034; omega⟩ ?_
  refine y_istore C dL_law_825 (Nat.le_of_ble_eq_true rfl) rfl ?_
  refine y_aload_n C 4 dL_law_827 rfl rfl ?_
  refine y_callI C.s1 (wr := WO cJ o f' ++ wc') (st := []) 0 hT gL_law_X4_thrown rfl rfl rfl (by decide +kernel) ⟨Nat.le_of_ble_eq_true rfl, Nat.le_of_ble_eq_true rfl⟩ (q0 := 0) (ci := 4) hq2 rfl rfl rfl rfl (Nat.le_of_ble_eq_true rfl) dL_law_828 ⟨by show cells + mc + mc2 + 0 ≤ 601024; omega, by show slots + ms + ms2 + 0 ≤ 7293034; omega⟩ ?_
  refine y_iload C 1 dL_law_831 rfl ?_
  refine y_icmpN_eq C (tgt := 838) dL_law_833 rfl hkk hkk (fun _ => ?_) (fun h => absurd rfl h)
  refine y_iload C 1 dL_law_838 rfl ?_
  refine y_ifN_ne C (tgt := 855) dL_law_840 rfl hkk (fun _ => ?_) (fun h0 => ?_)
  · refine y_goto C (tgt := 1714) dL_law_855 rfl ?_
    refine y_swap ?_
    refine y_sub (lv' := [(4, .int (nI i)), (3, .ref o), (2, .ref am), (1, .ref x), (0, .ref b)]) [2, 3, 4, 5, 6] rfl ?_
    exact y_widen (by omega) (by omega) kk
  · refine y_aload_n C 3 dL_law_843 rfl rfl ?_
    refine y_iconst C (v := nI 0) dL_law_844 rfl ?_
    refine y_lald C (q0 := 0) (t0 := 1) (j := 0) rfl rfl (Nat.le_of_ble_eq_true rfl) (Nat.le_of_ble_eq_true rfl) dL_law_845 ?_
    refine y_iload C 0 dL_law_846 rfl ?_
    refine y_i2l C dL_law_848 rfl ?_
    refine y_lcmp C dL_law_849 ?_
    refine y_if_eq C (tgt := 855) dL_law_850 rfl (fun _ => ?_) (fun h => absurd (yl_c.mpr (hk h0)) h)
    refine y_goto C (tgt := 1714) dL_law_855 rfl ?_
    refine y_swap ?_
    refine y_sub (lv' := [(4, .int (nI i)), (3, .ref o), (2, .ref am), (1, .ref x), (0, .ref b)]) [2, 3, 4, 5, 6] rfl ?_
    exact y_widen (by omega) (by omega) kk
set_option maxRecDepth 100000 in
theorem k_early {p : Program} {l : Launch} {e : Env} {s : State} {m : MethodId} {args : Array Value} {below : List Frame} {meth : Method} {c : Code} {Q : State → Prop} {cells slots : Nat} {D : va_G} {cI cJ : ClassId} {A : Nat → Prop} {sa : Nat → Nat} {b L : Nat} {xs : Nat → Int32} {i x o am : Nat} (X : yLx p s m args meth c D cI cJ A sa b L xs) (hi : i + 4 ≤ L) {p1 : Int32} (e1 : xs (i + 1) = p1) {wm wm' wc wc' : va_W} {f f' : Nat → Int64} {k : Nat} {r : Int32} {d mc ms d2 mc2 ms2 : Nat} {fs fs2 : List Value}
    (hH : ctH l yL_early wsL_early (rmD d mc ms) sa D [(cI, .int), (cJ, .long)] [.ref x, .int p1, .ref o] (WO cJ o f ++ wc) (WO cJ o f' ++ wc') (nI k) mc ms)
    (hN : ctI l yX4_early wsX4_early (rmD d2 mc2 ms2) D [(cI, .int)] [.ref am, .int p1] wm wm' r mc2 ms2)
    (hT : ctI l yX4_thrown wsX4_thrown (rmD 0 0 0) D [(cI, .int)] [.ref am] wm' wm' (nI k) 0 0) (hq : wm[0]? = some (am, .inr (4, fs))) (hq2 : wm'[0]? = some (am, .inr (4, fs2)))
    (hk : k = 0 → f' 0 = r.toInt64) (hkk : k < 2 ^ 31) (hd : d ≤ 9 ∧ mc ≤ 1 ∧ ms ≤ 6) (hd2 : d2 ≤ 9 ∧ mc2 ≤ 2 ∧ ms2 ≤ 120) (hc : cells + 3 ≤ 601024 ∧ slots + 126 ≤ 7293034)
    (kk : yW p l e room_1 s m args below meth c 7 D A Q (cells + 3) (slots + 126) (wm' ++ (WO cJ o f' ++ wc')) 1714 [(4, .int (nI i)), (3, .ref o), (2, .ref am), (1, .ref x), (0, .ref b)] []) : yW p l e room_1 s m args below meth c 7 D A Q cells slots (wm ++ (WO cJ o f ++ wc)) 858 [(4, .int (nI i)), (3, .ref o), (2, .ref am), (1, .ref x), (0, .ref b)] [] := by
  obtain ⟨C, hE, hX, hbl, hbA, hL⟩ := X
  refine y_aload_n C 3 dL_law_858 rfl rfl ?_
  refine y_aload_n C 4 dL_law_859 rfl rfl ?_
  refine y_iload C 0 dL_law_860 rfl ?_
  refine y_iconst C (v := nI 1) dL_law_862 rfl ?_
  refine y_iaddN C dL_law_863 ?_
  refine y_sld C hX hbl hbA (by omega) hL dL_law_864 ?_
  refine y_topE e1 ?_
  refine y_aload_n C 1 dL_law_865 rfl rfl ?_
  refine y_callS C hE (wr := wm) (st := []) 3 hH gL_law_L_early rfl rfl rfl (by decide +kernel) ⟨by show d + 1 ≤ 11; omega, by show 8 + (4 + 11) + 30 * d ≤ 384; omega⟩ rfl rfl rfl (Nat.le_of_ble_eq_true rfl) dL_law_866 ⟨by show cells + mc ≤ 601024; omega, by show slots + ms ≤ 7293034; omega⟩ ?_
  refine y_istore C dL_law_869 (Nat.le_of_ble_eq_true rfl) rfl ?_
  refine y_aload_n C 3 dL_law_871 rfl rfl ?_
  refine y_aload_n C 5 dL_law_872 rfl rfl ?_
  refine y_iload C 1 dL_law_873 rfl ?_
  refine y_iconst C (v := nI 1) dL_law_875 rfl ?_
  refine y_iaddN C dL_law_876 ?_
  refine y_sld C hX hbl hbA (by omega) hL dL_law_877 ?_
  refine y_topE e1 ?_
  refine y_swap ?_
  refine y_callI C.s1 (wr := WO cJ o f' ++ wc') (st := []) 1 hN gL_law_X4_early rfl rfl rfl (by decide +kernel) ⟨by show d2 + 1 ≤ 11; omega, by show 8 + (2 + 11) + 30 * d2 ≤ 384; omega⟩ (q0 := 0) (ci := 4) hq rfl rfl rfl rfl (Nat.le_of_ble_eq_true rfl) dL_law_878 ⟨by show cells + mc + mc2 ≤ 601024; omega, by show slots + ms + ms2 ≤ 7293034; omega⟩ ?_
  refine y_istore C dL_law_881 (Nat.le_of_ble_eq_true rfl) rfl ?_
  refine y_aload_n C 4 dL_law_883 rfl rfl ?_
  refine y_callI C.s1 (wr := WO cJ o f' ++ wc') (st := []) 0 hT gL_law_X4_thrown rfl rfl rfl (by decide +kernel) ⟨Nat.le_of_ble_eq_true rfl, Nat.le_of_ble_eq_true rfl⟩ (q0 := 0) (ci := 4) hq2 rfl rfl rfl rfl (Nat.le_of_ble_eq_true rfl) dL_law_884 ⟨by show cells + mc + mc2 + 0 ≤ 601024; omega, by show slots + ms + ms2 + 0 ≤ 7293034; omega⟩ ?_
  refine y_iload C 1 dL_law_887 rfl ?_
  refine y_icmpN_eq C (tgt := 894) dL_law_889 rfl hkk hkk (fun _ => ?_) (fun h => absurd rfl h)
  refine y_iload C 1 dL_law_894 rfl ?_
  refine y_ifN_ne C (tgt := 911) dL_law_896 rfl hkk (fun _ => ?_) (fun h0 => ?_)
  · refine y_goto C (tgt := 1714) dL_law_911 rfl ?_
    refine y_swap ?_
    refine y_sub (lv' := [(4, .int (nI i)), (3, .ref o), (2, .ref am), (1, .ref x), (0, .ref b)]) [2, 3, 4, 5, 6] rfl ?_
    exact y_widen (by omega) (by omega) kk
  · refine y_aload_n C 3 dL_law_899 rfl rfl ?_
    refine y_iconst C (v := nI 0) dL_law_900 rfl ?_
    refine y_lald C (q0 := 0) (t0 := 1) (j := 0) rfl rfl (Nat.le_of_ble_eq_true rfl) (Nat.le_of_ble_eq_true rfl) dL_law_901 ?_
    refine y_iload C 0 dL_law_902 rfl ?_
    refine y_i2l C dL_law_904 rfl ?_
    refine y_lcmp C dL_law_905 ?_
    refine y_if_eq C (tgt := 911) dL_law_906 rfl (fun _ => ?_) (fun h => absurd (yl_c.mpr (hk h0)) h)
    refine y_goto C (tgt := 1714) dL_law_911 rfl ?_
    refine y_swap ?_
    refine y_sub (lv' := [(4, .int (nI i)), (3, .ref o), (2, .ref am), (1, .ref x), (0, .ref b)]) [2, 3, 4, 5, 6] rfl ?_
    exact y_widen (by omega) (by omega) kk
set_option maxRecDepth 100000 in
theorem k_late {p : Program} {l : Launch} {e : Env} {s : State} {m : MethodId} {args : Array Value} {below : List Frame} {meth : Method} {c : Code} {Q : State → Prop} {cells slots : Nat} {D : va_G} {cI cJ : ClassId} {A : Nat → Prop} {sa : Nat → Nat} {b L : Nat} {xs : Nat → Int32} {i x o am : Nat} (X : yLx p s m args meth c D cI cJ A sa b L xs) (hi : i + 4 ≤ L) {p1 : Int32} (e1 : xs (i + 1) = p1) {wm wm' wc wc' : va_W} {f f' : Nat → Int64} {k : Nat} {r : Int32} {d mc ms d2 mc2 ms2 : Nat} {fs fs2 : List Value}
    (hH : ctH l yL_late wsL_late (rmD d mc ms) sa D [(cI, .int), (cJ, .long)] [.ref x, .int p1, .ref o] (WO cJ o f ++ wc) (WO cJ o f' ++ wc') (nI k) mc ms)
    (hN : ctI l yX4_late wsX4_late (rmD d2 mc2 ms2) D [(cI, .int)] [.ref am, .int p1] wm wm' r mc2 ms2)
    (hT : ctI l yX4_thrown wsX4_thrown (rmD 0 0 0) D [(cI, .int)] [.ref am] wm' wm' (nI k) 0 0) (hq : wm[0]? = some (am, .inr (4, fs))) (hq2 : wm'[0]? = some (am, .inr (4, fs2)))
    (hk : k = 0 → f' 0 = r.toInt64) (hkk : k < 2 ^ 31) (hd : d ≤ 9 ∧ mc ≤ 1 ∧ ms ≤ 6) (hd2 : d2 ≤ 9 ∧ mc2 ≤ 2 ∧ ms2 ≤ 120) (hc : cells + 3 ≤ 601024 ∧ slots + 126 ≤ 7293034)
    (kk : yW p l e room_1 s m args below meth c 7 D A Q (cells + 3) (slots + 126) (wm' ++ (WO cJ o f' ++ wc')) 1714 [(4, .int (nI i)), (3, .ref o), (2, .ref am), (1, .ref x), (0, .ref b)] []) : yW p l e room_1 s m args below meth c 7 D A Q cells slots (wm ++ (WO cJ o f ++ wc)) 914 [(4, .int (nI i)), (3, .ref o), (2, .ref am), (1, .ref x), (0, .ref b)] [] := by
  obtain ⟨C, hE, hX, hbl, hbA, hL⟩ := X
  refine y_aload_n C 3 dL_law_914 rfl rfl ?_
  refine y_aload_n C 4 dL_law_915 rfl rfl ?_
  refine y_iload C 0 dL_law_916 rfl ?_
  refine y_iconst C (v := nI 1) dL_law_918 rfl ?_
  refine y_iaddN C dL_law_919 ?_
  refine y_sld C hX hbl hbA (by omega) hL dL_law_920 ?_
  refine y_topE e1 ?_
  refine y_aload_n C 1 dL_law_921 rfl rfl ?_
  refine y_callS C hE (wr := wm) (st := []) 3 hH gL_law_L_late rfl rfl rfl (by decide +kernel) ⟨by show d + 1 ≤ 11; omega, by show 8 + (4 + 11) + 30 * d ≤ 384; omega⟩ rfl rfl rfl (Nat.le_of_ble_eq_true rfl) dL_law_922 ⟨by show cells + mc ≤ 601024; omega, by show slots + ms ≤ 7293034; omega⟩ ?_
  refine y_istore C dL_law_925 (Nat.le_of_ble_eq_true rfl) rfl ?_
  refine y_aload_n C 3 dL_law_927 rfl rfl ?_
  refine y_aload_n C 5 dL_law_928 rfl rfl ?_
  refine y_iload C 1 dL_law_929 rfl ?_
  refine y_iconst C (v := nI 1) dL_law_931 rfl ?_
  refine y_iaddN C dL_law_932 ?_
  refine y_sld C hX hbl hbA (by omega) hL dL_law_933 ?_
  refine y_topE e1 ?_
  refine y_swap ?_
  refine y_callI C.s1 (wr := WO cJ o f' ++ wc') (st := []) 1 hN gL_law_X4_late rfl rfl rfl (by decide +kernel) ⟨by show d2 + 1 ≤ 11; omega, by show 8 + (2 + 11) + 30 * d2 ≤ 384; omega⟩ (q0 := 0) (ci := 4) hq rfl rfl rfl rfl (Nat.le_of_ble_eq_true rfl) dL_law_934 ⟨by show cells + mc + mc2 ≤ 601024; omega, by show slots + ms + ms2 ≤ 7293034; omega⟩ ?_
  refine y_istore C dL_law_937 (Nat.le_of_ble_eq_true rfl) rfl ?_
  refine y_aload_n C 4 dL_law_939 rfl rfl ?_
  refine y_callI C.s1 (wr := WO cJ o f' ++ wc') (st := []) 0 hT gL_law_X4_thrown rfl rfl rfl (by decide +kernel) ⟨Nat.le_of_ble_eq_true rfl, Nat.le_of_ble_eq_true rfl⟩ (q0 := 0) (ci := 4) hq2 rfl rfl rfl rfl (Nat.le_of_ble_eq_true rfl) dL_law_940 ⟨by show cells + mc + mc2 + 0 ≤ 601024; omega, by show slots + ms + ms2 + 0 ≤ 7293034; omega⟩ ?_
  refine y_iload C 1 dL_law_943 rfl ?_
  refine y_icmpN_eq C (tgt := 950) dL_law_945 rfl hkk hkk (fun _ => ?_) (fun h => absurd rfl h)
  refine y_iload C 1 dL_law_950 rfl ?_
  refine y_ifN_ne C (tgt := 967) dL_law_952 rfl hkk (fun _ => ?_) (fun h0 => ?_)
  · refine y_goto C (tgt := 1714) dL_law_967 rfl ?_
    refine y_swap ?_
    refine y_sub (lv' := [(4, .int (nI i)), (3, .ref o), (2, .ref am), (1, .ref x), (0, .ref b)]) [2, 3, 4, 5, 6] rfl ?_
    exact y_widen (by omega) (by omega) kk
  · refine y_aload_n C 3 dL_law_955 rfl rfl ?_
    refine y_iconst C (v := nI 0) dL_law_956 rfl ?_
    refine y_lald C (q0 := 0) (t0 := 1) (j := 0) rfl rfl (Nat.le_of_ble_eq_true rfl) (Nat.le_of_ble_eq_true rfl) dL_law_957 ?_
    refine y_iload C 0 dL_law_958 rfl ?_
    refine y_i2l C dL_law_960 rfl ?_
    refine y_lcmp C dL_law_961 ?_
    refine y_if_eq C (tgt := 967) dL_law_962 rfl (fun _ => ?_) (fun h => absurd (yl_c.mpr (hk h0)) h)
    refine y_goto C (tgt := 1714) dL_law_967 rfl ?_
    refine y_swap ?_
    refine y_sub (lv' := [(4, .int (nI i)), (3, .ref o), (2, .ref am), (1, .ref x), (0, .ref b)]) [2, 3, 4, 5, 6] rfl ?_
    exact y_widen (by omega) (by omega) kk
set_option maxRecDepth 100000 in
theorem k_needed {p : Program} {l : Launch} {e : Env} {s : State} {m : MethodId} {args : Array Value} {below : List Frame} {meth : Method} {c : Code} {Q : State → Prop} {cells slots : Nat} {D : va_G} {cI cJ : ClassId} {A : Nat → Prop} {sa : Nat → Nat} {b L : Nat} {xs : Nat → Int32} {i x o am : Nat} (X : yLx p s m args meth c D cI cJ A sa b L xs) (hi : i + 4 ≤ L) {z : Nat} (hz : (xs (i + 2) = 0 ∧ z = 0) ∨ (¬ xs (i + 2) = 0 ∧ z = 1)) {p1 : Int32} (e1 : xs (i + 1) = p1) {wm wm' wc wc' : va_W} {f f' : Nat → Int64} {k : Nat} {r : Int32} {d mc ms d2 mc2 ms2 : Nat} {fs fs2 : List Value}
    (hH : ctH l yL_needed wsL_needed (rmD d mc ms) sa D [(cI, .int), (cJ, .long)] [.ref x, .int p1, .int (nI z), .ref o] (WO cJ o f ++ wc) (WO cJ o f' ++ wc') (nI k) mc ms)
    (hN : ctI l yX4_needed wsX4_needed (rmD d2 mc2 ms2) D [(cI, .int)] [.ref am, .int p1, .int (nI z)] wm wm' r mc2 ms2)
    (hT : ctI l yX4_thrown wsX4_thrown (rmD 0 0 0) D [(cI, .int)] [.ref am] wm' wm' (nI k) 0 0) (hq : wm[0]? = some (am, .inr (4, fs))) (hq2 : wm'[0]? = some (am, .inr (4, fs2)))
    (hk : k = 0 → f' 0 = r.toInt64) (hkk : k < 2 ^ 31) (hd : d ≤ 9 ∧ mc ≤ 1 ∧ ms ≤ 6) (hd2 : d2 ≤ 9 ∧ mc2 ≤ 2 ∧ ms2 ≤ 120) (hc : cells + 3 ≤ 601024 ∧ slots + 126 ≤ 7293034)
    (kk : yW p l e room_1 s m args below meth c 7 D A Q (cells + 3) (slots + 126) (wm' ++ (WO cJ o f' ++ wc')) 1714 [(4, .int (nI i)), (3, .ref o), (2, .ref am), (1, .ref x), (0, .ref b)] []) : yW p l e room_1 s m args below meth c 7 D A Q cells slots (wm ++ (WO cJ o f ++ wc)) 970 [(4, .int (nI i)), (3, .ref o), (2, .ref am), (1, .ref x), (0, .ref b)] [] := by
  obtain ⟨C, hE, hX, hbl, hbA, hL⟩ := X
  rcases hz with ⟨hz, rfl⟩ | ⟨hz, rfl⟩
  · refine y_aload_n C 3 dL_law_970 rfl rfl ?_
    refine y_aload_n C 4 dL_law_971 rfl rfl ?_
    refine y_iload C 0 dL_law_972 rfl ?_
    refine y_iconst C (v := nI 1) dL_law_974 rfl ?_
    refine y_iaddN C dL_law_975 ?_
    refine y_sld C hX hbl hbA (by omega) hL dL_law_976 ?_
    refine y_topE e1 ?_
    refine y_aload_n C 4 dL_law_977 rfl rfl ?_
    refine y_iload C 0 dL_law_978 rfl ?_
    refine y_iconst C (v := nI 2) dL_law_980 rfl ?_
    refine y_iaddN C dL_law_981 ?_
    refine y_sld C hX hbl hbA (by omega) hL dL_law_982 ?_
    refine y_if_eq C (tgt := 990) dL_law_983 rfl (fun _ => ?_) (fun h => absurd hz h)
    refine y_iconst C (v := nI 0) dL_law_990 rfl ?_
    refine y_aload_n C 1 dL_law_991 rfl rfl ?_
    refine y_callS C hE (wr := wm) (st := []) 4 hH gL_law_L_needed rfl rfl rfl (by decide +kernel) ⟨by show d + 1 ≤ 11; omega, by show 8 + (5 + 11) + 30 * d ≤ 384; omega⟩ rfl rfl rfl (Nat.le_of_ble_eq_true rfl) dL_law_992 ⟨by show cells + mc ≤ 601024; omega, by show slots + ms ≤ 7293034; omega⟩ ?_
    refine y_istore C dL_law_995 (Nat.le_of_ble_eq_true rfl) rfl ?_
    refine y_aload_n C 3 dL_law_997 rfl rfl ?_
    refine y_aload_n C 5 dL_law_998 rfl rfl ?_
    refine y_iload C 1 dL_law_999 rfl ?_
    refine y_iconst C (v := nI 1) dL_law_1001 rfl ?_
    refine y_iaddN C dL_law_1002 ?_
    refine y_sld C hX hbl hbA (by omega) hL dL_law_1003 ?_
    refine y_topE e1 ?_
    refine y_aload_n C 5 dL_law_1004 rfl rfl ?_
    refine y_iload C 1 dL_law_1005 rfl ?_
    refine y_iconst C (v := nI 2) dL_law_1007 rfl ?_
    refine y_iaddN C dL_law_1008 ?_
    refine y_sld C hX hbl hbA (by omega) hL dL_law_1009 ?_
    refine y_if_eq C (tgt := 1017) dL_law_1010 rfl (fun _ => ?_) (fun h => absurd hz h)
    refine y_iconst C (v := nI 0) dL_law_1017 rfl ?_
    refine y_swap ?_
    refine y_callI C.s1 (wr := WO cJ o f' ++ wc') (st := []) 2 hN gL_law_X4_needed rfl rfl rfl (by decide +kernel) ⟨by show d2 + 1 ≤ 11; omega, by show 8 + (3 + 11) + 30 * d2 ≤ 384; omega⟩ (q0 := 0) (ci := 4) hq rfl rfl rfl rfl (Nat.le_of_ble_eq_true rfl) dL_law_1018 ⟨by show cells + mc + mc2 ≤ 601024; omega, by show slots + ms + ms2 ≤ 7293034; omega⟩ ?_
    refine y_istore C dL_law_1021 (Nat.le_of_ble_eq_true rfl) rfl ?_
    refine y_aload_n C 4 dL_law_1023 rfl rfl ?_
    refine y_callI C.s1 (wr := WO cJ o f' ++ wc') (st := []) 0 hT gL_law_X4_thrown rfl rfl rfl (by decide +kernel) ⟨Nat.le_of_ble_eq_true rfl, Nat.le_of_ble_eq_true rfl⟩ (q0 := 0) (ci := 4) hq2 rfl rfl rfl rfl (Nat.le_of_ble_eq_true rfl) dL_law_1024 ⟨by show cells + mc + mc2 + 0 ≤ 601024; omega, by show slots + ms + ms2 + 0 ≤ 7293034; omega⟩ ?_
    refine y_iload C 1 dL_law_1027 rfl ?_
    refine y_icmpN_eq C (tgt := 1034) dL_law_1029 rfl hkk hkk (fun _ => ?_) (fun h => absurd rfl h)
    refine y_iload C 1 dL_law_1034 rfl ?_
    refine y_ifN_ne C (tgt := 1051) dL_law_1036 rfl hkk (fun _ => ?_) (fun h0 => ?_)
    · refine y_goto C (tgt := 1714) dL_law_1051 rfl ?_
      refine y_swap ?_
      refine y_sub (lv' := [(4, .int (nI i)), (3, .ref o), (2, .ref am), (1, .ref x), (0, .ref b)]) [2, 3, 4, 5, 6] rfl ?_
      exact y_widen (by omega) (by omega) kk
    · refine y_aload_n C 3 dL_law_1039 rfl rfl ?_
      refine y_iconst C (v := nI 0) dL_law_1040 rfl ?_
      refine y_lald C (q0 := 0) (t0 := 1) (j := 0) rfl rfl (Nat.le_of_ble_eq_true rfl) (Nat.le_of_ble_eq_true rfl) dL_law_1041 ?_
      refine y_iload C 0 dL_law_1042 rfl ?_
      refine y_i2l C dL_law_1044 rfl ?_
      refine y_lcmp C dL_law_1045 ?_
      refine y_if_eq C (tgt := 1051) dL_law_1046 rfl (fun _ => ?_) (fun h => absurd (yl_c.mpr (hk h0)) h)
      refine y_goto C (tgt := 1714) dL_law_1051 rfl ?_
      refine y_swap ?_
      refine y_sub (lv' := [(4, .int (nI i)), (3, .ref o), (2, .ref am), (1, .ref x), (0, .ref b)]) [2, 3, 4, 5, 6] rfl ?_
      exact y_widen (by omega) (by omega) kk
  · refine y_aload_n C 3 dL_law_970 rfl rfl ?_
    refine y_aload_n C 4 dL_law_971 rfl rfl ?_
    refine y_iload C 0 dL_law_972 rfl ?_
    refine y_iconst C (v := nI 1) dL_law_974 rfl ?_
    refine y_iaddN C dL_law_975 ?_
    refine y_sld C hX hbl hbA (by omega) hL dL_law_976 ?_
    refine y_topE e1 ?_
    refine y_aload_n C 4 dL_law_977 rfl rfl ?_
    refine y_iload C 0 dL_law_978 rfl ?_
    refine y_iconst C (v := nI 2) dL_law_980 rfl ?_
    refine y_iaddN C dL_law_981 ?_
    refine y_sld C hX hbl hbA (by omega) hL dL_law_982 ?_
    refine y_if_eq C (tgt := 990) dL_law_983 rfl (fun h => absurd h hz) (fun _ => ?_)
    refine y_iconst C (v := nI 1) dL_law_986 rfl ?_
    refine y_goto C (tgt := 991) dL_law_987 rfl ?_
    refine y_aload_n C 1 dL_law_991 rfl rfl ?_
    refine y_callS C hE (wr := wm) (st := []) 4 hH gL_law_L_needed rfl rfl rfl (by decide +kernel) ⟨by show d + 1 ≤ 11; omega, by show 8 + (5 + 11) + 30 * d ≤ 384; omega⟩ rfl rfl rfl (Nat.le_of_ble_eq_true rfl) dL_law_992 ⟨by show cells + mc ≤ 601024; omega, by show slots + ms ≤ 7293034; omega⟩ ?_
    refine y_istore C dL_law_995 (Nat.le_of_ble_eq_true rfl) rfl ?_
    refine y_aload_n C 3 dL_law_997 rfl rfl ?_
    refine y_aload_n C 5 dL_law_998 rfl rfl ?_
    refine y_iload C 1 dL_law_999 rfl ?_
    refine y_iconst C (v := nI 1) dL_law_1001 rfl ?_
    refine y_iaddN C dL_law_1002 ?_
    refine y_sld C hX hbl hbA (by omega) hL dL_law_1003 ?_
    refine y_topE e1 ?_
    refine y_aload_n C 5 dL_law_1004 rfl rfl ?_
    refine y_iload C 1 dL_law_1005 rfl ?_
    refine y_iconst C (v := nI 2) dL_law_1007 rfl ?_
    refine y_iaddN C dL_law_1008 ?_
    refine y_sld C hX hbl hbA (by omega) hL dL_law_1009 ?_
    refine y_if_eq C (tgt := 1017) dL_law_1010 rfl (fun h => absurd h hz) (fun _ => ?_)
    refine y_iconst C (v := nI 1) dL_law_1013 rfl ?_
    refine y_goto C (tgt := 1018) dL_law_1014 rfl ?_
    refine y_swap ?_
    refine y_callI C.s1 (wr := WO cJ o f' ++ wc') (st := []) 2 hN gL_law_X4_needed rfl rfl rfl (by decide +kernel) ⟨by show d2 + 1 ≤ 11; omega, by show 8 + (3 + 11) + 30 * d2 ≤ 384; omega⟩ (q0 := 0) (ci := 4) hq rfl rfl rfl rfl (Nat.le_of_ble_eq_true rfl) dL_law_1018 ⟨by show cells + mc + mc2 ≤ 601024; omega, by show slots + ms + ms2 ≤ 7293034; omega⟩ ?_
    refine y_istore C dL_law_1021 (Nat.le_of_ble_eq_true rfl) rfl ?_
    refine y_aload_n C 4 dL_law_1023 rfl rfl ?_
    refine y_callI C.s1 (wr := WO cJ o f' ++ wc') (st := []) 0 hT gL_law_X4_thrown rfl rfl rfl (by decide +kernel) ⟨Nat.le_of_ble_eq_true rfl, Nat.le_of_ble_eq_true rfl⟩ (q0 := 0) (ci := 4) hq2 rfl rfl rfl rfl (Nat.le_of_ble_eq_true rfl) dL_law_1024 ⟨by show cells + mc + mc2 + 0 ≤ 601024; omega, by show slots + ms + ms2 + 0 ≤ 7293034; omega⟩ ?_
    refine y_iload C 1 dL_law_1027 rfl ?_
    refine y_icmpN_eq C (tgt := 1034) dL_law_1029 rfl hkk hkk (fun _ => ?_) (fun h => absurd rfl h)
    refine y_iload C 1 dL_law_1034 rfl ?_
    refine y_ifN_ne C (tgt := 1051) dL_law_1036 rfl hkk (fun _ => ?_) (fun h0 => ?_)
    · refine y_goto C (tgt := 1714) dL_law_1051 rfl ?_
      refine y_swap ?_
      refine y_sub (lv' := [(4, .int (nI i)), (3, .ref o), (2, .ref am), (1, .ref x), (0, .ref b)]) [2, 3, 4, 5, 6] rfl ?_
      exact y_widen (by omega) (by omega) kk
    · refine y_aload_n C 3 dL_law_1039 rfl rfl ?_
      refine y_iconst C (v := nI 0) dL_law_1040 rfl ?_
      refine y_lald C (q0 := 0) (t0 := 1) (j := 0) rfl rfl (Nat.le_of_ble_eq_true rfl) (Nat.le_of_ble_eq_true rfl) dL_law_1041 ?_
      refine y_iload C 0 dL_law_1042 rfl ?_
      refine y_i2l C dL_law_1044 rfl ?_
      refine y_lcmp C dL_law_1045 ?_
      refine y_if_eq C (tgt := 1051) dL_law_1046 rfl (fun _ => ?_) (fun h => absurd (yl_c.mpr (hk h0)) h)
      refine y_goto C (tgt := 1714) dL_law_1051 rfl ?_
      refine y_swap ?_
      refine y_sub (lv' := [(4, .int (nI i)), (3, .ref o), (2, .ref am), (1, .ref x), (0, .ref b)]) [2, 3, 4, 5, 6] rfl ?_
      exact y_widen (by omega) (by omega) kk
set_option maxRecDepth 100000 in
theorem k_there {p : Program} {l : Launch} {e : Env} {s : State} {m : MethodId} {args : Array Value} {below : List Frame} {meth : Method} {c : Code} {Q : State → Prop} {cells slots : Nat} {D : va_G} {cI cJ : ClassId} {A : Nat → Prop} {sa : Nat → Nat} {b L : Nat} {xs : Nat → Int32} {i x o am : Nat} (X : yLx p s m args meth c D cI cJ A sa b L xs) (hi : i + 4 ≤ L) {z : Nat} (hz : (xs (i + 2) = 0 ∧ z = 0) ∨ (¬ xs (i + 2) = 0 ∧ z = 1)) {p1 : Int32} (e1 : xs (i + 1) = p1) {wm wm' wc wc' : va_W} {f f' : Nat → Int64} {k : Nat} {r : Int32} {d mc ms d2 mc2 ms2 : Nat} {fs fs2 : List Value}
    (hH : ctH l yL_there wsL_there (rmD d mc ms) sa D [(cI, .int), (cJ, .long)] [.ref x, .int p1, .int (nI z), .ref o] (WO cJ o f ++ wc) (WO cJ o f' ++ wc') (nI k) mc ms)
    (hN : ctI l yX4_there wsX4_there (rmD d2 mc2 ms2) D [(cI, .int)] [.ref am, .int p1, .int (nI z)] wm wm' r mc2 ms2)
    (hT : ctI l yX4_thrown wsX4_thrown (rmD 0 0 0) D [(cI, .int)] [.ref am] wm' wm' (nI k) 0 0) (hq : wm[0]? = some (am, .inr (4, fs))) (hq2 : wm'[0]? = some (am, .inr (4, fs2)))
    (hk : k = 0 → f' 0 = r.toInt64) (hkk : k < 2 ^ 31) (hd : d ≤ 9 ∧ mc ≤ 1 ∧ ms ≤ 6) (hd2 : d2 ≤ 9 ∧ mc2 ≤ 2 ∧ ms2 ≤ 120) (hc : cells + 3 ≤ 601024 ∧ slots + 126 ≤ 7293034)
    (kk : yW p l e room_1 s m args below meth c 7 D A Q (cells + 3) (slots + 126) (wm' ++ (WO cJ o f' ++ wc')) 1714 [(4, .int (nI i)), (3, .ref o), (2, .ref am), (1, .ref x), (0, .ref b)] []) : yW p l e room_1 s m args below meth c 7 D A Q cells slots (wm ++ (WO cJ o f ++ wc)) 1054 [(4, .int (nI i)), (3, .ref o), (2, .ref am), (1, .ref x), (0, .ref b)] [] := by
  obtain ⟨C, hE, hX, hbl, hbA, hL⟩ := X
  rcases hz with ⟨hz, rfl⟩ | ⟨hz, rfl⟩
  · refine y_aload_n C 3 dL_law_1054 rfl rfl ?_
    refine y_aload_n C 4 dL_law_1055 rfl rfl ?_
    refine y_iload C 0 dL_law_1056 rfl ?_
    refine y_iconst C (v := nI 1) dL_law_1058 rfl ?_
    refine y_iaddN C dL_law_1059 ?_
    refine y_sld C hX hbl hbA (by omega) hL dL_law_1060 ?_
    refine y_topE e1 ?_
    refine y_aload_n C 4 dL_law_1061 rfl rfl ?_
    refine y_iload C 0 dL_law_1062 rfl ?_
    refine y_iconst C (v := nI 2) dL_law_1064 rfl ?_
    refine y_iaddN C dL_law_1065 ?_
    refine y_sld C hX hbl hbA (by omega) hL dL_law_1066 ?_
    refine y_if_eq C (tgt := 1074) dL_law_1067 rfl (fun _ => ?_) (fun h => absurd hz h)
    refine y_iconst C (v := nI 0) dL_law_1074 rfl ?_
    refine y_aload_n C 1 dL_law_1075 rfl rfl ?_
    refine y_callS C hE (wr := wm) (st := []) 4 hH gL_law_L_there rfl rfl rfl (by decide +kernel) ⟨by show d + 1 ≤ 11; omega, by show 8 + (5 + 11) + 30 * d ≤ 384; omega⟩ rfl rfl rfl (Nat.le_of_ble_eq_true rfl) dL_law_1076 ⟨by show cells + mc ≤ 601024; omega, by show slots + ms ≤ 7293034; omega⟩ ?_
    refine y_istore C dL_law_1079 (Nat.le_of_ble_eq_true rfl) rfl ?_
    refine y_aload_n C 3 dL_law_1081 rfl rfl ?_
    refine y_aload_n C 5 dL_law_1082 rfl rfl ?_
    refine y_iload C 1 dL_law_1083 rfl ?_
    refine y_iconst C (v := nI 1) dL_law_1085 rfl ?_
    refine y_iaddN C dL_law_1086 ?_
    refine y_sld C hX hbl hbA (by omega) hL dL_law_1087 ?_
    refine y_topE e1 ?_
    refine y_aload_n C 5 dL_law_1088 rfl rfl ?_
    refine y_iload C 1 dL_law_1089 rfl ?_
    refine y_iconst C (v := nI 2) dL_law_1091 rfl ?_
    refine y_iaddN C dL_law_1092 ?_
    refine y_sld C hX hbl hbA (by omega) hL dL_law_1093 ?_
    refine y_if_eq C (tgt := 1101) dL_law_1094 rfl (fun _ => ?_) (fun h => absurd hz h)
    refine y_iconst C (v := nI 0) dL_law_1101 rfl ?_
    refine y_swap ?_
    refine y_callI C.s1 (wr := WO cJ o f' ++ wc') (st := []) 2 hN gL_law_X4_there rfl rfl rfl (by decide +kernel) ⟨by show d2 + 1 ≤ 11; omega, by show 8 + (3 + 11) + 30 * d2 ≤ 384; omega⟩ (q0 := 0) (ci := 4) hq rfl rfl rfl rfl (Nat.le_of_ble_eq_true rfl) dL_law_1102 ⟨by show cells + mc + mc2 ≤ 601024; omega, by show slots + ms + ms2 ≤ 7293034; omega⟩ ?_
    refine y_istore C dL_law_1105 (Nat.le_of_ble_eq_true rfl) rfl ?_
    refine y_aload_n C 4 dL_law_1107 rfl rfl ?_
    refine y_callI C.s1 (wr := WO cJ o f' ++ wc') (st := []) 0 hT gL_law_X4_thrown rfl rfl rfl (by decide +kernel) ⟨Nat.le_of_ble_eq_true rfl, Nat.le_of_ble_eq_true rfl⟩ (q0 := 0) (ci := 4) hq2 rfl rfl rfl rfl (Nat.le_of_ble_eq_true rfl) dL_law_1108 ⟨by show cells + mc + mc2 + 0 ≤ 601024; omega, by show slots + ms + ms2 + 0 ≤ 7293034; omega⟩ ?_
    refine y_iload C 1 dL_law_1111 rfl ?_
    refine y_icmpN_eq C (tgt := 1118) dL_law_1113 rfl hkk hkk (fun _ => ?_) (fun h => absurd rfl h)
    refine y_iload C 1 dL_law_1118 rfl ?_
    refine y_ifN_ne C (tgt := 1135) dL_law_1120 rfl hkk (fun _ => ?_) (fun h0 => ?_)
    · refine y_goto C (tgt := 1714) dL_law_1135 rfl ?_
      refine y_swap ?_
      refine y_sub (lv' := [(4, .int (nI i)), (3, .ref o), (2, .ref am), (1, .ref x), (0, .ref b)]) [2, 3, 4, 5, 6] rfl ?_
      exact y_widen (by omega) (by omega) kk
    · refine y_aload_n C 3 dL_law_1123 rfl rfl ?_
      refine y_iconst C (v := nI 0) dL_law_1124 rfl ?_
      refine y_lald C (q0 := 0) (t0 := 1) (j := 0) rfl rfl (Nat.le_of_ble_eq_true rfl) (Nat.le_of_ble_eq_true rfl) dL_law_1125 ?_
      refine y_iload C 0 dL_law_1126 rfl ?_
      refine y_i2l C dL_law_1128 rfl ?_
      refine y_lcmp C dL_law_1129 ?_
      refine y_if_eq C (tgt := 1135) dL_law_1130 rfl (fun _ => ?_) (fun h => absurd (yl_c.mpr (hk h0)) h)
      refine y_goto C (tgt := 1714) dL_law_1135 rfl ?_
      refine y_swap ?_
      refine y_sub (lv' := [(4, .int (nI i)), (3, .ref o), (2, .ref am), (1, .ref x), (0, .ref b)]) [2, 3, 4, 5, 6] rfl ?_
      exact y_widen (by omega) (by omega) kk
  · refine y_aload_n C 3 dL_law_1054 rfl rfl ?_
    refine y_aload_n C 4 dL_law_1055 rfl rfl ?_
    refine y_iload C 0 dL_law_1056 rfl ?_
    refine y_iconst C (v := nI 1) dL_law_1058 rfl ?_
    refine y_iaddN C dL_law_1059 ?_
    refine y_sld C hX hbl hbA (by omega) hL dL_law_1060 ?_
    refine y_topE e1 ?_
    refine y_aload_n C 4 dL_law_1061 rfl rfl ?_
    refine y_iload C 0 dL_law_1062 rfl ?_
    refine y_iconst C (v := nI 2) dL_law_1064 rfl ?_
    refine y_iaddN C dL_law_1065 ?_
    refine y_sld C hX hbl hbA (by omega) hL dL_law_1066 ?_
    refine y_if_eq C (tgt := 1074) dL_law_1067 rfl (fun h => absurd h hz) (fun _ => ?_)
    refine y_iconst C (v := nI 1) dL_law_1070 rfl ?_
    refine y_goto C (tgt := 1075) dL_law_1071 rfl ?_
    refine y_aload_n C 1 dL_law_1075 rfl rfl ?_
    refine y_callS C hE (wr := wm) (st := []) 4 hH gL_law_L_there rfl rfl rfl (by decide +kernel) ⟨by show d + 1 ≤ 11; omega, by show 8 + (5 + 11) + 30 * d ≤ 384; omega⟩ rfl rfl rfl (Nat.le_of_ble_eq_true rfl) dL_law_1076 ⟨by show cells + mc ≤ 601024; omega, by show slots + ms ≤ 7293034; omega⟩ ?_
    refine y_istore C dL_law_1079 (Nat.le_of_ble_eq_true rfl) rfl ?_
    refine y_aload_n C 3 dL_law_1081 rfl rfl ?_
    refine y_aload_n C 5 dL_law_1082 rfl rfl ?_
    refine y_iload C 1 dL_law_1083 rfl ?_
    refine y_iconst C (v := nI 1) dL_law_1085 rfl ?_
    refine y_iaddN C dL_law_1086 ?_
    refine y_sld C hX hbl hbA (by omega) hL dL_law_1087 ?_
    refine y_topE e1 ?_
    refine y_aload_n C 5 dL_law_1088 rfl rfl ?_
    refine y_iload C 1 dL_law_1089 rfl ?_
    refine y_iconst C (v := nI 2) dL_law_1091 rfl ?_
    refine y_iaddN C dL_law_1092 ?_
    refine y_sld C hX hbl hbA (by omega) hL dL_law_1093 ?_
    refine y_if_eq C (tgt := 1101) dL_law_1094 rfl (fun h => absurd h hz) (fun _ => ?_)
    refine y_iconst C (v := nI 1) dL_law_1097 rfl ?_
    refine y_goto C (tgt := 1102) dL_law_1098 rfl ?_
    refine y_swap ?_
    refine y_callI C.s1 (wr := WO cJ o f' ++ wc') (st := []) 2 hN gL_law_X4_there rfl rfl rfl (by decide +kernel) ⟨by show d2 + 1 ≤ 11; omega, by show 8 + (3 + 11) + 30 * d2 ≤ 384; omega⟩ (q0 := 0) (ci := 4) hq rfl rfl rfl rfl (Nat.le_of_ble_eq_true rfl) dL_law_1102 ⟨by show cells + mc + mc2 ≤ 601024; omega, by show slots + ms + ms2 ≤ 7293034; omega⟩ ?_
    refine y_istore C dL_law_1105 (Nat.le_of_ble_eq_true rfl) rfl ?_
    refine y_aload_n C 4 dL_law_1107 rfl rfl ?_
    refine y_callI C.s1 (wr := WO cJ o f' ++ wc') (st := []) 0 hT gL_law_X4_thrown rfl rfl rfl (by decide +kernel) ⟨Nat.le_of_ble_eq_true rfl, Nat.le_of_ble_eq_true rfl⟩ (q0 := 0) (ci := 4) hq2 rfl rfl rfl rfl (Nat.le_of_ble_eq_true rfl) dL_law_1108 ⟨by show cells + mc + mc2 + 0 ≤ 601024; omega, by show slots + ms + ms2 + 0 ≤ 7293034; omega⟩ ?_
    refine y_iload C 1 dL_law_1111 rfl ?_
    refine y_icmpN_eq C (tgt := 1118) dL_law_1113 rfl hkk hkk (fun _ => ?_) (fun h => absurd rfl h)
    refine y_iload C 1 dL_law_1118 rfl ?_
    refine y_ifN_ne C (tgt := 1135) dL_law_1120 rfl hkk (fun _ => ?_) (fun h0 => ?_)
    · refine y_goto C (tgt := 1714) dL_law_1135 rfl ?_
      refine y_swap ?_
      refine y_sub (lv' := [(4, .int (nI i)), (3, .ref o), (2, .ref am), (1, .ref x), (0, .ref b)]) [2, 3, 4, 5, 6] rfl ?_
      exact y_widen (by omega) (by omega) kk
    · refine y_aload_n C 3 dL_law_1123 rfl rfl ?_
      refine y_iconst C (v := nI 0) dL_law_1124 rfl ?_
      refine y_lald C (q0 := 0) (t0 := 1) (j := 0) rfl rfl (Nat.le_of_ble_eq_true rfl) (Nat.le_of_ble_eq_true rfl) dL_law_1125 ?_
      refine y_iload C 0 dL_law_1126 rfl ?_
      refine y_i2l C dL_law_1128 rfl ?_
      refine y_lcmp C dL_law_1129 ?_
      refine y_if_eq C (tgt := 1135) dL_law_1130 rfl (fun _ => ?_) (fun h => absurd (yl_c.mpr (hk h0)) h)
      refine y_goto C (tgt := 1714) dL_law_1135 rfl ?_
      refine y_swap ?_
      refine y_sub (lv' := [(4, .int (nI i)), (3, .ref o), (2, .ref am), (1, .ref x), (0, .ref b)]) [2, 3, 4, 5, 6] rfl ?_
      exact y_widen (by omega) (by omega) kk
set_option maxRecDepth 100000 in
theorem k_earliest {p : Program} {l : Launch} {e : Env} {s : State} {m : MethodId} {args : Array Value} {below : List Frame} {meth : Method} {c : Code} {Q : State → Prop} {cells slots : Nat} {D : va_G} {cI cJ : ClassId} {A : Nat → Prop} {sa : Nat → Nat} {b L : Nat} {xs : Nat → Int32} {i x o am : Nat} (X : yLx p s m args meth c D cI cJ A sa b L xs) (hi : i + 4 ≤ L) {p1 : Int32} (e1 : xs (i + 1) = p1) {wm wm' wc wc' : va_W} {f f' : Nat → Int64} {k : Nat} {r : Int32} {d mc ms d2 mc2 ms2 : Nat} {fs fs2 : List Value}
    (hH : ctH l yL_earliest wsL_earliest (rmD d mc ms) sa D [(cI, .int), (cJ, .long)] [.ref x, .int p1, .ref o] (WO cJ o f ++ wc) (WO cJ o f' ++ wc') (nI k) mc ms)
    (hN : ctI l yX4_earliest wsX4_earliest (rmD d2 mc2 ms2) D [(cI, .int)] [.ref am, .int p1] wm wm' r mc2 ms2)
    (hT : ctI l yX4_thrown wsX4_thrown (rmD 0 0 0) D [(cI, .int)] [.ref am] wm' wm' (nI k) 0 0) (hq : wm[0]? = some (am, .inr (4, fs))) (hq2 : wm'[0]? = some (am, .inr (4, fs2)))
    (hk : k = 0 → f' 0 = r.toInt64) (hkk : k < 2 ^ 31) (hd : d ≤ 9 ∧ mc ≤ 1 ∧ ms ≤ 6) (hd2 : d2 ≤ 9 ∧ mc2 ≤ 2 ∧ ms2 ≤ 120) (hc : cells + 3 ≤ 601024 ∧ slots + 126 ≤ 7293034)
    (kk : yW p l e room_1 s m args below meth c 7 D A Q (cells + 3) (slots + 126) (wm' ++ (WO cJ o f' ++ wc')) 1714 [(4, .int (nI i)), (3, .ref o), (2, .ref am), (1, .ref x), (0, .ref b)] []) : yW p l e room_1 s m args below meth c 7 D A Q cells slots (wm ++ (WO cJ o f ++ wc)) 1138 [(4, .int (nI i)), (3, .ref o), (2, .ref am), (1, .ref x), (0, .ref b)] [] := by
  obtain ⟨C, hE, hX, hbl, hbA, hL⟩ := X
  refine y_aload_n C 3 dL_law_1138 rfl rfl ?_
  refine y_aload_n C 4 dL_law_1139 rfl rfl ?_
  refine y_iload C 0 dL_law_1140 rfl ?_
  refine y_iconst C (v := nI 1) dL_law_1142 rfl ?_
  refine y_iaddN C dL_law_1143 ?_
  refine y_sld C hX hbl hbA (by omega) hL dL_law_1144 ?_
  refine y_topE e1 ?_
  refine y_aload_n C 1 dL_law_1145 rfl rfl ?_
  refine y_callS C hE (wr := wm) (st := []) 3 hH gL_law_L_earliest rfl rfl rfl (by decide +kernel) ⟨by show d + 1 ≤ 11; omega, by show 8 + (4 + 11) + 30 * d ≤ 384; omega⟩ rfl rfl rfl (Nat.le_of_ble_eq_true rfl) dL_law_1146 ⟨by show cells + mc ≤ 601024; omega, by show slots + ms ≤ 7293034; omega⟩ ?_
  refine y_istore C dL_law_1149 (Nat.le_of_ble_eq_true rfl) rfl ?_
  refine y_aload_n C 3 dL_law_1151 rfl rfl ?_
  refine y_aload_n C 5 dL_law_1152 rfl rfl ?_
  refine y_iload C 1 dL_law_1153 rfl ?_
  refine y_iconst C (v := nI 1) dL_law_1155 rfl ?_
  refine y_iaddN C dL_law_1156 ?_
  refine y_sld C hX hbl hbA (by omega) hL dL_law_1157 ?_
  refine y_topE e1 ?_
  refine y_swap ?_
  refine y_callI C.s1 (wr := WO cJ o f' ++ wc') (st := []) 1 hN gL_law_X4_earliest rfl rfl rfl (by decide +kernel) ⟨by show d2 + 1 ≤ 11; omega, by show 8 + (2 + 11) + 30 * d2 ≤ 384; omega⟩ (q0 := 0) (ci := 4) hq rfl rfl rfl rfl (Nat.le_of_ble_eq_true rfl) dL_law_1158 ⟨by show cells + mc + mc2 ≤ 601024; omega, by show slots + ms + ms2 ≤ 7293034; omega⟩ ?_
  refine y_istore C dL_law_1161 (Nat.le_of_ble_eq_true rfl) rfl ?_
  refine y_aload_n C 4 dL_law_1163 rfl rfl ?_
  refine y_callI C.s1 (wr := WO cJ o f' ++ wc') (st := []) 0 hT gL_law_X4_thrown rfl rfl rfl (by decide +kernel) ⟨Nat.le_of_ble_eq_true rfl, Nat.le_of_ble_eq_true rfl⟩ (q0 := 0) (ci := 4) hq2 rfl rfl rfl rfl (Nat.le_of_ble_eq_true rfl) dL_law_1164 ⟨by show cells + mc + mc2 + 0 ≤ 601024; omega, by show slots + ms + ms2 + 0 ≤ 7293034; omega⟩ ?_
  refine y_iload C 1 dL_law_1167 rfl ?_
  refine y_icmpN_eq C (tgt := 1174) dL_law_1169 rfl hkk hkk (fun _ => ?_) (fun h => absurd rfl h)
  refine y_iload C 1 dL_law_1174 rfl ?_
  refine y_ifN_ne C (tgt := 1191) dL_law_1176 rfl hkk (fun _ => ?_) (fun h0 => ?_)
  · refine y_goto C (tgt := 1714) dL_law_1191 rfl ?_
    refine y_swap ?_
    refine y_sub (lv' := [(4, .int (nI i)), (3, .ref o), (2, .ref am), (1, .ref x), (0, .ref b)]) [2, 3, 4, 5, 6] rfl ?_
    exact y_widen (by omega) (by omega) kk
  · refine y_aload_n C 3 dL_law_1179 rfl rfl ?_
    refine y_iconst C (v := nI 0) dL_law_1180 rfl ?_
    refine y_lald C (q0 := 0) (t0 := 1) (j := 0) rfl rfl (Nat.le_of_ble_eq_true rfl) (Nat.le_of_ble_eq_true rfl) dL_law_1181 ?_
    refine y_iload C 0 dL_law_1182 rfl ?_
    refine y_i2l C dL_law_1184 rfl ?_
    refine y_lcmp C dL_law_1185 ?_
    refine y_if_eq C (tgt := 1191) dL_law_1186 rfl (fun _ => ?_) (fun h => absurd (yl_c.mpr (hk h0)) h)
    refine y_goto C (tgt := 1714) dL_law_1191 rfl ?_
    refine y_swap ?_
    refine y_sub (lv' := [(4, .int (nI i)), (3, .ref o), (2, .ref am), (1, .ref x), (0, .ref b)]) [2, 3, 4, 5, 6] rfl ?_
    exact y_widen (by omega) (by omega) kk
