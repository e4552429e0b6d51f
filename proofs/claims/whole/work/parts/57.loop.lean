/-! the law's loop -/
theorem lp_cmp {L i : Nat} (hL : L ≤ 2048) (hi : i ≤ L) : nI L - nI 4 < nI i ↔ L < i + 4 := by
  rw [Int32.lt_iff_toInt_lt, nI_toInt (show i < 2 ^ 31 by omega)]
  by_cases h : 4 ≤ L
  · rw [pk_sub h, nI_toInt (by omega)]; omega
  · have h2 : (nI L - nI 4).toInt = (L : Int) - 4 := by
      rcases (show L = 0 ∨ L = 1 ∨ L = 2 ∨ L = 3 by omega) with rfl | rfl | rfl | rfl <;> decide
    rw [h2]; omega
theorem and31 (x : Int32) : ∃ k, k < 32 ∧ x &&& 31 = nI k := by
  refine ⟨x.toBitVec.toNat % 32, Nat.mod_lt _ (by decide), Int32.toBitVec_inj.mp (BitVec.eq_of_toNat_eq ?_)⟩
  show (x.toBitVec &&& 31#32).toNat = (BitVec.ofNat 32 (x.toBitVec.toNat % 32)).toNat
  rw [BitVec.toNat_and, BitVec.toNat_ofNat, BitVec.toNat_ofNat]
  show x.toBitVec.toNat &&& (2 ^ 5 - 1) = _
  rw [Nat.and_two_pow_sub_one_eq_mod]
  have := x.toBitVec.isLt
  omega
set_option maxRecDepth 100000 in
theorem lp_case {p : Program} {l : Launch} {e : Env} {s : State} {m : MethodId} {args : Array Value} {below : List Frame} {meth : Method} {c : Code} {Q : State → Prop} {cells slots : Nat} {D : va_G} {cI cJ : ClassId} {A : Nat → Prop} {sa : Nat → Nat} {b L : Nat} {xs : Nat → Int32} {i o : Nat} {aM aC aJ aS aP : Nat → Nat} {w : va_W} (X : yLx p s m args meth c D cI cJ A sa b L xs) (hfl : l.stackTraces = false) (hi : i + 4 ≤ L) (hc : cells + 3 ≤ 601024 ∧ slots + 126 ≤ 7293034) (hG : Good cI cJ aM aC aJ aS aP o w) (kk : ∀ w', Good cI cJ aM aC aJ aS aP o w' → yW p l e room_1 s m args below meth c 7 D A Q (cells + 3) (slots + 126) (w') 1714 [(4, .int (nI i)), (3, .ref o), (2, .ref (aM 0)), (1, .ref (aC 0)), (0, .ref b)] []) : yW p l e room_1 s m args below meth c 7 D A Q cells slots (w) 39 [(4, .int (nI i)), (3, .ref o), (2, .ref (aM 0)), (1, .ref (aC 0)), (0, .ref b)] [.int (xs i &&& 31)] := by
  obtain ⟨k, hk, e⟩ := and31 (xs i)
  have C := X.1
  refine y_topE e ?_
  rcases (show k = 0 ∨ k = 1 ∨ k = 2 ∨ k = 3 ∨ k = 4 ∨ k = 5 ∨ k = 6 ∨ k = 7 ∨ k = 8 ∨ k = 9 ∨ k = 10 ∨ k = 11 ∨ k = 12 ∨ k = 13 ∨ k = 14 ∨ k = 15 ∨ k = 16 ∨ k = 17 ∨ k = 18 ∨ k = 19 ∨ k = 20 ∨ k = 21 ∨ k = 22 ∨ k = 23 ∨ k = 24 ∨ k = 25 ∨ k = 26 ∨ k = 27 ∨ k = 28 ∨ 29 ≤ k by omega) with rfl | rfl | rfl | rfl | rfl | rfl | rfl | rfl | rfl | rfl | rfl | rfl | rfl | rfl | rfl | rfl | rfl | rfl | rfl | rfl | rfl | rfl | rfl | rfl | rfl | rfl | rfl | rfl | rfl | h29
  · exact y_tabIn C dL_law_39 (by decide) (by decide) rfl rfl (st_addExpression X hfl hi hc hG kk)
  · exact y_tabIn C dL_law_39 (by decide) (by decide) rfl rfl (st_addBlock X hfl hi hc hG kk)
  · exact y_tabIn C dL_law_39 (by decide) (by decide) rfl rfl (st_addEdge X hfl hi hc hG kk)
  · exact y_tabIn C dL_law_39 (by decide) (by decide) rfl rfl (st_compute X hfl hi hc hG kk)
  · exact y_tabIn C dL_law_39 (by decide) (by decide) rfl rfl (st_use X hfl hi hc hG kk)
  · exact y_tabIn C dL_law_39 (by decide) (by decide) rfl rfl (st_assign X hfl hi hc hG kk)
  · exact y_tabIn C dL_law_39 (by decide) (by decide) rfl rfl (st_drop X hfl hi hc hG kk)
  · exact y_tabIn C dL_law_39 (by decide) (by decide) rfl rfl (st_blockCount X hfl hi hc hG kk)
  · exact y_tabIn C dL_law_39 (by decide) (by decide) rfl rfl (st_edgeCount X hfl hi hc hG kk)
  · exact y_tabIn C dL_law_39 (by decide) (by decide) rfl rfl (st_size X hfl hi hc hG kk)
  · exact y_tabIn C dL_law_39 (by decide) (by decide) rfl rfl (st_instruction X hfl hi hc hG kk)
  · exact y_tabIn C dL_law_39 (by decide) (by decide) rfl rfl (st_ends X hfl hi hc hG kk)
  · exact y_tabIn C dL_law_39 (by decide) (by decide) rfl rfl (st_kept X hfl hi hc hG kk)
  · exact y_tabIn C dL_law_39 (by decide) (by decide) rfl rfl (st_early X hfl hi hc hG kk)
  · exact y_tabIn C dL_law_39 (by decide) (by decide) rfl rfl (st_late X hfl hi hc hG kk)
  · exact y_tabIn C dL_law_39 (by decide) (by decide) rfl rfl (st_needed X hfl hi hc hG kk)
  · exact y_tabIn C dL_law_39 (by decide) (by decide) rfl rfl (st_there X hfl hi hc hG kk)
  · exact y_tabIn C dL_law_39 (by decide) (by decide) rfl rfl (st_earliest X hfl hi hc hG kk)
  · exact y_tabIn C dL_law_39 (by decide) (by decide) rfl rfl (st_delayedOn X hfl hi hc hG kk)
  · exact y_tabIn C dL_law_39 (by decide) (by decide) rfl rfl (st_delayedAt X hfl hi hc hG kk)
  · exact y_tabIn C dL_law_39 (by decide) (by decide) rfl rfl (st_insertions X hfl hi hc hG kk)
  · exact y_tabIn C dL_law_39 (by decide) (by decide) rfl rfl (st_deletions X hfl hi hc hG kk)
  · exact y_tabIn C dL_law_39 (by decide) (by decide) rfl rfl (st_move X hfl hi hc hG kk)
  · exact y_tabIn C dL_law_39 (by decide) (by decide) rfl rfl (st_walk X hfl hi hc hG kk)
  · exact y_tabIn C dL_law_39 (by decide) (by decide) rfl rfl (st_computed X hfl hi hc hG kk)
  · exact y_tabIn C dL_law_39 (by decide) (by decide) rfl rfl (st_misses X hfl hi hc hG kk)
  · exact y_tabIn C dL_law_39 (by decide) (by decide) rfl rfl (st_lastBlock X hfl hi hc hG kk)
  · exact y_tabIn C dL_law_39 (by decide) (by decide) rfl rfl (st_heldFor X hfl hi hc hG kk)
  · exact y_tabIn C dL_law_39 (by decide) (by decide) rfl rfl (st_digest X hfl hi hc hG kk)
  · exact y_tabOut C (tgt := 1714) dL_law_39 (Or.inr (by rw [nI_toInt (by omega)]; omega)) rfl (y_widen (by omega) (by omega) (kk _ hG))
theorem lp_all {p : Program} {l : Launch} {e : Env} {s : State} {m : MethodId} {args : Array Value} {below : List Frame} {meth : Method} {c : Code} {Q : State → Prop} {D : va_G} {cI cJ : ClassId} {A : Nat → Prop} {sa : Nat → Nat} {b L : Nat} {xs : Nat → Int32} {o : Nat} {aM aC aJ aS aP : Nat → Nat} (X : yLx p s m args meth c D cI cJ A sa b L xs) (hfl : l.stackTraces = false) (K : ∀ (cells slots : Nat) (w : va_W) (lv : List (Nat × Value)), cells ≤ 601024 → slots ≤ 7293034 → yW p l e room_1 s m args below meth c 7 D A Q cells slots (w) 1720 lv []) : ∀ (n i cells slots : Nat) (w : va_W), Good cI cJ aM aC aJ aS aP o w → L ≤ i + 4 * n + 3 → i ≤ L → cells + 3 * n ≤ 601024 → slots + 126 * n ≤ 7293034 → yW p l e room_1 s m args below meth c 7 D A Q cells slots (w) 23 [(4, .int (nI i)), (3, .ref o), (2, .ref (aM 0)), (1, .ref (aC 0)), (0, .ref b)] [] := by
  have X' := X
  obtain ⟨C, hE, hX, hbl, hbA, hL⟩ := X'
  have hd : ∀ (i cells slots : Nat) (w : va_W), i ≤ L → (L < i + 4 → yW p l e room_1 s m args below meth c 7 D A Q cells slots (w) 1720 [(4, .int (nI i)), (3, .ref o), (2, .ref (aM 0)), (1, .ref (aC 0)), (0, .ref b)] []) → (i + 4 ≤ L → yW p l e room_1 s m args below meth c 7 D A Q cells slots (w) 32 [(4, .int (nI i)), (3, .ref o), (2, .ref (aM 0)), (1, .ref (aC 0)), (0, .ref b)] []) → yW p l e room_1 s m args below meth c 7 D A Q cells slots (w) 23 [(4, .int (nI i)), (3, .ref o), (2, .ref (aM 0)), (1, .ref (aC 0)), (0, .ref b)] [] := by
    intro i cells slots w hi ke kg
    refine y_iload C 0 dL_law_23 rfl ?_
    refine y_aload_n C 4 dL_law_25 rfl rfl ?_
    refine y_slen C hX hbl hbA dL_law_26 ?_
    refine y_iconst C (v := nI 4) dL_law_27 rfl ?_
    refine y_isub C dL_law_28 ?_
    exact y_icmp_gt C (tgt := 1720) dL_law_29 rfl (fun h => ke ((lp_cmp hL hi).mp h)) (fun h => kg (Nat.not_lt.mp (fun q => h ((lp_cmp hL hi).mpr q))))
  intro n
  induction n with
  | zero =>
    intro i cells slots w hG hn hi hc hs
    exact hd i cells slots w hi (fun _ => K _ _ _ _ (by omega) (by omega)) (fun h => by omega)
  | succ n ih =>
    intro i cells slots w hG hn hi hc hs
    refine hd i cells slots w hi (fun _ => K _ _ _ _ (by omega) (by omega)) (fun h => ?_)
    refine y_aload_n C 4 dL_law_32 rfl rfl ?_
    refine y_iload C 0 dL_law_33 rfl ?_
    refine y_sld C hX hbl hbA (by omega) hL dL_law_35 ?_
    refine y_bipush C (v := 31) dL_law_36 rfl ?_
    refine y_iand C dL_law_38 ?_
    refine lp_case X hfl h ⟨by omega, by omega⟩ hG (fun w' hG' => ?_)
    refine y_iinc C (k := 0) (lv' := [(4, .int (nI (i + 4))), (3, .ref o), (2, .ref (aM 0)), (1, .ref (aC 0)), (0, .ref b)]) dL_law_1714 rfl (yn_inc (k := 4) rfl) (Nat.le_of_ble_eq_true rfl) rfl ?_
    refine y_goto C (tgt := 23) dL_law_1717 rfl ?_
    exact ih (i + 4) _ _ w' hG' (by omega) h (by omega) (by omega)
