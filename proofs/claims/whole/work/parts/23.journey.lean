/-- the cells of a Journey -/
def WJ (cI : ClassId) (a : Nat → Nat) (p : Nat) (tc tl : Nat → Int32) (mi eb hd : Int32) (hs : Nat → Int32) (ig ct : Int32) : va_W :=
  [(a 0, .inr (0, [.ref p, .ref (a 1), .ref (a 2), .int mi, .int eb, .int hd, .ref (a 3), .int ig, .int ct])), (a 1, .inl (cI, 8, .inl tc)), (a 2, .inl (cI, 8, .inl tl)), (a 3, .inl (cI, 8, .inl hs))]
def lgF (g ig : Int32) (hs tl : Nat → Int32) : Nat → Nat → Int32
  | 0 => tl
  | n + 1 => if (g >>> (nI n &&& 31)) &&& 1 = 0 then lgF g ig hs tl n else upd (lgF g ig hs tl n) n (lgF g ig hs tl n n + (ig - hs n))
/-- one instruction of a journey: (tc, tl, mi, hd, hs, ig) -/
def jsF (E : Nat) (dp : Nat → Int32) (c : Nat) (S : (Nat → Int32) × (Nat → Int32) × Int32 × Int32 × (Nat → Int32) × Int32) : (Nat → Int32) × (Nat → Int32) × Int32 × Int32 × (Nat → Int32) × Int32 :=
  match S with
  | (tc, tl, mi, hd, hs, ig) =>
    if c % 3 = 0 then (upd tc (c / 3) (tc (c / 3) + 1), tl, mi, (if (hd >>> (nI (c / 3) &&& 31)) &&& 1 = 0 then hd ||| oneF (c / 3) else hd), (if (hd >>> (nI (c / 3) &&& 31)) &&& 1 = 0 then upd hs (c / 3) (ig + 1) else hs), ig + 1)
    else if c % 3 = 2 then (tc, lgF (hd &&& dp (c / 3)) (ig + 1) hs tl E, mi, hd &&& ((hd &&& dp (c / 3)) ^^^ -1), hs, ig + 1)
    else (tc, tl, (if (hd >>> (nI (c / 3) &&& 31)) &&& 1 = 0 then mi + 1 else mi), hd, hs, ig + 1)
def jbF (E : Nat) (dp : Nat → Int32) (cd : Nat → Nat) (b : Nat) (S : (Nat → Int32) × (Nat → Int32) × Int32 × Int32 × (Nat → Int32) × Int32) : Nat → (Nat → Int32) × (Nat → Int32) × Int32 × Int32 × (Nat → Int32) × Int32
  | 0 => S
  | k + 1 => jsF E dp (cd (12 * b + k)) (jbF E dp cd b S k)
/-- the exit that is taken, and the block behind it -/
def xeF (f1 f2 : Nat → Int32) (ch : Int64) (ct : Int32) (b : Nat) : Int32 := if f2 b = -1 then f1 b else if (ch.toUInt64 >>> ((ct &&& 63).toInt64.toUInt64 &&& Int64.toUInt64 63)).toInt64 &&& 1 = 0 then f1 b else f2 b
def bbF (tt : Nat → Nat) (f1 f2 : Nat → Int32) (ch : Int64) (ct : Int32) (b : Nat) : Int32 := if xeF f1 f2 ch ct b = -1 then -1 else nI (tt (xeF f1 f2 ch ct b).toNatClampNeg)
/-- one block: (tc, tl, mi, eb, hd, hs, ig, ct, gone, next) -/
def jxF (E : Nat) (dp : Nat → Int32) (sz cd tt : Nat → Nat) (f1 f2 : Nat → Int32) (ch : Int64) (b : Nat) (S : (Nat → Int32) × (Nat → Int32) × Int32 × Int32 × Int32 × (Nat → Int32) × Int32 × Int32 × Nat × Int32) : (Nat → Int32) × (Nat → Int32) × Int32 × Int32 × Int32 × (Nat → Int32) × Int32 × Int32 × Nat × Int32 :=
  match S with
  | (tc, tl, mi, _, hd, hs, ig, ct, g, _) =>
    match jbF E dp cd b (tc, tl, mi, hd, hs, ig) (sz b) with
    | (tc', tl', mi', hd', hs', ig') => (tc', tl', mi', nI b, hd', hs', ig', (if f2 b = -1 then ct else ct + 1), g + 1, bbF tt f1 f2 ch ct b)
def jwF (E : Nat) (dp : Nat → Int32) (sz cd tt : Nat → Nat) (f1 f2 : Nat → Int32) (ch : Int64) : Nat → (Nat → Int32) × (Nat → Int32) × Int32 × Int32 × Int32 × (Nat → Int32) × Int32 × Int32 × Nat × Int32 → (Nat → Int32) × (Nat → Int32) × Int32 × Int32 × Int32 × (Nat → Int32) × Int32 × Int32 × Nat × Int32
  | 0, S => S
  | n + 1, S => if S.2.2.2.2.2.2.2.2.2 = -1 then S else jwF E dp sz cd tt f1 f2 ch n (jxF E dp sz cd tt f1 f2 ch S.2.2.2.2.2.2.2.2.2.toNatClampNeg S)
theorem jw_stop {E : Nat} {dp : Nat → Int32} {sz cd tt : Nat → Nat} {f1 f2 : Nat → Int32} {ch : Int64} {n : Nat} {tc tl hs : Nat → Int32} {mi eb hd ig ct nx : Int32} {g : Nat} (hx : nx = -1) : jwF E dp sz cd tt f1 f2 ch n (tc, tl, mi, eb, hd, hs, ig, ct, g, nx) = (tc, tl, mi, eb, hd, hs, ig, ct, g, nx) := by
  cases n with
  | zero => rfl
  | succ n => simp [jwF, hx]
theorem jw_go {E : Nat} {dp : Nat → Int32} {sz cd tt : Nat → Nat} {f1 f2 : Nat → Int32} {ch : Int64} {n b : Nat} {tc tl hs : Nat → Int32} {mi eb hd ig ct : Int32} {g : Nat} (hb : b < 40) : jwF E dp sz cd tt f1 f2 ch (n + 1) (tc, tl, mi, eb, hd, hs, ig, ct, g, nI b) = jwF E dp sz cd tt f1 f2 ch n (jxF E dp sz cd tt f1 f2 ch b (tc, tl, mi, eb, hd, hs, ig, ct, g, nI b)) := by
  have h1 : b < 2 ^ 31 := by omega
  simp [jwF, nI_nm1 h1, nI_clamp h1]
theorem bb_ok {tt : Nat → Nat} (htt : ∀ j, tt j < 40) (f1 f2 : Nat → Int32) (ch : Int64) (ct : Int32) (b : Nat) : bbF tt f1 f2 ch ct b = -1 ∨ ∃ q, q < 40 ∧ bbF tt f1 f2 ch ct b = nI q := by
  unfold bbF
  split
  · exact Or.inl rfl
  · exact Or.inr ⟨_, htt _, rfl⟩
theorem in_X0_hold_0 : ∀ w ∈ wsX00, w ∈ wsX0_hold := fun _ h => List.mem_cons_of_mem _ (List.mem_append_right _ h)
set_option maxHeartbeats 4000000 in
set_option maxRecDepth 100000 in
theorem c_X0_hold (l : Launch) (D : va_G) (cI : ClassId) (aJ : Nat → Nat) (tc tl : Nat → Int32) (mi eb hd : Int32) (hs : Nat → Int32) (ig ct : Int32) (aP : Nat → Nat) (E : Nat) (vs dp : Nat → Int32) (B : Nat) (sz cd : Nat → Nat) (M : Nat) (fr tt : Nat → Nat) (f1 f2 : Nat → Int32) (cg : Int32) (k : Nat) (hk : k < 8) : ctV l yX0_hold wsX0_hold (rmD 0 0 0) D [(cI, .int)] [.ref (aJ 0), .int (nI k)] (WJ cI aJ (aP 0) tc tl mi eb hd hs ig ct ++ (WP cI aP E vs dp B sz cd M fr tt f1 f2 cg)) (WJ cI aJ (aP 0) (upd tc k (tc k + 1)) tl mi eb (if (hd >>> (nI k &&& 31)) &&& 1 = 0 then hd ||| oneF k else hd) (if (hd >>> (nI k &&& 31)) &&& 1 = 0 then upd hs k ig else hs) ig ct ++ (WP cI aP E vs dp B sz cd M fr tt f1 f2 cg)) 0 0 := by
  refine ctV_of (by decide) rfl (Nat.le_of_ble_eq_true rfl) ?_
  intro p e s m args below meth c A Q C hnm K
  refine y_lv (lv' := [(0, .ref (aJ 0)), (1, .int (nI k))]) rfl ?_
  refine y_aload_n C 0 dX0_hold_0 rfl rfl ?_
  refine y_get C in_X0_hold_0 (ci := 0) rfl 1 (by decide) (List.mem_of_getElem? (i := 1) rfl) 0 rfl rfl dX0_hold_1 ?_
  refine y_iload_n C 1 dX0_hold_4 rfl rfl ?_
  refine y_dup2_11 C dX0_hold_5 rfl rfl ?_
  refine y_iald C (q0 := 1) (t0 := 0) rfl rfl (by decide) (by omega) dX0_hold_6 ?_
  refine y_iconst C (v := (1 : Int32)) dX0_hold_7 (by decide) ?_
  refine y_iadd C dX0_hold_8 ?_
  refine y_iast C (q0 := 1) (t0 := 0) rfl rfl (by decide) (by omega) (ws' := WJ cI aJ (aP 0) (upd tc k ((tc k) + ((1 : Int32)))) tl mi eb hd hs ig ct ++ (WP cI aP E vs dp B sz cd M fr tt f1 f2 cg)) rfl dX0_hold_9 ?_
  refine y_aload_n C 0 dX0_hold_10 rfl rfl ?_
  refine y_get C in_X0_hold_0 (ci := 0) rfl 5 (by decide) (List.mem_of_getElem? (i := 2) rfl) 0 rfl rfl dX0_hold_11 ?_
  refine y_iload_n C 1 dX0_hold_14 rfl rfl ?_
  refine y_ishr C dX0_hold_15 ?_
  refine y_iconst C (v := (1 : Int32)) dX0_hold_16 (by decide) ?_
  refine y_iand C dX0_hold_17 ?_
  refine y_if_ne C (tgt := 43) dX0_hold_18 (by decide)  (fun h18 => ?_) (fun h18 => ?_)
  · skip
    refine y_ws (ws' := WJ cI aJ (aP 0) (upd tc k (tc k + 1)) tl mi eb (if (hd >>> (nI k &&& 31)) &&& 1 = 0 then hd ||| oneF k else hd) (if (hd >>> (nI k &&& 31)) &&& 1 = 0 then upd hs k ig else hs) ig ct ++ (WP cI aP E vs dp B sz cd M fr tt f1 f2 cg)) (by simp [oneF, h18]) ?_
    exact K _ _ _ _ dX0_hold_43 (by decide) (by decide)
  · skip
    refine y_aload_n C 0 dX0_hold_21 rfl rfl ?_
    refine y_dup C dX0_hold_22 rfl ?_
    refine y_get C in_X0_hold_0 (ci := 0) rfl 5 (by decide) (List.mem_of_getElem? (i := 2) rfl) 0 rfl rfl dX0_hold_23 ?_
    refine y_iconst C (v := (1 : Int32)) dX0_hold_26 (by decide) ?_
    refine y_iload_n C 1 dX0_hold_27 rfl rfl ?_
    refine y_ishl C dX0_hold_28 ?_
    refine y_ior C dX0_hold_29 ?_
    refine y_put C in_X0_hold_0 tyX0 tyX0_ok nmX0 (ci := 0) rfl 5 (by decide) rfl (List.mem_of_getElem? (i := 2) rfl) 0 rfl rfl rfl (Nat.le_of_ble_eq_true rfl) (ws' := WJ cI aJ (aP 0) (upd tc k ((tc k) + ((1 : Int32)))) tl mi eb (hd ||| (((1 : Int32)) <<< ((nI k) &&& 31))) hs ig ct ++ (WP cI aP E vs dp B sz cd M fr tt f1 f2 cg)) rfl dX0_hold_30 ?_
    refine y_aload_n C 0 dX0_hold_33 rfl rfl ?_
    refine y_get C in_X0_hold_0 (ci := 0) rfl 6 (by decide) (List.mem_of_getElem? (i := 3) rfl) 0 rfl rfl dX0_hold_34 ?_
    refine y_iload_n C 1 dX0_hold_37 rfl rfl ?_
    refine y_aload_n C 0 dX0_hold_38 rfl rfl ?_
    refine y_get C in_X0_hold_0 (ci := 0) rfl 7 (by decide) (List.mem_of_getElem? (i := 4) rfl) 0 rfl rfl dX0_hold_39 ?_
    refine y_iast C (q0 := 3) (t0 := 0) rfl rfl (by decide) (by omega) (ws' := WJ cI aJ (aP 0) (upd tc k ((tc k) + ((1 : Int32)))) tl mi eb (hd ||| (((1 : Int32)) <<< ((nI k) &&& 31))) (upd hs k ig) ig ct ++ (WP cI aP E vs dp B sz cd M fr tt f1 f2 cg)) rfl dX0_hold_42 ?_
    refine y_ws (ws' := WJ cI aJ (aP 0) (upd tc k (tc k + 1)) tl mi eb (if (hd >>> (nI k &&& 31)) &&& 1 = 0 then hd ||| oneF k else hd) (if (hd >>> (nI k &&& 31)) &&& 1 = 0 then upd hs k ig else hs) ig ct ++ (WP cI aP E vs dp B sz cd M fr tt f1 f2 cg)) (by simp [oneF, h18]) ?_
    exact K _ _ _ _ dX0_hold_43 (by decide) (by decide)
theorem in_X0_letGo_0 : ∀ w ∈ wsX00, w ∈ wsX0_letGo := fun _ h => List.mem_cons_of_mem _ (List.mem_append_left _ (List.mem_append_right _ h))
theorem in_X0_letGo_1 : ∀ w ∈ wsX10, w ∈ wsX0_letGo := fun _ h => List.mem_cons_of_mem _ (List.mem_append_right _ h)
set_option maxHeartbeats 4000000 in
set_option maxRecDepth 100000 in
theorem c_X0_letGo (l : Launch) (D : va_G) (cI : ClassId) (aJ : Nat → Nat) (tc tl : Nat → Int32) (mi eb hd : Int32) (hs : Nat → Int32) (ig ct : Int32) (aP : Nat → Nat) (E : Nat) (vs dp : Nat → Int32) (B : Nat) (sz cd : Nat → Nat) (M : Nat) (fr tt : Nat → Nat) (f1 f2 : Nat → Int32) (cg : Int32) (g : Int32) (hE : E ≤ 8) : ctV l yX0_letGo wsX0_letGo (rmD 0 0 0) D [(cI, .int)] [.ref (aJ 0), .int g] (WJ cI aJ (aP 0) tc tl mi eb hd hs ig ct ++ (WP cI aP E vs dp B sz cd M fr tt f1 f2 cg)) (WJ cI aJ (aP 0) tc (lgF g ig hs tl E) mi eb (hd &&& (g ^^^ -1)) hs ig ct ++ (WP cI aP E vs dp B sz cd M fr tt f1 f2 cg)) 0 0 := by
  refine ctV_of (by decide) rfl (Nat.le_of_ble_eq_true rfl) ?_
  intro p e s m args below meth c A Q C hnm K
  refine y_lv (lv' := [(0, .ref (aJ 0)), (1, .int g)]) rfl ?_
  refine y_iconst C (v := nI 0) dX0_letGo_0 (by decide) ?_
  refine y_istore_n C (lv' := [(2, .int (nI 0)), (0, .ref (aJ 0)), (1, .int g)]) dX0_letGo_1 rfl (by decide) rfl ?_
  have lp2 : ∀ (n2 : Nat) (i : Nat) (f : (Nat → Int32)), (i ≤ E) → (f = lgF g ig hs tl i) → (E - i) < n2 → yW p l e (rmD 0 0 0) s m args below meth c 3 D A Q 0 0 (WJ cI aJ (aP 0) tc f mi eb hd hs ig ct ++ (WP cI aP E vs dp B sz cd M fr tt f1 f2 cg)) 2 [(0, .ref (aJ 0)), (1, .int g), (2, .int (nI i))] [] := by
    intro n2
    induction n2 with
    | zero => intro i f hi hf hm; exact absurd hm (Nat.not_lt_zero _)
    | succ n2 ih2 =>
      intro i f hi hf hm2
      refine y_iload_n C 2 dX0_letGo_2 rfl rfl ?_
      refine y_aload_n C 0 dX0_letGo_3 rfl rfl ?_
      refine y_get C in_X0_letGo_0 (ci := 0) rfl 0 (by decide) (List.mem_of_getElem? (i := 1) rfl) 0 rfl rfl dX0_letGo_4 ?_
      refine y_get C in_X0_letGo_1 (ci := 1) rfl 0 (by decide) (List.mem_of_getElem? (i := 2) rfl) 4 rfl rfl dX0_letGo_7 ?_
      refine y_icmpN_ge C (tgt := 47) dX0_letGo_10 (by decide) (by omega) (by omega) (fun h10 => ?_) (fun h10 => ?_)
      · skip
        rw [show i = E by omega] at hf; subst hf
        refine y_aload_n C 0 dX0_letGo_47 rfl rfl ?_
        refine y_dup C dX0_letGo_48 rfl ?_
        refine y_get C in_X0_letGo_0 (ci := 0) rfl 5 (by decide) (List.mem_of_getElem? (i := 6) rfl) 0 rfl rfl dX0_letGo_49 ?_
        refine y_iload_n C 1 dX0_letGo_52 rfl rfl ?_
        refine y_iconst C (v := (-1)) dX0_letGo_53 (by decide) ?_
        refine y_ixor C dX0_letGo_54 ?_
        refine y_iand C dX0_letGo_55 ?_
        refine y_put C in_X0_letGo_0 tyX0 tyX0_ok nmX0 (ci := 0) rfl 5 (by decide) rfl (List.mem_of_getElem? (i := 6) rfl) 0 rfl rfl rfl (Nat.le_of_ble_eq_true rfl) (ws' := WJ cI aJ (aP 0) tc (lgF g ig hs tl E) mi eb (hd &&& (g ^^^ ((-1)))) hs ig ct ++ (WP cI aP E vs dp B sz cd M fr tt f1 f2 cg)) rfl dX0_letGo_56 ?_
        exact K _ _ _ _ dX0_letGo_59 (by decide) (by decide)
      · skip
        refine y_iload_n C 1 dX0_letGo_13 rfl rfl ?_
        refine y_iload_n C 2 dX0_letGo_14 rfl rfl ?_
        refine y_ishr C dX0_letGo_15 ?_
        refine y_iconst C (v := (1 : Int32)) dX0_letGo_16 (by decide) ?_
        refine y_iand C dX0_letGo_17 ?_
        refine y_if_eq C (tgt := 41) dX0_letGo_18 (by decide)  (fun h18 => ?_) (fun h18 => ?_)
        · skip
          refine y_iinc C (k := 2) (lv' := [(2, .int (nI (i + 1))), (0, .ref (aJ 0)), (1, .int g)]) dX0_letGo_41 rfl (yn_inc rfl) (by decide) rfl ?_
          refine y_goto C (tgt := 2) dX0_letGo_44 (by decide) ?_
          refine y_sub [1, 2, 0] (lv' := [(0, .ref (aJ 0)), (1, .int g), (2, .int (nI (i + 1)))]) rfl ?_
          exact ih2 _ _ (by omega) (by simp [lgF, hf, h18]) (by omega)
        · skip
          refine y_aload_n C 0 dX0_letGo_21 rfl rfl ?_
          refine y_get C in_X0_letGo_0 (ci := 0) rfl 2 (by decide) (List.mem_of_getElem? (i := 3) rfl) 0 rfl rfl dX0_letGo_22 ?_
          refine y_iload_n C 2 dX0_letGo_25 rfl rfl ?_
          refine y_dup2_11 C dX0_letGo_26 rfl rfl ?_
          refine y_iald C (q0 := 2) (t0 := 0) rfl rfl (by decide) (by omega) dX0_letGo_27 ?_
          refine y_aload_n C 0 dX0_letGo_28 rfl rfl ?_
          refine y_get C in_X0_letGo_0 (ci := 0) rfl 7 (by decide) (List.mem_of_getElem? (i := 4) rfl) 0 rfl rfl dX0_letGo_29 ?_
          refine y_aload_n C 0 dX0_letGo_32 rfl rfl ?_
          refine y_get C in_X0_letGo_0 (ci := 0) rfl 6 (by decide) (List.mem_of_getElem? (i := 5) rfl) 0 rfl rfl dX0_letGo_33 ?_
          refine y_iload_n C 2 dX0_letGo_36 rfl rfl ?_
          refine y_iald C (q0 := 3) (t0 := 0) rfl rfl (by decide) (by omega) dX0_letGo_37 ?_
          refine y_isub C dX0_letGo_38 ?_
          refine y_iadd C dX0_letGo_39 ?_
          refine y_iast C (q0 := 2) (t0 := 0) rfl rfl (by decide) (by omega) (ws' := WJ cI aJ (aP 0) tc (upd f i ((f i) + (ig - (hs i)))) mi eb hd hs ig ct ++ (WP cI aP E vs dp B sz cd M fr tt f1 f2 cg)) rfl dX0_letGo_40 ?_
          refine y_iinc C (k := 2) (lv' := [(2, .int (nI (i + 1))), (0, .ref (aJ 0)), (1, .int g)]) dX0_letGo_41 rfl (yn_inc rfl) (by decide) rfl ?_
          refine y_goto C (tgt := 2) dX0_letGo_44 (by decide) ?_
          refine y_sub [1, 2, 0] (lv' := [(0, .ref (aJ 0)), (1, .int g), (2, .int (nI (i + 1)))]) rfl ?_
          exact ih2 _ _ (by omega) (by simp [lgF, hf, h18]) (by omega)
  refine y_sub [1, 2, 0] (lv' := [(0, .ref (aJ 0)), (1, .int g), (2, .int (nI 0))]) rfl ?_
  exact lp2 _ _ _ (Nat.zero_le _) rfl (Nat.lt_succ_self _)
theorem in_X0_goThroughBlock_0 : ∀ w ∈ wsX00, w ∈ wsX0_goThroughBlock := fun _ h => List.mem_cons_of_mem _ (List.mem_append_left _ (List.mem_append_right _ h))
theorem in_X0_goThroughBlock_1 : ∀ w ∈ wsX10, w ∈ wsX0_goThroughBlock := fun _ h => List.mem_cons_of_mem _ (List.mem_append_right _ h)
set_option maxHeartbeats 4000000 in
set_option maxRecDepth 100000 in
theorem c_X0_goThroughBlock (l : Launch) (D : va_G) (cI : ClassId) (aJ : Nat → Nat) (tc tl : Nat → Int32) (mi eb hd : Int32) (hs : Nat → Int32) (ig ct : Int32) (aP : Nat → Nat) (E : Nat) (vs dp : Nat → Int32) (B : Nat) (sz cd : Nat → Nat) (M : Nat) (fr tt : Nat → Nat) (f1 f2 : Nat → Int32) (cg : Int32) (b : Nat) (hE : E ≤ 8) (hsz : ∀ j, sz j ≤ 12) (hcd : ∀ j, cd j < 24) (hb : b < 40) (hcv : ∀ j, cd j % 3 = 2 → cd j / 3 < 6) : ctV l yX0_goThroughBlock wsX0_goThroughBlock (rmD 1 0 0) D [(cI, .int)] [.ref (aJ 0), .int (nI b)] (WJ cI aJ (aP 0) tc tl mi eb hd hs ig ct ++ (WP cI aP E vs dp B sz cd M fr tt f1 f2 cg)) (WJ cI aJ (aP 0) ((jbF E dp cd b (tc, tl, mi, hd, hs, ig) (sz b)).1) ((jbF E dp cd b (tc, tl, mi, hd, hs, ig) (sz b)).2.1) ((jbF E dp cd b (tc, tl, mi, hd, hs, ig) (sz b)).2.2.1) eb ((jbF E dp cd b (tc, tl, mi, hd, hs, ig) (sz b)).2.2.2.1) ((jbF E dp cd b (tc, tl, mi, hd, hs, ig) (sz b)).2.2.2.2.1) ((jbF E dp cd b (tc, tl, mi, hd, hs, ig) (sz b)).2.2.2.2.2) ct ++ (WP cI aP E vs dp B sz cd M fr tt f1 f2 cg)) 0 0 := by
  refine ctV_of (by decide) rfl (Nat.le_of_ble_eq_true rfl) ?_
  intro p e s m args below meth c A Q C hnm K
  refine y_lv (lv' := [(0, .ref (aJ 0)), (1, .int (nI b))]) rfl ?_
  refine y_iconst C (v := nI 0) dX0_goThroughBlock_0 (by decide) ?_
  refine y_istore_n C (lv' := [(2, .int (nI 0)), (0, .ref (aJ 0)), (1, .int (nI b))]) dX0_goThroughBlock_1 rfl (by decide) rfl ?_
  have lp2 : ∀ (n2 : Nat) (i : Nat) (a1 : (Nat → Int32)) (a2 : (Nat → Int32)) (m1 : Int32) (h1 : Int32) (s1 : (Nat → Int32)) (i1 : Int32), (i ≤ sz b) → ((a1, a2, m1, h1, s1, i1) = jbF E dp cd b (tc, tl, mi, hd, hs, ig) i) → (sz b - i) < n2 → yW p l e (rmD 1 0 0) s m args below meth c 6 D A Q 0 0 (WJ cI aJ (aP 0) a1 a2 m1 eb h1 s1 i1 ct ++ (WP cI aP E vs dp B sz cd M fr tt f1 f2 cg)) 2 [(0, .ref (aJ 0)), (1, .int (nI b)), (2, .int (nI i))] [] := by
    intro n2
    induction n2 with
    | zero => intro i a1 a2 m1 h1 s1 i1 hi hT hm; exact absurd hm (Nat.not_lt_zero _)
    | succ n2 ih2 =>
      intro i a1 a2 m1 h1 s1 i1 hi hT hm2
      have hzb := hsz b
      refine y_iload_n C 2 dX0_goThroughBlock_2 rfl rfl ?_
      refine y_aload_n C 0 dX0_goThroughBlock_3 rfl rfl ?_
      refine y_get C in_X0_goThroughBlock_0 (ci := 0) rfl 0 (by decide) (List.mem_of_getElem? (i := 1) rfl) 0 rfl rfl dX0_goThroughBlock_4 ?_
      refine y_get C in_X0_goThroughBlock_1 (ci := 1) rfl 4 (by decide) (List.mem_of_getElem? (i := 2) rfl) 4 rfl rfl dX0_goThroughBlock_7 ?_
      refine y_iload_n C 1 dX0_goThroughBlock_10 rfl rfl ?_
      refine y_ialdA C (q0 := 7) (t0 := 0) rfl rfl (by decide) (by omega) dX0_goThroughBlock_11 ?_
      refine y_icmpN_ge C (tgt := 115) dX0_goThroughBlock_12 (by decide) (by omega) (by have := hsz b; omega) (fun h12 => ?_) (fun h12 => ?_)
      · skip
        rw [show i = sz b by omega] at hT
        refine y_ws (ws' := WJ cI aJ (aP 0) ((jbF E dp cd b (tc, tl, mi, hd, hs, ig) (sz b)).1) ((jbF E dp cd b (tc, tl, mi, hd, hs, ig) (sz b)).2.1) ((jbF E dp cd b (tc, tl, mi, hd, hs, ig) (sz b)).2.2.1) eb ((jbF E dp cd b (tc, tl, mi, hd, hs, ig) (sz b)).2.2.2.1) ((jbF E dp cd b (tc, tl, mi, hd, hs, ig) (sz b)).2.2.2.2.1) ((jbF E dp cd b (tc, tl, mi, hd, hs, ig) (sz b)).2.2.2.2.2) ct ++ (WP cI aP E vs dp B sz cd M fr tt f1 f2 cg)) (by rw [← hT]) ?_
        exact K _ _ _ _ dX0_goThroughBlock_115 (by decide) (by decide)
      · skip
        refine y_aload_n C 0 dX0_goThroughBlock_15 rfl rfl ?_
        refine y_get C in_X0_goThroughBlock_0 (ci := 0) rfl 0 (by decide) (List.mem_of_getElem? (i := 1) rfl) 0 rfl rfl dX0_goThroughBlock_16 ?_
        refine y_iload_n C 1 dX0_goThroughBlock_19 rfl rfl ?_
        refine y_iload_n C 2 dX0_goThroughBlock_20 rfl rfl ?_
        refine y_callI C (wr := WJ cI aJ (aP 0) a1 a2 m1 eb h1 s1 i1 ct) 2 (c_X1_codeAt l D cI aP E vs dp B sz cd M fr tt f1 f2 cg b i hcd hb (by omega)) gX0_goThroughBlock_X1_codeAt rfl rfl rfl (by decide +kernel) ⟨Nat.le_of_ble_eq_true rfl, Nat.le_of_ble_eq_true rfl⟩ (q0 := 0) (ci := 1) rfl rfl rfl rfl rfl (Nat.le_of_ble_eq_true rfl) dX0_goThroughBlock_21 ⟨Nat.le_of_ble_eq_true rfl, Nat.le_of_ble_eq_true rfl⟩ ?_
        refine y_ws (ws' := WJ cI aJ (aP 0) a1 a2 m1 eb h1 s1 i1 ct ++ (WP cI aP E vs dp B sz cd M fr tt f1 f2 cg)) rfl ?_
        refine y_istore_n C (lv' := [(3, .int (nI (cd (12 * b + i)))), (0, .ref (aJ 0)), (1, .int (nI b)), (2, .int (nI i))]) dX0_goThroughBlock_24 rfl (by decide) rfl ?_
        refine y_iload_n C 0 dX0_goThroughBlock_25 rfl rfl ?_
        refine y_iconst C (v := nI 3) dX0_goThroughBlock_26 (by decide) ?_
        refine y_idivN C dX0_goThroughBlock_27 (by have := hcd (12 * b + i); omega) (by decide) (by decide) ?_
        refine y_istore C (lv' := [(4, .int (nI ((cd (12 * b + i)) / 3))), (3, .int (nI (cd (12 * b + i)))), (0, .ref (aJ 0)), (1, .int (nI b)), (2, .int (nI i))]) dX0_goThroughBlock_28 (by decide) rfl ?_
        refine y_iload_n C 1 dX0_goThroughBlock_30 rfl rfl ?_
        refine y_iconst C (v := nI 3) dX0_goThroughBlock_31 (by decide) ?_
        refine y_iremN C dX0_goThroughBlock_32 (by have := hcd (12 * b + i); omega) (by decide) (by decide) ?_
        refine y_istore C (lv' := [(5, .int (nI ((cd (12 * b + i)) % 3))), (4, .int (nI ((cd (12 * b + i)) / 3))), (3, .int (nI (cd (12 * b + i)))), (0, .ref (aJ 0)), (1, .int (nI b)), (2, .int (nI i))]) dX0_goThroughBlock_33 (by decide) rfl ?_
        refine y_aload_n C 3 dX0_goThroughBlock_35 rfl rfl ?_
        refine y_dup C dX0_goThroughBlock_36 rfl ?_
        refine y_get C in_X0_goThroughBlock_0 (ci := 0) rfl 7 (by decide) (List.mem_of_getElem? (i := 3) rfl) 0 rfl rfl dX0_goThroughBlock_37 ?_
        refine y_iconst C (v := (1 : Int32)) dX0_goThroughBlock_40 (by decide) ?_
        refine y_iadd C dX0_goThroughBlock_41 ?_
        refine y_put C in_X0_goThroughBlock_0 tyX0 tyX0_ok nmX0 (ci := 0) rfl 7 (by decide) rfl (List.mem_of_getElem? (i := 3) rfl) 0 rfl rfl rfl (Nat.le_of_ble_eq_true rfl) (ws' := WJ cI aJ (aP 0) a1 a2 m1 eb h1 s1 (i1 + ((1 : Int32))) ct ++ (WP cI aP E vs dp B sz cd M fr tt f1 f2 cg)) rfl dX0_goThroughBlock_42 ?_
        refine y_iload C 0 dX0_goThroughBlock_45 rfl ?_
        refine y_ifN_ne C (tgt := 59) dX0_goThroughBlock_47 (by decide) (by have := hcd (12 * b + i); omega) (fun h47 => ?_) (fun h47 => ?_)
        · skip
          refine y_iload C 0 dX0_goThroughBlock_59 rfl ?_
          refine y_iconst C (v := nI 2) dX0_goThroughBlock_61 (by decide) ?_
          refine y_icmpN_ne C (tgt := 87) dX0_goThroughBlock_62 (by decide) (by have := hcd (12 * b + i); omega) (by omega) (fun h62 => ?_) (fun h62 => ?_)
          · skip
            refine y_aload_n C 3 dX0_goThroughBlock_87 rfl rfl ?_
            refine y_get C in_X0_goThroughBlock_0 (ci := 0) rfl 5 (by decide) (List.mem_of_getElem? (i := 4) rfl) 0 rfl rfl dX0_goThroughBlock_88 ?_
            refine y_iload C 1 dX0_goThroughBlock_91 rfl ?_
            refine y_ishr C dX0_goThroughBlock_93 ?_
            refine y_iconst C (v := (1 : Int32)) dX0_goThroughBlock_94 (by decide) ?_
            refine y_iand C dX0_goThroughBlock_95 ?_
            refine y_if_ne C (tgt := 109) dX0_goThroughBlock_96 (by decide)  (fun h96 => ?_) (fun h96 => ?_)
            · skip
              refine y_iinc C (k := 5) (lv' := [(2, .int (nI (i + 1))), (5, .int (nI ((cd (12 * b + i)) % 3))), (4, .int (nI ((cd (12 * b + i)) / 3))), (3, .int (nI (cd (12 * b + i)))), (0, .ref (aJ 0)), (1, .int (nI b))]) dX0_goThroughBlock_109 rfl (yn_inc rfl) (by decide) rfl ?_
              refine y_goto C (tgt := 2) dX0_goThroughBlock_112 (by decide) ?_
              refine y_sub [4, 5, 0] (lv' := [(0, .ref (aJ 0)), (1, .int (nI b)), (2, .int (nI (i + 1)))]) rfl ?_
              exact ih2 _ _ _ _ _ _ _ (by omega) (by simp only [jbF, ← hT, jsF]; simp [oneF, h47, h62, h96]) (by omega)
            · skip
              refine y_aload_n C 3 dX0_goThroughBlock_99 rfl rfl ?_
              refine y_dup C dX0_goThroughBlock_100 rfl ?_
              refine y_get C in_X0_goThroughBlock_0 (ci := 0) rfl 3 (by decide) (List.mem_of_getElem? (i := 6) rfl) 0 rfl rfl dX0_goThroughBlock_101 ?_
              refine y_iconst C (v := (1 : Int32)) dX0_goThroughBlock_104 (by decide) ?_
              refine y_iadd C dX0_goThroughBlock_105 ?_
              refine y_put C in_X0_goThroughBlock_0 tyX0 tyX0_ok nmX0 (ci := 0) rfl 3 (by decide) rfl (List.mem_of_getElem? (i := 6) rfl) 0 rfl rfl rfl (Nat.le_of_ble_eq_true rfl) (ws' := WJ cI aJ (aP 0) a1 a2 (m1 + ((1 : Int32))) eb h1 s1 (i1 + ((1 : Int32))) ct ++ (WP cI aP E vs dp B sz cd M fr tt f1 f2 cg)) rfl dX0_goThroughBlock_106 ?_
              refine y_iinc C (k := 5) (lv' := [(2, .int (nI (i + 1))), (5, .int (nI ((cd (12 * b + i)) % 3))), (4, .int (nI ((cd (12 * b + i)) / 3))), (3, .int (nI (cd (12 * b + i)))), (0, .ref (aJ 0)), (1, .int (nI b))]) dX0_goThroughBlock_109 rfl (yn_inc rfl) (by decide) rfl ?_
              refine y_goto C (tgt := 2) dX0_goThroughBlock_112 (by decide) ?_
              refine y_sub [4, 5, 0] (lv' := [(0, .ref (aJ 0)), (1, .int (nI b)), (2, .int (nI (i + 1)))]) rfl ?_
              exact ih2 _ _ _ _ _ _ _ (by omega) (by simp only [jbF, ← hT, jsF]; simp [oneF, h47, h62, h96]) (by omega)
          · skip
            have hc6 := hcv (12 * b + i) h62
            refine y_aload_n C 3 dX0_goThroughBlock_65 rfl rfl ?_
            refine y_aload_n C 3 dX0_goThroughBlock_66 rfl rfl ?_
            refine y_get C in_X0_goThroughBlock_0 (ci := 0) rfl 5 (by decide) (List.mem_of_getElem? (i := 4) rfl) 0 rfl rfl dX0_goThroughBlock_67 ?_
            refine y_aload_n C 3 dX0_goThroughBlock_70 rfl rfl ?_
            refine y_get C in_X0_goThroughBlock_0 (ci := 0) rfl 0 (by decide) (List.mem_of_getElem? (i := 1) rfl) 0 rfl rfl dX0_goThroughBlock_71 ?_
            refine y_get C in_X0_goThroughBlock_1 (ci := 1) rfl 2 (by decide) (List.mem_of_getElem? (i := 5) rfl) 4 rfl rfl dX0_goThroughBlock_74 ?_
            refine y_iload C 1 dX0_goThroughBlock_77 rfl ?_
            refine y_iald C (q0 := 6) (t0 := 0) rfl rfl (by decide) (by have := hcd (12 * b + i); omega) dX0_goThroughBlock_79 ?_
            refine y_iand C dX0_goThroughBlock_80 ?_
            refine y_callV C (wr := []) 1 (c_X0_letGo l D cI aJ a1 a2 m1 eb h1 s1 (i1 + ((1 : Int32))) ct aP E vs dp B sz cd M fr tt f1 f2 cg (h1 &&& (dp ((cd (12 * b + i)) / 3))) hE) gX0_goThroughBlock_X0_letGo rfl rfl rfl (by decide +kernel) ⟨Nat.le_of_ble_eq_true rfl, Nat.le_of_ble_eq_true rfl⟩ (q0 := 0) (ci := 0) rfl rfl rfl rfl rfl (Nat.le_of_ble_eq_true rfl) dX0_goThroughBlock_81 ⟨Nat.le_of_ble_eq_true rfl, Nat.le_of_ble_eq_true rfl⟩ ?_
            refine y_ws (ws' := WJ cI aJ (aP 0) a1 (lgF (h1 &&& (dp ((cd (12 * b + i)) / 3))) (i1 + ((1 : Int32))) s1 a2 E) m1 eb (h1 &&& ((h1 &&& (dp ((cd (12 * b + i)) / 3))) ^^^ -1)) s1 (i1 + ((1 : Int32))) ct ++ (WP cI aP E vs dp B sz cd M fr tt f1 f2 cg)) rfl ?_
            refine y_goto C (tgt := 109) dX0_goThroughBlock_84 (by decide) ?_
            refine y_iinc C (k := 5) (lv' := [(2, .int (nI (i + 1))), (5, .int (nI ((cd (12 * b + i)) % 3))), (4, .int (nI ((cd (12 * b + i)) / 3))), (3, .int (nI (cd (12 * b + i)))), (0, .ref (aJ 0)), (1, .int (nI b))]) dX0_goThroughBlock_109 rfl (yn_inc rfl) (by decide) rfl ?_
            refine y_goto C (tgt := 2) dX0_goThroughBlock_112 (by decide) ?_
            refine y_sub [4, 5, 0] (lv' := [(0, .ref (aJ 0)), (1, .int (nI b)), (2, .int (nI (i + 1)))]) rfl ?_
            exact ih2 _ _ _ _ _ _ _ (by omega) (by simp only [jbF, ← hT, jsF]; simp [oneF, h47, h62]) (by omega)
        · skip
          refine y_aload_n C 3 dX0_goThroughBlock_50 rfl rfl ?_
          refine y_iload C 1 dX0_goThroughBlock_51 rfl ?_
          refine y_callV C (wr := []) 1 (c_X0_hold l D cI aJ a1 a2 m1 eb h1 s1 (i1 + ((1 : Int32))) ct aP E vs dp B sz cd M fr tt f1 f2 cg ((cd (12 * b + i)) / 3) (by have := hcd (12 * b + i); omega)) gX0_goThroughBlock_X0_hold rfl rfl rfl (by decide +kernel) ⟨Nat.le_of_ble_eq_true rfl, Nat.le_of_ble_eq_true rfl⟩ (q0 := 0) (ci := 0) rfl rfl rfl rfl rfl (Nat.le_of_ble_eq_true rfl) dX0_goThroughBlock_53 ⟨Nat.le_of_ble_eq_true rfl, Nat.le_of_ble_eq_true rfl⟩ ?_
          refine y_ws (ws' := WJ cI aJ (aP 0) (upd a1 ((cd (12 * b + i)) / 3) (a1 ((cd (12 * b + i)) / 3) + 1)) a2 m1 eb (if (h1 >>> (nI ((cd (12 * b + i)) / 3) &&& 31)) &&& 1 = 0 then h1 ||| oneF ((cd (12 * b + i)) / 3) else h1) (if (h1 >>> (nI ((cd (12 * b + i)) / 3) &&& 31)) &&& 1 = 0 then upd s1 ((cd (12 * b + i)) / 3) (i1 + ((1 : Int32))) else s1) (i1 + ((1 : Int32))) ct ++ (WP cI aP E vs dp B sz cd M fr tt f1 f2 cg)) rfl ?_
          refine y_goto C (tgt := 109) dX0_goThroughBlock_56 (by decide) ?_
          refine y_iinc C (k := 5) (lv' := [(2, .int (nI (i + 1))), (5, .int (nI ((cd (12 * b + i)) % 3))), (4, .int (nI ((cd (12 * b + i)) / 3))), (3, .int (nI (cd (12 * b + i)))), (0, .ref (aJ 0)), (1, .int (nI b))]) dX0_goThroughBlock_109 rfl (yn_inc rfl) (by decide) rfl ?_
          refine y_goto C (tgt := 2) dX0_goThroughBlock_112 (by decide) ?_
          refine y_sub [4, 5, 0] (lv' := [(0, .ref (aJ 0)), (1, .int (nI b)), (2, .int (nI (i + 1)))]) rfl ?_
          exact ih2 _ _ _ _ _ _ _ (by omega) (by simp only [jbF, ← hT, jsF]; simp [oneF, h47]) (by omega)
  refine y_sub [1, 2, 0] (lv' := [(0, .ref (aJ 0)), (1, .int (nI b)), (2, .int (nI 0))]) rfl ?_
  exact lp2 _ _ _ _ _ _ _ _ (Nat.zero_le _) rfl (Nat.lt_succ_self _)
theorem in_X0_blockBehind_0 : ∀ w ∈ wsX00, w ∈ wsX0_blockBehind := fun _ h => List.mem_cons_of_mem _ (List.mem_append_left _ (List.mem_append_right _ h))
theorem in_X0_blockBehind_1 : ∀ w ∈ wsX10, w ∈ wsX0_blockBehind := fun _ h => List.mem_cons_of_mem _ (List.mem_append_right _ h)
set_option maxHeartbeats 4000000 in
set_option maxRecDepth 100000 in
theorem c_X0_blockBehind (l : Launch) (D : va_G) (cI : ClassId) (aJ : Nat → Nat) (tc tl : Nat → Int32) (mi eb hd : Int32) (hs : Nat → Int32) (ig ct : Int32) (aP : Nat → Nat) (E : Nat) (vs dp : Nat → Int32) (B : Nat) (sz cd : Nat → Nat) (M : Nat) (fr tt : Nat → Nat) (f1 f2 : Nat → Int32) (cg : Int32) (b : Nat) (ch : Int64) (htt : ∀ j, tt j < 40) (hb : b < 40) (hf1 : ∀ b, f1 b = -1 ∨ ∃ q, q < 80 ∧ f1 b = nI q) (hf2 : ∀ b, f2 b = -1 ∨ ∃ q, q < 80 ∧ f2 b = nI q) : ctI l yX0_blockBehind wsX0_blockBehind (rmD 0 0 0) D [(cI, .int)] [.ref (aJ 0), .int (nI b), .long ch] (WJ cI aJ (aP 0) tc tl mi eb hd hs ig ct ++ (WP cI aP E vs dp B sz cd M fr tt f1 f2 cg)) (WJ cI aJ (aP 0) tc tl mi eb hd hs ig (if f2 b = -1 then ct else ct + 1) ++ (WP cI aP E vs dp B sz cd M fr tt f1 f2 cg)) (bbF tt f1 f2 ch ct b) 0 0 := by
  refine ctI_of (by decide) rfl (Nat.le_of_ble_eq_true rfl) ?_
  intro p e s m args below meth c A Q C hnm K
  refine y_lv (lv' := [(0, .ref (aJ 0)), (1, .int (nI b)), (2, .long ch)]) rfl ?_
  refine y_aload_n C 0 dX0_blockBehind_0 rfl rfl ?_
  refine y_get C in_X0_blockBehind_0 (ci := 0) rfl 0 (by decide) (List.mem_of_getElem? (i := 1) rfl) 0 rfl rfl dX0_blockBehind_1 ?_
  refine y_get C in_X0_blockBehind_1 (ci := 1) rfl 9 (by decide) (List.mem_of_getElem? (i := 2) rfl) 4 rfl rfl dX0_blockBehind_4 ?_
  refine y_iload_n C 1 dX0_blockBehind_7 rfl rfl ?_
  refine y_iald C (q0 := 11) (t0 := 0) rfl rfl (by decide) (by omega) dX0_blockBehind_8 ?_
  refine y_istore C (lv' := [(4, .int (f1 b)), (0, .ref (aJ 0)), (1, .int (nI b)), (2, .long ch)]) dX0_blockBehind_9 (by decide) rfl ?_
  refine y_aload_n C 1 dX0_blockBehind_11 rfl rfl ?_
  refine y_get C in_X0_blockBehind_0 (ci := 0) rfl 0 (by decide) (List.mem_of_getElem? (i := 1) rfl) 0 rfl rfl dX0_blockBehind_12 ?_
  refine y_get C in_X0_blockBehind_1 (ci := 1) rfl 10 (by decide) (List.mem_of_getElem? (i := 3) rfl) 4 rfl rfl dX0_blockBehind_15 ?_
  refine y_iload_n C 2 dX0_blockBehind_18 rfl rfl ?_
  refine y_iald C (q0 := 12) (t0 := 0) rfl rfl (by decide) (by omega) dX0_blockBehind_19 ?_
  refine y_iconst C (v := (-1)) dX0_blockBehind_20 (by decide) ?_
  have jn61 : ∀ (y : Int32) (z : Int32), (y = xeF f1 f2 ch ct b) → (z = if f2 b = -1 then ct else ct + 1) → yW p l e (rmD 0 0 0) s m args below meth c 5 D A Q 0 0 (WJ cI aJ (aP 0) tc tl mi eb hd hs ig z ++ (WP cI aP E vs dp B sz cd M fr tt f1 f2 cg)) 61 [(0, .ref (aJ 0)), (1, .int (nI b)), (4, .int y)] [] := by
    intro y z hy hz
    refine y_iload C 2 dX0_blockBehind_61 rfl ?_
    refine y_iconst C (v := (-1)) dX0_blockBehind_63 (by decide) ?_
    refine y_icmp_ne C (tgt := 71) dX0_blockBehind_64 (by decide)  (fun h64 => ?_) (fun h64 => ?_)
    · skip
      have hne : ¬ xeF f1 f2 ch ct b = -1 := by rw [← hy]; exact h64
      obtain ⟨q, hq, hqe⟩ : ∃ q, q < 80 ∧ y = nI q := by
        have h3 : y = f1 b ∨ y = f2 b := by
          rw [hy]; unfold xeF; split
          · exact Or.inl rfl
          · split
            · exact Or.inl rfl
            · exact Or.inr rfl
        rcases h3 with h3 | h3
        · rw [h3] at h64 ⊢; exact (hf1 b).resolve_left h64
        · rw [h3] at h64 ⊢; exact (hf2 b).resolve_left h64
      refine y_aload_n C 0 dX0_blockBehind_71 rfl rfl ?_
      refine y_get C in_X0_blockBehind_0 (ci := 0) rfl 0 (by decide) (List.mem_of_getElem? (i := 1) rfl) 0 rfl rfl dX0_blockBehind_72 ?_
      refine y_get C in_X0_blockBehind_1 (ci := 1) rfl 8 (by decide) (List.mem_of_getElem? (i := 5) rfl) 4 rfl rfl dX0_blockBehind_75 ?_
      refine y_iload C 2 dX0_blockBehind_78 rfl ?_
      refine y_topN hqe ?_
      refine y_ialdA C (q0 := 10) (t0 := 0) rfl rfl (by decide) (by omega) dX0_blockBehind_80 ?_
      refine y_ws (ws' := WJ cI aJ (aP 0) tc tl mi eb hd hs ig (if f2 b = -1 then ct else ct + 1) ++ (WP cI aP E vs dp B sz cd M fr tt f1 f2 cg)) (by rw [hz]) ?_
      exact K _ _ _ _ _ dX0_blockBehind_81 (by unfold bbF; rw [if_neg hne, ← hy, hqe, nI_clamp (by omega)]) (by decide) (by decide)
    · skip
      refine y_iconst C (v := (-1)) dX0_blockBehind_67 (by decide) ?_
      refine y_goto C (tgt := 81) dX0_blockBehind_68 (by decide) ?_
      refine y_ws (ws' := WJ cI aJ (aP 0) tc tl mi eb hd hs ig (if f2 b = -1 then ct else ct + 1) ++ (WP cI aP E vs dp B sz cd M fr tt f1 f2 cg)) (by rw [hz]) ?_
      exact K _ _ _ _ _ dX0_blockBehind_81 (by unfold bbF; rw [if_pos (hy ▸ h64)]) (by decide) (by decide)
  refine y_icmp_eq C (tgt := 61) dX0_blockBehind_21 (by decide)  (fun h21 => ?_) (fun h21 => ?_)
  · skip
    refine y_sub [1, 2, 0] (lv' := [(0, .ref (aJ 0)), (1, .int (nI b)), (4, .int (f1 b))]) rfl ?_
    exact jn61 _ _ (by simp [xeF, h21]) (by simp [h21])
  · skip
    refine y_lload_n C 3 dX0_blockBehind_24 rfl rfl ?_
    refine y_aload_n C 1 dX0_blockBehind_25 rfl rfl ?_
    refine y_get C in_X0_blockBehind_0 (ci := 0) rfl 8 (by decide) (List.mem_of_getElem? (i := 4) rfl) 0 rfl rfl dX0_blockBehind_26 ?_
    refine y_bipush C (v := (63 : Int32)) dX0_blockBehind_29 (by decide) ?_
    refine y_iand C dX0_blockBehind_31 ?_
    refine y_lushr C dX0_blockBehind_32 rfl ?_
    refine y_lconst C (v := 1) dX0_blockBehind_33 (by decide) ?_
    refine y_land C dX0_blockBehind_34 ?_
    refine y_lconst C (v := 0) dX0_blockBehind_35 (by decide) ?_
    refine y_lcmp C dX0_blockBehind_36 ?_
    have jn51 : ∀ (y : Int32), (y = xeF f1 f2 ch ct b) → yW p l e (rmD 0 0 0) s m args below meth c 5 D A Q 0 0 (WJ cI aJ (aP 0) tc tl mi eb hd hs ig ct ++ (WP cI aP E vs dp B sz cd M fr tt f1 f2 cg)) 51 [(0, .ref (aJ 0)), (1, .int (nI b)), (4, .int y)] [] := by
      intro y hv
      refine y_aload_n C 0 dX0_blockBehind_51 rfl rfl ?_
      refine y_dup C dX0_blockBehind_52 rfl ?_
      refine y_get C in_X0_blockBehind_0 (ci := 0) rfl 8 (by decide) (List.mem_of_getElem? (i := 4) rfl) 0 rfl rfl dX0_blockBehind_53 ?_
      refine y_iconst C (v := (1 : Int32)) dX0_blockBehind_56 (by decide) ?_
      refine y_iadd C dX0_blockBehind_57 ?_
      refine y_put C in_X0_blockBehind_0 tyX0 tyX0_ok nmX0 (ci := 0) rfl 8 (by decide) rfl (List.mem_of_getElem? (i := 4) rfl) 0 rfl rfl rfl (Nat.le_of_ble_eq_true rfl) (ws' := WJ cI aJ (aP 0) tc tl mi eb hd hs ig (ct + ((1 : Int32))) ++ (WP cI aP E vs dp B sz cd M fr tt f1 f2 cg)) rfl dX0_blockBehind_58 ?_
      exact jn61 _ _ hv (by simp [h21])
    refine y_if_eq C (tgt := 51) dX0_blockBehind_37 (by decide)  (fun h37 => ?_) (fun h37 => ?_)
    · skip
      refine y_sub [1, 2, 0] (lv' := [(0, .ref (aJ 0)), (1, .int (nI b)), (4, .int (f1 b))]) rfl ?_
      exact jn51 _ (by simp only [xeF]; rw [if_neg h21, if_pos (yl_c.mp h37)])
    · skip
      refine y_aload_n C 1 dX0_blockBehind_40 rfl rfl ?_
      refine y_get C in_X0_blockBehind_0 (ci := 0) rfl 0 (by decide) (List.mem_of_getElem? (i := 1) rfl) 0 rfl rfl dX0_blockBehind_41 ?_
      refine y_get C in_X0_blockBehind_1 (ci := 1) rfl 10 (by decide) (List.mem_of_getElem? (i := 3) rfl) 4 rfl rfl dX0_blockBehind_44 ?_
      refine y_iload_n C 2 dX0_blockBehind_47 rfl rfl ?_
      refine y_iald C (q0 := 12) (t0 := 0) rfl rfl (by decide) (by omega) dX0_blockBehind_48 ?_
      refine y_istore C (lv' := [(4, .int (f2 b)), (0, .ref (aJ 0)), (1, .int (nI b)), (2, .long ch)]) dX0_blockBehind_49 (by decide) rfl ?_
      refine y_sub [1, 2, 0] (lv' := [(0, .ref (aJ 0)), (1, .int (nI b)), (4, .int (f2 b))]) rfl ?_
      exact jn51 _ (by simp only [xeF]; rw [if_neg h21, if_neg (fun q => h37 (yl_c.mpr q))])
theorem in_X0_begin_0 : ∀ w ∈ wsX00, w ∈ wsX0_begin := fun _ h => List.mem_cons_of_mem _ (List.mem_append_right _ h)
set_option maxHeartbeats 4000000 in
set_option maxRecDepth 100000 in
theorem c_X0_begin (l : Launch) (D : va_G) (cI : ClassId) (aJ : Nat → Nat) (tc tl : Nat → Int32) (mi eb hd : Int32) (hs : Nat → Int32) (ig ct : Int32) (aP : Nat → Nat) (E : Nat) (vs dp : Nat → Int32) (B : Nat) (sz cd : Nat → Nat) (M : Nat) (fr tt : Nat → Nat) (f1 f2 : Nat → Int32) (cg : Int32)  : ctV l yX0_begin wsX0_begin (rmD 0 0 0) D [(cI, .int)] [.ref (aJ 0)] (WJ cI aJ (aP 0) tc tl mi eb hd hs ig ct ++ (WP cI aP E vs dp B sz cd M fr tt f1 f2 cg)) (WJ cI aJ (aP 0) (fillF tc 8 0) (fillF tl 8 0) ((0 : Int32)) eb ((0 : Int32)) hs ((0 : Int32)) ((0 : Int32)) ++ (WP cI aP E vs dp B sz cd M fr tt f1 f2 cg)) 0 0 := by
  refine ctV_of (by decide) rfl (Nat.le_of_ble_eq_true rfl) ?_
  intro p e s m args below meth c A Q C hnm K
  refine y_lv (lv' := [(0, .ref (aJ 0))]) rfl ?_
  refine y_iconst C (v := nI 0) dX0_begin_0 (by decide) ?_
  refine y_istore_n C (lv' := [(1, .int (nI 0)), (0, .ref (aJ 0))]) dX0_begin_1 rfl (by decide) rfl ?_
  have lp2 : ∀ (n2 : Nat) (i : Nat) (g1 : (Nat → Int32)) (g2 : (Nat → Int32)), (i ≤ 8) → (g1 = fillF tc i 0) → (g2 = fillF tl i 0) → (8 - i) < n2 → yW p l e (rmD 0 0 0) s m args below meth c 2 D A Q 0 0 (WJ cI aJ (aP 0) g1 g2 mi eb hd hs ig ct ++ (WP cI aP E vs dp B sz cd M fr tt f1 f2 cg)) 2 [(0, .ref (aJ 0)), (1, .int (nI i))] [] := by
    intro n2
    induction n2 with
    | zero => intro i g1 g2 hi hf1 hf2 hm; exact absurd hm (Nat.not_lt_zero _)
    | succ n2 ih2 =>
      intro i g1 g2 hi hf1 hf2 hm2
      refine y_iload_n C 1 dX0_begin_2 rfl rfl ?_
      refine y_bipush C (v := nI 8) dX0_begin_3 (by decide) ?_
      refine y_icmpN_ge C (tgt := 28) dX0_begin_5 (by decide) (by omega) (by omega) (fun h5 => ?_) (fun h5 => ?_)
      · skip
        rw [show i = 8 by omega] at hf1 hf2; subst hf1 hf2
        refine y_aload_n C 0 dX0_begin_28 rfl rfl ?_
        refine y_iconst C (v := (0 : Int32)) dX0_begin_29 (by decide) ?_
        refine y_put C in_X0_begin_0 tyX0 tyX0_ok nmX0 (ci := 0) rfl 3 (by decide) rfl (List.mem_of_getElem? (i := 3) rfl) 0 rfl rfl rfl (Nat.le_of_ble_eq_true rfl) (ws' := WJ cI aJ (aP 0) (fillF tc 8 0) (fillF tl 8 0) ((0 : Int32)) eb hd hs ig ct ++ (WP cI aP E vs dp B sz cd M fr tt f1 f2 cg)) rfl dX0_begin_30 ?_
        refine y_aload_n C 0 dX0_begin_33 rfl rfl ?_
        refine y_iconst C (v := (0 : Int32)) dX0_begin_34 (by decide) ?_
        refine y_put C in_X0_begin_0 tyX0 tyX0_ok nmX0 (ci := 0) rfl 5 (by decide) rfl (List.mem_of_getElem? (i := 4) rfl) 0 rfl rfl rfl (Nat.le_of_ble_eq_true rfl) (ws' := WJ cI aJ (aP 0) (fillF tc 8 0) (fillF tl 8 0) ((0 : Int32)) eb ((0 : Int32)) hs ig ct ++ (WP cI aP E vs dp B sz cd M fr tt f1 f2 cg)) rfl dX0_begin_35 ?_
        refine y_aload_n C 0 dX0_begin_38 rfl rfl ?_
        refine y_iconst C (v := (0 : Int32)) dX0_begin_39 (by decide) ?_
        refine y_put C in_X0_begin_0 tyX0 tyX0_ok nmX0 (ci := 0) rfl 7 (by decide) rfl (List.mem_of_getElem? (i := 5) rfl) 0 rfl rfl rfl (Nat.le_of_ble_eq_true rfl) (ws' := WJ cI aJ (aP 0) (fillF tc 8 0) (fillF tl 8 0) ((0 : Int32)) eb ((0 : Int32)) hs ((0 : Int32)) ct ++ (WP cI aP E vs dp B sz cd M fr tt f1 f2 cg)) rfl dX0_begin_40 ?_
        refine y_aload_n C 0 dX0_begin_43 rfl rfl ?_
        refine y_iconst C (v := (0 : Int32)) dX0_begin_44 (by decide) ?_
        refine y_put C in_X0_begin_0 tyX0 tyX0_ok nmX0 (ci := 0) rfl 8 (by decide) rfl (List.mem_of_getElem? (i := 6) rfl) 0 rfl rfl rfl (Nat.le_of_ble_eq_true rfl) (ws' := WJ cI aJ (aP 0) (fillF tc 8 0) (fillF tl 8 0) ((0 : Int32)) eb ((0 : Int32)) hs ((0 : Int32)) ((0 : Int32)) ++ (WP cI aP E vs dp B sz cd M fr tt f1 f2 cg)) rfl dX0_begin_45 ?_
        exact K _ _ _ _ dX0_begin_48 (by decide) (by decide)
      · skip
        refine y_aload_n C 0 dX0_begin_8 rfl rfl ?_
        refine y_get C in_X0_begin_0 (ci := 0) rfl 1 (by decide) (List.mem_of_getElem? (i := 1) rfl) 0 rfl rfl dX0_begin_9 ?_
        refine y_iload_n C 1 dX0_begin_12 rfl rfl ?_
        refine y_iconst C (v := (0 : Int32)) dX0_begin_13 (by decide) ?_
        refine y_iast C (q0 := 1) (t0 := 0) rfl rfl (by decide) (by omega) (ws' := WJ cI aJ (aP 0) (upd g1 i ((0 : Int32))) g2 mi eb hd hs ig ct ++ (WP cI aP E vs dp B sz cd M fr tt f1 f2 cg)) rfl dX0_begin_14 ?_
        refine y_aload_n C 0 dX0_begin_15 rfl rfl ?_
        refine y_get C in_X0_begin_0 (ci := 0) rfl 2 (by decide) (List.mem_of_getElem? (i := 2) rfl) 0 rfl rfl dX0_begin_16 ?_
        refine y_iload_n C 1 dX0_begin_19 rfl rfl ?_
        refine y_iconst C (v := (0 : Int32)) dX0_begin_20 (by decide) ?_
        refine y_iast C (q0 := 2) (t0 := 0) rfl rfl (by decide) (by omega) (ws' := WJ cI aJ (aP 0) (upd g1 i ((0 : Int32))) (upd g2 i ((0 : Int32))) mi eb hd hs ig ct ++ (WP cI aP E vs dp B sz cd M fr tt f1 f2 cg)) rfl dX0_begin_21 ?_
        refine y_iinc C (k := 1) (lv' := [(1, .int (nI (i + 1))), (0, .ref (aJ 0))]) dX0_begin_22 rfl (yn_inc rfl) (by decide) rfl ?_
        refine y_goto C (tgt := 2) dX0_begin_25 (by decide) ?_
        refine y_sub [1, 0] (lv' := [(0, .ref (aJ 0)), (1, .int (nI (i + 1)))]) rfl ?_
        exact ih2 _ _ _ (by omega) (by rw [hf1, fill_s]) (by rw [hf2, fill_s]) (by omega)
  refine y_sub [1, 0] (lv' := [(0, .ref (aJ 0)), (1, .int (nI 0))]) rfl ?_
  exact lp2 _ _ _ _ (Nat.zero_le _) ((fill_0 _ _).symm) ((fill_0 _ _).symm) (Nat.lt_succ_self _)
theorem in_X0_goThrough_0 : ∀ w ∈ wsX00, w ∈ wsX0_goThrough := fun _ h => List.mem_cons_of_mem _ (List.mem_append_left _ (List.mem_append_right _ h))
theorem in_X0_goThrough_1 : ∀ w ∈ wsX10, w ∈ wsX0_goThrough := fun _ h => List.mem_cons_of_mem _ (List.mem_append_right _ h)
set_option maxHeartbeats 4000000 in
set_option maxRecDepth 100000 in
theorem c_X0_goThrough (l : Launch) (D : va_G) (cI : ClassId) (aJ : Nat → Nat) (tc tl : Nat → Int32) (mi eb hd : Int32) (hs : Nat → Int32) (ig ct : Int32) (aP : Nat → Nat) (E : Nat) (vs dp : Nat → Int32) (B : Nat) (sz cd : Nat → Nat) (M : Nat) (fr tt : Nat → Nat) (f1 f2 : Nat → Int32) (cg : Int32) (ch : Int64) (t : Nat) (tc2 tl2 : Nat → Int32) (mi2 eb2 hd2 : Int32) (hs2 : Nat → Int32) (ig2 ct2 : Int32) (gn2 : Nat) (nx2 : Int32) (hE : E ≤ 8) (hsz : ∀ j, sz j ≤ 12) (hcd : ∀ j, cd j < 24) (htt : ∀ j, tt j < 40) (hcv : ∀ j, cd j % 3 = 2 → cd j / 3 < 6) (hf1 : ∀ b, f1 b = -1 ∨ ∃ q, q < 80 ∧ f1 b = nI q) (hf2 : ∀ b, f2 b = -1 ∨ ∃ q, q < 80 ∧ f2 b = nI q) (ht2 : t ≤ 1000) (hW : jwF E dp sz cd tt f1 f2 ch t (fillF tc 8 0, fillF tl 8 0, 0, eb, 0, hs, 0, 0, 0, nI 0) = (tc2, tl2, mi2, eb2, hd2, hs2, ig2, ct2, gn2, nx2)) : ctI l yX0_goThrough wsX0_goThrough (rmD 2 0 0) D [(cI, .int)] [.ref (aJ 0), .long ch, .int (nI t)] (WJ cI aJ (aP 0) tc tl mi eb hd hs ig ct ++ (WP cI aP E vs dp B sz cd M fr tt f1 f2 cg)) (WJ cI aJ (aP 0) tc2 (lgF hd2 ig2 hs2 tl2 E) mi2 eb2 (hd2 &&& (hd2 ^^^ -1)) hs2 ig2 ct2 ++ (WP cI aP E vs dp B sz cd M fr tt f1 f2 cg)) (nI gn2) 0 0 := by
  refine ctI_of (by decide) rfl (Nat.le_of_ble_eq_true rfl) ?_
  intro p e s m args below meth c A Q C hnm K
  refine y_lv (lv' := [(0, .ref (aJ 0)), (1, .long ch), (3, .int (nI t))]) rfl ?_
  refine y_aload_n C 0 dX0_goThrough_0 rfl rfl ?_
  refine y_callV C (wr := []) 0 (c_X0_begin l D cI aJ tc tl mi eb hd hs ig ct aP E vs dp B sz cd M fr tt f1 f2 cg) gX0_goThrough_X0_begin rfl rfl rfl (by decide +kernel) ⟨Nat.le_of_ble_eq_true rfl, Nat.le_of_ble_eq_true rfl⟩ (q0 := 0) (ci := 0) rfl rfl rfl rfl rfl (Nat.le_of_ble_eq_true rfl) dX0_goThrough_1 ⟨Nat.le_of_ble_eq_true rfl, Nat.le_of_ble_eq_true rfl⟩ ?_
  refine y_ws (ws' := WJ cI aJ (aP 0) (fillF tc 8 0) (fillF tl 8 0) ((0 : Int32)) eb ((0 : Int32)) hs ((0 : Int32)) ((0 : Int32)) ++ (WP cI aP E vs dp B sz cd M fr tt f1 f2 cg)) rfl ?_
  refine y_iconst C (v := nI 0) dX0_goThrough_4 (by decide) ?_
  refine y_istore C (lv' := [(4, .int (nI 0)), (0, .ref (aJ 0)), (1, .long ch), (3, .int (nI t))]) dX0_goThrough_5 (by decide) rfl ?_
  refine y_iconst C (v := nI 0) dX0_goThrough_7 (by decide) ?_
  refine y_istore C (lv' := [(5, .int (nI 0)), (4, .int (nI 0)), (0, .ref (aJ 0)), (1, .long ch), (3, .int (nI t))]) dX0_goThrough_8 (by decide) rfl ?_
  have lp10 : ∀ (n10 : Nat) (a1 : (Nat → Int32)) (a2 : (Nat → Int32)) (m1 : Int32) (e9 : Int32) (h1 : Int32) (s1 : (Nat → Int32)) (i1 : Int32) (c1 : Int32) (g : Nat) (nx : Int32), (g ≤ t) → ((nx = -1 ∨ ∃ b, b < 40 ∧ nx = nI b)) → (jwF E dp sz cd tt f1 f2 ch (t - g) (a1, a2, m1, e9, h1, s1, i1, c1, g, nx) = (tc2, tl2, mi2, eb2, hd2, hs2, ig2, ct2, gn2, nx2)) → (t - g) < n10 → yW p l e (rmD 2 0 0) s m args below meth c 6 D A Q 0 0 (WJ cI aJ (aP 0) a1 a2 m1 e9 h1 s1 i1 c1 ++ (WP cI aP E vs dp B sz cd M fr tt f1 f2 cg)) 10 [(0, .ref (aJ 0)), (1, .long ch), (3, .int (nI t)), (4, .int (nI g)), (5, .int nx)] [] := by
    intro n10
    induction n10 with
    | zero => intro a1 a2 m1 e9 h1 s1 i1 c1 g nx hg hnx hK hm; exact absurd hm (Nat.not_lt_zero _)
    | succ n10 ih10 =>
      intro a1 a2 m1 e9 h1 s1 i1 c1 g nx hg hnx hK hm10
      refine y_iload C 3 dX0_goThrough_10 rfl ?_
      refine y_iload_n C 2 dX0_goThrough_12 rfl rfl ?_
      refine y_icmpN_ge C (tgt := 49) dX0_goThrough_13 (by decide) (by omega) (by omega) (fun h13 => ?_) (fun h13 => ?_)
      · skip
        rw [show t - g = 0 by omega] at hK
        simp only [jwF] at hK
        simp only [Prod.mk.injEq] at hK
        obtain ⟨e1, e2, e3, e4, e5, e6, e7, e8, e9, e10⟩ := hK
        refine y_ws (ws' := WJ cI aJ (aP 0) tc2 tl2 mi2 eb2 hd2 hs2 ig2 ct2 ++ (WP cI aP E vs dp B sz cd M fr tt f1 f2 cg)) (by rw [e1, e2, e3, e4, e5, e6, e7, e8]) ?_
        refine y_aload_n C 0 dX0_goThrough_49 rfl rfl ?_
        refine y_aload_n C 0 dX0_goThrough_50 rfl rfl ?_
        refine y_get C in_X0_goThrough_0 (ci := 0) rfl 5 (by decide) (List.mem_of_getElem? (i := 2) rfl) 0 rfl rfl dX0_goThrough_51 ?_
        refine y_callV C (wr := []) 1 (c_X0_letGo l D cI aJ tc2 tl2 mi2 eb2 hd2 hs2 ig2 ct2 aP E vs dp B sz cd M fr tt f1 f2 cg hd2 hE) gX0_goThrough_X0_letGo rfl rfl rfl (by decide +kernel) ⟨Nat.le_of_ble_eq_true rfl, Nat.le_of_ble_eq_true rfl⟩ (q0 := 0) (ci := 0) rfl rfl rfl rfl rfl (Nat.le_of_ble_eq_true rfl) dX0_goThrough_54 ⟨Nat.le_of_ble_eq_true rfl, Nat.le_of_ble_eq_true rfl⟩ ?_
        refine y_ws (ws' := WJ cI aJ (aP 0) tc2 (lgF hd2 ig2 hs2 tl2 E) mi2 eb2 (hd2 &&& (hd2 ^^^ -1)) hs2 ig2 ct2 ++ (WP cI aP E vs dp B sz cd M fr tt f1 f2 cg)) rfl ?_
        refine y_iload C 3 dX0_goThrough_57 rfl ?_
        exact K _ _ _ _ _ dX0_goThrough_59 (by rw [e9]) (by decide) (by decide)
      · skip
        refine y_iload C 4 dX0_goThrough_16 rfl ?_
        refine y_iconst C (v := (-1)) dX0_goThrough_18 (by decide) ?_
        refine y_icmp_eq C (tgt := 49) dX0_goThrough_19 (by decide)  (fun h19 => ?_) (fun h19 => ?_)
        · skip
          rw [jw_stop h19] at hK
          simp only [Prod.mk.injEq] at hK
          obtain ⟨e1, e2, e3, e4, e5, e6, e7, e8, e9, e10⟩ := hK
          refine y_ws (ws' := WJ cI aJ (aP 0) tc2 tl2 mi2 eb2 hd2 hs2 ig2 ct2 ++ (WP cI aP E vs dp B sz cd M fr tt f1 f2 cg)) (by rw [e1, e2, e3, e4, e5, e6, e7, e8]) ?_
          refine y_aload_n C 0 dX0_goThrough_49 rfl rfl ?_
          refine y_aload_n C 0 dX0_goThrough_50 rfl rfl ?_
          refine y_get C in_X0_goThrough_0 (ci := 0) rfl 5 (by decide) (List.mem_of_getElem? (i := 2) rfl) 0 rfl rfl dX0_goThrough_51 ?_
          refine y_callV C (wr := []) 1 (c_X0_letGo l D cI aJ tc2 tl2 mi2 eb2 hd2 hs2 ig2 ct2 aP E vs dp B sz cd M fr tt f1 f2 cg hd2 hE) gX0_goThrough_X0_letGo rfl rfl rfl (by decide +kernel) ⟨Nat.le_of_ble_eq_true rfl, Nat.le_of_ble_eq_true rfl⟩ (q0 := 0) (ci := 0) rfl rfl rfl rfl rfl (Nat.le_of_ble_eq_true rfl) dX0_goThrough_54 ⟨Nat.le_of_ble_eq_true rfl, Nat.le_of_ble_eq_true rfl⟩ ?_
          refine y_ws (ws' := WJ cI aJ (aP 0) tc2 (lgF hd2 ig2 hs2 tl2 E) mi2 eb2 (hd2 &&& (hd2 ^^^ -1)) hs2 ig2 ct2 ++ (WP cI aP E vs dp B sz cd M fr tt f1 f2 cg)) rfl ?_
          refine y_iload C 3 dX0_goThrough_57 rfl ?_
          exact K _ _ _ _ _ dX0_goThrough_59 (by rw [e9]) (by decide) (by decide)
        · skip
          obtain ⟨b, hb, rfl⟩ : ∃ b, b < 40 ∧ nx = nI b := hnx.resolve_left h19
          refine y_aload_n C 0 dX0_goThrough_22 rfl rfl ?_
          refine y_iload C 4 dX0_goThrough_23 rfl ?_
          refine y_callV C (wr := []) 1 (c_X0_goThroughBlock l D cI aJ a1 a2 m1 e9 h1 s1 i1 c1 aP E vs dp B sz cd M fr tt f1 f2 cg b hE hsz hcd (hb) hcv) gX0_goThrough_X0_goThroughBlock rfl rfl rfl (by decide +kernel) ⟨Nat.le_of_ble_eq_true rfl, Nat.le_of_ble_eq_true rfl⟩ (q0 := 0) (ci := 0) rfl rfl rfl rfl rfl (Nat.le_of_ble_eq_true rfl) dX0_goThrough_25 ⟨Nat.le_of_ble_eq_true rfl, Nat.le_of_ble_eq_true rfl⟩ ?_
          refine y_ws (ws' := WJ cI aJ (aP 0) ((jbF E dp cd b (a1, a2, m1, h1, s1, i1) (sz b)).1) ((jbF E dp cd b (a1, a2, m1, h1, s1, i1) (sz b)).2.1) ((jbF E dp cd b (a1, a2, m1, h1, s1, i1) (sz b)).2.2.1) e9 ((jbF E dp cd b (a1, a2, m1, h1, s1, i1) (sz b)).2.2.2.1) ((jbF E dp cd b (a1, a2, m1, h1, s1, i1) (sz b)).2.2.2.2.1) ((jbF E dp cd b (a1, a2, m1, h1, s1, i1) (sz b)).2.2.2.2.2) c1 ++ (WP cI aP E vs dp B sz cd M fr tt f1 f2 cg)) rfl ?_
          refine y_aload_n C 0 dX0_goThrough_28 rfl rfl ?_
          refine y_iload C 4 dX0_goThrough_29 rfl ?_
          refine y_put C in_X0_goThrough_0 tyX0 tyX0_ok nmX0 (ci := 0) rfl 4 (by decide) rfl (List.mem_of_getElem? (i := 1) rfl) 0 rfl rfl rfl (Nat.le_of_ble_eq_true rfl) (ws' := WJ cI aJ (aP 0) ((jbF E dp cd b (a1, a2, m1, h1, s1, i1) (sz b)).1) ((jbF E dp cd b (a1, a2, m1, h1, s1, i1) (sz b)).2.1) ((jbF E dp cd b (a1, a2, m1, h1, s1, i1) (sz b)).2.2.1) (nI b) ((jbF E dp cd b (a1, a2, m1, h1, s1, i1) (sz b)).2.2.2.1) ((jbF E dp cd b (a1, a2, m1, h1, s1, i1) (sz b)).2.2.2.2.1) ((jbF E dp cd b (a1, a2, m1, h1, s1, i1) (sz b)).2.2.2.2.2) c1 ++ (WP cI aP E vs dp B sz cd M fr tt f1 f2 cg)) rfl dX0_goThrough_31 ?_
          refine y_aload_n C 0 dX0_goThrough_34 rfl rfl ?_
          refine y_iload C 4 dX0_goThrough_35 rfl ?_
          refine y_lload_n C 1 dX0_goThrough_37 rfl rfl ?_
          refine y_callI C (wr := []) 2 (c_X0_blockBehind l D cI aJ ((jbF E dp cd b (a1, a2, m1, h1, s1, i1) (sz b)).1) ((jbF E dp cd b (a1, a2, m1, h1, s1, i1) (sz b)).2.1) ((jbF E dp cd b (a1, a2, m1, h1, s1, i1) (sz b)).2.2.1) (nI b) ((jbF E dp cd b (a1, a2, m1, h1, s1, i1) (sz b)).2.2.2.1) ((jbF E dp cd b (a1, a2, m1, h1, s1, i1) (sz b)).2.2.2.2.1) ((jbF E dp cd b (a1, a2, m1, h1, s1, i1) (sz b)).2.2.2.2.2) c1 aP E vs dp B sz cd M fr tt f1 f2 cg b ch htt (hb) hf1 hf2) gX0_goThrough_X0_blockBehind rfl rfl rfl (by decide +kernel) ⟨Nat.le_of_ble_eq_true rfl, Nat.le_of_ble_eq_true rfl⟩ (q0 := 0) (ci := 0) rfl rfl rfl rfl rfl (Nat.le_of_ble_eq_true rfl) dX0_goThrough_38 ⟨Nat.le_of_ble_eq_true rfl, Nat.le_of_ble_eq_true rfl⟩ ?_
          refine y_ws (ws' := WJ cI aJ (aP 0) ((jbF E dp cd b (a1, a2, m1, h1, s1, i1) (sz b)).1) ((jbF E dp cd b (a1, a2, m1, h1, s1, i1) (sz b)).2.1) ((jbF E dp cd b (a1, a2, m1, h1, s1, i1) (sz b)).2.2.1) (nI b) ((jbF E dp cd b (a1, a2, m1, h1, s1, i1) (sz b)).2.2.2.1) ((jbF E dp cd b (a1, a2, m1, h1, s1, i1) (sz b)).2.2.2.2.1) ((jbF E dp cd b (a1, a2, m1, h1, s1, i1) (sz b)).2.2.2.2.2) (if f2 b = -1 then c1 else c1 + 1) ++ (WP cI aP E vs dp B sz cd M fr tt f1 f2 cg)) rfl ?_
          refine y_istore C (lv' := [(5, .int (bbF tt f1 f2 ch c1 b)), (0, .ref (aJ 0)), (1, .long ch), (3, .int (nI t)), (4, .int (nI g))]) dX0_goThrough_41 (by decide) rfl ?_
          refine y_iinc C (k := 4) (lv' := [(4, .int (nI (g + 1))), (5, .int (bbF tt f1 f2 ch c1 b)), (0, .ref (aJ 0)), (1, .long ch), (3, .int (nI t))]) dX0_goThrough_43 rfl (yn_inc rfl) (by decide) rfl ?_
          refine y_goto C (tgt := 10) dX0_goThrough_46 (by decide) ?_
          refine y_sub [2, 3, 4, 0, 1] (lv' := [(0, .ref (aJ 0)), (1, .long ch), (3, .int (nI t)), (4, .int (nI (g + 1))), (5, .int (bbF tt f1 f2 ch c1 b))]) rfl ?_
          exact ih10 _ _ _ _ _ _ _ _ _ _ (by omega) (bb_ok htt _ _ _ _ _) (by rw [← hK, show t - g = (t - (g + 1)) + 1 by omega, jw_go hb]; rfl) (by omega)
  refine y_sub [2, 3, 4, 1, 0] (lv' := [(0, .ref (aJ 0)), (1, .long ch), (3, .int (nI t)), (4, .int (nI 0)), (5, .int (nI 0))]) rfl ?_
  exact lp10 _ _ _ _ _ _ _ _ _ _ _ (Nat.zero_le _) (Or.inr ⟨0, by decide, rfl⟩) hW (Nat.lt_succ_self _)
