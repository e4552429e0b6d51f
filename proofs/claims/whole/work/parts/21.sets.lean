/-- the cells of a Sets -/
def WS (cI : ClassId) (a : Nat → Nat) (p : Nat) (kp ea la ns ne ts te da de eo dn io : Nat → Int32) : va_W :=
  [(a 0, .inr (2, [.ref p, .ref (a 1), .ref (a 2), .ref (a 3), .ref (a 4), .ref (a 5), .ref (a 6), .ref (a 7), .ref (a 8), .ref (a 9), .ref (a 10), .ref (a 11), .ref (a 12)])),
   (a 1, .inl (cI, 40, .inl kp)), (a 2, .inl (cI, 40, .inl ea)), (a 3, .inl (cI, 40, .inl la)), (a 4, .inl (cI, 40, .inl ns)), (a 5, .inl (cI, 40, .inl ne)), (a 6, .inl (cI, 40, .inl ts)), (a 7, .inl (cI, 40, .inl te)), (a 8, .inl (cI, 40, .inl da)), (a 9, .inl (cI, 40, .inl de)),
   (a 10, .inl (cI, 80, .inl eo)), (a 11, .inl (cI, 80, .inl dn)), (a 12, .inl (cI, 80, .inl io))]
def gpD (dp : Nat → Int32) (cd : Nat → Nat) (b : Nat) : Nat → Int32
  | 0 => 0
  | k + 1 => if cd (12 * b + k) % 3 = 2 then gpD dp cd b k ||| dp (cd (12 * b + k) / 3) else gpD dp cd b k
def epD (dp : Nat → Int32) (cd : Nat → Nat) (b : Nat) : Nat → Int32
  | 0 => 0
  | k + 1 => if cd (12 * b + k) % 3 = 0 then epD dp cd b k ||| (oneF (cd (12 * b + k) / 3) &&& (gpD dp cd b k ^^^ -1)) else epD dp cd b k
def lpD (dp : Nat → Int32) (cd : Nat → Nat) (b : Nat) : Nat → Int32
  | 0 => 0
  | k + 1 => if cd (12 * b + k) % 3 = 0 then lpD dp cd b k ||| oneF (cd (12 * b + k) / 3) else if cd (12 * b + k) % 3 = 2 then lpD dp cd b k &&& (dp (cd (12 * b + k) / 3) ^^^ -1) else lpD dp cd b k
/-- the first n places of a row hold g -/
def rowU (f g : Nat → Int32) (n : Nat) : Nat → Int32 := fun j => if j < n then g j else f j
theorem ru_0 (f g : Nat → Int32) : rowU f g 0 = f := by funext j; simp [rowU]
theorem ru_s (f g : Nat → Int32) (n : Nat) : upd (rowU f g n) n (g n) = rowU f g (n + 1) := by
  funext j
  by_cases h : j = n
  · subst h; simp [upd, rowU]
  · by_cases h2 : j < n
    · simp [upd, rowU, h, h2, Nat.lt_succ_of_lt h2]
    · simp [upd, rowU, h, h2, show ¬ j < n + 1 by omega]
/-- needed: the start, an edge, a round, rounds -/
def inN (E : Nat) (f1 kp ea ne ns : Nat → Int32) : Nat → (Nat → Int32) × (Nat → Int32)
  | 0 => (ne, ns)
  | b + 1 => (upd (inN E f1 kp ea ne ns b).1 b (if f1 b = -1 then 0 else allF E), upd (inN E f1 kp ea ne ns b).2 b (ea b ||| (kp b &&& (if f1 b = -1 then 0 else allF E))))
def skS (kp ea : Nat → Int32) (fr tt : Nat → Nat) (S : (Nat → Int32) × (Nat → Int32) × Nat) (j : Nat) : (Nat → Int32) × (Nat → Int32) × Nat :=
  if S.1 (fr j) &&& S.2.1 (tt j) = S.1 (fr j) then S else (upd S.1 (fr j) (S.1 (fr j) &&& S.2.1 (tt j)), upd S.2.1 (fr j) (ea (fr j) ||| (kp (fr j) &&& (S.1 (fr j) &&& S.2.1 (tt j)))), 1)
def skD (kp ea : Nat → Int32) (fr tt : Nat → Nat) : Nat → (Nat → Int32) × (Nat → Int32) × Nat → (Nat → Int32) × (Nat → Int32) × Nat
  | 0, S => S
  | n + 1, S => skD kp ea fr tt n (skS kp ea fr tt S n)
def irN (kp ea : Nat → Int32) (M : Nat) (fr tt : Nat → Nat) (S : (Nat → Int32) × (Nat → Int32)) : Nat → (Nat → Int32) × (Nat → Int32)
  | 0 => S
  | k + 1 => ((skD kp ea fr tt M ((irN kp ea M fr tt S k).1, (irN kp ea M fr tt S k).2, 0)).1, (skD kp ea fr tt M ((irN kp ea M fr tt S k).1, (irN kp ea M fr tt S k).2, 0)).2.1)
def flN (kp ea : Nat → Int32) (M : Nat) (fr tt : Nat → Nat) (S : (Nat → Int32) × (Nat → Int32)) : Nat := (skD kp ea fr tt M (S.1, S.2, 0)).2.2
def fnR (E : Nat) (B M : Nat) (fr tt : Nat → Nat) (f1 kp ea ne ns ne2 ns2 : Nat → Int32) : Prop :=
  ∃ k : Nat, k < 1000 ∧ (∀ j, j < k → flN kp ea M fr tt (irN kp ea M fr tt (inN E f1 kp ea ne ns B) j) ≠ 0) ∧ flN kp ea M fr tt (irN kp ea M fr tt (inN E f1 kp ea ne ns B) k) = 0 ∧ (ne2, ns2) = irN kp ea M fr tt (inN E f1 kp ea ne ns B) (k + 1)
/-- there -/
def flF (E B : Nat) (tt : Nat → Nat) (row : Nat → Int32) : Nat → Nat → Int32
  | 0 => fillF row B 0
  | j + 1 => upd (flF E B tt row j) (tt j) (allF E)
def inT (kp la ts te : Nat → Int32) : Nat → (Nat → Int32) × (Nat → Int32)
  | 0 => (ts, te)
  | b + 1 => (upd (inT kp la ts te b).1 b ((inT kp la ts te b).1 b), upd (inT kp la ts te b).2 b (la b ||| (kp b &&& (inT kp la ts te b).1 b)))
def stS (kp la : Nat → Int32) (fr tt : Nat → Nat) (S : (Nat → Int32) × (Nat → Int32) × Nat) (j : Nat) : (Nat → Int32) × (Nat → Int32) × Nat :=
  if S.1 (tt j) &&& S.2.1 (fr j) = S.1 (tt j) then S else (upd S.1 (tt j) (S.1 (tt j) &&& S.2.1 (fr j)), upd S.2.1 (tt j) (la (tt j) ||| (kp (tt j) &&& (S.1 (tt j) &&& S.2.1 (fr j)))), 1)
def stD (kp la : Nat → Int32) (fr tt : Nat → Nat) (S : (Nat → Int32) × (Nat → Int32) × Nat) : Nat → (Nat → Int32) × (Nat → Int32) × Nat
  | 0 => S
  | n + 1 => stS kp la fr tt (stD kp la fr tt S n) n
def irT (kp la : Nat → Int32) (M : Nat) (fr tt : Nat → Nat) (S : (Nat → Int32) × (Nat → Int32)) : Nat → (Nat → Int32) × (Nat → Int32)
  | 0 => S
  | k + 1 => ((stD kp la fr tt ((irT kp la M fr tt S k).1, (irT kp la M fr tt S k).2, 0) M).1, (stD kp la fr tt ((irT kp la M fr tt S k).1, (irT kp la M fr tt S k).2, 0) M).2.1)
def flT (kp la : Nat → Int32) (M : Nat) (fr tt : Nat → Nat) (S : (Nat → Int32) × (Nat → Int32)) : Nat := (stD kp la fr tt (S.1, S.2, 0) M).2.2
def ftR (E B M : Nat) (fr tt : Nat → Nat) (kp la ts te ts2 te2 : Nat → Int32) : Prop :=
  ∃ k : Nat, k < 1000 ∧ (∀ j, j < k → flT kp la M fr tt (irT kp la M fr tt (inT kp la (flF E B tt ts M) te B) j) ≠ 0) ∧ flT kp la M fr tt (irT kp la M fr tt (inT kp la (flF E B tt ts M) te B) k) = 0 ∧ (ts2, te2) = irT kp la M fr tt (inT kp la (flF E B tt ts M) te B) (k + 1)
/-- earliest, delayed -/
def ecF (kp ns ne te : Nat → Int32) (fr tt : Nat → Nat) (j : Nat) : Int32 := (ns (tt j) &&& (te (fr j) ^^^ -1)) &&& ((kp (fr j) &&& ne (fr j)) ^^^ -1)
def dcF (ea eo da : Nat → Int32) (fr : Nat → Nat) (j : Nat) : Int32 := eo j ||| (da (fr j) &&& (ea (fr j) ^^^ -1))
def sdS (ea eo : Nat → Int32) (fr tt : Nat → Nat) (S : (Nat → Int32) × Nat) (j : Nat) : (Nat → Int32) × Nat :=
  if S.1 (tt j) &&& dcF ea eo S.1 fr j = S.1 (tt j) then S else (upd S.1 (tt j) (S.1 (tt j) &&& dcF ea eo S.1 fr j), 1)
def sdD (ea eo : Nat → Int32) (fr tt : Nat → Nat) (S : (Nat → Int32) × Nat) : Nat → (Nat → Int32) × Nat
  | 0 => S
  | n + 1 => sdS ea eo fr tt (sdD ea eo fr tt S n) n
def irD (ea eo : Nat → Int32) (M : Nat) (fr tt : Nat → Nat) (d : Nat → Int32) : Nat → Nat → Int32
  | 0 => d
  | k + 1 => (sdD ea eo fr tt (irD ea eo M fr tt d k, 0) M).1
def flD (ea eo : Nat → Int32) (M : Nat) (fr tt : Nat → Nat) (d : Nat → Int32) : Nat := (sdD ea eo fr tt (d, 0) M).2
def fdR (E B M : Nat) (fr tt : Nat → Nat) (ea ns eo da da2 : Nat → Int32) : Prop :=
  ∃ k : Nat, k < 1000 ∧ (∀ j, j < k → flD ea eo M fr tt (irD ea eo M fr tt (upd (flF E B tt da M) 0 (ns 0)) j) ≠ 0) ∧ flD ea eo M fr tt (irD ea eo M fr tt (upd (flF E B tt da M) 0 (ns 0)) k) = 0 ∧ da2 = irD ea eo M fr tt (upd (flF E B tt da M) 0 (ns 0)) (k + 1)
theorem skS_le {kp ea : Nat → Int32} {fr tt : Nat → Nat} {S : (Nat → Int32) × (Nat → Int32) × Nat} (h : S.2.2 ≤ 1) (j : Nat) : (skS kp ea fr tt S j).2.2 ≤ 1 := by
  unfold skS; split
  · exact h
  · exact Nat.le_refl _
theorem skD_le {kp ea : Nat → Int32} {fr tt : Nat → Nat} (n : Nat) : ∀ {S : (Nat → Int32) × (Nat → Int32) × Nat}, S.2.2 ≤ 1 → (skD kp ea fr tt n S).2.2 ≤ 1 := by
  induction n with
  | zero => intro S h; exact h
  | succ n ih => intro S h; exact ih (skS_le h n)
theorem stD_le {kp la : Nat → Int32} {fr tt : Nat → Nat} {S : (Nat → Int32) × (Nat → Int32) × Nat} (h : S.2.2 ≤ 1) (n : Nat) : (stD kp la fr tt S n).2.2 ≤ 1 := by
  induction n with
  | zero => exact h
  | succ n ih => simp only [stD, stS]; split
                 · exact ih
                 · exact Nat.le_refl _
theorem sdD_le {ea eo : Nat → Int32} {fr tt : Nat → Nat} {S : (Nat → Int32) × Nat} (h : S.2 ≤ 1) (n : Nat) : (sdD ea eo fr tt S n).2 ≤ 1 := by
  induction n with
  | zero => exact h
  | succ n ih => simp only [sdD, sdS]; split
                 · exact ih
                 · exact Nat.le_refl _
theorem yn_bool {f : Nat} (h : f ≤ 1) : narrow .boolean (.int (nI f)) = .int (nI f) := by
  have hcs : f = 0 ∨ f = 1 := by omega
  rcases hcs with rfl | rfl <;> rfl
/-- a counter that goes down, one less than its number -/
theorem yn_down {n : Nat} (hn : n ≤ 80) : (n = 0 ∧ nI n - nI 1 < 0) ∨ ∃ j, n = j + 1 ∧ nI n - nI 1 = nI j := by
  cases n with
  | zero => exact Or.inl ⟨rfl, pk_sneg (by decide) (by decide)⟩
  | succ j => exact Or.inr ⟨j, rfl, by rw [pk_sub (by omega)]; rfl⟩
theorem yn_dn1 (j : Nat) : nI j + Int32.ofInt (-1) = nI j - nI 1 := by
  rw [Int32.sub_eq_add_neg]; rfl
theorem in_X2_findSetsOfBlock_1 : ∀ w ∈ wsX10, w ∈ wsX2_findSetsOfBlock := fun _ h => List.mem_cons_of_mem _ (List.mem_append_right _ h)
theorem in_X2_findSetsOfBlock_2 : ∀ w ∈ wsX20, w ∈ wsX2_findSetsOfBlock := fun _ h => List.mem_cons_of_mem _ (List.mem_append_left _ (List.mem_append_right _ h))
set_option maxHeartbeats 4000000 in
set_option maxRecDepth 100000 in
theorem c_X2_findSetsOfBlock (l : Launch) (D : va_G) (cI : ClassId) (aS : Nat → Nat) (kp ea la ns ne ts te da de eo dn io : Nat → Int32) (aP : Nat → Nat) (E : Nat) (vs dp : Nat → Int32) (B : Nat) (sz cd : Nat → Nat) (M : Nat) (fr tt : Nat → Nat) (f1 f2 : Nat → Int32) (ch : Int32) (b : Nat) (hsz : ∀ j, sz j ≤ 12) (hcd : ∀ j, cd j < 24) (hb : b < 40) (hcv : ∀ j, cd j % 3 = 2 → cd j / 3 < 6) : ctV l yX2_findSetsOfBlock wsX2_findSetsOfBlock (rmD 1 0 0) D [(cI, .int)] [.ref (aS 0), .int (nI b)] (WS cI aS (aP 0) kp ea la ns ne ts te da de eo dn io ++ (WP cI aP E vs dp B sz cd M fr tt f1 f2 ch)) (WS cI aS (aP 0) (upd kp b (allF E &&& (gpD dp cd b (sz b) ^^^ -1))) (upd ea b (epD dp cd b (sz b))) (upd la b (lpD dp cd b (sz b))) ns ne ts te da de eo dn io ++ (WP cI aP E vs dp B sz cd M fr tt f1 f2 ch)) 0 0 := by
  refine ctV_of (by decide) rfl (Nat.le_of_ble_eq_true rfl) ?_
  intro p e s m args below meth c A Q C hnm K
  refine y_lv (lv' := [(0, .ref (aS 0)), (1, .int (nI b))]) rfl ?_
  refine y_iconst C (v := (0 : Int32)) dX2_findSetsOfBlock_0 (by decide) ?_
  refine y_istore_n C (lv' := [(2, .int ((0 : Int32))), (0, .ref (aS 0)), (1, .int (nI b))]) dX2_findSetsOfBlock_1 rfl (by decide) rfl ?_
  refine y_iconst C (v := (0 : Int32)) dX2_findSetsOfBlock_2 (by decide) ?_
  refine y_istore_n C (lv' := [(3, .int ((0 : Int32))), (2, .int ((0 : Int32))), (0, .ref (aS 0)), (1, .int (nI b))]) dX2_findSetsOfBlock_3 rfl (by decide) rfl ?_
  refine y_iconst C (v := (0 : Int32)) dX2_findSetsOfBlock_4 (by decide) ?_
  refine y_istore C (lv' := [(4, .int ((0 : Int32))), (3, .int ((0 : Int32))), (2, .int ((0 : Int32))), (0, .ref (aS 0)), (1, .int (nI b))]) dX2_findSetsOfBlock_5 (by decide) rfl ?_
  refine y_iconst C (v := nI 0) dX2_findSetsOfBlock_7 (by decide) ?_
  refine y_istore C (lv' := [(5, .int (nI 0)), (4, .int ((0 : Int32))), (3, .int ((0 : Int32))), (2, .int ((0 : Int32))), (0, .ref (aS 0)), (1, .int (nI b))]) dX2_findSetsOfBlock_8 (by decide) rfl ?_
  have lp10 : ∀ (n10 : Nat) (i : Nat) (g : Int32) (x : Int32) (y : Int32), (i ≤ sz b) → (g = gpD dp cd b i) → (x = epD dp cd b i) → (y = lpD dp cd b i) → (sz b - i) < n10 → yW p l e (rmD 1 0 0) s m args below meth c 9 D A Q 0 0 (WS cI aS (aP 0) kp ea la ns ne ts te da de eo dn io ++ (WP cI aP E vs dp B sz cd M fr tt f1 f2 ch)) 10 [(0, .ref (aS 0)), (1, .int (nI b)), (2, .int g), (3, .int x), (4, .int y), (5, .int (nI i))] [] := by
    intro n10
    induction n10 with
    | zero => intro i g x y hi hg hx hy hm; exact absurd hm (Nat.not_lt_zero _)
    | succ n10 ih10 =>
      intro i g x y hi hg hx hy hm10
      have hzb := hsz b
      refine y_iload C 5 dX2_findSetsOfBlock_10 rfl ?_
      refine y_aload_n C 0 dX2_findSetsOfBlock_12 rfl rfl ?_
      refine y_get C in_X2_findSetsOfBlock_2 (ci := 2) rfl 0 (by decide) (List.mem_of_getElem? (i := 1) rfl) 0 rfl rfl dX2_findSetsOfBlock_13 ?_
      refine y_get C in_X2_findSetsOfBlock_1 (ci := 1) rfl 4 (by decide) (List.mem_of_getElem? (i := 2) rfl) 13 rfl rfl dX2_findSetsOfBlock_16 ?_
      refine y_iload_n C 1 dX2_findSetsOfBlock_19 rfl rfl ?_
      refine y_ialdA C (q0 := 16) (t0 := 0) rfl rfl (by decide) (by omega) dX2_findSetsOfBlock_20 ?_
      refine y_icmpN_ge C (tgt := 118) dX2_findSetsOfBlock_21 (by decide) (by omega) (by have := hsz b; omega) (fun h21 => ?_) (fun h21 => ?_)
      · skip
        have hq_i : i = sz b := by omega
        rw [hq_i] at hg; subst hg
        rw [hq_i] at hx; subst hx
        rw [hq_i] at hy; subst hy
        refine y_aload_n C 0 dX2_findSetsOfBlock_118 rfl rfl ?_
        refine y_get C in_X2_findSetsOfBlock_2 (ci := 2) rfl 1 (by decide) (List.mem_of_getElem? (i := 4) rfl) 0 rfl rfl dX2_findSetsOfBlock_119 ?_
        refine y_iload_n C 1 dX2_findSetsOfBlock_122 rfl rfl ?_
        refine y_aload_n C 0 dX2_findSetsOfBlock_123 rfl rfl ?_
        refine y_get C in_X2_findSetsOfBlock_2 (ci := 2) rfl 0 (by decide) (List.mem_of_getElem? (i := 1) rfl) 0 rfl rfl dX2_findSetsOfBlock_124 ?_
        refine y_callI C (wr := WS cI aS (aP 0) kp ea la ns ne ts te da de eo dn io) 0 (c_X1_allExpressions l D cI aP E vs dp B sz cd M fr tt f1 f2 ch) gX2_findSetsOfBlock_X1_allExpressions rfl rfl rfl (by decide +kernel) ⟨Nat.le_of_ble_eq_true rfl, Nat.le_of_ble_eq_true rfl⟩ (q0 := 0) (ci := 1) rfl rfl rfl rfl rfl (Nat.le_of_ble_eq_true rfl) dX2_findSetsOfBlock_127 ⟨Nat.le_of_ble_eq_true rfl, Nat.le_of_ble_eq_true rfl⟩ ?_
        refine y_ws (ws' := WS cI aS (aP 0) kp ea la ns ne ts te da de eo dn io ++ (WP cI aP E vs dp B sz cd M fr tt f1 f2 ch)) rfl ?_
        refine y_iload_n C 2 dX2_findSetsOfBlock_130 rfl rfl ?_
        refine y_iconst C (v := (-1)) dX2_findSetsOfBlock_131 (by decide) ?_
        refine y_ixor C dX2_findSetsOfBlock_132 ?_
        refine y_iand C dX2_findSetsOfBlock_133 ?_
        refine y_iast C (q0 := 1) (t0 := 0) rfl rfl (by decide) (by omega) (ws' := WS cI aS (aP 0) (upd kp b ((allF E) &&& ((gpD dp cd b (sz b)) ^^^ ((-1))))) ea la ns ne ts te da de eo dn io ++ (WP cI aP E vs dp B sz cd M fr tt f1 f2 ch)) rfl dX2_findSetsOfBlock_134 ?_
        refine y_aload_n C 0 dX2_findSetsOfBlock_135 rfl rfl ?_
        refine y_get C in_X2_findSetsOfBlock_2 (ci := 2) rfl 2 (by decide) (List.mem_of_getElem? (i := 5) rfl) 0 rfl rfl dX2_findSetsOfBlock_136 ?_
        refine y_iload_n C 1 dX2_findSetsOfBlock_139 rfl rfl ?_
        refine y_iload_n C 3 dX2_findSetsOfBlock_140 rfl rfl ?_
        refine y_iast C (q0 := 2) (t0 := 0) rfl rfl (by decide) (by omega) (ws' := WS cI aS (aP 0) (upd kp b ((allF E) &&& ((gpD dp cd b (sz b)) ^^^ ((-1))))) (upd ea b (epD dp cd b (sz b))) la ns ne ts te da de eo dn io ++ (WP cI aP E vs dp B sz cd M fr tt f1 f2 ch)) rfl dX2_findSetsOfBlock_141 ?_
        refine y_aload_n C 0 dX2_findSetsOfBlock_142 rfl rfl ?_
        refine y_get C in_X2_findSetsOfBlock_2 (ci := 2) rfl 3 (by decide) (List.mem_of_getElem? (i := 6) rfl) 0 rfl rfl dX2_findSetsOfBlock_143 ?_
        refine y_iload_n C 1 dX2_findSetsOfBlock_146 rfl rfl ?_
        refine y_iload C 4 dX2_findSetsOfBlock_147 rfl ?_
        refine y_iast C (q0 := 3) (t0 := 0) rfl rfl (by decide) (by omega) (ws' := WS cI aS (aP 0) (upd kp b ((allF E) &&& ((gpD dp cd b (sz b)) ^^^ ((-1))))) (upd ea b (epD dp cd b (sz b))) (upd la b (lpD dp cd b (sz b))) ns ne ts te da de eo dn io ++ (WP cI aP E vs dp B sz cd M fr tt f1 f2 ch)) rfl dX2_findSetsOfBlock_149 ?_
        exact K _ _ _ _ dX2_findSetsOfBlock_150 (by decide) (by decide)
      · skip
        refine y_aload_n C 0 dX2_findSetsOfBlock_24 rfl rfl ?_
        refine y_get C in_X2_findSetsOfBlock_2 (ci := 2) rfl 0 (by decide) (List.mem_of_getElem? (i := 1) rfl) 0 rfl rfl dX2_findSetsOfBlock_25 ?_
        refine y_iload_n C 1 dX2_findSetsOfBlock_28 rfl rfl ?_
        refine y_iload C 5 dX2_findSetsOfBlock_29 rfl ?_
        refine y_callI C (wr := WS cI aS (aP 0) kp ea la ns ne ts te da de eo dn io) 2 (c_X1_codeAt l D cI aP E vs dp B sz cd M fr tt f1 f2 ch b i hcd hb (by omega)) gX2_findSetsOfBlock_X1_codeAt rfl rfl rfl (by decide +kernel) ⟨Nat.le_of_ble_eq_true rfl, Nat.le_of_ble_eq_true rfl⟩ (q0 := 0) (ci := 1) rfl rfl rfl rfl rfl (Nat.le_of_ble_eq_true rfl) dX2_findSetsOfBlock_31 ⟨Nat.le_of_ble_eq_true rfl, Nat.le_of_ble_eq_true rfl⟩ ?_
        refine y_ws (ws' := WS cI aS (aP 0) kp ea la ns ne ts te da de eo dn io ++ (WP cI aP E vs dp B sz cd M fr tt f1 f2 ch)) rfl ?_
        refine y_istore C (lv' := [(6, .int (nI (cd (12 * b + i)))), (0, .ref (aS 0)), (1, .int (nI b)), (2, .int g), (3, .int x), (4, .int y), (5, .int (nI i))]) dX2_findSetsOfBlock_34 (by decide) rfl ?_
        refine y_iload C 0 dX2_findSetsOfBlock_36 rfl ?_
        refine y_iconst C (v := nI 3) dX2_findSetsOfBlock_38 (by decide) ?_
        refine y_idivN C dX2_findSetsOfBlock_39 (by have := hcd (12 * b + i); omega) (by decide) (by decide) ?_
        refine y_istore C (lv' := [(7, .int (nI ((cd (12 * b + i)) / 3))), (6, .int (nI (cd (12 * b + i)))), (0, .ref (aS 0)), (1, .int (nI b)), (2, .int g), (3, .int x), (4, .int y), (5, .int (nI i))]) dX2_findSetsOfBlock_40 (by decide) rfl ?_
        refine y_iload C 1 dX2_findSetsOfBlock_42 rfl ?_
        refine y_iconst C (v := nI 3) dX2_findSetsOfBlock_44 (by decide) ?_
        refine y_iremN C dX2_findSetsOfBlock_45 (by have := hcd (12 * b + i); omega) (by decide) (by decide) ?_
        refine y_istore C (lv' := [(8, .int (nI ((cd (12 * b + i)) % 3))), (7, .int (nI ((cd (12 * b + i)) / 3))), (6, .int (nI (cd (12 * b + i)))), (0, .ref (aS 0)), (1, .int (nI b)), (2, .int g), (3, .int x), (4, .int y), (5, .int (nI i))]) dX2_findSetsOfBlock_46 (by decide) rfl ?_
        refine y_iload C 0 dX2_findSetsOfBlock_48 rfl ?_
        refine y_ifN_ne C (tgt := 76) dX2_findSetsOfBlock_50 (by decide) (by have := hcd (12 * b + i); omega) (fun h50 => ?_) (fun h50 => ?_)
        · skip
          refine y_iload C 0 dX2_findSetsOfBlock_76 rfl ?_
          refine y_iconst C (v := nI 2) dX2_findSetsOfBlock_78 (by decide) ?_
          refine y_icmpN_ne C (tgt := 112) dX2_findSetsOfBlock_79 (by decide) (by have := hcd (12 * b + i); omega) (by omega) (fun h79 => ?_) (fun h79 => ?_)
          · skip
            refine y_iinc C (k := 8) (lv' := [(5, .int (nI (i + 1))), (8, .int (nI ((cd (12 * b + i)) % 3))), (7, .int (nI ((cd (12 * b + i)) / 3))), (6, .int (nI (cd (12 * b + i)))), (0, .ref (aS 0)), (1, .int (nI b)), (2, .int g), (3, .int x), (4, .int y)]) dX2_findSetsOfBlock_112 rfl (yn_inc rfl) (by decide) rfl ?_
            refine y_goto C (tgt := 10) dX2_findSetsOfBlock_115 (by decide) ?_
            refine y_sub [4, 5, 6, 7, 8, 0] (lv' := [(0, .ref (aS 0)), (1, .int (nI b)), (2, .int g), (3, .int x), (4, .int y), (5, .int (nI (i + 1)))]) rfl ?_
            exact ih10 _ _ _ _ (by omega) (by simp [gpD, oneF, hg, hx, hy, h50, h79]) (by simp [epD, oneF, hg, hx, hy, h50, h79]) (by simp [lpD, oneF, hg, hx, hy, h50, h79]) (by omega)
          · skip
            have hc6 := hcv (12 * b + i) h79
            refine y_iload_n C 5 dX2_findSetsOfBlock_82 rfl rfl ?_
            refine y_aload_n C 3 dX2_findSetsOfBlock_83 rfl rfl ?_
            refine y_get C in_X2_findSetsOfBlock_2 (ci := 2) rfl 0 (by decide) (List.mem_of_getElem? (i := 1) rfl) 0 rfl rfl dX2_findSetsOfBlock_84 ?_
            refine y_get C in_X2_findSetsOfBlock_1 (ci := 1) rfl 2 (by decide) (List.mem_of_getElem? (i := 3) rfl) 13 rfl rfl dX2_findSetsOfBlock_87 ?_
            refine y_iload C 1 dX2_findSetsOfBlock_90 rfl ?_
            refine y_iald C (q0 := 15) (t0 := 0) rfl rfl (by decide) (by have := hcd (12 * b + i); omega) dX2_findSetsOfBlock_92 ?_
            refine y_ior C dX2_findSetsOfBlock_93 ?_
            refine y_istore_n C (lv' := [(2, .int (g ||| (dp ((cd (12 * b + i)) / 3)))), (8, .int (nI ((cd (12 * b + i)) % 3))), (7, .int (nI ((cd (12 * b + i)) / 3))), (6, .int (nI (cd (12 * b + i)))), (0, .ref (aS 0)), (1, .int (nI b)), (3, .int x), (4, .int y), (5, .int (nI i))]) dX2_findSetsOfBlock_94 rfl (by decide) rfl ?_
            refine y_iload C 7 dX2_findSetsOfBlock_95 rfl ?_
            refine y_aload_n C 4 dX2_findSetsOfBlock_97 rfl rfl ?_
            refine y_get C in_X2_findSetsOfBlock_2 (ci := 2) rfl 0 (by decide) (List.mem_of_getElem? (i := 1) rfl) 0 rfl rfl dX2_findSetsOfBlock_98 ?_
            refine y_get C in_X2_findSetsOfBlock_1 (ci := 1) rfl 2 (by decide) (List.mem_of_getElem? (i := 3) rfl) 13 rfl rfl dX2_findSetsOfBlock_101 ?_
            refine y_iload C 2 dX2_findSetsOfBlock_104 rfl ?_
            refine y_iald C (q0 := 15) (t0 := 0) rfl rfl (by decide) (by have := hcd (12 * b + i); omega) dX2_findSetsOfBlock_106 ?_
            refine y_iconst C (v := (-1)) dX2_findSetsOfBlock_107 (by decide) ?_
            refine y_ixor C dX2_findSetsOfBlock_108 ?_
            refine y_iand C dX2_findSetsOfBlock_109 ?_
            refine y_istore C (lv' := [(4, .int (y &&& ((dp ((cd (12 * b + i)) / 3)) ^^^ ((-1))))), (2, .int (g ||| (dp ((cd (12 * b + i)) / 3)))), (8, .int (nI ((cd (12 * b + i)) % 3))), (7, .int (nI ((cd (12 * b + i)) / 3))), (6, .int (nI (cd (12 * b + i)))), (0, .ref (aS 0)), (1, .int (nI b)), (3, .int x), (5, .int (nI i))]) dX2_findSetsOfBlock_110 (by decide) rfl ?_
            refine y_iinc C (k := 8) (lv' := [(5, .int (nI (i + 1))), (4, .int (y &&& ((dp ((cd (12 * b + i)) / 3)) ^^^ ((-1))))), (2, .int (g ||| (dp ((cd (12 * b + i)) / 3)))), (8, .int (nI ((cd (12 * b + i)) % 3))), (7, .int (nI ((cd (12 * b + i)) / 3))), (6, .int (nI (cd (12 * b + i)))), (0, .ref (aS 0)), (1, .int (nI b)), (3, .int x)]) dX2_findSetsOfBlock_112 rfl (yn_inc rfl) (by decide) rfl ?_
            refine y_goto C (tgt := 10) dX2_findSetsOfBlock_115 (by decide) ?_
            refine y_sub [6, 7, 2, 8, 1, 0] (lv' := [(0, .ref (aS 0)), (1, .int (nI b)), (2, .int (g ||| (dp ((cd (12 * b + i)) / 3)))), (3, .int x), (4, .int (y &&& ((dp ((cd (12 * b + i)) / 3)) ^^^ ((-1))))), (5, .int (nI (i + 1)))]) rfl ?_
            exact ih10 _ _ _ _ (by omega) (by simp [gpD, oneF, hg, hx, hy, h50, h79]) (by simp [epD, oneF, hg, hx, hy, h50, h79]) (by simp [lpD, oneF, hg, hx, hy, h50, h79]) (by omega)
        · skip
          refine y_iload_n C 6 dX2_findSetsOfBlock_53 rfl rfl ?_
          refine y_iconst C (v := (1 : Int32)) dX2_findSetsOfBlock_54 (by decide) ?_
          refine y_iload C 1 dX2_findSetsOfBlock_55 rfl ?_
          refine y_ishl C dX2_findSetsOfBlock_57 ?_
          refine y_iload_n C 5 dX2_findSetsOfBlock_58 rfl rfl ?_
          refine y_iconst C (v := (-1)) dX2_findSetsOfBlock_59 (by decide) ?_
          refine y_ixor C dX2_findSetsOfBlock_60 ?_
          refine y_iand C dX2_findSetsOfBlock_61 ?_
          refine y_ior C dX2_findSetsOfBlock_62 ?_
          refine y_istore_n C (lv' := [(3, .int (x ||| ((((1 : Int32)) <<< ((nI ((cd (12 * b + i)) / 3)) &&& 31)) &&& (g ^^^ ((-1)))))), (8, .int (nI ((cd (12 * b + i)) % 3))), (7, .int (nI ((cd (12 * b + i)) / 3))), (6, .int (nI (cd (12 * b + i)))), (0, .ref (aS 0)), (1, .int (nI b)), (2, .int g), (4, .int y), (5, .int (nI i))]) dX2_findSetsOfBlock_63 rfl (by decide) rfl ?_
          refine y_iload C 7 dX2_findSetsOfBlock_64 rfl ?_
          refine y_iconst C (v := (1 : Int32)) dX2_findSetsOfBlock_66 (by decide) ?_
          refine y_iload C 2 dX2_findSetsOfBlock_67 rfl ?_
          refine y_ishl C dX2_findSetsOfBlock_69 ?_
          refine y_ior C dX2_findSetsOfBlock_70 ?_
          refine y_istore C (lv' := [(4, .int (y ||| (((1 : Int32)) <<< ((nI ((cd (12 * b + i)) / 3)) &&& 31)))), (3, .int (x ||| ((((1 : Int32)) <<< ((nI ((cd (12 * b + i)) / 3)) &&& 31)) &&& (g ^^^ ((-1)))))), (8, .int (nI ((cd (12 * b + i)) % 3))), (7, .int (nI ((cd (12 * b + i)) / 3))), (6, .int (nI (cd (12 * b + i)))), (0, .ref (aS 0)), (1, .int (nI b)), (2, .int g), (5, .int (nI i))]) dX2_findSetsOfBlock_71 (by decide) rfl ?_
          refine y_goto C (tgt := 112) dX2_findSetsOfBlock_73 (by decide) ?_
          refine y_iinc C (k := 8) (lv' := [(5, .int (nI (i + 1))), (4, .int (y ||| (((1 : Int32)) <<< ((nI ((cd (12 * b + i)) / 3)) &&& 31)))), (3, .int (x ||| ((((1 : Int32)) <<< ((nI ((cd (12 * b + i)) / 3)) &&& 31)) &&& (g ^^^ ((-1)))))), (8, .int (nI ((cd (12 * b + i)) % 3))), (7, .int (nI ((cd (12 * b + i)) / 3))), (6, .int (nI (cd (12 * b + i)))), (0, .ref (aS 0)), (1, .int (nI b)), (2, .int g)]) dX2_findSetsOfBlock_112 rfl (yn_inc rfl) (by decide) rfl ?_
          refine y_goto C (tgt := 10) dX2_findSetsOfBlock_115 (by decide) ?_
          refine y_sub [6, 7, 8, 2, 1, 0] (lv' := [(0, .ref (aS 0)), (1, .int (nI b)), (2, .int g), (3, .int (x ||| ((((1 : Int32)) <<< ((nI ((cd (12 * b + i)) / 3)) &&& 31)) &&& (g ^^^ ((-1)))))), (4, .int (y ||| (((1 : Int32)) <<< ((nI ((cd (12 * b + i)) / 3)) &&& 31)))), (5, .int (nI (i + 1)))]) rfl ?_
          exact ih10 _ _ _ _ (by omega) (by simp [gpD, oneF, hg, hx, hy, h50]) (by simp [epD, oneF, hg, hx, hy, h50]) (by simp [lpD, oneF, hg, hx, hy, h50]) (by omega)
  refine y_sub [4, 5, 3, 2, 1, 0] (lv' := [(0, .ref (aS 0)), (1, .int (nI b)), (2, .int ((0 : Int32))), (3, .int ((0 : Int32))), (4, .int ((0 : Int32))), (5, .int (nI 0))]) rfl ?_
  exact lp10 _ _ _ _ _ (Nat.zero_le _) rfl rfl rfl (Nat.lt_succ_self _)
theorem in_X2_setNeededAtEnd_2 : ∀ w ∈ wsX20, w ∈ wsX2_setNeededAtEnd := fun _ h => List.mem_cons_of_mem _ (List.mem_append_right _ h)
set_option maxHeartbeats 4000000 in
set_option maxRecDepth 100000 in
theorem c_X2_setNeededAtEnd (l : Launch) (D : va_G) (cI : ClassId) (aS : Nat → Nat) (kp ea la ns ne ts te da de eo dn io : Nat → Int32) (aP : Nat → Nat) (E : Nat) (vs dp : Nat → Int32) (B : Nat) (sz cd : Nat → Nat) (M : Nat) (fr tt : Nat → Nat) (f1 f2 : Nat → Int32) (ch : Int32) (b : Nat) (g : Int32) (hb : b < 40) : ctV l yX2_setNeededAtEnd wsX2_setNeededAtEnd (rmD 0 0 0) D [(cI, .int)] [.ref (aS 0), .int (nI b), .int g] (WS cI aS (aP 0) kp ea la ns ne ts te da de eo dn io ++ (WP cI aP E vs dp B sz cd M fr tt f1 f2 ch)) (WS cI aS (aP 0) kp ea la (upd ns b (ea b ||| (kp b &&& g))) (upd ne b g) ts te da de eo dn io ++ (WP cI aP E vs dp B sz cd M fr tt f1 f2 ch)) 0 0 := by
  refine ctV_of (by decide) rfl (Nat.le_of_ble_eq_true rfl) ?_
  intro p e s m args below meth c A Q C hnm K
  refine y_lv (lv' := [(0, .ref (aS 0)), (1, .int (nI b)), (2, .int g)]) rfl ?_
  refine y_aload_n C 0 dX2_setNeededAtEnd_0 rfl rfl ?_
  refine y_get C in_X2_setNeededAtEnd_2 (ci := 2) rfl 5 (by decide) (List.mem_of_getElem? (i := 1) rfl) 0 rfl rfl dX2_setNeededAtEnd_1 ?_
  refine y_iload_n C 1 dX2_setNeededAtEnd_4 rfl rfl ?_
  refine y_iload_n C 2 dX2_setNeededAtEnd_5 rfl rfl ?_
  refine y_iast C (q0 := 5) (t0 := 0) rfl rfl (by decide) (by omega) (ws' := WS cI aS (aP 0) kp ea la ns (upd ne b g) ts te da de eo dn io ++ (WP cI aP E vs dp B sz cd M fr tt f1 f2 ch)) rfl dX2_setNeededAtEnd_6 ?_
  refine y_aload_n C 0 dX2_setNeededAtEnd_7 rfl rfl ?_
  refine y_get C in_X2_setNeededAtEnd_2 (ci := 2) rfl 4 (by decide) (List.mem_of_getElem? (i := 2) rfl) 0 rfl rfl dX2_setNeededAtEnd_8 ?_
  refine y_iload_n C 1 dX2_setNeededAtEnd_11 rfl rfl ?_
  refine y_aload_n C 0 dX2_setNeededAtEnd_12 rfl rfl ?_
  refine y_get C in_X2_setNeededAtEnd_2 (ci := 2) rfl 2 (by decide) (List.mem_of_getElem? (i := 3) rfl) 0 rfl rfl dX2_setNeededAtEnd_13 ?_
  refine y_iload_n C 1 dX2_setNeededAtEnd_16 rfl rfl ?_
  refine y_iald C (q0 := 2) (t0 := 0) rfl rfl (by decide) (by omega) dX2_setNeededAtEnd_17 ?_
  refine y_aload_n C 0 dX2_setNeededAtEnd_18 rfl rfl ?_
  refine y_get C in_X2_setNeededAtEnd_2 (ci := 2) rfl 1 (by decide) (List.mem_of_getElem? (i := 4) rfl) 0 rfl rfl dX2_setNeededAtEnd_19 ?_
  refine y_iload_n C 1 dX2_setNeededAtEnd_22 rfl rfl ?_
  refine y_iald C (q0 := 1) (t0 := 0) rfl rfl (by decide) (by omega) dX2_setNeededAtEnd_23 ?_
  refine y_iload_n C 2 dX2_setNeededAtEnd_24 rfl rfl ?_
  refine y_iand C dX2_setNeededAtEnd_25 ?_
  refine y_ior C dX2_setNeededAtEnd_26 ?_
  refine y_iast C (q0 := 4) (t0 := 0) rfl rfl (by decide) (by omega) (ws' := WS cI aS (aP 0) kp ea la (upd ns b ((ea b) ||| ((kp b) &&& g))) (upd ne b g) ts te da de eo dn io ++ (WP cI aP E vs dp B sz cd M fr tt f1 f2 ch)) rfl dX2_setNeededAtEnd_27 ?_
  exact K _ _ _ _ dX2_setNeededAtEnd_28 (by decide) (by decide)
theorem in_X2_setThereAtStart_2 : ∀ w ∈ wsX20, w ∈ wsX2_setThereAtStart := fun _ h => List.mem_cons_of_mem _ (List.mem_append_right _ h)
set_option maxHeartbeats 4000000 in
set_option maxRecDepth 100000 in
theorem c_X2_setThereAtStart (l : Launch) (D : va_G) (cI : ClassId) (aS : Nat → Nat) (kp ea la ns ne ts te da de eo dn io : Nat → Int32) (aP : Nat → Nat) (E : Nat) (vs dp : Nat → Int32) (B : Nat) (sz cd : Nat → Nat) (M : Nat) (fr tt : Nat → Nat) (f1 f2 : Nat → Int32) (ch : Int32) (b : Nat) (g : Int32) (hb : b < 40) : ctV l yX2_setThereAtStart wsX2_setThereAtStart (rmD 0 0 0) D [(cI, .int)] [.ref (aS 0), .int (nI b), .int g] (WS cI aS (aP 0) kp ea la ns ne ts te da de eo dn io ++ (WP cI aP E vs dp B sz cd M fr tt f1 f2 ch)) (WS cI aS (aP 0) kp ea la ns ne (upd ts b g) (upd te b (la b ||| (kp b &&& g))) da de eo dn io ++ (WP cI aP E vs dp B sz cd M fr tt f1 f2 ch)) 0 0 := by
  refine ctV_of (by decide) rfl (Nat.le_of_ble_eq_true rfl) ?_
  intro p e s m args below meth c A Q C hnm K
  refine y_lv (lv' := [(0, .ref (aS 0)), (1, .int (nI b)), (2, .int g)]) rfl ?_
  refine y_aload_n C 0 dX2_setThereAtStart_0 rfl rfl ?_
  refine y_get C in_X2_setThereAtStart_2 (ci := 2) rfl 6 (by decide) (List.mem_of_getElem? (i := 1) rfl) 0 rfl rfl dX2_setThereAtStart_1 ?_
  refine y_iload_n C 1 dX2_setThereAtStart_4 rfl rfl ?_
  refine y_iload_n C 2 dX2_setThereAtStart_5 rfl rfl ?_
  refine y_iast C (q0 := 6) (t0 := 0) rfl rfl (by decide) (by omega) (ws' := WS cI aS (aP 0) kp ea la ns ne (upd ts b g) te da de eo dn io ++ (WP cI aP E vs dp B sz cd M fr tt f1 f2 ch)) rfl dX2_setThereAtStart_6 ?_
  refine y_aload_n C 0 dX2_setThereAtStart_7 rfl rfl ?_
  refine y_get C in_X2_setThereAtStart_2 (ci := 2) rfl 7 (by decide) (List.mem_of_getElem? (i := 2) rfl) 0 rfl rfl dX2_setThereAtStart_8 ?_
  refine y_iload_n C 1 dX2_setThereAtStart_11 rfl rfl ?_
  refine y_aload_n C 0 dX2_setThereAtStart_12 rfl rfl ?_
  refine y_get C in_X2_setThereAtStart_2 (ci := 2) rfl 3 (by decide) (List.mem_of_getElem? (i := 3) rfl) 0 rfl rfl dX2_setThereAtStart_13 ?_
  refine y_iload_n C 1 dX2_setThereAtStart_16 rfl rfl ?_
  refine y_iald C (q0 := 3) (t0 := 0) rfl rfl (by decide) (by omega) dX2_setThereAtStart_17 ?_
  refine y_aload_n C 0 dX2_setThereAtStart_18 rfl rfl ?_
  refine y_get C in_X2_setThereAtStart_2 (ci := 2) rfl 1 (by decide) (List.mem_of_getElem? (i := 4) rfl) 0 rfl rfl dX2_setThereAtStart_19 ?_
  refine y_iload_n C 1 dX2_setThereAtStart_22 rfl rfl ?_
  refine y_iald C (q0 := 1) (t0 := 0) rfl rfl (by decide) (by omega) dX2_setThereAtStart_23 ?_
  refine y_iload_n C 2 dX2_setThereAtStart_24 rfl rfl ?_
  refine y_iand C dX2_setThereAtStart_25 ?_
  refine y_ior C dX2_setThereAtStart_26 ?_
  refine y_iast C (q0 := 7) (t0 := 0) rfl rfl (by decide) (by omega) (ws' := WS cI aS (aP 0) kp ea la ns ne (upd ts b g) (upd te b ((la b) ||| ((kp b) &&& g))) da de eo dn io ++ (WP cI aP E vs dp B sz cd M fr tt f1 f2 ch)) rfl dX2_setThereAtStart_27 ?_
  exact K _ _ _ _ dX2_setThereAtStart_28 (by decide) (by decide)
theorem in_X2_shrinkNeeded_1 : ∀ w ∈ wsX10, w ∈ wsX2_shrinkNeeded := fun _ h => List.mem_cons_of_mem _ (List.mem_append_right _ h)
theorem in_X2_shrinkNeeded_2 : ∀ w ∈ wsX20, w ∈ wsX2_shrinkNeeded := fun _ h => List.mem_cons_of_mem _ (List.mem_append_left _ (List.mem_append_right _ h))
set_option maxHeartbeats 4000000 in
set_option maxRecDepth 100000 in
theorem c_X2_shrinkNeeded (l : Launch) (D : va_G) (cI : ClassId) (aS : Nat → Nat) (kp ea la ns ne ts te da de eo dn io : Nat → Int32) (aP : Nat → Nat) (E : Nat) (vs dp : Nat → Int32) (B : Nat) (sz cd : Nat → Nat) (M : Nat) (fr tt : Nat → Nat) (f1 f2 : Nat → Int32) (ch : Int32) (hM : M ≤ 80) (hfr : ∀ j, fr j < 40) (htt : ∀ j, tt j < 40) : ctI l yX2_shrinkNeeded wsX2_shrinkNeeded (rmD 1 0 0) D [(cI, .int)] [.ref (aS 0)] (WS cI aS (aP 0) kp ea la ns ne ts te da de eo dn io ++ (WP cI aP E vs dp B sz cd M fr tt f1 f2 ch)) (WS cI aS (aP 0) kp ea la ((skD kp ea fr tt M (ne, ns, 0)).2.1) ((skD kp ea fr tt M (ne, ns, 0)).1) ts te da de eo dn io ++ (WP cI aP E vs dp B sz cd M fr tt f1 f2 ch)) (nI ((skD kp ea fr tt M (ne, ns, 0)).2.2)) 0 0 := by
  refine ctZ_of (by decide) rfl (Nat.le_of_ble_eq_true rfl) ?_
  intro p e s m args below meth c A Q C hnm K
  refine y_lv (lv' := [(0, .ref (aS 0))]) rfl ?_
  refine y_iconst C (v := nI 0) dX2_shrinkNeeded_0 (by decide) ?_
  refine y_istore_n C (lv' := [(1, .int (nI 0)), (0, .ref (aS 0))]) dX2_shrinkNeeded_1 rfl (by decide) rfl ?_
  refine y_aload_n C 1 dX2_shrinkNeeded_2 rfl rfl ?_
  refine y_get C in_X2_shrinkNeeded_2 (ci := 2) rfl 0 (by decide) (List.mem_of_getElem? (i := 1) rfl) 0 rfl rfl dX2_shrinkNeeded_3 ?_
  refine y_get C in_X2_shrinkNeeded_1 (ci := 1) rfl 6 (by decide) (List.mem_of_getElem? (i := 2) rfl) 13 rfl rfl dX2_shrinkNeeded_6 ?_
  refine y_iconst C (v := nI 1) dX2_shrinkNeeded_9 (by decide) ?_
  refine y_isub C dX2_shrinkNeeded_10 ?_
  refine y_istore_n C (lv' := [(2, .int ((nI M) - (nI 1))), (1, .int (nI 0)), (0, .ref (aS 0))]) dX2_shrinkNeeded_11 rfl (by decide) rfl ?_
  have lp12 : ∀ (n12 : Nat) (n : Nat) (x : Int32) (p1 : (Nat → Int32)) (q1 : (Nat → Int32)) (f : Nat), (n ≤ M) → (x = nI n - nI 1) → (skD kp ea fr tt n (p1, q1, f) = skD kp ea fr tt M (ne, ns, 0)) → (f ≤ 1) → n < n12 → yW p l e (rmD 1 0 0) s m args below meth c 5 D A Q 0 0 (WS cI aS (aP 0) kp ea la q1 p1 ts te da de eo dn io ++ (WP cI aP E vs dp B sz cd M fr tt f1 f2 ch)) 12 [(0, .ref (aS 0)), (1, .int (nI f)), (2, .int x)] [] := by
    intro n12
    induction n12 with
    | zero => intro n x p1 q1 f hn hx hK hf hm; exact absurd hm (Nat.not_lt_zero _)
    | succ n12 ih12 =>
      intro n x p1 q1 f hn hx hK hf hm12
      refine y_iload_n C 2 dX2_shrinkNeeded_12 rfl rfl ?_
      refine y_if_lt C (tgt := 75) dX2_shrinkNeeded_13 (by decide)  (fun h13 => ?_) (fun h13 => ?_)
      · skip
        have hn0 : n = 0 := (yn_down (n := n) (by omega)).elim (fun q => q.1) (fun q => by obtain ⟨j, h1, h2⟩ := q; rw [hx, h2] at h13; exact absurd h13 (nI_pos (by omega)))
        rw [hn0] at hK
        refine y_iload_n C 1 dX2_shrinkNeeded_75 rfl rfl ?_
        refine y_ws (ws' := WS cI aS (aP 0) kp ea la ((skD kp ea fr tt M (ne, ns, 0)).2.1) ((skD kp ea fr tt M (ne, ns, 0)).1) ts te da de eo dn io ++ (WP cI aP E vs dp B sz cd M fr tt f1 f2 ch)) (by first | (rw [← hK]; done) | (rw [← hK]; rfl)) ?_
        exact K _ _ _ _ _ dX2_shrinkNeeded_76 (congrArg (fun z => nI z.2.2) hK) (yn_bool hf) (by decide) (by decide)
      · skip
        obtain ⟨j, hj1, hj2⟩ : ∃ j, n = j + 1 ∧ nI n - nI 1 = nI j := (yn_down (by omega)).resolve_left (fun q => h13 (by rw [hx]; exact q.2))
        rw [hj2] at hx; subst hx; subst hj1
        refine y_aload_n C 0 dX2_shrinkNeeded_16 rfl rfl ?_
        refine y_get C in_X2_shrinkNeeded_2 (ci := 2) rfl 0 (by decide) (List.mem_of_getElem? (i := 1) rfl) 0 rfl rfl dX2_shrinkNeeded_17 ?_
        refine y_get C in_X2_shrinkNeeded_1 (ci := 1) rfl 7 (by decide) (List.mem_of_getElem? (i := 3) rfl) 13 rfl rfl dX2_shrinkNeeded_20 ?_
        refine y_iload_n C 2 dX2_shrinkNeeded_23 rfl rfl ?_
        refine y_ialdA C (q0 := 18) (t0 := 0) rfl rfl (by decide) (by omega) dX2_shrinkNeeded_24 ?_
        refine y_istore_n C (lv' := [(3, .int (nI (fr j))), (0, .ref (aS 0)), (1, .int (nI f)), (2, .int (nI j))]) dX2_shrinkNeeded_25 rfl (by decide) rfl ?_
        refine y_aload_n C 1 dX2_shrinkNeeded_26 rfl rfl ?_
        refine y_get C in_X2_shrinkNeeded_2 (ci := 2) rfl 5 (by decide) (List.mem_of_getElem? (i := 4) rfl) 0 rfl rfl dX2_shrinkNeeded_27 ?_
        refine y_iload_n C 0 dX2_shrinkNeeded_30 rfl rfl ?_
        refine y_iald C (q0 := 5) (t0 := 0) rfl rfl (by decide) (by have := hfr j; omega) dX2_shrinkNeeded_31 ?_
        refine y_aload_n C 1 dX2_shrinkNeeded_32 rfl rfl ?_
        refine y_get C in_X2_shrinkNeeded_2 (ci := 2) rfl 4 (by decide) (List.mem_of_getElem? (i := 5) rfl) 0 rfl rfl dX2_shrinkNeeded_33 ?_
        refine y_aload_n C 1 dX2_shrinkNeeded_36 rfl rfl ?_
        refine y_get C in_X2_shrinkNeeded_2 (ci := 2) rfl 0 (by decide) (List.mem_of_getElem? (i := 1) rfl) 0 rfl rfl dX2_shrinkNeeded_37 ?_
        refine y_get C in_X2_shrinkNeeded_1 (ci := 1) rfl 8 (by decide) (List.mem_of_getElem? (i := 6) rfl) 13 rfl rfl dX2_shrinkNeeded_40 ?_
        refine y_iload_n C 3 dX2_shrinkNeeded_43 rfl rfl ?_
        refine y_ialdA C (q0 := 19) (t0 := 0) rfl rfl (by decide) (by omega) dX2_shrinkNeeded_44 ?_
        refine y_iald C (q0 := 4) (t0 := 0) rfl rfl (by decide) (by have := htt j; omega) dX2_shrinkNeeded_45 ?_
        refine y_iand C dX2_shrinkNeeded_46 ?_
        refine y_istore C (lv' := [(4, .int ((p1 (fr j)) &&& (q1 (tt j)))), (3, .int (nI (fr j))), (0, .ref (aS 0)), (1, .int (nI f)), (2, .int (nI j))]) dX2_shrinkNeeded_47 (by decide) rfl ?_
        refine y_iload C 0 dX2_shrinkNeeded_49 rfl ?_
        refine y_aload_n C 2 dX2_shrinkNeeded_51 rfl rfl ?_
        refine y_get C in_X2_shrinkNeeded_2 (ci := 2) rfl 5 (by decide) (List.mem_of_getElem? (i := 4) rfl) 0 rfl rfl dX2_shrinkNeeded_52 ?_
        refine y_iload_n C 1 dX2_shrinkNeeded_55 rfl rfl ?_
        refine y_iald C (q0 := 5) (t0 := 0) rfl rfl (by decide) (by have := hfr j; omega) dX2_shrinkNeeded_56 ?_
        refine y_icmp_eq C (tgt := 69) dX2_shrinkNeeded_57 (by decide)  (fun h57 => ?_) (fun h57 => ?_)
        · skip
          refine y_iinc C (k := 4) (lv' := [(2, .int ((nI j) + Int32.ofInt (-1))), (4, .int ((p1 (fr j)) &&& (q1 (tt j)))), (3, .int (nI (fr j))), (0, .ref (aS 0)), (1, .int (nI f))]) dX2_shrinkNeeded_69 rfl rfl (by decide) rfl ?_
          refine y_goto C (tgt := 12) dX2_shrinkNeeded_72 (by decide) ?_
          refine y_sub [3, 4, 0] (lv' := [(0, .ref (aS 0)), (1, .int (nI f)), (2, .int ((nI j) + Int32.ofInt (-1)))]) rfl ?_
          exact ih12 j _ _ _ _ (by omega) (yn_dn1 j) (by rw [← hK]; simp only [skD, skS]; simp [h57]) (by omega) (by omega)
        · skip
          refine y_aload_n C 2 dX2_shrinkNeeded_60 rfl rfl ?_
          refine y_iload_n C 1 dX2_shrinkNeeded_61 rfl rfl ?_
          refine y_iload C 0 dX2_shrinkNeeded_62 rfl ?_
          refine y_callV C (wr := []) 2 (c_X2_setNeededAtEnd l D cI aS kp ea la q1 p1 ts te da de eo dn io aP E vs dp B sz cd M fr tt f1 f2 ch (fr j) ((p1 (fr j)) &&& (q1 (tt j))) (by have := hfr j; omega)) gX2_shrinkNeeded_X2_setNeededAtEnd rfl rfl rfl (by decide +kernel) ⟨Nat.le_of_ble_eq_true rfl, Nat.le_of_ble_eq_true rfl⟩ (q0 := 0) (ci := 2) rfl rfl rfl rfl rfl (Nat.le_of_ble_eq_true rfl) dX2_shrinkNeeded_64 ⟨Nat.le_of_ble_eq_true rfl, Nat.le_of_ble_eq_true rfl⟩ ?_
          refine y_ws (ws' := WS cI aS (aP 0) kp ea la (upd q1 (fr j) (ea (fr j) ||| (kp (fr j) &&& ((p1 (fr j)) &&& (q1 (tt j)))))) (upd p1 (fr j) ((p1 (fr j)) &&& (q1 (tt j)))) ts te da de eo dn io ++ (WP cI aP E vs dp B sz cd M fr tt f1 f2 ch)) rfl ?_
          refine y_iconst C (v := nI 1) dX2_shrinkNeeded_67 (by decide) ?_
          refine y_istore_n C (lv' := [(1, .int (nI 1)), (4, .int ((p1 (fr j)) &&& (q1 (tt j)))), (3, .int (nI (fr j))), (0, .ref (aS 0)), (2, .int (nI j))]) dX2_shrinkNeeded_68 rfl (by decide) rfl ?_
          refine y_iinc C (k := 4) (lv' := [(2, .int ((nI j) + Int32.ofInt (-1))), (1, .int (nI 1)), (4, .int ((p1 (fr j)) &&& (q1 (tt j)))), (3, .int (nI (fr j))), (0, .ref (aS 0))]) dX2_shrinkNeeded_69 rfl rfl (by decide) rfl ?_
          refine y_goto C (tgt := 12) dX2_shrinkNeeded_72 (by decide) ?_
          refine y_sub [4, 1, 0] (lv' := [(0, .ref (aS 0)), (1, .int (nI 1)), (2, .int ((nI j) + Int32.ofInt (-1)))]) rfl ?_
          exact ih12 j _ _ _ _ (by omega) (yn_dn1 j) (by rw [← hK]; simp only [skD, skS]; simp [h57]) (by omega) (by omega)
  refine y_sub [2, 1, 0] (lv' := [(0, .ref (aS 0)), (1, .int (nI 0)), (2, .int ((nI M) - (nI 1)))]) rfl ?_
  exact lp12 _ M _ _ _ _ (Nat.le_refl _) rfl rfl (Nat.zero_le _) (Nat.lt_succ_self _)
theorem in_X2_shrinkThere_1 : ∀ w ∈ wsX10, w ∈ wsX2_shrinkThere := fun _ h => List.mem_cons_of_mem _ (List.mem_append_right _ h)
theorem in_X2_shrinkThere_2 : ∀ w ∈ wsX20, w ∈ wsX2_shrinkThere := fun _ h => List.mem_cons_of_mem _ (List.mem_append_left _ (List.mem_append_right _ h))
set_option maxHeartbeats 4000000 in
set_option maxRecDepth 100000 in
theorem c_X2_shrinkThere (l : Launch) (D : va_G) (cI : ClassId) (aS : Nat → Nat) (kp ea la ns ne ts te da de eo dn io : Nat → Int32) (aP : Nat → Nat) (E : Nat) (vs dp : Nat → Int32) (B : Nat) (sz cd : Nat → Nat) (M : Nat) (fr tt : Nat → Nat) (f1 f2 : Nat → Int32) (ch : Int32) (hM : M ≤ 80) (hfr : ∀ j, fr j < 40) (htt : ∀ j, tt j < 40) : ctI l yX2_shrinkThere wsX2_shrinkThere (rmD 1 0 0) D [(cI, .int)] [.ref (aS 0)] (WS cI aS (aP 0) kp ea la ns ne ts te da de eo dn io ++ (WP cI aP E vs dp B sz cd M fr tt f1 f2 ch)) (WS cI aS (aP 0) kp ea la ns ne ((stD kp la fr tt (ts, te, 0) M).1) ((stD kp la fr tt (ts, te, 0) M).2.1) da de eo dn io ++ (WP cI aP E vs dp B sz cd M fr tt f1 f2 ch)) (nI ((stD kp la fr tt (ts, te, 0) M).2.2)) 0 0 := by
  refine ctZ_of (by decide) rfl (Nat.le_of_ble_eq_true rfl) ?_
  intro p e s m args below meth c A Q C hnm K
  refine y_lv (lv' := [(0, .ref (aS 0))]) rfl ?_
  refine y_iconst C (v := nI 0) dX2_shrinkThere_0 (by decide) ?_
  refine y_istore_n C (lv' := [(1, .int (nI 0)), (0, .ref (aS 0))]) dX2_shrinkThere_1 rfl (by decide) rfl ?_
  refine y_iconst C (v := nI 0) dX2_shrinkThere_2 (by decide) ?_
  refine y_istore_n C (lv' := [(2, .int (nI 0)), (1, .int (nI 0)), (0, .ref (aS 0))]) dX2_shrinkThere_3 rfl (by decide) rfl ?_
  have lp4 : ∀ (n4 : Nat) (i : Nat) (p1 : (Nat → Int32)) (q1 : (Nat → Int32)) (f : Nat), (i ≤ M) → ((p1, q1, f) = stD kp la fr tt (ts, te, 0) i) → (f ≤ 1) → (M - i) < n4 → yW p l e (rmD 1 0 0) s m args below meth c 5 D A Q 0 0 (WS cI aS (aP 0) kp ea la ns ne p1 q1 da de eo dn io ++ (WP cI aP E vs dp B sz cd M fr tt f1 f2 ch)) 4 [(0, .ref (aS 0)), (1, .int (nI f)), (2, .int (nI i))] [] := by
    intro n4
    induction n4 with
    | zero => intro i p1 q1 f hi hK hf hm; exact absurd hm (Nat.not_lt_zero _)
    | succ n4 ih4 =>
      intro i p1 q1 f hi hK hf hm4
      refine y_iload_n C 2 dX2_shrinkThere_4 rfl rfl ?_
      refine y_aload_n C 0 dX2_shrinkThere_5 rfl rfl ?_
      refine y_get C in_X2_shrinkThere_2 (ci := 2) rfl 0 (by decide) (List.mem_of_getElem? (i := 1) rfl) 0 rfl rfl dX2_shrinkThere_6 ?_
      refine y_get C in_X2_shrinkThere_1 (ci := 1) rfl 6 (by decide) (List.mem_of_getElem? (i := 2) rfl) 13 rfl rfl dX2_shrinkThere_9 ?_
      refine y_icmpN_ge C (tgt := 74) dX2_shrinkThere_12 (by decide) (by omega) (by omega) (fun h12 => ?_) (fun h12 => ?_)
      · skip
        refine y_iload_n C 1 dX2_shrinkThere_74 rfl rfl ?_
        rw [show i = M by omega] at hK
        refine y_ws (ws' := WS cI aS (aP 0) kp ea la ns ne ((stD kp la fr tt (ts, te, 0) M).1) ((stD kp la fr tt (ts, te, 0) M).2.1) da de eo dn io ++ (WP cI aP E vs dp B sz cd M fr tt f1 f2 ch)) (by rw [← hK]) ?_
        exact K _ _ _ _ _ dX2_shrinkThere_75 (by rw [← hK]) (yn_bool hf) (by decide) (by decide)
      · skip
        refine y_aload_n C 0 dX2_shrinkThere_15 rfl rfl ?_
        refine y_get C in_X2_shrinkThere_2 (ci := 2) rfl 0 (by decide) (List.mem_of_getElem? (i := 1) rfl) 0 rfl rfl dX2_shrinkThere_16 ?_
        refine y_get C in_X2_shrinkThere_1 (ci := 1) rfl 8 (by decide) (List.mem_of_getElem? (i := 3) rfl) 13 rfl rfl dX2_shrinkThere_19 ?_
        refine y_iload_n C 2 dX2_shrinkThere_22 rfl rfl ?_
        refine y_ialdA C (q0 := 19) (t0 := 0) rfl rfl (by decide) (by omega) dX2_shrinkThere_23 ?_
        refine y_istore_n C (lv' := [(3, .int (nI (tt i))), (0, .ref (aS 0)), (1, .int (nI f)), (2, .int (nI i))]) dX2_shrinkThere_24 rfl (by decide) rfl ?_
        refine y_aload_n C 1 dX2_shrinkThere_25 rfl rfl ?_
        refine y_get C in_X2_shrinkThere_2 (ci := 2) rfl 6 (by decide) (List.mem_of_getElem? (i := 4) rfl) 0 rfl rfl dX2_shrinkThere_26 ?_
        refine y_iload_n C 0 dX2_shrinkThere_29 rfl rfl ?_
        refine y_iald C (q0 := 6) (t0 := 0) rfl rfl (by decide) (by have := htt i; omega) dX2_shrinkThere_30 ?_
        refine y_aload_n C 1 dX2_shrinkThere_31 rfl rfl ?_
        refine y_get C in_X2_shrinkThere_2 (ci := 2) rfl 7 (by decide) (List.mem_of_getElem? (i := 5) rfl) 0 rfl rfl dX2_shrinkThere_32 ?_
        refine y_aload_n C 1 dX2_shrinkThere_35 rfl rfl ?_
        refine y_get C in_X2_shrinkThere_2 (ci := 2) rfl 0 (by decide) (List.mem_of_getElem? (i := 1) rfl) 0 rfl rfl dX2_shrinkThere_36 ?_
        refine y_get C in_X2_shrinkThere_1 (ci := 1) rfl 7 (by decide) (List.mem_of_getElem? (i := 6) rfl) 13 rfl rfl dX2_shrinkThere_39 ?_
        refine y_iload_n C 3 dX2_shrinkThere_42 rfl rfl ?_
        refine y_ialdA C (q0 := 18) (t0 := 0) rfl rfl (by decide) (by omega) dX2_shrinkThere_43 ?_
        refine y_iald C (q0 := 7) (t0 := 0) rfl rfl (by decide) (by have := hfr i; omega) dX2_shrinkThere_44 ?_
        refine y_iand C dX2_shrinkThere_45 ?_
        refine y_istore C (lv' := [(4, .int ((p1 (tt i)) &&& (q1 (fr i)))), (3, .int (nI (tt i))), (0, .ref (aS 0)), (1, .int (nI f)), (2, .int (nI i))]) dX2_shrinkThere_46 (by decide) rfl ?_
        refine y_iload C 0 dX2_shrinkThere_48 rfl ?_
        refine y_aload_n C 2 dX2_shrinkThere_50 rfl rfl ?_
        refine y_get C in_X2_shrinkThere_2 (ci := 2) rfl 6 (by decide) (List.mem_of_getElem? (i := 4) rfl) 0 rfl rfl dX2_shrinkThere_51 ?_
        refine y_iload_n C 1 dX2_shrinkThere_54 rfl rfl ?_
        refine y_iald C (q0 := 6) (t0 := 0) rfl rfl (by decide) (by have := htt i; omega) dX2_shrinkThere_55 ?_
        refine y_icmp_eq C (tgt := 68) dX2_shrinkThere_56 (by decide)  (fun h56 => ?_) (fun h56 => ?_)
        · skip
          refine y_iinc C (k := 4) (lv' := [(2, .int (nI (i + 1))), (4, .int ((p1 (tt i)) &&& (q1 (fr i)))), (3, .int (nI (tt i))), (0, .ref (aS 0)), (1, .int (nI f))]) dX2_shrinkThere_68 rfl (yn_inc rfl) (by decide) rfl ?_
          refine y_goto C (tgt := 4) dX2_shrinkThere_71 (by decide) ?_
          refine y_sub [3, 4, 0] (lv' := [(0, .ref (aS 0)), (1, .int (nI f)), (2, .int (nI (i + 1)))]) rfl ?_
          exact ih4 _ _ _ _ (by omega) (by simp only [stD, ← hK, stS]; simp [h56]) (by omega) (by omega)
        · skip
          refine y_aload_n C 2 dX2_shrinkThere_59 rfl rfl ?_
          refine y_iload_n C 1 dX2_shrinkThere_60 rfl rfl ?_
          refine y_iload C 0 dX2_shrinkThere_61 rfl ?_
          refine y_callV C (wr := []) 2 (c_X2_setThereAtStart l D cI aS kp ea la ns ne p1 q1 da de eo dn io aP E vs dp B sz cd M fr tt f1 f2 ch (tt i) ((p1 (tt i)) &&& (q1 (fr i))) (by have := htt i; omega)) gX2_shrinkThere_X2_setThereAtStart rfl rfl rfl (by decide +kernel) ⟨Nat.le_of_ble_eq_true rfl, Nat.le_of_ble_eq_true rfl⟩ (q0 := 0) (ci := 2) rfl rfl rfl rfl rfl (Nat.le_of_ble_eq_true rfl) dX2_shrinkThere_63 ⟨Nat.le_of_ble_eq_true rfl, Nat.le_of_ble_eq_true rfl⟩ ?_
          refine y_ws (ws' := WS cI aS (aP 0) kp ea la ns ne (upd p1 (tt i) ((p1 (tt i)) &&& (q1 (fr i)))) (upd q1 (tt i) (la (tt i) ||| (kp (tt i) &&& ((p1 (tt i)) &&& (q1 (fr i)))))) da de eo dn io ++ (WP cI aP E vs dp B sz cd M fr tt f1 f2 ch)) rfl ?_
          refine y_iconst C (v := nI 1) dX2_shrinkThere_66 (by decide) ?_
          refine y_istore_n C (lv' := [(1, .int (nI 1)), (4, .int ((p1 (tt i)) &&& (q1 (fr i)))), (3, .int (nI (tt i))), (0, .ref (aS 0)), (2, .int (nI i))]) dX2_shrinkThere_67 rfl (by decide) rfl ?_
          refine y_iinc C (k := 4) (lv' := [(2, .int (nI (i + 1))), (1, .int (nI 1)), (4, .int ((p1 (tt i)) &&& (q1 (fr i)))), (3, .int (nI (tt i))), (0, .ref (aS 0))]) dX2_shrinkThere_68 rfl (yn_inc rfl) (by decide) rfl ?_
          refine y_goto C (tgt := 4) dX2_shrinkThere_71 (by decide) ?_
          refine y_sub [4, 1, 0] (lv' := [(0, .ref (aS 0)), (1, .int (nI 1)), (2, .int (nI (i + 1)))]) rfl ?_
          exact ih4 _ _ _ _ (by omega) (by simp only [stD, ← hK, stS]; simp [h56]) (by omega) (by omega)
  refine y_sub [2, 1, 0] (lv' := [(0, .ref (aS 0)), (1, .int (nI 0)), (2, .int (nI 0))]) rfl ?_
  exact lp4 _ _ _ _ _ (Nat.zero_le _) rfl (Nat.zero_le _) (Nat.lt_succ_self _)
theorem in_X2_findDelayedOnEdge_1 : ∀ w ∈ wsX10, w ∈ wsX2_findDelayedOnEdge := fun _ h => List.mem_cons_of_mem _ (List.mem_append_right _ h)
theorem in_X2_findDelayedOnEdge_2 : ∀ w ∈ wsX20, w ∈ wsX2_findDelayedOnEdge := fun _ h => List.mem_cons_of_mem _ (List.mem_append_left _ (List.mem_append_right _ h))
set_option maxHeartbeats 4000000 in
set_option maxRecDepth 100000 in
theorem c_X2_findDelayedOnEdge (l : Launch) (D : va_G) (cI : ClassId) (aS : Nat → Nat) (kp ea la ns ne ts te da de eo dn io : Nat → Int32) (aP : Nat → Nat) (E : Nat) (vs dp : Nat → Int32) (B : Nat) (sz cd : Nat → Nat) (M : Nat) (fr tt : Nat → Nat) (f1 f2 : Nat → Int32) (ch : Int32) (j : Nat) (hfr : ∀ j, fr j < 40) (hj : j < 80) : ctI l yX2_findDelayedOnEdge wsX2_findDelayedOnEdge (rmD 0 0 0) D [(cI, .int)] [.ref (aS 0), .int (nI j)] (WS cI aS (aP 0) kp ea la ns ne ts te da de eo dn io ++ (WP cI aP E vs dp B sz cd M fr tt f1 f2 ch)) (WS cI aS (aP 0) kp ea la ns ne ts te da de eo dn io ++ (WP cI aP E vs dp B sz cd M fr tt f1 f2 ch)) (dcF ea eo da fr j) 0 0 := by
  refine ctI_of (by decide) rfl (Nat.le_of_ble_eq_true rfl) ?_
  intro p e s m args below meth c A Q C hnm K
  refine y_lv (lv' := [(0, .ref (aS 0)), (1, .int (nI j))]) rfl ?_
  refine y_aload_n C 0 dX2_findDelayedOnEdge_0 rfl rfl ?_
  refine y_get C in_X2_findDelayedOnEdge_2 (ci := 2) rfl 0 (by decide) (List.mem_of_getElem? (i := 1) rfl) 0 rfl rfl dX2_findDelayedOnEdge_1 ?_
  refine y_get C in_X2_findDelayedOnEdge_1 (ci := 1) rfl 7 (by decide) (List.mem_of_getElem? (i := 2) rfl) 13 rfl rfl dX2_findDelayedOnEdge_4 ?_
  refine y_iload_n C 1 dX2_findDelayedOnEdge_7 rfl rfl ?_
  refine y_ialdA C (q0 := 18) (t0 := 0) rfl rfl (by decide) (by omega) dX2_findDelayedOnEdge_8 ?_
  refine y_istore_n C (lv' := [(2, .int (nI (fr j))), (0, .ref (aS 0)), (1, .int (nI j))]) dX2_findDelayedOnEdge_9 rfl (by decide) rfl ?_
  refine y_aload_n C 1 dX2_findDelayedOnEdge_10 rfl rfl ?_
  refine y_get C in_X2_findDelayedOnEdge_2 (ci := 2) rfl 10 (by decide) (List.mem_of_getElem? (i := 3) rfl) 0 rfl rfl dX2_findDelayedOnEdge_11 ?_
  refine y_iload_n C 2 dX2_findDelayedOnEdge_14 rfl rfl ?_
  refine y_iald C (q0 := 10) (t0 := 0) rfl rfl (by decide) (by omega) dX2_findDelayedOnEdge_15 ?_
  refine y_aload_n C 1 dX2_findDelayedOnEdge_16 rfl rfl ?_
  refine y_get C in_X2_findDelayedOnEdge_2 (ci := 2) rfl 8 (by decide) (List.mem_of_getElem? (i := 4) rfl) 0 rfl rfl dX2_findDelayedOnEdge_17 ?_
  refine y_iload_n C 0 dX2_findDelayedOnEdge_20 rfl rfl ?_
  refine y_iald C (q0 := 8) (t0 := 0) rfl rfl (by decide) (by have := hfr j; omega) dX2_findDelayedOnEdge_21 ?_
  refine y_aload_n C 1 dX2_findDelayedOnEdge_22 rfl rfl ?_
  refine y_get C in_X2_findDelayedOnEdge_2 (ci := 2) rfl 2 (by decide) (List.mem_of_getElem? (i := 5) rfl) 0 rfl rfl dX2_findDelayedOnEdge_23 ?_
  refine y_iload_n C 0 dX2_findDelayedOnEdge_26 rfl rfl ?_
  refine y_iald C (q0 := 2) (t0 := 0) rfl rfl (by decide) (by have := hfr j; omega) dX2_findDelayedOnEdge_27 ?_
  refine y_iconst C (v := (-1)) dX2_findDelayedOnEdge_28 (by decide) ?_
  refine y_ixor C dX2_findDelayedOnEdge_29 ?_
  refine y_iand C dX2_findDelayedOnEdge_30 ?_
  refine y_ior C dX2_findDelayedOnEdge_31 ?_
  exact K _ _ _ _ _ dX2_findDelayedOnEdge_32 (rfl) (by decide) (by decide)
theorem in_X2_shrinkDelayed_1 : ∀ w ∈ wsX10, w ∈ wsX2_shrinkDelayed := fun _ h => List.mem_cons_of_mem _ (List.mem_append_right _ h)
theorem in_X2_shrinkDelayed_2 : ∀ w ∈ wsX20, w ∈ wsX2_shrinkDelayed := fun _ h => List.mem_cons_of_mem _ (List.mem_append_left _ (List.mem_append_right _ h))
set_option maxHeartbeats 4000000 in
set_option maxRecDepth 100000 in
theorem c_X2_shrinkDelayed (l : Launch) (D : va_G) (cI : ClassId) (aS : Nat → Nat) (kp ea la ns ne ts te da de eo dn io : Nat → Int32) (aP : Nat → Nat) (E : Nat) (vs dp : Nat → Int32) (B : Nat) (sz cd : Nat → Nat) (M : Nat) (fr tt : Nat → Nat) (f1 f2 : Nat → Int32) (ch : Int32) (hM : M ≤ 80) (hfr : ∀ j, fr j < 40) (htt : ∀ j, tt j < 40) : ctI l yX2_shrinkDelayed wsX2_shrinkDelayed (rmD 1 0 0) D [(cI, .int)] [.ref (aS 0)] (WS cI aS (aP 0) kp ea la ns ne ts te da de eo dn io ++ (WP cI aP E vs dp B sz cd M fr tt f1 f2 ch)) (WS cI aS (aP 0) kp ea la ns ne ts te ((sdD ea eo fr tt (da, 0) M).1) de eo dn io ++ (WP cI aP E vs dp B sz cd M fr tt f1 f2 ch)) (nI ((sdD ea eo fr tt (da, 0) M).2)) 0 0 := by
  refine ctZ_of (by decide) rfl (Nat.le_of_ble_eq_true rfl) ?_
  intro p e s m args below meth c A Q C hnm K
  refine y_lv (lv' := [(0, .ref (aS 0))]) rfl ?_
  refine y_iconst C (v := nI 0) dX2_shrinkDelayed_0 (by decide) ?_
  refine y_istore_n C (lv' := [(1, .int (nI 0)), (0, .ref (aS 0))]) dX2_shrinkDelayed_1 rfl (by decide) rfl ?_
  refine y_iconst C (v := nI 0) dX2_shrinkDelayed_2 (by decide) ?_
  refine y_istore_n C (lv' := [(2, .int (nI 0)), (1, .int (nI 0)), (0, .ref (aS 0))]) dX2_shrinkDelayed_3 rfl (by decide) rfl ?_
  have lp4 : ∀ (n4 : Nat) (i : Nat) (p1 : (Nat → Int32)) (f : Nat), (i ≤ M) → ((p1, f) = sdD ea eo fr tt (da, 0) i) → (f ≤ 1) → (M - i) < n4 → yW p l e (rmD 1 0 0) s m args below meth c 5 D A Q 0 0 (WS cI aS (aP 0) kp ea la ns ne ts te p1 de eo dn io ++ (WP cI aP E vs dp B sz cd M fr tt f1 f2 ch)) 4 [(0, .ref (aS 0)), (1, .int (nI f)), (2, .int (nI i))] [] := by
    intro n4
    induction n4 with
    | zero => intro i p1 f hi hK hf hm; exact absurd hm (Nat.not_lt_zero _)
    | succ n4 ih4 =>
      intro i p1 f hi hK hf hm4
      refine y_iload_n C 2 dX2_shrinkDelayed_4 rfl rfl ?_
      refine y_aload_n C 0 dX2_shrinkDelayed_5 rfl rfl ?_
      refine y_get C in_X2_shrinkDelayed_2 (ci := 2) rfl 0 (by decide) (List.mem_of_getElem? (i := 1) rfl) 0 rfl rfl dX2_shrinkDelayed_6 ?_
      refine y_get C in_X2_shrinkDelayed_1 (ci := 1) rfl 6 (by decide) (List.mem_of_getElem? (i := 2) rfl) 13 rfl rfl dX2_shrinkDelayed_9 ?_
      refine y_icmpN_ge C (tgt := 66) dX2_shrinkDelayed_12 (by decide) (by omega) (by omega) (fun h12 => ?_) (fun h12 => ?_)
      · skip
        refine y_iload_n C 1 dX2_shrinkDelayed_66 rfl rfl ?_
        rw [show i = M by omega] at hK
        refine y_ws (ws' := WS cI aS (aP 0) kp ea la ns ne ts te ((sdD ea eo fr tt (da, 0) M).1) de eo dn io ++ (WP cI aP E vs dp B sz cd M fr tt f1 f2 ch)) (by rw [← hK]) ?_
        exact K _ _ _ _ _ dX2_shrinkDelayed_67 (by rw [← hK]) (yn_bool hf) (by decide) (by decide)
      · skip
        refine y_aload_n C 0 dX2_shrinkDelayed_15 rfl rfl ?_
        refine y_get C in_X2_shrinkDelayed_2 (ci := 2) rfl 0 (by decide) (List.mem_of_getElem? (i := 1) rfl) 0 rfl rfl dX2_shrinkDelayed_16 ?_
        refine y_get C in_X2_shrinkDelayed_1 (ci := 1) rfl 8 (by decide) (List.mem_of_getElem? (i := 3) rfl) 13 rfl rfl dX2_shrinkDelayed_19 ?_
        refine y_iload_n C 2 dX2_shrinkDelayed_22 rfl rfl ?_
        refine y_ialdA C (q0 := 19) (t0 := 0) rfl rfl (by decide) (by omega) dX2_shrinkDelayed_23 ?_
        refine y_istore_n C (lv' := [(3, .int (nI (tt i))), (0, .ref (aS 0)), (1, .int (nI f)), (2, .int (nI i))]) dX2_shrinkDelayed_24 rfl (by decide) rfl ?_
        refine y_aload_n C 1 dX2_shrinkDelayed_25 rfl rfl ?_
        refine y_get C in_X2_shrinkDelayed_2 (ci := 2) rfl 8 (by decide) (List.mem_of_getElem? (i := 4) rfl) 0 rfl rfl dX2_shrinkDelayed_26 ?_
        refine y_iload_n C 0 dX2_shrinkDelayed_29 rfl rfl ?_
        refine y_iald C (q0 := 8) (t0 := 0) rfl rfl (by decide) (by have := htt i; omega) dX2_shrinkDelayed_30 ?_
        refine y_aload_n C 1 dX2_shrinkDelayed_31 rfl rfl ?_
        refine y_iload_n C 3 dX2_shrinkDelayed_32 rfl rfl ?_
        refine y_callI C (wr := []) 1 (c_X2_findDelayedOnEdge l D cI aS kp ea la ns ne ts te p1 de eo dn io aP E vs dp B sz cd M fr tt f1 f2 ch i (by omega) (by omega)) gX2_shrinkDelayed_X2_findDelayedOnEdge rfl rfl rfl (by decide +kernel) ⟨Nat.le_of_ble_eq_true rfl, Nat.le_of_ble_eq_true rfl⟩ (q0 := 0) (ci := 2) rfl rfl rfl rfl rfl (Nat.le_of_ble_eq_true rfl) dX2_shrinkDelayed_33 ⟨Nat.le_of_ble_eq_true rfl, Nat.le_of_ble_eq_true rfl⟩ ?_
        refine y_ws (ws' := WS cI aS (aP 0) kp ea la ns ne ts te p1 de eo dn io ++ (WP cI aP E vs dp B sz cd M fr tt f1 f2 ch)) rfl ?_
        refine y_iand C dX2_shrinkDelayed_36 ?_
        refine y_istore C (lv' := [(4, .int ((p1 (tt i)) &&& (dcF ea eo p1 fr i))), (3, .int (nI (tt i))), (0, .ref (aS 0)), (1, .int (nI f)), (2, .int (nI i))]) dX2_shrinkDelayed_37 (by decide) rfl ?_
        refine y_iload C 0 dX2_shrinkDelayed_39 rfl ?_
        refine y_aload_n C 2 dX2_shrinkDelayed_41 rfl rfl ?_
        refine y_get C in_X2_shrinkDelayed_2 (ci := 2) rfl 8 (by decide) (List.mem_of_getElem? (i := 4) rfl) 0 rfl rfl dX2_shrinkDelayed_42 ?_
        refine y_iload_n C 1 dX2_shrinkDelayed_45 rfl rfl ?_
        refine y_iald C (q0 := 8) (t0 := 0) rfl rfl (by decide) (by have := htt i; omega) dX2_shrinkDelayed_46 ?_
        refine y_icmp_eq C (tgt := 60) dX2_shrinkDelayed_47 (by decide)  (fun h47 => ?_) (fun h47 => ?_)
        · skip
          refine y_iinc C (k := 4) (lv' := [(2, .int (nI (i + 1))), (4, .int ((p1 (tt i)) &&& (dcF ea eo p1 fr i))), (3, .int (nI (tt i))), (0, .ref (aS 0)), (1, .int (nI f))]) dX2_shrinkDelayed_60 rfl (yn_inc rfl) (by decide) rfl ?_
          refine y_goto C (tgt := 4) dX2_shrinkDelayed_63 (by decide) ?_
          refine y_sub [3, 4, 0] (lv' := [(0, .ref (aS 0)), (1, .int (nI f)), (2, .int (nI (i + 1)))]) rfl ?_
          exact ih4 _ _ _ (by omega) (by simp only [sdD, ← hK, sdS]; simp [h47]) (by omega) (by omega)
        · skip
          refine y_aload_n C 2 dX2_shrinkDelayed_50 rfl rfl ?_
          refine y_get C in_X2_shrinkDelayed_2 (ci := 2) rfl 8 (by decide) (List.mem_of_getElem? (i := 4) rfl) 0 rfl rfl dX2_shrinkDelayed_51 ?_
          refine y_iload_n C 1 dX2_shrinkDelayed_54 rfl rfl ?_
          refine y_iload C 0 dX2_shrinkDelayed_55 rfl ?_
          refine y_iast C (q0 := 8) (t0 := 0) rfl rfl (by decide) (by have := htt i; omega) (ws' := WS cI aS (aP 0) kp ea la ns ne ts te (upd p1 (tt i) ((p1 (tt i)) &&& (dcF ea eo p1 fr i))) de eo dn io ++ (WP cI aP E vs dp B sz cd M fr tt f1 f2 ch)) rfl dX2_shrinkDelayed_57 ?_
          refine y_iconst C (v := nI 1) dX2_shrinkDelayed_58 (by decide) ?_
          refine y_istore_n C (lv' := [(1, .int (nI 1)), (4, .int ((p1 (tt i)) &&& (dcF ea eo p1 fr i))), (3, .int (nI (tt i))), (0, .ref (aS 0)), (2, .int (nI i))]) dX2_shrinkDelayed_59 rfl (by decide) rfl ?_
          refine y_iinc C (k := 4) (lv' := [(2, .int (nI (i + 1))), (1, .int (nI 1)), (4, .int ((p1 (tt i)) &&& (dcF ea eo p1 fr i))), (3, .int (nI (tt i))), (0, .ref (aS 0))]) dX2_shrinkDelayed_60 rfl (yn_inc rfl) (by decide) rfl ?_
          refine y_goto C (tgt := 4) dX2_shrinkDelayed_63 (by decide) ?_
          refine y_sub [4, 1, 0] (lv' := [(0, .ref (aS 0)), (1, .int (nI 1)), (2, .int (nI (i + 1)))]) rfl ?_
          exact ih4 _ _ _ (by omega) (by simp only [sdD, ← hK, sdS]; simp [h47]) (by omega) (by omega)
  refine y_sub [2, 1, 0] (lv' := [(0, .ref (aS 0)), (1, .int (nI 0)), (2, .int (nI 0))]) rfl ?_
  exact lp4 _ _ _ _ (Nat.zero_le _) rfl (Nat.zero_le _) (Nat.lt_succ_self _)
theorem in_X2_fillWhereEdgesLead_1 : ∀ w ∈ wsX10, w ∈ wsX2_fillWhereEdgesLead := fun _ h => List.mem_cons_of_mem _ (List.mem_append_right _ h)
theorem in_X2_fillWhereEdgesLead_2 : ∀ w ∈ wsX20, w ∈ wsX2_fillWhereEdgesLead := fun _ h => List.mem_cons_of_mem _ (List.mem_append_left _ (List.mem_append_right _ h))
set_option maxHeartbeats 4000000 in
set_option maxRecDepth 100000 in
theorem c_X2_fillWhereEdgesLead_ts (l : Launch) (D : va_G) (cI : ClassId) (aS : Nat → Nat) (kp ea la ns ne ts te da de eo dn io : Nat → Int32) (aP : Nat → Nat) (E : Nat) (vs dp : Nat → Int32) (B : Nat) (sz cd : Nat → Nat) (M : Nat) (fr tt : Nat → Nat) (f1 f2 : Nat → Int32) (ch : Int32) (hB : B ≤ 40) (hM : M ≤ 80) (htt : ∀ j, tt j < 40) : ctV l yX2_fillWhereEdgesLead wsX2_fillWhereEdgesLead (rmD 1 0 0) D [(cI, .int)] [.ref (aS 0), .ref (aS 6)] (WS cI aS (aP 0) kp ea la ns ne ts te da de eo dn io ++ (WP cI aP E vs dp B sz cd M fr tt f1 f2 ch)) (WS cI aS (aP 0) kp ea la ns ne (flF E B tt ts M) te da de eo dn io ++ (WP cI aP E vs dp B sz cd M fr tt f1 f2 ch)) 0 0 := by
  refine ctV_of (by decide) rfl (Nat.le_of_ble_eq_true rfl) ?_
  intro p e s m args below meth c A Q C hnm K
  refine y_lv (lv' := [(0, .ref (aS 0)), (1, .ref (aS 6))]) rfl ?_
  refine y_iconst C (v := nI 0) dX2_fillWhereEdgesLead_0 (by decide) ?_
  refine y_istore_n C (lv' := [(2, .int (nI 0)), (0, .ref (aS 0)), (1, .ref (aS 6))]) dX2_fillWhereEdgesLead_1 rfl (by decide) rfl ?_
  have lp2 : ∀ (n2 : Nat) (i : Nat) (f : (Nat → Int32)), (i ≤ B) → (f = fillF ts i 0) → (B - i) < n2 → yW p l e (rmD 1 0 0) s m args below meth c 3 D A Q 0 0 (WS cI aS (aP 0) kp ea la ns ne f te da de eo dn io ++ (WP cI aP E vs dp B sz cd M fr tt f1 f2 ch)) 2 [(0, .ref (aS 0)), (1, .ref (aS 6)), (2, .int (nI i))] [] := by
    intro n2
    induction n2 with
    | zero => intro i f hi hf hm; exact absurd hm (Nat.not_lt_zero _)
    | succ n2 ih2 =>
      intro i f hi hf hm2
      refine y_iload_n C 2 dX2_fillWhereEdgesLead_2 rfl rfl ?_
      refine y_aload_n C 0 dX2_fillWhereEdgesLead_3 rfl rfl ?_
      refine y_get C in_X2_fillWhereEdgesLead_2 (ci := 2) rfl 0 (by decide) (List.mem_of_getElem? (i := 1) rfl) 0 rfl rfl dX2_fillWhereEdgesLead_4 ?_
      refine y_get C in_X2_fillWhereEdgesLead_1 (ci := 1) rfl 3 (by decide) (List.mem_of_getElem? (i := 2) rfl) 13 rfl rfl dX2_fillWhereEdgesLead_7 ?_
      refine y_icmpN_ge C (tgt := 23) dX2_fillWhereEdgesLead_10 (by decide) (by omega) (by omega) (fun h10 => ?_) (fun h10 => ?_)
      · skip
        rw [show i = B by omega] at hf; subst hf
        refine y_iconst C (v := nI 0) dX2_fillWhereEdgesLead_23 (by decide) ?_
        refine y_istore_n C (lv' := [(2, .int (nI 0)), (0, .ref (aS 0)), (1, .ref (aS 6))]) dX2_fillWhereEdgesLead_24 rfl (by decide) rfl ?_
        have lp25 : ∀ (n25 : Nat) (i : Nat) (f : (Nat → Int32)), (i ≤ M) → (f = flF E B tt ts i) → (M - i) < n25 → yW p l e (rmD 1 0 0) s m args below meth c 3 D A Q 0 0 (WS cI aS (aP 0) kp ea la ns ne f te da de eo dn io ++ (WP cI aP E vs dp B sz cd M fr tt f1 f2 ch)) 25 [(0, .ref (aS 0)), (1, .ref (aS 6)), (2, .int (nI i))] [] := by
          intro n25
          induction n25 with
          | zero => intro i f hi hf hm; exact absurd hm (Nat.not_lt_zero _)
          | succ n25 ih25 =>
            intro i f hi hf hm25
            refine y_iload_n C 2 dX2_fillWhereEdgesLead_25 rfl rfl ?_
            refine y_aload_n C 0 dX2_fillWhereEdgesLead_26 rfl rfl ?_
            refine y_get C in_X2_fillWhereEdgesLead_2 (ci := 2) rfl 0 (by decide) (List.mem_of_getElem? (i := 1) rfl) 0 rfl rfl dX2_fillWhereEdgesLead_27 ?_
            refine y_get C in_X2_fillWhereEdgesLead_1 (ci := 1) rfl 6 (by decide) (List.mem_of_getElem? (i := 3) rfl) 13 rfl rfl dX2_fillWhereEdgesLead_30 ?_
            refine y_icmpN_ge C (tgt := 60) dX2_fillWhereEdgesLead_33 (by decide) (by omega) (by omega) (fun h33 => ?_) (fun h33 => ?_)
            · skip
              rw [show i = M by omega] at hf
              refine y_ws (ws' := WS cI aS (aP 0) kp ea la ns ne (flF E B tt ts M) te da de eo dn io ++ (WP cI aP E vs dp B sz cd M fr tt f1 f2 ch)) (by rw [hf]) ?_
              exact K _ _ _ _ dX2_fillWhereEdgesLead_60 (by decide) (by decide)
            · skip
              refine y_aload_n C 1 dX2_fillWhereEdgesLead_36 rfl rfl ?_
              refine y_aload_n C 0 dX2_fillWhereEdgesLead_37 rfl rfl ?_
              refine y_get C in_X2_fillWhereEdgesLead_2 (ci := 2) rfl 0 (by decide) (List.mem_of_getElem? (i := 1) rfl) 0 rfl rfl dX2_fillWhereEdgesLead_38 ?_
              refine y_get C in_X2_fillWhereEdgesLead_1 (ci := 1) rfl 8 (by decide) (List.mem_of_getElem? (i := 4) rfl) 13 rfl rfl dX2_fillWhereEdgesLead_41 ?_
              refine y_iload_n C 2 dX2_fillWhereEdgesLead_44 rfl rfl ?_
              refine y_ialdA C (q0 := 19) (t0 := 0) rfl rfl (by decide) (by omega) dX2_fillWhereEdgesLead_45 ?_
              refine y_aload_n C 0 dX2_fillWhereEdgesLead_46 rfl rfl ?_
              refine y_get C in_X2_fillWhereEdgesLead_2 (ci := 2) rfl 0 (by decide) (List.mem_of_getElem? (i := 1) rfl) 0 rfl rfl dX2_fillWhereEdgesLead_47 ?_
              refine y_callI C (wr := WS cI aS (aP 0) kp ea la ns ne f te da de eo dn io) 0 (c_X1_allExpressions l D cI aP E vs dp B sz cd M fr tt f1 f2 ch) gX2_fillWhereEdgesLead_X1_allExpressions rfl rfl rfl (by decide +kernel) ⟨Nat.le_of_ble_eq_true rfl, Nat.le_of_ble_eq_true rfl⟩ (q0 := 0) (ci := 1) rfl rfl rfl rfl rfl (Nat.le_of_ble_eq_true rfl) dX2_fillWhereEdgesLead_50 ⟨Nat.le_of_ble_eq_true rfl, Nat.le_of_ble_eq_true rfl⟩ ?_
              refine y_ws (ws' := WS cI aS (aP 0) kp ea la ns ne f te da de eo dn io ++ (WP cI aP E vs dp B sz cd M fr tt f1 f2 ch)) rfl ?_
              refine y_iast C (q0 := 6) (t0 := 0) rfl rfl (by decide) (by have := htt i; omega) (ws' := WS cI aS (aP 0) kp ea la ns ne (upd f (tt i) (allF E)) te da de eo dn io ++ (WP cI aP E vs dp B sz cd M fr tt f1 f2 ch)) rfl dX2_fillWhereEdgesLead_53 ?_
              refine y_iinc C (k := 2) (lv' := [(2, .int (nI (i + 1))), (0, .ref (aS 0)), (1, .ref (aS 6))]) dX2_fillWhereEdgesLead_54 rfl (yn_inc rfl) (by decide) rfl ?_
              refine y_goto C (tgt := 25) dX2_fillWhereEdgesLead_57 (by decide) ?_
              refine y_sub [1, 2, 0] (lv' := [(0, .ref (aS 0)), (1, .ref (aS 6)), (2, .int (nI (i + 1)))]) rfl ?_
              exact ih25 _ _ (by omega) (by simp only [flF, hf]) (by omega)
        refine y_sub [1, 2, 0] (lv' := [(0, .ref (aS 0)), (1, .ref (aS 6)), (2, .int (nI 0))]) rfl ?_
        exact lp25 _ _ _ (Nat.zero_le _) rfl (Nat.lt_succ_self _)
      · skip
        refine y_aload_n C 1 dX2_fillWhereEdgesLead_13 rfl rfl ?_
        refine y_iload_n C 2 dX2_fillWhereEdgesLead_14 rfl rfl ?_
        refine y_iconst C (v := (0 : Int32)) dX2_fillWhereEdgesLead_15 (by decide) ?_
        refine y_iast C (q0 := 6) (t0 := 0) rfl rfl (by decide) (by omega) (ws' := WS cI aS (aP 0) kp ea la ns ne (upd f i ((0 : Int32))) te da de eo dn io ++ (WP cI aP E vs dp B sz cd M fr tt f1 f2 ch)) rfl dX2_fillWhereEdgesLead_16 ?_
        refine y_iinc C (k := 2) (lv' := [(2, .int (nI (i + 1))), (0, .ref (aS 0)), (1, .ref (aS 6))]) dX2_fillWhereEdgesLead_17 rfl (yn_inc rfl) (by decide) rfl ?_
        refine y_goto C (tgt := 2) dX2_fillWhereEdgesLead_20 (by decide) ?_
        refine y_sub [1, 2, 0] (lv' := [(0, .ref (aS 0)), (1, .ref (aS 6)), (2, .int (nI (i + 1)))]) rfl ?_
        exact ih2 _ _ (by omega) (by rw [hf, fill_s]) (by omega)
  refine y_sub [1, 2, 0] (lv' := [(0, .ref (aS 0)), (1, .ref (aS 6)), (2, .int (nI 0))]) rfl ?_
  exact lp2 _ _ _ (Nat.zero_le _) ((fill_0 _ _).symm) (Nat.lt_succ_self _)
set_option maxHeartbeats 4000000 in
set_option maxRecDepth 100000 in
theorem c_X2_fillWhereEdgesLead_da (l : Launch) (D : va_G) (cI : ClassId) (aS : Nat → Nat) (kp ea la ns ne ts te da de eo dn io : Nat → Int32) (aP : Nat → Nat) (E : Nat) (vs dp : Nat → Int32) (B : Nat) (sz cd : Nat → Nat) (M : Nat) (fr tt : Nat → Nat) (f1 f2 : Nat → Int32) (ch : Int32) (hB : B ≤ 40) (hM : M ≤ 80) (htt : ∀ j, tt j < 40) : ctV l yX2_fillWhereEdgesLead wsX2_fillWhereEdgesLead (rmD 1 0 0) D [(cI, .int)] [.ref (aS 0), .ref (aS 8)] (WS cI aS (aP 0) kp ea la ns ne ts te da de eo dn io ++ (WP cI aP E vs dp B sz cd M fr tt f1 f2 ch)) (WS cI aS (aP 0) kp ea la ns ne ts te (flF E B tt da M) de eo dn io ++ (WP cI aP E vs dp B sz cd M fr tt f1 f2 ch)) 0 0 := by
  refine ctV_of (by decide) rfl (Nat.le_of_ble_eq_true rfl) ?_
  intro p e s m args below meth c A Q C hnm K
  refine y_lv (lv' := [(0, .ref (aS 0)), (1, .ref (aS 8))]) rfl ?_
  refine y_iconst C (v := nI 0) dX2_fillWhereEdgesLead_0 (by decide) ?_
  refine y_istore_n C (lv' := [(2, .int (nI 0)), (0, .ref (aS 0)), (1, .ref (aS 8))]) dX2_fillWhereEdgesLead_1 rfl (by decide) rfl ?_
  have lp2 : ∀ (n2 : Nat) (i : Nat) (f : (Nat → Int32)), (i ≤ B) → (f = fillF da i 0) → (B - i) < n2 → yW p l e (rmD 1 0 0) s m args below meth c 3 D A Q 0 0 (WS cI aS (aP 0) kp ea la ns ne ts te f de eo dn io ++ (WP cI aP E vs dp B sz cd M fr tt f1 f2 ch)) 2 [(0, .ref (aS 0)), (1, .ref (aS 8)), (2, .int (nI i))] [] := by
    intro n2
    induction n2 with
    | zero => intro i f hi hf hm; exact absurd hm (Nat.not_lt_zero _)
    | succ n2 ih2 =>
      intro i f hi hf hm2
      refine y_iload_n C 2 dX2_fillWhereEdgesLead_2 rfl rfl ?_
      refine y_aload_n C 0 dX2_fillWhereEdgesLead_3 rfl rfl ?_
      refine y_get C in_X2_fillWhereEdgesLead_2 (ci := 2) rfl 0 (by decide) (List.mem_of_getElem? (i := 1) rfl) 0 rfl rfl dX2_fillWhereEdgesLead_4 ?_
      refine y_get C in_X2_fillWhereEdgesLead_1 (ci := 1) rfl 3 (by decide) (List.mem_of_getElem? (i := 2) rfl) 13 rfl rfl dX2_fillWhereEdgesLead_7 ?_
      refine y_icmpN_ge C (tgt := 23) dX2_fillWhereEdgesLead_10 (by decide) (by omega) (by omega) (fun h10 => ?_) (fun h10 => ?_)
      · skip
        rw [show i = B by omega] at hf; subst hf
        refine y_iconst C (v := nI 0) dX2_fillWhereEdgesLead_23 (by decide) ?_
        refine y_istore_n C (lv' := [(2, .int (nI 0)), (0, .ref (aS 0)), (1, .ref (aS 8))]) dX2_fillWhereEdgesLead_24 rfl (by decide) rfl ?_
        have lp25 : ∀ (n25 : Nat) (i : Nat) (f : (Nat → Int32)), (i ≤ M) → (f = flF E B tt da i) → (M - i) < n25 → yW p l e (rmD 1 0 0) s m args below meth c 3 D A Q 0 0 (WS cI aS (aP 0) kp ea la ns ne ts te f de eo dn io ++ (WP cI aP E vs dp B sz cd M fr tt f1 f2 ch)) 25 [(0, .ref (aS 0)), (1, .ref (aS 8)), (2, .int (nI i))] [] := by
          intro n25
          induction n25 with
          | zero => intro i f hi hf hm; exact absurd hm (Nat.not_lt_zero _)
          | succ n25 ih25 =>
            intro i f hi hf hm25
            refine y_iload_n C 2 dX2_fillWhereEdgesLead_25 rfl rfl ?_
            refine y_aload_n C 0 dX2_fillWhereEdgesLead_26 rfl rfl ?_
            refine y_get C in_X2_fillWhereEdgesLead_2 (ci := 2) rfl 0 (by decide) (List.mem_of_getElem? (i := 1) rfl) 0 rfl rfl dX2_fillWhereEdgesLead_27 ?_
            refine y_get C in_X2_fillWhereEdgesLead_1 (ci := 1) rfl 6 (by decide) (List.mem_of_getElem? (i := 3) rfl) 13 rfl rfl dX2_fillWhereEdgesLead_30 ?_
            refine y_icmpN_ge C (tgt := 60) dX2_fillWhereEdgesLead_33 (by decide) (by omega) (by omega) (fun h33 => ?_) (fun h33 => ?_)
            · skip
              rw [show i = M by omega] at hf
              refine y_ws (ws' := WS cI aS (aP 0) kp ea la ns ne ts te (flF E B tt da M) de eo dn io ++ (WP cI aP E vs dp B sz cd M fr tt f1 f2 ch)) (by rw [hf]) ?_
              exact K _ _ _ _ dX2_fillWhereEdgesLead_60 (by decide) (by decide)
            · skip
              refine y_aload_n C 1 dX2_fillWhereEdgesLead_36 rfl rfl ?_
              refine y_aload_n C 0 dX2_fillWhereEdgesLead_37 rfl rfl ?_
              refine y_get C in_X2_fillWhereEdgesLead_2 (ci := 2) rfl 0 (by decide) (List.mem_of_getElem? (i := 1) rfl) 0 rfl rfl dX2_fillWhereEdgesLead_38 ?_
              refine y_get C in_X2_fillWhereEdgesLead_1 (ci := 1) rfl 8 (by decide) (List.mem_of_getElem? (i := 4) rfl) 13 rfl rfl dX2_fillWhereEdgesLead_41 ?_
              refine y_iload_n C 2 dX2_fillWhereEdgesLead_44 rfl rfl ?_
              refine y_ialdA C (q0 := 19) (t0 := 0) rfl rfl (by decide) (by omega) dX2_fillWhereEdgesLead_45 ?_
              refine y_aload_n C 0 dX2_fillWhereEdgesLead_46 rfl rfl ?_
              refine y_get C in_X2_fillWhereEdgesLead_2 (ci := 2) rfl 0 (by decide) (List.mem_of_getElem? (i := 1) rfl) 0 rfl rfl dX2_fillWhereEdgesLead_47 ?_
              refine y_callI C (wr := WS cI aS (aP 0) kp ea la ns ne ts te f de eo dn io) 0 (c_X1_allExpressions l D cI aP E vs dp B sz cd M fr tt f1 f2 ch) gX2_fillWhereEdgesLead_X1_allExpressions rfl rfl rfl (by decide +kernel) ⟨Nat.le_of_ble_eq_true rfl, Nat.le_of_ble_eq_true rfl⟩ (q0 := 0) (ci := 1) rfl rfl rfl rfl rfl (Nat.le_of_ble_eq_true rfl) dX2_fillWhereEdgesLead_50 ⟨Nat.le_of_ble_eq_true rfl, Nat.le_of_ble_eq_true rfl⟩ ?_
              refine y_ws (ws' := WS cI aS (aP 0) kp ea la ns ne ts te f de eo dn io ++ (WP cI aP E vs dp B sz cd M fr tt f1 f2 ch)) rfl ?_
              refine y_iast C (q0 := 8) (t0 := 0) rfl rfl (by decide) (by have := htt i; omega) (ws' := WS cI aS (aP 0) kp ea la ns ne ts te (upd f (tt i) (allF E)) de eo dn io ++ (WP cI aP E vs dp B sz cd M fr tt f1 f2 ch)) rfl dX2_fillWhereEdgesLead_53 ?_
              refine y_iinc C (k := 2) (lv' := [(2, .int (nI (i + 1))), (0, .ref (aS 0)), (1, .ref (aS 8))]) dX2_fillWhereEdgesLead_54 rfl (yn_inc rfl) (by decide) rfl ?_
              refine y_goto C (tgt := 25) dX2_fillWhereEdgesLead_57 (by decide) ?_
              refine y_sub [1, 2, 0] (lv' := [(0, .ref (aS 0)), (1, .ref (aS 8)), (2, .int (nI (i + 1)))]) rfl ?_
              exact ih25 _ _ (by omega) (by simp only [flF, hf]) (by omega)
        refine y_sub [1, 2, 0] (lv' := [(0, .ref (aS 0)), (1, .ref (aS 8)), (2, .int (nI 0))]) rfl ?_
        exact lp25 _ _ _ (Nat.zero_le _) rfl (Nat.lt_succ_self _)
      · skip
        refine y_aload_n C 1 dX2_fillWhereEdgesLead_13 rfl rfl ?_
        refine y_iload_n C 2 dX2_fillWhereEdgesLead_14 rfl rfl ?_
        refine y_iconst C (v := (0 : Int32)) dX2_fillWhereEdgesLead_15 (by decide) ?_
        refine y_iast C (q0 := 8) (t0 := 0) rfl rfl (by decide) (by omega) (ws' := WS cI aS (aP 0) kp ea la ns ne ts te (upd f i ((0 : Int32))) de eo dn io ++ (WP cI aP E vs dp B sz cd M fr tt f1 f2 ch)) rfl dX2_fillWhereEdgesLead_16 ?_
        refine y_iinc C (k := 2) (lv' := [(2, .int (nI (i + 1))), (0, .ref (aS 0)), (1, .ref (aS 8))]) dX2_fillWhereEdgesLead_17 rfl (yn_inc rfl) (by decide) rfl ?_
        refine y_goto C (tgt := 2) dX2_fillWhereEdgesLead_20 (by decide) ?_
        refine y_sub [1, 2, 0] (lv' := [(0, .ref (aS 0)), (1, .ref (aS 8)), (2, .int (nI (i + 1)))]) rfl ?_
        exact ih2 _ _ (by omega) (by rw [hf, fill_s]) (by omega)
  refine y_sub [1, 2, 0] (lv' := [(0, .ref (aS 0)), (1, .ref (aS 8)), (2, .int (nI 0))]) rfl ?_
  exact lp2 _ _ _ (Nat.zero_le _) ((fill_0 _ _).symm) (Nat.lt_succ_self _)
theorem in_X2_findNeeded_1 : ∀ w ∈ wsX10, w ∈ wsX2_findNeeded := fun _ h => List.mem_cons_of_mem _ (List.mem_append_right _ h)
theorem in_X2_findNeeded_2 : ∀ w ∈ wsX20, w ∈ wsX2_findNeeded := fun _ h => List.mem_cons_of_mem _ (List.mem_append_left _ (List.mem_append_right _ h))
set_option maxHeartbeats 4000000 in
set_option maxRecDepth 100000 in
theorem c_X2_findNeeded (l : Launch) (D : va_G) (cI : ClassId) (aS : Nat → Nat) (kp ea la ns ne ts te da de eo dn io : Nat → Int32) (aP : Nat → Nat) (E : Nat) (vs dp : Nat → Int32) (B : Nat) (sz cd : Nat → Nat) (M : Nat) (fr tt : Nat → Nat) (f1 f2 : Nat → Int32) (ch : Int32) (ne2 ns2 : Nat → Int32) (hE : E ≤ 8) (hB : B ≤ 40) (hM : M ≤ 80) (hfr : ∀ j, fr j < 40) (htt : ∀ j, tt j < 40) (hF : fnR E B M fr tt f1 kp ea ne ns ne2 ns2) : ctV l yX2_findNeeded wsX2_findNeeded (rmD 2 0 0) D [(cI, .int)] [.ref (aS 0)] (WS cI aS (aP 0) kp ea la ns ne ts te da de eo dn io ++ (WP cI aP E vs dp B sz cd M fr tt f1 f2 ch)) (WS cI aS (aP 0) kp ea la ns2 ne2 ts te da de eo dn io ++ (WP cI aP E vs dp B sz cd M fr tt f1 f2 ch)) 0 0 := by
  obtain ⟨k, hk, hR1, hR2, hR3⟩ := hF
  refine ctV_of (by decide) rfl (Nat.le_of_ble_eq_true rfl) ?_
  intro p e s m args below meth c A Q C hnm K
  refine y_lv (lv' := [(0, .ref (aS 0))]) rfl ?_
  refine y_iconst C (v := nI 0) dX2_findNeeded_0 (by decide) ?_
  refine y_istore_n C (lv' := [(1, .int (nI 0)), (0, .ref (aS 0))]) dX2_findNeeded_1 rfl (by decide) rfl ?_
  have lp2 : ∀ (n2 : Nat) (i : Nat) (p1 : (Nat → Int32)) (q1 : (Nat → Int32)), (i ≤ B) → ((p1, q1) = inN E f1 kp ea ne ns i) → (B - i) < n2 → yW p l e (rmD 2 0 0) s m args below meth c 3 D A Q 0 0 (WS cI aS (aP 0) kp ea la q1 p1 ts te da de eo dn io ++ (WP cI aP E vs dp B sz cd M fr tt f1 f2 ch)) 2 [(0, .ref (aS 0)), (1, .int (nI i))] [] := by
    intro n2
    induction n2 with
    | zero => intro i p1 q1 hi hT hm; exact absurd hm (Nat.not_lt_zero _)
    | succ n2 ih2 =>
      intro i p1 q1 hi hT hm2
      refine y_iload_n C 1 dX2_findNeeded_2 rfl rfl ?_
      refine y_aload_n C 0 dX2_findNeeded_3 rfl rfl ?_
      refine y_get C in_X2_findNeeded_2 (ci := 2) rfl 0 (by decide) (List.mem_of_getElem? (i := 1) rfl) 0 rfl rfl dX2_findNeeded_4 ?_
      refine y_get C in_X2_findNeeded_1 (ci := 1) rfl 3 (by decide) (List.mem_of_getElem? (i := 2) rfl) 13 rfl rfl dX2_findNeeded_7 ?_
      refine y_icmpN_ge C (tgt := 58) dX2_findNeeded_10 (by decide) (by omega) (by omega) (fun h10 => ?_) (fun h10 => ?_)
      · skip
        rw [show i = B by omega] at hT
        refine y_ws (ws' := WS cI aS (aP 0) kp ea la ((inN E f1 kp ea ne ns B).2) ((inN E f1 kp ea ne ns B).1) ts te da de eo dn io ++ (WP cI aP E vs dp B sz cd M fr tt f1 f2 ch)) (by rw [← hT]) ?_
        refine y_iconst C (v := nI 1) dX2_findNeeded_58 (by decide) ?_
        refine y_istore_n C (lv' := [(1, .int (nI 1)), (0, .ref (aS 0))]) dX2_findNeeded_59 rfl (by decide) rfl ?_
        refine y_iconst C (v := nI 0) dX2_findNeeded_60 (by decide) ?_
        refine y_istore_n C (lv' := [(2, .int (nI 0)), (1, .int (nI 1)), (0, .ref (aS 0))]) dX2_findNeeded_61 rfl (by decide) rfl ?_
        have lp62 : ∀ (n62 : Nat) (r : Nat) (fl : Nat) (p1 : (Nat → Int32)) (q1 : (Nat → Int32)), (r ≤ k + 1) → ((p1, q1) = irN kp ea M fr tt (inN E f1 kp ea ne ns B) r) → ((fl = 0 ↔ r = k + 1)) → (fl ≤ 1) → (k + 1 - r) < n62 → yW p l e (rmD 2 0 0) s m args below meth c 3 D A Q 0 0 (WS cI aS (aP 0) kp ea la q1 p1 ts te da de eo dn io ++ (WP cI aP E vs dp B sz cd M fr tt f1 f2 ch)) 62 [(0, .ref (aS 0)), (1, .int (nI fl)), (2, .int (nI r))] [] := by
          intro n62
          induction n62 with
          | zero => intro r fl p1 q1 hr hS hfl hfl1 hm; exact absurd hm (Nat.not_lt_zero _)
          | succ n62 ih62 =>
            intro r fl p1 q1 hr hS hfl hfl1 hm62
            refine y_iload_n C 2 dX2_findNeeded_62 rfl rfl ?_
            refine y_sipush C (v := nI 1000) dX2_findNeeded_63 (by decide) ?_
            refine y_icmpN_ge C (tgt := 84) dX2_findNeeded_66 (by decide) (by omega) (by omega) (fun h66 => ?_) (fun h66 => ?_)
            · skip
              have hq : r = k + 1 := by omega
              rw [hq, ← hR3] at hS
              simp only [Prod.mk.injEq] at hS
              obtain ⟨e1, e2⟩ := hS
              refine y_ws (ws' := WS cI aS (aP 0) kp ea la ns2 ne2 ts te da de eo dn io ++ (WP cI aP E vs dp B sz cd M fr tt f1 f2 ch)) (by rw [e1, e2]) ?_
              exact K _ _ _ _ dX2_findNeeded_84 (by decide) (by decide)
            · skip
              refine y_iload_n C 1 dX2_findNeeded_69 rfl rfl ?_
              refine y_ifN_eq C (tgt := 84) dX2_findNeeded_70 (by decide) (by have := hfl1; omega) (fun h70 => ?_) (fun h70 => ?_)
              · skip
                have hq : r = k + 1 := hfl.mp h70
                rw [hq, ← hR3] at hS
                simp only [Prod.mk.injEq] at hS
                obtain ⟨e1, e2⟩ := hS
                refine y_ws (ws' := WS cI aS (aP 0) kp ea la ns2 ne2 ts te da de eo dn io ++ (WP cI aP E vs dp B sz cd M fr tt f1 f2 ch)) (by rw [e1, e2]) ?_
                exact K _ _ _ _ dX2_findNeeded_84 (by decide) (by decide)
              · skip
                have hne : r ≠ k + 1 := fun z => h70 (hfl.mpr z)
                refine y_aload_n C 0 dX2_findNeeded_73 rfl rfl ?_
                refine y_callI C (wr := []) 0 (c_X2_shrinkNeeded l D cI aS kp ea la q1 p1 ts te da de eo dn io aP E vs dp B sz cd M fr tt f1 f2 ch hM hfr htt) gX2_findNeeded_X2_shrinkNeeded rfl rfl rfl (by decide +kernel) ⟨Nat.le_of_ble_eq_true rfl, Nat.le_of_ble_eq_true rfl⟩ (q0 := 0) (ci := 2) rfl rfl rfl rfl rfl (Nat.le_of_ble_eq_true rfl) dX2_findNeeded_74 ⟨Nat.le_of_ble_eq_true rfl, Nat.le_of_ble_eq_true rfl⟩ ?_
                refine y_ws (ws' := WS cI aS (aP 0) kp ea la ((skD kp ea fr tt M (p1, q1, 0)).2.1) ((skD kp ea fr tt M (p1, q1, 0)).1) ts te da de eo dn io ++ (WP cI aP E vs dp B sz cd M fr tt f1 f2 ch)) rfl ?_
                refine y_istore_n C (lv' := [(1, .int (nI ((skD kp ea fr tt M (p1, q1, 0)).2.2))), (0, .ref (aS 0)), (2, .int (nI r))]) dX2_findNeeded_77 rfl (by decide) rfl ?_
                refine y_iinc C (k := 2) (lv' := [(2, .int (nI (r + 1))), (1, .int (nI ((skD kp ea fr tt M (p1, q1, 0)).2.2))), (0, .ref (aS 0))]) dX2_findNeeded_78 rfl (yn_inc rfl) (by decide) rfl ?_
                refine y_goto C (tgt := 62) dX2_findNeeded_81 (by decide) ?_
                refine y_sub [2, 1, 0] (lv' := [(0, .ref (aS 0)), (1, .int (nI ((skD kp ea fr tt M (p1, q1, 0)).2.2))), (2, .int (nI (r + 1)))]) rfl ?_
                exact ih62 _ _ _ _ (by omega) (by simp only [irN, ← hS]) (by have hf : flN kp ea M fr tt (irN kp ea M fr tt (inN E f1 kp ea ne ns B) r) = (skD kp ea fr tt M (p1, q1, 0)).2.2 := (by rw [← hS]; rfl); exact ⟨fun h0 => (by rcases Nat.lt_or_ge r k with q | q; exact absurd (hf.trans h0) (hR1 r q); omega), fun h0 => (by rw [← hf, show r = k by omega]; exact hR2)⟩) (skD_le _ (Nat.zero_le _)) (by omega)
        refine y_sub [2, 1, 0] (lv' := [(0, .ref (aS 0)), (1, .int (nI 1)), (2, .int (nI 0))]) rfl ?_
        exact lp62 _ _ _ _ _ (Nat.zero_le _) rfl (⟨fun h => absurd h (by decide), fun h => by omega⟩) (Nat.le_refl _) (Nat.lt_succ_self _)
      · skip
        refine y_aload_n C 0 dX2_findNeeded_13 rfl rfl ?_
        refine y_get C in_X2_findNeeded_2 (ci := 2) rfl 0 (by decide) (List.mem_of_getElem? (i := 1) rfl) 0 rfl rfl dX2_findNeeded_14 ?_
        refine y_get C in_X2_findNeeded_1 (ci := 1) rfl 9 (by decide) (List.mem_of_getElem? (i := 3) rfl) 13 rfl rfl dX2_findNeeded_17 ?_
        refine y_iload_n C 1 dX2_findNeeded_20 rfl rfl ?_
        refine y_iald C (q0 := 20) (t0 := 0) rfl rfl (by decide) (by omega) dX2_findNeeded_21 ?_
        refine y_iconst C (v := (-1)) dX2_findNeeded_22 (by decide) ?_
        refine y_icmp_eq C (tgt := 30) dX2_findNeeded_23 (by decide)  (fun h23 => ?_) (fun h23 => ?_)
        · skip
          refine y_iconst C (v := nI 0) dX2_findNeeded_30 (by decide) ?_
          refine y_istore_n C (lv' := [(2, .int (nI 0)), (0, .ref (aS 0)), (1, .int (nI i))]) dX2_findNeeded_31 rfl (by decide) rfl ?_
          refine y_aload_n C 1 dX2_findNeeded_32 rfl rfl ?_
          refine y_iload_n C 2 dX2_findNeeded_33 rfl rfl ?_
          refine y_iload_n C 0 dX2_findNeeded_34 rfl rfl ?_
          refine y_ifN_eq C (tgt := 48) dX2_findNeeded_35 (by decide) (by decide) (fun _ => ?_) (fun h => absurd h (by decide))
          refine y_iconst C (v := (0 : Int32)) dX2_findNeeded_48 (by decide) ?_
          refine y_callV C (wr := []) 2 (c_X2_setNeededAtEnd l D cI aS kp ea la q1 p1 ts te da de eo dn io aP E vs dp B sz cd M fr tt f1 f2 ch i ((0 : Int32)) (by omega)) gX2_findNeeded_X2_setNeededAtEnd rfl rfl rfl (by decide +kernel) ⟨Nat.le_of_ble_eq_true rfl, Nat.le_of_ble_eq_true rfl⟩ (q0 := 0) (ci := 2) rfl rfl rfl rfl rfl (Nat.le_of_ble_eq_true rfl) dX2_findNeeded_49 ⟨Nat.le_of_ble_eq_true rfl, Nat.le_of_ble_eq_true rfl⟩ ?_
          refine y_ws (ws' := WS cI aS (aP 0) kp ea la (upd q1 i (ea i ||| (kp i &&& ((0 : Int32))))) (upd p1 i ((0 : Int32))) ts te da de eo dn io ++ (WP cI aP E vs dp B sz cd M fr tt f1 f2 ch)) rfl ?_
          refine y_iinc C (k := 2) (lv' := [(1, .int (nI (i + 1))), (2, .int (nI 0)), (0, .ref (aS 0))]) dX2_findNeeded_52 rfl (yn_inc rfl) (by decide) rfl ?_
          refine y_goto C (tgt := 2) dX2_findNeeded_55 (by decide) ?_
          refine y_sub [2, 0] (lv' := [(0, .ref (aS 0)), (1, .int (nI (i + 1)))]) rfl ?_
          exact ih2 _ _ _ (by omega) (by simp only [inN, ← hT]; simp [h23]) (by omega)
        · skip
          refine y_iconst C (v := nI 1) dX2_findNeeded_26 (by decide) ?_
          refine y_goto C (tgt := 31) dX2_findNeeded_27 (by decide) ?_
          refine y_istore_n C (lv' := [(2, .int (nI 1)), (0, .ref (aS 0)), (1, .int (nI i))]) dX2_findNeeded_31 rfl (by decide) rfl ?_
          refine y_aload_n C 1 dX2_findNeeded_32 rfl rfl ?_
          refine y_iload_n C 2 dX2_findNeeded_33 rfl rfl ?_
          refine y_iload_n C 0 dX2_findNeeded_34 rfl rfl ?_
          refine y_ifN_eq C (tgt := 48) dX2_findNeeded_35 (by decide) (by decide) (fun h => absurd h (by decide)) (fun _ => ?_)
          refine y_aload_n C 1 dX2_findNeeded_38 rfl rfl ?_
          refine y_get C in_X2_findNeeded_2 (ci := 2) rfl 0 (by decide) (List.mem_of_getElem? (i := 1) rfl) 0 rfl rfl dX2_findNeeded_39 ?_
          refine y_callI C (wr := WS cI aS (aP 0) kp ea la q1 p1 ts te da de eo dn io) 0 (c_X1_allExpressions l D cI aP E vs dp B sz cd M fr tt f1 f2 ch) gX2_findNeeded_X1_allExpressions rfl rfl rfl (by decide +kernel) ⟨Nat.le_of_ble_eq_true rfl, Nat.le_of_ble_eq_true rfl⟩ (q0 := 0) (ci := 1) rfl rfl rfl rfl rfl (Nat.le_of_ble_eq_true rfl) dX2_findNeeded_42 ⟨Nat.le_of_ble_eq_true rfl, Nat.le_of_ble_eq_true rfl⟩ ?_
          refine y_ws (ws' := WS cI aS (aP 0) kp ea la q1 p1 ts te da de eo dn io ++ (WP cI aP E vs dp B sz cd M fr tt f1 f2 ch)) rfl ?_
          refine y_goto C (tgt := 49) dX2_findNeeded_45 (by decide) ?_
          refine y_callV C (wr := []) 2 (c_X2_setNeededAtEnd l D cI aS kp ea la q1 p1 ts te da de eo dn io aP E vs dp B sz cd M fr tt f1 f2 ch i (allF E) (by omega)) gX2_findNeeded_X2_setNeededAtEnd rfl rfl rfl (by decide +kernel) ⟨Nat.le_of_ble_eq_true rfl, Nat.le_of_ble_eq_true rfl⟩ (q0 := 0) (ci := 2) rfl rfl rfl rfl rfl (Nat.le_of_ble_eq_true rfl) dX2_findNeeded_49 ⟨Nat.le_of_ble_eq_true rfl, Nat.le_of_ble_eq_true rfl⟩ ?_
          refine y_ws (ws' := WS cI aS (aP 0) kp ea la (upd q1 i (ea i ||| (kp i &&& (allF E)))) (upd p1 i (allF E)) ts te da de eo dn io ++ (WP cI aP E vs dp B sz cd M fr tt f1 f2 ch)) rfl ?_
          refine y_iinc C (k := 2) (lv' := [(1, .int (nI (i + 1))), (2, .int (nI 1)), (0, .ref (aS 0))]) dX2_findNeeded_52 rfl (yn_inc rfl) (by decide) rfl ?_
          refine y_goto C (tgt := 2) dX2_findNeeded_55 (by decide) ?_
          refine y_sub [2, 0] (lv' := [(0, .ref (aS 0)), (1, .int (nI (i + 1)))]) rfl ?_
          exact ih2 _ _ _ (by omega) (by simp only [inN, ← hT]; simp [h23]) (by omega)
  refine y_sub [1, 0] (lv' := [(0, .ref (aS 0)), (1, .int (nI 0))]) rfl ?_
  exact lp2 _ _ _ _ (Nat.zero_le _) rfl (Nat.lt_succ_self _)
theorem in_X2_findThere_1 : ∀ w ∈ wsX10, w ∈ wsX2_findThere := fun _ h => List.mem_cons_of_mem _ (List.mem_append_right _ h)
theorem in_X2_findThere_2 : ∀ w ∈ wsX20, w ∈ wsX2_findThere := fun _ h => List.mem_cons_of_mem _ (List.mem_append_left _ (List.mem_append_right _ h))
set_option maxHeartbeats 4000000 in
set_option maxRecDepth 100000 in
theorem c_X2_findThere (l : Launch) (D : va_G) (cI : ClassId) (aS : Nat → Nat) (kp ea la ns ne ts te da de eo dn io : Nat → Int32) (aP : Nat → Nat) (E : Nat) (vs dp : Nat → Int32) (B : Nat) (sz cd : Nat → Nat) (M : Nat) (fr tt : Nat → Nat) (f1 f2 : Nat → Int32) (ch : Int32) (ts2 te2 : Nat → Int32) (hE : E ≤ 8) (hB : B ≤ 40) (hM : M ≤ 80) (hfr : ∀ j, fr j < 40) (htt : ∀ j, tt j < 40) (hF : ftR E B M fr tt kp la ts te ts2 te2) : ctV l yX2_findThere wsX2_findThere (rmD 2 0 0) D [(cI, .int)] [.ref (aS 0)] (WS cI aS (aP 0) kp ea la ns ne ts te da de eo dn io ++ (WP cI aP E vs dp B sz cd M fr tt f1 f2 ch)) (WS cI aS (aP 0) kp ea la ns ne ts2 te2 da de eo dn io ++ (WP cI aP E vs dp B sz cd M fr tt f1 f2 ch)) 0 0 := by
  obtain ⟨k, hk, hR1, hR2, hR3⟩ := hF
  refine ctV_of (by decide) rfl (Nat.le_of_ble_eq_true rfl) ?_
  intro p e s m args below meth c A Q C hnm K
  refine y_lv (lv' := [(0, .ref (aS 0))]) rfl ?_
  refine y_aload_n C 0 dX2_findThere_0 rfl rfl ?_
  refine y_aload_n C 0 dX2_findThere_1 rfl rfl ?_
  refine y_get C in_X2_findThere_2 (ci := 2) rfl 6 (by decide) (List.mem_of_getElem? (i := 1) rfl) 0 rfl rfl dX2_findThere_2 ?_
  refine y_callV C (wr := []) 1 (c_X2_fillWhereEdgesLead_ts l D cI aS kp ea la ns ne ts te da de eo dn io aP E vs dp B sz cd M fr tt f1 f2 ch hB hM htt) gX2_findThere_X2_fillWhereEdgesLead rfl rfl rfl (by decide +kernel) ⟨Nat.le_of_ble_eq_true rfl, Nat.le_of_ble_eq_true rfl⟩ (q0 := 0) (ci := 2) rfl rfl rfl rfl rfl (Nat.le_of_ble_eq_true rfl) dX2_findThere_5 ⟨Nat.le_of_ble_eq_true rfl, Nat.le_of_ble_eq_true rfl⟩ ?_
  refine y_ws (ws' := WS cI aS (aP 0) kp ea la ns ne (flF E B tt ts M) te da de eo dn io ++ (WP cI aP E vs dp B sz cd M fr tt f1 f2 ch)) rfl ?_
  refine y_iconst C (v := nI 0) dX2_findThere_8 (by decide) ?_
  refine y_istore_n C (lv' := [(1, .int (nI 0)), (0, .ref (aS 0))]) dX2_findThere_9 rfl (by decide) rfl ?_
  have lp10 : ∀ (n10 : Nat) (i : Nat) (p1 : (Nat → Int32)) (q1 : (Nat → Int32)), (i ≤ B) → ((p1, q1) = inT kp la (flF E B tt ts M) te i) → (B - i) < n10 → yW p l e (rmD 2 0 0) s m args below meth c 3 D A Q 0 0 (WS cI aS (aP 0) kp ea la ns ne p1 q1 da de eo dn io ++ (WP cI aP E vs dp B sz cd M fr tt f1 f2 ch)) 10 [(0, .ref (aS 0)), (1, .int (nI i))] [] := by
    intro n10
    induction n10 with
    | zero => intro i p1 q1 hi hT hm; exact absurd hm (Nat.not_lt_zero _)
    | succ n10 ih10 =>
      intro i p1 q1 hi hT hm10
      refine y_iload_n C 1 dX2_findThere_10 rfl rfl ?_
      refine y_aload_n C 0 dX2_findThere_11 rfl rfl ?_
      refine y_get C in_X2_findThere_2 (ci := 2) rfl 0 (by decide) (List.mem_of_getElem? (i := 2) rfl) 0 rfl rfl dX2_findThere_12 ?_
      refine y_get C in_X2_findThere_1 (ci := 1) rfl 3 (by decide) (List.mem_of_getElem? (i := 3) rfl) 13 rfl rfl dX2_findThere_15 ?_
      refine y_icmpN_ge C (tgt := 38) dX2_findThere_18 (by decide) (by omega) (by omega) (fun h18 => ?_) (fun h18 => ?_)
      · skip
        rw [show i = B by omega] at hT
        refine y_ws (ws' := WS cI aS (aP 0) kp ea la ns ne ((inT kp la (flF E B tt ts M) te B).1) ((inT kp la (flF E B tt ts M) te B).2) da de eo dn io ++ (WP cI aP E vs dp B sz cd M fr tt f1 f2 ch)) (by rw [← hT]) ?_
        refine y_iconst C (v := nI 1) dX2_findThere_38 (by decide) ?_
        refine y_istore_n C (lv' := [(1, .int (nI 1)), (0, .ref (aS 0))]) dX2_findThere_39 rfl (by decide) rfl ?_
        refine y_iconst C (v := nI 0) dX2_findThere_40 (by decide) ?_
        refine y_istore_n C (lv' := [(2, .int (nI 0)), (1, .int (nI 1)), (0, .ref (aS 0))]) dX2_findThere_41 rfl (by decide) rfl ?_
        have lp42 : ∀ (n42 : Nat) (r : Nat) (fl : Nat) (p1 : (Nat → Int32)) (q1 : (Nat → Int32)), (r ≤ k + 1) → ((p1, q1) = irT kp la M fr tt (inT kp la (flF E B tt ts M) te B) r) → ((fl = 0 ↔ r = k + 1)) → (fl ≤ 1) → (k + 1 - r) < n42 → yW p l e (rmD 2 0 0) s m args below meth c 3 D A Q 0 0 (WS cI aS (aP 0) kp ea la ns ne p1 q1 da de eo dn io ++ (WP cI aP E vs dp B sz cd M fr tt f1 f2 ch)) 42 [(0, .ref (aS 0)), (1, .int (nI fl)), (2, .int (nI r))] [] := by
          intro n42
          induction n42 with
          | zero => intro r fl p1 q1 hr hS hfl hfl1 hm; exact absurd hm (Nat.not_lt_zero _)
          | succ n42 ih42 =>
            intro r fl p1 q1 hr hS hfl hfl1 hm42
            refine y_iload_n C 2 dX2_findThere_42 rfl rfl ?_
            refine y_sipush C (v := nI 1000) dX2_findThere_43 (by decide) ?_
            refine y_icmpN_ge C (tgt := 64) dX2_findThere_46 (by decide) (by omega) (by omega) (fun h46 => ?_) (fun h46 => ?_)
            · skip
              have hq : r = k + 1 := by omega
              rw [hq, ← hR3] at hS
              simp only [Prod.mk.injEq] at hS
              obtain ⟨e1, e2⟩ := hS
              refine y_ws (ws' := WS cI aS (aP 0) kp ea la ns ne ts2 te2 da de eo dn io ++ (WP cI aP E vs dp B sz cd M fr tt f1 f2 ch)) (by rw [e1, e2]) ?_
              exact K _ _ _ _ dX2_findThere_64 (by decide) (by decide)
            · skip
              refine y_iload_n C 1 dX2_findThere_49 rfl rfl ?_
              refine y_ifN_eq C (tgt := 64) dX2_findThere_50 (by decide) (by have := hfl1; omega) (fun h50 => ?_) (fun h50 => ?_)
              · skip
                have hq : r = k + 1 := hfl.mp h50
                rw [hq, ← hR3] at hS
                simp only [Prod.mk.injEq] at hS
                obtain ⟨e1, e2⟩ := hS
                refine y_ws (ws' := WS cI aS (aP 0) kp ea la ns ne ts2 te2 da de eo dn io ++ (WP cI aP E vs dp B sz cd M fr tt f1 f2 ch)) (by rw [e1, e2]) ?_
                exact K _ _ _ _ dX2_findThere_64 (by decide) (by decide)
              · skip
                have hne : r ≠ k + 1 := fun z => h50 (hfl.mpr z)
                refine y_aload_n C 0 dX2_findThere_53 rfl rfl ?_
                refine y_callI C (wr := []) 0 (c_X2_shrinkThere l D cI aS kp ea la ns ne p1 q1 da de eo dn io aP E vs dp B sz cd M fr tt f1 f2 ch hM hfr htt) gX2_findThere_X2_shrinkThere rfl rfl rfl (by decide +kernel) ⟨Nat.le_of_ble_eq_true rfl, Nat.le_of_ble_eq_true rfl⟩ (q0 := 0) (ci := 2) rfl rfl rfl rfl rfl (Nat.le_of_ble_eq_true rfl) dX2_findThere_54 ⟨Nat.le_of_ble_eq_true rfl, Nat.le_of_ble_eq_true rfl⟩ ?_
                refine y_ws (ws' := WS cI aS (aP 0) kp ea la ns ne ((stD kp la fr tt (p1, q1, 0) M).1) ((stD kp la fr tt (p1, q1, 0) M).2.1) da de eo dn io ++ (WP cI aP E vs dp B sz cd M fr tt f1 f2 ch)) rfl ?_
                refine y_istore_n C (lv' := [(1, .int (nI ((stD kp la fr tt (p1, q1, 0) M).2.2))), (0, .ref (aS 0)), (2, .int (nI r))]) dX2_findThere_57 rfl (by decide) rfl ?_
                refine y_iinc C (k := 2) (lv' := [(2, .int (nI (r + 1))), (1, .int (nI ((stD kp la fr tt (p1, q1, 0) M).2.2))), (0, .ref (aS 0))]) dX2_findThere_58 rfl (yn_inc rfl) (by decide) rfl ?_
                refine y_goto C (tgt := 42) dX2_findThere_61 (by decide) ?_
                refine y_sub [2, 1, 0] (lv' := [(0, .ref (aS 0)), (1, .int (nI ((stD kp la fr tt (p1, q1, 0) M).2.2))), (2, .int (nI (r + 1)))]) rfl ?_
                exact ih42 _ _ _ _ (by omega) (by simp only [irT, ← hS]) (by have hf : flT kp la M fr tt (irT kp la M fr tt (inT kp la (flF E B tt ts M) te B) r) = (stD kp la fr tt (p1, q1, 0) M).2.2 := (by rw [← hS]; rfl); exact ⟨fun h0 => (by rcases Nat.lt_or_ge r k with q | q; exact absurd (hf.trans h0) (hR1 r q); omega), fun h0 => (by rw [← hf, show r = k by omega]; exact hR2)⟩) (stD_le (Nat.zero_le _) _) (by omega)
        refine y_sub [2, 1, 0] (lv' := [(0, .ref (aS 0)), (1, .int (nI 1)), (2, .int (nI 0))]) rfl ?_
        exact lp42 _ _ _ _ _ (Nat.zero_le _) rfl (⟨fun h => absurd h (by decide), fun h => by omega⟩) (Nat.le_refl _) (Nat.lt_succ_self _)
      · skip
        refine y_aload_n C 0 dX2_findThere_21 rfl rfl ?_
        refine y_iload_n C 1 dX2_findThere_22 rfl rfl ?_
        refine y_aload_n C 0 dX2_findThere_23 rfl rfl ?_
        refine y_get C in_X2_findThere_2 (ci := 2) rfl 6 (by decide) (List.mem_of_getElem? (i := 1) rfl) 0 rfl rfl dX2_findThere_24 ?_
        refine y_iload_n C 1 dX2_findThere_27 rfl rfl ?_
        refine y_iald C (q0 := 6) (t0 := 0) rfl rfl (by decide) (by omega) dX2_findThere_28 ?_
        refine y_callV C (wr := []) 2 (c_X2_setThereAtStart l D cI aS kp ea la ns ne p1 q1 da de eo dn io aP E vs dp B sz cd M fr tt f1 f2 ch i (p1 i) (by omega)) gX2_findThere_X2_setThereAtStart rfl rfl rfl (by decide +kernel) ⟨Nat.le_of_ble_eq_true rfl, Nat.le_of_ble_eq_true rfl⟩ (q0 := 0) (ci := 2) rfl rfl rfl rfl rfl (Nat.le_of_ble_eq_true rfl) dX2_findThere_29 ⟨Nat.le_of_ble_eq_true rfl, Nat.le_of_ble_eq_true rfl⟩ ?_
        refine y_ws (ws' := WS cI aS (aP 0) kp ea la ns ne (upd p1 i (p1 i)) (upd q1 i (la i ||| (kp i &&& (p1 i)))) da de eo dn io ++ (WP cI aP E vs dp B sz cd M fr tt f1 f2 ch)) rfl ?_
        refine y_iinc C (k := 1) (lv' := [(1, .int (nI (i + 1))), (0, .ref (aS 0))]) dX2_findThere_32 rfl (yn_inc rfl) (by decide) rfl ?_
        refine y_goto C (tgt := 10) dX2_findThere_35 (by decide) ?_
        refine y_sub [1, 0] (lv' := [(0, .ref (aS 0)), (1, .int (nI (i + 1)))]) rfl ?_
        exact ih10 _ _ _ (by omega) (by simp only [inT, ← hT]) (by omega)
  refine y_sub [1, 0] (lv' := [(0, .ref (aS 0)), (1, .int (nI 0))]) rfl ?_
  exact lp10 _ _ _ _ (Nat.zero_le _) rfl (Nat.lt_succ_self _)
theorem in_X2_findEarliest_1 : ∀ w ∈ wsX10, w ∈ wsX2_findEarliest := fun _ h => List.mem_cons_of_mem _ (List.mem_append_right _ h)
theorem in_X2_findEarliest_2 : ∀ w ∈ wsX20, w ∈ wsX2_findEarliest := fun _ h => List.mem_cons_of_mem _ (List.mem_append_left _ (List.mem_append_right _ h))
set_option maxHeartbeats 4000000 in
set_option maxRecDepth 100000 in
theorem c_X2_findEarliest (l : Launch) (D : va_G) (cI : ClassId) (aS : Nat → Nat) (kp ea la ns ne ts te da de eo dn io : Nat → Int32) (aP : Nat → Nat) (E : Nat) (vs dp : Nat → Int32) (B : Nat) (sz cd : Nat → Nat) (M : Nat) (fr tt : Nat → Nat) (f1 f2 : Nat → Int32) (ch : Int32) (hM : M ≤ 80) (hfr : ∀ j, fr j < 40) (htt : ∀ j, tt j < 40) : ctV l yX2_findEarliest wsX2_findEarliest (rmD 0 0 0) D [(cI, .int)] [.ref (aS 0)] (WS cI aS (aP 0) kp ea la ns ne ts te da de eo dn io ++ (WP cI aP E vs dp B sz cd M fr tt f1 f2 ch)) (WS cI aS (aP 0) kp ea la ns ne ts te da de (rowU eo (ecF kp ns ne te fr tt) M) dn io ++ (WP cI aP E vs dp B sz cd M fr tt f1 f2 ch)) 0 0 := by
  refine ctV_of (by decide) rfl (Nat.le_of_ble_eq_true rfl) ?_
  intro p e s m args below meth c A Q C hnm K
  refine y_lv (lv' := [(0, .ref (aS 0))]) rfl ?_
  refine y_iconst C (v := nI 0) dX2_findEarliest_0 (by decide) ?_
  refine y_istore_n C (lv' := [(1, .int (nI 0)), (0, .ref (aS 0))]) dX2_findEarliest_1 rfl (by decide) rfl ?_
  have lp2 : ∀ (n2 : Nat) (i : Nat) (f : (Nat → Int32)), (i ≤ M) → (f = rowU eo (ecF kp ns ne te fr tt) i) → (M - i) < n2 → yW p l e (rmD 0 0 0) s m args below meth c 4 D A Q 0 0 (WS cI aS (aP 0) kp ea la ns ne ts te da de f dn io ++ (WP cI aP E vs dp B sz cd M fr tt f1 f2 ch)) 2 [(0, .ref (aS 0)), (1, .int (nI i))] [] := by
    intro n2
    induction n2 with
    | zero => intro i f hi hf hm; exact absurd hm (Nat.not_lt_zero _)
    | succ n2 ih2 =>
      intro i f hi hf hm2
      refine y_iload_n C 1 dX2_findEarliest_2 rfl rfl ?_
      refine y_aload_n C 0 dX2_findEarliest_3 rfl rfl ?_
      refine y_get C in_X2_findEarliest_2 (ci := 2) rfl 0 (by decide) (List.mem_of_getElem? (i := 1) rfl) 0 rfl rfl dX2_findEarliest_4 ?_
      refine y_get C in_X2_findEarliest_1 (ci := 1) rfl 6 (by decide) (List.mem_of_getElem? (i := 2) rfl) 13 rfl rfl dX2_findEarliest_7 ?_
      refine y_icmpN_ge C (tgt := 76) dX2_findEarliest_10 (by decide) (by omega) (by omega) (fun h10 => ?_) (fun h10 => ?_)
      · skip
        rw [show i = M by omega] at hf
        refine y_ws (ws' := WS cI aS (aP 0) kp ea la ns ne ts te da de (rowU eo (ecF kp ns ne te fr tt) M) dn io ++ (WP cI aP E vs dp B sz cd M fr tt f1 f2 ch)) (by rw [hf]) ?_
        exact K _ _ _ _ dX2_findEarliest_76 (by decide) (by decide)
      · skip
        refine y_aload_n C 0 dX2_findEarliest_13 rfl rfl ?_
        refine y_get C in_X2_findEarliest_2 (ci := 2) rfl 0 (by decide) (List.mem_of_getElem? (i := 1) rfl) 0 rfl rfl dX2_findEarliest_14 ?_
        refine y_get C in_X2_findEarliest_1 (ci := 1) rfl 7 (by decide) (List.mem_of_getElem? (i := 3) rfl) 13 rfl rfl dX2_findEarliest_17 ?_
        refine y_iload_n C 1 dX2_findEarliest_20 rfl rfl ?_
        refine y_ialdA C (q0 := 18) (t0 := 0) rfl rfl (by decide) (by omega) dX2_findEarliest_21 ?_
        refine y_istore_n C (lv' := [(2, .int (nI (fr i))), (0, .ref (aS 0)), (1, .int (nI i))]) dX2_findEarliest_22 rfl (by decide) rfl ?_
        refine y_aload_n C 1 dX2_findEarliest_23 rfl rfl ?_
        refine y_get C in_X2_findEarliest_2 (ci := 2) rfl 4 (by decide) (List.mem_of_getElem? (i := 4) rfl) 0 rfl rfl dX2_findEarliest_24 ?_
        refine y_aload_n C 1 dX2_findEarliest_27 rfl rfl ?_
        refine y_get C in_X2_findEarliest_2 (ci := 2) rfl 0 (by decide) (List.mem_of_getElem? (i := 1) rfl) 0 rfl rfl dX2_findEarliest_28 ?_
        refine y_get C in_X2_findEarliest_1 (ci := 1) rfl 8 (by decide) (List.mem_of_getElem? (i := 5) rfl) 13 rfl rfl dX2_findEarliest_31 ?_
        refine y_iload_n C 2 dX2_findEarliest_34 rfl rfl ?_
        refine y_ialdA C (q0 := 19) (t0 := 0) rfl rfl (by decide) (by omega) dX2_findEarliest_35 ?_
        refine y_iald C (q0 := 4) (t0 := 0) rfl rfl (by decide) (by have := htt i; omega) dX2_findEarliest_36 ?_
        refine y_aload_n C 1 dX2_findEarliest_37 rfl rfl ?_
        refine y_get C in_X2_findEarliest_2 (ci := 2) rfl 7 (by decide) (List.mem_of_getElem? (i := 6) rfl) 0 rfl rfl dX2_findEarliest_38 ?_
        refine y_iload_n C 0 dX2_findEarliest_41 rfl rfl ?_
        refine y_iald C (q0 := 7) (t0 := 0) rfl rfl (by decide) (by have := hfr i; omega) dX2_findEarliest_42 ?_
        refine y_iconst C (v := (-1)) dX2_findEarliest_43 (by decide) ?_
        refine y_ixor C dX2_findEarliest_44 ?_
        refine y_iand C dX2_findEarliest_45 ?_
        refine y_istore_n C (lv' := [(3, .int ((ns (tt i)) &&& ((te (fr i)) ^^^ ((-1))))), (2, .int (nI (fr i))), (0, .ref (aS 0)), (1, .int (nI i))]) dX2_findEarliest_46 rfl (by decide) rfl ?_
        refine y_aload_n C 2 dX2_findEarliest_47 rfl rfl ?_
        refine y_get C in_X2_findEarliest_2 (ci := 2) rfl 10 (by decide) (List.mem_of_getElem? (i := 7) rfl) 0 rfl rfl dX2_findEarliest_48 ?_
        refine y_iload_n C 3 dX2_findEarliest_51 rfl rfl ?_
        refine y_iload_n C 0 dX2_findEarliest_52 rfl rfl ?_
        refine y_aload_n C 2 dX2_findEarliest_53 rfl rfl ?_
        refine y_get C in_X2_findEarliest_2 (ci := 2) rfl 1 (by decide) (List.mem_of_getElem? (i := 8) rfl) 0 rfl rfl dX2_findEarliest_54 ?_
        refine y_iload_n C 1 dX2_findEarliest_57 rfl rfl ?_
        refine y_iald C (q0 := 1) (t0 := 0) rfl rfl (by decide) (by have := hfr i; omega) dX2_findEarliest_58 ?_
        refine y_aload_n C 2 dX2_findEarliest_59 rfl rfl ?_
        refine y_get C in_X2_findEarliest_2 (ci := 2) rfl 5 (by decide) (List.mem_of_getElem? (i := 9) rfl) 0 rfl rfl dX2_findEarliest_60 ?_
        refine y_iload_n C 1 dX2_findEarliest_63 rfl rfl ?_
        refine y_iald C (q0 := 5) (t0 := 0) rfl rfl (by decide) (by have := hfr i; omega) dX2_findEarliest_64 ?_
        refine y_iand C dX2_findEarliest_65 ?_
        refine y_iconst C (v := (-1)) dX2_findEarliest_66 (by decide) ?_
        refine y_ixor C dX2_findEarliest_67 ?_
        refine y_iand C dX2_findEarliest_68 ?_
        refine y_iast C (q0 := 10) (t0 := 0) rfl rfl (by decide) (by omega) (ws' := WS cI aS (aP 0) kp ea la ns ne ts te da de (upd f i (((ns (tt i)) &&& ((te (fr i)) ^^^ ((-1)))) &&& (((kp (fr i)) &&& (ne (fr i))) ^^^ ((-1))))) dn io ++ (WP cI aP E vs dp B sz cd M fr tt f1 f2 ch)) rfl dX2_findEarliest_69 ?_
        refine y_iinc C (k := 3) (lv' := [(1, .int (nI (i + 1))), (3, .int ((ns (tt i)) &&& ((te (fr i)) ^^^ ((-1))))), (2, .int (nI (fr i))), (0, .ref (aS 0))]) dX2_findEarliest_70 rfl (yn_inc rfl) (by decide) rfl ?_
        refine y_goto C (tgt := 2) dX2_findEarliest_73 (by decide) ?_
        refine y_sub [3, 0] (lv' := [(0, .ref (aS 0)), (1, .int (nI (i + 1)))]) rfl ?_
        exact ih2 _ _ (by omega) (by rw [hf]; exact ru_s _ _ _) (by omega)
  refine y_sub [1, 0] (lv' := [(0, .ref (aS 0)), (1, .int (nI 0))]) rfl ?_
  exact lp2 _ _ _ (Nat.zero_le _) ((ru_0 _ _).symm) (Nat.lt_succ_self _)
theorem in_X2_findDelayed_1 : ∀ w ∈ wsX10, w ∈ wsX2_findDelayed := fun _ h => List.mem_cons_of_mem _ (List.mem_append_right _ h)
theorem in_X2_findDelayed_2 : ∀ w ∈ wsX20, w ∈ wsX2_findDelayed := fun _ h => List.mem_cons_of_mem _ (List.mem_append_left _ (List.mem_append_right _ h))
set_option maxHeartbeats 4000000 in
set_option maxRecDepth 100000 in
theorem c_X2_findDelayed (l : Launch) (D : va_G) (cI : ClassId) (aS : Nat → Nat) (kp ea la ns ne ts te da de eo dn io : Nat → Int32) (aP : Nat → Nat) (E : Nat) (vs dp : Nat → Int32) (B : Nat) (sz cd : Nat → Nat) (M : Nat) (fr tt : Nat → Nat) (f1 f2 : Nat → Int32) (ch : Int32) (da2 : Nat → Int32) (hE : E ≤ 8) (hB : B ≤ 40) (hM : M ≤ 80) (hfr : ∀ j, fr j < 40) (htt : ∀ j, tt j < 40) (hF : fdR E B M fr tt ea ns eo da da2) : ctV l yX2_findDelayed wsX2_findDelayed (rmD 2 0 0) D [(cI, .int)] [.ref (aS 0)] (WS cI aS (aP 0) kp ea la ns ne ts te da de eo dn io ++ (WP cI aP E vs dp B sz cd M fr tt f1 f2 ch)) (WS cI aS (aP 0) kp ea la ns ne ts te da2 de eo (rowU dn (dcF ea eo da2 fr) M) io ++ (WP cI aP E vs dp B sz cd M fr tt f1 f2 ch)) 0 0 := by
  obtain ⟨k, hk, hR1, hR2, hR3⟩ := hF
  refine ctV_of (by decide) rfl (Nat.le_of_ble_eq_true rfl) ?_
  intro p e s m args below meth c A Q C hnm K
  refine y_lv (lv' := [(0, .ref (aS 0))]) rfl ?_
  refine y_aload_n C 0 dX2_findDelayed_0 rfl rfl ?_
  refine y_aload_n C 0 dX2_findDelayed_1 rfl rfl ?_
  refine y_get C in_X2_findDelayed_2 (ci := 2) rfl 8 (by decide) (List.mem_of_getElem? (i := 1) rfl) 0 rfl rfl dX2_findDelayed_2 ?_
  refine y_callV C (wr := []) 1 (c_X2_fillWhereEdgesLead_da l D cI aS kp ea la ns ne ts te da de eo dn io aP E vs dp B sz cd M fr tt f1 f2 ch hB hM htt) gX2_findDelayed_X2_fillWhereEdgesLead rfl rfl rfl (by decide +kernel) ⟨Nat.le_of_ble_eq_true rfl, Nat.le_of_ble_eq_true rfl⟩ (q0 := 0) (ci := 2) rfl rfl rfl rfl rfl (Nat.le_of_ble_eq_true rfl) dX2_findDelayed_5 ⟨Nat.le_of_ble_eq_true rfl, Nat.le_of_ble_eq_true rfl⟩ ?_
  refine y_ws (ws' := WS cI aS (aP 0) kp ea la ns ne ts te (flF E B tt da M) de eo dn io ++ (WP cI aP E vs dp B sz cd M fr tt f1 f2 ch)) rfl ?_
  refine y_aload_n C 0 dX2_findDelayed_8 rfl rfl ?_
  refine y_get C in_X2_findDelayed_2 (ci := 2) rfl 8 (by decide) (List.mem_of_getElem? (i := 1) rfl) 0 rfl rfl dX2_findDelayed_9 ?_
  refine y_iconst C (v := nI 0) dX2_findDelayed_12 (by decide) ?_
  refine y_aload_n C 0 dX2_findDelayed_13 rfl rfl ?_
  refine y_get C in_X2_findDelayed_2 (ci := 2) rfl 4 (by decide) (List.mem_of_getElem? (i := 2) rfl) 0 rfl rfl dX2_findDelayed_14 ?_
  refine y_iconst C (v := nI 0) dX2_findDelayed_17 (by decide) ?_
  refine y_iald C (q0 := 4) (t0 := 0) rfl rfl (by decide) (by omega) dX2_findDelayed_18 ?_
  refine y_iast C (q0 := 8) (t0 := 0) rfl rfl (by decide) (by omega) (ws' := WS cI aS (aP 0) kp ea la ns ne ts te (upd (flF E B tt da M) 0 (ns 0)) de eo dn io ++ (WP cI aP E vs dp B sz cd M fr tt f1 f2 ch)) rfl dX2_findDelayed_19 ?_
  refine y_iconst C (v := nI 1) dX2_findDelayed_20 (by decide) ?_
  refine y_istore_n C (lv' := [(1, .int (nI 1)), (0, .ref (aS 0))]) dX2_findDelayed_21 rfl (by decide) rfl ?_
  have jn46 : ∀ (_ : Unit), yW p l e (rmD 2 0 0) s m args below meth c 3 D A Q 0 0 (WS cI aS (aP 0) kp ea la ns ne ts te da2 de eo dn io ++ (WP cI aP E vs dp B sz cd M fr tt f1 f2 ch)) 46 [(0, .ref (aS 0))] [] := by
    intro _ 
    refine y_iconst C (v := nI 0) dX2_findDelayed_46 (by decide) ?_
    refine y_istore_n C (lv' := [(2, .int (nI 0)), (0, .ref (aS 0))]) dX2_findDelayed_47 rfl (by decide) rfl ?_
    have lp48 : ∀ (n48 : Nat) (i : Nat) (f : (Nat → Int32)), (i ≤ M) → (f = rowU dn (dcF ea eo da2 fr) i) → (M - i) < n48 → yW p l e (rmD 2 0 0) s m args below meth c 3 D A Q 0 0 (WS cI aS (aP 0) kp ea la ns ne ts te da2 de eo f io ++ (WP cI aP E vs dp B sz cd M fr tt f1 f2 ch)) 48 [(0, .ref (aS 0)), (2, .int (nI i))] [] := by
      intro n48
      induction n48 with
      | zero => intro i f hi hf hm; exact absurd hm (Nat.not_lt_zero _)
      | succ n48 ih48 =>
        intro i f hi hf hm48
        refine y_iload_n C 1 dX2_findDelayed_48 rfl rfl ?_
        refine y_aload_n C 0 dX2_findDelayed_49 rfl rfl ?_
        refine y_get C in_X2_findDelayed_2 (ci := 2) rfl 0 (by decide) (List.mem_of_getElem? (i := 3) rfl) 0 rfl rfl dX2_findDelayed_50 ?_
        refine y_get C in_X2_findDelayed_1 (ci := 1) rfl 6 (by decide) (List.mem_of_getElem? (i := 4) rfl) 13 rfl rfl dX2_findDelayed_53 ?_
        refine y_icmpN_ge C (tgt := 76) dX2_findDelayed_56 (by decide) (by omega) (by omega) (fun h56 => ?_) (fun h56 => ?_)
        · skip
          rw [show i = M by omega] at hf
          refine y_ws (ws' := WS cI aS (aP 0) kp ea la ns ne ts te da2 de eo (rowU dn (dcF ea eo da2 fr) M) io ++ (WP cI aP E vs dp B sz cd M fr tt f1 f2 ch)) (by rw [hf]) ?_
          exact K _ _ _ _ dX2_findDelayed_76 (by decide) (by decide)
        · skip
          refine y_aload_n C 0 dX2_findDelayed_59 rfl rfl ?_
          refine y_get C in_X2_findDelayed_2 (ci := 2) rfl 11 (by decide) (List.mem_of_getElem? (i := 5) rfl) 0 rfl rfl dX2_findDelayed_60 ?_
          refine y_iload_n C 1 dX2_findDelayed_63 rfl rfl ?_
          refine y_aload_n C 0 dX2_findDelayed_64 rfl rfl ?_
          refine y_iload_n C 1 dX2_findDelayed_65 rfl rfl ?_
          refine y_callI C (wr := []) 1 (c_X2_findDelayedOnEdge l D cI aS kp ea la ns ne ts te da2 de eo f io aP E vs dp B sz cd M fr tt f1 f2 ch i (by omega) (by omega)) gX2_findDelayed_X2_findDelayedOnEdge rfl rfl rfl (by decide +kernel) ⟨Nat.le_of_ble_eq_true rfl, Nat.le_of_ble_eq_true rfl⟩ (q0 := 0) (ci := 2) rfl rfl rfl rfl rfl (Nat.le_of_ble_eq_true rfl) dX2_findDelayed_66 ⟨Nat.le_of_ble_eq_true rfl, Nat.le_of_ble_eq_true rfl⟩ ?_
          refine y_ws (ws' := WS cI aS (aP 0) kp ea la ns ne ts te da2 de eo f io ++ (WP cI aP E vs dp B sz cd M fr tt f1 f2 ch)) rfl ?_
          refine y_iast C (q0 := 11) (t0 := 0) rfl rfl (by decide) (by omega) (ws' := WS cI aS (aP 0) kp ea la ns ne ts te da2 de eo (upd f i (dcF ea eo da2 fr i)) io ++ (WP cI aP E vs dp B sz cd M fr tt f1 f2 ch)) rfl dX2_findDelayed_69 ?_
          refine y_iinc C (k := 1) (lv' := [(2, .int (nI (i + 1))), (0, .ref (aS 0))]) dX2_findDelayed_70 rfl (yn_inc rfl) (by decide) rfl ?_
          refine y_goto C (tgt := 48) dX2_findDelayed_73 (by decide) ?_
          refine y_sub [1, 0] (lv' := [(0, .ref (aS 0)), (2, .int (nI (i + 1)))]) rfl ?_
          exact ih48 _ _ (by omega) (by rw [hf]; exact ru_s _ _ _) (by omega)
    refine y_sub [1, 0] (lv' := [(0, .ref (aS 0)), (2, .int (nI 0))]) rfl ?_
    exact lp48 _ _ _ (Nat.zero_le _) ((ru_0 _ _).symm) (Nat.lt_succ_self _)
  refine y_iconst C (v := nI 0) dX2_findDelayed_22 (by decide) ?_
  refine y_istore_n C (lv' := [(2, .int (nI 0)), (1, .int (nI 1)), (0, .ref (aS 0))]) dX2_findDelayed_23 rfl (by decide) rfl ?_
  have lp24 : ∀ (n24 : Nat) (r : Nat) (fl : Nat) (p1 : (Nat → Int32)), (r ≤ k + 1) → (p1 = irD ea eo M fr tt (upd (flF E B tt da M) 0 (ns 0)) r) → ((fl = 0 ↔ r = k + 1)) → (fl ≤ 1) → (k + 1 - r) < n24 → yW p l e (rmD 2 0 0) s m args below meth c 3 D A Q 0 0 (WS cI aS (aP 0) kp ea la ns ne ts te p1 de eo dn io ++ (WP cI aP E vs dp B sz cd M fr tt f1 f2 ch)) 24 [(0, .ref (aS 0)), (1, .int (nI fl)), (2, .int (nI r))] [] := by
    intro n24
    induction n24 with
    | zero => intro r fl p1 hr hS hfl hfl1 hm; exact absurd hm (Nat.not_lt_zero _)
    | succ n24 ih24 =>
      intro r fl p1 hr hS hfl hfl1 hm24
      refine y_iload_n C 2 dX2_findDelayed_24 rfl rfl ?_
      refine y_sipush C (v := nI 1000) dX2_findDelayed_25 (by decide) ?_
      refine y_icmpN_ge C (tgt := 46) dX2_findDelayed_28 (by decide) (by omega) (by omega) (fun h28 => ?_) (fun h28 => ?_)
      · skip
        have hq : r = k + 1 := by omega
        rw [hq, ← hR3] at hS
        refine y_ws (ws' := WS cI aS (aP 0) kp ea la ns ne ts te da2 de eo dn io ++ (WP cI aP E vs dp B sz cd M fr tt f1 f2 ch)) (by rw [hS]) ?_
        refine y_sub [0] (lv' := [(0, .ref (aS 0))]) rfl ?_
        exact jn46 () 
      · skip
        refine y_iload_n C 1 dX2_findDelayed_31 rfl rfl ?_
        refine y_ifN_eq C (tgt := 46) dX2_findDelayed_32 (by decide) (by have := hfl1; omega) (fun h32 => ?_) (fun h32 => ?_)
        · skip
          have hq : r = k + 1 := hfl.mp h32
          rw [hq, ← hR3] at hS
          refine y_ws (ws' := WS cI aS (aP 0) kp ea la ns ne ts te da2 de eo dn io ++ (WP cI aP E vs dp B sz cd M fr tt f1 f2 ch)) (by rw [hS]) ?_
          refine y_sub [0] (lv' := [(0, .ref (aS 0))]) rfl ?_
          exact jn46 () 
        · skip
          have hne : r ≠ k + 1 := fun z => h32 (hfl.mpr z)
          refine y_aload_n C 0 dX2_findDelayed_35 rfl rfl ?_
          refine y_callI C (wr := []) 0 (c_X2_shrinkDelayed l D cI aS kp ea la ns ne ts te p1 de eo dn io aP E vs dp B sz cd M fr tt f1 f2 ch hM hfr htt) gX2_findDelayed_X2_shrinkDelayed rfl rfl rfl (by decide +kernel) ⟨Nat.le_of_ble_eq_true rfl, Nat.le_of_ble_eq_true rfl⟩ (q0 := 0) (ci := 2) rfl rfl rfl rfl rfl (Nat.le_of_ble_eq_true rfl) dX2_findDelayed_36 ⟨Nat.le_of_ble_eq_true rfl, Nat.le_of_ble_eq_true rfl⟩ ?_
          refine y_ws (ws' := WS cI aS (aP 0) kp ea la ns ne ts te ((sdD ea eo fr tt (p1, 0) M).1) de eo dn io ++ (WP cI aP E vs dp B sz cd M fr tt f1 f2 ch)) rfl ?_
          refine y_istore_n C (lv' := [(1, .int (nI ((sdD ea eo fr tt (p1, 0) M).2))), (0, .ref (aS 0)), (2, .int (nI r))]) dX2_findDelayed_39 rfl (by decide) rfl ?_
          refine y_iinc C (k := 2) (lv' := [(2, .int (nI (r + 1))), (1, .int (nI ((sdD ea eo fr tt (p1, 0) M).2))), (0, .ref (aS 0))]) dX2_findDelayed_40 rfl (yn_inc rfl) (by decide) rfl ?_
          refine y_goto C (tgt := 24) dX2_findDelayed_43 (by decide) ?_
          refine y_sub [2, 1, 0] (lv' := [(0, .ref (aS 0)), (1, .int (nI ((sdD ea eo fr tt (p1, 0) M).2))), (2, .int (nI (r + 1)))]) rfl ?_
          exact ih24 _ _ _ (by omega) (by simp only [irD, ← hS]) (by have hf : flD ea eo M fr tt (irD ea eo M fr tt (upd (flF E B tt da M) 0 (ns 0)) r) = (sdD ea eo fr tt (p1, 0) M).2 := (by rw [← hS]; rfl); exact ⟨fun h0 => (by rcases Nat.lt_or_ge r k with q | q; exact absurd (hf.trans h0) (hR1 r q); omega), fun h0 => (by rw [← hf, show r = k by omega]; exact hR2)⟩) (sdD_le (Nat.zero_le _) _) (by omega)
  refine y_sub [2, 1, 0] (lv' := [(0, .ref (aS 0)), (1, .int (nI 1)), (2, .int (nI 0))]) rfl ?_
  exact lp24 _ _ _ _ (Nat.zero_le _) rfl (⟨fun h => absurd h (by decide), fun h => by omega⟩) (Nat.le_refl _) (Nat.lt_succ_self _)
theorem in_X2_findInsertionsAndDeletions_1 : ∀ w ∈ wsX10, w ∈ wsX2_findInsertionsAndDeletions := fun _ h => List.mem_cons_of_mem _ (List.mem_append_right _ h)
theorem in_X2_findInsertionsAndDeletions_2 : ∀ w ∈ wsX20, w ∈ wsX2_findInsertionsAndDeletions := fun _ h => List.mem_cons_of_mem _ (List.mem_append_left _ (List.mem_append_right _ h))
set_option maxHeartbeats 4000000 in
set_option maxRecDepth 100000 in
theorem c_X2_findInsertionsAndDeletions (l : Launch) (D : va_G) (cI : ClassId) (aS : Nat → Nat) (kp ea la ns ne ts te da de eo dn io : Nat → Int32) (aP : Nat → Nat) (E : Nat) (vs dp : Nat → Int32) (B : Nat) (sz cd : Nat → Nat) (M : Nat) (fr tt : Nat → Nat) (f1 f2 : Nat → Int32) (ch : Int32) (hB : B ≤ 40) (hM : M ≤ 80) (htt : ∀ j, tt j < 40) : ctV l yX2_findInsertionsAndDeletions wsX2_findInsertionsAndDeletions (rmD 0 0 0) D [(cI, .int)] [.ref (aS 0)] (WS cI aS (aP 0) kp ea la ns ne ts te da de eo dn io ++ (WP cI aP E vs dp B sz cd M fr tt f1 f2 ch)) (WS cI aS (aP 0) kp ea la ns ne ts te da (rowU de (fun b => ea b &&& (da b ^^^ -1)) B) eo dn (rowU io (fun j => dn j &&& (da (tt j) ^^^ -1)) M) ++ (WP cI aP E vs dp B sz cd M fr tt f1 f2 ch)) 0 0 := by
  refine ctV_of (by decide) rfl (Nat.le_of_ble_eq_true rfl) ?_
  intro p e s m args below meth c A Q C hnm K
  refine y_lv (lv' := [(0, .ref (aS 0))]) rfl ?_
  refine y_iconst C (v := nI 0) dX2_findInsertionsAndDeletions_0 (by decide) ?_
  refine y_istore_n C (lv' := [(1, .int (nI 0)), (0, .ref (aS 0))]) dX2_findInsertionsAndDeletions_1 rfl (by decide) rfl ?_
  have lp2 : ∀ (n2 : Nat) (i : Nat) (f : (Nat → Int32)), (i ≤ M) → (f = rowU io (fun j => dn j &&& (da (tt j) ^^^ -1)) i) → (M - i) < n2 → yW p l e (rmD 0 0 0) s m args below meth c 2 D A Q 0 0 (WS cI aS (aP 0) kp ea la ns ne ts te da de eo dn f ++ (WP cI aP E vs dp B sz cd M fr tt f1 f2 ch)) 2 [(0, .ref (aS 0)), (1, .int (nI i))] [] := by
    intro n2
    induction n2 with
    | zero => intro i f hi hf hm; exact absurd hm (Nat.not_lt_zero _)
    | succ n2 ih2 =>
      intro i f hi hf hm2
      refine y_iload_n C 1 dX2_findInsertionsAndDeletions_2 rfl rfl ?_
      refine y_aload_n C 0 dX2_findInsertionsAndDeletions_3 rfl rfl ?_
      refine y_get C in_X2_findInsertionsAndDeletions_2 (ci := 2) rfl 0 (by decide) (List.mem_of_getElem? (i := 1) rfl) 0 rfl rfl dX2_findInsertionsAndDeletions_4 ?_
      refine y_get C in_X2_findInsertionsAndDeletions_1 (ci := 1) rfl 6 (by decide) (List.mem_of_getElem? (i := 2) rfl) 13 rfl rfl dX2_findInsertionsAndDeletions_7 ?_
      refine y_icmpN_ge C (tgt := 48) dX2_findInsertionsAndDeletions_10 (by decide) (by omega) (by omega) (fun h10 => ?_) (fun h10 => ?_)
      · skip
        rw [show i = M by omega] at hf; subst hf
        refine y_iconst C (v := nI 0) dX2_findInsertionsAndDeletions_48 (by decide) ?_
        refine y_istore_n C (lv' := [(1, .int (nI 0)), (0, .ref (aS 0))]) dX2_findInsertionsAndDeletions_49 rfl (by decide) rfl ?_
        have lp50 : ∀ (n50 : Nat) (i : Nat) (f : (Nat → Int32)), (i ≤ B) → (f = rowU de (fun b => ea b &&& (da b ^^^ -1)) i) → (B - i) < n50 → yW p l e (rmD 0 0 0) s m args below meth c 2 D A Q 0 0 (WS cI aS (aP 0) kp ea la ns ne ts te da f eo dn (rowU io (fun j => dn j &&& (da (tt j) ^^^ -1)) M) ++ (WP cI aP E vs dp B sz cd M fr tt f1 f2 ch)) 50 [(0, .ref (aS 0)), (1, .int (nI i))] [] := by
          intro n50
          induction n50 with
          | zero => intro i f hi hf hm; exact absurd hm (Nat.not_lt_zero _)
          | succ n50 ih50 =>
            intro i f hi hf hm50
            refine y_iload_n C 1 dX2_findInsertionsAndDeletions_50 rfl rfl ?_
            refine y_aload_n C 0 dX2_findInsertionsAndDeletions_51 rfl rfl ?_
            refine y_get C in_X2_findInsertionsAndDeletions_2 (ci := 2) rfl 0 (by decide) (List.mem_of_getElem? (i := 1) rfl) 0 rfl rfl dX2_findInsertionsAndDeletions_52 ?_
            refine y_get C in_X2_findInsertionsAndDeletions_1 (ci := 1) rfl 3 (by decide) (List.mem_of_getElem? (i := 7) rfl) 13 rfl rfl dX2_findInsertionsAndDeletions_55 ?_
            refine y_icmpN_ge C (tgt := 88) dX2_findInsertionsAndDeletions_58 (by decide) (by omega) (by omega) (fun h58 => ?_) (fun h58 => ?_)
            · skip
              rw [show i = B by omega] at hf
              refine y_ws (ws' := WS cI aS (aP 0) kp ea la ns ne ts te da (rowU de (fun b => ea b &&& (da b ^^^ -1)) B) eo dn (rowU io (fun j => dn j &&& (da (tt j) ^^^ -1)) M) ++ (WP cI aP E vs dp B sz cd M fr tt f1 f2 ch)) (by rw [hf]) ?_
              exact K _ _ _ _ dX2_findInsertionsAndDeletions_88 (by decide) (by decide)
            · skip
              refine y_aload_n C 0 dX2_findInsertionsAndDeletions_61 rfl rfl ?_
              refine y_get C in_X2_findInsertionsAndDeletions_2 (ci := 2) rfl 9 (by decide) (List.mem_of_getElem? (i := 8) rfl) 0 rfl rfl dX2_findInsertionsAndDeletions_62 ?_
              refine y_iload_n C 1 dX2_findInsertionsAndDeletions_65 rfl rfl ?_
              refine y_aload_n C 0 dX2_findInsertionsAndDeletions_66 rfl rfl ?_
              refine y_get C in_X2_findInsertionsAndDeletions_2 (ci := 2) rfl 2 (by decide) (List.mem_of_getElem? (i := 9) rfl) 0 rfl rfl dX2_findInsertionsAndDeletions_67 ?_
              refine y_iload_n C 1 dX2_findInsertionsAndDeletions_70 rfl rfl ?_
              refine y_iald C (q0 := 2) (t0 := 0) rfl rfl (by decide) (by omega) dX2_findInsertionsAndDeletions_71 ?_
              refine y_aload_n C 0 dX2_findInsertionsAndDeletions_72 rfl rfl ?_
              refine y_get C in_X2_findInsertionsAndDeletions_2 (ci := 2) rfl 8 (by decide) (List.mem_of_getElem? (i := 5) rfl) 0 rfl rfl dX2_findInsertionsAndDeletions_73 ?_
              refine y_iload_n C 1 dX2_findInsertionsAndDeletions_76 rfl rfl ?_
              refine y_iald C (q0 := 8) (t0 := 0) rfl rfl (by decide) (by omega) dX2_findInsertionsAndDeletions_77 ?_
              refine y_iconst C (v := (-1)) dX2_findInsertionsAndDeletions_78 (by decide) ?_
              refine y_ixor C dX2_findInsertionsAndDeletions_79 ?_
              refine y_iand C dX2_findInsertionsAndDeletions_80 ?_
              refine y_iast C (q0 := 9) (t0 := 0) rfl rfl (by decide) (by omega) (ws' := WS cI aS (aP 0) kp ea la ns ne ts te da (upd f i ((ea i) &&& ((da i) ^^^ ((-1))))) eo dn (rowU io (fun j => dn j &&& (da (tt j) ^^^ -1)) M) ++ (WP cI aP E vs dp B sz cd M fr tt f1 f2 ch)) rfl dX2_findInsertionsAndDeletions_81 ?_
              refine y_iinc C (k := 1) (lv' := [(1, .int (nI (i + 1))), (0, .ref (aS 0))]) dX2_findInsertionsAndDeletions_82 rfl (yn_inc rfl) (by decide) rfl ?_
              refine y_goto C (tgt := 50) dX2_findInsertionsAndDeletions_85 (by decide) ?_
              refine y_sub [1, 0] (lv' := [(0, .ref (aS 0)), (1, .int (nI (i + 1)))]) rfl ?_
              exact ih50 _ _ (by omega) (by rw [hf]; exact ru_s _ _ _) (by omega)
        refine y_sub [1, 0] (lv' := [(0, .ref (aS 0)), (1, .int (nI 0))]) rfl ?_
        exact lp50 _ _ _ (Nat.zero_le _) ((ru_0 _ _).symm) (Nat.lt_succ_self _)
      · skip
        refine y_aload_n C 0 dX2_findInsertionsAndDeletions_13 rfl rfl ?_
        refine y_get C in_X2_findInsertionsAndDeletions_2 (ci := 2) rfl 12 (by decide) (List.mem_of_getElem? (i := 3) rfl) 0 rfl rfl dX2_findInsertionsAndDeletions_14 ?_
        refine y_iload_n C 1 dX2_findInsertionsAndDeletions_17 rfl rfl ?_
        refine y_aload_n C 0 dX2_findInsertionsAndDeletions_18 rfl rfl ?_
        refine y_get C in_X2_findInsertionsAndDeletions_2 (ci := 2) rfl 11 (by decide) (List.mem_of_getElem? (i := 4) rfl) 0 rfl rfl dX2_findInsertionsAndDeletions_19 ?_
        refine y_iload_n C 1 dX2_findInsertionsAndDeletions_22 rfl rfl ?_
        refine y_iald C (q0 := 11) (t0 := 0) rfl rfl (by decide) (by omega) dX2_findInsertionsAndDeletions_23 ?_
        refine y_aload_n C 0 dX2_findInsertionsAndDeletions_24 rfl rfl ?_
        refine y_get C in_X2_findInsertionsAndDeletions_2 (ci := 2) rfl 8 (by decide) (List.mem_of_getElem? (i := 5) rfl) 0 rfl rfl dX2_findInsertionsAndDeletions_25 ?_
        refine y_aload_n C 0 dX2_findInsertionsAndDeletions_28 rfl rfl ?_
        refine y_get C in_X2_findInsertionsAndDeletions_2 (ci := 2) rfl 0 (by decide) (List.mem_of_getElem? (i := 1) rfl) 0 rfl rfl dX2_findInsertionsAndDeletions_29 ?_
        refine y_get C in_X2_findInsertionsAndDeletions_1 (ci := 1) rfl 8 (by decide) (List.mem_of_getElem? (i := 6) rfl) 13 rfl rfl dX2_findInsertionsAndDeletions_32 ?_
        refine y_iload_n C 1 dX2_findInsertionsAndDeletions_35 rfl rfl ?_
        refine y_ialdA C (q0 := 19) (t0 := 0) rfl rfl (by decide) (by omega) dX2_findInsertionsAndDeletions_36 ?_
        refine y_iald C (q0 := 8) (t0 := 0) rfl rfl (by decide) (by have := htt i; omega) dX2_findInsertionsAndDeletions_37 ?_
        refine y_iconst C (v := (-1)) dX2_findInsertionsAndDeletions_38 (by decide) ?_
        refine y_ixor C dX2_findInsertionsAndDeletions_39 ?_
        refine y_iand C dX2_findInsertionsAndDeletions_40 ?_
        refine y_iast C (q0 := 12) (t0 := 0) rfl rfl (by decide) (by omega) (ws' := WS cI aS (aP 0) kp ea la ns ne ts te da de eo dn (upd f i ((dn i) &&& ((da (tt i)) ^^^ ((-1))))) ++ (WP cI aP E vs dp B sz cd M fr tt f1 f2 ch)) rfl dX2_findInsertionsAndDeletions_41 ?_
        refine y_iinc C (k := 1) (lv' := [(1, .int (nI (i + 1))), (0, .ref (aS 0))]) dX2_findInsertionsAndDeletions_42 rfl (yn_inc rfl) (by decide) rfl ?_
        refine y_goto C (tgt := 2) dX2_findInsertionsAndDeletions_45 (by decide) ?_
        refine y_sub [1, 0] (lv' := [(0, .ref (aS 0)), (1, .int (nI (i + 1)))]) rfl ?_
        exact ih2 _ _ (by omega) (by rw [hf]; exact ru_s _ _ _) (by omega)
  refine y_sub [1, 0] (lv' := [(0, .ref (aS 0)), (1, .int (nI 0))]) rfl ?_
  exact lp2 _ _ _ (Nat.zero_le _) ((ru_0 _ _).symm) (Nat.lt_succ_self _)
theorem in_X2_countEdgesWithInsertions_1 : ∀ w ∈ wsX10, w ∈ wsX2_countEdgesWithInsertions := fun _ h => List.mem_cons_of_mem _ (List.mem_append_right _ h)
theorem in_X2_countEdgesWithInsertions_2 : ∀ w ∈ wsX20, w ∈ wsX2_countEdgesWithInsertions := fun _ h => List.mem_cons_of_mem _ (List.mem_append_left _ (List.mem_append_right _ h))
set_option maxHeartbeats 4000000 in
set_option maxRecDepth 100000 in
theorem c_X2_countEdgesWithInsertions (l : Launch) (D : va_G) (cI : ClassId) (aS : Nat → Nat) (kp ea la ns ne ts te da de eo dn io : Nat → Int32) (aP : Nat → Nat) (E : Nat) (vs dp : Nat → Int32) (B : Nat) (sz cd : Nat → Nat) (M : Nat) (fr tt : Nat → Nat) (f1 f2 : Nat → Int32) (ch : Int32) (hM : M ≤ 80) : ctI l yX2_countEdgesWithInsertions wsX2_countEdgesWithInsertions (rmD 0 0 0) D [(cI, .int)] [.ref (aS 0)] (WS cI aS (aP 0) kp ea la ns ne ts te da de eo dn io ++ (WP cI aP E vs dp B sz cd M fr tt f1 f2 ch)) (WS cI aS (aP 0) kp ea la ns ne ts te da de eo dn io ++ (WP cI aP E vs dp B sz cd M fr tt f1 f2 ch)) (nI (cntF io M)) 0 0 := by
  refine ctI_of (by decide) rfl (Nat.le_of_ble_eq_true rfl) ?_
  intro p e s m args below meth c A Q C hnm K
  refine y_lv (lv' := [(0, .ref (aS 0))]) rfl ?_
  refine y_iconst C (v := nI 0) dX2_countEdgesWithInsertions_0 (by decide) ?_
  refine y_istore_n C (lv' := [(1, .int (nI 0)), (0, .ref (aS 0))]) dX2_countEdgesWithInsertions_1 rfl (by decide) rfl ?_
  refine y_iconst C (v := nI 0) dX2_countEdgesWithInsertions_2 (by decide) ?_
  refine y_istore_n C (lv' := [(2, .int (nI 0)), (1, .int (nI 0)), (0, .ref (aS 0))]) dX2_countEdgesWithInsertions_3 rfl (by decide) rfl ?_
  have lp4 : ∀ (n4 : Nat) (i : Nat) (x : Nat), (i ≤ M) → (x = cntF io i) → (M - i) < n4 → yW p l e (rmD 0 0 0) s m args below meth c 3 D A Q 0 0 (WS cI aS (aP 0) kp ea la ns ne ts te da de eo dn io ++ (WP cI aP E vs dp B sz cd M fr tt f1 f2 ch)) 4 [(0, .ref (aS 0)), (1, .int (nI x)), (2, .int (nI i))] [] := by
    intro n4
    induction n4 with
    | zero => intro i x hi hx hm; exact absurd hm (Nat.not_lt_zero _)
    | succ n4 ih4 =>
      intro i x hi hx hm4
      refine y_iload_n C 2 dX2_countEdgesWithInsertions_4 rfl rfl ?_
      refine y_aload_n C 0 dX2_countEdgesWithInsertions_5 rfl rfl ?_
      refine y_get C in_X2_countEdgesWithInsertions_2 (ci := 2) rfl 0 (by decide) (List.mem_of_getElem? (i := 1) rfl) 0 rfl rfl dX2_countEdgesWithInsertions_6 ?_
      refine y_get C in_X2_countEdgesWithInsertions_1 (ci := 1) rfl 6 (by decide) (List.mem_of_getElem? (i := 2) rfl) 13 rfl rfl dX2_countEdgesWithInsertions_9 ?_
      refine y_icmpN_ge C (tgt := 33) dX2_countEdgesWithInsertions_12 (by decide) (by omega) (by omega) (fun h12 => ?_) (fun h12 => ?_)
      · skip
        refine y_iload_n C 1 dX2_countEdgesWithInsertions_33 rfl rfl ?_
        exact K _ _ _ _ _ dX2_countEdgesWithInsertions_34 (by rw [hx, show i = M by omega]) (by decide) (by decide)
      · skip
        refine y_aload_n C 0 dX2_countEdgesWithInsertions_15 rfl rfl ?_
        refine y_get C in_X2_countEdgesWithInsertions_2 (ci := 2) rfl 12 (by decide) (List.mem_of_getElem? (i := 3) rfl) 0 rfl rfl dX2_countEdgesWithInsertions_16 ?_
        refine y_iload_n C 2 dX2_countEdgesWithInsertions_19 rfl rfl ?_
        refine y_iald C (q0 := 12) (t0 := 0) rfl rfl (by decide) (by omega) dX2_countEdgesWithInsertions_20 ?_
        refine y_if_eq C (tgt := 27) dX2_countEdgesWithInsertions_21 (by decide)  (fun h21 => ?_) (fun h21 => ?_)
        · skip
          refine y_iinc C (k := 2) (lv' := [(2, .int (nI (i + 1))), (0, .ref (aS 0)), (1, .int (nI x))]) dX2_countEdgesWithInsertions_27 rfl (yn_inc rfl) (by decide) rfl ?_
          refine y_goto C (tgt := 4) dX2_countEdgesWithInsertions_30 (by decide) ?_
          refine y_sub [1, 2, 0] (lv' := [(0, .ref (aS 0)), (1, .int (nI x)), (2, .int (nI (i + 1)))]) rfl ?_
          exact ih4 _ _ (by omega) (by simp [cntF, hx, h21]) (by omega)
        · skip
          refine y_iinc C (k := 1) (lv' := [(1, .int (nI (x + 1))), (0, .ref (aS 0)), (2, .int (nI i))]) dX2_countEdgesWithInsertions_24 rfl (yn_inc rfl) (by decide) rfl ?_
          refine y_iinc C (k := 2) (lv' := [(2, .int (nI (i + 1))), (1, .int (nI (x + 1))), (0, .ref (aS 0))]) dX2_countEdgesWithInsertions_27 rfl (yn_inc rfl) (by decide) rfl ?_
          refine y_goto C (tgt := 4) dX2_countEdgesWithInsertions_30 (by decide) ?_
          refine y_sub [2, 1, 0] (lv' := [(0, .ref (aS 0)), (1, .int (nI (x + 1))), (2, .int (nI (i + 1)))]) rfl ?_
          exact ih4 _ _ (by omega) (by simp [cntF, hx, h21]) (by omega)
  refine y_sub [2, 1, 0] (lv' := [(0, .ref (aS 0)), (1, .int (nI 0)), (2, .int (nI 0))]) rfl ?_
  exact lp4 _ _ _ (Nat.zero_le _) rfl (Nat.lt_succ_self _)
