theorem in_X4_find_4 : ∀ w ∈ wsX40, w ∈ wsX4_find := fun _ h => List.mem_cons_of_mem _ (List.mem_append_right _ h)
set_option maxHeartbeats 4000000 in
set_option maxRecDepth 100000 in
theorem c_X4_find (l : Launch) (D : va_G) (cI : ClassId) (aM : Nat → Nat) (th E : Nat) (vs : Nat → Int32) (B : Nat) (sz cd : Nat → Nat) (M : Nat) (fr tt : Nat → Nat) (na nb ta tb dl co he : Nat → Int32) (mi la : Int32) (na2 nb2 ta2 tb2 dl2 : Nat → Int32) (hE : E ≤ 8) (hB : B ≤ 40) (hM : M ≤ 80) (hsz : ∀ j, sz j ≤ 12) (hcd : ∀ j, cd j < 24) (hfr : ∀ j, fr j < 40) (htt : ∀ j, tt j < 40) (hF : findR E vs B sz cd M fr tt na nb ta tb dl na2 nb2 ta2 tb2 dl2) : ctV l yX4_find wsX4_find (rmD 4 0 0) D [(cI, .int)] [.ref (aM 0)] (WM cI aM th E vs B sz cd M fr tt na nb ta tb dl co he mi la) (WM cI aM th E vs B sz cd M fr tt na2 nb2 ta2 tb2 dl2 co he mi la) 0 0 := by
  obtain ⟨k1, k2, hR1, hR2, hR3, hR4, hR5, hR6⟩ := hF
  refine ctV_of (by decide) rfl (Nat.le_of_ble_eq_true rfl) ?_
  intro p e s m args below meth c A Q C hnm K
  refine y_lv (lv' := [(0, .ref (aM 0))]) rfl ?_
  refine y_iconst C (v := nI 0) dX4_find_0 (by decide) ?_
  refine y_istore_n C (lv' := [(1, .int (nI 0)), (0, .ref (aM 0))]) dX4_find_1 rfl (by decide) rfl ?_
  have lp2 : ∀ (n2 : Nat) (i : Nat) (f1 : (Nat → Int32)) (f2 : (Nat → Int32)) (f3 : (Nat → Int32)), (i ≤ B) → (f1 = fillF na i (allF E)) → (f2 = fillF tb i (allF E)) → (f3 = fillF dl i (allF E)) → (B - i) < n2 → yW p l e (rmD 4 0 0) s m args below meth c 6 D A Q 0 0 (WM cI aM th E vs B sz cd M fr tt f1 nb ta f2 f3 co he mi la) 2 [(0, .ref (aM 0)), (1, .int (nI i))] [] := by
    intro n2
    induction n2 with
    | zero => intro i f1 f2 f3 hi hf1 hf2 hf3 hm; exact absurd hm (Nat.not_lt_zero _)
    | succ n2 ih2 =>
      intro i f1 f2 f3 hi hf1 hf2 hf3 hm2
      refine y_iload_n C 1 dX4_find_2 rfl rfl ?_
      refine y_aload_n C 0 dX4_find_3 rfl rfl ?_
      refine y_get C in_X4_find_4 (ci := 4) rfl 3 (by decide) (List.mem_of_getElem? (i := 1) rfl) 0 rfl rfl dX4_find_4 ?_
      refine y_icmpN_ge C (tgt := 40) dX4_find_7 (by decide) (by omega) (by omega) (fun h7 => ?_) (fun h7 => ?_)
      · skip
        have hq_i : i = B := by omega
        rw [hq_i] at hf1 hf2 hf3; subst hf1 hf2 hf3
        refine y_iconst C (v := (1 : Int32)) dX4_find_40 (by decide) ?_
        refine y_istore_n C (lv' := [(1, .int ((1 : Int32))), (0, .ref (aM 0))]) dX4_find_41 rfl (by decide) rfl ?_
        have lp42 : ∀ (n42 : Nat) (j : Nat) (fl : Int32) (g1 : (Nat → Int32)) (g2 : (Nat → Int32)) (g3 : (Nat → Int32)) (g4 : (Nat → Int32)), (j ≤ k1 + 1) → ((g1, g2, g3, g4) = itF E vs sz cd B M fr tt (fillF na B (allF E), nb, ta, fillF tb B (allF E)) j) → ((fl = 0 ↔ j = k1 + 1)) → (k1 + 1 - j) < n42 → yW p l e (rmD 4 0 0) s m args below meth c 6 D A Q 0 0 (WM cI aM th E vs B sz cd M fr tt g1 g2 g3 g4 (fillF dl B (allF E)) co he mi la) 42 [(0, .ref (aM 0)), (1, .int fl)] [] := by
          intro n42
          induction n42 with
          | zero => intro j fl g1 g2 g3 g4 hj hS hfl hm; exact absurd hm (Nat.not_lt_zero _)
          | succ n42 ih42 =>
            intro j fl g1 g2 g3 g4 hj hS hfl hm42
            refine y_iload_n C 1 dX4_find_42 rfl rfl ?_
            refine y_if_eq C (tgt := 81) dX4_find_43 (by decide)  (fun h43 => ?_) (fun h43 => ?_)
            · skip
              have hj2 := hfl.mp h43
              rw [hj2, ← hR3] at hS
              simp only [Prod.mk.injEq] at hS
              obtain ⟨e1, e2, e3, e4⟩ := hS
              refine y_ws (ws' := WM cI aM th E vs B sz cd M fr tt na2 nb2 ta2 tb2 (fillF dl B (allF E)) co he mi la) (by rw [e1, e2, e3, e4]) ?_
              refine y_iconst C (v := (1 : Int32)) dX4_find_81 (by decide) ?_
              refine y_istore_n C (lv' := [(1, .int ((1 : Int32))), (0, .ref (aM 0))]) dX4_find_82 rfl (by decide) rfl ?_
              have lp83 : ∀ (n83 : Nat) (j : Nat) (fl : Int32) (d : (Nat → Int32)), (j ≤ k2 + 1) → (d = idF E vs sz cd B M fr tt na2 nb2 tb2 (fillF dl B (allF E)) j) → ((fl = 0 ↔ j = k2 + 1)) → (k2 + 1 - j) < n83 → yW p l e (rmD 4 0 0) s m args below meth c 6 D A Q 0 0 (WM cI aM th E vs B sz cd M fr tt na2 nb2 ta2 tb2 d co he mi la) 83 [(0, .ref (aM 0)), (1, .int fl)] [] := by
                intro n83
                induction n83 with
                | zero => intro j fl d hj hS hfl hm; exact absurd hm (Nat.not_lt_zero _)
                | succ n83 ih83 =>
                  intro j fl d hj hS hfl hm83
                  refine y_iload_n C 1 dX4_find_83 rfl rfl ?_
                  refine y_if_eq C (tgt := 213) dX4_find_84 (by decide)  (fun h84 => ?_) (fun h84 => ?_)
                  · skip
                    refine y_ws (ws' := WM cI aM th E vs B sz cd M fr tt na2 nb2 ta2 tb2 dl2 co he mi la) (by rw [hS, hfl.mp h84, ← hR6]) ?_
                    exact K _ _ _ _ dX4_find_213 (by decide) (by decide)
                  · skip
                    have hne2 : j ≠ k2 + 1 := fun z => h84 (hfl.mpr z)
                    refine y_iconst C (v := nI 0) dX4_find_87 (by decide) ?_
                    refine y_istore_n C (lv' := [(1, .int (nI 0)), (0, .ref (aM 0))]) dX4_find_88 rfl (by decide) rfl ?_
                    refine y_iconst C (v := nI 0) dX4_find_89 (by decide) ?_
                    refine y_istore_n C (lv' := [(2, .int (nI 0)), (1, .int (nI 0)), (0, .ref (aM 0))]) dX4_find_90 rfl (by decide) rfl ?_
                    have lp91 : ∀ (n91 : Nat) (b : Nat) (f : Int32) (u : (Nat → Int32)), (b ≤ B) → ((u, f) = pdF E vs sz cd M fr tt na2 nb2 tb2 d b) → (B - b) < n91 → yW p l e (rmD 4 0 0) s m args below meth c 6 D A Q 0 0 (WM cI aM th E vs B sz cd M fr tt na2 nb2 ta2 tb2 u co he mi la) 91 [(0, .ref (aM 0)), (1, .int f), (2, .int (nI b))] [] := by
                      intro n91
                      induction n91 with
                      | zero => intro b f u hb hT hm; exact absurd hm (Nat.not_lt_zero _)
                      | succ n91 ih91 =>
                        intro b f u hb hT hm91
                        refine y_iload_n C 2 dX4_find_91 rfl rfl ?_
                        refine y_aload_n C 0 dX4_find_92 rfl rfl ?_
                        refine y_get C in_X4_find_4 (ci := 4) rfl 3 (by decide) (List.mem_of_getElem? (i := 1) rfl) 0 rfl rfl dX4_find_93 ?_
                        refine y_icmpN_ge C (tgt := 210) dX4_find_96 (by decide) (by omega) (by omega) (fun h96 => ?_) (fun h96 => ?_)
                        · skip
                          have hq_b : b = B := by omega
                          rw [hq_b] at hT
                          refine y_goto C (tgt := 83) dX4_find_210 (by decide) ?_
                          refine y_sub [0, 1] (lv' := [(0, .ref (aM 0)), (1, .int f)]) rfl ?_
                          exact ih83 (j + 1) _ _ (by omega) (by simp only [idF, ← hS, ← hT]) (by have hf : (pdF E vs sz cd M fr tt na2 nb2 tb2 (idF E vs sz cd B M fr tt na2 nb2 tb2 (fillF dl B (allF E)) j) B).2 = f := (by rw [← hS, ← hT]); exact ⟨fun h0 => (by rcases Nat.lt_or_ge j k2 with q | q; exact absurd (hf.trans h0) (hR4 j q); omega), fun h0 => (by rw [← hf, show j = k2 by omega]; exact hR5)⟩) (by omega)
                        · skip
                          refine y_iload_n C 2 dX4_find_99 rfl rfl ?_
                          have jn116 : ∀ (y : Int32), (y = dsF E vs sz cd fr tt na2 nb2 tb2 u b 0) → yW p l e (rmD 4 0 0) s m args below meth c 6 D A Q 0 0 (WM cI aM th E vs B sz cd M fr tt na2 nb2 ta2 tb2 u co he mi la) 116 [(0, .ref (aM 0)), (1, .int f), (2, .int (nI b))] [.int y] := by
                            intro y hy
                            refine y_istore_n C (lv' := [(3, .int y), (0, .ref (aM 0)), (1, .int f), (2, .int (nI b))]) dX4_find_116 rfl (by decide) rfl ?_
                            refine y_iload_n C 3 dX4_find_117 rfl rfl ?_
                            have jn126 : ∀ (w : Nat), (w = hdF tt b 0) → (w ≤ 1) → yW p l e (rmD 4 0 0) s m args below meth c 6 D A Q 0 0 (WM cI aM th E vs B sz cd M fr tt na2 nb2 ta2 tb2 u co he mi la) 126 [(0, .ref (aM 0)), (1, .int f), (2, .int (nI b)), (3, .int y)] [.int (nI w)] := by
                              intro w hw hwl
                              refine y_istore C (lv' := [(4, .int (nI w)), (0, .ref (aM 0)), (1, .int f), (2, .int (nI b)), (3, .int y)]) dX4_find_126 (by decide) rfl ?_
                              refine y_iconst C (v := nI 0) dX4_find_128 (by decide) ?_
                              refine y_istore C (lv' := [(5, .int (nI 0)), (4, .int (nI w)), (0, .ref (aM 0)), (1, .int f), (2, .int (nI b)), (3, .int y)]) dX4_find_129 (by decide) rfl ?_
                              have lp131 : ∀ (n131 : Nat) (i : Nat) (x : Int32) (g : Nat), (i ≤ M) → (x = dsF E vs sz cd fr tt na2 nb2 tb2 u b i) → (g = hdF tt b i) → (g ≤ 1) → (M - i) < n131 → yW p l e (rmD 4 0 0) s m args below meth c 6 D A Q 0 0 (WM cI aM th E vs B sz cd M fr tt na2 nb2 ta2 tb2 u co he mi la) 131 [(0, .ref (aM 0)), (1, .int f), (2, .int (nI b)), (3, .int x), (4, .int (nI g)), (5, .int (nI i))] [] := by
                                intro n131
                                induction n131 with
                                | zero => intro i x g hi hx hg hgl hm; exact absurd hm (Nat.not_lt_zero _)
                                | succ n131 ih131 =>
                                  intro i x g hi hx hg hgl hm131
                                  refine y_iload C 5 dX4_find_131 rfl ?_
                                  refine y_aload_n C 0 dX4_find_133 rfl rfl ?_
                                  refine y_get C in_X4_find_4 (ci := 4) rfl 6 (by decide) (List.mem_of_getElem? (i := 5) rfl) 0 rfl rfl dX4_find_134 ?_
                                  refine y_icmpN_ge C (tgt := 172) dX4_find_137 (by decide) (by omega) (by omega) (fun h137 => ?_) (fun h137 => ?_)
                                  · skip
                                    have hq_i : i = M := by omega
                                    rw [hq_i] at hx; subst hx
                                    rw [hq_i] at hg; subst hg
                                    refine y_iload C 4 dX4_find_172 rfl ?_
                                    have jn179 : ∀ (y2 : Int32), (y2 = dnN E vs sz cd M fr tt na2 nb2 tb2 u b) → yW p l e (rmD 4 0 0) s m args below meth c 6 D A Q 0 0 (WM cI aM th E vs B sz cd M fr tt na2 nb2 ta2 tb2 u co he mi la) 179 [(0, .ref (aM 0)), (1, .int f), (2, .int (nI b)), (3, .int y2)] [] := by
                                      intro y2 hy2
                                      refine y_iload_n C 1 dX4_find_179 rfl rfl ?_
                                      refine y_aload_n C 0 dX4_find_180 rfl rfl ?_
                                      refine y_get C in_X4_find_4 (ci := 4) rfl 13 (by decide) (List.mem_of_getElem? (i := 4) rfl) 0 rfl rfl dX4_find_181 ?_
                                      refine y_iload_n C 2 dX4_find_184 rfl rfl ?_
                                      refine y_iald C (q0 := 10) (t0 := 0) rfl rfl (by decide) (by omega) dX4_find_185 ?_
                                      refine y_iload_n C 3 dX4_find_186 rfl rfl ?_
                                      have jn195 : ∀ (z : Nat), (z = chF (u b) y2) → yW p l e (rmD 4 0 0) s m args below meth c 6 D A Q 0 0 (WM cI aM th E vs B sz cd M fr tt na2 nb2 ta2 tb2 u co he mi la) 195 [(0, .ref (aM 0)), (1, .int f), (2, .int (nI b)), (3, .int y2)] [.int (nI z), .int f] := by
                                        intro z hz
                                        refine y_ior C dX4_find_195 ?_
                                        refine y_istore_n C (lv' := [(1, .int (f ||| (nI z))), (0, .ref (aM 0)), (2, .int (nI b)), (3, .int y2)]) dX4_find_196 rfl (by decide) rfl ?_
                                        refine y_aload_n C 1 dX4_find_197 rfl rfl ?_
                                        refine y_get C in_X4_find_4 (ci := 4) rfl 13 (by decide) (List.mem_of_getElem? (i := 4) rfl) 0 rfl rfl dX4_find_198 ?_
                                        refine y_iload_n C 2 dX4_find_201 rfl rfl ?_
                                        refine y_iload_n C 3 dX4_find_202 rfl rfl ?_
                                        refine y_iast C (q0 := 10) (t0 := 0) rfl rfl (by decide) (by omega) (ws' := WM cI aM th E vs B sz cd M fr tt na2 nb2 ta2 tb2 (upd u b y2) co he mi la) rfl dX4_find_203 ?_
                                        refine y_iinc C (k := 2) (lv' := [(2, .int (nI (b + 1))), (1, .int (f ||| (nI z))), (0, .ref (aM 0)), (3, .int y2)]) dX4_find_204 rfl (yn_inc rfl) (by decide) rfl ?_
                                        refine y_goto C (tgt := 91) dX4_find_207 (by decide) ?_
                                        refine y_sub [2, 1, 0] (lv' := [(0, .ref (aM 0)), (1, .int (f ||| (nI z))), (2, .int (nI (b + 1)))]) rfl ?_
                                        exact ih91 _ _ _ (by omega) (by simp only [pdF, ← hT, hz, hy2]) (by omega)
                                      refine y_icmp_eq C (tgt := 194) dX4_find_187 (by decide)  (fun h187 => ?_) (fun h187 => ?_)
                                      · skip
                                        refine y_iconst C (v := (0 : Int32)) dX4_find_194 (by decide) ?_
                                        exact jn195 _ (by simp [chF, h187])
                                      · skip
                                        refine y_iconst C (v := nI 1) dX4_find_190 (by decide) ?_
                                        refine y_goto C (tgt := 195) dX4_find_191 (by decide) ?_
                                        exact jn195 _ (by simp [chF, h187])
                                    refine y_ifN_ne C (tgt := 179) dX4_find_174 (by decide) (by have := hdF_le tt b M; omega) (fun h174 => ?_) (fun h174 => ?_)
                                    · skip
                                      refine y_sub [0, 1, 2, 3] (lv' := [(0, .ref (aM 0)), (1, .int f), (2, .int (nI b)), (3, .int (dsF E vs sz cd fr tt na2 nb2 tb2 u b M))]) rfl ?_
                                      exact jn179 _ (by simp [dnN, h174])
                                    · skip
                                      refine y_iconst C (v := (0 : Int32)) dX4_find_177 (by decide) ?_
                                      refine y_istore_n C (lv' := [(3, .int ((0 : Int32))), (0, .ref (aM 0)), (1, .int f), (2, .int (nI b)), (4, .int (nI (hdF tt b M))), (5, .int (nI i))]) dX4_find_178 rfl (by decide) rfl ?_
                                      refine y_sub [1, 2, 3, 0] (lv' := [(0, .ref (aM 0)), (1, .int f), (2, .int (nI b)), (3, .int ((0 : Int32)))]) rfl ?_
                                      exact jn179 _ (by simp [dnN, h174])
                                  · skip
                                    refine y_aload_n C 0 dX4_find_140 rfl rfl ?_
                                    refine y_get C in_X4_find_4 (ci := 4) rfl 8 (by decide) (List.mem_of_getElem? (i := 6) rfl) 0 rfl rfl dX4_find_141 ?_
                                    refine y_iload C 5 dX4_find_144 rfl ?_
                                    refine y_ialdA C (q0 := 5) (t0 := 0) rfl rfl (by decide) (by omega) dX4_find_146 ?_
                                    refine y_iload_n C 2 dX4_find_147 rfl rfl ?_
                                    refine y_icmpN_eq C (tgt := 154) dX4_find_148 (by decide) (by have := htt i; omega) (by omega) (fun h148 => ?_) (fun h148 => ?_)
                                    · skip
                                      refine y_iconst C (v := nI 1) dX4_find_154 (by decide) ?_
                                      refine y_istore C (lv' := [(4, .int (nI 1)), (0, .ref (aM 0)), (1, .int f), (2, .int (nI b)), (3, .int x), (5, .int (nI i))]) dX4_find_155 (by decide) rfl ?_
                                      refine y_iload_n C 4 dX4_find_157 rfl rfl ?_
                                      refine y_aload_n C 1 dX4_find_158 rfl rfl ?_
                                      refine y_iload C 5 dX4_find_159 rfl ?_
                                      refine y_callI C (wr := []) 1 (c_X4_delayedAlong l D cI aM th E vs B sz cd M fr tt na2 nb2 ta2 tb2 u co he mi la i hE (by omega) (by omega) (by omega) (by omega) (by omega)) gX4_find_X4_delayedAlong rfl rfl rfl (by decide +kernel) ⟨Nat.le_of_ble_eq_true rfl, Nat.le_of_ble_eq_true rfl⟩ (q0 := 0) (ci := 4) rfl rfl rfl rfl rfl (Nat.le_of_ble_eq_true rfl) dX4_find_161 ⟨Nat.le_of_ble_eq_true rfl, Nat.le_of_ble_eq_true rfl⟩ ?_
                                      refine y_ws (ws' := WM cI aM th E vs B sz cd M fr tt na2 nb2 ta2 tb2 u co he mi la) rfl ?_
                                      refine y_iand C dX4_find_164 ?_
                                      refine y_istore_n C (lv' := [(3, .int (x &&& (daF E vs sz cd fr tt na2 nb2 tb2 u i))), (4, .int (nI 1)), (0, .ref (aM 0)), (1, .int f), (2, .int (nI b)), (5, .int (nI i))]) dX4_find_165 rfl (by decide) rfl ?_
                                      refine y_iinc C (k := 5) (lv' := [(5, .int (nI (i + 1))), (3, .int (x &&& (daF E vs sz cd fr tt na2 nb2 tb2 u i))), (4, .int (nI 1)), (0, .ref (aM 0)), (1, .int f), (2, .int (nI b))]) dX4_find_166 rfl (yn_inc rfl) (by decide) rfl ?_
                                      refine y_goto C (tgt := 131) dX4_find_169 (by decide) ?_
                                      refine y_sub [3, 4, 5, 1, 2, 0] (lv' := [(0, .ref (aM 0)), (1, .int f), (2, .int (nI b)), (3, .int (x &&& (daF E vs sz cd fr tt na2 nb2 tb2 u i))), (4, .int (nI 1)), (5, .int (nI (i + 1)))]) rfl ?_
                                      exact ih131 _ _ _ (by omega) (by simp [dsF, hx, h148]) (by simp [hdF, hg, h148]) (by omega) (by omega)
                                    · skip
                                      refine y_goto C (tgt := 166) dX4_find_151 (by decide) ?_
                                      refine y_iinc C (k := 5) (lv' := [(5, .int (nI (i + 1))), (0, .ref (aM 0)), (1, .int f), (2, .int (nI b)), (3, .int x), (4, .int (nI g))]) dX4_find_166 rfl (yn_inc rfl) (by decide) rfl ?_
                                      refine y_goto C (tgt := 131) dX4_find_169 (by decide) ?_
                                      refine y_sub [1, 2, 3, 4, 5, 0] (lv' := [(0, .ref (aM 0)), (1, .int f), (2, .int (nI b)), (3, .int x), (4, .int (nI g)), (5, .int (nI (i + 1)))]) rfl ?_
                                      exact ih131 _ _ _ (by omega) (by simp [dsF, hx, h148]) (by simp [hdF, hg, h148]) (by omega) (by omega)
                              refine y_sub [2, 3, 4, 5, 1, 0] (lv' := [(0, .ref (aM 0)), (1, .int f), (2, .int (nI b)), (3, .int y), (4, .int (nI w)), (5, .int (nI 0))]) rfl ?_
                              exact lp131 _ _ _ _ (Nat.zero_le _) hy hw hwl (Nat.lt_succ_self _)
                            refine y_ifN_ne C (tgt := 125) dX4_find_118 (by decide) (by omega) (fun h118 => ?_) (fun h118 => ?_)
                            · skip
                              refine y_iconst C (v := nI 0) dX4_find_125 (by decide) ?_
                              refine y_sub [1, 2, 3, 0] (lv' := [(0, .ref (aM 0)), (1, .int f), (2, .int (nI b)), (3, .int y)]) rfl ?_
                              exact jn126 _ (by simp [hdF, h118]) (by omega)
                            · skip
                              refine y_iconst C (v := nI 1) dX4_find_121 (by decide) ?_
                              refine y_goto C (tgt := 126) dX4_find_122 (by decide) ?_
                              refine y_sub [1, 2, 3, 0] (lv' := [(0, .ref (aM 0)), (1, .int f), (2, .int (nI b)), (3, .int y)]) rfl ?_
                              exact jn126 _ (by simp [hdF, h118]) (by omega)
                          refine y_ifN_ne C (tgt := 112) dX4_find_100 (by decide) (by omega) (fun h100 => ?_) (fun h100 => ?_)
                          · skip
                            refine y_aload_n C 0 dX4_find_112 rfl rfl ?_
                            refine y_callI C (wr := []) 0 (c_X4_all l D cI aM th E vs B sz cd M fr tt na2 nb2 ta2 tb2 u co he mi la) gX4_find_X4_all rfl rfl rfl (by decide +kernel) ⟨Nat.le_of_ble_eq_true rfl, Nat.le_of_ble_eq_true rfl⟩ (q0 := 0) (ci := 4) rfl rfl rfl rfl rfl (Nat.le_of_ble_eq_true rfl) dX4_find_113 ⟨Nat.le_of_ble_eq_true rfl, Nat.le_of_ble_eq_true rfl⟩ ?_
                            refine y_ws (ws' := WM cI aM th E vs B sz cd M fr tt na2 nb2 ta2 tb2 u co he mi la) rfl ?_
                            exact jn116 _ (by simp [dsF, h100])
                          · skip
                            refine y_aload_n C 0 dX4_find_103 rfl rfl ?_
                            refine y_get C in_X4_find_4 (ci := 4) rfl 9 (by decide) (List.mem_of_getElem? (i := 2) rfl) 0 rfl rfl dX4_find_104 ?_
                            refine y_iconst C (v := nI 0) dX4_find_107 (by decide) ?_
                            refine y_iald C (q0 := 6) (t0 := 0) rfl rfl (by decide) (by omega) dX4_find_108 ?_
                            refine y_goto C (tgt := 116) dX4_find_109 (by decide) ?_
                            exact jn116 _ (by simp [dsF, h100])
                    refine y_sub [2, 1, 0] (lv' := [(0, .ref (aM 0)), (1, .int (nI 0)), (2, .int (nI 0))]) rfl ?_
                    exact lp91 _ _ _ _ (Nat.zero_le _) rfl (Nat.lt_succ_self _)
              refine y_sub [1, 0] (lv' := [(0, .ref (aM 0)), (1, .int ((1 : Int32)))]) rfl ?_
              exact lp83 _ 0 _ _ (Nat.zero_le _) rfl (⟨fun h => absurd h (by decide), fun h => by omega⟩) (Nat.lt_succ_self _)
            · skip
              have hne : j ≠ k1 + 1 := fun z => h43 (hfl.mpr z)
              refine y_iconst C (v := nI 0) dX4_find_46 (by decide) ?_
              refine y_istore_n C (lv' := [(1, .int (nI 0)), (0, .ref (aM 0))]) dX4_find_47 rfl (by decide) rfl ?_
              refine y_iconst C (v := nI 0) dX4_find_48 (by decide) ?_
              refine y_istore_n C (lv' := [(2, .int (nI 0)), (1, .int (nI 0)), (0, .ref (aM 0))]) dX4_find_49 rfl (by decide) rfl ?_
              have lp50 : ∀ (n50 : Nat) (b : Nat) (f : Int32) (m1 : (Nat → Int32)) (m2 : (Nat → Int32)) (m3 : (Nat → Int32)) (m4 : (Nat → Int32)), (b ≤ B) → (((m1, m2, m3, m4), f) = psF E vs sz cd M fr tt (g1, g2, g3, g4) b) → (B - b) < n50 → yW p l e (rmD 4 0 0) s m args below meth c 6 D A Q 0 0 (WM cI aM th E vs B sz cd M fr tt m1 m2 m3 m4 (fillF dl B (allF E)) co he mi la) 50 [(0, .ref (aM 0)), (1, .int f), (2, .int (nI b))] [] := by
                intro n50
                induction n50 with
                | zero => intro b f m1 m2 m3 m4 hb hT hm; exact absurd hm (Nat.not_lt_zero _)
                | succ n50 ih50 =>
                  intro b f m1 m2 m3 m4 hb hT hm50
                  refine y_iload_n C 2 dX4_find_50 rfl rfl ?_
                  refine y_aload_n C 0 dX4_find_51 rfl rfl ?_
                  refine y_get C in_X4_find_4 (ci := 4) rfl 3 (by decide) (List.mem_of_getElem? (i := 1) rfl) 0 rfl rfl dX4_find_52 ?_
                  refine y_icmpN_ge C (tgt := 78) dX4_find_55 (by decide) (by omega) (by omega) (fun h55 => ?_) (fun h55 => ?_)
                  · skip
                    have hq_b : b = B := by omega
                    rw [hq_b] at hT
                    refine y_goto C (tgt := 42) dX4_find_78 (by decide) ?_
                    refine y_sub [0, 1] (lv' := [(0, .ref (aM 0)), (1, .int f)]) rfl ?_
                    exact ih42 (j + 1) _ _ _ _ _ (by omega) (by simp only [itF, ← hS, ← hT]) (by have hf : (psF E vs sz cd M fr tt (itF E vs sz cd B M fr tt (fillF na B (allF E), nb, ta, fillF tb B (allF E)) j) B).2 = f := (by rw [← hS, ← hT]); exact ⟨fun h0 => (by rcases Nat.lt_or_ge j k1 with q | q; exact absurd (hf.trans h0) (hR1 j q); omega), fun h0 => (by rw [← hf, show j = k1 by omega]; exact hR2)⟩) (by omega)
                  · skip
                    refine y_iload_n C 1 dX4_find_58 rfl rfl ?_
                    refine y_aload_n C 0 dX4_find_59 rfl rfl ?_
                    refine y_iload_n C 2 dX4_find_60 rfl rfl ?_
                    refine y_callI C (wr := []) 1 (c_X4_findNeeded l D cI aM th E vs B sz cd M fr tt m1 m2 m3 m4 (fillF dl B (allF E)) co he mi la b hE hM hsz hcd hfr htt (by omega)) gX4_find_X4_findNeeded rfl rfl rfl (by decide +kernel) ⟨Nat.le_of_ble_eq_true rfl, Nat.le_of_ble_eq_true rfl⟩ (q0 := 0) (ci := 4) rfl rfl rfl rfl rfl (Nat.le_of_ble_eq_true rfl) dX4_find_61 ⟨Nat.le_of_ble_eq_true rfl, Nat.le_of_ble_eq_true rfl⟩ ?_
                    refine y_ws (ws' := WM cI aM th E vs B sz cd M fr tt (upd m1 b (neN E vs sz cd M fr tt m1 b)) (upd m2 b (snF E M fr tt m1 b M)) m3 m4 (fillF dl B (allF E)) co he mi la) rfl ?_
                    refine y_aload_n C 0 dX4_find_64 rfl rfl ?_
                    refine y_iload_n C 2 dX4_find_65 rfl rfl ?_
                    refine y_callI C (wr := []) 1 (c_X4_findThere l D cI aM th E vs B sz cd M fr tt (upd m1 b (neN E vs sz cd M fr tt m1 b)) (upd m2 b (snF E M fr tt m1 b M)) m3 m4 (fillF dl B (allF E)) co he mi la b hE hM hsz hcd hfr htt (by omega)) gX4_find_X4_findThere rfl rfl rfl (by decide +kernel) ⟨Nat.le_of_ble_eq_true rfl, Nat.le_of_ble_eq_true rfl⟩ (q0 := 0) (ci := 4) rfl rfl rfl rfl rfl (Nat.le_of_ble_eq_true rfl) dX4_find_66 ⟨Nat.le_of_ble_eq_true rfl, Nat.le_of_ble_eq_true rfl⟩ ?_
                    refine y_ws (ws' := WM cI aM th E vs B sz cd M fr tt (upd m1 b (neN E vs sz cd M fr tt m1 b)) (upd m2 b (snF E M fr tt m1 b M)) (upd m3 b (taN E M fr tt m4 b)) (upd m4 b (tbN E vs sz cd M fr tt m4 b)) (fillF dl B (allF E)) co he mi la) rfl ?_
                    refine y_ior C dX4_find_69 ?_
                    refine y_ior C dX4_find_70 ?_
                    refine y_istore_n C (lv' := [(1, .int (f ||| ((nI (chF (neN E vs sz cd M fr tt m1 b) (m1 b))) ||| (nI (chF (tbN E vs sz cd M fr tt m4 b) (m4 b)))))), (0, .ref (aM 0)), (2, .int (nI b))]) dX4_find_71 rfl (by decide) rfl ?_
                    refine y_iinc C (k := 2) (lv' := [(2, .int (nI (b + 1))), (1, .int (f ||| ((nI (chF (neN E vs sz cd M fr tt m1 b) (m1 b))) ||| (nI (chF (tbN E vs sz cd M fr tt m4 b) (m4 b)))))), (0, .ref (aM 0))]) dX4_find_72 rfl (yn_inc rfl) (by decide) rfl ?_
                    refine y_goto C (tgt := 50) dX4_find_75 (by decide) ?_
                    refine y_sub [2, 1, 0] (lv' := [(0, .ref (aM 0)), (1, .int (f ||| ((nI (chF (neN E vs sz cd M fr tt m1 b) (m1 b))) ||| (nI (chF (tbN E vs sz cd M fr tt m4 b) (m4 b)))))), (2, .int (nI (b + 1)))]) rfl ?_
                    exact ih50 _ _ _ _ _ _ (by omega) (by simp only [psF, ← hT]) (by omega)
              refine y_sub [2, 1, 0] (lv' := [(0, .ref (aM 0)), (1, .int (nI 0)), (2, .int (nI 0))]) rfl ?_
              exact lp50 _ _ _ _ _ _ _ (Nat.zero_le _) rfl (Nat.lt_succ_self _)
        refine y_sub [1, 0] (lv' := [(0, .ref (aM 0)), (1, .int ((1 : Int32)))]) rfl ?_
        exact lp42 _ 0 _ _ _ _ _ (Nat.zero_le _) rfl (⟨fun h => absurd h (by decide), fun h => by omega⟩) (Nat.lt_succ_self _)
      · skip
        refine y_aload_n C 0 dX4_find_10 rfl rfl ?_
        refine y_get C in_X4_find_4 (ci := 4) rfl 9 (by decide) (List.mem_of_getElem? (i := 2) rfl) 0 rfl rfl dX4_find_11 ?_
        refine y_iload_n C 1 dX4_find_14 rfl rfl ?_
        refine y_aload_n C 0 dX4_find_15 rfl rfl ?_
        refine y_get C in_X4_find_4 (ci := 4) rfl 12 (by decide) (List.mem_of_getElem? (i := 3) rfl) 0 rfl rfl dX4_find_16 ?_
        refine y_iload_n C 1 dX4_find_19 rfl rfl ?_
        refine y_aload_n C 0 dX4_find_20 rfl rfl ?_
        refine y_get C in_X4_find_4 (ci := 4) rfl 13 (by decide) (List.mem_of_getElem? (i := 4) rfl) 0 rfl rfl dX4_find_21 ?_
        refine y_iload_n C 1 dX4_find_24 rfl rfl ?_
        refine y_aload_n C 0 dX4_find_25 rfl rfl ?_
        refine y_callI C (wr := []) 0 (c_X4_all l D cI aM th E vs B sz cd M fr tt f1 nb ta f2 f3 co he mi la) gX4_find_X4_all rfl rfl rfl (by decide +kernel) ⟨Nat.le_of_ble_eq_true rfl, Nat.le_of_ble_eq_true rfl⟩ (q0 := 0) (ci := 4) rfl rfl rfl rfl rfl (Nat.le_of_ble_eq_true rfl) dX4_find_26 ⟨Nat.le_of_ble_eq_true rfl, Nat.le_of_ble_eq_true rfl⟩ ?_
        refine y_ws (ws' := WM cI aM th E vs B sz cd M fr tt f1 nb ta f2 f3 co he mi la) rfl ?_
        refine y_dup_x2 C dX4_find_29 rfl rfl rfl ?_
        refine y_iast C (q0 := 10) (t0 := 0) rfl rfl (by decide) (by omega) (ws' := WM cI aM th E vs B sz cd M fr tt f1 nb ta f2 (upd f3 i (allF E)) co he mi la) rfl dX4_find_30 ?_
        refine y_dup_x2 C dX4_find_31 rfl rfl rfl ?_
        refine y_iast C (q0 := 9) (t0 := 0) rfl rfl (by decide) (by omega) (ws' := WM cI aM th E vs B sz cd M fr tt f1 nb ta (upd f2 i (allF E)) (upd f3 i (allF E)) co he mi la) rfl dX4_find_32 ?_
        refine y_iast C (q0 := 6) (t0 := 0) rfl rfl (by decide) (by omega) (ws' := WM cI aM th E vs B sz cd M fr tt (upd f1 i (allF E)) nb ta (upd f2 i (allF E)) (upd f3 i (allF E)) co he mi la) rfl dX4_find_33 ?_
        refine y_iinc C (k := 1) (lv' := [(1, .int (nI (i + 1))), (0, .ref (aM 0))]) dX4_find_34 rfl (yn_inc rfl) (by decide) rfl ?_
        refine y_goto C (tgt := 2) dX4_find_37 (by decide) ?_
        refine y_sub [1, 0] (lv' := [(0, .ref (aM 0)), (1, .int (nI (i + 1)))]) rfl ?_
        exact ih2 _ _ _ _ (by omega) (by rw [hf1, fill_s]) (by rw [hf2, fill_s]) (by rw [hf3, fill_s]) (by omega)
  refine y_sub [1, 0] (lv' := [(0, .ref (aM 0)), (1, .int (nI 0))]) rfl ?_
  exact lp2 _ _ _ _ _ (Nat.zero_le _) ((fill_0 _ _).symm) ((fill_0 _ _).symm) ((fill_0 _ _).symm) (Nat.lt_succ_self _)
