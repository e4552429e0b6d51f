/-! throwing methods over yW: contracts ctX (always throws), what a throw needs of the state (yE) -/
abbrev exI : String := "java/lang/IndexOutOfBoundsException"
abbrev exA : String := "java/lang/IllegalArgumentException"
abbrev exS : String := "java/lang/IllegalStateException"
abbrev exN : List String := ["java/lang/RuntimeException", "java/lang/Exception"]
def yNG : List Cond := [.declares (Bundle.initS "java/lang/RuntimeException"), .declares (Bundle.initS "java/lang/Exception"), .declares (Bundle.initS Bundle.tN), .castable exI exI, .castable exA exA, .castable exS exS]
theorem yNG_t : ∀ w ∈ yNG, w.onTables = true := by decide +kernel
/-- the texts of CodeMover -/
def yST : List (Nat × String) := [(34, "variables is not 0 to 63"), (45, "there are 8 expressions"), (55, "there are 40 blocks"), (65, "no edge leads to block 0"), (71, "there is an edge like this"), (77, "two edges lead from the block"), (82, "there are 80 edges"), (100, "variable is not 0 to 5"), (106, "the block has no instruction"), (111, "there is no such instruction"), (164, "there would be more than 40 blocks or 80 edges"), (172, "most is not 1 to 1000"), (198, "there is no such block"), (200, "there is no such edge"), (202, "there is no such expression"), (204, "the block has 12 instructions")]
def yE (sa : Nat → Nat) (A : Nat → Prop) (U : State) (H : Heap) : Prop :=
  (∀ w ∈ yNG, va_Nw w U) ∧ (∀ q ∈ yST, vk_R RX3 q.1 q.2 (sa q.1) U) ∧ vx_Zq Bundle.tN "UNASSIGNED_STACK" Bundle.steD A U H ∧ vx_Zq Bundle.tN "SUPPRESSED_SENTINEL" Bundle.listD A U H ∧ va_Nc exA exI U ∧ va_Nc exS exI U ∧ va_Nc exS exA U
theorem yNG_w {s U : State} (hW : s.WarmedH U.vm) (h : ∀ w ∈ yNG, va_Nw w s) : ∀ w ∈ yNG, va_Nw w U := by
  intro w hw
  have h1 := h w hw
  simp only [yNG, List.mem_cons, List.not_mem_nil, or_false] at hw
  rcases hw with rfl | rfl | rfl | rfl | rfl | rfl
  · exact va_Nw.warmD hW h1
  · exact va_Nw.warmD hW h1
  · exact va_Nw.warmD hW h1
  · exact va_Nw.warmC hW h1
  · exact va_Nw.warmC hW h1
  · exact va_Nw.warmC hW h1
theorem yE.to {sa : Nat → Nat} {A A' : Nat → Prop} {s U : State} {locs : List Loc} (h : yE sa A s s.heap) (hS : va_S A s.heap U.heap locs) (hW : s.WarmedH U.vm) (hA : ∀ q, A' q → A q) : yE sa A' U U.heap :=
  ⟨yNG_w hW h.1, fun q hq => vk_R.warm hW (h.2.1 q hq), ((h.2.2.1.kept hS.2.1).moved hW.alike).narrow hA, ((h.2.2.2.1.kept hS.2.1).moved hW.alike).narrow hA, h.2.2.2.2.1.moved hW.alike, h.2.2.2.2.2.1.moved hW.alike, h.2.2.2.2.2.2.moved hW.alike⟩
/-- the frame doesn't matter -/
theorem yE.calling {sa : Nat → Nat} {A : Nat → Prop} {U : State} {g : JFrame} {mk : MethodId} {a : Array Value} (h : yE sa A U U.heap) : yE sa A (U.calling g mk a) U.heap :=
  ⟨fun w hw => va_Nw.same (u := U) (yNG_t w hw) rfl (h.1 w hw), fun q hq => vk_R.same (u := U) rfl (h.2.1 q hq), h.2.2.1.moved (Vm.Alike.refl U.vm), h.2.2.2.1.moved (Vm.Alike.refl U.vm), h.2.2.2.2.1.moved (Vm.Alike.refl U.vm), h.2.2.2.2.2.1.moved (Vm.Alike.refl U.vm), h.2.2.2.2.2.2.moved (Vm.Alike.refl U.vm)⟩
def yPreX (sa : Nat → Nat) (D : va_G) (tys : List (ClassId × FieldType)) (av : List Value) (wc : va_W) (sz : Nat) : Array Value → State → Prop :=
  va_Pc av (fun U => (U.heap.size = sz ∧ va_P D vwCl wc U.heap ∧ va_K D vwCl tys U ∧ va_D (fun _ => True) wc) ∧ yE sa (va_A wc sz) U U.heap)
theorem yBlindX {sa : Nat → Nat} {D : va_G} {tys : List (ClassId × FieldType)} {av : List Value} {wc : va_W} {sz : Nat} : FrameBlind (yPreX sa D tys av wc sz) := fun a U g mk q => by
  obtain ⟨q0, ⟨q1, qP, qK, qD⟩, qE⟩ := q
  exact ⟨q0, ⟨q1, qP, va_K.moved (u := U) (U := U.calling g mk a) (Vm.Alike.refl U.vm) qK, qD⟩, qE.calling⟩
abbrev yXC (D : va_G) (tys : List (ClassId × FieldType)) (wc wc' : va_W) (E : String) (sz : Nat) : String → State → State → Prop := vx_X (fun (_ : Unit) => True) (fun E' _ t => E' = E ∧ yB D tys wc wc' sz () t) (va_A wc sz)
abbrev yQc (A : Nat → Prop) : Array Value → State → Outcome → State → Prop := va_Qv (fun (_ : Unit) => False) (fun _ _ => True) A
def ctX (l : Launch) (y : MethodName) (w : List Cond) (rm : Room) (sa : Nat → Nat) (D : va_G) (tys : List (ClassId × FieldType)) (av : List Value) (wc wc' : va_W) (E : String) (mc ms : Nat) : Prop :=
  ∀ sz : Nat, vx_Met l y w rm (yPreX sa D tys av wc sz) (yQc (va_A wc sz)) (yXC D tys wc wc' E sz) mc ms (va_A wc sz)
def yQX (below : List Frame) (D : va_G) (tys : List (ClassId × FieldType)) (wc wc' : va_W) (E : String) (args : Array Value) (s : State) (mc ms : Nat) : State → Prop :=
  vx_MQ below (yQc (va_A wc s.heap.size)) (yXC D tys wc wc' E s.heap.size) args s mc ms (va_A wc s.heap.size)
theorem ctX_of {l : Launch} {y : MethodName} {w w' : List Cond} {rm : Room} {sa : Nat → Nat} {D : va_G} {tys : List (ClassId × FieldType)} {av : List Value} {wc wc' : va_W} {E : String} {mc ms : Nat} {cc : ByteArray} {maxL : Nat} {ret : Option FieldType} (hy : plainName y.cls = true) (hw : w = Cond.code y cc maxL ret :: w') (hn : (lg_sl av).length ≤ maxL)
    (body : ∀ (p : Program) (e : Env) (s : State) (m : MethodId) (args : Array Value) (below : List Frame) (meth : Method) (c : Code), yC p s m args meth c cc maxL y.cls w D tys (va_A wc s.heap.size) ret → (∀ x ∈ c.exceptionTable.toList, False) → yE sa (va_A wc s.heap.size) s s.heap → yW p l e rm s m args below meth c maxL D (va_A wc s.heap.size) (yQX below D tys wc wc' E args s mc ms) 0 0 wc 0 (lv_args 0 av) []) : ctX l y w rm sa D tys av wc wc' E mc ms := by
  intro sz
  refine vx_ofW (cc := cc) (maxL := maxL) (ret := ret) hy hw ?_
  intro p e s m args below meth c s₁ B hml ht hv
  obtain ⟨rfl, ⟨rfl, hP, hK, hD0⟩, hE⟩ := hv
  have hts := atoms_spec (ws := w) B.pre
  have hown : s.vm.findClass y.cls = some m.cls := findClass_of_methodNamed B.named
  have hD := hD0.self (sz := s.heap.size)
  have hl := lv_entry av (n := maxL) hn
  rw [lg_entry_eq]
  exact body p e s m _ below meth c ⟨⟨B.exec, B.bytes, hml, hown, hts⟩, hK, B.notSynchronized, B.returns, fun q h => Or.inr h⟩ ht hE s.heap [] _ hP hD va_S.rf hl
section YLX
variable {p : Program} {l : Launch} {e : Env} {R : Room} {s : State} {m : MethodId} {args : Array Value} {below : List Frame} {meth : Method} {c : Code} {Q : State → Prop} {cells slots : Nat}
variable {cc : ByteArray} {nL : Nat} {own : String} {Ts : List Cond} {D : va_G} {tys : List (ClassId × FieldType)} {A : Nat → Prop} {rt : Option FieldType}
variable {ws ws' : va_W} {pc : Nat} {lv lv' : List (Nat × Value)} {st : List Value} {wc wc' wr wk wk' : va_W} {mc ms sz mc1 ms1 : Nat} {sa : Nat → Nat}
theorem yx_B {H : Heap} {locs : List Loc} {t : State} {cls : String} (hK : va_K D vwCl tys s) (hP : va_P D vwCl wc' H) (hD : va_D (va_A wc s.heap.size) wc') (hS : va_S (va_A wc s.heap.size) s.heap H locs) (hvm : s.vm.Alike t.vm) (hz : H.size ≤ t.heap.size) (hk : ∀ q : Nat, q < H.size → t.heap[q]? = H[q]?) : yXC D tys wc wc' cls s.heap.size cls s t :=
  ⟨(), trivial, ⟨rfl, hP.kept (fun k q h => hk q.1 (hP k q h).lt), va_K.moved hvm hK, hD⟩, Nat.le_trans hS.1 hz, fun q h1 h2 => (hk q (Nat.lt_of_lt_of_le h1 hS.1)).trans (hS.2.1 q h1 h2)⟩
theorem y_throw (C : yC p s m args meth c cc nL RX3 Ts D tys (va_A wc s.heap.size) rt) (hfl : l.stackTraces = false) (hE : yE sa (va_A wc s.heap.size) s s.heap) (hnt : ∀ x ∈ c.exceptionTable.toList, False) {ik is ic : Nat} {tx cls : String}
    (hfit : Bundle.fit cls = true) (hk : Cond.classLink RX3 ik cls ∈ Ts) (hini : Cond.initialized cls ∈ Ts) (hstr : (is, tx) ∈ yST) (hgw : ∀ w ∈ (vx_atS RX3 ic cls exN).filter goodWord, w ∈ Ts) (hng : ∀ w ∈ (vx_atS RX3 ic cls exN).filter (fun w => !goodWord w), w ∈ yNG) (hot : ∀ w ∈ Cond.classLink RX3 ik cls :: Cond.initialized cls :: vx_atS RX3 ic cls exN, vx_ot w = true)
    (d0 : decode cc pc = .ok (.new ik, 3)) (d3 : decode cc (pc + 3) = .ok (.dup, 1)) (d4 : decode cc (pc + 4) = .ok (.ldc is, 2)) (d6 : decode cc (pc + 6) = .ok (.invokespecial ic, 3)) (d9 : decode cc (pc + 9) = .ok (.athrow, 1))
    (hR : 5 < R.frames ∧ (st.map fun v => v.category).sum + 82 ≤ R.locals) (hc : cells + 1 ≤ R.cells ∧ slots + 6 ≤ R.slots) (hm : cells + 1 ≤ mc ∧ slots + 6 ≤ ms) (hw : ws = wc') :
    yW p l e R s m args below meth c nL D (va_A wc s.heap.size) (yQX below D tys wc wc' cls args s mc ms) cells slots ws pc lv st := by
  subst hw
  intro H locs ls hP hD hS hl
  exact vx_throwS (names := exN) C.x C.b hfl C.ow hfit (by decide +kernel) (C.ts _ hk) (C.ts _ hini) (hE.2.1 _ hstr) (vx_hat (fun w h => C.ts w (hgw w h)) hng (fun w h => va_Nw.use (yNG_t w h) (hE.1 w h))) hot hE.2.2.1 hE.2.2.2.1 hS (hl.1.trans C.ml.symm) d0 d3 d4 d6 d9 (fun x hx => (hnt x hx).elim) hR.1 hR.2 hc.1 hc.2 C.lk
    (fun t hvm hz hk => yx_B C.k hP hD hS hvm hz hk) hS.2.2 hm.1 hm.2
theorem y_throwW (C : yC p s m args meth c cc nL RX3 Ts D tys (va_A wc s.heap.size) rt) (hfl : l.stackTraces = false) (hE : yE sa (va_A wc s.heap.size) s s.heap) (hnt : ∀ x ∈ c.exceptionTable.toList, False) {ik is ic : Nat} {tx cls : String}
    (hfit : Bundle.fit cls = true) (hk : Cond.classLink RX3 ik cls ∈ Ts) (hini : Cond.initialized cls ∈ Ts) (hstr : (is, tx) ∈ yST) (hgw : ∀ w ∈ (vx_atS RX3 ic cls exN).filter goodWord, w ∈ Ts) (hng : ∀ w ∈ (vx_atS RX3 ic cls exN).filter (fun w => !goodWord w), w ∈ yNG) (hot : ∀ w ∈ Cond.classLink RX3 ik cls :: Cond.initialized cls :: vx_atS RX3 ic cls exN, vx_ot w = true)
    (d0 : decode cc pc = .ok (.new ik, 3)) (d3 : decode cc (pc + 3) = .ok (.dup, 1)) (d4 : decode cc (pc + 4) = .ok (.ldc_w is, 3)) (d7 : decode cc (pc + 7) = .ok (.invokespecial ic, 3)) (d10 : decode cc (pc + 10) = .ok (.athrow, 1))
    (hR : 5 < R.frames ∧ (st.map fun v => v.category).sum + 82 ≤ R.locals) (hc : cells + 1 ≤ R.cells ∧ slots + 6 ≤ R.slots) (hm : cells + 1 ≤ mc ∧ slots + 6 ≤ ms) (hw : ws = wc') :
    yW p l e R s m args below meth c nL D (va_A wc s.heap.size) (yQX below D tys wc wc' cls args s mc ms) cells slots ws pc lv st := by
  subst hw
  intro H locs ls hP hD hS hl
  exact vx_throwSW (names := exN) C.x C.b hfl C.ow hfit (by decide +kernel) (C.ts _ hk) (C.ts _ hini) (hE.2.1 _ hstr) (vx_hat (fun w h => C.ts w (hgw w h)) hng (fun w h => va_Nw.use (yNG_t w h) (hE.1 w h))) hot hE.2.2.1 hE.2.2.2.1 hS (hl.1.trans C.ml.symm) d0 d3 d4 d7 d10 (fun x hx => (hnt x hx).elim) hR.1 hR.2 hc.1 hc.2 C.lk
    (fun t hvm hz hk => yx_B C.k hP hD hS hvm hz hk) hS.2.2 hm.1 hm.2
/-- the callee throws, and it isn't caught here -/
theorem y_callX (C : yC p s m args meth c cc nL own Ts D tys (va_A wc s.heap.size) rt) (hE : yE sa (va_A wc s.heap.size) s s.heap) (hnt : ∀ x ∈ c.exceptionTable.toList, False) {y : MethodName} {w w' : List Cond} {rm : Room} {bytes : ByteArray} {maxL index b : Nat} {ret' : Option FieldType} {As st0 : List Value} {E : String} {q0 ci N : Nat} {fs : List Value} {T : u_T} (n : Nat) (hM : ctX l y w rm sa D tys (.ref b :: As) wk wk' E mc1 ms1) (hG : GoodIn Ts (wsV own index y.cls y w)) (hw : w = Cond.code y bytes maxL ret' :: w') (hrc : rm.cells = mc1) (hrs : rm.slots = ms1) (hd : y.cls = y.cls ∧ y.cls ≠ "java/lang/invoke/MethodHandle" ∧ y.cls ≠ "java/lang/invoke/VarHandle" ∧ (parseMethodDescriptor y.desc).map (fun d => d.parameters.length) = some n) (hR : rm.frames + 1 ≤ R.frames ∧ 8 + (maxL + 11) + rm.locals ≤ R.locals) (hq : wk[q0]? = some (b, .inr (ci, fs))) (hci : vwCl[ci]? = some (y.cls, T, N)) (hws : ws = wr ++ wk) (hst : st0 = As.reverse ++ .ref b :: st) (hn : As.length = n) (hcat : (st.map fun v => v.category).sum ≤ 8) (hdg : decode cc pc = .ok (.invokevirtual index, 3)) (hf : cells + mc1 ≤ R.cells ∧ slots + ms1 ≤ R.slots) (hout : wr ++ wk' = wc') (hm : cells + mc1 ≤ mc ∧ slots + ms1 ≤ ms) : yW p l e R s m args below meth c nL D (va_A wc s.heap.size) (yQX below D tys wc wc' E args s mc ms) cells slots ws pc lv st0 := by
  subst hws hst hout
  intro H locs ls hP hD hS hl
  have hPc := yw_part hP
  have hDc : va_D (va_A wc s.heap.size) wk := yw_partD hD
  have hFc : ∀ q, va_A wk H.size q → va_A wc s.heap.size q := yw_free hD hS C.a
  refine vx_callv (vx_runV (As := As) (rest := st) C.1 (hM H.size) (cwV n C.ts hG hw hrc hrs hd hR) ⟨yBlindX, va_recv C.k hPc hci hq, fun U hU hW => ⟨rfl, ⟨by rw [hU], by rw [hU]; exact hPc, va_K.moved hW.alike C.k, hDc.weaken (fun _ _ _ _ => trivial)⟩, hE.to (by rw [hU]; exact hS) hW hFc⟩⟩ rfl hn hl.1 rfl (lv_room hcat) hdg hf) hS (fun q _ h => hFc q h) hFc (fun q _ h => hFc q h) (fun E' ce q9 u t H1 locs1 ht hvm hpx hB hz1 hk1 hS1 hce hcv hcl => ?_) (fun u t H1 locs1 ht hvm hp hB hz1 hk1 hS => hp.elim)
  obtain ⟨rfl, hP1, hK1, hD1⟩ := hB
  rw [ht] at hP1
  obtain ⟨hP, hD⟩ := yw_join hP hD hk1 hFc hP1 hD1
  exact vx_out (fun x hx => (hnt x hx).elim) C.lk hce hcv hcl (fun t' ht' hvm' => yx_B C.k hP hD hS1 hvm' (by rw [ht']; exact Nat.le_refl _) (fun q _ => by rw [ht'])) hS1.2.2 hm.1 hm.2
/-- the callee throws, and a row of this method's table takes it -/
theorem y_callC (C : yC p s m args meth c cc nL own Ts D tys A rt) (hE : yE sa A s s.heap) {y : MethodName} {w w' : List Cond} {rm : Room} {bytes : ByteArray} {maxL index b : Nat} {ret' : Option FieldType} {As st0 : List Value} {E name : String} {q0 ci N : Nat} {fs : List Value} {T : u_T} (n : Nat) (hM : ctX l y w rm sa D tys (.ref b :: As) wk wk' E mc1 ms1) (hG : GoodIn Ts (wsV own index y.cls y w)) (hw : w = Cond.code y bytes maxL ret' :: w') (hrc : rm.cells = mc1) (hrs : rm.slots = ms1) (hd : y.cls = y.cls ∧ y.cls ≠ "java/lang/invoke/MethodHandle" ∧ y.cls ≠ "java/lang/invoke/VarHandle" ∧ (parseMethodDescriptor y.desc).map (fun d => d.parameters.length) = some n) (hR : rm.frames + 1 ≤ R.frames ∧ 8 + (maxL + 11) + rm.locals ≤ R.locals) (hq : wk[q0]? = some (b, .inr (ci, fs))) (hci : vwCl[ci]? = some (y.cls, T, N)) (hws : ws = wr ++ wk) (hst : st0 = As.reverse ++ .ref b :: st) (hn : As.length = n) (hcat : (st.map fun v => v.category).sum ≤ 8) (hdg : decode cc pc = .ok (.invokevirtual index, 3)) (hf : cells + mc1 ≤ R.cells ∧ slots + ms1 ≤ R.slots)
    (pre : List ExceptionTableEntry) (x : ExceptionTableEntry) (suf : List ExceptionTableEntry) (hsplit : c.exceptionTable.toList = pre ++ x :: suf) (hpass : ∀ z ∈ pre, z.catchType ≠ 0 ∧ ∃ nm : String, Cond.classLink own z.catchType nm ∈ Ts ∧ va_Nc E nm s) (hx : covers x pc = true) (h0 : x.catchType ≠ 0) (hlink : Cond.classLink own x.catchType E ∈ Ts) (hcast : Cond.castable E E ∈ yNG)
    (kk : ∀ q9 : Nat, yW p l e R s m args below meth c nL D A Q (cells + mc1) (slots + ms1) (wr ++ wk') x.handlerPc lv [.ref q9]) : yW p l e R s m args below meth c nL D A Q cells slots ws pc lv st0 := by
  subst hws hst
  intro H locs ls hP hD hS hl
  have hPc := yw_part hP
  have hDc : va_D A wk := yw_partD hD
  have hFc : ∀ q, va_A wk H.size q → A q := yw_free hD hS C.a
  refine vx_callv (vx_runV (As := As) (rest := st) C.1 (hM H.size) (cwV n C.ts hG hw hrc hrs hd hR) ⟨yBlindX, va_recv C.k hPc hci hq, fun U hU hW => ⟨rfl, ⟨by rw [hU], by rw [hU]; exact hPc, va_K.moved hW.alike C.k, hDc.weaken (fun _ _ _ _ => trivial)⟩, hE.to (by rw [hU]; exact hS) hW hFc⟩⟩ rfl hn hl.1 rfl (lv_room hcat) hdg hf) hS (fun q _ h => hFc q h) hFc (fun q _ h => hFc q h) (fun E' ce q9 u t H1 locs1 ht hvm hpx hB hz1 hk1 hS1 hce hcv hcl => ?_) (fun u t H1 locs1 ht hvm hp hB hz1 hk1 hS => hp.elim)
  obtain ⟨rfl, hP1, hK1, hD1⟩ := hB
  rw [ht] at hP1
  obtain ⟨hP, hD⟩ := yw_join hP hD hk1 hFc hP1 hD1
  exact vx_catch C.ow pre x suf hsplit (fun z hz => Or.inr (by obtain ⟨h1, nm, h2, h3⟩ := hpass z hz; exact ⟨h1, nm, C.ts _ h2, h3⟩)) hx h0 (C.ts _ hlink) (va_Nw.use rfl (hE.1 _ hcast)) hce hcv hcl (kk q9 H1 locs1 ls hP hD hS1 hl)
end YLX
theorem xg_I : ∀ w ∈ (vx_atS RX3 102 exI exN).filter (fun w => !goodWord w), w ∈ yNG := by decide +kernel
theorem xg_A : ∀ w ∈ (vx_atS RX3 36 exA exN).filter (fun w => !goodWord w), w ∈ yNG := by decide +kernel
theorem xg_S : ∀ w ∈ (vx_atS RX3 47 exS exN).filter (fun w => !goodWord w), w ∈ yNG := by decide +kernel
theorem xo_I : ∀ w ∈ Cond.classLink RX3 98 exI :: Cond.initialized exI :: vx_atS RX3 102 exI exN, vx_ot w = true := by decide +kernel
theorem xo_A : ∀ w ∈ Cond.classLink RX3 32 exA :: Cond.initialized exA :: vx_atS RX3 36 exA exN, vx_ot w = true := by decide +kernel
theorem xo_S : ∀ w ∈ Cond.classLink RX3 43 exS :: Cond.initialized exS :: vx_atS RX3 47 exS exN, vx_ot w = true := by decide +kernel
section YLM
variable {p : Program} {l : Launch} {e : Env} {R : Room} {s : State} {m : MethodId} {args : Array Value} {below : List Frame} {meth : Method} {c : Code} {Q : State → Prop} {cells slots : Nat} {nL : Nat} {D : va_G} {A : Nat → Prop} {pc : Nat} {lv : List (Nat × Value)} {st : List Value} {wa wb wd we : va_W}
theorem yw_mem {H : Heap} {w1 w2 : va_W} (h : ∀ q, q ∈ w2 → q ∈ w1) (hP : va_P D vwCl w1 H) : va_P D vwCl w2 H := by
  intro k q hk
  obtain ⟨j, hj⟩ := List.getElem?_of_mem (h q (List.mem_of_getElem? hk))
  exact hP j q hj
theorem yw_nd {w1 w2 : va_W} (h : w1.Perm w2) (hD : va_D A w1) : va_D A w2 := by
  have hn : w1.Pairwise (fun a b => a.1 ≠ b.1) := List.pairwise_iff_getElem.mpr (fun i j hi hj hij e => by
    have := hD.1 i j _ _ (List.getElem?_eq_getElem hi) (List.getElem?_eq_getElem hj) e
    omega)
  have hn2 : w2.Pairwise (fun a b => a.1 ≠ b.1) := h.pairwise hn (fun q z => q z.symm)
  refine ⟨fun i j p q hi hj e => ?_, fun k q hk => ?_⟩
  · obtain ⟨hi1, hi2⟩ := List.getElem?_eq_some_iff.mp hi
    obtain ⟨hj1, hj2⟩ := List.getElem?_eq_some_iff.mp hj
    rcases Nat.lt_trichotomy i j with hlt | heq | hgt
    · exact absurd (by rw [hi2, hj2]; exact e) (List.pairwise_iff_getElem.mp hn2 i j hi1 hj1 hlt)
    · exact heq
    · exact absurd (by rw [hi2, hj2]; exact e.symm) (List.pairwise_iff_getElem.mp hn2 j i hj1 hi1 hgt)
  · obtain ⟨j, hj⟩ := List.getElem?_of_mem (h.mem_iff.mpr (List.mem_of_getElem? hk))
    exact hD.2 j q hj
theorem y_shuf {w1 w2 : va_W} (h : w1.Perm w2) (kk : yW p l e R s m args below meth c nL D A Q cells slots w2 pc lv st) : yW p l e R s m args below meth c nL D A Q cells slots w1 pc lv st := fun H locs ls hP hD hS hl => kk H locs ls (yw_mem (fun _ hq => h.mem_iff.mpr hq) hP) (yw_nd h hD) hS hl
theorem y_mid (kk : yW p l e R s m args below meth c nL D A Q cells slots (wa ++ (wd ++ (wb ++ we))) pc lv st) : yW p l e R s m args below meth c nL D A Q cells slots (wa ++ (wb ++ (wd ++ we))) pc lv st := by
  refine y_shuf (List.Perm.append_left wa ?_) kk
  rw [← List.append_assoc, ← List.append_assoc]
  exact List.Perm.append_right we List.perm_append_comm
end YLM
