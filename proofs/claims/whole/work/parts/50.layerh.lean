/-! the law's helpers: static methods with handlers; rows of longs -/
def WO (cJ : ClassId) (o : Nat) (f : Nat → Int64) : va_W := [(o, .inl (cJ, 1, .inr (.inl f)))]
def ctH (l : Launch) (y : MethodName) (w : List Cond) (rm : Room) (sa : Nat → Nat) (D : va_G) (tys : List (ClassId × FieldType)) (av : List Value) (wc wc' : va_W) (r : Int32) (mc ms : Nat) : Prop :=
  ∀ sz : Nat, Met l y w rm (yPreX sa D tys av wc sz) (va_Qi (fun r' (_ : Unit) => r' = r) (yB D tys wc wc' sz) (va_A wc sz)) mc ms (va_A wc sz)
theorem ctH_of {l : Launch} {y : MethodName} {w w' : List Cond} {rm : Room} {sa : Nat → Nat} {D : va_G} {tys : List (ClassId × FieldType)} {av : List Value} {wc wc' : va_W} {mc ms : Nat} {cc : ByteArray} {maxL : Nat} {r : Int32} {hh : List (Nat × Nat × Nat × Nat)} (hy : plainName y.cls = true) (hw : w = Cond.codeWith y cc maxL (some .int) hh :: w') (hn : (lg_sl av).length ≤ maxL)
    (body : ∀ (p : Program) (e : Env) (s : State) (m : MethodId) (args : Array Value) (below : List Frame) (meth : Method) (c : Code) (A : Nat → Prop) (Q : State → Prop), yC p s m args meth c cc maxL y.cls w D tys A (some .int) → c.exceptionTable.toList = tableOf hh → yE sa A s s.heap → (∀ (cells slots pc : Nat) (lv : List (Nat × Value)) (v : Int32), decode cc pc = .ok (.ireturn, 1) → v = r → cells ≤ mc → slots ≤ ms → yW p l e rm s m args below meth c maxL D A Q cells slots wc' pc lv [.int v]) → yW p l e rm s m args below meth c maxL D A Q 0 0 wc 0 (lv_args 0 av) []) : ctH l y w rm sa D tys av wc wc' r mc ms := by
  intro sz
  refine va_MetW (cc := cc) (maxL := maxL) (ret := some .int) (hh := hh) hy hw ?_
  intro p e s m args below meth c s₁ B hml hv
  obtain ⟨rfl, ⟨rfl, hP, hK, hD0⟩, hE⟩ := hv
  have hts := atoms_spec (ws := w) B.pre
  have hown : s.vm.findClass y.cls = some m.cls := findClass_of_methodNamed B.named
  have hD := hD0.self (sz := s.heap.size)
  have hl := lv_entry av (n := maxL) hn
  have htab := vx_table (x := y) B (hts _ (by rw [hw]; exact List.mem_cons_self))
  rw [lg_entry_eq]
  have C : yC p s m av.toArray meth c cc maxL y.cls w D tys (va_A wc s.heap.size) (some .int) := ⟨⟨B.exec, B.bytes, hml, hown, hts⟩, hK, B.notSynchronized, B.returns, fun q h => Or.inr h⟩
  exact body p e s m _ below meth c _ _ C htab hE (fun cells slots pc lv v hdg hr hc hs => y_iret C hdg rfl hr rfl hc hs) s.heap [] _ hP hD va_S.rf hl
section YLH
variable {p : Program} {l : Launch} {e : Env} {R : Room} {s : State} {m : MethodId} {args : Array Value} {below : List Frame} {meth : Method} {c : Code} {Q : State → Prop} {cells slots : Nat}
variable {cc : ByteArray} {nL : Nat} {own : String} {Ts : List Cond} {D : va_G} {tys : List (ClassId × FieldType)} {A : Nat → Prop} {rt : Option FieldType}
variable {ws ws' : va_W} {pc : Nat} {lv lv' : List (Nat × Value)} {st : List Value} {wc wc' wr wk wk' : va_W} {mc ms sz mc1 ms1 : Nat} {sa : Nat → Nat}
theorem yC.s1 {cI cJ : ClassId} (C : yC p s m args meth c cc nL own Ts D [(cI, .int), (cJ, .long)] A rt) : yC p s m args meth c cc nL own Ts D [(cI, .int)] A rt := ⟨C.1, C.k.sub [0] rfl, C.lk, C.rr, C.a⟩
theorem y_lald (C : yC p s m args meth c cc nL own Ts D tys A rt) {q0 t0 : Nat} {cA : ClassId} {a n j : Nat} {f : Nat → Int64} (ha : ws[q0]? = some (a, .inl (cA, n, .inr (.inl f)))) (ht : tys[t0]? = some (cA, .long)) (hn : n < 2 ^ 31) (hj : j < n) (hdg : decode cc pc = .ok (.laload, 1)) (kk : yW p l e R s m args below meth c nL D A Q cells slots ws (pc + 1) lv (.long (f j) :: st)) : yW p l e R s m args below meth c nL D A Q cells slots ws pc lv (.int (nI j) :: .ref a :: st) := fun H locs ls hP hD hS hl => va_lald (D := D) C.x C.b C.k hP q0 t0 ha ht (vp_in_nI hj hn) hdg (by rw [nI_clamp (Nat.lt_trans hj hn)]; exact kk H locs ls hP hD hS hl)
theorem y_last (C : yC p s m args meth c cc nL own Ts D tys A rt) {q0 t0 : Nat} {cA : ClassId} {a n j : Nat} {f : Nat → Int64} {x : Int64} (ha : ws[q0]? = some (a, .inl (cA, n, .inr (.inl f)))) (ht : tys[t0]? = some (cA, .long)) (hn : n < 2 ^ 31) (hj : j < n) (hw : ws.set q0 (a, .inl (cA, n, .inr (.inl (vp_updL f j x)))) = ws') (hdg : decode cc pc = .ok (.lastore, 1)) (kk : yW p l e R s m args below meth c nL D A Q cells slots ws' (pc + 1) lv st) : yW p l e R s m args below meth c nL D A Q cells slots ws pc lv (.long x :: .int (nI j) :: .ref a :: st) := fun H locs ls hP hD hS hl => va_last (D := D) C.x C.b C.k hP hD hS q0 t0 ha ht (vp_in_nI hj hn) hdg (fun H locs hP hD hS => by
  rw [nI_clamp (Nat.lt_trans hj hn), hw] at hP hD
  exact kk H locs ls hP hD hS hl)
theorem y_callS (C : yC p s m args meth c cc nL own Ts D tys A rt) (hE : yE sa A s s.heap) {y : MethodName} {w w' : List Cond} {rm : Room} {bytes : ByteArray} {maxL index : Nat} {ret' : Option FieldType} {hh : List (Nat × Nat × Nat × Nat)} {As st0 : List Value} {r : Int32} (n : Nat) (hM : ctH l y w rm sa D tys As wk wk' r mc ms) (hG : GoodIn Ts (va_wsS own index y w)) (hw : w = Cond.codeWith y bytes maxL ret' hh :: w') (hrc : rm.cells = mc) (hrs : rm.slots = ms) (hd : y.cls ≠ "java/lang/invoke/MethodHandle" ∧ y.cls ≠ "java/lang/invoke/VarHandle" ∧ (parseMethodDescriptor y.desc).map (fun d => d.parameters.length) = some n) (hR : rm.frames + 1 ≤ R.frames ∧ 8 + (maxL + 11) + rm.locals ≤ R.locals) (hws : ws = wr ++ wk) (hst : st0 = As.reverse ++ st) (hn : As.length = n) (hcat : (st.map fun v => v.category).sum ≤ 8) (hdg : decode cc pc = .ok (.invokestatic index, 3)) (hf : cells + mc ≤ R.cells ∧ slots + ms ≤ R.slots) (kk : yW p l e R s m args below meth c nL D A Q (cells + mc) (slots + ms) (wr ++ wk') (pc + 3) lv (.int r :: st)) : yW p l e R s m args below meth c nL D A Q cells slots ws pc lv st0 := by
  subst hws hst
  intro H locs ls hP hD hS hl
  have hPc := yw_part hP
  have hDc : va_D A wk := yw_partD hD
  have hFc : ∀ q, va_A wk H.size q → A q := yw_free hD hS C.a
  refine va_calli (vx_runSW (As := As) (rest := st) C.1 (hM H.size) (vx_cwSW n C.ts hG hw hrc hrs hd hR) ⟨yBlindX, fun U hU hW => ⟨rfl, ⟨by rw [hU], by rw [hU]; exact hPc, va_K.moved hW.alike C.k, hDc.weaken (fun _ _ _ _ => trivial)⟩, hE.to (by rw [hU]; exact hS) hW hFc⟩⟩ rfl hn hl.1 rfl (lv_room hcat) hdg hf) hS (fun q _ h => hFc q h) hFc (fun r1 u t H1 locs1 ht hvm hw1 hB hz1 hk1 hS => ?_)
  obtain ⟨hP1, hK1, hD1⟩ := hB
  rw [ht] at hP1
  obtain ⟨hP, hD⟩ := yw_join hP hD hk1 hFc hP1 hD1
  subst hw1
  exact kk H1 locs1 ls hP hD hS hl
end YLH
