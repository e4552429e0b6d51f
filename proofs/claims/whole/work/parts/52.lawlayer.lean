/-! the law's own rows: its script, its switch, its row of one long -/
section YLL
variable {p : Program} {l : Launch} {e : Env} {R : Room} {s : State} {m : MethodId} {args : Array Value} {below : List Frame} {meth : Method} {c : Code} {Q : State → Prop} {cells slots : Nat}
variable {cc : ByteArray} {nL : Nat} {own : String} {Ts : List Cond} {D : va_G} {tys : List (ClassId × FieldType)} {A : Nat → Prop} {rt : Option FieldType}
variable {ws ws' : va_W} {pc : Nat} {lv lv' : List (Nat × Value)} {st : List Value} {b L : Nat} {xs : Nat → Int32}
theorem y_sld (C : yC p s m args meth c cc nL own Ts D tys A rt) (hX : va_X b L xs s s.heap) (hbl : b < s.heap.size) (hbA : ¬ A b) {j : Nat} (hj : j < L) (hL : L ≤ 2048) (hdg : decode cc pc = .ok (.iaload, 1)) (kk : yW p l e R s m args below meth c nL D A Q cells slots ws (pc + 1) lv (.int (xs j) :: st)) : yW p l e R s m args below meth c nL D A Q cells slots ws pc lv (.int (nI j) :: .ref b :: st) := fun H locs ls hP hD hS hl => va_sld C.x C.b hX hbl hbA hS (vp_in_nI hj (Nat.lt_of_le_of_lt hL (Nat.le_of_ble_eq_true rfl))) hdg (by rw [nI_clamp (Nat.lt_of_lt_of_le hj (Nat.le_trans hL (Nat.le_of_ble_eq_true rfl)))]; exact kk H locs ls hP hD hS hl)
theorem y_slen (C : yC p s m args meth c cc nL own Ts D tys A rt) (hX : va_X b L xs s s.heap) (hbl : b < s.heap.size) (hbA : ¬ A b) (hdg : decode cc pc = .ok (.arraylength, 1)) (kk : yW p l e R s m args below meth c nL D A Q cells slots ws (pc + 1) lv (.int (nI L) :: st)) : yW p l e R s m args below meth c nL D A Q cells slots ws pc lv (.ref b :: st) := fun H locs ls hP hD hS hl => va_slen C.x C.b hX hbl hbA hS hdg (kk H locs ls hP hD hS hl)
theorem y_tabOut (C : yC p s m args meth c cc nL own Ts D tys A rt) {dflt lo hi : Int} {offs : Array Int} {len : Nat} {x : Int32} {tgt : Nat} (hdg : decode cc pc = .ok (.tableswitch dflt lo hi offs, len)) (h : x.toInt < lo ∨ hi < x.toInt) (ht : (pc : Int) + dflt = (tgt : Int)) (kk : yW p l e R s m args below meth c nL D A Q cells slots ws tgt lv st) : yW p l e R s m args below meth c nL D A Q cells slots ws pc lv (.int x :: st) := fun H locs ls hP hD hS hl => lv_tableOut C.x C.b hdg h ht (kk H locs ls hP hD hS hl)
theorem y_tabIn (C : yC p s m args meth c cc nL own Ts D tys A rt) {dflt lo hi : Int} {offs : Array Int} {len : Nat} {x : Int32} {off : Int} {tgt : Nat} (hdg : decode cc pc = .ok (.tableswitch dflt lo hi offs, len)) (h1 : ¬ x.toInt < lo) (h2 : ¬ hi < x.toInt) (ho : offs[(x.toInt - lo).toNat]? = some off) (ht : (pc : Int) + off = (tgt : Int)) (kk : yW p l e R s m args below meth c nL D A Q cells slots ws tgt lv st) : yW p l e R s m args below meth c nL D A Q cells slots ws pc lv (.int x :: st) := fun H locs ls hP hD hS hl => lv_tableIn C.x C.b hdg h1 h2 ho ht (kk H locs ls hP hD hS hl)
theorem y_newl (C : yC p s m args meth c cc nL own Ts D tys A rt) {n t0 : Nat} {cJ : ClassId} (ht : tys[t0]? = some (cJ, .long)) (harr : Cond.arrayClass .long ∈ Ts) (hn : n < 2 ^ 20) (hcells : cells + 1 ≤ R.cells) (hslots : slots + n ≤ R.slots) (hdg : decode cc pc = .ok (.newarray .long, 2)) (kk : ∀ q : Nat, yW p l e R s m args below meth c nL D A Q (cells + 1) (slots + n) (ws ++ [(q, .inl (cJ, n, .inr (.inl (fun _ => 0))))]) (pc + 2) lv (.ref q :: st)) : yW p l e R s m args below meth c nL D A Q cells slots ws pc lv (.int (nI n) :: st) := by
  intro H locs ls hP hD hS hl
  have h1 : n < 2 ^ 31 := Nat.lt_trans hn (by decide)
  refine va_newaK (atype := .long) C.x C.b (C.ts _ harr) rfl hdg rfl (nI_pos h1) (nI_clamp h1) (by show n * 8 ≤ 536870912; omega) hcells hslots rfl (fun H1 cA e1 z1 o1 hAr hNm => ?_)
  have hI : s.vm.findClass ("[" ++ FieldType.long.toString) = some cJ := (C.k.2 t0 _ ht).2
  cases Option.some.inj (hNm.symm.trans hI)
  have hk : ∀ (k : Nat) (x : Nat × va_E), ws[k]? = some x → H1[x.1]? = H[x.1]? := fun k x hx => o1 x.1 ((hP k x hx).lt)
  refine kk H.size H1 locs ls ((hP.kept hk).app (fun k x hx => ?_)) (hD.push hP rfl (C.a _ hS.1)) ⟨Nat.le_trans hS.1 (by omega), fun x h1 h2 => (o1 x (Nat.lt_of_lt_of_le h1 hS.1)).trans (hS.2.1 x h1 h2), hS.2.2⟩ hl
  have hz : k < 1 := (List.getElem?_eq_some_iff.mp hx).1
  obtain rfl : k = 0 := by omega
  cases hx
  exact e1
/-- a cell of a world, said in other words -/
theorem y_cell {wa wb : va_W} {q q' : Nat × va_E} (h1 : q.1 = q'.1) (h2 : ∀ H : Heap, va_at D vwCl q H → va_at D vwCl q' H) (kk : yW p l e R s m args below meth c nL D A Q cells slots (wa ++ q' :: wb) pc lv st) : yW p l e R s m args below meth c nL D A Q cells slots (wa ++ q :: wb) pc lv st := by
  have key : ∀ (k : Nat) (z' : Nat × va_E), (wa ++ q' :: wb)[k]? = some z' → ∃ z, (wa ++ q :: wb)[k]? = some z ∧ z.1 = z'.1 ∧ ∀ H : Heap, va_at D vwCl z H → va_at D vwCl z' H := by
    intro k z' h
    by_cases hk : k < wa.length
    · rw [List.getElem?_append_left hk] at h
      exact ⟨z', by rw [List.getElem?_append_left hk]; exact h, rfl, fun _ h => h⟩
    · rw [List.getElem?_append_right (by omega)] at h
      cases hk2 : k - wa.length with
      | zero =>
        rw [hk2] at h
        cases h
        exact ⟨q, by rw [List.getElem?_append_right (by omega), hk2]; rfl, h1, h2⟩
      | succ j =>
        rw [hk2] at h
        exact ⟨z', by rw [List.getElem?_append_right (by omega), hk2]; exact h, rfl, fun _ h => h⟩
  intro H locs ls hP hD hS hl
  refine kk H locs ls (fun k z' h => ?_) ⟨fun i j x' y' hi hj e => ?_, fun k z' h => ?_⟩ hS hl
  · obtain ⟨z, hz, -, h3⟩ := key k z' h
    exact h3 H (hP k z hz)
  · obtain ⟨x, hx, ex, -⟩ := key i x' hi
    obtain ⟨y, hy, ey, -⟩ := key j y' hj
    exact hD.1 i j x y hx hy (by rw [ex, ey]; exact e)
  · obtain ⟨z, hz, ez, -⟩ := key k z' h
    rw [← ez]; exact hD.2 k z hz
theorem at_arr {a n : Nat} {cA : ClassId} {f g : Nat → Int32} (hfg : ∀ j, j < n → f j = g j) (H : Heap) (h : va_at D vwCl (a, .inl (cA, n, .inl f)) H) : va_at D vwCl (a, .inl (cA, n, .inl g)) H := by
  have hF : (fun j : Fin n => Value.int (f j.val)) = fun j : Fin n => Value.int (g j.val) := funext (fun j => by rw [hfg j.val j.isLt])
  have hcell : vp_cell cA (n, Sum.inl f) = vp_cell cA (n, Sum.inl g) := congrArg (fun F => ({ cls := cA, slots := Array.ofFn (n := n) F, vm := .none } : Cell)) hF
  show H[a]? = some (vp_cell cA (n, Sum.inl g))
  rw [← hcell]
  exact h
end YLL
/-- what the law stands on -/
def yLx (p : Program) (s : State) (m : MethodId) (args : Array Value) (meth : Method) (c : Code) (D : va_G) (cI cJ : ClassId) (A : Nat → Prop) (sa : Nat → Nat) (b L : Nat) (xs : Nat → Int32) : Prop :=
  yC p s m args meth c code 7 RL wsL_law D [(cI, .int), (cJ, .long)] A (some .boolean) ∧ yE sa A s s.heap ∧ va_X b L xs s s.heap ∧ b < s.heap.size ∧ ¬ A b ∧ L ≤ 2048
