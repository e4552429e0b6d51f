/-! more rows over yW -/
theorem yn_dec {x : Nat} (h : 1 ≤ x) : nI x + Int32.ofInt (-1) = nI (x - 1) := by
  obtain ⟨k, rfl⟩ : ∃ k, x = k + 1 := ⟨x - 1, by omega⟩
  exact pk_m1 k
theorem upN_s {f : Nat → Nat} {k x : Nat} : upN f k x k = x := if_pos rfl
theorem upN_n {f : Nat → Nat} {k j x : Nat} (h : j ≠ k) : upN f k x j = f j := if_neg h
theorem yl_c {x y : Int64} : lg_cmp x y = 0 ↔ x = y := by
  unfold lg_cmp
  constructor
  · intro h
    by_cases h1 : y < x
    · simp [h1] at h
    · by_cases h2 : x = y
      · exact h2
      · simp [h1, h2] at h
  · intro h
    subst h
    simp
section YLD
variable {p : Program} {l : Launch} {e : Env} {R : Room} {s : State} {m : MethodId} {args : Array Value} {below : List Frame} {meth : Method} {c : Code} {Q : State → Prop} {cells slots : Nat}
variable {cc : ByteArray} {nL : Nat} {own : String} {Ts : List Cond} {D : va_G} {tys : List (ClassId × FieldType)} {A : Nat → Prop} {rt : Option FieldType}
variable {ws ws' : va_W} {pc : Nat} {lv lv' : List (Nat × Value)} {st : List Value} {wc wc' wr : va_W} {mc ms sz : Nat}
theorem y_lcmp (C : yC p s m args meth c cc nL own Ts D tys A rt) {x y : Int64} (hdg : decode cc pc = .ok (.lcmp, 1)) (kk : yW p l e R s m args below meth c nL D A Q cells slots ws (pc + 1) lv (.int (lg_cmp x y) :: st)) : yW p l e R s m args below meth c nL D A Q cells slots ws pc lv (.long y :: .long x :: st) := fun H locs ls hP hD hS hl => W.lcmp C.x C.b hdg (kk H locs ls hP hD hS hl)
/-- cells that nobody names any more -/
theorem y_drop (kk : yW p l e R s m args below meth c nL D A Q cells slots ws pc lv st) : yW p l e R s m args below meth c nL D A Q cells slots (wr ++ ws) pc lv st := fun H locs ls hP hD hS hl => kk H locs ls (yw_part hP) (yw_partD hD) hS hl
theorem yw_swapP {H : Heap} (hP : va_P D vwCl (ws ++ wr) H) : va_P D vwCl (wr ++ ws) H := by
  intro k q h
  by_cases hk : k < wr.length
  · rw [List.getElem?_append_left hk] at h
    exact hP _ q (yw_r h)
  · rw [List.getElem?_append_right (by omega)] at h
    exact hP _ q (yw_l h)
theorem yw_swapD (hD : va_D A (ws ++ wr)) : va_D A (wr ++ ws) := by
  have key : ∀ (k : Nat) (q : Nat × va_E), (wr ++ ws)[k]? = some q → (k < wr.length ∧ (ws ++ wr)[ws.length + k]? = some q) ∨ (wr.length ≤ k ∧ k - wr.length < ws.length ∧ (ws ++ wr)[k - wr.length]? = some q) := by
    intro k q h
    by_cases hk : k < wr.length
    · rw [List.getElem?_append_left hk] at h
      exact Or.inl ⟨hk, yw_r h⟩
    · rw [List.getElem?_append_right (by omega)] at h
      exact Or.inr ⟨by omega, (List.getElem?_eq_some_iff.mp h).1, yw_l h⟩
  refine ⟨fun i j x y hi hj hxy => ?_, fun k q h => ?_⟩
  · rcases key i x hi with ⟨a1, a2⟩ | ⟨a1, a3, a2⟩ <;> rcases key j y hj with ⟨b1, b2⟩ | ⟨b1, b3, b2⟩
    all_goals
      have := hD.1 _ _ x y a2 b2 hxy
      omega
  · rcases key k q h with ⟨-, a2⟩ | ⟨-, -, a2⟩
    · exact hD.2 _ q a2
    · exact hD.2 _ q a2
theorem y_swap (kk : yW p l e R s m args below meth c nL D A Q cells slots (wr ++ ws) pc lv st) : yW p l e R s m args below meth c nL D A Q cells slots (ws ++ wr) pc lv st := fun H locs ls hP hD hS hl => kk H locs ls (yw_swapP hP) (yw_swapD hD) hS hl
/-- one cell, an array of ints -/
def W1 (cI : ClassId) (q n : Nat) (f : Nat → Int32) : va_W := [(q, .inl (cI, n, .inl f))]
theorem y_newF (C : yC p s m args meth c cc nL own Ts D tys A rt) {n t0 : Nat} {cI : ClassId} (ht : tys[t0]? = some (cI, .int)) (harr : Cond.arrayClass .int ∈ Ts) (hn : n < 2 ^ 20) (hcells : cells + 1 ≤ R.cells) (hslots : slots + n ≤ R.slots) (hdg : decode cc pc = .ok (.newarray .int, 2)) (kk : ∀ q : Nat, yW p l e R s m args below meth c nL D A Q (cells + 1) (slots + n) (W1 cI q n (fun _ => 0) ++ ws) (pc + 2) lv (.ref q :: st)) : yW p l e R s m args below meth c nL D A Q cells slots ws pc lv (.int (nI n) :: st) := y_newi C ht harr hn hcells hslots hdg (fun q => y_swap (kk q))
end YLD
