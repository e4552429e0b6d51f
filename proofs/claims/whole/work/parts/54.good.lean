/-! the world between two calls -/
def Good (cI cJ : ClassId) (aM aC aJ aS aP : Nat → Nat) (o : Nat) (w : va_W) : Prop :=
  ∃ (th E : Nat) (vs dp : Nat → Int32) (B : Nat) (sz cd : Nat → Nat) (M : Nat) (fr tt : Nat → Nat) (f1 f2 : Nat → Int32) (cg : Int32) (na nb ta tb dl tc tl : Nat → Int32) (mi eb hd : Int32) (hs : Nat → Int32) (ig ct : Int32) (kp ea la ns ne ts te da de eo dn io : Nat → Int32) (f : Nat → Int64),
    w = WM cI aM th E vs B sz cd M fr tt na nb ta tb dl tc tl mi eb ++ (WO cJ o f ++ (WC (aC 0) (aP 0) (aS 0) (aJ 0) ++ (WJ cI aJ (aP 0) tc tl mi eb hd hs ig ct ++ (WS cI aS (aP 0) kp ea la ns ne ts te da de eo dn io ++ (WP cI aP E vs dp B sz cd M fr tt f1 f2 cg))))) ∧
    PIv E vs dp B sz cd M fr tt f1 f2 ∧ (cg = nI 0 ∨ cg = nI 1) ∧ (cg = nI 0 → SOk E vs B sz cd M fr tt kp ea la ns ne ts te da de eo dn io)
theorem gd {cI cJ : ClassId} {aM aC aJ aS aP : Nat → Nat} {o : Nat} {th E : Nat} {vs dp : Nat → Int32} {B : Nat} {sz cd : Nat → Nat} {M : Nat} {fr tt : Nat → Nat} {f1 f2 : Nat → Int32} {cg : Int32} {na nb ta tb dl tc tl : Nat → Int32} {mi eb hd : Int32} {hs : Nat → Int32} {ig ct : Int32} {kp ea la ns ne ts te da de eo dn io : Nat → Int32} {f : Nat → Int64}
    (hp : PIv E vs dp B sz cd M fr tt f1 f2) (hc : cg = nI 0 ∨ cg = nI 1) (hs9 : cg = nI 0 → SOk E vs B sz cd M fr tt kp ea la ns ne ts te da de eo dn io) :
    Good cI cJ aM aC aJ aS aP o (WM cI aM th E vs B sz cd M fr tt na nb ta tb dl tc tl mi eb ++ (WO cJ o f ++ (WC (aC 0) (aP 0) (aS 0) (aJ 0) ++ (WJ cI aJ (aP 0) tc tl mi eb hd hs ig ct ++ (WS cI aS (aP 0) kp ea la ns ne ts te da de eo dn io ++ (WP cI aP E vs dp B sz cd M fr tt f1 f2 cg)))))) :=
  ⟨th, E, vs, dp, B, sz, cd, M, fr, tt, f1, f2, cg, na, nb, ta, tb, dl, tc, tl, mi, eb, hd, hs, ig, ct, kp, ea, la, ns, ne, ts, te, da, de, eo, dn, io, f, rfl, hp, hc, hs9⟩
theorem n10 : ¬ nI 1 = nI 0 := by decide
/-- an int is a number below n, or it isn't -/
theorem i_cls (x : Int32) {n : Nat} (hn : n < 2 ^ 31) : (x < 0 ∨ nI n ≤ x) ∨ ∃ k, k < n ∧ x = nI k := by
  by_cases h0 : x < 0
  · exact Or.inl (Or.inl h0)
  · by_cases h1 : nI n ≤ x
    · exact Or.inl (Or.inr h1)
    · rw [Int32.lt_iff_toInt_lt] at h0
      rw [Int32.le_iff_toInt_le, nI_toInt hn] at h1
      have hz : (0 : Int32).toInt = 0 := by decide
      rw [hz] at h0
      refine Or.inr ⟨x.toInt.toNat, by omega, Int32.toInt_inj.mp ?_⟩
      rw [nI_toInt (by omega)]
      omega
theorem i_64 {x : Int32} (h : x < 0 ∨ nI 64 ≤ x) : x < 0 ∨ ¬ x < nI 64 := h.imp id (fun h1 h2 => by
  rw [Int32.le_iff_toInt_le] at h1
  rw [Int32.lt_iff_toInt_lt] at h2
  omega)
theorem i_63 {x : Int32} (h : x < 0 ∨ nI 64 ≤ x) : x < 0 ∨ ¬ x ≤ nI 63 := h.imp id (fun h1 h2 => by
  rw [Int32.le_iff_toInt_le, nI_toInt (by omega)] at h1 h2
  omega)
theorem i_wk (x : Int32) : (x < nI 1 ∨ ¬ x ≤ nI 1000) ∨ ∃ k, 1 ≤ k ∧ k ≤ 1000 ∧ x = nI k := by
  rcases i_cls x (n := 1001) (by omega) with (h | h) | ⟨k, hk, e⟩
  · refine Or.inl (Or.inl ?_)
    rw [Int32.lt_iff_toInt_lt] at h ⊢
    rw [nI_toInt (by omega)]
    have hz : (0 : Int32).toInt = 0 := by decide
    omega
  · refine Or.inl (Or.inr (fun h2 => ?_))
    rw [Int32.le_iff_toInt_le, nI_toInt (by omega)] at h h2
    omega
  · by_cases h0 : k = 0
    · subst h0
      refine Or.inl (Or.inl ?_)
      rw [e, Int32.lt_iff_toInt_lt, nI_toInt (by omega), nI_toInt (by omega)]
      omega
    · exact Or.inr ⟨k, by omega, by omega, e⟩
