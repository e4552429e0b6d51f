/-! the reference's passes and the class's rounds come to the same sets -/
theorem sle_and_i {y a b : Int32} : sle y (a &&& b) ↔ sle y a ∧ sle y b := ⟨fun h => ⟨sle_tr h (and_l _ _), sle_tr h (and_r _ _)⟩, fun h => sle_and h.1 h.2⟩
theorem or_z {a b : Int32} : a ||| b = 0 ↔ a = 0 ∧ b = 0 := by
  constructor
  · intro h
    exact ⟨le_z (h ▸ or_l a b), le_z (h ▸ or_r a b)⟩
  · intro h; rw [h.1, h.2]; decide
theorem ch_0 {a b : Int32} : nI (chF a b) = 0 ↔ a = b := by
  unfold chF
  split
  · rename_i h; exact ⟨fun _ => h, fun _ => nI_0⟩
  · rename_i h; exact ⟨fun q => absurd q (by decide), fun q => absurd q h⟩
section MEET
variable {E M : Nat} {vs : Nat → Int32} {sz cd fr tt : Nat → Nat}
theorem sn_meet (Z : Nat → Int32) (b : Nat) (y : Int32) : ∀ n, sle y (snF E M fr tt Z b n) ↔ sle y (snF E M fr tt Z b 0) ∧ ∀ j, j < n → fr j = b → sle y (Z (tt j)) := by
  intro n
  induction n with
  | zero => exact ⟨fun h => ⟨h, fun j hj => absurd hj (Nat.not_lt_zero _)⟩, fun h => h.1⟩
  | succ n ih =>
    rw [show snF E M fr tt Z b (n + 1) = if fr n = b then snF E M fr tt Z b n &&& Z (tt n) else snF E M fr tt Z b n from rfl]
    split
    · rename_i hb
      rw [sle_and_i, ih]
      exact ⟨fun h => ⟨h.1.1, fun j hj hf => (Nat.lt_succ_iff_lt_or_eq.mp hj).elim (fun q => h.1.2 j q hf) (fun q => by subst q; exact h.2)⟩, fun h => ⟨⟨h.1, fun j hj => h.2 j (by omega)⟩, h.2 n (by omega) hb⟩⟩
    · rename_i hb
      rw [ih]
      exact ⟨fun h => ⟨h.1, fun j hj hf => (Nat.lt_succ_iff_lt_or_eq.mp hj).elim (fun q => h.2 j q hf) (fun q => by subst q; exact absurd hf hb)⟩, fun h => ⟨h.1, fun j hj => h.2 j (by omega)⟩⟩
theorem st_meet (Z : Nat → Int32) (b : Nat) (y : Int32) : ∀ n, sle y (stF E fr tt Z b n) ↔ sle y (allF E) ∧ ∀ j, j < n → tt j = b → sle y (Z (fr j)) := by
  intro n
  induction n with
  | zero => exact ⟨fun h => ⟨h, fun j hj => absurd hj (Nat.not_lt_zero _)⟩, fun h => h.1⟩
  | succ n ih =>
    rw [show stF E fr tt Z b (n + 1) = if tt n = b then stF E fr tt Z b n &&& Z (fr n) else stF E fr tt Z b n from rfl]
    split
    · rename_i hb
      rw [sle_and_i, ih]
      exact ⟨fun h => ⟨h.1.1, fun j hj hf => (Nat.lt_succ_iff_lt_or_eq.mp hj).elim (fun q => h.1.2 j q hf) (fun q => by subst q; exact h.2)⟩, fun h => ⟨⟨h.1, fun j hj => h.2 j (by omega)⟩, h.2 n (by omega) hb⟩⟩
    · rename_i hb
      rw [ih]
      exact ⟨fun h => ⟨h.1, fun j hj hf => (Nat.lt_succ_iff_lt_or_eq.mp hj).elim (fun q => h.2 j q hf) (fun q => by subst q; exact absurd hf hb)⟩, fun h => ⟨h.1, fun j hj => h.2 j (by omega)⟩⟩
theorem hw_0 (b : Nat) : ∀ n, hwF tt b n = 0 ↔ ∀ j, j < n → tt j ≠ b := by
  intro n
  induction n with
  | zero => exact ⟨fun _ j hj => absurd hj (Nat.not_lt_zero _), fun _ => rfl⟩
  | succ n ih =>
    rw [show hwF tt b (n + 1) = if tt n = b then 1 else hwF tt b n from rfl]
    split
    · rename_i hb; exact ⟨fun h => absurd h (by decide), fun h => absurd hb (h n (by omega))⟩
    · rename_i hb
      rw [ih]
      exact ⟨fun h j hj => (Nat.lt_succ_iff_lt_or_eq.mp hj).elim (fun q => h j q) (fun q => by subst q; exact hb), fun h j hj => h j (by omega)⟩
theorem hd_0 (b : Nat) (hb0 : b ≠ 0) : ∀ n, hdF tt b n = hwF tt b n := by
  intro n
  induction n with
  | zero => simp [hdF, hwF, hb0]
  | succ n ih => simp only [hdF, hwF, ih]
theorem hd_1 : ∀ n, hdF tt 0 n = 1 := by
  intro n
  induction n with
  | zero => rfl
  | succ n ih => simp only [hdF, ih]; split <;> rfl
/-- the tops -/
def tpN (E M : Nat) (fr : Nat → Nat) (b : Nat) : Int32 := if exF fr b M = 0 then 0 else allF E
def tpT (E M : Nat) (tt : Nat → Nat) (b : Nat) : Int32 := if hwF tt b M = 0 then 0 else allF E
def tpD (E M : Nat) (tt : Nat → Nat) (x0 : Int32) (b : Nat) : Int32 := if b = 0 then x0 else tpT E M tt b
theorem ta_meet (Z : Nat → Int32) (b : Nat) (y : Int32) : sle y (taN E M fr tt Z b) ↔ sle y (tpT E M tt b) ∧ ∀ j, j < M → tt j = b → sle y (Z (fr j)) := by
  unfold taN tpT
  split
  · rename_i h
    exact ⟨fun q => ⟨q, fun j hj hf => absurd hf ((hw_0 b M).mp h j hj)⟩, fun q => q.1⟩
  · exact st_meet Z b y M
theorem ds_meet (na nb tb d : Nat → Int32) (b : Nat) (y : Int32) : ∀ n, sle y (dsF E vs sz cd fr tt na nb tb d b n) ↔ sle y (if b = 0 then na 0 else allF E) ∧ ∀ j, j < n → tt j = b → sle y (daF E vs sz cd fr tt na nb tb d j) := by
  intro n
  induction n with
  | zero => exact ⟨fun h => ⟨h, fun j hj => absurd hj (Nat.not_lt_zero _)⟩, fun h => h.1⟩
  | succ n ih =>
    rw [show dsF E vs sz cd fr tt na nb tb d b (n + 1) = if tt n = b then dsF E vs sz cd fr tt na nb tb d b n &&& daF E vs sz cd fr tt na nb tb d n else dsF E vs sz cd fr tt na nb tb d b n from rfl]
    split
    · rename_i hb
      rw [sle_and_i, ih]
      exact ⟨fun h => ⟨h.1.1, fun j hj hf => (Nat.lt_succ_iff_lt_or_eq.mp hj).elim (fun q => h.1.2 j q hf) (fun q => by subst q; exact h.2)⟩, fun h => ⟨⟨h.1, fun j hj => h.2 j (by omega)⟩, h.2 n (by omega) hb⟩⟩
    · rename_i hb
      rw [ih]
      exact ⟨fun h => ⟨h.1, fun j hj hf => (Nat.lt_succ_iff_lt_or_eq.mp hj).elim (fun q => h.2 j q hf) (fun q => by subst q; exact absurd hf hb)⟩, fun h => ⟨h.1, fun j hj => h.2 j (by omega)⟩⟩
theorem dn_meet (na nb tb d : Nat → Int32) (b : Nat) (y : Int32) : sle y (dnN E vs sz cd M fr tt na nb tb d b) ↔ sle y (tpD E M tt (na 0) b) ∧ ∀ j, j < M → tt j = b → sle y (daF E vs sz cd fr tt na nb tb d j) := by
  unfold dnN tpD
  by_cases h0 : b = 0
  · subst h0
    rw [hd_1, if_neg (by decide), if_pos rfl]
    exact ds_meet na nb tb d 0 y M
  · rw [hd_0 b h0 M, if_neg h0]
    unfold tpT
    split
    · rename_i h
      exact ⟨fun q => ⟨q, fun j hj hf => absurd hf ((hw_0 b M).mp h j hj)⟩, fun q => q.1⟩
    · have := ds_meet (E := E) (vs := vs) (sz := sz) (cd := cd) (fr := fr) (tt := tt) na nb tb d b y M
      rw [if_neg h0] at this
      exact this
end MEET
/-! needed and there, at once: F meets what the edges bring, H is what a block makes of it -/
section CONN
variable {B M : Nat} {u v : Nat → Nat} {T gen kp : Nat → Int32} {F : (Nat → Int32) → Nat → Int32}
def rhF (v : Nat → Nat) (gen kp : Nat → Int32) (X : Nat → Int32) (j : Nat) : Int32 := gen (v j) ||| (kp (v j) &&& X (v j))
def hF (gen kp : Nat → Int32) (F : (Nat → Int32) → Nat → Int32) (Z : Nat → Int32) (b : Nat) : Int32 := gen b ||| (kp b &&& F Z b)
theorem rh_mono (hv : ∀ j, j < M → v j < B) : ∀ X Y j, j < M → (∀ b, b < B → sle (X b) (Y b)) → sle (rhF v gen kp X j) (rhF v gen kp Y j) := fun X Y j hj h => or_mo (sle_rf _) (and_mo (sle_rf _) (h _ (hv j hj)))
theorem F_mono (hFm : ∀ Z b y, sle y (F Z b) ↔ sle y (T b) ∧ ∀ j, j < M → u j = b → sle y (Z (v j))) (hv : ∀ j, j < M → v j < B) {X Y : Nat → Int32} (h : ∀ b, b < B → sle (X b) (Y b)) (b : Nat) : sle (F X b) (F Y b) :=
  (hFm Y b _).mpr ⟨((hFm X b _).mp (sle_rf _)).1, fun j hj hb => sle_tr (((hFm X b _).mp (sle_rf _)).2 j hj hb) (h _ (hv j hj))⟩
theorem hF_mono (hFm : ∀ Z b y, sle y (F Z b) ↔ sle y (T b) ∧ ∀ j, j < M → u j = b → sle y (Z (v j))) (hv : ∀ j, j < M → v j < B) : monoH B (hF gen kp F) := fun X Y h b _ => or_mo (sle_rf _) (and_mo (sle_rf _) (F_mono hFm hv h b))
theorem conn (hFm : ∀ Z b y, sle y (F Z b) ↔ sle y (T b) ∧ ∀ j, j < M → u j = b → sle y (Z (v j))) (hv : ∀ j, j < M → v j < B) {Z : Nat → Int32} (hfix : ∀ b, b < B → hF gen kp F Z b = Z b) (hup : upH B (hF gen kp F) Z) : GFs B M u T (rhF v gen kp) (F Z) := by
  refine ⟨⟨fun b _ => ((hFm Z b _).mp (sle_rf _)).1, fun j hj => ?_⟩, fun Y hY b _ => ?_⟩
  · have h1 := ((hFm Z (u j) _).mp (sle_rf _)).2 j hj rfl
    rw [← hfix (v j) (hv j hj)] at h1
    exact h1
  · have hW : ∀ q, q < B → sle (gen q ||| (kp q &&& Y q)) (hF gen kp F (fun q => gen q ||| (kp q &&& Y q)) q) := fun q hq => or_mo (sle_rf _) (and_mo (sle_rf _) ((hFm _ q _).mpr ⟨hY.1 q hq, fun j hj hb => by subst hb; exact hY.2 j hj⟩))
    have hle := hup _ hW
    exact (hFm Z b _).mpr ⟨hY.1 b (by assumption), fun j hj hb => by subst hb; exact sle_tr (hY.2 j hj) (hle _ (hv j hj))⟩
theorem top_inv {E : Nat} (hg : ∀ b, b < B → sle (gen b) (allF E)) (hk : ∀ b, b < B → sle (kp b) (allF E)) {Z : Nat → Int32} (hZ : ∀ b, b < B → Z b = allF E) : decH B (hF gen kp F) Z ∧ upH B (hF gen kp F) Z := by
  have h1 : ∀ (W : Nat → Int32) b, b < B → sle (hF gen kp F W b) (allF E) := fun W b hb => or_le (hg b hb) (sle_tr (and_l _ _) (hk b hb))
  exact ⟨fun b hb => by rw [hZ b hb]; exact h1 Z b hb, fun W hW b hb => by rw [hZ b hb]; exact sle_tr (hW b hb) (h1 W b hb)⟩
end CONN
/-! the reference's joint passes -/
section PASS
variable {E M : Nat} {vs : Nat → Int32} {sz cd fr tt : Nat → Nat}
abbrev sE (E : Nat) (vs : Nat → Int32) (sz cd : Nat → Nat) (b : Nat) : Int32 := eaF E vs cd b (sz b)
abbrev sK (E : Nat) (vs : Nat → Int32) (sz cd : Nat → Nat) (b : Nat) : Int32 := kpF E vs cd b (sz b)
abbrev sL (E : Nat) (vs : Nat → Int32) (sz cd : Nat → Nat) (b : Nat) : Int32 := laF E vs cd b (sz b)
abbrev FN (E M : Nat) (fr tt : Nat → Nat) (Z : Nat → Int32) (b : Nat) : Int32 := snF E M fr tt Z b M
abbrev FT (E M : Nat) (fr tt : Nat → Nat) (Z : Nat → Int32) (b : Nat) : Int32 := taN E M fr tt Z b
theorem ps_eq (S : (Nat → Int32) × (Nat → Int32) × (Nat → Int32) × (Nat → Int32)) : ∀ n, (psF E vs sz cd M fr tt S n).1.1 = pHF (neN E vs sz cd M fr tt) S.1 n ∧ (psF E vs sz cd M fr tt S n).1.2.2.2 = pHF (tbN E vs sz cd M fr tt) S.2.2.2 n ∧
    ((psF E vs sz cd M fr tt S n).2 = 0 ↔ sameH (neN E vs sz cd M fr tt) S.1 n ∧ sameH (tbN E vs sz cd M fr tt) S.2.2.2 n) ∧
    ∀ b, b < n → (psF E vs sz cd M fr tt S n).1.2.1 b = snF E M fr tt (pHF (neN E vs sz cd M fr tt) S.1 b) b M ∧ (psF E vs sz cd M fr tt S n).1.2.2.1 b = taN E M fr tt (pHF (tbN E vs sz cd M fr tt) S.2.2.2 b) b := by
  intro n
  induction n with
  | zero => exact ⟨rfl, rfl, ⟨fun _ => ⟨fun b hb => absurd hb (Nat.not_lt_zero _), fun b hb => absurd hb (Nat.not_lt_zero _)⟩, fun _ => nI_0⟩, fun b hb => absurd hb (Nat.not_lt_zero _)⟩
  | succ n ih =>
    rcases hq : psF E vs sz cd M fr tt S n with ⟨⟨a1, a2, a3, a4⟩, f⟩
    rw [hq] at ih
    obtain ⟨h1, h2, h3, h4⟩ := ih
    simp only at h1 h2 h3 h4
    subst h1 h2
    simp only [psF, hq, pHF]
    refine ⟨trivial, trivial, ?_, ?_⟩
    · rw [or_z, or_z, ch_0, ch_0, h3]
      constructor
      · rintro ⟨⟨p1, p2⟩, p3, p4⟩
        exact ⟨fun b hb => (Nat.lt_succ_iff_lt_or_eq.mp hb).elim (fun q => p1 b q) (fun q => by subst q; exact p3), fun b hb => (Nat.lt_succ_iff_lt_or_eq.mp hb).elim (fun q => p2 b q) (fun q => by subst q; exact p4)⟩
      · rintro ⟨p1, p2⟩
        exact ⟨⟨fun b hb => p1 b (by omega), fun b hb => p2 b (by omega)⟩, p1 n (by omega), p2 n (by omega)⟩
    · intro b hb
      by_cases e : b = n
      · subst e; exact ⟨pk_us, pk_us⟩
      · rw [pk_un e, pk_un e]; exact h4 b (by omega)
theorem it_s (B : Nat) (S : (Nat → Int32) × (Nat → Int32) × (Nat → Int32) × (Nat → Int32)) (k : Nat) : itF E vs sz cd B M fr tt S (k + 1) = itF E vs sz cd B M fr tt (psF E vs sz cd M fr tt S B).1 k := by
  induction k with
  | zero => rfl
  | succ k ih => show (psF E vs sz cd M fr tt (itF E vs sz cd B M fr tt S (k + 1)) B).1 = _; rw [ih]; rfl
/-- what holds of a state between the passes -/
def okS (B E : Nat) (vs : Nat → Int32) (sz cd : Nat → Nat) (M : Nat) (fr tt : Nat → Nat) (S : (Nat → Int32) × (Nat → Int32) × (Nat → Int32) × (Nat → Int32)) : Prop :=
  decH B (neN E vs sz cd M fr tt) S.1 ∧ upH B (neN E vs sz cd M fr tt) S.1 ∧ decH B (tbN E vs sz cd M fr tt) S.2.2.2 ∧ upH B (tbN E vs sz cd M fr tt) S.2.2.2
theorem nm (B : Nat) (hv : ∀ j, j < M → tt j < B) : monoH B (neN E vs sz cd M fr tt) := hF_mono (u := fr) (T := tpN E M fr) (gen := sE E vs sz cd) (kp := sK E vs sz cd) (F := FN E M fr tt) (fun Z b y => sn_meet Z b y M) hv
theorem tm (B : Nat) (hv : ∀ j, j < M → fr j < B) : monoH B (tbN E vs sz cd M fr tt) := hF_mono (u := tt) (T := tpT E M tt) (gen := sL E vs sz cd) (kp := sK E vs sz cd) (F := FT E M fr tt) (fun Z b y => ta_meet Z b y) hv
theorem ok_s {B : Nat} (hf : ∀ j, j < M → fr j < B) (ht : ∀ j, j < M → tt j < B) {S : (Nat → Int32) × (Nat → Int32) × (Nat → Int32) × (Nat → Int32)} (h : okS B E vs sz cd M fr tt S) : okS B E vs sz cd M fr tt (psF E vs sz cd M fr tt S B).1 := by
  obtain ⟨e1, e2, -, -⟩ := ps_eq (E := E) (vs := vs) (sz := sz) (cd := cd) (M := M) (fr := fr) (tt := tt) S B
  have h1 := pH_inv (nm B ht) h.1 h.2.1 B (Nat.le_refl _)
  have h2 := pH_inv (tm B hf) h.2.2.1 h.2.2.2 B (Nat.le_refl _)
  exact ⟨by rw [e1]; exact h1.1, by rw [e1]; exact h1.2.1, by rw [e2]; exact h2.1, by rw [e2]; exact h2.2.1⟩
theorem ps_ex {B : Nat} (hf : ∀ j, j < M → fr j < B) (ht : ∀ j, j < M → tt j < B) : ∀ (n : Nat) (S : (Nat → Int32) × (Nat → Int32) × (Nat → Int32) × (Nat → Int32)), okS B E vs sz cd M fr tt S → sumN (fun b => pop (S.1 b)) B + sumN (fun b => pop (S.2.2.2 b)) B ≤ n →
    ∃ k, (∀ j, j < k → (psF E vs sz cd M fr tt (itF E vs sz cd B M fr tt S j) B).2 ≠ 0) ∧ (psF E vs sz cd M fr tt (itF E vs sz cd B M fr tt S k) B).2 = 0 ∧ okS B E vs sz cd M fr tt (itF E vs sz cd B M fr tt S k) := by
  intro n
  induction n with
  | zero =>
    intro S hS hn
    refine ⟨0, fun j hj => absurd hj (Nat.not_lt_zero _), ?_, hS⟩
    obtain ⟨-, -, e3, -⟩ := ps_eq (E := E) (vs := vs) (sz := sz) (cd := cd) (M := M) (fr := fr) (tt := tt) S B
    refine e3.mpr ⟨Classical.byContradiction fun hc => ?_, Classical.byContradiction fun hc => ?_⟩
    · have := pH_change (nm B ht) hS.1 hS.2.1 (Nat.le_refl _) hc; omega
    · have := pH_change (tm B hf) hS.2.2.1 hS.2.2.2 (Nat.le_refl _) hc; omega
  | succ n ih =>
    intro S hS hn
    obtain ⟨e1, e2, e3, -⟩ := ps_eq (E := E) (vs := vs) (sz := sz) (cd := cd) (M := M) (fr := fr) (tt := tt) S B
    by_cases h0 : (psF E vs sz cd M fr tt S B).2 = 0
    · exact ⟨0, fun j hj => absurd hj (Nat.not_lt_zero _), h0, hS⟩
    · have hlt : sumN (fun b => pop ((psF E vs sz cd M fr tt S B).1.1 b)) B + sumN (fun b => pop ((psF E vs sz cd M fr tt S B).1.2.2.2 b)) B ≤ n := by
        rw [e1, e2]
        have l1 := sum_le (f := fun b => pop (pHF (neN E vs sz cd M fr tt) S.1 B b)) (g := fun b => pop (S.1 b)) B (fun b hb => pop_le ((pH_inv (nm B ht) hS.1 hS.2.1 B (Nat.le_refl _)).2.2 b hb))
        have l2 := sum_le (f := fun b => pop (pHF (tbN E vs sz cd M fr tt) S.2.2.2 B b)) (g := fun b => pop (S.2.2.2 b)) B (fun b hb => pop_le ((pH_inv (tm B hf) hS.2.2.1 hS.2.2.2 B (Nat.le_refl _)).2.2 b hb))
        by_cases hs1 : sameH (neN E vs sz cd M fr tt) S.1 B
        · have hs2 : ¬ sameH (tbN E vs sz cd M fr tt) S.2.2.2 B := fun q => h0 (e3.mpr ⟨hs1, q⟩)
          have := pH_change (tm B hf) hS.2.2.1 hS.2.2.2 (Nat.le_refl _) hs2
          omega
        · have := pH_change (nm B ht) hS.1 hS.2.1 (Nat.le_refl _) hs1
          omega
      obtain ⟨k, h1, h2, h3⟩ := ih _ (ok_s hf ht hS) hlt
      refine ⟨k + 1, fun j hj => ?_, by rw [it_s]; exact h2, by rw [it_s]; exact h3⟩
      cases j with
      | zero => exact h0
      | succ j => rw [it_s]; exact h1 j (by omega)
end PASS
