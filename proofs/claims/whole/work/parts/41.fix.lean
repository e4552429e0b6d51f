/-! greatest solutions. Edge rounds (the class): from above, each edge takes what its other end doesn't allow. Block passes (the reference): each block anew, until nothing changes -/
section FIXA
variable (B M : Nat) (u : Nat → Nat) (T : Nat → Int32) (rhs : (Nat → Int32) → Nat → Int32)
/-- a solution from below -/
def PFs (X : Nat → Int32) : Prop := (∀ b, b < B → sle (X b) (T b)) ∧ ∀ j, j < M → sle (X (u j)) (rhs X j)
/-- the greatest one -/
def GFs (X : Nat → Int32) : Prop := PFs B M u T rhs X ∧ ∀ Y, PFs B M u T rhs Y → ∀ b, b < B → sle (Y b) (X b)
/-- one edge, and a list of edges -/
def esF (S : (Nat → Int32) × Nat) (j : Nat) : (Nat → Int32) × Nat := if S.1 (u j) &&& rhs S.1 j = S.1 (u j) then S else (upd S.1 (u j) (S.1 (u j) &&& rhs S.1 j), 1)
def eRF : List Nat → (Nat → Int32) × Nat → (Nat → Int32) × Nat
  | [], S => S
  | j :: L, S => eRF L (esF u rhs S j)
end FIXA
section FIXB
variable {B M : Nat} {u : Nat → Nat} {T : Nat → Int32} {rhs : (Nat → Int32) → Nat → Int32}
theorem GFs_uniq {X X' : Nat → Int32} (h : GFs B M u T rhs X) (h' : GFs B M u T rhs X') : ∀ b, b < B → X b = X' b := fun b hb => sle_as (h'.2 X h.1 b hb) (h.2 X' h'.1 b hb)
theorem es_le (S : (Nat → Int32) × Nat) (j : Nat) : ∀ b, sle ((esF u rhs S j).1 b) (S.1 b) := by
  intro b
  unfold esF
  split
  · exact sle_rf _
  · by_cases h : b = u j
    · subst h; simp only [pk_us]; exact and_l _ _
    · simp only [pk_un h]; exact sle_rf _
theorem eR_le (L : List Nat) : ∀ (S : (Nat → Int32) × Nat) (b : Nat), sle ((eRF u rhs L S).1 b) (S.1 b) := by
  induction L with
  | nil => intro S b; exact sle_rf _
  | cons j L ih => intro S b; exact sle_tr (ih _ b) (es_le S j b)
/-- no solution is lost -/
theorem eR_ge (hm : ∀ X Y j, j < M → (∀ b, b < B → sle (X b) (Y b)) → sle (rhs X j) (rhs Y j)) {Y : Nat → Int32} (hY : PFs B M u T rhs Y) (L : List Nat) : ∀ (S : (Nat → Int32) × Nat), (∀ j ∈ L, j < M) → (∀ b, b < B → sle (Y b) (S.1 b)) → ∀ b, b < B → sle (Y b) ((eRF u rhs L S).1 b) := by
  induction L with
  | nil => intro S _ h; exact h
  | cons j L ih =>
    intro S hL h
    have hj := hL j List.mem_cons_self
    refine ih _ (fun i hi => hL i (List.mem_cons_of_mem _ hi)) (fun b hb => ?_)
    unfold esF
    split
    · exact h b hb
    · by_cases e : b = u j
      · subst e
        simp only [pk_us]
        exact sle_and (h _ hb) (sle_tr (hY.2 j hj) (hm Y S.1 j hj h))
      · simp only [pk_un e]; exact h b hb
/-- a round without a change: all edges agree -/
theorem eR_0 (L : List Nat) : ∀ (S : (Nat → Int32) × Nat), (eRF u rhs L S).2 = 0 → eRF u rhs L S = S ∧ ∀ j ∈ L, sle (S.1 (u j)) (rhs S.1 j) := by
  induction L with
  | nil => intro S _; exact ⟨rfl, fun j h => absurd h List.not_mem_nil⟩
  | cons j L ih =>
    intro S h
    have h1 := ih _ h
    have h2 : esF u rhs S j = S := by
      unfold esF
      split
      · rfl
      · rename_i hne
        exfalso
        have h3 : (eRF u rhs L (esF u rhs S j)).2 = 0 := h
        rw [h1.1] at h3
        unfold esF at h3
        rw [if_neg hne] at h3
        simp at h3
    have h4 : S.1 (u j) &&& rhs S.1 j = S.1 (u j) := by
      by_cases hq : S.1 (u j) &&& rhs S.1 j = S.1 (u j)
      · exact hq
      · exfalso
        unfold esF at h2
        rw [if_neg hq] at h2
        have h5 := congrArg (fun z => z.1 (u j)) h2
        simp only [pk_us] at h5
        exact hq h5
    rw [h2] at h1
    refine ⟨by show eRF u rhs L (esF u rhs S j) = S; rw [h2]; exact h1.1, fun i hi => ?_⟩
    rcases List.mem_cons.mp hi with rfl | hi
    · exact sle_eq.mp h4
    · exact h1.2 i hi
/-- a round with a change: some set is smaller -/
theorem eR_1 (L : List Nat) (hu : ∀ j ∈ L, u j < B) : ∀ (S : (Nat → Int32) × Nat), (eRF u rhs L S).2 ≠ 0 → S.2 ≠ 0 ∨ ∃ b, b < B ∧ (eRF u rhs L S).1 b ≠ S.1 b := by
  induction L with
  | nil => intro S h; exact Or.inl h
  | cons j L ih =>
    intro S h
    have hj := hu j List.mem_cons_self
    by_cases hq : S.1 (u j) &&& rhs S.1 j = S.1 (u j)
    · have h2 : esF u rhs S j = S := by unfold esF; rw [if_pos hq]
      have h3 := ih (fun i hi => hu i (List.mem_cons_of_mem _ hi)) (esF u rhs S j) h
      rw [h2] at h3
      show S.2 ≠ 0 ∨ ∃ b, b < B ∧ (eRF u rhs L (esF u rhs S j)).1 b ≠ S.1 b
      rw [h2]; exact h3
    · refine Or.inr ⟨u j, hj, fun he => hq ?_⟩
      have h2 : (esF u rhs S j).1 (u j) = S.1 (u j) &&& rhs S.1 j := by unfold esF; rw [if_neg hq]; exact pk_us
      have h3 := eR_le (u := u) (rhs := rhs) L (esF u rhs S j) (u j)
      rw [h2] at h3
      have he' : (eRF u rhs L (esF u rhs S j)).1 (u j) = S.1 (u j) := he
      rw [he'] at h3
      exact sle_as (and_l _ _) h3
end FIXB
/-- rounds, one behind the other -/
def iRF (u : Nat → Nat) (rhs : (Nat → Int32) → Nat → Int32) (L : List Nat) (X : Nat → Int32) : Nat → Nat → Int32
  | 0 => X
  | k + 1 => (eRF u rhs L (iRF u rhs L X k, 0)).1
theorem iR_s (u : Nat → Nat) (rhs : (Nat → Int32) → Nat → Int32) (L : List Nat) (X : Nat → Int32) (k : Nat) : iRF u rhs L X (k + 1) = iRF u rhs L (eRF u rhs L (X, 0)).1 k := by
  induction k with
  | zero => rfl
  | succ k ih => show (eRF u rhs L (iRF u rhs L X (k + 1), 0)).1 = _; rw [ih]; rfl
theorem iR_ex {B : Nat} {u : Nat → Nat} {rhs : (Nat → Int32) → Nat → Int32} {L : List Nat} (hu : ∀ j ∈ L, u j < B) : ∀ (n : Nat) (X : Nat → Int32), sumN (fun b => pop (X b)) B ≤ n → ∃ k, k ≤ n ∧ (∀ j, j < k → (eRF u rhs L (iRF u rhs L X j, 0)).2 ≠ 0) ∧ (eRF u rhs L (iRF u rhs L X k, 0)).2 = 0 := by
  intro n
  induction n with
  | zero =>
    intro X hX
    refine ⟨0, Nat.le_refl _, fun j hj => absurd hj (Nat.not_lt_zero _), ?_⟩
    apply Classical.byContradiction
    intro hne
    rcases eR_1 L hu (X, 0) hne with h | ⟨b, hb, h⟩
    · exact h rfl
    · have := sum_lt B (fun q _ => pop_le (eR_le L (X, 0) q)) hb (pop_lt (eR_le L (X, 0) b) h)
      simp only at this
      omega
  | succ n ih =>
    intro X hX
    by_cases h0 : (eRF u rhs L (X, 0)).2 = 0
    · exact ⟨0, Nat.zero_le _, fun j hj => absurd hj (Nat.not_lt_zero _), h0⟩
    · obtain ⟨b, hb, h⟩ := (eR_1 L hu (X, 0) h0).resolve_left (fun h => h rfl)
      have hlt := sum_lt B (fun q _ => pop_le (eR_le L (X, 0) q)) hb (pop_lt (eR_le L (X, 0) b) h)
      obtain ⟨k, hk, h1, h2⟩ := ih (eRF u rhs L (X, 0)).1 (by simp only at hlt; omega)
      refine ⟨k + 1, by omega, fun j hj => ?_, by rw [iR_s]; exact h2⟩
      cases j with
      | zero => exact h0
      | succ j => rw [iR_s]; exact h1 j (by omega)
theorem iR_le {u : Nat → Nat} {rhs : (Nat → Int32) → Nat → Int32} {L : List Nat} (X : Nat → Int32) (k b : Nat) : sle (iRF u rhs L X k b) (X b) := by
  induction k with
  | zero => exact sle_rf _
  | succ k ih => exact sle_tr (eR_le L _ b) ih
theorem iR_gf {B M : Nat} {u : Nat → Nat} {T : Nat → Int32} {rhs : (Nat → Int32) → Nat → Int32} (hm : ∀ X Y j, j < M → (∀ b, b < B → sle (X b) (Y b)) → sle (rhs X j) (rhs Y j)) {L : List Nat} (hL : ∀ j, j ∈ L ↔ j < M) {X : Nat → Int32} (hX : ∀ b, b < B → X b = T b) {k : Nat} (h0 : (eRF u rhs L (iRF u rhs L X k, 0)).2 = 0) : GFs B M u T rhs (iRF u rhs L X (k + 1)) := by
  obtain ⟨h1, h2⟩ := eR_0 L _ h0
  have h3 : iRF u rhs L X (k + 1) = iRF u rhs L X k := congrArg Prod.fst h1
  rw [h3]
  refine ⟨⟨fun b hb => by rw [← hX b hb]; exact iR_le X k b, fun j hj => h2 j ((hL j).mpr hj)⟩, fun Y hY => ?_⟩
  clear h0 h1 h2 h3
  induction k with
  | zero => intro b hb; show sle (Y b) (X b); rw [hX b hb]; exact hY.1 b hb
  | succ k ih => exact eR_ge hm hY L (iRF u rhs L X k, 0) (fun j hj => (hL j).mp hj) ih
/-! block passes -/
def pHF (Hf : (Nat → Int32) → Nat → Int32) (Z : Nat → Int32) : Nat → Nat → Int32
  | 0 => Z
  | b + 1 => upd (pHF Hf Z b) b (Hf (pHF Hf Z b) b)
section FIXC
variable {Hf : (Nat → Int32) → Nat → Int32} {B : Nat}
theorem pH_ge (Z : Nat → Int32) : ∀ n b, n ≤ b → pHF Hf Z n b = Z b := by
  intro n
  induction n with
  | zero => intro b _; rfl
  | succ n ih => intro b hb; simp only [pHF]; rw [pk_un (by omega)]; exact ih b (by omega)
theorem pH_lt (Z : Nat → Int32) : ∀ n b, b < n → pHF Hf Z n b = Hf (pHF Hf Z b) b := by
  intro n
  induction n with
  | zero => intro b hb; omega
  | succ n ih =>
    intro b hb
    simp only [pHF]
    by_cases e : b = n
    · subst e; exact pk_us
    · rw [pk_un e]; exact ih b (by omega)
/-- whether a pass over the first n blocks changes nothing -/
def sameH (Hf : (Nat → Int32) → Nat → Int32) (Z : Nat → Int32) (n : Nat) : Prop := ∀ b, b < n → Hf (pHF Hf Z b) b = pHF Hf Z b b
theorem pH_same {Z : Nat → Int32} : ∀ n, sameH Hf Z n → pHF Hf Z n = Z := by
  intro n
  induction n with
  | zero => intro _; rfl
  | succ n ih =>
    intro h
    have h1 := ih (fun b hb => h b (by omega))
    have h2 := h n (by omega)
    rw [h1] at h2
    simp only [pHF, h1, h2]
    funext j
    by_cases e : j = n
    · subst e; exact pk_us
    · exact pk_un e
theorem same_at {Z : Nat → Int32} {n : Nat} (h : sameH Hf Z n) : ∀ b, b < n → Hf Z b = Z b := fun b hb => by
  have h1 := pH_same b (fun q hq => h q (by omega))
  have h2 := h b hb
  rwa [h1] at h2
/-- monotone on the blocks -/
def monoH (B : Nat) (Hf : (Nat → Int32) → Nat → Int32) : Prop := ∀ X Y : Nat → Int32, (∀ b, b < B → sle (X b) (Y b)) → ∀ b, b < B → sle (Hf X b) (Hf Y b)
def decH (B : Nat) (Hf : (Nat → Int32) → Nat → Int32) (Z : Nat → Int32) : Prop := ∀ b, b < B → sle (Hf Z b) (Z b)
def upH (B : Nat) (Hf : (Nat → Int32) → Nat → Int32) (Z : Nat → Int32) : Prop := ∀ W : Nat → Int32, (∀ b, b < B → sle (W b) (Hf W b)) → ∀ b, b < B → sle (W b) (Z b)
theorem pH_inv (hm : monoH B Hf) {Z : Nat → Int32} (hd : decH B Hf Z) (hu : upH B Hf Z) : ∀ n, n ≤ B → decH B Hf (pHF Hf Z n) ∧ upH B Hf (pHF Hf Z n) ∧ ∀ b, b < B → sle (pHF Hf Z n b) (Z b) := by
  intro n
  induction n with
  | zero => intro _; exact ⟨hd, hu, fun b _ => sle_rf _⟩
  | succ n ih =>
    intro hn
    obtain ⟨h1, h2, h3⟩ := ih (by omega)
    have hle : ∀ b, b < B → sle (pHF Hf Z (n + 1) b) (pHF Hf Z n b) := by
      intro b hb
      simp only [pHF]
      by_cases e : b = n
      · subst e; rw [pk_us]; exact h1 b hb
      · rw [pk_un e]; exact sle_rf _
    refine ⟨fun b hb => ?_, fun W hW b hb => ?_, fun b hb => sle_tr (hle b hb) (h3 b hb)⟩
    · have hq := hm _ _ hle b hb
      simp only [pHF]
      by_cases e : b = n
      · subst e; rw [pk_us]; exact hq
      · rw [pk_un e]; exact sle_tr hq (h1 b hb)
    · simp only [pHF]
      by_cases e : b = n
      · subst e; rw [pk_us]; exact sle_tr (hW b hb) (hm _ _ (h2 W hW) b hb)
      · rw [pk_un e]; exact h2 W hW b hb
theorem pH_change (hm : monoH B Hf) {Z : Nat → Int32} (hd : decH B Hf Z) (hu : upH B Hf Z) {n : Nat} (hn : n ≤ B) (h : ¬ sameH Hf Z n) : sumN (fun b => pop (pHF Hf Z n b)) B < sumN (fun b => pop (Z b)) B := by
  have hx : ∃ b, b < n ∧ Hf (pHF Hf Z b) b ≠ pHF Hf Z b b := Classical.byContradiction fun hno => h (fun b hb => Classical.byContradiction fun hq => hno ⟨b, hb, hq⟩)
  obtain ⟨b, hb, hne⟩ := hx
  obtain ⟨-, -, h3⟩ := pH_inv hm hd hu n hn
  refine sum_lt B (fun q hq => pop_le (h3 q hq)) (q := b) (by omega) (pop_lt (h3 b (by omega)) ?_)
  rw [pH_lt Z n b hb]
  rw [pH_ge Z b b (Nat.le_refl _)] at hne
  exact hne
end FIXC
