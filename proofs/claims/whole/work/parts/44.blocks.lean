/-! the class's sets of a block are the reference's; bits of a set by shifts and by masks -/
theorem b1_bt : ∀ i, i < 32 → bt 1 i = decide (i = 0) := by decide +kernel
theorem sh1 {x : Int32} {k : Nat} (hk : k < 32) : (x >>> (nI k &&& 31)) &&& 1 = if bt x k = true then 1 else 0 := by
  refine b_ext (fun i hi => ?_)
  rw [b_and, b1_bt i hi]
  by_cases e : i = 0
  · subst e
    rw [b_sshr k hk x (by decide)]
    simp only [Nat.add_zero, if_pos hk, decide_true, Bool.and_true]
    cases h : bt x k
    · simp [b_0]
    · simp only [if_true]; rw [b1_bt 0 (by decide)]; rfl
  · rw [decide_eq_false e, Bool.and_false]
    split
    · rw [b1_bt i hi, decide_eq_false e]
    · rw [b_0]
theorem sh_0 {x : Int32} {k : Nat} (hk : k < 32) : (x >>> (nI k &&& 31)) &&& 1 = 0 ↔ bt x k = false := by
  rw [sh1 hk]
  cases h : bt x k
  · simp
  · simp
theorem sh_1 {x : Int32} {k : Nat} (hk : k < 32) : (x >>> (nI k &&& 31)) &&& 1 = 1 ↔ bt x k = true := by
  rw [sh1 hk]
  cases h : bt x k
  · simp
  · simp
theorem msk_0 {x : Int32} {k : Nat} (hk : k < 8) : x &&& oneF k = 0 ↔ bt x k = false := by
  constructor
  · intro h
    have h1 := congrArg (fun z => bt z k) h
    simp only [b_and, b_0] at h1
    rw [one_bt k hk k (by omega), decide_eq_true rfl, Bool.and_true] at h1
    exact h1
  · intro h
    refine b_ext (fun i hi => ?_)
    rw [b_and, one_bt k hk i hi, b_0]
    by_cases e : i = k
    · subst e; rw [h]; rfl
    · rw [decide_eq_false e, Bool.and_false]
theorem b_not {x : Int32} {i : Nat} (hi : i < 32) : bt (x ^^^ -1) i = !bt x i := by rw [b_xor, b_m1 i hi]; cases bt x i <;> rfl
section BLK
variable {E b : Nat} {vs dp : Nat → Int32} {cd : Nat → Nat}
theorem gp_eq (hdp : ∀ v, v < 6 → dp v = depF vs v E) (hcv : ∀ j, cd j % 3 = 2 → cd j / 3 < 6) : ∀ n, gpD dp cd b n = goF E vs cd b n := by
  intro n
  induction n with
  | zero => rfl
  | succ n ih =>
    simp only [gpD, goF, ih]
    by_cases h : cd (12 * b + n) % 3 = 2
    · rw [if_pos h, if_pos h, hdp _ (hcv _ h)]
    · rw [if_neg h, if_neg h]
theorem ep_eq (hdp : ∀ v, v < 6 → dp v = depF vs v E) (hcv : ∀ j, cd j % 3 = 2 → cd j / 3 < 6) : ∀ n, epD dp cd b n = eaF E vs cd b n := by
  intro n
  induction n with
  | zero => rfl
  | succ n ih => simp only [epD, eaF, ih, gp_eq hdp hcv]
theorem lp_eq (hdp : ∀ v, v < 6 → dp v = depF vs v E) (hcv : ∀ j, cd j % 3 = 2 → cd j / 3 < 6) : ∀ n, lpD dp cd b n = laF E vs cd b n := by
  intro n
  induction n with
  | zero => rfl
  | succ n ih =>
    simp only [lpD, laF, ih]
    by_cases h : cd (12 * b + n) % 3 = 2
    · rw [if_neg (by omega), if_pos h, if_pos h, hdp _ (hcv _ h)]
    · by_cases h0 : cd (12 * b + n) % 3 = 0
      · rw [if_pos h0, if_neg h, if_pos h0]
      · rw [if_neg h0, if_neg h, if_neg h, if_neg h0]
theorem kp_eq : ∀ n, kpF E vs cd b n = allF E &&& (goF E vs cd b n ^^^ -1) := by
  intro n
  induction n with
  | zero =>
    refine b_ext (fun i hi => ?_)
    simp only [kpF, goF]
    rw [b_and, b_not hi, b_0]; simp
  | succ n ih =>
    simp only [kpF, goF]
    by_cases h : cd (12 * b + n) % 3 = 2
    · rw [if_pos h, if_pos h, ih]
      refine b_ext (fun i hi => ?_)
      rw [b_and, b_and, b_and, b_not hi, b_not hi, b_not hi, b_or]
      cases bt (allF E) i <;> cases bt (goF E vs cd b n) i <;> cases bt (depF vs (cd (12 * b + n) / 3) E) i <;> rfl
    · rw [if_neg h, if_neg h, ih]
theorem kp_all (n : Nat) : sle (kpF E vs cd b n) (allF E) := by rw [kp_eq]; exact and_l _ _
theorem one_all {k : Nat} (hE : E ≤ 8) (hk : k < E) : sle (oneF k) (allF E) := fun i hi h => by
  rw [one_bt k (by omega) i hi] at h
  rw [all_bt E (by omega) i hi]
  have : i = k := of_decide_eq_true h
  exact decide_eq_true (by omega)
theorem ea_all (hE : E ≤ 8) {n : Nat} (hc : ∀ k, k < n → cd (12 * b + k) % 3 ≠ 2 → cd (12 * b + k) / 3 < E) : sle (eaF E vs cd b n) (allF E) := by
  induction n with
  | zero => exact z_le _
  | succ n ih =>
    have h1 := ih (fun k hk => hc k (by omega))
    simp only [eaF]
    split
    · rename_i h
      exact or_le h1 (sle_tr (and_l _ _) (one_all hE (hc n (by omega) (by omega))))
    · exact h1
theorem la_all (hE : E ≤ 8) {n : Nat} (hc : ∀ k, k < n → cd (12 * b + k) % 3 ≠ 2 → cd (12 * b + k) / 3 < E) : sle (laF E vs cd b n) (allF E) := by
  induction n with
  | zero => exact z_le _
  | succ n ih =>
    have h1 := ih (fun k hk => hc k (by omega))
    simp only [laF]
    split
    · exact sle_tr (and_l _ _) h1
    · split
      · rename_i h
        exact or_le h1 (one_all hE (hc n (by omega) (by omega)))
      · exact h1
end BLK
/-! exits -/
def exOk (M : Nat) (fr : Nat → Nat) (f1 f2 : Nat → Int32) (b : Nat) : Prop :=
  (f1 b = -1 ∧ f2 b = -1 ∧ ∀ j, j < M → fr j ≠ b) ∨ (∃ x, x < M ∧ f1 b = nI x ∧ f2 b = -1 ∧ fr x = b ∧ ∀ j, j < M → fr j = b → j = x) ∨
  (∃ x y, x < y ∧ y < M ∧ f1 b = nI x ∧ f2 b = nI y ∧ fr x = b ∧ fr y = b ∧ ∀ j, j < M → fr j = b → j = x ∨ j = y)
section EXI
variable {fr tt : Nat → Nat} {b M : Nat} {f1 f2 : Nat → Int32}
theorem exF_add (a : Nat) : ∀ d, (∀ j, a ≤ j → j < a + d → fr j ≠ b) → exF fr b (a + d) = exF fr b a := by
  intro d
  induction d with
  | zero => intro _; rfl
  | succ d ih =>
    intro h
    rw [show a + (d + 1) = (a + d) + 1 from rfl]
    simp only [exF]
    rw [if_neg (h (a + d) (by omega) (by omega)), Nat.add_zero]
    exact ih (fun j h1 h2 => h j h1 (by omega))
theorem exF_none (h : ∀ j, j < M → fr j ≠ b) : exF fr b M = 0 := by
  have := exF_add (fr := fr) (b := b) 0 M (fun j _ hj => h j (by omega))
  rw [Nat.zero_add] at this
  rw [this]; rfl
theorem exF_one {x : Nat} (hx : x < M) (hb : fr x = b) (h : ∀ j, j < M → fr j = b → j = x) : exF fr b M = 1 := by
  have h1 := exF_none (fr := fr) (b := b) (M := x) (fun j hj q => by have := h j (by omega) q; omega)
  have h2 := exF_add (fr := fr) (b := b) (x + 1) (M - (x + 1)) (fun j h3 h4 q => by have := h j (by omega) q; omega)
  rw [show x + 1 + (M - (x + 1)) = M by omega] at h2
  rw [h2]; simp only [exF, h1, if_pos hb]
theorem exF_two {x y : Nat} (hxy : x < y) (hy : y < M) (hbx : fr x = b) (hby : fr y = b) (h : ∀ j, j < M → fr j = b → j = x ∨ j = y) : exF fr b M = 2 := by
  have h1 := exF_one (M := y) hxy hbx (fun j hj q => by have := h j (by omega) q; omega)
  have h2 := exF_add (fr := fr) (b := b) (y + 1) (M - (y + 1)) (fun j h3 h4 q => by have := h j (by omega) q; omega)
  rw [show y + 1 + (M - (y + 1)) = M by omega] at h2
  rw [h2]; simp only [exF, h1, if_pos hby]
theorem ex_first (hM : M ≤ 80) (h : exOk M fr f1 f2 b) : f1 b = -1 ↔ exF fr b M = 0 := by
  rcases h with ⟨h1, h2, h3⟩ | ⟨x, hx, h1, h2, h3, h4⟩ | ⟨x, y, hxy, hy, h1, h2, h3, h4, h5⟩
  · exact ⟨fun _ => exF_none h3, fun _ => h1⟩
  · rw [exF_one hx h3 h4, h1]; exact ⟨fun q => absurd q (nI_nm1 (by omega)), fun q => absurd q (by decide)⟩
  · rw [exF_two hxy hy h3 h4 h5, h1]; exact ⟨fun q => absurd q (nI_nm1 (by omega)), fun q => absurd q (by decide)⟩
theorem ex_second (hM : M ≤ 80) (h : exOk M fr f1 f2 b) : f2 b = -1 ↔ exF fr b M ≠ 2 := by
  rcases h with ⟨h1, h2, h3⟩ | ⟨x, hx, h1, h2, h3, h4⟩ | ⟨x, y, hxy, hy, h1, h2, h3, h4, h5⟩
  · rw [exF_none h3]; exact ⟨fun _ => by decide, fun _ => h2⟩
  · rw [exF_one hx h3 h4]; exact ⟨fun _ => by decide, fun _ => h2⟩
  · rw [exF_two hxy hy h3 h4 h5, h2]; exact ⟨fun q => absurd q (nI_nm1 (by omega)), fun q => absurd rfl q⟩
theorem ex_in1 (hM : M ≤ 80) (h : exOk M fr f1 f2 b) : f1 b = -1 ∨ ∃ q, q < 80 ∧ f1 b = nI q := by
  rcases h with ⟨h1, h2, h3⟩ | ⟨x, hx, h1, h2, h3, h4⟩ | ⟨x, y, hxy, hy, h1, h2, h3, h4, h5⟩
  · exact Or.inl h1
  · exact Or.inr ⟨x, by omega, h1⟩
  · exact Or.inr ⟨x, by omega, h1⟩
theorem ex_in2 (hM : M ≤ 80) (h : exOk M fr f1 f2 b) : f2 b = -1 ∨ ∃ q, q < 80 ∧ f2 b = nI q := by
  rcases h with ⟨h1, h2, h3⟩ | ⟨x, hx, h1, h2, h3, h4⟩ | ⟨x, y, hxy, hy, h1, h2, h3, h4, h5⟩
  · exact Or.inl h2
  · exact Or.inl h2
  · exact Or.inr ⟨y, by omega, h2⟩
theorem ex_hi (h : exOk M fr f1 f2 b) (hb : ∀ j, j < M → fr j ≠ b) : f1 b = -1 ∧ f2 b = -1 := by
  rcases h with ⟨h1, h2, h3⟩ | ⟨x, hx, h1, h2, h3, h4⟩ | ⟨x, y, hxy, hy, h1, h2, h3, h4, h5⟩
  · exact ⟨h1, h2⟩
  · exact absurd h3 (hb x hx)
  · exact absurd h3 (hb x (by omega))
theorem dp_iff {f t : Nat} : ∀ n, dpF fr tt f t n ≠ 0 ↔ t = 0 ∨ ∃ j, j < n ∧ fr j = f ∧ tt j = t := by
  intro n
  induction n with
  | zero => simp only [dpF]; split
            · rename_i h; exact ⟨fun _ => Or.inl h, fun _ => by decide⟩
            · rename_i h; exact ⟨fun q => absurd rfl q, fun q => q.elim (fun z => absurd z h) (fun ⟨j, hj, _⟩ => absurd hj (Nat.not_lt_zero _))⟩
  | succ n ih =>
    simp only [dpF]
    by_cases h : dpF fr tt f t n ≠ 0
    · rw [if_pos h]
      refine ⟨fun _ => (ih.mp h).elim Or.inl (fun ⟨j, hj, q⟩ => Or.inr ⟨j, by omega, q⟩), fun _ => by decide⟩
    · rw [if_neg h]
      constructor
      · intro q
        by_cases h1 : fr n = f
        · rw [if_pos h1] at q
          by_cases h2 : tt n = t
          · exact Or.inr ⟨n, by omega, h1, h2⟩
          · rw [if_neg h2] at q; exact absurd rfl q
        · rw [if_neg h1] at q; exact absurd rfl q
      · rintro (q | ⟨j, hj, h1, h2⟩)
        · exact absurd (ih.mpr (Or.inl q)) h
        · by_cases e : j = n
          · subst e; rw [if_pos h1, if_pos h2]; decide
          · exact absurd (ih.mpr (Or.inr ⟨j, by omega, h1, h2⟩)) h
theorem has_iff {t : Nat} (hM : M ≤ 80) (h : exOk M fr f1 f2 b) : hasF tt f1 f2 b t ≠ 0 ↔ ∃ j, j < M ∧ fr j = b ∧ tt j = t := by
  unfold hasF
  rcases h with ⟨h1, h2, h3⟩ | ⟨x, hx, h1, h2, h3, h4⟩ | ⟨x, y, hxy, hy, h1, h2, h3, h4, h5⟩
  · rw [if_neg (fun q => q.1 h1), if_neg (fun q => q.1 h2)]
    exact ⟨fun q => absurd rfl q, fun ⟨j, hj, q, _⟩ => absurd q (h3 j hj)⟩
  · rw [h1, nI_clamp (show x < 2 ^ 31 by omega)]
    by_cases e : tt x = t
    · rw [if_pos ⟨nI_nm1 (by omega), e⟩]; exact ⟨fun _ => ⟨x, hx, h3, e⟩, fun _ => by decide⟩
    · rw [if_neg (fun q => e q.2), if_neg (fun q => q.1 h2)]
      exact ⟨fun q => absurd rfl q, fun ⟨j, hj, q, z⟩ => by have := h4 j hj q; subst this; exact absurd z e⟩
  · rw [h1, h2, nI_clamp (show x < 2 ^ 31 by omega), nI_clamp (show y < 2 ^ 31 by omega)]
    by_cases e : tt x = t
    · rw [if_pos ⟨nI_nm1 (by omega), e⟩]; exact ⟨fun _ => ⟨x, by omega, h3, e⟩, fun _ => by decide⟩
    · rw [if_neg (fun q => e q.2)]
      by_cases e2 : tt y = t
      · rw [if_pos ⟨nI_nm1 (by omega), e2⟩]; exact ⟨fun _ => ⟨y, hy, h4, e2⟩, fun _ => by decide⟩
      · rw [if_neg (fun q => e2 q.2)]
        exact ⟨fun q => absurd rfl q, fun ⟨j, hj, q, z⟩ => by rcases h5 j hj q with r | r <;> subst r <;> contradiction⟩
theorem xt_skip (n lf : Nat) : ∀ d i, (∀ j, i ≤ j → j < i + d → fr j ≠ b) → xtF fr tt b (d + n) i lf = xtF fr tt b n (i + d) lf := by
  intro d
  induction d with
  | zero => intro i _; rw [Nat.zero_add]; rfl
  | succ d ih =>
    intro i h
    rw [show d + 1 + n = (d + n) + 1 by omega]
    simp only [xtF]
    rw [if_neg (h i (by omega) (by omega)), ih (i + 1) (fun j h1 h2 => h j (by omega) (by omega))]
    rw [show i + 1 + d = i + (d + 1) by omega]
theorem xt_at {x : Nat} (hx : x < M) (hb : fr x = b) (i lf : Nat) (hi : i ≤ x) (h : ∀ j, i ≤ j → j < x → fr j ≠ b) : xtF fr tt b (M - i) i lf = if lf = 0 then nI (tt x) else xtF fr tt b (M - (x + 1)) (x + 1) (lf - 1) := by
  have h1 := xt_skip (tt := tt) (M - x) lf (x - i) i (fun j h1 h2 => h j h1 (by omega))
  rw [show x - i + (M - x) = M - i by omega, show i + (x - i) = x by omega, show M - x = (M - (x + 1)) + 1 by omega] at h1
  rw [h1]
  simp only [xtF, if_pos hb]
theorem xt_no (i lf : Nat) (hi : i ≤ M) (h : ∀ j, i ≤ j → j < M → fr j ≠ b) : xtF fr tt b (M - i) i lf = -1 := by
  have h1 := xt_skip (tt := tt) 0 lf (M - i) i (fun j h1 h2 => h j h1 (by omega))
  rw [Nat.add_zero] at h1
  rw [h1]; rfl
theorem xt_1 (hM : M ≤ 80) (h : exOk M fr f1 f2 b) : xtF fr tt b M 0 0 = if f1 b = -1 then -1 else nI (tt (f1 b).toNatClampNeg) := by
  rcases h with ⟨h1, h2, h3⟩ | ⟨x, hx, h1, h2, h3, h4⟩ | ⟨x, y, hxy, hy, h1, h2, h3, h4, h5⟩
  · rw [if_pos h1]; exact xt_no 0 0 (Nat.zero_le _) (fun j _ hj => h3 j hj)
  · rw [h1, if_neg (nI_nm1 (by omega)), nI_clamp (show x < 2 ^ 31 by omega)]
    exact (xt_at hx h3 0 0 (Nat.zero_le _) (fun j _ hj q => by have := h4 j (by omega) q; omega)).trans (if_pos rfl)
  · rw [h1, if_neg (nI_nm1 (by omega)), nI_clamp (show x < 2 ^ 31 by omega)]
    exact (xt_at (by omega) h3 0 0 (Nat.zero_le _) (fun j _ hj q => by have := h5 j (by omega) q; omega)).trans (if_pos rfl)
theorem xt_2 (hM : M ≤ 80) (h : exOk M fr f1 f2 b) : xtF fr tt b M 0 1 = if f2 b = -1 then -1 else nI (tt (f2 b).toNatClampNeg) := by
  rcases h with ⟨h1, h2, h3⟩ | ⟨x, hx, h1, h2, h3, h4⟩ | ⟨x, y, hxy, hy, h1, h2, h3, h4, h5⟩
  · rw [if_pos h2]; exact xt_no 0 1 (Nat.zero_le _) (fun j _ hj => h3 j hj)
  · rw [if_pos h2]
    refine (xt_at hx h3 0 1 (Nat.zero_le _) (fun j _ hj q => by have := h4 j (by omega) q; omega)).trans ?_
    rw [if_neg (by decide)]
    exact xt_no (x + 1) _ (by omega) (fun j h6 hj q => by have := h4 j hj q; omega)
  · rw [h2, if_neg (nI_nm1 (by omega)), nI_clamp (show y < 2 ^ 31 by omega)]
    refine (xt_at (by omega) h3 0 1 (Nat.zero_le _) (fun j _ hj q => by have := h5 j (by omega) q; omega)).trans ?_
    rw [if_neg (by decide)]
    exact (xt_at hy h4 (x + 1) _ (by omega) (fun j h6 hj q => by have := h5 j (by omega) q; omega)).trans (if_pos rfl)
end EXI
