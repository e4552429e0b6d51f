/-! rows on bits: the first family of the kit's BITS.to-paste, pasted; then sets of expressions by their bits -/
def bt (x : Int32) (i : Nat) : Bool := x.toBitVec.getLsbD i
theorem b_ext {x y : Int32} (h : ∀ i, i < 32 → bt x i = bt y i) : x = y := Int32.toBitVec_inj.mp (BitVec.eq_of_getLsbD_eq (fun i hi => h i hi))
theorem b_or (x y : Int32) (i : Nat) : bt (x ||| y) i = (bt x i || bt y i) := by unfold bt; rw [Int32.toBitVec_or, BitVec.getLsbD_or]
theorem b_and (x y : Int32) (i : Nat) : bt (x &&& y) i = (bt x i && bt y i) := by unfold bt; rw [Int32.toBitVec_and, BitVec.getLsbD_and]
theorem b_xor (x y : Int32) (i : Nat) : bt (x ^^^ y) i = (bt x i ^^ bt y i) := by unfold bt; rw [Int32.toBitVec_xor, BitVec.getLsbD_xor]
theorem b_big {x : Int32} {i : Nat} (h : 32 ≤ i) : bt x i = false := BitVec.getLsbD_of_ge _ _ h
theorem b_m1 : ∀ i, i < 32 → bt (-1) i = true := by decide +kernel
theorem b_0 (i : Nat) : bt 0 i = false := BitVec.getLsbD_zero
theorem s_l : ∀ n, n < 32 → ((nI n &&& 31).toBitVec.smod 32).toNat = n := by decide +kernel
theorem s_u : ∀ n, n < 32 → (((nI n).toUInt32 &&& Int32.toUInt32 31).toBitVec % 32).toNat = n := by decide +kernel
theorem b_shl (n : Nat) (hn : n < 32) (x : Int32) {i : Nat} (hi : i < 32) : bt (x <<< (nI n &&& 31)) i = (decide (n ≤ i) && bt x (i - n)) := by
  unfold bt
  rw [Int32.toBitVec_shiftLeft]
  show (x.toBitVec <<< ((nI n &&& 31).toBitVec.smod 32).toNat).getLsbD i = _
  rw [s_l n hn, BitVec.getLsbD_shiftLeft]
  rcases Nat.lt_or_ge i n with h | h
  · simp [h, Nat.not_le.mpr h]
  · simp [hi, h, Nat.not_lt.mpr h]
theorem b_sshr (n : Nat) (hn : n < 32) (x : Int32) {i : Nat} (hi : i < 32) : bt (x >>> (nI n &&& 31)) i = if n + i < 32 then bt x (n + i) else bt x 31 := by
  unfold bt
  rw [Int32.toBitVec_shiftRight]
  show (x.toBitVec.sshiftRight ((nI n &&& 31).toBitVec.smod 32).toNat).getLsbD i = _
  rw [s_l n hn, BitVec.getLsbD_sshiftRight, BitVec.msb_eq_getLsbD_last]
  simp [hi]
/-- a is part of b -/
def sle (a b : Int32) : Prop := ∀ i, i < 32 → bt a i = true → bt b i = true
theorem sle_rf (a : Int32) : sle a a := fun _ _ h => h
theorem sle_tr {a b c : Int32} (h1 : sle a b) (h2 : sle b c) : sle a c := fun i hi h => h2 i hi (h1 i hi h)
theorem sle_as {a b : Int32} (h1 : sle a b) (h2 : sle b a) : a = b := b_ext (fun i hi => Bool.eq_iff_iff.mpr ⟨h1 i hi, h2 i hi⟩)
theorem sle_eq {a b : Int32} : a &&& b = a ↔ sle a b := by
  constructor
  · intro h i hi ha
    rw [← h, b_and] at ha
    exact (Bool.and_eq_true_iff.mp ha).2
  · intro h
    refine b_ext (fun i hi => ?_)
    rw [b_and]
    cases ha : bt a i
    · rfl
    · rw [h i hi ha]; rfl
theorem sle_and {a b c : Int32} (h1 : sle a b) (h2 : sle a c) : sle a (b &&& c) := fun i hi h => by rw [b_and, h1 i hi h, h2 i hi h]; rfl
theorem and_l (a b : Int32) : sle (a &&& b) a := fun i _ h => by rw [b_and] at h; exact (Bool.and_eq_true_iff.mp h).1
theorem and_r (a b : Int32) : sle (a &&& b) b := fun i _ h => by rw [b_and] at h; exact (Bool.and_eq_true_iff.mp h).2
theorem or_l (a b : Int32) : sle a (a ||| b) := fun i _ h => by rw [b_or, h]; rfl
theorem or_r (a b : Int32) : sle b (a ||| b) := fun i _ h => by rw [b_or, h, Bool.or_true]
theorem or_le {a b c : Int32} (h1 : sle a c) (h2 : sle b c) : sle (a ||| b) c := fun i hi h => by
  rw [b_or] at h
  rcases Bool.or_eq_true_iff.mp h with h | h
  · exact h1 i hi h
  · exact h2 i hi h
theorem or_mo {a b c d : Int32} (h1 : sle a c) (h2 : sle b d) : sle (a ||| b) (c ||| d) := or_le (sle_tr h1 (or_l _ _)) (sle_tr h2 (or_r _ _))
theorem and_mo {a b c d : Int32} (h1 : sle a c) (h2 : sle b d) : sle (a &&& b) (c &&& d) := sle_and (sle_tr (and_l _ _) h1) (sle_tr (and_r _ _) h2)
theorem z_le (a : Int32) : sle 0 a := fun i _ h => by rw [b_0] at h; exact absurd h (by decide)
theorem le_z {a : Int32} (h : sle a 0) : a = 0 := sle_as h (z_le a)
/-- how many there are -/
def popN (x : Int32) : Nat → Nat
  | 0 => 0
  | n + 1 => popN x n + if bt x n = true then 1 else 0
def pop (x : Int32) : Nat := popN x 32
theorem popN_le {a b : Int32} (h : sle a b) : ∀ n, n ≤ 32 → popN a n ≤ popN b n := by
  intro n
  induction n with
  | zero => intro _; exact Nat.le_refl _
  | succ n ih =>
    intro hn
    have h1 := ih (by omega)
    have h2 := h n (by omega)
    simp only [popN]
    by_cases ha : bt a n = true
    · rw [if_pos ha, if_pos (h2 ha)]; omega
    · rw [if_neg ha]; omega
theorem pop_le {a b : Int32} (h : sle a b) : pop a ≤ pop b := popN_le h 32 (Nat.le_refl _)
theorem popN_lt {a b : Int32} (h : sle a b) {i : Nat} (hb : bt b i = true) (ha : ¬ bt a i = true) : ∀ n, i < n → n ≤ 32 → popN a n < popN b n := by
  intro n
  induction n with
  | zero => intro h1; omega
  | succ n ih =>
    intro h1 hn
    have h2 := h n (by omega)
    simp only [popN]
    by_cases e : i = n
    · subst e
      have h3 := popN_le h i (by omega)
      rw [if_neg ha, if_pos hb]; omega
    · have h3 := ih (by omega) (by omega)
      by_cases hc : bt a n = true
      · rw [if_pos hc, if_pos (h2 hc)]; omega
      · rw [if_neg hc]; omega
theorem pop_lt {a b : Int32} (h : sle a b) (hne : a ≠ b) : pop a < pop b := by
  rcases Classical.em (∃ i, i < 32 ∧ bt b i = true ∧ ¬ bt a i = true) with ⟨i, hi, h1, h2⟩ | hno
  · exact popN_lt h h1 h2 32 hi (Nat.le_refl _)
  · exact absurd (sle_as h (fun i hi hb => Classical.byContradiction fun ha => hno ⟨i, hi, hb, ha⟩)) hne
theorem popN_8 {x : Int32} (h : ∀ i, 8 ≤ i → i < 32 → bt x i = false) : ∀ n, n ≤ 32 → popN x n ≤ 8 ∧ popN x n ≤ n := by
  intro n
  induction n with
  | zero => intro _; exact ⟨Nat.zero_le _, Nat.le_refl _⟩
  | succ n ih =>
    intro hn
    have h1 := ih (by omega)
    simp only [popN]
    by_cases h8 : 8 ≤ n
    · rw [h n h8 (by omega), if_neg (by decide)]; omega
    · split <;> omega
theorem all_bt : ∀ E, E < 9 → ∀ i, i < 32 → bt (allF E) i = decide (i < E) := by decide +kernel
theorem one_bt : ∀ k, k < 8 → ∀ i, i < 32 → bt (oneF k) i = decide (i = k) := by decide +kernel
theorem pop_all {x : Int32} {E : Nat} (hE : E ≤ 8) (h : sle x (allF E)) : pop x ≤ 8 := by
  refine (popN_8 (fun i h8 hi => ?_) 32 (Nat.le_refl _)).1
  cases hb : bt x i
  · rfl
  · have := h i hi hb
    rw [all_bt E (by omega) i hi] at this
    simp at this
    omega
/-- sums over the first n places -/
def sumN (f : Nat → Nat) : Nat → Nat
  | 0 => 0
  | n + 1 => sumN f n + f n
theorem sum_le {f g : Nat → Nat} (n : Nat) (h : ∀ b, b < n → f b ≤ g b) : sumN f n ≤ sumN g n := by
  induction n with
  | zero => exact Nat.le_refl _
  | succ n ih =>
    have h1 := ih (fun b hb => h b (by omega))
    have h2 := h n (by omega)
    simp only [sumN]; omega
theorem sum_lt {f g : Nat → Nat} (n : Nat) (h : ∀ b, b < n → f b ≤ g b) {q : Nat} (hq : q < n) (hl : f q < g q) : sumN f n < sumN g n := by
  induction n with
  | zero => omega
  | succ n ih =>
    have h2 := h n (by omega)
    simp only [sumN]
    by_cases e : q = n
    · subst e
      have h1 := sum_le q (fun b hb => h b (by omega))
      omega
    · have h1 := ih (fun b hb => h b (by omega)) (by omega)
      omega
theorem sum_bd {f : Nat → Nat} {c : Nat} (n : Nat) (h : ∀ b, b < n → f b ≤ c) : sumN f n ≤ c * n := by
  induction n with
  | zero => exact Nat.zero_le _
  | succ n ih =>
    have h1 := ih (fun b hb => h b (by omega))
    have h2 := h n (by omega)
    simp only [sumN, Nat.mul_succ]; omega
