/-! what each call keeps -/
theorem pv_0 : PIv 0 (fun _ => 0) (fun _ => 0) 1 (fun _ => 0) (fun _ => 0) 0 (fun _ => 0) (fun _ => 0) (fun _ => -1) (fun _ => -1) :=
  ⟨⟨by omega, by omega, by omega, by omega⟩, ⟨fun _ => Nat.zero_le _, fun _ => Nat.le_of_ble_eq_true rfl, fun _ => Nat.le_of_ble_eq_true rfl, fun _ => Nat.le_of_ble_eq_true rfl, fun j h => by show 0 / 3 < 6; omega⟩, fun _ _ => rfl, ⟨fun j h => by omega, fun j h => by omega⟩, fun v _ => rfl, fun b k h => absurd h (Nat.not_lt_zero k), fun b => Or.inl ⟨rfl, rfl, fun j h => by omega⟩⟩
theorem dep_c {vs vs' : Nat → Int32} {v : Nat} : ∀ n, (∀ j, j < n → vs j = vs' j) → depF vs v n = depF vs' v n := by
  intro n
  induction n with
  | zero => intro _; rfl
  | succ n ih => intro h; simp only [depF]; rw [h n (by omega), ih (fun j hj => h j (by omega))]
theorem nd_eq {dp : Nat → Int32} {k E : Nat} : ∀ n v, ndF dp k E n v = if v < n ∧ ¬ (nI k >>> (nI v &&& 31)) &&& 1 = 0 then dp v ||| oneF E else dp v := by
  intro n
  induction n with
  | zero => intro v; rw [if_neg (by omega)]; rfl
  | succ n ih =>
    intro v
    simp only [ndF]
    by_cases e : v = n
    · subst e
      by_cases h : (nI k >>> (nI v &&& 31)) &&& 1 = 0
      · rw [if_pos h, ih v, if_neg (by omega), if_neg (fun q => q.2 h)]
      · rw [if_neg h, pk_us, ih v, if_neg (by omega), if_pos ⟨by omega, h⟩]
    · have hq : (v < n + 1) = (v < n) := propext ⟨fun _ => by omega, fun _ => by omega⟩
      simp only [hq]
      by_cases h : (nI k >>> (nI n &&& 31)) &&& 1 = 0
      · rw [if_pos h, ih v]
      · rw [if_neg h, pk_un e, ih v]
def CIv (E : Nat) (sz cd : Nat → Nat) : Prop := (∀ j, sz j ≤ 12) ∧ (∀ j, cd j < 24) ∧ (∀ j, cd j % 3 = 2 → cd j / 3 < 6) ∧ ∀ b k, k < sz b → cd (12 * b + k) % 3 ≠ 2 → cd (12 * b + k) / 3 < E
section KEE
variable {E : Nat} {vs dp : Nat → Int32} {B : Nat} {sz cd : Nat → Nat} {M : Nat} {fr tt : Nat → Nat} {f1 f2 : Nat → Int32}
theorem pv_expr (h : PIv E vs dp B sz cd M fr tt f1 f2) (hE8 : E < 8) {k : Nat} : PIv (E + 1) (upd vs E (nI k)) (ndF dp k E 6) B sz cd M fr tt f1 f2 := by
  obtain ⟨⟨hE, hB1, hB, hM⟩, hs, hzB, hft, hdp, hcE, hex⟩ := h
  refine ⟨⟨by omega, hB1, hB, hM⟩, hs, hzB, hft, fun v hv => ?_, fun b q hq hc => Nat.lt_succ_of_lt (hcE b q hq hc), hex⟩
  rw [nd_eq]
  simp only [depF]
  rw [pk_us, dep_c (vs := upd vs E (nI k)) (vs' := vs) E (fun j hj => pk_un (by omega)), hdp v hv]
  by_cases q : (nI k >>> (nI v &&& 31)) &&& 1 = 0
  · rw [if_neg (fun z => z.2 q), if_neg (by rw [q]; decide)]
  · rw [if_pos ⟨hv, q⟩, if_pos ((sh_1 (by omega)).mpr (by
      cases hb : bt (nI k) v
      · exact absurd ((sh_0 (by omega)).mpr hb) q
      · rfl))]
theorem pv_block (h : PIv E vs dp B sz cd M fr tt f1 f2) (hB40 : B < 40) : PIv E vs dp (B + 1) sz cd M fr tt f1 f2 := by
  obtain ⟨⟨hE, hB1, hB, hM⟩, hs, hzB, hft, hdp, hcE, hex⟩ := h
  exact ⟨⟨hE, by omega, by omega, hM⟩, hs, fun b hb => hzB b (by omega), ⟨fun j hj => Nat.lt_succ_of_lt (hft.1 j hj), fun j hj => Nat.lt_succ_of_lt (hft.2 j hj)⟩, hdp, hcE, hex⟩
theorem ex_new {f : Nat} (hM : M ≤ 80) (hex : ∀ b, exOk M fr f1 f2 b) (hf2 : f2 f = -1) : ∀ b, exOk (M + 1) (upN fr M f) (if f1 f = -1 then upd f1 f (nI M) else f1) (if f1 f = -1 then f2 else upd f2 f (nI M)) b := by
  intro b
  have hu : ∀ j, j < M → upN fr M f j = fr j := fun j hj => upN_n (by omega)
  by_cases e : b = f
  · subst e
    rcases hex b with ⟨h1, h2, h3⟩ | ⟨x, hx, h1, h2, h3, h4⟩ | ⟨x, y, hxy, hy, h1, h2, -⟩
    · rw [if_pos h1, if_pos h1]
      refine Or.inr (Or.inl ⟨M, by omega, pk_us, h2, upN_s, fun j hj hb => ?_⟩)
      by_cases q : j = M
      · exact q
      · rw [hu j (by omega)] at hb; exact absurd hb (h3 j (by omega))
    · have hn : ¬ f1 b = -1 := by rw [h1]; exact nI_nm1 (by omega)
      rw [if_neg hn, if_neg hn]
      refine Or.inr (Or.inr ⟨x, M, hx, by omega, h1, pk_us, by rw [hu x hx]; exact h3, upN_s, fun j hj hb => ?_⟩)
      by_cases q : j = M
      · exact Or.inr q
      · rw [hu j (by omega)] at hb; exact Or.inl (h4 j (by omega) hb)
    · rw [hf2] at h2; exact absurd h2.symm (nI_nm1 (by omega))
  · have h1' : (if f1 f = -1 then upd f1 f (nI M) else f1) b = f1 b := by
      split
      · exact pk_un e
      · rfl
    have h2' : (if f1 f = -1 then f2 else upd f2 f (nI M)) b = f2 b := by
      split
      · rfl
      · exact pk_un e
    have hb' : ∀ j, j < M + 1 → upN fr M f j = b → j < M ∧ fr j = b := fun j hj hb => by
      by_cases q : j = M
      · subst q; rw [upN_s] at hb; exact absurd hb.symm e
      · rw [hu j (by omega)] at hb; exact ⟨by omega, hb⟩
    unfold exOk
    rw [h1', h2']
    rcases hex b with ⟨h1, h2, h3⟩ | ⟨x, hx, h1, h2, h3, h4⟩ | ⟨x, y, hxy, hy, h1, h2, h3, h4, h5⟩
    · exact Or.inl ⟨h1, h2, fun j hj hb => h3 j (hb' j hj hb).1 (hb' j hj hb).2⟩
    · exact Or.inr (Or.inl ⟨x, by omega, h1, h2, by rw [hu x hx]; exact h3, fun j hj hb => h4 j (hb' j hj hb).1 (hb' j hj hb).2⟩)
    · exact Or.inr (Or.inr ⟨x, y, hxy, by omega, h1, h2, by rw [hu x (by omega)]; exact h3, by rw [hu y hy]; exact h4, fun j hj hb => h5 j (hb' j hj hb).1 (hb' j hj hb).2⟩)
theorem upN_in {f : Nat → Nat} {k x n m : Nat} (h : ∀ j, j < m → f j < n) (hx : x < n) : ∀ j, (j < m ∨ j = k) → upN f k x j < n := by
  intro j hj
  by_cases e : j = k
  · subst e; rw [upN_s]; exact hx
  · rw [upN_n e]; exact h j (by omega)
theorem pv_edge (h : PIv E vs dp B sz cd M fr tt f1 f2) {f t : Nat} (hM80 : M < 80) (hf : f < B) (ht : t < B) (hf2 : f2 f = -1) : PIv E vs dp B sz cd (M + 1) (upN fr M f) (upN tt M t) (if f1 f = -1 then upd f1 f (nI M) else f1) (if f1 f = -1 then f2 else upd f2 f (nI M)) := by
  obtain ⟨⟨hE, hB1, hB, hM⟩, ⟨hsz, hcd, hfr, htt, hcv⟩, hzB, hft, hdp, hcE, hex⟩ := h
  exact ⟨⟨hE, hB1, hB, by omega⟩, ⟨hsz, hcd, upN_lt hfr (by omega), upN_lt htt (by omega), hcv⟩, hzB, ⟨fun j hj => upN_in hft.1 hf j (by omega), fun j hj => upN_in hft.2 ht j (by omega)⟩, hdp, hcE, ex_new hM hex hf2⟩
theorem pv_c (h : PIv E vs dp B sz cd M fr tt f1 f2) : CIv E sz cd := by
  obtain ⟨-, ⟨hsz, hcd, hfr, htt, hcv⟩, hzB, hft, hdp, hcE, hex⟩ := h
  exact ⟨hsz, hcd, hcv, hcE⟩
theorem pv_of {sz' cd' : Nat → Nat} (h : PIv E vs dp B sz cd M fr tt f1 f2) (hc : CIv E sz' cd') (hz : ∀ b, B ≤ b → sz' b = 0) : PIv E vs dp B sz' cd' M fr tt f1 f2 := by
  obtain ⟨h1, ⟨hsz, hcd, hfr, htt, hcv⟩, hzB, hft, hdp, hcE, hex⟩ := h
  exact ⟨h1, ⟨hc.1, hc.2.1, hfr, htt, hc.2.2.1⟩, hz, hft, hdp, hc.2.2.2, hex⟩
theorem cv_app (h : CIv E sz cd) {b v k : Nat} (hs : sz b < 12) (hE : E ≤ 8) (hk : k < 3) (h2 : k = 2 → v < 6) (hn : k ≠ 2 → v < E) : CIv E (upN sz b (sz b + 1)) (upN cd (12 * b + sz b) (3 * v + k)) := by
  obtain ⟨c1, c2, c3, c4⟩ := h
  have hv : 3 * v + k < 24 := by
    by_cases e : k = 2
    · have := h2 e; omega
    · have := hn e; omega
  refine ⟨fun j => ?_, upN_lt c2 hv, fun j hj => ?_, fun b' q hq hc => ?_⟩
  · by_cases e : j = b
    · subst e; rw [upN_s]; omega
    · rw [upN_n e]; exact c1 j
  · by_cases e : j = 12 * b + sz b
    · subst e; rw [upN_s] at hj ⊢
      have := h2 (by omega); omega
    · rw [upN_n e] at hj ⊢; exact c3 j hj
  · by_cases e : 12 * b' + q = 12 * b + sz b
    · rw [e, upN_s] at hc ⊢
      have := hn (by omega); omega
    · rw [upN_n e] at hc ⊢
      refine c4 b' q ?_ hc
      by_cases e2 : b' = b
      · subst e2; rw [upN_s] at hq; omega
      · rw [upN_n e2] at hq; exact hq
theorem pv_app (h : PIv E vs dp B sz cd M fr tt f1 f2) {b v k : Nat} (hb : b < B) (hs : sz b < 12) (hk : k < 3) (h2 : k = 2 → v < 6) (hn : k ≠ 2 → v < E) : PIv E vs dp B (upN sz b (sz b + 1)) (upN cd (12 * b + sz b) (3 * v + k)) M fr tt f1 f2 :=
  pv_of h (cv_app (pv_c h) hs h.1.1 hk h2 hn) (fun q hq => by rw [upN_n (by omega)]; exact h.2.2.1 q hq)
theorem pv_drop (h : PIv E vs dp B sz cd M fr tt f1 f2) {b : Nat} : PIv E vs dp B (upN sz b (sz b - 1)) cd M fr tt f1 f2 := by
  obtain ⟨c1, c2, c3, c4⟩ := pv_c h
  have hle : ∀ j, upN sz b (sz b - 1) j ≤ sz j := fun j => by
    by_cases e : j = b
    · subst e; rw [upN_s]; omega
    · rw [upN_n e]; exact Nat.le_refl _
  exact pv_of h ⟨fun j => Nat.le_trans (hle j) (c1 j), c2, c3, fun b' q hq hc => c4 b' q (Nat.lt_of_lt_of_le hq (hle b')) hc⟩ (fun q hq => by have := hle q; have := h.2.2.1 q hq; omega)
/-! move -/
theorem cv_turn (h : CIv E sz cd) {q : Nat} (h0 : cd q % 3 = 0) : CIv E sz (upN cd q (cd q + 1)) := by
  obtain ⟨c1, c2, c3, c4⟩ := h
  refine ⟨c1, upN_lt c2 (by have := c2 q; omega), fun j hj => ?_, fun b k hk hc => ?_⟩
  · by_cases e : j = q
    · subst e; rw [upN_s] at hj; omega
    · rw [upN_n e] at hj ⊢; exact c3 j hj
  · by_cases e : 12 * b + k = q
    · subst e; rw [upN_s] at hc ⊢
      have := c4 b k hk (by omega); omega
    · rw [upN_n e] at hc ⊢; exact c4 b k hk hc
theorem dt_cv (h : CIv E sz cd) (b : Nat) (g : Int32) : ∀ n, CIv E sz (dtF cd b g n).2 := by
  intro n
  induction n with
  | zero => exact h
  | succ n ih =>
    simp only [dtF]
    split
    · rename_i h0
      split
      · exact ih
      · exact cv_turn ih h0
    · exact ih
theorem tf_dt (hcd : ∀ j, cd j < 24) (b : Nat) (g ch : Int32) : ∀ n, (tfF cd b g ch n).1 = (dtF cd b g n).1 ∧ (tfF cd b g ch n).2.1 = (dtF cd b g n).2 := by
  intro n
  induction n with
  | zero => exact ⟨rfl, rfl⟩
  | succ n ih =>
    have hlt := dt_lt hcd b g n (12 * b + n)
    simp only [tfF, dtF]
    rw [ih.1, ih.2]
    by_cases h0 : (dtF cd b g n).2 (12 * b + n) % 3 = 0
    · rw [if_pos h0, if_pos h0]
      by_cases h1 : bt (dtF cd b g n).1 ((dtF cd b g n).2 (12 * b + n) / 3) = false
      · rw [if_pos ((msk_0 (by omega)).mpr h1), if_pos ((sh_0 (by omega)).mpr h1)]; exact ⟨rfl, rfl⟩
      · rw [if_neg (fun q => h1 ((msk_0 (by omega)).mp q)), if_neg (fun q => h1 ((sh_0 (by omega)).mp q))]; exact ⟨rfl, rfl⟩
    · rw [if_neg h0, if_neg h0]; exact ⟨rfl, rfl⟩
theorem tf_fl (b : Nat) (g ch : Int32) : ∀ n, ((tfF cd b g ch n).2.2 = ch ∧ (tfF cd b g ch n).2.1 = cd) ∨ (tfF cd b g ch n).2.2 = nI 1 := by
  intro n
  induction n with
  | zero => exact Or.inl ⟨rfl, rfl⟩
  | succ n ih =>
    simp only [tfF]
    split
    · split
      · exact ih
      · exact Or.inr rfl
    · exact ih
theorem dl_cd (h : CIv E sz cd) {de g : Nat → Int32} {ch : Int32} : ∀ n, (∀ b, b < n → de b = g b) → (dlC sz de cd ch n).1 = cdF sz g cd n ∧ CIv E sz (dlC sz de cd ch n).1 ∧ (((dlC sz de cd ch n).2 = ch ∧ (dlC sz de cd ch n).1 = cd) ∨ (dlC sz de cd ch n).2 = nI 1) := by
  intro n
  induction n with
  | zero => intro _; exact ⟨rfl, h, Or.inl ⟨rfl, rfl⟩⟩
  | succ n ih =>
    intro he
    obtain ⟨i1, i2, i3⟩ := ih (fun b hb => he b (by omega))
    have t1 := tf_dt i2.2.1 n (de n) (dlC sz de cd ch n).2 (sz n)
    have t2 := tf_fl (cd := (dlC sz de cd ch n).1) n (de n) (dlC sz de cd ch n).2 (sz n)
    have t3 := dt_cv i2 n (de n) (sz n)
    have e1 : (dlC sz de cd ch (n + 1)).1 = (dtF (dlC sz de cd ch n).1 n (de n) (sz n)).2 := t1.2
    refine ⟨by rw [e1, i1, he n (by omega)]; rfl, by rw [e1]; exact t3, ?_⟩
    rcases t2 with ⟨q1, q2⟩ | q
    · rcases i3 with ⟨r1, r2⟩ | r
      · exact Or.inl ⟨q1.trans r1, q2.trans r2⟩
      · exact Or.inr (q1.trans r)
    · exact Or.inr q
theorem ic_is (hz : sz B = 0) (g : Int32) : ∀ i, i ≤ 32 → icF B g sz cd i = isF B g sz cd i := by
  intro i
  induction i with
  | zero =>
    intro _
    simp only [icF, isF]
    rw [show upN sz B 0 = sz from funext (fun j => by
      by_cases e : j = B
      · subst e; rw [upN_s, hz]
      · rw [upN_n e])]
  | succ i ih =>
    intro hi
    simp only [icF, isF]
    rw [ih (by omega)]
    cases hb : bt g i
    · rw [if_pos ((sh_0 (by omega)).mpr hb), if_neg (fun q => by rw [(sh_1 (by omega)).mp q] at hb; cases hb)]
    · rw [if_neg (fun q => by rw [(sh_0 (by omega)).mp q] at hb; cases hb), if_pos ((sh_1 (by omega)).mpr hb)]
theorem ic_cv (h : CIv E sz cd) (hE : E ≤ 8) (hz : sz B = 0) (g : Int32) : ∀ i, i ≤ E → CIv E (icF B g sz cd i).1 (icF B g sz cd i).2 ∧ (icF B g sz cd i).1 B ≤ i ∧ ∀ b, b ≠ B → (icF B g sz cd i).1 b = sz b := by
  intro i
  induction i with
  | zero => intro _; exact ⟨h, by show sz B ≤ 0; omega, fun _ _ => rfl⟩
  | succ i ih =>
    intro hi
    obtain ⟨i1, i2, i3⟩ := ih (by omega)
    simp only [icF]
    split
    · exact ⟨i1, Nat.le_succ_of_le i2, i3⟩
    · exact ⟨cv_app i1 (by omega) hE (by omega) (fun q => by omega) (fun _ => by omega), by show upN _ B _ B ≤ _; rw [upN_s]; omega, fun b hb => by show upN _ B _ b = _; rw [upN_n hb]; exact i3 b hb⟩
theorem pv_split (h : PIv E vs dp B sz cd M fr tt f1 f2) (hB40 : B < 40) (hM80 : M < 80) {j : Nat} (hj : j < M) (g : Int32) : PIv E vs dp (B + 1) (icF B g sz cd E).1 (icF B g sz cd E).2 (M + 1) (upN fr M B) (upN (upN tt j B) M (tt j)) (upd f1 B (nI M)) f2 := by
  have hc := pv_c h
  obtain ⟨⟨hE, hB1, hB, hM⟩, ⟨hsz, hcd, hfr, htt, hcv⟩, hzB, hft, hdp, hcE, hex⟩ := h
  obtain ⟨⟨i1, i2, i3, i4⟩, -, i5⟩ := ic_cv hc hE (hzB B (Nat.le_refl _)) g E (Nat.le_refl _)
  obtain ⟨x1, x2⟩ := ex_hi (hex B) (fun q hq e => by have := hft.1 q hq; omega)
  have hx := ex_new (f := B) hM hex x2
  rw [if_pos x1, if_pos x1] at hx
  exact ⟨⟨hE, by omega, by omega, by omega⟩, ⟨i1, i2, upN_lt hfr hB40, upN_lt (upN_lt htt hB40) (htt j), i3⟩, fun b hb => by rw [i5 b (by omega)]; exact hzB b (by omega), ⟨fun q hq => upN_in (m := M) (fun q hq => Nat.lt_succ_of_lt (hft.1 q hq)) (Nat.lt_succ_self B) q (by omega), fun q hq => upN_in (m := M) (fun q hq => upN_in (m := M) (fun q hq => Nat.lt_succ_of_lt (hft.2 q hq)) (Nat.lt_succ_self B) q (Or.inl hq)) (Nat.lt_succ_of_lt (hft.2 j hj)) q (by omega)⟩, hdp, i4, hx⟩
theorem cnt_c {g g' : Nat → Int32} : ∀ n, (∀ j, j < n → g j = g' j) → cntF g n = cntF g' n := by
  intro n
  induction n with
  | zero => intro _; rfl
  | succ n ih => intro h; simp only [cntF]; rw [h n (by omega), ih (fun j hj => h j (by omega))]
theorem mi_mv (h : PIv E vs dp B sz cd M fr tt f1 f2) {io g : Nat → Int32} (hg : ∀ j, j < M → io j = g j) (hb : B + cntF io M ≤ 40) (hb2 : M + cntF io M ≤ 80) (h0 : Int32) : ∀ n, n ≤ M →
    ∃ B2 sz2 cd2 M2 fr2 tt2 f12 h2, miC E io (B, sz, cd, M, fr, tt, f1, h0) n = (B2, sz2, cd2, M2, fr2, tt2, f12, h2) ∧ mvF E g (B, sz, cd, M, fr, tt) n = (B2, sz2, cd2, M2, fr2, tt2) ∧ PIv E vs dp B2 sz2 cd2 M2 fr2 tt2 f12 f2 ∧ B2 = B + cntF io n ∧ M2 = M + cntF io n ∧
      ((h2 = h0 ∧ B2 = B ∧ sz2 = sz ∧ cd2 = cd ∧ M2 = M ∧ fr2 = fr ∧ tt2 = tt ∧ f12 = f1) ∨ h2 = nI 1) := by
  intro n
  induction n with
  | zero => intro _; exact ⟨B, sz, cd, M, fr, tt, f1, h0, rfl, rfl, h, rfl, rfl, Or.inl ⟨rfl, rfl, rfl, rfl, rfl, rfl, rfl, rfl⟩⟩
  | succ n ih =>
    intro hn
    obtain ⟨B2, sz2, cd2, M2, fr2, tt2, f12, h2, e1, e2, hP, eB, eM, hf⟩ := ih (by omega)
    simp only [miC, mvF, e1, e2, cntF]
    rw [← hg n (by omega)]
    by_cases hz : io n = 0
    · rw [if_pos hz, if_pos hz, if_pos hz]
      exact ⟨B2, sz2, cd2, M2, fr2, tt2, f12, h2, rfl, rfl, hP, eB, eM, hf⟩
    · rw [if_neg hz, if_neg hz, if_neg hz]
      have hl := cnt_lt (show n < M by omega) hz
      have hz2 := hP.2.2.1 B2 (Nat.le_refl _)
      have hE := hP.1.1
      refine ⟨_, _, _, _, _, _, _, _, rfl, ?_, pv_split hP (by omega) (by omega) (show n < M2 by omega) (io n), by omega, by omega, Or.inr rfl⟩
      rw [ic_is hz2 (io n) E (by omega)]
      refine congrArg (fun z => (B2 + 1, (isF B2 (io n) sz2 cd2 E).1, (isF B2 (io n) sz2 cd2 E).2, M2 + 1, upN fr2 M2 B2, z)) (funext (fun q => ?_))
      by_cases q1 : q = n
      · subst q1; rw [upN_s, upN_n (by omega), upN_s]
      · rw [upN_n q1]
        by_cases q2 : q = M2
        · subst q2; rw [upN_s, upN_s]
        · rw [upN_n q2, upN_n q2, upN_n q1]
/-- a move: both sides make the same program -/
theorem mv_all (h : PIv E vs dp B sz cd M fr tt f1 f2) {io de g d : Nat → Int32} (hg : ∀ j, j < M → io j = g j) (hd : ∀ b, b < B → de b = d b) (hb : B + cntF io M ≤ 40) (hb2 : M + cntF io M ≤ 80) :
    ∃ B2 sz2 cd2 M2 fr2 tt2 f12 h2, (B2, sz2, cd2, M2, fr2, tt2, f12, h2) = miC E io (B, sz, (dlC sz de cd (nI 0) B).1, M, fr, tt, f1, (dlC sz de cd (nI 0) B).2) M ∧ (B2, sz2, cd2, M2, fr2, tt2) = mvF E g (B, sz, cdF sz d cd B, M, fr, tt) M ∧ PIv E vs dp B2 sz2 cd2 M2 fr2 tt2 f12 f2 ∧ (h2 = nI 0 ∨ h2 = nI 1) ∧
      (h2 = nI 0 → B2 = B ∧ sz2 = sz ∧ cd2 = cd ∧ M2 = M ∧ fr2 = fr ∧ tt2 = tt) := by
  obtain ⟨d1, d2, d3⟩ := dl_cd (pv_c h) (ch := nI 0) B hd
  obtain ⟨B2, sz2, cd2, M2, fr2, tt2, f12, h2, e1, e2, hP, -, -, hf⟩ := mi_mv (pv_of h d2 h.2.2.1) hg hb hb2 (dlC sz de cd (nI 0) B).2 M (Nat.le_refl _)
  refine ⟨B2, sz2, cd2, M2, fr2, tt2, f12, h2, e1.symm, by rw [← d1]; exact e2.symm, hP, ?_, fun hz => ?_⟩
  · rcases hf with hf | hf
    · rw [hf.1]; exact d3.imp And.left id
    · exact Or.inr hf
  · have hn : ¬ nI 0 = nI 1 := by decide
    rcases hf with ⟨q0, q1, q2, q3, q4, q5, q6, -⟩ | hf
    · rcases d3 with ⟨r1, r2⟩ | r
      · exact ⟨q1, q2, q3.trans r2, q4, q5, q6⟩
      · rw [hz, r] at q0; exact absurd q0 hn
    · rw [hz] at hf; exact absurd hf hn
end KEE
