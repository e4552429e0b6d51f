/-! delayed passes of the reference; the end of find(); the class's rounds -/
theorem GFs_cx {B M : Nat} {u : Nat → Nat} {T : Nat → Int32} {rhs : (Nat → Int32) → Nat → Int32} (hu : ∀ j, j < M → u j < B) (hm : ∀ X Y j, j < M → (∀ b, b < B → sle (X b) (Y b)) → sle (rhs X j) (rhs Y j)) {X X' : Nat → Int32} (he : ∀ b, b < B → X b = X' b) (h : GFs B M u T rhs X) : GFs B M u T rhs X' := by
  refine ⟨⟨fun b hb => by rw [← he b hb]; exact h.1.1 b hb, fun j hj => ?_⟩, fun Y hY b hb => by rw [← he b hb]; exact h.2 Y hY b hb⟩
  rw [← he _ (hu j hj)]
  exact sle_tr (h.1.2 j hj) (hm X X' j hj (fun b hb => by rw [he b hb]; exact sle_rf _))
theorem GFs_cr {B M : Nat} {u : Nat → Nat} {T T' : Nat → Int32} {rhs rhs' : (Nat → Int32) → Nat → Int32} (hT : ∀ b, b < B → T b = T' b) (hr : ∀ X j, j < M → rhs X j = rhs' X j) {X : Nat → Int32} (h : GFs B M u T rhs X) : GFs B M u T' rhs' X := by
  have hp : ∀ Y, PFs B M u T rhs Y ↔ PFs B M u T' rhs' Y := fun Y => ⟨fun q => ⟨fun b hb => by rw [← hT b hb]; exact q.1 b hb, fun j hj => by rw [← hr Y j hj]; exact q.2 j hj⟩, fun q => ⟨fun b hb => by rw [hT b hb]; exact q.1 b hb, fun j hj => by rw [hr Y j hj]; exact q.2 j hj⟩⟩
  exact ⟨(hp X).mp h.1, fun Y hY => h.2 Y ((hp Y).mpr hY)⟩
section DEL
variable {E M B : Nat} {vs : Nat → Int32} {sz cd fr tt : Nat → Nat} {na nb tb : Nat → Int32}
theorem pd_eq (d : Nat → Int32) : ∀ n, (pdF E vs sz cd M fr tt na nb tb d n).1 = pHF (dnN E vs sz cd M fr tt na nb tb) d n ∧ ((pdF E vs sz cd M fr tt na nb tb d n).2 = 0 ↔ sameH (dnN E vs sz cd M fr tt na nb tb) d n) := by
  intro n
  induction n with
  | zero => exact ⟨rfl, fun _ b hb => absurd hb (Nat.not_lt_zero _), fun _ => nI_0⟩
  | succ n ih =>
    rcases hq : pdF E vs sz cd M fr tt na nb tb d n with ⟨a1, f⟩
    rw [hq] at ih
    obtain ⟨h1, h3⟩ := ih
    simp only at h1 h3
    subst h1
    simp only [pdF, hq, pHF]
    refine ⟨trivial, ?_⟩
    rw [or_z, ch_0, h3]
    constructor
    · rintro ⟨p1, p2⟩
      exact fun b hb => (Nat.lt_succ_iff_lt_or_eq.mp hb).elim (fun q => p1 b q) (fun q => by subst q; exact p2.symm)
    · intro p
      exact ⟨fun b hb => p b (by omega), (p n (by omega)).symm⟩
theorem id_s (d : Nat → Int32) (k : Nat) : idF E vs sz cd B M fr tt na nb tb d (k + 1) = idF E vs sz cd B M fr tt na nb tb (pdF E vs sz cd M fr tt na nb tb d B).1 k := by
  induction k with
  | zero => rfl
  | succ k ih => show (pdF E vs sz cd M fr tt na nb tb (idF E vs sz cd B M fr tt na nb tb d (k + 1)) B).1 = _; rw [ih]; rfl
theorem da_mono (hf : ∀ j, j < M → fr j < B) : ∀ X Y j, j < M → (∀ b, b < B → sle (X b) (Y b)) → sle (daF E vs sz cd fr tt na nb tb X j) (daF E vs sz cd fr tt na nb tb Y j) := fun X Y j hj h => or_mo (sle_rf _) (and_mo (h _ (hf j hj)) (sle_rf _))
theorem dm (hf : ∀ j, j < M → fr j < B) : monoH B (dnN E vs sz cd M fr tt na nb tb) := fun X Y h b _ => (dn_meet na nb tb Y b _).mpr ⟨((dn_meet na nb tb X b _).mp (sle_rf _)).1, fun j hj hb => sle_tr (((dn_meet na nb tb X b _).mp (sle_rf _)).2 j hj hb) (da_mono hf X Y j hj h)⟩
theorem pd_ex (hf : ∀ j, j < M → fr j < B) : ∀ (n : Nat) (d : Nat → Int32), decH B (dnN E vs sz cd M fr tt na nb tb) d → upH B (dnN E vs sz cd M fr tt na nb tb) d → sumN (fun b => pop (d b)) B ≤ n →
    ∃ k, (∀ j, j < k → (pdF E vs sz cd M fr tt na nb tb (idF E vs sz cd B M fr tt na nb tb d j) B).2 ≠ 0) ∧ (pdF E vs sz cd M fr tt na nb tb (idF E vs sz cd B M fr tt na nb tb d k) B).2 = 0 ∧ upH B (dnN E vs sz cd M fr tt na nb tb) (idF E vs sz cd B M fr tt na nb tb d k) := by
  intro n
  induction n with
  | zero =>
    intro d hd hu hn
    refine ⟨0, fun j hj => absurd hj (Nat.not_lt_zero _), (pd_eq d B).2.mpr (Classical.byContradiction fun hc => ?_), hu⟩
    have := pH_change (dm hf) hd hu (Nat.le_refl _) hc
    omega
  | succ n ih =>
    intro d hd hu hn
    by_cases h0 : (pdF E vs sz cd M fr tt na nb tb d B).2 = 0
    · exact ⟨0, fun j hj => absurd hj (Nat.not_lt_zero _), h0, hu⟩
    · obtain ⟨p1, p2, -⟩ := pH_inv (dm hf) hd hu B (Nat.le_refl _)
      have hc := pH_change (dm hf) hd hu (Nat.le_refl _) (fun q => h0 ((pd_eq d B).2.mpr q))
      rw [← (pd_eq d B).1] at p1 p2 hc
      obtain ⟨k, h1, h2, h3⟩ := ih _ p1 p2 (by omega)
      refine ⟨k + 1, fun j hj => ?_, by rw [id_s]; exact h2, by rw [id_s]; exact h3⟩
      cases j with
      | zero => exact h0
      | succ j => rw [id_s]; exact h1 j (by omega)
theorem tpT_le (b : Nat) : sle (tpT E M tt b) (allF E) := by
  unfold tpT; split
  · exact z_le _
  · exact sle_rf _
theorem tpN_le (b : Nat) : sle (tpN E M fr b) (allF E) := by
  unfold tpN; split
  · exact z_le _
  · exact sle_rf _
theorem tpD_le {x0 : Int32} (h : sle x0 (allF E)) (b : Nat) : sle (tpD E M tt x0 b) (allF E) := by
  unfold tpD; split
  · exact h
  · exact tpT_le b
theorem fill_in {f : Nat → Int32} {v : Int32} {b : Nat} (hb : b < B) : fillF f B v b = v := if_pos hb
theorem del_gf (hf : ∀ j, j < M → fr j < B) (ht : ∀ j, j < M → tt j < B) {d : Nat → Int32} (hfix : ∀ b, b < B → dnN E vs sz cd M fr tt na nb tb d b = d b) (hup : upH B (dnN E vs sz cd M fr tt na nb tb) d) : GFs B M tt (tpD E M tt (na 0)) (daF E vs sz cd fr tt na nb tb) d := by
  refine ⟨⟨fun b hb => ?_, fun j hj => ?_⟩, fun Y hY b hb => ?_⟩
  · have := ((dn_meet (E := E) (M := M) (vs := vs) (sz := sz) (cd := cd) (fr := fr) (tt := tt) na nb tb d b _).mp (sle_rf _)).1
    rwa [hfix b hb] at this
  · have := ((dn_meet (E := E) (M := M) (vs := vs) (sz := sz) (cd := cd) (fr := fr) (tt := tt) na nb tb d (tt j) _).mp (sle_rf _)).2 j hj rfl
    rwa [hfix (tt j) (ht j hj)] at this
  · exact hup Y (fun q hq => (dn_meet na nb tb Y q _).mpr ⟨hY.1 q hq, fun j hj hb => by subst hb; exact hY.2 j hj⟩) b hb
end DEL
/-- find() comes to an end, with the greatest sets -/
theorem find_ex {E B M : Nat} {vs : Nat → Int32} {sz cd fr tt : Nat → Nat} (hB1 : 1 ≤ B) (hf : ∀ j, j < M → fr j < B) (ht : ∀ j, j < M → tt j < B) (hg : ∀ b, b < B → sle (sE E vs sz cd b) (allF E)) (hk : ∀ b, b < B → sle (sK E vs sz cd b) (allF E)) (hl : ∀ b, b < B → sle (sL E vs sz cd b) (allF E)) (na nb ta tb dl : Nat → Int32) :
    ∃ na2 nb2 ta2 tb2 dl2, findR E vs B sz cd M fr tt na nb ta tb dl na2 nb2 ta2 tb2 dl2 ∧ GFs B M fr (tpN E M fr) (rhF tt (sE E vs sz cd) (sK E vs sz cd)) nb2 ∧ (∀ b, b < B → na2 b = sE E vs sz cd b ||| (sK E vs sz cd b &&& nb2 b)) ∧
      GFs B M tt (tpT E M tt) (rhF fr (sL E vs sz cd) (sK E vs sz cd)) ta2 ∧ (∀ b, b < B → tb2 b = sL E vs sz cd b ||| (sK E vs sz cd b &&& ta2 b)) ∧ GFs B M tt (tpD E M tt (na2 0)) (daF E vs sz cd fr tt na2 nb2 tb2) dl2 := by
  have t1 := top_inv (F := FN E M fr tt) hg hk (Z := fillF na B (allF E)) (fun b hb => fill_in hb)
  have t2 := top_inv (F := FT E M fr tt) hl hk (Z := fillF tb B (allF E)) (fun b hb => fill_in hb)
  obtain ⟨k1, h1, h2, hok⟩ := ps_ex (E := E) (vs := vs) (sz := sz) (cd := cd) hf ht _ (fillF na B (allF E), nb, ta, fillF tb B (allF E)) ⟨t1.1, t1.2, t2.1, t2.2⟩ (Nat.le_refl _)
  generalize hSk : itF E vs sz cd B M fr tt (fillF na B (allF E), nb, ta, fillF tb B (allF E)) k1 = Sk at h2 hok
  obtain ⟨e1, e2, e3, e4⟩ := ps_eq (E := E) (vs := vs) (sz := sz) (cd := cd) (M := M) (fr := fr) (tt := tt) Sk B
  obtain ⟨s1, s2⟩ := e3.mp h2
  have hit : itF E vs sz cd B M fr tt (fillF na B (allF E), nb, ta, fillF tb B (allF E)) (k1 + 1) = (psF E vs sz cd M fr tt Sk B).1 := by show (psF E vs sz cd M fr tt (itF E vs sz cd B M fr tt _ k1) B).1 = _; rw [hSk]
  rcases hr : (psF E vs sz cd M fr tt Sk B).1 with ⟨na2, nb2, ta2, tb2⟩
  rw [hr] at e1 e2 e4 hit
  simp only at e1 e2 e4
  rw [pH_same B s1] at e1
  rw [pH_same B s2] at e2
  have fx1 := same_at s1
  have fx2 := same_at s2
  rw [← e1] at fx1
  rw [← e2] at fx2
  have u1 : upH B (neN E vs sz cd M fr tt) na2 := by rw [e1]; exact hok.2.1
  have u2 : upH B (tbN E vs sz cd M fr tt) tb2 := by rw [e2]; exact hok.2.2.2
  have q4 : ∀ b, b < B → nb2 b = FN E M fr tt na2 b ∧ ta2 b = FT E M fr tt tb2 b := fun b hb => by
    have := e4 b hb
    rw [pH_same b (fun z hz => s1 z (by omega)), pH_same b (fun z hz => s2 z (by omega)), ← e1, ← e2] at this
    exact this
  have g1 := conn (u := fr) (T := tpN E M fr) (gen := sE E vs sz cd) (kp := sK E vs sz cd) (F := FN E M fr tt) (fun Z b y => sn_meet Z b y M) ht (Z := na2) fx1 u1
  have g2 := conn (u := tt) (T := tpT E M tt) (gen := sL E vs sz cd) (kp := sK E vs sz cd) (F := FT E M fr tt) (fun Z b y => ta_meet Z b y) hf (Z := tb2) fx2 u2
  have n2 : ∀ b, b < B → na2 b = sE E vs sz cd b ||| (sK E vs sz cd b &&& nb2 b) := fun b hb => by rw [← fx1 b hb, (q4 b hb).1]; rfl
  have n3 : ∀ b, b < B → tb2 b = sL E vs sz cd b ||| (sK E vs sz cd b &&& ta2 b) := fun b hb => by rw [← fx2 b hb, (q4 b hb).2]; rfl
  have hz : sle (na2 0) (allF E) := by rw [n2 0 hB1]; exact or_le (hg 0 hB1) (sle_tr (and_l _ _) (hk 0 hB1))
  have td : ∀ (W : Nat → Int32) b, sle (dnN E vs sz cd M fr tt na2 nb2 tb2 W b) (allF E) := fun W b => sle_tr ((dn_meet na2 nb2 tb2 W b _).mp (sle_rf _)).1 (tpD_le hz b)
  obtain ⟨k2, p1, p2, p3⟩ := pd_ex (E := E) (vs := vs) (sz := sz) (cd := cd) (tt := tt) (na := na2) (nb := nb2) (tb := tb2) hf _ (fillF dl B (allF E)) (fun b hb => by rw [fill_in hb]; exact td _ b) (fun W hW b hb => by rw [fill_in hb]; exact sle_tr (hW b hb) (td W b)) (Nat.le_refl _)
  have sd := (pd_eq (E := E) (vs := vs) (sz := sz) (cd := cd) (M := M) (fr := fr) (tt := tt) (na := na2) (nb := nb2) (tb := tb2) (idF E vs sz cd B M fr tt na2 nb2 tb2 (fillF dl B (allF E)) k2) B).2.mp p2
  have hid : idF E vs sz cd B M fr tt na2 nb2 tb2 (fillF dl B (allF E)) (k2 + 1) = idF E vs sz cd B M fr tt na2 nb2 tb2 (fillF dl B (allF E)) k2 := ((pd_eq _ B).1).trans (pH_same B sd)
  refine ⟨na2, nb2, ta2, tb2, idF E vs sz cd B M fr tt na2 nb2 tb2 (fillF dl B (allF E)) (k2 + 1), ⟨k1, k2, h1, by rw [hSk]; exact h2, hit.symm, p1, p2, rfl⟩, ?_, n2, ?_, n3, ?_⟩
  · exact GFs_cx hf (rh_mono ht) (fun b hb => (q4 b hb).1.symm) g1
  · exact GFs_cx ht (rh_mono hf) (fun b hb => (q4 b hb).2.symm) g2
  · rw [hid]; exact del_gf hf ht (same_at sd) p3
/-! the class -/
def dnL : Nat → List Nat
  | 0 => []
  | n + 1 => n :: dnL n
theorem dnL_m (n j : Nat) : j ∈ dnL n ↔ j < n := by
  induction n with
  | zero => simp [dnL]
  | succ n ih => simp only [dnL, List.mem_cons, ih]; omega
theorem eR_app {u : Nat → Nat} {rhs : (Nat → Int32) → Nat → Int32} (L : List Nat) (j : Nat) : ∀ S, eRF u rhs (L ++ [j]) S = esF u rhs (eRF u rhs L S) j := by
  induction L with
  | nil => intro S; rfl
  | cons i L ih => intro S; exact ih _
section CLS
variable {B M E : Nat} {fr tt : Nat → Nat} {kp gen : Nat → Int32}
def qOk (B : Nat) (gen kp p q : Nat → Int32) : Prop := ∀ b, b < B → q b = gen b ||| (kp b &&& p b)
theorem sk_eq (ht : ∀ j, j < M → tt j < B) : ∀ n, n ≤ M → ∀ p q f, qOk B gen kp p q → (skD kp gen fr tt n (p, q, f)).1 = (eRF fr (rhF tt gen kp) (dnL n) (p, f)).1 ∧ (skD kp gen fr tt n (p, q, f)).2.2 = (eRF fr (rhF tt gen kp) (dnL n) (p, f)).2 ∧ qOk B gen kp (skD kp gen fr tt n (p, q, f)).1 (skD kp gen fr tt n (p, q, f)).2.1 := by
  intro n
  induction n with
  | zero => intro _ p q f h; exact ⟨rfl, rfl, h⟩
  | succ n ih =>
    intro hn p q f h
    have hq : q (tt n) = rhF tt gen kp p n := h (tt n) (ht n (by omega))
    by_cases hc : p (fr n) &&& rhF tt gen kp p n = p (fr n)
    · have h1 : skS kp gen fr tt (p, q, f) n = (p, q, f) := by simp only [skS, hq]; rw [if_pos hc]
      have h2 : esF fr (rhF tt gen kp) (p, f) n = (p, f) := by simp only [esF]; rw [if_pos hc]
      simp only [skD, dnL, eRF, h1, h2]
      exact ih (by omega) p q f h
    · have h1 : skS kp gen fr tt (p, q, f) n = (upd p (fr n) (p (fr n) &&& rhF tt gen kp p n), upd q (fr n) (gen (fr n) ||| (kp (fr n) &&& (p (fr n) &&& rhF tt gen kp p n))), 1) := by simp only [skS, hq]; rw [if_neg hc]
      have h2 : esF fr (rhF tt gen kp) (p, f) n = (upd p (fr n) (p (fr n) &&& rhF tt gen kp p n), 1) := by simp only [esF]; rw [if_neg hc]
      simp only [skD, dnL, eRF, h1, h2]
      refine ih (by omega) _ _ _ (fun b hb => ?_)
      by_cases e : b = fr n
      · subst e; rw [pk_us, pk_us]
      · rw [pk_un e, pk_un e]; exact h b hb
theorem st_eq (hf : ∀ j, j < M → fr j < B) : ∀ n, n ≤ M → ∀ p q f, qOk B gen kp p q → (stD kp gen fr tt (p, q, f) n).1 = (eRF tt (rhF fr gen kp) (List.range n) (p, f)).1 ∧ (stD kp gen fr tt (p, q, f) n).2.2 = (eRF tt (rhF fr gen kp) (List.range n) (p, f)).2 ∧ qOk B gen kp (stD kp gen fr tt (p, q, f) n).1 (stD kp gen fr tt (p, q, f) n).2.1 := by
  intro n
  induction n with
  | zero => intro _ p q f h; exact ⟨rfl, rfl, h⟩
  | succ n ih =>
    intro hn p q f h
    obtain ⟨i1, i2, i3⟩ := ih (by omega) p q f h
    rw [List.range_succ, eR_app]
    simp only [stD]
    rcases hS : stD kp gen fr tt (p, q, f) n with ⟨p1, q1, f1⟩
    rw [hS] at i1 i2 i3
    simp only at i1 i2 i3
    rcases hX : eRF tt (rhF fr gen kp) (List.range n) (p, f) with ⟨x1, g1⟩
    rw [hX] at i1 i2
    simp only at i1 i2
    subst i1 i2
    have hq : q1 (fr n) = rhF fr gen kp p1 n := i3 (fr n) (hf n (by omega))
    by_cases hc : p1 (tt n) &&& rhF fr gen kp p1 n = p1 (tt n)
    · have h1 : stS kp gen fr tt (p1, q1, f1) n = (p1, q1, f1) := by simp only [stS, hq]; rw [if_pos hc]
      have h2 : esF tt (rhF fr gen kp) (p1, f1) n = (p1, f1) := by simp only [esF]; rw [if_pos hc]
      rw [h1, h2]; exact ⟨rfl, rfl, i3⟩
    · have h1 : stS kp gen fr tt (p1, q1, f1) n = (upd p1 (tt n) (p1 (tt n) &&& rhF fr gen kp p1 n), upd q1 (tt n) (gen (tt n) ||| (kp (tt n) &&& (p1 (tt n) &&& rhF fr gen kp p1 n))), 1) := by simp only [stS, hq]; rw [if_neg hc]
      have h2 : esF tt (rhF fr gen kp) (p1, f1) n = (upd p1 (tt n) (p1 (tt n) &&& rhF fr gen kp p1 n), 1) := by simp only [esF]; rw [if_neg hc]
      rw [h1, h2]
      refine ⟨rfl, rfl, fun b hb => ?_⟩
      by_cases e : b = tt n
      · subst e; simp only [pk_us]
      · simp only [pk_un e]; exact i3 b hb
theorem irN_eq (ht : ∀ j, j < M → tt j < B) {S : (Nat → Int32) × (Nat → Int32)} (h : qOk B gen kp S.1 S.2) : ∀ k, (irN kp gen M fr tt S k).1 = iRF fr (rhF tt gen kp) (dnL M) S.1 k ∧ qOk B gen kp (irN kp gen M fr tt S k).1 (irN kp gen M fr tt S k).2 ∧ flN kp gen M fr tt (irN kp gen M fr tt S k) = (eRF fr (rhF tt gen kp) (dnL M) (iRF fr (rhF tt gen kp) (dnL M) S.1 k, 0)).2 := by
  have key : ∀ k, (irN kp gen M fr tt S k).1 = iRF fr (rhF tt gen kp) (dnL M) S.1 k ∧ qOk B gen kp (irN kp gen M fr tt S k).1 (irN kp gen M fr tt S k).2 := by
    intro k
    induction k with
    | zero => exact ⟨rfl, h⟩
    | succ k ih =>
      obtain ⟨a1, a2, a3⟩ := sk_eq (fr := fr) ht M (Nat.le_refl _) _ _ 0 ih.2
      simp only [irN, iRF]
      rw [← ih.1]
      exact ⟨a1, a3⟩
  intro k
  refine ⟨(key k).1, (key k).2, ?_⟩
  obtain ⟨a1, a2, a3⟩ := sk_eq (fr := fr) ht M (Nat.le_refl _) _ _ 0 (key k).2
  rw [← (key k).1]
  exact a2
theorem irT_eq (hf : ∀ j, j < M → fr j < B) {S : (Nat → Int32) × (Nat → Int32)} (h : qOk B gen kp S.1 S.2) : ∀ k, (irT kp gen M fr tt S k).1 = iRF tt (rhF fr gen kp) (List.range M) S.1 k ∧ qOk B gen kp (irT kp gen M fr tt S k).1 (irT kp gen M fr tt S k).2 ∧ flT kp gen M fr tt (irT kp gen M fr tt S k) = (eRF tt (rhF fr gen kp) (List.range M) (iRF tt (rhF fr gen kp) (List.range M) S.1 k, 0)).2 := by
  have key : ∀ k, (irT kp gen M fr tt S k).1 = iRF tt (rhF fr gen kp) (List.range M) S.1 k ∧ qOk B gen kp (irT kp gen M fr tt S k).1 (irT kp gen M fr tt S k).2 := by
    intro k
    induction k with
    | zero => exact ⟨rfl, h⟩
    | succ k ih =>
      obtain ⟨a1, a2, a3⟩ := st_eq (tt := tt) hf M (Nat.le_refl _) _ _ 0 ih.2
      simp only [irT, iRF]
      rw [← ih.1]
      exact ⟨a1, a3⟩
  intro k
  refine ⟨(key k).1, (key k).2, ?_⟩
  obtain ⟨a1, a2, a3⟩ := st_eq (tt := tt) hf M (Nat.le_refl _) _ _ 0 (key k).2
  rw [← (key k).1]
  exact a2
theorem in_eq (f1 ea ne ns : Nat → Int32) : ∀ n b, b < n → (inN E f1 kp ea ne ns n).1 b = (if f1 b = -1 then 0 else allF E) ∧ (inN E f1 kp ea ne ns n).2 b = ea b ||| (kp b &&& (if f1 b = -1 then 0 else allF E)) := by
  intro n
  induction n with
  | zero => intro b hb; omega
  | succ n ih =>
    intro b hb
    simp only [inN]
    by_cases e : b = n
    · subst e; exact ⟨pk_us, pk_us⟩
    · rw [pk_un e, pk_un e]; exact ih b (by omega)
theorem sum8 {X : Nat → Int32} (hE : E ≤ 8) (hB : B ≤ 40) (h : ∀ b, b < B → sle (X b) (allF E)) : sumN (fun b => pop (X b)) B ≤ 320 := Nat.le_trans (sum_bd (c := 8) B (fun b hb => pop_all hE (h b hb))) (by omega)
theorem fn_ex (hE : E ≤ 8) (hB : B ≤ 40) (hf : ∀ j, j < M → fr j < B) (ht : ∀ j, j < M → tt j < B) (f1 ea ne ns : Nat → Int32) (htop : ∀ b, b < B → (if f1 b = -1 then 0 else allF E) = tpN E M fr b) :
    ∃ ne2 ns2, fnR E B M fr tt f1 kp ea ne ns ne2 ns2 ∧ GFs B M fr (tpN E M fr) (rhF tt ea kp) ne2 ∧ ∀ b, b < B → ns2 b = ea b ||| (kp b &&& ne2 b) := by
  have h0 : qOk B ea kp (inN E f1 kp ea ne ns B).1 (inN E f1 kp ea ne ns B).2 := fun b hb => by rw [(in_eq f1 ea ne ns B b hb).2, (in_eq f1 ea ne ns B b hb).1]
  have hX : ∀ b, b < B → (inN E f1 kp ea ne ns B).1 b = tpN E M fr b := fun b hb => by rw [(in_eq f1 ea ne ns B b hb).1]; exact htop b hb
  obtain ⟨k, hk, h1, h2⟩ := iR_ex (B := B) (u := fr) (rhs := rhF tt ea kp) (L := dnL M) (fun j hj => hf j ((dnL_m M j).mp hj)) _ (inN E f1 kp ea ne ns B).1 (sum8 hE hB (fun b hb => by rw [hX b hb]; exact tpN_le b))
  have hg := iR_gf (B := B) (T := tpN E M fr) (rh_mono (gen := ea) (kp := kp) ht) (u := fr) (dnL_m M) hX h2
  have e := irN_eq (fr := fr) ht h0
  rcases hr : irN kp ea M fr tt (inN E f1 kp ea ne ns B) (k + 1) with ⟨ne2, ns2⟩
  have e' := e (k + 1)
  rw [hr] at e'
  refine ⟨ne2, ns2, ⟨k, by omega, fun j hj => by rw [(e j).2.2]; exact h1 j hj, by rw [(e k).2.2]; exact h2, hr.symm⟩, by have := e'.1; simp only at this; rw [this]; exact hg, e'.2.1⟩
theorem fl_eq (row : Nat → Int32) : ∀ n b, b < B → flF E B tt row n b = if hwF tt b n = 0 then 0 else allF E := by
  intro n
  induction n with
  | zero => intro b hb; simp only [flF, hwF]; rw [fill_in hb, if_pos trivial]
  | succ n ih =>
    intro b hb
    simp only [flF]
    by_cases e : tt n = b
    · have hw : hwF tt b (n + 1) = 1 := by simp only [hwF, if_pos e]
      rw [hw, ← e, pk_us, if_neg (by decide)]
    · have hw : hwF tt b (n + 1) = hwF tt b n := by simp only [hwF, if_neg e]
      rw [hw, pk_un (fun q => e q.symm)]; exact ih b hb
theorem inT_1 (la ts te : Nat → Int32) : ∀ n, (inT kp la ts te n).1 = ts := by
  intro n
  induction n with
  | zero => rfl
  | succ n ih =>
    simp only [inT, ih]
    funext j
    by_cases e : j = n
    · subst e; exact pk_us
    · exact pk_un e
theorem inT_2 (la ts te : Nat → Int32) : ∀ n b, b < n → (inT kp la ts te n).2 b = la b ||| (kp b &&& ts b) := by
  intro n
  induction n with
  | zero => intro b hb; omega
  | succ n ih =>
    intro b hb
    simp only [inT, inT_1]
    by_cases e : b = n
    · subst e; exact pk_us
    · rw [pk_un e]; exact ih b (by omega)
theorem ft_ex (hE : E ≤ 8) (hB : B ≤ 40) (hf : ∀ j, j < M → fr j < B) (ht : ∀ j, j < M → tt j < B) (la ts te : Nat → Int32) :
    ∃ ts2 te2, ftR E B M fr tt kp la ts te ts2 te2 ∧ GFs B M tt (tpT E M tt) (rhF fr la kp) ts2 ∧ ∀ b, b < B → te2 b = la b ||| (kp b &&& ts2 b) := by
  have h0 : qOk B la kp (inT kp la (flF E B tt ts M) te B).1 (inT kp la (flF E B tt ts M) te B).2 := fun b hb => by rw [inT_2 la _ te B b hb, inT_1]
  have hX : ∀ b, b < B → (inT kp la (flF E B tt ts M) te B).1 b = tpT E M tt b := fun b hb => by rw [inT_1]; exact fl_eq ts M b hb
  obtain ⟨k, hk, h1, h2⟩ := iR_ex (B := B) (u := tt) (rhs := rhF fr la kp) (L := List.range M) (fun j hj => ht j (List.mem_range.mp hj)) _ (inT kp la (flF E B tt ts M) te B).1 (sum8 hE hB (fun b hb => by rw [hX b hb]; exact tpT_le b))
  have hg := iR_gf (B := B) (T := tpT E M tt) (rh_mono (gen := la) (kp := kp) hf) (u := tt) (L := List.range M) (fun j => List.mem_range) hX h2
  have e := irT_eq (tt := tt) hf h0
  rcases hr : irT kp la M fr tt (inT kp la (flF E B tt ts M) te B) (k + 1) with ⟨ts2, te2⟩
  have e' := e (k + 1)
  rw [hr] at e'
  refine ⟨ts2, te2, ⟨k, by omega, fun j hj => by rw [(e j).2.2]; exact h1 j hj, by rw [(e k).2.2]; exact h2, hr.symm⟩, by have := e'.1; simp only at this; rw [this]; exact hg, e'.2.1⟩
theorem sd_eq (ea eo : Nat → Int32) (S : (Nat → Int32) × Nat) : ∀ n, sdD ea eo fr tt S n = eRF tt (fun X j => dcF ea eo X fr j) (List.range n) S := by
  intro n
  induction n with
  | zero => rfl
  | succ n ih => rw [List.range_succ, eR_app, ← ih]; rfl
theorem irD_eq (ea eo d : Nat → Int32) : ∀ k, irD ea eo M fr tt d k = iRF tt (fun X j => dcF ea eo X fr j) (List.range M) d k := by
  intro k
  induction k with
  | zero => rfl
  | succ k ih => simp only [irD, iRF, sd_eq, ih]
theorem dc_mono (hf : ∀ j, j < M → fr j < B) (ea eo : Nat → Int32) : ∀ X Y j, j < M → (∀ b, b < B → sle (X b) (Y b)) → sle (dcF ea eo X fr j) (dcF ea eo Y fr j) := fun X Y j hj h => or_mo (sle_rf _) (and_mo (h _ (hf j hj)) (sle_rf _))
theorem fd_ex (hE : E ≤ 8) (hB : B ≤ 40) (hf : ∀ j, j < M → fr j < B) (ht : ∀ j, j < M → tt j < B) (ea ns eo da : Nat → Int32) (hn : sle (ns 0) (allF E)) :
    ∃ da2, fdR E B M fr tt ea ns eo da da2 ∧ GFs B M tt (tpD E M tt (ns 0)) (fun X j => dcF ea eo X fr j) da2 := by
  have hX : ∀ b, b < B → upd (flF E B tt da M) 0 (ns 0) b = tpD E M tt (ns 0) b := fun b hb => by
    unfold tpD
    by_cases e : b = 0
    · subst e; rw [pk_us, if_pos rfl]
    · rw [pk_un e, if_neg e]; exact fl_eq da M b hb
  obtain ⟨k, hk, h1, h2⟩ := iR_ex (B := B) (u := tt) (rhs := fun X j => dcF ea eo X fr j) (L := List.range M) (fun j hj => ht j (List.mem_range.mp hj)) _ (upd (flF E B tt da M) 0 (ns 0)) (sum8 hE hB (fun b hb => by rw [hX b hb]; exact tpD_le hn b))
  have hg := iR_gf (B := B) (T := tpD E M tt (ns 0)) (dc_mono hf ea eo) (u := tt) (L := List.range M) (fun j => List.mem_range) hX h2
  exact ⟨_, ⟨k, by omega, fun j hj => by unfold flD; rw [irD_eq, sd_eq]; exact h1 j hj, by unfold flD; rw [irD_eq, sd_eq]; exact h2, rfl⟩, by rw [irD_eq]; exact hg⟩
end CLS
