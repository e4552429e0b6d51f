/-! the state that class and reference share -/
def PIv (E : Nat) (vs dp : Nat → Int32) (B : Nat) (sz cd : Nat → Nat) (M : Nat) (fr tt : Nat → Nat) (f1 f2 : Nat → Int32) : Prop :=
  (E ≤ 8 ∧ 1 ≤ B ∧ B ≤ 40 ∧ M ≤ 80) ∧ ((∀ j, sz j ≤ 12) ∧ (∀ j, cd j < 24) ∧ (∀ j, fr j < 40) ∧ (∀ j, tt j < 40) ∧ (∀ j, cd j % 3 = 2 → cd j / 3 < 6)) ∧ (∀ b, B ≤ b → sz b = 0) ∧ ((∀ j, j < M → fr j < B) ∧ (∀ j, j < M → tt j < B)) ∧ (∀ v, v < 6 → dp v = depF vs v E) ∧ (∀ b k, k < sz b → cd (12 * b + k) % 3 ≠ 2 → cd (12 * b + k) / 3 < E) ∧ ∀ b, exOk M fr f1 f2 b
/-- the class's sets are those of its program -/
def SOk (E : Nat) (vs : Nat → Int32) (B : Nat) (sz cd : Nat → Nat) (M : Nat) (fr tt : Nat → Nat) (kp ea la ns ne ts te da de eo dn io : Nat → Int32) : Prop :=
  ((∀ b, b < B → kp b = sK E vs sz cd b) ∧ (∀ b, b < B → ea b = sE E vs sz cd b) ∧ (∀ b, b < B → la b = sL E vs sz cd b)) ∧
  (GFs B M fr (tpN E M fr) (rhF tt ea kp) ne ∧ ∀ b, b < B → ns b = ea b ||| (kp b &&& ne b)) ∧ (GFs B M tt (tpT E M tt) (rhF fr la kp) ts ∧ ∀ b, b < B → te b = la b ||| (kp b &&& ts b)) ∧
  (∀ j, j < M → eo j = ecF kp ns ne te fr tt j) ∧ GFs B M tt (tpD E M tt (ns 0)) (fun X j => dcF ea eo X fr j) da ∧
  (∀ j, j < M → dn j = dcF ea eo da fr j) ∧ (∀ j, j < M → io j = dn j &&& (da (tt j) ^^^ -1)) ∧ (∀ b, b < B → de b = ea b &&& (da b ^^^ -1))
/-- the reference's rows as find() leaves them -/
def FOk (E : Nat) (vs : Nat → Int32) (B : Nat) (sz cd : Nat → Nat) (M : Nat) (fr tt : Nat → Nat) (na nb ta tb dl : Nat → Int32) : Prop :=
  GFs B M fr (tpN E M fr) (rhF tt (sE E vs sz cd) (sK E vs sz cd)) nb ∧ (∀ b, b < B → na b = sE E vs sz cd b ||| (sK E vs sz cd b &&& nb b)) ∧
      GFs B M tt (tpT E M tt) (rhF fr (sL E vs sz cd) (sK E vs sz cd)) ta ∧ (∀ b, b < B → tb b = sL E vs sz cd b ||| (sK E vs sz cd b &&& ta b)) ∧ GFs B M tt (tpD E M tt (na 0)) (daF E vs sz cd fr tt na nb tb) dl
/-- class and reference have the same sets -/
def AOk (E : Nat) (vs : Nat → Int32) (B : Nat) (sz cd : Nat → Nat) (M : Nat) (fr tt : Nat → Nat) (kp ea la ns ne ts te da de eo dn io na nb ta tb dl : Nat → Int32) : Prop :=
  (∀ b, b < B → kp b = kpF E vs cd b (sz b) ∧ ea b = eaF E vs cd b (sz b) ∧ la b = laF E vs cd b (sz b) ∧ ns b = na b ∧ ne b = nb b ∧ ts b = ta b ∧ te b = tb b ∧ da b = dl b ∧ de b = deF E vs sz cd dl b) ∧
  ∀ j, j < M → eo j = erF E vs sz cd fr tt na nb tb j ∧ dn j = daF E vs sz cd fr tt na nb tb dl j ∧ io j = inF E vs sz cd fr tt na nb tb dl j
section STA
variable {E : Nat} {vs dp : Nat → Int32} {B : Nat} {sz cd : Nat → Nat} {M : Nat} {fr tt : Nat → Nat} {f1 f2 kp ea la ns ne ts te da de eo dn io na nb ta tb dl : Nat → Int32} {cg : Int32}
theorem ag_ok (hB1 : 1 ≤ B) (hf : ∀ j, j < M → fr j < B) (ht : ∀ j, j < M → tt j < B) (hS : SOk E vs B sz cd M fr tt kp ea la ns ne ts te da de eo dn io) (hF : FOk E vs B sz cd M fr tt na nb ta tb dl) : AOk E vs B sz cd M fr tt kp ea la ns ne ts te da de eo dn io na nb ta tb dl := by
  obtain ⟨⟨hk, he, hl⟩, ⟨gn, hns⟩, ⟨gt, hte⟩, heo, gd, hdn, hio, hde⟩ := hS
  obtain ⟨gn', hna, gt', htb, gd'⟩ := hF
  have ene : ∀ b, b < B → ne b = nb b := GFs_uniq (GFs_cr (fun _ _ => rfl) (fun X j hj => by simp only [rhF]; rw [he _ (ht j hj), hk _ (ht j hj)]) gn) gn'
  have ens : ∀ b, b < B → ns b = na b := fun b hb => by rw [hns b hb, hna b hb, he b hb, hk b hb, ene b hb]
  have ets : ∀ b, b < B → ts b = ta b := GFs_uniq (GFs_cr (fun _ _ => rfl) (fun X j hj => by simp only [rhF]; rw [hl _ (hf j hj), hk _ (hf j hj)]) gt) gt'
  have ete : ∀ b, b < B → te b = tb b := fun b hb => by rw [hte b hb, htb b hb, hl b hb, hk b hb, ets b hb]
  have eeo : ∀ j, j < M → eo j = erF E vs sz cd fr tt na nb tb j := fun j hj => by
    rw [heo j hj]; simp only [ecF, erF]; rw [ens _ (ht j hj), ete _ (hf j hj), hk _ (hf j hj), ene _ (hf j hj)]
  have eda : ∀ b, b < B → da b = dl b := GFs_uniq (GFs_cr (fun b _ => by rw [ens 0 (by omega)]) (fun X j hj => by simp only [dcF, daF]; rw [eeo j hj, he _ (hf j hj)]) gd) gd'
  have edn : ∀ j, j < M → dn j = daF E vs sz cd fr tt na nb tb dl j := fun j hj => by
    rw [hdn j hj]; simp only [dcF, daF]; rw [eeo j hj, he _ (hf j hj), eda _ (hf j hj)]
  refine ⟨fun b hb => ⟨hk b hb, he b hb, hl b hb, ens b hb, ene b hb, ets b hb, ete b hb, eda b hb, ?_⟩, fun j hj => ⟨eeo j hj, edn j hj, ?_⟩⟩
  · rw [hde b hb, he b hb, eda b hb]; rfl
  · rw [hio j hj, edn j hj, eda _ (ht j hj)]; rfl
theorem fo_ex (h : PIv E vs dp B sz cd M fr tt f1 f2) (na nb ta tb dl : Nat → Int32) : ∃ na2 nb2 ta2 tb2 dl2, findR E vs B sz cd M fr tt na nb ta tb dl na2 nb2 ta2 tb2 dl2 ∧ FOk E vs B sz cd M fr tt na2 nb2 ta2 tb2 dl2 := by
  obtain ⟨⟨hE, hB1, hB, hM⟩, ⟨hsz, hcd, hfr, htt, hcv⟩, hzB, ⟨hf, ht⟩, hdp, hcE, hex⟩ := h
  exact find_ex hB1 hf ht (fun b _ => ea_all hE (hcE b)) (fun b _ => kp_all _) (fun b _ => la_all hE (hcE b)) na nb ta tb dl
theorem rowU_in {f g : Nat → Int32} {n j : Nat} (h : j < n) : rowU f g n j = g j := if_pos h
theorem up_ex (h : PIv E vs dp B sz cd M fr tt f1 f2) (hc : cg = nI 0 ∨ cg = nI 1) (hs : cg = nI 0 → SOk E vs B sz cd M fr tt kp ea la ns ne ts te da de eo dn io) :
    ∃ kp2 ea2 la2 ns2 ne2 ts2 te2 da2 de2 eo2 dn2 io2, upR E dp B sz cd M fr tt f1 cg kp ea la ns ne ts te da de eo dn io kp2 ea2 la2 ns2 ne2 ts2 te2 da2 de2 eo2 dn2 io2 ∧ SOk E vs B sz cd M fr tt kp2 ea2 la2 ns2 ne2 ts2 te2 da2 de2 eo2 dn2 io2 := by
  rcases hc with hc | hc
  · exact ⟨kp, ea, la, ns, ne, ts, te, da, de, eo, dn, io, Or.inl ⟨hc, rfl, rfl, rfl, rfl, rfl, rfl, rfl, rfl, rfl, rfl, rfl, rfl⟩, hs hc⟩
  · obtain ⟨⟨hE, hB1, hB, hM⟩, ⟨hsz, hcd, hfr, htt, hcv⟩, hzB, ⟨hf, ht⟩, hdp, hcE, hex⟩ := h
    have hk : ∀ b, b < B → rowU kp (fun b => allF E &&& (gpD dp cd b (sz b) ^^^ -1)) B b = sK E vs sz cd b := fun b hb => by rw [rowU_in hb, gp_eq hdp hcv]; exact (kp_eq _).symm
    have he : ∀ b, b < B → rowU ea (fun b => epD dp cd b (sz b)) B b = sE E vs sz cd b := fun b hb => by rw [rowU_in hb, ep_eq hdp hcv]
    have hl : ∀ b, b < B → rowU la (fun b => lpD dp cd b (sz b)) B b = sL E vs sz cd b := fun b hb => by rw [rowU_in hb, lp_eq hdp hcv]
    generalize hkp : rowU kp (fun b => allF E &&& (gpD dp cd b (sz b) ^^^ -1)) B = kp2 at hk
    generalize hea : rowU ea (fun b => epD dp cd b (sz b)) B = ea2 at he
    generalize hla : rowU la (fun b => lpD dp cd b (sz b)) B = la2 at hl
    obtain ⟨ne2, ns2, r1, g1, e1⟩ := fn_ex (kp := kp2) hE hB hf ht f1 ea2 ne ns (fun b _ => by
      unfold tpN
      by_cases q : f1 b = -1
      · rw [if_pos q, if_pos ((ex_first hM (hex b)).mp q)]
      · rw [if_neg q, if_neg (fun z => q ((ex_first hM (hex b)).mpr z))])
    obtain ⟨ts2, te2, r2, g2, e2⟩ := ft_ex (kp := kp2) hE hB hf ht la2 ts te
    have hn0 : sle (ns2 0) (allF E) := by
      rw [e1 0 hB1, he 0 hB1, hk 0 hB1]
      exact or_le (ea_all hE (hcE 0)) (sle_tr (and_l _ _) (kp_all _))
    obtain ⟨da2, r3, g3⟩ := fd_ex hE hB hf ht ea2 ns2 (rowU eo (ecF kp2 ns2 ne2 te2 fr tt) M) da hn0
    refine ⟨kp2, ea2, la2, ns2, ne2, ts2, te2, da2, _, _, _, _, Or.inr ⟨hc, hkp.symm, hea.symm, hla.symm, r1, r2, rfl, r3, rfl, rfl, rfl⟩, ⟨⟨hk, he, hl⟩, ⟨g1, e1⟩, ⟨g2, e2⟩, fun j hj => rowU_in hj, g3, fun j hj => rowU_in hj, fun j hj => rowU_in hj, fun b hb => rowU_in hb⟩⟩
end STA
