/-! a walk: class and reference -/
def b64 (x : Int64) (i : Nat) : Bool := x.toBitVec.getLsbD i
theorem b64_ext {x y : Int64} (h : ∀ i, i < 64 → b64 x i = b64 y i) : x = y := Int64.toBitVec_inj.mp (BitVec.eq_of_getLsbD_eq (fun i hi => h i hi))
theorem b64_and (x y : Int64) (i : Nat) : b64 (x &&& y) i = (b64 x i && b64 y i) := by unfold b64; rw [Int64.toBitVec_and, BitVec.getLsbD_and]
theorem b64_1 : ∀ i, i < 64 → b64 1 i = decide (i = 0) := by decide +kernel
theorem b64_0 : ∀ i, i < 64 → b64 0 i = false := by decide +kernel
theorem l_and1 (x : Int64) : x &&& 1 = if b64 x 0 = true then 1 else 0 := by
  refine b64_ext (fun i hi => ?_)
  rw [b64_and, b64_1 i hi]
  by_cases e : i = 0
  · subst e
    rw [decide_eq_true rfl, Bool.and_true]
    cases h : b64 x 0
    · simp only [Bool.false_eq_true, if_false]; rw [b64_0 0 (by decide)]
    · simp only [if_true]; rw [b64_1 0 (by decide)]; rfl
  · rw [decide_eq_false e, Bool.and_false]
    split
    · rw [b64_1 i hi, decide_eq_false e]
    · rw [b64_0 i hi]
theorem l_ne : ¬ (1 : Int64) = 0 := by decide
theorem l_ne' : ¬ (0 : Int64) = 1 := by decide
theorem l_0 (x : Int64) : x &&& 1 = 0 ↔ b64 x 0 = false := by
  rw [l_and1]
  cases h : b64 x 0
  · simp
  · simp [l_ne]
theorem l_1 (x : Int64) : x &&& 1 = 1 ↔ b64 x 0 = true := by
  rw [l_and1]
  cases h : b64 x 0
  · simp [l_ne']
  · simp
theorem s64u : ∀ t, t < 64 → (((nI t).toInt64.toUInt64 &&& Int64.toUInt64 63).toBitVec % 64).toNat = t := by decide +kernel
theorem s64s : ∀ t, t < 64 → (((nI t).toInt64 &&& 63).toBitVec.smod 64).toNat = t := by decide +kernel
theorem l_ushr (x : Int64) {t : Nat} (ht : t < 64) : b64 (x.toUInt64 >>> ((nI t).toInt64.toUInt64 &&& Int64.toUInt64 63)).toInt64 0 = b64 x t := by
  unfold b64
  show (x.toUInt64 >>> ((nI t).toInt64.toUInt64 &&& Int64.toUInt64 63)).toBitVec.getLsbD 0 = _
  rw [UInt64.toBitVec_shiftRight]
  show (x.toBitVec >>> (((nI t).toInt64.toUInt64 &&& Int64.toUInt64 63).toBitVec % 64).toNat).getLsbD 0 = _
  rw [s64u t ht, BitVec.getLsbD_ushiftRight, Nat.add_zero]
theorem l_sshr (x : Int64) {t : Nat} (ht : t < 64) : b64 (x >>> ((nI t).toInt64 &&& 63)) 0 = b64 x t := by
  unfold b64
  rw [Int64.toBitVec_shiftRight]
  show (x.toBitVec.sshiftRight (((nI t).toInt64 &&& 63).toBitVec.smod 64).toNat).getLsbD 0 = _
  rw [s64s t ht, BitVec.getLsbD_sshiftRight]
  simp [ht]
theorem nI_63 (c : Nat) : nI c &&& 63 = nI (c % 64) := by
  refine Int32.toBitVec_inj.mp (BitVec.eq_of_toNat_eq ?_)
  show (BitVec.ofNat 32 c &&& 63#32).toNat = (BitVec.ofNat 32 (c % 64)).toNat
  rw [BitVec.toNat_and, BitVec.toNat_ofNat, BitVec.toNat_ofNat]
  show (c % 2 ^ 32) &&& (2 ^ 6 - 1) = _
  rw [Nat.and_two_pow_sub_one_eq_mod, BitVec.toNat_ofNat]
  omega
theorem nI_add1 (c : Nat) : nI c + 1 = nI (c + 1) := by
  refine Int32.toBitVec_inj.mp ?_
  show BitVec.ofNat 32 c + 1#32 = BitVec.ofNat 32 (c + 1)
  rw [BitVec.ofNat_add]
theorem i_mv (a b c : Int32) : a + (b - c) + 1 = a + (b + 1 - c) := by
  rw [Int32.sub_eq_add_neg, Int32.sub_eq_add_neg]
  ac_rfl
theorem i_sf (a b : Int32) : a + (b - b) = a := by rw [Int32.sub_self, Int32.add_zero]
def wR (E : Nat) (tl hs : Nat → Int32) (hd ig : Int32) (he : Nat → Int32) : Prop := ∀ e, he e = if e < E ∧ bt hd e = true then tl e + (ig - hs e) else tl e
section WAL
variable {E : Nat} {vs dp : Nat → Int32} {tc tl hs he : Nat → Int32} {mi hd ig : Int32}
theorem wr_adv (hE : E ≤ 8) (h : wR E tl hs hd ig he) : wR E tl hs hd (ig + 1) (hlF he hd E) := by
  intro e
  simp only [hlF]
  by_cases he1 : e < E
  · rw [if_pos he1, h e, sh1 (by omega)]
    cases hb : bt hd e
    · rw [if_neg (fun q => by cases q.2), if_neg (by decide), if_neg (fun q => by cases q.2), Int32.add_zero]
    · rw [if_pos ⟨he1, rfl⟩, if_pos rfl, if_pos ⟨he1, rfl⟩, i_mv]
  · rw [if_neg he1, h e, if_neg (fun q => he1 q.1), if_neg (fun q => he1 q.1)]
theorem lg_eq {g : Int32} (hE : E ≤ 8) : ∀ n, n ≤ E → ∀ e, lgF g ig hs tl n e = if e < n ∧ bt g e = true then tl e + (ig - hs e) else tl e := by
  intro n
  induction n with
  | zero => intro _ e; rw [if_neg (fun q => by omega)]; rfl
  | succ n ih =>
    intro hn e
    have ih := ih (by omega)
    simp only [lgF]
    by_cases q : e = n
    · subst q
      cases hb : bt g e
      · rw [if_pos ((sh_0 (by omega)).mpr hb), ih e, if_neg (fun q => by omega), if_neg (fun q => by cases q.2)]
      · rw [if_neg (fun z => by rw [(sh_0 (by omega)).mp z] at hb; cases hb), pk_us, ih e, if_neg (fun q => by omega), if_pos ⟨by omega, rfl⟩]
    · have hq : (e < n + 1) = (e < n) := propext ⟨fun _ => by omega, fun _ => by omega⟩
      simp only [hq]
      split
      · exact ih e
      · rw [pk_un q]; exact ih e
theorem or_has {k : Nat} (hk : k < 8) (h : bt hd k = true) : hd ||| oneF k = hd := by
  refine b_ext (fun i hi => ?_)
  rw [b_or, one_bt k hk i hi]
  by_cases e : i = k
  · subst e; rw [h]; rfl
  · rw [decide_eq_false e, Bool.or_false]
theorem and_nn {a b : Int32} : a &&& ((a &&& b) ^^^ -1) = a &&& (b ^^^ -1) := by
  refine b_ext (fun i hi => ?_)
  rw [b_and, b_and, b_not hi, b_not hi, b_and]
  cases bt a i <;> rfl
theorem js_go {c : Nat} (hE : E ≤ 8) (hdp : ∀ v, v < 6 → dp v = depF vs v E) (h2 : c % 3 = 2 → c / 3 < 6) (hn : c % 3 ≠ 2 → c / 3 < E) (h : wR E tl hs hd ig he) :
    ∃ tl' hs', jsF E dp c (tc, tl, mi, hd, hs, ig) = (coF tc c, tl', miF mi hd c, hoF E vs hd c, hs', ig + 1) ∧ wR E tl' hs' (hoF E vs hd c) (ig + 1) (hlF he hd E) := by
  have ha := wr_adv hE h
  have h3 : c % 3 = 0 ∨ c % 3 = 1 ∨ c % 3 = 2 := by omega
  rcases h3 with h0 | h1 | h2'
  · have hk := hn (by omega)
    simp only [jsF, coF, miF, hoF]
    rw [if_pos h0, if_pos h0, if_neg (show ¬ c % 3 = 1 by omega), if_neg (show ¬ c % 3 = 2 by omega), if_neg (show ¬ c % 3 = 1 by omega)]
    cases hb : bt hd (c / 3)
    · rw [if_pos ((sh_0 (by omega)).mpr hb), if_pos ((sh_0 (by omega)).mpr hb)]
      refine ⟨_, _, rfl, fun e => ?_⟩
      rw [ha e, b_or]
      by_cases q : e = c / 3
      · subst q
        rw [hb, pk_us, one_bt (c / 3) (by omega) (c / 3) (by omega), decide_eq_true rfl, if_neg (fun z => by cases z.2), if_pos ⟨hk, rfl⟩, i_sf]
      · rw [pk_un q]
        by_cases hi : e < 32
        · rw [one_bt (c / 3) (by omega) e hi, decide_eq_false q, Bool.or_false]
        · rw [if_neg (fun z => by omega), if_neg (fun z => by omega)]
    · rw [if_neg (fun z => by rw [(sh_0 (by omega)).mp z] at hb; cases hb), if_neg (fun z => by rw [(sh_0 (by omega)).mp z] at hb; cases hb), or_has (by omega) hb]
      exact ⟨_, _, rfl, ha⟩
  · simp only [jsF, coF, miF, hoF]
    rw [if_neg (show ¬ c % 3 = 0 by omega), if_neg (show ¬ c % 3 = 2 by omega), if_neg (show ¬ c % 3 = 0 by omega), if_pos h1, if_neg (show ¬ c % 3 = 2 by omega), if_pos h1, Int32.add_zero]
    exact ⟨_, _, rfl, ha⟩
  · have hk := h2 h2'
    simp only [jsF, coF, miF, hoF]
    rw [if_neg (show ¬ c % 3 = 0 by omega), if_pos h2', if_neg (show ¬ c % 3 = 0 by omega), if_neg (show ¬ c % 3 = 1 by omega), if_pos h2', and_nn, hdp _ hk]
    refine ⟨_, _, rfl, fun e => ?_⟩
    rw [ha e, lg_eq hE E (Nat.le_refl _) e, b_and, b_and]
    by_cases he1 : e < E
    · rw [b_not (show e < 32 by omega)]
      cases bt hd e <;> cases bt (depF vs (c / 3) E) e <;> simp [he1]
    · rw [if_neg (fun z => he1 z.1), if_neg (fun z => he1 z.1), if_neg (fun z => he1 z.1)]
theorem jb_gb {cd : Nat → Nat} {b : Nat} (hE : E ≤ 8) (hdp : ∀ v, v < 6 → dp v = depF vs v E) (hcv : ∀ j, cd j % 3 = 2 → cd j / 3 < 6) (h : wR E tl hs hd ig he) : ∀ n, (∀ k, k < n → cd (12 * b + k) % 3 ≠ 2 → cd (12 * b + k) / 3 < E) →
    ∃ tc' tl' mi' hd' hs' ig' he', jbF E dp cd b (tc, tl, mi, hd, hs, ig) n = (tc', tl', mi', hd', hs', ig') ∧ gbF E vs cd (tc, he, mi, hd) b n = (tc', he', mi', hd') ∧ wR E tl' hs' hd' ig' he' := by
  intro n
  induction n with
  | zero => intro _; exact ⟨tc, tl, mi, hd, hs, ig, he, rfl, rfl, h⟩
  | succ n ih =>
    intro hc
    obtain ⟨tc', tl', mi', hd', hs', ig', he', e1, e2, hr⟩ := ih (fun k hk => hc k (by omega))
    obtain ⟨tl2, hs2, e3, hr2⟩ := js_go (tc := tc') (mi := mi') hE hdp (hcv (12 * b + n)) (hc n (by omega)) hr
    exact ⟨coF tc' (cd (12 * b + n)), tl2, miF mi' hd' (cd (12 * b + n)), hoF E vs hd' (cd (12 * b + n)), hs2, ig' + 1, hlF he' hd' E, by simp only [jbF]; rw [e1, e3], by simp only [gbF]; rw [e2], hr2⟩
theorem xe_bb {sz cd : Nat → Nat} {M b c : Nat} {fr tt : Nat → Nat} {f1 f2 : Nat → Int32} {ch : Int64} (hM : M ≤ 80) (htt : ∀ j, tt j < 40) (hx : exOk M fr f1 f2 b) {co he : Nat → Int32} {mi la h nx : Int32} {mn : Nat} {co' he' : Nat → Int32} {mi' h' : Int32} (hg : gbF E vs cd (co, he, mi, h) b (sz b) = (co', he', mi', h')) :
    wsF E vs sz cd M fr tt ch b (co, he, mi, la, h, c % 64, mn, nx) = (co', he', mi', nI b, h', (if f2 b = -1 then c else c + 1) % 64, mn + 1, bbF tt f1 f2 ch (nI c) b) := by
  simp only [wsF, hg]
  have x1 := xt_1 (tt := tt) hM hx
  have x2 := xt_2 (tt := tt) hM hx
  unfold bbF xeF
  by_cases h2 : f2 b = -1
  · rw [if_pos h2] at x2
    rw [if_pos x2, x1, if_pos h2, if_pos h2]
  · rw [if_neg h2] at x2
    have hne : ¬ xtF fr tt b M 0 1 = -1 := by rw [x2]; exact nI_nm1 (by have := htt (f2 b).toNatClampNeg; omega)
    have ht : c % 64 < 64 := Nat.mod_lt _ (by decide)
    rw [if_neg hne, if_neg h2, if_neg h2, nI_63, show (c % 64 + 1) % 64 = (c + 1) % 64 by omega]
    cases hb : b64 ch (c % 64)
    · rw [if_pos ((l_0 _).mpr ((l_ushr ch ht).trans hb)), if_neg (fun z => by have := (l_sshr ch ht).symm.trans ((l_1 _).mp z); rw [hb] at this; cases this), x1]
    · have hz : ¬ (ch.toUInt64 >>> ((nI (c % 64)).toInt64.toUInt64 &&& Int64.toUInt64 63)).toInt64 &&& 1 = 0 := fun z => by have := (l_ushr ch ht).symm.trans ((l_0 _).mp z); rw [hb] at this; cases this
      rw [if_pos ((l_1 _).mpr ((l_sshr ch ht).trans hb)), if_neg hz, if_neg h2, x2]
theorem bb_in {tt : Nat → Nat} {f1 f2 : Nat → Int32} {ch : Int64} {ct : Int32} {b : Nat} (htt : ∀ j, tt j < 40) : bbF tt f1 f2 ch ct b = -1 ∨ ∃ q, q < 40 ∧ bbF tt f1 f2 ch ct b = nI q := by
  unfold bbF
  split
  · exact Or.inl rfl
  · exact Or.inr ⟨_, htt _, rfl⟩
theorem jw_wk {B : Nat} {sz cd : Nat → Nat} {M : Nat} {fr tt : Nat → Nat} {f1 f2 : Nat → Int32} {ch : Int64} (hp : PIv E vs dp B sz cd M fr tt f1 f2) : ∀ (n : Nat) (tc tl : Nat → Int32) (mi eb hd : Int32) (hs : Nat → Int32) (ig : Int32) (c g : Nat) (nx : Int32) (he : Nat → Int32), wR E tl hs hd ig he → (nx = -1 ∨ ∃ q, q < 40 ∧ nx = nI q) →
    ∃ tc' tl' mi' eb' hd' hs' ig' c' g' nx' he', jwF E dp sz cd tt f1 f2 ch n (tc, tl, mi, eb, hd, hs, ig, nI c, g, nx) = (tc', tl', mi', eb', hd', hs', ig', nI c', g', nx') ∧ wkF E vs sz cd M fr tt ch n (tc, he, mi, eb, hd, c % 64, g, nx) = (tc', he', mi', eb', hd', c' % 64, g', nx') ∧ wR E tl' hs' hd' ig' he' := by
  obtain ⟨⟨hE, hB1, hB, hM⟩, ⟨hsz, hcd, hfr, htt, hcv⟩, hzB, hft, hdp, hcE, hex⟩ := hp
  intro n
  induction n with
  | zero => intro tc tl mi eb hd hs ig c g nx he hr _; exact ⟨tc, tl, mi, eb, hd, hs, ig, c, g, nx, he, rfl, rfl, hr⟩
  | succ n ih =>
    intro tc tl mi eb hd hs ig c g nx he hr hnx
    rcases hnx with hnx | ⟨b, hb, hnx⟩
    · refine ⟨tc, tl, mi, eb, hd, hs, ig, c, g, nx, he, ?_, wk_stop hnx, hr⟩
      simp [jwF, hnx]
    · subst hnx
      obtain ⟨tc', tl', mi', hd', hs', ig', he', e1, e2, hr'⟩ := jb_gb (tc := tc) (mi := mi) (cd := cd) (b := b) hE hdp hcv hr (sz b) (hcE b)
      have h1 : b < 2 ^ 31 := by omega
      rw [wk_go hb, xe_bb hM htt (hex b) e2]
      have e3 : jwF E dp sz cd tt f1 f2 ch (n + 1) (tc, tl, mi, eb, hd, hs, ig, nI c, g, nI b) = jwF E dp sz cd tt f1 f2 ch n (tc', tl', mi', nI b, hd', hs', ig', nI (if f2 b = -1 then c else c + 1), g + 1, bbF tt f1 f2 ch (nI c) b) := by
        have e4 : nI (if f2 b = -1 then c else c + 1) = if f2 b = -1 then nI c else nI c + 1 := by
          split
          · rfl
          · exact (nI_add1 c).symm
        rw [e4]
        simp [jwF, nI_nm1 h1, nI_clamp h1, jxF, e1]
      rw [e3]
      exact ih _ _ _ _ _ _ _ _ _ _ _ hr' (bb_in htt)
/-- a walk: both sides tell the same -/
theorem wk_all {B : Nat} {sz cd : Nat → Nat} {M : Nat} {fr tt : Nat → Nat} {f1 f2 : Nat → Int32} (ch : Int64) (hp : PIv E vs dp B sz cd M fr tt f1 f2) (t : Nat) (tc tl hs : Nat → Int32) (eb : Int32) :
    ∃ tc2 tl2 mi2 eb2 hd2 hs2 ig2 ct2 gn2 nx2 bt2, jwF E dp sz cd tt f1 f2 ch t (fillF tc 8 0, fillF tl 8 0, 0, eb, 0, hs, 0, 0, 0, nI 0) = (tc2, tl2, mi2, eb2, hd2, hs2, ig2, ct2, gn2, nx2) ∧ wkF E vs sz cd M fr tt ch t (fillF tc 8 0, fillF tl 8 0, 0, eb, 0, 0, 0, nI 0) = (tc2, lgF hd2 ig2 hs2 tl2 E, mi2, eb2, hd2, bt2, gn2, nx2) := by
  obtain ⟨tc', tl', mi', eb', hd', hs', ig', c', g', nx', he', e1, e2, hr⟩ := jw_wk (ch := ch) hp t (fillF tc 8 0) (fillF tl 8 0) 0 eb 0 hs 0 0 0 (nI 0) (fillF tl 8 0) (fun e => by rw [b_0, if_neg (fun z => by cases z.2)]) (Or.inr ⟨0, by omega, rfl⟩)
  refine ⟨tc', tl', mi', eb', hd', hs', ig', nI c', g', nx', c' % 64, e1, ?_⟩
  rw [show lgF hd' ig' hs' tl' E = he' from funext (fun e => by rw [lg_eq hp.1.1 E (Nat.le_refl _) e, hr e])]
  exact e2
end WAL
