/-- the reference's cells -/
def WM (cI : ClassId) (a : Nat → Nat) (th E : Nat) (vs : Nat → Int32) (B : Nat) (sz cd : Nat → Nat) (M : Nat) (fr tt : Nat → Nat) (na nb ta tb dl co he : Nat → Int32) (mi la : Int32) : va_W :=
  [(a 0, .inr (4, [.int (nI th), .int (nI E), .ref (a 1), .int (nI B), .ref (a 2), .ref (a 3), .int (nI M), .ref (a 4), .ref (a 5), .ref (a 6), .ref (a 7), .ref (a 8), .ref (a 9), .ref (a 10), .ref (a 11), .ref (a 12), .int mi, .int la])),
   (a 1, .inl (cI, 8, .inl vs)), (a 2, .inl (cI, 40, .inl (nA sz))), (a 3, .inl (cI, 480, .inl (nA cd))), (a 4, .inl (cI, 80, .inl (nA fr))), (a 5, .inl (cI, 80, .inl (nA tt))),
   (a 6, .inl (cI, 40, .inl na)), (a 7, .inl (cI, 40, .inl nb)), (a 8, .inl (cI, 40, .inl ta)), (a 9, .inl (cI, 40, .inl tb)), (a 10, .inl (cI, 40, .inl dl)), (a 11, .inl (cI, 8, .inl co)), (a 12, .inl (cI, 8, .inl he))]
/-- how many of the first n edges lead from b -/
def exF (fr : Nat → Nat) (b : Nat) : Nat → Nat
  | 0 => 0
  | n + 1 => exF fr b n + if fr n = b then 1 else 0
theorem exF_le (fr : Nat → Nat) (b n : Nat) : exF fr b n ≤ n := by
  induction n with
  | zero => exact Nat.le_refl _
  | succ n ih => simp only [exF]; split <;> omega
/-- all expressions -/
def allF (E : Nat) : Int32 := ((1 : Int32) <<< (nI E &&& 31)) - 1
/-- the set of the one expression k -/
def oneF (k : Nat) : Int32 := (1 : Int32) <<< (nI k &&& 31)
/-- those of the first n expressions that depend on v -/
def depF (vs : Nat → Int32) (v : Nat) : Nat → Int32
  | 0 => 0
  | n + 1 => if (vs n >>> (nI v &&& 31)) &&& 1 = 1 then depF vs v n ||| oneF n else depF vs v n
/-- kept behind the first k instructions of a block -/
def kpF (E : Nat) (vs : Nat → Int32) (cd : Nat → Nat) (b : Nat) : Nat → Int32
  | 0 => allF E
  | k + 1 => if cd (12 * b + k) % 3 = 2 then kpF E vs cd b k &&& (depF vs (cd (12 * b + k) / 3) E ^^^ -1) else kpF E vs cd b k
def goF (E : Nat) (vs : Nat → Int32) (cd : Nat → Nat) (b : Nat) : Nat → Int32
  | 0 => 0
  | k + 1 => if cd (12 * b + k) % 3 = 2 then goF E vs cd b k ||| depF vs (cd (12 * b + k) / 3) E else goF E vs cd b k
def eaF (E : Nat) (vs : Nat → Int32) (cd : Nat → Nat) (b : Nat) : Nat → Int32
  | 0 => 0
  | k + 1 => if cd (12 * b + k) % 3 = 0 then eaF E vs cd b k ||| (oneF (cd (12 * b + k) / 3) &&& (goF E vs cd b k ^^^ -1)) else eaF E vs cd b k
def laF (E : Nat) (vs : Nat → Int32) (cd : Nat → Nat) (b : Nat) : Nat → Int32
  | 0 => 0
  | k + 1 => if cd (12 * b + k) % 3 = 2 then laF E vs cd b k &&& (depF vs (cd (12 * b + k) / 3) E ^^^ -1) else if cd (12 * b + k) % 3 = 0 then laF E vs cd b k ||| oneF (cd (12 * b + k) / 3) else laF E vs cd b k
/-- what is needed at the end of b, by the first n edges -/
def snF (E M : Nat) (fr tt : Nat → Nat) (na : Nat → Int32) (b : Nat) : Nat → Int32
  | 0 => if exF fr b M = 0 then 0 else allF E
  | n + 1 => if fr n = b then snF E M fr tt na b n &&& na (tt n) else snF E M fr tt na b n
def neN (E : Nat) (vs : Nat → Int32) (sz cd : Nat → Nat) (M : Nat) (fr tt : Nat → Nat) (na : Nat → Int32) (b : Nat) : Int32 := eaF E vs cd b (sz b) ||| (kpF E vs cd b (sz b) &&& snF E M fr tt na b M)
/-- whether two sets differ -/
def chF (x y : Int32) : Nat := if x = y then 0 else 1
def stF (E : Nat) (fr tt : Nat → Nat) (tb : Nat → Int32) (b : Nat) : Nat → Int32
  | 0 => allF E
  | n + 1 => if tt n = b then stF E fr tt tb b n &&& tb (fr n) else stF E fr tt tb b n
/-- whether one of the first n edges leads to b -/
def hwF (tt : Nat → Nat) (b : Nat) : Nat → Nat
  | 0 => 0
  | n + 1 => if tt n = b then 1 else hwF tt b n
theorem hwF_le (tt : Nat → Nat) (b n : Nat) : hwF tt b n ≤ 1 := by
  induction n with
  | zero => exact Nat.zero_le _
  | succ n ih => simp only [hwF]; split <;> omega
def taN (E M : Nat) (fr tt : Nat → Nat) (tb : Nat → Int32) (b : Nat) : Int32 := if hwF tt b M = 0 then 0 else stF E fr tt tb b M
def tbN (E : Nat) (vs : Nat → Int32) (sz cd : Nat → Nat) (M : Nat) (fr tt : Nat → Nat) (tb : Nat → Int32) (b : Nat) : Int32 := laF E vs cd b (sz b) ||| (kpF E vs cd b (sz b) &&& taN E M fr tt tb b)
/-- the earliest place, the delayed ones along an edge, insertions and deletions -/
def erF (E : Nat) (vs : Nat → Int32) (sz cd fr tt : Nat → Nat) (na nb tb : Nat → Int32) (j : Nat) : Int32 := (na (tt j) &&& (tb (fr j) ^^^ -1)) &&& ((kpF E vs cd (fr j) (sz (fr j)) &&& nb (fr j)) ^^^ -1)
def daF (E : Nat) (vs : Nat → Int32) (sz cd fr tt : Nat → Nat) (na nb tb dl : Nat → Int32) (j : Nat) : Int32 := erF E vs sz cd fr tt na nb tb j ||| (dl (fr j) &&& (eaF E vs cd (fr j) (sz (fr j)) ^^^ -1))
def inF (E : Nat) (vs : Nat → Int32) (sz cd fr tt : Nat → Nat) (na nb tb dl : Nat → Int32) (j : Nat) : Int32 := daF E vs sz cd fr tt na nb tb dl j &&& (dl (tt j) ^^^ -1)
def deF (E : Nat) (vs : Nat → Int32) (sz cd : Nat → Nat) (dl : Nat → Int32) (b : Nat) : Int32 := eaF E vs cd b (sz b) &&& (dl b ^^^ -1)
/-- the first n places of a row hold v -/
def fillF (f : Nat → Int32) (n : Nat) (v : Int32) : Nat → Int32 := fun j => if j < n then v else f j
theorem fill_0 (f : Nat → Int32) (v : Int32) : fillF f 0 v = f := by funext j; simp [fillF]
theorem fill_s (f : Nat → Int32) (n : Nat) (v : Int32) : upd (fillF f n v) n v = fillF f (n + 1) v := by
  funext j
  by_cases h : j = n
  · subst h; simp [upd, fillF]
  · by_cases h2 : j < n
    · simp [upd, fillF, h, h2, Nat.lt_succ_of_lt h2]
    · simp [upd, fillF, h, h2, show ¬ j < n + 1 by omega]
/-- one pass over the first n blocks -/
def psF (E : Nat) (vs : Nat → Int32) (sz cd : Nat → Nat) (M : Nat) (fr tt : Nat → Nat) (S : (Nat → Int32) × (Nat → Int32) × (Nat → Int32) × (Nat → Int32)) : Nat → ((Nat → Int32) × (Nat → Int32) × (Nat → Int32) × (Nat → Int32)) × Int32
  | 0 => (S, nI 0)
  | b + 1 =>
    match psF E vs sz cd M fr tt S b with
    | ((na, nb, ta, tb), f) => ((upd na b (neN E vs sz cd M fr tt na b), upd nb b (snF E M fr tt na b M), upd ta b (taN E M fr tt tb b), upd tb b (tbN E vs sz cd M fr tt tb b)), f ||| (nI (chF (neN E vs sz cd M fr tt na b) (na b)) ||| nI (chF (tbN E vs sz cd M fr tt tb b) (tb b))))
def itF (E : Nat) (vs : Nat → Int32) (sz cd : Nat → Nat) (B M : Nat) (fr tt : Nat → Nat) (S : (Nat → Int32) × (Nat → Int32) × (Nat → Int32) × (Nat → Int32)) : Nat → (Nat → Int32) × (Nat → Int32) × (Nat → Int32) × (Nat → Int32)
  | 0 => S
  | k + 1 => (psF E vs sz cd M fr tt (itF E vs sz cd B M fr tt S k) B).1
/-- delayed at the beginning of b, by the first n edges -/
def dsF (E : Nat) (vs : Nat → Int32) (sz cd fr tt : Nat → Nat) (na nb tb dl : Nat → Int32) (b : Nat) : Nat → Int32
  | 0 => if b = 0 then na 0 else allF E
  | n + 1 => if tt n = b then dsF E vs sz cd fr tt na nb tb dl b n &&& daF E vs sz cd fr tt na nb tb dl n else dsF E vs sz cd fr tt na nb tb dl b n
def hdF (tt : Nat → Nat) (b : Nat) : Nat → Nat
  | 0 => if b = 0 then 1 else 0
  | n + 1 => if tt n = b then 1 else hdF tt b n
theorem hdF_le (tt : Nat → Nat) (b n : Nat) : hdF tt b n ≤ 1 := by
  induction n with
  | zero => simp only [hdF]; split <;> omega
  | succ n ih => simp only [hdF]; split <;> omega
def dnN (E : Nat) (vs : Nat → Int32) (sz cd : Nat → Nat) (M : Nat) (fr tt : Nat → Nat) (na nb tb dl : Nat → Int32) (b : Nat) : Int32 := if hdF tt b M = 0 then 0 else dsF E vs sz cd fr tt na nb tb dl b M
def pdF (E : Nat) (vs : Nat → Int32) (sz cd : Nat → Nat) (M : Nat) (fr tt : Nat → Nat) (na nb tb dl : Nat → Int32) : Nat → (Nat → Int32) × Int32
  | 0 => (dl, nI 0)
  | b + 1 =>
    match pdF E vs sz cd M fr tt na nb tb dl b with
    | (d, f) => (upd d b (dnN E vs sz cd M fr tt na nb tb d b), f ||| nI (chF (d b) (dnN E vs sz cd M fr tt na nb tb d b)))
def idF (E : Nat) (vs : Nat → Int32) (sz cd : Nat → Nat) (B M : Nat) (fr tt : Nat → Nat) (na nb tb dl : Nat → Int32) : Nat → Nat → Int32
  | 0 => dl
  | k + 1 => (pdF E vs sz cd M fr tt na nb tb (idF E vs sz cd B M fr tt na nb tb dl k) B).1
/-- what find() makes of its rows -/
def findR (E : Nat) (vs : Nat → Int32) (B : Nat) (sz cd : Nat → Nat) (M : Nat) (fr tt : Nat → Nat) (na nb ta tb dl na2 nb2 ta2 tb2 dl2 : Nat → Int32) : Prop :=
  ∃ k1 k2 : Nat,
    (∀ j, j < k1 → (psF E vs sz cd M fr tt (itF E vs sz cd B M fr tt (fillF na B (allF E), nb, ta, fillF tb B (allF E)) j) B).2 ≠ 0) ∧
    (psF E vs sz cd M fr tt (itF E vs sz cd B M fr tt (fillF na B (allF E), nb, ta, fillF tb B (allF E)) k1) B).2 = 0 ∧
    (na2, nb2, ta2, tb2) = itF E vs sz cd B M fr tt (fillF na B (allF E), nb, ta, fillF tb B (allF E)) (k1 + 1) ∧
    (∀ j, j < k2 → (pdF E vs sz cd M fr tt na2 nb2 tb2 (idF E vs sz cd B M fr tt na2 nb2 tb2 (fillF dl B (allF E)) j) B).2 ≠ 0) ∧
    (pdF E vs sz cd M fr tt na2 nb2 tb2 (idF E vs sz cd B M fr tt na2 nb2 tb2 (fillF dl B (allF E)) k2) B).2 = 0 ∧
    dl2 = idF E vs sz cd B M fr tt na2 nb2 tb2 (fillF dl B (allF E)) (k2 + 1)
/-- whether an edge from f to t is among the first n, or t is 0 -/
def dpF (fr tt : Nat → Nat) (f t : Nat) : Nat → Nat
  | 0 => if t = 0 then 1 else 0
  | n + 1 => if dpF fr tt f t n ≠ 0 then 1 else if fr n = f then (if tt n = t then 1 else 0) else 0
theorem dpF_le (fr tt : Nat → Nat) (f t n : Nat) : dpF fr tt f t n ≤ 1 := by
  cases n with
  | zero => simp only [dpF]; split <;> omega
  | succ n =>
    simp only [dpF]
    split
    · omega
    · split
      · split <;> omega
      · omega
/-- the checksum -/
def dgE (E : Nat) (vs : Nat → Int32) : Nat → Int64
  | 0 => 2573 + (nI E).toInt64
  | n + 1 => dgE E vs n * 31 + (vs n).toInt64
def dgI (sz cd : Nat → Nat) (d : Int64) (b : Nat) : Nat → Int64
  | 0 => d * 31 + (nI (sz b)).toInt64
  | k + 1 => dgI sz cd d b k * 31 + (nI (cd (12 * b + k))).toInt64
def dgB (E : Nat) (vs : Nat → Int32) (B : Nat) (sz cd : Nat → Nat) : Nat → Int64
  | 0 => dgE E vs E * 31 + (nI B).toInt64
  | b + 1 => dgI sz cd (dgB E vs B sz cd b) b (sz b)
def dgM (E : Nat) (vs : Nat → Int32) (B : Nat) (sz cd : Nat → Nat) (M : Nat) (fr tt : Nat → Nat) : Nat → Int64
  | 0 => dgB E vs B sz cd B * 31 + (nI M).toInt64
  | n + 1 => dgM E vs B sz cd M fr tt n * 31 + (nI (40 * fr n + tt n)).toInt64
theorem upN_lt {f : Nat → Nat} {k x n : Nat} (h : ∀ j, f j < n) (hx : x < n) : ∀ j, upN f k x j < n := by
  intro j
  by_cases hj : j = k
  · subst hj; rw [upN_s]; exact hx
  · rw [upN_n hj]; exact h j
/-- the first COMPUTEs of g in block b become USEs: the first k instructions; what is left of g, the codes -/
def dtF (cd : Nat → Nat) (b : Nat) (g : Int32) : Nat → Int32 × (Nat → Nat)
  | 0 => (g, cd)
  | k + 1 =>
    match dtF cd b g k with
    | (lf, u) => if u (12 * b + k) % 3 = 0 then (if (lf >>> (nI (u (12 * b + k) / 3) &&& 31)) &&& 1 = 0 then (lf, u) else (lf &&& (oneF (u (12 * b + k) / 3) ^^^ -1), upN u (12 * b + k) (u (12 * b + k) + 1))) else (lf, u)
/-- a new block B with COMPUTEs of those of g that are among the first i expressions -/
def isF (B : Nat) (g : Int32) (sz cd : Nat → Nat) : Nat → (Nat → Nat) × (Nat → Nat)
  | 0 => (upN sz B 0, cd)
  | i + 1 =>
    match isF B g sz cd i with
    | (u, c) => if (g >>> (nI i &&& 31)) &&& 1 = 1 then (upN u B (u B + 1), upN c (12 * B + u B) (3 * i + 0)) else (u, c)
/-- the first n of a row of sets, then nothing -/
def rowF (g : Nat → Int32) (n : Nat) : Nat → Int32 := fun j => if j < n then g j else 0
theorem row_0 (g : Nat → Int32) : rowF g 0 = fun _ => 0 := by funext j; simp [rowF]
theorem row_s (g : Nat → Int32) (n : Nat) : upd (rowF g n) n (g n) = rowF g (n + 1) := by
  funext j
  by_cases h : j = n
  · subst h; simp [upd, rowF]
  · by_cases h2 : j < n
    · simp [upd, rowF, h, h2, Nat.lt_succ_of_lt h2]
    · simp [upd, rowF, h, h2, show ¬ j < n + 1 by omega]
theorem row_lt {g : Nat → Int32} {n j : Nat} (h : j < n) : rowF g n j = g j := if_pos h
/-- how many of the first n sets aren't empty -/
def cntF (g : Nat → Int32) : Nat → Nat
  | 0 => 0
  | n + 1 => cntF g n + if g n = 0 then 0 else 1
theorem cnt_le (g : Nat → Int32) (n : Nat) : cntF g n ≤ n := by
  induction n with
  | zero => exact Nat.le_refl _
  | succ n ih => simp only [cntF]; split <;> omega
theorem cnt_mono (g : Nat → Int32) (n d : Nat) : cntF g n ≤ cntF g (n + d) := by
  induction d with
  | zero => exact Nat.le_refl _
  | succ d ih => rw [← Nat.add_assoc]; simp only [cntF]; omega
theorem cnt_lt {g : Nat → Int32} {j n : Nat} (h : j < n) (hg : ¬ g j = 0) : cntF g j < cntF g n := by
  have h1 := cnt_mono g (j + 1) (n - (j + 1))
  rw [show j + 1 + (n - (j + 1)) = n by omega] at h1
  simp only [cntF, if_neg hg] at h1
  omega
theorem dt_lt {cd : Nat → Nat} (h : ∀ j, cd j < 24) (b : Nat) (g : Int32) (n : Nat) : ∀ j, (dtF cd b g n).2 j < 24 := by
  induction n with
  | zero => exact h
  | succ n ih =>
    simp only [dtF]
    split
    · split
      · exact ih
      · exact upN_lt ih (by have := ih (12 * b + n); omega)
    · exact ih
/-- all deletions of the first n blocks -/
def cdF (sz : Nat → Nat) (g : Nat → Int32) (cd : Nat → Nat) : Nat → Nat → Nat
  | 0 => cd
  | b + 1 => (dtF (cdF sz g cd b) b (g b) (sz b)).2
/-- all insertions on the first n edges -/
def mvF (E : Nat) (g : Nat → Int32) (S : Nat × (Nat → Nat) × (Nat → Nat) × Nat × (Nat → Nat) × (Nat → Nat)) : Nat → Nat × (Nat → Nat) × (Nat → Nat) × Nat × (Nat → Nat) × (Nat → Nat)
  | 0 => S
  | j + 1 =>
    match mvF E g S j with
    | (B, sz, cd, M, fr, tt) => if g j = 0 then (B, sz, cd, M, fr, tt) else (B + 1, (isF B (g j) sz cd E).1, (isF B (g j) sz cd E).2, M + 1, upN fr M B, upN (upN tt M (tt j)) j B)
/-- one instruction of a walk -/
def hlF (he : Nat → Int32) (h : Int32) (n : Nat) : Nat → Int32 := fun j => if j < n then he j + ((h >>> (nI j &&& 31)) &&& 1) else he j
theorem hl_0 (he : Nat → Int32) (h : Int32) : hlF he h 0 = he := by funext j; simp [hlF]
theorem hl_s (he : Nat → Int32) (h : Int32) (n : Nat) : upd (hlF he h n) n (hlF he h n n + ((h >>> (nI n &&& 31)) &&& 1)) = hlF he h (n + 1) := by
  funext j
  by_cases h1 : j = n
  · subst h1; simp [upd, hlF]
  · by_cases h2 : j < n
    · simp [upd, hlF, h1, h2, Nat.lt_succ_of_lt h2]
    · simp [upd, hlF, h1, h2, show ¬ j < n + 1 by omega]
def coF (co : Nat → Int32) (c : Nat) : Nat → Int32 := if c % 3 = 0 then upd co (c / 3) (co (c / 3) + 1) else co
def miF (mi h : Int32) (c : Nat) : Int32 := if c % 3 = 1 then (if (h >>> (nI (c / 3) &&& 31)) &&& 1 = 0 then mi + 1 else mi + 0) else mi
def hoF (E : Nat) (vs : Nat → Int32) (h : Int32) (c : Nat) : Int32 := if c % 3 = 2 then h &&& (depF vs (c / 3) E ^^^ -1) else if c % 3 = 1 then h else h ||| oneF (c / 3)
/-- the first k instructions of block b -/
def gbF (E : Nat) (vs : Nat → Int32) (cd : Nat → Nat) (S : (Nat → Int32) × (Nat → Int32) × Int32 × Int32) (b : Nat) : Nat → (Nat → Int32) × (Nat → Int32) × Int32 × Int32
  | 0 => S
  | k + 1 =>
    match gbF E vs cd S b k with
    | (co, he, mi, h) => (coF co (cd (12 * b + k)), hlF he h E, miF mi h (cd (12 * b + k)), hoF E vs h (cd (12 * b + k)))
/-- the block to which an exit leads: n edges are left, from i on -/
def xtF (fr tt : Nat → Nat) (b : Nat) : Nat → Nat → Nat → Int32
  | 0, _, _ => -1
  | n + 1, i, lf => if fr i = b then (if lf = 0 then nI (tt i) else xtF fr tt b n (i + 1) (lf - 1)) else xtF fr tt b n (i + 1) lf
theorem xt_ok {fr tt : Nat → Nat} (htt : ∀ j, tt j < 40) (b : Nat) : ∀ n i lf, xtF fr tt b n i lf = -1 ∨ ∃ q, q < 40 ∧ xtF fr tt b n i lf = nI q := by
  intro n
  induction n with
  | zero => intro i lf; exact Or.inl rfl
  | succ n ih =>
    intro i lf
    simp only [xtF]
    split
    · split
      · exact Or.inr ⟨_, htt i, rfl⟩
      · exact ih _ _
    · exact ih _ _
/-- one block of a walk: rows, misses, last block, what is held, bit, how many, the next block -/
def wsF (E : Nat) (vs : Nat → Int32) (sz cd : Nat → Nat) (M : Nat) (fr tt : Nat → Nat) (ch : Int64) (b : Nat) (S : (Nat → Int32) × (Nat → Int32) × Int32 × Int32 × Int32 × Nat × Nat × Int32) : (Nat → Int32) × (Nat → Int32) × Int32 × Int32 × Int32 × Nat × Nat × Int32 :=
  match S with
  | (co, he, mi, _, h, bt, mn, _) =>
    match gbF E vs cd (co, he, mi, h) b (sz b) with
    | (co', he', mi', h') =>
      if xtF fr tt b M 0 1 = -1 then (co', he', mi', nI b, h', bt, mn + 1, xtF fr tt b M 0 0)
      else (co', he', mi', nI b, h', (bt + 1) % 64, mn + 1, if (ch >>> ((nI bt).toInt64 &&& 63)) &&& 1 = 1 then xtF fr tt b M 0 1 else xtF fr tt b M 0 0)
def wkF (E : Nat) (vs : Nat → Int32) (sz cd : Nat → Nat) (M : Nat) (fr tt : Nat → Nat) (ch : Int64) : Nat → (Nat → Int32) × (Nat → Int32) × Int32 × Int32 × Int32 × Nat × Nat × Int32 → (Nat → Int32) × (Nat → Int32) × Int32 × Int32 × Int32 × Nat × Nat × Int32
  | 0, S => S
  | n + 1, S => if S.2.2.2.2.2.2.2 = -1 then S else wkF E vs sz cd M fr tt ch n (wsF E vs sz cd M fr tt ch S.2.2.2.2.2.2.2.toNatClampNeg S)
theorem wk_stop {E : Nat} {vs : Nat → Int32} {sz cd : Nat → Nat} {M : Nat} {fr tt : Nat → Nat} {ch : Int64} {n : Nat} {co he : Nat → Int32} {mi la h nx : Int32} {bt mn : Nat} (hx : nx = -1) : wkF E vs sz cd M fr tt ch n (co, he, mi, la, h, bt, mn, nx) = (co, he, mi, la, h, bt, mn, nx) := by
  cases n with
  | zero => rfl
  | succ n => simp [wkF, hx]
theorem nI_nm1 {n : Nat} (h : n < 2 ^ 31) : ¬ nI n = -1 := by
  intro q
  have h1 := nI_toInt h
  rw [q] at h1
  have h2 : ((-1 : Int32)).toInt = -1 := by decide
  omega
theorem wk_go {E : Nat} {vs : Nat → Int32} {sz cd : Nat → Nat} {M : Nat} {fr tt : Nat → Nat} {ch : Int64} {n b : Nat} {co he : Nat → Int32} {mi la h : Int32} {bt mn : Nat} (hb : b < 40) : wkF E vs sz cd M fr tt ch (n + 1) (co, he, mi, la, h, bt, mn, nI b) = wkF E vs sz cd M fr tt ch n (wsF E vs sz cd M fr tt ch b (co, he, mi, la, h, bt, mn, nI b)) := by
  have h1 : b < 2 ^ 31 := by omega
  simp [wkF, nI_nm1 h1, nI_clamp h1]
