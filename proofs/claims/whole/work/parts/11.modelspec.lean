/-- the reference's cells -/
def WM (cI : ClassId) (a : Nat → Nat) (th E : Nat) (vs : Nat → Int32) (B : Nat) (sz cd : Nat → Nat) (M : Nat) (fr tt : Nat → Nat) (na nb ta tb dl co he : Nat → Int32) (mi la : Int32) : va_W :=
  [(a 0, .inr (4, [.int (nI th), .int (nI E), .ref (a 1), .int (nI B), .ref (a 2), .ref (a 3), .int (nI M), .ref (a 4), .ref (a 5), .ref (a 6), .ref (a 7), .ref (a 8), .ref (a 9), .ref (a 10), .ref (a 11), .ref (a 12), .int mi, .int la])),
   (a 1, .inl (cI, 8, .inl vs)), (a 2, .inl (cI, 40, .inl (nA sz))), (a 3, .inl (cI, 480, .inl (nA cd))), (a 4, .inl (cI, 80, .inl (nA fr))), (a 5, .inl (cI, 80, .inl (nA tt))),
   (a 6, .inl (cI, 40, .inl na)), (a 7, .inl (cI, 40, .inl nb)), (a 8, .inl (cI, 40, .inl ta)), (a 9, .inl (cI, 40, .inl tb)), (a 10, .inl (cI, 40, .inl dl)), (a 11, .inl (cI, 8, .inl co)), (a 12, .inl (cI, 8, .inl he))]
/-- how many of the first n edges lead from b -/
def exF (fr : Nat → Nat) (b : Nat) : Nat → Nat
  | 0 => 0
  | n + 1 => exF fr b n + if fr n = b then 1 else 0
theorem exF_le (fr : Nat → Nat) (b n : Nat) : exF fr b n ≤ n := by
  induction n with
  | zero => exact Nat.le_refl _
  | succ n ih => simp only [exF]; split <;> omega
/-- all expressions -/
def allF (E : Nat) : Int32 := ((1 : Int32) <<< (nI E &&& 31)) - 1
/-- the set of the one expression k -/
def oneF (k : Nat) : Int32 := (1 : Int32) <<< (nI k &&& 31)
/-- those of the first n expressions that depend on v -/
def depF (vs : Nat → Int32) (v : Nat) : Nat → Int32
  | 0 => 0
  | n + 1 => if (vs n >>> (nI v &&& 31)) &&& 1 = 1 then depF vs v n ||| oneF n else depF vs v n
/-- kept behind the first k instructions of a block -/
def kpF (E : Nat) (vs : Nat → Int32) (cd : Nat → Nat) (b : Nat) : Nat → Int32
  | 0 => allF E
  | k + 1 => if cd (12 * b + k) % 3 = 2 then kpF E vs cd b k &&& (depF vs (cd (12 * b + k) / 3) E ^^^ -1) else kpF E vs cd b k
def goF (E : Nat) (vs : Nat → Int32) (cd : Nat → Nat) (b : Nat) : Nat → Int32
  | 0 => 0
  | k + 1 => if cd (12 * b + k) % 3 = 2 then goF E vs cd b k ||| depF vs (cd (12 * b + k) / 3) E else goF E vs cd b k
def eaF (E : Nat) (vs : Nat → Int32) (cd : Nat → Nat) (b : Nat) : Nat → Int32
  | 0 => 0
  | k + 1 => if cd (12 * b + k) % 3 = 0 then eaF E vs cd b k ||| (oneF (cd (12 * b + k) / 3) &&& (goF E vs cd b k ^^^ -1)) else eaF E vs cd b k
def laF (E : Nat) (vs : Nat → Int32) (cd : Nat → Nat) (b : Nat) : Nat → Int32
  | 0 => 0
  | k + 1 => if cd (12 * b + k) % 3 = 2 then laF E vs cd b k &&& (depF vs (cd (12 * b + k) / 3) E ^^^ -1) else if cd (12 * b + k) % 3 = 0 then laF E vs cd b k ||| oneF (cd (12 * b + k) / 3) else laF E vs cd b k
/-- what is needed at the end of b, by the first n edges -/
def snF (E M : Nat) (fr tt : Nat → Nat) (na : Nat → Int32) (b : Nat) : Nat → Int32
  | 0 => if exF fr b M = 0 then 0 else allF E
  | n + 1 => if fr n = b then snF E M fr tt na b n &&& na (tt n) else snF E M fr tt na b n
def neN (E : Nat) (vs : Nat → Int32) (sz cd : Nat → Nat) (M : Nat) (fr tt : Nat → Nat) (na : Nat → Int32) (b : Nat) : Int32 := eaF E vs cd b (sz b) ||| (kpF E vs cd b (sz b) &&& snF E M fr tt na b M)
/-- whether two sets differ -/
def chF (x y : Int32) : Nat := if x = y then 0 else 1
def stF (E : Nat) (fr tt : Nat → Nat) (tb : Nat → Int32) (b : Nat) : Nat → Int32
  | 0 => allF E
  | n + 1 => if tt n = b then stF E fr tt tb b n &&& tb (fr n) else stF E fr tt tb b n
/-- whether one of the first n edges leads to b -/
def hwF (tt : Nat → Nat) (b : Nat) : Nat → Nat
  | 0 => 0
  | n + 1 => if tt n = b then 1 else hwF tt b n
theorem hwF_le (tt : Nat → Nat) (b n : Nat) : hwF tt b n ≤ 1 := by
  induction n with
  | zero => exact Nat.zero_le _
  | succ n ih => simp only [hwF]; split <;> omega
def taN (E M : Nat) (fr tt : Nat → Nat) (tb : Nat → Int32) (b : Nat) : Int32 := if hwF tt b M = 0 then 0 else stF E fr tt tb b M
def tbN (E : Nat) (vs : Nat → Int32) (sz cd : Nat → Nat) (M : Nat) (fr tt : Nat → Nat) (tb : Nat → Int32) (b : Nat) : Int32 := laF E vs cd b (sz b) ||| (kpF E vs cd b (sz b) &&& taN E M fr tt tb b)
/-- the earliest place, the delayed ones along an edge, insertions and deletions -/
def erF (E : Nat) (vs : Nat → Int32) (sz cd fr tt : Nat → Nat) (na nb tb : Nat → Int32) (j : Nat) : Int32 := (na (tt j) &&& (tb (fr j) ^^^ -1)) &&& ((kpF E vs cd (fr j) (sz (fr j)) &&& nb (fr j)) ^^^ -1)
def daF (E : Nat) (vs : Nat → Int32) (sz cd fr tt : Nat → Nat) (na nb tb dl : Nat → Int32) (j : Nat) : Int32 := erF E vs sz cd fr tt na nb tb j ||| (dl (fr j) &&& (eaF E vs cd (fr j) (sz (fr j)) ^^^ -1))
def inF (E : Nat) (vs : Nat → Int32) (sz cd fr tt : Nat → Nat) (na nb tb dl : Nat → Int32) (j : Nat) : Int32 := daF E vs sz cd fr tt na nb tb dl j &&& (dl (tt j) ^^^ -1)
def deF (E : Nat) (vs : Nat → Int32) (sz cd : Nat → Nat) (dl : Nat → Int32) (b : Nat) : Int32 := eaF E vs cd b (sz b) &&& (dl b ^^^ -1)
/-- the first n places of a row hold v -/
def fillF (f : Nat → Int32) (n : Nat) (v : Int32) : Nat → Int32 := fun j => if j < n then v else f j
theorem fill_0 (f : Nat → Int32) (v : Int32) : fillF f 0 v = f := by funext j; simp [fillF]
theorem fill_s (f : Nat → Int32) (n : Nat) (v : Int32) : upd (fillF f n v) n v = fillF f (n + 1) v := by
  funext j
  by_cases h : j = n
  · subst h; simp [upd, fillF]
  · by_cases h2 : j < n
    · simp [upd, fillF, h, h2, Nat.lt_succ_of_lt h2]
    · simp [upd, fillF, h, h2, show ¬ j < n + 1 by omega]
/-- one pass over the first n blocks -/
def psF (E : Nat) (vs : Nat → Int32) (sz cd : Nat → Nat) (M : Nat) (fr tt : Nat → Nat) (S : (Nat → Int32) × (Nat → Int32) × (Nat → Int32) × (Nat → Int32)) : Nat → ((Nat → Int32) × (Nat → Int32) × (Nat → Int32) × (Nat → Int32)) × Int32
  | 0 => (S, nI 0)
  | b + 1 =>
    match psF E vs sz cd M fr tt S b with
    | ((na, nb, ta, tb), f) => ((upd na b (neN E vs sz cd M fr tt na b), upd nb b (snF E M fr tt na b M), upd ta b (taN E M fr tt tb b), upd tb b (tbN E vs sz cd M fr tt tb b)), f ||| (nI (chF (neN E vs sz cd M fr tt na b) (na b)) ||| nI (chF (tbN E vs sz cd M fr tt tb b) (tb b))))
def itF (E : Nat) (vs : Nat → Int32) (sz cd : Nat → Nat) (B M : Nat) (fr tt : Nat → Nat) (S : (Nat → Int32) × (Nat → Int32) × (Nat → Int32) × (Nat → Int32)) : Nat → (Nat → Int32) × (Nat → Int32) × (Nat → Int32) × (Nat → Int32)
  | 0 => S
  | k + 1 => (psF E vs sz cd M fr tt (itF E vs sz cd B M fr tt S k) B).1
/-- delayed at the beginning of b, by the first n edges -/
def dsF (E : Nat) (vs : Nat → Int32) (sz cd fr tt : Nat → Nat) (na nb tb dl : Nat → Int32) (b : Nat) : Nat → Int32
  | 0 => if b = 0 then na 0 else allF E
  | n + 1 => if tt n = b then dsF E vs sz cd fr tt na nb tb dl b n &&& daF E vs sz cd fr tt na nb tb dl n else dsF E vs sz cd fr tt na nb tb dl b n
def hdF (tt : Nat → Nat) (b : Nat) : Nat → Nat
  | 0 => if b = 0 then 1 else 0
  | n + 1 => if tt n = b then 1 else hdF tt b n
theorem hdF_le (tt : Nat → Nat) (b n : Nat) : hdF tt b n ≤ 1 := by
  induction n with
  | zero => simp only [hdF]; split <;> omega
  | succ n ih => simp only [hdF]; split <;> omega
def dnN (E : Nat) (vs : Nat → Int32) (sz cd : Nat → Nat) (M : Nat) (fr tt : Nat → Nat) (na nb tb dl : Nat → Int32) (b : Nat) : Int32 := if hdF tt b M = 0 then 0 else dsF E vs sz cd fr tt na nb tb dl b M
def pdF (E : Nat) (vs : Nat → Int32) (sz cd : Nat → Nat) (M : Nat) (fr tt : Nat → Nat) (na nb tb dl : Nat → Int32) : Nat → (Nat → Int32) × Int32
  | 0 => (dl, nI 0)
  | b + 1 =>
    match pdF E vs sz cd M fr tt na nb tb dl b with
    | (d, f) => (upd d b (dnN E vs sz cd M fr tt na nb tb d b), f ||| nI (chF (d b) (dnN E vs sz cd M fr tt na nb tb d b)))
def idF (E : Nat) (vs : Nat → Int32) (sz cd : Nat → Nat) (B M : Nat) (fr tt : Nat → Nat) (na nb tb dl : Nat → Int32) : Nat → Nat → Int32
  | 0 => dl
  | k + 1 => (pdF E vs sz cd M fr tt na nb tb (idF E vs sz cd B M fr tt na nb tb dl k) B).1
/-- what find() makes of its rows -/
def findR (E : Nat) (vs : Nat → Int32) (B : Nat) (sz cd : Nat → Nat) (M : Nat) (fr tt : Nat → Nat) (na nb ta tb dl na2 nb2 ta2 tb2 dl2 : Nat → Int32) : Prop :=
  ∃ k1 k2 : Nat,
    (∀ j, j < k1 → (psF E vs sz cd M fr tt (itF E vs sz cd B M fr tt (fillF na B (allF E), nb, ta, fillF tb B (allF E)) j) B).2 ≠ 0) ∧
    (psF E vs sz cd M fr tt (itF E vs sz cd B M fr tt (fillF na B (allF E), nb, ta, fillF tb B (allF E)) k1) B).2 = 0 ∧
    (na2, nb2, ta2, tb2) = itF E vs sz cd B M fr tt (fillF na B (allF E), nb, ta, fillF tb B (allF E)) (k1 + 1) ∧
    (∀ j, j < k2 → (pdF E vs sz cd M fr tt na2 nb2 tb2 (idF E vs sz cd B M fr tt na2 nb2 tb2 (fillF dl B (allF E)) j) B).2 ≠ 0) ∧
    (pdF E vs sz cd M fr tt na2 nb2 tb2 (idF E vs sz cd B M fr tt na2 nb2 tb2 (fillF dl B (allF E)) k2) B).2 = 0 ∧
    dl2 = idF E vs sz cd B M fr tt na2 nb2 tb2 (fillF dl B (allF E)) (k2 + 1)
/-- whether an edge from f to t is among the first n, or t is 0 -/
def dpF (fr tt : Nat → Nat) (f t : Nat) : Nat → Nat
  | 0 => if t = 0 then 1 else 0
  | n + 1 => if dpF fr tt f t n ≠ 0 then 1 else if fr n = f then (if tt n = t then 1 else 0) else 0
theorem dpF_le (fr tt : Nat → Nat) (f t n : Nat) : dpF fr tt f t n ≤ 1 := by
  cases n with
  | zero => simp only [dpF]; split <;> omega
  | succ n =>
    simp only [dpF]
    split
    · omega
    · split
      · split <;> omega
      · omega
/-- the checksum -/
def dgE (E : Nat) (vs : Nat → Int32) : Nat → Int64
  | 0 => 2573 + (nI E).toInt64
  | n + 1 => dgE E vs n * 31 + (vs n).toInt64
def dgI (sz cd : Nat → Nat) (d : Int64) (b : Nat) : Nat → Int64
  | 0 => d * 31 + (nI (sz b)).toInt64
  | k + 1 => dgI sz cd d b k * 31 + (nI (cd (12 * b + k))).toInt64
def dgB (E : Nat) (vs : Nat → Int32) (B : Nat) (sz cd : Nat → Nat) : Nat → Int64
  | 0 => dgE E vs E * 31 + (nI B).toInt64
  | b + 1 => dgI sz cd (dgB E vs B sz cd b) b (sz b)
def dgM (E : Nat) (vs : Nat → Int32) (B : Nat) (sz cd : Nat → Nat) (M : Nat) (fr tt : Nat → Nat) : Nat → Int64
  | 0 => dgB E vs B sz cd B * 31 + (nI M).toInt64
  | n + 1 => dgM E vs B sz cd M fr tt n * 31 + (nI (40 * fr n + tt n)).toInt64
