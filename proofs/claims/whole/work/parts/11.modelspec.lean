/-- the reference's cells -/
def WM (cI : ClassId) (a : Nat → Nat) (th E : Nat) (vs : Nat → Int32) (B : Nat) (sz cd : Nat → Nat) (M : Nat) (fr tt : Nat → Nat) (na nb ta tb dl co he : Nat → Int32) (mi la : Int32) : va_W :=
  [(a 0, .inr (4, [.int (nI th), .int (nI E), .ref (a 1), .int (nI B), .ref (a 2), .ref (a 3), .int (nI M), .ref (a 4), .ref (a 5), .ref (a 6), .ref (a 7), .ref (a 8), .ref (a 9), .ref (a 10), .ref (a 11), .ref (a 12), .int mi, .int la])),
   (a 1, .inl (cI, 8, .inl vs)), (a 2, .inl (cI, 40, .inl (nA sz))), (a 3, .inl (cI, 480, .inl (nA cd))), (a 4, .inl (cI, 80, .inl (nA fr))), (a 5, .inl (cI, 80, .inl (nA tt))),
   (a 6, .inl (cI, 40, .inl na)), (a 7, .inl (cI, 40, .inl nb)), (a 8, .inl (cI, 40, .inl ta)), (a 9, .inl (cI, 40, .inl tb)), (a 10, .inl (cI, 40, .inl dl)), (a 11, .inl (cI, 8, .inl co)), (a 12, .inl (cI, 8, .inl he))]
/-- how many of the first n edges lead from b -/
def exF (fr : Nat → Nat) (b : Nat) : Nat → Nat
  | 0 => 0
  | n + 1 => exF fr b n + if fr n = b then 1 else 0
theorem exF_le (fr : Nat → Nat) (b n : Nat) : exF fr b n ≤ n := by
  induction n with
  | zero => exact Nat.le_refl _
  | succ n ih => simp only [exF]; split <;> omega
/-- all expressions -/
def allF (E : Nat) : Int32 := ((1 : Int32) <<< (nI E &&& 31)) - 1
/-- the set of the one expression k -/
def oneF (k : Nat) : Int32 := (1 : Int32) <<< (nI k &&& 31)
/-- those of the first n expressions that depend on v -/
def depF (vs : Nat → Int32) (v : Nat) : Nat → Int32
  | 0 => 0
  | n + 1 => if (vs n >>> (nI v &&& 31)) &&& 1 = 1 then depF vs v n ||| oneF n else depF vs v n
/-- kept behind the first k instructions of a block -/
def kpF (E : Nat) (vs : Nat → Int32) (cd : Nat → Nat) (b : Nat) : Nat → Int32
  | 0 => allF E
  | k + 1 => if cd (12 * b + k) % 3 = 2 then kpF E vs cd b k &&& (depF vs (cd (12 * b + k) / 3) E ^^^ -1) else kpF E vs cd b k
def goF (E : Nat) (vs : Nat → Int32) (cd : Nat → Nat) (b : Nat) : Nat → Int32
  | 0 => 0
  | k + 1 => if cd (12 * b + k) % 3 = 2 then goF E vs cd b k ||| depF vs (cd (12 * b + k) / 3) E else goF E vs cd b k
def eaF (E : Nat) (vs : Nat → Int32) (cd : Nat → Nat) (b : Nat) : Nat → Int32
  | 0 => 0
  | k + 1 => if cd (12 * b + k) % 3 = 0 then eaF E vs cd b k ||| (oneF (cd (12 * b + k) / 3) &&& (goF E vs cd b k ^^^ -1)) else eaF E vs cd b k
def laF (E : Nat) (vs : Nat → Int32) (cd : Nat → Nat) (b : Nat) : Nat → Int32
  | 0 => 0
  | k + 1 => if cd (12 * b + k) % 3 = 2 then laF E vs cd b k &&& (depF vs (cd (12 * b + k) / 3) E ^^^ -1) else if cd (12 * b + k) % 3 = 0 then laF E vs cd b k ||| oneF (cd (12 * b + k) / 3) else laF E vs cd b k
/-- what is needed at the end of b, by the first n edges -/
def snF (E M : Nat) (fr tt : Nat → Nat) (na : Nat → Int32) (b : Nat) : Nat → Int32
  | 0 => if exF fr b M = 0 then 0 else allF E
  | n + 1 => if fr n = b then snF E M fr tt na b n &&& na (tt n) else snF E M fr tt na b n
def neN (E : Nat) (vs : Nat → Int32) (sz cd : Nat → Nat) (M : Nat) (fr tt : Nat → Nat) (na : Nat → Int32) (b : Nat) : Int32 := eaF E vs cd b (sz b) ||| (kpF E vs cd b (sz b) &&& snF E M fr tt na b M)
/-- whether two sets differ -/
def chF (x y : Int32) : Nat := if x = y then 0 else 1
