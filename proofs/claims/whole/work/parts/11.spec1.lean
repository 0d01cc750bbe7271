/-! kinds -/
def kGrows (k x : Int32) : Int32 :=
  if k = 1 then (if x < 0 then 10 + -x / 2 else 10) + 4 else if k = 2 then (if x < 0 then 10 + -x / 2 else 10) / 2 else if k = 3 then 12 else
  if k = 4 then (if 10 < x then 0 else (if x < 0 then 10 + -x / 2 else 10) + 4) else if k = 5 then (if x < 0 then 10 + -x / 2 else 10) / 2 + 6 else if x < 0 then 10 + -x / 2 else 10
def kLoses (k f : Int32) : Int32 :=
  if k = 1 then 0 else if k = 2 then 2 * (f / 10) else if k = 4 then 1 else if k = 5 then (if 0 < 2 * (f / 10) - 2 then 2 * (f / 10) - 2 else 0) else f / 10
def kCalms (k : Int32) : Int32 := if k = 1 then 20 else if k = 2 then 5 else if k = 4 then 20 else if k = 5 then 15 else 10
def kBurrs (k x : Int32) : Int32 :=
  if k = 1 then (if x < -8 then 1 else 0) + 1 else if k = 2 then 0 else if k = 4 then (if x < -8 then 1 else 0) + 3 else if k = 5 then 0 else if x < -8 then 1 else 0
def kAbove (k : Int32) : Int32 := if k = 1 then 0 else if k = 2 then 0 else if k = 3 then 0 else if k = 4 then 1 else if k = 5 then 2 else -1
def mn (x y : Int32) : Int32 := if y < x then y else x
def mx (x y : Int32) : Int32 := if x < y then y else x
/-- a month of one ewe: kind, fright, wool, fleece -/
def eGrow (A : Ew) (m : Nat) (x : Int32) : Ew :=
  (A.1, mx 0 (A.2.1 - kCalms A.1), A.2.2.1 + (kGrows A.1 x - mn (kGrows A.1 x) (kLoses A.1 A.2.1) - A.2.2.2 m), upd A.2.2.2 m (kGrows A.1 x - mn (kGrows A.1 x) (kLoses A.1 A.2.1)))
def z12 (f : Nat → Int32) (k : Nat) : Nat → Int32 := fun j => if j < k then 0 else f j
def eBare (A : Ew) : Ew := (A.1, A.2.1, 0, z12 A.2.2.2 12)
def eBecome (A B : Ew) : Ew := (B.1, B.2.1, B.2.2.1, va_cpy B.2.2.2 A.2.2.2 0 0 12)
theorem z12_0 (f : Nat → Int32) : z12 f 0 = f := by funext j; simp [z12]
theorem z12_s (f : Nat → Int32) (i : Nat) : upd (z12 f i) i 0 = z12 f (i + 1) := by
  funext j
  unfold upd z12
  by_cases h : j = i
  · subst h; simp
  · by_cases h2 : j < i
    · simp [h, h2, show j < i + 1 by omega]
    · simp [h, h2, show ¬ j < i + 1 by omega]
