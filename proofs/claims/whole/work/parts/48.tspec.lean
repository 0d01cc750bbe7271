theorem b2_raw {a b x : Int32} {lo hi : Int} (ha : a.toInt = lo) (hb : b.toInt = hi) {r : Int32} (h : (r = 0 ∧ (x < a ∨ b < x)) ∨ (r = 1 ∧ ¬ x < a ∧ ¬ b < x)) : r = b2 (inb lo hi x) := by
  subst ha
  subst hb
  rcases h with ⟨rfl, h⟩ | ⟨rfl, h1, h2⟩
  · have hf : inb a.toInt b.toInt x = false := inb_f.mpr (fun q => by
      rcases h with h | h
      · have := Int32.lt_iff_toInt_lt.mp h
        omega
      · have := Int32.lt_iff_toInt_lt.mp h
        omega)
    rw [hf]
    rfl
  · have ht : inb a.toInt b.toInt x = true := inb_t.mpr ⟨Int32.le_iff_toInt_le.mp (Int32.not_lt.mp h1), Int32.le_iff_toInt_le.mp (Int32.not_lt.mp h2)⟩
    rw [ht]
    rfl
/-- on while p, n places at the most -/
def skW (p : Nat → Bool) : Nat → Nat → Nat
  | 0, i => i
  | n + 1, i => if p i then skW p n (i + 1) else i
theorem skW_le (p : Nat → Bool) : ∀ n i, skW p n i ≤ i + n
  | 0, i => Nat.le_refl i
  | n + 1, i => by
    have := skW_le p n (i + 1)
    unfold skW
    split <;> omega
theorem skW_ge (p : Nat → Bool) : ∀ n i, i ≤ skW p n i
  | 0, i => Nat.le_refl i
  | n + 1, i => by
    have := skW_ge p n (i + 1)
    unfold skW
    split <;> omega
theorem skW_t {p : Nat → Bool} {n i : Nat} (h : p i = true) : skW p (n + 1) i = skW p n (i + 1) := by show (if p i = true then _ else _) = _; rw [if_pos h]
theorem skW_f {p : Nat → Bool} {n i : Nat} (h : p i = false) : skW p (n + 1) i = i := by show (if p i = true then _ else _) = _; rw [h]; rfl
def pSp (tb : Rw) : Nat → Bool := fun j => decide (tb j = 32)
def pLe (tb : Rw) : Nat → Bool := fun j => inb 97 122 (tb j)
def pDi (tb : Rw) : Nat → Bool := fun j => inb 48 57 (tb j)
def dgV (tb : Rw) : Nat → Nat → Int32 → Int32
  | 0, _, v => v
  | n + 1, i, v => if pDi tb i then dgV tb n (i + 1) (mn 10000 (10 * v + tb i - 48)) else v
theorem dgV_t {tb : Rw} {n i : Nat} {v : Int32} (h : pDi tb i = true) : dgV tb (n + 1) i v = dgV tb n (i + 1) (mn 10000 (10 * v + tb i - 48)) := by show (if pDi tb i = true then _ else _) = _; rw [if_pos h]
theorem dgV_f {tb : Rw} {n i : Nat} {v : Int32} (h : pDi tb i = false) : dgV tb (n + 1) i v = v := by show (if pDi tb i = true then _ else _) = _; rw [h]; rfl
def stA (T : Tp) : Nat := skW (pSp T.1) (T.2.1 - T.2.2.2.2.1) T.2.2.2.2.1
def stE (T : Tp) (a : Nat) : Tp := if a < T.2.1 then (if inb 97 122 (T.1 a) then (T.1, T.2.1, 1, a, skW (pLe T.1) (T.2.1 - a) a, T.2.2.2.2.2) else if inb 48 57 (T.1 a) then (T.1, T.2.1, 2, a, skW (pDi T.1) (T.2.1 - a) a, dgV T.1 (T.2.1 - a) a 0) else (T.1, T.2.1, (if T.1 a = 59 then 3 else 4), a, a + 1, T.2.2.2.2.2)) else (T.1, T.2.1, 0, a, a, T.2.2.2.2.2)
def stepT (T : Tp) : Tp := stE T (stA T)
