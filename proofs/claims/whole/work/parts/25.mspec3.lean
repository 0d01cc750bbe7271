/-- the best so far: its number, its value -/
def amx (v : Nat → Int32) (b m : Int32) : Nat → Int32 × Int32
  | 0 => (b, m)
  | i + 1 => if (amx v b m i).2 < v i then (nI i, v i) else amx v b m i
def amn (v : Nat → Int32) (b m : Int32) : Nat → Int32 × Int32
  | 0 => (b, m)
  | i + 1 => if v i < (amn v b m i).2 then (nI i, v i) else amn v b m i
def amc (q : Nat → Bool) (v : Nat → Int32) : Nat → Int32 × Int32
  | 0 => (-1, -1)
  | i + 1 => if q i then (if (amc q v i).2 < v i then (nI i, v i) else amc q v i) else amc q v i
def kS (s : Rw) (k : Nat) (f : Nat → Int32) : Nat → Rw
  | 0 => s
  | i + 1 => upd (kS s k f i) k (f i)
theorem kS_lo (s : Rw) (k j : Nat) (f : Nat → Int32) (h : j ≠ k) : ∀ i, kS s k f i j = s j
  | 0 => rfl
  | i + 1 => (upd_ne h).trans (kS_lo s k j f h i)
theorem kS_upd (s : Rw) (k : Nat) (f : Nat → Int32) (x : Int32) : ∀ i, upd (kS s k f i) k x = upd s k x
  | 0 => rfl
  | i + 1 => by show upd (upd (kS s k f i) k (f i)) k x = _; rw [fa_upd_twice, kS_upd s k f x i]
theorem kS_s (s : Rw) (k : Nat) (f : Nat → Int32) (i : Nat) : kS s k f (i + 1) = upd s k (f i) := kS_upd s k f (f i) i
theorem dn_s (a : Int32) (i : Nat) : a - nI i + (-1) = a - nI (i + 1) := by
  rw [← nI_1]
  generalize nI i = b
  simp [Int32.sub_eq_add_neg, Int32.neg_add, Int32.add_assoc]
theorem dn_i (a : Int32) (i : Nat) : a - nI i + Int32.ofInt (-1) = a - nI (i + 1) := by
  rw [show Int32.ofInt (-1) = -1 from rfl]
  exact dn_s a i
theorem dn_t {a : Nat} (i : Nat) (ha : a < 2 ^ 20) (hi : i < 2 ^ 20) : (nI a - nI i).toInt = (a : Int) - i := pk_sub_toInt (by omega) (by omega)
def vKind (s : Rw) (n t e k : Nat) : Nat → Int32 := fun i => sm (fun m => mGo (upd s (38 + 14 * e + 0) (nI i)) n t k (14 + m)) 12
def qKind (M : MS) (n t : Nat) (a b : Int32) : Int32 × MS := if inE n a && inb 1 60 b then ((amx (vKind M.1 n t (ix a) (ix b)) 0 (-1) 6).1, xa M (upd M.1 (38 + 14 * ix a + 0) 5)) else mFind M 0
def vMild (s : Rw) (n t k : Nat) : Nat → Int32 := fun i => sm (fun m => mGo (upd s (2 + i) (mn (s (2 + i) + 5) 20)) n t k (26 + m)) 12
def qMilder (M : MS) (n t : Nat) (a : Int32) : Int32 × MS := if inb 1 60 a then ((amn (vMild M.1 n t (ix a)) 0 999999 12).1, xa M (upd M.1 (2 + 11) (mn (M.1 (2 + 11) + 5) 20))) else mFind M 0
def qB1 (s : Rw) (c : Nat) (x : Int32) : Nat → Bool := fun m => decide (x ≤ s (14 + m)) && decide (s (150 + 12 * c + m) + x ≤ 999)
def vB1 (s : Rw) (c : Nat) (x : Int32) : Nat → Int32 := fun m => mWarm (upd s (150 + 12 * c + m) (s (150 + 12 * c + m) + x)) c
def qBest (M : MS) (a b : Int32) : Int32 × MS := if inb 0 3 a && inb 1 999 b then (if (amc (qB1 M.1 (ix a) b) (vB1 M.1 (ix a) b) 12).1 < 0 then mFind M 3 else ((amc (qB1 M.1 (ix a) b) (vB1 M.1 (ix a) b) 12).1, M)) else mFind M 0
def wB (s : Rw) : Nat → Nat
  | 0 => 0
  | i + 1 => if mWarm s (wB s i) < mWarm s (i + 1) then i + 1 else wB s i
theorem wB_le (s : Rw) : ∀ i, wB s i ≤ i
  | 0 => Nat.le_refl 0
  | i + 1 => by
    have := wB_le s i
    unfold wB
    split <;> omega
def qWarmest (M : MS) : Int32 × MS := (nI (wB M.1 3), M)
def pCold (s : Rw) (n t m k : Nat) (v : Int32) : Nat → Bool := fun i => decide (v ≤ mGo (upd s (2 + m) (20 - nI i)) n t k (14 + m))
def qCold (M : MS) (n t : Nat) (a b c : Int32) : Int32 × MS := if inb 0 11 a && (inb 1 60 b && inb 0 9999 c) then
  (if fa_first (pCold M.1 n t (ix a) (ix b) c) 41 < 41 then (20 - nI (fa_first (pCold M.1 n t (ix a) (ix b) c) 41), xa M (upd M.1 (2 + ix a) (20 - nI (fa_first (pCold M.1 n t (ix a) (ix b) c) 41)))) else mFind (xa M (upd M.1 (2 + ix a) (20 - nI 40))) 3) else mFind M 0
def pBears (s : Rw) (n t e k : Nat) (v : Int32) : Nat → Bool := fun i => decide (v ≤ sm (fun m => mGo (upd s (38 + 14 * e + 1) (99 - nI i)) n t k (38 + 14 * e + 2 + m)) 12)
def qBears (M : MS) (n t : Nat) (a b c : Int32) : Int32 × MS := if inE n a && (inb 0 60 b && inb 0 1188 c) then
  (if fa_first (pBears M.1 n t (ix a) (ix b) c) 100 < 100 then (99 - nI (fa_first (pBears M.1 n t (ix a) (ix b) c) 100), xa M (upd M.1 (38 + 14 * ix a + 1) (99 - nI (fa_first (pBears M.1 n t (ix a) (ix b) c) 100)))) else mFind (xa M (upd M.1 (38 + 14 * ix a + 1) (99 - nI 99))) 3) else mFind M 0
