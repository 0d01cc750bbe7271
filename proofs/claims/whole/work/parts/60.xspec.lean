def mfR (x : Int32) : Nat → Rw × Nat → Rw × Nat
  | 0, s => s
  | m + 1, s => mfR x m (upd s.1 s.2 ((x >>> (nI (8 * m) &&& 31)) &&& 255), s.2 + 1)
def qFeed (M : MS) (a b : Int32) : Int32 × MS := if inb 1 4 b then (if M.2.2.2.2.2.2.2.1 + ix b ≤ 120 then (nI (mfR a (ix b) (M.2.2.2.2.2.2.1, M.2.2.2.2.2.2.2.1)).2, (M.1, M.2.1, M.2.2.1, M.2.2.2.1, M.2.2.2.2.1, M.2.2.2.2.2.1, (mfR a (ix b) (M.2.2.2.2.2.2.1, M.2.2.2.2.2.2.2.1)).1, (mfR a (ix b) (M.2.2.2.2.2.2.1, M.2.2.2.2.2.2.2.1)).2, M.2.2.2.2.2.2.2.2.1, M.2.2.2.2.2.2.2.2.2.1, M.2.2.2.2.2.2.2.2.2.2.1, M.2.2.2.2.2.2.2.2.2.2.2.1, M.2.2.2.2.2.2.2.2.2.2.2.2.1, M.2.2.2.2.2.2.2.2.2.2.2.2.2.1, M.2.2.2.2.2.2.2.2.2.2.2.2.2.2.1, M.2.2.2.2.2.2.2.2.2.2.2.2.2.2.2)) else mFind M 1) else mFind M 0
def qWipe (M : MS) : Int32 × MS := (nI M.2.2.2.2.2.2.2.1, (M.1, M.2.1, M.2.2.1, M.2.2.2.1, M.2.2.2.2.1, M.2.2.2.2.2.1, M.2.2.2.2.2.2.1, 0, M.2.2.2.2.2.2.2.2.1, M.2.2.2.2.2.2.2.2.2.1, M.2.2.2.2.2.2.2.2.2.2.1, M.2.2.2.2.2.2.2.2.2.2.2.1, M.2.2.2.2.2.2.2.2.2.2.2.2.1, M.2.2.2.2.2.2.2.2.2.2.2.2.2.1, M.2.2.2.2.2.2.2.2.2.2.2.2.2.2.1, M.2.2.2.2.2.2.2.2.2.2.2.2.2.2.2))
def bA (mt : Rw) (td i : Nat) : Int32 := if i < td then mt i else -1
theorem bA_o {mt : Rw} {td i : Nat} (h : td ≤ i) : bA mt td i = -1 := if_neg (by omega)
def mSp (mt : Rw) (td : Nat) : Nat → Bool := fun j => decide (bA mt td j = 32)
def mTo (mt : Rw) (td : Nat) (L D : Bool) : Nat → Bool := fun j => (L && inb 97 122 (bA mt td j)) || (D && inb 48 57 (bA mt td j))
def tkA (mt : Rw) (td tt : Nat) : Nat := skW (mSp mt td) (td - tt) tt
def tkB (td a : Nat) : Nat := if a < td then a + 1 else a
def tkC (mt : Rw) (td a : Nat) : Nat := skW (mTo mt td (inb 97 122 (bA mt td a)) (inb 48 57 (bA mt td a))) (td - tkB td a) (tkB td a)
