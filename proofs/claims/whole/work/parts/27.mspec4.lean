def okb (b : Int32) : Bool := decide (b = 0) || (decide (b = 8) || (decide (b = 16) || decide (b = 64)))
def nrw (b : Int32) (v : Int64) : Int64 := if b = 8 then v.toInt32.toInt8.toInt32.toInt64 else if b = 16 then v.toInt32.toInt16.toInt32.toInt64 else v
abbrev Rl : Type := Nat → Int64
def lNz (f : Rl) (a : Nat) : Nat → Rl
  | 0 => f
  | k + 1 => vp_updL (lNz f a k) (40 * a + k) 0
def qImage (M : MS) : Int32 × MS := (1, (M.1, M.1, M.2.2.1, M.2.2.2.1, M.2.2.2.2.1, 1, M.2.2.2.2.2.2.1, M.2.2.2.2.2.2.2.1, M.2.2.2.2.2.2.2.2.1, M.2.2.2.2.2.2.2.2.2.1, M.2.2.2.2.2.2.2.2.2.2.1, M.2.2.2.2.2.2.2.2.2.2.2.1, M.2.2.2.2.2.2.2.2.2.2.2.2.1, M.2.2.2.2.2.2.2.2.2.2.2.2.2.1, M.2.2.2.2.2.2.2.2.2.2.2.2.2.2.1, M.2.2.2.2.2.2.2.2.2.2.2.2.2.2.2))
def qUndo (M : MS) : Int32 × MS := if M.2.2.2.2.2.1 = 0 then mFind M 3 else (M.2.1 1, (M.2.1, M.2.1, M.2.2.1, M.2.2.2.1, M.2.2.2.2.1, M.2.2.2.2.2.1, M.2.2.2.2.2.2.1, M.2.2.2.2.2.2.2.1, M.2.2.2.2.2.2.2.2.1, M.2.2.2.2.2.2.2.2.2.1, M.2.2.2.2.2.2.2.2.2.2.1, M.2.2.2.2.2.2.2.2.2.2.2.1, M.2.2.2.2.2.2.2.2.2.2.2.2.1, M.2.2.2.2.2.2.2.2.2.2.2.2.2.1, M.2.2.2.2.2.2.2.2.2.2.2.2.2.2.1, M.2.2.2.2.2.2.2.2.2.2.2.2.2.2.2))
def qTear (M : MS) : Int32 × MS := ((if M.2.2.2.2.2.1 = 0 then 0 else 1), (M.1, M.2.1, M.2.2.1, M.2.2.2.1, M.2.2.2.2.1, 0, M.2.2.2.2.2.2.1, M.2.2.2.2.2.2.2.1, M.2.2.2.2.2.2.2.2.1, M.2.2.2.2.2.2.2.2.2.1, M.2.2.2.2.2.2.2.2.2.2.1, M.2.2.2.2.2.2.2.2.2.2.2.1, M.2.2.2.2.2.2.2.2.2.2.2.2.1, M.2.2.2.2.2.2.2.2.2.2.2.2.2.1, M.2.2.2.2.2.2.2.2.2.2.2.2.2.2.1, M.2.2.2.2.2.2.2.2.2.2.2.2.2.2.2))
def qCount (M : MS) (n : Nat) (a : Int32) : Int32 × MS := if a = 0 then (M.1 1, M) else if a = 1 then (nI M.2.2.2.2.2.2.2.1, M) else if a = 2 then (mCoats M.1 4, M) else if a = 3 then (sm (fun e => M.1 (38 + 14 * e + 1)) n, M) else mFind M 0
def qStatus (M : MS) (a : Int32) : Int32 × MS := if inb (-1) 6 a then (sm (fun k => if a < 0 ∨ nI k = a then M.2.2.2.2.1 k else 0) 7, M) else mFind M 0
def qSheet (M : MS) (a b c : Int32) : Int32 × MS := if inb 0 3 a && okb b then (if c < 0 then mFind M 6 else if 40 < c then mFind M 0 else ((if b = 0 then 0 else c), (M.1, M.2.1, M.2.2.1, M.2.2.2.1, M.2.2.2.2.1, M.2.2.2.2.2.1, M.2.2.2.2.2.2.1, M.2.2.2.2.2.2.2.1, M.2.2.2.2.2.2.2.2.1, M.2.2.2.2.2.2.2.2.2.1, M.2.2.2.2.2.2.2.2.2.2.1, M.2.2.2.2.2.2.2.2.2.2.2.1, upd M.2.2.2.2.2.2.2.2.2.2.2.2.1 (ix a) b, upd M.2.2.2.2.2.2.2.2.2.2.2.2.2.1 (ix a) (if b = 0 then 0 else c), lNz M.2.2.2.2.2.2.2.2.2.2.2.2.2.2.1 (ix a) 40, M.2.2.2.2.2.2.2.2.2.2.2.2.2.2.2))) else mFind M 0
def wrS (M : MS) (a : Int32) : Int32 := if inb 0 3 a then (if M.2.2.2.2.2.2.2.2.2.2.2.2.1 (ix a) = 0 then -1000000006 else 0) else -1000000001
def lfind (M : MS) (k : Nat) : Int64 × MS := ((mFind M k).1.toInt64, (mFind M k).2)
def qWrite (M : MS) (zf : Nat → Nat) (a b : Int32) (v : Int64) : Int64 × MS := if inb 0 3 a then (if M.2.2.2.2.2.2.2.2.2.2.2.2.1 (ix a) = 0 then lfind M 5 else if inE (zf (ix a)) b then (M.2.2.2.2.2.2.2.2.2.2.2.2.2.2.1 (40 * ix a + ix b), (M.1, M.2.1, M.2.2.1, M.2.2.2.1, M.2.2.2.2.1, M.2.2.2.2.2.1, M.2.2.2.2.2.2.1, M.2.2.2.2.2.2.2.1, M.2.2.2.2.2.2.2.2.1, M.2.2.2.2.2.2.2.2.2.1, M.2.2.2.2.2.2.2.2.2.2.1, M.2.2.2.2.2.2.2.2.2.2.2.1, M.2.2.2.2.2.2.2.2.2.2.2.2.1, M.2.2.2.2.2.2.2.2.2.2.2.2.2.1, vp_updL M.2.2.2.2.2.2.2.2.2.2.2.2.2.2.1 (40 * ix a + ix b) (nrw (M.2.2.2.2.2.2.2.2.2.2.2.2.1 (ix a)) v), M.2.2.2.2.2.2.2.2.2.2.2.2.2.2.2)) else lfind M 0) else lfind M 0
def lCp (f g : Rl) (p q : Nat) : Nat → Rl
  | 0 => f
  | k + 1 => vp_updL (lCp f g p q k) (p + k) (g (q + k))
def cpOk (zf : Nat → Nat) (a b c d e : Int32) : Bool := decide (0 ≤ b.toInt ∧ 0 ≤ d.toInt ∧ 0 ≤ e.toInt ∧ e.toInt ≤ (zf (ix a) : Int) - b.toInt ∧ e.toInt ≤ (zf (ix c) : Int) - d.toInt)
def qCopy (M : MS) (zf : Nat → Nat) (a b c d e : Int32) : Int32 × MS := if inb 0 3 a && inb 0 3 c then (if M.2.2.2.2.2.2.2.2.2.2.2.2.1 (ix a) = 0 ∨ M.2.2.2.2.2.2.2.2.2.2.2.2.1 (ix c) = 0 then mFind M 5 else if M.2.2.2.2.2.2.2.2.2.2.2.2.1 (ix a) = M.2.2.2.2.2.2.2.2.2.2.2.2.1 (ix c) then (if cpOk zf a b c d e then (e, (M.1, M.2.1, M.2.2.1, M.2.2.2.1, M.2.2.2.2.1, M.2.2.2.2.2.1, M.2.2.2.2.2.2.1, M.2.2.2.2.2.2.2.1, M.2.2.2.2.2.2.2.2.1, M.2.2.2.2.2.2.2.2.2.1, M.2.2.2.2.2.2.2.2.2.2.1, M.2.2.2.2.2.2.2.2.2.2.2.1, M.2.2.2.2.2.2.2.2.2.2.2.2.1, M.2.2.2.2.2.2.2.2.2.2.2.2.2.1, lCp M.2.2.2.2.2.2.2.2.2.2.2.2.2.2.1 (lCp M.2.2.2.2.2.2.2.2.2.2.2.2.2.2.2 M.2.2.2.2.2.2.2.2.2.2.2.2.2.2.1 0 (40 * ix a + ix b) (ix e)) (40 * ix c + ix d) 0 (ix e), lCp M.2.2.2.2.2.2.2.2.2.2.2.2.2.2.2 M.2.2.2.2.2.2.2.2.2.2.2.2.2.2.1 0 (40 * ix a + ix b) (ix e))) else mFind M 0) else mFind M 2) else mFind M 0
def lyS (s : Rw) (f : Rl) (a : Nat) : Nat → Rw
  | 0 => s
  | k + 1 => if inz (-20) 20 (f (40 * a + k)).toInt then upd (lyS s f a k) (2 + k) (f (40 * a + k)).toInt32 else lyS s f a k
def lyN (f : Rl) (a : Nat) : Nat → Int32
  | 0 => 0
  | k + 1 => if inz (-20) 20 (f (40 * a + k)).toInt then lyN f a k + 1 else lyN f a k
def qLays (M : MS) (zf : Nat → Nat) (a : Int32) : Int32 × MS := if inb 0 3 a then (if M.2.2.2.2.2.2.2.2.2.2.2.2.1 (ix a) = 0 then mFind M 5 else (lyN M.2.2.2.2.2.2.2.2.2.2.2.2.2.2.1 (ix a) (min (zf (ix a)) 12), xs M (lyS M.1 M.2.2.2.2.2.2.2.2.2.2.2.2.2.2.1 (ix a) (min (zf (ix a)) 12)))) else mFind M 0
def bkN (s : Rw) (f : Rl) (b : Int32) (n t a e : Nat) : Nat → Rl
  | 0 => f
  | k + 1 => vp_updL (bkN s f b n t a e k) (40 * a + k) (nrw b (mWool (mGo s n t k) e).toInt64)
def qBook (M : MS) (zf : Nat → Nat) (n t : Nat) (a b : Int32) : Int32 × MS := if inb 0 3 a then (if M.2.2.2.2.2.2.2.2.2.2.2.2.1 (ix a) = 0 then mFind M 5 else if inE n b then (nI (zf (ix a)), (M.1, M.2.1, M.2.2.1, M.1, M.2.2.2.2.1, M.2.2.2.2.2.1, M.2.2.2.2.2.2.1, M.2.2.2.2.2.2.2.1, M.2.2.2.2.2.2.2.2.1, M.2.2.2.2.2.2.2.2.2.1, M.2.2.2.2.2.2.2.2.2.2.1, M.2.2.2.2.2.2.2.2.2.2.2.1, M.2.2.2.2.2.2.2.2.2.2.2.2.1, M.2.2.2.2.2.2.2.2.2.2.2.2.2.1, bkN M.1 M.2.2.2.2.2.2.2.2.2.2.2.2.2.2.1 (M.2.2.2.2.2.2.2.2.2.2.2.2.1 (ix a)) n t (ix a) (ix b) (zf (ix a)), M.2.2.2.2.2.2.2.2.2.2.2.2.2.2.2)) else mFind M 0) else mFind M 0
def rdP (s : Rw) (f : Rl) (n t a e : Nat) : Nat → Bool := fun k => !decide (f (40 * a + k) = (mWool (mGo s n t k) e).toInt64)
def isBk (s : Rw) (f : Rl) (n t a e z : Nat) : Bool := decide (fa_first (rdP s f n t a e) z = z)
def rdS (s : Rw) (e k : Nat) : Rw := upd (upd s (38 + 14 * e + 0) (nI (k / 100))) (38 + 14 * e + 1) (nI (k % 100))
def rdN (s : Rw) (f : Rl) (n t a e z : Nat) : Nat → Int32
  | 0 => 0
  | k + 1 => if isBk (rdS s e k) f n t a e z then rdN s f n t a e z k + 1 else rdN s f n t a e z k
def qRead (M : MS) (zf : Nat → Nat) (n t : Nat) (a b : Int32) : Int32 × MS := if inb 0 3 a then (if M.2.2.2.2.2.2.2.2.2.2.2.2.1 (ix a) = 0 then mFind M 5 else if inE n b then (rdN M.1 M.2.2.2.2.2.2.2.2.2.2.2.2.2.2.1 n t (ix a) (ix b) (zf (ix a)) 600, xa M M.1) else mFind M 0) else mFind M 0
