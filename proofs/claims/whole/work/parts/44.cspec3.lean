def cImage (K : CS) : Int32 × CS := (1, (va_up K.1 1 (pCopy (K.1 1) (K.1 0)), K.2.1, K.2.2.1, K.2.2.2.1, 1))
def cUndo (K : CS) : Int32 × CS := if K.2.2.2.2 = 0 then cFind K 3 else (nI (K.1 1).2.1, kP K 0 (pCopy (K.1 0) (K.1 1)))
def cTear (K : CS) : Int32 × CS := ((if K.2.2.2.2 = 0 then 0 else 1), (K.1, K.2.1, K.2.2.1, K.2.2.2.1, 0))
def cCount (K : CS) (a : Int32) : Int32 × CS := if a = 0 then (nI (K.1 0).2.1, K) else if a = 1 then (nI K.2.1.2.1, K) else if a = 2 then (cwl (K.1 0).2.2.2.2.2.1 4, K) else if a = 3 then (sm (fun e => ((K.1 0).2.2.2.2.2.2 e).2.1) (K.1 0).2.1, K) else cFind K 0
def cStatus (K : CS) (a : Int32) : Int32 × CS := if a = -1 then (sm K.2.2.2.1 7, K) else if inb 0 6 a then (K.2.2.2.1 (ix a), K) else cFind K 0
def kT (K : CS) (T : Tp) : CS := (K.1, T, K.2.2)
def cWipe (K : CS) : Int32 × CS := (nI K.2.1.2.1, kT K (K.2.1.1, 0, K.2.1.2.2))
def tAdd (T : Tp) (b : Int32) : Tp := (upd T.1 T.2.1 (vp_nar .byte b), T.2.1 + 1, T.2.2)
def fdR (x : Int32) : Nat → Tp → Tp
  | 0, T => T
  | m + 1, T => fdR x m (tAdd T (x >>> (nI (8 * m) &&& 31)).toInt8.toInt32)
def cFeed (K : CS) (a b : Int32) : Int32 × CS := if inb 1 4 b then (if K.2.1.2.1 + ix b ≤ 120 then (nI (fdR a (ix b) K.2.1).2.1, kT K (fdR a (ix b) K.2.1)) else cFind K 1) else cFind K 0
def kSh (K : CS) (s : Nat) (S : Sh) : CS := (K.1, K.2.1, va_up K.2.2.1 s S, K.2.2.2)
def z40 (f : Rl) (k : Nat) : Rl := fun j => if j < k then 0 else f j
theorem z40_0 (f : Rl) : z40 f 0 = f := by funext j; simp [z40]
theorem z40_s (f : Rl) (i : Nat) : vp_updL (z40 f i) i 0 = z40 f (i + 1) := by
  funext j
  unfold vp_updL z40
  by_cases h : j = i
  · subst h; simp
  · by_cases h2 : j < i
    · simp [h, h2, show j < i + 1 by omega]
    · simp [h, h2, show ¬ j < i + 1 by omega]
def cSheet (K : CS) (a b c : Int32) : Int32 × CS := if inb 0 3 a && okb b then (if c < 0 then cFind K 6 else if 40 < c then cFind K 0 else ((if b = 0 then 0 else c), kSh K (ix a) (z40 (K.2.2.1 (ix a)).1 40, (if b = 0 then 0 else ix c), b))) else cFind K 0
def lF (K : CS) (k : Nat) : Int64 × CS := ((cFind K k).1.toInt64, (cFind K k).2)
def cWrite (K : CS) (a b : Int32) (v : Int64) : Int64 × CS := if inb 0 3 a then (if (K.2.2.1 (ix a)).2.2 = 0 then lF K 5 else if inE (K.2.2.1 (ix a)).2.1 b then ((K.2.2.1 (ix a)).1 (ix b), kSh K (ix a) (vp_updL (K.2.2.1 (ix a)).1 (ix b) (nrw (K.2.2.1 (ix a)).2.2 v), (K.2.2.1 (ix a)).2)) else lF K 0) else lF K 0
def hasS (z : Nat) (f n : Int32) : Bool := if f < 0 then false else if n < 0 then false else if nI z < f then false else if nI z - f < n then false else true
def cCopy (K : CS) (a b c d e : Int32) : Int32 × CS := if inb 0 3 a && inb 0 3 c then (if (K.2.2.1 (ix a)).2.2 = 0 ∨ (K.2.2.1 (ix c)).2.2 = 0 then cFind K 5 else if (K.2.2.1 (ix a)).2.2 = (K.2.2.1 (ix c)).2.2 then (if hasS (K.2.2.1 (ix a)).2.1 b e && hasS (K.2.2.1 (ix c)).2.1 d e then (e, kSh K (ix c) (va_cpy (K.2.2.1 (ix a)).1 (K.2.2.1 (ix c)).1 (ix b) (ix d) (ix e), (K.2.2.1 (ix c)).2)) else cFind K 0) else cFind K 2) else cFind K 0
def lyW (W : Rw) (f : Rl) : Nat → Rw
  | 0 => W
  | k + 1 => if lg_cmp (f k) (-20) < 0 then lyW W f k else if 0 < lg_cmp (f k) 20 then lyW W f k else upd (lyW W f k) k (f k).toInt32
def cyN (f : Rl) : Nat → Int32
  | 0 => 0
  | k + 1 => if lg_cmp (f k) (-20) < 0 then cyN f k else if 0 < lg_cmp (f k) 20 then cyN f k else cyN f k + 1
def cLays (K : CS) (a : Int32) : Int32 × CS := if inb 0 3 a then (if (K.2.2.1 (ix a)).2.2 = 0 then cFind K 5 else (cyN (K.2.2.1 (ix a)).1 (min (K.2.2.1 (ix a)).2.1 12), kP K 0 (sW (K.1 0) (lyW (K.1 0).2.2.1 (K.2.2.1 (ix a)).1 (min (K.2.2.1 (ix a)).2.1 12))))) else cFind K 0
def bkC (f : Rl) (b : Int32) (A : Ew) (W : Rw) (t : Nat) : Nat → Rl
  | 0 => f
  | k + 1 => vp_updL (bkC f b A W t k) k (nrw b (aGo A W t k).2.2.1.toInt64)
def cBook (K : CS) (a b : Int32) : Int32 × CS := if inb 0 3 a then (if (K.2.2.1 (ix a)).2.2 = 0 then cFind K 5 else if inE (K.1 0).2.1 b then
  (nI (K.2.2.1 (ix a)).2.1, kSh (kL K (aGo (cLone K (ix b)) (K.1 0).2.2.1 (K.1 0).1 (K.2.2.1 (ix a)).2.1)) (ix a) (bkC (K.2.2.1 (ix a)).1 (K.2.2.1 (ix a)).2.2 (cLone K (ix b)) (K.1 0).2.2.1 (K.1 0).1 (K.2.2.1 (ix a)).2.1, (K.2.2.1 (ix a)).2)) else cFind K 0) else cFind K 0
def gP1 (f : Rl) (A : Ew) (W : Rw) (t : Nat) : Nat → Bool := fun i => !decide (f i = (aGo A W t i).2.2.1.toInt64)
def gTold (f : Rl) (A : Ew) (W : Rw) (t z : Nat) : Bool := decide (fa_first (gP1 f A W t) z = z)
def gLast (f : Rl) (A : Ew) (W : Rw) (t z : Nat) : Ew := aGo A W t (fa_first (gP1 f A W t) z)
def rdA (A B : Ew) (k f : Nat) : Ew := (nI k, nI f, (eBecome A B).2.2)
def rdI (num : Rl) (z : Nat) (B : Ew) (W : Rw) (t k : Nat) (s : Ew × Int32) : Nat → Ew × Int32
  | 0 => s
  | f + 1 => (gLast num (rdA (rdI num z B W t k s f).1 B k f) W t z, if gTold num (rdA (rdI num z B W t k s f).1 B k f) W t z then (rdI num z B W t k s f).2 + 1 else (rdI num z B W t k s f).2)
def rdO (num : Rl) (z : Nat) (B : Ew) (W : Rw) (t : Nat) (A : Ew) : Nat → Ew × Int32
  | 0 => (A, 0)
  | k + 1 => rdI num z B W t k (rdO num z B W t A k) 100
def cRd (K : CS) (a e : Nat) : Nat → Ew × Int32 := rdO (K.2.2.1 a).1 (K.2.2.1 a).2.1 ((K.1 0).2.2.2.2.2.2 e) (K.1 0).2.2.1 (K.1 0).1 ((K.1 3).2.2.2.2.2.2 0)
def cRead (K : CS) (a b : Int32) : Int32 × CS := if inb 0 3 a then (if (K.2.2.1 (ix a)).2.2 = 0 then cFind K 5 else if inE (K.1 0).2.1 b then ((cRd K (ix a) (ix b) 6).2, kL K (cRd K (ix a) (ix b) 6).1) else cFind K 0) else cFind K 0
