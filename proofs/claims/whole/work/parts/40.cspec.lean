/-! the class's calls -/
def cFind (K : CS) (k : Nat) : Int32 × CS := (-1000000001 - nI k, (K.1, K.2.1, K.2.2.1, upd K.2.2.2.1 k (K.2.2.2.1 k + 1), K.2.2.2.2))
def kP (K : CS) (q : Nat) (P : Pa) : CS := (va_up K.1 q P, K.2)
def sW (P : Pa) (f : Rw) : Pa := (P.1, P.2.1, f, P.2.2.2)
def sE (P : Pa) (e : Nat) (A : Ew) : Pa := (P.1, P.2.1, P.2.2.1, P.2.2.2.1, P.2.2.2.2.1, P.2.2.2.2.2.1, va_up P.2.2.2.2.2.2 e A)
def pAdd (P : Pa) (k f : Int32) : Pa := (P.1, P.2.1 + 1, P.2.2.1, P.2.2.2.1, P.2.2.2.2.1, P.2.2.2.2.2.1, va_up P.2.2.2.2.2.2 P.2.1 (k, f, 0, z12 (P.2.2.2.2.2.2 P.2.1).2.2.2 12))
def pCut (P : Pa) (c m : Nat) (x : Int32) : Pa := (P.1, P.2.1, P.2.2.1, upd P.2.2.2.1 m (P.2.2.2.1 m - x), P.2.2.2.2.1, va_up P.2.2.2.2.2.1 c (upd (P.2.2.2.2.2.1 c) m (P.2.2.2.2.2.1 c m + x)), P.2.2.2.2.2.2)
def pUndo (P : Pa) (c : Nat) : Pa := (P.1, P.2.1, P.2.2.1, fa_fill (gU1 P.2.2.2.1 (P.2.2.2.2.2.1 c)) P.2.2.2.1 12, P.2.2.2.2.1, va_up P.2.2.2.2.2.1 c (fa_fill (fun _ => 0) (P.2.2.2.2.2.1 c) 12), P.2.2.2.2.2.2)
def ofK : Nat → Int32 → Int32 → Bool
  | 0, _, _ => false
  | n + 1, k, a => if k < 0 then false else if k = a then true else ofK n (kAbove k) a
def cWeather (K : CS) (a b : Int32) : Int32 × CS := if inb 0 11 a && inb (-20) 20 b then ((K.1 0).2.2.1 (ix a), kP K 0 (sW (K.1 0) (upd (K.1 0).2.2.1 (ix a) b))) else cFind K 0
def cMonthOf (K : CS) (a b : Int32) : Int32 × CS := if inb 0 11 a then (if b = 0 then (100 + (K.1 0).2.2.1 (ix a), K) else if b = 1 then ((K.1 0).2.2.2.1 (ix a), K) else if b = 2 then ((K.1 0).2.2.2.2.1 (ix a), K) else cFind K 0) else cFind K 0
def cNow (K : CS) (a : Int32) : Int32 × CS := if a = 0 then (nI (K.1 0).1, K) else if a = 1 then (nI ((K.1 0).1 % 12), K) else if a = 2 then (100 + (K.1 0).2.2.1 ((K.1 0).1 % 12), K) else if a = 3 then (sm (K.1 0).2.2.2.1 12, K) else if a = 4 then (sm (K.1 0).2.2.2.2.1 12, K) else if a = 5 then (sm (fun e => ((K.1 0).2.2.2.2.2.2 e).2.2.1) (K.1 0).2.1, K) else cFind K 0
def cEwe (K : CS) (a : Int32) : Int32 × CS := if inb 0 5 a then (if 8 ≤ (K.1 0).2.1 then cFind K 1 else (nI (K.1 0).2.1, kP K 0 (pAdd (K.1 0) a 0))) else cFind K 0
def cOf (K : CS) (a b : Int32) : Int32 × CS := if inE (K.1 0).2.1 a then (if b = 0 then (((K.1 0).2.2.2.2.2.2 (ix a)).1, K) else if b = 1 then (((K.1 0).2.2.2.2.2.2 (ix a)).2.1, K) else if b = 2 then (((K.1 0).2.2.2.2.2.2 (ix a)).2.2.1, K) else if b = 3 then (kCalms ((K.1 0).2.2.2.2.2.2 (ix a)).1, K) else cFind K 0) else cFind K 0
def cFleece (K : CS) (a b : Int32) : Int32 × CS := if inE (K.1 0).2.1 a && inb 0 11 b then (((K.1 0).2.2.2.2.2.2 (ix a)).2.2.2 (ix b), K) else cFind K 0
def cCan (K : CS) (a b c : Int32) : Int32 × CS := if inE (K.1 0).2.1 a && inb (-20) 20 c then (if b = 0 then (kGrows ((K.1 0).2.2.2.2.2.2 (ix a)).1 c, K) else if b = 1 then (kLoses ((K.1 0).2.2.2.2.2.2 (ix a)).1 ((K.1 0).2.2.2.2.2.2 (ix a)).2.1, K) else if b = 2 then (kBurrs ((K.1 0).2.2.2.2.2.2 (ix a)).1 c, K) else cFind K 0) else cFind K 0
def cScare (K : CS) (a b : Int32) : Int32 × CS := if inE (K.1 0).2.1 a && inb 0 99 b then (((K.1 0).2.2.2.2.2.2 (ix a)).2.1, kP K 0 (sE (K.1 0) (ix a) (((K.1 0).2.2.2.2.2.2 (ix a)).1, b, ((K.1 0).2.2.2.2.2.2 (ix a)).2.2))) else cFind K 0
def cTurn (K : CS) (a b : Int32) : Int32 × CS := if inE (K.1 0).2.1 a && inb 0 5 b then (((K.1 0).2.2.2.2.2.2 (ix a)).1, kP K 0 (sE (K.1 0) (ix a) (b, ((K.1 0).2.2.2.2.2.2 (ix a)).2))) else cFind K 0
def cAs (K : CS) (a b : Int32) : Int32 × CS := if inE (K.1 0).2.1 a && inb 0 5 b then (if ofK 6 ((K.1 0).2.2.2.2.2.2 (ix a)).1 b then (((K.1 0).2.2.2.2.2.2 (ix a)).2.1, K) else cFind K 2) else cFind K 0
def cCut (K : CS) (a b c : Int32) : Int32 × CS := if inb 0 3 a && (inb 0 11 b && inb 1 999 c) then (if c ≤ (K.1 0).2.2.2.1 (ix b) then (if c ≤ 999 - (K.1 0).2.2.2.2.2.1 (ix a) (ix b) then ((pCut (K.1 0) (ix a) (ix b) c).2.2.2.2.2.1 (ix a) (ix b), kP K 0 (pCut (K.1 0) (ix a) (ix b) c)) else cFind K 1) else cFind K 4) else cFind K 0
def cCoatOf (K : CS) (a b : Int32) : Int32 × CS := if inb 0 3 a then (if b = 0 then (sm (fun m => wOf ((K.1 0).2.2.1 m) ((K.1 0).2.2.2.2.2.1 (ix a) m)) 12, K) else if b = 1 then (sm (fun m => (K.1 0).2.2.2.2.2.1 (ix a) m * (K.1 0).2.2.2.2.1 m / 100) 12, K) else if b = 2 then (sm ((K.1 0).2.2.2.2.2.1 (ix a)) 12, K) else if b = 3 then (msk ((K.1 0).2.2.2.2.2.1 (ix a)) 12, K) else cFind K 0) else cFind K 0
def cUnpick (K : CS) (a : Int32) : Int32 × CS := if inb 0 3 a then (sm ((K.1 0).2.2.2.2.2.1 (ix a)) 12, kP K 0 (pUndo (K.1 0) (ix a))) else cFind K 0
def cMonths (K : CS) (a : Int32) : Int32 × CS := if inb 1 60 a then (if (K.1 0).1 + ix a ≤ 9999 then (sm (pPass (K.1 0) (ix a)).2.2.2.1 12, kP K 0 (pPass (K.1 0) (ix a))) else cFind K 4) else cFind K 0
/-- one ewe alone, months ahead -/
def aOne (A : Ew) (W : Rw) (t : Nat) : Ew := if t % 12 = 5 then eBare (eGrow A (t % 12) (W (t % 12))) else eGrow A (t % 12) (W (t % 12))
def aGo (A : Ew) (W : Rw) (t : Nat) : Nat → Ew
  | 0 => A
  | i + 1 => aOne (aGo A W t i) W (t + i)
/-- the lone ewe is this one -/
def kL (K : CS) (A : Ew) : CS := kP K 3 (sE (K.1 3) 0 A)
def cLone (K : CS) (e : Nat) : Ew := eBecome ((K.1 3).2.2.2.2.2.2 0) ((K.1 0).2.2.2.2.2.2 e)
def cOn (K : CS) (a b c : Int32) : Int32 × CS := if inE (K.1 0).2.1 a && (inb 0 120 b && inb 0 1 c) then ((if c = 0 then (aGo (cLone K (ix a)) (K.1 0).2.2.1 (K.1 0).1 (ix b)).2.2.1 else (aGo (cLone K (ix a)) (K.1 0).2.2.1 (K.1 0).1 (ix b)).2.1), kL K (aGo (cLone K (ix a)) (K.1 0).2.2.1 (K.1 0).1 (ix b))) else cFind K 0
def cThen (K : CS) (a b c : Int32) : Int32 × CS := if inb 0 11 a && (inb 0 120 b && inb 0 1 c) then ((if c = 0 then (pPass (pCopy (K.1 2) (K.1 0)) (ix b)).2.2.2.1 (ix a) else (pPass (pCopy (K.1 2) (K.1 0)) (ix b)).2.2.2.2.1 (ix a)), kP K 2 (pPass (pCopy (K.1 2) (K.1 0)) (ix b))) else cFind K 0
