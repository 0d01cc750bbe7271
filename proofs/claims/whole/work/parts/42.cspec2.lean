def cQ (K : CS) : Pa := pCopy (K.1 2) (K.1 0)
def cEn (K : CS) (a : Nat) (v : Int32) : Nat → Bool := fun i => decide (v ≤ (pPass (cQ K) i).2.2.2.1 a)
def cEnough (K : CS) (a b : Int32) : Int32 × CS := if inb 0 11 a && inb 0 9999 b then (if fa_first (cEn K (ix a) b) 121 < 121 then (nI (fa_first (cEn K (ix a) b) 121), kP K 2 (pPass (cQ K) (fa_first (cEn K (ix a) b) 121))) else cFind (kP K 2 (pPass (cQ K) 121)) 3) else cFind K 0
def clm (f d : Int32) : Nat → Int32
  | 0 => f
  | i + 1 => clm f d i - d
def clP (f d : Int32) : Nat → Bool := fun i => decide (clm f d i ≤ 0)
def cCalm (K : CS) (a : Int32) : Int32 × CS := if inE (K.1 0).2.1 a then
  (if fa_first (clP ((K.1 0).2.2.2.2.2.2 (ix a)).2.1 (kCalms ((K.1 0).2.2.2.2.2.2 (ix a)).1)) 121 < 121 then (nI (fa_first (clP ((K.1 0).2.2.2.2.2.2 (ix a)).2.1 (kCalms ((K.1 0).2.2.2.2.2.2 (ix a)).1)) 121), K) else cFind K 3) else cFind K 0
def sKd (P : Pa) (e : Nat) (k : Int32) : Pa := sE P e (k, (P.2.2.2.2.2.2 e).2)
def tK (P H : Pa) (e n : Nat) : Nat → Pa
  | 0 => P
  | i + 1 => pPass (sKd (pCopy (tK P H e n i) H) e (nI i)) n
def vK (P H : Pa) (e n : Nat) : Nat → Int32 := fun i => sm (tK P H e n (i + 1)).2.2.2.1 12
def cKind (K : CS) (a b : Int32) : Int32 × CS := if inE (K.1 0).2.1 a && inb 1 60 b then ((amx (vK (K.1 2) (K.1 0) (ix a) (ix b)) 0 (-1) 6).1, kP K 2 (tK (K.1 2) (K.1 0) (ix a) (ix b) 6)) else cFind K 0
def tC (P H : Pa) (m n : Nat) : Nat → Pa
  | 0 => P
  | i + 1 => pPass (sW (pCopy (tC P H m n i) H) (upd (pCopy (tC P H m n i) H).2.2.1 m (20 - nI i))) n
def pC (P H : Pa) (m n : Nat) (v : Int32) : Nat → Bool := fun i => decide (v ≤ (tC P H m n (i + 1)).2.2.2.1 m)
def cCold (K : CS) (a b c : Int32) : Int32 × CS := if inb 0 11 a && (inb 1 60 b && inb 0 9999 c) then
  (if fa_first (pC (K.1 2) (K.1 0) (ix a) (ix b) c) 41 < 41 then (20 - nI (fa_first (pC (K.1 2) (K.1 0) (ix a) (ix b) c) 41), kP K 2 (tC (K.1 2) (K.1 0) (ix a) (ix b) (fa_first (pC (K.1 2) (K.1 0) (ix a) (ix b) c) 41 + 1))) else cFind (kP K 2 (tC (K.1 2) (K.1 0) (ix a) (ix b) 41)) 3) else cFind K 0
def sFr (A : Ew) (f : Int32) : Ew := (A.1, f, A.2.2)
def tB (A B : Ew) (W : Rw) (t n : Nat) : Nat → Ew
  | 0 => A
  | i + 1 => aGo (sFr (eBecome (tB A B W t n i) B) (99 - nI i)) W t n
def pB (A B : Ew) (W : Rw) (t n : Nat) (v : Int32) : Nat → Bool := fun i => decide (v ≤ (tB A B W t n (i + 1)).2.2.1)
def cPB (K : CS) (e n : Nat) (v : Int32) : Nat → Bool := pB ((K.1 3).2.2.2.2.2.2 0) ((K.1 0).2.2.2.2.2.2 e) (K.1 0).2.2.1 (K.1 0).1 n v
def cTB (K : CS) (e n : Nat) : Nat → Ew := tB ((K.1 3).2.2.2.2.2.2 0) ((K.1 0).2.2.2.2.2.2 e) (K.1 0).2.2.1 (K.1 0).1 n
def cBears (K : CS) (a b c : Int32) : Int32 × CS := if inE (K.1 0).2.1 a && (inb 0 60 b && inb 0 1188 c) then
  (if fa_first (cPB K (ix a) (ix b) c) 100 < 100 then (99 - nI (fa_first (cPB K (ix a) (ix b) c) 100), kL K (cTB K (ix a) (ix b) (fa_first (cPB K (ix a) (ix b) c) 100 + 1))) else cFind (kL K (cTB K (ix a) (ix b) 100)) 3) else cFind K 0
def tM (P H : Pa) (n : Nat) : Nat → Pa
  | 0 => P
  | i + 1 => pPass (sW (pCopy (tM P H n i) H) (upd (pCopy (tM P H n i) H).2.2.1 i (mn 20 ((pCopy (tM P H n i) H).2.2.1 i + 5)))) n
def amd (v : Nat → Int32) : Nat → Int32 × Int32
  | 0 => (0, 0)
  | i + 1 => if nI i = 0 ∨ v i < (amd v i).2 then (nI i, v i) else amd v i
def vM (P H : Pa) (n : Nat) : Nat → Int32 := fun i => sm (tM P H n (i + 1)).2.2.2.2.1 12
def cMilder (K : CS) (a : Int32) : Int32 × CS := if inb 1 60 a then ((amd (vM (K.1 2) (K.1 0) (ix a)) 12).1, kP K 2 (tM (K.1 2) (K.1 0) (ix a) 12)) else cFind K 0
def qB2 (P : Pa) (c : Nat) (x : Int32) : Nat → Bool := fun m => decide (x ≤ P.2.2.2.1 m) && decide (x ≤ 999 - P.2.2.2.2.2.1 c m)
def vB2 (P : Pa) (c : Nat) (x : Int32) : Nat → Int32 := fun m => wOf (P.2.2.1 m) (P.2.2.2.2.2.1 c m + x) - wOf (P.2.2.1 m) (P.2.2.2.2.2.1 c m)
def cBest (K : CS) (a b : Int32) : Int32 × CS := if inb 0 3 a && inb 1 999 b then (if (amc (qB2 (K.1 0) (ix a) b) (vB2 (K.1 0) (ix a) b) 12).1 < 0 then cFind K 3 else ((amc (qB2 (K.1 0) (ix a) b) (vB2 (K.1 0) (ix a) b) 12).1, K)) else cFind K 0
def vW2 (P : Pa) : Nat → Int32 := fun c => sm (fun m => wOf (P.2.2.1 m) (P.2.2.2.2.2.1 c m)) 12
def cWarmest (K : CS) : Int32 × CS := ((amx (vW2 (K.1 0)) 0 (-1) 4).1, K)
