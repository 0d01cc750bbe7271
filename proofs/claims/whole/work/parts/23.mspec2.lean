theorem fa_first_eq {p : Nat → Bool} {n i : Nat} (h1 : i ≤ n) (hno : ∀ j, j < i → p j = false) (hyes : i < n → p i = true) : fa_first p n = i := by
  have a1 := fa_first_le p n
  rcases Nat.lt_trichotomy (fa_first p n) i with h | h | h
  · have := fa_first_yes p n (by omega)
    rw [hno _ h] at this
    exact absurd this (by decide)
  · exact h
  · have := fa_first_no p n i h
    rw [hyes (by omega)] at this
    exact absurd this (by decide)
theorem fnd0 : (-1000000001 - nI 0 : Int32) = -1000000001 := rfl
theorem fnd1 : (-1000000001 - nI 1 : Int32) = -1000000002 := rfl
theorem fnd2 : (-1000000001 - nI 2 : Int32) = -1000000003 := rfl
theorem fnd3 : (-1000000001 - nI 3 : Int32) = -1000000004 := rfl
theorem fnd4 : (-1000000001 - nI 4 : Int32) = -1000000005 := rfl
theorem fnd5 : (-1000000001 - nI 5 : Int32) = -1000000006 := rfl
theorem fnd6 : (-1000000001 - nI 6 : Int32) = -1000000007 := rfl
abbrev ix (x : Int32) : Nat := x.toNatClampNeg
def mP (s : Rw) (n t w : Nat) (sg v : Int32) : Nat → Bool := fun i => decide (v ≤ sg * mGo s n t i w)
def mFirst (s : Rw) (n t w : Nat) (sg v : Int32) : Nat := fa_first (mP s n t w sg v) 121
/-- the model's calls: what is answered, what it is then -/
def mFind (M : MS) (k : Nat) : Int32 × MS := (-1000000001 - nI k, (M.1, M.2.1, M.2.2.1, M.2.2.2.1, upd M.2.2.2.2.1 k (M.2.2.2.2.1 k + 1), M.2.2.2.2.2))
def xs (M : MS) (s : Rw) : MS := (s, M.2)
def xa (M : MS) (a : Rw) : MS := (M.1, M.2.1, M.2.2.1, a, M.2.2.2.2)
def qWeather (M : MS) (a b : Int32) : Int32 × MS := if inb 0 11 a && inb (-20) 20 b then (M.1 (2 + ix a), xs M (upd M.1 (2 + ix a) b)) else mFind M 0
def qMonthOf (M : MS) (a b : Int32) : Int32 × MS := if inb 0 11 a && inb 0 2 b then ((if b = 0 then 100 + M.1 (2 + ix a) else if b = 1 then M.1 (14 + ix a) else M.1 (26 + ix a)), M) else mFind M 0
def qNow (M : MS) (n t : Nat) (a : Int32) : Int32 × MS := if a = 0 then (nI t, M) else if a = 1 then (nI (t % 12), M) else if a = 2 then (100 + M.1 (2 + t % 12), M) else if a = 3 then (sm (fun m => M.1 (14 + m)) 12, M) else if a = 4 then (sm (fun m => M.1 (26 + m)) 12, M) else if a = 5 then (sm (fun e => mWool M.1 e) n, M) else mFind M 0
def qEwe (M : MS) (n : Nat) (a : Int32) : Int32 × MS := if inb 0 5 a then (if n = 8 then mFind M 1 else (nI n, xs M (mAdd M.1 n a))) else mFind M 0
def qOf (M : MS) (n : Nat) (a b : Int32) : Int32 × MS := if inE n a && inb 0 3 b then ((if ix b ≤ 1 then M.1 (38 + 14 * ix a + ix b) else if ix b = 2 then mWool M.1 (ix a) else kCalms (M.1 (38 + 14 * ix a + 0))), M) else mFind M 0
def qFleece (M : MS) (n : Nat) (a b : Int32) : Int32 × MS := if inE n a && inb 0 11 b then (M.1 (38 + 14 * ix a + (2 + ix b)), M) else mFind M 0
def qCan (M : MS) (n : Nat) (a b c : Int32) : Int32 × MS := if inE n a && (inb 0 2 b && inb (-20) 20 c) then ((if b = 0 then kGrows (M.1 (38 + 14 * ix a + 0)) c else if b = 1 then mLoses (M.1 (38 + 14 * ix a + 0)) (M.1 (38 + 14 * ix a + 1)) else kBurrs (M.1 (38 + 14 * ix a + 0)) c), M) else mFind M 0
def qScare (M : MS) (n : Nat) (a b : Int32) : Int32 × MS := if inE n a && inb 0 99 b then (M.1 (38 + 14 * ix a + 1), xs M (upd M.1 (38 + 14 * ix a + 1) b)) else mFind M 0
def qTurn (M : MS) (n : Nat) (a b : Int32) : Int32 × MS := if inE n a && inb 0 5 b then (M.1 (38 + 14 * ix a + 0), xs M (upd M.1 (38 + 14 * ix a + 0) b)) else mFind M 0
def qAs (M : MS) (n : Nat) (a b : Int32) : Int32 × MS := if inE n a && inb 0 5 b then (if mUnder (M.1 (38 + 14 * ix a + 0)) b then (M.1 (38 + 14 * ix a + 1), M) else mFind M 2) else mFind M 0
def qCut (M : MS) (a b c : Int32) : Int32 × MS := if inb 0 3 a && (inb 0 11 b && inb 1 999 c) then (if M.1 (14 + ix b) < c then mFind M 4 else if 999 < M.1 (150 + 12 * ix a + ix b) + c then mFind M 1 else (mCuts M.1 (ix a) (ix b) c (150 + 12 * ix a + ix b), xs M (mCuts M.1 (ix a) (ix b) c))) else mFind M 0
def qCoatOf (M : MS) (a b : Int32) : Int32 × MS := if inb 0 3 a && inb 0 3 b then ((if b = 0 then mWarm M.1 (ix a) else if b = 1 then mHarsh M.1 (ix a) else if b = 2 then sm (fun m => M.1 (150 + 12 * ix a + 0 + m)) 12 else mMsk M.1 (ix a) 12), M) else mFind M 0
def mUnp (s : Rw) (c : Nat) : Nat → Rw
  | 0 => s
  | m + 1 => upd (upd (mUnp s c m) (14 + m) (mn (mUnp s c m (14 + m) + mUnp s c m (150 + 12 * c + m)) 9999)) (150 + 12 * c + m) 0
def qUnpick (M : MS) (a : Int32) : Int32 × MS := if inb 0 3 a then (sm (fun m => M.1 (150 + 12 * ix a + 0 + m)) 12, xs M (mUnp M.1 (ix a) 12)) else mFind M 0
def qMonths (M : MS) (n t : Nat) (a : Int32) : Int32 × MS := if inb 1 60 a then (if 9999 < t + ix a then mFind M 4 else (sm (fun m => mGo M.1 n t (ix a) (14 + m)) 12, xs M (mGo M.1 n t (ix a)))) else mFind M 0
def qOn (M : MS) (n t : Nat) (a b c : Int32) : Int32 × MS := if inE n a && (inb 0 120 b && inb 0 1 c) then ((if c = 0 then sm (fun m => mGo M.1 n t (ix b) (38 + 14 * ix a + 2 + m)) 12 else mGo M.1 n t (ix b) (38 + 14 * ix a + 1)), xa M M.1) else mFind M 0
def qThen (M : MS) (n t : Nat) (a b c : Int32) : Int32 × MS := if inb 0 11 a && (inb 0 120 b && inb 0 1 c) then ((if c = 0 then mGo M.1 n t (ix b) (14 + ix a) else mGo M.1 n t (ix b) (26 + ix a)), xa M M.1) else mFind M 0
def qFirst (M : MS) (n t w : Nat) (sg v : Int32) : Int32 × MS := if 120 < mFirst M.1 n t w sg v then mFind (xa M M.1) 3 else (nI (mFirst M.1 n t w sg v), xa M M.1)
def qEnough (M : MS) (n t : Nat) (a b : Int32) : Int32 × MS := if inb 0 11 a && inb 0 9999 b then qFirst M n t (14 + ix a) 1 b else mFind M 0
def qCalm (M : MS) (n t : Nat) (a : Int32) : Int32 × MS := if inE n a then qFirst M n t (38 + 14 * ix a + 1) (-1) 0 else mFind M 0
