def inz (lo hi z : Int) : Bool := decide (lo ≤ z ∧ z ≤ hi)
def inE (n : Nat) (x : Int32) : Bool := inb 0 ((n : Int) - 1) x
theorem inE_ix {n : Nat} {x : Int32} (h : inE n x = true) : ∃ j : Nat, j < n ∧ x = nI j := by
  obtain ⟨h1, h2⟩ := inb_t.mp h
  have hr := fb_rng x
  obtain ⟨j, -, h4, rfl⟩ := inb_ix (lo := 0) (hi := x.toInt.toNat) (x := x) (inb_t.mpr ⟨h1, by omega⟩)
  refine ⟨j, ?_, rfl⟩
  have hj : j < 2 ^ 31 := by omega
  rw [nI_toInt hj] at h2
  omega
theorem i2l_i (x : Int32) : x.toInt64.toInt = x.toInt := Int32.toInt_toInt64 x
theorem nI_m1 {n : Nat} (h : n ≤ 1000) : (nI n - 1).toInt = (n : Int) - 1 := by
  have e : (nI n - nI 1).toInt = (n : Int) - (1 : Nat) := pk_sub_toInt (by omega) (by omega)
  exact e
theorem i2l_m1 {n : Nat} (h : n ≤ 1000) : (nI n - 1).toInt64.toInt = (n : Int) - 1 := by rw [i2l_i, nI_m1 h]
def mLoses (k f : Int32) : Int32 := if k = 1 then 0 else if k = 2 then 2 * (f / 10) else if k = 4 then 1 else if k = 5 then (if 1 < f / 10 then 2 * (f / 10) - 2 else 0) else f / 10
def mUnder (k a : Int32) : Bool := decide (a = 0) || (decide (k = a) || ((decide (k = 4) && decide (a = 1)) || (decide (k = 5) && decide (a = 2))))
abbrev Rw : Type := Nat → Int32
/-- one ewe's month -/
def mEwe (s : Rw) (m e : Nat) : Rw :=
  upd (upd s (38 + 14 * e + (2 + m)) (kGrows (s (38 + 14 * e + 0)) (s (2 + m)) - mn (mLoses (s (38 + 14 * e + 0)) (s (38 + 14 * e + 1))) (kGrows (s (38 + 14 * e + 0)) (s (2 + m))))) (38 + 14 * e + 1)
    (upd s (38 + 14 * e + (2 + m)) (kGrows (s (38 + 14 * e + 0)) (s (2 + m)) - mn (mLoses (s (38 + 14 * e + 0)) (s (38 + 14 * e + 1))) (kGrows (s (38 + 14 * e + 0)) (s (2 + m)))) (38 + 14 * e + 1) - mn (kCalms (upd s (38 + 14 * e + (2 + m)) (kGrows (s (38 + 14 * e + 0)) (s (2 + m)) - mn (mLoses (s (38 + 14 * e + 0)) (s (38 + 14 * e + 1))) (kGrows (s (38 + 14 * e + 0)) (s (2 + m)))) (38 + 14 * e + 0))) (upd s (38 + 14 * e + (2 + m)) (kGrows (s (38 + 14 * e + 0)) (s (2 + m)) - mn (mLoses (s (38 + 14 * e + 0)) (s (38 + 14 * e + 1))) (kGrows (s (38 + 14 * e + 0)) (s (2 + m)))) (38 + 14 * e + 1)))
def mGr (s : Rw) (m : Nat) : Nat → Rw
  | 0 => s
  | e + 1 => mEwe (mGr s m e) m e
/-- one month of one ewe comes off -/
def mSh1 (s : Rw) (e m : Nat) : Rw :=
  upd (upd (upd s (14 + m) (mn (s (14 + m) + s (38 + 14 * e + (2 + m))) 9999)) (26 + m) (mn (upd s (14 + m) (mn (s (14 + m) + s (38 + 14 * e + (2 + m))) 9999) (26 + m) + (if 0 < s (38 + 14 * e + (2 + m)) then kBurrs (s (38 + 14 * e + 0)) (s (2 + m)) else 0)) 9999)) (38 + 14 * e + (2 + m)) 0
def mShE (s : Rw) (e : Nat) : Nat → Rw
  | 0 => s
  | m + 1 => mSh1 (mShE s e m) e m
def mShA (s : Rw) : Nat → Rw
  | 0 => s
  | e + 1 => mShE (mShA s e) e 12
def mOne0 (s : Rw) (n m : Nat) : Rw := if m = 5 then mShA (mGr s m n) n else mGr s m n
def mOne (s : Rw) (n m : Nat) : Rw := upd (mOne0 s n m) 0 (mOne0 s n m 0 + 1)
/-- months go: n ewes, from the month mo -/
def mGo (s : Rw) (n mo : Nat) : Nat → Rw
  | 0 => s
  | k + 1 => mOne (mGo s n mo k) n ((mo + k) % 12)
def mAdd0 (s : Rw) (n : Nat) : Nat → Rw
  | 0 => upd s 1 (s 1 + 1)
  | k + 1 => upd (mAdd0 s n k) (38 + 14 * n + k) 0
def mAdd (s : Rw) (n : Nat) (k : Int32) : Rw := upd (mAdd0 s n 14) (38 + 14 * n + 0) k
def mWarm (s : Rw) (c : Nat) : Int32 := sm (fun m => wOf (s (2 + m)) (s (150 + 12 * c + m))) 12
def mHarsh (s : Rw) (c : Nat) : Int32 := sm (fun m => s (150 + 12 * c + m) * s (26 + m) / 100) 12
def mMsk (s : Rw) (c : Nat) : Nat → Int32
  | 0 => 0
  | m + 1 => mMsk s c m ||| (if 0 < s (150 + 12 * c + m) then 1 <<< (nI m &&& 31) else 0)
def mCuts (s : Rw) (c m : Nat) (x : Int32) : Rw := upd (upd s (14 + m) (s (14 + m) - x)) (150 + 12 * c + m) (upd s (14 + m) (s (14 + m) - x) (150 + 12 * c + m) + x)
def mWool (s : Rw) (e : Nat) : Int32 := sm (fun m => s (38 + 14 * e + 2 + m)) 12
def mCoats (s : Rw) : Nat → Int32
  | 0 => 0
  | c + 1 => mCoats s c + (if mMsk s c 12 = 0 then 0 else 1)
theorem upd_ne {f : Rw} {k j : Nat} {x : Int32} (h : j ≠ k) : upd f k x j = f j := if_neg h
theorem mEwe_lo (s : Rw) (m e j : Nat) (hj : j < 38) : mEwe s m e j = s j := by
  unfold mEwe
  rw [upd_ne (by omega), upd_ne (by omega)]
theorem mGr_lo (s : Rw) (m j : Nat) (hj : j < 38) : ∀ e, mGr s m e j = s j
  | 0 => rfl
  | e + 1 => (mEwe_lo _ m e j hj).trans (mGr_lo s m j hj e)
theorem mSh1_lo (s : Rw) (e m j : Nat) (hj : j < 14) : mSh1 s e m j = s j := by
  unfold mSh1
  rw [upd_ne (by omega), upd_ne (by omega), upd_ne (by omega)]
theorem mShE_lo (s : Rw) (e j : Nat) (hj : j < 14) : ∀ m, mShE s e m j = s j
  | 0 => rfl
  | m + 1 => (mSh1_lo _ e m j hj).trans (mShE_lo s e j hj m)
theorem mShA_lo (s : Rw) (j : Nat) (hj : j < 14) : ∀ e, mShA s e j = s j
  | 0 => rfl
  | e + 1 => (mShE_lo _ e j hj 12).trans (mShA_lo s j hj e)
theorem mOne0_lo (s : Rw) (n m j : Nat) (hj : j < 14) : mOne0 s n m j = s j := by
  unfold mOne0
  split
  · rw [mShA_lo _ j hj, mGr_lo _ m j (by omega)]
  · rw [mGr_lo _ m j (by omega)]
theorem mOne_lo (s : Rw) (n m j : Nat) (hj : j < 14) (h0 : j ≠ 0) : mOne s n m j = s j := by
  unfold mOne
  rw [upd_ne h0, mOne0_lo s n m j hj]
theorem mGo_lo (s : Rw) (n mo j : Nat) (hj : j < 14) (h0 : j ≠ 0) : ∀ k, mGo s n mo k j = s j
  | 0 => rfl
  | k + 1 => (mOne_lo _ n _ j hj h0).trans (mGo_lo s n mo j hj h0 k)
theorem mGo_mo (s : Rw) (n mo : Nat) (h : s 0 = nI mo) : ∀ k, mGo s n mo k 0 = nI (mo + k)
  | 0 => h
  | k + 1 => by
    show mOne (mGo s n mo k) n ((mo + k) % 12) 0 = _
    unfold mOne
    rw [pk_us, mOne0_lo _ n _ 0 (by omega), mGo_mo s n mo h k, nI_1]
    rfl
