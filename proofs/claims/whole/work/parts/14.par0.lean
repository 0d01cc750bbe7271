theorem f1_par {G : Gl} {par : Nat → Pa} {tp : Tp} {sh : Nat → Sh} {tl : Nat → Int32} {hi : Int32} {M : MS} {p mo sz : Nat} {W S R : Nat → Int32} {C : Nat → Nat → Int32} {E : Nat → Ew} {q : Nat} (hq : q < 3) (hpq : q ≠ p) : cel G ((va_up par p (mo, sz, W, S, R, C, E), tp, sh, tl, hi), M) (1 + q) = ob 1 [.int (nI (par q).1), .int (nI (par q).2.1), .ref (ga G (4 + q)), .ref (ga G (7 + q)), .ref (ga G (10 + q)), .ref (ga G (13 + q)), .ref (ga G (16 + q))] := by
  rw [cel_par G _ hq]
  dsimp only [gP]
  rw [va_up_n hpq]
theorem f1_wea {G : Gl} {par : Nat → Pa} {tp : Tp} {sh : Nat → Sh} {tl : Nat → Int32} {hi : Int32} {M : MS} {p mo sz : Nat} {W S R : Nat → Int32} {C : Nat → Nat → Int32} {E : Nat → Ew} {q : Nat} (hq : q < 3) (hpq : q ≠ p) : cel G ((va_up par p (mo, sz, W, S, R, C, E), tp, sh, tl, hi), M) (4 + q) = ai (gcI G) 12 (par q).2.2.1 := by
  rw [cel_wea G _ hq]
  dsimp only [gP]
  rw [va_up_n hpq]
theorem f1_sto {G : Gl} {par : Nat → Pa} {tp : Tp} {sh : Nat → Sh} {tl : Nat → Int32} {hi : Int32} {M : MS} {p mo sz : Nat} {W S R : Nat → Int32} {C : Nat → Nat → Int32} {E : Nat → Ew} {q : Nat} (hq : q < 3) (hpq : q ≠ p) : cel G ((va_up par p (mo, sz, W, S, R, C, E), tp, sh, tl, hi), M) (7 + q) = ai (gcI G) 12 (par q).2.2.2.1 := by
  rw [cel_sto G _ hq]
  dsimp only [gP]
  rw [va_up_n hpq]
theorem f1_rou {G : Gl} {par : Nat → Pa} {tp : Tp} {sh : Nat → Sh} {tl : Nat → Int32} {hi : Int32} {M : MS} {p mo sz : Nat} {W S R : Nat → Int32} {C : Nat → Nat → Int32} {E : Nat → Ew} {q : Nat} (hq : q < 3) (hpq : q ≠ p) : cel G ((va_up par p (mo, sz, W, S, R, C, E), tp, sh, tl, hi), M) (10 + q) = ai (gcI G) 12 (par q).2.2.2.2.1 := by
  rw [cel_rou G _ hq]
  dsimp only [gP]
  rw [va_up_n hpq]
theorem f1_coa {G : Gl} {par : Nat → Pa} {tp : Tp} {sh : Nat → Sh} {tl : Nat → Int32} {hi : Int32} {M : MS} {p mo sz : Nat} {W S R : Nat → Int32} {C : Nat → Nat → Int32} {E : Nat → Ew} {q c : Nat} (hq : q < 3) (hc : c < 4) (hpq : q ≠ p) : cel G ((va_up par p (mo, sz, W, S, R, C, E), tp, sh, tl, hi), M) (19 + (4 * q + c)) = ai (gcI G) 12 ((par q).2.2.2.2.2.1 c) := by
  rw [cel_coa G _ hq hc]
  dsimp only [gP]
  rw [va_up_n hpq]
theorem f1_ewe {G : Gl} {par : Nat → Pa} {tp : Tp} {sh : Nat → Sh} {tl : Nat → Int32} {hi : Int32} {M : MS} {p mo sz : Nat} {W S R : Nat → Int32} {C : Nat → Nat → Int32} {E : Nat → Ew} {q d : Nat} (hqd : 8 * q + d < 25) (hd8 : d < 8) (hpq : q ≠ p) : cel G ((va_up par p (mo, sz, W, S, R, C, E), tp, sh, tl, hi), M) (31 + (8 * q + d)) = ob 0 [.int ((par q).2.2.2.2.2.2 d).1, .int ((par q).2.2.2.2.2.2 d).2.1, .int ((par q).2.2.2.2.2.2 d).2.2.1, .ref (ga G (56 + (8 * q + d)))] := by
  rw [cel_ewe G _ hqd hd8]
  dsimp only [gP]
  rw [va_up_n hpq]
theorem f1_fle {G : Gl} {par : Nat → Pa} {tp : Tp} {sh : Nat → Sh} {tl : Nat → Int32} {hi : Int32} {M : MS} {p mo sz : Nat} {W S R : Nat → Int32} {C : Nat → Nat → Int32} {E : Nat → Ew} {q d : Nat} (hqd : 8 * q + d < 25) (hd8 : d < 8) (hpq : q ≠ p) : cel G ((va_up par p (mo, sz, W, S, R, C, E), tp, sh, tl, hi), M) (56 + (8 * q + d)) = ai (gcI G) 12 ((par q).2.2.2.2.2.2 d).2.2.2 := by
  rw [cel_fle G _ hqd hd8]
  dsimp only [gP]
  rw [va_up_n hpq]
def sm (f : Nat → Int32) : Nat → Int32
  | 0 => 0
  | n + 1 => sm f n + f n
theorem fa_upd {g f : Nat → Int32} {i : Nat} {v : Int32} (h : v = g i) : upd (fa_fill g f i) i v = fa_fill g f (i + 1) := by rw [h, fa_fill_succ]
theorem fa_skip {α : Type} {g f : Nat → α} {i : Nat} (h : f i = g i) : fa_fill g f i = fa_fill g f (i + 1) := by
  funext j
  unfold fa_fill
  by_cases h1 : j < i
  · rw [if_pos h1, if_pos (by omega)]
  · rw [if_neg h1]
    by_cases h2 : j < i + 1
    · rw [if_pos h2, show j = i by omega, h]
    · rw [if_neg h2]
theorem fa_va {α : Type} {g f : Nat → α} {i : Nat} {v : α} (h : v = g i) : va_up (fa_fill g f i) i v = fa_fill g f (i + 1) := by
  funext j
  unfold fa_fill va_up
  by_cases h1 : j = i
  · rw [if_pos h1, if_pos (by omega), h1, h]
  · rw [if_neg h1]
    dsimp only
    by_cases h2 : j < i
    · rw [if_pos h2, if_pos (by omega)]
    · rw [if_neg h2, if_neg (by omega)]
theorem fa_here {α : Type} (g f : Nat → α) (i : Nat) : fa_fill g f i i = f i := fa_fill_out (Nat.le_refl i)
def wOf (x n : Int32) : Int32 := if x < 0 then 2 * n else if 10 < x then n / 2 else n
def gS1 (S fl : Nat → Int32) : Nat → Int32 := fun j => if 0 < fl j then mn 9999 (S j + fl j) else S j
def gR1 (R W fl : Nat → Int32) (k : Int32) : Nat → Int32 := fun j => if 0 < fl j then mn 9999 (R j + kBurrs k (W j)) else R j
def gU1 (S D : Nat → Int32) : Nat → Int32 := fun j => mn 9999 (S j + D j)
def msk (f : Nat → Int32) : Nat → Int32
  | 0 => 0
  | n + 1 => if 0 < f n then msk f n ||| (1 <<< (nI n &&& 31)) else msk f n
def cwl (C : Nat → Nat → Int32) : Nat → Int32
  | 0 => 0
  | n + 1 => if msk (C n) 12 = 0 then cwl C n else cwl C n + 1
/-- all are shorn, by numbers -/
def shT (W S R : Nat → Int32) (E : Nat → Ew) : Nat → (Nat → Int32) × (Nat → Int32) × (Nat → Ew)
  | 0 => (S, R, E)
  | i + 1 => (fa_fill (gS1 (shT W S R E i).1 ((shT W S R E i).2.2 i).2.2.2) (shT W S R E i).1 12, fa_fill (gR1 (shT W S R E i).2.1 W ((shT W S R E i).2.2 i).2.2.2 ((shT W S R E i).2.2 i).1) (shT W S R E i).2.1 12, va_up (shT W S R E i).2.2 i (eBare ((shT W S R E i).2.2 i)))
def pGr (P : Pa) : Nat → Ew := fa_fill (fun e => eGrow (P.2.2.2.2.2.2 e) (P.1 % 12) (P.2.2.1 (P.1 % 12))) P.2.2.2.2.2.2 P.2.1
def pSh (P : Pa) : (Nat → Int32) × (Nat → Int32) × (Nat → Ew) := if P.1 % 12 = 5 then shT P.2.2.1 P.2.2.2.1 P.2.2.2.2.1 (pGr P) P.2.1 else (P.2.2.2.1, P.2.2.2.2.1, pGr P)
/-- a MONTH goes -/
def pOne (P : Pa) : Pa := (P.1 + 1, P.2.1, P.2.2.1, (pSh P).1, (pSh P).2.1, P.2.2.2.2.2.1, (pSh P).2.2)
def pPass (P : Pa) : Nat → Pa
  | 0 => P
  | n + 1 => pOne (pPass P n)
theorem pPass_mo (P : Pa) (n : Nat) : (pPass P n).1 = P.1 + n := by
  induction n with
  | zero => rfl
  | succ n ih => show (pPass P n).1 + 1 = _; rw [ih]; omega
theorem pPass_sz (P : Pa) (n : Nat) : (pPass P n).2.1 = P.2.1 := by
  induction n with
  | zero => rfl
  | succ n ih => exact ih
/-- a parish becomes another -/
def pCopy (P Q : Pa) : Pa := (Q.1, Q.2.1, va_cpy Q.2.2.1 P.2.2.1 0 0 12, va_cpy Q.2.2.2.1 P.2.2.2.1 0 0 12, va_cpy Q.2.2.2.2.1 P.2.2.2.2.1 0 0 12, fa_fill (fun c => va_cpy (Q.2.2.2.2.2.1 c) (P.2.2.2.2.2.1 c) 0 0 12) P.2.2.2.2.2.1 4, fa_fill (fun e => eBecome (P.2.2.2.2.2.2 e) (Q.2.2.2.2.2.2 e)) P.2.2.2.2.2.2 Q.2.1)
