/-- a truth as the machine has it -/
def b2 (b : Bool) : Int32 := if b then 1 else 0
theorem b2_t {b : Bool} (h : b = true) : b2 b = 1 := by rw [h]; rfl
theorem b2_f {b : Bool} (h : b = false) : b2 b = 0 := by rw [h]; rfl
theorem b2_0 {b : Bool} : b2 b = 0 ↔ b = false := by cases b <;> decide
theorem b2_n {b : Bool} : ¬ b2 b = 0 ↔ b = true := by cases b <;> decide
/-- a number that lies between two -/
def inb (lo hi : Int) (x : Int32) : Bool := decide (lo ≤ x.toInt ∧ x.toInt ≤ hi)
theorem inb_t {lo hi : Int} {x : Int32} : inb lo hi x = true ↔ lo ≤ x.toInt ∧ x.toInt ≤ hi := by unfold inb; exact decide_eq_true_iff
theorem inb_f {lo hi : Int} {x : Int32} : inb lo hi x = false ↔ ¬ (lo ≤ x.toInt ∧ x.toInt ≤ hi) := by unfold inb; exact decide_eq_false_iff_not
theorem inb_ix {lo hi : Nat} {x : Int32} (h : inb (lo : Int) (hi : Int) x = true) : ∃ j : Nat, lo ≤ j ∧ j ≤ hi ∧ x = nI j := by
  obtain ⟨h1, h2⟩ := inb_t.mp h
  obtain ⟨j, hj, rfl⟩ := nI_of (x := x) (fun hlt => by
    have := (Int32.lt_iff_toInt_lt).mp hlt
    have e0 : (0 : Int32).toInt = 0 := rfl
    omega)
  rw [nI_toInt hj] at h1 h2
  exact ⟨j, by omega, by omega, rfl⟩
section VROWS
variable {l : Launch} {X : VX} {f n : Nat} {cc : ByteArray} {nL : Nat} {own : String} {ret : Option FieldType} {G : Gl} {ov : Option Value} {wF w : WS} {pc : Nat} {ls ls2 : List (Nat × Value)} {st : List Value}
theorem v_iadd {x y : Int32} (hd : decode cc pc = .ok (.iadd, 1))  (q : Nat) (hq : pc + 1 = q) (hk : V l X f n cc nL own ret G ov wF w q ls (.int (x + y) :: st)) : V l X f n cc nL own ret G ov wF w pc ls (.int y :: .int x :: st) := by
  obtain ⟨p, e, s, m, args, below, meth, c⟩ := X
  intro hX H locs la hw hS hl
  subst hq
  exact lv_iadd hX.1 hX.2.1 hd  (hk hX H locs la hw hS hl)
theorem v_isub {x y : Int32} (hd : decode cc pc = .ok (.isub, 1))  (q : Nat) (hq : pc + 1 = q) (hk : V l X f n cc nL own ret G ov wF w q ls (.int (x - y) :: st)) : V l X f n cc nL own ret G ov wF w pc ls (.int y :: .int x :: st) := by
  obtain ⟨p, e, s, m, args, below, meth, c⟩ := X
  intro hX H locs la hw hS hl
  subst hq
  exact lv_isub hX.1 hX.2.1 hd  (hk hX H locs la hw hS hl)
theorem v_imul {x y : Int32} (hd : decode cc pc = .ok (.imul, 1))  (q : Nat) (hq : pc + 1 = q) (hk : V l X f n cc nL own ret G ov wF w q ls (.int (x * y) :: st)) : V l X f n cc nL own ret G ov wF w pc ls (.int y :: .int x :: st) := by
  obtain ⟨p, e, s, m, args, below, meth, c⟩ := X
  intro hX H locs la hw hS hl
  subst hq
  exact lv_imul hX.1 hX.2.1 hd  (hk hX H locs la hw hS hl)
theorem v_iand {x y : Int32} (hd : decode cc pc = .ok (.iand, 1))  (q : Nat) (hq : pc + 1 = q) (hk : V l X f n cc nL own ret G ov wF w q ls (.int (x &&& y) :: st)) : V l X f n cc nL own ret G ov wF w pc ls (.int y :: .int x :: st) := by
  obtain ⟨p, e, s, m, args, below, meth, c⟩ := X
  intro hX H locs la hw hS hl
  subst hq
  exact lv_iand hX.1 hX.2.1 hd  (hk hX H locs la hw hS hl)
theorem v_ior {x y : Int32} (hd : decode cc pc = .ok (.ior, 1))  (q : Nat) (hq : pc + 1 = q) (hk : V l X f n cc nL own ret G ov wF w q ls (.int (x ||| y) :: st)) : V l X f n cc nL own ret G ov wF w pc ls (.int y :: .int x :: st) := by
  obtain ⟨p, e, s, m, args, below, meth, c⟩ := X
  intro hX H locs la hw hS hl
  subst hq
  exact lv_ior hX.1 hX.2.1 hd  (hk hX H locs la hw hS hl)
theorem v_ishl {x y : Int32} (hd : decode cc pc = .ok (.ishl, 1))  (q : Nat) (hq : pc + 1 = q) (hk : V l X f n cc nL own ret G ov wF w q ls (.int (x <<< (y &&& 31)) :: st)) : V l X f n cc nL own ret G ov wF w pc ls (.int y :: .int x :: st) := by
  obtain ⟨p, e, s, m, args, below, meth, c⟩ := X
  intro hX H locs la hw hS hl
  subst hq
  exact lv_ishl hX.1 hX.2.1 hd  (hk hX H locs la hw hS hl)
theorem v_ishr {x y : Int32} (hd : decode cc pc = .ok (.ishr, 1))  (q : Nat) (hq : pc + 1 = q) (hk : V l X f n cc nL own ret G ov wF w q ls (.int (x >>> (y &&& 31)) :: st)) : V l X f n cc nL own ret G ov wF w pc ls (.int y :: .int x :: st) := by
  obtain ⟨p, e, s, m, args, below, meth, c⟩ := X
  intro hX H locs la hw hS hl
  subst hq
  exact lv_ishr hX.1 hX.2.1 hd  (hk hX H locs la hw hS hl)
theorem v_ladd {x y : Int64} (hd : decode cc pc = .ok (.ladd, 1))  (q : Nat) (hq : pc + 1 = q) (hk : V l X f n cc nL own ret G ov wF w q ls (.long (x + y) :: st)) : V l X f n cc nL own ret G ov wF w pc ls (.long y :: .long x :: st) := by
  obtain ⟨p, e, s, m, args, below, meth, c⟩ := X
  intro hX H locs la hw hS hl
  subst hq
  exact lv_ladd hX.1 hX.2.1 hd  (hk hX H locs la hw hS hl)
theorem v_lmul {x y : Int64} (hd : decode cc pc = .ok (.lmul, 1))  (q : Nat) (hq : pc + 1 = q) (hk : V l X f n cc nL own ret G ov wF w q ls (.long (x * y) :: st)) : V l X f n cc nL own ret G ov wF w pc ls (.long y :: .long x :: st) := by
  obtain ⟨p, e, s, m, args, below, meth, c⟩ := X
  intro hX H locs la hw hS hl
  subst hq
  exact lv_lmul hX.1 hX.2.1 hd  (hk hX H locs la hw hS hl)
theorem v_land {x y : Int64} (hd : decode cc pc = .ok (.land, 1))  (q : Nat) (hq : pc + 1 = q) (hk : V l X f n cc nL own ret G ov wF w q ls (.long (x &&& y) :: st)) : V l X f n cc nL own ret G ov wF w pc ls (.long y :: .long x :: st) := by
  obtain ⟨p, e, s, m, args, below, meth, c⟩ := X
  intro hX H locs la hw hS hl
  subst hq
  exact lv_land hX.1 hX.2.1 hd  (hk hX H locs la hw hS hl)
theorem v_lor {x y : Int64} (hd : decode cc pc = .ok (.lor, 1))  (q : Nat) (hq : pc + 1 = q) (hk : V l X f n cc nL own ret G ov wF w q ls (.long (x ||| y) :: st)) : V l X f n cc nL own ret G ov wF w pc ls (.long y :: .long x :: st) := by
  obtain ⟨p, e, s, m, args, below, meth, c⟩ := X
  intro hX H locs la hw hS hl
  subst hq
  exact lv_lor hX.1 hX.2.1 hd  (hk hX H locs la hw hS hl)
theorem v_idiv {x y : Int32} (hd : decode cc pc = .ok (.idiv, 1)) (hne : ¬ y = 0) (q : Nat) (hq : pc + 1 = q) (hk : V l X f n cc nL own ret G ov wF w q ls (.int (x / y) :: st)) : V l X f n cc nL own ret G ov wF w pc ls (.int y :: .int x :: st) := by
  obtain ⟨p, e, s, m, args, below, meth, c⟩ := X
  intro hX H locs la hw hS hl
  subst hq
  exact lv_idiv hX.1 hX.2.1 hd hne (hk hX H locs la hw hS hl)
theorem v_irem {x y : Int32} (hd : decode cc pc = .ok (.irem, 1)) (hne : ¬ y = 0) (q : Nat) (hq : pc + 1 = q) (hk : V l X f n cc nL own ret G ov wF w q ls (.int (x - x / y * y) :: st)) : V l X f n cc nL own ret G ov wF w pc ls (.int y :: .int x :: st) := by
  obtain ⟨p, e, s, m, args, below, meth, c⟩ := X
  intro hX H locs la hw hS hl
  subst hq
  exact lv_irem hX.1 hX.2.1 hd hne (hk hX H locs la hw hS hl)
theorem v_ineg {x : Int32} (hd : decode cc pc = .ok (.ineg, 1))  (q : Nat) (hq : pc + 1 = q) (hk : V l X f n cc nL own ret G ov wF w q ls (.int (-x) :: st)) : V l X f n cc nL own ret G ov wF w pc ls (.int x :: st) := by
  obtain ⟨p, e, s, m, args, below, meth, c⟩ := X
  intro hX H locs la hw hS hl
  subst hq
  exact lv_ineg hX.1 hX.2.1 hd  (hk hX H locs la hw hS hl)
theorem v_i2l {x : Int32} (hd : decode cc pc = .ok (.i2l, 1))  (q : Nat) (hq : pc + 1 = q) (hk : V l X f n cc nL own ret G ov wF w q ls (.long x.toInt64 :: st)) : V l X f n cc nL own ret G ov wF w pc ls (.int x :: st) := by
  obtain ⟨p, e, s, m, args, below, meth, c⟩ := X
  intro hX H locs la hw hS hl
  subst hq
  exact lv_i2l hX.1 hX.2.1 hd rfl (hk hX H locs la hw hS hl)
theorem v_l2i {x : Int64} (hd : decode cc pc = .ok (.l2i, 1))  (q : Nat) (hq : pc + 1 = q) (hk : V l X f n cc nL own ret G ov wF w q ls (.int x.toInt32 :: st)) : V l X f n cc nL own ret G ov wF w pc ls (.long x :: st) := by
  obtain ⟨p, e, s, m, args, below, meth, c⟩ := X
  intro hX H locs la hw hS hl
  subst hq
  exact lv_l2i hX.1 hX.2.1 hd rfl (hk hX H locs la hw hS hl)
theorem v_i2b {x : Int32} (hd : decode cc pc = .ok (.i2b, 1))  (q : Nat) (hq : pc + 1 = q) (hk : V l X f n cc nL own ret G ov wF w q ls (.int x.toInt8.toInt32 :: st)) : V l X f n cc nL own ret G ov wF w pc ls (.int x :: st) := by
  obtain ⟨p, e, s, m, args, below, meth, c⟩ := X
  intro hX H locs la hw hS hl
  subst hq
  exact lv_i2b hX.1 hX.2.1 hd rfl (hk hX H locs la hw hS hl)
theorem v_i2s {x : Int32} (hd : decode cc pc = .ok (.i2s, 1))  (q : Nat) (hq : pc + 1 = q) (hk : V l X f n cc nL own ret G ov wF w q ls (.int x.toInt16.toInt32 :: st)) : V l X f n cc nL own ret G ov wF w pc ls (.int x :: st) := by
  obtain ⟨p, e, s, m, args, below, meth, c⟩ := X
  intro hX H locs la hw hS hl
  subst hq
  exact lv_i2s hX.1 hX.2.1 hd rfl (hk hX H locs la hw hS hl)
theorem v_i2c {x : Int32} (hd : decode cc pc = .ok (.i2c, 1))  (q : Nat) (hq : pc + 1 = q) (hk : V l X f n cc nL own ret G ov wF w q ls (.int (x.toUInt32 % 65536).toInt32 :: st)) : V l X f n cc nL own ret G ov wF w pc ls (.int x :: st) := by
  obtain ⟨p, e, s, m, args, below, meth, c⟩ := X
  intro hX H locs la hw hS hl
  subst hq
  exact lv_i2c hX.1 hX.2.1 hd rfl (hk hX H locs la hw hS hl)
theorem v_lshl {x : Int64} {y : Int32} (hd : decode cc pc = .ok (.lshl, 1))  (q : Nat) (hq : pc + 1 = q) (hk : V l X f n cc nL own ret G ov wF w q ls (.long (x <<< (y.toInt64 &&& 63)) :: st)) : V l X f n cc nL own ret G ov wF w pc ls (.int y :: .long x :: st) := by
  obtain ⟨p, e, s, m, args, below, meth, c⟩ := X
  intro hX H locs la hw hS hl
  subst hq
  exact lv_lshl hX.1 hX.2.1 hd rfl (hk hX H locs la hw hS hl)
theorem v_lcmp {x y : Int64} (hd : decode cc pc = .ok (.lcmp, 1))  (q : Nat) (hq : pc + 1 = q) (hk : V l X f n cc nL own ret G ov wF w q ls (.int (lg_cmp x y) :: st)) : V l X f n cc nL own ret G ov wF w pc ls (.long y :: .long x :: st) := by
  obtain ⟨p, e, s, m, args, below, meth, c⟩ := X
  intro hX H locs la hw hS hl
  subst hq
  exact W.lcmp hX.1 hX.2.1 hd  (hk hX H locs la hw hS hl)
theorem v_dup {a : Value} (hd : decode cc pc = .ok (.dup, 1)) (ha : a.category = 1) (q : Nat) (hq : pc + 1 = q) (hk : V l X f n cc nL own ret G ov wF w q ls (a :: a :: st)) : V l X f n cc nL own ret G ov wF w pc ls (a :: st) := by
  obtain ⟨p, e, s, m, args, below, meth, c⟩ := X
  intro hX H locs la hw hS hl
  subst hq
  exact lv_dup hX.1 hX.2.1 hd ha (hk hX H locs la hw hS hl)
theorem v_dup2 {a b : Value} (hd : decode cc pc = .ok (.dup2, 1)) (ha : a.category = 1) (hb : b.category = 1) (q : Nat) (hq : pc + 1 = q) (hk : V l X f n cc nL own ret G ov wF w q ls (a :: b :: a :: b :: st)) : V l X f n cc nL own ret G ov wF w pc ls (a :: b :: st) := by
  obtain ⟨p, e, s, m, args, below, meth, c⟩ := X
  intro hX H locs la hw hS hl
  subst hq
  exact lv_dup2_11 hX.1 hX.2.1 hd ha hb (hk hX H locs la hw hS hl)
theorem v_pop {a : Value} (hd : decode cc pc = .ok (.pop, 1)) (ha : a.category = 1) (q : Nat) (hq : pc + 1 = q) (hk : V l X f n cc nL own ret G ov wF w q ls (st)) : V l X f n cc nL own ret G ov wF w pc ls (a :: st) := by
  obtain ⟨p, e, s, m, args, below, meth, c⟩ := X
  intro hX H locs la hw hS hl
  subst hq
  exact lv_pop hX.1 hX.2.1 hd ha (hk hX H locs la hw hS hl)
theorem v_iconst {k : Int} (hd : decode cc pc = .ok (.iconst k, 1)) (v : Int32) (hv : Int32.ofInt k = v) (q : Nat) (hq : pc + 1 = q) (hk : V l X f n cc nL own ret G ov wF w q ls (.int v :: st)) : V l X f n cc nL own ret G ov wF w pc ls (st) := by
  obtain ⟨p, e, s, m, args, below, meth, c⟩ := X
  intro hX H locs la hw hS hl
  subst hq
  exact lv_iconst hX.1 hX.2.1 hd hv (hk hX H locs la hw hS hl)
theorem v_bipush {k : Int} (hd : decode cc pc = .ok (.bipush k, 2)) (v : Int32) (hv : (Int8.ofInt k).toInt32 = v) (q : Nat) (hq : pc + 2 = q) (hk : V l X f n cc nL own ret G ov wF w q ls (.int v :: st)) : V l X f n cc nL own ret G ov wF w pc ls (st) := by
  obtain ⟨p, e, s, m, args, below, meth, c⟩ := X
  intro hX H locs la hw hS hl
  subst hq
  exact lv_bipush hX.1 hX.2.1 hd hv (hk hX H locs la hw hS hl)
theorem v_sipush {k : Int} (hd : decode cc pc = .ok (.sipush k, 3)) (v : Int32) (hv : (Int16.ofInt k).toInt32 = v) (q : Nat) (hq : pc + 3 = q) (hk : V l X f n cc nL own ret G ov wF w q ls (.int v :: st)) : V l X f n cc nL own ret G ov wF w pc ls (st) := by
  obtain ⟨p, e, s, m, args, below, meth, c⟩ := X
  intro hX H locs la hw hS hl
  subst hq
  exact lv_sipush hX.1 hX.2.1 hd hv (hk hX H locs la hw hS hl)
theorem v_lconst {k : Fin 2} (hd : decode cc pc = .ok (.lconst k, 1)) (v : Int64) (hv : Int64.ofNat (k : Nat) = v) (q : Nat) (hq : pc + 1 = q) (hk : V l X f n cc nL own ret G ov wF w q ls (.long v :: st)) : V l X f n cc nL own ret G ov wF w pc ls (st) := by
  obtain ⟨p, e, s, m, args, below, meth, c⟩ := X
  intro hX H locs la hw hS hl
  subst hq
  exact lv_lconst hX.1 hX.2.1 hd hv (hk hX H locs la hw hS hl)
theorem v_ldc {k : Nat} (hd : decode cc pc = .ok (.ldc k, 2)) (v : Int32) (hc : Cond.constant own k v ∈ BIG) (q : Nat) (hq : pc + 2 = q) (hk : V l X f n cc nL own ret G ov wF w q ls (.int v :: st)) : V l X f n cc nL own ret G ov wF w pc ls (st) := by
  obtain ⟨p, e, s, m, args, below, meth, c⟩ := X
  intro hX H locs la hw hS hl
  subst hq
  exact lv_ldc hX.1 hX.2.1 hX.2.2.2.1 (hX.2.2.2.2.1 _ hc) hd (hk hX H locs la hw hS hl)
theorem v_ldcw {k : Nat} (hd : decode cc pc = .ok (.ldc_w k, 3)) (v : Int32) (hc : Cond.constant own k v ∈ BIG) (q : Nat) (hq : pc + 3 = q) (hk : V l X f n cc nL own ret G ov wF w q ls (.int v :: st)) : V l X f n cc nL own ret G ov wF w pc ls (st) := by
  obtain ⟨p, e, s, m, args, below, meth, c⟩ := X
  intro hX H locs la hw hS hl
  subst hq
  exact lv_ldcw hX.1 hX.2.1 hX.2.2.2.1 (hX.2.2.2.2.1 _ hc) hd (hk hX H locs la hw hS hl)
theorem v_ldc2 {k : Nat} (hd : decode cc pc = .ok (.ldc2_w k, 3)) (v : Int64) (hc : Cond.constantLong own k v ∈ BIG) (q : Nat) (hq : pc + 3 = q) (hk : V l X f n cc nL own ret G ov wF w q ls (.long v :: st)) : V l X f n cc nL own ret G ov wF w pc ls (st) := by
  obtain ⟨p, e, s, m, args, below, meth, c⟩ := X
  intro hX H locs la hw hS hl
  subst hq
  exact lv_ldc2 hX.1 hX.2.1 hX.2.2.2.1 (hX.2.2.2.2.1 _ hc) hd (hk hX H locs la hw hS hl)
theorem v_iload_n {k : Fin 4} {x : Int32} (hd : decode cc pc = .ok (.iload_n k, 1)) (i : Nat) (hi : ls[i]? = some (k.val, .int x)) (q : Nat) (hq : pc + 1 = q) (hk : V l X f n cc nL own ret G ov wF w q ls (.int x :: st)) : V l X f n cc nL own ret G ov wF w pc ls (st) := by
  obtain ⟨p, e, s, m, args, below, meth, c⟩ := X
  intro hX H locs la hw hS hl
  subst hq
  exact lv_iload_n hX.1 hX.2.1 hd rfl (lv_at hl i hi) (hk hX H locs la hw hS hl)
theorem v_iload {k : Nat} {x : Int32} (hd : decode cc pc = .ok (.iload k, 2)) (i : Nat) (hi : ls[i]? = some (k, .int x)) (q : Nat) (hq : pc + 2 = q) (hk : V l X f n cc nL own ret G ov wF w q ls (.int x :: st)) : V l X f n cc nL own ret G ov wF w pc ls (st) := by
  obtain ⟨p, e, s, m, args, below, meth, c⟩ := X
  intro hX H locs la hw hS hl
  subst hq
  exact lv_iload hX.1 hX.2.1 hd (lv_at hl i hi) (hk hX H locs la hw hS hl)
theorem v_lload_n {k : Fin 4} {x : Int64} (hd : decode cc pc = .ok (.lload_n k, 1)) (i : Nat) (hi : ls[i]? = some (k.val, .long x)) (q : Nat) (hq : pc + 1 = q) (hk : V l X f n cc nL own ret G ov wF w q ls (.long x :: st)) : V l X f n cc nL own ret G ov wF w pc ls (st) := by
  obtain ⟨p, e, s, m, args, below, meth, c⟩ := X
  intro hX H locs la hw hS hl
  subst hq
  exact lv_lload_n hX.1 hX.2.1 hd rfl (lv_at hl i hi) (hk hX H locs la hw hS hl)
theorem v_lload {k : Nat} {x : Int64} (hd : decode cc pc = .ok (.lload k, 2)) (i : Nat) (hi : ls[i]? = some (k, .long x)) (q : Nat) (hq : pc + 2 = q) (hk : V l X f n cc nL own ret G ov wF w q ls (.long x :: st)) : V l X f n cc nL own ret G ov wF w pc ls (st) := by
  obtain ⟨p, e, s, m, args, below, meth, c⟩ := X
  intro hX H locs la hw hS hl
  subst hq
  exact lv_lload hX.1 hX.2.1 hd (lv_at hl i hi) (hk hX H locs la hw hS hl)
theorem v_aload_n {k : Fin 4} {x : Nat} (hd : decode cc pc = .ok (.aload_n k, 1)) (i : Nat) (hi : ls[i]? = some (k.val, .ref x)) (q : Nat) (hq : pc + 1 = q) (hk : V l X f n cc nL own ret G ov wF w q ls (.ref x :: st)) : V l X f n cc nL own ret G ov wF w pc ls (st) := by
  obtain ⟨p, e, s, m, args, below, meth, c⟩ := X
  intro hX H locs la hw hS hl
  subst hq
  exact lv_aload_n hX.1 hX.2.1 hd rfl (lv_at hl i hi) (hk hX H locs la hw hS hl)
theorem v_aload {k : Nat} {x : Nat} (hd : decode cc pc = .ok (.aload k, 2)) (i : Nat) (hi : ls[i]? = some (k, .ref x)) (q : Nat) (hq : pc + 2 = q) (hk : V l X f n cc nL own ret G ov wF w q ls (.ref x :: st)) : V l X f n cc nL own ret G ov wF w pc ls (st) := by
  obtain ⟨p, e, s, m, args, below, meth, c⟩ := X
  intro hX H locs la hw hS hl
  subst hq
  exact lv_aload hX.1 hX.2.1 hd (lv_at hl i hi) (hk hX H locs la hw hS hl)
theorem v_istore_n {k : Fin 4} {x : Int32} (hd : decode cc pc = .ok (.istore_n k, 1)) (i : Nat) (hi : k.val = i) (hn : i < nL) (ls2 : List (Nat × Value)) (h2 : (i, Value.int x) :: ls.filter (fun z => !(z.1 == i) && !(z.1 + 1 == i && z.2.category == 2)) = ls2) (q : Nat) (hq : pc + 1 = q) (hk : V l X f n cc nL own ret G ov wF w q ls2 (st)) : V l X f n cc nL own ret G ov wF w pc ls (.int x :: st) := by
  obtain ⟨p, e, s, m, args, below, meth, c⟩ := X
  intro hX H locs la hw hS hl
  subst hq
  exact lv_istore_n hX.1 hX.2.1 hd hi hl hn h2 (fun la2 hl2 => hk hX H locs la2 hw hS hl2)
theorem v_istore {i : Nat} {x : Int32} (hd : decode cc pc = .ok (.istore i, 2)) (hn : i < nL) (ls2 : List (Nat × Value)) (h2 : (i, Value.int x) :: ls.filter (fun z => !(z.1 == i) && !(z.1 + 1 == i && z.2.category == 2)) = ls2) (q : Nat) (hq : pc + 2 = q) (hk : V l X f n cc nL own ret G ov wF w q ls2 (st)) : V l X f n cc nL own ret G ov wF w pc ls (.int x :: st) := by
  obtain ⟨p, e, s, m, args, below, meth, c⟩ := X
  intro hX H locs la hw hS hl
  subst hq
  exact lv_istore hX.1 hX.2.1 hd hl hn h2 (fun la2 hl2 => hk hX H locs la2 hw hS hl2)
theorem v_lstore_n {k : Fin 4} {x : Int64} (hd : decode cc pc = .ok (.lstore_n k, 1)) (i : Nat) (hi : k.val = i) (hn : i + 1 < nL) (ls2 : List (Nat × Value)) (h2 : (i, Value.long x) :: ls.filter (fun z => !(z.1 == i) && (!(z.1 == i + 1) && !(z.1 + 1 == i && z.2.category == 2))) = ls2) (q : Nat) (hq : pc + 1 = q) (hk : V l X f n cc nL own ret G ov wF w q ls2 (st)) : V l X f n cc nL own ret G ov wF w pc ls (.long x :: st) := by
  obtain ⟨p, e, s, m, args, below, meth, c⟩ := X
  intro hX H locs la hw hS hl
  subst hq
  exact lv_lstore_n hX.1 hX.2.1 hd hi hl hn h2 (fun la2 hl2 => hk hX H locs la2 hw hS hl2)
theorem v_lstore {i : Nat} {x : Int64} (hd : decode cc pc = .ok (.lstore i, 2)) (hn : i + 1 < nL) (ls2 : List (Nat × Value)) (h2 : (i, Value.long x) :: ls.filter (fun z => !(z.1 == i) && (!(z.1 == i + 1) && !(z.1 + 1 == i && z.2.category == 2))) = ls2) (q : Nat) (hq : pc + 2 = q) (hk : V l X f n cc nL own ret G ov wF w q ls2 (st)) : V l X f n cc nL own ret G ov wF w pc ls (.long x :: st) := by
  obtain ⟨p, e, s, m, args, below, meth, c⟩ := X
  intro hX H locs la hw hS hl
  subst hq
  exact lv_lstore hX.1 hX.2.1 hd hl hn h2 (fun la2 hl2 => hk hX H locs la2 hw hS hl2)
theorem v_astore_n {k : Fin 4} {x : Nat} (hd : decode cc pc = .ok (.astore_n k, 1)) (i : Nat) (hi : k.val = i) (hn : i < nL) (ls2 : List (Nat × Value)) (h2 : (i, Value.ref x) :: ls.filter (fun z => !(z.1 == i) && !(z.1 + 1 == i && z.2.category == 2)) = ls2) (q : Nat) (hq : pc + 1 = q) (hk : V l X f n cc nL own ret G ov wF w q ls2 (st)) : V l X f n cc nL own ret G ov wF w pc ls (.ref x :: st) := by
  obtain ⟨p, e, s, m, args, below, meth, c⟩ := X
  intro hX H locs la hw hS hl
  subst hq
  exact lv_astore_n hX.1 hX.2.1 hd hi hl hn h2 (fun la2 hl2 => hk hX H locs la2 hw hS hl2)
theorem v_astore {i : Nat} {x : Nat} (hd : decode cc pc = .ok (.astore i, 2)) (hn : i < nL) (ls2 : List (Nat × Value)) (h2 : (i, Value.ref x) :: ls.filter (fun z => !(z.1 == i) && !(z.1 + 1 == i && z.2.category == 2)) = ls2) (q : Nat) (hq : pc + 2 = q) (hk : V l X f n cc nL own ret G ov wF w q ls2 (st)) : V l X f n cc nL own ret G ov wF w pc ls (.ref x :: st) := by
  obtain ⟨p, e, s, m, args, below, meth, c⟩ := X
  intro hX H locs la hw hS hl
  subst hq
  exact lv_astore hX.1 hX.2.1 hd hl hn h2 (fun la2 hl2 => hk hX H locs la2 hw hS hl2)
theorem v_iinc {i : Nat} {k : Int} {x : Int32} (hd : decode cc pc = .ok (.iinc i k, 3)) (j : Nat) (hj : ls[j]? = some (i, .int x)) (v : Int32) (hv : x + Int32.ofInt k = v) (hn : i < nL) (ls2 : List (Nat × Value)) (h2 : (i, Value.int v) :: ls.filter (fun z => !(z.1 == i) && !(z.1 + 1 == i && z.2.category == 2)) = ls2) (q : Nat) (hq : pc + 3 = q) (hk : V l X f n cc nL own ret G ov wF w q ls2 (st)) : V l X f n cc nL own ret G ov wF w pc ls (st) := by
  obtain ⟨p, e, s, m, args, below, meth, c⟩ := X
  intro hX H locs la hw hS hl
  subst hq
  exact lv_iinc hX.1 hX.2.1 hd hl hj hv hn h2 (fun la2 hl2 => hk hX H locs la2 hw hS hl2)
theorem v_pick (ks : List Nat) (ls2 : List (Nat × Value)) (h2 : lv_pick ls ks = ls2) (hk : V l X f n cc nL own ret G ov wF w pc ls2 (st)) : V l X f n cc nL own ret G ov wF w pc ls (st) := by
  obtain ⟨p, e, s, m, args, below, meth, c⟩ := X
  intro hX H locs la hw hS hl
  exact hk hX H locs la hw hS (lv_sub hl ks h2)
theorem v_w {w2 : WS} (e : w = w2) (hk : V l X f n cc nL own ret G ov wF w2 pc ls (st)) : V l X f n cc nL own ret G ov wF w pc ls (st) := by
  rw [e]; exact hk
theorem v_topi {x : Int32} (y : Int32) (e : x = y) (hk : V l X f n cc nL own ret G ov wF w pc ls (.int y :: st)) : V l X f n cc nL own ret G ov wF w pc ls (.int x :: st) := by
  rw [e]; exact hk
theorem v_topl {x : Int64} (y : Int64) (e : x = y) (hk : V l X f n cc nL own ret G ov wF w pc ls (.long y :: st)) : V l X f n cc nL own ret G ov wF w pc ls (.long x :: st) := by
  rw [e]; exact hk
theorem v_if_eq {x : Int32} {off : Int} (hd : decode cc pc = .ok (.ifCond .eq off, 3)) (t : Nat) (ht : (pc : Int) + off = (t : Int)) (q : Nat) (hq : pc + 3 = q) (kt : x = 0 → V l X f n cc nL own ret G ov wF w t ls (st)) (kf : ¬ x = 0 → V l X f n cc nL own ret G ov wF w q ls (st)) : V l X f n cc nL own ret G ov wF w pc ls (.int x :: st) := by
  obtain ⟨p, e, s, m, args, below, meth, c⟩ := X
  intro hX H locs la hw hS hl
  subst hq
  exact lv_if_eq hX.1 hX.2.1 hd ht (fun h => kt h hX H locs la hw hS hl) (fun h => kf h hX H locs la hw hS hl)
theorem v_if_ne {x : Int32} {off : Int} (hd : decode cc pc = .ok (.ifCond .ne off, 3)) (t : Nat) (ht : (pc : Int) + off = (t : Int)) (q : Nat) (hq : pc + 3 = q) (kt : ¬ x = 0 → V l X f n cc nL own ret G ov wF w t ls (st)) (kf : x = 0 → V l X f n cc nL own ret G ov wF w q ls (st)) : V l X f n cc nL own ret G ov wF w pc ls (.int x :: st) := by
  obtain ⟨p, e, s, m, args, below, meth, c⟩ := X
  intro hX H locs la hw hS hl
  subst hq
  exact lv_if_ne hX.1 hX.2.1 hd ht (fun h => kt h hX H locs la hw hS hl) (fun h => kf h hX H locs la hw hS hl)
theorem v_if_lt {x : Int32} {off : Int} (hd : decode cc pc = .ok (.ifCond .lt off, 3)) (t : Nat) (ht : (pc : Int) + off = (t : Int)) (q : Nat) (hq : pc + 3 = q) (kt : x < 0 → V l X f n cc nL own ret G ov wF w t ls (st)) (kf : ¬ x < 0 → V l X f n cc nL own ret G ov wF w q ls (st)) : V l X f n cc nL own ret G ov wF w pc ls (.int x :: st) := by
  obtain ⟨p, e, s, m, args, below, meth, c⟩ := X
  intro hX H locs la hw hS hl
  subst hq
  exact lv_if_lt hX.1 hX.2.1 hd ht (fun h => kt h hX H locs la hw hS hl) (fun h => kf h hX H locs la hw hS hl)
theorem v_if_ge {x : Int32} {off : Int} (hd : decode cc pc = .ok (.ifCond .ge off, 3)) (t : Nat) (ht : (pc : Int) + off = (t : Int)) (q : Nat) (hq : pc + 3 = q) (kt : 0 ≤ x → V l X f n cc nL own ret G ov wF w t ls (st)) (kf : ¬ 0 ≤ x → V l X f n cc nL own ret G ov wF w q ls (st)) : V l X f n cc nL own ret G ov wF w pc ls (.int x :: st) := by
  obtain ⟨p, e, s, m, args, below, meth, c⟩ := X
  intro hX H locs la hw hS hl
  subst hq
  exact lv_if_ge hX.1 hX.2.1 hd ht (fun h => kt h hX H locs la hw hS hl) (fun h => kf h hX H locs la hw hS hl)
theorem v_if_gt {x : Int32} {off : Int} (hd : decode cc pc = .ok (.ifCond .gt off, 3)) (t : Nat) (ht : (pc : Int) + off = (t : Int)) (q : Nat) (hq : pc + 3 = q) (kt : 0 < x → V l X f n cc nL own ret G ov wF w t ls (st)) (kf : ¬ 0 < x → V l X f n cc nL own ret G ov wF w q ls (st)) : V l X f n cc nL own ret G ov wF w pc ls (.int x :: st) := by
  obtain ⟨p, e, s, m, args, below, meth, c⟩ := X
  intro hX H locs la hw hS hl
  subst hq
  exact lv_if_gt hX.1 hX.2.1 hd ht (fun h => kt h hX H locs la hw hS hl) (fun h => kf h hX H locs la hw hS hl)
theorem v_if_le {x : Int32} {off : Int} (hd : decode cc pc = .ok (.ifCond .le off, 3)) (t : Nat) (ht : (pc : Int) + off = (t : Int)) (q : Nat) (hq : pc + 3 = q) (kt : x ≤ 0 → V l X f n cc nL own ret G ov wF w t ls (st)) (kf : ¬ x ≤ 0 → V l X f n cc nL own ret G ov wF w q ls (st)) : V l X f n cc nL own ret G ov wF w pc ls (.int x :: st) := by
  obtain ⟨p, e, s, m, args, below, meth, c⟩ := X
  intro hX H locs la hw hS hl
  subst hq
  exact lv_if_le hX.1 hX.2.1 hd ht (fun h => kt h hX H locs la hw hS hl) (fun h => kf h hX H locs la hw hS hl)
theorem v_icmp_eq {x y : Int32} {off : Int} (hd : decode cc pc = .ok (.if_icmp .eq off, 3)) (t : Nat) (ht : (pc : Int) + off = (t : Int)) (q : Nat) (hq : pc + 3 = q) (kt : x = y → V l X f n cc nL own ret G ov wF w t ls (st)) (kf : ¬ x = y → V l X f n cc nL own ret G ov wF w q ls (st)) : V l X f n cc nL own ret G ov wF w pc ls (.int y :: .int x :: st) := by
  obtain ⟨p, e, s, m, args, below, meth, c⟩ := X
  intro hX H locs la hw hS hl
  subst hq
  exact lv_icmp_eq hX.1 hX.2.1 hd ht (fun h => kt h hX H locs la hw hS hl) (fun h => kf h hX H locs la hw hS hl)
theorem v_icmp_ne {x y : Int32} {off : Int} (hd : decode cc pc = .ok (.if_icmp .ne off, 3)) (t : Nat) (ht : (pc : Int) + off = (t : Int)) (q : Nat) (hq : pc + 3 = q) (kt : ¬ x = y → V l X f n cc nL own ret G ov wF w t ls (st)) (kf : x = y → V l X f n cc nL own ret G ov wF w q ls (st)) : V l X f n cc nL own ret G ov wF w pc ls (.int y :: .int x :: st) := by
  obtain ⟨p, e, s, m, args, below, meth, c⟩ := X
  intro hX H locs la hw hS hl
  subst hq
  exact lv_icmp_ne hX.1 hX.2.1 hd ht (fun h => kt h hX H locs la hw hS hl) (fun h => kf h hX H locs la hw hS hl)
theorem v_icmp_lt {x y : Int32} {off : Int} (hd : decode cc pc = .ok (.if_icmp .lt off, 3)) (t : Nat) (ht : (pc : Int) + off = (t : Int)) (q : Nat) (hq : pc + 3 = q) (kt : x < y → V l X f n cc nL own ret G ov wF w t ls (st)) (kf : ¬ x < y → V l X f n cc nL own ret G ov wF w q ls (st)) : V l X f n cc nL own ret G ov wF w pc ls (.int y :: .int x :: st) := by
  obtain ⟨p, e, s, m, args, below, meth, c⟩ := X
  intro hX H locs la hw hS hl
  subst hq
  exact lv_icmp_lt hX.1 hX.2.1 hd ht (fun h => kt h hX H locs la hw hS hl) (fun h => kf h hX H locs la hw hS hl)
theorem v_icmp_ge {x y : Int32} {off : Int} (hd : decode cc pc = .ok (.if_icmp .ge off, 3)) (t : Nat) (ht : (pc : Int) + off = (t : Int)) (q : Nat) (hq : pc + 3 = q) (kt : y ≤ x → V l X f n cc nL own ret G ov wF w t ls (st)) (kf : ¬ y ≤ x → V l X f n cc nL own ret G ov wF w q ls (st)) : V l X f n cc nL own ret G ov wF w pc ls (.int y :: .int x :: st) := by
  obtain ⟨p, e, s, m, args, below, meth, c⟩ := X
  intro hX H locs la hw hS hl
  subst hq
  exact lv_icmp_ge hX.1 hX.2.1 hd ht (fun h => kt h hX H locs la hw hS hl) (fun h => kf h hX H locs la hw hS hl)
theorem v_icmp_gt {x y : Int32} {off : Int} (hd : decode cc pc = .ok (.if_icmp .gt off, 3)) (t : Nat) (ht : (pc : Int) + off = (t : Int)) (q : Nat) (hq : pc + 3 = q) (kt : y < x → V l X f n cc nL own ret G ov wF w t ls (st)) (kf : ¬ y < x → V l X f n cc nL own ret G ov wF w q ls (st)) : V l X f n cc nL own ret G ov wF w pc ls (.int y :: .int x :: st) := by
  obtain ⟨p, e, s, m, args, below, meth, c⟩ := X
  intro hX H locs la hw hS hl
  subst hq
  exact lv_icmp_gt hX.1 hX.2.1 hd ht (fun h => kt h hX H locs la hw hS hl) (fun h => kf h hX H locs la hw hS hl)
theorem v_icmp_le {x y : Int32} {off : Int} (hd : decode cc pc = .ok (.if_icmp .le off, 3)) (t : Nat) (ht : (pc : Int) + off = (t : Int)) (q : Nat) (hq : pc + 3 = q) (kt : x ≤ y → V l X f n cc nL own ret G ov wF w t ls (st)) (kf : ¬ x ≤ y → V l X f n cc nL own ret G ov wF w q ls (st)) : V l X f n cc nL own ret G ov wF w pc ls (.int y :: .int x :: st) := by
  obtain ⟨p, e, s, m, args, below, meth, c⟩ := X
  intro hX H locs la hw hS hl
  subst hq
  exact lv_icmp_le hX.1 hX.2.1 hd ht (fun h => kt h hX H locs la hw hS hl) (fun h => kf h hX H locs la hw hS hl)
theorem v_goto {off : Int} (hd : decode cc pc = .ok (.goto off, 3)) (t : Nat) (ht : (pc : Int) + off = (t : Int)) (hk : V l X f n cc nL own ret G ov wF w t ls (st)) : V l X f n cc nL own ret G ov wF w pc ls (st) := by
  obtain ⟨p, e, s, m, args, below, meth, c⟩ := X
  intro hX H locs la hw hS hl
  exact lv_goto hX.1 hX.2.1 hd ht (hk hX H locs la hw hS hl)
theorem v_tabIn {dflt lo hi : Int} {offs : Array Int} {len : Nat} {x : Int32} {off : Int} (hd : decode cc pc = .ok (.tableswitch dflt lo hi offs, len)) (h1 : ¬ x.toInt < lo) (h2 : ¬ hi < x.toInt) (ho : offs[(x.toInt - lo).toNat]? = some off) (t : Nat) (ht : (pc : Int) + off = (t : Int)) (hk : V l X f n cc nL own ret G ov wF w t ls (st)) : V l X f n cc nL own ret G ov wF w pc ls (.int x :: st) := by
  obtain ⟨p, e, s, m, args, below, meth, c⟩ := X
  intro hX H locs la hw hS hl
  exact lv_tableIn hX.1 hX.2.1 hd h1 h2 ho ht (hk hX H locs la hw hS hl)
theorem v_tabOut {dflt lo hi : Int} {offs : Array Int} {len : Nat} {x : Int32} (hd : decode cc pc = .ok (.tableswitch dflt lo hi offs, len)) (h : x.toInt < lo ∨ hi < x.toInt) (t : Nat) (ht : (pc : Int) + dflt = (t : Int)) (hk : V l X f n cc nL own ret G ov wF w t ls (st)) : V l X f n cc nL own ret G ov wF w pc ls (.int x :: st) := by
  obtain ⟨p, e, s, m, args, below, meth, c⟩ := X
  intro hX H locs la hw hS hl
  exact lv_tableOut hX.1 hX.2.1 hd h ht (hk hX H locs la hw hS hl)
theorem v_end {w2 : WS} {v2 : Option Value} {p : Program} {e : Env} {s : State} {below : List Frame} {H : Heap} {locs : List Loc} (hw : Wd G w H) (hS : va_S (gA G) s.heap H locs) (hv : v2 = ov) (hww : w = wF) (args : Array Value) (t : State) (ht : t.heap = H) : Qo G ov wF args s (.returned v2) t := by
  subst hv
  subst hww
  exact ⟨⟨rfl, by rw [ht]; exact hw⟩, hS.F ht⟩
theorem v_iret {v : Int32} (hd : decode cc pc = .ok (.ireturn, 1)) (hv : some (.int v) = ov) (hww : w = wF) : V l X f n cc nL own (some .int) G ov wF w pc ls ([.int v]) := by
  obtain ⟨p, e, s, m, args, below, meth, c⟩ := X
  intro hX H locs la hw hS hl
  exact W.iret hX.1 hX.2.1 hX.2.2.2.2.2.2.2 (fun t ht _ => v_end (w2 := w) (p := p) (e := e) (below := below) hw hS hv hww _ t ht) hS.2.2 hd hX.2.2.2.2.2.2.1
theorem v_zret {v : Int32} {ty : FieldType} (hd : decode cc pc = .ok (.ireturn, 1)) (hn : narrow ty (.int v) = .int v) (hv : some (.int v) = ov) (hww : w = wF) : V l X f n cc nL own (some ty) G ov wF w pc ls ([.int v]) := by
  obtain ⟨p, e, s, m, args, below, meth, c⟩ := X
  intro hX H locs la hw hS hl
  exact W.zret hX.1 hX.2.1 hX.2.2.2.2.2.2.2 hn (fun t ht _ => v_end (w2 := w) (p := p) (e := e) (below := below) hw hS hv hww _ t ht) hS.2.2 hd hX.2.2.2.2.2.2.1
theorem v_lret {v : Int64} (hd : decode cc pc = .ok (.lreturn, 1)) (hv : some (.long v) = ov) (hww : w = wF) : V l X f n cc nL own (some .long) G ov wF w pc ls ([.long v]) := by
  obtain ⟨p, e, s, m, args, below, meth, c⟩ := X
  intro hX H locs la hw hS hl
  exact W.lret hX.1 hX.2.1 hX.2.2.2.2.2.2.2 (fun t ht _ => v_end (w2 := w) (p := p) (e := e) (below := below) hw hS hv hww _ t ht) hS.2.2 hd hX.2.2.2.2.2.2.1
theorem v_vret (hd : decode cc pc = .ok (.return_, 1)) (hv : none = ov) (hww : w = wF) : V l X f n cc nL own none G ov wF w pc ls ([]) := by
  obtain ⟨p, e, s, m, args, below, meth, c⟩ := X
  intro hX H locs la hw hS hl
  exact W.vret hX.1 hX.2.1 hX.2.2.2.2.2.2.2 (fun t ht _ => v_end (w2 := w) (p := p) (e := e) (below := below) hw hS hv hww _ t ht) hS.2.2 hd hX.2.2.2.2.2.2.1
theorem v_aret {v : Nat} {C : String} (hd : decode cc pc = .ok (.areturn, 1)) (hv : some (.ref v) = ov) (hww : w = wF) : V l X f n cc nL own (some (.object C)) G ov wF w pc ls ([.ref v]) := by
  obtain ⟨p, e, s, m, args, below, meth, c⟩ := X
  intro hX H locs la hw hS hl
  exact W.aret hX.1 hX.2.1 hX.2.2.2.2.2.2.2 (Or.inl ⟨C, rfl⟩) (Or.inr ⟨v, rfl⟩) (fun t ht _ => v_end (w2 := w) (p := p) (e := e) (below := below) hw hS hv hww _ t ht) hS.2.2 hd hX.2.2.2.2.2.2.1
theorem v_get {k ci index N i : Nat} {fs : List Value} {v : Value} {C ref : String} {T : u_T} (hd : decode cc pc = .ok (.getfield index, 3)) (hin : ∀ z ∈ u_ws C T N, z ∈ BIG) (hcl : vwCl[ci]? = some (C, T, N)) (hlink : Cond.fieldLink own index ref (T i).2.1 (T i).2.2.1 ∈ BIG) (href : (T i).1 = ref) (hi : i < N) (hk : k < 104) (hc : cel G w k = ob ci fs) (hv : fs[i]? = some v) (q : Nat) (hq : pc + 3 = q) (hkk : V l X f n cc nL own ret G ov wF w q ls (v :: st)) : V l X f n cc nL own ret G ov wF w pc ls (.ref (ga G k) :: st) := by
  obtain ⟨p, e, s, m, args, below, meth, c⟩ := X
  intro hX H locs la hw hS hl
  subst hq
  exact va_get (D := gD G) hX.1 hX.2.1 hX.2.2.2.2.1 hin hX.2.2.2.1 hX.2.2.2.2.2.1.1 hw k (wl_at hk hc) hcl i hi (hX.2.2.2.2.1 _ hlink) (by rw [href]; exact fun _ h => h) hv hd (hkk hX H locs la hw hS hl)
theorem v_put {k ci index N i : Nat} {fs : List Value} {v : Value} {C ref : String} {T : u_T} {ty : FieldType} {w2 : WS} (hd : decode cc pc = .ok (.putfield index, 3)) (hin : ∀ z ∈ u_ws C T N, z ∈ BIG) (ty0 : Nat → FieldType) (hty : ∀ k, k < N → parseFieldDescriptor (T k).2.2.1 = some (ty0 k)) (hnm : ∀ a, a < N → ∀ b, b < N → a ≠ b → (T a).2.1 ≠ (T b).2.1) (hcl : vwCl[ci]? = some (C, T, N)) (hlink : Cond.fieldLink own index ref (T i).2.1 (T i).2.2.1 ∈ BIG) (href : (T i).1 = ref) (hfin : (T i).2.2.2 = false) (hdt : parseFieldDescriptor (T i).2.2.1 = some ty) (hn : narrow ty v = v) (hfit : fits ty v = true) (hi : i < N) (hk : k < 104) (hc : cel G w k = ob ci fs) (hlen : i < fs.length) (h2 : ∀ j, j < 104 → cel G w2 j = if j = k then ob ci (fs.set i v) else cel G w j) (q : Nat) (hq : pc + 3 = q) (hkk : V l X f n cc nL own ret G ov wF w2 q ls (st)) : V l X f n cc nL own ret G ov wF w pc ls (v :: .ref (ga G k) :: st) := by
  obtain ⟨p, e, s, m, args, below, meth, c⟩ := X
  intro hX H locs la hw hS hl
  subst hq
  refine va_put (D := gD G) hX.1 hX.2.1 hX.2.2.2.2.1 hin ty0 hty hnm hX.2.2.2.1 hX.2.2.2.2.2.1.1 hw (hX.2.2.2.2.2.1.2.2.1.D w) hS k (wl_at hk hc) hcl i hi (hX.2.2.2.2.1 _ hlink) (by rw [href]; exact fun _ h => h) hfin hdt hn hfit hlen hd (fun H1 locs1 hP1 _ hS1 => ?_)
  refine hkk hX H1 locs1 la ?_ hS1 hl
  have e := wl_set hk h2
  unfold ob at e
  rw [e] at hP1
  exact hP1
theorem v_iald {k N : Nat} {a : Nat → Int32} (hd : decode cc pc = .ok (.iaload, 1)) (hk : k < 104) (hc : cel G w k = ai (gcI G) N a) {x : Int32} (i : Nat) (hx : x = nI i) (hi : i < N) (hN : N < 2 ^ 31) (q : Nat) (hq : pc + 1 = q) (hkk : V l X f n cc nL own ret G ov wF w q ls (.int (a i) :: st)) : V l X f n cc nL own ret G ov wF w pc ls (.int x :: .ref (ga G k) :: st) := by
  obtain ⟨p, e, s, m, args, below, meth, c⟩ := X
  intro hX H locs la hw hS hl
  subst hq
  subst hx
  refine va_iald (D := gD G) hX.1 hX.2.1 hX.2.2.2.2.2.1.1 hw k 0 (wl_at hk hc) rfl (vp_in_nI hi hN) hd ?_
  rw [nI_clamp (Nat.lt_trans hi hN)]
  exact hkk hX H locs la hw hS hl
theorem v_bald {k N : Nat} {a : Nat → Int32} (hd : decode cc pc = .ok (.baload, 1)) (hk : k < 104) (hc : cel G w k = ai (gcB G) N a) {x : Int32} (i : Nat) (hx : x = nI i) (hi : i < N) (hN : N < 2 ^ 31) (q : Nat) (hq : pc + 1 = q) (hkk : V l X f n cc nL own ret G ov wF w q ls (.int (a i) :: st)) : V l X f n cc nL own ret G ov wF w pc ls (.int x :: .ref (ga G k) :: st) := by
  obtain ⟨p, e, s, m, args, below, meth, c⟩ := X
  intro hX H locs la hw hS hl
  subst hq
  subst hx
  refine va_bald (D := gD G) hX.1 hX.2.1 hX.2.2.2.2.2.1.1 hw k 1 (wl_at hk hc) rfl (vp_in_nI hi hN) hd ?_
  rw [nI_clamp (Nat.lt_trans hi hN)]
  exact hkk hX H locs la hw hS hl
theorem v_lald {k N : Nat} {a : Nat → Int64} (hd : decode cc pc = .ok (.laload, 1)) (hk : k < 104) (hc : cel G w k = aj (gcJ G) N a) {x : Int32} (i : Nat) (hx : x = nI i) (hi : i < N) (hN : N < 2 ^ 31) (q : Nat) (hq : pc + 1 = q) (hkk : V l X f n cc nL own ret G ov wF w q ls (.long (a i) :: st)) : V l X f n cc nL own ret G ov wF w pc ls (.int x :: .ref (ga G k) :: st) := by
  obtain ⟨p, e, s, m, args, below, meth, c⟩ := X
  intro hX H locs la hw hS hl
  subst hq
  subst hx
  refine va_lald (D := gD G) hX.1 hX.2.1 hX.2.2.2.2.2.1.1 hw k 2 (wl_at hk hc) rfl (vp_in_nI hi hN) hd ?_
  rw [nI_clamp (Nat.lt_trans hi hN)]
  exact hkk hX H locs la hw hS hl
theorem v_iast {k N : Nat} {a : Nat → Int32} {w2 : WS} (hd : decode cc pc = .ok (.iastore, 1)) (hk : k < 104) (hc : cel G w k = ai (gcI G) N a) {x : Int32} {v : Int32} (i : Nat) (hx : x = nI i) (hi : i < N) (hN : N < 2 ^ 31) (h2 : ∀ j, j < 104 → cel G w2 j = if j = k then ai (gcI G) N (upd a i v) else cel G w j) (q : Nat) (hq : pc + 1 = q) (hkk : V l X f n cc nL own ret G ov wF w2 q ls (st)) : V l X f n cc nL own ret G ov wF w pc ls (.int v :: .int x :: .ref (ga G k) :: st) := by
  obtain ⟨p, e, s, m, args, below, meth, c⟩ := X
  intro hX H locs la hw hS hl
  subst hq
  subst hx
  refine va_iast (D := gD G) hX.1 hX.2.1 hX.2.2.2.2.2.1.1 hw (hX.2.2.2.2.2.1.2.2.1.D w) hS k 0 (wl_at hk hc) rfl (vp_in_nI hi hN) hd (fun H1 locs1 hP1 _ hS1 => ?_)
  rw [nI_clamp (Nat.lt_trans hi hN)] at hP1
  refine hkk hX H1 locs1 la ?_ hS1 hl
  have e := wl_set hk h2
  unfold ai at e
  rw [e] at hP1
  exact hP1
theorem v_bast {k N : Nat} {a : Nat → Int32} {w2 : WS} (hd : decode cc pc = .ok (.bastore, 1)) (hk : k < 104) (hc : cel G w k = ai (gcB G) N a) {x : Int32} {v : Int32} (i : Nat) (hx : x = nI i) (hi : i < N) (hN : N < 2 ^ 31) (h2 : ∀ j, j < 104 → cel G w2 j = if j = k then ai (gcB G) N (upd a i (vp_nar .byte v)) else cel G w j) (q : Nat) (hq : pc + 1 = q) (hkk : V l X f n cc nL own ret G ov wF w2 q ls (st)) : V l X f n cc nL own ret G ov wF w pc ls (.int v :: .int x :: .ref (ga G k) :: st) := by
  obtain ⟨p, e, s, m, args, below, meth, c⟩ := X
  intro hX H locs la hw hS hl
  subst hq
  subst hx
  refine va_bast (D := gD G) hX.1 hX.2.1 hX.2.2.2.2.2.1.1 hw (hX.2.2.2.2.2.1.2.2.1.D w) hS k 1 (wl_at hk hc) rfl (vp_in_nI hi hN) hd (fun H1 locs1 hP1 _ hS1 => ?_)
  rw [nI_clamp (Nat.lt_trans hi hN)] at hP1
  refine hkk hX H1 locs1 la ?_ hS1 hl
  have e := wl_set hk h2
  unfold ai at e
  rw [e] at hP1
  exact hP1
theorem v_last {k N : Nat} {a : Nat → Int64} {w2 : WS} (hd : decode cc pc = .ok (.lastore, 1)) (hk : k < 104) (hc : cel G w k = aj (gcJ G) N a) {x : Int32} {v : Int64} (i : Nat) (hx : x = nI i) (hi : i < N) (hN : N < 2 ^ 31) (h2 : ∀ j, j < 104 → cel G w2 j = if j = k then aj (gcJ G) N (vp_updL a i v) else cel G w j) (q : Nat) (hq : pc + 1 = q) (hkk : V l X f n cc nL own ret G ov wF w2 q ls (st)) : V l X f n cc nL own ret G ov wF w pc ls (.long v :: .int x :: .ref (ga G k) :: st) := by
  obtain ⟨p, e, s, m, args, below, meth, c⟩ := X
  intro hX H locs la hw hS hl
  subst hq
  subst hx
  refine va_last (D := gD G) hX.1 hX.2.1 hX.2.2.2.2.2.1.1 hw (hX.2.2.2.2.2.1.2.2.1.D w) hS k 2 (wl_at hk hc) rfl (vp_in_nI hi hN) hd (fun H1 locs1 hP1 _ hS1 => ?_)
  rw [nI_clamp (Nat.lt_trans hi hN)] at hP1
  refine hkk hX H1 locs1 la ?_ hS1 hl
  have e := wl_set hk h2
  unfold aj at e
  rw [e] at hP1
  exact hP1
theorem v_alen {k N : Nat} {a : Nat → Int32} (hd : decode cc pc = .ok (.arraylength, 1)) (hk : k < 104) (hc : cel G w k = ai (gcI G) N a) (q : Nat) (hq : pc + 1 = q) (hkk : V l X f n cc nL own ret G ov wF w q ls (.int (nI N) :: st)) : V l X f n cc nL own ret G ov wF w pc ls (.ref (ga G k) :: st) := by
  obtain ⟨p, e, s, m, args, below, meth, c⟩ := X
  intro hX H locs la hw hS hl
  subst hq
  exact va_alen (D := gD G) hX.1 hX.2.1 hX.2.2.2.2.2.1.1 hw k 0 (wl_at hk hc) rfl rfl hd (hkk hX H locs la hw hS hl)
theorem v_alenL {k N : Nat} {a : Nat → Int64} (hd : decode cc pc = .ok (.arraylength, 1)) (hk : k < 104) (hc : cel G w k = aj (gcJ G) N a) (q : Nat) (hq : pc + 1 = q) (hkk : V l X f n cc nL own ret G ov wF w q ls (.int (nI N) :: st)) : V l X f n cc nL own ret G ov wF w pc ls (.ref (ga G k) :: st) := by
  obtain ⟨p, e, s, m, args, below, meth, c⟩ := X
  intro hX H locs la hw hS hl
  subst hq
  exact va_alen (D := gD G) hX.1 hX.2.1 hX.2.2.2.2.2.1.1 hw k 2 (wl_at hk hc) rfl rfl hd (hkk hX H locs la hw hS hl)
theorem v_aaldE {k N : Nat} {a : Nat → Option Nat} (hd : decode cc pc = .ok (.aaload, 1)) (hk : k < 104) (hc : cel G w k = aq (gcE G) N a) {x : Int32} (i : Nat) (hx : x = nI i) (hi : i < N) (hN : N < 2 ^ 31) {b : Nat} (hb : a i = some b) (q : Nat) (hq : pc + 1 = q) (hkk : V l X f n cc nL own ret G ov wF w q ls (.ref b :: st)) : V l X f n cc nL own ret G ov wF w pc ls (.int x :: .ref (ga G k) :: st) := by
  obtain ⟨p, e, s, m, args, below, meth, c⟩ := X
  intro hX H locs la hw hS hl
  subst hq
  subst hx
  refine va_aldq (D := gD G) hX.1 hX.2.1 hX.2.2.2.2.2.1.1 hw k 3 (wl_at hk hc) rfl (vp_in_nI hi hN) hd ?_
  rw [nI_clamp (Nat.lt_trans hi hN), hb]
  exact hkk hX H locs la hw hS hl
theorem v_aaldS {k N : Nat} {a : Nat → Option Nat} (hd : decode cc pc = .ok (.aaload, 1)) (hk : k < 104) (hc : cel G w k = aq (gcS G) N a) {x : Int32} (i : Nat) (hx : x = nI i) (hi : i < N) (hN : N < 2 ^ 31) {b : Nat} (hb : a i = some b) (q : Nat) (hq : pc + 1 = q) (hkk : V l X f n cc nL own ret G ov wF w q ls (.ref b :: st)) : V l X f n cc nL own ret G ov wF w pc ls (.int x :: .ref (ga G k) :: st) := by
  obtain ⟨p, e, s, m, args, below, meth, c⟩ := X
  intro hX H locs la hw hS hl
  subst hq
  subst hx
  refine va_aldq (D := gD G) hX.1 hX.2.1 hX.2.2.2.2.2.1.1 hw k 4 (wl_at hk hc) rfl (vp_in_nI hi hN) hd ?_
  rw [nI_clamp (Nat.lt_trans hi hN), hb]
  exact hkk hX H locs la hw hS hl
theorem v_aaldG {k N : Nat} {a : Nat → Option Nat} (hd : decode cc pc = .ok (.aaload, 1)) (hk : k < 104) (hc : cel G w k = aq (gcG G) N a) {x : Int32} (i : Nat) (hx : x = nI i) (hi : i < N) (hN : N < 2 ^ 31) {b : Nat} (hb : a i = some b) (q : Nat) (hq : pc + 1 = q) (hkk : V l X f n cc nL own ret G ov wF w q ls (.ref b :: st)) : V l X f n cc nL own ret G ov wF w pc ls (.int x :: .ref (ga G k) :: st) := by
  obtain ⟨p, e, s, m, args, below, meth, c⟩ := X
  intro hX H locs la hw hS hl
  subst hq
  subst hx
  exact W.aald (v := .ref b) (ty := .array .int) hX.1 hX.2.1 (hw k _ (wl_at hk hc)) ((hX.2.2.2.2.2.1.1.2 5 _ rfl).1 N (fun j => va_rf (a j))) rfl (fun q => by cases q) (by show ¬ (_ < 0 ∨ (arrV _ _ _).slots.size ≤ _); rw [arrV_size]; exact vp_in_nI hi hN) (by show (arrV _ _ _).slots[_]? = _; rw [nI_clamp (Nat.lt_trans hi hN), arrV_read _ _ hi, hb]; rfl) rfl rfl hd (hkk hX H locs la hw hS hl)
theorem n_iadd {x y : Int32} (hd : decode cc pc = .ok (.iadd, 1)) (a b : Nat) (hx : x = nI a) (hy : y = nI b)  (q : Nat) (hq : pc + 1 = q) (hk : V l X f n cc nL own ret G ov wF w q ls (.int (nI (a + b)) :: st)) : V l X f n cc nL own ret G ov wF w pc ls (.int y :: .int x :: st) := by
  subst hx
  subst hy
  exact v_iadd hd q hq (by rw [nI_add]; exact hk)
theorem n_imul {x y : Int32} (hd : decode cc pc = .ok (.imul, 1)) (a b : Nat) (hx : x = nI a) (hy : y = nI b)  (q : Nat) (hq : pc + 1 = q) (hk : V l X f n cc nL own ret G ov wF w q ls (.int (nI (a * b)) :: st)) : V l X f n cc nL own ret G ov wF w pc ls (.int y :: .int x :: st) := by
  subst hx
  subst hy
  exact v_imul hd q hq (by rw [pk_mul]; exact hk)
theorem n_isub {x y : Int32} (hd : decode cc pc = .ok (.isub, 1)) (a b : Nat) (hx : x = nI a) (hy : y = nI b) (h : b ≤ a) (q : Nat) (hq : pc + 1 = q) (hk : V l X f n cc nL own ret G ov wF w q ls (.int (nI (a - b)) :: st)) : V l X f n cc nL own ret G ov wF w pc ls (.int y :: .int x :: st) := by
  subst hx
  subst hy
  exact v_isub hd q hq (by rw [pk_sub h]; exact hk)
theorem n_idiv {x y : Int32} (hd : decode cc pc = .ok (.idiv, 1)) (a b : Nat) (hx : x = nI a) (hy : y = nI b) (h : a < 2 ^ 31) (h0 : 0 < b) (hb : b < 2 ^ 31) (q : Nat) (hq : pc + 1 = q) (hk : V l X f n cc nL own ret G ov wF w q ls (.int (nI (a / b)) :: st)) : V l X f n cc nL own ret G ov wF w pc ls (.int y :: .int x :: st) := by
  subst hx
  subst hy
  exact v_idiv hd (nI_ne0 h0 hb) q hq (by rw [pk_div h h0 hb]; exact hk)
theorem n_irem {x y : Int32} (hd : decode cc pc = .ok (.irem, 1)) (a b : Nat) (hx : x = nI a) (hy : y = nI b) (h : a < 2 ^ 31) (h0 : 0 < b) (hb : b < 2 ^ 31) (q : Nat) (hq : pc + 1 = q) (hk : V l X f n cc nL own ret G ov wF w q ls (.int (nI (a % b)) :: st)) : V l X f n cc nL own ret G ov wF w pc ls (.int y :: .int x :: st) := by
  subst hx
  subst hy
  exact v_irem hd (nI_ne0 h0 hb) q hq (by rw [pk_rem h h0 hb]; exact hk)
theorem n_icmp_ge {x y : Int32} {off : Int} (hd : decode cc pc = .ok (.if_icmp .ge off, 3)) (a b : Nat) (hx : x = nI a) (hy : y = nI b) (ha : a < 2 ^ 31) (hb : b < 2 ^ 31) (t : Nat) (ht : (pc : Int) + off = (t : Int)) (q : Nat) (hq : pc + 3 = q) (kt : b ≤ a → V l X f n cc nL own ret G ov wF w t ls (st)) (kf : a < b → V l X f n cc nL own ret G ov wF w q ls (st)) : V l X f n cc nL own ret G ov wF w pc ls (.int y :: .int x :: st) := by
  subst hx
  subst hy
  exact v_icmp_ge hd t ht q hq (fun h => kt ((nI_leI hb ha).mp h)) (fun h => kf (Nat.lt_of_not_le fun z => h ((nI_leI hb ha).mpr z)))
theorem n_icmp_lt {x y : Int32} {off : Int} (hd : decode cc pc = .ok (.if_icmp .lt off, 3)) (a b : Nat) (hx : x = nI a) (hy : y = nI b) (ha : a < 2 ^ 31) (hb : b < 2 ^ 31) (t : Nat) (ht : (pc : Int) + off = (t : Int)) (q : Nat) (hq : pc + 3 = q) (kt : a < b → V l X f n cc nL own ret G ov wF w t ls (st)) (kf : b ≤ a → V l X f n cc nL own ret G ov wF w q ls (st)) : V l X f n cc nL own ret G ov wF w pc ls (.int y :: .int x :: st) := by
  subst hx
  subst hy
  exact v_icmp_lt hd t ht q hq (fun h => kt ((nI_ltI ha hb).mp h)) (fun h => kf (Nat.le_of_not_lt fun z => h ((nI_ltI ha hb).mpr z)))
theorem n_icmp_gt {x y : Int32} {off : Int} (hd : decode cc pc = .ok (.if_icmp .gt off, 3)) (a b : Nat) (hx : x = nI a) (hy : y = nI b) (ha : a < 2 ^ 31) (hb : b < 2 ^ 31) (t : Nat) (ht : (pc : Int) + off = (t : Int)) (q : Nat) (hq : pc + 3 = q) (kt : b < a → V l X f n cc nL own ret G ov wF w t ls (st)) (kf : a ≤ b → V l X f n cc nL own ret G ov wF w q ls (st)) : V l X f n cc nL own ret G ov wF w pc ls (.int y :: .int x :: st) := by
  subst hx
  subst hy
  exact v_icmp_gt hd t ht q hq (fun h => kt ((nI_ltI hb ha).mp h)) (fun h => kf (Nat.le_of_not_lt fun z => h ((nI_ltI hb ha).mpr z)))
theorem n_icmp_le {x y : Int32} {off : Int} (hd : decode cc pc = .ok (.if_icmp .le off, 3)) (a b : Nat) (hx : x = nI a) (hy : y = nI b) (ha : a < 2 ^ 31) (hb : b < 2 ^ 31) (t : Nat) (ht : (pc : Int) + off = (t : Int)) (q : Nat) (hq : pc + 3 = q) (kt : a ≤ b → V l X f n cc nL own ret G ov wF w t ls (st)) (kf : b < a → V l X f n cc nL own ret G ov wF w q ls (st)) : V l X f n cc nL own ret G ov wF w pc ls (.int y :: .int x :: st) := by
  subst hx
  subst hy
  exact v_icmp_le hd t ht q hq (fun h => kt ((nI_leI ha hb).mp h)) (fun h => kf (Nat.lt_of_not_le fun z => h ((nI_leI ha hb).mpr z)))
theorem n_icmp_eq {x y : Int32} {off : Int} (hd : decode cc pc = .ok (.if_icmp .eq off, 3)) (a b : Nat) (hx : x = nI a) (hy : y = nI b) (ha : a < 2 ^ 31) (hb : b < 2 ^ 31) (t : Nat) (ht : (pc : Int) + off = (t : Int)) (q : Nat) (hq : pc + 3 = q) (kt : a = b → V l X f n cc nL own ret G ov wF w t ls (st)) (kf : a ≠ b → V l X f n cc nL own ret G ov wF w q ls (st)) : V l X f n cc nL own ret G ov wF w pc ls (.int y :: .int x :: st) := by
  subst hx
  subst hy
  exact v_icmp_eq hd t ht q hq (fun h => kt ((nI_eq ha hb).mp h)) (fun h => kf (fun z => h ((nI_eq ha hb).mpr z)))
theorem n_icmp_ne {x y : Int32} {off : Int} (hd : decode cc pc = .ok (.if_icmp .ne off, 3)) (a b : Nat) (hx : x = nI a) (hy : y = nI b) (ha : a < 2 ^ 31) (hb : b < 2 ^ 31) (t : Nat) (ht : (pc : Int) + off = (t : Int)) (q : Nat) (hq : pc + 3 = q) (kt : a ≠ b → V l X f n cc nL own ret G ov wF w t ls (st)) (kf : a = b → V l X f n cc nL own ret G ov wF w q ls (st)) : V l X f n cc nL own ret G ov wF w pc ls (.int y :: .int x :: st) := by
  subst hx
  subst hy
  exact v_icmp_ne hd t ht q hq (fun h => kt (fun z => h ((nI_eq ha hb).mpr z))) (fun h => kf ((nI_eq ha hb).mp h))
theorem v_ifb_eq {b : Bool} {off : Int} (hd : decode cc pc = .ok (.ifCond .eq off, 3)) (t : Nat) (ht : (pc : Int) + off = (t : Int)) (q : Nat) (hq : pc + 3 = q) (kt : b = false → V l X f n cc nL own ret G ov wF w t ls (st)) (kf : b = true → V l X f n cc nL own ret G ov wF w q ls (st)) : V l X f n cc nL own ret G ov wF w pc ls (.int (b2 b) :: st) := by
  exact v_if_eq hd t ht q hq (fun h => kt (b2_0.mp h)) (fun h => kf (b2_n.mp h))
theorem v_ifb_ne {b : Bool} {off : Int} (hd : decode cc pc = .ok (.ifCond .ne off, 3)) (t : Nat) (ht : (pc : Int) + off = (t : Int)) (q : Nat) (hq : pc + 3 = q) (kt : b = true → V l X f n cc nL own ret G ov wF w t ls (st)) (kf : b = false → V l X f n cc nL own ret G ov wF w q ls (st)) : V l X f n cc nL own ret G ov wF w pc ls (.int (b2 b) :: st) := by
  exact v_if_ne hd t ht q hq (fun h => kt (b2_n.mp h)) (fun h => kf (b2_0.mp h))
theorem big_in {y : MethodName} {cc : ByteArray} {nL : Nat} {ret : Option FieldType} (h : Cond.code y cc nL ret ∈ BIG) : ∀ z ∈ (Cond.code y cc nL ret :: BIG), z ∈ BIG ∧ ((z.onTables && z.keeps) = true ∨ ∃ ty, z = .arrayClass ty) := by
  intro z hz
  have hm : z ∈ BIG := by
    rcases List.mem_cons.mp hz with e | e
    · rw [e]; exact h
    · exact e
  exact ⟨hm, good_of_word (List.mem_filter.mp hm).2⟩
/-- what is known of a method that is called: its code among the words, its class ready, how many arguments -/
def Kal (y : MethodName) (cc : ByteArray) (nL : Nat) (ret : Option FieldType) (k : Nat) : Prop := Cond.code y cc nL ret ∈ BIG ∧ Cond.initialized y.cls ∈ BIG ∧ (y.cls ≠ "java/lang/invoke/MethodHandle" ∧ y.cls ≠ "java/lang/invoke/VarHandle") ∧ (parseMethodDescriptor y.desc).map (fun d => d.parameters.length) = some k
theorem Kal.arity {y : MethodName} {cc : ByteArray} {nL : Nat} {ret : Option FieldType} {k : Nat} (h : Kal y cc nL ret k) : ∀ sig, parseMethodDescriptor y.desc = some sig → k = sig.parameters.length := by
  intro sig hs
  have h4 := h.2.2.2
  rw [hs] at h4
  exact (Option.some.inj h4).symm
theorem ct_pre {G : Gl} {w : WS} {s : State} {H : Heap} {locs : List Loc} {avs : List Value} (hK : Kd G s) (hw : Wd G w H) (hS : va_S (gA G) s.heap H locs) : FrameBlind (va_Pc avs (fun U => Wd G w U.heap ∧ Kd G U)) ∧ ∀ U : State, U.heap = H → s.WarmedH U.vm → va_Pc avs (fun U => Wd G w U.heap ∧ Kd G U) avs.toArray U :=
  ⟨fun a U g mk q => ⟨q.1, q.2.1, q.2.2.call g mk a⟩, fun U hU hW => ⟨rfl, by rw [hU]; exact hw, hK.next hW (locs := locs) (by rw [hU]; exact hS)⟩⟩
theorem ct_go {l : Launch} {G : Gl} {ov2 : Option Value} {w2 : WS} {p : Program} {e : Env} {R : Room} {s : State} {m : MethodId} {args a : Array Value} {below : List Frame} {meth : Method} {c : Code} {H : Heap} {locs : List Loc} {Q : State → Prop} {pc : Nat} {la : Array Slot} {st0 rest : List Value} (hr : va_Run p l e R s m args below meth c H locs 0 0 0 0 (F0 m pc la st0) rest (Qo G ov2 w2 a) (gA G)) (hS : va_S (gA G) s.heap H locs)
    (kk : ∀ (H1 : Heap) (locs1 : List Loc), Wd G w2 H1 → va_S (gA G) s.heap H1 locs1 → W p l e R s m args below meth c H1 locs1 0 0 Q (F0 m (pc + 3) la (ov2.toList ++ rest))) : W p l e R s m args below meth c H locs 0 0 Q (F0 m pc la st0) := by
  intro T hT X
  obtain ⟨v, st₀, t, T', L, h0, X', hL, e1, e2, ⟨⟨hv, hw⟩, hz, hk⟩, st⟩ := hr T hT X
  cases hv
  rw [h0] at hz hk
  obtain ⟨t2, a1, b1⟩ := kk T'.heap (locs ++ L) (by rw [e1]; exact hw)
    ⟨Nat.le_trans hS.1 (by rw [e1]; exact hz), fun q h1 h2 => by rw [e1, hk q (Nat.lt_of_lt_of_le h1 hS.1) h2]; exact hS.2.1 q h1 h2, fun q hq => by
      rcases List.mem_append.mp hq with h | h
      · exact hS.2.2 q h
      · exact hL q h⟩ T' rfl X'
  exact ⟨t2, st t2 a1, b1⟩
theorem v_callS {y : MethodName} {cc2 : ByteArray} {nL2 f2 n2 index : Nat} {ret2 : Option FieldType} {ov2 : Option Value} {w1 w2 : WS} {avs : List Value} {kn : Nat} (hM : Ct l G y cc2 nL2 ret2 f2 n2 avs w1 ov2 w2) (hkal : Kal y cc2 nL2 ret2 kn) (hn : avs.length = kn) (hd : decode cc pc = .ok (.invokestatic index, 3)) (hlink : Cond.methodLink own index y ∈ BIG) (hst : Cond.static y ∈ BIG) (hR : f2 + 1 ≤ f ∧ 8 + (nL2 + 11) + n2 ≤ n) (rest : List Value) (hr : (rest.map fun v => v.category).sum ≤ 8) (hs : st = avs.reverse ++ rest) (ew : w = w1) (q : Nat) (hq : pc + 3 = q) (hkk : V l X f n cc nL own ret G ov wF w2 q ls (ov2.toList ++ rest)) : V l X f n cc nL own ret G ov wF w pc ls (st) := by
  obtain ⟨p, e, s, m, args, below, meth, c⟩ := X
  intro hX H locs la hw hS hl
  subst hq
  subst ew
  exact ct_go (va_runS ⟨hX.1, hX.2.1, hX.2.2.1, hX.2.2.2.1, hX.2.2.2.2.1⟩ hM ⟨⟨rfl, rfl, hR.1, hR.2, pay_in hX.2.2.2.2.1 (big_in hkal.1), List.mem_cons_self, hX.2.2.2.2.1 _ hkal.1, hX.2.2.2.2.1 _ hkal.2.1, hkal.2.2.1, hkal.arity, hX.2.2.2.2.1 _ hlink⟩, hX.2.2.2.2.1 _ hst⟩ (ct_pre hX.2.2.2.2.2.1 hw hS) rfl hn hl.1 hs (lv_room hr) hd ⟨Nat.le_refl _, Nat.le_refl _⟩) hS (fun H1 locs1 hw1 hS1 => hkk hX H1 locs1 la hw1 hS1 hl)
theorem v_callSN {y : MethodName} {cc2 : ByteArray} {nL2 f2 n2 index : Nat} {ret2 : Option FieldType} {ov2 : Option Value} {w1 w2 : WS} {avs : List Value} {kn : Nat} {host : String} (hM : Ct l G y cc2 nL2 ret2 f2 n2 avs w1 ov2 w2) (hkal : Kal y cc2 nL2 ret2 kn) (hn : avs.length = kn) (hd : decode cc pc = .ok (.invokestatic index, 3)) (hlink : ∀ U, Nst U → va_Nw (.methodLinkNest own index y host) U) (hst : Cond.static y ∈ BIG) (hR : f2 + 1 ≤ f ∧ 8 + (nL2 + 11) + n2 ≤ n) (rest : List Value) (hr : (rest.map fun v => v.category).sum ≤ 8) (hs : st = avs.reverse ++ rest) (ew : w = w1) (q : Nat) (hq : pc + 3 = q) (hkk : V l X f n cc nL own ret G ov wF w2 q ls (ov2.toList ++ rest)) : V l X f n cc nL own ret G ov wF w pc ls (st) := by
  obtain ⟨p, e, s, m, args, below, meth, c⟩ := X
  intro hX H locs la hw hS hl
  subst hq
  subst ew
  exact ct_go (va_runSN ⟨hX.1, hX.2.1, hX.2.2.1, hX.2.2.2.1, hX.2.2.2.2.1⟩ hM ⟨⟨⟨rfl, rfl, hR.1, hR.2, pay_in hX.2.2.2.2.1 (big_in hkal.1), List.mem_cons_self⟩, hX.2.2.2.2.1 _ hkal.1, hX.2.2.2.2.1 _ hkal.2.1, hkal.2.2.1, hkal.arity, va_Nw.use rfl (hlink s hX.2.2.2.2.2.1.2.1)⟩, hX.2.2.2.2.1 _ hst, trivial⟩ (ct_pre hX.2.2.2.2.2.1 hw hS) rfl hn hl.1 hs (lv_room hr) hd ⟨Nat.le_refl _, Nat.le_refl _⟩) hS (fun H1 locs1 hw1 hS1 => hkk hX H1 locs1 la hw1 hS1 hl)
theorem v_callV {y : MethodName} {cc2 : ByteArray} {nL2 f2 n2 index : Nat} {ret2 : Option FieldType} {ov2 : Option Value} {w1 w2 : WS} {As : List Value} {kn k ci : Nat} {fs : List Value} {T : u_T} {N : Nat} (hM : Ct l G y cc2 nL2 ret2 f2 n2 (.ref (ga G k) :: As) w1 ov2 w2) (hkal : Kal y cc2 nL2 ret2 kn) (hn : As.length = kn) (hd : decode cc pc = .ok (.invokevirtual index, 3)) (hlink : Cond.methodLink own index y ∈ BIG) (hins : Cond.instanceMethod y ∈ BIG) (hsel : Cond.selects y.cls y y ∈ BIG) (hcl : vwCl[ci]? = some (y.cls, T, N)) (hk : k < 104) (hc : cel G w1 k = ob ci fs) (hR : f2 + 1 ≤ f ∧ 8 + (nL2 + 11) + n2 ≤ n) (rest : List Value) (hr : (rest.map fun v => v.category).sum ≤ 8) (hs : st = As.reverse ++ .ref (ga G k) :: rest) (ew : w = w1) (q : Nat) (hq : pc + 3 = q) (hkk : V l X f n cc nL own ret G ov wF w2 q ls (ov2.toList ++ rest)) : V l X f n cc nL own ret G ov wF w pc ls (st) := by
  obtain ⟨p, e, s, m, args, below, meth, c⟩ := X
  intro hX H locs la hw hS hl
  subst hq
  subst ew
  exact ct_go (va_runV ⟨hX.1, hX.2.1, hX.2.2.1, hX.2.2.2.1, hX.2.2.2.2.1⟩ hM ⟨⟨rfl, rfl, hR.1, hR.2, pay_in hX.2.2.2.2.1 (big_in hkal.1), List.mem_cons_self, hX.2.2.2.2.1 _ hkal.1, hX.2.2.2.2.1 _ hkal.2.1, hkal.2.2.1, hkal.arity, hX.2.2.2.2.1 _ hlink⟩, hX.2.2.2.2.1 _ hins, hX.2.2.2.2.1 _ hsel⟩ ⟨(ct_pre hX.2.2.2.2.2.1 hw hS).1, va_recv hX.2.2.2.2.2.1.1 hw hcl (wl_at hk hc), (ct_pre hX.2.2.2.2.2.1 hw hS).2⟩ rfl hn hl.1 hs (lv_room hr) hd ⟨Nat.le_refl _, Nat.le_refl _⟩) hS (fun H1 locs1 hw1 hS1 => hkk hX H1 locs1 la hw1 hS1 hl)
theorem v_mmin {x y : Int32} {index : Nat} (hd : decode cc pc = .ok (.invokestatic index, 3)) (hlink : Cond.methodLink own index Lib.Math.min.name ∈ BIG) (hf : 1 ≤ f) (hr : (st.map fun v => v.category).sum + 13 ≤ n) (q : Nat) (hq : pc + 3 = q) (hkk : V l X f n cc nL own ret G ov wF w q ls (.int (if y < x then y else x) :: st)) : V l X f n cc nL own ret G ov wF w pc ls (.int y :: .int x :: st) := by
  obtain ⟨p, e, s, m, args, below, meth, c⟩ := X
  intro hX H locs la hw hS hl
  subst hq
  exact va_mmin hX.1 hX.2.1 (by rw [hX.2.2.1]; exact hl.1.symm) hX.2.2.2.1 (hX.2.2.2.2.1 _ hlink) (hX.2.2.2.2.1 _ qw_static_min) (hX.2.2.2.2.1 _ qw_init_Math) (hX.2.2.2.2.1 _ qw_code_min) hf hr (Nat.zero_le _) (Nat.zero_le _) hd (hkk hX H locs la hw hS hl)
theorem v_mmax {x y : Int32} {index : Nat} (hd : decode cc pc = .ok (.invokestatic index, 3)) (hlink : Cond.methodLink own index Lib.Math.max.name ∈ BIG) (hf : 1 ≤ f) (hr : (st.map fun v => v.category).sum + 13 ≤ n) (q : Nat) (hq : pc + 3 = q) (hkk : V l X f n cc nL own ret G ov wF w q ls (.int (if x < y then y else x) :: st)) : V l X f n cc nL own ret G ov wF w pc ls (.int y :: .int x :: st) := by
  obtain ⟨p, e, s, m, args, below, meth, c⟩ := X
  intro hX H locs la hw hS hl
  subst hq
  exact va_mmax hX.1 hX.2.1 (by rw [hX.2.2.1]; exact hl.1.symm) hX.2.2.2.1 (hX.2.2.2.2.1 _ hlink) (hX.2.2.2.2.1 _ qw_static_max) (hX.2.2.2.2.1 _ qw_init_Math) (hX.2.2.2.2.1 _ qw_code_max) hf hr (Nat.zero_le _) (Nat.zero_le _) hd (hkk hX H locs la hw hS hl)
theorem v_copyi {k1 k2 N1 N2 : Nat} {a b : Nat → Int32} {w2 : WS} {index : Nat} (hd : decode cc pc = .ok (.invokestatic index, 3)) (hlink : Cond.methodLink own index arraycopyName ∈ BIG) (hf : 1 ≤ f) (hr : (st.map fun v => v.category).sum + (nativeFrameWords "java/lang/System" "arraycopy" 5 + 11) ≤ n) (h1 : k1 < 104) (hc1 : cel G w k1 = ai (gcI G) N1 a) (h2 : k2 < 104) (hc2 : cel G w k2 = ai (gcI G) N2 b) {x y z : Int32} (i j mm : Nat) (hx : x = nI i) (hy : y = nI j) (hz : z = nI mm) (hm1 : i + mm ≤ N1) (hm2 : j + mm ≤ N2) (hN1 : N1 < 2 ^ 31) (hN2 : N2 < 2 ^ 31) (hw2 : ∀ j2, j2 < 104 → cel G w2 j2 = if j2 = k2 then ai (gcI G) N2 (va_cpy a b i j mm) else cel G w j2) (q : Nat) (hq : pc + 3 = q) (hkk : V l X f n cc nL own ret G ov wF w2 q ls (st)) : V l X f n cc nL own ret G ov wF w pc ls (.int z :: .int y :: .ref (ga G k2) :: .int x :: .ref (ga G k1) :: st) := by
  obtain ⟨p, e, s, m, args, below, meth, c⟩ := X
  intro hX H locs la hw hS hl
  subst hq
  subst hx
  subst hy
  subst hz
  have hi : i < 2 ^ 31 := by omega
  have hj : j < 2 ^ 31 := by omega
  have hmm : mm < 2 ^ 31 := by omega
  refine va_copyi (D := gD G) hX.1 hX.2.1 (by rw [hX.2.2.1]; exact hl.1.symm) hX.2.2.2.1 (hX.2.2.2.2.1 _ hlink) (hX.2.2.2.2.1 _ qw_native_copy) (hX.2.2.2.2.1 _ qw_static_copy) (hX.2.2.2.2.1 _ qw_init_System) hX.2.2.2.2.2.1.1 hw (hX.2.2.2.2.2.1.2.2.1.D w) hS k1 k2 0 0 (ty := .int) (wl_at h1 hc1) (wl_at h2 hc2) rfl rfl rfl (nI_pos hi) (nI_pos hj) (nI_pos hmm) (by rw [nI_clamp hi, nI_clamp hmm]; exact hm1) (by rw [nI_clamp hj, nI_clamp hmm]; exact hm2) (fun _ _ => rfl) hf hr hd (fun H1 locs1 hP1 _ hS1 => ?_)
  rw [nI_clamp hi, nI_clamp hj, nI_clamp hmm] at hP1
  refine hkk hX H1 locs1 la ?_ hS1 hl
  have e := wl_set h2 hw2
  unfold ai at e
  rw [e] at hP1
  exact hP1
end VROWS
