/-! the makers: worlds that grow -/
theorem qo_114 : Cond.arrayClass .int ∈ BIG := big_at 114 (by decide +kernel) (by decide +kernel)
theorem qo_174 : Cond.arrayClass .byte ∈ BIG := big_at 174 (by decide +kernel) (by decide +kernel)
theorem qo_195 : Cond.arrayClass .long ∈ BIG := big_at 195 (by decide +kernel) (by decide +kernel)
theorem va_AOA.moved {t : FieldType} {u U : State} (hvm : u.vm.Alike U.vm) (h : va_AOA t u) : va_AOA t U := Jvm.Stand.arrayOver_alikeB hvm h
def Nc (U : State) : Prop := va_Nw (.methodLinkNest RX1 32 yX0_init RX4) U ∧ va_Nw (.methodLinkNest RX4 24 yX0_init RX4) U ∧ va_Nw (.methodLinkNest RX4 31 yX3_init RX4) U ∧ va_Nw (.methodLinkNest RX4 46 yX2_init RX4) U
def Kc (G : Gl) (U : State) : Prop := va_K (gD G) vwCl (gTy G) U ∧ Nc U ∧ (va_AO "ShornYear$Ewe" U ∧ va_AO "ShornYear$Sheet" U ∧ va_AOA .int U) ∧ gLo G ≤ U.heap.size
theorem Kc.next {G : Gl} {s U : State} (h : Kc G s) (hW : s.WarmedH U.vm) (hz : s.heap.size ≤ U.heap.size) : Kc G U := by
  obtain ⟨h1, ⟨n1, n2, n3, n4⟩, ⟨a1, a2, a3⟩, h4⟩ := h
  exact ⟨va_K.moved hW.alike h1, ⟨n1.warmM hW, n2.warmM hW, n3.warmM hW, n4.warmM hW⟩, ⟨a1.moved hW.alike, a2.moved hW.alike, a3.moved hW.alike⟩, Nat.le_trans h4 hz⟩
theorem Kc.call {G : Gl} {U : State} (h : Kc G U) (g : JFrame) (mk : MethodId) (a : Array Value) : Kc G (U.calling g mk a) := by
  obtain ⟨h1, ⟨n1, n2, n3, n4⟩, ⟨a1, a2, a3⟩, h4⟩ := h
  have hA : U.vm.Alike (U.calling g mk a).vm := Vm.Alike.refl U.vm
  exact ⟨va_K.moved hA h1, ⟨va_Nw.same rfl rfl n1, va_Nw.same rfl rfl n2, va_Nw.same rfl rfl n3, va_Nw.same rfl rfl n4⟩, ⟨a1.moved hA, a2.moved hA, a3.moved hA⟩, h4⟩
def rmC (f n c z : Nat) : Room := { frames := f, cells := c, slots := z, locals := n }
def Pw (G : Gl) (ws : va_W) (H : Heap) : Prop := va_P (gD G) vwCl ws H ∧ va_D (gA G) ws
def Qc9 (G : Gl) (nw : (Nat → Nat) → va_W) : Array Value → State → Outcome → State → Prop := va_Qv (fun _ : Nat → Nat => True) (fun u t => Pw G (nw u) t.heap) (gA G)
def Mk (l : Launch) (G : Gl) (y : MethodName) (cc : ByteArray) (nL f n mc ms : Nat) (avs : List Value) (ws : va_W) (nw : (Nat → Nat) → va_W) : Prop :=
  Met l y (.code y cc nL none :: BIG) (rmC f n mc ms) (va_Pc avs (fun U => Pw G ws U.heap ∧ Kc G U)) (Qc9 G nw) mc ms (gA G)
def OKC (X : VX) (cc : ByteArray) (nL : Nat) (own : String) (G : Gl) : Prop := match X with
  | (p, e, s, m, args, below, meth, c) => p.tables.exec = Jvm.exec ∧ c.code = cc ∧ c.maxLocals = nL ∧ s.vm.findClass own = some m.cls ∧ (∀ w ∈ BIG, w.before args s = true) ∧ Kc G s ∧ meth.locks = false ∧ meth.sig.returnType = none ∧ meth.name = "<init>"
def Uw (l : Launch) (X : VX) (f n mc ms : Nat) (cc : ByteArray) (nL : Nat) (own : String) (G : Gl) (nw : (Nat → Nat) → va_W) (Y T : va_W) (kc ks pc : Nat) (ls : List (Nat × Value)) (st : List Value) : Prop := match X with
  | (p, e, s, m, args, below, meth, c) => OKC (p, e, s, m, args, below, meth, c) cc nL own G → ∀ (H : Heap) (locs : List Loc) (la : Array Slot), Pw G (Y ++ T) H → va_S (gA G) s.heap H locs → lv_has la nL ls → W p l e (rmC f n mc ms) s m args below meth c H locs kc ks (MQ below (Qc9 G nw) args s mc ms (gA G)) (F0 m pc la st)
theorem Mk.of {l : Launch} {G : Gl} {y : MethodName} {cc : ByteArray} {nL f n mc ms : Nat} {avs : List Value} {ws Y T : va_W} {nw : (Nat → Nat) → va_W} {own : String} (hy : plainName y.cls = true) (ho : y.cls = own) (hi : y.name = "<init>") (hw : ws = Y ++ T) (hlen : (lg_sl avs).length ≤ nL) {ls : List (Nat × Value)} (hls : lv_args 0 avs = ls) (h : ∀ X : VX, Uw l X f n mc ms cc nL own G nw Y T 0 0 0 ls []) : Mk l G y cc nL f n mc ms avs ws nw := by
  refine Met.ofW (cc := cc) (maxL := nL) (ret := none) hy rfl ?_
  intro p e s m args below meth c s₁ B hml hv
  obtain ⟨rfl, hw2, hK⟩ := hv
  have hts := atoms_spec (ws := .code y cc nL none :: BIG) B.pre
  have hown : s.vm.findClass y.cls = some m.cls := findClass_of_methodNamed B.named
  rw [ho] at hown
  have hin : meth.name = y.name := (name_of_methodNamed B.named B.method).1
  rw [hi] at hin
  rw [lg_entry_eq]
  have hl := lv_entry avs (n := nL) hlen
  rw [hls] at hl
  rw [hw] at hw2
  exact h (p, e, s, m, avs.toArray, below, meth, c) ⟨B.exec, B.bytes, hml, hown, fun w hw => hts w (List.mem_cons_of_mem _ hw), hK, B.notSynchronized, B.returns, hin⟩ s.heap [] _ hw2 va_S.rf hl
theorem getR {α : Type} {Y T : List α} {i : Nat} {v : α} (h : T[i]? = some v) : (Y ++ T)[Y.length + i]? = some v := by
  rw [List.getElem?_append_right (Nat.le_add_right _ _), Nat.add_sub_cancel_left]
  exact h
theorem setR {α : Type} (Y T : List α) (i : Nat) (v : α) : (Y ++ T).set (Y.length + i) v = Y ++ T.set i v := by
  rw [List.set_append_right _ _ (Nat.le_add_right _ _), Nat.add_sub_cancel_left]
theorem Kc.A {G : Gl} {s : State} (h : Kc G s) : ∀ q, s.heap.size ≤ q → gA G q := fun q hq => Nat.le_trans h.2.2.2 hq
theorem ty_same {G : Gl} {s : State} {cA : ClassId} {t : FieldType} (k : Nat) {c0 : ClassId} (h : Kc G s) (hk : (gTy G)[k]? = some (c0, t)) (h2 : va_K (gD G) vwCl (gTy G ++ [(cA, t)]) s) : cA = c0 := by
  have a1 := (h.1.2 k _ hk).2
  have a2 := (h2.2 (gTy G).length (cA, t) (by rw [List.getElem?_append_right (Nat.le_refl _), Nat.sub_self]; rfl)).2
  cases t with
  | object C =>
    obtain ⟨_, _, -, -, -, b1⟩ := a1
    obtain ⟨_, _, -, -, -, b2⟩ := a2
    exact Option.some.inj (b2.symm.trans b1)
  | _ => exact Option.some.inj (a2.symm.trans a1)
section UROWS
variable {l : Launch} {X : VX} {f n mc ms : Nat} {cc : ByteArray} {nL : Nat} {own : String} {G : Gl} {nw : (Nat → Nat) → va_W} {Y T : va_W} {kc ks pc : Nat} {ls ls2 : List (Nat × Value)} {st : List Value}
theorem u_iadd {x y : Int32} (hd : decode cc pc = .ok (.iadd, 1)) (q : Nat) (hq : pc + 1 = q) (hk : Uw l X f n mc ms cc nL own G nw Y T kc ks q ls (.int (x + y) :: st)) : Uw l X f n mc ms cc nL own G nw Y T kc ks pc ls (.int y :: .int x :: st) := by
  obtain ⟨p, e, s, m, args, below, meth, c⟩ := X
  intro hX H locs la hP hS hl
  subst hq
  exact lv_iadd hX.1 hX.2.1 hd  (hk hX H locs la hP hS hl)
theorem u_isub {x y : Int32} (hd : decode cc pc = .ok (.isub, 1)) (q : Nat) (hq : pc + 1 = q) (hk : Uw l X f n mc ms cc nL own G nw Y T kc ks q ls (.int (x - y) :: st)) : Uw l X f n mc ms cc nL own G nw Y T kc ks pc ls (.int y :: .int x :: st) := by
  obtain ⟨p, e, s, m, args, below, meth, c⟩ := X
  intro hX H locs la hP hS hl
  subst hq
  exact lv_isub hX.1 hX.2.1 hd  (hk hX H locs la hP hS hl)
theorem u_imul {x y : Int32} (hd : decode cc pc = .ok (.imul, 1)) (q : Nat) (hq : pc + 1 = q) (hk : Uw l X f n mc ms cc nL own G nw Y T kc ks q ls (.int (x * y) :: st)) : Uw l X f n mc ms cc nL own G nw Y T kc ks pc ls (.int y :: .int x :: st) := by
  obtain ⟨p, e, s, m, args, below, meth, c⟩ := X
  intro hX H locs la hP hS hl
  subst hq
  exact lv_imul hX.1 hX.2.1 hd  (hk hX H locs la hP hS hl)
theorem u_irem {x y : Int32} (hd : decode cc pc = .ok (.irem, 1)) (hne : ¬ y = 0) (q : Nat) (hq : pc + 1 = q) (hk : Uw l X f n mc ms cc nL own G nw Y T kc ks q ls (.int (x - x / y * y) :: st)) : Uw l X f n mc ms cc nL own G nw Y T kc ks pc ls (.int y :: .int x :: st) := by
  obtain ⟨p, e, s, m, args, below, meth, c⟩ := X
  intro hX H locs la hP hS hl
  subst hq
  exact lv_irem hX.1 hX.2.1 hd hne (hk hX H locs la hP hS hl)
theorem u_dup {a : Value} (hd : decode cc pc = .ok (.dup, 1)) (ha : a.category = 1) (q : Nat) (hq : pc + 1 = q) (hk : Uw l X f n mc ms cc nL own G nw Y T kc ks q ls (a :: a :: st)) : Uw l X f n mc ms cc nL own G nw Y T kc ks pc ls (a :: st) := by
  obtain ⟨p, e, s, m, args, below, meth, c⟩ := X
  intro hX H locs la hP hS hl
  subst hq
  exact lv_dup hX.1 hX.2.1 hd ha (hk hX H locs la hP hS hl)
theorem u_iconst {k : Int} (hd : decode cc pc = .ok (.iconst k, 1)) (v : Int32) (hv : Int32.ofInt k = v) (q : Nat) (hq : pc + 1 = q) (hk : Uw l X f n mc ms cc nL own G nw Y T kc ks q ls (.int v :: st)) : Uw l X f n mc ms cc nL own G nw Y T kc ks pc ls (st) := by
  obtain ⟨p, e, s, m, args, below, meth, c⟩ := X
  intro hX H locs la hP hS hl
  subst hq
  exact lv_iconst hX.1 hX.2.1 hd hv (hk hX H locs la hP hS hl)
theorem u_bipush {k : Int} (hd : decode cc pc = .ok (.bipush k, 2)) (v : Int32) (hv : (Int8.ofInt k).toInt32 = v) (q : Nat) (hq : pc + 2 = q) (hk : Uw l X f n mc ms cc nL own G nw Y T kc ks q ls (.int v :: st)) : Uw l X f n mc ms cc nL own G nw Y T kc ks pc ls (st) := by
  obtain ⟨p, e, s, m, args, below, meth, c⟩ := X
  intro hX H locs la hP hS hl
  subst hq
  exact lv_bipush hX.1 hX.2.1 hd hv (hk hX H locs la hP hS hl)
theorem u_sipush {k : Int} (hd : decode cc pc = .ok (.sipush k, 3)) (v : Int32) (hv : (Int16.ofInt k).toInt32 = v) (q : Nat) (hq : pc + 3 = q) (hk : Uw l X f n mc ms cc nL own G nw Y T kc ks q ls (.int v :: st)) : Uw l X f n mc ms cc nL own G nw Y T kc ks pc ls (st) := by
  obtain ⟨p, e, s, m, args, below, meth, c⟩ := X
  intro hX H locs la hP hS hl
  subst hq
  exact lv_sipush hX.1 hX.2.1 hd hv (hk hX H locs la hP hS hl)
theorem u_iload_n {k : Fin 4} {x : Int32} (hd : decode cc pc = .ok (.iload_n k, 1)) (i : Nat) (hi : ls[i]? = some (k.val, .int x)) (q : Nat) (hq : pc + 1 = q) (hk : Uw l X f n mc ms cc nL own G nw Y T kc ks q ls (.int x :: st)) : Uw l X f n mc ms cc nL own G nw Y T kc ks pc ls (st) := by
  obtain ⟨p, e, s, m, args, below, meth, c⟩ := X
  intro hX H locs la hP hS hl
  subst hq
  exact lv_iload_n hX.1 hX.2.1 hd rfl (lv_at hl i hi) (hk hX H locs la hP hS hl)
theorem u_aload_n {k : Fin 4} {x : Nat} (hd : decode cc pc = .ok (.aload_n k, 1)) (i : Nat) (hi : ls[i]? = some (k.val, .ref x)) (q : Nat) (hq : pc + 1 = q) (hk : Uw l X f n mc ms cc nL own G nw Y T kc ks q ls (.ref x :: st)) : Uw l X f n mc ms cc nL own G nw Y T kc ks pc ls (st) := by
  obtain ⟨p, e, s, m, args, below, meth, c⟩ := X
  intro hX H locs la hP hS hl
  subst hq
  exact lv_aload_n hX.1 hX.2.1 hd rfl (lv_at hl i hi) (hk hX H locs la hP hS hl)
theorem u_istore_n {k : Fin 4} {x : Int32} (hd : decode cc pc = .ok (.istore_n k, 1)) (i : Nat) (hi : k.val = i) (hn : i < nL) (ls2 : List (Nat × Value)) (h2 : (i, Value.int x) :: ls.filter (fun z => !(z.1 == i) && !(z.1 + 1 == i && z.2.category == 2)) = ls2) (q : Nat) (hq : pc + 1 = q) (hk : Uw l X f n mc ms cc nL own G nw Y T kc ks q ls2 (st)) : Uw l X f n mc ms cc nL own G nw Y T kc ks pc ls (.int x :: st) := by
  obtain ⟨p, e, s, m, args, below, meth, c⟩ := X
  intro hX H locs la hP hS hl
  subst hq
  exact lv_istore_n hX.1 hX.2.1 hd hi hl hn h2 (fun la2 hl2 => hk hX H locs la2 hP hS hl2)
theorem u_iinc {i : Nat} {k : Int} {x : Int32} (hd : decode cc pc = .ok (.iinc i k, 3)) (j : Nat) (hj : ls[j]? = some (i, .int x)) (v : Int32) (hv : x + Int32.ofInt k = v) (hn : i < nL) (ls2 : List (Nat × Value)) (h2 : (i, Value.int v) :: ls.filter (fun z => !(z.1 == i) && !(z.1 + 1 == i && z.2.category == 2)) = ls2) (q : Nat) (hq : pc + 3 = q) (hk : Uw l X f n mc ms cc nL own G nw Y T kc ks q ls2 (st)) : Uw l X f n mc ms cc nL own G nw Y T kc ks pc ls (st) := by
  obtain ⟨p, e, s, m, args, below, meth, c⟩ := X
  intro hX H locs la hP hS hl
  subst hq
  exact lv_iinc hX.1 hX.2.1 hd hl hj hv hn h2 (fun la2 hl2 => hk hX H locs la2 hP hS hl2)
theorem u_goto {off : Int} (hd : decode cc pc = .ok (.goto off, 3)) (t : Nat) (ht : (pc : Int) + off = (t : Int)) (hk : Uw l X f n mc ms cc nL own G nw Y T kc ks t ls (st)) : Uw l X f n mc ms cc nL own G nw Y T kc ks pc ls (st) := by
  obtain ⟨p, e, s, m, args, below, meth, c⟩ := X
  intro hX H locs la hP hS hl
  exact lv_goto hX.1 hX.2.1 hd ht (hk hX H locs la hP hS hl)
theorem u_icmp_ge {x y : Int32} {off : Int} (hd : decode cc pc = .ok (.if_icmp .ge off, 3)) (t : Nat) (ht : (pc : Int) + off = (t : Int)) (q : Nat) (hq : pc + 3 = q) (kt : y ≤ x → Uw l X f n mc ms cc nL own G nw Y T kc ks t ls (st)) (kf : ¬ y ≤ x → Uw l X f n mc ms cc nL own G nw Y T kc ks q ls (st)) : Uw l X f n mc ms cc nL own G nw Y T kc ks pc ls (.int y :: .int x :: st) := by
  obtain ⟨p, e, s, m, args, below, meth, c⟩ := X
  intro hX H locs la hP hS hl
  subst hq
  exact lv_icmp_ge hX.1 hX.2.1 hd ht (fun h => kt h hX H locs la hP hS hl) (fun h => kf h hX H locs la hP hS hl)
theorem u_topi {x : Int32} (y : Int32) (e : x = y) (hk : Uw l X f n mc ms cc nL own G nw Y T kc ks pc ls (.int y :: st)) : Uw l X f n mc ms cc nL own G nw Y T kc ks pc ls (.int x :: st) := by
  rw [e]; exact hk
theorem u_Tw (T2 : va_W) (e : T = T2) (hk : Uw l X f n mc ms cc nL own G nw Y T2 kc ks pc ls st) : Uw l X f n mc ms cc nL own G nw Y T kc ks pc ls st := by
  rw [e]; exact hk
theorem u_objInit {idx a : Nat} (hlink : Cond.methodLink own idx objectInit ∈ BIG) (hd : decode cc pc = .ok (.invokespecial idx, 3)) (hf : 1 ≤ f) (hr : (st.map fun v => v.category).sum + 12 ≤ n) (q : Nat) (hq : pc + 3 = q) (hk : Uw l X f n mc ms cc nL own G nw Y T kc ks q ls st) : Uw l X f n mc ms cc nL own G nw Y T kc ks pc ls (.ref a :: st) := by
  obtain ⟨p, e, s, m, args, below, meth, c⟩ := X
  intro hX H locs la hP hS hl
  subst hq
  refine W.objInit hX.1 hX.2.1 hX.2.2.2.1 (hX.2.2.2.2.1 _ hlink) (hX.2.2.2.2.1 _ qw_76) (hX.2.2.2.2.1 _ qw_77) rfl (by rw [hX.2.2.1]; exact hl.1) rfl hd hf (by show 2 * 0 + (st.map fun v => v.category).sum + 12 ≤ n; omega) ?_
  exact hk hX H locs la hP hS hl
theorem u_newI {k : Int32} {N : Nat} (hd : decode cc pc = .ok (.newarray .int, 2)) (hk : k = nI N) (hN : N ≤ 1000) (hc : kc + 1 ≤ mc) (hs : ks + N ≤ ms) (q : Nat) (hq : pc + 2 = q) (kk : ∀ a : Nat, Uw l X f n mc ms cc nL own G nw Y (T ++ [(a, ai (gcI G) N (fun _ => 0))]) (kc + 1) (ks + N) q ls (.ref a :: st)) : Uw l X f n mc ms cc nL own G nw Y T kc ks pc ls (.int k :: st) := by
  obtain ⟨p, e, s, m, args, below, meth, c⟩ := X
  intro hX H locs la hP hS hl
  subst hq
  subst hk
  refine va_newa (atype := .int) (ty := .int) (a0 := (N, .inl (fun _ => 0))) hX.1 hX.2.1 (hX.2.2.2.2.1 _ qo_114) rfl hX.2.2.2.2.2.1.1 hP.1 hP.2 hS hX.2.2.2.2.2.1.A (fun cA => rfl) (nI_pos (by omega)) (nI_clamp (by omega)) (by show N * 4 ≤ _; omega) hc hs hd (fun a cA H1 hK1 hP1 hD1 hS1 => ?_)
  rw [ty_same 0 hX.2.2.2.2.2.1 rfl hK1, List.append_assoc] at hP1 hD1
  exact kk a hX H1 locs la ⟨hP1, hD1⟩ hS1 hl
theorem u_newB {k : Int32} {N : Nat} (hd : decode cc pc = .ok (.newarray .byte, 2)) (hk : k = nI N) (hN : N ≤ 1000) (hc : kc + 1 ≤ mc) (hs : ks + N ≤ ms) (q : Nat) (hq : pc + 2 = q) (kk : ∀ a : Nat, Uw l X f n mc ms cc nL own G nw Y (T ++ [(a, ai (gcB G) N (fun _ => 0))]) (kc + 1) (ks + N) q ls (.ref a :: st)) : Uw l X f n mc ms cc nL own G nw Y T kc ks pc ls (.int k :: st) := by
  obtain ⟨p, e, s, m, args, below, meth, c⟩ := X
  intro hX H locs la hP hS hl
  subst hq
  subst hk
  refine va_newa (atype := .byte) (ty := .byte) (a0 := (N, .inl (fun _ => 0))) hX.1 hX.2.1 (hX.2.2.2.2.1 _ qo_174) rfl hX.2.2.2.2.2.1.1 hP.1 hP.2 hS hX.2.2.2.2.2.1.A (fun cA => rfl) (nI_pos (by omega)) (nI_clamp (by omega)) (by show N * 1 ≤ _; omega) hc hs hd (fun a cA H1 hK1 hP1 hD1 hS1 => ?_)
  rw [ty_same 1 hX.2.2.2.2.2.1 rfl hK1, List.append_assoc] at hP1 hD1
  exact kk a hX H1 locs la ⟨hP1, hD1⟩ hS1 hl
theorem u_newJ {k : Int32} {N : Nat} (hd : decode cc pc = .ok (.newarray .long, 2)) (hk : k = nI N) (hN : N ≤ 1000) (hc : kc + 1 ≤ mc) (hs : ks + N ≤ ms) (q : Nat) (hq : pc + 2 = q) (kk : ∀ a : Nat, Uw l X f n mc ms cc nL own G nw Y (T ++ [(a, aj (gcJ G) N (fun _ => 0))]) (kc + 1) (ks + N) q ls (.ref a :: st)) : Uw l X f n mc ms cc nL own G nw Y T kc ks pc ls (.int k :: st) := by
  obtain ⟨p, e, s, m, args, below, meth, c⟩ := X
  intro hX H locs la hP hS hl
  subst hq
  subst hk
  refine va_newa (atype := .long) (ty := .long) (a0 := (N, .inr (.inl (fun _ => 0)))) hX.1 hX.2.1 (hX.2.2.2.2.1 _ qo_195) rfl hX.2.2.2.2.2.1.1 hP.1 hP.2 hS hX.2.2.2.2.2.1.A (fun cA => rfl) (nI_pos (by omega)) (nI_clamp (by omega)) (by show N * 8 ≤ _; omega) hc hs hd (fun a cA H1 hK1 hP1 hD1 hS1 => ?_)
  rw [ty_same 2 hX.2.2.2.2.2.1 rfl hK1, List.append_assoc] at hP1 hD1
  exact kk a hX H1 locs la ⟨hP1, hD1⟩ hS1 hl
theorem u_newE {k : Int32} {N index : Nat} (hd : decode cc pc = .ok (.anewarray index, 3)) (hlink : Cond.classLink own index "ShornYear$Ewe" ∈ BIG) (hk : k = nI N) (hN : N ≤ 1000) (hc : kc + 1 ≤ mc) (hs : ks + N ≤ ms) (q : Nat) (hq : pc + 3 = q) (kk : ∀ a : Nat, Uw l X f n mc ms cc nL own G nw Y (T ++ [(a, aq (gcE G) N (fun _ => none))]) (kc + 1) (ks + N) q ls (.ref a :: st)) : Uw l X f n mc ms cc nL own G nw Y T kc ks pc ls (.int k :: st) := by
  obtain ⟨p, e, s, m, args, below, meth, c⟩ := X
  intro hX H locs la hP hS hl
  subst hq
  subst hk
  refine va_newq (C := "ShornYear$Ewe") (N' := N) hX.1 hX.2.1 hX.2.2.2.1 (hX.2.2.2.2.1 _ hlink) hX.2.2.2.2.2.1.2.2.1.1 hX.2.2.2.2.2.1.1 hP.1 hP.2 hS hX.2.2.2.2.2.1.A (nI_pos (by omega)) (nI_clamp (by omega)) (by omega) hc hs hd (fun a cA H1 hK1 hP1 hD1 hS1 => ?_)
  rw [ty_same 3 hX.2.2.2.2.2.1 rfl hK1, List.append_assoc] at hP1 hD1
  exact kk a hX H1 locs la ⟨hP1, hD1⟩ hS1 hl
theorem u_newS {k : Int32} {N index : Nat} (hd : decode cc pc = .ok (.anewarray index, 3)) (hlink : Cond.classLink own index "ShornYear$Sheet" ∈ BIG) (hk : k = nI N) (hN : N ≤ 1000) (hc : kc + 1 ≤ mc) (hs : ks + N ≤ ms) (q : Nat) (hq : pc + 3 = q) (kk : ∀ a : Nat, Uw l X f n mc ms cc nL own G nw Y (T ++ [(a, aq (gcS G) N (fun _ => none))]) (kc + 1) (ks + N) q ls (.ref a :: st)) : Uw l X f n mc ms cc nL own G nw Y T kc ks pc ls (.int k :: st) := by
  obtain ⟨p, e, s, m, args, below, meth, c⟩ := X
  intro hX H locs la hP hS hl
  subst hq
  subst hk
  refine va_newq (C := "ShornYear$Sheet") (N' := N) hX.1 hX.2.1 hX.2.2.2.1 (hX.2.2.2.2.1 _ hlink) hX.2.2.2.2.2.1.2.2.1.2.1 hX.2.2.2.2.2.1.1 hP.1 hP.2 hS hX.2.2.2.2.2.1.A (nI_pos (by omega)) (nI_clamp (by omega)) (by omega) hc hs hd (fun a cA H1 hK1 hP1 hD1 hS1 => ?_)
  rw [ty_same 4 hX.2.2.2.2.2.1 rfl hK1, List.append_assoc] at hP1 hD1
  exact kk a hX H1 locs la ⟨hP1, hD1⟩ hS1 hl
theorem g4 (r : Nat → Nat) : (fun i => if i < 4 then some (r i) else none) = va_up (va_up (va_up (va_up (fun _ => none) 0 (some (r 0))) 1 (some (r 1))) 2 (some (r 2))) 3 (some (r 3)) := by
  funext i
  by_cases c0 : i = 3
  · rw [c0, va_us]
    rfl
  rw [va_up_n c0]
  by_cases c1 : i = 2
  · rw [c1, va_us]
    rfl
  rw [va_up_n c1]
  by_cases c2 : i = 1
  · rw [c2, va_us]
    rfl
  rw [va_up_n c2]
  by_cases c3 : i = 0
  · rw [c3, va_us]
    rfl
  rw [va_up_n c3, if_neg (by omega)]
theorem u_newG {index : Nat} (hd : decode cc pc = .ok (.multianewarray index 2, 4)) (hlink : Cond.classLink own index "[[I" ∈ BIG) (hc : kc + 5 ≤ mc) (hs : ks + 52 ≤ ms) (q : Nat) (hq : pc + 4 = q) (kk : ∀ (a : Nat) (r : Nat → Nat), Uw l X f n mc ms cc nL own G nw Y (T ++ [(a, aq (gcG G) 4 (va_up (va_up (va_up (va_up (fun _ => none) 0 (some (r 0))) 1 (some (r 1))) 2 (some (r 2))) 3 (some (r 3)))), (r 0, ai (gcI G) 12 (fun _ => 0)), (r 1, ai (gcI G) 12 (fun _ => 0)), (r 2, ai (gcI G) 12 (fun _ => 0)), (r 3, ai (gcI G) 12 (fun _ => 0))]) (kc + 1 + 4) (ks + 4 + 48) q ls (.ref a :: st)) : Uw l X f n mc ms cc nL own G nw Y T kc ks pc ls (.int 12 :: .int 4 :: st) := by
  obtain ⟨p, e, s, m, args, below, meth, c⟩ := X
  intro hX H locs la hP hS hl
  subst hq
  have hcy : s.vm.findClass (FieldType.array .int).toString = some (gcI G) := (hX.2.2.2.2.2.1.1.2 0 (gcI G, .int) rfl).2
  have hP0 : va_P (gD G) vwCl ((Y ++ T) ++ va_pl [] (fun _ => ai (gcI G) 0 (fun _ => 0))) H := by
    rw [show va_pl [] (fun _ => ai (gcI G) 0 (fun _ => 0)) = [] from rfl, List.append_nil]
    exact hP.1
  have hD0 : va_D (gA G) ((Y ++ T) ++ va_pl [] (fun _ => ai (gcI G) 0 (fun _ => 0))) := by
    rw [show va_pl [] (fun _ => ai (gcI G) 0 (fun _ => 0)) = [] from rfl, List.append_nil]
    exact hP.2
  refine va_mna (ty := .int) (cy := gcI G) (N' := 4) (K' := 12) (z := (12, .inl (fun _ => 0))) hX.1 hX.2.1 hX.2.2.2.1 (hX.2.2.2.2.1 _ hlink) hX.2.2.2.2.2.1.2.2.1.2.2 (hX.2.2.2.2.1 _ qo_114) hcy hX.2.2.2.2.2.1.1 hP0 hD0 hS hX.2.2.2.2.2.1.A (by decide) (by decide) (by decide) (by decide) (by decide) (by decide) (by decide) (by decide) (by decide) (by show kc + (1 + 4) ≤ mc; omega) (by show ks + (4 + 4 * 12) ≤ ms; omega) (fun cA => rfl) hd (fun a r cA H1 hr hnl hK1 hP1 hD1 hS1 => ?_)
  rw [ty_same 5 hX.2.2.2.2.2.1 rfl hK1] at hP1 hD1
  have eq : ((Y ++ T) ++ [(a, .inl (gcG G, 4, .inr (.inr (.inr (.inr (fun i => if i < 4 then some (r i) else none))))))]) ++ va_pl ([] ++ (List.range 4).map r) (vr_up (fun _ => ai (gcI G) 0 (fun _ => 0)) ((List.range 4).map r) (.inl (gcI G, 12, .inl (fun _ => 0)))) = Y ++ (T ++ [(a, aq (gcG G) 4 (fun i => if i < 4 then some (r i) else none)), (r 0, ai (gcI G) 12 (fun _ => 0)), (r 1, ai (gcI G) 12 (fun _ => 0)), (r 2, ai (gcI G) 12 (fun _ => 0)), (r 3, ai (gcI G) 12 (fun _ => 0))]) := by
    have e4 : (List.range 4).map r = [r 0, r 1, r 2, r 3] := rfl
    have ep : va_pl ([] ++ (List.range 4).map r) (vr_up (fun _ => ai (gcI G) 0 (fun _ => 0)) ((List.range 4).map r) (.inl (gcI G, 12, .inl (fun _ => 0)))) = [(r 0, ai (gcI G) 12 (fun _ => 0)), (r 1, ai (gcI G) 12 (fun _ => 0)), (r 2, ai (gcI G) 12 (fun _ => 0)), (r 3, ai (gcI G) 12 (fun _ => 0))] := by
      rw [e4]
      unfold va_pl
      simp only [List.nil_append, List.map_cons, List.map_nil]
      rw [vr_up_in (by simp), vr_up_in (by simp), vr_up_in (by simp), vr_up_in (by simp)]
      rfl
    rw [ep, List.append_assoc, List.append_assoc]
    rfl
  rw [eq, g4] at hP1 hD1
  exact kk a r hX H1 locs la ⟨hP1, hD1⟩ hS1 hl
theorem u_new {ci index N : Nat} {C : String} {TT : u_T} {fs : List Value} (hd : decode cc pc = .ok (.new index, 3)) (hin : ∀ w ∈ u_ws C TT N, w ∈ BIG) (ty : Nat → FieldType) (hty : ∀ k, k < N → parseFieldDescriptor (TT k).2.2.1 = some (ty k)) (hcl : Cond.classLink own index C ∈ BIG) (hinst : Cond.instantiable C N ∈ BIG) (hini : Cond.initialized C ∈ BIG) (hc : vwCl[ci]? = some (C, TT, N)) (hfs : ∀ j, j < N → defaultValue (ty j) = vp_V fs j) (hcc : kc + 1 ≤ mc) (hss : ks + N ≤ ms) (q : Nat) (hq : pc + 3 = q) (kk : ∀ a : Nat, Uw l X f n mc ms cc nL own G nw Y (T ++ [(a, ob ci fs)]) (kc + 1) (ks + N) q ls (.ref a :: st)) : Uw l X f n mc ms cc nL own G nw Y T kc ks pc ls st := by
  obtain ⟨p, e, s, m, args, below, meth, c⟩ := X
  intro hX H locs la hP hS hl
  subst hq
  refine va_new (D := gD G) hX.1 hX.2.1 hX.2.2.2.2.1 hin ty hty hX.2.2.2.1 (hX.2.2.2.2.1 _ hcl) (hX.2.2.2.2.1 _ hinst) (hX.2.2.2.2.1 _ hini) hX.2.2.2.2.2.1.1 hP.1 hP.2 hS hX.2.2.2.2.2.1.A hc hfs hcc hss hd (fun a H1 hP1 hD1 hS1 => ?_)
  rw [List.append_assoc] at hP1 hD1
  exact kk a hX H1 locs la ⟨hP1, hD1⟩ hS1 hl
theorem u_putF {ci index N k a : Nat} {C ref : String} {TT : u_T} {fs : List Value} {v : Value} {ty : FieldType} (i : Nat) (hd : decode cc pc = .ok (.putfield index, 3)) (hin : ∀ w ∈ u_ws C TT N, w ∈ BIG) (ty0 : Nat → FieldType) (hty : ∀ k, k < N → parseFieldDescriptor (TT k).2.2.1 = some (ty0 k)) (hnm : ∀ a, a < N → ∀ b, b < N → a ≠ b → (TT a).2.1 ≠ (TT b).2.1) (he : T[i]? = some (a, ob ci fs)) (hc : vwCl[ci]? = some (C, TT, N)) (hk : k < N) (hlink : Cond.fieldLink own index ref (TT k).2.1 (TT k).2.2.1 ∈ BIG) (href : (TT k).1 = ref) (hfin : (TT k).2.2.2 = true) (hdecl : (TT k).1 = own) (hdt : parseFieldDescriptor (TT k).2.2.1 = some ty) (hnar : narrow ty v = v) (hfit : fits ty v = true) (hlen : k < fs.length) (T2 : va_W) (h2 : T.set i (a, ob ci (fs.set k v)) = T2) (q : Nat) (hq : pc + 3 = q) (kk : Uw l X f n mc ms cc nL own G nw Y T2 kc ks q ls st) : Uw l X f n mc ms cc nL own G nw Y T kc ks pc ls (v :: .ref a :: st) := by
  obtain ⟨p, e, s, m, args, below, meth, c⟩ := X
  intro hX H locs la hP hS hl
  subst hq
  refine va_putF (D := gD G) (ref := ref) hX.1 hX.2.1 hX.2.2.2.2.1 hin ty0 hty hnm hX.2.2.2.1 hX.2.2.2.2.2.1.1 hP.1 hP.2 hS (Y.length + i) (getR he) hc k hk (hX.2.2.2.2.1 _ hlink) (by rw [href]; exact fun _ h => h) hfin hX.2.2.2.2.2.2.2.2 hdecl hdt hnar hfit hlen hd (fun H1 locs1 hP1 hD1 hS1 => ?_)
  rw [setR] at hP1 hD1
  have h3 : T.set i (a, .inr (ci, fs.set k v)) = T2 := h2
  rw [h3] at hP1 hD1
  exact kk hX H1 locs1 la ⟨hP1, hD1⟩ hS1 hl
theorem u_get {ci index N k a : Nat} {C ref : String} {TT : u_T} {fs : List Value} {v : Value} (i : Nat) (hd : decode cc pc = .ok (.getfield index, 3)) (hin : ∀ w ∈ u_ws C TT N, w ∈ BIG) (he : T[i]? = some (a, ob ci fs)) (hc : vwCl[ci]? = some (C, TT, N)) (hk : k < N) (hlink : Cond.fieldLink own index ref (TT k).2.1 (TT k).2.2.1 ∈ BIG) (href : (TT k).1 = ref) (hv : fs[k]? = some v) (q : Nat) (hq : pc + 3 = q) (kk : Uw l X f n mc ms cc nL own G nw Y T kc ks q ls (v :: st)) : Uw l X f n mc ms cc nL own G nw Y T kc ks pc ls (.ref a :: st) := by
  obtain ⟨p, e, s, m, args, below, meth, c⟩ := X
  intro hX H locs la hP hS hl
  subst hq
  exact va_get (D := gD G) hX.1 hX.2.1 hX.2.2.2.2.1 hin hX.2.2.2.1 hX.2.2.2.2.2.1.1 hP.1 (Y.length + i) (getR he) hc k hk (hX.2.2.2.2.1 _ hlink) (by rw [href]; exact fun _ h => h) hv hd (kk hX H locs la hP hS hl)
theorem u_iast {a N : Nat} {g : Nat → Int32} {x v : Int32} (i : Nat) (hd : decode cc pc = .ok (.iastore, 1)) (he : T[i]? = some (a, ai (gcI G) N g)) (j : Nat) (hx : x = nI j) (hj : j < N) (hN : N < 2 ^ 31) (T2 : va_W) (h2 : T.set i (a, ai (gcI G) N (upd g j v)) = T2) (q : Nat) (hq : pc + 1 = q) (kk : Uw l X f n mc ms cc nL own G nw Y T2 kc ks q ls st) : Uw l X f n mc ms cc nL own G nw Y T kc ks pc ls (.int v :: .int x :: .ref a :: st) := by
  obtain ⟨p, e, s, m, args, below, meth, c⟩ := X
  intro hX H locs la hP hS hl
  subst hq
  subst hx
  refine va_iast (D := gD G) hX.1 hX.2.1 hX.2.2.2.2.2.1.1 hP.1 hP.2 hS (Y.length + i) 0 (getR he) rfl (vp_in_nI hj hN) hd (fun H1 locs1 hP1 hD1 hS1 => ?_)
  rw [nI_clamp (Nat.lt_trans hj hN), setR] at hP1 hD1
  have h3 : T.set i (a, .inl (gcI G, N, .inl (upd g j v))) = T2 := h2
  rw [h3] at hP1 hD1
  exact kk hX H1 locs1 la ⟨hP1, hD1⟩ hS1 hl
theorem u_aast {a b N ci : Nat} {cA : ClassId} {g : Nat → Option Nat} {x : Int32} {r : vw_C} {vs : List Value} (t0 i k : Nat) (hd : decode cc pc = .ok (.aastore, 1)) (he : T[i]? = some (a, aq cA N g)) (ht : (gTy G)[t0]? = some (cA, .object r.1)) (hb : T[k]? = some (b, ob ci vs)) (hc : vwCl[ci]? = some r) (j : Nat) (hx : x = nI j) (hj : j < N) (hN : N < 2 ^ 31) (T2 : va_W) (h2 : T.set i (a, aq cA N (va_up g j (some b))) = T2) (q : Nat) (hq : pc + 1 = q) (kk : Uw l X f n mc ms cc nL own G nw Y T2 kc ks q ls st) : Uw l X f n mc ms cc nL own G nw Y T kc ks pc ls (.ref b :: .int x :: .ref a :: st) := by
  obtain ⟨p, e, s, m, args, below, meth, c⟩ := X
  intro hX H locs la hP hS hl
  subst hq
  subst hx
  refine va_astq (D := gD G) hX.1 hX.2.1 hX.2.2.2.2.2.1.1 hP.1 hP.2 hS (Y.length + i) t0 (Y.length + k) ci (getR he) ht (getR hb) hc (vp_in_nI hj hN) hd (fun H1 locs1 hP1 hD1 hS1 => ?_)
  rw [nI_clamp (Nat.lt_trans hj hN), setR] at hP1 hD1
  have h3 : T.set i (a, .inl (cA, N, .inr (.inr (.inr (.inr (va_up g j (some b))))))) = T2 := h2
  rw [h3] at hP1 hD1
  exact kk hX H1 locs1 la ⟨hP1, hD1⟩ hS1 hl
theorem mk_pre {s : State} {H : Heap} {locs : List Loc} {avs : List Value} {ws : va_W} (hK : Kc G s) (hw : Pw G ws H) (hS : va_S (gA G) s.heap H locs) : PreS s H (va_Pc avs (fun U => Pw G ws U.heap ∧ Kc G U)) avs :=
  ⟨fun a U g mk q => ⟨q.1, q.2.1, q.2.2.call g mk a⟩, fun U hU hW => ⟨rfl, by rw [hU]; exact hw, hK.next hW (by rw [hU]; exact hS.1)⟩⟩
theorem u_callI {y : MethodName} {cc2 : ByteArray} {nL2 f2 n2 mc2 ms2 index b : Nat} {ws2 : va_W} {nw2 : (Nat → Nat) → va_W} (hM : Mk l G y cc2 nL2 f2 n2 mc2 ms2 [.ref b] ws2 nw2) (hkal : Kal y cc2 nL2 none 0) (hy : y.name = "<init>") (hd : decode cc pc = .ok (.invokespecial index, 3)) (hlink : Cond.methodLink own index y ∈ BIG) (hins : Cond.instanceMethod y ∈ BIG) (hR : f2 + 1 ≤ f ∧ 8 + (nL2 + 11) + n2 ≤ n) (hr : (st.map fun v => v.category).sum ≤ 8) (hc : kc + mc2 ≤ mc) (hs : ks + ms2 ≤ ms) (hw : Y ++ T = ws2) (T2 : (Nat → Nat) → va_W) (hw2 : ∀ u, nw2 u = Y ++ T2 u) (q : Nat) (hq : pc + 3 = q) (kk : ∀ u : Nat → Nat, Uw l X f n mc ms cc nL own G nw Y (T2 u) (kc + mc2) (ks + ms2) q ls st) : Uw l X f n mc ms cc nL own G nw Y T kc ks pc ls (.ref b :: st) := by
  obtain ⟨p, e, s, m, args, below, meth, c⟩ := X
  intro hX H locs la hP hS hl
  subst hq
  rw [hw] at hP
  refine va_callv (va_runI (As := []) (rest := st) ⟨hX.1, hX.2.1, hX.2.2.1, hX.2.2.2.1, hX.2.2.2.2.1⟩ hM ⟨⟨rfl, rfl, hR.1, hR.2, pay_in hX.2.2.2.2.1 (big_in hkal.1), List.mem_cons_self, hX.2.2.2.2.1 _ hkal.1, hX.2.2.2.2.1 _ hkal.2.1, hkal.2.2.1, hkal.arity, hX.2.2.2.2.1 _ hlink⟩, hy, hX.2.2.2.2.1 _ hins⟩ (mk_pre hX.2.2.2.2.2.1 hP hS) rfl rfl hl.1 rfl (lv_room hr) hd ⟨hc, hs⟩) hS (fun _ _ h => h) (fun _ h => h) (fun u t H1 locs1 ht _ _ hB _ _ hS1 => ?_)
  rw [ht, hw2 u] at hB
  exact kk u hX H1 locs1 la hB hS1 hl
theorem u_callN {y : MethodName} {cc2 : ByteArray} {nL2 f2 n2 mc2 ms2 index b : Nat} {ws2 : va_W} {nw2 : (Nat → Nat) → va_W} (hM : Mk l G y cc2 nL2 f2 n2 mc2 ms2 [.ref b] ws2 nw2) (hkal : Kal y cc2 nL2 none 0) (hy : y.name = "<init>") (hd : decode cc pc = .ok (.invokespecial index, 3)) (hlink : ∀ U, Nc U → va_Nw (.methodLinkNest own index y RX4) U) (hins : Cond.instanceMethod y ∈ BIG) (hR : f2 + 1 ≤ f ∧ 8 + (nL2 + 11) + n2 ≤ n) (hr : (st.map fun v => v.category).sum ≤ 8) (hc : kc + mc2 ≤ mc) (hs : ks + ms2 ≤ ms) (hw : Y ++ T = ws2) (T2 : (Nat → Nat) → va_W) (hw2 : ∀ u, nw2 u = Y ++ T2 u) (q : Nat) (hq : pc + 3 = q) (kk : ∀ u : Nat → Nat, Uw l X f n mc ms cc nL own G nw Y (T2 u) (kc + mc2) (ks + ms2) q ls st) : Uw l X f n mc ms cc nL own G nw Y T kc ks pc ls (.ref b :: st) := by
  obtain ⟨p, e, s, m, args, below, meth, c⟩ := X
  intro hX H locs la hP hS hl
  subst hq
  rw [hw] at hP
  refine va_callv (va_runIN (As := []) (rest := st) ⟨hX.1, hX.2.1, hX.2.2.1, hX.2.2.2.1, hX.2.2.2.2.1⟩ hM ⟨⟨⟨rfl, rfl, hR.1, hR.2, pay_in hX.2.2.2.2.1 (big_in hkal.1), List.mem_cons_self⟩, hX.2.2.2.2.1 _ hkal.1, hX.2.2.2.2.1 _ hkal.2.1, hkal.2.2.1, hkal.arity, va_Nw.use rfl (hlink s hX.2.2.2.2.2.1.2.1)⟩, hy, hX.2.2.2.2.1 _ hins⟩ (mk_pre hX.2.2.2.2.2.1 hP hS) rfl rfl hl.1 rfl (lv_room hr) hd ⟨hc, hs⟩) hS (fun _ _ h => h) (fun _ h => h) (fun u t H1 locs1 ht _ _ hB _ _ hS1 => ?_)
  rw [ht, hw2 u] at hB
  exact kk u hX H1 locs1 la hB hS1 hl
theorem u_vret (u : Nat → Nat) (hd : decode cc pc = .ok (.return_, 1)) (hc : kc ≤ mc) (hs : ks ≤ ms) (hw : nw u = Y ++ T) : Uw l X f n mc ms cc nL own G nw Y T kc ks pc ls [] := by
  obtain ⟨p, e, s, m, args, below, meth, c⟩ := X
  intro hX H locs la hP hS hl
  refine W.widen (k := mc) (n := ms) hc hs ?_
  exact W.vret hX.1 hX.2.1 hX.2.2.2.2.2.2.2.1 (fun t ht hW => ⟨⟨u, rfl, trivial, by show Pw G (nw u) t.heap; rw [hw, ht]; exact hP⟩, hS.F ht⟩) hS.2.2 hd hX.2.2.2.2.2.2.1
end UROWS
