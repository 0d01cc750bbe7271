def shoL (G : Gl) (h : Nat) (u : Nat → Nat) : va_W := (h, ob 4 [.ref (u 0), .ref (u 26), .ref (u 52), .ref (u 78), .ref (u 80), .ref (u 82), .ref (u 83), .int 0]) :: (((((((((((parL G (u 0) (fun i => u (1 + i))) ++ parL G (u 26) (fun i => u (27 + i))) ++ parL G (u 52) (fun i => u (53 + i))) ++ eweL G (u 78) (u 79)) ++ tapL G (u 80) (u 81)) ++ [(u 82, aq (gcS G) 4 (va_up (va_up (va_up (va_up (fun _ => none) 0 (some (u 84))) 1 (some (u 86))) 2 (some (u 88))) 3 (some (u 90))))]) ++ [(u 83, ai (gcI G) 7 (fun _ => 0))]) ++ sheL G (u 84) (u 85)) ++ sheL G (u 86) (u 87)) ++ sheL G (u 88) (u 89)) ++ sheL G (u 90) (u 91))
set_option maxHeartbeats 4000000 in
set_option maxRecDepth 100000 in
theorem mk_X4 (l : Launch) (G : Gl) (Y : va_W) (h : Nat) : Mk l G yX4_init cX4_init 2 3 53 92 1018 [.ref h] (Y ++ [(h, ob 4 [.null, .null, .null, .null, .null, .null, .null, .int 0])]) (fun u => Y ++ shoL G h u) := by
  refine Mk.of (own := RX4) (by decide) rfl rfl rfl (Nat.le_of_ble_eq_true rfl) rfl (fun X => ?_)
  refine u_aload_n dX4_init_0 0 rfl 1 rfl ?_
  refine u_objInit qw_75 dX4_init_1 (by decide) (Nat.le_of_ble_eq_true rfl) 4 rfl ?_
  refine u_aload_n dX4_init_4 0 rfl 5 rfl ?_
  refine u_new (ci := 1) (N := 7) (C := RX1) (TT := TX1) (fs := [.int 0, .int 0, .null, .null, .null, .null, .null]) dX4_init_5 inB1 tyX1 tyX1_ok qw_78 qw_79 qw_58 rfl fs_X1 (by decide) (by decide) 8 rfl (fun p0 => ?_)
  refine u_dup dX4_init_8 rfl 9 rfl ?_
  refine u_callI (mk_X1 l G (Y ++ ([(h, ob 4 [.null, .null, .null, .null, .null, .null, .null, .int 0])])) p0) kal_X1_init rfl dX4_init_9 qw_80 qw_81 (by decide) (Nat.le_of_ble_eq_true rfl) (by decide) (by decide) (List.append_assoc _ _ _).symm (fun u => (h, ob 4 [.null, .null, .null, .null, .null, .null, .null, .int 0]) :: (parL G p0 u)) (fun u => List.append_assoc _ _ _) 12 rfl (fun v0 => ?_)
  refine u_putF (ci := 4) (N := 8) (k := 0) (C := RX4) (TT := TX4) (ty := .object "ShornYear$Parish") 0 dX4_init_12 inB4 tyX4 tyX4_ok nmX4 rfl rfl (by decide) qw_196 rfl rfl rfl rfl rfl rfl (Nat.le_of_ble_eq_true rfl) ((h, ob 4 [.ref p0, .null, .null, .null, .null, .null, .null, .int 0]) :: (parL G p0 v0)) rfl 15 rfl ?_
  refine u_aload_n dX4_init_15 0 rfl 16 rfl ?_
  refine u_new (ci := 1) (N := 7) (C := RX1) (TT := TX1) (fs := [.int 0, .int 0, .null, .null, .null, .null, .null]) dX4_init_16 inB1 tyX1 tyX1_ok qw_78 qw_79 qw_58 rfl fs_X1 (by decide) (by decide) 19 rfl (fun p1 => ?_)
  refine u_dup dX4_init_19 rfl 20 rfl ?_
  refine u_callI (mk_X1 l G (Y ++ ((h, ob 4 [.ref p0, .null, .null, .null, .null, .null, .null, .int 0]) :: (parL G p0 v0))) p1) kal_X1_init rfl dX4_init_20 qw_80 qw_81 (by decide) (Nat.le_of_ble_eq_true rfl) (by decide) (by decide) (List.append_assoc _ _ _).symm (fun u => (h, ob 4 [.ref p0, .null, .null, .null, .null, .null, .null, .int 0]) :: ((parL G p0 v0) ++ parL G p1 u)) (fun u => List.append_assoc _ _ _) 23 rfl (fun v1 => ?_)
  refine u_putF (ci := 4) (N := 8) (k := 1) (C := RX4) (TT := TX4) (ty := .object "ShornYear$Parish") 0 dX4_init_23 inB4 tyX4 tyX4_ok nmX4 rfl rfl (by decide) qw_197 rfl rfl rfl rfl rfl rfl (Nat.le_of_ble_eq_true rfl) ((h, ob 4 [.ref p0, .ref p1, .null, .null, .null, .null, .null, .int 0]) :: ((parL G p0 v0) ++ parL G p1 v1)) rfl 26 rfl ?_
  refine u_aload_n dX4_init_26 0 rfl 27 rfl ?_
  refine u_new (ci := 1) (N := 7) (C := RX1) (TT := TX1) (fs := [.int 0, .int 0, .null, .null, .null, .null, .null]) dX4_init_27 inB1 tyX1 tyX1_ok qw_78 qw_79 qw_58 rfl fs_X1 (by decide) (by decide) 30 rfl (fun p2 => ?_)
  refine u_dup dX4_init_30 rfl 31 rfl ?_
  refine u_callI (mk_X1 l G (Y ++ ((h, ob 4 [.ref p0, .ref p1, .null, .null, .null, .null, .null, .int 0]) :: ((parL G p0 v0) ++ parL G p1 v1))) p2) kal_X1_init rfl dX4_init_31 qw_80 qw_81 (by decide) (Nat.le_of_ble_eq_true rfl) (by decide) (by decide) (List.append_assoc _ _ _).symm (fun u => (h, ob 4 [.ref p0, .ref p1, .null, .null, .null, .null, .null, .int 0]) :: (((parL G p0 v0) ++ parL G p1 v1) ++ parL G p2 u)) (fun u => List.append_assoc _ _ _) 34 rfl (fun v2 => ?_)
  refine u_putF (ci := 4) (N := 8) (k := 2) (C := RX4) (TT := TX4) (ty := .object "ShornYear$Parish") 0 dX4_init_34 inB4 tyX4 tyX4_ok nmX4 rfl rfl (by decide) qw_198 rfl rfl rfl rfl rfl rfl (Nat.le_of_ble_eq_true rfl) ((h, ob 4 [.ref p0, .ref p1, .ref p2, .null, .null, .null, .null, .int 0]) :: (((parL G p0 v0) ++ parL G p1 v1) ++ parL G p2 v2)) rfl 37 rfl ?_
  refine u_aload_n dX4_init_37 0 rfl 38 rfl ?_
  refine u_new (ci := 0) (N := 4) (C := RX0) (TT := TX0) (fs := [.int 0, .int 0, .int 0, .null]) dX4_init_38 inB0 tyX0 tyX0_ok qw_146 qw_88 qw_59 rfl fs_X0 (by decide) (by decide) 41 rfl (fun lo => ?_)
  refine u_dup dX4_init_41 rfl 42 rfl ?_
  refine u_callN (mk_X0 l G (Y ++ ((h, ob 4 [.ref p0, .ref p1, .ref p2, .null, .null, .null, .null, .int 0]) :: (((parL G p0 v0) ++ parL G p1 v1) ++ parL G p2 v2))) lo) kal_X0_init rfl dX4_init_42 (fun _ hn => hn.2.1) qw_90 (by decide) (Nat.le_of_ble_eq_true rfl) (by decide) (by decide) (List.append_assoc _ _ _).symm (fun u => (h, ob 4 [.ref p0, .ref p1, .ref p2, .null, .null, .null, .null, .int 0]) :: ((((parL G p0 v0) ++ parL G p1 v1) ++ parL G p2 v2) ++ eweL G lo (u 0))) (fun u => List.append_assoc _ _ _) 45 rfl (fun v3 => ?_)
  refine u_putF (ci := 4) (N := 8) (k := 3) (C := RX4) (TT := TX4) (ty := .object "ShornYear$Ewe") 0 dX4_init_45 inB4 tyX4 tyX4_ok nmX4 rfl rfl (by decide) qw_199 rfl rfl rfl rfl rfl rfl (Nat.le_of_ble_eq_true rfl) ((h, ob 4 [.ref p0, .ref p1, .ref p2, .ref lo, .null, .null, .null, .int 0]) :: ((((parL G p0 v0) ++ parL G p1 v1) ++ parL G p2 v2) ++ eweL G lo (v3 0))) rfl 48 rfl ?_
  refine u_aload_n dX4_init_48 0 rfl 49 rfl ?_
  refine u_new (ci := 3) (N := 6) (C := RX3) (TT := TX3) (fs := [.null, .int 0, .int 0, .int 0, .int 0, .int 0]) dX4_init_49 inB3 tyX3 tyX3_ok qw_148 qw_149 qw_60 rfl fs_X3 (by decide) (by decide) 52 rfl (fun tp => ?_)
  refine u_dup dX4_init_52 rfl 53 rfl ?_
  refine u_callN (mk_X3 l G (Y ++ ((h, ob 4 [.ref p0, .ref p1, .ref p2, .ref lo, .null, .null, .null, .int 0]) :: ((((parL G p0 v0) ++ parL G p1 v1) ++ parL G p2 v2) ++ eweL G lo (v3 0)))) tp) kal_X3_init rfl dX4_init_53 (fun _ hn => hn.2.2.1) qw_151 (by decide) (Nat.le_of_ble_eq_true rfl) (by decide) (by decide) (List.append_assoc _ _ _).symm (fun u => (h, ob 4 [.ref p0, .ref p1, .ref p2, .ref lo, .null, .null, .null, .int 0]) :: (((((parL G p0 v0) ++ parL G p1 v1) ++ parL G p2 v2) ++ eweL G lo (v3 0)) ++ tapL G tp (u 0))) (fun u => List.append_assoc _ _ _) 56 rfl (fun v4 => ?_)
  refine u_putF (ci := 4) (N := 8) (k := 4) (C := RX4) (TT := TX4) (ty := .object "ShornYear$Tape") 0 dX4_init_56 inB4 tyX4 tyX4_ok nmX4 rfl rfl (by decide) qw_200 rfl rfl rfl rfl rfl rfl (Nat.le_of_ble_eq_true rfl) ((h, ob 4 [.ref p0, .ref p1, .ref p2, .ref lo, .ref tp, .null, .null, .int 0]) :: (((((parL G p0 v0) ++ parL G p1 v1) ++ parL G p2 v2) ++ eweL G lo (v3 0)) ++ tapL G tp (v4 0))) rfl 59 rfl ?_
  refine u_aload_n dX4_init_59 0 rfl 60 rfl ?_
  refine u_iconst dX4_init_60 4 rfl 61 rfl ?_
  refine u_newS (N := 4) dX4_init_61 qw_175 rfl (by decide) (by decide) (by decide) 64 rfl (fun sh => ?_)
  refine u_putF (ci := 4) (N := 8) (k := 5) (C := RX4) (TT := TX4) (ty := .array (.object "ShornYear$Sheet")) 0 dX4_init_64 inB4 tyX4 tyX4_ok nmX4 rfl rfl (by decide) qw_201 rfl rfl rfl rfl rfl rfl (Nat.le_of_ble_eq_true rfl) ((h, ob 4 [.ref p0, .ref p1, .ref p2, .ref lo, .ref tp, .ref sh, .null, .int 0]) :: ((((((parL G p0 v0) ++ parL G p1 v1) ++ parL G p2 v2) ++ eweL G lo (v3 0)) ++ tapL G tp (v4 0)) ++ [(sh, aq (gcS G) 4 (fun _ => none))])) rfl 67 rfl ?_
  refine u_aload_n dX4_init_67 0 rfl 68 rfl ?_
  refine u_bipush dX4_init_68 7 rfl 70 rfl ?_
  refine u_newI (N := 7) dX4_init_70 rfl (by decide) (by decide) (by decide) 72 rfl (fun td => ?_)
  refine u_putF (ci := 4) (N := 8) (k := 6) (C := RX4) (TT := TX4) (ty := .array .int) 0 dX4_init_72 inB4 tyX4 tyX4_ok nmX4 rfl rfl (by decide) qw_202 rfl rfl rfl rfl rfl rfl (Nat.le_of_ble_eq_true rfl) ((h, ob 4 [.ref p0, .ref p1, .ref p2, .ref lo, .ref tp, .ref sh, .ref td, .int 0]) :: (((((((parL G p0 v0) ++ parL G p1 v1) ++ parL G p2 v2) ++ eweL G lo (v3 0)) ++ tapL G tp (v4 0)) ++ [(sh, aq (gcS G) 4 (fun _ => none))]) ++ [(td, ai (gcI G) 7 (fun _ => 0))])) rfl 75 rfl ?_
  refine u_iconst dX4_init_75 0 rfl 76 rfl ?_
  refine u_istore_n dX4_init_76 1 rfl (by decide) [(1, .int 0), (0, .ref h)] rfl 77 rfl ?_
  refine u_iload_n dX4_init_77 0 rfl 78 rfl ?_
  refine u_iconst dX4_init_78 4 rfl 79 rfl ?_
  refine u_icmp_ge dX4_init_79 101 (by decide) 82 rfl (fun c => absurd c (by decide)) (fun _ => ?_)
  refine u_aload_n dX4_init_82 1 rfl 83 rfl ?_
  refine u_get (ci := 4) (N := 8) (k := 5) (C := RX4) (TT := TX4) 0 dX4_init_83 inB4 rfl rfl (by decide) qw_201 rfl rfl 86 rfl ?_
  refine u_iload_n dX4_init_86 0 rfl 87 rfl ?_
  refine u_new (ci := 2) (N := 3) (C := RX2) (TT := TX2) (fs := [.null, .int 0, .int 0]) dX4_init_87 inB2 tyX2 tyX2_ok qw_175 qw_177 qw_61 rfl fs_X2 (by decide) (by decide) 90 rfl (fun s0 => ?_)
  refine u_dup dX4_init_90 rfl 91 rfl ?_
  refine u_callN (mk_X2 l G (Y ++ ((h, ob 4 [.ref p0, .ref p1, .ref p2, .ref lo, .ref tp, .ref sh, .ref td, .int 0]) :: (((((((parL G p0 v0) ++ parL G p1 v1) ++ parL G p2 v2) ++ eweL G lo (v3 0)) ++ tapL G tp (v4 0)) ++ [(sh, aq (gcS G) 4 (fun _ => none))]) ++ [(td, ai (gcI G) 7 (fun _ => 0))]))) s0) kal_X2_init rfl dX4_init_91 (fun _ hn => hn.2.2.2) qw_179 (by decide) (Nat.le_of_ble_eq_true rfl) (by decide) (by decide) (List.append_assoc _ _ _).symm (fun u => (h, ob 4 [.ref p0, .ref p1, .ref p2, .ref lo, .ref tp, .ref sh, .ref td, .int 0]) :: ((((((((parL G p0 v0) ++ parL G p1 v1) ++ parL G p2 v2) ++ eweL G lo (v3 0)) ++ tapL G tp (v4 0)) ++ [(sh, aq (gcS G) 4 (fun _ => none))]) ++ [(td, ai (gcI G) 7 (fun _ => 0))]) ++ sheL G s0 (u 0))) (fun u => List.append_assoc _ _ _) 94 rfl (fun x0 => ?_)
  refine u_aast (ci := 2) (r := (RX2, TX2, 3)) 4 83 85 dX4_init_94 rfl rfl rfl rfl 0 rfl (by decide) (by decide) ((h, ob 4 [.ref p0, .ref p1, .ref p2, .ref lo, .ref tp, .ref sh, .ref td, .int 0]) :: ((((((((parL G p0 v0) ++ parL G p1 v1) ++ parL G p2 v2) ++ eweL G lo (v3 0)) ++ tapL G tp (v4 0)) ++ [(sh, aq (gcS G) 4 (va_up (fun _ => none) 0 (some s0)))]) ++ [(td, ai (gcI G) 7 (fun _ => 0))]) ++ sheL G s0 (x0 0))) rfl 95 rfl ?_
  refine u_iinc dX4_init_95 0 rfl 1 rfl (by decide) [(1, .int 1), (0, .ref h)] rfl 98 rfl ?_
  refine u_goto dX4_init_98 77 (by decide) ?_
  refine u_iload_n dX4_init_77 0 rfl 78 rfl ?_
  refine u_iconst dX4_init_78 4 rfl 79 rfl ?_
  refine u_icmp_ge dX4_init_79 101 (by decide) 82 rfl (fun c => absurd c (by decide)) (fun _ => ?_)
  refine u_aload_n dX4_init_82 1 rfl 83 rfl ?_
  refine u_get (ci := 4) (N := 8) (k := 5) (C := RX4) (TT := TX4) 0 dX4_init_83 inB4 rfl rfl (by decide) qw_201 rfl rfl 86 rfl ?_
  refine u_iload_n dX4_init_86 0 rfl 87 rfl ?_
  refine u_new (ci := 2) (N := 3) (C := RX2) (TT := TX2) (fs := [.null, .int 0, .int 0]) dX4_init_87 inB2 tyX2 tyX2_ok qw_175 qw_177 qw_61 rfl fs_X2 (by decide) (by decide) 90 rfl (fun s1 => ?_)
  refine u_dup dX4_init_90 rfl 91 rfl ?_
  refine u_callN (mk_X2 l G (Y ++ ((h, ob 4 [.ref p0, .ref p1, .ref p2, .ref lo, .ref tp, .ref sh, .ref td, .int 0]) :: ((((((((parL G p0 v0) ++ parL G p1 v1) ++ parL G p2 v2) ++ eweL G lo (v3 0)) ++ tapL G tp (v4 0)) ++ [(sh, aq (gcS G) 4 (va_up (fun _ => none) 0 (some s0)))]) ++ [(td, ai (gcI G) 7 (fun _ => 0))]) ++ sheL G s0 (x0 0)))) s1) kal_X2_init rfl dX4_init_91 (fun _ hn => hn.2.2.2) qw_179 (by decide) (Nat.le_of_ble_eq_true rfl) (by decide) (by decide) (List.append_assoc _ _ _).symm (fun u => (h, ob 4 [.ref p0, .ref p1, .ref p2, .ref lo, .ref tp, .ref sh, .ref td, .int 0]) :: (((((((((parL G p0 v0) ++ parL G p1 v1) ++ parL G p2 v2) ++ eweL G lo (v3 0)) ++ tapL G tp (v4 0)) ++ [(sh, aq (gcS G) 4 (va_up (fun _ => none) 0 (some s0)))]) ++ [(td, ai (gcI G) 7 (fun _ => 0))]) ++ sheL G s0 (x0 0)) ++ sheL G s1 (u 0))) (fun u => List.append_assoc _ _ _) 94 rfl (fun x1 => ?_)
  refine u_aast (ci := 2) (r := (RX2, TX2, 3)) 4 83 87 dX4_init_94 rfl rfl rfl rfl 1 rfl (by decide) (by decide) ((h, ob 4 [.ref p0, .ref p1, .ref p2, .ref lo, .ref tp, .ref sh, .ref td, .int 0]) :: (((((((((parL G p0 v0) ++ parL G p1 v1) ++ parL G p2 v2) ++ eweL G lo (v3 0)) ++ tapL G tp (v4 0)) ++ [(sh, aq (gcS G) 4 (va_up (va_up (fun _ => none) 0 (some s0)) 1 (some s1)))]) ++ [(td, ai (gcI G) 7 (fun _ => 0))]) ++ sheL G s0 (x0 0)) ++ sheL G s1 (x1 0))) rfl 95 rfl ?_
  refine u_iinc dX4_init_95 0 rfl 2 rfl (by decide) [(1, .int 2), (0, .ref h)] rfl 98 rfl ?_
  refine u_goto dX4_init_98 77 (by decide) ?_
  refine u_iload_n dX4_init_77 0 rfl 78 rfl ?_
  refine u_iconst dX4_init_78 4 rfl 79 rfl ?_
  refine u_icmp_ge dX4_init_79 101 (by decide) 82 rfl (fun c => absurd c (by decide)) (fun _ => ?_)
  refine u_aload_n dX4_init_82 1 rfl 83 rfl ?_
  refine u_get (ci := 4) (N := 8) (k := 5) (C := RX4) (TT := TX4) 0 dX4_init_83 inB4 rfl rfl (by decide) qw_201 rfl rfl 86 rfl ?_
  refine u_iload_n dX4_init_86 0 rfl 87 rfl ?_
  refine u_new (ci := 2) (N := 3) (C := RX2) (TT := TX2) (fs := [.null, .int 0, .int 0]) dX4_init_87 inB2 tyX2 tyX2_ok qw_175 qw_177 qw_61 rfl fs_X2 (by decide) (by decide) 90 rfl (fun s2 => ?_)
  refine u_dup dX4_init_90 rfl 91 rfl ?_
  refine u_callN (mk_X2 l G (Y ++ ((h, ob 4 [.ref p0, .ref p1, .ref p2, .ref lo, .ref tp, .ref sh, .ref td, .int 0]) :: (((((((((parL G p0 v0) ++ parL G p1 v1) ++ parL G p2 v2) ++ eweL G lo (v3 0)) ++ tapL G tp (v4 0)) ++ [(sh, aq (gcS G) 4 (va_up (va_up (fun _ => none) 0 (some s0)) 1 (some s1)))]) ++ [(td, ai (gcI G) 7 (fun _ => 0))]) ++ sheL G s0 (x0 0)) ++ sheL G s1 (x1 0)))) s2) kal_X2_init rfl dX4_init_91 (fun _ hn => hn.2.2.2) qw_179 (by decide) (Nat.le_of_ble_eq_true rfl) (by decide) (by decide) (List.append_assoc _ _ _).symm (fun u => (h, ob 4 [.ref p0, .ref p1, .ref p2, .ref lo, .ref tp, .ref sh, .ref td, .int 0]) :: ((((((((((parL G p0 v0) ++ parL G p1 v1) ++ parL G p2 v2) ++ eweL G lo (v3 0)) ++ tapL G tp (v4 0)) ++ [(sh, aq (gcS G) 4 (va_up (va_up (fun _ => none) 0 (some s0)) 1 (some s1)))]) ++ [(td, ai (gcI G) 7 (fun _ => 0))]) ++ sheL G s0 (x0 0)) ++ sheL G s1 (x1 0)) ++ sheL G s2 (u 0))) (fun u => List.append_assoc _ _ _) 94 rfl (fun x2 => ?_)
  refine u_aast (ci := 2) (r := (RX2, TX2, 3)) 4 83 89 dX4_init_94 rfl rfl rfl rfl 2 rfl (by decide) (by decide) ((h, ob 4 [.ref p0, .ref p1, .ref p2, .ref lo, .ref tp, .ref sh, .ref td, .int 0]) :: ((((((((((parL G p0 v0) ++ parL G p1 v1) ++ parL G p2 v2) ++ eweL G lo (v3 0)) ++ tapL G tp (v4 0)) ++ [(sh, aq (gcS G) 4 (va_up (va_up (va_up (fun _ => none) 0 (some s0)) 1 (some s1)) 2 (some s2)))]) ++ [(td, ai (gcI G) 7 (fun _ => 0))]) ++ sheL G s0 (x0 0)) ++ sheL G s1 (x1 0)) ++ sheL G s2 (x2 0))) rfl 95 rfl ?_
  refine u_iinc dX4_init_95 0 rfl 3 rfl (by decide) [(1, .int 3), (0, .ref h)] rfl 98 rfl ?_
  refine u_goto dX4_init_98 77 (by decide) ?_
  refine u_iload_n dX4_init_77 0 rfl 78 rfl ?_
  refine u_iconst dX4_init_78 4 rfl 79 rfl ?_
  refine u_icmp_ge dX4_init_79 101 (by decide) 82 rfl (fun c => absurd c (by decide)) (fun _ => ?_)
  refine u_aload_n dX4_init_82 1 rfl 83 rfl ?_
  refine u_get (ci := 4) (N := 8) (k := 5) (C := RX4) (TT := TX4) 0 dX4_init_83 inB4 rfl rfl (by decide) qw_201 rfl rfl 86 rfl ?_
  refine u_iload_n dX4_init_86 0 rfl 87 rfl ?_
  refine u_new (ci := 2) (N := 3) (C := RX2) (TT := TX2) (fs := [.null, .int 0, .int 0]) dX4_init_87 inB2 tyX2 tyX2_ok qw_175 qw_177 qw_61 rfl fs_X2 (by decide) (by decide) 90 rfl (fun s3 => ?_)
  refine u_dup dX4_init_90 rfl 91 rfl ?_
  refine u_callN (mk_X2 l G (Y ++ ((h, ob 4 [.ref p0, .ref p1, .ref p2, .ref lo, .ref tp, .ref sh, .ref td, .int 0]) :: ((((((((((parL G p0 v0) ++ parL G p1 v1) ++ parL G p2 v2) ++ eweL G lo (v3 0)) ++ tapL G tp (v4 0)) ++ [(sh, aq (gcS G) 4 (va_up (va_up (va_up (fun _ => none) 0 (some s0)) 1 (some s1)) 2 (some s2)))]) ++ [(td, ai (gcI G) 7 (fun _ => 0))]) ++ sheL G s0 (x0 0)) ++ sheL G s1 (x1 0)) ++ sheL G s2 (x2 0)))) s3) kal_X2_init rfl dX4_init_91 (fun _ hn => hn.2.2.2) qw_179 (by decide) (Nat.le_of_ble_eq_true rfl) (by decide) (by decide) (List.append_assoc _ _ _).symm (fun u => (h, ob 4 [.ref p0, .ref p1, .ref p2, .ref lo, .ref tp, .ref sh, .ref td, .int 0]) :: (((((((((((parL G p0 v0) ++ parL G p1 v1) ++ parL G p2 v2) ++ eweL G lo (v3 0)) ++ tapL G tp (v4 0)) ++ [(sh, aq (gcS G) 4 (va_up (va_up (va_up (fun _ => none) 0 (some s0)) 1 (some s1)) 2 (some s2)))]) ++ [(td, ai (gcI G) 7 (fun _ => 0))]) ++ sheL G s0 (x0 0)) ++ sheL G s1 (x1 0)) ++ sheL G s2 (x2 0)) ++ sheL G s3 (u 0))) (fun u => List.append_assoc _ _ _) 94 rfl (fun x3 => ?_)
  refine u_aast (ci := 2) (r := (RX2, TX2, 3)) 4 83 91 dX4_init_94 rfl rfl rfl rfl 3 rfl (by decide) (by decide) ((h, ob 4 [.ref p0, .ref p1, .ref p2, .ref lo, .ref tp, .ref sh, .ref td, .int 0]) :: (((((((((((parL G p0 v0) ++ parL G p1 v1) ++ parL G p2 v2) ++ eweL G lo (v3 0)) ++ tapL G tp (v4 0)) ++ [(sh, aq (gcS G) 4 (va_up (va_up (va_up (va_up (fun _ => none) 0 (some s0)) 1 (some s1)) 2 (some s2)) 3 (some s3)))]) ++ [(td, ai (gcI G) 7 (fun _ => 0))]) ++ sheL G s0 (x0 0)) ++ sheL G s1 (x1 0)) ++ sheL G s2 (x2 0)) ++ sheL G s3 (x3 0))) rfl 95 rfl ?_
  refine u_iinc dX4_init_95 0 rfl 4 rfl (by decide) [(1, .int 4), (0, .ref h)] rfl 98 rfl ?_
  refine u_goto dX4_init_98 77 (by decide) ?_
  refine u_iload_n dX4_init_77 0 rfl 78 rfl ?_
  refine u_iconst dX4_init_78 4 rfl 79 rfl ?_
  refine u_icmp_ge dX4_init_79 101 (by decide) 82 rfl (fun _ => ?_) (fun c => absurd (by decide) c)
  exact u_vret (fun i => if i < 26 then (if i = 0 then p0 else v0 (i - 1)) else if i < 52 then (if i = 26 then p1 else v1 (i - 27)) else if i < 78 then (if i = 52 then p2 else v2 (i - 53)) else [lo, v3 0, tp, v4 0, sh, td, s0, x0 0, s1, x1 0, s2, x2 0, s3, x3 0].getD (i - 78) 0) dX4_init_101 (by decide) (by decide) rfl
def wS : Nat → Nat → Int32
  | 0 => fun _ => 0
  | i + 1 => upd (wS i) (2 + i) (w0 i)
def modL (G : Gl) (h : Nat) (u : Nat → Nat) : va_W := [(h, ob 5 [.ref (u 0), .ref (u 1), .ref (u 2), .ref (u 3), .ref (u 4), .int 0, .ref (u 5), .int 0, .int 0, .int 0, .int 0, .int 0, .ref (u 6), .ref (u 7), .ref (u 8), .ref (u 9)]), ((u 0), ai (gcI G) 198 (wS 12)), ((u 1), ai (gcI G) 198 (fun _ => 0)), ((u 2), ai (gcI G) 198 (fun _ => 0)), ((u 3), ai (gcI G) 198 (fun _ => 0)), ((u 4), ai (gcI G) 7 (fun _ => 0)), ((u 5), ai (gcI G) 120 (fun _ => 0)), ((u 6), ai (gcI G) 4 (fun _ => 0)), ((u 7), ai (gcI G) 4 (fun _ => 0)), ((u 8), aj (gcJ G) 160 (fun _ => 0)), ((u 9), aj (gcJ G) 40 (fun _ => 0))]
set_option maxHeartbeats 1000000 in
set_option maxRecDepth 8000 in
theorem lp_mod (l : Launch) {G : Gl} {X : VX} {f n mc ms kc ks h a0 : Nat} {nw : (Nat → Nat) → va_W} {Y R : va_W} {v0 v1 v2 v3 v4 v5 v6 v7 v8 v9 v10 v11 v12 v13 v14 : Value} (hk : Uw l X f n mc ms cX5_init 2 RX5 G nw Y ((h, ob 5 [.ref a0, v0, v1, v2, v3, v4, v5, v6, v7, v8, v9, v10, v11, v12, v13, v14]) :: (a0, ai (gcI G) 198 (wS 12)) :: R) kc ks 119 [(1, .int (nI 12)), (0, .ref h)] []) : ∀ k i : Nat, i + k = 12 → Uw l X f n mc ms cX5_init 2 RX5 G nw Y ((h, ob 5 [.ref a0, v0, v1, v2, v3, v4, v5, v6, v7, v8, v9, v10, v11, v12, v13, v14]) :: (a0, ai (gcI G) 198 (wS i)) :: R) kc ks 89 [(1, .int (nI i)), (0, .ref h)] [] := by
  intro k
  induction k with
  | zero =>
    intro i hi
    rw [show i = 12 by omega]
    refine u_iload_n dX5_init_89 0 rfl 90 rfl ?_
    refine u_bipush dX5_init_90 12 rfl 92 rfl ?_
    exact u_icmp_ge dX5_init_92 119 (by decide) 95 rfl (fun _ => hk) (fun c => absurd (by decide) c)
  | succ k ih =>
    intro i hi
    refine u_iload_n dX5_init_89 0 rfl 90 rfl ?_
    refine u_bipush dX5_init_90 12 rfl 92 rfl ?_
    refine u_icmp_ge dX5_init_92 119 (by decide) 95 rfl (fun c => absurd c (nI_ge (b := 12) (by omega) (by decide))) (fun _ => ?_)
    refine u_aload_n dX5_init_95 1 rfl 96 rfl ?_
    refine u_get (ci := 5) (N := 16) (k := 0) (C := RX5) (TT := TX5) 0 dX5_init_96 inB5 rfl rfl (by decide) qw_686 rfl rfl 99 rfl ?_
    refine u_iconst dX5_init_99 2 rfl 100 rfl ?_
    refine u_iload_n dX5_init_100 0 rfl 101 rfl ?_
    refine u_iadd dX5_init_101 102 rfl ?_
    refine u_topi (nI (2 + i)) (nI_add 2 i) ?_
    refine u_bipush dX5_init_102 7 rfl 104 rfl ?_
    refine u_iload_n dX5_init_104 0 rfl 105 rfl ?_
    refine u_imul dX5_init_105 106 rfl ?_
    refine u_bipush dX5_init_106 25 rfl 108 rfl ?_
    refine u_irem dX5_init_108 (by decide) 109 rfl ?_
    refine u_bipush dX5_init_109 12 rfl 111 rfl ?_
    refine u_isub dX5_init_111 112 rfl ?_
    refine u_iast 1 dX5_init_112 rfl (2 + i) rfl (by omega) (by decide) ((h, ob 5 [.ref a0, v0, v1, v2, v3, v4, v5, v6, v7, v8, v9, v10, v11, v12, v13, v14]) :: (a0, ai (gcI G) 198 (wS (i + 1))) :: R) rfl 113 rfl ?_
    refine u_iinc dX5_init_113 0 rfl (nI (i + 1)) (nI_1 _) (by decide) [(1, .int (nI (i + 1))), (0, .ref h)] rfl 116 rfl ?_
    refine u_goto dX5_init_116 89 (by decide) ?_
    exact ih (i + 1) (by omega)
set_option maxHeartbeats 1000000 in
set_option maxRecDepth 8000 in
theorem mk_X5 (l : Launch) (G : Gl) (Y : va_W) (h : Nat) : Mk l G yX5_init cX5_init 2 1 12 10 1127 [.ref h] (Y ++ [(h, ob 5 [.null, .null, .null, .null, .null, .int 0, .null, .int 0, .int 0, .int 0, .int 0, .int 0, .null, .null, .null, .null])]) (fun u => Y ++ modL G h u) := by
  refine Mk.of (own := RX5) (by decide) rfl rfl rfl (Nat.le_of_ble_eq_true rfl) rfl (fun X => ?_)
  refine u_aload_n dX5_init_0 0 rfl 1 rfl ?_
  refine u_objInit qw_685 dX5_init_1 (by decide) (Nat.le_of_ble_eq_true rfl) 4 rfl ?_
  refine u_aload_n dX5_init_4 0 rfl 5 rfl ?_
  refine u_sipush dX5_init_5 198 rfl 8 rfl ?_
  refine u_newI (N := 198) dX5_init_8 rfl (by decide) (by decide) (by decide) 10 rfl (fun a0 => ?_)
  refine u_putF (ci := 5) (N := 16) (k := 0) (C := RX5) (TT := TX5) (ty := .array .int) 0 dX5_init_10 inB5 tyX5 tyX5_ok nmX5 rfl rfl (by decide) qw_686 rfl rfl rfl rfl rfl rfl (Nat.le_of_ble_eq_true rfl) ([(h, ob 5 [.ref a0, .null, .null, .null, .null, .int 0, .null, .int 0, .int 0, .int 0, .int 0, .int 0, .null, .null, .null, .null]), (a0, ai (gcI G) 198 (fun _ => 0))]) rfl 13 rfl ?_
  refine u_aload_n dX5_init_13 0 rfl 14 rfl ?_
  refine u_sipush dX5_init_14 198 rfl 17 rfl ?_
  refine u_newI (N := 198) dX5_init_17 rfl (by decide) (by decide) (by decide) 19 rfl (fun a1 => ?_)
  refine u_putF (ci := 5) (N := 16) (k := 1) (C := RX5) (TT := TX5) (ty := .array .int) 0 dX5_init_19 inB5 tyX5 tyX5_ok nmX5 rfl rfl (by decide) qw_687 rfl rfl rfl rfl rfl rfl (Nat.le_of_ble_eq_true rfl) ([(h, ob 5 [.ref a0, .ref a1, .null, .null, .null, .int 0, .null, .int 0, .int 0, .int 0, .int 0, .int 0, .null, .null, .null, .null]), (a0, ai (gcI G) 198 (fun _ => 0)), (a1, ai (gcI G) 198 (fun _ => 0))]) rfl 22 rfl ?_
  refine u_aload_n dX5_init_22 0 rfl 23 rfl ?_
  refine u_sipush dX5_init_23 198 rfl 26 rfl ?_
  refine u_newI (N := 198) dX5_init_26 rfl (by decide) (by decide) (by decide) 28 rfl (fun a2 => ?_)
  refine u_putF (ci := 5) (N := 16) (k := 2) (C := RX5) (TT := TX5) (ty := .array .int) 0 dX5_init_28 inB5 tyX5 tyX5_ok nmX5 rfl rfl (by decide) qw_688 rfl rfl rfl rfl rfl rfl (Nat.le_of_ble_eq_true rfl) ([(h, ob 5 [.ref a0, .ref a1, .ref a2, .null, .null, .int 0, .null, .int 0, .int 0, .int 0, .int 0, .int 0, .null, .null, .null, .null]), (a0, ai (gcI G) 198 (fun _ => 0)), (a1, ai (gcI G) 198 (fun _ => 0)), (a2, ai (gcI G) 198 (fun _ => 0))]) rfl 31 rfl ?_
  refine u_aload_n dX5_init_31 0 rfl 32 rfl ?_
  refine u_sipush dX5_init_32 198 rfl 35 rfl ?_
  refine u_newI (N := 198) dX5_init_35 rfl (by decide) (by decide) (by decide) 37 rfl (fun a3 => ?_)
  refine u_putF (ci := 5) (N := 16) (k := 3) (C := RX5) (TT := TX5) (ty := .array .int) 0 dX5_init_37 inB5 tyX5 tyX5_ok nmX5 rfl rfl (by decide) qw_689 rfl rfl rfl rfl rfl rfl (Nat.le_of_ble_eq_true rfl) ([(h, ob 5 [.ref a0, .ref a1, .ref a2, .ref a3, .null, .int 0, .null, .int 0, .int 0, .int 0, .int 0, .int 0, .null, .null, .null, .null]), (a0, ai (gcI G) 198 (fun _ => 0)), (a1, ai (gcI G) 198 (fun _ => 0)), (a2, ai (gcI G) 198 (fun _ => 0)), (a3, ai (gcI G) 198 (fun _ => 0))]) rfl 40 rfl ?_
  refine u_aload_n dX5_init_40 0 rfl 41 rfl ?_
  refine u_bipush dX5_init_41 7 rfl 43 rfl ?_
  refine u_newI (N := 7) dX5_init_43 rfl (by decide) (by decide) (by decide) 45 rfl (fun a4 => ?_)
  refine u_putF (ci := 5) (N := 16) (k := 4) (C := RX5) (TT := TX5) (ty := .array .int) 0 dX5_init_45 inB5 tyX5 tyX5_ok nmX5 rfl rfl (by decide) qw_690 rfl rfl rfl rfl rfl rfl (Nat.le_of_ble_eq_true rfl) ([(h, ob 5 [.ref a0, .ref a1, .ref a2, .ref a3, .ref a4, .int 0, .null, .int 0, .int 0, .int 0, .int 0, .int 0, .null, .null, .null, .null]), (a0, ai (gcI G) 198 (fun _ => 0)), (a1, ai (gcI G) 198 (fun _ => 0)), (a2, ai (gcI G) 198 (fun _ => 0)), (a3, ai (gcI G) 198 (fun _ => 0)), (a4, ai (gcI G) 7 (fun _ => 0))]) rfl 48 rfl ?_
  refine u_aload_n dX5_init_48 0 rfl 49 rfl ?_
  refine u_bipush dX5_init_49 120 rfl 51 rfl ?_
  refine u_newI (N := 120) dX5_init_51 rfl (by decide) (by decide) (by decide) 53 rfl (fun a5 => ?_)
  refine u_putF (ci := 5) (N := 16) (k := 6) (C := RX5) (TT := TX5) (ty := .array .int) 0 dX5_init_53 inB5 tyX5 tyX5_ok nmX5 rfl rfl (by decide) qw_692 rfl rfl rfl rfl rfl rfl (Nat.le_of_ble_eq_true rfl) ([(h, ob 5 [.ref a0, .ref a1, .ref a2, .ref a3, .ref a4, .int 0, .ref a5, .int 0, .int 0, .int 0, .int 0, .int 0, .null, .null, .null, .null]), (a0, ai (gcI G) 198 (fun _ => 0)), (a1, ai (gcI G) 198 (fun _ => 0)), (a2, ai (gcI G) 198 (fun _ => 0)), (a3, ai (gcI G) 198 (fun _ => 0)), (a4, ai (gcI G) 7 (fun _ => 0)), (a5, ai (gcI G) 120 (fun _ => 0))]) rfl 56 rfl ?_
  refine u_aload_n dX5_init_56 0 rfl 57 rfl ?_
  refine u_iconst dX5_init_57 4 rfl 58 rfl ?_
  refine u_newI (N := 4) dX5_init_58 rfl (by decide) (by decide) (by decide) 60 rfl (fun a6 => ?_)
  refine u_putF (ci := 5) (N := 16) (k := 12) (C := RX5) (TT := TX5) (ty := .array .int) 0 dX5_init_60 inB5 tyX5 tyX5_ok nmX5 rfl rfl (by decide) qw_698 rfl rfl rfl rfl rfl rfl (Nat.le_of_ble_eq_true rfl) ([(h, ob 5 [.ref a0, .ref a1, .ref a2, .ref a3, .ref a4, .int 0, .ref a5, .int 0, .int 0, .int 0, .int 0, .int 0, .ref a6, .null, .null, .null]), (a0, ai (gcI G) 198 (fun _ => 0)), (a1, ai (gcI G) 198 (fun _ => 0)), (a2, ai (gcI G) 198 (fun _ => 0)), (a3, ai (gcI G) 198 (fun _ => 0)), (a4, ai (gcI G) 7 (fun _ => 0)), (a5, ai (gcI G) 120 (fun _ => 0)), (a6, ai (gcI G) 4 (fun _ => 0))]) rfl 63 rfl ?_
  refine u_aload_n dX5_init_63 0 rfl 64 rfl ?_
  refine u_iconst dX5_init_64 4 rfl 65 rfl ?_
  refine u_newI (N := 4) dX5_init_65 rfl (by decide) (by decide) (by decide) 67 rfl (fun a7 => ?_)
  refine u_putF (ci := 5) (N := 16) (k := 13) (C := RX5) (TT := TX5) (ty := .array .int) 0 dX5_init_67 inB5 tyX5 tyX5_ok nmX5 rfl rfl (by decide) qw_699 rfl rfl rfl rfl rfl rfl (Nat.le_of_ble_eq_true rfl) ([(h, ob 5 [.ref a0, .ref a1, .ref a2, .ref a3, .ref a4, .int 0, .ref a5, .int 0, .int 0, .int 0, .int 0, .int 0, .ref a6, .ref a7, .null, .null]), (a0, ai (gcI G) 198 (fun _ => 0)), (a1, ai (gcI G) 198 (fun _ => 0)), (a2, ai (gcI G) 198 (fun _ => 0)), (a3, ai (gcI G) 198 (fun _ => 0)), (a4, ai (gcI G) 7 (fun _ => 0)), (a5, ai (gcI G) 120 (fun _ => 0)), (a6, ai (gcI G) 4 (fun _ => 0)), (a7, ai (gcI G) 4 (fun _ => 0))]) rfl 70 rfl ?_
  refine u_aload_n dX5_init_70 0 rfl 71 rfl ?_
  refine u_sipush dX5_init_71 160 rfl 74 rfl ?_
  refine u_newJ (N := 160) dX5_init_74 rfl (by decide) (by decide) (by decide) 76 rfl (fun a8 => ?_)
  refine u_putF (ci := 5) (N := 16) (k := 14) (C := RX5) (TT := TX5) (ty := .array .long) 0 dX5_init_76 inB5 tyX5 tyX5_ok nmX5 rfl rfl (by decide) qw_700 rfl rfl rfl rfl rfl rfl (Nat.le_of_ble_eq_true rfl) ([(h, ob 5 [.ref a0, .ref a1, .ref a2, .ref a3, .ref a4, .int 0, .ref a5, .int 0, .int 0, .int 0, .int 0, .int 0, .ref a6, .ref a7, .ref a8, .null]), (a0, ai (gcI G) 198 (fun _ => 0)), (a1, ai (gcI G) 198 (fun _ => 0)), (a2, ai (gcI G) 198 (fun _ => 0)), (a3, ai (gcI G) 198 (fun _ => 0)), (a4, ai (gcI G) 7 (fun _ => 0)), (a5, ai (gcI G) 120 (fun _ => 0)), (a6, ai (gcI G) 4 (fun _ => 0)), (a7, ai (gcI G) 4 (fun _ => 0)), (a8, aj (gcJ G) 160 (fun _ => 0))]) rfl 79 rfl ?_
  refine u_aload_n dX5_init_79 0 rfl 80 rfl ?_
  refine u_bipush dX5_init_80 40 rfl 82 rfl ?_
  refine u_newJ (N := 40) dX5_init_82 rfl (by decide) (by decide) (by decide) 84 rfl (fun a9 => ?_)
  refine u_putF (ci := 5) (N := 16) (k := 15) (C := RX5) (TT := TX5) (ty := .array .long) 0 dX5_init_84 inB5 tyX5 tyX5_ok nmX5 rfl rfl (by decide) qw_701 rfl rfl rfl rfl rfl rfl (Nat.le_of_ble_eq_true rfl) ([(h, ob 5 [.ref a0, .ref a1, .ref a2, .ref a3, .ref a4, .int 0, .ref a5, .int 0, .int 0, .int 0, .int 0, .int 0, .ref a6, .ref a7, .ref a8, .ref a9]), (a0, ai (gcI G) 198 (fun _ => 0)), (a1, ai (gcI G) 198 (fun _ => 0)), (a2, ai (gcI G) 198 (fun _ => 0)), (a3, ai (gcI G) 198 (fun _ => 0)), (a4, ai (gcI G) 7 (fun _ => 0)), (a5, ai (gcI G) 120 (fun _ => 0)), (a6, ai (gcI G) 4 (fun _ => 0)), (a7, ai (gcI G) 4 (fun _ => 0)), (a8, aj (gcJ G) 160 (fun _ => 0)), (a9, aj (gcJ G) 40 (fun _ => 0))]) rfl 87 rfl ?_
  refine u_iconst dX5_init_87 0 rfl 88 rfl ?_
  refine u_istore_n dX5_init_88 1 rfl (by decide) [(1, .int 0), (0, .ref h)] rfl 89 rfl ?_
  refine lp_mod l ?_ 12 0 rfl
  exact u_vret (fun i => [a0, a1, a2, a3, a4, a5, a6, a7, a8, a9].getD i 0) dX5_init_119 (by decide) (by decide) rfl
