theorem dX5_init_0 : decode cX5_init 0 = .ok (.aload_n 0, 1) := by decide +kernel
theorem dX5_init_1 : decode cX5_init 1 = .ok (.invokespecial 1, 3) := by decide +kernel
theorem dX5_init_4 : decode cX5_init 4 = .ok (.aload_n 0, 1) := by decide +kernel
theorem dX5_init_5 : decode cX5_init 5 = .ok (.sipush 198, 3) := by decide +kernel
theorem dX5_init_8 : decode cX5_init 8 = .ok (.newarray .int, 2) := by decide +kernel
theorem dX5_init_10 : decode cX5_init 10 = .ok (.putfield 7, 3) := by decide +kernel
theorem dX5_init_13 : decode cX5_init 13 = .ok (.aload_n 0, 1) := by decide +kernel
theorem dX5_init_14 : decode cX5_init 14 = .ok (.sipush 198, 3) := by decide +kernel
theorem dX5_init_17 : decode cX5_init 17 = .ok (.newarray .int, 2) := by decide +kernel
theorem dX5_init_19 : decode cX5_init 19 = .ok (.putfield 13, 3) := by decide +kernel
theorem dX5_init_22 : decode cX5_init 22 = .ok (.aload_n 0, 1) := by decide +kernel
theorem dX5_init_23 : decode cX5_init 23 = .ok (.sipush 198, 3) := by decide +kernel
theorem dX5_init_26 : decode cX5_init 26 = .ok (.newarray .int, 2) := by decide +kernel
theorem dX5_init_28 : decode cX5_init 28 = .ok (.putfield 16, 3) := by decide +kernel
theorem dX5_init_31 : decode cX5_init 31 = .ok (.aload_n 0, 1) := by decide +kernel
theorem dX5_init_32 : decode cX5_init 32 = .ok (.sipush 198, 3) := by decide +kernel
theorem dX5_init_35 : decode cX5_init 35 = .ok (.newarray .int, 2) := by decide +kernel
theorem dX5_init_37 : decode cX5_init 37 = .ok (.putfield 19, 3) := by decide +kernel
theorem dX5_init_40 : decode cX5_init 40 = .ok (.aload_n 0, 1) := by decide +kernel
theorem dX5_init_41 : decode cX5_init 41 = .ok (.bipush 7, 2) := by decide +kernel
theorem dX5_init_43 : decode cX5_init 43 = .ok (.newarray .int, 2) := by decide +kernel
theorem dX5_init_45 : decode cX5_init 45 = .ok (.putfield 22, 3) := by decide +kernel
theorem dX5_init_48 : decode cX5_init 48 = .ok (.aload_n 0, 1) := by decide +kernel
theorem dX5_init_49 : decode cX5_init 49 = .ok (.bipush 120, 2) := by decide +kernel
theorem dX5_init_51 : decode cX5_init 51 = .ok (.newarray .int, 2) := by decide +kernel
theorem dX5_init_53 : decode cX5_init 53 = .ok (.putfield 25, 3) := by decide +kernel
theorem dX5_init_56 : decode cX5_init 56 = .ok (.aload_n 0, 1) := by decide +kernel
theorem dX5_init_57 : decode cX5_init 57 = .ok (.iconst 4, 1) := by decide +kernel
theorem dX5_init_58 : decode cX5_init 58 = .ok (.newarray .int, 2) := by decide +kernel
theorem dX5_init_60 : decode cX5_init 60 = .ok (.putfield 28, 3) := by decide +kernel
theorem dX5_init_63 : decode cX5_init 63 = .ok (.aload_n 0, 1) := by decide +kernel
theorem dX5_init_64 : decode cX5_init 64 = .ok (.iconst 4, 1) := by decide +kernel
theorem dX5_init_65 : decode cX5_init 65 = .ok (.newarray .int, 2) := by decide +kernel
theorem dX5_init_67 : decode cX5_init 67 = .ok (.putfield 31, 3) := by decide +kernel
theorem dX5_init_70 : decode cX5_init 70 = .ok (.aload_n 0, 1) := by decide +kernel
theorem dX5_init_71 : decode cX5_init 71 = .ok (.sipush 160, 3) := by decide +kernel
theorem dX5_init_74 : decode cX5_init 74 = .ok (.newarray .long, 2) := by decide +kernel
theorem dX5_init_76 : decode cX5_init 76 = .ok (.putfield 34, 3) := by decide +kernel
theorem dX5_init_79 : decode cX5_init 79 = .ok (.aload_n 0, 1) := by decide +kernel
theorem dX5_init_80 : decode cX5_init 80 = .ok (.bipush 40, 2) := by decide +kernel
theorem dX5_init_82 : decode cX5_init 82 = .ok (.newarray .long, 2) := by decide +kernel
theorem dX5_init_84 : decode cX5_init 84 = .ok (.putfield 38, 3) := by decide +kernel
theorem dX5_init_87 : decode cX5_init 87 = .ok (.iconst 0, 1) := by decide +kernel
theorem dX5_init_88 : decode cX5_init 88 = .ok (.istore_n 1, 1) := by decide +kernel
theorem dX5_init_89 : decode cX5_init 89 = .ok (.iload_n 1, 1) := by decide +kernel
theorem dX5_init_90 : decode cX5_init 90 = .ok (.bipush 12, 2) := by decide +kernel
theorem dX5_init_92 : decode cX5_init 92 = .ok (.if_icmp .ge 27, 3) := by decide +kernel
theorem dX5_init_95 : decode cX5_init 95 = .ok (.aload_n 0, 1) := by decide +kernel
theorem dX5_init_96 : decode cX5_init 96 = .ok (.getfield 7, 3) := by decide +kernel
theorem dX5_init_99 : decode cX5_init 99 = .ok (.iconst 2, 1) := by decide +kernel
theorem dX5_init_100 : decode cX5_init 100 = .ok (.iload_n 1, 1) := by decide +kernel
theorem dX5_init_101 : decode cX5_init 101 = .ok (.iadd, 1) := by decide +kernel
theorem dX5_init_102 : decode cX5_init 102 = .ok (.bipush 7, 2) := by decide +kernel
theorem dX5_init_104 : decode cX5_init 104 = .ok (.iload_n 1, 1) := by decide +kernel
theorem dX5_init_105 : decode cX5_init 105 = .ok (.imul, 1) := by decide +kernel
theorem dX5_init_106 : decode cX5_init 106 = .ok (.bipush 25, 2) := by decide +kernel
theorem dX5_init_108 : decode cX5_init 108 = .ok (.irem, 1) := by decide +kernel
theorem dX5_init_109 : decode cX5_init 109 = .ok (.bipush 12, 2) := by decide +kernel
theorem dX5_init_111 : decode cX5_init 111 = .ok (.isub, 1) := by decide +kernel
theorem dX5_init_112 : decode cX5_init 112 = .ok (.iastore, 1) := by decide +kernel
theorem dX5_init_113 : decode cX5_init 113 = .ok (.iinc 1 1, 3) := by decide +kernel
theorem dX5_init_116 : decode cX5_init 116 = .ok (.goto (-27), 3) := by decide +kernel
theorem dX5_init_119 : decode cX5_init 119 = .ok (.return_, 1) := by decide +kernel
theorem dX5_in_0 : decode cX5_in 0 = .ok (.lload_n 0, 1) := by decide +kernel
theorem dX5_in_1 : decode cX5_in 1 = .ok (.lload_n 2, 1) := by decide +kernel
theorem dX5_in_2 : decode cX5_in 2 = .ok (.lcmp, 1) := by decide +kernel
theorem dX5_in_3 : decode cX5_in 3 = .ok (.ifCond .lt 14, 3) := by decide +kernel
theorem dX5_in_6 : decode cX5_in 6 = .ok (.lload_n 0, 1) := by decide +kernel
theorem dX5_in_7 : decode cX5_in 7 = .ok (.lload 4, 2) := by decide +kernel
theorem dX5_in_9 : decode cX5_in 9 = .ok (.lcmp, 1) := by decide +kernel
theorem dX5_in_10 : decode cX5_in 10 = .ok (.ifCond .gt 7, 3) := by decide +kernel
theorem dX5_in_13 : decode cX5_in 13 = .ok (.iconst 1, 1) := by decide +kernel
theorem dX5_in_14 : decode cX5_in 14 = .ok (.goto 4, 3) := by decide +kernel
theorem dX5_in_17 : decode cX5_in 17 = .ok (.iconst 0, 1) := by decide +kernel
theorem dX5_in_18 : decode cX5_in 18 = .ok (.ireturn, 1) := by decide +kernel
theorem dX5_finds_0 : decode cX5_finds 0 = .ok (.aload_n 0, 1) := by decide +kernel
theorem dX5_finds_1 : decode cX5_finds 1 = .ok (.getfield 22, 3) := by decide +kernel
theorem dX5_finds_4 : decode cX5_finds 4 = .ok (.ldc 41, 2) := by decide +kernel
theorem dX5_finds_6 : decode cX5_finds 6 = .ok (.iload_n 1, 1) := by decide +kernel
theorem dX5_finds_7 : decode cX5_finds 7 = .ok (.isub, 1) := by decide +kernel
theorem dX5_finds_8 : decode cX5_finds 8 = .ok (.dup2, 1) := by decide +kernel
theorem dX5_finds_9 : decode cX5_finds 9 = .ok (.iaload, 1) := by decide +kernel
theorem dX5_finds_10 : decode cX5_finds 10 = .ok (.iconst 1, 1) := by decide +kernel
theorem dX5_finds_11 : decode cX5_finds 11 = .ok (.iadd, 1) := by decide +kernel
theorem dX5_finds_12 : decode cX5_finds 12 = .ok (.iastore, 1) := by decide +kernel
theorem dX5_finds_13 : decode cX5_finds 13 = .ok (.iload_n 1, 1) := by decide +kernel
theorem dX5_finds_14 : decode cX5_finds 14 = .ok (.ireturn, 1) := by decide +kernel
theorem dX5_saves_0 : decode cX5_saves 0 = .ok (.iconst 0, 1) := by decide +kernel
theorem dX5_saves_1 : decode cX5_saves 1 = .ok (.istore_n 1, 1) := by decide +kernel
theorem dX5_saves_2 : decode cX5_saves 2 = .ok (.iload_n 1, 1) := by decide +kernel
theorem dX5_saves_3 : decode cX5_saves 3 = .ok (.sipush 198, 3) := by decide +kernel
theorem dX5_saves_6 : decode cX5_saves 6 = .ok (.if_icmp .ge 21, 3) := by decide +kernel
theorem dX5_saves_9 : decode cX5_saves 9 = .ok (.aload_n 0, 1) := by decide +kernel
theorem dX5_saves_10 : decode cX5_saves 10 = .ok (.getfield 16, 3) := by decide +kernel
theorem dX5_saves_13 : decode cX5_saves 13 = .ok (.iload_n 1, 1) := by decide +kernel
theorem dX5_saves_14 : decode cX5_saves 14 = .ok (.aload_n 0, 1) := by decide +kernel
theorem dX5_saves_15 : decode cX5_saves 15 = .ok (.getfield 7, 3) := by decide +kernel
theorem dX5_saves_18 : decode cX5_saves 18 = .ok (.iload_n 1, 1) := by decide +kernel
theorem dX5_saves_19 : decode cX5_saves 19 = .ok (.iaload, 1) := by decide +kernel
theorem dX5_saves_20 : decode cX5_saves 20 = .ok (.iastore, 1) := by decide +kernel
theorem dX5_saves_21 : decode cX5_saves 21 = .ok (.iinc 1 1, 3) := by decide +kernel
theorem dX5_saves_24 : decode cX5_saves 24 = .ok (.goto (-22), 3) := by decide +kernel
theorem dX5_saves_27 : decode cX5_saves 27 = .ok (.return_, 1) := by decide +kernel
theorem dX5_putsBack_0 : decode cX5_putsBack 0 = .ok (.iconst 0, 1) := by decide +kernel
theorem dX5_putsBack_1 : decode cX5_putsBack 1 = .ok (.istore_n 1, 1) := by decide +kernel
theorem dX5_putsBack_2 : decode cX5_putsBack 2 = .ok (.iload_n 1, 1) := by decide +kernel
theorem dX5_putsBack_3 : decode cX5_putsBack 3 = .ok (.sipush 198, 3) := by decide +kernel
theorem dX5_putsBack_6 : decode cX5_putsBack 6 = .ok (.if_icmp .ge 21, 3) := by decide +kernel
theorem dX5_putsBack_9 : decode cX5_putsBack 9 = .ok (.aload_n 0, 1) := by decide +kernel
theorem dX5_putsBack_10 : decode cX5_putsBack 10 = .ok (.getfield 7, 3) := by decide +kernel
theorem dX5_putsBack_13 : decode cX5_putsBack 13 = .ok (.iload_n 1, 1) := by decide +kernel
theorem dX5_putsBack_14 : decode cX5_putsBack 14 = .ok (.aload_n 0, 1) := by decide +kernel
theorem dX5_putsBack_15 : decode cX5_putsBack 15 = .ok (.getfield 16, 3) := by decide +kernel
theorem dX5_putsBack_18 : decode cX5_putsBack 18 = .ok (.iload_n 1, 1) := by decide +kernel
theorem dX5_putsBack_19 : decode cX5_putsBack 19 = .ok (.iaload, 1) := by decide +kernel
theorem dX5_putsBack_20 : decode cX5_putsBack 20 = .ok (.iastore, 1) := by decide +kernel
theorem dX5_putsBack_21 : decode cX5_putsBack 21 = .ok (.iinc 1 1, 3) := by decide +kernel
theorem dX5_putsBack_24 : decode cX5_putsBack 24 = .ok (.goto (-22), 3) := by decide +kernel
theorem dX5_putsBack_27 : decode cX5_putsBack 27 = .ok (.return_, 1) := by decide +kernel
theorem dX5_laysAside_0 : decode cX5_laysAside 0 = .ok (.iconst 0, 1) := by decide +kernel
theorem dX5_laysAside_1 : decode cX5_laysAside 1 = .ok (.istore_n 1, 1) := by decide +kernel
theorem dX5_laysAside_2 : decode cX5_laysAside 2 = .ok (.iload_n 1, 1) := by decide +kernel
theorem dX5_laysAside_3 : decode cX5_laysAside 3 = .ok (.sipush 198, 3) := by decide +kernel
theorem dX5_laysAside_6 : decode cX5_laysAside 6 = .ok (.if_icmp .ge 21, 3) := by decide +kernel
theorem dX5_laysAside_9 : decode cX5_laysAside 9 = .ok (.aload_n 0, 1) := by decide +kernel
theorem dX5_laysAside_10 : decode cX5_laysAside 10 = .ok (.getfield 19, 3) := by decide +kernel
theorem dX5_laysAside_13 : decode cX5_laysAside 13 = .ok (.iload_n 1, 1) := by decide +kernel
theorem dX5_laysAside_14 : decode cX5_laysAside 14 = .ok (.aload_n 0, 1) := by decide +kernel
theorem dX5_laysAside_15 : decode cX5_laysAside 15 = .ok (.getfield 7, 3) := by decide +kernel
theorem dX5_laysAside_18 : decode cX5_laysAside 18 = .ok (.iload_n 1, 1) := by decide +kernel
theorem dX5_laysAside_19 : decode cX5_laysAside 19 = .ok (.iaload, 1) := by decide +kernel
theorem dX5_laysAside_20 : decode cX5_laysAside 20 = .ok (.iastore, 1) := by decide +kernel
theorem dX5_laysAside_21 : decode cX5_laysAside 21 = .ok (.iinc 1 1, 3) := by decide +kernel
theorem dX5_laysAside_24 : decode cX5_laysAside 24 = .ok (.goto (-22), 3) := by decide +kernel
theorem dX5_laysAside_27 : decode cX5_laysAside 27 = .ok (.return_, 1) := by decide +kernel
theorem dX5_takesBack_0 : decode cX5_takesBack 0 = .ok (.iconst 0, 1) := by decide +kernel
theorem dX5_takesBack_1 : decode cX5_takesBack 1 = .ok (.istore_n 2, 1) := by decide +kernel
theorem dX5_takesBack_2 : decode cX5_takesBack 2 = .ok (.iload_n 2, 1) := by decide +kernel
theorem dX5_takesBack_3 : decode cX5_takesBack 3 = .ok (.sipush 198, 3) := by decide +kernel
theorem dX5_takesBack_6 : decode cX5_takesBack 6 = .ok (.if_icmp .ge 21, 3) := by decide +kernel
theorem dX5_takesBack_9 : decode cX5_takesBack 9 = .ok (.aload_n 0, 1) := by decide +kernel
theorem dX5_takesBack_10 : decode cX5_takesBack 10 = .ok (.getfield 7, 3) := by decide +kernel
theorem dX5_takesBack_13 : decode cX5_takesBack 13 = .ok (.iload_n 2, 1) := by decide +kernel
theorem dX5_takesBack_14 : decode cX5_takesBack 14 = .ok (.aload_n 0, 1) := by decide +kernel
theorem dX5_takesBack_15 : decode cX5_takesBack 15 = .ok (.getfield 19, 3) := by decide +kernel
theorem dX5_takesBack_18 : decode cX5_takesBack 18 = .ok (.iload_n 2, 1) := by decide +kernel
theorem dX5_takesBack_19 : decode cX5_takesBack 19 = .ok (.iaload, 1) := by decide +kernel
theorem dX5_takesBack_20 : decode cX5_takesBack 20 = .ok (.iastore, 1) := by decide +kernel
theorem dX5_takesBack_21 : decode cX5_takesBack 21 = .ok (.iinc 2 1, 3) := by decide +kernel
theorem dX5_takesBack_24 : decode cX5_takesBack 24 = .ok (.goto (-22), 3) := by decide +kernel
theorem dX5_takesBack_27 : decode cX5_takesBack 27 = .ok (.iload_n 1, 1) := by decide +kernel
theorem dX5_takesBack_28 : decode cX5_takesBack 28 = .ok (.ireturn, 1) := by decide +kernel
theorem dX5_becomes_0 : decode cX5_becomes 0 = .ok (.aload_n 0, 1) := by decide +kernel
theorem dX5_becomes_1 : decode cX5_becomes 1 = .ok (.getfield 7, 3) := by decide +kernel
theorem dX5_becomes_4 : decode cX5_becomes 4 = .ok (.iload_n 1, 1) := by decide +kernel
theorem dX5_becomes_5 : decode cX5_becomes 5 = .ok (.iaload, 1) := by decide +kernel
theorem dX5_becomes_6 : decode cX5_becomes 6 = .ok (.istore_n 3, 1) := by decide +kernel
theorem dX5_becomes_7 : decode cX5_becomes 7 = .ok (.aload_n 0, 1) := by decide +kernel
theorem dX5_becomes_8 : decode cX5_becomes 8 = .ok (.getfield 7, 3) := by decide +kernel
theorem dX5_becomes_11 : decode cX5_becomes 11 = .ok (.iload_n 1, 1) := by decide +kernel
theorem dX5_becomes_12 : decode cX5_becomes 12 = .ok (.iload_n 2, 1) := by decide +kernel
theorem dX5_becomes_13 : decode cX5_becomes 13 = .ok (.iastore, 1) := by decide +kernel
theorem dX5_becomes_14 : decode cX5_becomes 14 = .ok (.iload_n 3, 1) := by decide +kernel
theorem dX5_becomes_15 : decode cX5_becomes 15 = .ok (.ireturn, 1) := by decide +kernel
theorem dX5_spot_0 : decode cX5_spot 0 = .ok (.bipush 38, 2) := by decide +kernel
theorem dX5_spot_2 : decode cX5_spot 2 = .ok (.bipush 14, 2) := by decide +kernel
theorem dX5_spot_4 : decode cX5_spot 4 = .ok (.iload_n 0, 1) := by decide +kernel
theorem dX5_spot_5 : decode cX5_spot 5 = .ok (.imul, 1) := by decide +kernel
theorem dX5_spot_6 : decode cX5_spot 6 = .ok (.iadd, 1) := by decide +kernel
theorem dX5_spot_7 : decode cX5_spot 7 = .ok (.iload_n 1, 1) := by decide +kernel
theorem dX5_spot_8 : decode cX5_spot 8 = .ok (.iadd, 1) := by decide +kernel
theorem dX5_spot_9 : decode cX5_spot 9 = .ok (.ireturn, 1) := by decide +kernel
theorem dX5_coatSpot_0 : decode cX5_coatSpot 0 = .ok (.sipush 150, 3) := by decide +kernel
theorem dX5_coatSpot_3 : decode cX5_coatSpot 3 = .ok (.bipush 12, 2) := by decide +kernel
theorem dX5_coatSpot_5 : decode cX5_coatSpot 5 = .ok (.iload_n 0, 1) := by decide +kernel
theorem dX5_coatSpot_6 : decode cX5_coatSpot 6 = .ok (.imul, 1) := by decide +kernel
theorem dX5_coatSpot_7 : decode cX5_coatSpot 7 = .ok (.iadd, 1) := by decide +kernel
theorem dX5_coatSpot_8 : decode cX5_coatSpot 8 = .ok (.iload_n 1, 1) := by decide +kernel
theorem dX5_coatSpot_9 : decode cX5_coatSpot 9 = .ok (.iadd, 1) := by decide +kernel
theorem dX5_coatSpot_10 : decode cX5_coatSpot 10 = .ok (.ireturn, 1) := by decide +kernel
theorem dX5_its_0 : decode cX5_its 0 = .ok (.aload_n 0, 1) := by decide +kernel
theorem dX5_its_1 : decode cX5_its 1 = .ok (.getfield 7, 3) := by decide +kernel
theorem dX5_its_4 : decode cX5_its 4 = .ok (.iload_n 1, 1) := by decide +kernel
theorem dX5_its_5 : decode cX5_its 5 = .ok (.iload_n 2, 1) := by decide +kernel
theorem dX5_its_6 : decode cX5_its 6 = .ok (.invokestatic 42, 3) := by decide +kernel
theorem dX5_its_9 : decode cX5_its 9 = .ok (.iaload, 1) := by decide +kernel
theorem dX5_its_10 : decode cX5_its 10 = .ok (.ireturn, 1) := by decide +kernel
theorem dX5_isEwe_0 : decode cX5_isEwe 0 = .ok (.iload_n 1, 1) := by decide +kernel
theorem dX5_isEwe_1 : decode cX5_isEwe 1 = .ok (.i2l, 1) := by decide +kernel
theorem dX5_isEwe_2 : decode cX5_isEwe 2 = .ok (.lconst 0, 1) := by decide +kernel
theorem dX5_isEwe_3 : decode cX5_isEwe 3 = .ok (.aload_n 0, 1) := by decide +kernel
theorem dX5_isEwe_4 : decode cX5_isEwe 4 = .ok (.getfield 7, 3) := by decide +kernel
theorem dX5_isEwe_7 : decode cX5_isEwe 7 = .ok (.iconst 1, 1) := by decide +kernel
theorem dX5_isEwe_8 : decode cX5_isEwe 8 = .ok (.iaload, 1) := by decide +kernel
theorem dX5_isEwe_9 : decode cX5_isEwe 9 = .ok (.iconst 1, 1) := by decide +kernel
theorem dX5_isEwe_10 : decode cX5_isEwe 10 = .ok (.isub, 1) := by decide +kernel
theorem dX5_isEwe_11 : decode cX5_isEwe 11 = .ok (.i2l, 1) := by decide +kernel
theorem dX5_isEwe_12 : decode cX5_isEwe 12 = .ok (.invokestatic 46, 3) := by decide +kernel
theorem dX5_isEwe_15 : decode cX5_isEwe 15 = .ok (.ireturn, 1) := by decide +kernel
theorem dX5_isMonth_0 : decode cX5_isMonth 0 = .ok (.iload_n 0, 1) := by decide +kernel
theorem dX5_isMonth_1 : decode cX5_isMonth 1 = .ok (.i2l, 1) := by decide +kernel
theorem dX5_isMonth_2 : decode cX5_isMonth 2 = .ok (.lconst 0, 1) := by decide +kernel
theorem dX5_isMonth_3 : decode cX5_isMonth 3 = .ok (.ldc2_w 50, 3) := by decide +kernel
theorem dX5_isMonth_6 : decode cX5_isMonth 6 = .ok (.invokestatic 46, 3) := by decide +kernel
theorem dX5_isMonth_9 : decode cX5_isMonth 9 = .ok (.ireturn, 1) := by decide +kernel
theorem dX5_isCoat_0 : decode cX5_isCoat 0 = .ok (.iload_n 0, 1) := by decide +kernel
theorem dX5_isCoat_1 : decode cX5_isCoat 1 = .ok (.i2l, 1) := by decide +kernel
theorem dX5_isCoat_2 : decode cX5_isCoat 2 = .ok (.lconst 0, 1) := by decide +kernel
theorem dX5_isCoat_3 : decode cX5_isCoat 3 = .ok (.ldc2_w 52, 3) := by decide +kernel
theorem dX5_isCoat_6 : decode cX5_isCoat 6 = .ok (.invokestatic 46, 3) := by decide +kernel
theorem dX5_isCoat_9 : decode cX5_isCoat 9 = .ok (.ireturn, 1) := by decide +kernel
theorem dX5_isKind_0 : decode cX5_isKind 0 = .ok (.iload_n 0, 1) := by decide +kernel
theorem dX5_isKind_1 : decode cX5_isKind 1 = .ok (.i2l, 1) := by decide +kernel
theorem dX5_isKind_2 : decode cX5_isKind 2 = .ok (.lconst 0, 1) := by decide +kernel
theorem dX5_isKind_3 : decode cX5_isKind 3 = .ok (.ldc2_w 54, 3) := by decide +kernel
theorem dX5_isKind_6 : decode cX5_isKind 6 = .ok (.invokestatic 46, 3) := by decide +kernel
theorem dX5_isKind_9 : decode cX5_isKind 9 = .ok (.ireturn, 1) := by decide +kernel
theorem dX5_isWeather_0 : decode cX5_isWeather 0 = .ok (.lload_n 0, 1) := by decide +kernel
theorem dX5_isWeather_1 : decode cX5_isWeather 1 = .ok (.ldc2_w 56, 3) := by decide +kernel
theorem dX5_isWeather_4 : decode cX5_isWeather 4 = .ok (.ldc2_w 58, 3) := by decide +kernel
theorem dX5_isWeather_7 : decode cX5_isWeather 7 = .ok (.invokestatic 46, 3) := by decide +kernel
theorem dX5_isWeather_10 : decode cX5_isWeather 10 = .ok (.ireturn, 1) := by decide +kernel
theorem dX5_heldTo_0 : decode cX5_heldTo 0 = .ok (.iload_n 0, 1) := by decide +kernel
theorem dX5_heldTo_1 : decode cX5_heldTo 1 = .ok (.iload_n 1, 1) := by decide +kernel
theorem dX5_heldTo_2 : decode cX5_heldTo 2 = .ok (.if_icmp .le 7, 3) := by decide +kernel
theorem dX5_heldTo_5 : decode cX5_heldTo 5 = .ok (.iload_n 1, 1) := by decide +kernel
theorem dX5_heldTo_6 : decode cX5_heldTo 6 = .ok (.goto 4, 3) := by decide +kernel
theorem dX5_heldTo_9 : decode cX5_heldTo 9 = .ok (.iload_n 0, 1) := by decide +kernel
theorem dX5_heldTo_10 : decode cX5_heldTo 10 = .ok (.ireturn, 1) := by decide +kernel
theorem dX5_twelve_0 : decode cX5_twelve 0 = .ok (.iconst 0, 1) := by decide +kernel
theorem dX5_twelve_1 : decode cX5_twelve 1 = .ok (.istore_n 2, 1) := by decide +kernel
theorem dX5_twelve_2 : decode cX5_twelve 2 = .ok (.iconst 0, 1) := by decide +kernel
theorem dX5_twelve_3 : decode cX5_twelve 3 = .ok (.istore_n 3, 1) := by decide +kernel
theorem dX5_twelve_4 : decode cX5_twelve 4 = .ok (.iload_n 3, 1) := by decide +kernel
theorem dX5_twelve_5 : decode cX5_twelve 5 = .ok (.bipush 12, 2) := by decide +kernel
theorem dX5_twelve_7 : decode cX5_twelve 7 = .ok (.if_icmp .ge 20, 3) := by decide +kernel
theorem dX5_twelve_10 : decode cX5_twelve 10 = .ok (.iload_n 2, 1) := by decide +kernel
theorem dX5_twelve_11 : decode cX5_twelve 11 = .ok (.aload_n 0, 1) := by decide +kernel
theorem dX5_twelve_12 : decode cX5_twelve 12 = .ok (.getfield 7, 3) := by decide +kernel
theorem dX5_twelve_15 : decode cX5_twelve 15 = .ok (.iload_n 1, 1) := by decide +kernel
theorem dX5_twelve_16 : decode cX5_twelve 16 = .ok (.iload_n 3, 1) := by decide +kernel
theorem dX5_twelve_17 : decode cX5_twelve 17 = .ok (.iadd, 1) := by decide +kernel
theorem dX5_twelve_18 : decode cX5_twelve 18 = .ok (.iaload, 1) := by decide +kernel
theorem dX5_twelve_19 : decode cX5_twelve 19 = .ok (.iadd, 1) := by decide +kernel
theorem dX5_twelve_20 : decode cX5_twelve 20 = .ok (.istore_n 2, 1) := by decide +kernel
theorem dX5_twelve_21 : decode cX5_twelve 21 = .ok (.iinc 3 1, 3) := by decide +kernel
theorem dX5_twelve_24 : decode cX5_twelve 24 = .ok (.goto (-20), 3) := by decide +kernel
theorem dX5_twelve_27 : decode cX5_twelve 27 = .ok (.iload_n 2, 1) := by decide +kernel
theorem dX5_twelve_28 : decode cX5_twelve 28 = .ok (.ireturn, 1) := by decide +kernel
theorem dX5_woolOf_0 : decode cX5_woolOf 0 = .ok (.aload_n 0, 1) := by decide +kernel
theorem dX5_woolOf_1 : decode cX5_woolOf 1 = .ok (.iload_n 1, 1) := by decide +kernel
theorem dX5_woolOf_2 : decode cX5_woolOf 2 = .ok (.iconst 2, 1) := by decide +kernel
theorem dX5_woolOf_3 : decode cX5_woolOf 3 = .ok (.invokestatic 42, 3) := by decide +kernel
theorem dX5_woolOf_6 : decode cX5_woolOf 6 = .ok (.invokevirtual 60, 3) := by decide +kernel
theorem dX5_woolOf_9 : decode cX5_woolOf 9 = .ok (.ireturn, 1) := by decide +kernel
theorem dX5_fleeces_0 : decode cX5_fleeces 0 = .ok (.iconst 0, 1) := by decide +kernel
theorem dX5_fleeces_1 : decode cX5_fleeces 1 = .ok (.istore_n 1, 1) := by decide +kernel
theorem dX5_fleeces_2 : decode cX5_fleeces 2 = .ok (.iconst 0, 1) := by decide +kernel
theorem dX5_fleeces_3 : decode cX5_fleeces 3 = .ok (.istore_n 2, 1) := by decide +kernel
theorem dX5_fleeces_4 : decode cX5_fleeces 4 = .ok (.iload_n 2, 1) := by decide +kernel
theorem dX5_fleeces_5 : decode cX5_fleeces 5 = .ok (.aload_n 0, 1) := by decide +kernel
theorem dX5_fleeces_6 : decode cX5_fleeces 6 = .ok (.getfield 7, 3) := by decide +kernel
theorem dX5_fleeces_9 : decode cX5_fleeces 9 = .ok (.iconst 1, 1) := by decide +kernel
theorem dX5_fleeces_10 : decode cX5_fleeces 10 = .ok (.iaload, 1) := by decide +kernel
theorem dX5_fleeces_11 : decode cX5_fleeces 11 = .ok (.if_icmp .ge 17, 3) := by decide +kernel
theorem dX5_fleeces_14 : decode cX5_fleeces 14 = .ok (.iload_n 1, 1) := by decide +kernel
theorem dX5_fleeces_15 : decode cX5_fleeces 15 = .ok (.aload_n 0, 1) := by decide +kernel
theorem dX5_fleeces_16 : decode cX5_fleeces 16 = .ok (.iload_n 2, 1) := by decide +kernel
theorem dX5_fleeces_17 : decode cX5_fleeces 17 = .ok (.invokevirtual 64, 3) := by decide +kernel
theorem dX5_fleeces_20 : decode cX5_fleeces 20 = .ok (.iadd, 1) := by decide +kernel
theorem dX5_fleeces_21 : decode cX5_fleeces 21 = .ok (.istore_n 1, 1) := by decide +kernel
theorem dX5_fleeces_22 : decode cX5_fleeces 22 = .ok (.iinc 2 1, 3) := by decide +kernel
theorem dX5_fleeces_25 : decode cX5_fleeces 25 = .ok (.goto (-21), 3) := by decide +kernel
theorem dX5_fleeces_28 : decode cX5_fleeces 28 = .ok (.iload_n 1, 1) := by decide +kernel
theorem dX5_fleeces_29 : decode cX5_fleeces 29 = .ok (.ireturn, 1) := by decide +kernel
theorem dX5_weather_0 : decode cX5_weather 0 = .ok (.iload_n 1, 1) := by decide +kernel
theorem dX5_weather_1 : decode cX5_weather 1 = .ok (.invokestatic 67, 3) := by decide +kernel
theorem dX5_weather_4 : decode cX5_weather 4 = .ok (.ifCond .eq 22, 3) := by decide +kernel
theorem dX5_weather_7 : decode cX5_weather 7 = .ok (.iload_n 2, 1) := by decide +kernel
theorem dX5_weather_8 : decode cX5_weather 8 = .ok (.i2l, 1) := by decide +kernel
theorem dX5_weather_9 : decode cX5_weather 9 = .ok (.invokestatic 71, 3) := by decide +kernel
theorem dX5_weather_12 : decode cX5_weather 12 = .ok (.ifCond .eq 14, 3) := by decide +kernel
theorem dX5_weather_15 : decode cX5_weather 15 = .ok (.aload_n 0, 1) := by decide +kernel
theorem dX5_weather_16 : decode cX5_weather 16 = .ok (.iconst 2, 1) := by decide +kernel
theorem dX5_weather_17 : decode cX5_weather 17 = .ok (.iload_n 1, 1) := by decide +kernel
theorem dX5_weather_18 : decode cX5_weather 18 = .ok (.iadd, 1) := by decide +kernel
theorem dX5_weather_19 : decode cX5_weather 19 = .ok (.iload_n 2, 1) := by decide +kernel
theorem dX5_weather_20 : decode cX5_weather 20 = .ok (.invokevirtual 75, 3) := by decide +kernel
theorem dX5_weather_23 : decode cX5_weather 23 = .ok (.goto 9, 3) := by decide +kernel
theorem dX5_weather_26 : decode cX5_weather 26 = .ok (.aload_n 0, 1) := by decide +kernel
theorem dX5_weather_27 : decode cX5_weather 27 = .ok (.ldc 41, 2) := by decide +kernel
theorem dX5_weather_29 : decode cX5_weather 29 = .ok (.invokevirtual 78, 3) := by decide +kernel
theorem dX5_weather_32 : decode cX5_weather 32 = .ok (.ireturn, 1) := by decide +kernel
theorem dX5_monthOf_0 : decode cX5_monthOf 0 = .ok (.iload_n 1, 1) := by decide +kernel
theorem dX5_monthOf_1 : decode cX5_monthOf 1 = .ok (.invokestatic 67, 3) := by decide +kernel
theorem dX5_monthOf_4 : decode cX5_monthOf 4 = .ok (.ifCond .eq 15, 3) := by decide +kernel
theorem dX5_monthOf_7 : decode cX5_monthOf 7 = .ok (.iload_n 2, 1) := by decide +kernel
theorem dX5_monthOf_8 : decode cX5_monthOf 8 = .ok (.i2l, 1) := by decide +kernel
theorem dX5_monthOf_9 : decode cX5_monthOf 9 = .ok (.lconst 0, 1) := by decide +kernel
theorem dX5_monthOf_10 : decode cX5_monthOf 10 = .ok (.ldc2_w 81, 3) := by decide +kernel
theorem dX5_monthOf_13 : decode cX5_monthOf 13 = .ok (.invokestatic 46, 3) := by decide +kernel
theorem dX5_monthOf_16 : decode cX5_monthOf 16 = .ok (.ifCond .ne 10, 3) := by decide +kernel
theorem dX5_monthOf_19 : decode cX5_monthOf 19 = .ok (.aload_n 0, 1) := by decide +kernel
theorem dX5_monthOf_20 : decode cX5_monthOf 20 = .ok (.ldc 41, 2) := by decide +kernel
theorem dX5_monthOf_22 : decode cX5_monthOf 22 = .ok (.invokevirtual 78, 3) := by decide +kernel
theorem dX5_monthOf_25 : decode cX5_monthOf 25 = .ok (.ireturn, 1) := by decide +kernel
theorem dX5_monthOf_26 : decode cX5_monthOf 26 = .ok (.iload_n 2, 1) := by decide +kernel
theorem dX5_monthOf_27 : decode cX5_monthOf 27 = .ok (.ifCond .ne 17, 3) := by decide +kernel
theorem dX5_monthOf_30 : decode cX5_monthOf 30 = .ok (.bipush 100, 2) := by decide +kernel
theorem dX5_monthOf_32 : decode cX5_monthOf 32 = .ok (.aload_n 0, 1) := by decide +kernel
theorem dX5_monthOf_33 : decode cX5_monthOf 33 = .ok (.getfield 7, 3) := by decide +kernel
theorem dX5_monthOf_36 : decode cX5_monthOf 36 = .ok (.iconst 2, 1) := by decide +kernel
theorem dX5_monthOf_37 : decode cX5_monthOf 37 = .ok (.iload_n 1, 1) := by decide +kernel
theorem dX5_monthOf_38 : decode cX5_monthOf 38 = .ok (.iadd, 1) := by decide +kernel
theorem dX5_monthOf_39 : decode cX5_monthOf 39 = .ok (.iaload, 1) := by decide +kernel
theorem dX5_monthOf_40 : decode cX5_monthOf 40 = .ok (.iadd, 1) := by decide +kernel
theorem dX5_monthOf_41 : decode cX5_monthOf 41 = .ok (.goto 22, 3) := by decide +kernel
theorem dX5_monthOf_44 : decode cX5_monthOf 44 = .ok (.aload_n 0, 1) := by decide +kernel
theorem dX5_monthOf_45 : decode cX5_monthOf 45 = .ok (.getfield 7, 3) := by decide +kernel
theorem dX5_monthOf_48 : decode cX5_monthOf 48 = .ok (.iload_n 2, 1) := by decide +kernel
theorem dX5_monthOf_49 : decode cX5_monthOf 49 = .ok (.iconst 1, 1) := by decide +kernel
theorem dX5_monthOf_50 : decode cX5_monthOf 50 = .ok (.if_icmp .ne 8, 3) := by decide +kernel
theorem dX5_monthOf_53 : decode cX5_monthOf 53 = .ok (.bipush 14, 2) := by decide +kernel
theorem dX5_monthOf_55 : decode cX5_monthOf 55 = .ok (.goto 5, 3) := by decide +kernel
theorem dX5_monthOf_58 : decode cX5_monthOf 58 = .ok (.bipush 26, 2) := by decide +kernel
theorem dX5_monthOf_60 : decode cX5_monthOf 60 = .ok (.iload_n 1, 1) := by decide +kernel
theorem dX5_monthOf_61 : decode cX5_monthOf 61 = .ok (.iadd, 1) := by decide +kernel
theorem dX5_monthOf_62 : decode cX5_monthOf 62 = .ok (.iaload, 1) := by decide +kernel
theorem dX5_monthOf_63 : decode cX5_monthOf 63 = .ok (.ireturn, 1) := by decide +kernel
theorem dX5_ofYear_0 : decode cX5_ofYear 0 = .ok (.aload_n 0, 1) := by decide +kernel
theorem dX5_ofYear_1 : decode cX5_ofYear 1 = .ok (.getfield 7, 3) := by decide +kernel
theorem dX5_ofYear_4 : decode cX5_ofYear 4 = .ok (.iconst 0, 1) := by decide +kernel
theorem dX5_ofYear_5 : decode cX5_ofYear 5 = .ok (.iaload, 1) := by decide +kernel
theorem dX5_ofYear_6 : decode cX5_ofYear 6 = .ok (.bipush 12, 2) := by decide +kernel
theorem dX5_ofYear_8 : decode cX5_ofYear 8 = .ok (.irem, 1) := by decide +kernel
theorem dX5_ofYear_9 : decode cX5_ofYear 9 = .ok (.ireturn, 1) := by decide +kernel
theorem dX5_now_0 : decode cX5_now 0 = .ok (.iload_n 1, 1) := by decide +kernel
theorem dX5_now_1 : decode cX5_now 1 = .ok (.tableswitch 85 0 5 #[39, 46, 51, 66, 73, 80], 39) := by decide +kernel
theorem dX5_now_40 : decode cX5_now 40 = .ok (.aload_n 0, 1) := by decide +kernel
theorem dX5_now_41 : decode cX5_now 41 = .ok (.getfield 7, 3) := by decide +kernel
theorem dX5_now_44 : decode cX5_now 44 = .ok (.iconst 0, 1) := by decide +kernel
theorem dX5_now_45 : decode cX5_now 45 = .ok (.iaload, 1) := by decide +kernel
theorem dX5_now_46 : decode cX5_now 46 = .ok (.ireturn, 1) := by decide +kernel
theorem dX5_now_47 : decode cX5_now 47 = .ok (.aload_n 0, 1) := by decide +kernel
theorem dX5_now_48 : decode cX5_now 48 = .ok (.invokevirtual 83, 3) := by decide +kernel
theorem dX5_now_51 : decode cX5_now 51 = .ok (.ireturn, 1) := by decide +kernel
theorem dX5_now_52 : decode cX5_now 52 = .ok (.bipush 100, 2) := by decide +kernel
theorem dX5_now_54 : decode cX5_now 54 = .ok (.aload_n 0, 1) := by decide +kernel
theorem dX5_now_55 : decode cX5_now 55 = .ok (.getfield 7, 3) := by decide +kernel
theorem dX5_now_58 : decode cX5_now 58 = .ok (.iconst 2, 1) := by decide +kernel
theorem dX5_now_59 : decode cX5_now 59 = .ok (.aload_n 0, 1) := by decide +kernel
theorem dX5_now_60 : decode cX5_now 60 = .ok (.invokevirtual 83, 3) := by decide +kernel
theorem dX5_now_63 : decode cX5_now 63 = .ok (.iadd, 1) := by decide +kernel
theorem dX5_now_64 : decode cX5_now 64 = .ok (.iaload, 1) := by decide +kernel
theorem dX5_now_65 : decode cX5_now 65 = .ok (.iadd, 1) := by decide +kernel
theorem dX5_now_66 : decode cX5_now 66 = .ok (.ireturn, 1) := by decide +kernel
theorem dX5_now_67 : decode cX5_now 67 = .ok (.aload_n 0, 1) := by decide +kernel
theorem dX5_now_68 : decode cX5_now 68 = .ok (.bipush 14, 2) := by decide +kernel
theorem dX5_now_70 : decode cX5_now 70 = .ok (.invokevirtual 60, 3) := by decide +kernel
theorem dX5_now_73 : decode cX5_now 73 = .ok (.ireturn, 1) := by decide +kernel
theorem dX5_now_74 : decode cX5_now 74 = .ok (.aload_n 0, 1) := by decide +kernel
theorem dX5_now_75 : decode cX5_now 75 = .ok (.bipush 26, 2) := by decide +kernel
theorem dX5_now_77 : decode cX5_now 77 = .ok (.invokevirtual 60, 3) := by decide +kernel
theorem dX5_now_80 : decode cX5_now 80 = .ok (.ireturn, 1) := by decide +kernel
theorem dX5_now_81 : decode cX5_now 81 = .ok (.aload_n 0, 1) := by decide +kernel
theorem dX5_now_82 : decode cX5_now 82 = .ok (.invokevirtual 87, 3) := by decide +kernel
theorem dX5_now_85 : decode cX5_now 85 = .ok (.ireturn, 1) := by decide +kernel
theorem dX5_now_86 : decode cX5_now 86 = .ok (.aload_n 0, 1) := by decide +kernel
theorem dX5_now_87 : decode cX5_now 87 = .ok (.ldc 41, 2) := by decide +kernel
theorem dX5_now_89 : decode cX5_now 89 = .ok (.invokevirtual 78, 3) := by decide +kernel
theorem dX5_now_92 : decode cX5_now 92 = .ok (.ireturn, 1) := by decide +kernel
theorem dX5_growsIn_0 : decode cX5_growsIn 0 = .ok (.iload_n 2, 1) := by decide +kernel
theorem dX5_growsIn_1 : decode cX5_growsIn 1 = .ok (.ifCond .ge 14, 3) := by decide +kernel
theorem dX5_growsIn_4 : decode cX5_growsIn 4 = .ok (.bipush 10, 2) := by decide +kernel
theorem dX5_growsIn_6 : decode cX5_growsIn 6 = .ok (.iconst 0, 1) := by decide +kernel
theorem dX5_growsIn_7 : decode cX5_growsIn 7 = .ok (.iload_n 2, 1) := by decide +kernel
theorem dX5_growsIn_8 : decode cX5_growsIn 8 = .ok (.isub, 1) := by decide +kernel
theorem dX5_growsIn_9 : decode cX5_growsIn 9 = .ok (.iconst 2, 1) := by decide +kernel
theorem dX5_growsIn_10 : decode cX5_growsIn 10 = .ok (.idiv, 1) := by decide +kernel
theorem dX5_growsIn_11 : decode cX5_growsIn 11 = .ok (.iadd, 1) := by decide +kernel
theorem dX5_growsIn_12 : decode cX5_growsIn 12 = .ok (.goto 5, 3) := by decide +kernel
theorem dX5_growsIn_15 : decode cX5_growsIn 15 = .ok (.bipush 10, 2) := by decide +kernel
theorem dX5_growsIn_17 : decode cX5_growsIn 17 = .ok (.istore_n 3, 1) := by decide +kernel
theorem dX5_growsIn_18 : decode cX5_growsIn 18 = .ok (.aload_n 0, 1) := by decide +kernel
theorem dX5_growsIn_19 : decode cX5_growsIn 19 = .ok (.iload_n 1, 1) := by decide +kernel
theorem dX5_growsIn_20 : decode cX5_growsIn 20 = .ok (.iconst 0, 1) := by decide +kernel
theorem dX5_growsIn_21 : decode cX5_growsIn 21 = .ok (.invokevirtual 90, 3) := by decide +kernel
theorem dX5_growsIn_24 : decode cX5_growsIn 24 = .ok (.tableswitch 68 1 5 #[36, 40, 44, 47, 61], 36) := by decide +kernel
theorem dX5_growsIn_60 : decode cX5_growsIn 60 = .ok (.iload_n 3, 1) := by decide +kernel
theorem dX5_growsIn_61 : decode cX5_growsIn 61 = .ok (.iconst 4, 1) := by decide +kernel
theorem dX5_growsIn_62 : decode cX5_growsIn 62 = .ok (.iadd, 1) := by decide +kernel
theorem dX5_growsIn_63 : decode cX5_growsIn 63 = .ok (.ireturn, 1) := by decide +kernel
theorem dX5_growsIn_64 : decode cX5_growsIn 64 = .ok (.iload_n 3, 1) := by decide +kernel
theorem dX5_growsIn_65 : decode cX5_growsIn 65 = .ok (.iconst 2, 1) := by decide +kernel
theorem dX5_growsIn_66 : decode cX5_growsIn 66 = .ok (.idiv, 1) := by decide +kernel
theorem dX5_growsIn_67 : decode cX5_growsIn 67 = .ok (.ireturn, 1) := by decide +kernel
theorem dX5_growsIn_68 : decode cX5_growsIn 68 = .ok (.bipush 12, 2) := by decide +kernel
theorem dX5_growsIn_70 : decode cX5_growsIn 70 = .ok (.ireturn, 1) := by decide +kernel
theorem dX5_growsIn_71 : decode cX5_growsIn 71 = .ok (.iload_n 2, 1) := by decide +kernel
theorem dX5_growsIn_72 : decode cX5_growsIn 72 = .ok (.bipush 10, 2) := by decide +kernel
theorem dX5_growsIn_74 : decode cX5_growsIn 74 = .ok (.if_icmp .le 7, 3) := by decide +kernel
theorem dX5_growsIn_77 : decode cX5_growsIn 77 = .ok (.iconst 0, 1) := by decide +kernel
theorem dX5_growsIn_78 : decode cX5_growsIn 78 = .ok (.goto 6, 3) := by decide +kernel
theorem dX5_growsIn_81 : decode cX5_growsIn 81 = .ok (.iload_n 3, 1) := by decide +kernel
theorem dX5_growsIn_82 : decode cX5_growsIn 82 = .ok (.iconst 4, 1) := by decide +kernel
theorem dX5_growsIn_83 : decode cX5_growsIn 83 = .ok (.iadd, 1) := by decide +kernel
theorem dX5_growsIn_84 : decode cX5_growsIn 84 = .ok (.ireturn, 1) := by decide +kernel
theorem dX5_growsIn_85 : decode cX5_growsIn 85 = .ok (.iload_n 3, 1) := by decide +kernel
theorem dX5_growsIn_86 : decode cX5_growsIn 86 = .ok (.iconst 2, 1) := by decide +kernel
theorem dX5_growsIn_87 : decode cX5_growsIn 87 = .ok (.idiv, 1) := by decide +kernel
theorem dX5_growsIn_88 : decode cX5_growsIn 88 = .ok (.bipush 6, 2) := by decide +kernel
theorem dX5_growsIn_90 : decode cX5_growsIn 90 = .ok (.iadd, 1) := by decide +kernel
theorem dX5_growsIn_91 : decode cX5_growsIn 91 = .ok (.ireturn, 1) := by decide +kernel
theorem dX5_growsIn_92 : decode cX5_growsIn 92 = .ok (.iload_n 3, 1) := by decide +kernel
theorem dX5_growsIn_93 : decode cX5_growsIn 93 = .ok (.ireturn, 1) := by decide +kernel
theorem dX5_losesOf_0 : decode cX5_losesOf 0 = .ok (.aload_n 0, 1) := by decide +kernel
theorem dX5_losesOf_1 : decode cX5_losesOf 1 = .ok (.iload_n 1, 1) := by decide +kernel
theorem dX5_losesOf_2 : decode cX5_losesOf 2 = .ok (.iconst 1, 1) := by decide +kernel
theorem dX5_losesOf_3 : decode cX5_losesOf 3 = .ok (.invokevirtual 90, 3) := by decide +kernel
theorem dX5_losesOf_6 : decode cX5_losesOf 6 = .ok (.bipush 10, 2) := by decide +kernel
theorem dX5_losesOf_8 : decode cX5_losesOf 8 = .ok (.idiv, 1) := by decide +kernel
theorem dX5_losesOf_9 : decode cX5_losesOf 9 = .ok (.istore_n 2, 1) := by decide +kernel
theorem dX5_losesOf_10 : decode cX5_losesOf 10 = .ok (.aload_n 0, 1) := by decide +kernel
theorem dX5_losesOf_11 : decode cX5_losesOf 11 = .ok (.iload_n 1, 1) := by decide +kernel
theorem dX5_losesOf_12 : decode cX5_losesOf 12 = .ok (.iconst 0, 1) := by decide +kernel
theorem dX5_losesOf_13 : decode cX5_losesOf 13 = .ok (.invokevirtual 90, 3) := by decide +kernel
theorem dX5_losesOf_16 : decode cX5_losesOf 16 = .ok (.tableswitch 59 1 5 #[36, 38, 59, 42, 44], 36) := by decide +kernel
theorem dX5_losesOf_52 : decode cX5_losesOf 52 = .ok (.iconst 0, 1) := by decide +kernel
theorem dX5_losesOf_53 : decode cX5_losesOf 53 = .ok (.ireturn, 1) := by decide +kernel
theorem dX5_losesOf_54 : decode cX5_losesOf 54 = .ok (.iconst 2, 1) := by decide +kernel
theorem dX5_losesOf_55 : decode cX5_losesOf 55 = .ok (.iload_n 2, 1) := by decide +kernel
theorem dX5_losesOf_56 : decode cX5_losesOf 56 = .ok (.imul, 1) := by decide +kernel
theorem dX5_losesOf_57 : decode cX5_losesOf 57 = .ok (.ireturn, 1) := by decide +kernel
theorem dX5_losesOf_58 : decode cX5_losesOf 58 = .ok (.iconst 1, 1) := by decide +kernel
theorem dX5_losesOf_59 : decode cX5_losesOf 59 = .ok (.ireturn, 1) := by decide +kernel
theorem dX5_losesOf_60 : decode cX5_losesOf 60 = .ok (.iload_n 2, 1) := by decide +kernel
theorem dX5_losesOf_61 : decode cX5_losesOf 61 = .ok (.iconst 1, 1) := by decide +kernel
theorem dX5_losesOf_62 : decode cX5_losesOf 62 = .ok (.if_icmp .le 11, 3) := by decide +kernel
theorem dX5_losesOf_65 : decode cX5_losesOf 65 = .ok (.iconst 2, 1) := by decide +kernel
theorem dX5_losesOf_66 : decode cX5_losesOf 66 = .ok (.iload_n 2, 1) := by decide +kernel
theorem dX5_losesOf_67 : decode cX5_losesOf 67 = .ok (.imul, 1) := by decide +kernel
theorem dX5_losesOf_68 : decode cX5_losesOf 68 = .ok (.iconst 2, 1) := by decide +kernel
theorem dX5_losesOf_69 : decode cX5_losesOf 69 = .ok (.isub, 1) := by decide +kernel
theorem dX5_losesOf_70 : decode cX5_losesOf 70 = .ok (.goto 4, 3) := by decide +kernel
theorem dX5_losesOf_73 : decode cX5_losesOf 73 = .ok (.iconst 0, 1) := by decide +kernel
theorem dX5_losesOf_74 : decode cX5_losesOf 74 = .ok (.ireturn, 1) := by decide +kernel
theorem dX5_losesOf_75 : decode cX5_losesOf 75 = .ok (.iload_n 2, 1) := by decide +kernel
theorem dX5_losesOf_76 : decode cX5_losesOf 76 = .ok (.ireturn, 1) := by decide +kernel
theorem dX5_calmsOf_0 : decode cX5_calmsOf 0 = .ok (.aload_n 0, 1) := by decide +kernel
theorem dX5_calmsOf_1 : decode cX5_calmsOf 1 = .ok (.iload_n 1, 1) := by decide +kernel
theorem dX5_calmsOf_2 : decode cX5_calmsOf 2 = .ok (.iconst 0, 1) := by decide +kernel
theorem dX5_calmsOf_3 : decode cX5_calmsOf 3 = .ok (.invokevirtual 90, 3) := by decide +kernel
theorem dX5_calmsOf_6 : decode cX5_calmsOf 6 = .ok (.tableswitch 42 1 5 #[34, 37, 42, 34, 39], 34) := by decide +kernel
theorem dX5_calmsOf_40 : decode cX5_calmsOf 40 = .ok (.bipush 20, 2) := by decide +kernel
theorem dX5_calmsOf_42 : decode cX5_calmsOf 42 = .ok (.ireturn, 1) := by decide +kernel
theorem dX5_calmsOf_43 : decode cX5_calmsOf 43 = .ok (.iconst 5, 1) := by decide +kernel
theorem dX5_calmsOf_44 : decode cX5_calmsOf 44 = .ok (.ireturn, 1) := by decide +kernel
theorem dX5_calmsOf_45 : decode cX5_calmsOf 45 = .ok (.bipush 15, 2) := by decide +kernel
theorem dX5_calmsOf_47 : decode cX5_calmsOf 47 = .ok (.ireturn, 1) := by decide +kernel
theorem dX5_calmsOf_48 : decode cX5_calmsOf 48 = .ok (.bipush 10, 2) := by decide +kernel
theorem dX5_calmsOf_50 : decode cX5_calmsOf 50 = .ok (.ireturn, 1) := by decide +kernel
theorem dX5_burrsIn_0 : decode cX5_burrsIn 0 = .ok (.iload_n 2, 1) := by decide +kernel
theorem dX5_burrsIn_1 : decode cX5_burrsIn 1 = .ok (.bipush (-8), 2) := by decide +kernel
theorem dX5_burrsIn_3 : decode cX5_burrsIn 3 = .ok (.if_icmp .ge 7, 3) := by decide +kernel
theorem dX5_burrsIn_6 : decode cX5_burrsIn 6 = .ok (.iconst 1, 1) := by decide +kernel
theorem dX5_burrsIn_7 : decode cX5_burrsIn 7 = .ok (.goto 4, 3) := by decide +kernel
theorem dX5_burrsIn_10 : decode cX5_burrsIn 10 = .ok (.iconst 0, 1) := by decide +kernel
theorem dX5_burrsIn_11 : decode cX5_burrsIn 11 = .ok (.istore_n 3, 1) := by decide +kernel
theorem dX5_burrsIn_12 : decode cX5_burrsIn 12 = .ok (.aload_n 0, 1) := by decide +kernel
theorem dX5_burrsIn_13 : decode cX5_burrsIn 13 = .ok (.iload_n 1, 1) := by decide +kernel
theorem dX5_burrsIn_14 : decode cX5_burrsIn 14 = .ok (.iconst 0, 1) := by decide +kernel
theorem dX5_burrsIn_15 : decode cX5_burrsIn 15 = .ok (.invokevirtual 90, 3) := by decide +kernel
theorem dX5_burrsIn_18 : decode cX5_burrsIn 18 = .ok (.tableswitch 44 1 5 #[34, 38, 44, 40, 38], 34) := by decide +kernel
theorem dX5_burrsIn_52 : decode cX5_burrsIn 52 = .ok (.iload_n 3, 1) := by decide +kernel
theorem dX5_burrsIn_53 : decode cX5_burrsIn 53 = .ok (.iconst 1, 1) := by decide +kernel
theorem dX5_burrsIn_54 : decode cX5_burrsIn 54 = .ok (.iadd, 1) := by decide +kernel
theorem dX5_burrsIn_55 : decode cX5_burrsIn 55 = .ok (.ireturn, 1) := by decide +kernel
theorem dX5_burrsIn_56 : decode cX5_burrsIn 56 = .ok (.iconst 0, 1) := by decide +kernel
theorem dX5_burrsIn_57 : decode cX5_burrsIn 57 = .ok (.ireturn, 1) := by decide +kernel
theorem dX5_burrsIn_58 : decode cX5_burrsIn 58 = .ok (.iload_n 3, 1) := by decide +kernel
theorem dX5_burrsIn_59 : decode cX5_burrsIn 59 = .ok (.iconst 3, 1) := by decide +kernel
theorem dX5_burrsIn_60 : decode cX5_burrsIn 60 = .ok (.iadd, 1) := by decide +kernel
theorem dX5_burrsIn_61 : decode cX5_burrsIn 61 = .ok (.ireturn, 1) := by decide +kernel
theorem dX5_burrsIn_62 : decode cX5_burrsIn 62 = .ok (.iload_n 3, 1) := by decide +kernel
theorem dX5_burrsIn_63 : decode cX5_burrsIn 63 = .ok (.ireturn, 1) := by decide +kernel
theorem dX5_adds_0 : decode cX5_adds 0 = .ok (.aload_n 0, 1) := by decide +kernel
theorem dX5_adds_1 : decode cX5_adds 1 = .ok (.getfield 7, 3) := by decide +kernel
theorem dX5_adds_4 : decode cX5_adds 4 = .ok (.iconst 1, 1) := by decide +kernel
theorem dX5_adds_5 : decode cX5_adds 5 = .ok (.iaload, 1) := by decide +kernel
theorem dX5_adds_6 : decode cX5_adds 6 = .ok (.istore_n 2, 1) := by decide +kernel
theorem dX5_adds_7 : decode cX5_adds 7 = .ok (.aload_n 0, 1) := by decide +kernel
theorem dX5_adds_8 : decode cX5_adds 8 = .ok (.getfield 7, 3) := by decide +kernel
theorem dX5_adds_11 : decode cX5_adds 11 = .ok (.iconst 1, 1) := by decide +kernel
theorem dX5_adds_12 : decode cX5_adds 12 = .ok (.dup2, 1) := by decide +kernel
theorem dX5_adds_13 : decode cX5_adds 13 = .ok (.iaload, 1) := by decide +kernel
theorem dX5_adds_14 : decode cX5_adds 14 = .ok (.iconst 1, 1) := by decide +kernel
theorem dX5_adds_15 : decode cX5_adds 15 = .ok (.iadd, 1) := by decide +kernel
theorem dX5_adds_16 : decode cX5_adds 16 = .ok (.iastore, 1) := by decide +kernel
theorem dX5_adds_17 : decode cX5_adds 17 = .ok (.iconst 0, 1) := by decide +kernel
theorem dX5_adds_18 : decode cX5_adds 18 = .ok (.istore_n 3, 1) := by decide +kernel
theorem dX5_adds_19 : decode cX5_adds 19 = .ok (.iload_n 3, 1) := by decide +kernel
theorem dX5_adds_20 : decode cX5_adds 20 = .ok (.bipush 14, 2) := by decide +kernel
theorem dX5_adds_22 : decode cX5_adds 22 = .ok (.if_icmp .ge 20, 3) := by decide +kernel
theorem dX5_adds_25 : decode cX5_adds 25 = .ok (.aload_n 0, 1) := by decide +kernel
theorem dX5_adds_26 : decode cX5_adds 26 = .ok (.getfield 7, 3) := by decide +kernel
theorem dX5_adds_29 : decode cX5_adds 29 = .ok (.iload_n 2, 1) := by decide +kernel
theorem dX5_adds_30 : decode cX5_adds 30 = .ok (.iload_n 3, 1) := by decide +kernel
theorem dX5_adds_31 : decode cX5_adds 31 = .ok (.invokestatic 42, 3) := by decide +kernel
theorem dX5_adds_34 : decode cX5_adds 34 = .ok (.iconst 0, 1) := by decide +kernel
theorem dX5_adds_35 : decode cX5_adds 35 = .ok (.iastore, 1) := by decide +kernel
theorem dX5_adds_36 : decode cX5_adds 36 = .ok (.iinc 3 1, 3) := by decide +kernel
theorem dX5_adds_39 : decode cX5_adds 39 = .ok (.goto (-20), 3) := by decide +kernel
theorem dX5_adds_42 : decode cX5_adds 42 = .ok (.aload_n 0, 1) := by decide +kernel
theorem dX5_adds_43 : decode cX5_adds 43 = .ok (.getfield 7, 3) := by decide +kernel
theorem dX5_adds_46 : decode cX5_adds 46 = .ok (.iload_n 2, 1) := by decide +kernel
theorem dX5_adds_47 : decode cX5_adds 47 = .ok (.iconst 0, 1) := by decide +kernel
theorem dX5_adds_48 : decode cX5_adds 48 = .ok (.invokestatic 42, 3) := by decide +kernel
theorem dX5_adds_51 : decode cX5_adds 51 = .ok (.iload_n 1, 1) := by decide +kernel
theorem dX5_adds_52 : decode cX5_adds 52 = .ok (.iastore, 1) := by decide +kernel
theorem dX5_adds_53 : decode cX5_adds 53 = .ok (.iload_n 2, 1) := by decide +kernel
theorem dX5_adds_54 : decode cX5_adds 54 = .ok (.ireturn, 1) := by decide +kernel
theorem dX5_ewe_0 : decode cX5_ewe 0 = .ok (.iload_n 1, 1) := by decide +kernel
theorem dX5_ewe_1 : decode cX5_ewe 1 = .ok (.invokestatic 93, 3) := by decide +kernel
theorem dX5_ewe_4 : decode cX5_ewe 4 = .ok (.ifCond .ne 10, 3) := by decide +kernel
theorem dX5_ewe_7 : decode cX5_ewe 7 = .ok (.aload_n 0, 1) := by decide +kernel
theorem dX5_ewe_8 : decode cX5_ewe 8 = .ok (.ldc 41, 2) := by decide +kernel
theorem dX5_ewe_10 : decode cX5_ewe 10 = .ok (.invokevirtual 78, 3) := by decide +kernel
theorem dX5_ewe_13 : decode cX5_ewe 13 = .ok (.ireturn, 1) := by decide +kernel
theorem dX5_ewe_14 : decode cX5_ewe 14 = .ok (.aload_n 0, 1) := by decide +kernel
theorem dX5_ewe_15 : decode cX5_ewe 15 = .ok (.getfield 7, 3) := by decide +kernel
theorem dX5_ewe_18 : decode cX5_ewe 18 = .ok (.iconst 1, 1) := by decide +kernel
theorem dX5_ewe_19 : decode cX5_ewe 19 = .ok (.iaload, 1) := by decide +kernel
theorem dX5_ewe_20 : decode cX5_ewe 20 = .ok (.bipush 8, 2) := by decide +kernel
theorem dX5_ewe_22 : decode cX5_ewe 22 = .ok (.if_icmp .ne 12, 3) := by decide +kernel
theorem dX5_ewe_25 : decode cX5_ewe 25 = .ok (.aload_n 0, 1) := by decide +kernel
theorem dX5_ewe_26 : decode cX5_ewe 26 = .ok (.ldc 96, 2) := by decide +kernel
theorem dX5_ewe_28 : decode cX5_ewe 28 = .ok (.invokevirtual 78, 3) := by decide +kernel
theorem dX5_ewe_31 : decode cX5_ewe 31 = .ok (.goto 8, 3) := by decide +kernel
theorem dX5_ewe_34 : decode cX5_ewe 34 = .ok (.aload_n 0, 1) := by decide +kernel
theorem dX5_ewe_35 : decode cX5_ewe 35 = .ok (.iload_n 1, 1) := by decide +kernel
theorem dX5_ewe_36 : decode cX5_ewe 36 = .ok (.invokevirtual 97, 3) := by decide +kernel
theorem dX5_ewe_39 : decode cX5_ewe 39 = .ok (.ireturn, 1) := by decide +kernel
theorem dX5_of_0 : decode cX5_of 0 = .ok (.aload_n 0, 1) := by decide +kernel
theorem dX5_of_1 : decode cX5_of 1 = .ok (.iload_n 1, 1) := by decide +kernel
theorem dX5_of_2 : decode cX5_of 2 = .ok (.invokevirtual 100, 3) := by decide +kernel
theorem dX5_of_5 : decode cX5_of 5 = .ok (.ifCond .eq 15, 3) := by decide +kernel
theorem dX5_of_8 : decode cX5_of 8 = .ok (.iload_n 2, 1) := by decide +kernel
theorem dX5_of_9 : decode cX5_of 9 = .ok (.i2l, 1) := by decide +kernel
theorem dX5_of_10 : decode cX5_of 10 = .ok (.lconst 0, 1) := by decide +kernel
theorem dX5_of_11 : decode cX5_of 11 = .ok (.ldc2_w 52, 3) := by decide +kernel
theorem dX5_of_14 : decode cX5_of 14 = .ok (.invokestatic 46, 3) := by decide +kernel
theorem dX5_of_17 : decode cX5_of 17 = .ok (.ifCond .ne 10, 3) := by decide +kernel
theorem dX5_of_20 : decode cX5_of 20 = .ok (.aload_n 0, 1) := by decide +kernel
theorem dX5_of_21 : decode cX5_of 21 = .ok (.ldc 41, 2) := by decide +kernel
theorem dX5_of_23 : decode cX5_of 23 = .ok (.invokevirtual 78, 3) := by decide +kernel
theorem dX5_of_26 : decode cX5_of 26 = .ok (.ireturn, 1) := by decide +kernel
theorem dX5_of_27 : decode cX5_of 27 = .ok (.iload_n 2, 1) := by decide +kernel
theorem dX5_of_28 : decode cX5_of 28 = .ok (.iconst 1, 1) := by decide +kernel
theorem dX5_of_29 : decode cX5_of 29 = .ok (.if_icmp .gt 12, 3) := by decide +kernel
theorem dX5_of_32 : decode cX5_of 32 = .ok (.aload_n 0, 1) := by decide +kernel
theorem dX5_of_33 : decode cX5_of 33 = .ok (.iload_n 1, 1) := by decide +kernel
theorem dX5_of_34 : decode cX5_of 34 = .ok (.iload_n 2, 1) := by decide +kernel
theorem dX5_of_35 : decode cX5_of 35 = .ok (.invokevirtual 90, 3) := by decide +kernel
theorem dX5_of_38 : decode cX5_of 38 = .ok (.goto 21, 3) := by decide +kernel
theorem dX5_of_41 : decode cX5_of 41 = .ok (.iload_n 2, 1) := by decide +kernel
theorem dX5_of_42 : decode cX5_of 42 = .ok (.iconst 2, 1) := by decide +kernel
theorem dX5_of_43 : decode cX5_of 43 = .ok (.if_icmp .ne 11, 3) := by decide +kernel
theorem dX5_of_46 : decode cX5_of 46 = .ok (.aload_n 0, 1) := by decide +kernel
theorem dX5_of_47 : decode cX5_of 47 = .ok (.iload_n 1, 1) := by decide +kernel
theorem dX5_of_48 : decode cX5_of 48 = .ok (.invokevirtual 64, 3) := by decide +kernel
theorem dX5_of_51 : decode cX5_of 51 = .ok (.goto 8, 3) := by decide +kernel
theorem dX5_of_54 : decode cX5_of 54 = .ok (.aload_n 0, 1) := by decide +kernel
theorem dX5_of_55 : decode cX5_of 55 = .ok (.iload_n 1, 1) := by decide +kernel
theorem dX5_of_56 : decode cX5_of 56 = .ok (.invokevirtual 103, 3) := by decide +kernel
theorem dX5_of_59 : decode cX5_of 59 = .ok (.ireturn, 1) := by decide +kernel
theorem dX5_fleece_0 : decode cX5_fleece 0 = .ok (.aload_n 0, 1) := by decide +kernel
theorem dX5_fleece_1 : decode cX5_fleece 1 = .ok (.iload_n 1, 1) := by decide +kernel
theorem dX5_fleece_2 : decode cX5_fleece 2 = .ok (.invokevirtual 100, 3) := by decide +kernel
theorem dX5_fleece_5 : decode cX5_fleece 5 = .ok (.ifCond .eq 21, 3) := by decide +kernel
theorem dX5_fleece_8 : decode cX5_fleece 8 = .ok (.iload_n 2, 1) := by decide +kernel
theorem dX5_fleece_9 : decode cX5_fleece 9 = .ok (.invokestatic 67, 3) := by decide +kernel
theorem dX5_fleece_12 : decode cX5_fleece 12 = .ok (.ifCond .eq 14, 3) := by decide +kernel
theorem dX5_fleece_15 : decode cX5_fleece 15 = .ok (.aload_n 0, 1) := by decide +kernel
theorem dX5_fleece_16 : decode cX5_fleece 16 = .ok (.iload_n 1, 1) := by decide +kernel
theorem dX5_fleece_17 : decode cX5_fleece 17 = .ok (.iconst 2, 1) := by decide +kernel
theorem dX5_fleece_18 : decode cX5_fleece 18 = .ok (.iload_n 2, 1) := by decide +kernel
theorem dX5_fleece_19 : decode cX5_fleece 19 = .ok (.iadd, 1) := by decide +kernel
theorem dX5_fleece_20 : decode cX5_fleece 20 = .ok (.invokevirtual 90, 3) := by decide +kernel
theorem dX5_fleece_23 : decode cX5_fleece 23 = .ok (.goto 9, 3) := by decide +kernel
theorem dX5_fleece_26 : decode cX5_fleece 26 = .ok (.aload_n 0, 1) := by decide +kernel
theorem dX5_fleece_27 : decode cX5_fleece 27 = .ok (.ldc 41, 2) := by decide +kernel
theorem dX5_fleece_29 : decode cX5_fleece 29 = .ok (.invokevirtual 78, 3) := by decide +kernel
theorem dX5_fleece_32 : decode cX5_fleece 32 = .ok (.ireturn, 1) := by decide +kernel
theorem dX5_can_0 : decode cX5_can 0 = .ok (.aload_n 0, 1) := by decide +kernel
theorem dX5_can_1 : decode cX5_can 1 = .ok (.iload_n 1, 1) := by decide +kernel
theorem dX5_can_2 : decode cX5_can 2 = .ok (.invokevirtual 100, 3) := by decide +kernel
theorem dX5_can_5 : decode cX5_can 5 = .ok (.ifCond .eq 23, 3) := by decide +kernel
theorem dX5_can_8 : decode cX5_can 8 = .ok (.iload_n 2, 1) := by decide +kernel
theorem dX5_can_9 : decode cX5_can 9 = .ok (.i2l, 1) := by decide +kernel
theorem dX5_can_10 : decode cX5_can 10 = .ok (.lconst 0, 1) := by decide +kernel
theorem dX5_can_11 : decode cX5_can 11 = .ok (.ldc2_w 81, 3) := by decide +kernel
theorem dX5_can_14 : decode cX5_can 14 = .ok (.invokestatic 46, 3) := by decide +kernel
theorem dX5_can_17 : decode cX5_can 17 = .ok (.ifCond .eq 11, 3) := by decide +kernel
theorem dX5_can_20 : decode cX5_can 20 = .ok (.iload_n 3, 1) := by decide +kernel
theorem dX5_can_21 : decode cX5_can 21 = .ok (.i2l, 1) := by decide +kernel
theorem dX5_can_22 : decode cX5_can 22 = .ok (.invokestatic 71, 3) := by decide +kernel
theorem dX5_can_25 : decode cX5_can 25 = .ok (.ifCond .ne 10, 3) := by decide +kernel
theorem dX5_can_28 : decode cX5_can 28 = .ok (.aload_n 0, 1) := by decide +kernel
theorem dX5_can_29 : decode cX5_can 29 = .ok (.ldc 41, 2) := by decide +kernel
theorem dX5_can_31 : decode cX5_can 31 = .ok (.invokevirtual 78, 3) := by decide +kernel
theorem dX5_can_34 : decode cX5_can 34 = .ok (.ireturn, 1) := by decide +kernel
theorem dX5_can_35 : decode cX5_can 35 = .ok (.iload_n 2, 1) := by decide +kernel
theorem dX5_can_36 : decode cX5_can 36 = .ok (.ifCond .ne 12, 3) := by decide +kernel
theorem dX5_can_39 : decode cX5_can 39 = .ok (.aload_n 0, 1) := by decide +kernel
theorem dX5_can_40 : decode cX5_can 40 = .ok (.iload_n 1, 1) := by decide +kernel
theorem dX5_can_41 : decode cX5_can 41 = .ok (.iload_n 3, 1) := by decide +kernel
theorem dX5_can_42 : decode cX5_can 42 = .ok (.invokevirtual 106, 3) := by decide +kernel
theorem dX5_can_45 : decode cX5_can 45 = .ok (.goto 22, 3) := by decide +kernel
theorem dX5_can_48 : decode cX5_can 48 = .ok (.iload_n 2, 1) := by decide +kernel
theorem dX5_can_49 : decode cX5_can 49 = .ok (.iconst 1, 1) := by decide +kernel
theorem dX5_can_50 : decode cX5_can 50 = .ok (.if_icmp .ne 11, 3) := by decide +kernel
theorem dX5_can_53 : decode cX5_can 53 = .ok (.aload_n 0, 1) := by decide +kernel
theorem dX5_can_54 : decode cX5_can 54 = .ok (.iload_n 1, 1) := by decide +kernel
theorem dX5_can_55 : decode cX5_can 55 = .ok (.invokevirtual 109, 3) := by decide +kernel
theorem dX5_can_58 : decode cX5_can 58 = .ok (.goto 9, 3) := by decide +kernel
theorem dX5_can_61 : decode cX5_can 61 = .ok (.aload_n 0, 1) := by decide +kernel
theorem dX5_can_62 : decode cX5_can 62 = .ok (.iload_n 1, 1) := by decide +kernel
theorem dX5_can_63 : decode cX5_can 63 = .ok (.iload_n 3, 1) := by decide +kernel
theorem dX5_can_64 : decode cX5_can 64 = .ok (.invokevirtual 112, 3) := by decide +kernel
theorem dX5_can_67 : decode cX5_can 67 = .ok (.ireturn, 1) := by decide +kernel
theorem dX5_scare_0 : decode cX5_scare 0 = .ok (.aload_n 0, 1) := by decide +kernel
theorem dX5_scare_1 : decode cX5_scare 1 = .ok (.iload_n 1, 1) := by decide +kernel
theorem dX5_scare_2 : decode cX5_scare 2 = .ok (.invokevirtual 100, 3) := by decide +kernel
theorem dX5_scare_5 : decode cX5_scare 5 = .ok (.ifCond .eq 28, 3) := by decide +kernel
theorem dX5_scare_8 : decode cX5_scare 8 = .ok (.iload_n 2, 1) := by decide +kernel
theorem dX5_scare_9 : decode cX5_scare 9 = .ok (.i2l, 1) := by decide +kernel
theorem dX5_scare_10 : decode cX5_scare 10 = .ok (.lconst 0, 1) := by decide +kernel
theorem dX5_scare_11 : decode cX5_scare 11 = .ok (.ldc2_w 115, 3) := by decide +kernel
theorem dX5_scare_14 : decode cX5_scare 14 = .ok (.invokestatic 46, 3) := by decide +kernel
theorem dX5_scare_17 : decode cX5_scare 17 = .ok (.ifCond .eq 16, 3) := by decide +kernel
theorem dX5_scare_20 : decode cX5_scare 20 = .ok (.aload_n 0, 1) := by decide +kernel
theorem dX5_scare_21 : decode cX5_scare 21 = .ok (.iload_n 1, 1) := by decide +kernel
theorem dX5_scare_22 : decode cX5_scare 22 = .ok (.iconst 1, 1) := by decide +kernel
theorem dX5_scare_23 : decode cX5_scare 23 = .ok (.invokestatic 42, 3) := by decide +kernel
theorem dX5_scare_26 : decode cX5_scare 26 = .ok (.iload_n 2, 1) := by decide +kernel
theorem dX5_scare_27 : decode cX5_scare 27 = .ok (.invokevirtual 75, 3) := by decide +kernel
theorem dX5_scare_30 : decode cX5_scare 30 = .ok (.goto 9, 3) := by decide +kernel
theorem dX5_scare_33 : decode cX5_scare 33 = .ok (.aload_n 0, 1) := by decide +kernel
theorem dX5_scare_34 : decode cX5_scare 34 = .ok (.ldc 41, 2) := by decide +kernel
theorem dX5_scare_36 : decode cX5_scare 36 = .ok (.invokevirtual 78, 3) := by decide +kernel
theorem dX5_scare_39 : decode cX5_scare 39 = .ok (.ireturn, 1) := by decide +kernel
theorem dX5_turn_0 : decode cX5_turn 0 = .ok (.aload_n 0, 1) := by decide +kernel
theorem dX5_turn_1 : decode cX5_turn 1 = .ok (.iload_n 1, 1) := by decide +kernel
theorem dX5_turn_2 : decode cX5_turn 2 = .ok (.invokevirtual 100, 3) := by decide +kernel
theorem dX5_turn_5 : decode cX5_turn 5 = .ok (.ifCond .eq 23, 3) := by decide +kernel
theorem dX5_turn_8 : decode cX5_turn 8 = .ok (.iload_n 2, 1) := by decide +kernel
theorem dX5_turn_9 : decode cX5_turn 9 = .ok (.invokestatic 93, 3) := by decide +kernel
theorem dX5_turn_12 : decode cX5_turn 12 = .ok (.ifCond .eq 16, 3) := by decide +kernel
theorem dX5_turn_15 : decode cX5_turn 15 = .ok (.aload_n 0, 1) := by decide +kernel
theorem dX5_turn_16 : decode cX5_turn 16 = .ok (.iload_n 1, 1) := by decide +kernel
theorem dX5_turn_17 : decode cX5_turn 17 = .ok (.iconst 0, 1) := by decide +kernel
theorem dX5_turn_18 : decode cX5_turn 18 = .ok (.invokestatic 42, 3) := by decide +kernel
theorem dX5_turn_21 : decode cX5_turn 21 = .ok (.iload_n 2, 1) := by decide +kernel
theorem dX5_turn_22 : decode cX5_turn 22 = .ok (.invokevirtual 75, 3) := by decide +kernel
theorem dX5_turn_25 : decode cX5_turn 25 = .ok (.goto 9, 3) := by decide +kernel
theorem dX5_turn_28 : decode cX5_turn 28 = .ok (.aload_n 0, 1) := by decide +kernel
theorem dX5_turn_29 : decode cX5_turn 29 = .ok (.ldc 41, 2) := by decide +kernel
theorem dX5_turn_31 : decode cX5_turn 31 = .ok (.invokevirtual 78, 3) := by decide +kernel
theorem dX5_turn_34 : decode cX5_turn 34 = .ok (.ireturn, 1) := by decide +kernel
theorem dX5_isUnder_0 : decode cX5_isUnder 0 = .ok (.iload_n 1, 1) := by decide +kernel
theorem dX5_isUnder_1 : decode cX5_isUnder 1 = .ok (.ifCond .eq 28, 3) := by decide +kernel
theorem dX5_isUnder_4 : decode cX5_isUnder 4 = .ok (.iload_n 0, 1) := by decide +kernel
theorem dX5_isUnder_5 : decode cX5_isUnder 5 = .ok (.iload_n 1, 1) := by decide +kernel
theorem dX5_isUnder_6 : decode cX5_isUnder 6 = .ok (.if_icmp .eq 23, 3) := by decide +kernel
theorem dX5_isUnder_9 : decode cX5_isUnder 9 = .ok (.iload_n 0, 1) := by decide +kernel
theorem dX5_isUnder_10 : decode cX5_isUnder 10 = .ok (.iconst 4, 1) := by decide +kernel
theorem dX5_isUnder_11 : decode cX5_isUnder 11 = .ok (.if_icmp .ne 8, 3) := by decide +kernel
theorem dX5_isUnder_14 : decode cX5_isUnder 14 = .ok (.iload_n 1, 1) := by decide +kernel
theorem dX5_isUnder_15 : decode cX5_isUnder 15 = .ok (.iconst 1, 1) := by decide +kernel
theorem dX5_isUnder_16 : decode cX5_isUnder 16 = .ok (.if_icmp .eq 13, 3) := by decide +kernel
theorem dX5_isUnder_19 : decode cX5_isUnder 19 = .ok (.iload_n 0, 1) := by decide +kernel
theorem dX5_isUnder_20 : decode cX5_isUnder 20 = .ok (.iconst 5, 1) := by decide +kernel
theorem dX5_isUnder_21 : decode cX5_isUnder 21 = .ok (.if_icmp .ne 12, 3) := by decide +kernel
theorem dX5_isUnder_24 : decode cX5_isUnder 24 = .ok (.iload_n 1, 1) := by decide +kernel
theorem dX5_isUnder_25 : decode cX5_isUnder 25 = .ok (.iconst 2, 1) := by decide +kernel
theorem dX5_isUnder_26 : decode cX5_isUnder 26 = .ok (.if_icmp .ne 7, 3) := by decide +kernel
theorem dX5_isUnder_29 : decode cX5_isUnder 29 = .ok (.iconst 1, 1) := by decide +kernel
theorem dX5_isUnder_30 : decode cX5_isUnder 30 = .ok (.goto 4, 3) := by decide +kernel
theorem dX5_isUnder_33 : decode cX5_isUnder 33 = .ok (.iconst 0, 1) := by decide +kernel
theorem dX5_isUnder_34 : decode cX5_isUnder 34 = .ok (.ireturn, 1) := by decide +kernel
theorem dX5_as_0 : decode cX5_as 0 = .ok (.aload_n 0, 1) := by decide +kernel
theorem dX5_as_1 : decode cX5_as 1 = .ok (.iload_n 1, 1) := by decide +kernel
theorem dX5_as_2 : decode cX5_as 2 = .ok (.invokevirtual 100, 3) := by decide +kernel
theorem dX5_as_5 : decode cX5_as 5 = .ok (.ifCond .eq 10, 3) := by decide +kernel
theorem dX5_as_8 : decode cX5_as 8 = .ok (.iload_n 2, 1) := by decide +kernel
theorem dX5_as_9 : decode cX5_as 9 = .ok (.invokestatic 93, 3) := by decide +kernel
theorem dX5_as_12 : decode cX5_as 12 = .ok (.ifCond .ne 10, 3) := by decide +kernel
theorem dX5_as_15 : decode cX5_as 15 = .ok (.aload_n 0, 1) := by decide +kernel
theorem dX5_as_16 : decode cX5_as 16 = .ok (.ldc 41, 2) := by decide +kernel
theorem dX5_as_18 : decode cX5_as 18 = .ok (.invokevirtual 78, 3) := by decide +kernel
theorem dX5_as_21 : decode cX5_as 21 = .ok (.ireturn, 1) := by decide +kernel
theorem dX5_as_22 : decode cX5_as 22 = .ok (.aload_n 0, 1) := by decide +kernel
theorem dX5_as_23 : decode cX5_as 23 = .ok (.iload_n 1, 1) := by decide +kernel
theorem dX5_as_24 : decode cX5_as 24 = .ok (.iconst 0, 1) := by decide +kernel
theorem dX5_as_25 : decode cX5_as 25 = .ok (.invokevirtual 90, 3) := by decide +kernel
theorem dX5_as_28 : decode cX5_as 28 = .ok (.iload_n 2, 1) := by decide +kernel
theorem dX5_as_29 : decode cX5_as 29 = .ok (.invokestatic 117, 3) := by decide +kernel
theorem dX5_as_32 : decode cX5_as 32 = .ok (.ifCond .eq 12, 3) := by decide +kernel
theorem dX5_as_35 : decode cX5_as 35 = .ok (.aload_n 0, 1) := by decide +kernel
theorem dX5_as_36 : decode cX5_as 36 = .ok (.iload_n 1, 1) := by decide +kernel
theorem dX5_as_37 : decode cX5_as 37 = .ok (.iconst 1, 1) := by decide +kernel
theorem dX5_as_38 : decode cX5_as 38 = .ok (.invokevirtual 90, 3) := by decide +kernel
theorem dX5_as_41 : decode cX5_as 41 = .ok (.goto 9, 3) := by decide +kernel
theorem dX5_as_44 : decode cX5_as 44 = .ok (.aload_n 0, 1) := by decide +kernel
theorem dX5_as_45 : decode cX5_as 45 = .ok (.ldc 121, 2) := by decide +kernel
theorem dX5_as_47 : decode cX5_as 47 = .ok (.invokevirtual 78, 3) := by decide +kernel
theorem dX5_as_50 : decode cX5_as 50 = .ok (.ireturn, 1) := by decide +kernel
theorem dX5_warmthOf_0 : decode cX5_warmthOf 0 = .ok (.iconst 0, 1) := by decide +kernel
theorem dX5_warmthOf_1 : decode cX5_warmthOf 1 = .ok (.istore_n 2, 1) := by decide +kernel
theorem dX5_warmthOf_2 : decode cX5_warmthOf 2 = .ok (.iconst 0, 1) := by decide +kernel
theorem dX5_warmthOf_3 : decode cX5_warmthOf 3 = .ok (.istore_n 3, 1) := by decide +kernel
theorem dX5_warmthOf_4 : decode cX5_warmthOf 4 = .ok (.iload_n 3, 1) := by decide +kernel
theorem dX5_warmthOf_5 : decode cX5_warmthOf 5 = .ok (.bipush 12, 2) := by decide +kernel
theorem dX5_warmthOf_7 : decode cX5_warmthOf 7 = .ok (.if_icmp .ge 62, 3) := by decide +kernel
theorem dX5_warmthOf_10 : decode cX5_warmthOf 10 = .ok (.aload_n 0, 1) := by decide +kernel
theorem dX5_warmthOf_11 : decode cX5_warmthOf 11 = .ok (.getfield 7, 3) := by decide +kernel
theorem dX5_warmthOf_14 : decode cX5_warmthOf 14 = .ok (.iload_n 1, 1) := by decide +kernel
theorem dX5_warmthOf_15 : decode cX5_warmthOf 15 = .ok (.iload_n 3, 1) := by decide +kernel
theorem dX5_warmthOf_16 : decode cX5_warmthOf 16 = .ok (.invokestatic 122, 3) := by decide +kernel
theorem dX5_warmthOf_19 : decode cX5_warmthOf 19 = .ok (.iaload, 1) := by decide +kernel
theorem dX5_warmthOf_20 : decode cX5_warmthOf 20 = .ok (.istore 4, 2) := by decide +kernel
theorem dX5_warmthOf_22 : decode cX5_warmthOf 22 = .ok (.aload_n 0, 1) := by decide +kernel
theorem dX5_warmthOf_23 : decode cX5_warmthOf 23 = .ok (.getfield 7, 3) := by decide +kernel
theorem dX5_warmthOf_26 : decode cX5_warmthOf 26 = .ok (.iconst 2, 1) := by decide +kernel
theorem dX5_warmthOf_27 : decode cX5_warmthOf 27 = .ok (.iload_n 3, 1) := by decide +kernel
theorem dX5_warmthOf_28 : decode cX5_warmthOf 28 = .ok (.iadd, 1) := by decide +kernel
theorem dX5_warmthOf_29 : decode cX5_warmthOf 29 = .ok (.iaload, 1) := by decide +kernel
theorem dX5_warmthOf_30 : decode cX5_warmthOf 30 = .ok (.istore 5, 2) := by decide +kernel
theorem dX5_warmthOf_32 : decode cX5_warmthOf 32 = .ok (.iload_n 2, 1) := by decide +kernel
theorem dX5_warmthOf_33 : decode cX5_warmthOf 33 = .ok (.iload 5, 2) := by decide +kernel
theorem dX5_warmthOf_35 : decode cX5_warmthOf 35 = .ok (.ifCond .ge 10, 3) := by decide +kernel
theorem dX5_warmthOf_38 : decode cX5_warmthOf 38 = .ok (.iconst 2, 1) := by decide +kernel
theorem dX5_warmthOf_39 : decode cX5_warmthOf 39 = .ok (.iload 4, 2) := by decide +kernel
theorem dX5_warmthOf_41 : decode cX5_warmthOf 41 = .ok (.imul, 1) := by decide +kernel
theorem dX5_warmthOf_42 : decode cX5_warmthOf 42 = .ok (.goto 19, 3) := by decide +kernel
theorem dX5_warmthOf_45 : decode cX5_warmthOf 45 = .ok (.iload 5, 2) := by decide +kernel
theorem dX5_warmthOf_47 : decode cX5_warmthOf 47 = .ok (.bipush 10, 2) := by decide +kernel
theorem dX5_warmthOf_49 : decode cX5_warmthOf 49 = .ok (.if_icmp .le 10, 3) := by decide +kernel
theorem dX5_warmthOf_52 : decode cX5_warmthOf 52 = .ok (.iload 4, 2) := by decide +kernel
theorem dX5_warmthOf_54 : decode cX5_warmthOf 54 = .ok (.iconst 2, 1) := by decide +kernel
theorem dX5_warmthOf_55 : decode cX5_warmthOf 55 = .ok (.idiv, 1) := by decide +kernel
theorem dX5_warmthOf_56 : decode cX5_warmthOf 56 = .ok (.goto 5, 3) := by decide +kernel
theorem dX5_warmthOf_59 : decode cX5_warmthOf 59 = .ok (.iload 4, 2) := by decide +kernel
theorem dX5_warmthOf_61 : decode cX5_warmthOf 61 = .ok (.iadd, 1) := by decide +kernel
theorem dX5_warmthOf_62 : decode cX5_warmthOf 62 = .ok (.istore_n 2, 1) := by decide +kernel
theorem dX5_warmthOf_63 : decode cX5_warmthOf 63 = .ok (.iinc 3 1, 3) := by decide +kernel
theorem dX5_warmthOf_66 : decode cX5_warmthOf 66 = .ok (.goto (-62), 3) := by decide +kernel
theorem dX5_warmthOf_69 : decode cX5_warmthOf 69 = .ok (.iload_n 2, 1) := by decide +kernel
theorem dX5_warmthOf_70 : decode cX5_warmthOf 70 = .ok (.ireturn, 1) := by decide +kernel
theorem dX5_harshOf_0 : decode cX5_harshOf 0 = .ok (.iconst 0, 1) := by decide +kernel
theorem dX5_harshOf_1 : decode cX5_harshOf 1 = .ok (.istore_n 2, 1) := by decide +kernel
theorem dX5_harshOf_2 : decode cX5_harshOf 2 = .ok (.iconst 0, 1) := by decide +kernel
theorem dX5_harshOf_3 : decode cX5_harshOf 3 = .ok (.istore_n 3, 1) := by decide +kernel
theorem dX5_harshOf_4 : decode cX5_harshOf 4 = .ok (.iload_n 3, 1) := by decide +kernel
theorem dX5_harshOf_5 : decode cX5_harshOf 5 = .ok (.bipush 12, 2) := by decide +kernel
theorem dX5_harshOf_7 : decode cX5_harshOf 7 = .ok (.if_icmp .ge 35, 3) := by decide +kernel
theorem dX5_harshOf_10 : decode cX5_harshOf 10 = .ok (.iload_n 2, 1) := by decide +kernel
theorem dX5_harshOf_11 : decode cX5_harshOf 11 = .ok (.aload_n 0, 1) := by decide +kernel
theorem dX5_harshOf_12 : decode cX5_harshOf 12 = .ok (.getfield 7, 3) := by decide +kernel
theorem dX5_harshOf_15 : decode cX5_harshOf 15 = .ok (.iload_n 1, 1) := by decide +kernel
theorem dX5_harshOf_16 : decode cX5_harshOf 16 = .ok (.iload_n 3, 1) := by decide +kernel
theorem dX5_harshOf_17 : decode cX5_harshOf 17 = .ok (.invokestatic 122, 3) := by decide +kernel
theorem dX5_harshOf_20 : decode cX5_harshOf 20 = .ok (.iaload, 1) := by decide +kernel
theorem dX5_harshOf_21 : decode cX5_harshOf 21 = .ok (.aload_n 0, 1) := by decide +kernel
theorem dX5_harshOf_22 : decode cX5_harshOf 22 = .ok (.getfield 7, 3) := by decide +kernel
theorem dX5_harshOf_25 : decode cX5_harshOf 25 = .ok (.bipush 26, 2) := by decide +kernel
theorem dX5_harshOf_27 : decode cX5_harshOf 27 = .ok (.iload_n 3, 1) := by decide +kernel
theorem dX5_harshOf_28 : decode cX5_harshOf 28 = .ok (.iadd, 1) := by decide +kernel
theorem dX5_harshOf_29 : decode cX5_harshOf 29 = .ok (.iaload, 1) := by decide +kernel
theorem dX5_harshOf_30 : decode cX5_harshOf 30 = .ok (.imul, 1) := by decide +kernel
theorem dX5_harshOf_31 : decode cX5_harshOf 31 = .ok (.bipush 100, 2) := by decide +kernel
theorem dX5_harshOf_33 : decode cX5_harshOf 33 = .ok (.idiv, 1) := by decide +kernel
theorem dX5_harshOf_34 : decode cX5_harshOf 34 = .ok (.iadd, 1) := by decide +kernel
theorem dX5_harshOf_35 : decode cX5_harshOf 35 = .ok (.istore_n 2, 1) := by decide +kernel
theorem dX5_harshOf_36 : decode cX5_harshOf 36 = .ok (.iinc 3 1, 3) := by decide +kernel
theorem dX5_harshOf_39 : decode cX5_harshOf 39 = .ok (.goto (-35), 3) := by decide +kernel
theorem dX5_harshOf_42 : decode cX5_harshOf 42 = .ok (.iload_n 2, 1) := by decide +kernel
theorem dX5_harshOf_43 : decode cX5_harshOf 43 = .ok (.ireturn, 1) := by decide +kernel
theorem dX5_monthsIn_0 : decode cX5_monthsIn 0 = .ok (.iconst 0, 1) := by decide +kernel
theorem dX5_monthsIn_1 : decode cX5_monthsIn 1 = .ok (.istore_n 2, 1) := by decide +kernel
theorem dX5_monthsIn_2 : decode cX5_monthsIn 2 = .ok (.iconst 0, 1) := by decide +kernel
theorem dX5_monthsIn_3 : decode cX5_monthsIn 3 = .ok (.istore_n 3, 1) := by decide +kernel
theorem dX5_monthsIn_4 : decode cX5_monthsIn 4 = .ok (.iload_n 3, 1) := by decide +kernel
theorem dX5_monthsIn_5 : decode cX5_monthsIn 5 = .ok (.bipush 12, 2) := by decide +kernel
theorem dX5_monthsIn_7 : decode cX5_monthsIn 7 = .ok (.if_icmp .ge 32, 3) := by decide +kernel
theorem dX5_monthsIn_10 : decode cX5_monthsIn 10 = .ok (.iload_n 2, 1) := by decide +kernel
theorem dX5_monthsIn_11 : decode cX5_monthsIn 11 = .ok (.aload_n 0, 1) := by decide +kernel
theorem dX5_monthsIn_12 : decode cX5_monthsIn 12 = .ok (.getfield 7, 3) := by decide +kernel
theorem dX5_monthsIn_15 : decode cX5_monthsIn 15 = .ok (.iload_n 1, 1) := by decide +kernel
theorem dX5_monthsIn_16 : decode cX5_monthsIn 16 = .ok (.iload_n 3, 1) := by decide +kernel
theorem dX5_monthsIn_17 : decode cX5_monthsIn 17 = .ok (.invokestatic 122, 3) := by decide +kernel
theorem dX5_monthsIn_20 : decode cX5_monthsIn 20 = .ok (.iaload, 1) := by decide +kernel
theorem dX5_monthsIn_21 : decode cX5_monthsIn 21 = .ok (.ifCond .le 9, 3) := by decide +kernel
theorem dX5_monthsIn_24 : decode cX5_monthsIn 24 = .ok (.iconst 1, 1) := by decide +kernel
theorem dX5_monthsIn_25 : decode cX5_monthsIn 25 = .ok (.iload_n 3, 1) := by decide +kernel
theorem dX5_monthsIn_26 : decode cX5_monthsIn 26 = .ok (.ishl, 1) := by decide +kernel
theorem dX5_monthsIn_27 : decode cX5_monthsIn 27 = .ok (.goto 4, 3) := by decide +kernel
theorem dX5_monthsIn_30 : decode cX5_monthsIn 30 = .ok (.iconst 0, 1) := by decide +kernel
theorem dX5_monthsIn_31 : decode cX5_monthsIn 31 = .ok (.ior, 1) := by decide +kernel
theorem dX5_monthsIn_32 : decode cX5_monthsIn 32 = .ok (.istore_n 2, 1) := by decide +kernel
theorem dX5_monthsIn_33 : decode cX5_monthsIn 33 = .ok (.iinc 3 1, 3) := by decide +kernel
theorem dX5_monthsIn_36 : decode cX5_monthsIn 36 = .ok (.goto (-32), 3) := by decide +kernel
theorem dX5_monthsIn_39 : decode cX5_monthsIn 39 = .ok (.iload_n 2, 1) := by decide +kernel
theorem dX5_monthsIn_40 : decode cX5_monthsIn 40 = .ok (.ireturn, 1) := by decide +kernel
theorem dX5_cuts_0 : decode cX5_cuts 0 = .ok (.aload_n 0, 1) := by decide +kernel
theorem dX5_cuts_1 : decode cX5_cuts 1 = .ok (.getfield 7, 3) := by decide +kernel
theorem dX5_cuts_4 : decode cX5_cuts 4 = .ok (.bipush 14, 2) := by decide +kernel
theorem dX5_cuts_6 : decode cX5_cuts 6 = .ok (.iload_n 2, 1) := by decide +kernel
theorem dX5_cuts_7 : decode cX5_cuts 7 = .ok (.iadd, 1) := by decide +kernel
theorem dX5_cuts_8 : decode cX5_cuts 8 = .ok (.dup2, 1) := by decide +kernel
theorem dX5_cuts_9 : decode cX5_cuts 9 = .ok (.iaload, 1) := by decide +kernel
theorem dX5_cuts_10 : decode cX5_cuts 10 = .ok (.iload_n 3, 1) := by decide +kernel
theorem dX5_cuts_11 : decode cX5_cuts 11 = .ok (.isub, 1) := by decide +kernel
theorem dX5_cuts_12 : decode cX5_cuts 12 = .ok (.iastore, 1) := by decide +kernel
theorem dX5_cuts_13 : decode cX5_cuts 13 = .ok (.aload_n 0, 1) := by decide +kernel
theorem dX5_cuts_14 : decode cX5_cuts 14 = .ok (.getfield 7, 3) := by decide +kernel
theorem dX5_cuts_17 : decode cX5_cuts 17 = .ok (.iload_n 1, 1) := by decide +kernel
theorem dX5_cuts_18 : decode cX5_cuts 18 = .ok (.iload_n 2, 1) := by decide +kernel
theorem dX5_cuts_19 : decode cX5_cuts 19 = .ok (.invokestatic 122, 3) := by decide +kernel
theorem dX5_cuts_22 : decode cX5_cuts 22 = .ok (.dup2, 1) := by decide +kernel
theorem dX5_cuts_23 : decode cX5_cuts 23 = .ok (.iaload, 1) := by decide +kernel
theorem dX5_cuts_24 : decode cX5_cuts 24 = .ok (.iload_n 3, 1) := by decide +kernel
theorem dX5_cuts_25 : decode cX5_cuts 25 = .ok (.iadd, 1) := by decide +kernel
theorem dX5_cuts_26 : decode cX5_cuts 26 = .ok (.iastore, 1) := by decide +kernel
theorem dX5_cuts_27 : decode cX5_cuts 27 = .ok (.aload_n 0, 1) := by decide +kernel
theorem dX5_cuts_28 : decode cX5_cuts 28 = .ok (.getfield 7, 3) := by decide +kernel
theorem dX5_cuts_31 : decode cX5_cuts 31 = .ok (.iload_n 1, 1) := by decide +kernel
theorem dX5_cuts_32 : decode cX5_cuts 32 = .ok (.iload_n 2, 1) := by decide +kernel
theorem dX5_cuts_33 : decode cX5_cuts 33 = .ok (.invokestatic 122, 3) := by decide +kernel
theorem dX5_cuts_36 : decode cX5_cuts 36 = .ok (.iaload, 1) := by decide +kernel
theorem dX5_cuts_37 : decode cX5_cuts 37 = .ok (.ireturn, 1) := by decide +kernel
theorem dX5_cut_0 : decode cX5_cut 0 = .ok (.iload_n 1, 1) := by decide +kernel
theorem dX5_cut_1 : decode cX5_cut 1 = .ok (.invokestatic 125, 3) := by decide +kernel
theorem dX5_cut_4 : decode cX5_cut 4 = .ok (.ifCond .eq 22, 3) := by decide +kernel
theorem dX5_cut_7 : decode cX5_cut 7 = .ok (.iload_n 2, 1) := by decide +kernel
theorem dX5_cut_8 : decode cX5_cut 8 = .ok (.invokestatic 67, 3) := by decide +kernel
theorem dX5_cut_11 : decode cX5_cut 11 = .ok (.ifCond .eq 15, 3) := by decide +kernel
theorem dX5_cut_14 : decode cX5_cut 14 = .ok (.iload_n 3, 1) := by decide +kernel
theorem dX5_cut_15 : decode cX5_cut 15 = .ok (.i2l, 1) := by decide +kernel
theorem dX5_cut_16 : decode cX5_cut 16 = .ok (.lconst 1, 1) := by decide +kernel
theorem dX5_cut_17 : decode cX5_cut 17 = .ok (.ldc2_w 128, 3) := by decide +kernel
theorem dX5_cut_20 : decode cX5_cut 20 = .ok (.invokestatic 46, 3) := by decide +kernel
theorem dX5_cut_23 : decode cX5_cut 23 = .ok (.ifCond .ne 10, 3) := by decide +kernel
theorem dX5_cut_26 : decode cX5_cut 26 = .ok (.aload_n 0, 1) := by decide +kernel
theorem dX5_cut_27 : decode cX5_cut 27 = .ok (.ldc 41, 2) := by decide +kernel
theorem dX5_cut_29 : decode cX5_cut 29 = .ok (.invokevirtual 78, 3) := by decide +kernel
theorem dX5_cut_32 : decode cX5_cut 32 = .ok (.ireturn, 1) := by decide +kernel
theorem dX5_cut_33 : decode cX5_cut 33 = .ok (.aload_n 0, 1) := by decide +kernel
theorem dX5_cut_34 : decode cX5_cut 34 = .ok (.getfield 7, 3) := by decide +kernel
theorem dX5_cut_37 : decode cX5_cut 37 = .ok (.bipush 14, 2) := by decide +kernel
theorem dX5_cut_39 : decode cX5_cut 39 = .ok (.iload_n 2, 1) := by decide +kernel
theorem dX5_cut_40 : decode cX5_cut 40 = .ok (.iadd, 1) := by decide +kernel
theorem dX5_cut_41 : decode cX5_cut 41 = .ok (.iaload, 1) := by decide +kernel
theorem dX5_cut_42 : decode cX5_cut 42 = .ok (.iload_n 3, 1) := by decide +kernel
theorem dX5_cut_43 : decode cX5_cut 43 = .ok (.if_icmp .ge 10, 3) := by decide +kernel
theorem dX5_cut_46 : decode cX5_cut 46 = .ok (.aload_n 0, 1) := by decide +kernel
theorem dX5_cut_47 : decode cX5_cut 47 = .ok (.ldc 130, 2) := by decide +kernel
theorem dX5_cut_49 : decode cX5_cut 49 = .ok (.invokevirtual 78, 3) := by decide +kernel
theorem dX5_cut_52 : decode cX5_cut 52 = .ok (.ireturn, 1) := by decide +kernel
theorem dX5_cut_53 : decode cX5_cut 53 = .ok (.aload_n 0, 1) := by decide +kernel
theorem dX5_cut_54 : decode cX5_cut 54 = .ok (.getfield 7, 3) := by decide +kernel
theorem dX5_cut_57 : decode cX5_cut 57 = .ok (.iload_n 1, 1) := by decide +kernel
theorem dX5_cut_58 : decode cX5_cut 58 = .ok (.iload_n 2, 1) := by decide +kernel
theorem dX5_cut_59 : decode cX5_cut 59 = .ok (.invokestatic 122, 3) := by decide +kernel
theorem dX5_cut_62 : decode cX5_cut 62 = .ok (.iaload, 1) := by decide +kernel
theorem dX5_cut_63 : decode cX5_cut 63 = .ok (.iload_n 3, 1) := by decide +kernel
theorem dX5_cut_64 : decode cX5_cut 64 = .ok (.iadd, 1) := by decide +kernel
theorem dX5_cut_65 : decode cX5_cut 65 = .ok (.sipush 999, 3) := by decide +kernel
theorem dX5_cut_68 : decode cX5_cut 68 = .ok (.if_icmp .le 12, 3) := by decide +kernel
theorem dX5_cut_71 : decode cX5_cut 71 = .ok (.aload_n 0, 1) := by decide +kernel
theorem dX5_cut_72 : decode cX5_cut 72 = .ok (.ldc 96, 2) := by decide +kernel
theorem dX5_cut_74 : decode cX5_cut 74 = .ok (.invokevirtual 78, 3) := by decide +kernel
theorem dX5_cut_77 : decode cX5_cut 77 = .ok (.goto 10, 3) := by decide +kernel
theorem dX5_cut_80 : decode cX5_cut 80 = .ok (.aload_n 0, 1) := by decide +kernel
theorem dX5_cut_81 : decode cX5_cut 81 = .ok (.iload_n 1, 1) := by decide +kernel
theorem dX5_cut_82 : decode cX5_cut 82 = .ok (.iload_n 2, 1) := by decide +kernel
theorem dX5_cut_83 : decode cX5_cut 83 = .ok (.iload_n 3, 1) := by decide +kernel
theorem dX5_cut_84 : decode cX5_cut 84 = .ok (.invokevirtual 131, 3) := by decide +kernel
theorem dX5_cut_87 : decode cX5_cut 87 = .ok (.ireturn, 1) := by decide +kernel
theorem dX5_coatOf_0 : decode cX5_coatOf 0 = .ok (.iload_n 1, 1) := by decide +kernel
theorem dX5_coatOf_1 : decode cX5_coatOf 1 = .ok (.invokestatic 125, 3) := by decide +kernel
theorem dX5_coatOf_4 : decode cX5_coatOf 4 = .ok (.ifCond .eq 15, 3) := by decide +kernel
theorem dX5_coatOf_7 : decode cX5_coatOf 7 = .ok (.iload_n 2, 1) := by decide +kernel
theorem dX5_coatOf_8 : decode cX5_coatOf 8 = .ok (.i2l, 1) := by decide +kernel
theorem dX5_coatOf_9 : decode cX5_coatOf 9 = .ok (.lconst 0, 1) := by decide +kernel
theorem dX5_coatOf_10 : decode cX5_coatOf 10 = .ok (.ldc2_w 52, 3) := by decide +kernel
theorem dX5_coatOf_13 : decode cX5_coatOf 13 = .ok (.invokestatic 46, 3) := by decide +kernel
theorem dX5_coatOf_16 : decode cX5_coatOf 16 = .ok (.ifCond .ne 10, 3) := by decide +kernel
theorem dX5_coatOf_19 : decode cX5_coatOf 19 = .ok (.aload_n 0, 1) := by decide +kernel
theorem dX5_coatOf_20 : decode cX5_coatOf 20 = .ok (.ldc 41, 2) := by decide +kernel
theorem dX5_coatOf_22 : decode cX5_coatOf 22 = .ok (.invokevirtual 78, 3) := by decide +kernel
theorem dX5_coatOf_25 : decode cX5_coatOf 25 = .ok (.ireturn, 1) := by decide +kernel
theorem dX5_coatOf_26 : decode cX5_coatOf 26 = .ok (.iload_n 2, 1) := by decide +kernel
theorem dX5_coatOf_27 : decode cX5_coatOf 27 = .ok (.ifCond .ne 11, 3) := by decide +kernel
theorem dX5_coatOf_30 : decode cX5_coatOf 30 = .ok (.aload_n 0, 1) := by decide +kernel
theorem dX5_coatOf_31 : decode cX5_coatOf 31 = .ok (.iload_n 1, 1) := by decide +kernel
theorem dX5_coatOf_32 : decode cX5_coatOf 32 = .ok (.invokevirtual 135, 3) := by decide +kernel
theorem dX5_coatOf_35 : decode cX5_coatOf 35 = .ok (.goto 38, 3) := by decide +kernel
theorem dX5_coatOf_38 : decode cX5_coatOf 38 = .ok (.iload_n 2, 1) := by decide +kernel
theorem dX5_coatOf_39 : decode cX5_coatOf 39 = .ok (.iconst 1, 1) := by decide +kernel
theorem dX5_coatOf_40 : decode cX5_coatOf 40 = .ok (.if_icmp .ne 11, 3) := by decide +kernel
theorem dX5_coatOf_43 : decode cX5_coatOf 43 = .ok (.aload_n 0, 1) := by decide +kernel
theorem dX5_coatOf_44 : decode cX5_coatOf 44 = .ok (.iload_n 1, 1) := by decide +kernel
theorem dX5_coatOf_45 : decode cX5_coatOf 45 = .ok (.invokevirtual 138, 3) := by decide +kernel
theorem dX5_coatOf_48 : decode cX5_coatOf 48 = .ok (.goto 25, 3) := by decide +kernel
theorem dX5_coatOf_51 : decode cX5_coatOf 51 = .ok (.iload_n 2, 1) := by decide +kernel
theorem dX5_coatOf_52 : decode cX5_coatOf 52 = .ok (.iconst 2, 1) := by decide +kernel
theorem dX5_coatOf_53 : decode cX5_coatOf 53 = .ok (.if_icmp .ne 15, 3) := by decide +kernel
theorem dX5_coatOf_56 : decode cX5_coatOf 56 = .ok (.aload_n 0, 1) := by decide +kernel
theorem dX5_coatOf_57 : decode cX5_coatOf 57 = .ok (.iload_n 1, 1) := by decide +kernel
theorem dX5_coatOf_58 : decode cX5_coatOf 58 = .ok (.iconst 0, 1) := by decide +kernel
theorem dX5_coatOf_59 : decode cX5_coatOf 59 = .ok (.invokestatic 122, 3) := by decide +kernel
theorem dX5_coatOf_62 : decode cX5_coatOf 62 = .ok (.invokevirtual 60, 3) := by decide +kernel
theorem dX5_coatOf_65 : decode cX5_coatOf 65 = .ok (.goto 8, 3) := by decide +kernel
theorem dX5_coatOf_68 : decode cX5_coatOf 68 = .ok (.aload_n 0, 1) := by decide +kernel
theorem dX5_coatOf_69 : decode cX5_coatOf 69 = .ok (.iload_n 1, 1) := by decide +kernel
theorem dX5_coatOf_70 : decode cX5_coatOf 70 = .ok (.invokevirtual 141, 3) := by decide +kernel
theorem dX5_coatOf_73 : decode cX5_coatOf 73 = .ok (.ireturn, 1) := by decide +kernel
theorem dX5_unpick_0 : decode cX5_unpick 0 = .ok (.iload_n 1, 1) := by decide +kernel
theorem dX5_unpick_1 : decode cX5_unpick 1 = .ok (.invokestatic 125, 3) := by decide +kernel
theorem dX5_unpick_4 : decode cX5_unpick 4 = .ok (.ifCond .ne 10, 3) := by decide +kernel
theorem dX5_unpick_7 : decode cX5_unpick 7 = .ok (.aload_n 0, 1) := by decide +kernel
theorem dX5_unpick_8 : decode cX5_unpick 8 = .ok (.ldc 41, 2) := by decide +kernel
theorem dX5_unpick_10 : decode cX5_unpick 10 = .ok (.invokevirtual 78, 3) := by decide +kernel
theorem dX5_unpick_13 : decode cX5_unpick 13 = .ok (.ireturn, 1) := by decide +kernel
theorem dX5_unpick_14 : decode cX5_unpick 14 = .ok (.aload_n 0, 1) := by decide +kernel
theorem dX5_unpick_15 : decode cX5_unpick 15 = .ok (.iload_n 1, 1) := by decide +kernel
theorem dX5_unpick_16 : decode cX5_unpick 16 = .ok (.iconst 0, 1) := by decide +kernel
theorem dX5_unpick_17 : decode cX5_unpick 17 = .ok (.invokestatic 122, 3) := by decide +kernel
theorem dX5_unpick_20 : decode cX5_unpick 20 = .ok (.invokevirtual 60, 3) := by decide +kernel
theorem dX5_unpick_23 : decode cX5_unpick 23 = .ok (.istore_n 2, 1) := by decide +kernel
theorem dX5_unpick_24 : decode cX5_unpick 24 = .ok (.iconst 0, 1) := by decide +kernel
theorem dX5_unpick_25 : decode cX5_unpick 25 = .ok (.istore_n 3, 1) := by decide +kernel
theorem dX5_unpick_26 : decode cX5_unpick 26 = .ok (.iload_n 3, 1) := by decide +kernel
theorem dX5_unpick_27 : decode cX5_unpick 27 = .ok (.bipush 12, 2) := by decide +kernel
theorem dX5_unpick_29 : decode cX5_unpick 29 = .ok (.if_icmp .ge 55, 3) := by decide +kernel
theorem dX5_unpick_32 : decode cX5_unpick 32 = .ok (.aload_n 0, 1) := by decide +kernel
theorem dX5_unpick_33 : decode cX5_unpick 33 = .ok (.getfield 7, 3) := by decide +kernel
theorem dX5_unpick_36 : decode cX5_unpick 36 = .ok (.bipush 14, 2) := by decide +kernel
theorem dX5_unpick_38 : decode cX5_unpick 38 = .ok (.iload_n 3, 1) := by decide +kernel
theorem dX5_unpick_39 : decode cX5_unpick 39 = .ok (.iadd, 1) := by decide +kernel
theorem dX5_unpick_40 : decode cX5_unpick 40 = .ok (.aload_n 0, 1) := by decide +kernel
theorem dX5_unpick_41 : decode cX5_unpick 41 = .ok (.getfield 7, 3) := by decide +kernel
theorem dX5_unpick_44 : decode cX5_unpick 44 = .ok (.bipush 14, 2) := by decide +kernel
theorem dX5_unpick_46 : decode cX5_unpick 46 = .ok (.iload_n 3, 1) := by decide +kernel
theorem dX5_unpick_47 : decode cX5_unpick 47 = .ok (.iadd, 1) := by decide +kernel
theorem dX5_unpick_48 : decode cX5_unpick 48 = .ok (.iaload, 1) := by decide +kernel
theorem dX5_unpick_49 : decode cX5_unpick 49 = .ok (.aload_n 0, 1) := by decide +kernel
theorem dX5_unpick_50 : decode cX5_unpick 50 = .ok (.getfield 7, 3) := by decide +kernel
theorem dX5_unpick_53 : decode cX5_unpick 53 = .ok (.iload_n 1, 1) := by decide +kernel
theorem dX5_unpick_54 : decode cX5_unpick 54 = .ok (.iload_n 3, 1) := by decide +kernel
theorem dX5_unpick_55 : decode cX5_unpick 55 = .ok (.invokestatic 122, 3) := by decide +kernel
theorem dX5_unpick_58 : decode cX5_unpick 58 = .ok (.iaload, 1) := by decide +kernel
theorem dX5_unpick_59 : decode cX5_unpick 59 = .ok (.iadd, 1) := by decide +kernel
theorem dX5_unpick_60 : decode cX5_unpick 60 = .ok (.sipush 9999, 3) := by decide +kernel
theorem dX5_unpick_63 : decode cX5_unpick 63 = .ok (.invokestatic 144, 3) := by decide +kernel
theorem dX5_unpick_66 : decode cX5_unpick 66 = .ok (.iastore, 1) := by decide +kernel
theorem dX5_unpick_67 : decode cX5_unpick 67 = .ok (.aload_n 0, 1) := by decide +kernel
theorem dX5_unpick_68 : decode cX5_unpick 68 = .ok (.getfield 7, 3) := by decide +kernel
theorem dX5_unpick_71 : decode cX5_unpick 71 = .ok (.iload_n 1, 1) := by decide +kernel
theorem dX5_unpick_72 : decode cX5_unpick 72 = .ok (.iload_n 3, 1) := by decide +kernel
theorem dX5_unpick_73 : decode cX5_unpick 73 = .ok (.invokestatic 122, 3) := by decide +kernel
theorem dX5_unpick_76 : decode cX5_unpick 76 = .ok (.iconst 0, 1) := by decide +kernel
theorem dX5_unpick_77 : decode cX5_unpick 77 = .ok (.iastore, 1) := by decide +kernel
theorem dX5_unpick_78 : decode cX5_unpick 78 = .ok (.iinc 3 1, 3) := by decide +kernel
theorem dX5_unpick_81 : decode cX5_unpick 81 = .ok (.goto (-55), 3) := by decide +kernel
theorem dX5_unpick_84 : decode cX5_unpick 84 = .ok (.iload_n 2, 1) := by decide +kernel
theorem dX5_unpick_85 : decode cX5_unpick 85 = .ok (.ireturn, 1) := by decide +kernel
theorem dX5_isShorn_0 : decode cX5_isShorn 0 = .ok (.iconst 0, 1) := by decide +kernel
theorem dX5_isShorn_1 : decode cX5_isShorn 1 = .ok (.istore_n 2, 1) := by decide +kernel
theorem dX5_isShorn_2 : decode cX5_isShorn 2 = .ok (.iload_n 2, 1) := by decide +kernel
theorem dX5_isShorn_3 : decode cX5_isShorn 3 = .ok (.bipush 12, 2) := by decide +kernel
theorem dX5_isShorn_5 : decode cX5_isShorn 5 = .ok (.if_icmp .ge 107, 3) := by decide +kernel
theorem dX5_isShorn_8 : decode cX5_isShorn 8 = .ok (.aload_n 0, 1) := by decide +kernel
theorem dX5_isShorn_9 : decode cX5_isShorn 9 = .ok (.iload_n 1, 1) := by decide +kernel
theorem dX5_isShorn_10 : decode cX5_isShorn 10 = .ok (.iconst 2, 1) := by decide +kernel
theorem dX5_isShorn_11 : decode cX5_isShorn 11 = .ok (.iload_n 2, 1) := by decide +kernel
theorem dX5_isShorn_12 : decode cX5_isShorn 12 = .ok (.iadd, 1) := by decide +kernel
theorem dX5_isShorn_13 : decode cX5_isShorn 13 = .ok (.invokevirtual 90, 3) := by decide +kernel
theorem dX5_isShorn_16 : decode cX5_isShorn 16 = .ok (.istore_n 3, 1) := by decide +kernel
theorem dX5_isShorn_17 : decode cX5_isShorn 17 = .ok (.iload_n 3, 1) := by decide +kernel
theorem dX5_isShorn_18 : decode cX5_isShorn 18 = .ok (.ifCond .le 19, 3) := by decide +kernel
theorem dX5_isShorn_21 : decode cX5_isShorn 21 = .ok (.aload_n 0, 1) := by decide +kernel
theorem dX5_isShorn_22 : decode cX5_isShorn 22 = .ok (.iload_n 1, 1) := by decide +kernel
theorem dX5_isShorn_23 : decode cX5_isShorn 23 = .ok (.aload_n 0, 1) := by decide +kernel
theorem dX5_isShorn_24 : decode cX5_isShorn 24 = .ok (.getfield 7, 3) := by decide +kernel
theorem dX5_isShorn_27 : decode cX5_isShorn 27 = .ok (.iconst 2, 1) := by decide +kernel
theorem dX5_isShorn_28 : decode cX5_isShorn 28 = .ok (.iload_n 2, 1) := by decide +kernel
theorem dX5_isShorn_29 : decode cX5_isShorn 29 = .ok (.iadd, 1) := by decide +kernel
theorem dX5_isShorn_30 : decode cX5_isShorn 30 = .ok (.iaload, 1) := by decide +kernel
theorem dX5_isShorn_31 : decode cX5_isShorn 31 = .ok (.invokevirtual 112, 3) := by decide +kernel
theorem dX5_isShorn_34 : decode cX5_isShorn 34 = .ok (.goto 4, 3) := by decide +kernel
theorem dX5_isShorn_37 : decode cX5_isShorn 37 = .ok (.iconst 0, 1) := by decide +kernel
theorem dX5_isShorn_38 : decode cX5_isShorn 38 = .ok (.istore 4, 2) := by decide +kernel
theorem dX5_isShorn_40 : decode cX5_isShorn 40 = .ok (.aload_n 0, 1) := by decide +kernel
theorem dX5_isShorn_41 : decode cX5_isShorn 41 = .ok (.getfield 7, 3) := by decide +kernel
theorem dX5_isShorn_44 : decode cX5_isShorn 44 = .ok (.bipush 14, 2) := by decide +kernel
theorem dX5_isShorn_46 : decode cX5_isShorn 46 = .ok (.iload_n 2, 1) := by decide +kernel
theorem dX5_isShorn_47 : decode cX5_isShorn 47 = .ok (.iadd, 1) := by decide +kernel
theorem dX5_isShorn_48 : decode cX5_isShorn 48 = .ok (.aload_n 0, 1) := by decide +kernel
theorem dX5_isShorn_49 : decode cX5_isShorn 49 = .ok (.getfield 7, 3) := by decide +kernel
theorem dX5_isShorn_52 : decode cX5_isShorn 52 = .ok (.bipush 14, 2) := by decide +kernel
theorem dX5_isShorn_54 : decode cX5_isShorn 54 = .ok (.iload_n 2, 1) := by decide +kernel
theorem dX5_isShorn_55 : decode cX5_isShorn 55 = .ok (.iadd, 1) := by decide +kernel
theorem dX5_isShorn_56 : decode cX5_isShorn 56 = .ok (.iaload, 1) := by decide +kernel
theorem dX5_isShorn_57 : decode cX5_isShorn 57 = .ok (.iload_n 3, 1) := by decide +kernel
theorem dX5_isShorn_58 : decode cX5_isShorn 58 = .ok (.iadd, 1) := by decide +kernel
theorem dX5_isShorn_59 : decode cX5_isShorn 59 = .ok (.sipush 9999, 3) := by decide +kernel
theorem dX5_isShorn_62 : decode cX5_isShorn 62 = .ok (.invokestatic 144, 3) := by decide +kernel
theorem dX5_isShorn_65 : decode cX5_isShorn 65 = .ok (.iastore, 1) := by decide +kernel
theorem dX5_isShorn_66 : decode cX5_isShorn 66 = .ok (.aload_n 0, 1) := by decide +kernel
theorem dX5_isShorn_67 : decode cX5_isShorn 67 = .ok (.getfield 7, 3) := by decide +kernel
theorem dX5_isShorn_70 : decode cX5_isShorn 70 = .ok (.bipush 26, 2) := by decide +kernel
theorem dX5_isShorn_72 : decode cX5_isShorn 72 = .ok (.iload_n 2, 1) := by decide +kernel
theorem dX5_isShorn_73 : decode cX5_isShorn 73 = .ok (.iadd, 1) := by decide +kernel
theorem dX5_isShorn_74 : decode cX5_isShorn 74 = .ok (.aload_n 0, 1) := by decide +kernel
theorem dX5_isShorn_75 : decode cX5_isShorn 75 = .ok (.getfield 7, 3) := by decide +kernel
theorem dX5_isShorn_78 : decode cX5_isShorn 78 = .ok (.bipush 26, 2) := by decide +kernel
theorem dX5_isShorn_80 : decode cX5_isShorn 80 = .ok (.iload_n 2, 1) := by decide +kernel
theorem dX5_isShorn_81 : decode cX5_isShorn 81 = .ok (.iadd, 1) := by decide +kernel
theorem dX5_isShorn_82 : decode cX5_isShorn 82 = .ok (.iaload, 1) := by decide +kernel
theorem dX5_isShorn_83 : decode cX5_isShorn 83 = .ok (.iload 4, 2) := by decide +kernel
theorem dX5_isShorn_85 : decode cX5_isShorn 85 = .ok (.iadd, 1) := by decide +kernel
theorem dX5_isShorn_86 : decode cX5_isShorn 86 = .ok (.sipush 9999, 3) := by decide +kernel
theorem dX5_isShorn_89 : decode cX5_isShorn 89 = .ok (.invokestatic 144, 3) := by decide +kernel
theorem dX5_isShorn_92 : decode cX5_isShorn 92 = .ok (.iastore, 1) := by decide +kernel
theorem dX5_isShorn_93 : decode cX5_isShorn 93 = .ok (.aload_n 0, 1) := by decide +kernel
theorem dX5_isShorn_94 : decode cX5_isShorn 94 = .ok (.getfield 7, 3) := by decide +kernel
theorem dX5_isShorn_97 : decode cX5_isShorn 97 = .ok (.iload_n 1, 1) := by decide +kernel
theorem dX5_isShorn_98 : decode cX5_isShorn 98 = .ok (.iconst 2, 1) := by decide +kernel
theorem dX5_isShorn_99 : decode cX5_isShorn 99 = .ok (.iload_n 2, 1) := by decide +kernel
theorem dX5_isShorn_100 : decode cX5_isShorn 100 = .ok (.iadd, 1) := by decide +kernel
theorem dX5_isShorn_101 : decode cX5_isShorn 101 = .ok (.invokestatic 42, 3) := by decide +kernel
theorem dX5_isShorn_104 : decode cX5_isShorn 104 = .ok (.iconst 0, 1) := by decide +kernel
theorem dX5_isShorn_105 : decode cX5_isShorn 105 = .ok (.iastore, 1) := by decide +kernel
theorem dX5_isShorn_106 : decode cX5_isShorn 106 = .ok (.iinc 2 1, 3) := by decide +kernel
theorem dX5_isShorn_109 : decode cX5_isShorn 109 = .ok (.goto (-107), 3) := by decide +kernel
theorem dX5_isShorn_112 : decode cX5_isShorn 112 = .ok (.return_, 1) := by decide +kernel
theorem dX5_month_0 : decode cX5_month 0 = .ok (.aload_n 0, 1) := by decide +kernel
theorem dX5_month_1 : decode cX5_month 1 = .ok (.invokevirtual 83, 3) := by decide +kernel
theorem dX5_month_4 : decode cX5_month 4 = .ok (.istore_n 1, 1) := by decide +kernel
theorem dX5_month_5 : decode cX5_month 5 = .ok (.iconst 0, 1) := by decide +kernel
theorem dX5_month_6 : decode cX5_month 6 = .ok (.istore_n 2, 1) := by decide +kernel
theorem dX5_month_7 : decode cX5_month 7 = .ok (.iload_n 2, 1) := by decide +kernel
theorem dX5_month_8 : decode cX5_month 8 = .ok (.aload_n 0, 1) := by decide +kernel
theorem dX5_month_9 : decode cX5_month 9 = .ok (.getfield 7, 3) := by decide +kernel
theorem dX5_month_12 : decode cX5_month 12 = .ok (.iconst 1, 1) := by decide +kernel
theorem dX5_month_13 : decode cX5_month 13 = .ok (.iaload, 1) := by decide +kernel
theorem dX5_month_14 : decode cX5_month 14 = .ok (.if_icmp .ge 77, 3) := by decide +kernel
theorem dX5_month_17 : decode cX5_month 17 = .ok (.aload_n 0, 1) := by decide +kernel
theorem dX5_month_18 : decode cX5_month 18 = .ok (.iload_n 2, 1) := by decide +kernel
theorem dX5_month_19 : decode cX5_month 19 = .ok (.aload_n 0, 1) := by decide +kernel
theorem dX5_month_20 : decode cX5_month 20 = .ok (.getfield 7, 3) := by decide +kernel
theorem dX5_month_23 : decode cX5_month 23 = .ok (.iconst 2, 1) := by decide +kernel
theorem dX5_month_24 : decode cX5_month 24 = .ok (.iload_n 1, 1) := by decide +kernel
theorem dX5_month_25 : decode cX5_month 25 = .ok (.iadd, 1) := by decide +kernel
theorem dX5_month_26 : decode cX5_month 26 = .ok (.iaload, 1) := by decide +kernel
theorem dX5_month_27 : decode cX5_month 27 = .ok (.invokevirtual 106, 3) := by decide +kernel
theorem dX5_month_30 : decode cX5_month 30 = .ok (.istore_n 3, 1) := by decide +kernel
theorem dX5_month_31 : decode cX5_month 31 = .ok (.aload_n 0, 1) := by decide +kernel
theorem dX5_month_32 : decode cX5_month 32 = .ok (.getfield 7, 3) := by decide +kernel
theorem dX5_month_35 : decode cX5_month 35 = .ok (.iload_n 2, 1) := by decide +kernel
theorem dX5_month_36 : decode cX5_month 36 = .ok (.iconst 2, 1) := by decide +kernel
theorem dX5_month_37 : decode cX5_month 37 = .ok (.iload_n 1, 1) := by decide +kernel
theorem dX5_month_38 : decode cX5_month 38 = .ok (.iadd, 1) := by decide +kernel
theorem dX5_month_39 : decode cX5_month 39 = .ok (.invokestatic 42, 3) := by decide +kernel
theorem dX5_month_42 : decode cX5_month 42 = .ok (.iload_n 3, 1) := by decide +kernel
theorem dX5_month_43 : decode cX5_month 43 = .ok (.aload_n 0, 1) := by decide +kernel
theorem dX5_month_44 : decode cX5_month 44 = .ok (.iload_n 2, 1) := by decide +kernel
theorem dX5_month_45 : decode cX5_month 45 = .ok (.invokevirtual 109, 3) := by decide +kernel
theorem dX5_month_48 : decode cX5_month 48 = .ok (.iload_n 3, 1) := by decide +kernel
theorem dX5_month_49 : decode cX5_month 49 = .ok (.invokestatic 144, 3) := by decide +kernel
theorem dX5_month_52 : decode cX5_month 52 = .ok (.isub, 1) := by decide +kernel
theorem dX5_month_53 : decode cX5_month 53 = .ok (.iastore, 1) := by decide +kernel
theorem dX5_month_54 : decode cX5_month 54 = .ok (.aload_n 0, 1) := by decide +kernel
theorem dX5_month_55 : decode cX5_month 55 = .ok (.getfield 7, 3) := by decide +kernel
theorem dX5_month_58 : decode cX5_month 58 = .ok (.iload_n 2, 1) := by decide +kernel
theorem dX5_month_59 : decode cX5_month 59 = .ok (.iconst 1, 1) := by decide +kernel
theorem dX5_month_60 : decode cX5_month 60 = .ok (.invokestatic 42, 3) := by decide +kernel
theorem dX5_month_63 : decode cX5_month 63 = .ok (.aload_n 0, 1) := by decide +kernel
theorem dX5_month_64 : decode cX5_month 64 = .ok (.iload_n 2, 1) := by decide +kernel
theorem dX5_month_65 : decode cX5_month 65 = .ok (.iconst 1, 1) := by decide +kernel
theorem dX5_month_66 : decode cX5_month 66 = .ok (.invokevirtual 90, 3) := by decide +kernel
theorem dX5_month_69 : decode cX5_month 69 = .ok (.aload_n 0, 1) := by decide +kernel
theorem dX5_month_70 : decode cX5_month 70 = .ok (.iload_n 2, 1) := by decide +kernel
theorem dX5_month_71 : decode cX5_month 71 = .ok (.invokevirtual 103, 3) := by decide +kernel
theorem dX5_month_74 : decode cX5_month 74 = .ok (.aload_n 0, 1) := by decide +kernel
theorem dX5_month_75 : decode cX5_month 75 = .ok (.iload_n 2, 1) := by decide +kernel
theorem dX5_month_76 : decode cX5_month 76 = .ok (.iconst 1, 1) := by decide +kernel
theorem dX5_month_77 : decode cX5_month 77 = .ok (.invokevirtual 90, 3) := by decide +kernel
theorem dX5_month_80 : decode cX5_month 80 = .ok (.invokestatic 144, 3) := by decide +kernel
theorem dX5_month_83 : decode cX5_month 83 = .ok (.isub, 1) := by decide +kernel
theorem dX5_month_84 : decode cX5_month 84 = .ok (.iastore, 1) := by decide +kernel
theorem dX5_month_85 : decode cX5_month 85 = .ok (.iinc 2 1, 3) := by decide +kernel
theorem dX5_month_88 : decode cX5_month 88 = .ok (.goto (-81), 3) := by decide +kernel
theorem dX5_month_91 : decode cX5_month 91 = .ok (.iconst 0, 1) := by decide +kernel
theorem dX5_month_92 : decode cX5_month 92 = .ok (.istore_n 2, 1) := by decide +kernel
theorem dX5_month_93 : decode cX5_month 93 = .ok (.iload_n 2, 1) := by decide +kernel
theorem dX5_month_94 : decode cX5_month 94 = .ok (.aload_n 0, 1) := by decide +kernel
theorem dX5_month_95 : decode cX5_month 95 = .ok (.getfield 7, 3) := by decide +kernel
theorem dX5_month_98 : decode cX5_month 98 = .ok (.iconst 1, 1) := by decide +kernel
theorem dX5_month_99 : decode cX5_month 99 = .ok (.iaload, 1) := by decide +kernel
theorem dX5_month_100 : decode cX5_month 100 = .ok (.if_icmp .ge 19, 3) := by decide +kernel
theorem dX5_month_103 : decode cX5_month 103 = .ok (.iload_n 1, 1) := by decide +kernel
theorem dX5_month_104 : decode cX5_month 104 = .ok (.iconst 5, 1) := by decide +kernel
theorem dX5_month_105 : decode cX5_month 105 = .ok (.if_icmp .ne 14, 3) := by decide +kernel
theorem dX5_month_108 : decode cX5_month 108 = .ok (.aload_n 0, 1) := by decide +kernel
theorem dX5_month_109 : decode cX5_month 109 = .ok (.iload_n 2, 1) := by decide +kernel
theorem dX5_month_110 : decode cX5_month 110 = .ok (.invokevirtual 147, 3) := by decide +kernel
theorem dX5_month_113 : decode cX5_month 113 = .ok (.iinc 2 1, 3) := by decide +kernel
theorem dX5_month_116 : decode cX5_month 116 = .ok (.goto (-23), 3) := by decide +kernel
theorem dX5_month_119 : decode cX5_month 119 = .ok (.aload_n 0, 1) := by decide +kernel
theorem dX5_month_120 : decode cX5_month 120 = .ok (.getfield 7, 3) := by decide +kernel
theorem dX5_month_123 : decode cX5_month 123 = .ok (.iconst 0, 1) := by decide +kernel
theorem dX5_month_124 : decode cX5_month 124 = .ok (.dup2, 1) := by decide +kernel
theorem dX5_month_125 : decode cX5_month 125 = .ok (.iaload, 1) := by decide +kernel
theorem dX5_month_126 : decode cX5_month 126 = .ok (.iconst 1, 1) := by decide +kernel
theorem dX5_month_127 : decode cX5_month 127 = .ok (.iadd, 1) := by decide +kernel
theorem dX5_month_128 : decode cX5_month 128 = .ok (.iastore, 1) := by decide +kernel
theorem dX5_month_129 : decode cX5_month 129 = .ok (.return_, 1) := by decide +kernel
theorem dX5_monthsGo_0 : decode cX5_monthsGo 0 = .ok (.iconst 0, 1) := by decide +kernel
theorem dX5_monthsGo_1 : decode cX5_monthsGo 1 = .ok (.istore_n 2, 1) := by decide +kernel
theorem dX5_monthsGo_2 : decode cX5_monthsGo 2 = .ok (.iload_n 2, 1) := by decide +kernel
theorem dX5_monthsGo_3 : decode cX5_monthsGo 3 = .ok (.iload_n 1, 1) := by decide +kernel
theorem dX5_monthsGo_4 : decode cX5_monthsGo 4 = .ok (.if_icmp .ge 13, 3) := by decide +kernel
theorem dX5_monthsGo_7 : decode cX5_monthsGo 7 = .ok (.aload_n 0, 1) := by decide +kernel
theorem dX5_monthsGo_8 : decode cX5_monthsGo 8 = .ok (.invokevirtual 151, 3) := by decide +kernel
theorem dX5_monthsGo_11 : decode cX5_monthsGo 11 = .ok (.iinc 2 1, 3) := by decide +kernel
theorem dX5_monthsGo_14 : decode cX5_monthsGo 14 = .ok (.goto (-12), 3) := by decide +kernel
theorem dX5_monthsGo_17 : decode cX5_monthsGo 17 = .ok (.return_, 1) := by decide +kernel
theorem dX5_months_0 : decode cX5_months 0 = .ok (.iload_n 1, 1) := by decide +kernel
theorem dX5_months_1 : decode cX5_months 1 = .ok (.i2l, 1) := by decide +kernel
theorem dX5_months_2 : decode cX5_months 2 = .ok (.lconst 1, 1) := by decide +kernel
theorem dX5_months_3 : decode cX5_months 3 = .ok (.ldc2_w 154, 3) := by decide +kernel
theorem dX5_months_6 : decode cX5_months 6 = .ok (.invokestatic 46, 3) := by decide +kernel
theorem dX5_months_9 : decode cX5_months 9 = .ok (.ifCond .ne 10, 3) := by decide +kernel
theorem dX5_months_12 : decode cX5_months 12 = .ok (.aload_n 0, 1) := by decide +kernel
theorem dX5_months_13 : decode cX5_months 13 = .ok (.ldc 41, 2) := by decide +kernel
theorem dX5_months_15 : decode cX5_months 15 = .ok (.invokevirtual 78, 3) := by decide +kernel
theorem dX5_months_18 : decode cX5_months 18 = .ok (.ireturn, 1) := by decide +kernel
theorem dX5_months_19 : decode cX5_months 19 = .ok (.aload_n 0, 1) := by decide +kernel
theorem dX5_months_20 : decode cX5_months 20 = .ok (.getfield 7, 3) := by decide +kernel
theorem dX5_months_23 : decode cX5_months 23 = .ok (.iconst 0, 1) := by decide +kernel
theorem dX5_months_24 : decode cX5_months 24 = .ok (.iaload, 1) := by decide +kernel
theorem dX5_months_25 : decode cX5_months 25 = .ok (.iload_n 1, 1) := by decide +kernel
theorem dX5_months_26 : decode cX5_months 26 = .ok (.iadd, 1) := by decide +kernel
theorem dX5_months_27 : decode cX5_months 27 = .ok (.sipush 9999, 3) := by decide +kernel
theorem dX5_months_30 : decode cX5_months 30 = .ok (.if_icmp .le 10, 3) := by decide +kernel
theorem dX5_months_33 : decode cX5_months 33 = .ok (.aload_n 0, 1) := by decide +kernel
theorem dX5_months_34 : decode cX5_months 34 = .ok (.ldc 130, 2) := by decide +kernel
theorem dX5_months_36 : decode cX5_months 36 = .ok (.invokevirtual 78, 3) := by decide +kernel
theorem dX5_months_39 : decode cX5_months 39 = .ok (.ireturn, 1) := by decide +kernel
theorem dX5_months_40 : decode cX5_months 40 = .ok (.aload_n 0, 1) := by decide +kernel
theorem dX5_months_41 : decode cX5_months 41 = .ok (.iload_n 1, 1) := by decide +kernel
theorem dX5_months_42 : decode cX5_months 42 = .ok (.invokevirtual 156, 3) := by decide +kernel
theorem dX5_months_45 : decode cX5_months 45 = .ok (.aload_n 0, 1) := by decide +kernel
theorem dX5_months_46 : decode cX5_months 46 = .ok (.bipush 14, 2) := by decide +kernel
theorem dX5_months_48 : decode cX5_months 48 = .ok (.invokevirtual 60, 3) := by decide +kernel
theorem dX5_months_51 : decode cX5_months 51 = .ok (.ireturn, 1) := by decide +kernel
theorem dX5_isAhead_0 : decode cX5_isAhead 0 = .ok (.iload_n 0, 1) := by decide +kernel
theorem dX5_isAhead_1 : decode cX5_isAhead 1 = .ok (.i2l, 1) := by decide +kernel
theorem dX5_isAhead_2 : decode cX5_isAhead 2 = .ok (.lconst 0, 1) := by decide +kernel
theorem dX5_isAhead_3 : decode cX5_isAhead 3 = .ok (.ldc2_w 159, 3) := by decide +kernel
theorem dX5_isAhead_6 : decode cX5_isAhead 6 = .ok (.invokestatic 46, 3) := by decide +kernel
theorem dX5_isAhead_9 : decode cX5_isAhead 9 = .ok (.ireturn, 1) := by decide +kernel
theorem dX5_behind_0 : decode cX5_behind 0 = .ok (.aload_n 0, 1) := by decide +kernel
theorem dX5_behind_1 : decode cX5_behind 1 = .ok (.invokevirtual 161, 3) := by decide +kernel
theorem dX5_behind_4 : decode cX5_behind 4 = .ok (.aload_n 0, 1) := by decide +kernel
theorem dX5_behind_5 : decode cX5_behind 5 = .ok (.iload_n 2, 1) := by decide +kernel
theorem dX5_behind_6 : decode cX5_behind 6 = .ok (.invokevirtual 156, 3) := by decide +kernel
theorem dX5_behind_9 : decode cX5_behind 9 = .ok (.aload_n 0, 1) := by decide +kernel
theorem dX5_behind_10 : decode cX5_behind 10 = .ok (.aload_n 0, 1) := by decide +kernel
theorem dX5_behind_11 : decode cX5_behind 11 = .ok (.getfield 7, 3) := by decide +kernel
theorem dX5_behind_14 : decode cX5_behind 14 = .ok (.iload_n 1, 1) := by decide +kernel
theorem dX5_behind_15 : decode cX5_behind 15 = .ok (.iaload, 1) := by decide +kernel
theorem dX5_behind_16 : decode cX5_behind 16 = .ok (.invokevirtual 164, 3) := by decide +kernel
theorem dX5_behind_19 : decode cX5_behind 19 = .ok (.ireturn, 1) := by decide +kernel
theorem dX5_twelveBehind_0 : decode cX5_twelveBehind 0 = .ok (.aload_n 0, 1) := by decide +kernel
theorem dX5_twelveBehind_1 : decode cX5_twelveBehind 1 = .ok (.invokevirtual 161, 3) := by decide +kernel
theorem dX5_twelveBehind_4 : decode cX5_twelveBehind 4 = .ok (.aload_n 0, 1) := by decide +kernel
theorem dX5_twelveBehind_5 : decode cX5_twelveBehind 5 = .ok (.iload_n 2, 1) := by decide +kernel
theorem dX5_twelveBehind_6 : decode cX5_twelveBehind 6 = .ok (.invokevirtual 156, 3) := by decide +kernel
theorem dX5_twelveBehind_9 : decode cX5_twelveBehind 9 = .ok (.aload_n 0, 1) := by decide +kernel
theorem dX5_twelveBehind_10 : decode cX5_twelveBehind 10 = .ok (.aload_n 0, 1) := by decide +kernel
theorem dX5_twelveBehind_11 : decode cX5_twelveBehind 11 = .ok (.iload_n 1, 1) := by decide +kernel
theorem dX5_twelveBehind_12 : decode cX5_twelveBehind 12 = .ok (.invokevirtual 60, 3) := by decide +kernel
theorem dX5_twelveBehind_15 : decode cX5_twelveBehind 15 = .ok (.invokevirtual 164, 3) := by decide +kernel
theorem dX5_twelveBehind_18 : decode cX5_twelveBehind 18 = .ok (.ireturn, 1) := by decide +kernel
theorem dX5_on_0 : decode cX5_on 0 = .ok (.aload_n 0, 1) := by decide +kernel
theorem dX5_on_1 : decode cX5_on 1 = .ok (.iload_n 1, 1) := by decide +kernel
theorem dX5_on_2 : decode cX5_on 2 = .ok (.invokevirtual 100, 3) := by decide +kernel
theorem dX5_on_5 : decode cX5_on 5 = .ok (.ifCond .eq 20, 3) := by decide +kernel
theorem dX5_on_8 : decode cX5_on 8 = .ok (.iload_n 2, 1) := by decide +kernel
theorem dX5_on_9 : decode cX5_on 9 = .ok (.invokestatic 167, 3) := by decide +kernel
theorem dX5_on_12 : decode cX5_on 12 = .ok (.ifCond .eq 13, 3) := by decide +kernel
theorem dX5_on_15 : decode cX5_on 15 = .ok (.iload_n 3, 1) := by decide +kernel
theorem dX5_on_16 : decode cX5_on 16 = .ok (.i2l, 1) := by decide +kernel
theorem dX5_on_17 : decode cX5_on 17 = .ok (.lconst 0, 1) := by decide +kernel
theorem dX5_on_18 : decode cX5_on 18 = .ok (.lconst 1, 1) := by decide +kernel
theorem dX5_on_19 : decode cX5_on 19 = .ok (.invokestatic 46, 3) := by decide +kernel
theorem dX5_on_22 : decode cX5_on 22 = .ok (.ifCond .ne 10, 3) := by decide +kernel
theorem dX5_on_25 : decode cX5_on 25 = .ok (.aload_n 0, 1) := by decide +kernel
theorem dX5_on_26 : decode cX5_on 26 = .ok (.ldc 41, 2) := by decide +kernel
theorem dX5_on_28 : decode cX5_on 28 = .ok (.invokevirtual 78, 3) := by decide +kernel
theorem dX5_on_31 : decode cX5_on 31 = .ok (.ireturn, 1) := by decide +kernel
theorem dX5_on_32 : decode cX5_on 32 = .ok (.iload_n 3, 1) := by decide +kernel
theorem dX5_on_33 : decode cX5_on 33 = .ok (.ifCond .ne 16, 3) := by decide +kernel
theorem dX5_on_36 : decode cX5_on 36 = .ok (.aload_n 0, 1) := by decide +kernel
theorem dX5_on_37 : decode cX5_on 37 = .ok (.iload_n 1, 1) := by decide +kernel
theorem dX5_on_38 : decode cX5_on 38 = .ok (.iconst 2, 1) := by decide +kernel
theorem dX5_on_39 : decode cX5_on 39 = .ok (.invokestatic 42, 3) := by decide +kernel
theorem dX5_on_42 : decode cX5_on 42 = .ok (.iload_n 2, 1) := by decide +kernel
theorem dX5_on_43 : decode cX5_on 43 = .ok (.invokevirtual 170, 3) := by decide +kernel
theorem dX5_on_46 : decode cX5_on 46 = .ok (.goto 13, 3) := by decide +kernel
theorem dX5_on_49 : decode cX5_on 49 = .ok (.aload_n 0, 1) := by decide +kernel
theorem dX5_on_50 : decode cX5_on 50 = .ok (.iload_n 1, 1) := by decide +kernel
theorem dX5_on_51 : decode cX5_on 51 = .ok (.iconst 1, 1) := by decide +kernel
theorem dX5_on_52 : decode cX5_on 52 = .ok (.invokestatic 42, 3) := by decide +kernel
theorem dX5_on_55 : decode cX5_on 55 = .ok (.iload_n 2, 1) := by decide +kernel
theorem dX5_on_56 : decode cX5_on 56 = .ok (.invokevirtual 173, 3) := by decide +kernel
theorem dX5_on_59 : decode cX5_on 59 = .ok (.ireturn, 1) := by decide +kernel
theorem dX5_then_0 : decode cX5_then 0 = .ok (.iload_n 1, 1) := by decide +kernel
theorem dX5_then_1 : decode cX5_then 1 = .ok (.invokestatic 67, 3) := by decide +kernel
theorem dX5_then_4 : decode cX5_then 4 = .ok (.ifCond .eq 20, 3) := by decide +kernel
theorem dX5_then_7 : decode cX5_then 7 = .ok (.iload_n 2, 1) := by decide +kernel
theorem dX5_then_8 : decode cX5_then 8 = .ok (.invokestatic 167, 3) := by decide +kernel
theorem dX5_then_11 : decode cX5_then 11 = .ok (.ifCond .eq 13, 3) := by decide +kernel
theorem dX5_then_14 : decode cX5_then 14 = .ok (.iload_n 3, 1) := by decide +kernel
theorem dX5_then_15 : decode cX5_then 15 = .ok (.i2l, 1) := by decide +kernel
theorem dX5_then_16 : decode cX5_then 16 = .ok (.lconst 0, 1) := by decide +kernel
theorem dX5_then_17 : decode cX5_then 17 = .ok (.lconst 1, 1) := by decide +kernel
theorem dX5_then_18 : decode cX5_then 18 = .ok (.invokestatic 46, 3) := by decide +kernel
theorem dX5_then_21 : decode cX5_then 21 = .ok (.ifCond .ne 10, 3) := by decide +kernel
theorem dX5_then_24 : decode cX5_then 24 = .ok (.aload_n 0, 1) := by decide +kernel
theorem dX5_then_25 : decode cX5_then 25 = .ok (.ldc 41, 2) := by decide +kernel
theorem dX5_then_27 : decode cX5_then 27 = .ok (.invokevirtual 78, 3) := by decide +kernel
theorem dX5_then_30 : decode cX5_then 30 = .ok (.ireturn, 1) := by decide +kernel
theorem dX5_then_31 : decode cX5_then 31 = .ok (.aload_n 0, 1) := by decide +kernel
theorem dX5_then_32 : decode cX5_then 32 = .ok (.iload_n 3, 1) := by decide +kernel
theorem dX5_then_33 : decode cX5_then 33 = .ok (.ifCond .ne 8, 3) := by decide +kernel
theorem dX5_then_36 : decode cX5_then 36 = .ok (.bipush 14, 2) := by decide +kernel
theorem dX5_then_38 : decode cX5_then 38 = .ok (.goto 5, 3) := by decide +kernel
theorem dX5_then_41 : decode cX5_then 41 = .ok (.bipush 26, 2) := by decide +kernel
theorem dX5_then_43 : decode cX5_then 43 = .ok (.iload_n 1, 1) := by decide +kernel
theorem dX5_then_44 : decode cX5_then 44 = .ok (.iadd, 1) := by decide +kernel
theorem dX5_then_45 : decode cX5_then 45 = .ok (.iload_n 2, 1) := by decide +kernel
theorem dX5_then_46 : decode cX5_then 46 = .ok (.invokevirtual 173, 3) := by decide +kernel
theorem dX5_then_49 : decode cX5_then 49 = .ok (.ireturn, 1) := by decide +kernel
theorem dX5_firstAs_0 : decode cX5_firstAs 0 = .ok (.aload_n 0, 1) := by decide +kernel
theorem dX5_firstAs_1 : decode cX5_firstAs 1 = .ok (.invokevirtual 161, 3) := by decide +kernel
theorem dX5_firstAs_4 : decode cX5_firstAs 4 = .ok (.iconst 0, 1) := by decide +kernel
theorem dX5_firstAs_5 : decode cX5_firstAs 5 = .ok (.istore 4, 2) := by decide +kernel
theorem dX5_firstAs_7 : decode cX5_firstAs 7 = .ok (.iload 4, 2) := by decide +kernel
theorem dX5_firstAs_9 : decode cX5_firstAs 9 = .ok (.bipush 120, 2) := by decide +kernel
theorem dX5_firstAs_11 : decode cX5_firstAs 11 = .ok (.if_icmp .gt 25, 3) := by decide +kernel
theorem dX5_firstAs_14 : decode cX5_firstAs 14 = .ok (.iload_n 2, 1) := by decide +kernel
theorem dX5_firstAs_15 : decode cX5_firstAs 15 = .ok (.aload_n 0, 1) := by decide +kernel
theorem dX5_firstAs_16 : decode cX5_firstAs 16 = .ok (.getfield 7, 3) := by decide +kernel
theorem dX5_firstAs_19 : decode cX5_firstAs 19 = .ok (.iload_n 1, 1) := by decide +kernel
theorem dX5_firstAs_20 : decode cX5_firstAs 20 = .ok (.iaload, 1) := by decide +kernel
theorem dX5_firstAs_21 : decode cX5_firstAs 21 = .ok (.imul, 1) := by decide +kernel
theorem dX5_firstAs_22 : decode cX5_firstAs 22 = .ok (.iload_n 3, 1) := by decide +kernel
theorem dX5_firstAs_23 : decode cX5_firstAs 23 = .ok (.if_icmp .ge 13, 3) := by decide +kernel
theorem dX5_firstAs_26 : decode cX5_firstAs 26 = .ok (.aload_n 0, 1) := by decide +kernel
theorem dX5_firstAs_27 : decode cX5_firstAs 27 = .ok (.invokevirtual 151, 3) := by decide +kernel
theorem dX5_firstAs_30 : decode cX5_firstAs 30 = .ok (.iinc 4 1, 3) := by decide +kernel
theorem dX5_firstAs_33 : decode cX5_firstAs 33 = .ok (.goto (-26), 3) := by decide +kernel
theorem dX5_firstAs_36 : decode cX5_firstAs 36 = .ok (.aload_n 0, 1) := by decide +kernel
theorem dX5_firstAs_37 : decode cX5_firstAs 37 = .ok (.iload 4, 2) := by decide +kernel
theorem dX5_firstAs_39 : decode cX5_firstAs 39 = .ok (.invokevirtual 164, 3) := by decide +kernel
theorem dX5_firstAs_42 : decode cX5_firstAs 42 = .ok (.istore 5, 2) := by decide +kernel
theorem dX5_firstAs_44 : decode cX5_firstAs 44 = .ok (.iload 5, 2) := by decide +kernel
theorem dX5_firstAs_46 : decode cX5_firstAs 46 = .ok (.bipush 120, 2) := by decide +kernel
theorem dX5_firstAs_48 : decode cX5_firstAs 48 = .ok (.if_icmp .le 12, 3) := by decide +kernel
theorem dX5_firstAs_51 : decode cX5_firstAs 51 = .ok (.aload_n 0, 1) := by decide +kernel
theorem dX5_firstAs_52 : decode cX5_firstAs 52 = .ok (.ldc 176, 2) := by decide +kernel
theorem dX5_firstAs_54 : decode cX5_firstAs 54 = .ok (.invokevirtual 78, 3) := by decide +kernel
theorem dX5_firstAs_57 : decode cX5_firstAs 57 = .ok (.goto 5, 3) := by decide +kernel
theorem dX5_firstAs_60 : decode cX5_firstAs 60 = .ok (.iload 5, 2) := by decide +kernel
theorem dX5_firstAs_62 : decode cX5_firstAs 62 = .ok (.ireturn, 1) := by decide +kernel
theorem dX5_enough_0 : decode cX5_enough 0 = .ok (.iload_n 1, 1) := by decide +kernel
theorem dX5_enough_1 : decode cX5_enough 1 = .ok (.invokestatic 67, 3) := by decide +kernel
theorem dX5_enough_4 : decode cX5_enough 4 = .ok (.ifCond .eq 28, 3) := by decide +kernel
theorem dX5_enough_7 : decode cX5_enough 7 = .ok (.iload_n 2, 1) := by decide +kernel
theorem dX5_enough_8 : decode cX5_enough 8 = .ok (.i2l, 1) := by decide +kernel
theorem dX5_enough_9 : decode cX5_enough 9 = .ok (.lconst 0, 1) := by decide +kernel
theorem dX5_enough_10 : decode cX5_enough 10 = .ok (.ldc2_w 177, 3) := by decide +kernel
theorem dX5_enough_13 : decode cX5_enough 13 = .ok (.invokestatic 46, 3) := by decide +kernel
theorem dX5_enough_16 : decode cX5_enough 16 = .ok (.ifCond .eq 16, 3) := by decide +kernel
theorem dX5_enough_19 : decode cX5_enough 19 = .ok (.aload_n 0, 1) := by decide +kernel
theorem dX5_enough_20 : decode cX5_enough 20 = .ok (.bipush 14, 2) := by decide +kernel
theorem dX5_enough_22 : decode cX5_enough 22 = .ok (.iload_n 1, 1) := by decide +kernel
theorem dX5_enough_23 : decode cX5_enough 23 = .ok (.iadd, 1) := by decide +kernel
theorem dX5_enough_24 : decode cX5_enough 24 = .ok (.iconst 1, 1) := by decide +kernel
theorem dX5_enough_25 : decode cX5_enough 25 = .ok (.iload_n 2, 1) := by decide +kernel
theorem dX5_enough_26 : decode cX5_enough 26 = .ok (.invokevirtual 179, 3) := by decide +kernel
theorem dX5_enough_29 : decode cX5_enough 29 = .ok (.goto 9, 3) := by decide +kernel
theorem dX5_enough_32 : decode cX5_enough 32 = .ok (.aload_n 0, 1) := by decide +kernel
theorem dX5_enough_33 : decode cX5_enough 33 = .ok (.ldc 41, 2) := by decide +kernel
theorem dX5_enough_35 : decode cX5_enough 35 = .ok (.invokevirtual 78, 3) := by decide +kernel
theorem dX5_enough_38 : decode cX5_enough 38 = .ok (.ireturn, 1) := by decide +kernel
theorem dX5_calm_0 : decode cX5_calm 0 = .ok (.aload_n 0, 1) := by decide +kernel
theorem dX5_calm_1 : decode cX5_calm 1 = .ok (.iload_n 1, 1) := by decide +kernel
theorem dX5_calm_2 : decode cX5_calm 2 = .ok (.invokevirtual 100, 3) := by decide +kernel
theorem dX5_calm_5 : decode cX5_calm 5 = .ok (.ifCond .eq 17, 3) := by decide +kernel
theorem dX5_calm_8 : decode cX5_calm 8 = .ok (.aload_n 0, 1) := by decide +kernel
theorem dX5_calm_9 : decode cX5_calm 9 = .ok (.iload_n 1, 1) := by decide +kernel
theorem dX5_calm_10 : decode cX5_calm 10 = .ok (.iconst 1, 1) := by decide +kernel
theorem dX5_calm_11 : decode cX5_calm 11 = .ok (.invokestatic 42, 3) := by decide +kernel
theorem dX5_calm_14 : decode cX5_calm 14 = .ok (.iconst (-1), 1) := by decide +kernel
theorem dX5_calm_15 : decode cX5_calm 15 = .ok (.iconst 0, 1) := by decide +kernel
theorem dX5_calm_16 : decode cX5_calm 16 = .ok (.invokevirtual 179, 3) := by decide +kernel
theorem dX5_calm_19 : decode cX5_calm 19 = .ok (.goto 9, 3) := by decide +kernel
theorem dX5_calm_22 : decode cX5_calm 22 = .ok (.aload_n 0, 1) := by decide +kernel
theorem dX5_calm_23 : decode cX5_calm 23 = .ok (.ldc 41, 2) := by decide +kernel
theorem dX5_calm_25 : decode cX5_calm 25 = .ok (.invokevirtual 78, 3) := by decide +kernel
theorem dX5_calm_28 : decode cX5_calm 28 = .ok (.ireturn, 1) := by decide +kernel
theorem dX5_isSoon_0 : decode cX5_isSoon 0 = .ok (.iload_n 0, 1) := by decide +kernel
theorem dX5_isSoon_1 : decode cX5_isSoon 1 = .ok (.i2l, 1) := by decide +kernel
theorem dX5_isSoon_2 : decode cX5_isSoon 2 = .ok (.lconst 1, 1) := by decide +kernel
theorem dX5_isSoon_3 : decode cX5_isSoon 3 = .ok (.ldc2_w 154, 3) := by decide +kernel
theorem dX5_isSoon_6 : decode cX5_isSoon 6 = .ok (.invokestatic 46, 3) := by decide +kernel
theorem dX5_isSoon_9 : decode cX5_isSoon 9 = .ok (.ireturn, 1) := by decide +kernel
theorem dX5_kind_0 : decode cX5_kind 0 = .ok (.aload_n 0, 1) := by decide +kernel
theorem dX5_kind_1 : decode cX5_kind 1 = .ok (.iload_n 1, 1) := by decide +kernel
theorem dX5_kind_2 : decode cX5_kind 2 = .ok (.invokevirtual 100, 3) := by decide +kernel
theorem dX5_kind_5 : decode cX5_kind 5 = .ok (.ifCond .eq 10, 3) := by decide +kernel
theorem dX5_kind_8 : decode cX5_kind 8 = .ok (.iload_n 2, 1) := by decide +kernel
theorem dX5_kind_9 : decode cX5_kind 9 = .ok (.invokestatic 182, 3) := by decide +kernel
theorem dX5_kind_12 : decode cX5_kind 12 = .ok (.ifCond .ne 10, 3) := by decide +kernel
theorem dX5_kind_15 : decode cX5_kind 15 = .ok (.aload_n 0, 1) := by decide +kernel
theorem dX5_kind_16 : decode cX5_kind 16 = .ok (.ldc 41, 2) := by decide +kernel
theorem dX5_kind_18 : decode cX5_kind 18 = .ok (.invokevirtual 78, 3) := by decide +kernel
theorem dX5_kind_21 : decode cX5_kind 21 = .ok (.ireturn, 1) := by decide +kernel
theorem dX5_kind_22 : decode cX5_kind 22 = .ok (.aload_n 0, 1) := by decide +kernel
theorem dX5_kind_23 : decode cX5_kind 23 = .ok (.iload_n 1, 1) := by decide +kernel
theorem dX5_kind_24 : decode cX5_kind 24 = .ok (.iconst 0, 1) := by decide +kernel
theorem dX5_kind_25 : decode cX5_kind 25 = .ok (.invokevirtual 90, 3) := by decide +kernel
theorem dX5_kind_28 : decode cX5_kind 28 = .ok (.istore_n 3, 1) := by decide +kernel
theorem dX5_kind_29 : decode cX5_kind 29 = .ok (.iconst 0, 1) := by decide +kernel
theorem dX5_kind_30 : decode cX5_kind 30 = .ok (.istore 4, 2) := by decide +kernel
theorem dX5_kind_32 : decode cX5_kind 32 = .ok (.iconst (-1), 1) := by decide +kernel
theorem dX5_kind_33 : decode cX5_kind 33 = .ok (.istore 5, 2) := by decide +kernel
theorem dX5_kind_35 : decode cX5_kind 35 = .ok (.iconst 0, 1) := by decide +kernel
theorem dX5_kind_36 : decode cX5_kind 36 = .ok (.istore 6, 2) := by decide +kernel
theorem dX5_kind_38 : decode cX5_kind 38 = .ok (.iload 6, 2) := by decide +kernel
theorem dX5_kind_40 : decode cX5_kind 40 = .ok (.iconst 5, 1) := by decide +kernel
theorem dX5_kind_41 : decode cX5_kind 41 = .ok (.if_icmp .gt 62, 3) := by decide +kernel
theorem dX5_kind_44 : decode cX5_kind 44 = .ok (.aload_n 0, 1) := by decide +kernel
theorem dX5_kind_45 : decode cX5_kind 45 = .ok (.getfield 7, 3) := by decide +kernel
theorem dX5_kind_48 : decode cX5_kind 48 = .ok (.iload_n 1, 1) := by decide +kernel
theorem dX5_kind_49 : decode cX5_kind 49 = .ok (.iconst 0, 1) := by decide +kernel
theorem dX5_kind_50 : decode cX5_kind 50 = .ok (.invokestatic 42, 3) := by decide +kernel
theorem dX5_kind_53 : decode cX5_kind 53 = .ok (.iload 6, 2) := by decide +kernel
theorem dX5_kind_55 : decode cX5_kind 55 = .ok (.iastore, 1) := by decide +kernel
theorem dX5_kind_56 : decode cX5_kind 56 = .ok (.aload_n 0, 1) := by decide +kernel
theorem dX5_kind_57 : decode cX5_kind 57 = .ok (.bipush 14, 2) := by decide +kernel
theorem dX5_kind_59 : decode cX5_kind 59 = .ok (.iload_n 2, 1) := by decide +kernel
theorem dX5_kind_60 : decode cX5_kind 60 = .ok (.invokevirtual 170, 3) := by decide +kernel
theorem dX5_kind_63 : decode cX5_kind 63 = .ok (.istore 7, 2) := by decide +kernel
theorem dX5_kind_65 : decode cX5_kind 65 = .ok (.iload 7, 2) := by decide +kernel
theorem dX5_kind_67 : decode cX5_kind 67 = .ok (.iload 5, 2) := by decide +kernel
theorem dX5_kind_69 : decode cX5_kind 69 = .ok (.if_icmp .le 8, 3) := by decide +kernel
theorem dX5_kind_72 : decode cX5_kind 72 = .ok (.iload 6, 2) := by decide +kernel
theorem dX5_kind_74 : decode cX5_kind 74 = .ok (.goto 5, 3) := by decide +kernel
theorem dX5_kind_77 : decode cX5_kind 77 = .ok (.iload 4, 2) := by decide +kernel
theorem dX5_kind_79 : decode cX5_kind 79 = .ok (.istore 4, 2) := by decide +kernel
theorem dX5_kind_81 : decode cX5_kind 81 = .ok (.iload 7, 2) := by decide +kernel
theorem dX5_kind_83 : decode cX5_kind 83 = .ok (.iload 5, 2) := by decide +kernel
theorem dX5_kind_85 : decode cX5_kind 85 = .ok (.if_icmp .le 8, 3) := by decide +kernel
theorem dX5_kind_88 : decode cX5_kind 88 = .ok (.iload 7, 2) := by decide +kernel
theorem dX5_kind_90 : decode cX5_kind 90 = .ok (.goto 5, 3) := by decide +kernel
theorem dX5_kind_93 : decode cX5_kind 93 = .ok (.iload 5, 2) := by decide +kernel
theorem dX5_kind_95 : decode cX5_kind 95 = .ok (.istore 5, 2) := by decide +kernel
theorem dX5_kind_97 : decode cX5_kind 97 = .ok (.iinc 6 1, 3) := by decide +kernel
theorem dX5_kind_100 : decode cX5_kind 100 = .ok (.goto (-62), 3) := by decide +kernel
theorem dX5_kind_103 : decode cX5_kind 103 = .ok (.aload_n 0, 1) := by decide +kernel
theorem dX5_kind_104 : decode cX5_kind 104 = .ok (.getfield 7, 3) := by decide +kernel
theorem dX5_kind_107 : decode cX5_kind 107 = .ok (.iload_n 1, 1) := by decide +kernel
theorem dX5_kind_108 : decode cX5_kind 108 = .ok (.iconst 0, 1) := by decide +kernel
theorem dX5_kind_109 : decode cX5_kind 109 = .ok (.invokestatic 42, 3) := by decide +kernel
theorem dX5_kind_112 : decode cX5_kind 112 = .ok (.iload_n 3, 1) := by decide +kernel
theorem dX5_kind_113 : decode cX5_kind 113 = .ok (.iastore, 1) := by decide +kernel
theorem dX5_kind_114 : decode cX5_kind 114 = .ok (.iload 4, 2) := by decide +kernel
theorem dX5_kind_116 : decode cX5_kind 116 = .ok (.ireturn, 1) := by decide +kernel
theorem dX5_cold_0 : decode cX5_cold 0 = .ok (.iload_n 1, 1) := by decide +kernel
theorem dX5_cold_1 : decode cX5_cold 1 = .ok (.invokestatic 67, 3) := by decide +kernel
theorem dX5_cold_4 : decode cX5_cold 4 = .ok (.ifCond .eq 22, 3) := by decide +kernel
theorem dX5_cold_7 : decode cX5_cold 7 = .ok (.iload_n 2, 1) := by decide +kernel
theorem dX5_cold_8 : decode cX5_cold 8 = .ok (.invokestatic 182, 3) := by decide +kernel
theorem dX5_cold_11 : decode cX5_cold 11 = .ok (.ifCond .eq 15, 3) := by decide +kernel
theorem dX5_cold_14 : decode cX5_cold 14 = .ok (.iload_n 3, 1) := by decide +kernel
theorem dX5_cold_15 : decode cX5_cold 15 = .ok (.i2l, 1) := by decide +kernel
theorem dX5_cold_16 : decode cX5_cold 16 = .ok (.lconst 0, 1) := by decide +kernel
theorem dX5_cold_17 : decode cX5_cold 17 = .ok (.ldc2_w 177, 3) := by decide +kernel
theorem dX5_cold_20 : decode cX5_cold 20 = .ok (.invokestatic 46, 3) := by decide +kernel
theorem dX5_cold_23 : decode cX5_cold 23 = .ok (.ifCond .ne 10, 3) := by decide +kernel
theorem dX5_cold_26 : decode cX5_cold 26 = .ok (.aload_n 0, 1) := by decide +kernel
theorem dX5_cold_27 : decode cX5_cold 27 = .ok (.ldc 41, 2) := by decide +kernel
theorem dX5_cold_29 : decode cX5_cold 29 = .ok (.invokevirtual 78, 3) := by decide +kernel
theorem dX5_cold_32 : decode cX5_cold 32 = .ok (.ireturn, 1) := by decide +kernel
theorem dX5_cold_33 : decode cX5_cold 33 = .ok (.aload_n 0, 1) := by decide +kernel
theorem dX5_cold_34 : decode cX5_cold 34 = .ok (.getfield 7, 3) := by decide +kernel
theorem dX5_cold_37 : decode cX5_cold 37 = .ok (.iconst 2, 1) := by decide +kernel
theorem dX5_cold_38 : decode cX5_cold 38 = .ok (.iload_n 1, 1) := by decide +kernel
theorem dX5_cold_39 : decode cX5_cold 39 = .ok (.iadd, 1) := by decide +kernel
theorem dX5_cold_40 : decode cX5_cold 40 = .ok (.iaload, 1) := by decide +kernel
theorem dX5_cold_41 : decode cX5_cold 41 = .ok (.istore 4, 2) := by decide +kernel
theorem dX5_cold_43 : decode cX5_cold 43 = .ok (.bipush 21, 2) := by decide +kernel
theorem dX5_cold_45 : decode cX5_cold 45 = .ok (.istore 5, 2) := by decide +kernel
theorem dX5_cold_47 : decode cX5_cold 47 = .ok (.bipush 20, 2) := by decide +kernel
theorem dX5_cold_49 : decode cX5_cold 49 = .ok (.istore 6, 2) := by decide +kernel
theorem dX5_cold_51 : decode cX5_cold 51 = .ok (.iload 6, 2) := by decide +kernel
theorem dX5_cold_53 : decode cX5_cold 53 = .ok (.bipush (-20), 2) := by decide +kernel
theorem dX5_cold_55 : decode cX5_cold 55 = .ok (.if_icmp .lt 48, 3) := by decide +kernel
theorem dX5_cold_58 : decode cX5_cold 58 = .ok (.iload 5, 2) := by decide +kernel
theorem dX5_cold_60 : decode cX5_cold 60 = .ok (.bipush 20, 2) := by decide +kernel
theorem dX5_cold_62 : decode cX5_cold 62 = .ok (.if_icmp .le 41, 3) := by decide +kernel
theorem dX5_cold_65 : decode cX5_cold 65 = .ok (.aload_n 0, 1) := by decide +kernel
theorem dX5_cold_66 : decode cX5_cold 66 = .ok (.getfield 7, 3) := by decide +kernel
theorem dX5_cold_69 : decode cX5_cold 69 = .ok (.iconst 2, 1) := by decide +kernel
theorem dX5_cold_70 : decode cX5_cold 70 = .ok (.iload_n 1, 1) := by decide +kernel
theorem dX5_cold_71 : decode cX5_cold 71 = .ok (.iadd, 1) := by decide +kernel
theorem dX5_cold_72 : decode cX5_cold 72 = .ok (.iload 6, 2) := by decide +kernel
theorem dX5_cold_74 : decode cX5_cold 74 = .ok (.iastore, 1) := by decide +kernel
theorem dX5_cold_75 : decode cX5_cold 75 = .ok (.aload_n 0, 1) := by decide +kernel
theorem dX5_cold_76 : decode cX5_cold 76 = .ok (.bipush 14, 2) := by decide +kernel
theorem dX5_cold_78 : decode cX5_cold 78 = .ok (.iload_n 1, 1) := by decide +kernel
theorem dX5_cold_79 : decode cX5_cold 79 = .ok (.iadd, 1) := by decide +kernel
theorem dX5_cold_80 : decode cX5_cold 80 = .ok (.iload_n 2, 1) := by decide +kernel
theorem dX5_cold_81 : decode cX5_cold 81 = .ok (.invokevirtual 173, 3) := by decide +kernel
theorem dX5_cold_84 : decode cX5_cold 84 = .ok (.iload_n 3, 1) := by decide +kernel
theorem dX5_cold_85 : decode cX5_cold 85 = .ok (.if_icmp .lt 8, 3) := by decide +kernel
theorem dX5_cold_88 : decode cX5_cold 88 = .ok (.iload 6, 2) := by decide +kernel
theorem dX5_cold_90 : decode cX5_cold 90 = .ok (.goto 5, 3) := by decide +kernel
theorem dX5_cold_93 : decode cX5_cold 93 = .ok (.iload 5, 2) := by decide +kernel
theorem dX5_cold_95 : decode cX5_cold 95 = .ok (.istore 5, 2) := by decide +kernel
theorem dX5_cold_97 : decode cX5_cold 97 = .ok (.iinc 6 (-1), 3) := by decide +kernel
theorem dX5_cold_100 : decode cX5_cold 100 = .ok (.goto (-49), 3) := by decide +kernel
theorem dX5_cold_103 : decode cX5_cold 103 = .ok (.aload_n 0, 1) := by decide +kernel
theorem dX5_cold_104 : decode cX5_cold 104 = .ok (.getfield 7, 3) := by decide +kernel
theorem dX5_cold_107 : decode cX5_cold 107 = .ok (.iconst 2, 1) := by decide +kernel
theorem dX5_cold_108 : decode cX5_cold 108 = .ok (.iload_n 1, 1) := by decide +kernel
theorem dX5_cold_109 : decode cX5_cold 109 = .ok (.iadd, 1) := by decide +kernel
theorem dX5_cold_110 : decode cX5_cold 110 = .ok (.iload 4, 2) := by decide +kernel
theorem dX5_cold_112 : decode cX5_cold 112 = .ok (.iastore, 1) := by decide +kernel
theorem dX5_cold_113 : decode cX5_cold 113 = .ok (.iload 5, 2) := by decide +kernel
theorem dX5_cold_115 : decode cX5_cold 115 = .ok (.bipush 20, 2) := by decide +kernel
theorem dX5_cold_117 : decode cX5_cold 117 = .ok (.if_icmp .le 12, 3) := by decide +kernel
theorem dX5_cold_120 : decode cX5_cold 120 = .ok (.aload_n 0, 1) := by decide +kernel
theorem dX5_cold_121 : decode cX5_cold 121 = .ok (.ldc 176, 2) := by decide +kernel
theorem dX5_cold_123 : decode cX5_cold 123 = .ok (.invokevirtual 78, 3) := by decide +kernel
theorem dX5_cold_126 : decode cX5_cold 126 = .ok (.goto 5, 3) := by decide +kernel
theorem dX5_cold_129 : decode cX5_cold 129 = .ok (.iload 5, 2) := by decide +kernel
theorem dX5_cold_131 : decode cX5_cold 131 = .ok (.ireturn, 1) := by decide +kernel
theorem dX5_best_0 : decode cX5_best 0 = .ok (.iload_n 1, 1) := by decide +kernel
theorem dX5_best_1 : decode cX5_best 1 = .ok (.invokestatic 125, 3) := by decide +kernel
theorem dX5_best_4 : decode cX5_best 4 = .ok (.ifCond .eq 15, 3) := by decide +kernel
theorem dX5_best_7 : decode cX5_best 7 = .ok (.iload_n 2, 1) := by decide +kernel
theorem dX5_best_8 : decode cX5_best 8 = .ok (.i2l, 1) := by decide +kernel
theorem dX5_best_9 : decode cX5_best 9 = .ok (.lconst 1, 1) := by decide +kernel
theorem dX5_best_10 : decode cX5_best 10 = .ok (.ldc2_w 128, 3) := by decide +kernel
theorem dX5_best_13 : decode cX5_best 13 = .ok (.invokestatic 46, 3) := by decide +kernel
theorem dX5_best_16 : decode cX5_best 16 = .ok (.ifCond .ne 10, 3) := by decide +kernel
theorem dX5_best_19 : decode cX5_best 19 = .ok (.aload_n 0, 1) := by decide +kernel
theorem dX5_best_20 : decode cX5_best 20 = .ok (.ldc 41, 2) := by decide +kernel
theorem dX5_best_22 : decode cX5_best 22 = .ok (.invokevirtual 78, 3) := by decide +kernel
theorem dX5_best_25 : decode cX5_best 25 = .ok (.ireturn, 1) := by decide +kernel
theorem dX5_best_26 : decode cX5_best 26 = .ok (.iconst (-1), 1) := by decide +kernel
theorem dX5_best_27 : decode cX5_best 27 = .ok (.istore_n 3, 1) := by decide +kernel
theorem dX5_best_28 : decode cX5_best 28 = .ok (.iconst (-1), 1) := by decide +kernel
theorem dX5_best_29 : decode cX5_best 29 = .ok (.istore 4, 2) := by decide +kernel
theorem dX5_best_31 : decode cX5_best 31 = .ok (.iconst 0, 1) := by decide +kernel
theorem dX5_best_32 : decode cX5_best 32 = .ok (.istore 5, 2) := by decide +kernel
theorem dX5_best_34 : decode cX5_best 34 = .ok (.iload 5, 2) := by decide +kernel
theorem dX5_best_36 : decode cX5_best 36 = .ok (.bipush 12, 2) := by decide +kernel
theorem dX5_best_38 : decode cX5_best 38 = .ok (.if_icmp .ge 109, 3) := by decide +kernel
theorem dX5_best_41 : decode cX5_best 41 = .ok (.aload_n 0, 1) := by decide +kernel
theorem dX5_best_42 : decode cX5_best 42 = .ok (.getfield 7, 3) := by decide +kernel
theorem dX5_best_45 : decode cX5_best 45 = .ok (.bipush 14, 2) := by decide +kernel
theorem dX5_best_47 : decode cX5_best 47 = .ok (.iload 5, 2) := by decide +kernel
theorem dX5_best_49 : decode cX5_best 49 = .ok (.iadd, 1) := by decide +kernel
theorem dX5_best_50 : decode cX5_best 50 = .ok (.iaload, 1) := by decide +kernel
theorem dX5_best_51 : decode cX5_best 51 = .ok (.iload_n 2, 1) := by decide +kernel
theorem dX5_best_52 : decode cX5_best 52 = .ok (.if_icmp .lt 89, 3) := by decide +kernel
theorem dX5_best_55 : decode cX5_best 55 = .ok (.aload_n 0, 1) := by decide +kernel
theorem dX5_best_56 : decode cX5_best 56 = .ok (.getfield 7, 3) := by decide +kernel
theorem dX5_best_59 : decode cX5_best 59 = .ok (.iload_n 1, 1) := by decide +kernel
theorem dX5_best_60 : decode cX5_best 60 = .ok (.iload 5, 2) := by decide +kernel
theorem dX5_best_62 : decode cX5_best 62 = .ok (.invokestatic 122, 3) := by decide +kernel
theorem dX5_best_65 : decode cX5_best 65 = .ok (.iaload, 1) := by decide +kernel
theorem dX5_best_66 : decode cX5_best 66 = .ok (.iload_n 2, 1) := by decide +kernel
theorem dX5_best_67 : decode cX5_best 67 = .ok (.iadd, 1) := by decide +kernel
theorem dX5_best_68 : decode cX5_best 68 = .ok (.sipush 999, 3) := by decide +kernel
theorem dX5_best_71 : decode cX5_best 71 = .ok (.if_icmp .gt 70, 3) := by decide +kernel
theorem dX5_best_74 : decode cX5_best 74 = .ok (.aload_n 0, 1) := by decide +kernel
theorem dX5_best_75 : decode cX5_best 75 = .ok (.getfield 7, 3) := by decide +kernel
theorem dX5_best_78 : decode cX5_best 78 = .ok (.iload_n 1, 1) := by decide +kernel
theorem dX5_best_79 : decode cX5_best 79 = .ok (.iload 5, 2) := by decide +kernel
theorem dX5_best_81 : decode cX5_best 81 = .ok (.invokestatic 122, 3) := by decide +kernel
theorem dX5_best_84 : decode cX5_best 84 = .ok (.dup2, 1) := by decide +kernel
theorem dX5_best_85 : decode cX5_best 85 = .ok (.iaload, 1) := by decide +kernel
theorem dX5_best_86 : decode cX5_best 86 = .ok (.iload_n 2, 1) := by decide +kernel
theorem dX5_best_87 : decode cX5_best 87 = .ok (.iadd, 1) := by decide +kernel
theorem dX5_best_88 : decode cX5_best 88 = .ok (.iastore, 1) := by decide +kernel
theorem dX5_best_89 : decode cX5_best 89 = .ok (.aload_n 0, 1) := by decide +kernel
theorem dX5_best_90 : decode cX5_best 90 = .ok (.iload_n 1, 1) := by decide +kernel
theorem dX5_best_91 : decode cX5_best 91 = .ok (.invokevirtual 135, 3) := by decide +kernel
theorem dX5_best_94 : decode cX5_best 94 = .ok (.istore 6, 2) := by decide +kernel
theorem dX5_best_96 : decode cX5_best 96 = .ok (.aload_n 0, 1) := by decide +kernel
theorem dX5_best_97 : decode cX5_best 97 = .ok (.getfield 7, 3) := by decide +kernel
theorem dX5_best_100 : decode cX5_best 100 = .ok (.iload_n 1, 1) := by decide +kernel
theorem dX5_best_101 : decode cX5_best 101 = .ok (.iload 5, 2) := by decide +kernel
theorem dX5_best_103 : decode cX5_best 103 = .ok (.invokestatic 122, 3) := by decide +kernel
theorem dX5_best_106 : decode cX5_best 106 = .ok (.dup2, 1) := by decide +kernel
theorem dX5_best_107 : decode cX5_best 107 = .ok (.iaload, 1) := by decide +kernel
theorem dX5_best_108 : decode cX5_best 108 = .ok (.iload_n 2, 1) := by decide +kernel
theorem dX5_best_109 : decode cX5_best 109 = .ok (.isub, 1) := by decide +kernel
theorem dX5_best_110 : decode cX5_best 110 = .ok (.iastore, 1) := by decide +kernel
theorem dX5_best_111 : decode cX5_best 111 = .ok (.iload 6, 2) := by decide +kernel
theorem dX5_best_113 : decode cX5_best 113 = .ok (.iload 4, 2) := by decide +kernel
theorem dX5_best_115 : decode cX5_best 115 = .ok (.if_icmp .le 8, 3) := by decide +kernel
theorem dX5_best_118 : decode cX5_best 118 = .ok (.iload 5, 2) := by decide +kernel
theorem dX5_best_120 : decode cX5_best 120 = .ok (.goto 4, 3) := by decide +kernel
theorem dX5_best_123 : decode cX5_best 123 = .ok (.iload_n 3, 1) := by decide +kernel
theorem dX5_best_124 : decode cX5_best 124 = .ok (.istore_n 3, 1) := by decide +kernel
theorem dX5_best_125 : decode cX5_best 125 = .ok (.iload 6, 2) := by decide +kernel
theorem dX5_best_127 : decode cX5_best 127 = .ok (.iload 4, 2) := by decide +kernel
theorem dX5_best_129 : decode cX5_best 129 = .ok (.if_icmp .le 8, 3) := by decide +kernel
theorem dX5_best_132 : decode cX5_best 132 = .ok (.iload 6, 2) := by decide +kernel
theorem dX5_best_134 : decode cX5_best 134 = .ok (.goto 5, 3) := by decide +kernel
theorem dX5_best_137 : decode cX5_best 137 = .ok (.iload 4, 2) := by decide +kernel
theorem dX5_best_139 : decode cX5_best 139 = .ok (.istore 4, 2) := by decide +kernel
theorem dX5_best_141 : decode cX5_best 141 = .ok (.iinc 5 1, 3) := by decide +kernel
theorem dX5_best_144 : decode cX5_best 144 = .ok (.goto (-110), 3) := by decide +kernel
theorem dX5_best_147 : decode cX5_best 147 = .ok (.iload_n 3, 1) := by decide +kernel
theorem dX5_best_148 : decode cX5_best 148 = .ok (.ifCond .ge 12, 3) := by decide +kernel
theorem dX5_best_151 : decode cX5_best 151 = .ok (.aload_n 0, 1) := by decide +kernel
theorem dX5_best_152 : decode cX5_best 152 = .ok (.ldc 176, 2) := by decide +kernel
theorem dX5_best_154 : decode cX5_best 154 = .ok (.invokevirtual 78, 3) := by decide +kernel
theorem dX5_best_157 : decode cX5_best 157 = .ok (.goto 4, 3) := by decide +kernel
theorem dX5_best_160 : decode cX5_best 160 = .ok (.iload_n 3, 1) := by decide +kernel
theorem dX5_best_161 : decode cX5_best 161 = .ok (.ireturn, 1) := by decide +kernel
theorem dX5_bears_0 : decode cX5_bears 0 = .ok (.aload_n 0, 1) := by decide +kernel
theorem dX5_bears_1 : decode cX5_bears 1 = .ok (.iload_n 1, 1) := by decide +kernel
theorem dX5_bears_2 : decode cX5_bears 2 = .ok (.invokevirtual 100, 3) := by decide +kernel
theorem dX5_bears_5 : decode cX5_bears 5 = .ok (.ifCond .eq 27, 3) := by decide +kernel
theorem dX5_bears_8 : decode cX5_bears 8 = .ok (.iload_n 2, 1) := by decide +kernel
theorem dX5_bears_9 : decode cX5_bears 9 = .ok (.i2l, 1) := by decide +kernel
theorem dX5_bears_10 : decode cX5_bears 10 = .ok (.lconst 0, 1) := by decide +kernel
theorem dX5_bears_11 : decode cX5_bears 11 = .ok (.ldc2_w 154, 3) := by decide +kernel
theorem dX5_bears_14 : decode cX5_bears 14 = .ok (.invokestatic 46, 3) := by decide +kernel
theorem dX5_bears_17 : decode cX5_bears 17 = .ok (.ifCond .eq 15, 3) := by decide +kernel
theorem dX5_bears_20 : decode cX5_bears 20 = .ok (.iload_n 3, 1) := by decide +kernel
theorem dX5_bears_21 : decode cX5_bears 21 = .ok (.i2l, 1) := by decide +kernel
theorem dX5_bears_22 : decode cX5_bears 22 = .ok (.lconst 0, 1) := by decide +kernel
theorem dX5_bears_23 : decode cX5_bears 23 = .ok (.ldc2_w 185, 3) := by decide +kernel
theorem dX5_bears_26 : decode cX5_bears 26 = .ok (.invokestatic 46, 3) := by decide +kernel
theorem dX5_bears_29 : decode cX5_bears 29 = .ok (.ifCond .ne 10, 3) := by decide +kernel
theorem dX5_bears_32 : decode cX5_bears 32 = .ok (.aload_n 0, 1) := by decide +kernel
theorem dX5_bears_33 : decode cX5_bears 33 = .ok (.ldc 41, 2) := by decide +kernel
theorem dX5_bears_35 : decode cX5_bears 35 = .ok (.invokevirtual 78, 3) := by decide +kernel
theorem dX5_bears_38 : decode cX5_bears 38 = .ok (.ireturn, 1) := by decide +kernel
theorem dX5_bears_39 : decode cX5_bears 39 = .ok (.aload_n 0, 1) := by decide +kernel
theorem dX5_bears_40 : decode cX5_bears 40 = .ok (.iload_n 1, 1) := by decide +kernel
theorem dX5_bears_41 : decode cX5_bears 41 = .ok (.iconst 1, 1) := by decide +kernel
theorem dX5_bears_42 : decode cX5_bears 42 = .ok (.invokevirtual 90, 3) := by decide +kernel
theorem dX5_bears_45 : decode cX5_bears 45 = .ok (.istore 4, 2) := by decide +kernel
theorem dX5_bears_47 : decode cX5_bears 47 = .ok (.iconst (-1), 1) := by decide +kernel
theorem dX5_bears_48 : decode cX5_bears 48 = .ok (.istore 5, 2) := by decide +kernel
theorem dX5_bears_50 : decode cX5_bears 50 = .ok (.bipush 99, 2) := by decide +kernel
theorem dX5_bears_52 : decode cX5_bears 52 = .ok (.istore 6, 2) := by decide +kernel
theorem dX5_bears_54 : decode cX5_bears 54 = .ok (.iload 6, 2) := by decide +kernel
theorem dX5_bears_56 : decode cX5_bears 56 = .ok (.ifCond .lt 48, 3) := by decide +kernel
theorem dX5_bears_59 : decode cX5_bears 59 = .ok (.iload 5, 2) := by decide +kernel
theorem dX5_bears_61 : decode cX5_bears 61 = .ok (.ifCond .ge 43, 3) := by decide +kernel
theorem dX5_bears_64 : decode cX5_bears 64 = .ok (.aload_n 0, 1) := by decide +kernel
theorem dX5_bears_65 : decode cX5_bears 65 = .ok (.getfield 7, 3) := by decide +kernel
theorem dX5_bears_68 : decode cX5_bears 68 = .ok (.iload_n 1, 1) := by decide +kernel
theorem dX5_bears_69 : decode cX5_bears 69 = .ok (.iconst 1, 1) := by decide +kernel
theorem dX5_bears_70 : decode cX5_bears 70 = .ok (.invokestatic 42, 3) := by decide +kernel
theorem dX5_bears_73 : decode cX5_bears 73 = .ok (.iload 6, 2) := by decide +kernel
theorem dX5_bears_75 : decode cX5_bears 75 = .ok (.iastore, 1) := by decide +kernel
theorem dX5_bears_76 : decode cX5_bears 76 = .ok (.aload_n 0, 1) := by decide +kernel
theorem dX5_bears_77 : decode cX5_bears 77 = .ok (.iload_n 1, 1) := by decide +kernel
theorem dX5_bears_78 : decode cX5_bears 78 = .ok (.iconst 2, 1) := by decide +kernel
theorem dX5_bears_79 : decode cX5_bears 79 = .ok (.invokestatic 42, 3) := by decide +kernel
theorem dX5_bears_82 : decode cX5_bears 82 = .ok (.iload_n 2, 1) := by decide +kernel
theorem dX5_bears_83 : decode cX5_bears 83 = .ok (.invokevirtual 170, 3) := by decide +kernel
theorem dX5_bears_86 : decode cX5_bears 86 = .ok (.iload_n 3, 1) := by decide +kernel
theorem dX5_bears_87 : decode cX5_bears 87 = .ok (.if_icmp .lt 8, 3) := by decide +kernel
theorem dX5_bears_90 : decode cX5_bears 90 = .ok (.iload 6, 2) := by decide +kernel
theorem dX5_bears_92 : decode cX5_bears 92 = .ok (.goto 4, 3) := by decide +kernel
theorem dX5_bears_95 : decode cX5_bears 95 = .ok (.iconst (-1), 1) := by decide +kernel
theorem dX5_bears_96 : decode cX5_bears 96 = .ok (.istore 5, 2) := by decide +kernel
theorem dX5_bears_98 : decode cX5_bears 98 = .ok (.iinc 6 (-1), 3) := by decide +kernel
theorem dX5_bears_101 : decode cX5_bears 101 = .ok (.goto (-47), 3) := by decide +kernel
theorem dX5_bears_104 : decode cX5_bears 104 = .ok (.aload_n 0, 1) := by decide +kernel
theorem dX5_bears_105 : decode cX5_bears 105 = .ok (.getfield 7, 3) := by decide +kernel
theorem dX5_bears_108 : decode cX5_bears 108 = .ok (.iload_n 1, 1) := by decide +kernel
theorem dX5_bears_109 : decode cX5_bears 109 = .ok (.iconst 1, 1) := by decide +kernel
theorem dX5_bears_110 : decode cX5_bears 110 = .ok (.invokestatic 42, 3) := by decide +kernel
theorem dX5_bears_113 : decode cX5_bears 113 = .ok (.iload 4, 2) := by decide +kernel
theorem dX5_bears_115 : decode cX5_bears 115 = .ok (.iastore, 1) := by decide +kernel
theorem dX5_bears_116 : decode cX5_bears 116 = .ok (.iload 5, 2) := by decide +kernel
theorem dX5_bears_118 : decode cX5_bears 118 = .ok (.ifCond .ge 12, 3) := by decide +kernel
theorem dX5_bears_121 : decode cX5_bears 121 = .ok (.aload_n 0, 1) := by decide +kernel
theorem dX5_bears_122 : decode cX5_bears 122 = .ok (.ldc 176, 2) := by decide +kernel
theorem dX5_bears_124 : decode cX5_bears 124 = .ok (.invokevirtual 78, 3) := by decide +kernel
theorem dX5_bears_127 : decode cX5_bears 127 = .ok (.goto 5, 3) := by decide +kernel
theorem dX5_bears_130 : decode cX5_bears 130 = .ok (.iload 5, 2) := by decide +kernel
theorem dX5_bears_132 : decode cX5_bears 132 = .ok (.ireturn, 1) := by decide +kernel
theorem dX5_milder_0 : decode cX5_milder 0 = .ok (.iload_n 1, 1) := by decide +kernel
theorem dX5_milder_1 : decode cX5_milder 1 = .ok (.invokestatic 182, 3) := by decide +kernel
theorem dX5_milder_4 : decode cX5_milder 4 = .ok (.ifCond .ne 10, 3) := by decide +kernel
theorem dX5_milder_7 : decode cX5_milder 7 = .ok (.aload_n 0, 1) := by decide +kernel
theorem dX5_milder_8 : decode cX5_milder 8 = .ok (.ldc 41, 2) := by decide +kernel
theorem dX5_milder_10 : decode cX5_milder 10 = .ok (.invokevirtual 78, 3) := by decide +kernel
theorem dX5_milder_13 : decode cX5_milder 13 = .ok (.ireturn, 1) := by decide +kernel
theorem dX5_milder_14 : decode cX5_milder 14 = .ok (.iconst 0, 1) := by decide +kernel
theorem dX5_milder_15 : decode cX5_milder 15 = .ok (.istore_n 2, 1) := by decide +kernel
theorem dX5_milder_16 : decode cX5_milder 16 = .ok (.ldc 187, 2) := by decide +kernel
theorem dX5_milder_18 : decode cX5_milder 18 = .ok (.istore_n 3, 1) := by decide +kernel
theorem dX5_milder_19 : decode cX5_milder 19 = .ok (.iconst 0, 1) := by decide +kernel
theorem dX5_milder_20 : decode cX5_milder 20 = .ok (.istore 4, 2) := by decide +kernel
theorem dX5_milder_22 : decode cX5_milder 22 = .ok (.iload 4, 2) := by decide +kernel
theorem dX5_milder_24 : decode cX5_milder 24 = .ok (.bipush 12, 2) := by decide +kernel
theorem dX5_milder_26 : decode cX5_milder 26 = .ok (.if_icmp .ge 81, 3) := by decide +kernel
theorem dX5_milder_29 : decode cX5_milder 29 = .ok (.aload_n 0, 1) := by decide +kernel
theorem dX5_milder_30 : decode cX5_milder 30 = .ok (.iconst 2, 1) := by decide +kernel
theorem dX5_milder_31 : decode cX5_milder 31 = .ok (.iload 4, 2) := by decide +kernel
theorem dX5_milder_33 : decode cX5_milder 33 = .ok (.iadd, 1) := by decide +kernel
theorem dX5_milder_34 : decode cX5_milder 34 = .ok (.aload_n 0, 1) := by decide +kernel
theorem dX5_milder_35 : decode cX5_milder 35 = .ok (.getfield 7, 3) := by decide +kernel
theorem dX5_milder_38 : decode cX5_milder 38 = .ok (.iconst 2, 1) := by decide +kernel
theorem dX5_milder_39 : decode cX5_milder 39 = .ok (.iload 4, 2) := by decide +kernel
theorem dX5_milder_41 : decode cX5_milder 41 = .ok (.iadd, 1) := by decide +kernel
theorem dX5_milder_42 : decode cX5_milder 42 = .ok (.iaload, 1) := by decide +kernel
theorem dX5_milder_43 : decode cX5_milder 43 = .ok (.iconst 5, 1) := by decide +kernel
theorem dX5_milder_44 : decode cX5_milder 44 = .ok (.iadd, 1) := by decide +kernel
theorem dX5_milder_45 : decode cX5_milder 45 = .ok (.bipush 20, 2) := by decide +kernel
theorem dX5_milder_47 : decode cX5_milder 47 = .ok (.invokestatic 144, 3) := by decide +kernel
theorem dX5_milder_50 : decode cX5_milder 50 = .ok (.invokevirtual 75, 3) := by decide +kernel
theorem dX5_milder_53 : decode cX5_milder 53 = .ok (.istore 5, 2) := by decide +kernel
theorem dX5_milder_55 : decode cX5_milder 55 = .ok (.aload_n 0, 1) := by decide +kernel
theorem dX5_milder_56 : decode cX5_milder 56 = .ok (.bipush 26, 2) := by decide +kernel
theorem dX5_milder_58 : decode cX5_milder 58 = .ok (.iload_n 1, 1) := by decide +kernel
theorem dX5_milder_59 : decode cX5_milder 59 = .ok (.invokevirtual 170, 3) := by decide +kernel
theorem dX5_milder_62 : decode cX5_milder 62 = .ok (.istore 6, 2) := by decide +kernel
theorem dX5_milder_64 : decode cX5_milder 64 = .ok (.aload_n 0, 1) := by decide +kernel
theorem dX5_milder_65 : decode cX5_milder 65 = .ok (.getfield 7, 3) := by decide +kernel
theorem dX5_milder_68 : decode cX5_milder 68 = .ok (.iconst 2, 1) := by decide +kernel
theorem dX5_milder_69 : decode cX5_milder 69 = .ok (.iload 4, 2) := by decide +kernel
theorem dX5_milder_71 : decode cX5_milder 71 = .ok (.iadd, 1) := by decide +kernel
theorem dX5_milder_72 : decode cX5_milder 72 = .ok (.iload 5, 2) := by decide +kernel
theorem dX5_milder_74 : decode cX5_milder 74 = .ok (.iastore, 1) := by decide +kernel
theorem dX5_milder_75 : decode cX5_milder 75 = .ok (.iload 6, 2) := by decide +kernel
theorem dX5_milder_77 : decode cX5_milder 77 = .ok (.iload_n 3, 1) := by decide +kernel
theorem dX5_milder_78 : decode cX5_milder 78 = .ok (.if_icmp .ge 8, 3) := by decide +kernel
theorem dX5_milder_81 : decode cX5_milder 81 = .ok (.iload 4, 2) := by decide +kernel
theorem dX5_milder_83 : decode cX5_milder 83 = .ok (.goto 4, 3) := by decide +kernel
theorem dX5_milder_86 : decode cX5_milder 86 = .ok (.iload_n 2, 1) := by decide +kernel
theorem dX5_milder_87 : decode cX5_milder 87 = .ok (.istore_n 2, 1) := by decide +kernel
theorem dX5_milder_88 : decode cX5_milder 88 = .ok (.iload 6, 2) := by decide +kernel
theorem dX5_milder_90 : decode cX5_milder 90 = .ok (.iload_n 3, 1) := by decide +kernel
theorem dX5_milder_91 : decode cX5_milder 91 = .ok (.if_icmp .ge 8, 3) := by decide +kernel
theorem dX5_milder_94 : decode cX5_milder 94 = .ok (.iload 6, 2) := by decide +kernel
theorem dX5_milder_96 : decode cX5_milder 96 = .ok (.goto 4, 3) := by decide +kernel
theorem dX5_milder_99 : decode cX5_milder 99 = .ok (.iload_n 3, 1) := by decide +kernel
theorem dX5_milder_100 : decode cX5_milder 100 = .ok (.istore_n 3, 1) := by decide +kernel
theorem dX5_milder_101 : decode cX5_milder 101 = .ok (.iinc 4 1, 3) := by decide +kernel
theorem dX5_milder_104 : decode cX5_milder 104 = .ok (.goto (-82), 3) := by decide +kernel
theorem dX5_milder_107 : decode cX5_milder 107 = .ok (.iload_n 2, 1) := by decide +kernel
theorem dX5_milder_108 : decode cX5_milder 108 = .ok (.ireturn, 1) := by decide +kernel
theorem dX5_warmest_0 : decode cX5_warmest 0 = .ok (.iconst 0, 1) := by decide +kernel
theorem dX5_warmest_1 : decode cX5_warmest 1 = .ok (.istore_n 1, 1) := by decide +kernel
theorem dX5_warmest_2 : decode cX5_warmest 2 = .ok (.iconst 1, 1) := by decide +kernel
theorem dX5_warmest_3 : decode cX5_warmest 3 = .ok (.istore_n 2, 1) := by decide +kernel
theorem dX5_warmest_4 : decode cX5_warmest 4 = .ok (.iload_n 2, 1) := by decide +kernel
theorem dX5_warmest_5 : decode cX5_warmest 5 = .ok (.iconst 4, 1) := by decide +kernel
theorem dX5_warmest_6 : decode cX5_warmest 6 = .ok (.if_icmp .ge 28, 3) := by decide +kernel
theorem dX5_warmest_9 : decode cX5_warmest 9 = .ok (.aload_n 0, 1) := by decide +kernel
theorem dX5_warmest_10 : decode cX5_warmest 10 = .ok (.iload_n 2, 1) := by decide +kernel
theorem dX5_warmest_11 : decode cX5_warmest 11 = .ok (.invokevirtual 135, 3) := by decide +kernel
theorem dX5_warmest_14 : decode cX5_warmest 14 = .ok (.aload_n 0, 1) := by decide +kernel
theorem dX5_warmest_15 : decode cX5_warmest 15 = .ok (.iload_n 1, 1) := by decide +kernel
theorem dX5_warmest_16 : decode cX5_warmest 16 = .ok (.invokevirtual 135, 3) := by decide +kernel
theorem dX5_warmest_19 : decode cX5_warmest 19 = .ok (.if_icmp .le 7, 3) := by decide +kernel
theorem dX5_warmest_22 : decode cX5_warmest 22 = .ok (.iload_n 2, 1) := by decide +kernel
theorem dX5_warmest_23 : decode cX5_warmest 23 = .ok (.goto 4, 3) := by decide +kernel
theorem dX5_warmest_26 : decode cX5_warmest 26 = .ok (.iload_n 1, 1) := by decide +kernel
theorem dX5_warmest_27 : decode cX5_warmest 27 = .ok (.istore_n 1, 1) := by decide +kernel
theorem dX5_warmest_28 : decode cX5_warmest 28 = .ok (.iinc 2 1, 3) := by decide +kernel
theorem dX5_warmest_31 : decode cX5_warmest 31 = .ok (.goto (-27), 3) := by decide +kernel
theorem dX5_warmest_34 : decode cX5_warmest 34 = .ok (.iload_n 1, 1) := by decide +kernel
theorem dX5_warmest_35 : decode cX5_warmest 35 = .ok (.ireturn, 1) := by decide +kernel
theorem dX5_feed_0 : decode cX5_feed 0 = .ok (.iload_n 2, 1) := by decide +kernel
theorem dX5_feed_1 : decode cX5_feed 1 = .ok (.i2l, 1) := by decide +kernel
theorem dX5_feed_2 : decode cX5_feed 2 = .ok (.lconst 1, 1) := by decide +kernel
theorem dX5_feed_3 : decode cX5_feed 3 = .ok (.ldc2_w 188, 3) := by decide +kernel
theorem dX5_feed_6 : decode cX5_feed 6 = .ok (.invokestatic 46, 3) := by decide +kernel
theorem dX5_feed_9 : decode cX5_feed 9 = .ok (.ifCond .ne 10, 3) := by decide +kernel
theorem dX5_feed_12 : decode cX5_feed 12 = .ok (.aload_n 0, 1) := by decide +kernel
theorem dX5_feed_13 : decode cX5_feed 13 = .ok (.ldc 41, 2) := by decide +kernel
theorem dX5_feed_15 : decode cX5_feed 15 = .ok (.invokevirtual 78, 3) := by decide +kernel
theorem dX5_feed_18 : decode cX5_feed 18 = .ok (.ireturn, 1) := by decide +kernel
theorem dX5_feed_19 : decode cX5_feed 19 = .ok (.aload_n 0, 1) := by decide +kernel
theorem dX5_feed_20 : decode cX5_feed 20 = .ok (.getfield 190, 3) := by decide +kernel
theorem dX5_feed_23 : decode cX5_feed 23 = .ok (.iload_n 2, 1) := by decide +kernel
theorem dX5_feed_24 : decode cX5_feed 24 = .ok (.iadd, 1) := by decide +kernel
theorem dX5_feed_25 : decode cX5_feed 25 = .ok (.bipush 120, 2) := by decide +kernel
theorem dX5_feed_27 : decode cX5_feed 27 = .ok (.if_icmp .le 10, 3) := by decide +kernel
theorem dX5_feed_30 : decode cX5_feed 30 = .ok (.aload_n 0, 1) := by decide +kernel
theorem dX5_feed_31 : decode cX5_feed 31 = .ok (.ldc 96, 2) := by decide +kernel
theorem dX5_feed_33 : decode cX5_feed 33 = .ok (.invokevirtual 78, 3) := by decide +kernel
theorem dX5_feed_36 : decode cX5_feed 36 = .ok (.ireturn, 1) := by decide +kernel
theorem dX5_feed_37 : decode cX5_feed 37 = .ok (.iload_n 2, 1) := by decide +kernel
theorem dX5_feed_38 : decode cX5_feed 38 = .ok (.iconst 1, 1) := by decide +kernel
theorem dX5_feed_39 : decode cX5_feed 39 = .ok (.isub, 1) := by decide +kernel
theorem dX5_feed_40 : decode cX5_feed 40 = .ok (.istore_n 3, 1) := by decide +kernel
theorem dX5_feed_41 : decode cX5_feed 41 = .ok (.iload_n 3, 1) := by decide +kernel
theorem dX5_feed_42 : decode cX5_feed 42 = .ok (.ifCond .lt 38, 3) := by decide +kernel
theorem dX5_feed_45 : decode cX5_feed 45 = .ok (.aload_n 0, 1) := by decide +kernel
theorem dX5_feed_46 : decode cX5_feed 46 = .ok (.getfield 25, 3) := by decide +kernel
theorem dX5_feed_49 : decode cX5_feed 49 = .ok (.aload_n 0, 1) := by decide +kernel
theorem dX5_feed_50 : decode cX5_feed 50 = .ok (.getfield 190, 3) := by decide +kernel
theorem dX5_feed_53 : decode cX5_feed 53 = .ok (.iload_n 1, 1) := by decide +kernel
theorem dX5_feed_54 : decode cX5_feed 54 = .ok (.bipush 8, 2) := by decide +kernel
theorem dX5_feed_56 : decode cX5_feed 56 = .ok (.iload_n 3, 1) := by decide +kernel
theorem dX5_feed_57 : decode cX5_feed 57 = .ok (.imul, 1) := by decide +kernel
theorem dX5_feed_58 : decode cX5_feed 58 = .ok (.ishr, 1) := by decide +kernel
theorem dX5_feed_59 : decode cX5_feed 59 = .ok (.sipush 255, 3) := by decide +kernel
theorem dX5_feed_62 : decode cX5_feed 62 = .ok (.iand, 1) := by decide +kernel
theorem dX5_feed_63 : decode cX5_feed 63 = .ok (.iastore, 1) := by decide +kernel
theorem dX5_feed_64 : decode cX5_feed 64 = .ok (.aload_n 0, 1) := by decide +kernel
theorem dX5_feed_65 : decode cX5_feed 65 = .ok (.dup, 1) := by decide +kernel
theorem dX5_feed_66 : decode cX5_feed 66 = .ok (.getfield 190, 3) := by decide +kernel
theorem dX5_feed_69 : decode cX5_feed 69 = .ok (.iconst 1, 1) := by decide +kernel
theorem dX5_feed_70 : decode cX5_feed 70 = .ok (.iadd, 1) := by decide +kernel
theorem dX5_feed_71 : decode cX5_feed 71 = .ok (.putfield 190, 3) := by decide +kernel
theorem dX5_feed_74 : decode cX5_feed 74 = .ok (.iinc 3 (-1), 3) := by decide +kernel
theorem dX5_feed_77 : decode cX5_feed 77 = .ok (.goto (-36), 3) := by decide +kernel
theorem dX5_feed_80 : decode cX5_feed 80 = .ok (.aload_n 0, 1) := by decide +kernel
theorem dX5_feed_81 : decode cX5_feed 81 = .ok (.getfield 190, 3) := by decide +kernel
theorem dX5_feed_84 : decode cX5_feed 84 = .ok (.ireturn, 1) := by decide +kernel
theorem dX5_wipe_0 : decode cX5_wipe 0 = .ok (.aload_n 0, 1) := by decide +kernel
theorem dX5_wipe_1 : decode cX5_wipe 1 = .ok (.getfield 190, 3) := by decide +kernel
theorem dX5_wipe_4 : decode cX5_wipe 4 = .ok (.istore_n 1, 1) := by decide +kernel
theorem dX5_wipe_5 : decode cX5_wipe 5 = .ok (.aload_n 0, 1) := by decide +kernel
theorem dX5_wipe_6 : decode cX5_wipe 6 = .ok (.iconst 0, 1) := by decide +kernel
theorem dX5_wipe_7 : decode cX5_wipe 7 = .ok (.putfield 190, 3) := by decide +kernel
theorem dX5_wipe_10 : decode cX5_wipe 10 = .ok (.iload_n 1, 1) := by decide +kernel
theorem dX5_wipe_11 : decode cX5_wipe 11 = .ok (.ireturn, 1) := by decide +kernel
theorem dX5_byteAt_0 : decode cX5_byteAt 0 = .ok (.iload_n 1, 1) := by decide +kernel
theorem dX5_byteAt_1 : decode cX5_byteAt 1 = .ok (.aload_n 0, 1) := by decide +kernel
theorem dX5_byteAt_2 : decode cX5_byteAt 2 = .ok (.getfield 190, 3) := by decide +kernel
theorem dX5_byteAt_5 : decode cX5_byteAt 5 = .ok (.if_icmp .ge 12, 3) := by decide +kernel
theorem dX5_byteAt_8 : decode cX5_byteAt 8 = .ok (.aload_n 0, 1) := by decide +kernel
theorem dX5_byteAt_9 : decode cX5_byteAt 9 = .ok (.getfield 25, 3) := by decide +kernel
theorem dX5_byteAt_12 : decode cX5_byteAt 12 = .ok (.iload_n 1, 1) := by decide +kernel
theorem dX5_byteAt_13 : decode cX5_byteAt 13 = .ok (.iaload, 1) := by decide +kernel
theorem dX5_byteAt_14 : decode cX5_byteAt 14 = .ok (.goto 4, 3) := by decide +kernel
theorem dX5_byteAt_17 : decode cX5_byteAt 17 = .ok (.iconst (-1), 1) := by decide +kernel
theorem dX5_byteAt_18 : decode cX5_byteAt 18 = .ok (.ireturn, 1) := by decide +kernel
theorem dX5_isLetter_0 : decode cX5_isLetter 0 = .ok (.iload_n 0, 1) := by decide +kernel
theorem dX5_isLetter_1 : decode cX5_isLetter 1 = .ok (.i2l, 1) := by decide +kernel
theorem dX5_isLetter_2 : decode cX5_isLetter 2 = .ok (.ldc2_w 194, 3) := by decide +kernel
theorem dX5_isLetter_5 : decode cX5_isLetter 5 = .ok (.ldc2_w 196, 3) := by decide +kernel
theorem dX5_isLetter_8 : decode cX5_isLetter 8 = .ok (.invokestatic 46, 3) := by decide +kernel
theorem dX5_isLetter_11 : decode cX5_isLetter 11 = .ok (.ireturn, 1) := by decide +kernel
theorem dX5_isDigit_0 : decode cX5_isDigit 0 = .ok (.iload_n 0, 1) := by decide +kernel
theorem dX5_isDigit_1 : decode cX5_isDigit 1 = .ok (.i2l, 1) := by decide +kernel
theorem dX5_isDigit_2 : decode cX5_isDigit 2 = .ok (.ldc2_w 198, 3) := by decide +kernel
theorem dX5_isDigit_5 : decode cX5_isDigit 5 = .ok (.ldc2_w 200, 3) := by decide +kernel
theorem dX5_isDigit_8 : decode cX5_isDigit 8 = .ok (.invokestatic 46, 3) := by decide +kernel
theorem dX5_isDigit_11 : decode cX5_isDigit 11 = .ok (.ireturn, 1) := by decide +kernel
theorem dX5_token_0 : decode cX5_token 0 = .ok (.aload_n 0, 1) := by decide +kernel
theorem dX5_token_1 : decode cX5_token 1 = .ok (.aload_n 0, 1) := by decide +kernel
theorem dX5_token_2 : decode cX5_token 2 = .ok (.getfield 202, 3) := by decide +kernel
theorem dX5_token_5 : decode cX5_token 5 = .ok (.putfield 205, 3) := by decide +kernel
theorem dX5_token_8 : decode cX5_token 8 = .ok (.aload_n 0, 1) := by decide +kernel
theorem dX5_token_9 : decode cX5_token 9 = .ok (.aload_n 0, 1) := by decide +kernel
theorem dX5_token_10 : decode cX5_token 10 = .ok (.getfield 205, 3) := by decide +kernel
theorem dX5_token_13 : decode cX5_token 13 = .ok (.invokevirtual 208, 3) := by decide +kernel
theorem dX5_token_16 : decode cX5_token 16 = .ok (.bipush 32, 2) := by decide +kernel
theorem dX5_token_18 : decode cX5_token 18 = .ok (.if_icmp .ne 16, 3) := by decide +kernel
theorem dX5_token_21 : decode cX5_token 21 = .ok (.aload_n 0, 1) := by decide +kernel
theorem dX5_token_22 : decode cX5_token 22 = .ok (.dup, 1) := by decide +kernel
theorem dX5_token_23 : decode cX5_token 23 = .ok (.getfield 205, 3) := by decide +kernel
theorem dX5_token_26 : decode cX5_token 26 = .ok (.iconst 1, 1) := by decide +kernel
theorem dX5_token_27 : decode cX5_token 27 = .ok (.iadd, 1) := by decide +kernel
theorem dX5_token_28 : decode cX5_token 28 = .ok (.putfield 205, 3) := by decide +kernel
theorem dX5_token_31 : decode cX5_token 31 = .ok (.goto (-23), 3) := by decide +kernel
theorem dX5_token_34 : decode cX5_token 34 = .ok (.aload_n 0, 1) := by decide +kernel
theorem dX5_token_35 : decode cX5_token 35 = .ok (.aload_n 0, 1) := by decide +kernel
theorem dX5_token_36 : decode cX5_token 36 = .ok (.getfield 205, 3) := by decide +kernel
theorem dX5_token_39 : decode cX5_token 39 = .ok (.invokevirtual 208, 3) := by decide +kernel
theorem dX5_token_42 : decode cX5_token 42 = .ok (.invokestatic 211, 3) := by decide +kernel
theorem dX5_token_45 : decode cX5_token 45 = .ok (.istore_n 1, 1) := by decide +kernel
theorem dX5_token_46 : decode cX5_token 46 = .ok (.aload_n 0, 1) := by decide +kernel
theorem dX5_token_47 : decode cX5_token 47 = .ok (.aload_n 0, 1) := by decide +kernel
theorem dX5_token_48 : decode cX5_token 48 = .ok (.getfield 205, 3) := by decide +kernel
theorem dX5_token_51 : decode cX5_token 51 = .ok (.invokevirtual 208, 3) := by decide +kernel
theorem dX5_token_54 : decode cX5_token 54 = .ok (.invokestatic 214, 3) := by decide +kernel
theorem dX5_token_57 : decode cX5_token 57 = .ok (.istore_n 2, 1) := by decide +kernel
theorem dX5_token_58 : decode cX5_token 58 = .ok (.aload_n 0, 1) := by decide +kernel
theorem dX5_token_59 : decode cX5_token 59 = .ok (.aload_n 0, 1) := by decide +kernel
theorem dX5_token_60 : decode cX5_token 60 = .ok (.getfield 205, 3) := by decide +kernel
theorem dX5_token_63 : decode cX5_token 63 = .ok (.aload_n 0, 1) := by decide +kernel
theorem dX5_token_64 : decode cX5_token 64 = .ok (.getfield 190, 3) := by decide +kernel
theorem dX5_token_67 : decode cX5_token 67 = .ok (.if_icmp .ge 12, 3) := by decide +kernel
theorem dX5_token_70 : decode cX5_token 70 = .ok (.aload_n 0, 1) := by decide +kernel
theorem dX5_token_71 : decode cX5_token 71 = .ok (.getfield 205, 3) := by decide +kernel
theorem dX5_token_74 : decode cX5_token 74 = .ok (.iconst 1, 1) := by decide +kernel
theorem dX5_token_75 : decode cX5_token 75 = .ok (.iadd, 1) := by decide +kernel
theorem dX5_token_76 : decode cX5_token 76 = .ok (.goto 7, 3) := by decide +kernel
theorem dX5_token_79 : decode cX5_token 79 = .ok (.aload_n 0, 1) := by decide +kernel
theorem dX5_token_80 : decode cX5_token 80 = .ok (.getfield 205, 3) := by decide +kernel
theorem dX5_token_83 : decode cX5_token 83 = .ok (.putfield 202, 3) := by decide +kernel
theorem dX5_token_86 : decode cX5_token 86 = .ok (.iload_n 1, 1) := by decide +kernel
theorem dX5_token_87 : decode cX5_token 87 = .ok (.ifCond .eq 17, 3) := by decide +kernel
theorem dX5_token_90 : decode cX5_token 90 = .ok (.aload_n 0, 1) := by decide +kernel
theorem dX5_token_91 : decode cX5_token 91 = .ok (.aload_n 0, 1) := by decide +kernel
theorem dX5_token_92 : decode cX5_token 92 = .ok (.getfield 202, 3) := by decide +kernel
theorem dX5_token_95 : decode cX5_token 95 = .ok (.invokevirtual 208, 3) := by decide +kernel
theorem dX5_token_98 : decode cX5_token 98 = .ok (.invokestatic 211, 3) := by decide +kernel
theorem dX5_token_101 : decode cX5_token 101 = .ok (.ifCond .ne 21, 3) := by decide +kernel
theorem dX5_token_104 : decode cX5_token 104 = .ok (.iload_n 2, 1) := by decide +kernel
theorem dX5_token_105 : decode cX5_token 105 = .ok (.ifCond .eq 30, 3) := by decide +kernel
theorem dX5_token_108 : decode cX5_token 108 = .ok (.aload_n 0, 1) := by decide +kernel
theorem dX5_token_109 : decode cX5_token 109 = .ok (.aload_n 0, 1) := by decide +kernel
theorem dX5_token_110 : decode cX5_token 110 = .ok (.getfield 202, 3) := by decide +kernel
theorem dX5_token_113 : decode cX5_token 113 = .ok (.invokevirtual 208, 3) := by decide +kernel
theorem dX5_token_116 : decode cX5_token 116 = .ok (.invokestatic 214, 3) := by decide +kernel
theorem dX5_token_119 : decode cX5_token 119 = .ok (.ifCond .eq 16, 3) := by decide +kernel
theorem dX5_token_122 : decode cX5_token 122 = .ok (.aload_n 0, 1) := by decide +kernel
theorem dX5_token_123 : decode cX5_token 123 = .ok (.dup, 1) := by decide +kernel
theorem dX5_token_124 : decode cX5_token 124 = .ok (.getfield 202, 3) := by decide +kernel
theorem dX5_token_127 : decode cX5_token 127 = .ok (.iconst 1, 1) := by decide +kernel
theorem dX5_token_128 : decode cX5_token 128 = .ok (.iadd, 1) := by decide +kernel
theorem dX5_token_129 : decode cX5_token 129 = .ok (.putfield 202, 3) := by decide +kernel
theorem dX5_token_132 : decode cX5_token 132 = .ok (.goto (-46), 3) := by decide +kernel
theorem dX5_token_135 : decode cX5_token 135 = .ok (.return_, 1) := by decide +kernel
theorem dX5_must_0 : decode cX5_must 0 = .ok (.aload_n 0, 1) := by decide +kernel
theorem dX5_must_1 : decode cX5_must 1 = .ok (.aload_n 0, 1) := by decide +kernel
theorem dX5_must_2 : decode cX5_must 2 = .ok (.getfield 217, 3) := by decide +kernel
theorem dX5_must_5 : decode cX5_must 5 = .ok (.ifCond .ne 7, 3) := by decide +kernel
theorem dX5_must_8 : decode cX5_must 8 = .ok (.iload_n 1, 1) := by decide +kernel
theorem dX5_must_9 : decode cX5_must 9 = .ok (.ifCond .ne 7, 3) := by decide +kernel
theorem dX5_must_12 : decode cX5_must 12 = .ok (.iconst 1, 1) := by decide +kernel
theorem dX5_must_13 : decode cX5_must 13 = .ok (.goto 4, 3) := by decide +kernel
theorem dX5_must_16 : decode cX5_must 16 = .ok (.iconst 0, 1) := by decide +kernel
theorem dX5_must_17 : decode cX5_must 17 = .ok (.putfield 217, 3) := by decide +kernel
theorem dX5_must_20 : decode cX5_must 20 = .ok (.aload_n 0, 1) := by decide +kernel
theorem dX5_must_21 : decode cX5_must 21 = .ok (.getfield 217, 3) := by decide +kernel
theorem dX5_must_24 : decode cX5_must 24 = .ok (.ifCond .ne 7, 3) := by decide +kernel
theorem dX5_must_27 : decode cX5_must 27 = .ok (.aload_n 0, 1) := by decide +kernel
theorem dX5_must_28 : decode cX5_must 28 = .ok (.invokevirtual 221, 3) := by decide +kernel
theorem dX5_must_31 : decode cX5_must 31 = .ok (.return_, 1) := by decide +kernel
theorem dX5_word_0 : decode cX5_word 0 = .ok (.lconst 0, 1) := by decide +kernel
theorem dX5_word_1 : decode cX5_word 1 = .ok (.lstore_n 1, 1) := by decide +kernel
theorem dX5_word_2 : decode cX5_word 2 = .ok (.aload_n 0, 1) := by decide +kernel
theorem dX5_word_3 : decode cX5_word 3 = .ok (.getfield 205, 3) := by decide +kernel
theorem dX5_word_6 : decode cX5_word 6 = .ok (.istore_n 3, 1) := by decide +kernel
theorem dX5_word_7 : decode cX5_word 7 = .ok (.iload_n 3, 1) := by decide +kernel
theorem dX5_word_8 : decode cX5_word 8 = .ok (.aload_n 0, 1) := by decide +kernel
theorem dX5_word_9 : decode cX5_word 9 = .ok (.getfield 202, 3) := by decide +kernel
theorem dX5_word_12 : decode cX5_word 12 = .ok (.if_icmp .ge 38, 3) := by decide +kernel
theorem dX5_word_15 : decode cX5_word 15 = .ok (.lload_n 1, 1) := by decide +kernel
theorem dX5_word_16 : decode cX5_word 16 = .ok (.ldc2_w 224, 3) := by decide +kernel
theorem dX5_word_19 : decode cX5_word 19 = .ok (.lcmp, 1) := by decide +kernel
theorem dX5_word_20 : decode cX5_word 20 = .ok (.ifCond .le 7, 3) := by decide +kernel
theorem dX5_word_23 : decode cX5_word 23 = .ok (.lload_n 1, 1) := by decide +kernel
theorem dX5_word_24 : decode cX5_word 24 = .ok (.goto 19, 3) := by decide +kernel
theorem dX5_word_27 : decode cX5_word 27 = .ok (.ldc2_w 226, 3) := by decide +kernel
theorem dX5_word_30 : decode cX5_word 30 = .ok (.lload_n 1, 1) := by decide +kernel
theorem dX5_word_31 : decode cX5_word 31 = .ok (.lmul, 1) := by decide +kernel
theorem dX5_word_32 : decode cX5_word 32 = .ok (.aload_n 0, 1) := by decide +kernel
theorem dX5_word_33 : decode cX5_word 33 = .ok (.getfield 25, 3) := by decide +kernel
theorem dX5_word_36 : decode cX5_word 36 = .ok (.iload_n 3, 1) := by decide +kernel
theorem dX5_word_37 : decode cX5_word 37 = .ok (.iaload, 1) := by decide +kernel
theorem dX5_word_38 : decode cX5_word 38 = .ok (.bipush 96, 2) := by decide +kernel
theorem dX5_word_40 : decode cX5_word 40 = .ok (.isub, 1) := by decide +kernel
theorem dX5_word_41 : decode cX5_word 41 = .ok (.i2l, 1) := by decide +kernel
theorem dX5_word_42 : decode cX5_word 42 = .ok (.ladd, 1) := by decide +kernel
theorem dX5_word_43 : decode cX5_word 43 = .ok (.lstore_n 1, 1) := by decide +kernel
theorem dX5_word_44 : decode cX5_word 44 = .ok (.iinc 3 1, 3) := by decide +kernel
theorem dX5_word_47 : decode cX5_word 47 = .ok (.goto (-40), 3) := by decide +kernel
theorem dX5_word_50 : decode cX5_word 50 = .ok (.aload_n 0, 1) := by decide +kernel
theorem dX5_word_51 : decode cX5_word 51 = .ok (.getfield 217, 3) := by decide +kernel
theorem dX5_word_54 : decode cX5_word 54 = .ok (.ifCond .ne 17, 3) := by decide +kernel
theorem dX5_word_57 : decode cX5_word 57 = .ok (.aload_n 0, 1) := by decide +kernel
theorem dX5_word_58 : decode cX5_word 58 = .ok (.aload_n 0, 1) := by decide +kernel
theorem dX5_word_59 : decode cX5_word 59 = .ok (.getfield 205, 3) := by decide +kernel
theorem dX5_word_62 : decode cX5_word 62 = .ok (.invokevirtual 208, 3) := by decide +kernel
theorem dX5_word_65 : decode cX5_word 65 = .ok (.invokestatic 211, 3) := by decide +kernel
theorem dX5_word_68 : decode cX5_word 68 = .ok (.ifCond .ne 7, 3) := by decide +kernel
theorem dX5_word_71 : decode cX5_word 71 = .ok (.lconst 0, 1) := by decide +kernel
theorem dX5_word_72 : decode cX5_word 72 = .ok (.goto 4, 3) := by decide +kernel
theorem dX5_word_75 : decode cX5_word 75 = .ok (.lload_n 1, 1) := by decide +kernel
theorem dX5_word_76 : decode cX5_word 76 = .ok (.lreturn, 1) := by decide +kernel
theorem dX5_number_0 : decode cX5_number 0 = .ok (.aload_n 0, 1) := by decide +kernel
theorem dX5_number_1 : decode cX5_number 1 = .ok (.getfield 217, 3) := by decide +kernel
theorem dX5_number_4 : decode cX5_number 4 = .ok (.ifCond .eq 4, 3) := by decide +kernel
theorem dX5_number_7 : decode cX5_number 7 = .ok (.return_, 1) := by decide +kernel
theorem dX5_number_8 : decode cX5_number 8 = .ok (.aload_n 0, 1) := by decide +kernel
theorem dX5_number_9 : decode cX5_number 9 = .ok (.aload_n 0, 1) := by decide +kernel
theorem dX5_number_10 : decode cX5_number 10 = .ok (.getfield 205, 3) := by decide +kernel
theorem dX5_number_13 : decode cX5_number 13 = .ok (.invokevirtual 208, 3) := by decide +kernel
theorem dX5_number_16 : decode cX5_number 16 = .ok (.invokestatic 214, 3) := by decide +kernel
theorem dX5_number_19 : decode cX5_number 19 = .ok (.istore_n 3, 1) := by decide +kernel
theorem dX5_number_20 : decode cX5_number 20 = .ok (.iconst 0, 1) := by decide +kernel
theorem dX5_number_21 : decode cX5_number 21 = .ok (.istore 4, 2) := by decide +kernel
theorem dX5_number_23 : decode cX5_number 23 = .ok (.aload_n 0, 1) := by decide +kernel
theorem dX5_number_24 : decode cX5_number 24 = .ok (.getfield 205, 3) := by decide +kernel
theorem dX5_number_27 : decode cX5_number 27 = .ok (.istore 5, 2) := by decide +kernel
theorem dX5_number_29 : decode cX5_number 29 = .ok (.iload 5, 2) := by decide +kernel
theorem dX5_number_31 : decode cX5_number 31 = .ok (.aload_n 0, 1) := by decide +kernel
theorem dX5_number_32 : decode cX5_number 32 = .ok (.getfield 202, 3) := by decide +kernel
theorem dX5_number_35 : decode cX5_number 35 = .ok (.if_icmp .ge 44, 3) := by decide +kernel
theorem dX5_number_38 : decode cX5_number 38 = .ok (.iload_n 3, 1) := by decide +kernel
theorem dX5_number_39 : decode cX5_number 39 = .ok (.ifCond .eq 40, 3) := by decide +kernel
theorem dX5_number_42 : decode cX5_number 42 = .ok (.iload 4, 2) := by decide +kernel
theorem dX5_number_44 : decode cX5_number 44 = .ok (.sipush 9999, 3) := by decide +kernel
theorem dX5_number_47 : decode cX5_number 47 = .ok (.if_icmp .le 8, 3) := by decide +kernel
theorem dX5_number_50 : decode cX5_number 50 = .ok (.iload 4, 2) := by decide +kernel
theorem dX5_number_52 : decode cX5_number 52 = .ok (.goto 19, 3) := by decide +kernel
theorem dX5_number_55 : decode cX5_number 55 = .ok (.bipush 10, 2) := by decide +kernel
theorem dX5_number_57 : decode cX5_number 57 = .ok (.iload 4, 2) := by decide +kernel
theorem dX5_number_59 : decode cX5_number 59 = .ok (.imul, 1) := by decide +kernel
theorem dX5_number_60 : decode cX5_number 60 = .ok (.aload_n 0, 1) := by decide +kernel
theorem dX5_number_61 : decode cX5_number 61 = .ok (.getfield 25, 3) := by decide +kernel
theorem dX5_number_64 : decode cX5_number 64 = .ok (.iload 5, 2) := by decide +kernel
theorem dX5_number_66 : decode cX5_number 66 = .ok (.iaload, 1) := by decide +kernel
theorem dX5_number_67 : decode cX5_number 67 = .ok (.iadd, 1) := by decide +kernel
theorem dX5_number_68 : decode cX5_number 68 = .ok (.bipush 48, 2) := by decide +kernel
theorem dX5_number_70 : decode cX5_number 70 = .ok (.isub, 1) := by decide +kernel
theorem dX5_number_71 : decode cX5_number 71 = .ok (.istore 4, 2) := by decide +kernel
theorem dX5_number_73 : decode cX5_number 73 = .ok (.iinc 5 1, 3) := by decide +kernel
theorem dX5_number_76 : decode cX5_number 76 = .ok (.goto (-47), 3) := by decide +kernel
theorem dX5_number_79 : decode cX5_number 79 = .ok (.aload_n 0, 1) := by decide +kernel
theorem dX5_number_80 : decode cX5_number 80 = .ok (.iload 4, 2) := by decide +kernel
theorem dX5_number_82 : decode cX5_number 82 = .ok (.putfield 228, 3) := by decide +kernel
theorem dX5_number_85 : decode cX5_number 85 = .ok (.aload_n 0, 1) := by decide +kernel
theorem dX5_number_86 : decode cX5_number 86 = .ok (.iload_n 3, 1) := by decide +kernel
theorem dX5_number_87 : decode cX5_number 87 = .ok (.ifCond .eq 20, 3) := by decide +kernel
theorem dX5_number_90 : decode cX5_number 90 = .ok (.iload 4, 2) := by decide +kernel
theorem dX5_number_92 : decode cX5_number 92 = .ok (.i2l, 1) := by decide +kernel
theorem dX5_number_93 : decode cX5_number 93 = .ok (.iload_n 1, 1) := by decide +kernel
theorem dX5_number_94 : decode cX5_number 94 = .ok (.i2l, 1) := by decide +kernel
theorem dX5_number_95 : decode cX5_number 95 = .ok (.iload_n 2, 1) := by decide +kernel
theorem dX5_number_96 : decode cX5_number 96 = .ok (.i2l, 1) := by decide +kernel
theorem dX5_number_97 : decode cX5_number 97 = .ok (.invokestatic 46, 3) := by decide +kernel
theorem dX5_number_100 : decode cX5_number 100 = .ok (.ifCond .eq 7, 3) := by decide +kernel
theorem dX5_number_103 : decode cX5_number 103 = .ok (.iconst 1, 1) := by decide +kernel
theorem dX5_number_104 : decode cX5_number 104 = .ok (.goto 4, 3) := by decide +kernel
theorem dX5_number_107 : decode cX5_number 107 = .ok (.iconst 0, 1) := by decide +kernel
theorem dX5_number_108 : decode cX5_number 108 = .ok (.invokevirtual 231, 3) := by decide +kernel
theorem dX5_number_111 : decode cX5_number 111 = .ok (.return_, 1) := by decide +kernel
theorem dX5_kindHere_0 : decode cX5_kindHere 0 = .ok (.aload_n 0, 1) := by decide +kernel
theorem dX5_kindHere_1 : decode cX5_kindHere 1 = .ok (.invokevirtual 235, 3) := by decide +kernel
theorem dX5_kindHere_4 : decode cX5_kindHere 4 = .ok (.lstore_n 1, 1) := by decide +kernel
theorem dX5_kindHere_5 : decode cX5_kindHere 5 = .ok (.lload_n 1, 1) := by decide +kernel
theorem dX5_kindHere_6 : decode cX5_kindHere 6 = .ok (.ldc2_w 239, 3) := by decide +kernel
theorem dX5_kindHere_9 : decode cX5_kindHere 9 = .ok (.lcmp, 1) := by decide +kernel
theorem dX5_kindHere_10 : decode cX5_kindHere 10 = .ok (.ifCond .ne 7, 3) := by decide +kernel
theorem dX5_kindHere_13 : decode cX5_kindHere 13 = .ok (.iconst 0, 1) := by decide +kernel
theorem dX5_kindHere_14 : decode cX5_kindHere 14 = .ok (.goto 64, 3) := by decide +kernel
theorem dX5_kindHere_17 : decode cX5_kindHere 17 = .ok (.lload_n 1, 1) := by decide +kernel
theorem dX5_kindHere_18 : decode cX5_kindHere 18 = .ok (.ldc2_w 241, 3) := by decide +kernel
theorem dX5_kindHere_21 : decode cX5_kindHere 21 = .ok (.lcmp, 1) := by decide +kernel
theorem dX5_kindHere_22 : decode cX5_kindHere 22 = .ok (.ifCond .ne 7, 3) := by decide +kernel
theorem dX5_kindHere_25 : decode cX5_kindHere 25 = .ok (.iconst 1, 1) := by decide +kernel
theorem dX5_kindHere_26 : decode cX5_kindHere 26 = .ok (.goto 52, 3) := by decide +kernel
theorem dX5_kindHere_29 : decode cX5_kindHere 29 = .ok (.lload_n 1, 1) := by decide +kernel
theorem dX5_kindHere_30 : decode cX5_kindHere 30 = .ok (.ldc2_w 243, 3) := by decide +kernel
theorem dX5_kindHere_33 : decode cX5_kindHere 33 = .ok (.lcmp, 1) := by decide +kernel
theorem dX5_kindHere_34 : decode cX5_kindHere 34 = .ok (.ifCond .ne 7, 3) := by decide +kernel
theorem dX5_kindHere_37 : decode cX5_kindHere 37 = .ok (.iconst 2, 1) := by decide +kernel
theorem dX5_kindHere_38 : decode cX5_kindHere 38 = .ok (.goto 40, 3) := by decide +kernel
theorem dX5_kindHere_41 : decode cX5_kindHere 41 = .ok (.lload_n 1, 1) := by decide +kernel
theorem dX5_kindHere_42 : decode cX5_kindHere 42 = .ok (.ldc2_w 245, 3) := by decide +kernel
theorem dX5_kindHere_45 : decode cX5_kindHere 45 = .ok (.lcmp, 1) := by decide +kernel
theorem dX5_kindHere_46 : decode cX5_kindHere 46 = .ok (.ifCond .ne 7, 3) := by decide +kernel
theorem dX5_kindHere_49 : decode cX5_kindHere 49 = .ok (.iconst 3, 1) := by decide +kernel
theorem dX5_kindHere_50 : decode cX5_kindHere 50 = .ok (.goto 28, 3) := by decide +kernel
theorem dX5_kindHere_53 : decode cX5_kindHere 53 = .ok (.lload_n 1, 1) := by decide +kernel
theorem dX5_kindHere_54 : decode cX5_kindHere 54 = .ok (.ldc2_w 247, 3) := by decide +kernel
theorem dX5_kindHere_57 : decode cX5_kindHere 57 = .ok (.lcmp, 1) := by decide +kernel
theorem dX5_kindHere_58 : decode cX5_kindHere 58 = .ok (.ifCond .ne 7, 3) := by decide +kernel
theorem dX5_kindHere_61 : decode cX5_kindHere 61 = .ok (.iconst 4, 1) := by decide +kernel
theorem dX5_kindHere_62 : decode cX5_kindHere 62 = .ok (.goto 16, 3) := by decide +kernel
theorem dX5_kindHere_65 : decode cX5_kindHere 65 = .ok (.lload_n 1, 1) := by decide +kernel
theorem dX5_kindHere_66 : decode cX5_kindHere 66 = .ok (.ldc2_w 249, 3) := by decide +kernel
theorem dX5_kindHere_69 : decode cX5_kindHere 69 = .ok (.lcmp, 1) := by decide +kernel
theorem dX5_kindHere_70 : decode cX5_kindHere 70 = .ok (.ifCond .ne 7, 3) := by decide +kernel
theorem dX5_kindHere_73 : decode cX5_kindHere 73 = .ok (.iconst 5, 1) := by decide +kernel
theorem dX5_kindHere_74 : decode cX5_kindHere 74 = .ok (.goto 4, 3) := by decide +kernel
theorem dX5_kindHere_77 : decode cX5_kindHere 77 = .ok (.iconst (-1), 1) := by decide +kernel
theorem dX5_kindHere_78 : decode cX5_kindHere 78 = .ok (.ireturn, 1) := by decide +kernel
theorem dX5_eweItem_0 : decode cX5_eweItem 0 = .ok (.aload_n 0, 1) := by decide +kernel
theorem dX5_eweItem_1 : decode cX5_eweItem 1 = .ok (.aload_n 0, 1) := by decide +kernel
theorem dX5_eweItem_2 : decode cX5_eweItem 2 = .ok (.getfield 7, 3) := by decide +kernel
theorem dX5_eweItem_5 : decode cX5_eweItem 5 = .ok (.iconst 1, 1) := by decide +kernel
theorem dX5_eweItem_6 : decode cX5_eweItem 6 = .ok (.iaload, 1) := by decide +kernel
theorem dX5_eweItem_7 : decode cX5_eweItem 7 = .ok (.bipush 8, 2) := by decide +kernel
theorem dX5_eweItem_9 : decode cX5_eweItem 9 = .ok (.if_icmp .ge 7, 3) := by decide +kernel
theorem dX5_eweItem_12 : decode cX5_eweItem 12 = .ok (.iconst 1, 1) := by decide +kernel
theorem dX5_eweItem_13 : decode cX5_eweItem 13 = .ok (.goto 4, 3) := by decide +kernel
theorem dX5_eweItem_16 : decode cX5_eweItem 16 = .ok (.iconst 0, 1) := by decide +kernel
theorem dX5_eweItem_17 : decode cX5_eweItem 17 = .ok (.invokevirtual 231, 3) := by decide +kernel
theorem dX5_eweItem_20 : decode cX5_eweItem 20 = .ok (.aload_n 0, 1) := by decide +kernel
theorem dX5_eweItem_21 : decode cX5_eweItem 21 = .ok (.getfield 217, 3) := by decide +kernel
theorem dX5_eweItem_24 : decode cX5_eweItem 24 = .ok (.ifCond .eq 4, 3) := by decide +kernel
theorem dX5_eweItem_27 : decode cX5_eweItem 27 = .ok (.return_, 1) := by decide +kernel
theorem dX5_eweItem_28 : decode cX5_eweItem 28 = .ok (.aload_n 0, 1) := by decide +kernel
theorem dX5_eweItem_29 : decode cX5_eweItem 29 = .ok (.iload_n 1, 1) := by decide +kernel
theorem dX5_eweItem_30 : decode cX5_eweItem 30 = .ok (.invokevirtual 97, 3) := by decide +kernel
theorem dX5_eweItem_33 : decode cX5_eweItem 33 = .ok (.istore_n 2, 1) := by decide +kernel
theorem dX5_eweItem_34 : decode cX5_eweItem 34 = .ok (.aload_n 0, 1) := by decide +kernel
theorem dX5_eweItem_35 : decode cX5_eweItem 35 = .ok (.invokevirtual 235, 3) := by decide +kernel
theorem dX5_eweItem_38 : decode cX5_eweItem 38 = .ok (.ldc2_w 251, 3) := by decide +kernel
theorem dX5_eweItem_41 : decode cX5_eweItem 41 = .ok (.lcmp, 1) := by decide +kernel
theorem dX5_eweItem_42 : decode cX5_eweItem 42 = .ok (.ifCond .ne 29, 3) := by decide +kernel
theorem dX5_eweItem_45 : decode cX5_eweItem 45 = .ok (.aload_n 0, 1) := by decide +kernel
theorem dX5_eweItem_46 : decode cX5_eweItem 46 = .ok (.iconst 1, 1) := by decide +kernel
theorem dX5_eweItem_47 : decode cX5_eweItem 47 = .ok (.invokevirtual 231, 3) := by decide +kernel
theorem dX5_eweItem_50 : decode cX5_eweItem 50 = .ok (.aload_n 0, 1) := by decide +kernel
theorem dX5_eweItem_51 : decode cX5_eweItem 51 = .ok (.iconst 0, 1) := by decide +kernel
theorem dX5_eweItem_52 : decode cX5_eweItem 52 = .ok (.bipush 99, 2) := by decide +kernel
theorem dX5_eweItem_54 : decode cX5_eweItem 54 = .ok (.invokevirtual 253, 3) := by decide +kernel
theorem dX5_eweItem_57 : decode cX5_eweItem 57 = .ok (.aload_n 0, 1) := by decide +kernel
theorem dX5_eweItem_58 : decode cX5_eweItem 58 = .ok (.getfield 7, 3) := by decide +kernel
theorem dX5_eweItem_61 : decode cX5_eweItem 61 = .ok (.iload_n 2, 1) := by decide +kernel
theorem dX5_eweItem_62 : decode cX5_eweItem 62 = .ok (.iconst 1, 1) := by decide +kernel
theorem dX5_eweItem_63 : decode cX5_eweItem 63 = .ok (.invokestatic 42, 3) := by decide +kernel
theorem dX5_eweItem_66 : decode cX5_eweItem 66 = .ok (.aload_n 0, 1) := by decide +kernel
theorem dX5_eweItem_67 : decode cX5_eweItem 67 = .ok (.getfield 228, 3) := by decide +kernel
theorem dX5_eweItem_70 : decode cX5_eweItem 70 = .ok (.iastore, 1) := by decide +kernel
theorem dX5_eweItem_71 : decode cX5_eweItem 71 = .ok (.return_, 1) := by decide +kernel
theorem dX5_weatherItem_0 : decode cX5_weatherItem 0 = .ok (.aload_n 0, 1) := by decide +kernel
theorem dX5_weatherItem_1 : decode cX5_weatherItem 1 = .ok (.iconst 1, 1) := by decide +kernel
theorem dX5_weatherItem_2 : decode cX5_weatherItem 2 = .ok (.invokevirtual 231, 3) := by decide +kernel
theorem dX5_weatherItem_5 : decode cX5_weatherItem 5 = .ok (.aload_n 0, 1) := by decide +kernel
theorem dX5_weatherItem_6 : decode cX5_weatherItem 6 = .ok (.iconst 0, 1) := by decide +kernel
theorem dX5_weatherItem_7 : decode cX5_weatherItem 7 = .ok (.bipush 11, 2) := by decide +kernel
theorem dX5_weatherItem_9 : decode cX5_weatherItem 9 = .ok (.invokevirtual 253, 3) := by decide +kernel
theorem dX5_weatherItem_12 : decode cX5_weatherItem 12 = .ok (.aload_n 0, 1) := by decide +kernel
theorem dX5_weatherItem_13 : decode cX5_weatherItem 13 = .ok (.getfield 228, 3) := by decide +kernel
theorem dX5_weatherItem_16 : decode cX5_weatherItem 16 = .ok (.istore_n 2, 1) := by decide +kernel
theorem dX5_weatherItem_17 : decode cX5_weatherItem 17 = .ok (.aload_n 0, 1) := by decide +kernel
theorem dX5_weatherItem_18 : decode cX5_weatherItem 18 = .ok (.iconst 0, 1) := by decide +kernel
theorem dX5_weatherItem_19 : decode cX5_weatherItem 19 = .ok (.bipush 20, 2) := by decide +kernel
theorem dX5_weatherItem_21 : decode cX5_weatherItem 21 = .ok (.invokevirtual 253, 3) := by decide +kernel
theorem dX5_weatherItem_24 : decode cX5_weatherItem 24 = .ok (.aload_n 0, 1) := by decide +kernel
theorem dX5_weatherItem_25 : decode cX5_weatherItem 25 = .ok (.getfield 217, 3) := by decide +kernel
theorem dX5_weatherItem_28 : decode cX5_weatherItem 28 = .ok (.ifCond .ne 17, 3) := by decide +kernel
theorem dX5_weatherItem_31 : decode cX5_weatherItem 31 = .ok (.aload_n 0, 1) := by decide +kernel
theorem dX5_weatherItem_32 : decode cX5_weatherItem 32 = .ok (.getfield 7, 3) := by decide +kernel
theorem dX5_weatherItem_35 : decode cX5_weatherItem 35 = .ok (.iconst 2, 1) := by decide +kernel
theorem dX5_weatherItem_36 : decode cX5_weatherItem 36 = .ok (.iload_n 2, 1) := by decide +kernel
theorem dX5_weatherItem_37 : decode cX5_weatherItem 37 = .ok (.iadd, 1) := by decide +kernel
theorem dX5_weatherItem_38 : decode cX5_weatherItem 38 = .ok (.iload_n 1, 1) := by decide +kernel
theorem dX5_weatherItem_39 : decode cX5_weatherItem 39 = .ok (.aload_n 0, 1) := by decide +kernel
theorem dX5_weatherItem_40 : decode cX5_weatherItem 40 = .ok (.getfield 228, 3) := by decide +kernel
theorem dX5_weatherItem_43 : decode cX5_weatherItem 43 = .ok (.imul, 1) := by decide +kernel
theorem dX5_weatherItem_44 : decode cX5_weatherItem 44 = .ok (.iastore, 1) := by decide +kernel
theorem dX5_weatherItem_45 : decode cX5_weatherItem 45 = .ok (.return_, 1) := by decide +kernel
theorem dX5_cutItem_0 : decode cX5_cutItem 0 = .ok (.aload_n 0, 1) := by decide +kernel
theorem dX5_cutItem_1 : decode cX5_cutItem 1 = .ok (.iconst 1, 1) := by decide +kernel
theorem dX5_cutItem_2 : decode cX5_cutItem 2 = .ok (.invokevirtual 231, 3) := by decide +kernel
theorem dX5_cutItem_5 : decode cX5_cutItem 5 = .ok (.aload_n 0, 1) := by decide +kernel
theorem dX5_cutItem_6 : decode cX5_cutItem 6 = .ok (.iconst 0, 1) := by decide +kernel
theorem dX5_cutItem_7 : decode cX5_cutItem 7 = .ok (.iconst 3, 1) := by decide +kernel
theorem dX5_cutItem_8 : decode cX5_cutItem 8 = .ok (.invokevirtual 253, 3) := by decide +kernel
theorem dX5_cutItem_11 : decode cX5_cutItem 11 = .ok (.aload_n 0, 1) := by decide +kernel
theorem dX5_cutItem_12 : decode cX5_cutItem 12 = .ok (.getfield 228, 3) := by decide +kernel
theorem dX5_cutItem_15 : decode cX5_cutItem 15 = .ok (.istore_n 1, 1) := by decide +kernel
theorem dX5_cutItem_16 : decode cX5_cutItem 16 = .ok (.aload_n 0, 1) := by decide +kernel
theorem dX5_cutItem_17 : decode cX5_cutItem 17 = .ok (.iconst 0, 1) := by decide +kernel
theorem dX5_cutItem_18 : decode cX5_cutItem 18 = .ok (.bipush 11, 2) := by decide +kernel
theorem dX5_cutItem_20 : decode cX5_cutItem 20 = .ok (.invokevirtual 253, 3) := by decide +kernel
theorem dX5_cutItem_23 : decode cX5_cutItem 23 = .ok (.aload_n 0, 1) := by decide +kernel
theorem dX5_cutItem_24 : decode cX5_cutItem 24 = .ok (.getfield 228, 3) := by decide +kernel
theorem dX5_cutItem_27 : decode cX5_cutItem 27 = .ok (.istore_n 2, 1) := by decide +kernel
theorem dX5_cutItem_28 : decode cX5_cutItem 28 = .ok (.aload_n 0, 1) := by decide +kernel
theorem dX5_cutItem_29 : decode cX5_cutItem 29 = .ok (.getfield 217, 3) := by decide +kernel
theorem dX5_cutItem_32 : decode cX5_cutItem 32 = .ok (.ifCond .eq 4, 3) := by decide +kernel
theorem dX5_cutItem_35 : decode cX5_cutItem 35 = .ok (.return_, 1) := by decide +kernel
theorem dX5_cutItem_36 : decode cX5_cutItem 36 = .ok (.sipush 999, 3) := by decide +kernel
theorem dX5_cutItem_39 : decode cX5_cutItem 39 = .ok (.aload_n 0, 1) := by decide +kernel
theorem dX5_cutItem_40 : decode cX5_cutItem 40 = .ok (.getfield 7, 3) := by decide +kernel
theorem dX5_cutItem_43 : decode cX5_cutItem 43 = .ok (.iload_n 1, 1) := by decide +kernel
theorem dX5_cutItem_44 : decode cX5_cutItem 44 = .ok (.iload_n 2, 1) := by decide +kernel
theorem dX5_cutItem_45 : decode cX5_cutItem 45 = .ok (.invokestatic 122, 3) := by decide +kernel
theorem dX5_cutItem_48 : decode cX5_cutItem 48 = .ok (.iaload, 1) := by decide +kernel
theorem dX5_cutItem_49 : decode cX5_cutItem 49 = .ok (.isub, 1) := by decide +kernel
theorem dX5_cutItem_50 : decode cX5_cutItem 50 = .ok (.istore_n 3, 1) := by decide +kernel
theorem dX5_cutItem_51 : decode cX5_cutItem 51 = .ok (.aload_n 0, 1) := by decide +kernel
theorem dX5_cutItem_52 : decode cX5_cutItem 52 = .ok (.iconst 0, 1) := by decide +kernel
theorem dX5_cutItem_53 : decode cX5_cutItem 53 = .ok (.aload_n 0, 1) := by decide +kernel
theorem dX5_cutItem_54 : decode cX5_cutItem 54 = .ok (.getfield 7, 3) := by decide +kernel
theorem dX5_cutItem_57 : decode cX5_cutItem 57 = .ok (.bipush 14, 2) := by decide +kernel
theorem dX5_cutItem_59 : decode cX5_cutItem 59 = .ok (.iload_n 2, 1) := by decide +kernel
theorem dX5_cutItem_60 : decode cX5_cutItem 60 = .ok (.iadd, 1) := by decide +kernel
theorem dX5_cutItem_61 : decode cX5_cutItem 61 = .ok (.iaload, 1) := by decide +kernel
theorem dX5_cutItem_62 : decode cX5_cutItem 62 = .ok (.iload_n 3, 1) := by decide +kernel
theorem dX5_cutItem_63 : decode cX5_cutItem 63 = .ok (.invokestatic 144, 3) := by decide +kernel
theorem dX5_cutItem_66 : decode cX5_cutItem 66 = .ok (.invokevirtual 253, 3) := by decide +kernel
theorem dX5_cutItem_69 : decode cX5_cutItem 69 = .ok (.aload_n 0, 1) := by decide +kernel
theorem dX5_cutItem_70 : decode cX5_cutItem 70 = .ok (.getfield 217, 3) := by decide +kernel
theorem dX5_cutItem_73 : decode cX5_cutItem 73 = .ok (.ifCond .ne 14, 3) := by decide +kernel
theorem dX5_cutItem_76 : decode cX5_cutItem 76 = .ok (.aload_n 0, 1) := by decide +kernel
theorem dX5_cutItem_77 : decode cX5_cutItem 77 = .ok (.iload_n 1, 1) := by decide +kernel
theorem dX5_cutItem_78 : decode cX5_cutItem 78 = .ok (.iload_n 2, 1) := by decide +kernel
theorem dX5_cutItem_79 : decode cX5_cutItem 79 = .ok (.aload_n 0, 1) := by decide +kernel
theorem dX5_cutItem_80 : decode cX5_cutItem 80 = .ok (.getfield 228, 3) := by decide +kernel
theorem dX5_cutItem_83 : decode cX5_cutItem 83 = .ok (.invokevirtual 131, 3) := by decide +kernel
theorem dX5_cutItem_86 : decode cX5_cutItem 86 = .ok (.pop, 1) := by decide +kernel
theorem dX5_cutItem_87 : decode cX5_cutItem 87 = .ok (.return_, 1) := by decide +kernel
theorem dX5_storeItem_0 : decode cX5_storeItem 0 = .ok (.aload_n 0, 1) := by decide +kernel
theorem dX5_storeItem_1 : decode cX5_storeItem 1 = .ok (.iconst 1, 1) := by decide +kernel
theorem dX5_storeItem_2 : decode cX5_storeItem 2 = .ok (.invokevirtual 231, 3) := by decide +kernel
theorem dX5_storeItem_5 : decode cX5_storeItem 5 = .ok (.aload_n 0, 1) := by decide +kernel
theorem dX5_storeItem_6 : decode cX5_storeItem 6 = .ok (.iconst 0, 1) := by decide +kernel
theorem dX5_storeItem_7 : decode cX5_storeItem 7 = .ok (.bipush 11, 2) := by decide +kernel
theorem dX5_storeItem_9 : decode cX5_storeItem 9 = .ok (.invokevirtual 253, 3) := by decide +kernel
theorem dX5_storeItem_12 : decode cX5_storeItem 12 = .ok (.aload_n 0, 1) := by decide +kernel
theorem dX5_storeItem_13 : decode cX5_storeItem 13 = .ok (.getfield 228, 3) := by decide +kernel
theorem dX5_storeItem_16 : decode cX5_storeItem 16 = .ok (.istore_n 1, 1) := by decide +kernel
theorem dX5_storeItem_17 : decode cX5_storeItem 17 = .ok (.aload_n 0, 1) := by decide +kernel
theorem dX5_storeItem_18 : decode cX5_storeItem 18 = .ok (.iconst 0, 1) := by decide +kernel
theorem dX5_storeItem_19 : decode cX5_storeItem 19 = .ok (.sipush 9999, 3) := by decide +kernel
theorem dX5_storeItem_22 : decode cX5_storeItem 22 = .ok (.invokevirtual 253, 3) := by decide +kernel
theorem dX5_storeItem_25 : decode cX5_storeItem 25 = .ok (.aload_n 0, 1) := by decide +kernel
theorem dX5_storeItem_26 : decode cX5_storeItem 26 = .ok (.getfield 217, 3) := by decide +kernel
theorem dX5_storeItem_29 : decode cX5_storeItem 29 = .ok (.ifCond .ne 16, 3) := by decide +kernel
theorem dX5_storeItem_32 : decode cX5_storeItem 32 = .ok (.aload_n 0, 1) := by decide +kernel
theorem dX5_storeItem_33 : decode cX5_storeItem 33 = .ok (.getfield 7, 3) := by decide +kernel
theorem dX5_storeItem_36 : decode cX5_storeItem 36 = .ok (.bipush 14, 2) := by decide +kernel
theorem dX5_storeItem_38 : decode cX5_storeItem 38 = .ok (.iload_n 1, 1) := by decide +kernel
theorem dX5_storeItem_39 : decode cX5_storeItem 39 = .ok (.iadd, 1) := by decide +kernel
theorem dX5_storeItem_40 : decode cX5_storeItem 40 = .ok (.aload_n 0, 1) := by decide +kernel
theorem dX5_storeItem_41 : decode cX5_storeItem 41 = .ok (.getfield 228, 3) := by decide +kernel
theorem dX5_storeItem_44 : decode cX5_storeItem 44 = .ok (.iastore, 1) := by decide +kernel
theorem dX5_storeItem_45 : decode cX5_storeItem 45 = .ok (.return_, 1) := by decide +kernel
theorem dX5_item_0 : decode cX5_item 0 = .ok (.aload_n 0, 1) := by decide +kernel
theorem dX5_item_1 : decode cX5_item 1 = .ok (.invokevirtual 257, 3) := by decide +kernel
theorem dX5_item_4 : decode cX5_item 4 = .ok (.istore_n 1, 1) := by decide +kernel
theorem dX5_item_5 : decode cX5_item 5 = .ok (.aload_n 0, 1) := by decide +kernel
theorem dX5_item_6 : decode cX5_item 6 = .ok (.invokevirtual 235, 3) := by decide +kernel
theorem dX5_item_9 : decode cX5_item 9 = .ok (.lstore_n 2, 1) := by decide +kernel
theorem dX5_item_10 : decode cX5_item 10 = .ok (.iload_n 1, 1) := by decide +kernel
theorem dX5_item_11 : decode cX5_item 11 = .ok (.ifCond .lt 11, 3) := by decide +kernel
theorem dX5_item_14 : decode cX5_item 14 = .ok (.aload_n 0, 1) := by decide +kernel
theorem dX5_item_15 : decode cX5_item 15 = .ok (.iload_n 1, 1) := by decide +kernel
theorem dX5_item_16 : decode cX5_item 16 = .ok (.invokevirtual 260, 3) := by decide +kernel
theorem dX5_item_19 : decode cX5_item 19 = .ok (.goto 70, 3) := by decide +kernel
theorem dX5_item_22 : decode cX5_item 22 = .ok (.lload_n 2, 1) := by decide +kernel
theorem dX5_item_23 : decode cX5_item 23 = .ok (.ldc2_w 263, 3) := by decide +kernel
theorem dX5_item_26 : decode cX5_item 26 = .ok (.lcmp, 1) := by decide +kernel
theorem dX5_item_27 : decode cX5_item 27 = .ok (.ifCond .ne 11, 3) := by decide +kernel
theorem dX5_item_30 : decode cX5_item 30 = .ok (.aload_n 0, 1) := by decide +kernel
theorem dX5_item_31 : decode cX5_item 31 = .ok (.iconst (-1), 1) := by decide +kernel
theorem dX5_item_32 : decode cX5_item 32 = .ok (.invokevirtual 265, 3) := by decide +kernel
theorem dX5_item_35 : decode cX5_item 35 = .ok (.goto 54, 3) := by decide +kernel
theorem dX5_item_38 : decode cX5_item 38 = .ok (.lload_n 2, 1) := by decide +kernel
theorem dX5_item_39 : decode cX5_item 39 = .ok (.ldc2_w 268, 3) := by decide +kernel
theorem dX5_item_42 : decode cX5_item 42 = .ok (.lcmp, 1) := by decide +kernel
theorem dX5_item_43 : decode cX5_item 43 = .ok (.ifCond .ne 11, 3) := by decide +kernel
theorem dX5_item_46 : decode cX5_item 46 = .ok (.aload_n 0, 1) := by decide +kernel
theorem dX5_item_47 : decode cX5_item 47 = .ok (.iconst 1, 1) := by decide +kernel
theorem dX5_item_48 : decode cX5_item 48 = .ok (.invokevirtual 265, 3) := by decide +kernel
theorem dX5_item_51 : decode cX5_item 51 = .ok (.goto 38, 3) := by decide +kernel
theorem dX5_item_54 : decode cX5_item 54 = .ok (.lload_n 2, 1) := by decide +kernel
theorem dX5_item_55 : decode cX5_item 55 = .ok (.ldc2_w 270, 3) := by decide +kernel
theorem dX5_item_58 : decode cX5_item 58 = .ok (.lcmp, 1) := by decide +kernel
theorem dX5_item_59 : decode cX5_item 59 = .ok (.ifCond .ne 10, 3) := by decide +kernel
theorem dX5_item_62 : decode cX5_item 62 = .ok (.aload_n 0, 1) := by decide +kernel
theorem dX5_item_63 : decode cX5_item 63 = .ok (.invokevirtual 272, 3) := by decide +kernel
theorem dX5_item_66 : decode cX5_item 66 = .ok (.goto 23, 3) := by decide +kernel
theorem dX5_item_69 : decode cX5_item 69 = .ok (.lload_n 2, 1) := by decide +kernel
theorem dX5_item_70 : decode cX5_item 70 = .ok (.ldc2_w 275, 3) := by decide +kernel
theorem dX5_item_73 : decode cX5_item 73 = .ok (.lcmp, 1) := by decide +kernel
theorem dX5_item_74 : decode cX5_item 74 = .ok (.ifCond .ne 10, 3) := by decide +kernel
theorem dX5_item_77 : decode cX5_item 77 = .ok (.aload_n 0, 1) := by decide +kernel
theorem dX5_item_78 : decode cX5_item 78 = .ok (.invokevirtual 277, 3) := by decide +kernel
theorem dX5_item_81 : decode cX5_item 81 = .ok (.goto 8, 3) := by decide +kernel
theorem dX5_item_84 : decode cX5_item 84 = .ok (.aload_n 0, 1) := by decide +kernel
theorem dX5_item_85 : decode cX5_item 85 = .ok (.iconst 0, 1) := by decide +kernel
theorem dX5_item_86 : decode cX5_item 86 = .ok (.invokevirtual 231, 3) := by decide +kernel
theorem dX5_item_89 : decode cX5_item 89 = .ok (.return_, 1) := by decide +kernel
theorem dX5_parish_0 : decode cX5_parish 0 = .ok (.aload_n 0, 1) := by decide +kernel
theorem dX5_parish_1 : decode cX5_parish 1 = .ok (.invokevirtual 280, 3) := by decide +kernel
theorem dX5_parish_4 : decode cX5_parish 4 = .ok (.aload_n 0, 1) := by decide +kernel
theorem dX5_parish_5 : decode cX5_parish 5 = .ok (.iconst 0, 1) := by decide +kernel
theorem dX5_parish_6 : decode cX5_parish 6 = .ok (.putfield 217, 3) := by decide +kernel
theorem dX5_parish_9 : decode cX5_parish 9 = .ok (.aload_n 0, 1) := by decide +kernel
theorem dX5_parish_10 : decode cX5_parish 10 = .ok (.iconst 0, 1) := by decide +kernel
theorem dX5_parish_11 : decode cX5_parish 11 = .ok (.putfield 202, 3) := by decide +kernel
theorem dX5_parish_14 : decode cX5_parish 14 = .ok (.aload_n 0, 1) := by decide +kernel
theorem dX5_parish_15 : decode cX5_parish 15 = .ok (.invokevirtual 221, 3) := by decide +kernel
theorem dX5_parish_18 : decode cX5_parish 18 = .ok (.iconst 1, 1) := by decide +kernel
theorem dX5_parish_19 : decode cX5_parish 19 = .ok (.istore_n 1, 1) := by decide +kernel
theorem dX5_parish_20 : decode cX5_parish 20 = .ok (.aload_n 0, 1) := by decide +kernel
theorem dX5_parish_21 : decode cX5_parish 21 = .ok (.invokevirtual 283, 3) := by decide +kernel
theorem dX5_parish_24 : decode cX5_parish 24 = .ok (.aload_n 0, 1) := by decide +kernel
theorem dX5_parish_25 : decode cX5_parish 25 = .ok (.getfield 217, 3) := by decide +kernel
theorem dX5_parish_28 : decode cX5_parish 28 = .ok (.ifCond .ne 31, 3) := by decide +kernel
theorem dX5_parish_31 : decode cX5_parish 31 = .ok (.aload_n 0, 1) := by decide +kernel
theorem dX5_parish_32 : decode cX5_parish 32 = .ok (.aload_n 0, 1) := by decide +kernel
theorem dX5_parish_33 : decode cX5_parish 33 = .ok (.getfield 205, 3) := by decide +kernel
theorem dX5_parish_36 : decode cX5_parish 36 = .ok (.invokevirtual 208, 3) := by decide +kernel
theorem dX5_parish_39 : decode cX5_parish 39 = .ok (.bipush 59, 2) := by decide +kernel
theorem dX5_parish_41 : decode cX5_parish 41 = .ok (.if_icmp .ne 18, 3) := by decide +kernel
theorem dX5_parish_44 : decode cX5_parish 44 = .ok (.aload_n 0, 1) := by decide +kernel
theorem dX5_parish_45 : decode cX5_parish 45 = .ok (.iconst 1, 1) := by decide +kernel
theorem dX5_parish_46 : decode cX5_parish 46 = .ok (.invokevirtual 231, 3) := by decide +kernel
theorem dX5_parish_49 : decode cX5_parish 49 = .ok (.aload_n 0, 1) := by decide +kernel
theorem dX5_parish_50 : decode cX5_parish 50 = .ok (.invokevirtual 283, 3) := by decide +kernel
theorem dX5_parish_53 : decode cX5_parish 53 = .ok (.iinc 1 1, 3) := by decide +kernel
theorem dX5_parish_56 : decode cX5_parish 56 = .ok (.goto (-32), 3) := by decide +kernel
theorem dX5_parish_59 : decode cX5_parish 59 = .ok (.aload_n 0, 1) := by decide +kernel
theorem dX5_parish_60 : decode cX5_parish 60 = .ok (.aload_n 0, 1) := by decide +kernel
theorem dX5_parish_61 : decode cX5_parish 61 = .ok (.getfield 217, 3) := by decide +kernel
theorem dX5_parish_64 : decode cX5_parish 64 = .ok (.ifCond .ne 14, 3) := by decide +kernel
theorem dX5_parish_67 : decode cX5_parish 67 = .ok (.aload_n 0, 1) := by decide +kernel
theorem dX5_parish_68 : decode cX5_parish 68 = .ok (.getfield 205, 3) := by decide +kernel
theorem dX5_parish_71 : decode cX5_parish 71 = .ok (.aload_n 0, 1) := by decide +kernel
theorem dX5_parish_72 : decode cX5_parish 72 = .ok (.getfield 190, 3) := by decide +kernel
theorem dX5_parish_75 : decode cX5_parish 75 = .ok (.if_icmp .ge 7, 3) := by decide +kernel
theorem dX5_parish_78 : decode cX5_parish 78 = .ok (.iconst 1, 1) := by decide +kernel
theorem dX5_parish_79 : decode cX5_parish 79 = .ok (.goto 4, 3) := by decide +kernel
theorem dX5_parish_82 : decode cX5_parish 82 = .ok (.iconst 0, 1) := by decide +kernel
theorem dX5_parish_83 : decode cX5_parish 83 = .ok (.putfield 217, 3) := by decide +kernel
theorem dX5_parish_86 : decode cX5_parish 86 = .ok (.aload_n 0, 1) := by decide +kernel
theorem dX5_parish_87 : decode cX5_parish 87 = .ok (.getfield 217, 3) := by decide +kernel
theorem dX5_parish_90 : decode cX5_parish 90 = .ok (.ifCond .eq 7, 3) := by decide +kernel
theorem dX5_parish_93 : decode cX5_parish 93 = .ok (.aload_n 0, 1) := by decide +kernel
theorem dX5_parish_94 : decode cX5_parish 94 = .ok (.invokevirtual 286, 3) := by decide +kernel
theorem dX5_parish_97 : decode cX5_parish 97 = .ok (.aload_n 0, 1) := by decide +kernel
theorem dX5_parish_98 : decode cX5_parish 98 = .ok (.iconst 0, 1) := by decide +kernel
theorem dX5_parish_99 : decode cX5_parish 99 = .ok (.putfield 190, 3) := by decide +kernel
theorem dX5_parish_102 : decode cX5_parish 102 = .ok (.aload_n 0, 1) := by decide +kernel
theorem dX5_parish_103 : decode cX5_parish 103 = .ok (.getfield 217, 3) := by decide +kernel
theorem dX5_parish_106 : decode cX5_parish 106 = .ok (.ifCond .eq 12, 3) := by decide +kernel
theorem dX5_parish_109 : decode cX5_parish 109 = .ok (.iconst (-1), 1) := by decide +kernel
theorem dX5_parish_110 : decode cX5_parish 110 = .ok (.aload_n 0, 1) := by decide +kernel
theorem dX5_parish_111 : decode cX5_parish 111 = .ok (.getfield 205, 3) := by decide +kernel
theorem dX5_parish_114 : decode cX5_parish 114 = .ok (.isub, 1) := by decide +kernel
theorem dX5_parish_115 : decode cX5_parish 115 = .ok (.goto 4, 3) := by decide +kernel
theorem dX5_parish_118 : decode cX5_parish 118 = .ok (.iload_n 1, 1) := by decide +kernel
theorem dX5_parish_119 : decode cX5_parish 119 = .ok (.ireturn, 1) := by decide +kernel
theorem dX5_isOne_0 : decode cX5_isOne 0 = .ok (.iload_n 0, 1) := by decide +kernel
theorem dX5_isOne_1 : decode cX5_isOne 1 = .ok (.i2l, 1) := by decide +kernel
theorem dX5_isOne_2 : decode cX5_isOne 2 = .ok (.lconst 0, 1) := by decide +kernel
theorem dX5_isOne_3 : decode cX5_isOne 3 = .ok (.ldc2_w 52, 3) := by decide +kernel
theorem dX5_isOne_6 : decode cX5_isOne 6 = .ok (.invokestatic 46, 3) := by decide +kernel
theorem dX5_isOne_9 : decode cX5_isOne 9 = .ok (.ireturn, 1) := by decide +kernel
theorem dX5_sheet_0 : decode cX5_sheet 0 = .ok (.iload_n 1, 1) := by decide +kernel
theorem dX5_sheet_1 : decode cX5_sheet 1 = .ok (.invokestatic 289, 3) := by decide +kernel
theorem dX5_sheet_4 : decode cX5_sheet 4 = .ok (.ifCond .eq 25, 3) := by decide +kernel
theorem dX5_sheet_7 : decode cX5_sheet 7 = .ok (.iload_n 2, 1) := by decide +kernel
theorem dX5_sheet_8 : decode cX5_sheet 8 = .ok (.ifCond .eq 28, 3) := by decide +kernel
theorem dX5_sheet_11 : decode cX5_sheet 11 = .ok (.iload_n 2, 1) := by decide +kernel
theorem dX5_sheet_12 : decode cX5_sheet 12 = .ok (.bipush 8, 2) := by decide +kernel
theorem dX5_sheet_14 : decode cX5_sheet 14 = .ok (.if_icmp .eq 22, 3) := by decide +kernel
theorem dX5_sheet_17 : decode cX5_sheet 17 = .ok (.iload_n 2, 1) := by decide +kernel
theorem dX5_sheet_18 : decode cX5_sheet 18 = .ok (.bipush 16, 2) := by decide +kernel
theorem dX5_sheet_20 : decode cX5_sheet 20 = .ok (.if_icmp .eq 16, 3) := by decide +kernel
theorem dX5_sheet_23 : decode cX5_sheet 23 = .ok (.iload_n 2, 1) := by decide +kernel
theorem dX5_sheet_24 : decode cX5_sheet 24 = .ok (.bipush 64, 2) := by decide +kernel
theorem dX5_sheet_26 : decode cX5_sheet 26 = .ok (.if_icmp .eq 10, 3) := by decide +kernel
theorem dX5_sheet_29 : decode cX5_sheet 29 = .ok (.aload_n 0, 1) := by decide +kernel
theorem dX5_sheet_30 : decode cX5_sheet 30 = .ok (.ldc 41, 2) := by decide +kernel
theorem dX5_sheet_32 : decode cX5_sheet 32 = .ok (.invokevirtual 78, 3) := by decide +kernel
theorem dX5_sheet_35 : decode cX5_sheet 35 = .ok (.ireturn, 1) := by decide +kernel
theorem dX5_sheet_36 : decode cX5_sheet 36 = .ok (.iload_n 3, 1) := by decide +kernel
theorem dX5_sheet_37 : decode cX5_sheet 37 = .ok (.ifCond .ge 11, 3) := by decide +kernel
theorem dX5_sheet_40 : decode cX5_sheet 40 = .ok (.aload_n 0, 1) := by decide +kernel
theorem dX5_sheet_41 : decode cX5_sheet 41 = .ok (.ldc_w 292, 3) := by decide +kernel
theorem dX5_sheet_44 : decode cX5_sheet 44 = .ok (.invokevirtual 78, 3) := by decide +kernel
theorem dX5_sheet_47 : decode cX5_sheet 47 = .ok (.ireturn, 1) := by decide +kernel
theorem dX5_sheet_48 : decode cX5_sheet 48 = .ok (.iload_n 3, 1) := by decide +kernel
theorem dX5_sheet_49 : decode cX5_sheet 49 = .ok (.bipush 40, 2) := by decide +kernel
theorem dX5_sheet_51 : decode cX5_sheet 51 = .ok (.if_icmp .le 10, 3) := by decide +kernel
theorem dX5_sheet_54 : decode cX5_sheet 54 = .ok (.aload_n 0, 1) := by decide +kernel
theorem dX5_sheet_55 : decode cX5_sheet 55 = .ok (.ldc 41, 2) := by decide +kernel
theorem dX5_sheet_57 : decode cX5_sheet 57 = .ok (.invokevirtual 78, 3) := by decide +kernel
theorem dX5_sheet_60 : decode cX5_sheet 60 = .ok (.ireturn, 1) := by decide +kernel
theorem dX5_sheet_61 : decode cX5_sheet 61 = .ok (.aload_n 0, 1) := by decide +kernel
theorem dX5_sheet_62 : decode cX5_sheet 62 = .ok (.getfield 28, 3) := by decide +kernel
theorem dX5_sheet_65 : decode cX5_sheet 65 = .ok (.iload_n 1, 1) := by decide +kernel
theorem dX5_sheet_66 : decode cX5_sheet 66 = .ok (.iload_n 2, 1) := by decide +kernel
theorem dX5_sheet_67 : decode cX5_sheet 67 = .ok (.iastore, 1) := by decide +kernel
theorem dX5_sheet_68 : decode cX5_sheet 68 = .ok (.aload_n 0, 1) := by decide +kernel
theorem dX5_sheet_69 : decode cX5_sheet 69 = .ok (.getfield 31, 3) := by decide +kernel
theorem dX5_sheet_72 : decode cX5_sheet 72 = .ok (.iload_n 1, 1) := by decide +kernel
theorem dX5_sheet_73 : decode cX5_sheet 73 = .ok (.iload_n 2, 1) := by decide +kernel
theorem dX5_sheet_74 : decode cX5_sheet 74 = .ok (.ifCond .ne 7, 3) := by decide +kernel
theorem dX5_sheet_77 : decode cX5_sheet 77 = .ok (.iconst 0, 1) := by decide +kernel
theorem dX5_sheet_78 : decode cX5_sheet 78 = .ok (.goto 4, 3) := by decide +kernel
theorem dX5_sheet_81 : decode cX5_sheet 81 = .ok (.iload_n 3, 1) := by decide +kernel
theorem dX5_sheet_82 : decode cX5_sheet 82 = .ok (.iastore, 1) := by decide +kernel
theorem dX5_sheet_83 : decode cX5_sheet 83 = .ok (.iconst 0, 1) := by decide +kernel
theorem dX5_sheet_84 : decode cX5_sheet 84 = .ok (.istore 4, 2) := by decide +kernel
theorem dX5_sheet_86 : decode cX5_sheet 86 = .ok (.iload 4, 2) := by decide +kernel
theorem dX5_sheet_88 : decode cX5_sheet 88 = .ok (.bipush 40, 2) := by decide +kernel
theorem dX5_sheet_90 : decode cX5_sheet 90 = .ok (.if_icmp .ge 22, 3) := by decide +kernel
theorem dX5_sheet_93 : decode cX5_sheet 93 = .ok (.aload_n 0, 1) := by decide +kernel
theorem dX5_sheet_94 : decode cX5_sheet 94 = .ok (.getfield 34, 3) := by decide +kernel
theorem dX5_sheet_97 : decode cX5_sheet 97 = .ok (.bipush 40, 2) := by decide +kernel
theorem dX5_sheet_99 : decode cX5_sheet 99 = .ok (.iload_n 1, 1) := by decide +kernel
theorem dX5_sheet_100 : decode cX5_sheet 100 = .ok (.imul, 1) := by decide +kernel
theorem dX5_sheet_101 : decode cX5_sheet 101 = .ok (.iload 4, 2) := by decide +kernel
theorem dX5_sheet_103 : decode cX5_sheet 103 = .ok (.iadd, 1) := by decide +kernel
theorem dX5_sheet_104 : decode cX5_sheet 104 = .ok (.lconst 0, 1) := by decide +kernel
theorem dX5_sheet_105 : decode cX5_sheet 105 = .ok (.lastore, 1) := by decide +kernel
theorem dX5_sheet_106 : decode cX5_sheet 106 = .ok (.iinc 4 1, 3) := by decide +kernel
theorem dX5_sheet_109 : decode cX5_sheet 109 = .ok (.goto (-23), 3) := by decide +kernel
theorem dX5_sheet_112 : decode cX5_sheet 112 = .ok (.aload_n 0, 1) := by decide +kernel
theorem dX5_sheet_113 : decode cX5_sheet 113 = .ok (.getfield 31, 3) := by decide +kernel
theorem dX5_sheet_116 : decode cX5_sheet 116 = .ok (.iload_n 1, 1) := by decide +kernel
theorem dX5_sheet_117 : decode cX5_sheet 117 = .ok (.iaload, 1) := by decide +kernel
theorem dX5_sheet_118 : decode cX5_sheet 118 = .ok (.ireturn, 1) := by decide +kernel
theorem dX5_narrowed_0 : decode cX5_narrowed 0 = .ok (.iload_n 0, 1) := by decide +kernel
theorem dX5_narrowed_1 : decode cX5_narrowed 1 = .ok (.bipush 8, 2) := by decide +kernel
theorem dX5_narrowed_3 : decode cX5_narrowed 3 = .ok (.if_icmp .ne 10, 3) := by decide +kernel
theorem dX5_narrowed_6 : decode cX5_narrowed 6 = .ok (.lload_n 1, 1) := by decide +kernel
theorem dX5_narrowed_7 : decode cX5_narrowed 7 = .ok (.l2i, 1) := by decide +kernel
theorem dX5_narrowed_8 : decode cX5_narrowed 8 = .ok (.i2b, 1) := by decide +kernel
theorem dX5_narrowed_9 : decode cX5_narrowed 9 = .ok (.i2l, 1) := by decide +kernel
theorem dX5_narrowed_10 : decode cX5_narrowed 10 = .ok (.goto 17, 3) := by decide +kernel
theorem dX5_narrowed_13 : decode cX5_narrowed 13 = .ok (.iload_n 0, 1) := by decide +kernel
theorem dX5_narrowed_14 : decode cX5_narrowed 14 = .ok (.bipush 16, 2) := by decide +kernel
theorem dX5_narrowed_16 : decode cX5_narrowed 16 = .ok (.if_icmp .ne 10, 3) := by decide +kernel
theorem dX5_narrowed_19 : decode cX5_narrowed 19 = .ok (.lload_n 1, 1) := by decide +kernel
theorem dX5_narrowed_20 : decode cX5_narrowed 20 = .ok (.l2i, 1) := by decide +kernel
theorem dX5_narrowed_21 : decode cX5_narrowed 21 = .ok (.i2s, 1) := by decide +kernel
theorem dX5_narrowed_22 : decode cX5_narrowed 22 = .ok (.i2l, 1) := by decide +kernel
theorem dX5_narrowed_23 : decode cX5_narrowed 23 = .ok (.goto 4, 3) := by decide +kernel
theorem dX5_narrowed_26 : decode cX5_narrowed 26 = .ok (.lload_n 1, 1) := by decide +kernel
theorem dX5_narrowed_27 : decode cX5_narrowed 27 = .ok (.lreturn, 1) := by decide +kernel
theorem dX5_wrongSheet_0 : decode cX5_wrongSheet 0 = .ok (.iload_n 1, 1) := by decide +kernel
theorem dX5_wrongSheet_1 : decode cX5_wrongSheet 1 = .ok (.invokestatic 289, 3) := by decide +kernel
theorem dX5_wrongSheet_4 : decode cX5_wrongSheet 4 = .ok (.ifCond .ne 8, 3) := by decide +kernel
theorem dX5_wrongSheet_7 : decode cX5_wrongSheet 7 = .ok (.ldc 41, 2) := by decide +kernel
theorem dX5_wrongSheet_9 : decode cX5_wrongSheet 9 = .ok (.goto 19, 3) := by decide +kernel
theorem dX5_wrongSheet_12 : decode cX5_wrongSheet 12 = .ok (.aload_n 0, 1) := by decide +kernel
theorem dX5_wrongSheet_13 : decode cX5_wrongSheet 13 = .ok (.getfield 28, 3) := by decide +kernel
theorem dX5_wrongSheet_16 : decode cX5_wrongSheet 16 = .ok (.iload_n 1, 1) := by decide +kernel
theorem dX5_wrongSheet_17 : decode cX5_wrongSheet 17 = .ok (.iaload, 1) := by decide +kernel
theorem dX5_wrongSheet_18 : decode cX5_wrongSheet 18 = .ok (.ifCond .ne 9, 3) := by decide +kernel
theorem dX5_wrongSheet_21 : decode cX5_wrongSheet 21 = .ok (.ldc_w 293, 3) := by decide +kernel
theorem dX5_wrongSheet_24 : decode cX5_wrongSheet 24 = .ok (.goto 4, 3) := by decide +kernel
theorem dX5_wrongSheet_27 : decode cX5_wrongSheet 27 = .ok (.iconst 0, 1) := by decide +kernel
theorem dX5_wrongSheet_28 : decode cX5_wrongSheet 28 = .ok (.ireturn, 1) := by decide +kernel
theorem dX5_write_0 : decode cX5_write 0 = .ok (.aload_n 0, 1) := by decide +kernel
theorem dX5_write_1 : decode cX5_write 1 = .ok (.iload_n 1, 1) := by decide +kernel
theorem dX5_write_2 : decode cX5_write 2 = .ok (.invokevirtual 294, 3) := by decide +kernel
theorem dX5_write_5 : decode cX5_write 5 = .ok (.istore 5, 2) := by decide +kernel
theorem dX5_write_7 : decode cX5_write 7 = .ok (.iload 5, 2) := by decide +kernel
theorem dX5_write_9 : decode cX5_write 9 = .ok (.ifCond .eq 11, 3) := by decide +kernel
theorem dX5_write_12 : decode cX5_write 12 = .ok (.aload_n 0, 1) := by decide +kernel
theorem dX5_write_13 : decode cX5_write 13 = .ok (.iload 5, 2) := by decide +kernel
theorem dX5_write_15 : decode cX5_write 15 = .ok (.invokevirtual 78, 3) := by decide +kernel
theorem dX5_write_18 : decode cX5_write 18 = .ok (.i2l, 1) := by decide +kernel
theorem dX5_write_19 : decode cX5_write 19 = .ok (.lreturn, 1) := by decide +kernel
theorem dX5_write_20 : decode cX5_write 20 = .ok (.iload_n 2, 1) := by decide +kernel
theorem dX5_write_21 : decode cX5_write 21 = .ok (.i2l, 1) := by decide +kernel
theorem dX5_write_22 : decode cX5_write 22 = .ok (.lconst 0, 1) := by decide +kernel
theorem dX5_write_23 : decode cX5_write 23 = .ok (.aload_n 0, 1) := by decide +kernel
theorem dX5_write_24 : decode cX5_write 24 = .ok (.getfield 31, 3) := by decide +kernel
theorem dX5_write_27 : decode cX5_write 27 = .ok (.iload_n 1, 1) := by decide +kernel
theorem dX5_write_28 : decode cX5_write 28 = .ok (.iaload, 1) := by decide +kernel
theorem dX5_write_29 : decode cX5_write 29 = .ok (.iconst 1, 1) := by decide +kernel
theorem dX5_write_30 : decode cX5_write 30 = .ok (.isub, 1) := by decide +kernel
theorem dX5_write_31 : decode cX5_write 31 = .ok (.i2l, 1) := by decide +kernel
theorem dX5_write_32 : decode cX5_write 32 = .ok (.invokestatic 46, 3) := by decide +kernel
theorem dX5_write_35 : decode cX5_write 35 = .ok (.ifCond .ne 11, 3) := by decide +kernel
theorem dX5_write_38 : decode cX5_write 38 = .ok (.aload_n 0, 1) := by decide +kernel
theorem dX5_write_39 : decode cX5_write 39 = .ok (.ldc 41, 2) := by decide +kernel
theorem dX5_write_41 : decode cX5_write 41 = .ok (.invokevirtual 78, 3) := by decide +kernel
theorem dX5_write_44 : decode cX5_write 44 = .ok (.i2l, 1) := by decide +kernel
theorem dX5_write_45 : decode cX5_write 45 = .ok (.lreturn, 1) := by decide +kernel
theorem dX5_write_46 : decode cX5_write 46 = .ok (.aload_n 0, 1) := by decide +kernel
theorem dX5_write_47 : decode cX5_write 47 = .ok (.getfield 34, 3) := by decide +kernel
theorem dX5_write_50 : decode cX5_write 50 = .ok (.bipush 40, 2) := by decide +kernel
theorem dX5_write_52 : decode cX5_write 52 = .ok (.iload_n 1, 1) := by decide +kernel
theorem dX5_write_53 : decode cX5_write 53 = .ok (.imul, 1) := by decide +kernel
theorem dX5_write_54 : decode cX5_write 54 = .ok (.iload_n 2, 1) := by decide +kernel
theorem dX5_write_55 : decode cX5_write 55 = .ok (.iadd, 1) := by decide +kernel
theorem dX5_write_56 : decode cX5_write 56 = .ok (.laload, 1) := by decide +kernel
theorem dX5_write_57 : decode cX5_write 57 = .ok (.lstore 6, 2) := by decide +kernel
theorem dX5_write_59 : decode cX5_write 59 = .ok (.aload_n 0, 1) := by decide +kernel
theorem dX5_write_60 : decode cX5_write 60 = .ok (.getfield 34, 3) := by decide +kernel
theorem dX5_write_63 : decode cX5_write 63 = .ok (.bipush 40, 2) := by decide +kernel
theorem dX5_write_65 : decode cX5_write 65 = .ok (.iload_n 1, 1) := by decide +kernel
theorem dX5_write_66 : decode cX5_write 66 = .ok (.imul, 1) := by decide +kernel
theorem dX5_write_67 : decode cX5_write 67 = .ok (.iload_n 2, 1) := by decide +kernel
theorem dX5_write_68 : decode cX5_write 68 = .ok (.iadd, 1) := by decide +kernel
theorem dX5_write_69 : decode cX5_write 69 = .ok (.aload_n 0, 1) := by decide +kernel
theorem dX5_write_70 : decode cX5_write 70 = .ok (.getfield 28, 3) := by decide +kernel
theorem dX5_write_73 : decode cX5_write 73 = .ok (.iload_n 1, 1) := by decide +kernel
theorem dX5_write_74 : decode cX5_write 74 = .ok (.iaload, 1) := by decide +kernel
theorem dX5_write_75 : decode cX5_write 75 = .ok (.lload_n 3, 1) := by decide +kernel
theorem dX5_write_76 : decode cX5_write 76 = .ok (.invokestatic 297, 3) := by decide +kernel
theorem dX5_write_79 : decode cX5_write 79 = .ok (.lastore, 1) := by decide +kernel
theorem dX5_write_80 : decode cX5_write 80 = .ok (.lload 6, 2) := by decide +kernel
theorem dX5_write_82 : decode cX5_write 82 = .ok (.lreturn, 1) := by decide +kernel
theorem dX5_copy_0 : decode cX5_copy 0 = .ok (.iload_n 1, 1) := by decide +kernel
theorem dX5_copy_1 : decode cX5_copy 1 = .ok (.invokestatic 289, 3) := by decide +kernel
theorem dX5_copy_4 : decode cX5_copy 4 = .ok (.ifCond .eq 10, 3) := by decide +kernel
theorem dX5_copy_7 : decode cX5_copy 7 = .ok (.iload_n 3, 1) := by decide +kernel
theorem dX5_copy_8 : decode cX5_copy 8 = .ok (.invokestatic 289, 3) := by decide +kernel
theorem dX5_copy_11 : decode cX5_copy 11 = .ok (.ifCond .ne 10, 3) := by decide +kernel
theorem dX5_copy_14 : decode cX5_copy 14 = .ok (.aload_n 0, 1) := by decide +kernel
theorem dX5_copy_15 : decode cX5_copy 15 = .ok (.ldc 41, 2) := by decide +kernel
theorem dX5_copy_17 : decode cX5_copy 17 = .ok (.invokevirtual 78, 3) := by decide +kernel
theorem dX5_copy_20 : decode cX5_copy 20 = .ok (.ireturn, 1) := by decide +kernel
theorem dX5_copy_21 : decode cX5_copy 21 = .ok (.aload_n 0, 1) := by decide +kernel
theorem dX5_copy_22 : decode cX5_copy 22 = .ok (.getfield 28, 3) := by decide +kernel
theorem dX5_copy_25 : decode cX5_copy 25 = .ok (.iload_n 1, 1) := by decide +kernel
theorem dX5_copy_26 : decode cX5_copy 26 = .ok (.iaload, 1) := by decide +kernel
theorem dX5_copy_27 : decode cX5_copy 27 = .ok (.ifCond .eq 12, 3) := by decide +kernel
theorem dX5_copy_30 : decode cX5_copy 30 = .ok (.aload_n 0, 1) := by decide +kernel
theorem dX5_copy_31 : decode cX5_copy 31 = .ok (.getfield 28, 3) := by decide +kernel
theorem dX5_copy_34 : decode cX5_copy 34 = .ok (.iload_n 3, 1) := by decide +kernel
theorem dX5_copy_35 : decode cX5_copy 35 = .ok (.iaload, 1) := by decide +kernel
theorem dX5_copy_36 : decode cX5_copy 36 = .ok (.ifCond .ne 11, 3) := by decide +kernel
theorem dX5_copy_39 : decode cX5_copy 39 = .ok (.aload_n 0, 1) := by decide +kernel
theorem dX5_copy_40 : decode cX5_copy 40 = .ok (.ldc_w 293, 3) := by decide +kernel
theorem dX5_copy_43 : decode cX5_copy 43 = .ok (.invokevirtual 78, 3) := by decide +kernel
theorem dX5_copy_46 : decode cX5_copy 46 = .ok (.ireturn, 1) := by decide +kernel
theorem dX5_copy_47 : decode cX5_copy 47 = .ok (.aload_n 0, 1) := by decide +kernel
theorem dX5_copy_48 : decode cX5_copy 48 = .ok (.getfield 28, 3) := by decide +kernel
theorem dX5_copy_51 : decode cX5_copy 51 = .ok (.iload_n 1, 1) := by decide +kernel
theorem dX5_copy_52 : decode cX5_copy 52 = .ok (.iaload, 1) := by decide +kernel
theorem dX5_copy_53 : decode cX5_copy 53 = .ok (.aload_n 0, 1) := by decide +kernel
theorem dX5_copy_54 : decode cX5_copy 54 = .ok (.getfield 28, 3) := by decide +kernel
theorem dX5_copy_57 : decode cX5_copy 57 = .ok (.iload_n 3, 1) := by decide +kernel
theorem dX5_copy_58 : decode cX5_copy 58 = .ok (.iaload, 1) := by decide +kernel
theorem dX5_copy_59 : decode cX5_copy 59 = .ok (.if_icmp .eq 10, 3) := by decide +kernel
theorem dX5_copy_62 : decode cX5_copy 62 = .ok (.aload_n 0, 1) := by decide +kernel
theorem dX5_copy_63 : decode cX5_copy 63 = .ok (.ldc 121, 2) := by decide +kernel
theorem dX5_copy_65 : decode cX5_copy 65 = .ok (.invokevirtual 78, 3) := by decide +kernel
theorem dX5_copy_68 : decode cX5_copy 68 = .ok (.ireturn, 1) := by decide +kernel
theorem dX5_copy_69 : decode cX5_copy 69 = .ok (.iload_n 2, 1) := by decide +kernel
theorem dX5_copy_70 : decode cX5_copy 70 = .ok (.ifCond .lt 40, 3) := by decide +kernel
theorem dX5_copy_73 : decode cX5_copy 73 = .ok (.iload 4, 2) := by decide +kernel
theorem dX5_copy_75 : decode cX5_copy 75 = .ok (.ifCond .lt 35, 3) := by decide +kernel
theorem dX5_copy_78 : decode cX5_copy 78 = .ok (.iload 5, 2) := by decide +kernel
theorem dX5_copy_80 : decode cX5_copy 80 = .ok (.ifCond .lt 30, 3) := by decide +kernel
theorem dX5_copy_83 : decode cX5_copy 83 = .ok (.iload 5, 2) := by decide +kernel
theorem dX5_copy_85 : decode cX5_copy 85 = .ok (.aload_n 0, 1) := by decide +kernel
theorem dX5_copy_86 : decode cX5_copy 86 = .ok (.getfield 31, 3) := by decide +kernel
theorem dX5_copy_89 : decode cX5_copy 89 = .ok (.iload_n 1, 1) := by decide +kernel
theorem dX5_copy_90 : decode cX5_copy 90 = .ok (.iaload, 1) := by decide +kernel
theorem dX5_copy_91 : decode cX5_copy 91 = .ok (.iload_n 2, 1) := by decide +kernel
theorem dX5_copy_92 : decode cX5_copy 92 = .ok (.isub, 1) := by decide +kernel
theorem dX5_copy_93 : decode cX5_copy 93 = .ok (.if_icmp .gt 17, 3) := by decide +kernel
theorem dX5_copy_96 : decode cX5_copy 96 = .ok (.iload 5, 2) := by decide +kernel
theorem dX5_copy_98 : decode cX5_copy 98 = .ok (.aload_n 0, 1) := by decide +kernel
theorem dX5_copy_99 : decode cX5_copy 99 = .ok (.getfield 31, 3) := by decide +kernel
theorem dX5_copy_102 : decode cX5_copy 102 = .ok (.iload_n 3, 1) := by decide +kernel
theorem dX5_copy_103 : decode cX5_copy 103 = .ok (.iaload, 1) := by decide +kernel
theorem dX5_copy_104 : decode cX5_copy 104 = .ok (.iload 4, 2) := by decide +kernel
theorem dX5_copy_106 : decode cX5_copy 106 = .ok (.isub, 1) := by decide +kernel
theorem dX5_copy_107 : decode cX5_copy 107 = .ok (.if_icmp .le 10, 3) := by decide +kernel
theorem dX5_copy_110 : decode cX5_copy 110 = .ok (.aload_n 0, 1) := by decide +kernel
theorem dX5_copy_111 : decode cX5_copy 111 = .ok (.ldc 41, 2) := by decide +kernel
theorem dX5_copy_113 : decode cX5_copy 113 = .ok (.invokevirtual 78, 3) := by decide +kernel
theorem dX5_copy_116 : decode cX5_copy 116 = .ok (.ireturn, 1) := by decide +kernel
theorem dX5_copy_117 : decode cX5_copy 117 = .ok (.iconst 0, 1) := by decide +kernel
theorem dX5_copy_118 : decode cX5_copy 118 = .ok (.istore 6, 2) := by decide +kernel
theorem dX5_copy_120 : decode cX5_copy 120 = .ok (.iload 6, 2) := by decide +kernel
theorem dX5_copy_122 : decode cX5_copy 122 = .ok (.iload 5, 2) := by decide +kernel
theorem dX5_copy_124 : decode cX5_copy 124 = .ok (.if_icmp .ge 30, 3) := by decide +kernel
theorem dX5_copy_127 : decode cX5_copy 127 = .ok (.aload_n 0, 1) := by decide +kernel
theorem dX5_copy_128 : decode cX5_copy 128 = .ok (.getfield 38, 3) := by decide +kernel
theorem dX5_copy_131 : decode cX5_copy 131 = .ok (.iload 6, 2) := by decide +kernel
theorem dX5_copy_133 : decode cX5_copy 133 = .ok (.aload_n 0, 1) := by decide +kernel
theorem dX5_copy_134 : decode cX5_copy 134 = .ok (.getfield 34, 3) := by decide +kernel
theorem dX5_copy_137 : decode cX5_copy 137 = .ok (.bipush 40, 2) := by decide +kernel
theorem dX5_copy_139 : decode cX5_copy 139 = .ok (.iload_n 1, 1) := by decide +kernel
theorem dX5_copy_140 : decode cX5_copy 140 = .ok (.imul, 1) := by decide +kernel
theorem dX5_copy_141 : decode cX5_copy 141 = .ok (.iload_n 2, 1) := by decide +kernel
theorem dX5_copy_142 : decode cX5_copy 142 = .ok (.iadd, 1) := by decide +kernel
theorem dX5_copy_143 : decode cX5_copy 143 = .ok (.iload 6, 2) := by decide +kernel
theorem dX5_copy_145 : decode cX5_copy 145 = .ok (.iadd, 1) := by decide +kernel
theorem dX5_copy_146 : decode cX5_copy 146 = .ok (.laload, 1) := by decide +kernel
theorem dX5_copy_147 : decode cX5_copy 147 = .ok (.lastore, 1) := by decide +kernel
theorem dX5_copy_148 : decode cX5_copy 148 = .ok (.iinc 6 1, 3) := by decide +kernel
theorem dX5_copy_151 : decode cX5_copy 151 = .ok (.goto (-31), 3) := by decide +kernel
theorem dX5_copy_154 : decode cX5_copy 154 = .ok (.iconst 0, 1) := by decide +kernel
theorem dX5_copy_155 : decode cX5_copy 155 = .ok (.istore 6, 2) := by decide +kernel
theorem dX5_copy_157 : decode cX5_copy 157 = .ok (.iload 6, 2) := by decide +kernel
theorem dX5_copy_159 : decode cX5_copy 159 = .ok (.iload 5, 2) := by decide +kernel
theorem dX5_copy_161 : decode cX5_copy 161 = .ok (.if_icmp .ge 31, 3) := by decide +kernel
theorem dX5_copy_164 : decode cX5_copy 164 = .ok (.aload_n 0, 1) := by decide +kernel
theorem dX5_copy_165 : decode cX5_copy 165 = .ok (.getfield 34, 3) := by decide +kernel
theorem dX5_copy_168 : decode cX5_copy 168 = .ok (.bipush 40, 2) := by decide +kernel
theorem dX5_copy_170 : decode cX5_copy 170 = .ok (.iload_n 3, 1) := by decide +kernel
theorem dX5_copy_171 : decode cX5_copy 171 = .ok (.imul, 1) := by decide +kernel
theorem dX5_copy_172 : decode cX5_copy 172 = .ok (.iload 4, 2) := by decide +kernel
theorem dX5_copy_174 : decode cX5_copy 174 = .ok (.iadd, 1) := by decide +kernel
theorem dX5_copy_175 : decode cX5_copy 175 = .ok (.iload 6, 2) := by decide +kernel
theorem dX5_copy_177 : decode cX5_copy 177 = .ok (.iadd, 1) := by decide +kernel
theorem dX5_copy_178 : decode cX5_copy 178 = .ok (.aload_n 0, 1) := by decide +kernel
theorem dX5_copy_179 : decode cX5_copy 179 = .ok (.getfield 38, 3) := by decide +kernel
theorem dX5_copy_182 : decode cX5_copy 182 = .ok (.iload 6, 2) := by decide +kernel
theorem dX5_copy_184 : decode cX5_copy 184 = .ok (.laload, 1) := by decide +kernel
theorem dX5_copy_185 : decode cX5_copy 185 = .ok (.lastore, 1) := by decide +kernel
theorem dX5_copy_186 : decode cX5_copy 186 = .ok (.iinc 6 1, 3) := by decide +kernel
theorem dX5_copy_189 : decode cX5_copy 189 = .ok (.goto (-32), 3) := by decide +kernel
theorem dX5_copy_192 : decode cX5_copy 192 = .ok (.iload 5, 2) := by decide +kernel
theorem dX5_copy_194 : decode cX5_copy 194 = .ok (.ireturn, 1) := by decide +kernel
theorem dX5_lays_0 : decode cX5_lays 0 = .ok (.aload_n 0, 1) := by decide +kernel
theorem dX5_lays_1 : decode cX5_lays 1 = .ok (.iload_n 1, 1) := by decide +kernel
theorem dX5_lays_2 : decode cX5_lays 2 = .ok (.invokevirtual 294, 3) := by decide +kernel
theorem dX5_lays_5 : decode cX5_lays 5 = .ok (.istore_n 2, 1) := by decide +kernel
theorem dX5_lays_6 : decode cX5_lays 6 = .ok (.iload_n 2, 1) := by decide +kernel
theorem dX5_lays_7 : decode cX5_lays 7 = .ok (.ifCond .eq 9, 3) := by decide +kernel
theorem dX5_lays_10 : decode cX5_lays 10 = .ok (.aload_n 0, 1) := by decide +kernel
theorem dX5_lays_11 : decode cX5_lays 11 = .ok (.iload_n 2, 1) := by decide +kernel
theorem dX5_lays_12 : decode cX5_lays 12 = .ok (.invokevirtual 78, 3) := by decide +kernel
theorem dX5_lays_15 : decode cX5_lays 15 = .ok (.ireturn, 1) := by decide +kernel
theorem dX5_lays_16 : decode cX5_lays 16 = .ok (.iconst 0, 1) := by decide +kernel
theorem dX5_lays_17 : decode cX5_lays 17 = .ok (.istore_n 3, 1) := by decide +kernel
theorem dX5_lays_18 : decode cX5_lays 18 = .ok (.iconst 0, 1) := by decide +kernel
theorem dX5_lays_19 : decode cX5_lays 19 = .ok (.istore 4, 2) := by decide +kernel
theorem dX5_lays_21 : decode cX5_lays 21 = .ok (.iload 4, 2) := by decide +kernel
theorem dX5_lays_23 : decode cX5_lays 23 = .ok (.aload_n 0, 1) := by decide +kernel
theorem dX5_lays_24 : decode cX5_lays 24 = .ok (.getfield 31, 3) := by decide +kernel
theorem dX5_lays_27 : decode cX5_lays 27 = .ok (.iload_n 1, 1) := by decide +kernel
theorem dX5_lays_28 : decode cX5_lays 28 = .ok (.iaload, 1) := by decide +kernel
theorem dX5_lays_29 : decode cX5_lays 29 = .ok (.if_icmp .ge 85, 3) := by decide +kernel
theorem dX5_lays_32 : decode cX5_lays 32 = .ok (.iload 4, 2) := by decide +kernel
theorem dX5_lays_34 : decode cX5_lays 34 = .ok (.bipush 12, 2) := by decide +kernel
theorem dX5_lays_36 : decode cX5_lays 36 = .ok (.if_icmp .ge 78, 3) := by decide +kernel
theorem dX5_lays_39 : decode cX5_lays 39 = .ok (.aload_n 0, 1) := by decide +kernel
theorem dX5_lays_40 : decode cX5_lays 40 = .ok (.getfield 34, 3) := by decide +kernel
theorem dX5_lays_43 : decode cX5_lays 43 = .ok (.bipush 40, 2) := by decide +kernel
theorem dX5_lays_45 : decode cX5_lays 45 = .ok (.iload_n 1, 1) := by decide +kernel
theorem dX5_lays_46 : decode cX5_lays 46 = .ok (.imul, 1) := by decide +kernel
theorem dX5_lays_47 : decode cX5_lays 47 = .ok (.iload 4, 2) := by decide +kernel
theorem dX5_lays_49 : decode cX5_lays 49 = .ok (.iadd, 1) := by decide +kernel
theorem dX5_lays_50 : decode cX5_lays 50 = .ok (.laload, 1) := by decide +kernel
theorem dX5_lays_51 : decode cX5_lays 51 = .ok (.invokestatic 71, 3) := by decide +kernel
theorem dX5_lays_54 : decode cX5_lays 54 = .ok (.istore 5, 2) := by decide +kernel
theorem dX5_lays_56 : decode cX5_lays 56 = .ok (.aload_n 0, 1) := by decide +kernel
theorem dX5_lays_57 : decode cX5_lays 57 = .ok (.getfield 7, 3) := by decide +kernel
theorem dX5_lays_60 : decode cX5_lays 60 = .ok (.iconst 2, 1) := by decide +kernel
theorem dX5_lays_61 : decode cX5_lays 61 = .ok (.iload 4, 2) := by decide +kernel
theorem dX5_lays_63 : decode cX5_lays 63 = .ok (.iadd, 1) := by decide +kernel
theorem dX5_lays_64 : decode cX5_lays 64 = .ok (.iload 5, 2) := by decide +kernel
theorem dX5_lays_66 : decode cX5_lays 66 = .ok (.ifCond .eq 19, 3) := by decide +kernel
theorem dX5_lays_69 : decode cX5_lays 69 = .ok (.aload_n 0, 1) := by decide +kernel
theorem dX5_lays_70 : decode cX5_lays 70 = .ok (.getfield 34, 3) := by decide +kernel
theorem dX5_lays_73 : decode cX5_lays 73 = .ok (.bipush 40, 2) := by decide +kernel
theorem dX5_lays_75 : decode cX5_lays 75 = .ok (.iload_n 1, 1) := by decide +kernel
theorem dX5_lays_76 : decode cX5_lays 76 = .ok (.imul, 1) := by decide +kernel
theorem dX5_lays_77 : decode cX5_lays 77 = .ok (.iload 4, 2) := by decide +kernel
theorem dX5_lays_79 : decode cX5_lays 79 = .ok (.iadd, 1) := by decide +kernel
theorem dX5_lays_80 : decode cX5_lays 80 = .ok (.laload, 1) := by decide +kernel
theorem dX5_lays_81 : decode cX5_lays 81 = .ok (.l2i, 1) := by decide +kernel
theorem dX5_lays_82 : decode cX5_lays 82 = .ok (.goto 12, 3) := by decide +kernel
theorem dX5_lays_85 : decode cX5_lays 85 = .ok (.aload_n 0, 1) := by decide +kernel
theorem dX5_lays_86 : decode cX5_lays 86 = .ok (.getfield 7, 3) := by decide +kernel
theorem dX5_lays_89 : decode cX5_lays 89 = .ok (.iconst 2, 1) := by decide +kernel
theorem dX5_lays_90 : decode cX5_lays 90 = .ok (.iload 4, 2) := by decide +kernel
theorem dX5_lays_92 : decode cX5_lays 92 = .ok (.iadd, 1) := by decide +kernel
theorem dX5_lays_93 : decode cX5_lays 93 = .ok (.iaload, 1) := by decide +kernel
theorem dX5_lays_94 : decode cX5_lays 94 = .ok (.iastore, 1) := by decide +kernel
theorem dX5_lays_95 : decode cX5_lays 95 = .ok (.iload_n 3, 1) := by decide +kernel
theorem dX5_lays_96 : decode cX5_lays 96 = .ok (.iload 5, 2) := by decide +kernel
theorem dX5_lays_98 : decode cX5_lays 98 = .ok (.ifCond .eq 7, 3) := by decide +kernel
theorem dX5_lays_101 : decode cX5_lays 101 = .ok (.iconst 1, 1) := by decide +kernel
theorem dX5_lays_102 : decode cX5_lays 102 = .ok (.goto 4, 3) := by decide +kernel
theorem dX5_lays_105 : decode cX5_lays 105 = .ok (.iconst 0, 1) := by decide +kernel
theorem dX5_lays_106 : decode cX5_lays 106 = .ok (.iadd, 1) := by decide +kernel
theorem dX5_lays_107 : decode cX5_lays 107 = .ok (.istore_n 3, 1) := by decide +kernel
theorem dX5_lays_108 : decode cX5_lays 108 = .ok (.iinc 4 1, 3) := by decide +kernel
theorem dX5_lays_111 : decode cX5_lays 111 = .ok (.goto (-90), 3) := by decide +kernel
theorem dX5_lays_114 : decode cX5_lays 114 = .ok (.iload_n 3, 1) := by decide +kernel
theorem dX5_lays_115 : decode cX5_lays 115 = .ok (.ireturn, 1) := by decide +kernel
theorem dX5_book_0 : decode cX5_book 0 = .ok (.aload_n 0, 1) := by decide +kernel
theorem dX5_book_1 : decode cX5_book 1 = .ok (.iload_n 1, 1) := by decide +kernel
theorem dX5_book_2 : decode cX5_book 2 = .ok (.invokevirtual 294, 3) := by decide +kernel
theorem dX5_book_5 : decode cX5_book 5 = .ok (.istore_n 3, 1) := by decide +kernel
theorem dX5_book_6 : decode cX5_book 6 = .ok (.iload_n 3, 1) := by decide +kernel
theorem dX5_book_7 : decode cX5_book 7 = .ok (.ifCond .eq 9, 3) := by decide +kernel
theorem dX5_book_10 : decode cX5_book 10 = .ok (.aload_n 0, 1) := by decide +kernel
theorem dX5_book_11 : decode cX5_book 11 = .ok (.iload_n 3, 1) := by decide +kernel
theorem dX5_book_12 : decode cX5_book 12 = .ok (.invokevirtual 78, 3) := by decide +kernel
theorem dX5_book_15 : decode cX5_book 15 = .ok (.ireturn, 1) := by decide +kernel
theorem dX5_book_16 : decode cX5_book 16 = .ok (.aload_n 0, 1) := by decide +kernel
theorem dX5_book_17 : decode cX5_book 17 = .ok (.iload_n 2, 1) := by decide +kernel
theorem dX5_book_18 : decode cX5_book 18 = .ok (.invokevirtual 100, 3) := by decide +kernel
theorem dX5_book_21 : decode cX5_book 21 = .ok (.ifCond .ne 10, 3) := by decide +kernel
theorem dX5_book_24 : decode cX5_book 24 = .ok (.aload_n 0, 1) := by decide +kernel
theorem dX5_book_25 : decode cX5_book 25 = .ok (.ldc 41, 2) := by decide +kernel
theorem dX5_book_27 : decode cX5_book 27 = .ok (.invokevirtual 78, 3) := by decide +kernel
theorem dX5_book_30 : decode cX5_book 30 = .ok (.ireturn, 1) := by decide +kernel
theorem dX5_book_31 : decode cX5_book 31 = .ok (.aload_n 0, 1) := by decide +kernel
theorem dX5_book_32 : decode cX5_book 32 = .ok (.invokevirtual 161, 3) := by decide +kernel
theorem dX5_book_35 : decode cX5_book 35 = .ok (.iconst 0, 1) := by decide +kernel
theorem dX5_book_36 : decode cX5_book 36 = .ok (.istore 4, 2) := by decide +kernel
theorem dX5_book_38 : decode cX5_book 38 = .ok (.iload 4, 2) := by decide +kernel
theorem dX5_book_40 : decode cX5_book 40 = .ok (.aload_n 0, 1) := by decide +kernel
theorem dX5_book_41 : decode cX5_book 41 = .ok (.getfield 31, 3) := by decide +kernel
theorem dX5_book_44 : decode cX5_book 44 = .ok (.iload_n 1, 1) := by decide +kernel
theorem dX5_book_45 : decode cX5_book 45 = .ok (.iaload, 1) := by decide +kernel
theorem dX5_book_46 : decode cX5_book 46 = .ok (.if_icmp .ge 40, 3) := by decide +kernel
theorem dX5_book_49 : decode cX5_book 49 = .ok (.aload_n 0, 1) := by decide +kernel
theorem dX5_book_50 : decode cX5_book 50 = .ok (.getfield 34, 3) := by decide +kernel
theorem dX5_book_53 : decode cX5_book 53 = .ok (.bipush 40, 2) := by decide +kernel
theorem dX5_book_55 : decode cX5_book 55 = .ok (.iload_n 1, 1) := by decide +kernel
theorem dX5_book_56 : decode cX5_book 56 = .ok (.imul, 1) := by decide +kernel
theorem dX5_book_57 : decode cX5_book 57 = .ok (.iload 4, 2) := by decide +kernel
theorem dX5_book_59 : decode cX5_book 59 = .ok (.iadd, 1) := by decide +kernel
theorem dX5_book_60 : decode cX5_book 60 = .ok (.aload_n 0, 1) := by decide +kernel
theorem dX5_book_61 : decode cX5_book 61 = .ok (.getfield 28, 3) := by decide +kernel
theorem dX5_book_64 : decode cX5_book 64 = .ok (.iload_n 1, 1) := by decide +kernel
theorem dX5_book_65 : decode cX5_book 65 = .ok (.iaload, 1) := by decide +kernel
theorem dX5_book_66 : decode cX5_book 66 = .ok (.aload_n 0, 1) := by decide +kernel
theorem dX5_book_67 : decode cX5_book 67 = .ok (.iload_n 2, 1) := by decide +kernel
theorem dX5_book_68 : decode cX5_book 68 = .ok (.invokevirtual 64, 3) := by decide +kernel
theorem dX5_book_71 : decode cX5_book 71 = .ok (.i2l, 1) := by decide +kernel
theorem dX5_book_72 : decode cX5_book 72 = .ok (.invokestatic 297, 3) := by decide +kernel
theorem dX5_book_75 : decode cX5_book 75 = .ok (.lastore, 1) := by decide +kernel
theorem dX5_book_76 : decode cX5_book 76 = .ok (.aload_n 0, 1) := by decide +kernel
theorem dX5_book_77 : decode cX5_book 77 = .ok (.invokevirtual 151, 3) := by decide +kernel
theorem dX5_book_80 : decode cX5_book 80 = .ok (.iinc 4 1, 3) := by decide +kernel
theorem dX5_book_83 : decode cX5_book 83 = .ok (.goto (-45), 3) := by decide +kernel
theorem dX5_book_86 : decode cX5_book 86 = .ok (.aload_n 0, 1) := by decide +kernel
theorem dX5_book_87 : decode cX5_book 87 = .ok (.aload_n 0, 1) := by decide +kernel
theorem dX5_book_88 : decode cX5_book 88 = .ok (.getfield 31, 3) := by decide +kernel
theorem dX5_book_91 : decode cX5_book 91 = .ok (.iload_n 1, 1) := by decide +kernel
theorem dX5_book_92 : decode cX5_book 92 = .ok (.iaload, 1) := by decide +kernel
theorem dX5_book_93 : decode cX5_book 93 = .ok (.invokevirtual 164, 3) := by decide +kernel
theorem dX5_book_96 : decode cX5_book 96 = .ok (.ireturn, 1) := by decide +kernel
theorem dX5_isBook_0 : decode cX5_isBook 0 = .ok (.iconst 0, 1) := by decide +kernel
theorem dX5_isBook_1 : decode cX5_isBook 1 = .ok (.istore_n 3, 1) := by decide +kernel
theorem dX5_isBook_2 : decode cX5_isBook 2 = .ok (.iload_n 3, 1) := by decide +kernel
theorem dX5_isBook_3 : decode cX5_isBook 3 = .ok (.aload_n 0, 1) := by decide +kernel
theorem dX5_isBook_4 : decode cX5_isBook 4 = .ok (.getfield 31, 3) := by decide +kernel
theorem dX5_isBook_7 : decode cX5_isBook 7 = .ok (.iload_n 1, 1) := by decide +kernel
theorem dX5_isBook_8 : decode cX5_isBook 8 = .ok (.iaload, 1) := by decide +kernel
theorem dX5_isBook_9 : decode cX5_isBook 9 = .ok (.if_icmp .ge 36, 3) := by decide +kernel
theorem dX5_isBook_12 : decode cX5_isBook 12 = .ok (.aload_n 0, 1) := by decide +kernel
theorem dX5_isBook_13 : decode cX5_isBook 13 = .ok (.getfield 34, 3) := by decide +kernel
theorem dX5_isBook_16 : decode cX5_isBook 16 = .ok (.bipush 40, 2) := by decide +kernel
theorem dX5_isBook_18 : decode cX5_isBook 18 = .ok (.iload_n 1, 1) := by decide +kernel
theorem dX5_isBook_19 : decode cX5_isBook 19 = .ok (.imul, 1) := by decide +kernel
theorem dX5_isBook_20 : decode cX5_isBook 20 = .ok (.iload_n 3, 1) := by decide +kernel
theorem dX5_isBook_21 : decode cX5_isBook 21 = .ok (.iadd, 1) := by decide +kernel
theorem dX5_isBook_22 : decode cX5_isBook 22 = .ok (.laload, 1) := by decide +kernel
theorem dX5_isBook_23 : decode cX5_isBook 23 = .ok (.aload_n 0, 1) := by decide +kernel
theorem dX5_isBook_24 : decode cX5_isBook 24 = .ok (.iload_n 2, 1) := by decide +kernel
theorem dX5_isBook_25 : decode cX5_isBook 25 = .ok (.invokevirtual 64, 3) := by decide +kernel
theorem dX5_isBook_28 : decode cX5_isBook 28 = .ok (.i2l, 1) := by decide +kernel
theorem dX5_isBook_29 : decode cX5_isBook 29 = .ok (.lcmp, 1) := by decide +kernel
theorem dX5_isBook_30 : decode cX5_isBook 30 = .ok (.ifCond .eq 5, 3) := by decide +kernel
theorem dX5_isBook_33 : decode cX5_isBook 33 = .ok (.iconst 0, 1) := by decide +kernel
theorem dX5_isBook_34 : decode cX5_isBook 34 = .ok (.ireturn, 1) := by decide +kernel
theorem dX5_isBook_35 : decode cX5_isBook 35 = .ok (.aload_n 0, 1) := by decide +kernel
theorem dX5_isBook_36 : decode cX5_isBook 36 = .ok (.invokevirtual 151, 3) := by decide +kernel
theorem dX5_isBook_39 : decode cX5_isBook 39 = .ok (.iinc 3 1, 3) := by decide +kernel
theorem dX5_isBook_42 : decode cX5_isBook 42 = .ok (.goto (-40), 3) := by decide +kernel
theorem dX5_isBook_45 : decode cX5_isBook 45 = .ok (.iconst 1, 1) := by decide +kernel
theorem dX5_isBook_46 : decode cX5_isBook 46 = .ok (.ireturn, 1) := by decide +kernel
theorem dX5_read_0 : decode cX5_read 0 = .ok (.aload_n 0, 1) := by decide +kernel
theorem dX5_read_1 : decode cX5_read 1 = .ok (.iload_n 1, 1) := by decide +kernel
theorem dX5_read_2 : decode cX5_read 2 = .ok (.invokevirtual 294, 3) := by decide +kernel
theorem dX5_read_5 : decode cX5_read 5 = .ok (.istore_n 3, 1) := by decide +kernel
theorem dX5_read_6 : decode cX5_read 6 = .ok (.iload_n 3, 1) := by decide +kernel
theorem dX5_read_7 : decode cX5_read 7 = .ok (.ifCond .eq 9, 3) := by decide +kernel
theorem dX5_read_10 : decode cX5_read 10 = .ok (.aload_n 0, 1) := by decide +kernel
theorem dX5_read_11 : decode cX5_read 11 = .ok (.iload_n 3, 1) := by decide +kernel
theorem dX5_read_12 : decode cX5_read 12 = .ok (.invokevirtual 78, 3) := by decide +kernel
theorem dX5_read_15 : decode cX5_read 15 = .ok (.ireturn, 1) := by decide +kernel
theorem dX5_read_16 : decode cX5_read 16 = .ok (.aload_n 0, 1) := by decide +kernel
theorem dX5_read_17 : decode cX5_read 17 = .ok (.iload_n 2, 1) := by decide +kernel
theorem dX5_read_18 : decode cX5_read 18 = .ok (.invokevirtual 100, 3) := by decide +kernel
theorem dX5_read_21 : decode cX5_read 21 = .ok (.ifCond .ne 10, 3) := by decide +kernel
theorem dX5_read_24 : decode cX5_read 24 = .ok (.aload_n 0, 1) := by decide +kernel
theorem dX5_read_25 : decode cX5_read 25 = .ok (.ldc 41, 2) := by decide +kernel
theorem dX5_read_27 : decode cX5_read 27 = .ok (.invokevirtual 78, 3) := by decide +kernel
theorem dX5_read_30 : decode cX5_read 30 = .ok (.ireturn, 1) := by decide +kernel
theorem dX5_read_31 : decode cX5_read 31 = .ok (.aload_n 0, 1) := by decide +kernel
theorem dX5_read_32 : decode cX5_read 32 = .ok (.invokevirtual 161, 3) := by decide +kernel
theorem dX5_read_35 : decode cX5_read 35 = .ok (.iconst 0, 1) := by decide +kernel
theorem dX5_read_36 : decode cX5_read 36 = .ok (.istore 4, 2) := by decide +kernel
theorem dX5_read_38 : decode cX5_read 38 = .ok (.iconst 0, 1) := by decide +kernel
theorem dX5_read_39 : decode cX5_read 39 = .ok (.istore 5, 2) := by decide +kernel
theorem dX5_read_41 : decode cX5_read 41 = .ok (.iload 5, 2) := by decide +kernel
theorem dX5_read_43 : decode cX5_read 43 = .ok (.sipush 600, 3) := by decide +kernel
theorem dX5_read_46 : decode cX5_read 46 = .ok (.if_icmp .ge 62, 3) := by decide +kernel
theorem dX5_read_49 : decode cX5_read 49 = .ok (.aload_n 0, 1) := by decide +kernel
theorem dX5_read_50 : decode cX5_read 50 = .ok (.getfield 7, 3) := by decide +kernel
theorem dX5_read_53 : decode cX5_read 53 = .ok (.iload_n 2, 1) := by decide +kernel
theorem dX5_read_54 : decode cX5_read 54 = .ok (.iconst 0, 1) := by decide +kernel
theorem dX5_read_55 : decode cX5_read 55 = .ok (.invokestatic 42, 3) := by decide +kernel
theorem dX5_read_58 : decode cX5_read 58 = .ok (.iload 5, 2) := by decide +kernel
theorem dX5_read_60 : decode cX5_read 60 = .ok (.bipush 100, 2) := by decide +kernel
theorem dX5_read_62 : decode cX5_read 62 = .ok (.idiv, 1) := by decide +kernel
theorem dX5_read_63 : decode cX5_read 63 = .ok (.iastore, 1) := by decide +kernel
theorem dX5_read_64 : decode cX5_read 64 = .ok (.aload_n 0, 1) := by decide +kernel
theorem dX5_read_65 : decode cX5_read 65 = .ok (.getfield 7, 3) := by decide +kernel
theorem dX5_read_68 : decode cX5_read 68 = .ok (.iload_n 2, 1) := by decide +kernel
theorem dX5_read_69 : decode cX5_read 69 = .ok (.iconst 1, 1) := by decide +kernel
theorem dX5_read_70 : decode cX5_read 70 = .ok (.invokestatic 42, 3) := by decide +kernel
theorem dX5_read_73 : decode cX5_read 73 = .ok (.iload 5, 2) := by decide +kernel
theorem dX5_read_75 : decode cX5_read 75 = .ok (.bipush 100, 2) := by decide +kernel
theorem dX5_read_77 : decode cX5_read 77 = .ok (.irem, 1) := by decide +kernel
theorem dX5_read_78 : decode cX5_read 78 = .ok (.iastore, 1) := by decide +kernel
theorem dX5_read_79 : decode cX5_read 79 = .ok (.aload_n 0, 1) := by decide +kernel
theorem dX5_read_80 : decode cX5_read 80 = .ok (.iload 4, 2) := by decide +kernel
theorem dX5_read_82 : decode cX5_read 82 = .ok (.aload_n 0, 1) := by decide +kernel
theorem dX5_read_83 : decode cX5_read 83 = .ok (.iload_n 1, 1) := by decide +kernel
theorem dX5_read_84 : decode cX5_read 84 = .ok (.iload_n 2, 1) := by decide +kernel
theorem dX5_read_85 : decode cX5_read 85 = .ok (.invokevirtual 301, 3) := by decide +kernel
theorem dX5_read_88 : decode cX5_read 88 = .ok (.ifCond .eq 7, 3) := by decide +kernel
theorem dX5_read_91 : decode cX5_read 91 = .ok (.iconst 1, 1) := by decide +kernel
theorem dX5_read_92 : decode cX5_read 92 = .ok (.goto 4, 3) := by decide +kernel
theorem dX5_read_95 : decode cX5_read 95 = .ok (.iconst 0, 1) := by decide +kernel
theorem dX5_read_96 : decode cX5_read 96 = .ok (.iadd, 1) := by decide +kernel
theorem dX5_read_97 : decode cX5_read 97 = .ok (.invokevirtual 164, 3) := by decide +kernel
theorem dX5_read_100 : decode cX5_read 100 = .ok (.istore 4, 2) := by decide +kernel
theorem dX5_read_102 : decode cX5_read 102 = .ok (.iinc 5 1, 3) := by decide +kernel
theorem dX5_read_105 : decode cX5_read 105 = .ok (.goto (-64), 3) := by decide +kernel
theorem dX5_read_108 : decode cX5_read 108 = .ok (.iload 4, 2) := by decide +kernel
theorem dX5_read_110 : decode cX5_read 110 = .ok (.ireturn, 1) := by decide +kernel
theorem dX5_image_0 : decode cX5_image 0 = .ok (.iconst 0, 1) := by decide +kernel
theorem dX5_image_1 : decode cX5_image 1 = .ok (.istore_n 1, 1) := by decide +kernel
theorem dX5_image_2 : decode cX5_image 2 = .ok (.iload_n 1, 1) := by decide +kernel
theorem dX5_image_3 : decode cX5_image 3 = .ok (.sipush 198, 3) := by decide +kernel
theorem dX5_image_6 : decode cX5_image 6 = .ok (.if_icmp .ge 21, 3) := by decide +kernel
theorem dX5_image_9 : decode cX5_image 9 = .ok (.aload_n 0, 1) := by decide +kernel
theorem dX5_image_10 : decode cX5_image 10 = .ok (.getfield 13, 3) := by decide +kernel
theorem dX5_image_13 : decode cX5_image 13 = .ok (.iload_n 1, 1) := by decide +kernel
theorem dX5_image_14 : decode cX5_image 14 = .ok (.aload_n 0, 1) := by decide +kernel
theorem dX5_image_15 : decode cX5_image 15 = .ok (.getfield 7, 3) := by decide +kernel
theorem dX5_image_18 : decode cX5_image 18 = .ok (.iload_n 1, 1) := by decide +kernel
theorem dX5_image_19 : decode cX5_image 19 = .ok (.iaload, 1) := by decide +kernel
theorem dX5_image_20 : decode cX5_image 20 = .ok (.iastore, 1) := by decide +kernel
theorem dX5_image_21 : decode cX5_image 21 = .ok (.iinc 1 1, 3) := by decide +kernel
theorem dX5_image_24 : decode cX5_image 24 = .ok (.goto (-22), 3) := by decide +kernel
theorem dX5_image_27 : decode cX5_image 27 = .ok (.aload_n 0, 1) := by decide +kernel
theorem dX5_image_28 : decode cX5_image 28 = .ok (.iconst 1, 1) := by decide +kernel
theorem dX5_image_29 : decode cX5_image 29 = .ok (.putfield 304, 3) := by decide +kernel
theorem dX5_image_32 : decode cX5_image 32 = .ok (.iconst 1, 1) := by decide +kernel
theorem dX5_image_33 : decode cX5_image 33 = .ok (.ireturn, 1) := by decide +kernel
theorem dX5_undo_0 : decode cX5_undo 0 = .ok (.aload_n 0, 1) := by decide +kernel
theorem dX5_undo_1 : decode cX5_undo 1 = .ok (.getfield 304, 3) := by decide +kernel
theorem dX5_undo_4 : decode cX5_undo 4 = .ok (.ifCond .ne 10, 3) := by decide +kernel
theorem dX5_undo_7 : decode cX5_undo 7 = .ok (.aload_n 0, 1) := by decide +kernel
theorem dX5_undo_8 : decode cX5_undo 8 = .ok (.ldc 176, 2) := by decide +kernel
theorem dX5_undo_10 : decode cX5_undo 10 = .ok (.invokevirtual 78, 3) := by decide +kernel
theorem dX5_undo_13 : decode cX5_undo 13 = .ok (.ireturn, 1) := by decide +kernel
theorem dX5_undo_14 : decode cX5_undo 14 = .ok (.iconst 0, 1) := by decide +kernel
theorem dX5_undo_15 : decode cX5_undo 15 = .ok (.istore_n 1, 1) := by decide +kernel
theorem dX5_undo_16 : decode cX5_undo 16 = .ok (.iload_n 1, 1) := by decide +kernel
theorem dX5_undo_17 : decode cX5_undo 17 = .ok (.sipush 198, 3) := by decide +kernel
theorem dX5_undo_20 : decode cX5_undo 20 = .ok (.if_icmp .ge 21, 3) := by decide +kernel
theorem dX5_undo_23 : decode cX5_undo 23 = .ok (.aload_n 0, 1) := by decide +kernel
theorem dX5_undo_24 : decode cX5_undo 24 = .ok (.getfield 7, 3) := by decide +kernel
theorem dX5_undo_27 : decode cX5_undo 27 = .ok (.iload_n 1, 1) := by decide +kernel
theorem dX5_undo_28 : decode cX5_undo 28 = .ok (.aload_n 0, 1) := by decide +kernel
theorem dX5_undo_29 : decode cX5_undo 29 = .ok (.getfield 13, 3) := by decide +kernel
theorem dX5_undo_32 : decode cX5_undo 32 = .ok (.iload_n 1, 1) := by decide +kernel
theorem dX5_undo_33 : decode cX5_undo 33 = .ok (.iaload, 1) := by decide +kernel
theorem dX5_undo_34 : decode cX5_undo 34 = .ok (.iastore, 1) := by decide +kernel
theorem dX5_undo_35 : decode cX5_undo 35 = .ok (.iinc 1 1, 3) := by decide +kernel
theorem dX5_undo_38 : decode cX5_undo 38 = .ok (.goto (-22), 3) := by decide +kernel
theorem dX5_undo_41 : decode cX5_undo 41 = .ok (.aload_n 0, 1) := by decide +kernel
theorem dX5_undo_42 : decode cX5_undo 42 = .ok (.getfield 7, 3) := by decide +kernel
theorem dX5_undo_45 : decode cX5_undo 45 = .ok (.iconst 1, 1) := by decide +kernel
theorem dX5_undo_46 : decode cX5_undo 46 = .ok (.iaload, 1) := by decide +kernel
theorem dX5_undo_47 : decode cX5_undo 47 = .ok (.ireturn, 1) := by decide +kernel
theorem dX5_tear_0 : decode cX5_tear 0 = .ok (.aload_n 0, 1) := by decide +kernel
theorem dX5_tear_1 : decode cX5_tear 1 = .ok (.getfield 304, 3) := by decide +kernel
theorem dX5_tear_4 : decode cX5_tear 4 = .ok (.ifCond .eq 7, 3) := by decide +kernel
theorem dX5_tear_7 : decode cX5_tear 7 = .ok (.iconst 1, 1) := by decide +kernel
theorem dX5_tear_8 : decode cX5_tear 8 = .ok (.goto 4, 3) := by decide +kernel
theorem dX5_tear_11 : decode cX5_tear 11 = .ok (.iconst 0, 1) := by decide +kernel
theorem dX5_tear_12 : decode cX5_tear 12 = .ok (.istore_n 1, 1) := by decide +kernel
theorem dX5_tear_13 : decode cX5_tear 13 = .ok (.aload_n 0, 1) := by decide +kernel
theorem dX5_tear_14 : decode cX5_tear 14 = .ok (.iconst 0, 1) := by decide +kernel
theorem dX5_tear_15 : decode cX5_tear 15 = .ok (.putfield 304, 3) := by decide +kernel
theorem dX5_tear_18 : decode cX5_tear 18 = .ok (.iload_n 1, 1) := by decide +kernel
theorem dX5_tear_19 : decode cX5_tear 19 = .ok (.ireturn, 1) := by decide +kernel
theorem dX5_coatsMade_0 : decode cX5_coatsMade 0 = .ok (.iconst 0, 1) := by decide +kernel
theorem dX5_coatsMade_1 : decode cX5_coatsMade 1 = .ok (.istore_n 1, 1) := by decide +kernel
theorem dX5_coatsMade_2 : decode cX5_coatsMade 2 = .ok (.iconst 0, 1) := by decide +kernel
theorem dX5_coatsMade_3 : decode cX5_coatsMade 3 = .ok (.istore_n 2, 1) := by decide +kernel
theorem dX5_coatsMade_4 : decode cX5_coatsMade 4 = .ok (.iload_n 2, 1) := by decide +kernel
theorem dX5_coatsMade_5 : decode cX5_coatsMade 5 = .ok (.iconst 4, 1) := by decide +kernel
theorem dX5_coatsMade_6 : decode cX5_coatsMade 6 = .ok (.if_icmp .ge 25, 3) := by decide +kernel
theorem dX5_coatsMade_9 : decode cX5_coatsMade 9 = .ok (.iload_n 1, 1) := by decide +kernel
theorem dX5_coatsMade_10 : decode cX5_coatsMade 10 = .ok (.aload_n 0, 1) := by decide +kernel
theorem dX5_coatsMade_11 : decode cX5_coatsMade 11 = .ok (.iload_n 2, 1) := by decide +kernel
theorem dX5_coatsMade_12 : decode cX5_coatsMade 12 = .ok (.invokevirtual 141, 3) := by decide +kernel
theorem dX5_coatsMade_15 : decode cX5_coatsMade 15 = .ok (.ifCond .ne 7, 3) := by decide +kernel
theorem dX5_coatsMade_18 : decode cX5_coatsMade 18 = .ok (.iconst 0, 1) := by decide +kernel
theorem dX5_coatsMade_19 : decode cX5_coatsMade 19 = .ok (.goto 4, 3) := by decide +kernel
theorem dX5_coatsMade_22 : decode cX5_coatsMade 22 = .ok (.iconst 1, 1) := by decide +kernel
theorem dX5_coatsMade_23 : decode cX5_coatsMade 23 = .ok (.iadd, 1) := by decide +kernel
theorem dX5_coatsMade_24 : decode cX5_coatsMade 24 = .ok (.istore_n 1, 1) := by decide +kernel
theorem dX5_coatsMade_25 : decode cX5_coatsMade 25 = .ok (.iinc 2 1, 3) := by decide +kernel
theorem dX5_coatsMade_28 : decode cX5_coatsMade 28 = .ok (.goto (-24), 3) := by decide +kernel
theorem dX5_coatsMade_31 : decode cX5_coatsMade 31 = .ok (.iload_n 1, 1) := by decide +kernel
theorem dX5_coatsMade_32 : decode cX5_coatsMade 32 = .ok (.ireturn, 1) := by decide +kernel
theorem dX5_frights_0 : decode cX5_frights 0 = .ok (.iconst 0, 1) := by decide +kernel
theorem dX5_frights_1 : decode cX5_frights 1 = .ok (.istore_n 1, 1) := by decide +kernel
theorem dX5_frights_2 : decode cX5_frights 2 = .ok (.iconst 0, 1) := by decide +kernel
theorem dX5_frights_3 : decode cX5_frights 3 = .ok (.istore_n 2, 1) := by decide +kernel
theorem dX5_frights_4 : decode cX5_frights 4 = .ok (.iload_n 2, 1) := by decide +kernel
theorem dX5_frights_5 : decode cX5_frights 5 = .ok (.aload_n 0, 1) := by decide +kernel
theorem dX5_frights_6 : decode cX5_frights 6 = .ok (.getfield 7, 3) := by decide +kernel
theorem dX5_frights_9 : decode cX5_frights 9 = .ok (.iconst 1, 1) := by decide +kernel
theorem dX5_frights_10 : decode cX5_frights 10 = .ok (.iaload, 1) := by decide +kernel
theorem dX5_frights_11 : decode cX5_frights 11 = .ok (.if_icmp .ge 18, 3) := by decide +kernel
theorem dX5_frights_14 : decode cX5_frights 14 = .ok (.iload_n 1, 1) := by decide +kernel
theorem dX5_frights_15 : decode cX5_frights 15 = .ok (.aload_n 0, 1) := by decide +kernel
theorem dX5_frights_16 : decode cX5_frights 16 = .ok (.iload_n 2, 1) := by decide +kernel
theorem dX5_frights_17 : decode cX5_frights 17 = .ok (.iconst 1, 1) := by decide +kernel
theorem dX5_frights_18 : decode cX5_frights 18 = .ok (.invokevirtual 90, 3) := by decide +kernel
theorem dX5_frights_21 : decode cX5_frights 21 = .ok (.iadd, 1) := by decide +kernel
theorem dX5_frights_22 : decode cX5_frights 22 = .ok (.istore_n 1, 1) := by decide +kernel
theorem dX5_frights_23 : decode cX5_frights 23 = .ok (.iinc 2 1, 3) := by decide +kernel
theorem dX5_frights_26 : decode cX5_frights 26 = .ok (.goto (-22), 3) := by decide +kernel
theorem dX5_frights_29 : decode cX5_frights 29 = .ok (.iload_n 1, 1) := by decide +kernel
theorem dX5_frights_30 : decode cX5_frights 30 = .ok (.ireturn, 1) := by decide +kernel
theorem dX5_count_0 : decode cX5_count 0 = .ok (.iload_n 1, 1) := by decide +kernel
theorem dX5_count_1 : decode cX5_count 1 = .ok (.tableswitch 53 0 3 #[31, 38, 43, 48], 31) := by decide +kernel
theorem dX5_count_32 : decode cX5_count 32 = .ok (.aload_n 0, 1) := by decide +kernel
theorem dX5_count_33 : decode cX5_count 33 = .ok (.getfield 7, 3) := by decide +kernel
theorem dX5_count_36 : decode cX5_count 36 = .ok (.iconst 1, 1) := by decide +kernel
theorem dX5_count_37 : decode cX5_count 37 = .ok (.iaload, 1) := by decide +kernel
theorem dX5_count_38 : decode cX5_count 38 = .ok (.ireturn, 1) := by decide +kernel
theorem dX5_count_39 : decode cX5_count 39 = .ok (.aload_n 0, 1) := by decide +kernel
theorem dX5_count_40 : decode cX5_count 40 = .ok (.getfield 190, 3) := by decide +kernel
theorem dX5_count_43 : decode cX5_count 43 = .ok (.ireturn, 1) := by decide +kernel
theorem dX5_count_44 : decode cX5_count 44 = .ok (.aload_n 0, 1) := by decide +kernel
theorem dX5_count_45 : decode cX5_count 45 = .ok (.invokevirtual 307, 3) := by decide +kernel
theorem dX5_count_48 : decode cX5_count 48 = .ok (.ireturn, 1) := by decide +kernel
theorem dX5_count_49 : decode cX5_count 49 = .ok (.aload_n 0, 1) := by decide +kernel
theorem dX5_count_50 : decode cX5_count 50 = .ok (.invokevirtual 310, 3) := by decide +kernel
theorem dX5_count_53 : decode cX5_count 53 = .ok (.ireturn, 1) := by decide +kernel
theorem dX5_count_54 : decode cX5_count 54 = .ok (.aload_n 0, 1) := by decide +kernel
theorem dX5_count_55 : decode cX5_count 55 = .ok (.ldc 41, 2) := by decide +kernel
theorem dX5_count_57 : decode cX5_count 57 = .ok (.invokevirtual 78, 3) := by decide +kernel
theorem dX5_count_60 : decode cX5_count 60 = .ok (.ireturn, 1) := by decide +kernel
theorem dX5_status_0 : decode cX5_status 0 = .ok (.iload_n 1, 1) := by decide +kernel
theorem dX5_status_1 : decode cX5_status 1 = .ok (.i2l, 1) := by decide +kernel
theorem dX5_status_2 : decode cX5_status 2 = .ok (.ldc2_w 313, 3) := by decide +kernel
theorem dX5_status_5 : decode cX5_status 5 = .ok (.ldc2_w 315, 3) := by decide +kernel
theorem dX5_status_8 : decode cX5_status 8 = .ok (.invokestatic 46, 3) := by decide +kernel
theorem dX5_status_11 : decode cX5_status 11 = .ok (.ifCond .ne 10, 3) := by decide +kernel
theorem dX5_status_14 : decode cX5_status 14 = .ok (.aload_n 0, 1) := by decide +kernel
theorem dX5_status_15 : decode cX5_status 15 = .ok (.ldc 41, 2) := by decide +kernel
theorem dX5_status_17 : decode cX5_status 17 = .ok (.invokevirtual 78, 3) := by decide +kernel
theorem dX5_status_20 : decode cX5_status 20 = .ok (.ireturn, 1) := by decide +kernel
theorem dX5_status_21 : decode cX5_status 21 = .ok (.iconst 0, 1) := by decide +kernel
theorem dX5_status_22 : decode cX5_status 22 = .ok (.istore_n 2, 1) := by decide +kernel
theorem dX5_status_23 : decode cX5_status 23 = .ok (.iconst 0, 1) := by decide +kernel
theorem dX5_status_24 : decode cX5_status 24 = .ok (.istore_n 3, 1) := by decide +kernel
theorem dX5_status_25 : decode cX5_status 25 = .ok (.iload_n 3, 1) := by decide +kernel
theorem dX5_status_26 : decode cX5_status 26 = .ok (.bipush 7, 2) := by decide +kernel
theorem dX5_status_28 : decode cX5_status 28 = .ok (.if_icmp .ge 31, 3) := by decide +kernel
theorem dX5_status_31 : decode cX5_status 31 = .ok (.iload_n 2, 1) := by decide +kernel
theorem dX5_status_32 : decode cX5_status 32 = .ok (.iload_n 1, 1) := by decide +kernel
theorem dX5_status_33 : decode cX5_status 33 = .ok (.ifCond .lt 8, 3) := by decide +kernel
theorem dX5_status_36 : decode cX5_status 36 = .ok (.iload_n 3, 1) := by decide +kernel
theorem dX5_status_37 : decode cX5_status 37 = .ok (.iload_n 1, 1) := by decide +kernel
theorem dX5_status_38 : decode cX5_status 38 = .ok (.if_icmp .ne 12, 3) := by decide +kernel
theorem dX5_status_41 : decode cX5_status 41 = .ok (.aload_n 0, 1) := by decide +kernel
theorem dX5_status_42 : decode cX5_status 42 = .ok (.getfield 22, 3) := by decide +kernel
theorem dX5_status_45 : decode cX5_status 45 = .ok (.iload_n 3, 1) := by decide +kernel
theorem dX5_status_46 : decode cX5_status 46 = .ok (.iaload, 1) := by decide +kernel
theorem dX5_status_47 : decode cX5_status 47 = .ok (.goto 4, 3) := by decide +kernel
theorem dX5_status_50 : decode cX5_status 50 = .ok (.iconst 0, 1) := by decide +kernel
theorem dX5_status_51 : decode cX5_status 51 = .ok (.iadd, 1) := by decide +kernel
theorem dX5_status_52 : decode cX5_status 52 = .ok (.istore_n 2, 1) := by decide +kernel
theorem dX5_status_53 : decode cX5_status 53 = .ok (.iinc 3 1, 3) := by decide +kernel
theorem dX5_status_56 : decode cX5_status 56 = .ok (.goto (-31), 3) := by decide +kernel
theorem dX5_status_59 : decode cX5_status 59 = .ok (.iload_n 2, 1) := by decide +kernel
theorem dX5_status_60 : decode cX5_status 60 = .ok (.ireturn, 1) := by decide +kernel
