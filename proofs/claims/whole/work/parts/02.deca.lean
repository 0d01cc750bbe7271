theorem dX0_init_0 : decode cX0_init 0 = .ok (.aload_n 0, 1) := by decide +kernel
theorem dX0_init_1 : decode cX0_init 1 = .ok (.invokespecial 3, 3) := by decide +kernel
theorem dX0_init_4 : decode cX0_init 4 = .ok (.aload_n 0, 1) := by decide +kernel
theorem dX0_init_5 : decode cX0_init 5 = .ok (.bipush 12, 2) := by decide +kernel
theorem dX0_init_7 : decode cX0_init 7 = .ok (.newarray .int, 2) := by decide +kernel
theorem dX0_init_9 : decode cX0_init 9 = .ok (.putfield 9, 3) := by decide +kernel
theorem dX0_init_12 : decode cX0_init 12 = .ok (.return_, 1) := by decide +kernel
theorem dX0_become_0 : decode cX0_become 0 = .ok (.aload_n 0, 1) := by decide +kernel
theorem dX0_become_1 : decode cX0_become 1 = .ok (.aload_n 1, 1) := by decide +kernel
theorem dX0_become_2 : decode cX0_become 2 = .ok (.getfield 15, 3) := by decide +kernel
theorem dX0_become_5 : decode cX0_become 5 = .ok (.putfield 15, 3) := by decide +kernel
theorem dX0_become_8 : decode cX0_become 8 = .ok (.aload_n 0, 1) := by decide +kernel
theorem dX0_become_9 : decode cX0_become 9 = .ok (.aload_n 1, 1) := by decide +kernel
theorem dX0_become_10 : decode cX0_become 10 = .ok (.getfield 19, 3) := by decide +kernel
theorem dX0_become_13 : decode cX0_become 13 = .ok (.putfield 19, 3) := by decide +kernel
theorem dX0_become_16 : decode cX0_become 16 = .ok (.aload_n 0, 1) := by decide +kernel
theorem dX0_become_17 : decode cX0_become 17 = .ok (.aload_n 1, 1) := by decide +kernel
theorem dX0_become_18 : decode cX0_become 18 = .ok (.getfield 22, 3) := by decide +kernel
theorem dX0_become_21 : decode cX0_become 21 = .ok (.putfield 22, 3) := by decide +kernel
theorem dX0_become_24 : decode cX0_become 24 = .ok (.aload_n 1, 1) := by decide +kernel
theorem dX0_become_25 : decode cX0_become 25 = .ok (.getfield 9, 3) := by decide +kernel
theorem dX0_become_28 : decode cX0_become 28 = .ok (.iconst 0, 1) := by decide +kernel
theorem dX0_become_29 : decode cX0_become 29 = .ok (.aload_n 0, 1) := by decide +kernel
theorem dX0_become_30 : decode cX0_become 30 = .ok (.getfield 9, 3) := by decide +kernel
theorem dX0_become_33 : decode cX0_become 33 = .ok (.iconst 0, 1) := by decide +kernel
theorem dX0_become_34 : decode cX0_become 34 = .ok (.bipush 12, 2) := by decide +kernel
theorem dX0_become_36 : decode cX0_become 36 = .ok (.invokestatic 25, 3) := by decide +kernel
theorem dX0_become_39 : decode cX0_become 39 = .ok (.return_, 1) := by decide +kernel
theorem dX0_grow_0 : decode cX0_grow 0 = .ok (.aload_n 0, 1) := by decide +kernel
theorem dX0_grow_1 : decode cX0_grow 1 = .ok (.getfield 15, 3) := by decide +kernel
theorem dX0_grow_4 : decode cX0_grow 4 = .ok (.iload_n 2, 1) := by decide +kernel
theorem dX0_grow_5 : decode cX0_grow 5 = .ok (.invokestatic 31, 3) := by decide +kernel
theorem dX0_grow_8 : decode cX0_grow 8 = .ok (.istore_n 3, 1) := by decide +kernel
theorem dX0_grow_9 : decode cX0_grow 9 = .ok (.iload_n 3, 1) := by decide +kernel
theorem dX0_grow_10 : decode cX0_grow 10 = .ok (.iload_n 3, 1) := by decide +kernel
theorem dX0_grow_11 : decode cX0_grow 11 = .ok (.aload_n 0, 1) := by decide +kernel
theorem dX0_grow_12 : decode cX0_grow 12 = .ok (.getfield 15, 3) := by decide +kernel
theorem dX0_grow_15 : decode cX0_grow 15 = .ok (.aload_n 0, 1) := by decide +kernel
theorem dX0_grow_16 : decode cX0_grow 16 = .ok (.getfield 19, 3) := by decide +kernel
theorem dX0_grow_19 : decode cX0_grow 19 = .ok (.invokestatic 35, 3) := by decide +kernel
theorem dX0_grow_22 : decode cX0_grow 22 = .ok (.invokestatic 38, 3) := by decide +kernel
theorem dX0_grow_25 : decode cX0_grow 25 = .ok (.isub, 1) := by decide +kernel
theorem dX0_grow_26 : decode cX0_grow 26 = .ok (.istore 4, 2) := by decide +kernel
theorem dX0_grow_28 : decode cX0_grow 28 = .ok (.aload_n 0, 1) := by decide +kernel
theorem dX0_grow_29 : decode cX0_grow 29 = .ok (.dup, 1) := by decide +kernel
theorem dX0_grow_30 : decode cX0_grow 30 = .ok (.getfield 22, 3) := by decide +kernel
theorem dX0_grow_33 : decode cX0_grow 33 = .ok (.iload 4, 2) := by decide +kernel
theorem dX0_grow_35 : decode cX0_grow 35 = .ok (.aload_n 0, 1) := by decide +kernel
theorem dX0_grow_36 : decode cX0_grow 36 = .ok (.getfield 9, 3) := by decide +kernel
theorem dX0_grow_39 : decode cX0_grow 39 = .ok (.iload_n 1, 1) := by decide +kernel
theorem dX0_grow_40 : decode cX0_grow 40 = .ok (.iaload, 1) := by decide +kernel
theorem dX0_grow_41 : decode cX0_grow 41 = .ok (.isub, 1) := by decide +kernel
theorem dX0_grow_42 : decode cX0_grow 42 = .ok (.iadd, 1) := by decide +kernel
theorem dX0_grow_43 : decode cX0_grow 43 = .ok (.putfield 22, 3) := by decide +kernel
theorem dX0_grow_46 : decode cX0_grow 46 = .ok (.aload_n 0, 1) := by decide +kernel
theorem dX0_grow_47 : decode cX0_grow 47 = .ok (.getfield 9, 3) := by decide +kernel
theorem dX0_grow_50 : decode cX0_grow 50 = .ok (.iload_n 1, 1) := by decide +kernel
theorem dX0_grow_51 : decode cX0_grow 51 = .ok (.iload 4, 2) := by decide +kernel
theorem dX0_grow_53 : decode cX0_grow 53 = .ok (.iastore, 1) := by decide +kernel
theorem dX0_grow_54 : decode cX0_grow 54 = .ok (.aload_n 0, 1) := by decide +kernel
theorem dX0_grow_55 : decode cX0_grow 55 = .ok (.iconst 0, 1) := by decide +kernel
theorem dX0_grow_56 : decode cX0_grow 56 = .ok (.aload_n 0, 1) := by decide +kernel
theorem dX0_grow_57 : decode cX0_grow 57 = .ok (.getfield 19, 3) := by decide +kernel
theorem dX0_grow_60 : decode cX0_grow 60 = .ok (.aload_n 0, 1) := by decide +kernel
theorem dX0_grow_61 : decode cX0_grow 61 = .ok (.getfield 15, 3) := by decide +kernel
theorem dX0_grow_64 : decode cX0_grow 64 = .ok (.invokestatic 43, 3) := by decide +kernel
theorem dX0_grow_67 : decode cX0_grow 67 = .ok (.isub, 1) := by decide +kernel
theorem dX0_grow_68 : decode cX0_grow 68 = .ok (.invokestatic 47, 3) := by decide +kernel
theorem dX0_grow_71 : decode cX0_grow 71 = .ok (.putfield 19, 3) := by decide +kernel
theorem dX0_grow_74 : decode cX0_grow 74 = .ok (.return_, 1) := by decide +kernel
theorem dX0_bare_0 : decode cX0_bare 0 = .ok (.aload_n 0, 1) := by decide +kernel
theorem dX0_bare_1 : decode cX0_bare 1 = .ok (.iconst 0, 1) := by decide +kernel
theorem dX0_bare_2 : decode cX0_bare 2 = .ok (.putfield 22, 3) := by decide +kernel
theorem dX0_bare_5 : decode cX0_bare 5 = .ok (.aload_n 0, 1) := by decide +kernel
theorem dX0_bare_6 : decode cX0_bare 6 = .ok (.getfield 9, 3) := by decide +kernel
theorem dX0_bare_9 : decode cX0_bare 9 = .ok (.iconst 0, 1) := by decide +kernel
theorem dX0_bare_10 : decode cX0_bare 10 = .ok (.invokestatic 50, 3) := by decide +kernel
theorem dX0_bare_13 : decode cX0_bare 13 = .ok (.return_, 1) := by decide +kernel
theorem dX1_init_0 : decode cX1_init 0 = .ok (.aload_n 0, 1) := by decide +kernel
theorem dX1_init_1 : decode cX1_init 1 = .ok (.invokespecial 3, 3) := by decide +kernel
theorem dX1_init_4 : decode cX1_init 4 = .ok (.aload_n 0, 1) := by decide +kernel
theorem dX1_init_5 : decode cX1_init 5 = .ok (.bipush 12, 2) := by decide +kernel
theorem dX1_init_7 : decode cX1_init 7 = .ok (.newarray .int, 2) := by decide +kernel
theorem dX1_init_9 : decode cX1_init 9 = .ok (.putfield 9, 3) := by decide +kernel
theorem dX1_init_12 : decode cX1_init 12 = .ok (.aload_n 0, 1) := by decide +kernel
theorem dX1_init_13 : decode cX1_init 13 = .ok (.bipush 12, 2) := by decide +kernel
theorem dX1_init_15 : decode cX1_init 15 = .ok (.newarray .int, 2) := by decide +kernel
theorem dX1_init_17 : decode cX1_init 17 = .ok (.putfield 15, 3) := by decide +kernel
theorem dX1_init_20 : decode cX1_init 20 = .ok (.aload_n 0, 1) := by decide +kernel
theorem dX1_init_21 : decode cX1_init 21 = .ok (.bipush 12, 2) := by decide +kernel
theorem dX1_init_23 : decode cX1_init 23 = .ok (.newarray .int, 2) := by decide +kernel
theorem dX1_init_25 : decode cX1_init 25 = .ok (.putfield 18, 3) := by decide +kernel
theorem dX1_init_28 : decode cX1_init 28 = .ok (.aload_n 0, 1) := by decide +kernel
theorem dX1_init_29 : decode cX1_init 29 = .ok (.bipush 8, 2) := by decide +kernel
theorem dX1_init_31 : decode cX1_init 31 = .ok (.anewarray 21, 3) := by decide +kernel
theorem dX1_init_34 : decode cX1_init 34 = .ok (.putfield 23, 3) := by decide +kernel
theorem dX1_init_37 : decode cX1_init 37 = .ok (.aload_n 0, 1) := by decide +kernel
theorem dX1_init_38 : decode cX1_init 38 = .ok (.iconst 4, 1) := by decide +kernel
theorem dX1_init_39 : decode cX1_init 39 = .ok (.bipush 12, 2) := by decide +kernel
theorem dX1_init_41 : decode cX1_init 41 = .ok (.multianewarray 27 2, 4) := by decide +kernel
theorem dX1_init_45 : decode cX1_init 45 = .ok (.putfield 29, 3) := by decide +kernel
theorem dX1_init_48 : decode cX1_init 48 = .ok (.iconst 0, 1) := by decide +kernel
theorem dX1_init_49 : decode cX1_init 49 = .ok (.istore_n 1, 1) := by decide +kernel
theorem dX1_init_50 : decode cX1_init 50 = .ok (.iload_n 1, 1) := by decide +kernel
theorem dX1_init_51 : decode cX1_init 51 = .ok (.bipush 12, 2) := by decide +kernel
theorem dX1_init_53 : decode cX1_init 53 = .ok (.if_icmp .ge 25, 3) := by decide +kernel
theorem dX1_init_56 : decode cX1_init 56 = .ok (.aload_n 0, 1) := by decide +kernel
theorem dX1_init_57 : decode cX1_init 57 = .ok (.getfield 9, 3) := by decide +kernel
theorem dX1_init_60 : decode cX1_init 60 = .ok (.iload_n 1, 1) := by decide +kernel
theorem dX1_init_61 : decode cX1_init 61 = .ok (.bipush 7, 2) := by decide +kernel
theorem dX1_init_63 : decode cX1_init 63 = .ok (.iload_n 1, 1) := by decide +kernel
theorem dX1_init_64 : decode cX1_init 64 = .ok (.imul, 1) := by decide +kernel
theorem dX1_init_65 : decode cX1_init 65 = .ok (.bipush 25, 2) := by decide +kernel
theorem dX1_init_67 : decode cX1_init 67 = .ok (.irem, 1) := by decide +kernel
theorem dX1_init_68 : decode cX1_init 68 = .ok (.bipush 12, 2) := by decide +kernel
theorem dX1_init_70 : decode cX1_init 70 = .ok (.isub, 1) := by decide +kernel
theorem dX1_init_71 : decode cX1_init 71 = .ok (.iastore, 1) := by decide +kernel
theorem dX1_init_72 : decode cX1_init 72 = .ok (.iinc 1 1, 3) := by decide +kernel
theorem dX1_init_75 : decode cX1_init 75 = .ok (.goto (-25), 3) := by decide +kernel
theorem dX1_init_78 : decode cX1_init 78 = .ok (.iconst 0, 1) := by decide +kernel
theorem dX1_init_79 : decode cX1_init 79 = .ok (.istore_n 1, 1) := by decide +kernel
theorem dX1_init_80 : decode cX1_init 80 = .ok (.iload_n 1, 1) := by decide +kernel
theorem dX1_init_81 : decode cX1_init 81 = .ok (.bipush 8, 2) := by decide +kernel
theorem dX1_init_83 : decode cX1_init 83 = .ok (.if_icmp .ge 22, 3) := by decide +kernel
theorem dX1_init_86 : decode cX1_init 86 = .ok (.aload_n 0, 1) := by decide +kernel
theorem dX1_init_87 : decode cX1_init 87 = .ok (.getfield 23, 3) := by decide +kernel
theorem dX1_init_90 : decode cX1_init 90 = .ok (.iload_n 1, 1) := by decide +kernel
theorem dX1_init_91 : decode cX1_init 91 = .ok (.new 21, 3) := by decide +kernel
theorem dX1_init_94 : decode cX1_init 94 = .ok (.dup, 1) := by decide +kernel
theorem dX1_init_95 : decode cX1_init 95 = .ok (.invokespecial 32, 3) := by decide +kernel
theorem dX1_init_98 : decode cX1_init 98 = .ok (.aastore, 1) := by decide +kernel
theorem dX1_init_99 : decode cX1_init 99 = .ok (.iinc 1 1, 3) := by decide +kernel
theorem dX1_init_102 : decode cX1_init 102 = .ok (.goto (-22), 3) := by decide +kernel
theorem dX1_init_105 : decode cX1_init 105 = .ok (.return_, 1) := by decide +kernel
theorem dX1_become_0 : decode cX1_become 0 = .ok (.aload_n 0, 1) := by decide +kernel
theorem dX1_become_1 : decode cX1_become 1 = .ok (.aload_n 1, 1) := by decide +kernel
theorem dX1_become_2 : decode cX1_become 2 = .ok (.getfield 33, 3) := by decide +kernel
theorem dX1_become_5 : decode cX1_become 5 = .ok (.putfield 33, 3) := by decide +kernel
theorem dX1_become_8 : decode cX1_become 8 = .ok (.aload_n 0, 1) := by decide +kernel
theorem dX1_become_9 : decode cX1_become 9 = .ok (.aload_n 1, 1) := by decide +kernel
theorem dX1_become_10 : decode cX1_become 10 = .ok (.getfield 37, 3) := by decide +kernel
theorem dX1_become_13 : decode cX1_become 13 = .ok (.putfield 37, 3) := by decide +kernel
theorem dX1_become_16 : decode cX1_become 16 = .ok (.aload_n 1, 1) := by decide +kernel
theorem dX1_become_17 : decode cX1_become 17 = .ok (.getfield 9, 3) := by decide +kernel
theorem dX1_become_20 : decode cX1_become 20 = .ok (.iconst 0, 1) := by decide +kernel
theorem dX1_become_21 : decode cX1_become 21 = .ok (.aload_n 0, 1) := by decide +kernel
theorem dX1_become_22 : decode cX1_become 22 = .ok (.getfield 9, 3) := by decide +kernel
theorem dX1_become_25 : decode cX1_become 25 = .ok (.iconst 0, 1) := by decide +kernel
theorem dX1_become_26 : decode cX1_become 26 = .ok (.bipush 12, 2) := by decide +kernel
theorem dX1_become_28 : decode cX1_become 28 = .ok (.invokestatic 40, 3) := by decide +kernel
theorem dX1_become_31 : decode cX1_become 31 = .ok (.aload_n 1, 1) := by decide +kernel
theorem dX1_become_32 : decode cX1_become 32 = .ok (.getfield 15, 3) := by decide +kernel
theorem dX1_become_35 : decode cX1_become 35 = .ok (.iconst 0, 1) := by decide +kernel
theorem dX1_become_36 : decode cX1_become 36 = .ok (.aload_n 0, 1) := by decide +kernel
theorem dX1_become_37 : decode cX1_become 37 = .ok (.getfield 15, 3) := by decide +kernel
theorem dX1_become_40 : decode cX1_become 40 = .ok (.iconst 0, 1) := by decide +kernel
theorem dX1_become_41 : decode cX1_become 41 = .ok (.bipush 12, 2) := by decide +kernel
theorem dX1_become_43 : decode cX1_become 43 = .ok (.invokestatic 40, 3) := by decide +kernel
theorem dX1_become_46 : decode cX1_become 46 = .ok (.aload_n 1, 1) := by decide +kernel
theorem dX1_become_47 : decode cX1_become 47 = .ok (.getfield 18, 3) := by decide +kernel
theorem dX1_become_50 : decode cX1_become 50 = .ok (.iconst 0, 1) := by decide +kernel
theorem dX1_become_51 : decode cX1_become 51 = .ok (.aload_n 0, 1) := by decide +kernel
theorem dX1_become_52 : decode cX1_become 52 = .ok (.getfield 18, 3) := by decide +kernel
theorem dX1_become_55 : decode cX1_become 55 = .ok (.iconst 0, 1) := by decide +kernel
theorem dX1_become_56 : decode cX1_become 56 = .ok (.bipush 12, 2) := by decide +kernel
theorem dX1_become_58 : decode cX1_become 58 = .ok (.invokestatic 40, 3) := by decide +kernel
theorem dX1_become_61 : decode cX1_become 61 = .ok (.iconst 0, 1) := by decide +kernel
theorem dX1_become_62 : decode cX1_become 62 = .ok (.istore_n 2, 1) := by decide +kernel
theorem dX1_become_63 : decode cX1_become 63 = .ok (.iload_n 2, 1) := by decide +kernel
theorem dX1_become_64 : decode cX1_become 64 = .ok (.aload_n 0, 1) := by decide +kernel
theorem dX1_become_65 : decode cX1_become 65 = .ok (.getfield 37, 3) := by decide +kernel
theorem dX1_become_68 : decode cX1_become 68 = .ok (.if_icmp .ge 24, 3) := by decide +kernel
theorem dX1_become_71 : decode cX1_become 71 = .ok (.aload_n 0, 1) := by decide +kernel
theorem dX1_become_72 : decode cX1_become 72 = .ok (.getfield 23, 3) := by decide +kernel
theorem dX1_become_75 : decode cX1_become 75 = .ok (.iload_n 2, 1) := by decide +kernel
theorem dX1_become_76 : decode cX1_become 76 = .ok (.aaload, 1) := by decide +kernel
theorem dX1_become_77 : decode cX1_become 77 = .ok (.aload_n 1, 1) := by decide +kernel
theorem dX1_become_78 : decode cX1_become 78 = .ok (.getfield 23, 3) := by decide +kernel
theorem dX1_become_81 : decode cX1_become 81 = .ok (.iload_n 2, 1) := by decide +kernel
theorem dX1_become_82 : decode cX1_become 82 = .ok (.aaload, 1) := by decide +kernel
theorem dX1_become_83 : decode cX1_become 83 = .ok (.invokevirtual 46, 3) := by decide +kernel
theorem dX1_become_86 : decode cX1_become 86 = .ok (.iinc 2 1, 3) := by decide +kernel
theorem dX1_become_89 : decode cX1_become 89 = .ok (.goto (-26), 3) := by decide +kernel
theorem dX1_become_92 : decode cX1_become 92 = .ok (.iconst 0, 1) := by decide +kernel
theorem dX1_become_93 : decode cX1_become 93 = .ok (.istore_n 2, 1) := by decide +kernel
theorem dX1_become_94 : decode cX1_become 94 = .ok (.iload_n 2, 1) := by decide +kernel
theorem dX1_become_95 : decode cX1_become 95 = .ok (.iconst 4, 1) := by decide +kernel
theorem dX1_become_96 : decode cX1_become 96 = .ok (.if_icmp .ge 28, 3) := by decide +kernel
theorem dX1_become_99 : decode cX1_become 99 = .ok (.aload_n 1, 1) := by decide +kernel
theorem dX1_become_100 : decode cX1_become 100 = .ok (.getfield 29, 3) := by decide +kernel
theorem dX1_become_103 : decode cX1_become 103 = .ok (.iload_n 2, 1) := by decide +kernel
theorem dX1_become_104 : decode cX1_become 104 = .ok (.aaload, 1) := by decide +kernel
theorem dX1_become_105 : decode cX1_become 105 = .ok (.iconst 0, 1) := by decide +kernel
theorem dX1_become_106 : decode cX1_become 106 = .ok (.aload_n 0, 1) := by decide +kernel
theorem dX1_become_107 : decode cX1_become 107 = .ok (.getfield 29, 3) := by decide +kernel
theorem dX1_become_110 : decode cX1_become 110 = .ok (.iload_n 2, 1) := by decide +kernel
theorem dX1_become_111 : decode cX1_become 111 = .ok (.aaload, 1) := by decide +kernel
theorem dX1_become_112 : decode cX1_become 112 = .ok (.iconst 0, 1) := by decide +kernel
theorem dX1_become_113 : decode cX1_become 113 = .ok (.bipush 12, 2) := by decide +kernel
theorem dX1_become_115 : decode cX1_become 115 = .ok (.invokestatic 40, 3) := by decide +kernel
theorem dX1_become_118 : decode cX1_become 118 = .ok (.iinc 2 1, 3) := by decide +kernel
theorem dX1_become_121 : decode cX1_become 121 = .ok (.goto (-27), 3) := by decide +kernel
theorem dX1_become_124 : decode cX1_become 124 = .ok (.return_, 1) := by decide +kernel
theorem dX1_monthOfYear_0 : decode cX1_monthOfYear 0 = .ok (.aload_n 0, 1) := by decide +kernel
theorem dX1_monthOfYear_1 : decode cX1_monthOfYear 1 = .ok (.getfield 33, 3) := by decide +kernel
theorem dX1_monthOfYear_4 : decode cX1_monthOfYear 4 = .ok (.bipush 12, 2) := by decide +kernel
theorem dX1_monthOfYear_6 : decode cX1_monthOfYear 6 = .ok (.irem, 1) := by decide +kernel
theorem dX1_monthOfYear_7 : decode cX1_monthOfYear 7 = .ok (.ireturn, 1) := by decide +kernel
theorem dX1_isFull_0 : decode cX1_isFull 0 = .ok (.aload_n 0, 1) := by decide +kernel
theorem dX1_isFull_1 : decode cX1_isFull 1 = .ok (.getfield 37, 3) := by decide +kernel
theorem dX1_isFull_4 : decode cX1_isFull 4 = .ok (.bipush 8, 2) := by decide +kernel
theorem dX1_isFull_6 : decode cX1_isFull 6 = .ok (.if_icmp .lt 7, 3) := by decide +kernel
theorem dX1_isFull_9 : decode cX1_isFull 9 = .ok (.iconst 1, 1) := by decide +kernel
theorem dX1_isFull_10 : decode cX1_isFull 10 = .ok (.goto 4, 3) := by decide +kernel
theorem dX1_isFull_13 : decode cX1_isFull 13 = .ok (.iconst 0, 1) := by decide +kernel
theorem dX1_isFull_14 : decode cX1_isFull 14 = .ok (.ireturn, 1) := by decide +kernel
theorem dX1_add_0 : decode cX1_add 0 = .ok (.aload_n 0, 1) := by decide +kernel
theorem dX1_add_1 : decode cX1_add 1 = .ok (.invokevirtual 50, 3) := by decide +kernel
theorem dX1_add_4 : decode cX1_add 4 = .ok (.ifCond .eq 4, 3) := by decide +kernel
theorem dX1_add_7 : decode cX1_add 7 = .ok (.return_, 1) := by decide +kernel
theorem dX1_add_8 : decode cX1_add 8 = .ok (.aload_n 0, 1) := by decide +kernel
theorem dX1_add_9 : decode cX1_add 9 = .ok (.getfield 23, 3) := by decide +kernel
theorem dX1_add_12 : decode cX1_add 12 = .ok (.aload_n 0, 1) := by decide +kernel
theorem dX1_add_13 : decode cX1_add 13 = .ok (.getfield 37, 3) := by decide +kernel
theorem dX1_add_16 : decode cX1_add 16 = .ok (.aaload, 1) := by decide +kernel
theorem dX1_add_17 : decode cX1_add 17 = .ok (.invokevirtual 54, 3) := by decide +kernel
theorem dX1_add_20 : decode cX1_add 20 = .ok (.aload_n 0, 1) := by decide +kernel
theorem dX1_add_21 : decode cX1_add 21 = .ok (.getfield 23, 3) := by decide +kernel
theorem dX1_add_24 : decode cX1_add 24 = .ok (.aload_n 0, 1) := by decide +kernel
theorem dX1_add_25 : decode cX1_add 25 = .ok (.getfield 37, 3) := by decide +kernel
theorem dX1_add_28 : decode cX1_add 28 = .ok (.aaload, 1) := by decide +kernel
theorem dX1_add_29 : decode cX1_add 29 = .ok (.iload_n 1, 1) := by decide +kernel
theorem dX1_add_30 : decode cX1_add 30 = .ok (.putfield 57, 3) := by decide +kernel
theorem dX1_add_33 : decode cX1_add 33 = .ok (.aload_n 0, 1) := by decide +kernel
theorem dX1_add_34 : decode cX1_add 34 = .ok (.getfield 23, 3) := by decide +kernel
theorem dX1_add_37 : decode cX1_add 37 = .ok (.aload_n 0, 1) := by decide +kernel
theorem dX1_add_38 : decode cX1_add 38 = .ok (.getfield 37, 3) := by decide +kernel
theorem dX1_add_41 : decode cX1_add 41 = .ok (.aaload, 1) := by decide +kernel
theorem dX1_add_42 : decode cX1_add 42 = .ok (.iload_n 2, 1) := by decide +kernel
theorem dX1_add_43 : decode cX1_add 43 = .ok (.putfield 60, 3) := by decide +kernel
theorem dX1_add_46 : decode cX1_add 46 = .ok (.aload_n 0, 1) := by decide +kernel
theorem dX1_add_47 : decode cX1_add 47 = .ok (.dup, 1) := by decide +kernel
theorem dX1_add_48 : decode cX1_add 48 = .ok (.getfield 37, 3) := by decide +kernel
theorem dX1_add_51 : decode cX1_add 51 = .ok (.iconst 1, 1) := by decide +kernel
theorem dX1_add_52 : decode cX1_add 52 = .ok (.iadd, 1) := by decide +kernel
theorem dX1_add_53 : decode cX1_add 53 = .ok (.putfield 37, 3) := by decide +kernel
theorem dX1_add_56 : decode cX1_add 56 = .ok (.return_, 1) := by decide +kernel
theorem dX1_pass_0 : decode cX1_pass 0 = .ok (.iconst 0, 1) := by decide +kernel
theorem dX1_pass_1 : decode cX1_pass 1 = .ok (.istore_n 2, 1) := by decide +kernel
theorem dX1_pass_2 : decode cX1_pass 2 = .ok (.iload_n 2, 1) := by decide +kernel
theorem dX1_pass_3 : decode cX1_pass 3 = .ok (.iload_n 1, 1) := by decide +kernel
theorem dX1_pass_4 : decode cX1_pass 4 = .ok (.if_icmp .ge 13, 3) := by decide +kernel
theorem dX1_pass_7 : decode cX1_pass 7 = .ok (.aload_n 0, 1) := by decide +kernel
theorem dX1_pass_8 : decode cX1_pass 8 = .ok (.invokevirtual 63, 3) := by decide +kernel
theorem dX1_pass_11 : decode cX1_pass 11 = .ok (.iinc 2 1, 3) := by decide +kernel
theorem dX1_pass_14 : decode cX1_pass 14 = .ok (.goto (-12), 3) := by decide +kernel
theorem dX1_pass_17 : decode cX1_pass 17 = .ok (.return_, 1) := by decide +kernel
theorem dX1_passOne_0 : decode cX1_passOne 0 = .ok (.aload_n 0, 1) := by decide +kernel
theorem dX1_passOne_1 : decode cX1_passOne 1 = .ok (.invokevirtual 66, 3) := by decide +kernel
theorem dX1_passOne_4 : decode cX1_passOne 4 = .ok (.istore_n 1, 1) := by decide +kernel
theorem dX1_passOne_5 : decode cX1_passOne 5 = .ok (.iconst 0, 1) := by decide +kernel
theorem dX1_passOne_6 : decode cX1_passOne 6 = .ok (.istore_n 2, 1) := by decide +kernel
theorem dX1_passOne_7 : decode cX1_passOne 7 = .ok (.iload_n 2, 1) := by decide +kernel
theorem dX1_passOne_8 : decode cX1_passOne 8 = .ok (.aload_n 0, 1) := by decide +kernel
theorem dX1_passOne_9 : decode cX1_passOne 9 = .ok (.getfield 37, 3) := by decide +kernel
theorem dX1_passOne_12 : decode cX1_passOne 12 = .ok (.if_icmp .ge 25, 3) := by decide +kernel
theorem dX1_passOne_15 : decode cX1_passOne 15 = .ok (.aload_n 0, 1) := by decide +kernel
theorem dX1_passOne_16 : decode cX1_passOne 16 = .ok (.getfield 23, 3) := by decide +kernel
theorem dX1_passOne_19 : decode cX1_passOne 19 = .ok (.iload_n 2, 1) := by decide +kernel
theorem dX1_passOne_20 : decode cX1_passOne 20 = .ok (.aaload, 1) := by decide +kernel
theorem dX1_passOne_21 : decode cX1_passOne 21 = .ok (.iload_n 1, 1) := by decide +kernel
theorem dX1_passOne_22 : decode cX1_passOne 22 = .ok (.aload_n 0, 1) := by decide +kernel
theorem dX1_passOne_23 : decode cX1_passOne 23 = .ok (.getfield 9, 3) := by decide +kernel
theorem dX1_passOne_26 : decode cX1_passOne 26 = .ok (.iload_n 1, 1) := by decide +kernel
theorem dX1_passOne_27 : decode cX1_passOne 27 = .ok (.iaload, 1) := by decide +kernel
theorem dX1_passOne_28 : decode cX1_passOne 28 = .ok (.invokevirtual 70, 3) := by decide +kernel
theorem dX1_passOne_31 : decode cX1_passOne 31 = .ok (.iinc 2 1, 3) := by decide +kernel
theorem dX1_passOne_34 : decode cX1_passOne 34 = .ok (.goto (-27), 3) := by decide +kernel
theorem dX1_passOne_37 : decode cX1_passOne 37 = .ok (.iload_n 1, 1) := by decide +kernel
theorem dX1_passOne_38 : decode cX1_passOne 38 = .ok (.iconst 5, 1) := by decide +kernel
theorem dX1_passOne_39 : decode cX1_passOne 39 = .ok (.if_icmp .ne 29, 3) := by decide +kernel
theorem dX1_passOne_42 : decode cX1_passOne 42 = .ok (.iconst 0, 1) := by decide +kernel
theorem dX1_passOne_43 : decode cX1_passOne 43 = .ok (.istore_n 2, 1) := by decide +kernel
theorem dX1_passOne_44 : decode cX1_passOne 44 = .ok (.iload_n 2, 1) := by decide +kernel
theorem dX1_passOne_45 : decode cX1_passOne 45 = .ok (.aload_n 0, 1) := by decide +kernel
theorem dX1_passOne_46 : decode cX1_passOne 46 = .ok (.getfield 37, 3) := by decide +kernel
theorem dX1_passOne_49 : decode cX1_passOne 49 = .ok (.if_icmp .ge 19, 3) := by decide +kernel
theorem dX1_passOne_52 : decode cX1_passOne 52 = .ok (.aload_n 0, 1) := by decide +kernel
theorem dX1_passOne_53 : decode cX1_passOne 53 = .ok (.aload_n 0, 1) := by decide +kernel
theorem dX1_passOne_54 : decode cX1_passOne 54 = .ok (.getfield 23, 3) := by decide +kernel
theorem dX1_passOne_57 : decode cX1_passOne 57 = .ok (.iload_n 2, 1) := by decide +kernel
theorem dX1_passOne_58 : decode cX1_passOne 58 = .ok (.aaload, 1) := by decide +kernel
theorem dX1_passOne_59 : decode cX1_passOne 59 = .ok (.invokevirtual 74, 3) := by decide +kernel
theorem dX1_passOne_62 : decode cX1_passOne 62 = .ok (.iinc 2 1, 3) := by decide +kernel
theorem dX1_passOne_65 : decode cX1_passOne 65 = .ok (.goto (-21), 3) := by decide +kernel
theorem dX1_passOne_68 : decode cX1_passOne 68 = .ok (.aload_n 0, 1) := by decide +kernel
theorem dX1_passOne_69 : decode cX1_passOne 69 = .ok (.dup, 1) := by decide +kernel
theorem dX1_passOne_70 : decode cX1_passOne 70 = .ok (.getfield 33, 3) := by decide +kernel
theorem dX1_passOne_73 : decode cX1_passOne 73 = .ok (.iconst 1, 1) := by decide +kernel
theorem dX1_passOne_74 : decode cX1_passOne 74 = .ok (.iadd, 1) := by decide +kernel
theorem dX1_passOne_75 : decode cX1_passOne 75 = .ok (.putfield 33, 3) := by decide +kernel
theorem dX1_passOne_78 : decode cX1_passOne 78 = .ok (.return_, 1) := by decide +kernel
theorem dX1_shear_0 : decode cX1_shear 0 = .ok (.iconst 0, 1) := by decide +kernel
theorem dX1_shear_1 : decode cX1_shear 1 = .ok (.istore_n 2, 1) := by decide +kernel
theorem dX1_shear_2 : decode cX1_shear 2 = .ok (.iload_n 2, 1) := by decide +kernel
theorem dX1_shear_3 : decode cX1_shear 3 = .ok (.bipush 12, 2) := by decide +kernel
theorem dX1_shear_5 : decode cX1_shear 5 = .ok (.if_icmp .ge 75, 3) := by decide +kernel
theorem dX1_shear_8 : decode cX1_shear 8 = .ok (.aload_n 1, 1) := by decide +kernel
theorem dX1_shear_9 : decode cX1_shear 9 = .ok (.getfield 77, 3) := by decide +kernel
theorem dX1_shear_12 : decode cX1_shear 12 = .ok (.iload_n 2, 1) := by decide +kernel
theorem dX1_shear_13 : decode cX1_shear 13 = .ok (.iaload, 1) := by decide +kernel
theorem dX1_shear_14 : decode cX1_shear 14 = .ok (.ifCond .le 60, 3) := by decide +kernel
theorem dX1_shear_17 : decode cX1_shear 17 = .ok (.aload_n 0, 1) := by decide +kernel
theorem dX1_shear_18 : decode cX1_shear 18 = .ok (.getfield 15, 3) := by decide +kernel
theorem dX1_shear_21 : decode cX1_shear 21 = .ok (.iload_n 2, 1) := by decide +kernel
theorem dX1_shear_22 : decode cX1_shear 22 = .ok (.sipush 9999, 3) := by decide +kernel
theorem dX1_shear_25 : decode cX1_shear 25 = .ok (.aload_n 0, 1) := by decide +kernel
theorem dX1_shear_26 : decode cX1_shear 26 = .ok (.getfield 15, 3) := by decide +kernel
theorem dX1_shear_29 : decode cX1_shear 29 = .ok (.iload_n 2, 1) := by decide +kernel
theorem dX1_shear_30 : decode cX1_shear 30 = .ok (.iaload, 1) := by decide +kernel
theorem dX1_shear_31 : decode cX1_shear 31 = .ok (.aload_n 1, 1) := by decide +kernel
theorem dX1_shear_32 : decode cX1_shear 32 = .ok (.getfield 77, 3) := by decide +kernel
theorem dX1_shear_35 : decode cX1_shear 35 = .ok (.iload_n 2, 1) := by decide +kernel
theorem dX1_shear_36 : decode cX1_shear 36 = .ok (.iaload, 1) := by decide +kernel
theorem dX1_shear_37 : decode cX1_shear 37 = .ok (.iadd, 1) := by decide +kernel
theorem dX1_shear_38 : decode cX1_shear 38 = .ok (.invokestatic 80, 3) := by decide +kernel
theorem dX1_shear_41 : decode cX1_shear 41 = .ok (.iastore, 1) := by decide +kernel
theorem dX1_shear_42 : decode cX1_shear 42 = .ok (.aload_n 0, 1) := by decide +kernel
theorem dX1_shear_43 : decode cX1_shear 43 = .ok (.getfield 18, 3) := by decide +kernel
theorem dX1_shear_46 : decode cX1_shear 46 = .ok (.iload_n 2, 1) := by decide +kernel
theorem dX1_shear_47 : decode cX1_shear 47 = .ok (.sipush 9999, 3) := by decide +kernel
theorem dX1_shear_50 : decode cX1_shear 50 = .ok (.aload_n 0, 1) := by decide +kernel
theorem dX1_shear_51 : decode cX1_shear 51 = .ok (.getfield 18, 3) := by decide +kernel
theorem dX1_shear_54 : decode cX1_shear 54 = .ok (.iload_n 2, 1) := by decide +kernel
theorem dX1_shear_55 : decode cX1_shear 55 = .ok (.iaload, 1) := by decide +kernel
theorem dX1_shear_56 : decode cX1_shear 56 = .ok (.aload_n 1, 1) := by decide +kernel
theorem dX1_shear_57 : decode cX1_shear 57 = .ok (.getfield 57, 3) := by decide +kernel
theorem dX1_shear_60 : decode cX1_shear 60 = .ok (.aload_n 0, 1) := by decide +kernel
theorem dX1_shear_61 : decode cX1_shear 61 = .ok (.getfield 9, 3) := by decide +kernel
theorem dX1_shear_64 : decode cX1_shear 64 = .ok (.iload_n 2, 1) := by decide +kernel
theorem dX1_shear_65 : decode cX1_shear 65 = .ok (.iaload, 1) := by decide +kernel
theorem dX1_shear_66 : decode cX1_shear 66 = .ok (.invokestatic 86, 3) := by decide +kernel
theorem dX1_shear_69 : decode cX1_shear 69 = .ok (.iadd, 1) := by decide +kernel
theorem dX1_shear_70 : decode cX1_shear 70 = .ok (.invokestatic 80, 3) := by decide +kernel
theorem dX1_shear_73 : decode cX1_shear 73 = .ok (.iastore, 1) := by decide +kernel
theorem dX1_shear_74 : decode cX1_shear 74 = .ok (.iinc 2 1, 3) := by decide +kernel
theorem dX1_shear_77 : decode cX1_shear 77 = .ok (.goto (-75), 3) := by decide +kernel
theorem dX1_shear_80 : decode cX1_shear 80 = .ok (.aload_n 1, 1) := by decide +kernel
theorem dX1_shear_81 : decode cX1_shear 81 = .ok (.invokevirtual 54, 3) := by decide +kernel
theorem dX1_shear_84 : decode cX1_shear 84 = .ok (.return_, 1) := by decide +kernel
theorem dX1_roomInCoat_0 : decode cX1_roomInCoat 0 = .ok (.sipush 999, 3) := by decide +kernel
theorem dX1_roomInCoat_3 : decode cX1_roomInCoat 3 = .ok (.aload_n 0, 1) := by decide +kernel
theorem dX1_roomInCoat_4 : decode cX1_roomInCoat 4 = .ok (.getfield 29, 3) := by decide +kernel
theorem dX1_roomInCoat_7 : decode cX1_roomInCoat 7 = .ok (.iload_n 1, 1) := by decide +kernel
theorem dX1_roomInCoat_8 : decode cX1_roomInCoat 8 = .ok (.aaload, 1) := by decide +kernel
theorem dX1_roomInCoat_9 : decode cX1_roomInCoat 9 = .ok (.iload_n 2, 1) := by decide +kernel
theorem dX1_roomInCoat_10 : decode cX1_roomInCoat 10 = .ok (.iaload, 1) := by decide +kernel
theorem dX1_roomInCoat_11 : decode cX1_roomInCoat 11 = .ok (.isub, 1) := by decide +kernel
theorem dX1_roomInCoat_12 : decode cX1_roomInCoat 12 = .ok (.ireturn, 1) := by decide +kernel
theorem dX1_cutFor_0 : decode cX1_cutFor 0 = .ok (.aload_n 0, 1) := by decide +kernel
theorem dX1_cutFor_1 : decode cX1_cutFor 1 = .ok (.getfield 15, 3) := by decide +kernel
theorem dX1_cutFor_4 : decode cX1_cutFor 4 = .ok (.iload_n 2, 1) := by decide +kernel
theorem dX1_cutFor_5 : decode cX1_cutFor 5 = .ok (.dup2, 1) := by decide +kernel
theorem dX1_cutFor_6 : decode cX1_cutFor 6 = .ok (.iaload, 1) := by decide +kernel
theorem dX1_cutFor_7 : decode cX1_cutFor 7 = .ok (.iload_n 3, 1) := by decide +kernel
theorem dX1_cutFor_8 : decode cX1_cutFor 8 = .ok (.isub, 1) := by decide +kernel
theorem dX1_cutFor_9 : decode cX1_cutFor 9 = .ok (.iastore, 1) := by decide +kernel
theorem dX1_cutFor_10 : decode cX1_cutFor 10 = .ok (.aload_n 0, 1) := by decide +kernel
theorem dX1_cutFor_11 : decode cX1_cutFor 11 = .ok (.getfield 29, 3) := by decide +kernel
theorem dX1_cutFor_14 : decode cX1_cutFor 14 = .ok (.iload_n 1, 1) := by decide +kernel
theorem dX1_cutFor_15 : decode cX1_cutFor 15 = .ok (.aaload, 1) := by decide +kernel
theorem dX1_cutFor_16 : decode cX1_cutFor 16 = .ok (.iload_n 2, 1) := by decide +kernel
theorem dX1_cutFor_17 : decode cX1_cutFor 17 = .ok (.dup2, 1) := by decide +kernel
theorem dX1_cutFor_18 : decode cX1_cutFor 18 = .ok (.iaload, 1) := by decide +kernel
theorem dX1_cutFor_19 : decode cX1_cutFor 19 = .ok (.iload_n 3, 1) := by decide +kernel
theorem dX1_cutFor_20 : decode cX1_cutFor 20 = .ok (.iadd, 1) := by decide +kernel
theorem dX1_cutFor_21 : decode cX1_cutFor 21 = .ok (.iastore, 1) := by decide +kernel
theorem dX1_cutFor_22 : decode cX1_cutFor 22 = .ok (.return_, 1) := by decide +kernel
theorem dX1_undoCoat_0 : decode cX1_undoCoat 0 = .ok (.iconst 0, 1) := by decide +kernel
theorem dX1_undoCoat_1 : decode cX1_undoCoat 1 = .ok (.istore_n 2, 1) := by decide +kernel
theorem dX1_undoCoat_2 : decode cX1_undoCoat 2 = .ok (.iload_n 2, 1) := by decide +kernel
theorem dX1_undoCoat_3 : decode cX1_undoCoat 3 = .ok (.bipush 12, 2) := by decide +kernel
theorem dX1_undoCoat_5 : decode cX1_undoCoat 5 = .ok (.if_icmp .ge 45, 3) := by decide +kernel
theorem dX1_undoCoat_8 : decode cX1_undoCoat 8 = .ok (.aload_n 0, 1) := by decide +kernel
theorem dX1_undoCoat_9 : decode cX1_undoCoat 9 = .ok (.getfield 15, 3) := by decide +kernel
theorem dX1_undoCoat_12 : decode cX1_undoCoat 12 = .ok (.iload_n 2, 1) := by decide +kernel
theorem dX1_undoCoat_13 : decode cX1_undoCoat 13 = .ok (.sipush 9999, 3) := by decide +kernel
theorem dX1_undoCoat_16 : decode cX1_undoCoat 16 = .ok (.aload_n 0, 1) := by decide +kernel
theorem dX1_undoCoat_17 : decode cX1_undoCoat 17 = .ok (.getfield 15, 3) := by decide +kernel
theorem dX1_undoCoat_20 : decode cX1_undoCoat 20 = .ok (.iload_n 2, 1) := by decide +kernel
theorem dX1_undoCoat_21 : decode cX1_undoCoat 21 = .ok (.iaload, 1) := by decide +kernel
theorem dX1_undoCoat_22 : decode cX1_undoCoat 22 = .ok (.aload_n 0, 1) := by decide +kernel
theorem dX1_undoCoat_23 : decode cX1_undoCoat 23 = .ok (.getfield 29, 3) := by decide +kernel
theorem dX1_undoCoat_26 : decode cX1_undoCoat 26 = .ok (.iload_n 1, 1) := by decide +kernel
theorem dX1_undoCoat_27 : decode cX1_undoCoat 27 = .ok (.aaload, 1) := by decide +kernel
theorem dX1_undoCoat_28 : decode cX1_undoCoat 28 = .ok (.iload_n 2, 1) := by decide +kernel
theorem dX1_undoCoat_29 : decode cX1_undoCoat 29 = .ok (.iaload, 1) := by decide +kernel
theorem dX1_undoCoat_30 : decode cX1_undoCoat 30 = .ok (.iadd, 1) := by decide +kernel
theorem dX1_undoCoat_31 : decode cX1_undoCoat 31 = .ok (.invokestatic 80, 3) := by decide +kernel
theorem dX1_undoCoat_34 : decode cX1_undoCoat 34 = .ok (.iastore, 1) := by decide +kernel
theorem dX1_undoCoat_35 : decode cX1_undoCoat 35 = .ok (.aload_n 0, 1) := by decide +kernel
theorem dX1_undoCoat_36 : decode cX1_undoCoat 36 = .ok (.getfield 29, 3) := by decide +kernel
theorem dX1_undoCoat_39 : decode cX1_undoCoat 39 = .ok (.iload_n 1, 1) := by decide +kernel
theorem dX1_undoCoat_40 : decode cX1_undoCoat 40 = .ok (.aaload, 1) := by decide +kernel
theorem dX1_undoCoat_41 : decode cX1_undoCoat 41 = .ok (.iload_n 2, 1) := by decide +kernel
theorem dX1_undoCoat_42 : decode cX1_undoCoat 42 = .ok (.iconst 0, 1) := by decide +kernel
theorem dX1_undoCoat_43 : decode cX1_undoCoat 43 = .ok (.iastore, 1) := by decide +kernel
theorem dX1_undoCoat_44 : decode cX1_undoCoat 44 = .ok (.iinc 2 1, 3) := by decide +kernel
theorem dX1_undoCoat_47 : decode cX1_undoCoat 47 = .ok (.goto (-45), 3) := by decide +kernel
theorem dX1_undoCoat_50 : decode cX1_undoCoat 50 = .ok (.return_, 1) := by decide +kernel
theorem dX1_warmthOf_0 : decode cX1_warmthOf 0 = .ok (.aload_n 0, 1) := by decide +kernel
theorem dX1_warmthOf_1 : decode cX1_warmthOf 1 = .ok (.getfield 9, 3) := by decide +kernel
theorem dX1_warmthOf_4 : decode cX1_warmthOf 4 = .ok (.iload_n 1, 1) := by decide +kernel
theorem dX1_warmthOf_5 : decode cX1_warmthOf 5 = .ok (.iaload, 1) := by decide +kernel
theorem dX1_warmthOf_6 : decode cX1_warmthOf 6 = .ok (.ifCond .ge 7, 3) := by decide +kernel
theorem dX1_warmthOf_9 : decode cX1_warmthOf 9 = .ok (.iconst 2, 1) := by decide +kernel
theorem dX1_warmthOf_10 : decode cX1_warmthOf 10 = .ok (.iload_n 2, 1) := by decide +kernel
theorem dX1_warmthOf_11 : decode cX1_warmthOf 11 = .ok (.imul, 1) := by decide +kernel
theorem dX1_warmthOf_12 : decode cX1_warmthOf 12 = .ok (.ireturn, 1) := by decide +kernel
theorem dX1_warmthOf_13 : decode cX1_warmthOf 13 = .ok (.aload_n 0, 1) := by decide +kernel
theorem dX1_warmthOf_14 : decode cX1_warmthOf 14 = .ok (.getfield 9, 3) := by decide +kernel
theorem dX1_warmthOf_17 : decode cX1_warmthOf 17 = .ok (.iload_n 1, 1) := by decide +kernel
theorem dX1_warmthOf_18 : decode cX1_warmthOf 18 = .ok (.iaload, 1) := by decide +kernel
theorem dX1_warmthOf_19 : decode cX1_warmthOf 19 = .ok (.bipush 10, 2) := by decide +kernel
theorem dX1_warmthOf_21 : decode cX1_warmthOf 21 = .ok (.if_icmp .le 9, 3) := by decide +kernel
theorem dX1_warmthOf_24 : decode cX1_warmthOf 24 = .ok (.iload_n 2, 1) := by decide +kernel
theorem dX1_warmthOf_25 : decode cX1_warmthOf 25 = .ok (.iconst 2, 1) := by decide +kernel
theorem dX1_warmthOf_26 : decode cX1_warmthOf 26 = .ok (.idiv, 1) := by decide +kernel
theorem dX1_warmthOf_27 : decode cX1_warmthOf 27 = .ok (.goto 4, 3) := by decide +kernel
theorem dX1_warmthOf_30 : decode cX1_warmthOf 30 = .ok (.iload_n 2, 1) := by decide +kernel
theorem dX1_warmthOf_31 : decode cX1_warmthOf 31 = .ok (.ireturn, 1) := by decide +kernel
theorem dX1_warmthOfCoat_0 : decode cX1_warmthOfCoat 0 = .ok (.iconst 0, 1) := by decide +kernel
theorem dX1_warmthOfCoat_1 : decode cX1_warmthOfCoat 1 = .ok (.istore_n 2, 1) := by decide +kernel
theorem dX1_warmthOfCoat_2 : decode cX1_warmthOfCoat 2 = .ok (.iconst 0, 1) := by decide +kernel
theorem dX1_warmthOfCoat_3 : decode cX1_warmthOfCoat 3 = .ok (.istore_n 3, 1) := by decide +kernel
theorem dX1_warmthOfCoat_4 : decode cX1_warmthOfCoat 4 = .ok (.iload_n 3, 1) := by decide +kernel
theorem dX1_warmthOfCoat_5 : decode cX1_warmthOfCoat 5 = .ok (.bipush 12, 2) := by decide +kernel
theorem dX1_warmthOfCoat_7 : decode cX1_warmthOfCoat 7 = .ok (.if_icmp .ge 25, 3) := by decide +kernel
theorem dX1_warmthOfCoat_10 : decode cX1_warmthOfCoat 10 = .ok (.iload_n 2, 1) := by decide +kernel
theorem dX1_warmthOfCoat_11 : decode cX1_warmthOfCoat 11 = .ok (.aload_n 0, 1) := by decide +kernel
theorem dX1_warmthOfCoat_12 : decode cX1_warmthOfCoat 12 = .ok (.iload_n 3, 1) := by decide +kernel
theorem dX1_warmthOfCoat_13 : decode cX1_warmthOfCoat 13 = .ok (.aload_n 0, 1) := by decide +kernel
theorem dX1_warmthOfCoat_14 : decode cX1_warmthOfCoat 14 = .ok (.getfield 29, 3) := by decide +kernel
theorem dX1_warmthOfCoat_17 : decode cX1_warmthOfCoat 17 = .ok (.iload_n 1, 1) := by decide +kernel
theorem dX1_warmthOfCoat_18 : decode cX1_warmthOfCoat 18 = .ok (.aaload, 1) := by decide +kernel
theorem dX1_warmthOfCoat_19 : decode cX1_warmthOfCoat 19 = .ok (.iload_n 3, 1) := by decide +kernel
theorem dX1_warmthOfCoat_20 : decode cX1_warmthOfCoat 20 = .ok (.iaload, 1) := by decide +kernel
theorem dX1_warmthOfCoat_21 : decode cX1_warmthOfCoat 21 = .ok (.invokevirtual 89, 3) := by decide +kernel
theorem dX1_warmthOfCoat_24 : decode cX1_warmthOfCoat 24 = .ok (.iadd, 1) := by decide +kernel
theorem dX1_warmthOfCoat_25 : decode cX1_warmthOfCoat 25 = .ok (.istore_n 2, 1) := by decide +kernel
theorem dX1_warmthOfCoat_26 : decode cX1_warmthOfCoat 26 = .ok (.iinc 3 1, 3) := by decide +kernel
theorem dX1_warmthOfCoat_29 : decode cX1_warmthOfCoat 29 = .ok (.goto (-25), 3) := by decide +kernel
theorem dX1_warmthOfCoat_32 : decode cX1_warmthOfCoat 32 = .ok (.iload_n 2, 1) := by decide +kernel
theorem dX1_warmthOfCoat_33 : decode cX1_warmthOfCoat 33 = .ok (.ireturn, 1) := by decide +kernel
theorem dX1_harshnessOfCoat_0 : decode cX1_harshnessOfCoat 0 = .ok (.iconst 0, 1) := by decide +kernel
theorem dX1_harshnessOfCoat_1 : decode cX1_harshnessOfCoat 1 = .ok (.istore_n 2, 1) := by decide +kernel
theorem dX1_harshnessOfCoat_2 : decode cX1_harshnessOfCoat 2 = .ok (.iconst 0, 1) := by decide +kernel
theorem dX1_harshnessOfCoat_3 : decode cX1_harshnessOfCoat 3 = .ok (.istore_n 3, 1) := by decide +kernel
theorem dX1_harshnessOfCoat_4 : decode cX1_harshnessOfCoat 4 = .ok (.iload_n 3, 1) := by decide +kernel
theorem dX1_harshnessOfCoat_5 : decode cX1_harshnessOfCoat 5 = .ok (.bipush 12, 2) := by decide +kernel
theorem dX1_harshnessOfCoat_7 : decode cX1_harshnessOfCoat 7 = .ok (.if_icmp .ge 30, 3) := by decide +kernel
theorem dX1_harshnessOfCoat_10 : decode cX1_harshnessOfCoat 10 = .ok (.iload_n 2, 1) := by decide +kernel
theorem dX1_harshnessOfCoat_11 : decode cX1_harshnessOfCoat 11 = .ok (.aload_n 0, 1) := by decide +kernel
theorem dX1_harshnessOfCoat_12 : decode cX1_harshnessOfCoat 12 = .ok (.getfield 29, 3) := by decide +kernel
theorem dX1_harshnessOfCoat_15 : decode cX1_harshnessOfCoat 15 = .ok (.iload_n 1, 1) := by decide +kernel
theorem dX1_harshnessOfCoat_16 : decode cX1_harshnessOfCoat 16 = .ok (.aaload, 1) := by decide +kernel
theorem dX1_harshnessOfCoat_17 : decode cX1_harshnessOfCoat 17 = .ok (.iload_n 3, 1) := by decide +kernel
theorem dX1_harshnessOfCoat_18 : decode cX1_harshnessOfCoat 18 = .ok (.iaload, 1) := by decide +kernel
theorem dX1_harshnessOfCoat_19 : decode cX1_harshnessOfCoat 19 = .ok (.aload_n 0, 1) := by decide +kernel
theorem dX1_harshnessOfCoat_20 : decode cX1_harshnessOfCoat 20 = .ok (.getfield 18, 3) := by decide +kernel
theorem dX1_harshnessOfCoat_23 : decode cX1_harshnessOfCoat 23 = .ok (.iload_n 3, 1) := by decide +kernel
theorem dX1_harshnessOfCoat_24 : decode cX1_harshnessOfCoat 24 = .ok (.iaload, 1) := by decide +kernel
theorem dX1_harshnessOfCoat_25 : decode cX1_harshnessOfCoat 25 = .ok (.imul, 1) := by decide +kernel
theorem dX1_harshnessOfCoat_26 : decode cX1_harshnessOfCoat 26 = .ok (.bipush 100, 2) := by decide +kernel
theorem dX1_harshnessOfCoat_28 : decode cX1_harshnessOfCoat 28 = .ok (.idiv, 1) := by decide +kernel
theorem dX1_harshnessOfCoat_29 : decode cX1_harshnessOfCoat 29 = .ok (.iadd, 1) := by decide +kernel
theorem dX1_harshnessOfCoat_30 : decode cX1_harshnessOfCoat 30 = .ok (.istore_n 2, 1) := by decide +kernel
theorem dX1_harshnessOfCoat_31 : decode cX1_harshnessOfCoat 31 = .ok (.iinc 3 1, 3) := by decide +kernel
theorem dX1_harshnessOfCoat_34 : decode cX1_harshnessOfCoat 34 = .ok (.goto (-30), 3) := by decide +kernel
theorem dX1_harshnessOfCoat_37 : decode cX1_harshnessOfCoat 37 = .ok (.iload_n 2, 1) := by decide +kernel
theorem dX1_harshnessOfCoat_38 : decode cX1_harshnessOfCoat 38 = .ok (.ireturn, 1) := by decide +kernel
theorem dX1_monthsInCoat_0 : decode cX1_monthsInCoat 0 = .ok (.iconst 0, 1) := by decide +kernel
theorem dX1_monthsInCoat_1 : decode cX1_monthsInCoat 1 = .ok (.istore_n 2, 1) := by decide +kernel
theorem dX1_monthsInCoat_2 : decode cX1_monthsInCoat 2 = .ok (.iconst 0, 1) := by decide +kernel
theorem dX1_monthsInCoat_3 : decode cX1_monthsInCoat 3 = .ok (.istore_n 3, 1) := by decide +kernel
theorem dX1_monthsInCoat_4 : decode cX1_monthsInCoat 4 = .ok (.iload_n 3, 1) := by decide +kernel
theorem dX1_monthsInCoat_5 : decode cX1_monthsInCoat 5 = .ok (.bipush 12, 2) := by decide +kernel
theorem dX1_monthsInCoat_7 : decode cX1_monthsInCoat 7 = .ok (.if_icmp .ge 26, 3) := by decide +kernel
theorem dX1_monthsInCoat_10 : decode cX1_monthsInCoat 10 = .ok (.aload_n 0, 1) := by decide +kernel
theorem dX1_monthsInCoat_11 : decode cX1_monthsInCoat 11 = .ok (.getfield 29, 3) := by decide +kernel
theorem dX1_monthsInCoat_14 : decode cX1_monthsInCoat 14 = .ok (.iload_n 1, 1) := by decide +kernel
theorem dX1_monthsInCoat_15 : decode cX1_monthsInCoat 15 = .ok (.aaload, 1) := by decide +kernel
theorem dX1_monthsInCoat_16 : decode cX1_monthsInCoat 16 = .ok (.iload_n 3, 1) := by decide +kernel
theorem dX1_monthsInCoat_17 : decode cX1_monthsInCoat 17 = .ok (.iaload, 1) := by decide +kernel
theorem dX1_monthsInCoat_18 : decode cX1_monthsInCoat 18 = .ok (.ifCond .le 9, 3) := by decide +kernel
theorem dX1_monthsInCoat_21 : decode cX1_monthsInCoat 21 = .ok (.iload_n 2, 1) := by decide +kernel
theorem dX1_monthsInCoat_22 : decode cX1_monthsInCoat 22 = .ok (.iconst 1, 1) := by decide +kernel
theorem dX1_monthsInCoat_23 : decode cX1_monthsInCoat 23 = .ok (.iload_n 3, 1) := by decide +kernel
theorem dX1_monthsInCoat_24 : decode cX1_monthsInCoat 24 = .ok (.ishl, 1) := by decide +kernel
theorem dX1_monthsInCoat_25 : decode cX1_monthsInCoat 25 = .ok (.ior, 1) := by decide +kernel
theorem dX1_monthsInCoat_26 : decode cX1_monthsInCoat 26 = .ok (.istore_n 2, 1) := by decide +kernel
theorem dX1_monthsInCoat_27 : decode cX1_monthsInCoat 27 = .ok (.iinc 3 1, 3) := by decide +kernel
theorem dX1_monthsInCoat_30 : decode cX1_monthsInCoat 30 = .ok (.goto (-26), 3) := by decide +kernel
theorem dX1_monthsInCoat_33 : decode cX1_monthsInCoat 33 = .ok (.iload_n 2, 1) := by decide +kernel
theorem dX1_monthsInCoat_34 : decode cX1_monthsInCoat 34 = .ok (.ireturn, 1) := by decide +kernel
theorem dX1_coatsWithWool_0 : decode cX1_coatsWithWool 0 = .ok (.iconst 0, 1) := by decide +kernel
theorem dX1_coatsWithWool_1 : decode cX1_coatsWithWool 1 = .ok (.istore_n 1, 1) := by decide +kernel
theorem dX1_coatsWithWool_2 : decode cX1_coatsWithWool 2 = .ok (.iconst 0, 1) := by decide +kernel
theorem dX1_coatsWithWool_3 : decode cX1_coatsWithWool 3 = .ok (.istore_n 2, 1) := by decide +kernel
theorem dX1_coatsWithWool_4 : decode cX1_coatsWithWool 4 = .ok (.iload_n 2, 1) := by decide +kernel
theorem dX1_coatsWithWool_5 : decode cX1_coatsWithWool 5 = .ok (.iconst 4, 1) := by decide +kernel
theorem dX1_coatsWithWool_6 : decode cX1_coatsWithWool 6 = .ok (.if_icmp .ge 20, 3) := by decide +kernel
theorem dX1_coatsWithWool_9 : decode cX1_coatsWithWool 9 = .ok (.aload_n 0, 1) := by decide +kernel
theorem dX1_coatsWithWool_10 : decode cX1_coatsWithWool 10 = .ok (.iload_n 2, 1) := by decide +kernel
theorem dX1_coatsWithWool_11 : decode cX1_coatsWithWool 11 = .ok (.invokevirtual 92, 3) := by decide +kernel
theorem dX1_coatsWithWool_14 : decode cX1_coatsWithWool 14 = .ok (.ifCond .eq 6, 3) := by decide +kernel
theorem dX1_coatsWithWool_17 : decode cX1_coatsWithWool 17 = .ok (.iinc 1 1, 3) := by decide +kernel
theorem dX1_coatsWithWool_20 : decode cX1_coatsWithWool 20 = .ok (.iinc 2 1, 3) := by decide +kernel
theorem dX1_coatsWithWool_23 : decode cX1_coatsWithWool 23 = .ok (.goto (-19), 3) := by decide +kernel
theorem dX1_coatsWithWool_26 : decode cX1_coatsWithWool 26 = .ok (.iload_n 1, 1) := by decide +kernel
theorem dX1_coatsWithWool_27 : decode cX1_coatsWithWool 27 = .ok (.ireturn, 1) := by decide +kernel
theorem dX1_woolOnAll_0 : decode cX1_woolOnAll 0 = .ok (.iconst 0, 1) := by decide +kernel
theorem dX1_woolOnAll_1 : decode cX1_woolOnAll 1 = .ok (.istore_n 1, 1) := by decide +kernel
theorem dX1_woolOnAll_2 : decode cX1_woolOnAll 2 = .ok (.iconst 0, 1) := by decide +kernel
theorem dX1_woolOnAll_3 : decode cX1_woolOnAll 3 = .ok (.istore_n 2, 1) := by decide +kernel
theorem dX1_woolOnAll_4 : decode cX1_woolOnAll 4 = .ok (.iload_n 2, 1) := by decide +kernel
theorem dX1_woolOnAll_5 : decode cX1_woolOnAll 5 = .ok (.aload_n 0, 1) := by decide +kernel
theorem dX1_woolOnAll_6 : decode cX1_woolOnAll 6 = .ok (.getfield 37, 3) := by decide +kernel
theorem dX1_woolOnAll_9 : decode cX1_woolOnAll 9 = .ok (.if_icmp .ge 21, 3) := by decide +kernel
theorem dX1_woolOnAll_12 : decode cX1_woolOnAll 12 = .ok (.iload_n 1, 1) := by decide +kernel
theorem dX1_woolOnAll_13 : decode cX1_woolOnAll 13 = .ok (.aload_n 0, 1) := by decide +kernel
theorem dX1_woolOnAll_14 : decode cX1_woolOnAll 14 = .ok (.getfield 23, 3) := by decide +kernel
theorem dX1_woolOnAll_17 : decode cX1_woolOnAll 17 = .ok (.iload_n 2, 1) := by decide +kernel
theorem dX1_woolOnAll_18 : decode cX1_woolOnAll 18 = .ok (.aaload, 1) := by decide +kernel
theorem dX1_woolOnAll_19 : decode cX1_woolOnAll 19 = .ok (.getfield 96, 3) := by decide +kernel
theorem dX1_woolOnAll_22 : decode cX1_woolOnAll 22 = .ok (.iadd, 1) := by decide +kernel
theorem dX1_woolOnAll_23 : decode cX1_woolOnAll 23 = .ok (.istore_n 1, 1) := by decide +kernel
theorem dX1_woolOnAll_24 : decode cX1_woolOnAll 24 = .ok (.iinc 2 1, 3) := by decide +kernel
theorem dX1_woolOnAll_27 : decode cX1_woolOnAll 27 = .ok (.goto (-23), 3) := by decide +kernel
theorem dX1_woolOnAll_30 : decode cX1_woolOnAll 30 = .ok (.iload_n 1, 1) := by decide +kernel
theorem dX1_woolOnAll_31 : decode cX1_woolOnAll 31 = .ok (.ireturn, 1) := by decide +kernel
theorem dX1_frightOfAll_0 : decode cX1_frightOfAll 0 = .ok (.iconst 0, 1) := by decide +kernel
theorem dX1_frightOfAll_1 : decode cX1_frightOfAll 1 = .ok (.istore_n 1, 1) := by decide +kernel
theorem dX1_frightOfAll_2 : decode cX1_frightOfAll 2 = .ok (.iconst 0, 1) := by decide +kernel
theorem dX1_frightOfAll_3 : decode cX1_frightOfAll 3 = .ok (.istore_n 2, 1) := by decide +kernel
theorem dX1_frightOfAll_4 : decode cX1_frightOfAll 4 = .ok (.iload_n 2, 1) := by decide +kernel
theorem dX1_frightOfAll_5 : decode cX1_frightOfAll 5 = .ok (.aload_n 0, 1) := by decide +kernel
theorem dX1_frightOfAll_6 : decode cX1_frightOfAll 6 = .ok (.getfield 37, 3) := by decide +kernel
theorem dX1_frightOfAll_9 : decode cX1_frightOfAll 9 = .ok (.if_icmp .ge 21, 3) := by decide +kernel
theorem dX1_frightOfAll_12 : decode cX1_frightOfAll 12 = .ok (.iload_n 1, 1) := by decide +kernel
theorem dX1_frightOfAll_13 : decode cX1_frightOfAll 13 = .ok (.aload_n 0, 1) := by decide +kernel
theorem dX1_frightOfAll_14 : decode cX1_frightOfAll 14 = .ok (.getfield 23, 3) := by decide +kernel
theorem dX1_frightOfAll_17 : decode cX1_frightOfAll 17 = .ok (.iload_n 2, 1) := by decide +kernel
theorem dX1_frightOfAll_18 : decode cX1_frightOfAll 18 = .ok (.aaload, 1) := by decide +kernel
theorem dX1_frightOfAll_19 : decode cX1_frightOfAll 19 = .ok (.getfield 60, 3) := by decide +kernel
theorem dX1_frightOfAll_22 : decode cX1_frightOfAll 22 = .ok (.iadd, 1) := by decide +kernel
theorem dX1_frightOfAll_23 : decode cX1_frightOfAll 23 = .ok (.istore_n 1, 1) := by decide +kernel
theorem dX1_frightOfAll_24 : decode cX1_frightOfAll 24 = .ok (.iinc 2 1, 3) := by decide +kernel
theorem dX1_frightOfAll_27 : decode cX1_frightOfAll 27 = .ok (.goto (-23), 3) := by decide +kernel
theorem dX1_frightOfAll_30 : decode cX1_frightOfAll 30 = .ok (.iload_n 1, 1) := by decide +kernel
theorem dX1_frightOfAll_31 : decode cX1_frightOfAll 31 = .ok (.ireturn, 1) := by decide +kernel
theorem dX2_init_0 : decode cX2_init 0 = .ok (.aload_n 0, 1) := by decide +kernel
theorem dX2_init_1 : decode cX2_init 1 = .ok (.invokespecial 3, 3) := by decide +kernel
theorem dX2_init_4 : decode cX2_init 4 = .ok (.aload_n 0, 1) := by decide +kernel
theorem dX2_init_5 : decode cX2_init 5 = .ok (.bipush 40, 2) := by decide +kernel
theorem dX2_init_7 : decode cX2_init 7 = .ok (.newarray .long, 2) := by decide +kernel
theorem dX2_init_9 : decode cX2_init 9 = .ok (.putfield 9, 3) := by decide +kernel
theorem dX2_init_12 : decode cX2_init 12 = .ok (.return_, 1) := by decide +kernel
theorem dX2_isMissing_0 : decode cX2_isMissing 0 = .ok (.aload_n 0, 1) := by decide +kernel
theorem dX2_isMissing_1 : decode cX2_isMissing 1 = .ok (.getfield 15, 3) := by decide +kernel
theorem dX2_isMissing_4 : decode cX2_isMissing 4 = .ok (.ifCond .ne 7, 3) := by decide +kernel
theorem dX2_isMissing_7 : decode cX2_isMissing 7 = .ok (.iconst 1, 1) := by decide +kernel
theorem dX2_isMissing_8 : decode cX2_isMissing 8 = .ok (.goto 4, 3) := by decide +kernel
theorem dX2_isMissing_11 : decode cX2_isMissing 11 = .ok (.iconst 0, 1) := by decide +kernel
theorem dX2_isMissing_12 : decode cX2_isMissing 12 = .ok (.ireturn, 1) := by decide +kernel
theorem dX2_lay_0 : decode cX2_lay 0 = .ok (.aload_n 0, 1) := by decide +kernel
theorem dX2_lay_1 : decode cX2_lay 1 = .ok (.iload_n 1, 1) := by decide +kernel
theorem dX2_lay_2 : decode cX2_lay 2 = .ok (.putfield 15, 3) := by decide +kernel
theorem dX2_lay_5 : decode cX2_lay 5 = .ok (.aload_n 0, 1) := by decide +kernel
theorem dX2_lay_6 : decode cX2_lay 6 = .ok (.iload_n 2, 1) := by decide +kernel
theorem dX2_lay_7 : decode cX2_lay 7 = .ok (.putfield 19, 3) := by decide +kernel
theorem dX2_lay_10 : decode cX2_lay 10 = .ok (.aload_n 0, 1) := by decide +kernel
theorem dX2_lay_11 : decode cX2_lay 11 = .ok (.getfield 9, 3) := by decide +kernel
theorem dX2_lay_14 : decode cX2_lay 14 = .ok (.lconst 0, 1) := by decide +kernel
theorem dX2_lay_15 : decode cX2_lay 15 = .ok (.invokestatic 22, 3) := by decide +kernel
theorem dX2_lay_18 : decode cX2_lay 18 = .ok (.return_, 1) := by decide +kernel
theorem dX2_has_0 : decode cX2_has 0 = .ok (.iload_n 1, 1) := by decide +kernel
theorem dX2_has_1 : decode cX2_has 1 = .ok (.ifCond .lt 29, 3) := by decide +kernel
theorem dX2_has_4 : decode cX2_has 4 = .ok (.iload_n 2, 1) := by decide +kernel
theorem dX2_has_5 : decode cX2_has 5 = .ok (.ifCond .lt 25, 3) := by decide +kernel
theorem dX2_has_8 : decode cX2_has 8 = .ok (.iload_n 1, 1) := by decide +kernel
theorem dX2_has_9 : decode cX2_has 9 = .ok (.aload_n 0, 1) := by decide +kernel
theorem dX2_has_10 : decode cX2_has 10 = .ok (.getfield 19, 3) := by decide +kernel
theorem dX2_has_13 : decode cX2_has 13 = .ok (.if_icmp .gt 17, 3) := by decide +kernel
theorem dX2_has_16 : decode cX2_has 16 = .ok (.iload_n 2, 1) := by decide +kernel
theorem dX2_has_17 : decode cX2_has 17 = .ok (.aload_n 0, 1) := by decide +kernel
theorem dX2_has_18 : decode cX2_has 18 = .ok (.getfield 19, 3) := by decide +kernel
theorem dX2_has_21 : decode cX2_has 21 = .ok (.iload_n 1, 1) := by decide +kernel
theorem dX2_has_22 : decode cX2_has 22 = .ok (.isub, 1) := by decide +kernel
theorem dX2_has_23 : decode cX2_has 23 = .ok (.if_icmp .gt 7, 3) := by decide +kernel
theorem dX2_has_26 : decode cX2_has 26 = .ok (.iconst 1, 1) := by decide +kernel
theorem dX2_has_27 : decode cX2_has 27 = .ok (.goto 4, 3) := by decide +kernel
theorem dX2_has_30 : decode cX2_has 30 = .ok (.iconst 0, 1) := by decide +kernel
theorem dX2_has_31 : decode cX2_has 31 = .ok (.ireturn, 1) := by decide +kernel
theorem dX2_put_0 : decode cX2_put 0 = .ok (.aload_n 0, 1) := by decide +kernel
theorem dX2_put_1 : decode cX2_put 1 = .ok (.getfield 15, 3) := by decide +kernel
theorem dX2_put_4 : decode cX2_put 4 = .ok (.bipush 8, 2) := by decide +kernel
theorem dX2_put_6 : decode cX2_put 6 = .ok (.if_icmp .ne 16, 3) := by decide +kernel
theorem dX2_put_9 : decode cX2_put 9 = .ok (.aload_n 0, 1) := by decide +kernel
theorem dX2_put_10 : decode cX2_put 10 = .ok (.getfield 9, 3) := by decide +kernel
theorem dX2_put_13 : decode cX2_put 13 = .ok (.iload_n 1, 1) := by decide +kernel
theorem dX2_put_14 : decode cX2_put 14 = .ok (.lload_n 2, 1) := by decide +kernel
theorem dX2_put_15 : decode cX2_put 15 = .ok (.l2i, 1) := by decide +kernel
theorem dX2_put_16 : decode cX2_put 16 = .ok (.i2b, 1) := by decide +kernel
theorem dX2_put_17 : decode cX2_put 17 = .ok (.i2l, 1) := by decide +kernel
theorem dX2_put_18 : decode cX2_put 18 = .ok (.lastore, 1) := by decide +kernel
theorem dX2_put_19 : decode cX2_put 19 = .ok (.goto 32, 3) := by decide +kernel
theorem dX2_put_22 : decode cX2_put 22 = .ok (.aload_n 0, 1) := by decide +kernel
theorem dX2_put_23 : decode cX2_put 23 = .ok (.getfield 15, 3) := by decide +kernel
theorem dX2_put_26 : decode cX2_put 26 = .ok (.bipush 16, 2) := by decide +kernel
theorem dX2_put_28 : decode cX2_put 28 = .ok (.if_icmp .ne 16, 3) := by decide +kernel
theorem dX2_put_31 : decode cX2_put 31 = .ok (.aload_n 0, 1) := by decide +kernel
theorem dX2_put_32 : decode cX2_put 32 = .ok (.getfield 9, 3) := by decide +kernel
theorem dX2_put_35 : decode cX2_put 35 = .ok (.iload_n 1, 1) := by decide +kernel
theorem dX2_put_36 : decode cX2_put 36 = .ok (.lload_n 2, 1) := by decide +kernel
theorem dX2_put_37 : decode cX2_put 37 = .ok (.l2i, 1) := by decide +kernel
theorem dX2_put_38 : decode cX2_put 38 = .ok (.i2s, 1) := by decide +kernel
theorem dX2_put_39 : decode cX2_put 39 = .ok (.i2l, 1) := by decide +kernel
theorem dX2_put_40 : decode cX2_put 40 = .ok (.lastore, 1) := by decide +kernel
theorem dX2_put_41 : decode cX2_put 41 = .ok (.goto 10, 3) := by decide +kernel
theorem dX2_put_44 : decode cX2_put 44 = .ok (.aload_n 0, 1) := by decide +kernel
theorem dX2_put_45 : decode cX2_put 45 = .ok (.getfield 9, 3) := by decide +kernel
theorem dX2_put_48 : decode cX2_put 48 = .ok (.iload_n 1, 1) := by decide +kernel
theorem dX2_put_49 : decode cX2_put 49 = .ok (.lload_n 2, 1) := by decide +kernel
theorem dX2_put_50 : decode cX2_put 50 = .ok (.lastore, 1) := by decide +kernel
theorem dX2_put_51 : decode cX2_put 51 = .ok (.return_, 1) := by decide +kernel
theorem dX3_init_0 : decode cX3_init 0 = .ok (.aload_n 0, 1) := by decide +kernel
theorem dX3_init_1 : decode cX3_init 1 = .ok (.invokespecial 3, 3) := by decide +kernel
theorem dX3_init_4 : decode cX3_init 4 = .ok (.aload_n 0, 1) := by decide +kernel
theorem dX3_init_5 : decode cX3_init 5 = .ok (.bipush 120, 2) := by decide +kernel
theorem dX3_init_7 : decode cX3_init 7 = .ok (.newarray .byte, 2) := by decide +kernel
theorem dX3_init_9 : decode cX3_init 9 = .ok (.putfield 9, 3) := by decide +kernel
theorem dX3_init_12 : decode cX3_init 12 = .ok (.return_, 1) := by decide +kernel
theorem dX3_add_0 : decode cX3_add 0 = .ok (.aload_n 0, 1) := by decide +kernel
theorem dX3_add_1 : decode cX3_add 1 = .ok (.getfield 15, 3) := by decide +kernel
theorem dX3_add_4 : decode cX3_add 4 = .ok (.bipush 120, 2) := by decide +kernel
theorem dX3_add_6 : decode cX3_add 6 = .ok (.if_icmp .ge 23, 3) := by decide +kernel
theorem dX3_add_9 : decode cX3_add 9 = .ok (.aload_n 0, 1) := by decide +kernel
theorem dX3_add_10 : decode cX3_add 10 = .ok (.getfield 9, 3) := by decide +kernel
theorem dX3_add_13 : decode cX3_add 13 = .ok (.aload_n 0, 1) := by decide +kernel
theorem dX3_add_14 : decode cX3_add 14 = .ok (.getfield 15, 3) := by decide +kernel
theorem dX3_add_17 : decode cX3_add 17 = .ok (.iload_n 1, 1) := by decide +kernel
theorem dX3_add_18 : decode cX3_add 18 = .ok (.bastore, 1) := by decide +kernel
theorem dX3_add_19 : decode cX3_add 19 = .ok (.aload_n 0, 1) := by decide +kernel
theorem dX3_add_20 : decode cX3_add 20 = .ok (.dup, 1) := by decide +kernel
theorem dX3_add_21 : decode cX3_add 21 = .ok (.getfield 15, 3) := by decide +kernel
theorem dX3_add_24 : decode cX3_add 24 = .ok (.iconst 1, 1) := by decide +kernel
theorem dX3_add_25 : decode cX3_add 25 = .ok (.iadd, 1) := by decide +kernel
theorem dX3_add_26 : decode cX3_add 26 = .ok (.putfield 15, 3) := by decide +kernel
theorem dX3_add_29 : decode cX3_add 29 = .ok (.return_, 1) := by decide +kernel
theorem dX3_applyTo_0 : decode cX3_applyTo 0 = .ok (.aload_n 0, 1) := by decide +kernel
theorem dX3_applyTo_1 : decode cX3_applyTo 1 = .ok (.iconst 0, 1) := by decide +kernel
theorem dX3_applyTo_2 : decode cX3_applyTo 2 = .ok (.putfield 19, 3) := by decide +kernel
theorem dX3_applyTo_5 : decode cX3_applyTo 5 = .ok (.aload_n 0, 1) := by decide +kernel
theorem dX3_applyTo_6 : decode cX3_applyTo 6 = .ok (.invokevirtual 22, 3) := by decide +kernel
theorem dX3_applyTo_9 : decode cX3_applyTo 9 = .ok (.iconst 1, 1) := by decide +kernel
theorem dX3_applyTo_10 : decode cX3_applyTo 10 = .ok (.istore_n 2, 1) := by decide +kernel
theorem dX3_applyTo_11 : decode cX3_applyTo 11 = .ok (.iload_n 2, 1) := by decide +kernel
theorem dX3_applyTo_12 : decode cX3_applyTo 12 = .ok (.bipush 120, 2) := by decide +kernel
theorem dX3_applyTo_14 : decode cX3_applyTo 14 = .ok (.if_icmp .gt 52, 3) := by decide +kernel
theorem dX3_applyTo_17 : decode cX3_applyTo 17 = .ok (.aload_n 0, 1) := by decide +kernel
theorem dX3_applyTo_18 : decode cX3_applyTo 18 = .ok (.aload_n 1, 1) := by decide +kernel
theorem dX3_applyTo_19 : decode cX3_applyTo 19 = .ok (.invokevirtual 25, 3) := by decide +kernel
theorem dX3_applyTo_22 : decode cX3_applyTo 22 = .ok (.ifCond .ne 10, 3) := by decide +kernel
theorem dX3_applyTo_25 : decode cX3_applyTo 25 = .ok (.iconst (-1), 1) := by decide +kernel
theorem dX3_applyTo_26 : decode cX3_applyTo 26 = .ok (.aload_n 0, 1) := by decide +kernel
theorem dX3_applyTo_27 : decode cX3_applyTo 27 = .ok (.getfield 29, 3) := by decide +kernel
theorem dX3_applyTo_30 : decode cX3_applyTo 30 = .ok (.isub, 1) := by decide +kernel
theorem dX3_applyTo_31 : decode cX3_applyTo 31 = .ok (.ireturn, 1) := by decide +kernel
theorem dX3_applyTo_32 : decode cX3_applyTo 32 = .ok (.aload_n 0, 1) := by decide +kernel
theorem dX3_applyTo_33 : decode cX3_applyTo 33 = .ok (.getfield 32, 3) := by decide +kernel
theorem dX3_applyTo_36 : decode cX3_applyTo 36 = .ok (.ifCond .ne 5, 3) := by decide +kernel
theorem dX3_applyTo_39 : decode cX3_applyTo 39 = .ok (.iload_n 2, 1) := by decide +kernel
theorem dX3_applyTo_40 : decode cX3_applyTo 40 = .ok (.ireturn, 1) := by decide +kernel
theorem dX3_applyTo_41 : decode cX3_applyTo 41 = .ok (.aload_n 0, 1) := by decide +kernel
theorem dX3_applyTo_42 : decode cX3_applyTo 42 = .ok (.getfield 32, 3) := by decide +kernel
theorem dX3_applyTo_45 : decode cX3_applyTo 45 = .ok (.iconst 3, 1) := by decide +kernel
theorem dX3_applyTo_46 : decode cX3_applyTo 46 = .ok (.if_icmp .eq 10, 3) := by decide +kernel
theorem dX3_applyTo_49 : decode cX3_applyTo 49 = .ok (.iconst (-1), 1) := by decide +kernel
theorem dX3_applyTo_50 : decode cX3_applyTo 50 = .ok (.aload_n 0, 1) := by decide +kernel
theorem dX3_applyTo_51 : decode cX3_applyTo 51 = .ok (.getfield 29, 3) := by decide +kernel
theorem dX3_applyTo_54 : decode cX3_applyTo 54 = .ok (.isub, 1) := by decide +kernel
theorem dX3_applyTo_55 : decode cX3_applyTo 55 = .ok (.ireturn, 1) := by decide +kernel
theorem dX3_applyTo_56 : decode cX3_applyTo 56 = .ok (.aload_n 0, 1) := by decide +kernel
theorem dX3_applyTo_57 : decode cX3_applyTo 57 = .ok (.invokevirtual 22, 3) := by decide +kernel
theorem dX3_applyTo_60 : decode cX3_applyTo 60 = .ok (.iinc 2 1, 3) := by decide +kernel
theorem dX3_applyTo_63 : decode cX3_applyTo 63 = .ok (.goto (-52), 3) := by decide +kernel
theorem dX3_applyTo_66 : decode cX3_applyTo 66 = .ok (.iconst (-1), 1) := by decide +kernel
theorem dX3_applyTo_67 : decode cX3_applyTo 67 = .ok (.aload_n 0, 1) := by decide +kernel
theorem dX3_applyTo_68 : decode cX3_applyTo 68 = .ok (.getfield 29, 3) := by decide +kernel
theorem dX3_applyTo_71 : decode cX3_applyTo 71 = .ok (.isub, 1) := by decide +kernel
theorem dX3_applyTo_72 : decode cX3_applyTo 72 = .ok (.ireturn, 1) := by decide +kernel
theorem dX3_step_0 : decode cX3_step 0 = .ok (.aload_n 0, 1) := by decide +kernel
theorem dX3_step_1 : decode cX3_step 1 = .ok (.aload_n 0, 1) := by decide +kernel
theorem dX3_step_2 : decode cX3_step 2 = .ok (.getfield 19, 3) := by decide +kernel
theorem dX3_step_5 : decode cX3_step 5 = .ok (.putfield 29, 3) := by decide +kernel
theorem dX3_step_8 : decode cX3_step 8 = .ok (.aload_n 0, 1) := by decide +kernel
theorem dX3_step_9 : decode cX3_step 9 = .ok (.getfield 29, 3) := by decide +kernel
theorem dX3_step_12 : decode cX3_step 12 = .ok (.aload_n 0, 1) := by decide +kernel
theorem dX3_step_13 : decode cX3_step 13 = .ok (.getfield 15, 3) := by decide +kernel
theorem dX3_step_16 : decode cX3_step 16 = .ok (.if_icmp .ge 30, 3) := by decide +kernel
theorem dX3_step_19 : decode cX3_step 19 = .ok (.aload_n 0, 1) := by decide +kernel
theorem dX3_step_20 : decode cX3_step 20 = .ok (.getfield 9, 3) := by decide +kernel
theorem dX3_step_23 : decode cX3_step 23 = .ok (.aload_n 0, 1) := by decide +kernel
theorem dX3_step_24 : decode cX3_step 24 = .ok (.getfield 29, 3) := by decide +kernel
theorem dX3_step_27 : decode cX3_step 27 = .ok (.baload, 1) := by decide +kernel
theorem dX3_step_28 : decode cX3_step 28 = .ok (.bipush 32, 2) := by decide +kernel
theorem dX3_step_30 : decode cX3_step 30 = .ok (.if_icmp .ne 16, 3) := by decide +kernel
theorem dX3_step_33 : decode cX3_step 33 = .ok (.aload_n 0, 1) := by decide +kernel
theorem dX3_step_34 : decode cX3_step 34 = .ok (.dup, 1) := by decide +kernel
theorem dX3_step_35 : decode cX3_step 35 = .ok (.getfield 29, 3) := by decide +kernel
theorem dX3_step_38 : decode cX3_step 38 = .ok (.iconst 1, 1) := by decide +kernel
theorem dX3_step_39 : decode cX3_step 39 = .ok (.iadd, 1) := by decide +kernel
theorem dX3_step_40 : decode cX3_step 40 = .ok (.putfield 29, 3) := by decide +kernel
theorem dX3_step_43 : decode cX3_step 43 = .ok (.goto (-35), 3) := by decide +kernel
theorem dX3_step_46 : decode cX3_step 46 = .ok (.aload_n 0, 1) := by decide +kernel
theorem dX3_step_47 : decode cX3_step 47 = .ok (.aload_n 0, 1) := by decide +kernel
theorem dX3_step_48 : decode cX3_step 48 = .ok (.getfield 29, 3) := by decide +kernel
theorem dX3_step_51 : decode cX3_step 51 = .ok (.putfield 19, 3) := by decide +kernel
theorem dX3_step_54 : decode cX3_step 54 = .ok (.aload_n 0, 1) := by decide +kernel
theorem dX3_step_55 : decode cX3_step 55 = .ok (.getfield 29, 3) := by decide +kernel
theorem dX3_step_58 : decode cX3_step 58 = .ok (.aload_n 0, 1) := by decide +kernel
theorem dX3_step_59 : decode cX3_step 59 = .ok (.getfield 15, 3) := by decide +kernel
theorem dX3_step_62 : decode cX3_step 62 = .ok (.if_icmp .lt 11, 3) := by decide +kernel
theorem dX3_step_65 : decode cX3_step 65 = .ok (.aload_n 0, 1) := by decide +kernel
theorem dX3_step_66 : decode cX3_step 66 = .ok (.iconst 0, 1) := by decide +kernel
theorem dX3_step_67 : decode cX3_step 67 = .ok (.putfield 32, 3) := by decide +kernel
theorem dX3_step_70 : decode cX3_step 70 = .ok (.goto 189, 3) := by decide +kernel
theorem dX3_step_73 : decode cX3_step 73 = .ok (.aload_n 0, 1) := by decide +kernel
theorem dX3_step_74 : decode cX3_step 74 = .ok (.getfield 9, 3) := by decide +kernel
theorem dX3_step_77 : decode cX3_step 77 = .ok (.aload_n 0, 1) := by decide +kernel
theorem dX3_step_78 : decode cX3_step 78 = .ok (.getfield 29, 3) := by decide +kernel
theorem dX3_step_81 : decode cX3_step 81 = .ok (.baload, 1) := by decide +kernel
theorem dX3_step_82 : decode cX3_step 82 = .ok (.invokestatic 35, 3) := by decide +kernel
theorem dX3_step_85 : decode cX3_step 85 = .ok (.ifCond .eq 47, 3) := by decide +kernel
theorem dX3_step_88 : decode cX3_step 88 = .ok (.aload_n 0, 1) := by decide +kernel
theorem dX3_step_89 : decode cX3_step 89 = .ok (.iconst 1, 1) := by decide +kernel
theorem dX3_step_90 : decode cX3_step 90 = .ok (.putfield 32, 3) := by decide +kernel
theorem dX3_step_93 : decode cX3_step 93 = .ok (.aload_n 0, 1) := by decide +kernel
theorem dX3_step_94 : decode cX3_step 94 = .ok (.getfield 19, 3) := by decide +kernel
theorem dX3_step_97 : decode cX3_step 97 = .ok (.aload_n 0, 1) := by decide +kernel
theorem dX3_step_98 : decode cX3_step 98 = .ok (.getfield 15, 3) := by decide +kernel
theorem dX3_step_101 : decode cX3_step 101 = .ok (.if_icmp .ge 158, 3) := by decide +kernel
theorem dX3_step_104 : decode cX3_step 104 = .ok (.aload_n 0, 1) := by decide +kernel
theorem dX3_step_105 : decode cX3_step 105 = .ok (.getfield 9, 3) := by decide +kernel
theorem dX3_step_108 : decode cX3_step 108 = .ok (.aload_n 0, 1) := by decide +kernel
theorem dX3_step_109 : decode cX3_step 109 = .ok (.getfield 19, 3) := by decide +kernel
theorem dX3_step_112 : decode cX3_step 112 = .ok (.baload, 1) := by decide +kernel
theorem dX3_step_113 : decode cX3_step 113 = .ok (.invokestatic 35, 3) := by decide +kernel
theorem dX3_step_116 : decode cX3_step 116 = .ok (.ifCond .eq 143, 3) := by decide +kernel
theorem dX3_step_119 : decode cX3_step 119 = .ok (.aload_n 0, 1) := by decide +kernel
theorem dX3_step_120 : decode cX3_step 120 = .ok (.dup, 1) := by decide +kernel
theorem dX3_step_121 : decode cX3_step 121 = .ok (.getfield 19, 3) := by decide +kernel
theorem dX3_step_124 : decode cX3_step 124 = .ok (.iconst 1, 1) := by decide +kernel
theorem dX3_step_125 : decode cX3_step 125 = .ok (.iadd, 1) := by decide +kernel
theorem dX3_step_126 : decode cX3_step 126 = .ok (.putfield 19, 3) := by decide +kernel
theorem dX3_step_129 : decode cX3_step 129 = .ok (.goto (-36), 3) := by decide +kernel
theorem dX3_step_132 : decode cX3_step 132 = .ok (.aload_n 0, 1) := by decide +kernel
theorem dX3_step_133 : decode cX3_step 133 = .ok (.getfield 9, 3) := by decide +kernel
theorem dX3_step_136 : decode cX3_step 136 = .ok (.aload_n 0, 1) := by decide +kernel
theorem dX3_step_137 : decode cX3_step 137 = .ok (.getfield 29, 3) := by decide +kernel
theorem dX3_step_140 : decode cX3_step 140 = .ok (.baload, 1) := by decide +kernel
theorem dX3_step_141 : decode cX3_step 141 = .ok (.invokestatic 39, 3) := by decide +kernel
theorem dX3_step_144 : decode cX3_step 144 = .ok (.ifCond .eq 82, 3) := by decide +kernel
theorem dX3_step_147 : decode cX3_step 147 = .ok (.aload_n 0, 1) := by decide +kernel
theorem dX3_step_148 : decode cX3_step 148 = .ok (.iconst 2, 1) := by decide +kernel
theorem dX3_step_149 : decode cX3_step 149 = .ok (.putfield 32, 3) := by decide +kernel
theorem dX3_step_152 : decode cX3_step 152 = .ok (.aload_n 0, 1) := by decide +kernel
theorem dX3_step_153 : decode cX3_step 153 = .ok (.iconst 0, 1) := by decide +kernel
theorem dX3_step_154 : decode cX3_step 154 = .ok (.putfield 42, 3) := by decide +kernel
theorem dX3_step_157 : decode cX3_step 157 = .ok (.aload_n 0, 1) := by decide +kernel
theorem dX3_step_158 : decode cX3_step 158 = .ok (.getfield 19, 3) := by decide +kernel
theorem dX3_step_161 : decode cX3_step 161 = .ok (.aload_n 0, 1) := by decide +kernel
theorem dX3_step_162 : decode cX3_step 162 = .ok (.getfield 15, 3) := by decide +kernel
theorem dX3_step_165 : decode cX3_step 165 = .ok (.if_icmp .ge 94, 3) := by decide +kernel
theorem dX3_step_168 : decode cX3_step 168 = .ok (.aload_n 0, 1) := by decide +kernel
theorem dX3_step_169 : decode cX3_step 169 = .ok (.getfield 9, 3) := by decide +kernel
theorem dX3_step_172 : decode cX3_step 172 = .ok (.aload_n 0, 1) := by decide +kernel
theorem dX3_step_173 : decode cX3_step 173 = .ok (.getfield 19, 3) := by decide +kernel
theorem dX3_step_176 : decode cX3_step 176 = .ok (.baload, 1) := by decide +kernel
theorem dX3_step_177 : decode cX3_step 177 = .ok (.invokestatic 39, 3) := by decide +kernel
theorem dX3_step_180 : decode cX3_step 180 = .ok (.ifCond .eq 79, 3) := by decide +kernel
theorem dX3_step_183 : decode cX3_step 183 = .ok (.aload_n 0, 1) := by decide +kernel
theorem dX3_step_184 : decode cX3_step 184 = .ok (.sipush 10000, 3) := by decide +kernel
theorem dX3_step_187 : decode cX3_step 187 = .ok (.bipush 10, 2) := by decide +kernel
theorem dX3_step_189 : decode cX3_step 189 = .ok (.aload_n 0, 1) := by decide +kernel
theorem dX3_step_190 : decode cX3_step 190 = .ok (.getfield 42, 3) := by decide +kernel
theorem dX3_step_193 : decode cX3_step 193 = .ok (.imul, 1) := by decide +kernel
theorem dX3_step_194 : decode cX3_step 194 = .ok (.aload_n 0, 1) := by decide +kernel
theorem dX3_step_195 : decode cX3_step 195 = .ok (.getfield 9, 3) := by decide +kernel
theorem dX3_step_198 : decode cX3_step 198 = .ok (.aload_n 0, 1) := by decide +kernel
theorem dX3_step_199 : decode cX3_step 199 = .ok (.getfield 19, 3) := by decide +kernel
theorem dX3_step_202 : decode cX3_step 202 = .ok (.baload, 1) := by decide +kernel
theorem dX3_step_203 : decode cX3_step 203 = .ok (.iadd, 1) := by decide +kernel
theorem dX3_step_204 : decode cX3_step 204 = .ok (.bipush 48, 2) := by decide +kernel
theorem dX3_step_206 : decode cX3_step 206 = .ok (.isub, 1) := by decide +kernel
theorem dX3_step_207 : decode cX3_step 207 = .ok (.invokestatic 45, 3) := by decide +kernel
theorem dX3_step_210 : decode cX3_step 210 = .ok (.putfield 42, 3) := by decide +kernel
theorem dX3_step_213 : decode cX3_step 213 = .ok (.aload_n 0, 1) := by decide +kernel
theorem dX3_step_214 : decode cX3_step 214 = .ok (.dup, 1) := by decide +kernel
theorem dX3_step_215 : decode cX3_step 215 = .ok (.getfield 19, 3) := by decide +kernel
theorem dX3_step_218 : decode cX3_step 218 = .ok (.iconst 1, 1) := by decide +kernel
theorem dX3_step_219 : decode cX3_step 219 = .ok (.iadd, 1) := by decide +kernel
theorem dX3_step_220 : decode cX3_step 220 = .ok (.putfield 19, 3) := by decide +kernel
theorem dX3_step_223 : decode cX3_step 223 = .ok (.goto (-66), 3) := by decide +kernel
theorem dX3_step_226 : decode cX3_step 226 = .ok (.aload_n 0, 1) := by decide +kernel
theorem dX3_step_227 : decode cX3_step 227 = .ok (.aload_n 0, 1) := by decide +kernel
theorem dX3_step_228 : decode cX3_step 228 = .ok (.getfield 9, 3) := by decide +kernel
theorem dX3_step_231 : decode cX3_step 231 = .ok (.aload_n 0, 1) := by decide +kernel
theorem dX3_step_232 : decode cX3_step 232 = .ok (.getfield 29, 3) := by decide +kernel
theorem dX3_step_235 : decode cX3_step 235 = .ok (.baload, 1) := by decide +kernel
theorem dX3_step_236 : decode cX3_step 236 = .ok (.bipush 59, 2) := by decide +kernel
theorem dX3_step_238 : decode cX3_step 238 = .ok (.if_icmp .ne 7, 3) := by decide +kernel
theorem dX3_step_241 : decode cX3_step 241 = .ok (.iconst 3, 1) := by decide +kernel
theorem dX3_step_242 : decode cX3_step 242 = .ok (.goto 4, 3) := by decide +kernel
theorem dX3_step_245 : decode cX3_step 245 = .ok (.iconst 4, 1) := by decide +kernel
theorem dX3_step_246 : decode cX3_step 246 = .ok (.putfield 32, 3) := by decide +kernel
theorem dX3_step_249 : decode cX3_step 249 = .ok (.aload_n 0, 1) := by decide +kernel
theorem dX3_step_250 : decode cX3_step 250 = .ok (.dup, 1) := by decide +kernel
theorem dX3_step_251 : decode cX3_step 251 = .ok (.getfield 19, 3) := by decide +kernel
theorem dX3_step_254 : decode cX3_step 254 = .ok (.iconst 1, 1) := by decide +kernel
theorem dX3_step_255 : decode cX3_step 255 = .ok (.iadd, 1) := by decide +kernel
theorem dX3_step_256 : decode cX3_step 256 = .ok (.putfield 19, 3) := by decide +kernel
theorem dX3_step_259 : decode cX3_step 259 = .ok (.return_, 1) := by decide +kernel
theorem dX3_isLetter_0 : decode cX3_isLetter 0 = .ok (.iload_n 0, 1) := by decide +kernel
theorem dX3_isLetter_1 : decode cX3_isLetter 1 = .ok (.bipush 97, 2) := by decide +kernel
theorem dX3_isLetter_3 : decode cX3_isLetter 3 = .ok (.if_icmp .lt 13, 3) := by decide +kernel
theorem dX3_isLetter_6 : decode cX3_isLetter 6 = .ok (.iload_n 0, 1) := by decide +kernel
theorem dX3_isLetter_7 : decode cX3_isLetter 7 = .ok (.bipush 122, 2) := by decide +kernel
theorem dX3_isLetter_9 : decode cX3_isLetter 9 = .ok (.if_icmp .gt 7, 3) := by decide +kernel
theorem dX3_isLetter_12 : decode cX3_isLetter 12 = .ok (.iconst 1, 1) := by decide +kernel
theorem dX3_isLetter_13 : decode cX3_isLetter 13 = .ok (.goto 4, 3) := by decide +kernel
theorem dX3_isLetter_16 : decode cX3_isLetter 16 = .ok (.iconst 0, 1) := by decide +kernel
theorem dX3_isLetter_17 : decode cX3_isLetter 17 = .ok (.ireturn, 1) := by decide +kernel
theorem dX3_isDigit_0 : decode cX3_isDigit 0 = .ok (.iload_n 0, 1) := by decide +kernel
theorem dX3_isDigit_1 : decode cX3_isDigit 1 = .ok (.bipush 48, 2) := by decide +kernel
theorem dX3_isDigit_3 : decode cX3_isDigit 3 = .ok (.if_icmp .lt 13, 3) := by decide +kernel
theorem dX3_isDigit_6 : decode cX3_isDigit 6 = .ok (.iload_n 0, 1) := by decide +kernel
theorem dX3_isDigit_7 : decode cX3_isDigit 7 = .ok (.bipush 57, 2) := by decide +kernel
theorem dX3_isDigit_9 : decode cX3_isDigit 9 = .ok (.if_icmp .gt 7, 3) := by decide +kernel
theorem dX3_isDigit_12 : decode cX3_isDigit 12 = .ok (.iconst 1, 1) := by decide +kernel
theorem dX3_isDigit_13 : decode cX3_isDigit 13 = .ok (.goto 4, 3) := by decide +kernel
theorem dX3_isDigit_16 : decode cX3_isDigit 16 = .ok (.iconst 0, 1) := by decide +kernel
theorem dX3_isDigit_17 : decode cX3_isDigit 17 = .ok (.ireturn, 1) := by decide +kernel
theorem dX3_isWord_0 : decode cX3_isWord 0 = .ok (.aload_n 0, 1) := by decide +kernel
theorem dX3_isWord_1 : decode cX3_isWord 1 = .ok (.getfield 32, 3) := by decide +kernel
theorem dX3_isWord_4 : decode cX3_isWord 4 = .ok (.iconst 1, 1) := by decide +kernel
theorem dX3_isWord_5 : decode cX3_isWord 5 = .ok (.if_icmp .ne 19, 3) := by decide +kernel
theorem dX3_isWord_8 : decode cX3_isWord 8 = .ok (.aload_n 0, 1) := by decide +kernel
theorem dX3_isWord_9 : decode cX3_isWord 9 = .ok (.getfield 19, 3) := by decide +kernel
theorem dX3_isWord_12 : decode cX3_isWord 12 = .ok (.aload_n 0, 1) := by decide +kernel
theorem dX3_isWord_13 : decode cX3_isWord 13 = .ok (.getfield 29, 3) := by decide +kernel
theorem dX3_isWord_16 : decode cX3_isWord 16 = .ok (.isub, 1) := by decide +kernel
theorem dX3_isWord_17 : decode cX3_isWord 17 = .ok (.aload_n 1, 1) := by decide +kernel
theorem dX3_isWord_18 : decode cX3_isWord 18 = .ok (.invokevirtual 51, 3) := by decide +kernel
theorem dX3_isWord_21 : decode cX3_isWord 21 = .ok (.if_icmp .eq 5, 3) := by decide +kernel
theorem dX3_isWord_24 : decode cX3_isWord 24 = .ok (.iconst 0, 1) := by decide +kernel
theorem dX3_isWord_25 : decode cX3_isWord 25 = .ok (.ireturn, 1) := by decide +kernel
theorem dX3_isWord_26 : decode cX3_isWord 26 = .ok (.iconst 0, 1) := by decide +kernel
theorem dX3_isWord_27 : decode cX3_isWord 27 = .ok (.istore_n 2, 1) := by decide +kernel
theorem dX3_isWord_28 : decode cX3_isWord 28 = .ok (.iload_n 2, 1) := by decide +kernel
theorem dX3_isWord_29 : decode cX3_isWord 29 = .ok (.aload_n 1, 1) := by decide +kernel
theorem dX3_isWord_30 : decode cX3_isWord 30 = .ok (.invokevirtual 51, 3) := by decide +kernel
theorem dX3_isWord_33 : decode cX3_isWord 33 = .ok (.if_icmp .ge 30, 3) := by decide +kernel
theorem dX3_isWord_36 : decode cX3_isWord 36 = .ok (.aload_n 0, 1) := by decide +kernel
theorem dX3_isWord_37 : decode cX3_isWord 37 = .ok (.getfield 9, 3) := by decide +kernel
theorem dX3_isWord_40 : decode cX3_isWord 40 = .ok (.aload_n 0, 1) := by decide +kernel
theorem dX3_isWord_41 : decode cX3_isWord 41 = .ok (.getfield 29, 3) := by decide +kernel
theorem dX3_isWord_44 : decode cX3_isWord 44 = .ok (.iload_n 2, 1) := by decide +kernel
theorem dX3_isWord_45 : decode cX3_isWord 45 = .ok (.iadd, 1) := by decide +kernel
theorem dX3_isWord_46 : decode cX3_isWord 46 = .ok (.baload, 1) := by decide +kernel
theorem dX3_isWord_47 : decode cX3_isWord 47 = .ok (.aload_n 1, 1) := by decide +kernel
theorem dX3_isWord_48 : decode cX3_isWord 48 = .ok (.iload_n 2, 1) := by decide +kernel
theorem dX3_isWord_49 : decode cX3_isWord 49 = .ok (.invokevirtual 57, 3) := by decide +kernel
theorem dX3_isWord_52 : decode cX3_isWord 52 = .ok (.if_icmp .eq 5, 3) := by decide +kernel
theorem dX3_isWord_55 : decode cX3_isWord 55 = .ok (.iconst 0, 1) := by decide +kernel
theorem dX3_isWord_56 : decode cX3_isWord 56 = .ok (.ireturn, 1) := by decide +kernel
theorem dX3_isWord_57 : decode cX3_isWord 57 = .ok (.iinc 2 1, 3) := by decide +kernel
theorem dX3_isWord_60 : decode cX3_isWord 60 = .ok (.goto (-32), 3) := by decide +kernel
theorem dX3_isWord_63 : decode cX3_isWord 63 = .ok (.iconst 1, 1) := by decide +kernel
theorem dX3_isWord_64 : decode cX3_isWord 64 = .ok (.ireturn, 1) := by decide +kernel
theorem dX3_kindNamed_0 : decode cX3_kindNamed 0 = .ok (.iconst 0, 1) := by decide +kernel
theorem dX3_kindNamed_1 : decode cX3_kindNamed 1 = .ok (.istore_n 1, 1) := by decide +kernel
theorem dX3_kindNamed_2 : decode cX3_kindNamed 2 = .ok (.iload_n 1, 1) := by decide +kernel
theorem dX3_kindNamed_3 : decode cX3_kindNamed 3 = .ok (.bipush 6, 2) := by decide +kernel
theorem dX3_kindNamed_5 : decode cX3_kindNamed 5 = .ok (.if_icmp .ge 22, 3) := by decide +kernel
theorem dX3_kindNamed_8 : decode cX3_kindNamed 8 = .ok (.aload_n 0, 1) := by decide +kernel
theorem dX3_kindNamed_9 : decode cX3_kindNamed 9 = .ok (.iload_n 1, 1) := by decide +kernel
theorem dX3_kindNamed_10 : decode cX3_kindNamed 10 = .ok (.invokestatic 61, 3) := by decide +kernel
theorem dX3_kindNamed_13 : decode cX3_kindNamed 13 = .ok (.invokevirtual 65, 3) := by decide +kernel
theorem dX3_kindNamed_16 : decode cX3_kindNamed 16 = .ok (.ifCond .eq 5, 3) := by decide +kernel
theorem dX3_kindNamed_19 : decode cX3_kindNamed 19 = .ok (.iload_n 1, 1) := by decide +kernel
theorem dX3_kindNamed_20 : decode cX3_kindNamed 20 = .ok (.ireturn, 1) := by decide +kernel
theorem dX3_kindNamed_21 : decode cX3_kindNamed 21 = .ok (.iinc 1 1, 3) := by decide +kernel
theorem dX3_kindNamed_24 : decode cX3_kindNamed 24 = .ok (.goto (-22), 3) := by decide +kernel
theorem dX3_kindNamed_27 : decode cX3_kindNamed 27 = .ok (.iconst (-1), 1) := by decide +kernel
theorem dX3_kindNamed_28 : decode cX3_kindNamed 28 = .ok (.ireturn, 1) := by decide +kernel
theorem dX3_nameOfKind_0 : decode cX3_nameOfKind 0 = .ok (.iload_n 0, 1) := by decide +kernel
theorem dX3_nameOfKind_1 : decode cX3_nameOfKind 1 = .ok (.tableswitch 50 1 5 #[35, 38, 41, 44, 47], 35) := by decide +kernel
theorem dX3_nameOfKind_36 : decode cX3_nameOfKind 36 = .ok (.ldc 69, 2) := by decide +kernel
theorem dX3_nameOfKind_38 : decode cX3_nameOfKind 38 = .ok (.areturn, 1) := by decide +kernel
theorem dX3_nameOfKind_39 : decode cX3_nameOfKind 39 = .ok (.ldc 71, 2) := by decide +kernel
theorem dX3_nameOfKind_41 : decode cX3_nameOfKind 41 = .ok (.areturn, 1) := by decide +kernel
theorem dX3_nameOfKind_42 : decode cX3_nameOfKind 42 = .ok (.ldc 73, 2) := by decide +kernel
theorem dX3_nameOfKind_44 : decode cX3_nameOfKind 44 = .ok (.areturn, 1) := by decide +kernel
theorem dX3_nameOfKind_45 : decode cX3_nameOfKind 45 = .ok (.ldc 75, 2) := by decide +kernel
theorem dX3_nameOfKind_47 : decode cX3_nameOfKind 47 = .ok (.areturn, 1) := by decide +kernel
theorem dX3_nameOfKind_48 : decode cX3_nameOfKind 48 = .ok (.ldc 77, 2) := by decide +kernel
theorem dX3_nameOfKind_50 : decode cX3_nameOfKind 50 = .ok (.areturn, 1) := by decide +kernel
theorem dX3_nameOfKind_51 : decode cX3_nameOfKind 51 = .ok (.ldc 79, 2) := by decide +kernel
theorem dX3_nameOfKind_53 : decode cX3_nameOfKind 53 = .ok (.areturn, 1) := by decide +kernel
theorem dX3_takeNumber_0 : decode cX3_takeNumber 0 = .ok (.aload_n 0, 1) := by decide +kernel
theorem dX3_takeNumber_1 : decode cX3_takeNumber 1 = .ok (.getfield 32, 3) := by decide +kernel
theorem dX3_takeNumber_4 : decode cX3_takeNumber 4 = .ok (.iconst 2, 1) := by decide +kernel
theorem dX3_takeNumber_5 : decode cX3_takeNumber 5 = .ok (.if_icmp .ne 11, 3) := by decide +kernel
theorem dX3_takeNumber_8 : decode cX3_takeNumber 8 = .ok (.aload_n 0, 1) := by decide +kernel
theorem dX3_takeNumber_9 : decode cX3_takeNumber 9 = .ok (.getfield 42, 3) := by decide +kernel
theorem dX3_takeNumber_12 : decode cX3_takeNumber 12 = .ok (.iload_n 1, 1) := by decide +kernel
theorem dX3_takeNumber_13 : decode cX3_takeNumber 13 = .ok (.if_icmp .le 5, 3) := by decide +kernel
theorem dX3_takeNumber_16 : decode cX3_takeNumber 16 = .ok (.iconst (-1), 1) := by decide +kernel
theorem dX3_takeNumber_17 : decode cX3_takeNumber 17 = .ok (.ireturn, 1) := by decide +kernel
theorem dX3_takeNumber_18 : decode cX3_takeNumber 18 = .ok (.aload_n 0, 1) := by decide +kernel
theorem dX3_takeNumber_19 : decode cX3_takeNumber 19 = .ok (.getfield 42, 3) := by decide +kernel
theorem dX3_takeNumber_22 : decode cX3_takeNumber 22 = .ok (.istore_n 2, 1) := by decide +kernel
theorem dX3_takeNumber_23 : decode cX3_takeNumber 23 = .ok (.aload_n 0, 1) := by decide +kernel
theorem dX3_takeNumber_24 : decode cX3_takeNumber 24 = .ok (.invokevirtual 22, 3) := by decide +kernel
theorem dX3_takeNumber_27 : decode cX3_takeNumber 27 = .ok (.iload_n 2, 1) := by decide +kernel
theorem dX3_takeNumber_28 : decode cX3_takeNumber 28 = .ok (.ireturn, 1) := by decide +kernel
theorem dX3_takeItem_0 : decode cX3_takeItem 0 = .ok (.aload_n 0, 1) := by decide +kernel
theorem dX3_takeItem_1 : decode cX3_takeItem 1 = .ok (.invokevirtual 81, 3) := by decide +kernel
theorem dX3_takeItem_4 : decode cX3_takeItem 4 = .ok (.istore_n 2, 1) := by decide +kernel
theorem dX3_takeItem_5 : decode cX3_takeItem 5 = .ok (.iload_n 2, 1) := by decide +kernel
theorem dX3_takeItem_6 : decode cX3_takeItem 6 = .ok (.ifCond .lt 10, 3) := by decide +kernel
theorem dX3_takeItem_9 : decode cX3_takeItem 9 = .ok (.aload_n 0, 1) := by decide +kernel
theorem dX3_takeItem_10 : decode cX3_takeItem 10 = .ok (.aload_n 1, 1) := by decide +kernel
theorem dX3_takeItem_11 : decode cX3_takeItem 11 = .ok (.iload_n 2, 1) := by decide +kernel
theorem dX3_takeItem_12 : decode cX3_takeItem 12 = .ok (.invokevirtual 84, 3) := by decide +kernel
theorem dX3_takeItem_15 : decode cX3_takeItem 15 = .ok (.ireturn, 1) := by decide +kernel
theorem dX3_takeItem_16 : decode cX3_takeItem 16 = .ok (.aload_n 0, 1) := by decide +kernel
theorem dX3_takeItem_17 : decode cX3_takeItem 17 = .ok (.ldc 88, 2) := by decide +kernel
theorem dX3_takeItem_19 : decode cX3_takeItem 19 = .ok (.invokevirtual 65, 3) := by decide +kernel
theorem dX3_takeItem_22 : decode cX3_takeItem 22 = .ok (.ifCond .eq 10, 3) := by decide +kernel
theorem dX3_takeItem_25 : decode cX3_takeItem 25 = .ok (.aload_n 0, 1) := by decide +kernel
theorem dX3_takeItem_26 : decode cX3_takeItem 26 = .ok (.aload_n 1, 1) := by decide +kernel
theorem dX3_takeItem_27 : decode cX3_takeItem 27 = .ok (.iconst (-1), 1) := by decide +kernel
theorem dX3_takeItem_28 : decode cX3_takeItem 28 = .ok (.invokevirtual 90, 3) := by decide +kernel
theorem dX3_takeItem_31 : decode cX3_takeItem 31 = .ok (.ireturn, 1) := by decide +kernel
theorem dX3_takeItem_32 : decode cX3_takeItem 32 = .ok (.aload_n 0, 1) := by decide +kernel
theorem dX3_takeItem_33 : decode cX3_takeItem 33 = .ok (.ldc 93, 2) := by decide +kernel
theorem dX3_takeItem_35 : decode cX3_takeItem 35 = .ok (.invokevirtual 65, 3) := by decide +kernel
theorem dX3_takeItem_38 : decode cX3_takeItem 38 = .ok (.ifCond .eq 10, 3) := by decide +kernel
theorem dX3_takeItem_41 : decode cX3_takeItem 41 = .ok (.aload_n 0, 1) := by decide +kernel
theorem dX3_takeItem_42 : decode cX3_takeItem 42 = .ok (.aload_n 1, 1) := by decide +kernel
theorem dX3_takeItem_43 : decode cX3_takeItem 43 = .ok (.iconst 1, 1) := by decide +kernel
theorem dX3_takeItem_44 : decode cX3_takeItem 44 = .ok (.invokevirtual 90, 3) := by decide +kernel
theorem dX3_takeItem_47 : decode cX3_takeItem 47 = .ok (.ireturn, 1) := by decide +kernel
theorem dX3_takeItem_48 : decode cX3_takeItem 48 = .ok (.aload_n 0, 1) := by decide +kernel
theorem dX3_takeItem_49 : decode cX3_takeItem 49 = .ok (.ldc 95, 2) := by decide +kernel
theorem dX3_takeItem_51 : decode cX3_takeItem 51 = .ok (.invokevirtual 65, 3) := by decide +kernel
theorem dX3_takeItem_54 : decode cX3_takeItem 54 = .ok (.ifCond .eq 9, 3) := by decide +kernel
theorem dX3_takeItem_57 : decode cX3_takeItem 57 = .ok (.aload_n 0, 1) := by decide +kernel
theorem dX3_takeItem_58 : decode cX3_takeItem 58 = .ok (.aload_n 1, 1) := by decide +kernel
theorem dX3_takeItem_59 : decode cX3_takeItem 59 = .ok (.invokevirtual 97, 3) := by decide +kernel
theorem dX3_takeItem_62 : decode cX3_takeItem 62 = .ok (.ireturn, 1) := by decide +kernel
theorem dX3_takeItem_63 : decode cX3_takeItem 63 = .ok (.aload_n 0, 1) := by decide +kernel
theorem dX3_takeItem_64 : decode cX3_takeItem 64 = .ok (.ldc 100, 2) := by decide +kernel
theorem dX3_takeItem_66 : decode cX3_takeItem 66 = .ok (.invokevirtual 65, 3) := by decide +kernel
theorem dX3_takeItem_69 : decode cX3_takeItem 69 = .ok (.ifCond .eq 15, 3) := by decide +kernel
theorem dX3_takeItem_72 : decode cX3_takeItem 72 = .ok (.aload_n 0, 1) := by decide +kernel
theorem dX3_takeItem_73 : decode cX3_takeItem 73 = .ok (.aload_n 1, 1) := by decide +kernel
theorem dX3_takeItem_74 : decode cX3_takeItem 74 = .ok (.invokevirtual 102, 3) := by decide +kernel
theorem dX3_takeItem_77 : decode cX3_takeItem 77 = .ok (.ifCond .eq 7, 3) := by decide +kernel
theorem dX3_takeItem_80 : decode cX3_takeItem 80 = .ok (.iconst 1, 1) := by decide +kernel
theorem dX3_takeItem_81 : decode cX3_takeItem 81 = .ok (.goto 4, 3) := by decide +kernel
theorem dX3_takeItem_84 : decode cX3_takeItem 84 = .ok (.iconst 0, 1) := by decide +kernel
theorem dX3_takeItem_85 : decode cX3_takeItem 85 = .ok (.ireturn, 1) := by decide +kernel
theorem dX3_takeEwe_0 : decode cX3_takeEwe 0 = .ok (.aload_n 1, 1) := by decide +kernel
theorem dX3_takeEwe_1 : decode cX3_takeEwe 1 = .ok (.invokevirtual 105, 3) := by decide +kernel
theorem dX3_takeEwe_4 : decode cX3_takeEwe 4 = .ok (.ifCond .eq 5, 3) := by decide +kernel
theorem dX3_takeEwe_7 : decode cX3_takeEwe 7 = .ok (.iconst 0, 1) := by decide +kernel
theorem dX3_takeEwe_8 : decode cX3_takeEwe 8 = .ok (.ireturn, 1) := by decide +kernel
theorem dX3_takeEwe_9 : decode cX3_takeEwe 9 = .ok (.aload_n 0, 1) := by decide +kernel
theorem dX3_takeEwe_10 : decode cX3_takeEwe 10 = .ok (.invokevirtual 22, 3) := by decide +kernel
theorem dX3_takeEwe_13 : decode cX3_takeEwe 13 = .ok (.iconst 0, 1) := by decide +kernel
theorem dX3_takeEwe_14 : decode cX3_takeEwe 14 = .ok (.istore_n 3, 1) := by decide +kernel
theorem dX3_takeEwe_15 : decode cX3_takeEwe 15 = .ok (.aload_n 0, 1) := by decide +kernel
theorem dX3_takeEwe_16 : decode cX3_takeEwe 16 = .ok (.ldc 111, 2) := by decide +kernel
theorem dX3_takeEwe_18 : decode cX3_takeEwe 18 = .ok (.invokevirtual 65, 3) := by decide +kernel
theorem dX3_takeEwe_21 : decode cX3_takeEwe 21 = .ok (.ifCond .eq 14, 3) := by decide +kernel
theorem dX3_takeEwe_24 : decode cX3_takeEwe 24 = .ok (.aload_n 0, 1) := by decide +kernel
theorem dX3_takeEwe_25 : decode cX3_takeEwe 25 = .ok (.invokevirtual 22, 3) := by decide +kernel
theorem dX3_takeEwe_28 : decode cX3_takeEwe 28 = .ok (.aload_n 0, 1) := by decide +kernel
theorem dX3_takeEwe_29 : decode cX3_takeEwe 29 = .ok (.bipush 99, 2) := by decide +kernel
theorem dX3_takeEwe_31 : decode cX3_takeEwe 31 = .ok (.invokevirtual 113, 3) := by decide +kernel
theorem dX3_takeEwe_34 : decode cX3_takeEwe 34 = .ok (.istore_n 3, 1) := by decide +kernel
theorem dX3_takeEwe_35 : decode cX3_takeEwe 35 = .ok (.iload_n 3, 1) := by decide +kernel
theorem dX3_takeEwe_36 : decode cX3_takeEwe 36 = .ok (.ifCond .ge 5, 3) := by decide +kernel
theorem dX3_takeEwe_39 : decode cX3_takeEwe 39 = .ok (.iconst 0, 1) := by decide +kernel
theorem dX3_takeEwe_40 : decode cX3_takeEwe 40 = .ok (.ireturn, 1) := by decide +kernel
theorem dX3_takeEwe_41 : decode cX3_takeEwe 41 = .ok (.aload_n 1, 1) := by decide +kernel
theorem dX3_takeEwe_42 : decode cX3_takeEwe 42 = .ok (.iload_n 2, 1) := by decide +kernel
theorem dX3_takeEwe_43 : decode cX3_takeEwe 43 = .ok (.iload_n 3, 1) := by decide +kernel
theorem dX3_takeEwe_44 : decode cX3_takeEwe 44 = .ok (.invokevirtual 117, 3) := by decide +kernel
theorem dX3_takeEwe_47 : decode cX3_takeEwe 47 = .ok (.iconst 1, 1) := by decide +kernel
theorem dX3_takeEwe_48 : decode cX3_takeEwe 48 = .ok (.ireturn, 1) := by decide +kernel
theorem dX3_takeWeather_0 : decode cX3_takeWeather 0 = .ok (.aload_n 0, 1) := by decide +kernel
theorem dX3_takeWeather_1 : decode cX3_takeWeather 1 = .ok (.invokevirtual 22, 3) := by decide +kernel
theorem dX3_takeWeather_4 : decode cX3_takeWeather 4 = .ok (.aload_n 0, 1) := by decide +kernel
theorem dX3_takeWeather_5 : decode cX3_takeWeather 5 = .ok (.bipush 11, 2) := by decide +kernel
theorem dX3_takeWeather_7 : decode cX3_takeWeather 7 = .ok (.invokevirtual 113, 3) := by decide +kernel
theorem dX3_takeWeather_10 : decode cX3_takeWeather 10 = .ok (.istore_n 3, 1) := by decide +kernel
theorem dX3_takeWeather_11 : decode cX3_takeWeather 11 = .ok (.iload_n 3, 1) := by decide +kernel
theorem dX3_takeWeather_12 : decode cX3_takeWeather 12 = .ok (.ifCond .ge 5, 3) := by decide +kernel
theorem dX3_takeWeather_15 : decode cX3_takeWeather 15 = .ok (.iconst 0, 1) := by decide +kernel
theorem dX3_takeWeather_16 : decode cX3_takeWeather 16 = .ok (.ireturn, 1) := by decide +kernel
theorem dX3_takeWeather_17 : decode cX3_takeWeather 17 = .ok (.aload_n 0, 1) := by decide +kernel
theorem dX3_takeWeather_18 : decode cX3_takeWeather 18 = .ok (.bipush 20, 2) := by decide +kernel
theorem dX3_takeWeather_20 : decode cX3_takeWeather 20 = .ok (.invokevirtual 113, 3) := by decide +kernel
theorem dX3_takeWeather_23 : decode cX3_takeWeather 23 = .ok (.istore 4, 2) := by decide +kernel
theorem dX3_takeWeather_25 : decode cX3_takeWeather 25 = .ok (.iload 4, 2) := by decide +kernel
theorem dX3_takeWeather_27 : decode cX3_takeWeather 27 = .ok (.ifCond .ge 5, 3) := by decide +kernel
theorem dX3_takeWeather_30 : decode cX3_takeWeather 30 = .ok (.iconst 0, 1) := by decide +kernel
theorem dX3_takeWeather_31 : decode cX3_takeWeather 31 = .ok (.ireturn, 1) := by decide +kernel
theorem dX3_takeWeather_32 : decode cX3_takeWeather 32 = .ok (.aload_n 1, 1) := by decide +kernel
theorem dX3_takeWeather_33 : decode cX3_takeWeather 33 = .ok (.getfield 121, 3) := by decide +kernel
theorem dX3_takeWeather_36 : decode cX3_takeWeather 36 = .ok (.iload_n 3, 1) := by decide +kernel
theorem dX3_takeWeather_37 : decode cX3_takeWeather 37 = .ok (.iload_n 2, 1) := by decide +kernel
theorem dX3_takeWeather_38 : decode cX3_takeWeather 38 = .ok (.iload 4, 2) := by decide +kernel
theorem dX3_takeWeather_40 : decode cX3_takeWeather 40 = .ok (.imul, 1) := by decide +kernel
theorem dX3_takeWeather_41 : decode cX3_takeWeather 41 = .ok (.iastore, 1) := by decide +kernel
theorem dX3_takeWeather_42 : decode cX3_takeWeather 42 = .ok (.iconst 1, 1) := by decide +kernel
theorem dX3_takeWeather_43 : decode cX3_takeWeather 43 = .ok (.ireturn, 1) := by decide +kernel
theorem dX3_takeCut_0 : decode cX3_takeCut 0 = .ok (.aload_n 0, 1) := by decide +kernel
theorem dX3_takeCut_1 : decode cX3_takeCut 1 = .ok (.invokevirtual 22, 3) := by decide +kernel
theorem dX3_takeCut_4 : decode cX3_takeCut 4 = .ok (.aload_n 0, 1) := by decide +kernel
theorem dX3_takeCut_5 : decode cX3_takeCut 5 = .ok (.iconst 3, 1) := by decide +kernel
theorem dX3_takeCut_6 : decode cX3_takeCut 6 = .ok (.invokevirtual 113, 3) := by decide +kernel
theorem dX3_takeCut_9 : decode cX3_takeCut 9 = .ok (.istore_n 2, 1) := by decide +kernel
theorem dX3_takeCut_10 : decode cX3_takeCut 10 = .ok (.iload_n 2, 1) := by decide +kernel
theorem dX3_takeCut_11 : decode cX3_takeCut 11 = .ok (.ifCond .ge 5, 3) := by decide +kernel
theorem dX3_takeCut_14 : decode cX3_takeCut 14 = .ok (.iconst 0, 1) := by decide +kernel
theorem dX3_takeCut_15 : decode cX3_takeCut 15 = .ok (.ireturn, 1) := by decide +kernel
theorem dX3_takeCut_16 : decode cX3_takeCut 16 = .ok (.aload_n 0, 1) := by decide +kernel
theorem dX3_takeCut_17 : decode cX3_takeCut 17 = .ok (.bipush 11, 2) := by decide +kernel
theorem dX3_takeCut_19 : decode cX3_takeCut 19 = .ok (.invokevirtual 113, 3) := by decide +kernel
theorem dX3_takeCut_22 : decode cX3_takeCut 22 = .ok (.istore_n 3, 1) := by decide +kernel
theorem dX3_takeCut_23 : decode cX3_takeCut 23 = .ok (.iload_n 3, 1) := by decide +kernel
theorem dX3_takeCut_24 : decode cX3_takeCut 24 = .ok (.ifCond .ge 5, 3) := by decide +kernel
theorem dX3_takeCut_27 : decode cX3_takeCut 27 = .ok (.iconst 0, 1) := by decide +kernel
theorem dX3_takeCut_28 : decode cX3_takeCut 28 = .ok (.ireturn, 1) := by decide +kernel
theorem dX3_takeCut_29 : decode cX3_takeCut 29 = .ok (.aload_n 0, 1) := by decide +kernel
theorem dX3_takeCut_30 : decode cX3_takeCut 30 = .ok (.aload_n 1, 1) := by decide +kernel
theorem dX3_takeCut_31 : decode cX3_takeCut 31 = .ok (.getfield 125, 3) := by decide +kernel
theorem dX3_takeCut_34 : decode cX3_takeCut 34 = .ok (.iload_n 3, 1) := by decide +kernel
theorem dX3_takeCut_35 : decode cX3_takeCut 35 = .ok (.iaload, 1) := by decide +kernel
theorem dX3_takeCut_36 : decode cX3_takeCut 36 = .ok (.aload_n 1, 1) := by decide +kernel
theorem dX3_takeCut_37 : decode cX3_takeCut 37 = .ok (.iload_n 2, 1) := by decide +kernel
theorem dX3_takeCut_38 : decode cX3_takeCut 38 = .ok (.iload_n 3, 1) := by decide +kernel
theorem dX3_takeCut_39 : decode cX3_takeCut 39 = .ok (.invokevirtual 127, 3) := by decide +kernel
theorem dX3_takeCut_42 : decode cX3_takeCut 42 = .ok (.invokestatic 45, 3) := by decide +kernel
theorem dX3_takeCut_45 : decode cX3_takeCut 45 = .ok (.invokevirtual 113, 3) := by decide +kernel
theorem dX3_takeCut_48 : decode cX3_takeCut 48 = .ok (.istore 4, 2) := by decide +kernel
theorem dX3_takeCut_50 : decode cX3_takeCut 50 = .ok (.iload 4, 2) := by decide +kernel
theorem dX3_takeCut_52 : decode cX3_takeCut 52 = .ok (.ifCond .ge 5, 3) := by decide +kernel
theorem dX3_takeCut_55 : decode cX3_takeCut 55 = .ok (.iconst 0, 1) := by decide +kernel
theorem dX3_takeCut_56 : decode cX3_takeCut 56 = .ok (.ireturn, 1) := by decide +kernel
theorem dX3_takeCut_57 : decode cX3_takeCut 57 = .ok (.aload_n 1, 1) := by decide +kernel
theorem dX3_takeCut_58 : decode cX3_takeCut 58 = .ok (.iload_n 2, 1) := by decide +kernel
theorem dX3_takeCut_59 : decode cX3_takeCut 59 = .ok (.iload_n 3, 1) := by decide +kernel
theorem dX3_takeCut_60 : decode cX3_takeCut 60 = .ok (.iload 4, 2) := by decide +kernel
theorem dX3_takeCut_62 : decode cX3_takeCut 62 = .ok (.invokevirtual 130, 3) := by decide +kernel
theorem dX3_takeCut_65 : decode cX3_takeCut 65 = .ok (.iconst 1, 1) := by decide +kernel
theorem dX3_takeCut_66 : decode cX3_takeCut 66 = .ok (.ireturn, 1) := by decide +kernel
theorem dX3_takeStore_0 : decode cX3_takeStore 0 = .ok (.aload_n 0, 1) := by decide +kernel
theorem dX3_takeStore_1 : decode cX3_takeStore 1 = .ok (.invokevirtual 22, 3) := by decide +kernel
theorem dX3_takeStore_4 : decode cX3_takeStore 4 = .ok (.aload_n 0, 1) := by decide +kernel
theorem dX3_takeStore_5 : decode cX3_takeStore 5 = .ok (.bipush 11, 2) := by decide +kernel
theorem dX3_takeStore_7 : decode cX3_takeStore 7 = .ok (.invokevirtual 113, 3) := by decide +kernel
theorem dX3_takeStore_10 : decode cX3_takeStore 10 = .ok (.istore_n 2, 1) := by decide +kernel
theorem dX3_takeStore_11 : decode cX3_takeStore 11 = .ok (.iload_n 2, 1) := by decide +kernel
theorem dX3_takeStore_12 : decode cX3_takeStore 12 = .ok (.ifCond .ge 5, 3) := by decide +kernel
theorem dX3_takeStore_15 : decode cX3_takeStore 15 = .ok (.iconst 0, 1) := by decide +kernel
theorem dX3_takeStore_16 : decode cX3_takeStore 16 = .ok (.ireturn, 1) := by decide +kernel
theorem dX3_takeStore_17 : decode cX3_takeStore 17 = .ok (.aload_n 0, 1) := by decide +kernel
theorem dX3_takeStore_18 : decode cX3_takeStore 18 = .ok (.sipush 9999, 3) := by decide +kernel
theorem dX3_takeStore_21 : decode cX3_takeStore 21 = .ok (.invokevirtual 113, 3) := by decide +kernel
theorem dX3_takeStore_24 : decode cX3_takeStore 24 = .ok (.istore_n 3, 1) := by decide +kernel
theorem dX3_takeStore_25 : decode cX3_takeStore 25 = .ok (.iload_n 3, 1) := by decide +kernel
theorem dX3_takeStore_26 : decode cX3_takeStore 26 = .ok (.ifCond .ge 5, 3) := by decide +kernel
theorem dX3_takeStore_29 : decode cX3_takeStore 29 = .ok (.iconst 0, 1) := by decide +kernel
theorem dX3_takeStore_30 : decode cX3_takeStore 30 = .ok (.ireturn, 1) := by decide +kernel
theorem dX3_takeStore_31 : decode cX3_takeStore 31 = .ok (.aload_n 1, 1) := by decide +kernel
theorem dX3_takeStore_32 : decode cX3_takeStore 32 = .ok (.getfield 125, 3) := by decide +kernel
theorem dX3_takeStore_35 : decode cX3_takeStore 35 = .ok (.iload_n 2, 1) := by decide +kernel
theorem dX3_takeStore_36 : decode cX3_takeStore 36 = .ok (.iload_n 3, 1) := by decide +kernel
theorem dX3_takeStore_37 : decode cX3_takeStore 37 = .ok (.iastore, 1) := by decide +kernel
theorem dX3_takeStore_38 : decode cX3_takeStore 38 = .ok (.iconst 1, 1) := by decide +kernel
theorem dX3_takeStore_39 : decode cX3_takeStore 39 = .ok (.ireturn, 1) := by decide +kernel
theorem dJ9_max_7cf53_0 : decode cJ9_max_7cf53 0 = .ok (.iload_n 0, 1) := by decide +kernel
theorem dJ9_max_7cf53_1 : decode cJ9_max_7cf53 1 = .ok (.iload_n 1, 1) := by decide +kernel
theorem dJ9_max_7cf53_2 : decode cJ9_max_7cf53 2 = .ok (.if_icmp .lt 7, 3) := by decide +kernel
theorem dJ9_max_7cf53_5 : decode cJ9_max_7cf53 5 = .ok (.iload_n 0, 1) := by decide +kernel
theorem dJ9_max_7cf53_6 : decode cJ9_max_7cf53 6 = .ok (.goto 4, 3) := by decide +kernel
theorem dJ9_max_7cf53_9 : decode cJ9_max_7cf53 9 = .ok (.iload_n 1, 1) := by decide +kernel
theorem dJ9_max_7cf53_10 : decode cJ9_max_7cf53 10 = .ok (.ireturn, 1) := by decide +kernel
theorem dJ9_min_7cf53_0 : decode cJ9_min_7cf53 0 = .ok (.iload_n 0, 1) := by decide +kernel
theorem dJ9_min_7cf53_1 : decode cJ9_min_7cf53 1 = .ok (.iload_n 1, 1) := by decide +kernel
theorem dJ9_min_7cf53_2 : decode cJ9_min_7cf53 2 = .ok (.if_icmp .gt 7, 3) := by decide +kernel
theorem dJ9_min_7cf53_5 : decode cJ9_min_7cf53 5 = .ok (.iload_n 0, 1) := by decide +kernel
theorem dJ9_min_7cf53_6 : decode cJ9_min_7cf53 6 = .ok (.goto 4, 3) := by decide +kernel
theorem dJ9_min_7cf53_9 : decode cJ9_min_7cf53 9 = .ok (.iload_n 1, 1) := by decide +kernel
theorem dJ9_min_7cf53_10 : decode cJ9_min_7cf53 10 = .ok (.ireturn, 1) := by decide +kernel
theorem dJ0_length_8abf5_0 : decode cJ0_length_8abf5 0 = .ok (.aload_n 0, 1) := by decide +kernel
theorem dJ0_length_8abf5_1 : decode cJ0_length_8abf5 1 = .ok (.getfield 9, 3) := by decide +kernel
theorem dJ0_length_8abf5_4 : decode cJ0_length_8abf5 4 = .ok (.arraylength, 1) := by decide +kernel
theorem dJ0_length_8abf5_5 : decode cJ0_length_8abf5 5 = .ok (.aload_n 0, 1) := by decide +kernel
theorem dJ0_length_8abf5_6 : decode cJ0_length_8abf5 6 = .ok (.invokevirtual 335, 3) := by decide +kernel
theorem dJ0_length_8abf5_9 : decode cJ0_length_8abf5 9 = .ok (.ishr, 1) := by decide +kernel
theorem dJ0_length_8abf5_10 : decode cJ0_length_8abf5 10 = .ok (.ireturn, 1) := by decide +kernel
theorem dJ0_charAt_5068e_0 : decode cJ0_charAt_5068e 0 = .ok (.aload_n 0, 1) := by decide +kernel
theorem dJ0_charAt_5068e_1 : decode cJ0_charAt_5068e 1 = .ok (.invokevirtual 492, 3) := by decide +kernel
theorem dJ0_charAt_5068e_4 : decode cJ0_charAt_5068e 4 = .ok (.ifCond .eq 12, 3) := by decide +kernel
theorem dJ0_charAt_5068e_7 : decode cJ0_charAt_5068e 7 = .ok (.aload_n 0, 1) := by decide +kernel
theorem dJ0_charAt_5068e_8 : decode cJ0_charAt_5068e 8 = .ok (.getfield 9, 3) := by decide +kernel
theorem dJ0_charAt_5068e_11 : decode cJ0_charAt_5068e 11 = .ok (.iload_n 1, 1) := by decide +kernel
theorem dJ0_charAt_5068e_12 : decode cJ0_charAt_5068e 12 = .ok (.invokestatic 495, 3) := by decide +kernel
theorem dJ0_charAt_5068e_15 : decode cJ0_charAt_5068e 15 = .ok (.ireturn, 1) := by decide +kernel
theorem dJ0_charAt_5068e_16 : decode cJ0_charAt_5068e 16 = .ok (.aload_n 0, 1) := by decide +kernel
theorem dJ0_charAt_5068e_17 : decode cJ0_charAt_5068e 17 = .ok (.getfield 9, 3) := by decide +kernel
theorem dJ0_charAt_5068e_20 : decode cJ0_charAt_5068e 20 = .ok (.iload_n 1, 1) := by decide +kernel
theorem dJ0_charAt_5068e_21 : decode cJ0_charAt_5068e 21 = .ok (.invokestatic 498, 3) := by decide +kernel
theorem dJ0_charAt_5068e_24 : decode cJ0_charAt_5068e 24 = .ok (.ireturn, 1) := by decide +kernel
theorem dJ0_coder_7d493_0 : decode cJ0_coder_7d493 0 = .ok (.getstatic 38, 3) := by decide +kernel
theorem dJ0_coder_7d493_3 : decode cJ0_coder_7d493 3 = .ok (.ifCond .eq 10, 3) := by decide +kernel
theorem dJ0_coder_7d493_6 : decode cJ0_coder_7d493 6 = .ok (.aload_n 0, 1) := by decide +kernel
theorem dJ0_coder_7d493_7 : decode cJ0_coder_7d493 7 = .ok (.getfield 15, 3) := by decide +kernel
theorem dJ0_coder_7d493_10 : decode cJ0_coder_7d493 10 = .ok (.goto 4, 3) := by decide +kernel
theorem dJ0_coder_7d493_13 : decode cJ0_coder_7d493 13 = .ok (.iconst 1, 1) := by decide +kernel
theorem dJ0_coder_7d493_14 : decode cJ0_coder_7d493 14 = .ok (.ireturn, 1) := by decide +kernel
theorem dJ0_isLatin1_aae02_0 : decode cJ0_isLatin1_aae02 0 = .ok (.getstatic 38, 3) := by decide +kernel
theorem dJ0_isLatin1_aae02_3 : decode cJ0_isLatin1_aae02 3 = .ok (.ifCond .eq 14, 3) := by decide +kernel
theorem dJ0_isLatin1_aae02_6 : decode cJ0_isLatin1_aae02 6 = .ok (.aload_n 0, 1) := by decide +kernel
theorem dJ0_isLatin1_aae02_7 : decode cJ0_isLatin1_aae02 7 = .ok (.getfield 15, 3) := by decide +kernel
theorem dJ0_isLatin1_aae02_10 : decode cJ0_isLatin1_aae02 10 = .ok (.ifCond .ne 7, 3) := by decide +kernel
theorem dJ0_isLatin1_aae02_13 : decode cJ0_isLatin1_aae02 13 = .ok (.iconst 1, 1) := by decide +kernel
theorem dJ0_isLatin1_aae02_14 : decode cJ0_isLatin1_aae02 14 = .ok (.goto 4, 3) := by decide +kernel
theorem dJ0_isLatin1_aae02_17 : decode cJ0_isLatin1_aae02 17 = .ok (.iconst 0, 1) := by decide +kernel
theorem dJ0_isLatin1_aae02_18 : decode cJ0_isLatin1_aae02 18 = .ok (.ireturn, 1) := by decide +kernel
theorem dJ0_checkIndex_df160_0 : decode cJ0_checkIndex_df160 0 = .ok (.iload_n 0, 1) := by decide +kernel
theorem dJ0_checkIndex_df160_1 : decode cJ0_checkIndex_df160 1 = .ok (.iload_n 1, 1) := by decide +kernel
theorem dJ0_checkIndex_df160_2 : decode cJ0_checkIndex_df160 2 = .ok (.getstatic 1053, 3) := by decide +kernel
theorem dJ0_checkIndex_df160_5 : decode cJ0_checkIndex_df160 5 = .ok (.invokestatic 1059, 3) := by decide +kernel
theorem dJ0_checkIndex_df160_8 : decode cJ0_checkIndex_df160 8 = .ok (.pop, 1) := by decide +kernel
theorem dJ0_checkIndex_df160_9 : decode cJ0_checkIndex_df160 9 = .ok (.return_, 1) := by decide +kernel
theorem dJ1_charAt_3b067_0 : decode cJ1_charAt_3b067 0 = .ok (.iload_n 1, 1) := by decide +kernel
theorem dJ1_charAt_3b067_1 : decode cJ1_charAt_3b067 1 = .ok (.aload_n 0, 1) := by decide +kernel
theorem dJ1_charAt_3b067_2 : decode cJ1_charAt_3b067 2 = .ok (.arraylength, 1) := by decide +kernel
theorem dJ1_charAt_3b067_3 : decode cJ1_charAt_3b067 3 = .ok (.invokestatic 9, 3) := by decide +kernel
theorem dJ1_charAt_3b067_6 : decode cJ1_charAt_3b067 6 = .ok (.aload_n 0, 1) := by decide +kernel
theorem dJ1_charAt_3b067_7 : decode cJ1_charAt_3b067 7 = .ok (.iload_n 1, 1) := by decide +kernel
theorem dJ1_charAt_3b067_8 : decode cJ1_charAt_3b067 8 = .ok (.baload, 1) := by decide +kernel
theorem dJ1_charAt_3b067_9 : decode cJ1_charAt_3b067 9 = .ok (.sipush 255, 3) := by decide +kernel
theorem dJ1_charAt_3b067_12 : decode cJ1_charAt_3b067 12 = .ok (.iand, 1) := by decide +kernel
theorem dJ1_charAt_3b067_13 : decode cJ1_charAt_3b067 13 = .ok (.i2c, 1) := by decide +kernel
theorem dJ1_charAt_3b067_14 : decode cJ1_charAt_3b067 14 = .ok (.ireturn, 1) := by decide +kernel
theorem dJ2_getChar_3b067_0 : decode cJ2_getChar_3b067 0 = .ok (.getstatic 44, 3) := by decide +kernel
theorem dJ2_getChar_3b067_3 : decode cJ2_getChar_3b067 3 = .ok (.ifCond .ne 25, 3) := by decide +kernel
theorem dJ2_getChar_3b067_6 : decode cJ2_getChar_3b067 6 = .ok (.iload_n 1, 1) := by decide +kernel
theorem dJ2_getChar_3b067_7 : decode cJ2_getChar_3b067 7 = .ok (.ifCond .lt 11, 3) := by decide +kernel
theorem dJ2_getChar_3b067_10 : decode cJ2_getChar_3b067 10 = .ok (.iload_n 1, 1) := by decide +kernel
theorem dJ2_getChar_3b067_11 : decode cJ2_getChar_3b067 11 = .ok (.aload_n 0, 1) := by decide +kernel
theorem dJ2_getChar_3b067_12 : decode cJ2_getChar_3b067 12 = .ok (.invokestatic 48, 3) := by decide +kernel
theorem dJ2_getChar_3b067_15 : decode cJ2_getChar_3b067 15 = .ok (.if_icmp .lt 13, 3) := by decide +kernel
theorem dJ2_getChar_3b067_18 : decode cJ2_getChar_3b067 18 = .ok (.new 52, 3) := by decide +kernel
theorem dJ2_getChar_3b067_21 : decode cJ2_getChar_3b067 21 = .ok (.dup, 1) := by decide +kernel
theorem dJ2_getChar_3b067_22 : decode cJ2_getChar_3b067 22 = .ok (.ldc 54, 2) := by decide +kernel
theorem dJ2_getChar_3b067_24 : decode cJ2_getChar_3b067 24 = .ok (.invokespecial 56, 3) := by decide +kernel
theorem dJ2_getChar_3b067_27 : decode cJ2_getChar_3b067 27 = .ok (.athrow, 1) := by decide +kernel
theorem dJ2_getChar_3b067_28 : decode cJ2_getChar_3b067 28 = .ok (.iload_n 1, 1) := by decide +kernel
theorem dJ2_getChar_3b067_29 : decode cJ2_getChar_3b067 29 = .ok (.iconst 1, 1) := by decide +kernel
theorem dJ2_getChar_3b067_30 : decode cJ2_getChar_3b067 30 = .ok (.ishl, 1) := by decide +kernel
theorem dJ2_getChar_3b067_31 : decode cJ2_getChar_3b067 31 = .ok (.istore_n 1, 1) := by decide +kernel
theorem dJ2_getChar_3b067_32 : decode cJ2_getChar_3b067 32 = .ok (.aload_n 0, 1) := by decide +kernel
theorem dJ2_getChar_3b067_33 : decode cJ2_getChar_3b067 33 = .ok (.iload_n 1, 1) := by decide +kernel
theorem dJ2_getChar_3b067_34 : decode cJ2_getChar_3b067 34 = .ok (.iinc 1 1, 3) := by decide +kernel
theorem dJ2_getChar_3b067_37 : decode cJ2_getChar_3b067 37 = .ok (.baload, 1) := by decide +kernel
theorem dJ2_getChar_3b067_38 : decode cJ2_getChar_3b067 38 = .ok (.sipush 255, 3) := by decide +kernel
theorem dJ2_getChar_3b067_41 : decode cJ2_getChar_3b067 41 = .ok (.iand, 1) := by decide +kernel
theorem dJ2_getChar_3b067_42 : decode cJ2_getChar_3b067 42 = .ok (.getstatic 59, 3) := by decide +kernel
theorem dJ2_getChar_3b067_45 : decode cJ2_getChar_3b067 45 = .ok (.ishl, 1) := by decide +kernel
theorem dJ2_getChar_3b067_46 : decode cJ2_getChar_3b067 46 = .ok (.aload_n 0, 1) := by decide +kernel
theorem dJ2_getChar_3b067_47 : decode cJ2_getChar_3b067 47 = .ok (.iload_n 1, 1) := by decide +kernel
theorem dJ2_getChar_3b067_48 : decode cJ2_getChar_3b067 48 = .ok (.baload, 1) := by decide +kernel
theorem dJ2_getChar_3b067_49 : decode cJ2_getChar_3b067 49 = .ok (.sipush 255, 3) := by decide +kernel
theorem dJ2_getChar_3b067_52 : decode cJ2_getChar_3b067 52 = .ok (.iand, 1) := by decide +kernel
theorem dJ2_getChar_3b067_53 : decode cJ2_getChar_3b067 53 = .ok (.getstatic 63, 3) := by decide +kernel
theorem dJ2_getChar_3b067_56 : decode cJ2_getChar_3b067 56 = .ok (.ishl, 1) := by decide +kernel
theorem dJ2_getChar_3b067_57 : decode cJ2_getChar_3b067 57 = .ok (.ior, 1) := by decide +kernel
theorem dJ2_getChar_3b067_58 : decode cJ2_getChar_3b067 58 = .ok (.i2c, 1) := by decide +kernel
theorem dJ2_getChar_3b067_59 : decode cJ2_getChar_3b067 59 = .ok (.ireturn, 1) := by decide +kernel
theorem dJ2_length_9d52b_0 : decode cJ2_length_9d52b 0 = .ok (.aload_n 0, 1) := by decide +kernel
theorem dJ2_length_9d52b_1 : decode cJ2_length_9d52b 1 = .ok (.arraylength, 1) := by decide +kernel
theorem dJ2_length_9d52b_2 : decode cJ2_length_9d52b 2 = .ok (.iconst 1, 1) := by decide +kernel
theorem dJ2_length_9d52b_3 : decode cJ2_length_9d52b 3 = .ok (.ishr, 1) := by decide +kernel
theorem dJ2_length_9d52b_4 : decode cJ2_length_9d52b 4 = .ok (.ireturn, 1) := by decide +kernel
theorem dJ2_charAt_3b067_0 : decode cJ2_charAt_3b067 0 = .ok (.iload_n 1, 1) := by decide +kernel
theorem dJ2_charAt_3b067_1 : decode cJ2_charAt_3b067 1 = .ok (.aload_n 0, 1) := by decide +kernel
theorem dJ2_charAt_3b067_2 : decode cJ2_charAt_3b067 2 = .ok (.invokestatic 67, 3) := by decide +kernel
theorem dJ2_charAt_3b067_5 : decode cJ2_charAt_3b067 5 = .ok (.aload_n 0, 1) := by decide +kernel
theorem dJ2_charAt_3b067_6 : decode cJ2_charAt_3b067 6 = .ok (.iload_n 1, 1) := by decide +kernel
theorem dJ2_charAt_3b067_7 : decode cJ2_charAt_3b067 7 = .ok (.invokestatic 71, 3) := by decide +kernel
theorem dJ2_charAt_3b067_10 : decode cJ2_charAt_3b067 10 = .ok (.ireturn, 1) := by decide +kernel
theorem dJ2_checkIndex_2214a_0 : decode cJ2_checkIndex_2214a 0 = .ok (.iload_n 0, 1) := by decide +kernel
theorem dJ2_checkIndex_2214a_1 : decode cJ2_checkIndex_2214a 1 = .ok (.aload_n 1, 1) := by decide +kernel
theorem dJ2_checkIndex_2214a_2 : decode cJ2_checkIndex_2214a 2 = .ok (.invokestatic 48, 3) := by decide +kernel
theorem dJ2_checkIndex_2214a_5 : decode cJ2_checkIndex_2214a 5 = .ok (.invokestatic 414, 3) := by decide +kernel
theorem dJ2_checkIndex_2214a_8 : decode cJ2_checkIndex_2214a 8 = .ok (.return_, 1) := by decide +kernel
theorem dJ7_fill_d0a16_0 : decode cJ7_fill_d0a16 0 = .ok (.iconst 0, 1) := by decide +kernel
theorem dJ7_fill_d0a16_1 : decode cJ7_fill_d0a16 1 = .ok (.istore_n 3, 1) := by decide +kernel
theorem dJ7_fill_d0a16_2 : decode cJ7_fill_d0a16 2 = .ok (.aload_n 0, 1) := by decide +kernel
theorem dJ7_fill_d0a16_3 : decode cJ7_fill_d0a16 3 = .ok (.arraylength, 1) := by decide +kernel
theorem dJ7_fill_d0a16_4 : decode cJ7_fill_d0a16 4 = .ok (.istore 4, 2) := by decide +kernel
theorem dJ7_fill_d0a16_6 : decode cJ7_fill_d0a16 6 = .ok (.iload_n 3, 1) := by decide +kernel
theorem dJ7_fill_d0a16_7 : decode cJ7_fill_d0a16 7 = .ok (.iload 4, 2) := by decide +kernel
theorem dJ7_fill_d0a16_9 : decode cJ7_fill_d0a16 9 = .ok (.if_icmp .ge 13, 3) := by decide +kernel
theorem dJ7_fill_d0a16_12 : decode cJ7_fill_d0a16 12 = .ok (.aload_n 0, 1) := by decide +kernel
theorem dJ7_fill_d0a16_13 : decode cJ7_fill_d0a16 13 = .ok (.iload_n 3, 1) := by decide +kernel
theorem dJ7_fill_d0a16_14 : decode cJ7_fill_d0a16 14 = .ok (.lload_n 1, 1) := by decide +kernel
theorem dJ7_fill_d0a16_15 : decode cJ7_fill_d0a16 15 = .ok (.lastore, 1) := by decide +kernel
theorem dJ7_fill_d0a16_16 : decode cJ7_fill_d0a16 16 = .ok (.iinc 3 1, 3) := by decide +kernel
theorem dJ7_fill_d0a16_19 : decode cJ7_fill_d0a16 19 = .ok (.goto (-13), 3) := by decide +kernel
theorem dJ7_fill_d0a16_22 : decode cJ7_fill_d0a16 22 = .ok (.return_, 1) := by decide +kernel
theorem dJ7_fill_53178_0 : decode cJ7_fill_53178 0 = .ok (.iconst 0, 1) := by decide +kernel
theorem dJ7_fill_53178_1 : decode cJ7_fill_53178 1 = .ok (.istore_n 2, 1) := by decide +kernel
theorem dJ7_fill_53178_2 : decode cJ7_fill_53178 2 = .ok (.aload_n 0, 1) := by decide +kernel
theorem dJ7_fill_53178_3 : decode cJ7_fill_53178 3 = .ok (.arraylength, 1) := by decide +kernel
theorem dJ7_fill_53178_4 : decode cJ7_fill_53178 4 = .ok (.istore_n 3, 1) := by decide +kernel
theorem dJ7_fill_53178_5 : decode cJ7_fill_53178 5 = .ok (.iload_n 2, 1) := by decide +kernel
theorem dJ7_fill_53178_6 : decode cJ7_fill_53178 6 = .ok (.iload_n 3, 1) := by decide +kernel
theorem dJ7_fill_53178_7 : decode cJ7_fill_53178 7 = .ok (.if_icmp .ge 13, 3) := by decide +kernel
theorem dJ7_fill_53178_10 : decode cJ7_fill_53178 10 = .ok (.aload_n 0, 1) := by decide +kernel
theorem dJ7_fill_53178_11 : decode cJ7_fill_53178 11 = .ok (.iload_n 2, 1) := by decide +kernel
theorem dJ7_fill_53178_12 : decode cJ7_fill_53178 12 = .ok (.iload_n 1, 1) := by decide +kernel
theorem dJ7_fill_53178_13 : decode cJ7_fill_53178 13 = .ok (.iastore, 1) := by decide +kernel
theorem dJ7_fill_53178_14 : decode cJ7_fill_53178 14 = .ok (.iinc 2 1, 3) := by decide +kernel
theorem dJ7_fill_53178_17 : decode cJ7_fill_53178 17 = .ok (.goto (-12), 3) := by decide +kernel
theorem dJ7_fill_53178_20 : decode cJ7_fill_53178 20 = .ok (.return_, 1) := by decide +kernel
theorem dJ3_checkIndex_8e157_0 : decode cJ3_checkIndex_8e157 0 = .ok (.iload_n 0, 1) := by decide +kernel
theorem dJ3_checkIndex_8e157_1 : decode cJ3_checkIndex_8e157 1 = .ok (.ifCond .lt 8, 3) := by decide +kernel
theorem dJ3_checkIndex_8e157_4 : decode cJ3_checkIndex_8e157 4 = .ok (.iload_n 0, 1) := by decide +kernel
theorem dJ3_checkIndex_8e157_5 : decode cJ3_checkIndex_8e157 5 = .ok (.iload_n 1, 1) := by decide +kernel
theorem dJ3_checkIndex_8e157_6 : decode cJ3_checkIndex_8e157 6 = .ok (.if_icmp .lt 10, 3) := by decide +kernel
theorem dJ3_checkIndex_8e157_9 : decode cJ3_checkIndex_8e157 9 = .ok (.aload_n 2, 1) := by decide +kernel
theorem dJ3_checkIndex_8e157_10 : decode cJ3_checkIndex_8e157 10 = .ok (.iload_n 0, 1) := by decide +kernel
theorem dJ3_checkIndex_8e157_11 : decode cJ3_checkIndex_8e157 11 = .ok (.iload_n 1, 1) := by decide +kernel
theorem dJ3_checkIndex_8e157_12 : decode cJ3_checkIndex_8e157 12 = .ok (.invokestatic 95, 3) := by decide +kernel
theorem dJ3_checkIndex_8e157_15 : decode cJ3_checkIndex_8e157 15 = .ok (.athrow, 1) := by decide +kernel
theorem dJ3_checkIndex_8e157_16 : decode cJ3_checkIndex_8e157 16 = .ok (.iload_n 0, 1) := by decide +kernel
theorem dJ3_checkIndex_8e157_17 : decode cJ3_checkIndex_8e157 17 = .ok (.ireturn, 1) := by decide +kernel
