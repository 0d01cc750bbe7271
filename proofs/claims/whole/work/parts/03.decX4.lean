theorem dX4_init_0 : decode cX4_init 0 = .ok (.aload_n 0, 1) := by decide +kernel
theorem dX4_init_1 : decode cX4_init 1 = .ok (.invokespecial 1, 3) := by decide +kernel
theorem dX4_init_4 : decode cX4_init 4 = .ok (.aload_n 0, 1) := by decide +kernel
theorem dX4_init_5 : decode cX4_init 5 = .ok (.new 7, 3) := by decide +kernel
theorem dX4_init_8 : decode cX4_init 8 = .ok (.dup, 1) := by decide +kernel
theorem dX4_init_9 : decode cX4_init 9 = .ok (.invokespecial 9, 3) := by decide +kernel
theorem dX4_init_12 : decode cX4_init 12 = .ok (.putfield 10, 3) := by decide +kernel
theorem dX4_init_15 : decode cX4_init 15 = .ok (.aload_n 0, 1) := by decide +kernel
theorem dX4_init_16 : decode cX4_init 16 = .ok (.new 7, 3) := by decide +kernel
theorem dX4_init_19 : decode cX4_init 19 = .ok (.dup, 1) := by decide +kernel
theorem dX4_init_20 : decode cX4_init 20 = .ok (.invokespecial 9, 3) := by decide +kernel
theorem dX4_init_23 : decode cX4_init 23 = .ok (.putfield 16, 3) := by decide +kernel
theorem dX4_init_26 : decode cX4_init 26 = .ok (.aload_n 0, 1) := by decide +kernel
theorem dX4_init_27 : decode cX4_init 27 = .ok (.new 7, 3) := by decide +kernel
theorem dX4_init_30 : decode cX4_init 30 = .ok (.dup, 1) := by decide +kernel
theorem dX4_init_31 : decode cX4_init 31 = .ok (.invokespecial 9, 3) := by decide +kernel
theorem dX4_init_34 : decode cX4_init 34 = .ok (.putfield 19, 3) := by decide +kernel
theorem dX4_init_37 : decode cX4_init 37 = .ok (.aload_n 0, 1) := by decide +kernel
theorem dX4_init_38 : decode cX4_init 38 = .ok (.new 22, 3) := by decide +kernel
theorem dX4_init_41 : decode cX4_init 41 = .ok (.dup, 1) := by decide +kernel
theorem dX4_init_42 : decode cX4_init 42 = .ok (.invokespecial 24, 3) := by decide +kernel
theorem dX4_init_45 : decode cX4_init 45 = .ok (.putfield 25, 3) := by decide +kernel
theorem dX4_init_48 : decode cX4_init 48 = .ok (.aload_n 0, 1) := by decide +kernel
theorem dX4_init_49 : decode cX4_init 49 = .ok (.new 29, 3) := by decide +kernel
theorem dX4_init_52 : decode cX4_init 52 = .ok (.dup, 1) := by decide +kernel
theorem dX4_init_53 : decode cX4_init 53 = .ok (.invokespecial 31, 3) := by decide +kernel
theorem dX4_init_56 : decode cX4_init 56 = .ok (.putfield 32, 3) := by decide +kernel
theorem dX4_init_59 : decode cX4_init 59 = .ok (.aload_n 0, 1) := by decide +kernel
theorem dX4_init_60 : decode cX4_init 60 = .ok (.iconst 4, 1) := by decide +kernel
theorem dX4_init_61 : decode cX4_init 61 = .ok (.anewarray 36, 3) := by decide +kernel
theorem dX4_init_64 : decode cX4_init 64 = .ok (.putfield 38, 3) := by decide +kernel
theorem dX4_init_67 : decode cX4_init 67 = .ok (.aload_n 0, 1) := by decide +kernel
theorem dX4_init_68 : decode cX4_init 68 = .ok (.bipush 7, 2) := by decide +kernel
theorem dX4_init_70 : decode cX4_init 70 = .ok (.newarray .int, 2) := by decide +kernel
theorem dX4_init_72 : decode cX4_init 72 = .ok (.putfield 42, 3) := by decide +kernel
theorem dX4_init_75 : decode cX4_init 75 = .ok (.iconst 0, 1) := by decide +kernel
theorem dX4_init_76 : decode cX4_init 76 = .ok (.istore_n 1, 1) := by decide +kernel
theorem dX4_init_77 : decode cX4_init 77 = .ok (.iload_n 1, 1) := by decide +kernel
theorem dX4_init_78 : decode cX4_init 78 = .ok (.iconst 4, 1) := by decide +kernel
theorem dX4_init_79 : decode cX4_init 79 = .ok (.if_icmp .ge 22, 3) := by decide +kernel
theorem dX4_init_82 : decode cX4_init 82 = .ok (.aload_n 0, 1) := by decide +kernel
theorem dX4_init_83 : decode cX4_init 83 = .ok (.getfield 38, 3) := by decide +kernel
theorem dX4_init_86 : decode cX4_init 86 = .ok (.iload_n 1, 1) := by decide +kernel
theorem dX4_init_87 : decode cX4_init 87 = .ok (.new 36, 3) := by decide +kernel
theorem dX4_init_90 : decode cX4_init 90 = .ok (.dup, 1) := by decide +kernel
theorem dX4_init_91 : decode cX4_init 91 = .ok (.invokespecial 46, 3) := by decide +kernel
theorem dX4_init_94 : decode cX4_init 94 = .ok (.aastore, 1) := by decide +kernel
theorem dX4_init_95 : decode cX4_init 95 = .ok (.iinc 1 1, 3) := by decide +kernel
theorem dX4_init_98 : decode cX4_init 98 = .ok (.goto (-21), 3) := by decide +kernel
theorem dX4_init_101 : decode cX4_init 101 = .ok (.return_, 1) := by decide +kernel
theorem dX4_weather_0 : decode cX4_weather 0 = .ok (.iload_n 1, 1) := by decide +kernel
theorem dX4_weather_1 : decode cX4_weather 1 = .ok (.invokestatic 47, 3) := by decide +kernel
theorem dX4_weather_4 : decode cX4_weather 4 = .ok (.ifCond .eq 10, 3) := by decide +kernel
theorem dX4_weather_7 : decode cX4_weather 7 = .ok (.iload_n 2, 1) := by decide +kernel
theorem dX4_weather_8 : decode cX4_weather 8 = .ok (.invokestatic 51, 3) := by decide +kernel
theorem dX4_weather_11 : decode cX4_weather 11 = .ok (.ifCond .ne 9, 3) := by decide +kernel
theorem dX4_weather_14 : decode cX4_weather 14 = .ok (.aload_n 0, 1) := by decide +kernel
theorem dX4_weather_15 : decode cX4_weather 15 = .ok (.iconst 0, 1) := by decide +kernel
theorem dX4_weather_16 : decode cX4_weather 16 = .ok (.invokevirtual 54, 3) := by decide +kernel
theorem dX4_weather_19 : decode cX4_weather 19 = .ok (.ireturn, 1) := by decide +kernel
theorem dX4_weather_20 : decode cX4_weather 20 = .ok (.aload_n 0, 1) := by decide +kernel
theorem dX4_weather_21 : decode cX4_weather 21 = .ok (.getfield 10, 3) := by decide +kernel
theorem dX4_weather_24 : decode cX4_weather 24 = .ok (.getfield 58, 3) := by decide +kernel
theorem dX4_weather_27 : decode cX4_weather 27 = .ok (.iload_n 1, 1) := by decide +kernel
theorem dX4_weather_28 : decode cX4_weather 28 = .ok (.iaload, 1) := by decide +kernel
theorem dX4_weather_29 : decode cX4_weather 29 = .ok (.istore_n 3, 1) := by decide +kernel
theorem dX4_weather_30 : decode cX4_weather 30 = .ok (.aload_n 0, 1) := by decide +kernel
theorem dX4_weather_31 : decode cX4_weather 31 = .ok (.getfield 10, 3) := by decide +kernel
theorem dX4_weather_34 : decode cX4_weather 34 = .ok (.getfield 58, 3) := by decide +kernel
theorem dX4_weather_37 : decode cX4_weather 37 = .ok (.iload_n 1, 1) := by decide +kernel
theorem dX4_weather_38 : decode cX4_weather 38 = .ok (.iload_n 2, 1) := by decide +kernel
theorem dX4_weather_39 : decode cX4_weather 39 = .ok (.iastore, 1) := by decide +kernel
theorem dX4_weather_40 : decode cX4_weather 40 = .ok (.iload_n 3, 1) := by decide +kernel
theorem dX4_weather_41 : decode cX4_weather 41 = .ok (.ireturn, 1) := by decide +kernel
theorem dX4_monthOf_0 : decode cX4_monthOf 0 = .ok (.iload_n 1, 1) := by decide +kernel
theorem dX4_monthOf_1 : decode cX4_monthOf 1 = .ok (.invokestatic 47, 3) := by decide +kernel
theorem dX4_monthOf_4 : decode cX4_monthOf 4 = .ok (.ifCond .ne 9, 3) := by decide +kernel
theorem dX4_monthOf_7 : decode cX4_monthOf 7 = .ok (.aload_n 0, 1) := by decide +kernel
theorem dX4_monthOf_8 : decode cX4_monthOf 8 = .ok (.iconst 0, 1) := by decide +kernel
theorem dX4_monthOf_9 : decode cX4_monthOf 9 = .ok (.invokevirtual 54, 3) := by decide +kernel
theorem dX4_monthOf_12 : decode cX4_monthOf 12 = .ok (.ireturn, 1) := by decide +kernel
theorem dX4_monthOf_13 : decode cX4_monthOf 13 = .ok (.iload_n 2, 1) := by decide +kernel
theorem dX4_monthOf_14 : decode cX4_monthOf 14 = .ok (.tableswitch 59 0 2 #[26, 39, 49], 26) := by decide +kernel
theorem dX4_monthOf_40 : decode cX4_monthOf 40 = .ok (.bipush 100, 2) := by decide +kernel
theorem dX4_monthOf_42 : decode cX4_monthOf 42 = .ok (.aload_n 0, 1) := by decide +kernel
theorem dX4_monthOf_43 : decode cX4_monthOf 43 = .ok (.getfield 10, 3) := by decide +kernel
theorem dX4_monthOf_46 : decode cX4_monthOf 46 = .ok (.getfield 58, 3) := by decide +kernel
theorem dX4_monthOf_49 : decode cX4_monthOf 49 = .ok (.iload_n 1, 1) := by decide +kernel
theorem dX4_monthOf_50 : decode cX4_monthOf 50 = .ok (.iaload, 1) := by decide +kernel
theorem dX4_monthOf_51 : decode cX4_monthOf 51 = .ok (.iadd, 1) := by decide +kernel
theorem dX4_monthOf_52 : decode cX4_monthOf 52 = .ok (.ireturn, 1) := by decide +kernel
theorem dX4_monthOf_53 : decode cX4_monthOf 53 = .ok (.aload_n 0, 1) := by decide +kernel
theorem dX4_monthOf_54 : decode cX4_monthOf 54 = .ok (.getfield 10, 3) := by decide +kernel
theorem dX4_monthOf_57 : decode cX4_monthOf 57 = .ok (.getfield 61, 3) := by decide +kernel
theorem dX4_monthOf_60 : decode cX4_monthOf 60 = .ok (.iload_n 1, 1) := by decide +kernel
theorem dX4_monthOf_61 : decode cX4_monthOf 61 = .ok (.iaload, 1) := by decide +kernel
theorem dX4_monthOf_62 : decode cX4_monthOf 62 = .ok (.ireturn, 1) := by decide +kernel
theorem dX4_monthOf_63 : decode cX4_monthOf 63 = .ok (.aload_n 0, 1) := by decide +kernel
theorem dX4_monthOf_64 : decode cX4_monthOf 64 = .ok (.getfield 10, 3) := by decide +kernel
theorem dX4_monthOf_67 : decode cX4_monthOf 67 = .ok (.getfield 64, 3) := by decide +kernel
theorem dX4_monthOf_70 : decode cX4_monthOf 70 = .ok (.iload_n 1, 1) := by decide +kernel
theorem dX4_monthOf_71 : decode cX4_monthOf 71 = .ok (.iaload, 1) := by decide +kernel
theorem dX4_monthOf_72 : decode cX4_monthOf 72 = .ok (.ireturn, 1) := by decide +kernel
theorem dX4_monthOf_73 : decode cX4_monthOf 73 = .ok (.aload_n 0, 1) := by decide +kernel
theorem dX4_monthOf_74 : decode cX4_monthOf 74 = .ok (.iconst 0, 1) := by decide +kernel
theorem dX4_monthOf_75 : decode cX4_monthOf 75 = .ok (.invokevirtual 54, 3) := by decide +kernel
theorem dX4_monthOf_78 : decode cX4_monthOf 78 = .ok (.ireturn, 1) := by decide +kernel
theorem dX4_now_0 : decode cX4_now 0 = .ok (.iload_n 1, 1) := by decide +kernel
theorem dX4_now_1 : decode cX4_now 1 = .ok (.tableswitch 104 0 5 #[39, 47, 55, 74, 85, 96], 39) := by decide +kernel
theorem dX4_now_40 : decode cX4_now 40 = .ok (.aload_n 0, 1) := by decide +kernel
theorem dX4_now_41 : decode cX4_now 41 = .ok (.getfield 10, 3) := by decide +kernel
theorem dX4_now_44 : decode cX4_now 44 = .ok (.getfield 67, 3) := by decide +kernel
theorem dX4_now_47 : decode cX4_now 47 = .ok (.ireturn, 1) := by decide +kernel
theorem dX4_now_48 : decode cX4_now 48 = .ok (.aload_n 0, 1) := by decide +kernel
theorem dX4_now_49 : decode cX4_now 49 = .ok (.getfield 10, 3) := by decide +kernel
theorem dX4_now_52 : decode cX4_now 52 = .ok (.invokevirtual 71, 3) := by decide +kernel
theorem dX4_now_55 : decode cX4_now 55 = .ok (.ireturn, 1) := by decide +kernel
theorem dX4_now_56 : decode cX4_now 56 = .ok (.bipush 100, 2) := by decide +kernel
theorem dX4_now_58 : decode cX4_now 58 = .ok (.aload_n 0, 1) := by decide +kernel
theorem dX4_now_59 : decode cX4_now 59 = .ok (.getfield 10, 3) := by decide +kernel
theorem dX4_now_62 : decode cX4_now 62 = .ok (.getfield 58, 3) := by decide +kernel
theorem dX4_now_65 : decode cX4_now 65 = .ok (.aload_n 0, 1) := by decide +kernel
theorem dX4_now_66 : decode cX4_now 66 = .ok (.getfield 10, 3) := by decide +kernel
theorem dX4_now_69 : decode cX4_now 69 = .ok (.invokevirtual 71, 3) := by decide +kernel
theorem dX4_now_72 : decode cX4_now 72 = .ok (.iaload, 1) := by decide +kernel
theorem dX4_now_73 : decode cX4_now 73 = .ok (.iadd, 1) := by decide +kernel
theorem dX4_now_74 : decode cX4_now 74 = .ok (.ireturn, 1) := by decide +kernel
theorem dX4_now_75 : decode cX4_now 75 = .ok (.aload_n 0, 1) := by decide +kernel
theorem dX4_now_76 : decode cX4_now 76 = .ok (.getfield 10, 3) := by decide +kernel
theorem dX4_now_79 : decode cX4_now 79 = .ok (.getfield 61, 3) := by decide +kernel
theorem dX4_now_82 : decode cX4_now 82 = .ok (.invokestatic 75, 3) := by decide +kernel
theorem dX4_now_85 : decode cX4_now 85 = .ok (.ireturn, 1) := by decide +kernel
theorem dX4_now_86 : decode cX4_now 86 = .ok (.aload_n 0, 1) := by decide +kernel
theorem dX4_now_87 : decode cX4_now 87 = .ok (.getfield 10, 3) := by decide +kernel
theorem dX4_now_90 : decode cX4_now 90 = .ok (.getfield 64, 3) := by decide +kernel
theorem dX4_now_93 : decode cX4_now 93 = .ok (.invokestatic 75, 3) := by decide +kernel
theorem dX4_now_96 : decode cX4_now 96 = .ok (.ireturn, 1) := by decide +kernel
theorem dX4_now_97 : decode cX4_now 97 = .ok (.aload_n 0, 1) := by decide +kernel
theorem dX4_now_98 : decode cX4_now 98 = .ok (.getfield 10, 3) := by decide +kernel
theorem dX4_now_101 : decode cX4_now 101 = .ok (.invokevirtual 79, 3) := by decide +kernel
theorem dX4_now_104 : decode cX4_now 104 = .ok (.ireturn, 1) := by decide +kernel
theorem dX4_now_105 : decode cX4_now 105 = .ok (.aload_n 0, 1) := by decide +kernel
theorem dX4_now_106 : decode cX4_now 106 = .ok (.iconst 0, 1) := by decide +kernel
theorem dX4_now_107 : decode cX4_now 107 = .ok (.invokevirtual 54, 3) := by decide +kernel
theorem dX4_now_110 : decode cX4_now 110 = .ok (.ireturn, 1) := by decide +kernel
theorem dX4_ewe_0 : decode cX4_ewe 0 = .ok (.iload_n 1, 1) := by decide +kernel
theorem dX4_ewe_1 : decode cX4_ewe 1 = .ok (.invokestatic 82, 3) := by decide +kernel
theorem dX4_ewe_4 : decode cX4_ewe 4 = .ok (.ifCond .ne 9, 3) := by decide +kernel
theorem dX4_ewe_7 : decode cX4_ewe 7 = .ok (.aload_n 0, 1) := by decide +kernel
theorem dX4_ewe_8 : decode cX4_ewe 8 = .ok (.iconst 0, 1) := by decide +kernel
theorem dX4_ewe_9 : decode cX4_ewe 9 = .ok (.invokevirtual 54, 3) := by decide +kernel
theorem dX4_ewe_12 : decode cX4_ewe 12 = .ok (.ireturn, 1) := by decide +kernel
theorem dX4_ewe_13 : decode cX4_ewe 13 = .ok (.aload_n 0, 1) := by decide +kernel
theorem dX4_ewe_14 : decode cX4_ewe 14 = .ok (.getfield 10, 3) := by decide +kernel
theorem dX4_ewe_17 : decode cX4_ewe 17 = .ok (.invokevirtual 85, 3) := by decide +kernel
theorem dX4_ewe_20 : decode cX4_ewe 20 = .ok (.ifCond .eq 9, 3) := by decide +kernel
theorem dX4_ewe_23 : decode cX4_ewe 23 = .ok (.aload_n 0, 1) := by decide +kernel
theorem dX4_ewe_24 : decode cX4_ewe 24 = .ok (.iconst 1, 1) := by decide +kernel
theorem dX4_ewe_25 : decode cX4_ewe 25 = .ok (.invokevirtual 54, 3) := by decide +kernel
theorem dX4_ewe_28 : decode cX4_ewe 28 = .ok (.ireturn, 1) := by decide +kernel
theorem dX4_ewe_29 : decode cX4_ewe 29 = .ok (.aload_n 0, 1) := by decide +kernel
theorem dX4_ewe_30 : decode cX4_ewe 30 = .ok (.getfield 10, 3) := by decide +kernel
theorem dX4_ewe_33 : decode cX4_ewe 33 = .ok (.iload_n 1, 1) := by decide +kernel
theorem dX4_ewe_34 : decode cX4_ewe 34 = .ok (.iconst 0, 1) := by decide +kernel
theorem dX4_ewe_35 : decode cX4_ewe 35 = .ok (.invokevirtual 89, 3) := by decide +kernel
theorem dX4_ewe_38 : decode cX4_ewe 38 = .ok (.aload_n 0, 1) := by decide +kernel
theorem dX4_ewe_39 : decode cX4_ewe 39 = .ok (.getfield 10, 3) := by decide +kernel
theorem dX4_ewe_42 : decode cX4_ewe 42 = .ok (.getfield 93, 3) := by decide +kernel
theorem dX4_ewe_45 : decode cX4_ewe 45 = .ok (.iconst 1, 1) := by decide +kernel
theorem dX4_ewe_46 : decode cX4_ewe 46 = .ok (.isub, 1) := by decide +kernel
theorem dX4_ewe_47 : decode cX4_ewe 47 = .ok (.ireturn, 1) := by decide +kernel
theorem dX4_of_0 : decode cX4_of 0 = .ok (.aload_n 0, 1) := by decide +kernel
theorem dX4_of_1 : decode cX4_of 1 = .ok (.iload_n 1, 1) := by decide +kernel
theorem dX4_of_2 : decode cX4_of 2 = .ok (.invokevirtual 96, 3) := by decide +kernel
theorem dX4_of_5 : decode cX4_of 5 = .ok (.ifCond .ne 9, 3) := by decide +kernel
theorem dX4_of_8 : decode cX4_of 8 = .ok (.aload_n 0, 1) := by decide +kernel
theorem dX4_of_9 : decode cX4_of 9 = .ok (.iconst 0, 1) := by decide +kernel
theorem dX4_of_10 : decode cX4_of 10 = .ok (.invokevirtual 54, 3) := by decide +kernel
theorem dX4_of_13 : decode cX4_of 13 = .ok (.ireturn, 1) := by decide +kernel
theorem dX4_of_14 : decode cX4_of 14 = .ok (.aload_n 0, 1) := by decide +kernel
theorem dX4_of_15 : decode cX4_of 15 = .ok (.getfield 10, 3) := by decide +kernel
theorem dX4_of_18 : decode cX4_of 18 = .ok (.getfield 99, 3) := by decide +kernel
theorem dX4_of_21 : decode cX4_of 21 = .ok (.iload_n 1, 1) := by decide +kernel
theorem dX4_of_22 : decode cX4_of 22 = .ok (.aaload, 1) := by decide +kernel
theorem dX4_of_23 : decode cX4_of 23 = .ok (.astore_n 3, 1) := by decide +kernel
theorem dX4_of_24 : decode cX4_of 24 = .ok (.iload_n 2, 1) := by decide +kernel
theorem dX4_of_25 : decode cX4_of 25 = .ok (.tableswitch 54 0 3 #[31, 36, 41, 46], 31) := by decide +kernel
theorem dX4_of_56 : decode cX4_of 56 = .ok (.aload_n 3, 1) := by decide +kernel
theorem dX4_of_57 : decode cX4_of 57 = .ok (.getfield 103, 3) := by decide +kernel
theorem dX4_of_60 : decode cX4_of 60 = .ok (.ireturn, 1) := by decide +kernel
theorem dX4_of_61 : decode cX4_of 61 = .ok (.aload_n 3, 1) := by decide +kernel
theorem dX4_of_62 : decode cX4_of 62 = .ok (.getfield 106, 3) := by decide +kernel
theorem dX4_of_65 : decode cX4_of 65 = .ok (.ireturn, 1) := by decide +kernel
theorem dX4_of_66 : decode cX4_of 66 = .ok (.aload_n 3, 1) := by decide +kernel
theorem dX4_of_67 : decode cX4_of 67 = .ok (.getfield 109, 3) := by decide +kernel
theorem dX4_of_70 : decode cX4_of 70 = .ok (.ireturn, 1) := by decide +kernel
theorem dX4_of_71 : decode cX4_of 71 = .ok (.aload_n 3, 1) := by decide +kernel
theorem dX4_of_72 : decode cX4_of 72 = .ok (.getfield 103, 3) := by decide +kernel
theorem dX4_of_75 : decode cX4_of 75 = .ok (.invokestatic 112, 3) := by decide +kernel
theorem dX4_of_78 : decode cX4_of 78 = .ok (.ireturn, 1) := by decide +kernel
theorem dX4_of_79 : decode cX4_of 79 = .ok (.aload_n 0, 1) := by decide +kernel
theorem dX4_of_80 : decode cX4_of 80 = .ok (.iconst 0, 1) := by decide +kernel
theorem dX4_of_81 : decode cX4_of 81 = .ok (.invokevirtual 54, 3) := by decide +kernel
theorem dX4_of_84 : decode cX4_of 84 = .ok (.ireturn, 1) := by decide +kernel
theorem dX4_fleece_0 : decode cX4_fleece 0 = .ok (.aload_n 0, 1) := by decide +kernel
theorem dX4_fleece_1 : decode cX4_fleece 1 = .ok (.iload_n 1, 1) := by decide +kernel
theorem dX4_fleece_2 : decode cX4_fleece 2 = .ok (.invokevirtual 96, 3) := by decide +kernel
theorem dX4_fleece_5 : decode cX4_fleece 5 = .ok (.ifCond .eq 10, 3) := by decide +kernel
theorem dX4_fleece_8 : decode cX4_fleece 8 = .ok (.iload_n 2, 1) := by decide +kernel
theorem dX4_fleece_9 : decode cX4_fleece 9 = .ok (.invokestatic 47, 3) := by decide +kernel
theorem dX4_fleece_12 : decode cX4_fleece 12 = .ok (.ifCond .ne 9, 3) := by decide +kernel
theorem dX4_fleece_15 : decode cX4_fleece 15 = .ok (.aload_n 0, 1) := by decide +kernel
theorem dX4_fleece_16 : decode cX4_fleece 16 = .ok (.iconst 0, 1) := by decide +kernel
theorem dX4_fleece_17 : decode cX4_fleece 17 = .ok (.invokevirtual 54, 3) := by decide +kernel
theorem dX4_fleece_20 : decode cX4_fleece 20 = .ok (.ireturn, 1) := by decide +kernel
theorem dX4_fleece_21 : decode cX4_fleece 21 = .ok (.aload_n 0, 1) := by decide +kernel
theorem dX4_fleece_22 : decode cX4_fleece 22 = .ok (.getfield 10, 3) := by decide +kernel
theorem dX4_fleece_25 : decode cX4_fleece 25 = .ok (.getfield 99, 3) := by decide +kernel
theorem dX4_fleece_28 : decode cX4_fleece 28 = .ok (.iload_n 1, 1) := by decide +kernel
theorem dX4_fleece_29 : decode cX4_fleece 29 = .ok (.aaload, 1) := by decide +kernel
theorem dX4_fleece_30 : decode cX4_fleece 30 = .ok (.getfield 115, 3) := by decide +kernel
theorem dX4_fleece_33 : decode cX4_fleece 33 = .ok (.iload_n 2, 1) := by decide +kernel
theorem dX4_fleece_34 : decode cX4_fleece 34 = .ok (.iaload, 1) := by decide +kernel
theorem dX4_fleece_35 : decode cX4_fleece 35 = .ok (.ireturn, 1) := by decide +kernel
theorem dX4_can_0 : decode cX4_can 0 = .ok (.aload_n 0, 1) := by decide +kernel
theorem dX4_can_1 : decode cX4_can 1 = .ok (.iload_n 1, 1) := by decide +kernel
theorem dX4_can_2 : decode cX4_can 2 = .ok (.invokevirtual 96, 3) := by decide +kernel
theorem dX4_can_5 : decode cX4_can 5 = .ok (.ifCond .eq 10, 3) := by decide +kernel
theorem dX4_can_8 : decode cX4_can 8 = .ok (.iload_n 3, 1) := by decide +kernel
theorem dX4_can_9 : decode cX4_can 9 = .ok (.invokestatic 51, 3) := by decide +kernel
theorem dX4_can_12 : decode cX4_can 12 = .ok (.ifCond .ne 9, 3) := by decide +kernel
theorem dX4_can_15 : decode cX4_can 15 = .ok (.aload_n 0, 1) := by decide +kernel
theorem dX4_can_16 : decode cX4_can 16 = .ok (.iconst 0, 1) := by decide +kernel
theorem dX4_can_17 : decode cX4_can 17 = .ok (.invokevirtual 54, 3) := by decide +kernel
theorem dX4_can_20 : decode cX4_can 20 = .ok (.ireturn, 1) := by decide +kernel
theorem dX4_can_21 : decode cX4_can 21 = .ok (.aload_n 0, 1) := by decide +kernel
theorem dX4_can_22 : decode cX4_can 22 = .ok (.getfield 10, 3) := by decide +kernel
theorem dX4_can_25 : decode cX4_can 25 = .ok (.getfield 99, 3) := by decide +kernel
theorem dX4_can_28 : decode cX4_can 28 = .ok (.iload_n 1, 1) := by decide +kernel
theorem dX4_can_29 : decode cX4_can 29 = .ok (.aaload, 1) := by decide +kernel
theorem dX4_can_30 : decode cX4_can 30 = .ok (.astore 4, 2) := by decide +kernel
theorem dX4_can_32 : decode cX4_can 32 = .ok (.iload_n 2, 1) := by decide +kernel
theorem dX4_can_33 : decode cX4_can 33 = .ok (.tableswitch 61 0 2 #[27, 37, 51], 27) := by decide +kernel
theorem dX4_can_60 : decode cX4_can 60 = .ok (.aload 4, 2) := by decide +kernel
theorem dX4_can_62 : decode cX4_can 62 = .ok (.getfield 103, 3) := by decide +kernel
theorem dX4_can_65 : decode cX4_can 65 = .ok (.iload_n 3, 1) := by decide +kernel
theorem dX4_can_66 : decode cX4_can 66 = .ok (.invokestatic 118, 3) := by decide +kernel
theorem dX4_can_69 : decode cX4_can 69 = .ok (.ireturn, 1) := by decide +kernel
theorem dX4_can_70 : decode cX4_can 70 = .ok (.aload 4, 2) := by decide +kernel
theorem dX4_can_72 : decode cX4_can 72 = .ok (.getfield 103, 3) := by decide +kernel
theorem dX4_can_75 : decode cX4_can 75 = .ok (.aload 4, 2) := by decide +kernel
theorem dX4_can_77 : decode cX4_can 77 = .ok (.getfield 106, 3) := by decide +kernel
theorem dX4_can_80 : decode cX4_can 80 = .ok (.invokestatic 122, 3) := by decide +kernel
theorem dX4_can_83 : decode cX4_can 83 = .ok (.ireturn, 1) := by decide +kernel
theorem dX4_can_84 : decode cX4_can 84 = .ok (.aload 4, 2) := by decide +kernel
theorem dX4_can_86 : decode cX4_can 86 = .ok (.getfield 103, 3) := by decide +kernel
theorem dX4_can_89 : decode cX4_can 89 = .ok (.iload_n 3, 1) := by decide +kernel
theorem dX4_can_90 : decode cX4_can 90 = .ok (.invokestatic 125, 3) := by decide +kernel
theorem dX4_can_93 : decode cX4_can 93 = .ok (.ireturn, 1) := by decide +kernel
theorem dX4_can_94 : decode cX4_can 94 = .ok (.aload_n 0, 1) := by decide +kernel
theorem dX4_can_95 : decode cX4_can 95 = .ok (.iconst 0, 1) := by decide +kernel
theorem dX4_can_96 : decode cX4_can 96 = .ok (.invokevirtual 54, 3) := by decide +kernel
theorem dX4_can_99 : decode cX4_can 99 = .ok (.ireturn, 1) := by decide +kernel
theorem dX4_scare_0 : decode cX4_scare 0 = .ok (.aload_n 0, 1) := by decide +kernel
theorem dX4_scare_1 : decode cX4_scare 1 = .ok (.iload_n 1, 1) := by decide +kernel
theorem dX4_scare_2 : decode cX4_scare 2 = .ok (.invokevirtual 96, 3) := by decide +kernel
theorem dX4_scare_5 : decode cX4_scare 5 = .ok (.ifCond .eq 13, 3) := by decide +kernel
theorem dX4_scare_8 : decode cX4_scare 8 = .ok (.iload_n 2, 1) := by decide +kernel
theorem dX4_scare_9 : decode cX4_scare 9 = .ok (.iconst 0, 1) := by decide +kernel
theorem dX4_scare_10 : decode cX4_scare 10 = .ok (.bipush 99, 2) := by decide +kernel
theorem dX4_scare_12 : decode cX4_scare 12 = .ok (.invokestatic 128, 3) := by decide +kernel
theorem dX4_scare_15 : decode cX4_scare 15 = .ok (.ifCond .ne 9, 3) := by decide +kernel
theorem dX4_scare_18 : decode cX4_scare 18 = .ok (.aload_n 0, 1) := by decide +kernel
theorem dX4_scare_19 : decode cX4_scare 19 = .ok (.iconst 0, 1) := by decide +kernel
theorem dX4_scare_20 : decode cX4_scare 20 = .ok (.invokevirtual 54, 3) := by decide +kernel
theorem dX4_scare_23 : decode cX4_scare 23 = .ok (.ireturn, 1) := by decide +kernel
theorem dX4_scare_24 : decode cX4_scare 24 = .ok (.aload_n 0, 1) := by decide +kernel
theorem dX4_scare_25 : decode cX4_scare 25 = .ok (.getfield 10, 3) := by decide +kernel
theorem dX4_scare_28 : decode cX4_scare 28 = .ok (.getfield 99, 3) := by decide +kernel
theorem dX4_scare_31 : decode cX4_scare 31 = .ok (.iload_n 1, 1) := by decide +kernel
theorem dX4_scare_32 : decode cX4_scare 32 = .ok (.aaload, 1) := by decide +kernel
theorem dX4_scare_33 : decode cX4_scare 33 = .ok (.getfield 106, 3) := by decide +kernel
theorem dX4_scare_36 : decode cX4_scare 36 = .ok (.istore_n 3, 1) := by decide +kernel
theorem dX4_scare_37 : decode cX4_scare 37 = .ok (.aload_n 0, 1) := by decide +kernel
theorem dX4_scare_38 : decode cX4_scare 38 = .ok (.getfield 10, 3) := by decide +kernel
theorem dX4_scare_41 : decode cX4_scare 41 = .ok (.getfield 99, 3) := by decide +kernel
theorem dX4_scare_44 : decode cX4_scare 44 = .ok (.iload_n 1, 1) := by decide +kernel
theorem dX4_scare_45 : decode cX4_scare 45 = .ok (.aaload, 1) := by decide +kernel
theorem dX4_scare_46 : decode cX4_scare 46 = .ok (.iload_n 2, 1) := by decide +kernel
theorem dX4_scare_47 : decode cX4_scare 47 = .ok (.putfield 106, 3) := by decide +kernel
theorem dX4_scare_50 : decode cX4_scare 50 = .ok (.iload_n 3, 1) := by decide +kernel
theorem dX4_scare_51 : decode cX4_scare 51 = .ok (.ireturn, 1) := by decide +kernel
theorem dX4_turn_0 : decode cX4_turn 0 = .ok (.aload_n 0, 1) := by decide +kernel
theorem dX4_turn_1 : decode cX4_turn 1 = .ok (.iload_n 1, 1) := by decide +kernel
theorem dX4_turn_2 : decode cX4_turn 2 = .ok (.invokevirtual 96, 3) := by decide +kernel
theorem dX4_turn_5 : decode cX4_turn 5 = .ok (.ifCond .eq 10, 3) := by decide +kernel
theorem dX4_turn_8 : decode cX4_turn 8 = .ok (.iload_n 2, 1) := by decide +kernel
theorem dX4_turn_9 : decode cX4_turn 9 = .ok (.invokestatic 82, 3) := by decide +kernel
theorem dX4_turn_12 : decode cX4_turn 12 = .ok (.ifCond .ne 9, 3) := by decide +kernel
theorem dX4_turn_15 : decode cX4_turn 15 = .ok (.aload_n 0, 1) := by decide +kernel
theorem dX4_turn_16 : decode cX4_turn 16 = .ok (.iconst 0, 1) := by decide +kernel
theorem dX4_turn_17 : decode cX4_turn 17 = .ok (.invokevirtual 54, 3) := by decide +kernel
theorem dX4_turn_20 : decode cX4_turn 20 = .ok (.ireturn, 1) := by decide +kernel
theorem dX4_turn_21 : decode cX4_turn 21 = .ok (.aload_n 0, 1) := by decide +kernel
theorem dX4_turn_22 : decode cX4_turn 22 = .ok (.getfield 10, 3) := by decide +kernel
theorem dX4_turn_25 : decode cX4_turn 25 = .ok (.getfield 99, 3) := by decide +kernel
theorem dX4_turn_28 : decode cX4_turn 28 = .ok (.iload_n 1, 1) := by decide +kernel
theorem dX4_turn_29 : decode cX4_turn 29 = .ok (.aaload, 1) := by decide +kernel
theorem dX4_turn_30 : decode cX4_turn 30 = .ok (.getfield 103, 3) := by decide +kernel
theorem dX4_turn_33 : decode cX4_turn 33 = .ok (.istore_n 3, 1) := by decide +kernel
theorem dX4_turn_34 : decode cX4_turn 34 = .ok (.aload_n 0, 1) := by decide +kernel
theorem dX4_turn_35 : decode cX4_turn 35 = .ok (.getfield 10, 3) := by decide +kernel
theorem dX4_turn_38 : decode cX4_turn 38 = .ok (.getfield 99, 3) := by decide +kernel
theorem dX4_turn_41 : decode cX4_turn 41 = .ok (.iload_n 1, 1) := by decide +kernel
theorem dX4_turn_42 : decode cX4_turn 42 = .ok (.aaload, 1) := by decide +kernel
theorem dX4_turn_43 : decode cX4_turn 43 = .ok (.iload_n 2, 1) := by decide +kernel
theorem dX4_turn_44 : decode cX4_turn 44 = .ok (.putfield 103, 3) := by decide +kernel
theorem dX4_turn_47 : decode cX4_turn 47 = .ok (.iload_n 3, 1) := by decide +kernel
theorem dX4_turn_48 : decode cX4_turn 48 = .ok (.ireturn, 1) := by decide +kernel
theorem dX4_as_0 : decode cX4_as 0 = .ok (.aload_n 0, 1) := by decide +kernel
theorem dX4_as_1 : decode cX4_as 1 = .ok (.iload_n 1, 1) := by decide +kernel
theorem dX4_as_2 : decode cX4_as 2 = .ok (.invokevirtual 96, 3) := by decide +kernel
theorem dX4_as_5 : decode cX4_as 5 = .ok (.ifCond .eq 10, 3) := by decide +kernel
theorem dX4_as_8 : decode cX4_as 8 = .ok (.iload_n 2, 1) := by decide +kernel
theorem dX4_as_9 : decode cX4_as 9 = .ok (.invokestatic 82, 3) := by decide +kernel
theorem dX4_as_12 : decode cX4_as 12 = .ok (.ifCond .ne 9, 3) := by decide +kernel
theorem dX4_as_15 : decode cX4_as 15 = .ok (.aload_n 0, 1) := by decide +kernel
theorem dX4_as_16 : decode cX4_as 16 = .ok (.iconst 0, 1) := by decide +kernel
theorem dX4_as_17 : decode cX4_as 17 = .ok (.invokevirtual 54, 3) := by decide +kernel
theorem dX4_as_20 : decode cX4_as 20 = .ok (.ireturn, 1) := by decide +kernel
theorem dX4_as_21 : decode cX4_as 21 = .ok (.aload_n 0, 1) := by decide +kernel
theorem dX4_as_22 : decode cX4_as 22 = .ok (.getfield 10, 3) := by decide +kernel
theorem dX4_as_25 : decode cX4_as 25 = .ok (.getfield 99, 3) := by decide +kernel
theorem dX4_as_28 : decode cX4_as 28 = .ok (.iload_n 1, 1) := by decide +kernel
theorem dX4_as_29 : decode cX4_as 29 = .ok (.aaload, 1) := by decide +kernel
theorem dX4_as_30 : decode cX4_as 30 = .ok (.astore_n 3, 1) := by decide +kernel
theorem dX4_as_31 : decode cX4_as 31 = .ok (.aload_n 3, 1) := by decide +kernel
theorem dX4_as_32 : decode cX4_as 32 = .ok (.getfield 103, 3) := by decide +kernel
theorem dX4_as_35 : decode cX4_as 35 = .ok (.iload_n 2, 1) := by decide +kernel
theorem dX4_as_36 : decode cX4_as 36 = .ok (.invokestatic 132, 3) := by decide +kernel
theorem dX4_as_39 : decode cX4_as 39 = .ok (.ifCond .eq 10, 3) := by decide +kernel
theorem dX4_as_42 : decode cX4_as 42 = .ok (.aload_n 3, 1) := by decide +kernel
theorem dX4_as_43 : decode cX4_as 43 = .ok (.getfield 106, 3) := by decide +kernel
theorem dX4_as_46 : decode cX4_as 46 = .ok (.goto 8, 3) := by decide +kernel
theorem dX4_as_49 : decode cX4_as 49 = .ok (.aload_n 0, 1) := by decide +kernel
theorem dX4_as_50 : decode cX4_as 50 = .ok (.iconst 2, 1) := by decide +kernel
theorem dX4_as_51 : decode cX4_as 51 = .ok (.invokevirtual 54, 3) := by decide +kernel
theorem dX4_as_54 : decode cX4_as 54 = .ok (.ireturn, 1) := by decide +kernel
theorem dX4_cut_0 : decode cX4_cut 0 = .ok (.iload_n 1, 1) := by decide +kernel
theorem dX4_cut_1 : decode cX4_cut 1 = .ok (.invokestatic 136, 3) := by decide +kernel
theorem dX4_cut_4 : decode cX4_cut 4 = .ok (.ifCond .eq 21, 3) := by decide +kernel
theorem dX4_cut_7 : decode cX4_cut 7 = .ok (.iload_n 2, 1) := by decide +kernel
theorem dX4_cut_8 : decode cX4_cut 8 = .ok (.invokestatic 47, 3) := by decide +kernel
theorem dX4_cut_11 : decode cX4_cut 11 = .ok (.ifCond .eq 14, 3) := by decide +kernel
theorem dX4_cut_14 : decode cX4_cut 14 = .ok (.iload_n 3, 1) := by decide +kernel
theorem dX4_cut_15 : decode cX4_cut 15 = .ok (.iconst 1, 1) := by decide +kernel
theorem dX4_cut_16 : decode cX4_cut 16 = .ok (.sipush 999, 3) := by decide +kernel
theorem dX4_cut_19 : decode cX4_cut 19 = .ok (.invokestatic 128, 3) := by decide +kernel
theorem dX4_cut_22 : decode cX4_cut 22 = .ok (.ifCond .ne 9, 3) := by decide +kernel
theorem dX4_cut_25 : decode cX4_cut 25 = .ok (.aload_n 0, 1) := by decide +kernel
theorem dX4_cut_26 : decode cX4_cut 26 = .ok (.iconst 0, 1) := by decide +kernel
theorem dX4_cut_27 : decode cX4_cut 27 = .ok (.invokevirtual 54, 3) := by decide +kernel
theorem dX4_cut_30 : decode cX4_cut 30 = .ok (.ireturn, 1) := by decide +kernel
theorem dX4_cut_31 : decode cX4_cut 31 = .ok (.iload_n 3, 1) := by decide +kernel
theorem dX4_cut_32 : decode cX4_cut 32 = .ok (.aload_n 0, 1) := by decide +kernel
theorem dX4_cut_33 : decode cX4_cut 33 = .ok (.getfield 10, 3) := by decide +kernel
theorem dX4_cut_36 : decode cX4_cut 36 = .ok (.getfield 61, 3) := by decide +kernel
theorem dX4_cut_39 : decode cX4_cut 39 = .ok (.iload_n 2, 1) := by decide +kernel
theorem dX4_cut_40 : decode cX4_cut 40 = .ok (.iaload, 1) := by decide +kernel
theorem dX4_cut_41 : decode cX4_cut 41 = .ok (.if_icmp .le 9, 3) := by decide +kernel
theorem dX4_cut_44 : decode cX4_cut 44 = .ok (.aload_n 0, 1) := by decide +kernel
theorem dX4_cut_45 : decode cX4_cut 45 = .ok (.iconst 4, 1) := by decide +kernel
theorem dX4_cut_46 : decode cX4_cut 46 = .ok (.invokevirtual 54, 3) := by decide +kernel
theorem dX4_cut_49 : decode cX4_cut 49 = .ok (.ireturn, 1) := by decide +kernel
theorem dX4_cut_50 : decode cX4_cut 50 = .ok (.iload_n 3, 1) := by decide +kernel
theorem dX4_cut_51 : decode cX4_cut 51 = .ok (.aload_n 0, 1) := by decide +kernel
theorem dX4_cut_52 : decode cX4_cut 52 = .ok (.getfield 10, 3) := by decide +kernel
theorem dX4_cut_55 : decode cX4_cut 55 = .ok (.iload_n 1, 1) := by decide +kernel
theorem dX4_cut_56 : decode cX4_cut 56 = .ok (.iload_n 2, 1) := by decide +kernel
theorem dX4_cut_57 : decode cX4_cut 57 = .ok (.invokevirtual 139, 3) := by decide +kernel
theorem dX4_cut_60 : decode cX4_cut 60 = .ok (.if_icmp .le 9, 3) := by decide +kernel
theorem dX4_cut_63 : decode cX4_cut 63 = .ok (.aload_n 0, 1) := by decide +kernel
theorem dX4_cut_64 : decode cX4_cut 64 = .ok (.iconst 1, 1) := by decide +kernel
theorem dX4_cut_65 : decode cX4_cut 65 = .ok (.invokevirtual 54, 3) := by decide +kernel
theorem dX4_cut_68 : decode cX4_cut 68 = .ok (.ireturn, 1) := by decide +kernel
theorem dX4_cut_69 : decode cX4_cut 69 = .ok (.aload_n 0, 1) := by decide +kernel
theorem dX4_cut_70 : decode cX4_cut 70 = .ok (.getfield 10, 3) := by decide +kernel
theorem dX4_cut_73 : decode cX4_cut 73 = .ok (.iload_n 1, 1) := by decide +kernel
theorem dX4_cut_74 : decode cX4_cut 74 = .ok (.iload_n 2, 1) := by decide +kernel
theorem dX4_cut_75 : decode cX4_cut 75 = .ok (.iload_n 3, 1) := by decide +kernel
theorem dX4_cut_76 : decode cX4_cut 76 = .ok (.invokevirtual 142, 3) := by decide +kernel
theorem dX4_cut_79 : decode cX4_cut 79 = .ok (.aload_n 0, 1) := by decide +kernel
theorem dX4_cut_80 : decode cX4_cut 80 = .ok (.getfield 10, 3) := by decide +kernel
theorem dX4_cut_83 : decode cX4_cut 83 = .ok (.getfield 146, 3) := by decide +kernel
theorem dX4_cut_86 : decode cX4_cut 86 = .ok (.iload_n 1, 1) := by decide +kernel
theorem dX4_cut_87 : decode cX4_cut 87 = .ok (.aaload, 1) := by decide +kernel
theorem dX4_cut_88 : decode cX4_cut 88 = .ok (.iload_n 2, 1) := by decide +kernel
theorem dX4_cut_89 : decode cX4_cut 89 = .ok (.iaload, 1) := by decide +kernel
theorem dX4_cut_90 : decode cX4_cut 90 = .ok (.ireturn, 1) := by decide +kernel
theorem dX4_coatOf_0 : decode cX4_coatOf 0 = .ok (.iload_n 1, 1) := by decide +kernel
theorem dX4_coatOf_1 : decode cX4_coatOf 1 = .ok (.invokestatic 136, 3) := by decide +kernel
theorem dX4_coatOf_4 : decode cX4_coatOf 4 = .ok (.ifCond .ne 9, 3) := by decide +kernel
theorem dX4_coatOf_7 : decode cX4_coatOf 7 = .ok (.aload_n 0, 1) := by decide +kernel
theorem dX4_coatOf_8 : decode cX4_coatOf 8 = .ok (.iconst 0, 1) := by decide +kernel
theorem dX4_coatOf_9 : decode cX4_coatOf 9 = .ok (.invokevirtual 54, 3) := by decide +kernel
theorem dX4_coatOf_12 : decode cX4_coatOf 12 = .ok (.ireturn, 1) := by decide +kernel
theorem dX4_coatOf_13 : decode cX4_coatOf 13 = .ok (.iload_n 2, 1) := by decide +kernel
theorem dX4_coatOf_14 : decode cX4_coatOf 14 = .ok (.tableswitch 70 0 3 #[30, 39, 48, 61], 30) := by decide +kernel
theorem dX4_coatOf_44 : decode cX4_coatOf 44 = .ok (.aload_n 0, 1) := by decide +kernel
theorem dX4_coatOf_45 : decode cX4_coatOf 45 = .ok (.getfield 10, 3) := by decide +kernel
theorem dX4_coatOf_48 : decode cX4_coatOf 48 = .ok (.iload_n 1, 1) := by decide +kernel
theorem dX4_coatOf_49 : decode cX4_coatOf 49 = .ok (.invokevirtual 150, 3) := by decide +kernel
theorem dX4_coatOf_52 : decode cX4_coatOf 52 = .ok (.ireturn, 1) := by decide +kernel
theorem dX4_coatOf_53 : decode cX4_coatOf 53 = .ok (.aload_n 0, 1) := by decide +kernel
theorem dX4_coatOf_54 : decode cX4_coatOf 54 = .ok (.getfield 10, 3) := by decide +kernel
theorem dX4_coatOf_57 : decode cX4_coatOf 57 = .ok (.iload_n 1, 1) := by decide +kernel
theorem dX4_coatOf_58 : decode cX4_coatOf 58 = .ok (.invokevirtual 153, 3) := by decide +kernel
theorem dX4_coatOf_61 : decode cX4_coatOf 61 = .ok (.ireturn, 1) := by decide +kernel
theorem dX4_coatOf_62 : decode cX4_coatOf 62 = .ok (.aload_n 0, 1) := by decide +kernel
theorem dX4_coatOf_63 : decode cX4_coatOf 63 = .ok (.getfield 10, 3) := by decide +kernel
theorem dX4_coatOf_66 : decode cX4_coatOf 66 = .ok (.getfield 146, 3) := by decide +kernel
theorem dX4_coatOf_69 : decode cX4_coatOf 69 = .ok (.iload_n 1, 1) := by decide +kernel
theorem dX4_coatOf_70 : decode cX4_coatOf 70 = .ok (.aaload, 1) := by decide +kernel
theorem dX4_coatOf_71 : decode cX4_coatOf 71 = .ok (.invokestatic 75, 3) := by decide +kernel
theorem dX4_coatOf_74 : decode cX4_coatOf 74 = .ok (.ireturn, 1) := by decide +kernel
theorem dX4_coatOf_75 : decode cX4_coatOf 75 = .ok (.aload_n 0, 1) := by decide +kernel
theorem dX4_coatOf_76 : decode cX4_coatOf 76 = .ok (.getfield 10, 3) := by decide +kernel
theorem dX4_coatOf_79 : decode cX4_coatOf 79 = .ok (.iload_n 1, 1) := by decide +kernel
theorem dX4_coatOf_80 : decode cX4_coatOf 80 = .ok (.invokevirtual 156, 3) := by decide +kernel
theorem dX4_coatOf_83 : decode cX4_coatOf 83 = .ok (.ireturn, 1) := by decide +kernel
theorem dX4_coatOf_84 : decode cX4_coatOf 84 = .ok (.aload_n 0, 1) := by decide +kernel
theorem dX4_coatOf_85 : decode cX4_coatOf 85 = .ok (.iconst 0, 1) := by decide +kernel
theorem dX4_coatOf_86 : decode cX4_coatOf 86 = .ok (.invokevirtual 54, 3) := by decide +kernel
theorem dX4_coatOf_89 : decode cX4_coatOf 89 = .ok (.ireturn, 1) := by decide +kernel
theorem dX4_unpick_0 : decode cX4_unpick 0 = .ok (.iload_n 1, 1) := by decide +kernel
theorem dX4_unpick_1 : decode cX4_unpick 1 = .ok (.invokestatic 136, 3) := by decide +kernel
theorem dX4_unpick_4 : decode cX4_unpick 4 = .ok (.ifCond .ne 9, 3) := by decide +kernel
theorem dX4_unpick_7 : decode cX4_unpick 7 = .ok (.aload_n 0, 1) := by decide +kernel
theorem dX4_unpick_8 : decode cX4_unpick 8 = .ok (.iconst 0, 1) := by decide +kernel
theorem dX4_unpick_9 : decode cX4_unpick 9 = .ok (.invokevirtual 54, 3) := by decide +kernel
theorem dX4_unpick_12 : decode cX4_unpick 12 = .ok (.ireturn, 1) := by decide +kernel
theorem dX4_unpick_13 : decode cX4_unpick 13 = .ok (.aload_n 0, 1) := by decide +kernel
theorem dX4_unpick_14 : decode cX4_unpick 14 = .ok (.getfield 10, 3) := by decide +kernel
theorem dX4_unpick_17 : decode cX4_unpick 17 = .ok (.getfield 146, 3) := by decide +kernel
theorem dX4_unpick_20 : decode cX4_unpick 20 = .ok (.iload_n 1, 1) := by decide +kernel
theorem dX4_unpick_21 : decode cX4_unpick 21 = .ok (.aaload, 1) := by decide +kernel
theorem dX4_unpick_22 : decode cX4_unpick 22 = .ok (.invokestatic 75, 3) := by decide +kernel
theorem dX4_unpick_25 : decode cX4_unpick 25 = .ok (.istore_n 2, 1) := by decide +kernel
theorem dX4_unpick_26 : decode cX4_unpick 26 = .ok (.aload_n 0, 1) := by decide +kernel
theorem dX4_unpick_27 : decode cX4_unpick 27 = .ok (.getfield 10, 3) := by decide +kernel
theorem dX4_unpick_30 : decode cX4_unpick 30 = .ok (.iload_n 1, 1) := by decide +kernel
theorem dX4_unpick_31 : decode cX4_unpick 31 = .ok (.invokevirtual 159, 3) := by decide +kernel
theorem dX4_unpick_34 : decode cX4_unpick 34 = .ok (.iload_n 2, 1) := by decide +kernel
theorem dX4_unpick_35 : decode cX4_unpick 35 = .ok (.ireturn, 1) := by decide +kernel
theorem dX4_months_0 : decode cX4_months 0 = .ok (.iload_n 1, 1) := by decide +kernel
theorem dX4_months_1 : decode cX4_months 1 = .ok (.iconst 1, 1) := by decide +kernel
theorem dX4_months_2 : decode cX4_months 2 = .ok (.bipush 60, 2) := by decide +kernel
theorem dX4_months_4 : decode cX4_months 4 = .ok (.invokestatic 128, 3) := by decide +kernel
theorem dX4_months_7 : decode cX4_months 7 = .ok (.ifCond .ne 9, 3) := by decide +kernel
theorem dX4_months_10 : decode cX4_months 10 = .ok (.aload_n 0, 1) := by decide +kernel
theorem dX4_months_11 : decode cX4_months 11 = .ok (.iconst 0, 1) := by decide +kernel
theorem dX4_months_12 : decode cX4_months 12 = .ok (.invokevirtual 54, 3) := by decide +kernel
theorem dX4_months_15 : decode cX4_months 15 = .ok (.ireturn, 1) := by decide +kernel
theorem dX4_months_16 : decode cX4_months 16 = .ok (.aload_n 0, 1) := by decide +kernel
theorem dX4_months_17 : decode cX4_months 17 = .ok (.getfield 10, 3) := by decide +kernel
theorem dX4_months_20 : decode cX4_months 20 = .ok (.getfield 67, 3) := by decide +kernel
theorem dX4_months_23 : decode cX4_months 23 = .ok (.iload_n 1, 1) := by decide +kernel
theorem dX4_months_24 : decode cX4_months 24 = .ok (.iadd, 1) := by decide +kernel
theorem dX4_months_25 : decode cX4_months 25 = .ok (.sipush 9999, 3) := by decide +kernel
theorem dX4_months_28 : decode cX4_months 28 = .ok (.if_icmp .le 9, 3) := by decide +kernel
theorem dX4_months_31 : decode cX4_months 31 = .ok (.aload_n 0, 1) := by decide +kernel
theorem dX4_months_32 : decode cX4_months 32 = .ok (.iconst 4, 1) := by decide +kernel
theorem dX4_months_33 : decode cX4_months 33 = .ok (.invokevirtual 54, 3) := by decide +kernel
theorem dX4_months_36 : decode cX4_months 36 = .ok (.ireturn, 1) := by decide +kernel
theorem dX4_months_37 : decode cX4_months 37 = .ok (.aload_n 0, 1) := by decide +kernel
theorem dX4_months_38 : decode cX4_months 38 = .ok (.getfield 10, 3) := by decide +kernel
theorem dX4_months_41 : decode cX4_months 41 = .ok (.iload_n 1, 1) := by decide +kernel
theorem dX4_months_42 : decode cX4_months 42 = .ok (.invokevirtual 163, 3) := by decide +kernel
theorem dX4_months_45 : decode cX4_months 45 = .ok (.aload_n 0, 1) := by decide +kernel
theorem dX4_months_46 : decode cX4_months 46 = .ok (.getfield 10, 3) := by decide +kernel
theorem dX4_months_49 : decode cX4_months 49 = .ok (.getfield 61, 3) := by decide +kernel
theorem dX4_months_52 : decode cX4_months 52 = .ok (.invokestatic 75, 3) := by decide +kernel
theorem dX4_months_55 : decode cX4_months 55 = .ok (.ireturn, 1) := by decide +kernel
theorem dX4_on_0 : decode cX4_on 0 = .ok (.aload_n 0, 1) := by decide +kernel
theorem dX4_on_1 : decode cX4_on 1 = .ok (.iload_n 1, 1) := by decide +kernel
theorem dX4_on_2 : decode cX4_on 2 = .ok (.invokevirtual 96, 3) := by decide +kernel
theorem dX4_on_5 : decode cX4_on 5 = .ok (.ifCond .eq 22, 3) := by decide +kernel
theorem dX4_on_8 : decode cX4_on 8 = .ok (.iload_n 2, 1) := by decide +kernel
theorem dX4_on_9 : decode cX4_on 9 = .ok (.iconst 0, 1) := by decide +kernel
theorem dX4_on_10 : decode cX4_on 10 = .ok (.bipush 120, 2) := by decide +kernel
theorem dX4_on_12 : decode cX4_on 12 = .ok (.invokestatic 128, 3) := by decide +kernel
theorem dX4_on_15 : decode cX4_on 15 = .ok (.ifCond .eq 12, 3) := by decide +kernel
theorem dX4_on_18 : decode cX4_on 18 = .ok (.iload_n 3, 1) := by decide +kernel
theorem dX4_on_19 : decode cX4_on 19 = .ok (.iconst 0, 1) := by decide +kernel
theorem dX4_on_20 : decode cX4_on 20 = .ok (.iconst 1, 1) := by decide +kernel
theorem dX4_on_21 : decode cX4_on 21 = .ok (.invokestatic 128, 3) := by decide +kernel
theorem dX4_on_24 : decode cX4_on 24 = .ok (.ifCond .ne 9, 3) := by decide +kernel
theorem dX4_on_27 : decode cX4_on 27 = .ok (.aload_n 0, 1) := by decide +kernel
theorem dX4_on_28 : decode cX4_on 28 = .ok (.iconst 0, 1) := by decide +kernel
theorem dX4_on_29 : decode cX4_on 29 = .ok (.invokevirtual 54, 3) := by decide +kernel
theorem dX4_on_32 : decode cX4_on 32 = .ok (.ireturn, 1) := by decide +kernel
theorem dX4_on_33 : decode cX4_on 33 = .ok (.aload_n 0, 1) := by decide +kernel
theorem dX4_on_34 : decode cX4_on 34 = .ok (.getfield 25, 3) := by decide +kernel
theorem dX4_on_37 : decode cX4_on 37 = .ok (.aload_n 0, 1) := by decide +kernel
theorem dX4_on_38 : decode cX4_on 38 = .ok (.getfield 10, 3) := by decide +kernel
theorem dX4_on_41 : decode cX4_on 41 = .ok (.getfield 99, 3) := by decide +kernel
theorem dX4_on_44 : decode cX4_on 44 = .ok (.iload_n 1, 1) := by decide +kernel
theorem dX4_on_45 : decode cX4_on 45 = .ok (.aaload, 1) := by decide +kernel
theorem dX4_on_46 : decode cX4_on 46 = .ok (.invokevirtual 166, 3) := by decide +kernel
theorem dX4_on_49 : decode cX4_on 49 = .ok (.aload_n 0, 1) := by decide +kernel
theorem dX4_on_50 : decode cX4_on 50 = .ok (.iload_n 2, 1) := by decide +kernel
theorem dX4_on_51 : decode cX4_on 51 = .ok (.invokevirtual 170, 3) := by decide +kernel
theorem dX4_on_54 : decode cX4_on 54 = .ok (.iload_n 3, 1) := by decide +kernel
theorem dX4_on_55 : decode cX4_on 55 = .ok (.ifCond .ne 13, 3) := by decide +kernel
theorem dX4_on_58 : decode cX4_on 58 = .ok (.aload_n 0, 1) := by decide +kernel
theorem dX4_on_59 : decode cX4_on 59 = .ok (.getfield 25, 3) := by decide +kernel
theorem dX4_on_62 : decode cX4_on 62 = .ok (.getfield 109, 3) := by decide +kernel
theorem dX4_on_65 : decode cX4_on 65 = .ok (.goto 10, 3) := by decide +kernel
theorem dX4_on_68 : decode cX4_on 68 = .ok (.aload_n 0, 1) := by decide +kernel
theorem dX4_on_69 : decode cX4_on 69 = .ok (.getfield 25, 3) := by decide +kernel
theorem dX4_on_72 : decode cX4_on 72 = .ok (.getfield 106, 3) := by decide +kernel
theorem dX4_on_75 : decode cX4_on 75 = .ok (.ireturn, 1) := by decide +kernel
theorem dX4_then_0 : decode cX4_then 0 = .ok (.iload_n 1, 1) := by decide +kernel
theorem dX4_then_1 : decode cX4_then 1 = .ok (.invokestatic 47, 3) := by decide +kernel
theorem dX4_then_4 : decode cX4_then 4 = .ok (.ifCond .eq 22, 3) := by decide +kernel
theorem dX4_then_7 : decode cX4_then 7 = .ok (.iload_n 2, 1) := by decide +kernel
theorem dX4_then_8 : decode cX4_then 8 = .ok (.iconst 0, 1) := by decide +kernel
theorem dX4_then_9 : decode cX4_then 9 = .ok (.bipush 120, 2) := by decide +kernel
theorem dX4_then_11 : decode cX4_then 11 = .ok (.invokestatic 128, 3) := by decide +kernel
theorem dX4_then_14 : decode cX4_then 14 = .ok (.ifCond .eq 12, 3) := by decide +kernel
theorem dX4_then_17 : decode cX4_then 17 = .ok (.iload_n 3, 1) := by decide +kernel
theorem dX4_then_18 : decode cX4_then 18 = .ok (.iconst 0, 1) := by decide +kernel
theorem dX4_then_19 : decode cX4_then 19 = .ok (.iconst 1, 1) := by decide +kernel
theorem dX4_then_20 : decode cX4_then 20 = .ok (.invokestatic 128, 3) := by decide +kernel
theorem dX4_then_23 : decode cX4_then 23 = .ok (.ifCond .ne 9, 3) := by decide +kernel
theorem dX4_then_26 : decode cX4_then 26 = .ok (.aload_n 0, 1) := by decide +kernel
theorem dX4_then_27 : decode cX4_then 27 = .ok (.iconst 0, 1) := by decide +kernel
theorem dX4_then_28 : decode cX4_then 28 = .ok (.invokevirtual 54, 3) := by decide +kernel
theorem dX4_then_31 : decode cX4_then 31 = .ok (.ireturn, 1) := by decide +kernel
theorem dX4_then_32 : decode cX4_then 32 = .ok (.aload_n 0, 1) := by decide +kernel
theorem dX4_then_33 : decode cX4_then 33 = .ok (.getfield 19, 3) := by decide +kernel
theorem dX4_then_36 : decode cX4_then 36 = .ok (.aload_n 0, 1) := by decide +kernel
theorem dX4_then_37 : decode cX4_then 37 = .ok (.getfield 10, 3) := by decide +kernel
theorem dX4_then_40 : decode cX4_then 40 = .ok (.invokevirtual 173, 3) := by decide +kernel
theorem dX4_then_43 : decode cX4_then 43 = .ok (.aload_n 0, 1) := by decide +kernel
theorem dX4_then_44 : decode cX4_then 44 = .ok (.getfield 19, 3) := by decide +kernel
theorem dX4_then_47 : decode cX4_then 47 = .ok (.iload_n 2, 1) := by decide +kernel
theorem dX4_then_48 : decode cX4_then 48 = .ok (.invokevirtual 163, 3) := by decide +kernel
theorem dX4_then_51 : decode cX4_then 51 = .ok (.iload_n 3, 1) := by decide +kernel
theorem dX4_then_52 : decode cX4_then 52 = .ok (.ifCond .ne 15, 3) := by decide +kernel
theorem dX4_then_55 : decode cX4_then 55 = .ok (.aload_n 0, 1) := by decide +kernel
theorem dX4_then_56 : decode cX4_then 56 = .ok (.getfield 19, 3) := by decide +kernel
theorem dX4_then_59 : decode cX4_then 59 = .ok (.getfield 61, 3) := by decide +kernel
theorem dX4_then_62 : decode cX4_then 62 = .ok (.iload_n 1, 1) := by decide +kernel
theorem dX4_then_63 : decode cX4_then 63 = .ok (.iaload, 1) := by decide +kernel
theorem dX4_then_64 : decode cX4_then 64 = .ok (.goto 12, 3) := by decide +kernel
theorem dX4_then_67 : decode cX4_then 67 = .ok (.aload_n 0, 1) := by decide +kernel
theorem dX4_then_68 : decode cX4_then 68 = .ok (.getfield 19, 3) := by decide +kernel
theorem dX4_then_71 : decode cX4_then 71 = .ok (.getfield 64, 3) := by decide +kernel
theorem dX4_then_74 : decode cX4_then 74 = .ok (.iload_n 1, 1) := by decide +kernel
theorem dX4_then_75 : decode cX4_then 75 = .ok (.iaload, 1) := by decide +kernel
theorem dX4_then_76 : decode cX4_then 76 = .ok (.ireturn, 1) := by decide +kernel
theorem dX4_enough_0 : decode cX4_enough 0 = .ok (.iload_n 1, 1) := by decide +kernel
theorem dX4_enough_1 : decode cX4_enough 1 = .ok (.invokestatic 47, 3) := by decide +kernel
theorem dX4_enough_4 : decode cX4_enough 4 = .ok (.ifCond .eq 14, 3) := by decide +kernel
theorem dX4_enough_7 : decode cX4_enough 7 = .ok (.iload_n 2, 1) := by decide +kernel
theorem dX4_enough_8 : decode cX4_enough 8 = .ok (.iconst 0, 1) := by decide +kernel
theorem dX4_enough_9 : decode cX4_enough 9 = .ok (.sipush 9999, 3) := by decide +kernel
theorem dX4_enough_12 : decode cX4_enough 12 = .ok (.invokestatic 128, 3) := by decide +kernel
theorem dX4_enough_15 : decode cX4_enough 15 = .ok (.ifCond .ne 9, 3) := by decide +kernel
theorem dX4_enough_18 : decode cX4_enough 18 = .ok (.aload_n 0, 1) := by decide +kernel
theorem dX4_enough_19 : decode cX4_enough 19 = .ok (.iconst 0, 1) := by decide +kernel
theorem dX4_enough_20 : decode cX4_enough 20 = .ok (.invokevirtual 54, 3) := by decide +kernel
theorem dX4_enough_23 : decode cX4_enough 23 = .ok (.ireturn, 1) := by decide +kernel
theorem dX4_enough_24 : decode cX4_enough 24 = .ok (.aload_n 0, 1) := by decide +kernel
theorem dX4_enough_25 : decode cX4_enough 25 = .ok (.getfield 19, 3) := by decide +kernel
theorem dX4_enough_28 : decode cX4_enough 28 = .ok (.aload_n 0, 1) := by decide +kernel
theorem dX4_enough_29 : decode cX4_enough 29 = .ok (.getfield 10, 3) := by decide +kernel
theorem dX4_enough_32 : decode cX4_enough 32 = .ok (.invokevirtual 173, 3) := by decide +kernel
theorem dX4_enough_35 : decode cX4_enough 35 = .ok (.iconst 0, 1) := by decide +kernel
theorem dX4_enough_36 : decode cX4_enough 36 = .ok (.istore_n 3, 1) := by decide +kernel
theorem dX4_enough_37 : decode cX4_enough 37 = .ok (.iload_n 3, 1) := by decide +kernel
theorem dX4_enough_38 : decode cX4_enough 38 = .ok (.bipush 120, 2) := by decide +kernel
theorem dX4_enough_40 : decode cX4_enough 40 = .ok (.if_icmp .gt 31, 3) := by decide +kernel
theorem dX4_enough_43 : decode cX4_enough 43 = .ok (.aload_n 0, 1) := by decide +kernel
theorem dX4_enough_44 : decode cX4_enough 44 = .ok (.getfield 19, 3) := by decide +kernel
theorem dX4_enough_47 : decode cX4_enough 47 = .ok (.getfield 61, 3) := by decide +kernel
theorem dX4_enough_50 : decode cX4_enough 50 = .ok (.iload_n 1, 1) := by decide +kernel
theorem dX4_enough_51 : decode cX4_enough 51 = .ok (.iaload, 1) := by decide +kernel
theorem dX4_enough_52 : decode cX4_enough 52 = .ok (.iload_n 2, 1) := by decide +kernel
theorem dX4_enough_53 : decode cX4_enough 53 = .ok (.if_icmp .lt 5, 3) := by decide +kernel
theorem dX4_enough_56 : decode cX4_enough 56 = .ok (.iload_n 3, 1) := by decide +kernel
theorem dX4_enough_57 : decode cX4_enough 57 = .ok (.ireturn, 1) := by decide +kernel
theorem dX4_enough_58 : decode cX4_enough 58 = .ok (.aload_n 0, 1) := by decide +kernel
theorem dX4_enough_59 : decode cX4_enough 59 = .ok (.getfield 19, 3) := by decide +kernel
theorem dX4_enough_62 : decode cX4_enough 62 = .ok (.invokevirtual 176, 3) := by decide +kernel
theorem dX4_enough_65 : decode cX4_enough 65 = .ok (.iinc 3 1, 3) := by decide +kernel
theorem dX4_enough_68 : decode cX4_enough 68 = .ok (.goto (-31), 3) := by decide +kernel
theorem dX4_enough_71 : decode cX4_enough 71 = .ok (.aload_n 0, 1) := by decide +kernel
theorem dX4_enough_72 : decode cX4_enough 72 = .ok (.iconst 3, 1) := by decide +kernel
theorem dX4_enough_73 : decode cX4_enough 73 = .ok (.invokevirtual 54, 3) := by decide +kernel
theorem dX4_enough_76 : decode cX4_enough 76 = .ok (.ireturn, 1) := by decide +kernel
theorem dX4_calm_0 : decode cX4_calm 0 = .ok (.aload_n 0, 1) := by decide +kernel
theorem dX4_calm_1 : decode cX4_calm 1 = .ok (.iload_n 1, 1) := by decide +kernel
theorem dX4_calm_2 : decode cX4_calm 2 = .ok (.invokevirtual 96, 3) := by decide +kernel
theorem dX4_calm_5 : decode cX4_calm 5 = .ok (.ifCond .ne 9, 3) := by decide +kernel
theorem dX4_calm_8 : decode cX4_calm 8 = .ok (.aload_n 0, 1) := by decide +kernel
theorem dX4_calm_9 : decode cX4_calm 9 = .ok (.iconst 0, 1) := by decide +kernel
theorem dX4_calm_10 : decode cX4_calm 10 = .ok (.invokevirtual 54, 3) := by decide +kernel
theorem dX4_calm_13 : decode cX4_calm 13 = .ok (.ireturn, 1) := by decide +kernel
theorem dX4_calm_14 : decode cX4_calm 14 = .ok (.aload_n 0, 1) := by decide +kernel
theorem dX4_calm_15 : decode cX4_calm 15 = .ok (.getfield 10, 3) := by decide +kernel
theorem dX4_calm_18 : decode cX4_calm 18 = .ok (.getfield 99, 3) := by decide +kernel
theorem dX4_calm_21 : decode cX4_calm 21 = .ok (.iload_n 1, 1) := by decide +kernel
theorem dX4_calm_22 : decode cX4_calm 22 = .ok (.aaload, 1) := by decide +kernel
theorem dX4_calm_23 : decode cX4_calm 23 = .ok (.getfield 106, 3) := by decide +kernel
theorem dX4_calm_26 : decode cX4_calm 26 = .ok (.istore_n 2, 1) := by decide +kernel
theorem dX4_calm_27 : decode cX4_calm 27 = .ok (.aload_n 0, 1) := by decide +kernel
theorem dX4_calm_28 : decode cX4_calm 28 = .ok (.getfield 10, 3) := by decide +kernel
theorem dX4_calm_31 : decode cX4_calm 31 = .ok (.getfield 99, 3) := by decide +kernel
theorem dX4_calm_34 : decode cX4_calm 34 = .ok (.iload_n 1, 1) := by decide +kernel
theorem dX4_calm_35 : decode cX4_calm 35 = .ok (.aaload, 1) := by decide +kernel
theorem dX4_calm_36 : decode cX4_calm 36 = .ok (.getfield 103, 3) := by decide +kernel
theorem dX4_calm_39 : decode cX4_calm 39 = .ok (.invokestatic 112, 3) := by decide +kernel
theorem dX4_calm_42 : decode cX4_calm 42 = .ok (.istore_n 3, 1) := by decide +kernel
theorem dX4_calm_43 : decode cX4_calm 43 = .ok (.iconst 0, 1) := by decide +kernel
theorem dX4_calm_44 : decode cX4_calm 44 = .ok (.istore 4, 2) := by decide +kernel
theorem dX4_calm_46 : decode cX4_calm 46 = .ok (.iload 4, 2) := by decide +kernel
theorem dX4_calm_48 : decode cX4_calm 48 = .ok (.bipush 120, 2) := by decide +kernel
theorem dX4_calm_50 : decode cX4_calm 50 = .ok (.if_icmp .gt 20, 3) := by decide +kernel
theorem dX4_calm_53 : decode cX4_calm 53 = .ok (.iload_n 2, 1) := by decide +kernel
theorem dX4_calm_54 : decode cX4_calm 54 = .ok (.ifCond .gt 6, 3) := by decide +kernel
theorem dX4_calm_57 : decode cX4_calm 57 = .ok (.iload 4, 2) := by decide +kernel
theorem dX4_calm_59 : decode cX4_calm 59 = .ok (.ireturn, 1) := by decide +kernel
theorem dX4_calm_60 : decode cX4_calm 60 = .ok (.iload_n 2, 1) := by decide +kernel
theorem dX4_calm_61 : decode cX4_calm 61 = .ok (.iload_n 3, 1) := by decide +kernel
theorem dX4_calm_62 : decode cX4_calm 62 = .ok (.isub, 1) := by decide +kernel
theorem dX4_calm_63 : decode cX4_calm 63 = .ok (.istore_n 2, 1) := by decide +kernel
theorem dX4_calm_64 : decode cX4_calm 64 = .ok (.iinc 4 1, 3) := by decide +kernel
theorem dX4_calm_67 : decode cX4_calm 67 = .ok (.goto (-21), 3) := by decide +kernel
theorem dX4_calm_70 : decode cX4_calm 70 = .ok (.aload_n 0, 1) := by decide +kernel
theorem dX4_calm_71 : decode cX4_calm 71 = .ok (.iconst 3, 1) := by decide +kernel
theorem dX4_calm_72 : decode cX4_calm 72 = .ok (.invokevirtual 54, 3) := by decide +kernel
theorem dX4_calm_75 : decode cX4_calm 75 = .ok (.ireturn, 1) := by decide +kernel
theorem dX4_kind_0 : decode cX4_kind 0 = .ok (.aload_n 0, 1) := by decide +kernel
theorem dX4_kind_1 : decode cX4_kind 1 = .ok (.iload_n 1, 1) := by decide +kernel
theorem dX4_kind_2 : decode cX4_kind 2 = .ok (.invokevirtual 96, 3) := by decide +kernel
theorem dX4_kind_5 : decode cX4_kind 5 = .ok (.ifCond .eq 13, 3) := by decide +kernel
theorem dX4_kind_8 : decode cX4_kind 8 = .ok (.iload_n 2, 1) := by decide +kernel
theorem dX4_kind_9 : decode cX4_kind 9 = .ok (.iconst 1, 1) := by decide +kernel
theorem dX4_kind_10 : decode cX4_kind 10 = .ok (.bipush 60, 2) := by decide +kernel
theorem dX4_kind_12 : decode cX4_kind 12 = .ok (.invokestatic 128, 3) := by decide +kernel
theorem dX4_kind_15 : decode cX4_kind 15 = .ok (.ifCond .ne 9, 3) := by decide +kernel
theorem dX4_kind_18 : decode cX4_kind 18 = .ok (.aload_n 0, 1) := by decide +kernel
theorem dX4_kind_19 : decode cX4_kind 19 = .ok (.iconst 0, 1) := by decide +kernel
theorem dX4_kind_20 : decode cX4_kind 20 = .ok (.invokevirtual 54, 3) := by decide +kernel
theorem dX4_kind_23 : decode cX4_kind 23 = .ok (.ireturn, 1) := by decide +kernel
theorem dX4_kind_24 : decode cX4_kind 24 = .ok (.iconst 0, 1) := by decide +kernel
theorem dX4_kind_25 : decode cX4_kind 25 = .ok (.istore_n 3, 1) := by decide +kernel
theorem dX4_kind_26 : decode cX4_kind 26 = .ok (.iconst (-1), 1) := by decide +kernel
theorem dX4_kind_27 : decode cX4_kind 27 = .ok (.istore 4, 2) := by decide +kernel
theorem dX4_kind_29 : decode cX4_kind 29 = .ok (.iconst 0, 1) := by decide +kernel
theorem dX4_kind_30 : decode cX4_kind 30 = .ok (.istore 5, 2) := by decide +kernel
theorem dX4_kind_32 : decode cX4_kind 32 = .ok (.iload 5, 2) := by decide +kernel
theorem dX4_kind_34 : decode cX4_kind 34 = .ok (.bipush 6, 2) := by decide +kernel
theorem dX4_kind_36 : decode cX4_kind 36 = .ok (.if_icmp .ge 68, 3) := by decide +kernel
theorem dX4_kind_39 : decode cX4_kind 39 = .ok (.aload_n 0, 1) := by decide +kernel
theorem dX4_kind_40 : decode cX4_kind 40 = .ok (.getfield 19, 3) := by decide +kernel
theorem dX4_kind_43 : decode cX4_kind 43 = .ok (.aload_n 0, 1) := by decide +kernel
theorem dX4_kind_44 : decode cX4_kind 44 = .ok (.getfield 10, 3) := by decide +kernel
theorem dX4_kind_47 : decode cX4_kind 47 = .ok (.invokevirtual 173, 3) := by decide +kernel
theorem dX4_kind_50 : decode cX4_kind 50 = .ok (.aload_n 0, 1) := by decide +kernel
theorem dX4_kind_51 : decode cX4_kind 51 = .ok (.getfield 19, 3) := by decide +kernel
theorem dX4_kind_54 : decode cX4_kind 54 = .ok (.getfield 99, 3) := by decide +kernel
theorem dX4_kind_57 : decode cX4_kind 57 = .ok (.iload_n 1, 1) := by decide +kernel
theorem dX4_kind_58 : decode cX4_kind 58 = .ok (.aaload, 1) := by decide +kernel
theorem dX4_kind_59 : decode cX4_kind 59 = .ok (.iload 5, 2) := by decide +kernel
theorem dX4_kind_61 : decode cX4_kind 61 = .ok (.putfield 103, 3) := by decide +kernel
theorem dX4_kind_64 : decode cX4_kind 64 = .ok (.aload_n 0, 1) := by decide +kernel
theorem dX4_kind_65 : decode cX4_kind 65 = .ok (.getfield 19, 3) := by decide +kernel
theorem dX4_kind_68 : decode cX4_kind 68 = .ok (.iload_n 2, 1) := by decide +kernel
theorem dX4_kind_69 : decode cX4_kind 69 = .ok (.invokevirtual 163, 3) := by decide +kernel
theorem dX4_kind_72 : decode cX4_kind 72 = .ok (.aload_n 0, 1) := by decide +kernel
theorem dX4_kind_73 : decode cX4_kind 73 = .ok (.getfield 19, 3) := by decide +kernel
theorem dX4_kind_76 : decode cX4_kind 76 = .ok (.getfield 61, 3) := by decide +kernel
theorem dX4_kind_79 : decode cX4_kind 79 = .ok (.invokestatic 75, 3) := by decide +kernel
theorem dX4_kind_82 : decode cX4_kind 82 = .ok (.istore 6, 2) := by decide +kernel
theorem dX4_kind_84 : decode cX4_kind 84 = .ok (.iload 6, 2) := by decide +kernel
theorem dX4_kind_86 : decode cX4_kind 86 = .ok (.iload 4, 2) := by decide +kernel
theorem dX4_kind_88 : decode cX4_kind 88 = .ok (.if_icmp .le 10, 3) := by decide +kernel
theorem dX4_kind_91 : decode cX4_kind 91 = .ok (.iload 6, 2) := by decide +kernel
theorem dX4_kind_93 : decode cX4_kind 93 = .ok (.istore 4, 2) := by decide +kernel
theorem dX4_kind_95 : decode cX4_kind 95 = .ok (.iload 5, 2) := by decide +kernel
theorem dX4_kind_97 : decode cX4_kind 97 = .ok (.istore_n 3, 1) := by decide +kernel
theorem dX4_kind_98 : decode cX4_kind 98 = .ok (.iinc 5 1, 3) := by decide +kernel
theorem dX4_kind_101 : decode cX4_kind 101 = .ok (.goto (-69), 3) := by decide +kernel
theorem dX4_kind_104 : decode cX4_kind 104 = .ok (.iload_n 3, 1) := by decide +kernel
theorem dX4_kind_105 : decode cX4_kind 105 = .ok (.ireturn, 1) := by decide +kernel
theorem dX4_cold_0 : decode cX4_cold 0 = .ok (.iload_n 1, 1) := by decide +kernel
theorem dX4_cold_1 : decode cX4_cold 1 = .ok (.invokestatic 47, 3) := by decide +kernel
theorem dX4_cold_4 : decode cX4_cold 4 = .ok (.ifCond .eq 24, 3) := by decide +kernel
theorem dX4_cold_7 : decode cX4_cold 7 = .ok (.iload_n 2, 1) := by decide +kernel
theorem dX4_cold_8 : decode cX4_cold 8 = .ok (.iconst 1, 1) := by decide +kernel
theorem dX4_cold_9 : decode cX4_cold 9 = .ok (.bipush 60, 2) := by decide +kernel
theorem dX4_cold_11 : decode cX4_cold 11 = .ok (.invokestatic 128, 3) := by decide +kernel
theorem dX4_cold_14 : decode cX4_cold 14 = .ok (.ifCond .eq 14, 3) := by decide +kernel
theorem dX4_cold_17 : decode cX4_cold 17 = .ok (.iload_n 3, 1) := by decide +kernel
theorem dX4_cold_18 : decode cX4_cold 18 = .ok (.iconst 0, 1) := by decide +kernel
theorem dX4_cold_19 : decode cX4_cold 19 = .ok (.sipush 9999, 3) := by decide +kernel
theorem dX4_cold_22 : decode cX4_cold 22 = .ok (.invokestatic 128, 3) := by decide +kernel
theorem dX4_cold_25 : decode cX4_cold 25 = .ok (.ifCond .ne 9, 3) := by decide +kernel
theorem dX4_cold_28 : decode cX4_cold 28 = .ok (.aload_n 0, 1) := by decide +kernel
theorem dX4_cold_29 : decode cX4_cold 29 = .ok (.iconst 0, 1) := by decide +kernel
theorem dX4_cold_30 : decode cX4_cold 30 = .ok (.invokevirtual 54, 3) := by decide +kernel
theorem dX4_cold_33 : decode cX4_cold 33 = .ok (.ireturn, 1) := by decide +kernel
theorem dX4_cold_34 : decode cX4_cold 34 = .ok (.bipush 20, 2) := by decide +kernel
theorem dX4_cold_36 : decode cX4_cold 36 = .ok (.istore 4, 2) := by decide +kernel
theorem dX4_cold_38 : decode cX4_cold 38 = .ok (.iload 4, 2) := by decide +kernel
theorem dX4_cold_40 : decode cX4_cold 40 = .ok (.bipush (-20), 2) := by decide +kernel
theorem dX4_cold_42 : decode cX4_cold 42 = .ok (.if_icmp .lt 55, 3) := by decide +kernel
theorem dX4_cold_45 : decode cX4_cold 45 = .ok (.aload_n 0, 1) := by decide +kernel
theorem dX4_cold_46 : decode cX4_cold 46 = .ok (.getfield 19, 3) := by decide +kernel
theorem dX4_cold_49 : decode cX4_cold 49 = .ok (.aload_n 0, 1) := by decide +kernel
theorem dX4_cold_50 : decode cX4_cold 50 = .ok (.getfield 10, 3) := by decide +kernel
theorem dX4_cold_53 : decode cX4_cold 53 = .ok (.invokevirtual 173, 3) := by decide +kernel
theorem dX4_cold_56 : decode cX4_cold 56 = .ok (.aload_n 0, 1) := by decide +kernel
theorem dX4_cold_57 : decode cX4_cold 57 = .ok (.getfield 19, 3) := by decide +kernel
theorem dX4_cold_60 : decode cX4_cold 60 = .ok (.getfield 58, 3) := by decide +kernel
theorem dX4_cold_63 : decode cX4_cold 63 = .ok (.iload_n 1, 1) := by decide +kernel
theorem dX4_cold_64 : decode cX4_cold 64 = .ok (.iload 4, 2) := by decide +kernel
theorem dX4_cold_66 : decode cX4_cold 66 = .ok (.iastore, 1) := by decide +kernel
theorem dX4_cold_67 : decode cX4_cold 67 = .ok (.aload_n 0, 1) := by decide +kernel
theorem dX4_cold_68 : decode cX4_cold 68 = .ok (.getfield 19, 3) := by decide +kernel
theorem dX4_cold_71 : decode cX4_cold 71 = .ok (.iload_n 2, 1) := by decide +kernel
theorem dX4_cold_72 : decode cX4_cold 72 = .ok (.invokevirtual 163, 3) := by decide +kernel
theorem dX4_cold_75 : decode cX4_cold 75 = .ok (.aload_n 0, 1) := by decide +kernel
theorem dX4_cold_76 : decode cX4_cold 76 = .ok (.getfield 19, 3) := by decide +kernel
theorem dX4_cold_79 : decode cX4_cold 79 = .ok (.getfield 61, 3) := by decide +kernel
theorem dX4_cold_82 : decode cX4_cold 82 = .ok (.iload_n 1, 1) := by decide +kernel
theorem dX4_cold_83 : decode cX4_cold 83 = .ok (.iaload, 1) := by decide +kernel
theorem dX4_cold_84 : decode cX4_cold 84 = .ok (.iload_n 3, 1) := by decide +kernel
theorem dX4_cold_85 : decode cX4_cold 85 = .ok (.if_icmp .lt 6, 3) := by decide +kernel
theorem dX4_cold_88 : decode cX4_cold 88 = .ok (.iload 4, 2) := by decide +kernel
theorem dX4_cold_90 : decode cX4_cold 90 = .ok (.ireturn, 1) := by decide +kernel
theorem dX4_cold_91 : decode cX4_cold 91 = .ok (.iinc 4 (-1), 3) := by decide +kernel
theorem dX4_cold_94 : decode cX4_cold 94 = .ok (.goto (-56), 3) := by decide +kernel
theorem dX4_cold_97 : decode cX4_cold 97 = .ok (.aload_n 0, 1) := by decide +kernel
theorem dX4_cold_98 : decode cX4_cold 98 = .ok (.iconst 3, 1) := by decide +kernel
theorem dX4_cold_99 : decode cX4_cold 99 = .ok (.invokevirtual 54, 3) := by decide +kernel
theorem dX4_cold_102 : decode cX4_cold 102 = .ok (.ireturn, 1) := by decide +kernel
theorem dX4_best_0 : decode cX4_best 0 = .ok (.iload_n 1, 1) := by decide +kernel
theorem dX4_best_1 : decode cX4_best 1 = .ok (.invokestatic 136, 3) := by decide +kernel
theorem dX4_best_4 : decode cX4_best 4 = .ok (.ifCond .eq 14, 3) := by decide +kernel
theorem dX4_best_7 : decode cX4_best 7 = .ok (.iload_n 2, 1) := by decide +kernel
theorem dX4_best_8 : decode cX4_best 8 = .ok (.iconst 1, 1) := by decide +kernel
theorem dX4_best_9 : decode cX4_best 9 = .ok (.sipush 999, 3) := by decide +kernel
theorem dX4_best_12 : decode cX4_best 12 = .ok (.invokestatic 128, 3) := by decide +kernel
theorem dX4_best_15 : decode cX4_best 15 = .ok (.ifCond .ne 9, 3) := by decide +kernel
theorem dX4_best_18 : decode cX4_best 18 = .ok (.aload_n 0, 1) := by decide +kernel
theorem dX4_best_19 : decode cX4_best 19 = .ok (.iconst 0, 1) := by decide +kernel
theorem dX4_best_20 : decode cX4_best 20 = .ok (.invokevirtual 54, 3) := by decide +kernel
theorem dX4_best_23 : decode cX4_best 23 = .ok (.ireturn, 1) := by decide +kernel
theorem dX4_best_24 : decode cX4_best 24 = .ok (.iconst (-1), 1) := by decide +kernel
theorem dX4_best_25 : decode cX4_best 25 = .ok (.istore_n 3, 1) := by decide +kernel
theorem dX4_best_26 : decode cX4_best 26 = .ok (.iconst (-1), 1) := by decide +kernel
theorem dX4_best_27 : decode cX4_best 27 = .ok (.istore 4, 2) := by decide +kernel
theorem dX4_best_29 : decode cX4_best 29 = .ok (.iconst 0, 1) := by decide +kernel
theorem dX4_best_30 : decode cX4_best 30 = .ok (.istore 5, 2) := by decide +kernel
theorem dX4_best_32 : decode cX4_best 32 = .ok (.iload 5, 2) := by decide +kernel
theorem dX4_best_34 : decode cX4_best 34 = .ok (.bipush 12, 2) := by decide +kernel
theorem dX4_best_36 : decode cX4_best 36 = .ok (.if_icmp .ge 95, 3) := by decide +kernel
theorem dX4_best_39 : decode cX4_best 39 = .ok (.iload_n 2, 1) := by decide +kernel
theorem dX4_best_40 : decode cX4_best 40 = .ok (.aload_n 0, 1) := by decide +kernel
theorem dX4_best_41 : decode cX4_best 41 = .ok (.getfield 10, 3) := by decide +kernel
theorem dX4_best_44 : decode cX4_best 44 = .ok (.getfield 61, 3) := by decide +kernel
theorem dX4_best_47 : decode cX4_best 47 = .ok (.iload 5, 2) := by decide +kernel
theorem dX4_best_49 : decode cX4_best 49 = .ok (.iaload, 1) := by decide +kernel
theorem dX4_best_50 : decode cX4_best 50 = .ok (.if_icmp .gt 75, 3) := by decide +kernel
theorem dX4_best_53 : decode cX4_best 53 = .ok (.iload_n 2, 1) := by decide +kernel
theorem dX4_best_54 : decode cX4_best 54 = .ok (.aload_n 0, 1) := by decide +kernel
theorem dX4_best_55 : decode cX4_best 55 = .ok (.getfield 10, 3) := by decide +kernel
theorem dX4_best_58 : decode cX4_best 58 = .ok (.iload_n 1, 1) := by decide +kernel
theorem dX4_best_59 : decode cX4_best 59 = .ok (.iload 5, 2) := by decide +kernel
theorem dX4_best_61 : decode cX4_best 61 = .ok (.invokevirtual 139, 3) := by decide +kernel
theorem dX4_best_64 : decode cX4_best 64 = .ok (.if_icmp .le 6, 3) := by decide +kernel
theorem dX4_best_67 : decode cX4_best 67 = .ok (.goto 58, 3) := by decide +kernel
theorem dX4_best_70 : decode cX4_best 70 = .ok (.aload_n 0, 1) := by decide +kernel
theorem dX4_best_71 : decode cX4_best 71 = .ok (.getfield 10, 3) := by decide +kernel
theorem dX4_best_74 : decode cX4_best 74 = .ok (.getfield 146, 3) := by decide +kernel
theorem dX4_best_77 : decode cX4_best 77 = .ok (.iload_n 1, 1) := by decide +kernel
theorem dX4_best_78 : decode cX4_best 78 = .ok (.aaload, 1) := by decide +kernel
theorem dX4_best_79 : decode cX4_best 79 = .ok (.iload 5, 2) := by decide +kernel
theorem dX4_best_81 : decode cX4_best 81 = .ok (.iaload, 1) := by decide +kernel
theorem dX4_best_82 : decode cX4_best 82 = .ok (.istore 6, 2) := by decide +kernel
theorem dX4_best_84 : decode cX4_best 84 = .ok (.aload_n 0, 1) := by decide +kernel
theorem dX4_best_85 : decode cX4_best 85 = .ok (.getfield 10, 3) := by decide +kernel
theorem dX4_best_88 : decode cX4_best 88 = .ok (.iload 5, 2) := by decide +kernel
theorem dX4_best_90 : decode cX4_best 90 = .ok (.iload 6, 2) := by decide +kernel
theorem dX4_best_92 : decode cX4_best 92 = .ok (.iload_n 2, 1) := by decide +kernel
theorem dX4_best_93 : decode cX4_best 93 = .ok (.iadd, 1) := by decide +kernel
theorem dX4_best_94 : decode cX4_best 94 = .ok (.invokevirtual 179, 3) := by decide +kernel
theorem dX4_best_97 : decode cX4_best 97 = .ok (.aload_n 0, 1) := by decide +kernel
theorem dX4_best_98 : decode cX4_best 98 = .ok (.getfield 10, 3) := by decide +kernel
theorem dX4_best_101 : decode cX4_best 101 = .ok (.iload 5, 2) := by decide +kernel
theorem dX4_best_103 : decode cX4_best 103 = .ok (.iload 6, 2) := by decide +kernel
theorem dX4_best_105 : decode cX4_best 105 = .ok (.invokevirtual 179, 3) := by decide +kernel
theorem dX4_best_108 : decode cX4_best 108 = .ok (.isub, 1) := by decide +kernel
theorem dX4_best_109 : decode cX4_best 109 = .ok (.istore 7, 2) := by decide +kernel
theorem dX4_best_111 : decode cX4_best 111 = .ok (.iload 7, 2) := by decide +kernel
theorem dX4_best_113 : decode cX4_best 113 = .ok (.iload 4, 2) := by decide +kernel
theorem dX4_best_115 : decode cX4_best 115 = .ok (.if_icmp .le 10, 3) := by decide +kernel
theorem dX4_best_118 : decode cX4_best 118 = .ok (.iload 7, 2) := by decide +kernel
theorem dX4_best_120 : decode cX4_best 120 = .ok (.istore 4, 2) := by decide +kernel
theorem dX4_best_122 : decode cX4_best 122 = .ok (.iload 5, 2) := by decide +kernel
theorem dX4_best_124 : decode cX4_best 124 = .ok (.istore_n 3, 1) := by decide +kernel
theorem dX4_best_125 : decode cX4_best 125 = .ok (.iinc 5 1, 3) := by decide +kernel
theorem dX4_best_128 : decode cX4_best 128 = .ok (.goto (-96), 3) := by decide +kernel
theorem dX4_best_131 : decode cX4_best 131 = .ok (.iload_n 3, 1) := by decide +kernel
theorem dX4_best_132 : decode cX4_best 132 = .ok (.ifCond .ge 11, 3) := by decide +kernel
theorem dX4_best_135 : decode cX4_best 135 = .ok (.aload_n 0, 1) := by decide +kernel
theorem dX4_best_136 : decode cX4_best 136 = .ok (.iconst 3, 1) := by decide +kernel
theorem dX4_best_137 : decode cX4_best 137 = .ok (.invokevirtual 54, 3) := by decide +kernel
theorem dX4_best_140 : decode cX4_best 140 = .ok (.goto 4, 3) := by decide +kernel
theorem dX4_best_143 : decode cX4_best 143 = .ok (.iload_n 3, 1) := by decide +kernel
theorem dX4_best_144 : decode cX4_best 144 = .ok (.ireturn, 1) := by decide +kernel
theorem dX4_bears_0 : decode cX4_bears 0 = .ok (.aload_n 0, 1) := by decide +kernel
theorem dX4_bears_1 : decode cX4_bears 1 = .ok (.iload_n 1, 1) := by decide +kernel
theorem dX4_bears_2 : decode cX4_bears 2 = .ok (.invokevirtual 96, 3) := by decide +kernel
theorem dX4_bears_5 : decode cX4_bears 5 = .ok (.ifCond .eq 24, 3) := by decide +kernel
theorem dX4_bears_8 : decode cX4_bears 8 = .ok (.iload_n 2, 1) := by decide +kernel
theorem dX4_bears_9 : decode cX4_bears 9 = .ok (.iconst 0, 1) := by decide +kernel
theorem dX4_bears_10 : decode cX4_bears 10 = .ok (.bipush 60, 2) := by decide +kernel
theorem dX4_bears_12 : decode cX4_bears 12 = .ok (.invokestatic 128, 3) := by decide +kernel
theorem dX4_bears_15 : decode cX4_bears 15 = .ok (.ifCond .eq 14, 3) := by decide +kernel
theorem dX4_bears_18 : decode cX4_bears 18 = .ok (.iload_n 3, 1) := by decide +kernel
theorem dX4_bears_19 : decode cX4_bears 19 = .ok (.iconst 0, 1) := by decide +kernel
theorem dX4_bears_20 : decode cX4_bears 20 = .ok (.sipush 1188, 3) := by decide +kernel
theorem dX4_bears_23 : decode cX4_bears 23 = .ok (.invokestatic 128, 3) := by decide +kernel
theorem dX4_bears_26 : decode cX4_bears 26 = .ok (.ifCond .ne 9, 3) := by decide +kernel
theorem dX4_bears_29 : decode cX4_bears 29 = .ok (.aload_n 0, 1) := by decide +kernel
theorem dX4_bears_30 : decode cX4_bears 30 = .ok (.iconst 0, 1) := by decide +kernel
theorem dX4_bears_31 : decode cX4_bears 31 = .ok (.invokevirtual 54, 3) := by decide +kernel
theorem dX4_bears_34 : decode cX4_bears 34 = .ok (.ireturn, 1) := by decide +kernel
theorem dX4_bears_35 : decode cX4_bears 35 = .ok (.bipush 99, 2) := by decide +kernel
theorem dX4_bears_37 : decode cX4_bears 37 = .ok (.istore 4, 2) := by decide +kernel
theorem dX4_bears_39 : decode cX4_bears 39 = .ok (.iload 4, 2) := by decide +kernel
theorem dX4_bears_41 : decode cX4_bears 41 = .ok (.ifCond .lt 53, 3) := by decide +kernel
theorem dX4_bears_44 : decode cX4_bears 44 = .ok (.aload_n 0, 1) := by decide +kernel
theorem dX4_bears_45 : decode cX4_bears 45 = .ok (.getfield 25, 3) := by decide +kernel
theorem dX4_bears_48 : decode cX4_bears 48 = .ok (.aload_n 0, 1) := by decide +kernel
theorem dX4_bears_49 : decode cX4_bears 49 = .ok (.getfield 10, 3) := by decide +kernel
theorem dX4_bears_52 : decode cX4_bears 52 = .ok (.getfield 99, 3) := by decide +kernel
theorem dX4_bears_55 : decode cX4_bears 55 = .ok (.iload_n 1, 1) := by decide +kernel
theorem dX4_bears_56 : decode cX4_bears 56 = .ok (.aaload, 1) := by decide +kernel
theorem dX4_bears_57 : decode cX4_bears 57 = .ok (.invokevirtual 166, 3) := by decide +kernel
theorem dX4_bears_60 : decode cX4_bears 60 = .ok (.aload_n 0, 1) := by decide +kernel
theorem dX4_bears_61 : decode cX4_bears 61 = .ok (.getfield 25, 3) := by decide +kernel
theorem dX4_bears_64 : decode cX4_bears 64 = .ok (.iload 4, 2) := by decide +kernel
theorem dX4_bears_66 : decode cX4_bears 66 = .ok (.putfield 106, 3) := by decide +kernel
theorem dX4_bears_69 : decode cX4_bears 69 = .ok (.aload_n 0, 1) := by decide +kernel
theorem dX4_bears_70 : decode cX4_bears 70 = .ok (.iload_n 2, 1) := by decide +kernel
theorem dX4_bears_71 : decode cX4_bears 71 = .ok (.invokevirtual 170, 3) := by decide +kernel
theorem dX4_bears_74 : decode cX4_bears 74 = .ok (.aload_n 0, 1) := by decide +kernel
theorem dX4_bears_75 : decode cX4_bears 75 = .ok (.getfield 25, 3) := by decide +kernel
theorem dX4_bears_78 : decode cX4_bears 78 = .ok (.getfield 109, 3) := by decide +kernel
theorem dX4_bears_81 : decode cX4_bears 81 = .ok (.iload_n 3, 1) := by decide +kernel
theorem dX4_bears_82 : decode cX4_bears 82 = .ok (.if_icmp .lt 6, 3) := by decide +kernel
theorem dX4_bears_85 : decode cX4_bears 85 = .ok (.iload 4, 2) := by decide +kernel
theorem dX4_bears_87 : decode cX4_bears 87 = .ok (.ireturn, 1) := by decide +kernel
theorem dX4_bears_88 : decode cX4_bears 88 = .ok (.iinc 4 (-1), 3) := by decide +kernel
theorem dX4_bears_91 : decode cX4_bears 91 = .ok (.goto (-52), 3) := by decide +kernel
theorem dX4_bears_94 : decode cX4_bears 94 = .ok (.aload_n 0, 1) := by decide +kernel
theorem dX4_bears_95 : decode cX4_bears 95 = .ok (.iconst 3, 1) := by decide +kernel
theorem dX4_bears_96 : decode cX4_bears 96 = .ok (.invokevirtual 54, 3) := by decide +kernel
theorem dX4_bears_99 : decode cX4_bears 99 = .ok (.ireturn, 1) := by decide +kernel
theorem dX4_milder_0 : decode cX4_milder 0 = .ok (.iload_n 1, 1) := by decide +kernel
theorem dX4_milder_1 : decode cX4_milder 1 = .ok (.iconst 1, 1) := by decide +kernel
theorem dX4_milder_2 : decode cX4_milder 2 = .ok (.bipush 60, 2) := by decide +kernel
theorem dX4_milder_4 : decode cX4_milder 4 = .ok (.invokestatic 128, 3) := by decide +kernel
theorem dX4_milder_7 : decode cX4_milder 7 = .ok (.ifCond .ne 9, 3) := by decide +kernel
theorem dX4_milder_10 : decode cX4_milder 10 = .ok (.aload_n 0, 1) := by decide +kernel
theorem dX4_milder_11 : decode cX4_milder 11 = .ok (.iconst 0, 1) := by decide +kernel
theorem dX4_milder_12 : decode cX4_milder 12 = .ok (.invokevirtual 54, 3) := by decide +kernel
theorem dX4_milder_15 : decode cX4_milder 15 = .ok (.ireturn, 1) := by decide +kernel
theorem dX4_milder_16 : decode cX4_milder 16 = .ok (.iconst 0, 1) := by decide +kernel
theorem dX4_milder_17 : decode cX4_milder 17 = .ok (.istore_n 2, 1) := by decide +kernel
theorem dX4_milder_18 : decode cX4_milder 18 = .ok (.iconst 0, 1) := by decide +kernel
theorem dX4_milder_19 : decode cX4_milder 19 = .ok (.istore_n 3, 1) := by decide +kernel
theorem dX4_milder_20 : decode cX4_milder 20 = .ok (.iconst 0, 1) := by decide +kernel
theorem dX4_milder_21 : decode cX4_milder 21 = .ok (.istore 4, 2) := by decide +kernel
theorem dX4_milder_23 : decode cX4_milder 23 = .ok (.iload 4, 2) := by decide +kernel
theorem dX4_milder_25 : decode cX4_milder 25 = .ok (.bipush 12, 2) := by decide +kernel
theorem dX4_milder_27 : decode cX4_milder 27 = .ok (.if_icmp .ge 84, 3) := by decide +kernel
theorem dX4_milder_30 : decode cX4_milder 30 = .ok (.aload_n 0, 1) := by decide +kernel
theorem dX4_milder_31 : decode cX4_milder 31 = .ok (.getfield 19, 3) := by decide +kernel
theorem dX4_milder_34 : decode cX4_milder 34 = .ok (.aload_n 0, 1) := by decide +kernel
theorem dX4_milder_35 : decode cX4_milder 35 = .ok (.getfield 10, 3) := by decide +kernel
theorem dX4_milder_38 : decode cX4_milder 38 = .ok (.invokevirtual 173, 3) := by decide +kernel
theorem dX4_milder_41 : decode cX4_milder 41 = .ok (.aload_n 0, 1) := by decide +kernel
theorem dX4_milder_42 : decode cX4_milder 42 = .ok (.getfield 19, 3) := by decide +kernel
theorem dX4_milder_45 : decode cX4_milder 45 = .ok (.getfield 58, 3) := by decide +kernel
theorem dX4_milder_48 : decode cX4_milder 48 = .ok (.iload 4, 2) := by decide +kernel
theorem dX4_milder_50 : decode cX4_milder 50 = .ok (.bipush 20, 2) := by decide +kernel
theorem dX4_milder_52 : decode cX4_milder 52 = .ok (.aload_n 0, 1) := by decide +kernel
theorem dX4_milder_53 : decode cX4_milder 53 = .ok (.getfield 19, 3) := by decide +kernel
theorem dX4_milder_56 : decode cX4_milder 56 = .ok (.getfield 58, 3) := by decide +kernel
theorem dX4_milder_59 : decode cX4_milder 59 = .ok (.iload 4, 2) := by decide +kernel
theorem dX4_milder_61 : decode cX4_milder 61 = .ok (.iaload, 1) := by decide +kernel
theorem dX4_milder_62 : decode cX4_milder 62 = .ok (.iconst 5, 1) := by decide +kernel
theorem dX4_milder_63 : decode cX4_milder 63 = .ok (.iadd, 1) := by decide +kernel
theorem dX4_milder_64 : decode cX4_milder 64 = .ok (.invokestatic 182, 3) := by decide +kernel
theorem dX4_milder_67 : decode cX4_milder 67 = .ok (.iastore, 1) := by decide +kernel
theorem dX4_milder_68 : decode cX4_milder 68 = .ok (.aload_n 0, 1) := by decide +kernel
theorem dX4_milder_69 : decode cX4_milder 69 = .ok (.getfield 19, 3) := by decide +kernel
theorem dX4_milder_72 : decode cX4_milder 72 = .ok (.iload_n 1, 1) := by decide +kernel
theorem dX4_milder_73 : decode cX4_milder 73 = .ok (.invokevirtual 163, 3) := by decide +kernel
theorem dX4_milder_76 : decode cX4_milder 76 = .ok (.aload_n 0, 1) := by decide +kernel
theorem dX4_milder_77 : decode cX4_milder 77 = .ok (.getfield 19, 3) := by decide +kernel
theorem dX4_milder_80 : decode cX4_milder 80 = .ok (.getfield 64, 3) := by decide +kernel
theorem dX4_milder_83 : decode cX4_milder 83 = .ok (.invokestatic 75, 3) := by decide +kernel
theorem dX4_milder_86 : decode cX4_milder 86 = .ok (.istore 5, 2) := by decide +kernel
theorem dX4_milder_88 : decode cX4_milder 88 = .ok (.iload 4, 2) := by decide +kernel
theorem dX4_milder_90 : decode cX4_milder 90 = .ok (.ifCond .eq 9, 3) := by decide +kernel
theorem dX4_milder_93 : decode cX4_milder 93 = .ok (.iload 5, 2) := by decide +kernel
theorem dX4_milder_95 : decode cX4_milder 95 = .ok (.iload_n 3, 1) := by decide +kernel
theorem dX4_milder_96 : decode cX4_milder 96 = .ok (.if_icmp .ge 9, 3) := by decide +kernel
theorem dX4_milder_99 : decode cX4_milder 99 = .ok (.iload 5, 2) := by decide +kernel
theorem dX4_milder_101 : decode cX4_milder 101 = .ok (.istore_n 3, 1) := by decide +kernel
theorem dX4_milder_102 : decode cX4_milder 102 = .ok (.iload 4, 2) := by decide +kernel
theorem dX4_milder_104 : decode cX4_milder 104 = .ok (.istore_n 2, 1) := by decide +kernel
theorem dX4_milder_105 : decode cX4_milder 105 = .ok (.iinc 4 1, 3) := by decide +kernel
theorem dX4_milder_108 : decode cX4_milder 108 = .ok (.goto (-85), 3) := by decide +kernel
theorem dX4_milder_111 : decode cX4_milder 111 = .ok (.iload_n 2, 1) := by decide +kernel
theorem dX4_milder_112 : decode cX4_milder 112 = .ok (.ireturn, 1) := by decide +kernel
theorem dX4_warmest_0 : decode cX4_warmest 0 = .ok (.iconst 0, 1) := by decide +kernel
theorem dX4_warmest_1 : decode cX4_warmest 1 = .ok (.istore_n 1, 1) := by decide +kernel
theorem dX4_warmest_2 : decode cX4_warmest 2 = .ok (.iconst (-1), 1) := by decide +kernel
theorem dX4_warmest_3 : decode cX4_warmest 3 = .ok (.istore_n 2, 1) := by decide +kernel
theorem dX4_warmest_4 : decode cX4_warmest 4 = .ok (.iconst 0, 1) := by decide +kernel
theorem dX4_warmest_5 : decode cX4_warmest 5 = .ok (.istore_n 3, 1) := by decide +kernel
theorem dX4_warmest_6 : decode cX4_warmest 6 = .ok (.iload_n 3, 1) := by decide +kernel
theorem dX4_warmest_7 : decode cX4_warmest 7 = .ok (.iconst 4, 1) := by decide +kernel
theorem dX4_warmest_8 : decode cX4_warmest 8 = .ok (.if_icmp .ge 30, 3) := by decide +kernel
theorem dX4_warmest_11 : decode cX4_warmest 11 = .ok (.aload_n 0, 1) := by decide +kernel
theorem dX4_warmest_12 : decode cX4_warmest 12 = .ok (.getfield 10, 3) := by decide +kernel
theorem dX4_warmest_15 : decode cX4_warmest 15 = .ok (.iload_n 3, 1) := by decide +kernel
theorem dX4_warmest_16 : decode cX4_warmest 16 = .ok (.invokevirtual 150, 3) := by decide +kernel
theorem dX4_warmest_19 : decode cX4_warmest 19 = .ok (.istore 4, 2) := by decide +kernel
theorem dX4_warmest_21 : decode cX4_warmest 21 = .ok (.iload 4, 2) := by decide +kernel
theorem dX4_warmest_23 : decode cX4_warmest 23 = .ok (.iload_n 2, 1) := by decide +kernel
theorem dX4_warmest_24 : decode cX4_warmest 24 = .ok (.if_icmp .le 8, 3) := by decide +kernel
theorem dX4_warmest_27 : decode cX4_warmest 27 = .ok (.iload 4, 2) := by decide +kernel
theorem dX4_warmest_29 : decode cX4_warmest 29 = .ok (.istore_n 2, 1) := by decide +kernel
theorem dX4_warmest_30 : decode cX4_warmest 30 = .ok (.iload_n 3, 1) := by decide +kernel
theorem dX4_warmest_31 : decode cX4_warmest 31 = .ok (.istore_n 1, 1) := by decide +kernel
theorem dX4_warmest_32 : decode cX4_warmest 32 = .ok (.iinc 3 1, 3) := by decide +kernel
theorem dX4_warmest_35 : decode cX4_warmest 35 = .ok (.goto (-29), 3) := by decide +kernel
theorem dX4_warmest_38 : decode cX4_warmest 38 = .ok (.iload_n 1, 1) := by decide +kernel
theorem dX4_warmest_39 : decode cX4_warmest 39 = .ok (.ireturn, 1) := by decide +kernel
theorem dX4_feed_0 : decode cX4_feed 0 = .ok (.iload_n 2, 1) := by decide +kernel
theorem dX4_feed_1 : decode cX4_feed 1 = .ok (.iconst 1, 1) := by decide +kernel
theorem dX4_feed_2 : decode cX4_feed 2 = .ok (.iconst 4, 1) := by decide +kernel
theorem dX4_feed_3 : decode cX4_feed 3 = .ok (.invokestatic 128, 3) := by decide +kernel
theorem dX4_feed_6 : decode cX4_feed 6 = .ok (.ifCond .ne 9, 3) := by decide +kernel
theorem dX4_feed_9 : decode cX4_feed 9 = .ok (.aload_n 0, 1) := by decide +kernel
theorem dX4_feed_10 : decode cX4_feed 10 = .ok (.iconst 0, 1) := by decide +kernel
theorem dX4_feed_11 : decode cX4_feed 11 = .ok (.invokevirtual 54, 3) := by decide +kernel
theorem dX4_feed_14 : decode cX4_feed 14 = .ok (.ireturn, 1) := by decide +kernel
theorem dX4_feed_15 : decode cX4_feed 15 = .ok (.aload_n 0, 1) := by decide +kernel
theorem dX4_feed_16 : decode cX4_feed 16 = .ok (.getfield 32, 3) := by decide +kernel
theorem dX4_feed_19 : decode cX4_feed 19 = .ok (.getfield 187, 3) := by decide +kernel
theorem dX4_feed_22 : decode cX4_feed 22 = .ok (.iload_n 2, 1) := by decide +kernel
theorem dX4_feed_23 : decode cX4_feed 23 = .ok (.iadd, 1) := by decide +kernel
theorem dX4_feed_24 : decode cX4_feed 24 = .ok (.bipush 120, 2) := by decide +kernel
theorem dX4_feed_26 : decode cX4_feed 26 = .ok (.if_icmp .le 9, 3) := by decide +kernel
theorem dX4_feed_29 : decode cX4_feed 29 = .ok (.aload_n 0, 1) := by decide +kernel
theorem dX4_feed_30 : decode cX4_feed 30 = .ok (.iconst 1, 1) := by decide +kernel
theorem dX4_feed_31 : decode cX4_feed 31 = .ok (.invokevirtual 54, 3) := by decide +kernel
theorem dX4_feed_34 : decode cX4_feed 34 = .ok (.ireturn, 1) := by decide +kernel
theorem dX4_feed_35 : decode cX4_feed 35 = .ok (.iload_n 2, 1) := by decide +kernel
theorem dX4_feed_36 : decode cX4_feed 36 = .ok (.iconst 1, 1) := by decide +kernel
theorem dX4_feed_37 : decode cX4_feed 37 = .ok (.isub, 1) := by decide +kernel
theorem dX4_feed_38 : decode cX4_feed 38 = .ok (.istore_n 3, 1) := by decide +kernel
theorem dX4_feed_39 : decode cX4_feed 39 = .ok (.iload_n 3, 1) := by decide +kernel
theorem dX4_feed_40 : decode cX4_feed 40 = .ok (.ifCond .lt 23, 3) := by decide +kernel
theorem dX4_feed_43 : decode cX4_feed 43 = .ok (.aload_n 0, 1) := by decide +kernel
theorem dX4_feed_44 : decode cX4_feed 44 = .ok (.getfield 32, 3) := by decide +kernel
theorem dX4_feed_47 : decode cX4_feed 47 = .ok (.iload_n 1, 1) := by decide +kernel
theorem dX4_feed_48 : decode cX4_feed 48 = .ok (.bipush 8, 2) := by decide +kernel
theorem dX4_feed_50 : decode cX4_feed 50 = .ok (.iload_n 3, 1) := by decide +kernel
theorem dX4_feed_51 : decode cX4_feed 51 = .ok (.imul, 1) := by decide +kernel
theorem dX4_feed_52 : decode cX4_feed 52 = .ok (.ishr, 1) := by decide +kernel
theorem dX4_feed_53 : decode cX4_feed 53 = .ok (.i2b, 1) := by decide +kernel
theorem dX4_feed_54 : decode cX4_feed 54 = .ok (.invokevirtual 188, 3) := by decide +kernel
theorem dX4_feed_57 : decode cX4_feed 57 = .ok (.iinc 3 (-1), 3) := by decide +kernel
theorem dX4_feed_60 : decode cX4_feed 60 = .ok (.goto (-21), 3) := by decide +kernel
theorem dX4_feed_63 : decode cX4_feed 63 = .ok (.aload_n 0, 1) := by decide +kernel
theorem dX4_feed_64 : decode cX4_feed 64 = .ok (.getfield 32, 3) := by decide +kernel
theorem dX4_feed_67 : decode cX4_feed 67 = .ok (.getfield 187, 3) := by decide +kernel
theorem dX4_feed_70 : decode cX4_feed 70 = .ok (.ireturn, 1) := by decide +kernel
theorem dX4_wipe_0 : decode cX4_wipe 0 = .ok (.aload_n 0, 1) := by decide +kernel
theorem dX4_wipe_1 : decode cX4_wipe 1 = .ok (.getfield 32, 3) := by decide +kernel
theorem dX4_wipe_4 : decode cX4_wipe 4 = .ok (.getfield 187, 3) := by decide +kernel
theorem dX4_wipe_7 : decode cX4_wipe 7 = .ok (.istore_n 1, 1) := by decide +kernel
theorem dX4_wipe_8 : decode cX4_wipe 8 = .ok (.aload_n 0, 1) := by decide +kernel
theorem dX4_wipe_9 : decode cX4_wipe 9 = .ok (.getfield 32, 3) := by decide +kernel
theorem dX4_wipe_12 : decode cX4_wipe 12 = .ok (.iconst 0, 1) := by decide +kernel
theorem dX4_wipe_13 : decode cX4_wipe 13 = .ok (.putfield 187, 3) := by decide +kernel
theorem dX4_wipe_16 : decode cX4_wipe 16 = .ok (.iload_n 1, 1) := by decide +kernel
theorem dX4_wipe_17 : decode cX4_wipe 17 = .ok (.ireturn, 1) := by decide +kernel
theorem dX4_parish_0 : decode cX4_parish 0 = .ok (.aload_n 0, 1) := by decide +kernel
theorem dX4_parish_1 : decode cX4_parish 1 = .ok (.getfield 19, 3) := by decide +kernel
theorem dX4_parish_4 : decode cX4_parish 4 = .ok (.aload_n 0, 1) := by decide +kernel
theorem dX4_parish_5 : decode cX4_parish 5 = .ok (.getfield 10, 3) := by decide +kernel
theorem dX4_parish_8 : decode cX4_parish 8 = .ok (.invokevirtual 173, 3) := by decide +kernel
theorem dX4_parish_11 : decode cX4_parish 11 = .ok (.aload_n 0, 1) := by decide +kernel
theorem dX4_parish_12 : decode cX4_parish 12 = .ok (.getfield 32, 3) := by decide +kernel
theorem dX4_parish_15 : decode cX4_parish 15 = .ok (.aload_n 0, 1) := by decide +kernel
theorem dX4_parish_16 : decode cX4_parish 16 = .ok (.getfield 19, 3) := by decide +kernel
theorem dX4_parish_19 : decode cX4_parish 19 = .ok (.invokevirtual 191, 3) := by decide +kernel
theorem dX4_parish_22 : decode cX4_parish 22 = .ok (.istore_n 1, 1) := by decide +kernel
theorem dX4_parish_23 : decode cX4_parish 23 = .ok (.iload_n 1, 1) := by decide +kernel
theorem dX4_parish_24 : decode cX4_parish 24 = .ok (.ifCond .lt 14, 3) := by decide +kernel
theorem dX4_parish_27 : decode cX4_parish 27 = .ok (.aload_n 0, 1) := by decide +kernel
theorem dX4_parish_28 : decode cX4_parish 28 = .ok (.getfield 10, 3) := by decide +kernel
theorem dX4_parish_31 : decode cX4_parish 31 = .ok (.aload_n 0, 1) := by decide +kernel
theorem dX4_parish_32 : decode cX4_parish 32 = .ok (.getfield 19, 3) := by decide +kernel
theorem dX4_parish_35 : decode cX4_parish 35 = .ok (.invokevirtual 173, 3) := by decide +kernel
theorem dX4_parish_38 : decode cX4_parish 38 = .ok (.aload_n 0, 1) := by decide +kernel
theorem dX4_parish_39 : decode cX4_parish 39 = .ok (.getfield 32, 3) := by decide +kernel
theorem dX4_parish_42 : decode cX4_parish 42 = .ok (.iconst 0, 1) := by decide +kernel
theorem dX4_parish_43 : decode cX4_parish 43 = .ok (.putfield 187, 3) := by decide +kernel
theorem dX4_parish_46 : decode cX4_parish 46 = .ok (.iload_n 1, 1) := by decide +kernel
theorem dX4_parish_47 : decode cX4_parish 47 = .ok (.ireturn, 1) := by decide +kernel
theorem dX4_sheet_0 : decode cX4_sheet 0 = .ok (.iload_n 1, 1) := by decide +kernel
theorem dX4_sheet_1 : decode cX4_sheet 1 = .ok (.invokestatic 195, 3) := by decide +kernel
theorem dX4_sheet_4 : decode cX4_sheet 4 = .ok (.ifCond .eq 25, 3) := by decide +kernel
theorem dX4_sheet_7 : decode cX4_sheet 7 = .ok (.iload_n 2, 1) := by decide +kernel
theorem dX4_sheet_8 : decode cX4_sheet 8 = .ok (.ifCond .eq 27, 3) := by decide +kernel
theorem dX4_sheet_11 : decode cX4_sheet 11 = .ok (.iload_n 2, 1) := by decide +kernel
theorem dX4_sheet_12 : decode cX4_sheet 12 = .ok (.bipush 8, 2) := by decide +kernel
theorem dX4_sheet_14 : decode cX4_sheet 14 = .ok (.if_icmp .eq 21, 3) := by decide +kernel
theorem dX4_sheet_17 : decode cX4_sheet 17 = .ok (.iload_n 2, 1) := by decide +kernel
theorem dX4_sheet_18 : decode cX4_sheet 18 = .ok (.bipush 16, 2) := by decide +kernel
theorem dX4_sheet_20 : decode cX4_sheet 20 = .ok (.if_icmp .eq 15, 3) := by decide +kernel
theorem dX4_sheet_23 : decode cX4_sheet 23 = .ok (.iload_n 2, 1) := by decide +kernel
theorem dX4_sheet_24 : decode cX4_sheet 24 = .ok (.bipush 64, 2) := by decide +kernel
theorem dX4_sheet_26 : decode cX4_sheet 26 = .ok (.if_icmp .eq 9, 3) := by decide +kernel
theorem dX4_sheet_29 : decode cX4_sheet 29 = .ok (.aload_n 0, 1) := by decide +kernel
theorem dX4_sheet_30 : decode cX4_sheet 30 = .ok (.iconst 0, 1) := by decide +kernel
theorem dX4_sheet_31 : decode cX4_sheet 31 = .ok (.invokevirtual 54, 3) := by decide +kernel
theorem dX4_sheet_34 : decode cX4_sheet 34 = .ok (.ireturn, 1) := by decide +kernel
theorem dX4_sheet_35 : decode cX4_sheet 35 = .ok (.iload_n 3, 1) := by decide +kernel
theorem dX4_sheet_36 : decode cX4_sheet 36 = .ok (.ifCond .ge 10, 3) := by decide +kernel
theorem dX4_sheet_39 : decode cX4_sheet 39 = .ok (.aload_n 0, 1) := by decide +kernel
theorem dX4_sheet_40 : decode cX4_sheet 40 = .ok (.bipush 6, 2) := by decide +kernel
theorem dX4_sheet_42 : decode cX4_sheet 42 = .ok (.invokevirtual 54, 3) := by decide +kernel
theorem dX4_sheet_45 : decode cX4_sheet 45 = .ok (.ireturn, 1) := by decide +kernel
theorem dX4_sheet_46 : decode cX4_sheet 46 = .ok (.iload_n 3, 1) := by decide +kernel
theorem dX4_sheet_47 : decode cX4_sheet 47 = .ok (.bipush 40, 2) := by decide +kernel
theorem dX4_sheet_49 : decode cX4_sheet 49 = .ok (.if_icmp .le 9, 3) := by decide +kernel
theorem dX4_sheet_52 : decode cX4_sheet 52 = .ok (.aload_n 0, 1) := by decide +kernel
theorem dX4_sheet_53 : decode cX4_sheet 53 = .ok (.iconst 0, 1) := by decide +kernel
theorem dX4_sheet_54 : decode cX4_sheet 54 = .ok (.invokevirtual 54, 3) := by decide +kernel
theorem dX4_sheet_57 : decode cX4_sheet 57 = .ok (.ireturn, 1) := by decide +kernel
theorem dX4_sheet_58 : decode cX4_sheet 58 = .ok (.aload_n 0, 1) := by decide +kernel
theorem dX4_sheet_59 : decode cX4_sheet 59 = .ok (.getfield 38, 3) := by decide +kernel
theorem dX4_sheet_62 : decode cX4_sheet 62 = .ok (.iload_n 1, 1) := by decide +kernel
theorem dX4_sheet_63 : decode cX4_sheet 63 = .ok (.aaload, 1) := by decide +kernel
theorem dX4_sheet_64 : decode cX4_sheet 64 = .ok (.iload_n 2, 1) := by decide +kernel
theorem dX4_sheet_65 : decode cX4_sheet 65 = .ok (.iload_n 2, 1) := by decide +kernel
theorem dX4_sheet_66 : decode cX4_sheet 66 = .ok (.ifCond .ne 7, 3) := by decide +kernel
theorem dX4_sheet_69 : decode cX4_sheet 69 = .ok (.iconst 0, 1) := by decide +kernel
theorem dX4_sheet_70 : decode cX4_sheet 70 = .ok (.goto 4, 3) := by decide +kernel
theorem dX4_sheet_73 : decode cX4_sheet 73 = .ok (.iload_n 3, 1) := by decide +kernel
theorem dX4_sheet_74 : decode cX4_sheet 74 = .ok (.invokevirtual 198, 3) := by decide +kernel
theorem dX4_sheet_77 : decode cX4_sheet 77 = .ok (.aload_n 0, 1) := by decide +kernel
theorem dX4_sheet_78 : decode cX4_sheet 78 = .ok (.getfield 38, 3) := by decide +kernel
theorem dX4_sheet_81 : decode cX4_sheet 81 = .ok (.iload_n 1, 1) := by decide +kernel
theorem dX4_sheet_82 : decode cX4_sheet 82 = .ok (.aaload, 1) := by decide +kernel
theorem dX4_sheet_83 : decode cX4_sheet 83 = .ok (.getfield 201, 3) := by decide +kernel
theorem dX4_sheet_86 : decode cX4_sheet 86 = .ok (.ireturn, 1) := by decide +kernel
theorem dX4_write_0 : decode cX4_write 0 = .ok (.iload_n 1, 1) := by decide +kernel
theorem dX4_write_1 : decode cX4_write 1 = .ok (.invokestatic 195, 3) := by decide +kernel
theorem dX4_write_4 : decode cX4_write 4 = .ok (.ifCond .ne 10, 3) := by decide +kernel
theorem dX4_write_7 : decode cX4_write 7 = .ok (.aload_n 0, 1) := by decide +kernel
theorem dX4_write_8 : decode cX4_write 8 = .ok (.iconst 0, 1) := by decide +kernel
theorem dX4_write_9 : decode cX4_write 9 = .ok (.invokevirtual 54, 3) := by decide +kernel
theorem dX4_write_12 : decode cX4_write 12 = .ok (.i2l, 1) := by decide +kernel
theorem dX4_write_13 : decode cX4_write 13 = .ok (.lreturn, 1) := by decide +kernel
theorem dX4_write_14 : decode cX4_write 14 = .ok (.aload_n 0, 1) := by decide +kernel
theorem dX4_write_15 : decode cX4_write 15 = .ok (.getfield 38, 3) := by decide +kernel
theorem dX4_write_18 : decode cX4_write 18 = .ok (.iload_n 1, 1) := by decide +kernel
theorem dX4_write_19 : decode cX4_write 19 = .ok (.aaload, 1) := by decide +kernel
theorem dX4_write_20 : decode cX4_write 20 = .ok (.astore 5, 2) := by decide +kernel
theorem dX4_write_22 : decode cX4_write 22 = .ok (.aload 5, 2) := by decide +kernel
theorem dX4_write_24 : decode cX4_write 24 = .ok (.invokevirtual 202, 3) := by decide +kernel
theorem dX4_write_27 : decode cX4_write 27 = .ok (.ifCond .eq 10, 3) := by decide +kernel
theorem dX4_write_30 : decode cX4_write 30 = .ok (.aload_n 0, 1) := by decide +kernel
theorem dX4_write_31 : decode cX4_write 31 = .ok (.iconst 5, 1) := by decide +kernel
theorem dX4_write_32 : decode cX4_write 32 = .ok (.invokevirtual 54, 3) := by decide +kernel
theorem dX4_write_35 : decode cX4_write 35 = .ok (.i2l, 1) := by decide +kernel
theorem dX4_write_36 : decode cX4_write 36 = .ok (.lreturn, 1) := by decide +kernel
theorem dX4_write_37 : decode cX4_write 37 = .ok (.iload_n 2, 1) := by decide +kernel
theorem dX4_write_38 : decode cX4_write 38 = .ok (.iconst 0, 1) := by decide +kernel
theorem dX4_write_39 : decode cX4_write 39 = .ok (.aload 5, 2) := by decide +kernel
theorem dX4_write_41 : decode cX4_write 41 = .ok (.getfield 201, 3) := by decide +kernel
theorem dX4_write_44 : decode cX4_write 44 = .ok (.iconst 1, 1) := by decide +kernel
theorem dX4_write_45 : decode cX4_write 45 = .ok (.isub, 1) := by decide +kernel
theorem dX4_write_46 : decode cX4_write 46 = .ok (.invokestatic 128, 3) := by decide +kernel
theorem dX4_write_49 : decode cX4_write 49 = .ok (.ifCond .ne 10, 3) := by decide +kernel
theorem dX4_write_52 : decode cX4_write 52 = .ok (.aload_n 0, 1) := by decide +kernel
theorem dX4_write_53 : decode cX4_write 53 = .ok (.iconst 0, 1) := by decide +kernel
theorem dX4_write_54 : decode cX4_write 54 = .ok (.invokevirtual 54, 3) := by decide +kernel
theorem dX4_write_57 : decode cX4_write 57 = .ok (.i2l, 1) := by decide +kernel
theorem dX4_write_58 : decode cX4_write 58 = .ok (.lreturn, 1) := by decide +kernel
theorem dX4_write_59 : decode cX4_write 59 = .ok (.aload 5, 2) := by decide +kernel
theorem dX4_write_61 : decode cX4_write 61 = .ok (.getfield 205, 3) := by decide +kernel
theorem dX4_write_64 : decode cX4_write 64 = .ok (.iload_n 2, 1) := by decide +kernel
theorem dX4_write_65 : decode cX4_write 65 = .ok (.laload, 1) := by decide +kernel
theorem dX4_write_66 : decode cX4_write 66 = .ok (.lstore 6, 2) := by decide +kernel
theorem dX4_write_68 : decode cX4_write 68 = .ok (.aload 5, 2) := by decide +kernel
theorem dX4_write_70 : decode cX4_write 70 = .ok (.iload_n 2, 1) := by decide +kernel
theorem dX4_write_71 : decode cX4_write 71 = .ok (.lload_n 3, 1) := by decide +kernel
theorem dX4_write_72 : decode cX4_write 72 = .ok (.invokevirtual 209, 3) := by decide +kernel
theorem dX4_write_75 : decode cX4_write 75 = .ok (.lload 6, 2) := by decide +kernel
theorem dX4_write_77 : decode cX4_write 77 = .ok (.lreturn, 1) := by decide +kernel
theorem dX4_copy_0 : decode cX4_copy 0 = .ok (.iload_n 1, 1) := by decide +kernel
theorem dX4_copy_1 : decode cX4_copy 1 = .ok (.invokestatic 195, 3) := by decide +kernel
theorem dX4_copy_4 : decode cX4_copy 4 = .ok (.ifCond .eq 10, 3) := by decide +kernel
theorem dX4_copy_7 : decode cX4_copy 7 = .ok (.iload_n 3, 1) := by decide +kernel
theorem dX4_copy_8 : decode cX4_copy 8 = .ok (.invokestatic 195, 3) := by decide +kernel
theorem dX4_copy_11 : decode cX4_copy 11 = .ok (.ifCond .ne 9, 3) := by decide +kernel
theorem dX4_copy_14 : decode cX4_copy 14 = .ok (.aload_n 0, 1) := by decide +kernel
theorem dX4_copy_15 : decode cX4_copy 15 = .ok (.iconst 0, 1) := by decide +kernel
theorem dX4_copy_16 : decode cX4_copy 16 = .ok (.invokevirtual 54, 3) := by decide +kernel
theorem dX4_copy_19 : decode cX4_copy 19 = .ok (.ireturn, 1) := by decide +kernel
theorem dX4_copy_20 : decode cX4_copy 20 = .ok (.aload_n 0, 1) := by decide +kernel
theorem dX4_copy_21 : decode cX4_copy 21 = .ok (.getfield 38, 3) := by decide +kernel
theorem dX4_copy_24 : decode cX4_copy 24 = .ok (.iload_n 1, 1) := by decide +kernel
theorem dX4_copy_25 : decode cX4_copy 25 = .ok (.aaload, 1) := by decide +kernel
theorem dX4_copy_26 : decode cX4_copy 26 = .ok (.astore 6, 2) := by decide +kernel
theorem dX4_copy_28 : decode cX4_copy 28 = .ok (.aload_n 0, 1) := by decide +kernel
theorem dX4_copy_29 : decode cX4_copy 29 = .ok (.getfield 38, 3) := by decide +kernel
theorem dX4_copy_32 : decode cX4_copy 32 = .ok (.iload_n 3, 1) := by decide +kernel
theorem dX4_copy_33 : decode cX4_copy 33 = .ok (.aaload, 1) := by decide +kernel
theorem dX4_copy_34 : decode cX4_copy 34 = .ok (.astore 7, 2) := by decide +kernel
theorem dX4_copy_36 : decode cX4_copy 36 = .ok (.aload 6, 2) := by decide +kernel
theorem dX4_copy_38 : decode cX4_copy 38 = .ok (.invokevirtual 202, 3) := by decide +kernel
theorem dX4_copy_41 : decode cX4_copy 41 = .ok (.ifCond .ne 11, 3) := by decide +kernel
theorem dX4_copy_44 : decode cX4_copy 44 = .ok (.aload 7, 2) := by decide +kernel
theorem dX4_copy_46 : decode cX4_copy 46 = .ok (.invokevirtual 202, 3) := by decide +kernel
theorem dX4_copy_49 : decode cX4_copy 49 = .ok (.ifCond .eq 9, 3) := by decide +kernel
theorem dX4_copy_52 : decode cX4_copy 52 = .ok (.aload_n 0, 1) := by decide +kernel
theorem dX4_copy_53 : decode cX4_copy 53 = .ok (.iconst 5, 1) := by decide +kernel
theorem dX4_copy_54 : decode cX4_copy 54 = .ok (.invokevirtual 54, 3) := by decide +kernel
theorem dX4_copy_57 : decode cX4_copy 57 = .ok (.ireturn, 1) := by decide +kernel
theorem dX4_copy_58 : decode cX4_copy 58 = .ok (.aload 6, 2) := by decide +kernel
theorem dX4_copy_60 : decode cX4_copy 60 = .ok (.getfield 213, 3) := by decide +kernel
theorem dX4_copy_63 : decode cX4_copy 63 = .ok (.aload 7, 2) := by decide +kernel
theorem dX4_copy_65 : decode cX4_copy 65 = .ok (.getfield 213, 3) := by decide +kernel
theorem dX4_copy_68 : decode cX4_copy 68 = .ok (.if_icmp .eq 9, 3) := by decide +kernel
theorem dX4_copy_71 : decode cX4_copy 71 = .ok (.aload_n 0, 1) := by decide +kernel
theorem dX4_copy_72 : decode cX4_copy 72 = .ok (.iconst 2, 1) := by decide +kernel
theorem dX4_copy_73 : decode cX4_copy 73 = .ok (.invokevirtual 54, 3) := by decide +kernel
theorem dX4_copy_76 : decode cX4_copy 76 = .ok (.ireturn, 1) := by decide +kernel
theorem dX4_copy_77 : decode cX4_copy 77 = .ok (.aload 6, 2) := by decide +kernel
theorem dX4_copy_79 : decode cX4_copy 79 = .ok (.iload_n 2, 1) := by decide +kernel
theorem dX4_copy_80 : decode cX4_copy 80 = .ok (.iload 5, 2) := by decide +kernel
theorem dX4_copy_82 : decode cX4_copy 82 = .ok (.invokevirtual 216, 3) := by decide +kernel
theorem dX4_copy_85 : decode cX4_copy 85 = .ok (.ifCond .eq 15, 3) := by decide +kernel
theorem dX4_copy_88 : decode cX4_copy 88 = .ok (.aload 7, 2) := by decide +kernel
theorem dX4_copy_90 : decode cX4_copy 90 = .ok (.iload 4, 2) := by decide +kernel
theorem dX4_copy_92 : decode cX4_copy 92 = .ok (.iload 5, 2) := by decide +kernel
theorem dX4_copy_94 : decode cX4_copy 94 = .ok (.invokevirtual 216, 3) := by decide +kernel
theorem dX4_copy_97 : decode cX4_copy 97 = .ok (.ifCond .ne 9, 3) := by decide +kernel
theorem dX4_copy_100 : decode cX4_copy 100 = .ok (.aload_n 0, 1) := by decide +kernel
theorem dX4_copy_101 : decode cX4_copy 101 = .ok (.iconst 0, 1) := by decide +kernel
theorem dX4_copy_102 : decode cX4_copy 102 = .ok (.invokevirtual 54, 3) := by decide +kernel
theorem dX4_copy_105 : decode cX4_copy 105 = .ok (.ireturn, 1) := by decide +kernel
theorem dX4_copy_106 : decode cX4_copy 106 = .ok (.aload 6, 2) := by decide +kernel
theorem dX4_copy_108 : decode cX4_copy 108 = .ok (.getfield 205, 3) := by decide +kernel
theorem dX4_copy_111 : decode cX4_copy 111 = .ok (.iload_n 2, 1) := by decide +kernel
theorem dX4_copy_112 : decode cX4_copy 112 = .ok (.aload 7, 2) := by decide +kernel
theorem dX4_copy_114 : decode cX4_copy 114 = .ok (.getfield 205, 3) := by decide +kernel
theorem dX4_copy_117 : decode cX4_copy 117 = .ok (.iload 4, 2) := by decide +kernel
theorem dX4_copy_119 : decode cX4_copy 119 = .ok (.iload 5, 2) := by decide +kernel
theorem dX4_copy_121 : decode cX4_copy 121 = .ok (.invokestatic 219, 3) := by decide +kernel
theorem dX4_copy_124 : decode cX4_copy 124 = .ok (.iload 5, 2) := by decide +kernel
theorem dX4_copy_126 : decode cX4_copy 126 = .ok (.ireturn, 1) := by decide +kernel
theorem dX4_lays_0 : decode cX4_lays 0 = .ok (.iload_n 1, 1) := by decide +kernel
theorem dX4_lays_1 : decode cX4_lays 1 = .ok (.invokestatic 195, 3) := by decide +kernel
theorem dX4_lays_4 : decode cX4_lays 4 = .ok (.ifCond .ne 9, 3) := by decide +kernel
theorem dX4_lays_7 : decode cX4_lays 7 = .ok (.aload_n 0, 1) := by decide +kernel
theorem dX4_lays_8 : decode cX4_lays 8 = .ok (.iconst 0, 1) := by decide +kernel
theorem dX4_lays_9 : decode cX4_lays 9 = .ok (.invokevirtual 54, 3) := by decide +kernel
theorem dX4_lays_12 : decode cX4_lays 12 = .ok (.ireturn, 1) := by decide +kernel
theorem dX4_lays_13 : decode cX4_lays 13 = .ok (.aload_n 0, 1) := by decide +kernel
theorem dX4_lays_14 : decode cX4_lays 14 = .ok (.getfield 38, 3) := by decide +kernel
theorem dX4_lays_17 : decode cX4_lays 17 = .ok (.iload_n 1, 1) := by decide +kernel
theorem dX4_lays_18 : decode cX4_lays 18 = .ok (.aaload, 1) := by decide +kernel
theorem dX4_lays_19 : decode cX4_lays 19 = .ok (.astore_n 2, 1) := by decide +kernel
theorem dX4_lays_20 : decode cX4_lays 20 = .ok (.aload_n 2, 1) := by decide +kernel
theorem dX4_lays_21 : decode cX4_lays 21 = .ok (.invokevirtual 202, 3) := by decide +kernel
theorem dX4_lays_24 : decode cX4_lays 24 = .ok (.ifCond .eq 9, 3) := by decide +kernel
theorem dX4_lays_27 : decode cX4_lays 27 = .ok (.aload_n 0, 1) := by decide +kernel
theorem dX4_lays_28 : decode cX4_lays 28 = .ok (.iconst 5, 1) := by decide +kernel
theorem dX4_lays_29 : decode cX4_lays 29 = .ok (.invokevirtual 54, 3) := by decide +kernel
theorem dX4_lays_32 : decode cX4_lays 32 = .ok (.ireturn, 1) := by decide +kernel
theorem dX4_lays_33 : decode cX4_lays 33 = .ok (.iconst 0, 1) := by decide +kernel
theorem dX4_lays_34 : decode cX4_lays 34 = .ok (.istore_n 3, 1) := by decide +kernel
theorem dX4_lays_35 : decode cX4_lays 35 = .ok (.iconst 0, 1) := by decide +kernel
theorem dX4_lays_36 : decode cX4_lays 36 = .ok (.istore 4, 2) := by decide +kernel
theorem dX4_lays_38 : decode cX4_lays 38 = .ok (.iload 4, 2) := by decide +kernel
theorem dX4_lays_40 : decode cX4_lays 40 = .ok (.bipush 12, 2) := by decide +kernel
theorem dX4_lays_42 : decode cX4_lays 42 = .ok (.if_icmp .ge 61, 3) := by decide +kernel
theorem dX4_lays_45 : decode cX4_lays 45 = .ok (.iload 4, 2) := by decide +kernel
theorem dX4_lays_47 : decode cX4_lays 47 = .ok (.aload_n 2, 1) := by decide +kernel
theorem dX4_lays_48 : decode cX4_lays 48 = .ok (.getfield 201, 3) := by decide +kernel
theorem dX4_lays_51 : decode cX4_lays 51 = .ok (.if_icmp .ge 52, 3) := by decide +kernel
theorem dX4_lays_54 : decode cX4_lays 54 = .ok (.aload_n 2, 1) := by decide +kernel
theorem dX4_lays_55 : decode cX4_lays 55 = .ok (.getfield 205, 3) := by decide +kernel
theorem dX4_lays_58 : decode cX4_lays 58 = .ok (.iload 4, 2) := by decide +kernel
theorem dX4_lays_60 : decode cX4_lays 60 = .ok (.laload, 1) := by decide +kernel
theorem dX4_lays_61 : decode cX4_lays 61 = .ok (.lstore 5, 2) := by decide +kernel
theorem dX4_lays_63 : decode cX4_lays 63 = .ok (.lload 5, 2) := by decide +kernel
theorem dX4_lays_65 : decode cX4_lays 65 = .ok (.ldc2_w 225, 3) := by decide +kernel
theorem dX4_lays_68 : decode cX4_lays 68 = .ok (.lcmp, 1) := by decide +kernel
theorem dX4_lays_69 : decode cX4_lays 69 = .ok (.ifCond .lt 28, 3) := by decide +kernel
theorem dX4_lays_72 : decode cX4_lays 72 = .ok (.lload 5, 2) := by decide +kernel
theorem dX4_lays_74 : decode cX4_lays 74 = .ok (.ldc2_w 227, 3) := by decide +kernel
theorem dX4_lays_77 : decode cX4_lays 77 = .ok (.lcmp, 1) := by decide +kernel
theorem dX4_lays_78 : decode cX4_lays 78 = .ok (.ifCond .gt 19, 3) := by decide +kernel
theorem dX4_lays_81 : decode cX4_lays 81 = .ok (.aload_n 0, 1) := by decide +kernel
theorem dX4_lays_82 : decode cX4_lays 82 = .ok (.getfield 10, 3) := by decide +kernel
theorem dX4_lays_85 : decode cX4_lays 85 = .ok (.getfield 58, 3) := by decide +kernel
theorem dX4_lays_88 : decode cX4_lays 88 = .ok (.iload 4, 2) := by decide +kernel
theorem dX4_lays_90 : decode cX4_lays 90 = .ok (.lload 5, 2) := by decide +kernel
theorem dX4_lays_92 : decode cX4_lays 92 = .ok (.l2i, 1) := by decide +kernel
theorem dX4_lays_93 : decode cX4_lays 93 = .ok (.iastore, 1) := by decide +kernel
theorem dX4_lays_94 : decode cX4_lays 94 = .ok (.iinc 3 1, 3) := by decide +kernel
theorem dX4_lays_97 : decode cX4_lays 97 = .ok (.iinc 4 1, 3) := by decide +kernel
theorem dX4_lays_100 : decode cX4_lays 100 = .ok (.goto (-62), 3) := by decide +kernel
theorem dX4_lays_103 : decode cX4_lays 103 = .ok (.iload_n 3, 1) := by decide +kernel
theorem dX4_lays_104 : decode cX4_lays 104 = .ok (.ireturn, 1) := by decide +kernel
theorem dX4_book_0 : decode cX4_book 0 = .ok (.iload_n 1, 1) := by decide +kernel
theorem dX4_book_1 : decode cX4_book 1 = .ok (.invokestatic 195, 3) := by decide +kernel
theorem dX4_book_4 : decode cX4_book 4 = .ok (.ifCond .ne 9, 3) := by decide +kernel
theorem dX4_book_7 : decode cX4_book 7 = .ok (.aload_n 0, 1) := by decide +kernel
theorem dX4_book_8 : decode cX4_book 8 = .ok (.iconst 0, 1) := by decide +kernel
theorem dX4_book_9 : decode cX4_book 9 = .ok (.invokevirtual 54, 3) := by decide +kernel
theorem dX4_book_12 : decode cX4_book 12 = .ok (.ireturn, 1) := by decide +kernel
theorem dX4_book_13 : decode cX4_book 13 = .ok (.aload_n 0, 1) := by decide +kernel
theorem dX4_book_14 : decode cX4_book 14 = .ok (.getfield 38, 3) := by decide +kernel
theorem dX4_book_17 : decode cX4_book 17 = .ok (.iload_n 1, 1) := by decide +kernel
theorem dX4_book_18 : decode cX4_book 18 = .ok (.aaload, 1) := by decide +kernel
theorem dX4_book_19 : decode cX4_book 19 = .ok (.astore_n 3, 1) := by decide +kernel
theorem dX4_book_20 : decode cX4_book 20 = .ok (.aload_n 3, 1) := by decide +kernel
theorem dX4_book_21 : decode cX4_book 21 = .ok (.invokevirtual 202, 3) := by decide +kernel
theorem dX4_book_24 : decode cX4_book 24 = .ok (.ifCond .eq 9, 3) := by decide +kernel
theorem dX4_book_27 : decode cX4_book 27 = .ok (.aload_n 0, 1) := by decide +kernel
theorem dX4_book_28 : decode cX4_book 28 = .ok (.iconst 5, 1) := by decide +kernel
theorem dX4_book_29 : decode cX4_book 29 = .ok (.invokevirtual 54, 3) := by decide +kernel
theorem dX4_book_32 : decode cX4_book 32 = .ok (.ireturn, 1) := by decide +kernel
theorem dX4_book_33 : decode cX4_book 33 = .ok (.aload_n 0, 1) := by decide +kernel
theorem dX4_book_34 : decode cX4_book 34 = .ok (.iload_n 2, 1) := by decide +kernel
theorem dX4_book_35 : decode cX4_book 35 = .ok (.invokevirtual 96, 3) := by decide +kernel
theorem dX4_book_38 : decode cX4_book 38 = .ok (.ifCond .ne 9, 3) := by decide +kernel
theorem dX4_book_41 : decode cX4_book 41 = .ok (.aload_n 0, 1) := by decide +kernel
theorem dX4_book_42 : decode cX4_book 42 = .ok (.iconst 0, 1) := by decide +kernel
theorem dX4_book_43 : decode cX4_book 43 = .ok (.invokevirtual 54, 3) := by decide +kernel
theorem dX4_book_46 : decode cX4_book 46 = .ok (.ireturn, 1) := by decide +kernel
theorem dX4_book_47 : decode cX4_book 47 = .ok (.aload_n 0, 1) := by decide +kernel
theorem dX4_book_48 : decode cX4_book 48 = .ok (.getfield 25, 3) := by decide +kernel
theorem dX4_book_51 : decode cX4_book 51 = .ok (.aload_n 0, 1) := by decide +kernel
theorem dX4_book_52 : decode cX4_book 52 = .ok (.getfield 10, 3) := by decide +kernel
theorem dX4_book_55 : decode cX4_book 55 = .ok (.getfield 99, 3) := by decide +kernel
theorem dX4_book_58 : decode cX4_book 58 = .ok (.iload_n 2, 1) := by decide +kernel
theorem dX4_book_59 : decode cX4_book 59 = .ok (.aaload, 1) := by decide +kernel
theorem dX4_book_60 : decode cX4_book 60 = .ok (.invokevirtual 166, 3) := by decide +kernel
theorem dX4_book_63 : decode cX4_book 63 = .ok (.iconst 0, 1) := by decide +kernel
theorem dX4_book_64 : decode cX4_book 64 = .ok (.istore 4, 2) := by decide +kernel
theorem dX4_book_66 : decode cX4_book 66 = .ok (.iload 4, 2) := by decide +kernel
theorem dX4_book_68 : decode cX4_book 68 = .ok (.aload_n 3, 1) := by decide +kernel
theorem dX4_book_69 : decode cX4_book 69 = .ok (.getfield 201, 3) := by decide +kernel
theorem dX4_book_72 : decode cX4_book 72 = .ok (.if_icmp .ge 30, 3) := by decide +kernel
theorem dX4_book_75 : decode cX4_book 75 = .ok (.aload_n 3, 1) := by decide +kernel
theorem dX4_book_76 : decode cX4_book 76 = .ok (.iload 4, 2) := by decide +kernel
theorem dX4_book_78 : decode cX4_book 78 = .ok (.aload_n 0, 1) := by decide +kernel
theorem dX4_book_79 : decode cX4_book 79 = .ok (.getfield 25, 3) := by decide +kernel
theorem dX4_book_82 : decode cX4_book 82 = .ok (.getfield 109, 3) := by decide +kernel
theorem dX4_book_85 : decode cX4_book 85 = .ok (.i2l, 1) := by decide +kernel
theorem dX4_book_86 : decode cX4_book 86 = .ok (.invokevirtual 209, 3) := by decide +kernel
theorem dX4_book_89 : decode cX4_book 89 = .ok (.aload_n 0, 1) := by decide +kernel
theorem dX4_book_90 : decode cX4_book 90 = .ok (.iload 4, 2) := by decide +kernel
theorem dX4_book_92 : decode cX4_book 92 = .ok (.iconst 1, 1) := by decide +kernel
theorem dX4_book_93 : decode cX4_book 93 = .ok (.invokevirtual 229, 3) := by decide +kernel
theorem dX4_book_96 : decode cX4_book 96 = .ok (.iinc 4 1, 3) := by decide +kernel
theorem dX4_book_99 : decode cX4_book 99 = .ok (.goto (-33), 3) := by decide +kernel
theorem dX4_book_102 : decode cX4_book 102 = .ok (.aload_n 3, 1) := by decide +kernel
theorem dX4_book_103 : decode cX4_book 103 = .ok (.getfield 201, 3) := by decide +kernel
theorem dX4_book_106 : decode cX4_book 106 = .ok (.ireturn, 1) := by decide +kernel
theorem dX4_read_0 : decode cX4_read 0 = .ok (.iload_n 1, 1) := by decide +kernel
theorem dX4_read_1 : decode cX4_read 1 = .ok (.invokestatic 195, 3) := by decide +kernel
theorem dX4_read_4 : decode cX4_read 4 = .ok (.ifCond .ne 9, 3) := by decide +kernel
theorem dX4_read_7 : decode cX4_read 7 = .ok (.aload_n 0, 1) := by decide +kernel
theorem dX4_read_8 : decode cX4_read 8 = .ok (.iconst 0, 1) := by decide +kernel
theorem dX4_read_9 : decode cX4_read 9 = .ok (.invokevirtual 54, 3) := by decide +kernel
theorem dX4_read_12 : decode cX4_read 12 = .ok (.ireturn, 1) := by decide +kernel
theorem dX4_read_13 : decode cX4_read 13 = .ok (.aload_n 0, 1) := by decide +kernel
theorem dX4_read_14 : decode cX4_read 14 = .ok (.getfield 38, 3) := by decide +kernel
theorem dX4_read_17 : decode cX4_read 17 = .ok (.iload_n 1, 1) := by decide +kernel
theorem dX4_read_18 : decode cX4_read 18 = .ok (.aaload, 1) := by decide +kernel
theorem dX4_read_19 : decode cX4_read 19 = .ok (.astore_n 3, 1) := by decide +kernel
theorem dX4_read_20 : decode cX4_read 20 = .ok (.aload_n 3, 1) := by decide +kernel
theorem dX4_read_21 : decode cX4_read 21 = .ok (.invokevirtual 202, 3) := by decide +kernel
theorem dX4_read_24 : decode cX4_read 24 = .ok (.ifCond .eq 9, 3) := by decide +kernel
theorem dX4_read_27 : decode cX4_read 27 = .ok (.aload_n 0, 1) := by decide +kernel
theorem dX4_read_28 : decode cX4_read 28 = .ok (.iconst 5, 1) := by decide +kernel
theorem dX4_read_29 : decode cX4_read 29 = .ok (.invokevirtual 54, 3) := by decide +kernel
theorem dX4_read_32 : decode cX4_read 32 = .ok (.ireturn, 1) := by decide +kernel
theorem dX4_read_33 : decode cX4_read 33 = .ok (.aload_n 0, 1) := by decide +kernel
theorem dX4_read_34 : decode cX4_read 34 = .ok (.iload_n 2, 1) := by decide +kernel
theorem dX4_read_35 : decode cX4_read 35 = .ok (.invokevirtual 96, 3) := by decide +kernel
theorem dX4_read_38 : decode cX4_read 38 = .ok (.ifCond .ne 9, 3) := by decide +kernel
theorem dX4_read_41 : decode cX4_read 41 = .ok (.aload_n 0, 1) := by decide +kernel
theorem dX4_read_42 : decode cX4_read 42 = .ok (.iconst 0, 1) := by decide +kernel
theorem dX4_read_43 : decode cX4_read 43 = .ok (.invokevirtual 54, 3) := by decide +kernel
theorem dX4_read_46 : decode cX4_read 46 = .ok (.ireturn, 1) := by decide +kernel
theorem dX4_read_47 : decode cX4_read 47 = .ok (.iconst 0, 1) := by decide +kernel
theorem dX4_read_48 : decode cX4_read 48 = .ok (.istore 4, 2) := by decide +kernel
theorem dX4_read_50 : decode cX4_read 50 = .ok (.iconst 0, 1) := by decide +kernel
theorem dX4_read_51 : decode cX4_read 51 = .ok (.istore 5, 2) := by decide +kernel
theorem dX4_read_53 : decode cX4_read 53 = .ok (.iload 5, 2) := by decide +kernel
theorem dX4_read_55 : decode cX4_read 55 = .ok (.bipush 6, 2) := by decide +kernel
theorem dX4_read_57 : decode cX4_read 57 = .ok (.if_icmp .ge 70, 3) := by decide +kernel
theorem dX4_read_60 : decode cX4_read 60 = .ok (.iconst 0, 1) := by decide +kernel
theorem dX4_read_61 : decode cX4_read 61 = .ok (.istore 6, 2) := by decide +kernel
theorem dX4_read_63 : decode cX4_read 63 = .ok (.iload 6, 2) := by decide +kernel
theorem dX4_read_65 : decode cX4_read 65 = .ok (.bipush 99, 2) := by decide +kernel
theorem dX4_read_67 : decode cX4_read 67 = .ok (.if_icmp .gt 54, 3) := by decide +kernel
theorem dX4_read_70 : decode cX4_read 70 = .ok (.aload_n 0, 1) := by decide +kernel
theorem dX4_read_71 : decode cX4_read 71 = .ok (.getfield 25, 3) := by decide +kernel
theorem dX4_read_74 : decode cX4_read 74 = .ok (.aload_n 0, 1) := by decide +kernel
theorem dX4_read_75 : decode cX4_read 75 = .ok (.getfield 10, 3) := by decide +kernel
theorem dX4_read_78 : decode cX4_read 78 = .ok (.getfield 99, 3) := by decide +kernel
theorem dX4_read_81 : decode cX4_read 81 = .ok (.iload_n 2, 1) := by decide +kernel
theorem dX4_read_82 : decode cX4_read 82 = .ok (.aaload, 1) := by decide +kernel
theorem dX4_read_83 : decode cX4_read 83 = .ok (.invokevirtual 166, 3) := by decide +kernel
theorem dX4_read_86 : decode cX4_read 86 = .ok (.aload_n 0, 1) := by decide +kernel
theorem dX4_read_87 : decode cX4_read 87 = .ok (.getfield 25, 3) := by decide +kernel
theorem dX4_read_90 : decode cX4_read 90 = .ok (.iload 5, 2) := by decide +kernel
theorem dX4_read_92 : decode cX4_read 92 = .ok (.putfield 103, 3) := by decide +kernel
theorem dX4_read_95 : decode cX4_read 95 = .ok (.aload_n 0, 1) := by decide +kernel
theorem dX4_read_96 : decode cX4_read 96 = .ok (.getfield 25, 3) := by decide +kernel
theorem dX4_read_99 : decode cX4_read 99 = .ok (.iload 6, 2) := by decide +kernel
theorem dX4_read_101 : decode cX4_read 101 = .ok (.putfield 106, 3) := by decide +kernel
theorem dX4_read_104 : decode cX4_read 104 = .ok (.aload_n 0, 1) := by decide +kernel
theorem dX4_read_105 : decode cX4_read 105 = .ok (.aload_n 3, 1) := by decide +kernel
theorem dX4_read_106 : decode cX4_read 106 = .ok (.invokevirtual 232, 3) := by decide +kernel
theorem dX4_read_109 : decode cX4_read 109 = .ok (.ifCond .eq 6, 3) := by decide +kernel
theorem dX4_read_112 : decode cX4_read 112 = .ok (.iinc 4 1, 3) := by decide +kernel
theorem dX4_read_115 : decode cX4_read 115 = .ok (.iinc 6 1, 3) := by decide +kernel
theorem dX4_read_118 : decode cX4_read 118 = .ok (.goto (-55), 3) := by decide +kernel
theorem dX4_read_121 : decode cX4_read 121 = .ok (.iinc 5 1, 3) := by decide +kernel
theorem dX4_read_124 : decode cX4_read 124 = .ok (.goto (-71), 3) := by decide +kernel
theorem dX4_read_127 : decode cX4_read 127 = .ok (.iload 4, 2) := by decide +kernel
theorem dX4_read_129 : decode cX4_read 129 = .ok (.ireturn, 1) := by decide +kernel
theorem dX4_image_0 : decode cX4_image 0 = .ok (.aload_n 0, 1) := by decide +kernel
theorem dX4_image_1 : decode cX4_image 1 = .ok (.getfield 16, 3) := by decide +kernel
theorem dX4_image_4 : decode cX4_image 4 = .ok (.aload_n 0, 1) := by decide +kernel
theorem dX4_image_5 : decode cX4_image 5 = .ok (.getfield 10, 3) := by decide +kernel
theorem dX4_image_8 : decode cX4_image 8 = .ok (.invokevirtual 173, 3) := by decide +kernel
theorem dX4_image_11 : decode cX4_image 11 = .ok (.aload_n 0, 1) := by decide +kernel
theorem dX4_image_12 : decode cX4_image 12 = .ok (.iconst 1, 1) := by decide +kernel
theorem dX4_image_13 : decode cX4_image 13 = .ok (.putfield 236, 3) := by decide +kernel
theorem dX4_image_16 : decode cX4_image 16 = .ok (.iconst 1, 1) := by decide +kernel
theorem dX4_image_17 : decode cX4_image 17 = .ok (.ireturn, 1) := by decide +kernel
theorem dX4_undo_0 : decode cX4_undo 0 = .ok (.aload_n 0, 1) := by decide +kernel
theorem dX4_undo_1 : decode cX4_undo 1 = .ok (.getfield 236, 3) := by decide +kernel
theorem dX4_undo_4 : decode cX4_undo 4 = .ok (.ifCond .ne 9, 3) := by decide +kernel
theorem dX4_undo_7 : decode cX4_undo 7 = .ok (.aload_n 0, 1) := by decide +kernel
theorem dX4_undo_8 : decode cX4_undo 8 = .ok (.iconst 3, 1) := by decide +kernel
theorem dX4_undo_9 : decode cX4_undo 9 = .ok (.invokevirtual 54, 3) := by decide +kernel
theorem dX4_undo_12 : decode cX4_undo 12 = .ok (.ireturn, 1) := by decide +kernel
theorem dX4_undo_13 : decode cX4_undo 13 = .ok (.aload_n 0, 1) := by decide +kernel
theorem dX4_undo_14 : decode cX4_undo 14 = .ok (.getfield 10, 3) := by decide +kernel
theorem dX4_undo_17 : decode cX4_undo 17 = .ok (.aload_n 0, 1) := by decide +kernel
theorem dX4_undo_18 : decode cX4_undo 18 = .ok (.getfield 16, 3) := by decide +kernel
theorem dX4_undo_21 : decode cX4_undo 21 = .ok (.invokevirtual 173, 3) := by decide +kernel
theorem dX4_undo_24 : decode cX4_undo 24 = .ok (.aload_n 0, 1) := by decide +kernel
theorem dX4_undo_25 : decode cX4_undo 25 = .ok (.getfield 10, 3) := by decide +kernel
theorem dX4_undo_28 : decode cX4_undo 28 = .ok (.getfield 93, 3) := by decide +kernel
theorem dX4_undo_31 : decode cX4_undo 31 = .ok (.ireturn, 1) := by decide +kernel
theorem dX4_tear_0 : decode cX4_tear 0 = .ok (.aload_n 0, 1) := by decide +kernel
theorem dX4_tear_1 : decode cX4_tear 1 = .ok (.getfield 236, 3) := by decide +kernel
theorem dX4_tear_4 : decode cX4_tear 4 = .ok (.ifCond .eq 7, 3) := by decide +kernel
theorem dX4_tear_7 : decode cX4_tear 7 = .ok (.iconst 1, 1) := by decide +kernel
theorem dX4_tear_8 : decode cX4_tear 8 = .ok (.goto 4, 3) := by decide +kernel
theorem dX4_tear_11 : decode cX4_tear 11 = .ok (.iconst 0, 1) := by decide +kernel
theorem dX4_tear_12 : decode cX4_tear 12 = .ok (.istore_n 1, 1) := by decide +kernel
theorem dX4_tear_13 : decode cX4_tear 13 = .ok (.aload_n 0, 1) := by decide +kernel
theorem dX4_tear_14 : decode cX4_tear 14 = .ok (.iconst 0, 1) := by decide +kernel
theorem dX4_tear_15 : decode cX4_tear 15 = .ok (.putfield 236, 3) := by decide +kernel
theorem dX4_tear_18 : decode cX4_tear 18 = .ok (.iload_n 1, 1) := by decide +kernel
theorem dX4_tear_19 : decode cX4_tear 19 = .ok (.ireturn, 1) := by decide +kernel
theorem dX4_count_0 : decode cX4_count 0 = .ok (.iload_n 1, 1) := by decide +kernel
theorem dX4_count_1 : decode cX4_count 1 = .ok (.tableswitch 63 0 3 #[31, 39, 47, 55], 31) := by decide +kernel
theorem dX4_count_32 : decode cX4_count 32 = .ok (.aload_n 0, 1) := by decide +kernel
theorem dX4_count_33 : decode cX4_count 33 = .ok (.getfield 10, 3) := by decide +kernel
theorem dX4_count_36 : decode cX4_count 36 = .ok (.getfield 93, 3) := by decide +kernel
theorem dX4_count_39 : decode cX4_count 39 = .ok (.ireturn, 1) := by decide +kernel
theorem dX4_count_40 : decode cX4_count 40 = .ok (.aload_n 0, 1) := by decide +kernel
theorem dX4_count_41 : decode cX4_count 41 = .ok (.getfield 32, 3) := by decide +kernel
theorem dX4_count_44 : decode cX4_count 44 = .ok (.getfield 187, 3) := by decide +kernel
theorem dX4_count_47 : decode cX4_count 47 = .ok (.ireturn, 1) := by decide +kernel
theorem dX4_count_48 : decode cX4_count 48 = .ok (.aload_n 0, 1) := by decide +kernel
theorem dX4_count_49 : decode cX4_count 49 = .ok (.getfield 10, 3) := by decide +kernel
theorem dX4_count_52 : decode cX4_count 52 = .ok (.invokevirtual 240, 3) := by decide +kernel
theorem dX4_count_55 : decode cX4_count 55 = .ok (.ireturn, 1) := by decide +kernel
theorem dX4_count_56 : decode cX4_count 56 = .ok (.aload_n 0, 1) := by decide +kernel
theorem dX4_count_57 : decode cX4_count 57 = .ok (.getfield 10, 3) := by decide +kernel
theorem dX4_count_60 : decode cX4_count 60 = .ok (.invokevirtual 243, 3) := by decide +kernel
theorem dX4_count_63 : decode cX4_count 63 = .ok (.ireturn, 1) := by decide +kernel
theorem dX4_count_64 : decode cX4_count 64 = .ok (.aload_n 0, 1) := by decide +kernel
theorem dX4_count_65 : decode cX4_count 65 = .ok (.iconst 0, 1) := by decide +kernel
theorem dX4_count_66 : decode cX4_count 66 = .ok (.invokevirtual 54, 3) := by decide +kernel
theorem dX4_count_69 : decode cX4_count 69 = .ok (.ireturn, 1) := by decide +kernel
theorem dX4_status_0 : decode cX4_status 0 = .ok (.iload_n 1, 1) := by decide +kernel
theorem dX4_status_1 : decode cX4_status 1 = .ok (.iconst (-1), 1) := by decide +kernel
theorem dX4_status_2 : decode cX4_status 2 = .ok (.if_icmp .ne 11, 3) := by decide +kernel
theorem dX4_status_5 : decode cX4_status 5 = .ok (.aload_n 0, 1) := by decide +kernel
theorem dX4_status_6 : decode cX4_status 6 = .ok (.getfield 42, 3) := by decide +kernel
theorem dX4_status_9 : decode cX4_status 9 = .ok (.invokestatic 75, 3) := by decide +kernel
theorem dX4_status_12 : decode cX4_status 12 = .ok (.ireturn, 1) := by decide +kernel
theorem dX4_status_13 : decode cX4_status 13 = .ok (.iload_n 1, 1) := by decide +kernel
theorem dX4_status_14 : decode cX4_status 14 = .ok (.iconst 0, 1) := by decide +kernel
theorem dX4_status_15 : decode cX4_status 15 = .ok (.bipush 6, 2) := by decide +kernel
theorem dX4_status_17 : decode cX4_status 17 = .ok (.invokestatic 128, 3) := by decide +kernel
theorem dX4_status_20 : decode cX4_status 20 = .ok (.ifCond .ne 9, 3) := by decide +kernel
theorem dX4_status_23 : decode cX4_status 23 = .ok (.aload_n 0, 1) := by decide +kernel
theorem dX4_status_24 : decode cX4_status 24 = .ok (.iconst 0, 1) := by decide +kernel
theorem dX4_status_25 : decode cX4_status 25 = .ok (.invokevirtual 54, 3) := by decide +kernel
theorem dX4_status_28 : decode cX4_status 28 = .ok (.ireturn, 1) := by decide +kernel
theorem dX4_status_29 : decode cX4_status 29 = .ok (.aload_n 0, 1) := by decide +kernel
theorem dX4_status_30 : decode cX4_status 30 = .ok (.getfield 42, 3) := by decide +kernel
theorem dX4_status_33 : decode cX4_status 33 = .ok (.iload_n 1, 1) := by decide +kernel
theorem dX4_status_34 : decode cX4_status 34 = .ok (.iaload, 1) := by decide +kernel
theorem dX4_status_35 : decode cX4_status 35 = .ok (.ireturn, 1) := by decide +kernel
theorem dX4_found_0 : decode cX4_found 0 = .ok (.aload_n 0, 1) := by decide +kernel
theorem dX4_found_1 : decode cX4_found 1 = .ok (.getfield 42, 3) := by decide +kernel
theorem dX4_found_4 : decode cX4_found 4 = .ok (.iload_n 1, 1) := by decide +kernel
theorem dX4_found_5 : decode cX4_found 5 = .ok (.dup2, 1) := by decide +kernel
theorem dX4_found_6 : decode cX4_found 6 = .ok (.iaload, 1) := by decide +kernel
theorem dX4_found_7 : decode cX4_found 7 = .ok (.iconst 1, 1) := by decide +kernel
theorem dX4_found_8 : decode cX4_found 8 = .ok (.iadd, 1) := by decide +kernel
theorem dX4_found_9 : decode cX4_found 9 = .ok (.iastore, 1) := by decide +kernel
theorem dX4_found_10 : decode cX4_found 10 = .ok (.ldc 246, 2) := by decide +kernel
theorem dX4_found_12 : decode cX4_found 12 = .ok (.iload_n 1, 1) := by decide +kernel
theorem dX4_found_13 : decode cX4_found 13 = .ok (.isub, 1) := by decide +kernel
theorem dX4_found_14 : decode cX4_found 14 = .ok (.ireturn, 1) := by decide +kernel
theorem dX4_isWithin_0 : decode cX4_isWithin 0 = .ok (.iload_n 0, 1) := by decide +kernel
theorem dX4_isWithin_1 : decode cX4_isWithin 1 = .ok (.iload_n 1, 1) := by decide +kernel
theorem dX4_isWithin_2 : decode cX4_isWithin 2 = .ok (.if_icmp .lt 12, 3) := by decide +kernel
theorem dX4_isWithin_5 : decode cX4_isWithin 5 = .ok (.iload_n 0, 1) := by decide +kernel
theorem dX4_isWithin_6 : decode cX4_isWithin 6 = .ok (.iload_n 2, 1) := by decide +kernel
theorem dX4_isWithin_7 : decode cX4_isWithin 7 = .ok (.if_icmp .gt 7, 3) := by decide +kernel
theorem dX4_isWithin_10 : decode cX4_isWithin 10 = .ok (.iconst 1, 1) := by decide +kernel
theorem dX4_isWithin_11 : decode cX4_isWithin 11 = .ok (.goto 4, 3) := by decide +kernel
theorem dX4_isWithin_14 : decode cX4_isWithin 14 = .ok (.iconst 0, 1) := by decide +kernel
theorem dX4_isWithin_15 : decode cX4_isWithin 15 = .ok (.ireturn, 1) := by decide +kernel
theorem dX4_isMonth_0 : decode cX4_isMonth 0 = .ok (.iload_n 0, 1) := by decide +kernel
theorem dX4_isMonth_1 : decode cX4_isMonth 1 = .ok (.iconst 0, 1) := by decide +kernel
theorem dX4_isMonth_2 : decode cX4_isMonth 2 = .ok (.bipush 11, 2) := by decide +kernel
theorem dX4_isMonth_4 : decode cX4_isMonth 4 = .ok (.invokestatic 128, 3) := by decide +kernel
theorem dX4_isMonth_7 : decode cX4_isMonth 7 = .ok (.ireturn, 1) := by decide +kernel
theorem dX4_isWeather_0 : decode cX4_isWeather 0 = .ok (.iload_n 0, 1) := by decide +kernel
theorem dX4_isWeather_1 : decode cX4_isWeather 1 = .ok (.bipush (-20), 2) := by decide +kernel
theorem dX4_isWeather_3 : decode cX4_isWeather 3 = .ok (.bipush 20, 2) := by decide +kernel
theorem dX4_isWeather_5 : decode cX4_isWeather 5 = .ok (.invokestatic 128, 3) := by decide +kernel
theorem dX4_isWeather_8 : decode cX4_isWeather 8 = .ok (.ireturn, 1) := by decide +kernel
theorem dX4_isKind_0 : decode cX4_isKind 0 = .ok (.iload_n 0, 1) := by decide +kernel
theorem dX4_isKind_1 : decode cX4_isKind 1 = .ok (.iconst 0, 1) := by decide +kernel
theorem dX4_isKind_2 : decode cX4_isKind 2 = .ok (.iconst 5, 1) := by decide +kernel
theorem dX4_isKind_3 : decode cX4_isKind 3 = .ok (.invokestatic 128, 3) := by decide +kernel
theorem dX4_isKind_6 : decode cX4_isKind 6 = .ok (.ireturn, 1) := by decide +kernel
theorem dX4_isCoat_0 : decode cX4_isCoat 0 = .ok (.iload_n 0, 1) := by decide +kernel
theorem dX4_isCoat_1 : decode cX4_isCoat 1 = .ok (.iconst 0, 1) := by decide +kernel
theorem dX4_isCoat_2 : decode cX4_isCoat 2 = .ok (.iconst 3, 1) := by decide +kernel
theorem dX4_isCoat_3 : decode cX4_isCoat 3 = .ok (.invokestatic 128, 3) := by decide +kernel
theorem dX4_isCoat_6 : decode cX4_isCoat 6 = .ok (.ireturn, 1) := by decide +kernel
theorem dX4_isSheet_0 : decode cX4_isSheet 0 = .ok (.iload_n 0, 1) := by decide +kernel
theorem dX4_isSheet_1 : decode cX4_isSheet 1 = .ok (.iconst 0, 1) := by decide +kernel
theorem dX4_isSheet_2 : decode cX4_isSheet 2 = .ok (.iconst 3, 1) := by decide +kernel
theorem dX4_isSheet_3 : decode cX4_isSheet 3 = .ok (.invokestatic 128, 3) := by decide +kernel
theorem dX4_isSheet_6 : decode cX4_isSheet 6 = .ok (.ireturn, 1) := by decide +kernel
theorem dX4_isEwe_0 : decode cX4_isEwe 0 = .ok (.iload_n 1, 1) := by decide +kernel
theorem dX4_isEwe_1 : decode cX4_isEwe 1 = .ok (.iconst 0, 1) := by decide +kernel
theorem dX4_isEwe_2 : decode cX4_isEwe 2 = .ok (.aload_n 0, 1) := by decide +kernel
theorem dX4_isEwe_3 : decode cX4_isEwe 3 = .ok (.getfield 10, 3) := by decide +kernel
theorem dX4_isEwe_6 : decode cX4_isEwe 6 = .ok (.getfield 93, 3) := by decide +kernel
theorem dX4_isEwe_9 : decode cX4_isEwe 9 = .ok (.iconst 1, 1) := by decide +kernel
theorem dX4_isEwe_10 : decode cX4_isEwe 10 = .ok (.isub, 1) := by decide +kernel
theorem dX4_isEwe_11 : decode cX4_isEwe 11 = .ok (.invokestatic 128, 3) := by decide +kernel
theorem dX4_isEwe_14 : decode cX4_isEwe 14 = .ok (.ireturn, 1) := by decide +kernel
theorem dX4_sum_0 : decode cX4_sum 0 = .ok (.iconst 0, 1) := by decide +kernel
theorem dX4_sum_1 : decode cX4_sum 1 = .ok (.istore_n 1, 1) := by decide +kernel
theorem dX4_sum_2 : decode cX4_sum 2 = .ok (.aload_n 0, 1) := by decide +kernel
theorem dX4_sum_3 : decode cX4_sum 3 = .ok (.astore_n 2, 1) := by decide +kernel
theorem dX4_sum_4 : decode cX4_sum 4 = .ok (.aload_n 2, 1) := by decide +kernel
theorem dX4_sum_5 : decode cX4_sum 5 = .ok (.arraylength, 1) := by decide +kernel
theorem dX4_sum_6 : decode cX4_sum 6 = .ok (.istore_n 3, 1) := by decide +kernel
theorem dX4_sum_7 : decode cX4_sum 7 = .ok (.iconst 0, 1) := by decide +kernel
theorem dX4_sum_8 : decode cX4_sum 8 = .ok (.istore 4, 2) := by decide +kernel
theorem dX4_sum_10 : decode cX4_sum 10 = .ok (.iload 4, 2) := by decide +kernel
theorem dX4_sum_12 : decode cX4_sum 12 = .ok (.iload_n 3, 1) := by decide +kernel
theorem dX4_sum_13 : decode cX4_sum 13 = .ok (.if_icmp .ge 20, 3) := by decide +kernel
theorem dX4_sum_16 : decode cX4_sum 16 = .ok (.aload_n 2, 1) := by decide +kernel
theorem dX4_sum_17 : decode cX4_sum 17 = .ok (.iload 4, 2) := by decide +kernel
theorem dX4_sum_19 : decode cX4_sum 19 = .ok (.iaload, 1) := by decide +kernel
theorem dX4_sum_20 : decode cX4_sum 20 = .ok (.istore 5, 2) := by decide +kernel
theorem dX4_sum_22 : decode cX4_sum 22 = .ok (.iload_n 1, 1) := by decide +kernel
theorem dX4_sum_23 : decode cX4_sum 23 = .ok (.iload 5, 2) := by decide +kernel
theorem dX4_sum_25 : decode cX4_sum 25 = .ok (.iadd, 1) := by decide +kernel
theorem dX4_sum_26 : decode cX4_sum 26 = .ok (.istore_n 1, 1) := by decide +kernel
theorem dX4_sum_27 : decode cX4_sum 27 = .ok (.iinc 4 1, 3) := by decide +kernel
theorem dX4_sum_30 : decode cX4_sum 30 = .ok (.goto (-20), 3) := by decide +kernel
theorem dX4_sum_33 : decode cX4_sum 33 = .ok (.iload_n 1, 1) := by decide +kernel
theorem dX4_sum_34 : decode cX4_sum 34 = .ok (.ireturn, 1) := by decide +kernel
theorem dX4_passAlone_0 : decode cX4_passAlone 0 = .ok (.aload_n 0, 1) := by decide +kernel
theorem dX4_passAlone_1 : decode cX4_passAlone 1 = .ok (.iconst 0, 1) := by decide +kernel
theorem dX4_passAlone_2 : decode cX4_passAlone 2 = .ok (.iload_n 1, 1) := by decide +kernel
theorem dX4_passAlone_3 : decode cX4_passAlone 3 = .ok (.invokevirtual 229, 3) := by decide +kernel
theorem dX4_passAlone_6 : decode cX4_passAlone 6 = .ok (.return_, 1) := by decide +kernel
theorem dX4_passAloneFrom_0 : decode cX4_passAloneFrom 0 = .ok (.aload_n 0, 1) := by decide +kernel
theorem dX4_passAloneFrom_1 : decode cX4_passAloneFrom 1 = .ok (.getfield 10, 3) := by decide +kernel
theorem dX4_passAloneFrom_4 : decode cX4_passAloneFrom 4 = .ok (.getfield 67, 3) := by decide +kernel
theorem dX4_passAloneFrom_7 : decode cX4_passAloneFrom 7 = .ok (.iload_n 1, 1) := by decide +kernel
theorem dX4_passAloneFrom_8 : decode cX4_passAloneFrom 8 = .ok (.iadd, 1) := by decide +kernel
theorem dX4_passAloneFrom_9 : decode cX4_passAloneFrom 9 = .ok (.istore_n 3, 1) := by decide +kernel
theorem dX4_passAloneFrom_10 : decode cX4_passAloneFrom 10 = .ok (.iconst 0, 1) := by decide +kernel
theorem dX4_passAloneFrom_11 : decode cX4_passAloneFrom 11 = .ok (.istore 4, 2) := by decide +kernel
theorem dX4_passAloneFrom_13 : decode cX4_passAloneFrom 13 = .ok (.iload 4, 2) := by decide +kernel
theorem dX4_passAloneFrom_15 : decode cX4_passAloneFrom 15 = .ok (.iload_n 2, 1) := by decide +kernel
theorem dX4_passAloneFrom_16 : decode cX4_passAloneFrom 16 = .ok (.if_icmp .ge 50, 3) := by decide +kernel
theorem dX4_passAloneFrom_19 : decode cX4_passAloneFrom 19 = .ok (.iload_n 3, 1) := by decide +kernel
theorem dX4_passAloneFrom_20 : decode cX4_passAloneFrom 20 = .ok (.iload 4, 2) := by decide +kernel
theorem dX4_passAloneFrom_22 : decode cX4_passAloneFrom 22 = .ok (.iadd, 1) := by decide +kernel
theorem dX4_passAloneFrom_23 : decode cX4_passAloneFrom 23 = .ok (.bipush 12, 2) := by decide +kernel
theorem dX4_passAloneFrom_25 : decode cX4_passAloneFrom 25 = .ok (.irem, 1) := by decide +kernel
theorem dX4_passAloneFrom_26 : decode cX4_passAloneFrom 26 = .ok (.istore 5, 2) := by decide +kernel
theorem dX4_passAloneFrom_28 : decode cX4_passAloneFrom 28 = .ok (.aload_n 0, 1) := by decide +kernel
theorem dX4_passAloneFrom_29 : decode cX4_passAloneFrom 29 = .ok (.getfield 25, 3) := by decide +kernel
theorem dX4_passAloneFrom_32 : decode cX4_passAloneFrom 32 = .ok (.iload 5, 2) := by decide +kernel
theorem dX4_passAloneFrom_34 : decode cX4_passAloneFrom 34 = .ok (.aload_n 0, 1) := by decide +kernel
theorem dX4_passAloneFrom_35 : decode cX4_passAloneFrom 35 = .ok (.getfield 10, 3) := by decide +kernel
theorem dX4_passAloneFrom_38 : decode cX4_passAloneFrom 38 = .ok (.getfield 58, 3) := by decide +kernel
theorem dX4_passAloneFrom_41 : decode cX4_passAloneFrom 41 = .ok (.iload 5, 2) := by decide +kernel
theorem dX4_passAloneFrom_43 : decode cX4_passAloneFrom 43 = .ok (.iaload, 1) := by decide +kernel
theorem dX4_passAloneFrom_44 : decode cX4_passAloneFrom 44 = .ok (.invokevirtual 247, 3) := by decide +kernel
theorem dX4_passAloneFrom_47 : decode cX4_passAloneFrom 47 = .ok (.iload 5, 2) := by decide +kernel
theorem dX4_passAloneFrom_49 : decode cX4_passAloneFrom 49 = .ok (.iconst 5, 1) := by decide +kernel
theorem dX4_passAloneFrom_50 : decode cX4_passAloneFrom 50 = .ok (.if_icmp .ne 10, 3) := by decide +kernel
theorem dX4_passAloneFrom_53 : decode cX4_passAloneFrom 53 = .ok (.aload_n 0, 1) := by decide +kernel
theorem dX4_passAloneFrom_54 : decode cX4_passAloneFrom 54 = .ok (.getfield 25, 3) := by decide +kernel
theorem dX4_passAloneFrom_57 : decode cX4_passAloneFrom 57 = .ok (.invokevirtual 250, 3) := by decide +kernel
theorem dX4_passAloneFrom_60 : decode cX4_passAloneFrom 60 = .ok (.iinc 4 1, 3) := by decide +kernel
theorem dX4_passAloneFrom_63 : decode cX4_passAloneFrom 63 = .ok (.goto (-50), 3) := by decide +kernel
theorem dX4_passAloneFrom_66 : decode cX4_passAloneFrom 66 = .ok (.return_, 1) := by decide +kernel
theorem dX4_growsAsTold_0 : decode cX4_growsAsTold 0 = .ok (.iconst 0, 1) := by decide +kernel
theorem dX4_growsAsTold_1 : decode cX4_growsAsTold 1 = .ok (.istore_n 2, 1) := by decide +kernel
theorem dX4_growsAsTold_2 : decode cX4_growsAsTold 2 = .ok (.iload_n 2, 1) := by decide +kernel
theorem dX4_growsAsTold_3 : decode cX4_growsAsTold 3 = .ok (.aload_n 1, 1) := by decide +kernel
theorem dX4_growsAsTold_4 : decode cX4_growsAsTold 4 = .ok (.getfield 201, 3) := by decide +kernel
theorem dX4_growsAsTold_7 : decode cX4_growsAsTold 7 = .ok (.if_icmp .ge 35, 3) := by decide +kernel
theorem dX4_growsAsTold_10 : decode cX4_growsAsTold 10 = .ok (.aload_n 1, 1) := by decide +kernel
theorem dX4_growsAsTold_11 : decode cX4_growsAsTold 11 = .ok (.getfield 205, 3) := by decide +kernel
theorem dX4_growsAsTold_14 : decode cX4_growsAsTold 14 = .ok (.iload_n 2, 1) := by decide +kernel
theorem dX4_growsAsTold_15 : decode cX4_growsAsTold 15 = .ok (.laload, 1) := by decide +kernel
theorem dX4_growsAsTold_16 : decode cX4_growsAsTold 16 = .ok (.aload_n 0, 1) := by decide +kernel
theorem dX4_growsAsTold_17 : decode cX4_growsAsTold 17 = .ok (.getfield 25, 3) := by decide +kernel
theorem dX4_growsAsTold_20 : decode cX4_growsAsTold 20 = .ok (.getfield 109, 3) := by decide +kernel
theorem dX4_growsAsTold_23 : decode cX4_growsAsTold 23 = .ok (.i2l, 1) := by decide +kernel
theorem dX4_growsAsTold_24 : decode cX4_growsAsTold 24 = .ok (.lcmp, 1) := by decide +kernel
theorem dX4_growsAsTold_25 : decode cX4_growsAsTold 25 = .ok (.ifCond .eq 5, 3) := by decide +kernel
theorem dX4_growsAsTold_28 : decode cX4_growsAsTold 28 = .ok (.iconst 0, 1) := by decide +kernel
theorem dX4_growsAsTold_29 : decode cX4_growsAsTold 29 = .ok (.ireturn, 1) := by decide +kernel
theorem dX4_growsAsTold_30 : decode cX4_growsAsTold 30 = .ok (.aload_n 0, 1) := by decide +kernel
theorem dX4_growsAsTold_31 : decode cX4_growsAsTold 31 = .ok (.iload_n 2, 1) := by decide +kernel
theorem dX4_growsAsTold_32 : decode cX4_growsAsTold 32 = .ok (.iconst 1, 1) := by decide +kernel
theorem dX4_growsAsTold_33 : decode cX4_growsAsTold 33 = .ok (.invokevirtual 229, 3) := by decide +kernel
theorem dX4_growsAsTold_36 : decode cX4_growsAsTold 36 = .ok (.iinc 2 1, 3) := by decide +kernel
theorem dX4_growsAsTold_39 : decode cX4_growsAsTold 39 = .ok (.goto (-37), 3) := by decide +kernel
theorem dX4_growsAsTold_42 : decode cX4_growsAsTold 42 = .ok (.iconst 1, 1) := by decide +kernel
theorem dX4_growsAsTold_43 : decode cX4_growsAsTold 43 = .ok (.ireturn, 1) := by decide +kernel
theorem dX4_kindAbove_0 : decode cX4_kindAbove 0 = .ok (.iload_n 0, 1) := by decide +kernel
theorem dX4_kindAbove_1 : decode cX4_kindAbove 1 = .ok (.tableswitch 41 1 5 #[35, 35, 35, 37, 39], 35) := by decide +kernel
theorem dX4_kindAbove_36 : decode cX4_kindAbove 36 = .ok (.iconst 0, 1) := by decide +kernel
theorem dX4_kindAbove_37 : decode cX4_kindAbove 37 = .ok (.ireturn, 1) := by decide +kernel
theorem dX4_kindAbove_38 : decode cX4_kindAbove 38 = .ok (.iconst 1, 1) := by decide +kernel
theorem dX4_kindAbove_39 : decode cX4_kindAbove 39 = .ok (.ireturn, 1) := by decide +kernel
theorem dX4_kindAbove_40 : decode cX4_kindAbove 40 = .ok (.iconst 2, 1) := by decide +kernel
theorem dX4_kindAbove_41 : decode cX4_kindAbove 41 = .ok (.ireturn, 1) := by decide +kernel
theorem dX4_kindAbove_42 : decode cX4_kindAbove 42 = .ok (.iconst (-1), 1) := by decide +kernel
theorem dX4_kindAbove_43 : decode cX4_kindAbove 43 = .ok (.ireturn, 1) := by decide +kernel
theorem dX4_isOfKind_0 : decode cX4_isOfKind 0 = .ok (.iload_n 0, 1) := by decide +kernel
theorem dX4_isOfKind_1 : decode cX4_isOfKind 1 = .ok (.istore_n 2, 1) := by decide +kernel
theorem dX4_isOfKind_2 : decode cX4_isOfKind 2 = .ok (.iconst 0, 1) := by decide +kernel
theorem dX4_isOfKind_3 : decode cX4_isOfKind 3 = .ok (.istore_n 3, 1) := by decide +kernel
theorem dX4_isOfKind_4 : decode cX4_isOfKind 4 = .ok (.iload_n 3, 1) := by decide +kernel
theorem dX4_isOfKind_5 : decode cX4_isOfKind 5 = .ok (.bipush 6, 2) := by decide +kernel
theorem dX4_isOfKind_7 : decode cX4_isOfKind 7 = .ok (.if_icmp .ge 25, 3) := by decide +kernel
theorem dX4_isOfKind_10 : decode cX4_isOfKind 10 = .ok (.iload_n 2, 1) := by decide +kernel
theorem dX4_isOfKind_11 : decode cX4_isOfKind 11 = .ok (.ifCond .lt 21, 3) := by decide +kernel
theorem dX4_isOfKind_14 : decode cX4_isOfKind 14 = .ok (.iload_n 2, 1) := by decide +kernel
theorem dX4_isOfKind_15 : decode cX4_isOfKind 15 = .ok (.iload_n 1, 1) := by decide +kernel
theorem dX4_isOfKind_16 : decode cX4_isOfKind 16 = .ok (.if_icmp .ne 5, 3) := by decide +kernel
theorem dX4_isOfKind_19 : decode cX4_isOfKind 19 = .ok (.iconst 1, 1) := by decide +kernel
theorem dX4_isOfKind_20 : decode cX4_isOfKind 20 = .ok (.ireturn, 1) := by decide +kernel
theorem dX4_isOfKind_21 : decode cX4_isOfKind 21 = .ok (.iload_n 2, 1) := by decide +kernel
theorem dX4_isOfKind_22 : decode cX4_isOfKind 22 = .ok (.invokestatic 253, 3) := by decide +kernel
theorem dX4_isOfKind_25 : decode cX4_isOfKind 25 = .ok (.istore_n 2, 1) := by decide +kernel
theorem dX4_isOfKind_26 : decode cX4_isOfKind 26 = .ok (.iinc 3 1, 3) := by decide +kernel
theorem dX4_isOfKind_29 : decode cX4_isOfKind 29 = .ok (.goto (-25), 3) := by decide +kernel
theorem dX4_isOfKind_32 : decode cX4_isOfKind 32 = .ok (.iconst 0, 1) := by decide +kernel
theorem dX4_isOfKind_33 : decode cX4_isOfKind 33 = .ok (.ireturn, 1) := by decide +kernel
theorem dX4_grows_0 : decode cX4_grows 0 = .ok (.iload_n 1, 1) := by decide +kernel
theorem dX4_grows_1 : decode cX4_grows 1 = .ok (.ifCond .ge 13, 3) := by decide +kernel
theorem dX4_grows_4 : decode cX4_grows 4 = .ok (.bipush 10, 2) := by decide +kernel
theorem dX4_grows_6 : decode cX4_grows 6 = .ok (.iload_n 1, 1) := by decide +kernel
theorem dX4_grows_7 : decode cX4_grows 7 = .ok (.ineg, 1) := by decide +kernel
theorem dX4_grows_8 : decode cX4_grows 8 = .ok (.iconst 2, 1) := by decide +kernel
theorem dX4_grows_9 : decode cX4_grows 9 = .ok (.idiv, 1) := by decide +kernel
theorem dX4_grows_10 : decode cX4_grows 10 = .ok (.iadd, 1) := by decide +kernel
theorem dX4_grows_11 : decode cX4_grows 11 = .ok (.goto 5, 3) := by decide +kernel
theorem dX4_grows_14 : decode cX4_grows 14 = .ok (.bipush 10, 2) := by decide +kernel
theorem dX4_grows_16 : decode cX4_grows 16 = .ok (.istore_n 2, 1) := by decide +kernel
theorem dX4_grows_17 : decode cX4_grows 17 = .ok (.iload_n 0, 1) := by decide +kernel
theorem dX4_grows_18 : decode cX4_grows 18 = .ok (.tableswitch 66 1 5 #[34, 38, 42, 45, 59], 34) := by decide +kernel
theorem dX4_grows_52 : decode cX4_grows 52 = .ok (.iload_n 2, 1) := by decide +kernel
theorem dX4_grows_53 : decode cX4_grows 53 = .ok (.iconst 4, 1) := by decide +kernel
theorem dX4_grows_54 : decode cX4_grows 54 = .ok (.iadd, 1) := by decide +kernel
theorem dX4_grows_55 : decode cX4_grows 55 = .ok (.ireturn, 1) := by decide +kernel
theorem dX4_grows_56 : decode cX4_grows 56 = .ok (.iload_n 2, 1) := by decide +kernel
theorem dX4_grows_57 : decode cX4_grows 57 = .ok (.iconst 2, 1) := by decide +kernel
theorem dX4_grows_58 : decode cX4_grows 58 = .ok (.idiv, 1) := by decide +kernel
theorem dX4_grows_59 : decode cX4_grows 59 = .ok (.ireturn, 1) := by decide +kernel
theorem dX4_grows_60 : decode cX4_grows 60 = .ok (.bipush 12, 2) := by decide +kernel
theorem dX4_grows_62 : decode cX4_grows 62 = .ok (.ireturn, 1) := by decide +kernel
theorem dX4_grows_63 : decode cX4_grows 63 = .ok (.iload_n 1, 1) := by decide +kernel
theorem dX4_grows_64 : decode cX4_grows 64 = .ok (.bipush 10, 2) := by decide +kernel
theorem dX4_grows_66 : decode cX4_grows 66 = .ok (.if_icmp .le 7, 3) := by decide +kernel
theorem dX4_grows_69 : decode cX4_grows 69 = .ok (.iconst 0, 1) := by decide +kernel
theorem dX4_grows_70 : decode cX4_grows 70 = .ok (.goto 6, 3) := by decide +kernel
theorem dX4_grows_73 : decode cX4_grows 73 = .ok (.iload_n 2, 1) := by decide +kernel
theorem dX4_grows_74 : decode cX4_grows 74 = .ok (.iconst 4, 1) := by decide +kernel
theorem dX4_grows_75 : decode cX4_grows 75 = .ok (.iadd, 1) := by decide +kernel
theorem dX4_grows_76 : decode cX4_grows 76 = .ok (.ireturn, 1) := by decide +kernel
theorem dX4_grows_77 : decode cX4_grows 77 = .ok (.iload_n 2, 1) := by decide +kernel
theorem dX4_grows_78 : decode cX4_grows 78 = .ok (.iconst 2, 1) := by decide +kernel
theorem dX4_grows_79 : decode cX4_grows 79 = .ok (.idiv, 1) := by decide +kernel
theorem dX4_grows_80 : decode cX4_grows 80 = .ok (.bipush 6, 2) := by decide +kernel
theorem dX4_grows_82 : decode cX4_grows 82 = .ok (.iadd, 1) := by decide +kernel
theorem dX4_grows_83 : decode cX4_grows 83 = .ok (.ireturn, 1) := by decide +kernel
theorem dX4_grows_84 : decode cX4_grows 84 = .ok (.iload_n 2, 1) := by decide +kernel
theorem dX4_grows_85 : decode cX4_grows 85 = .ok (.ireturn, 1) := by decide +kernel
theorem dX4_loses_0 : decode cX4_loses 0 = .ok (.iload_n 1, 1) := by decide +kernel
theorem dX4_loses_1 : decode cX4_loses 1 = .ok (.bipush 10, 2) := by decide +kernel
theorem dX4_loses_3 : decode cX4_loses 3 = .ok (.idiv, 1) := by decide +kernel
theorem dX4_loses_4 : decode cX4_loses 4 = .ok (.istore_n 2, 1) := by decide +kernel
theorem dX4_loses_5 : decode cX4_loses 5 = .ok (.iload_n 0, 1) := by decide +kernel
theorem dX4_loses_6 : decode cX4_loses 6 = .ok (.tableswitch 52 1 5 #[34, 36, 52, 40, 42], 34) := by decide +kernel
theorem dX4_loses_40 : decode cX4_loses 40 = .ok (.iconst 0, 1) := by decide +kernel
theorem dX4_loses_41 : decode cX4_loses 41 = .ok (.ireturn, 1) := by decide +kernel
theorem dX4_loses_42 : decode cX4_loses 42 = .ok (.iconst 2, 1) := by decide +kernel
theorem dX4_loses_43 : decode cX4_loses 43 = .ok (.iload_n 2, 1) := by decide +kernel
theorem dX4_loses_44 : decode cX4_loses 44 = .ok (.imul, 1) := by decide +kernel
theorem dX4_loses_45 : decode cX4_loses 45 = .ok (.ireturn, 1) := by decide +kernel
theorem dX4_loses_46 : decode cX4_loses 46 = .ok (.iconst 1, 1) := by decide +kernel
theorem dX4_loses_47 : decode cX4_loses 47 = .ok (.ireturn, 1) := by decide +kernel
theorem dX4_loses_48 : decode cX4_loses 48 = .ok (.iconst 0, 1) := by decide +kernel
theorem dX4_loses_49 : decode cX4_loses 49 = .ok (.iconst 2, 1) := by decide +kernel
theorem dX4_loses_50 : decode cX4_loses 50 = .ok (.iload_n 2, 1) := by decide +kernel
theorem dX4_loses_51 : decode cX4_loses 51 = .ok (.imul, 1) := by decide +kernel
theorem dX4_loses_52 : decode cX4_loses 52 = .ok (.iconst 2, 1) := by decide +kernel
theorem dX4_loses_53 : decode cX4_loses 53 = .ok (.isub, 1) := by decide +kernel
theorem dX4_loses_54 : decode cX4_loses 54 = .ok (.invokestatic 256, 3) := by decide +kernel
theorem dX4_loses_57 : decode cX4_loses 57 = .ok (.ireturn, 1) := by decide +kernel
theorem dX4_loses_58 : decode cX4_loses 58 = .ok (.iload_n 2, 1) := by decide +kernel
theorem dX4_loses_59 : decode cX4_loses 59 = .ok (.ireturn, 1) := by decide +kernel
theorem dX4_calms_0 : decode cX4_calms 0 = .ok (.iload_n 0, 1) := by decide +kernel
theorem dX4_calms_1 : decode cX4_calms 1 = .ok (.tableswitch 43 1 5 #[35, 38, 43, 35, 40], 35) := by decide +kernel
theorem dX4_calms_36 : decode cX4_calms 36 = .ok (.bipush 20, 2) := by decide +kernel
theorem dX4_calms_38 : decode cX4_calms 38 = .ok (.ireturn, 1) := by decide +kernel
theorem dX4_calms_39 : decode cX4_calms 39 = .ok (.iconst 5, 1) := by decide +kernel
theorem dX4_calms_40 : decode cX4_calms 40 = .ok (.ireturn, 1) := by decide +kernel
theorem dX4_calms_41 : decode cX4_calms 41 = .ok (.bipush 15, 2) := by decide +kernel
theorem dX4_calms_43 : decode cX4_calms 43 = .ok (.ireturn, 1) := by decide +kernel
theorem dX4_calms_44 : decode cX4_calms 44 = .ok (.bipush 10, 2) := by decide +kernel
theorem dX4_calms_46 : decode cX4_calms 46 = .ok (.ireturn, 1) := by decide +kernel
theorem dX4_burrs_0 : decode cX4_burrs 0 = .ok (.iload_n 1, 1) := by decide +kernel
theorem dX4_burrs_1 : decode cX4_burrs 1 = .ok (.bipush (-8), 2) := by decide +kernel
theorem dX4_burrs_3 : decode cX4_burrs 3 = .ok (.if_icmp .ge 7, 3) := by decide +kernel
theorem dX4_burrs_6 : decode cX4_burrs 6 = .ok (.iconst 1, 1) := by decide +kernel
theorem dX4_burrs_7 : decode cX4_burrs 7 = .ok (.goto 4, 3) := by decide +kernel
theorem dX4_burrs_10 : decode cX4_burrs 10 = .ok (.iconst 0, 1) := by decide +kernel
theorem dX4_burrs_11 : decode cX4_burrs 11 = .ok (.istore_n 2, 1) := by decide +kernel
theorem dX4_burrs_12 : decode cX4_burrs 12 = .ok (.iload_n 0, 1) := by decide +kernel
theorem dX4_burrs_13 : decode cX4_burrs 13 = .ok (.tableswitch 45 1 5 #[35, 39, 45, 41, 39], 35) := by decide +kernel
theorem dX4_burrs_48 : decode cX4_burrs 48 = .ok (.iload_n 2, 1) := by decide +kernel
theorem dX4_burrs_49 : decode cX4_burrs 49 = .ok (.iconst 1, 1) := by decide +kernel
theorem dX4_burrs_50 : decode cX4_burrs 50 = .ok (.iadd, 1) := by decide +kernel
theorem dX4_burrs_51 : decode cX4_burrs 51 = .ok (.ireturn, 1) := by decide +kernel
theorem dX4_burrs_52 : decode cX4_burrs 52 = .ok (.iconst 0, 1) := by decide +kernel
theorem dX4_burrs_53 : decode cX4_burrs 53 = .ok (.ireturn, 1) := by decide +kernel
theorem dX4_burrs_54 : decode cX4_burrs 54 = .ok (.iload_n 2, 1) := by decide +kernel
theorem dX4_burrs_55 : decode cX4_burrs 55 = .ok (.iconst 3, 1) := by decide +kernel
theorem dX4_burrs_56 : decode cX4_burrs 56 = .ok (.iadd, 1) := by decide +kernel
theorem dX4_burrs_57 : decode cX4_burrs 57 = .ok (.ireturn, 1) := by decide +kernel
theorem dX4_burrs_58 : decode cX4_burrs 58 = .ok (.iload_n 2, 1) := by decide +kernel
theorem dX4_burrs_59 : decode cX4_burrs 59 = .ok (.ireturn, 1) := by decide +kernel
