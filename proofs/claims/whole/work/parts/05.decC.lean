theorem dX5_init_0 : decode cX5_init 0 = .ok (.aload_n 0, 1) := by decide +kernel
theorem dX5_init_1 : decode cX5_init 1 = .ok (.invokespecial 1, 3) := by decide +kernel
theorem dX5_init_4 : decode cX5_init 4 = .ok (.aload_n 0, 1) := by decide +kernel
theorem dX5_init_5 : decode cX5_init 5 = .ok (.bipush 28, 2) := by decide +kernel
theorem dX5_init_7 : decode cX5_init 7 = .ok (.newarray .int, 2) := by decide +kernel
theorem dX5_init_9 : decode cX5_init 9 = .ok (.putfield 9, 3) := by decide +kernel
theorem dX5_init_12 : decode cX5_init 12 = .ok (.aload_n 0, 1) := by decide +kernel
theorem dX5_init_13 : decode cX5_init 13 = .ok (.bipush 28, 2) := by decide +kernel
theorem dX5_init_15 : decode cX5_init 15 = .ok (.newarray .int, 2) := by decide +kernel
theorem dX5_init_17 : decode cX5_init 17 = .ok (.putfield 13, 3) := by decide +kernel
theorem dX5_init_20 : decode cX5_init 20 = .ok (.aload_n 0, 1) := by decide +kernel
theorem dX5_init_21 : decode cX5_init 21 = .ok (.bipush 100, 2) := by decide +kernel
theorem dX5_init_23 : decode cX5_init 23 = .ok (.newarray .int, 2) := by decide +kernel
theorem dX5_init_25 : decode cX5_init 25 = .ok (.putfield 16, 3) := by decide +kernel
theorem dX5_init_28 : decode cX5_init 28 = .ok (.aload_n 0, 1) := by decide +kernel
theorem dX5_init_29 : decode cX5_init 29 = .ok (.bipush 60, 2) := by decide +kernel
theorem dX5_init_31 : decode cX5_init 31 = .ok (.newarray .int, 2) := by decide +kernel
theorem dX5_init_33 : decode cX5_init 33 = .ok (.putfield 19, 3) := by decide +kernel
theorem dX5_init_36 : decode cX5_init 36 = .ok (.aload_n 0, 1) := by decide +kernel
theorem dX5_init_37 : decode cX5_init 37 = .ok (.bipush 100, 2) := by decide +kernel
theorem dX5_init_39 : decode cX5_init 39 = .ok (.newarray .int, 2) := by decide +kernel
theorem dX5_init_41 : decode cX5_init 41 = .ok (.putfield 22, 3) := by decide +kernel
theorem dX5_init_44 : decode cX5_init 44 = .ok (.aload_n 0, 1) := by decide +kernel
theorem dX5_init_45 : decode cX5_init 45 = .ok (.iconst 5, 1) := by decide +kernel
theorem dX5_init_46 : decode cX5_init 46 = .ok (.newarray .int, 2) := by decide +kernel
theorem dX5_init_48 : decode cX5_init 48 = .ok (.putfield 25, 3) := by decide +kernel
theorem dX5_init_51 : decode cX5_init 51 = .ok (.return_, 1) := by decide +kernel
theorem dX5_thrown_0 : decode cX5_thrown 0 = .ok (.aload_n 0, 1) := by decide +kernel
theorem dX5_thrown_1 : decode cX5_thrown 1 = .ok (.getfield 28, 3) := by decide +kernel
theorem dX5_thrown_4 : decode cX5_thrown 4 = .ok (.ireturn, 1) := by decide +kernel
theorem dX5_fail_0 : decode cX5_fail 0 = .ok (.aload_n 0, 1) := by decide +kernel
theorem dX5_fail_1 : decode cX5_fail 1 = .ok (.iload_n 1, 1) := by decide +kernel
theorem dX5_fail_2 : decode cX5_fail 2 = .ok (.putfield 28, 3) := by decide +kernel
theorem dX5_fail_5 : decode cX5_fail 5 = .ok (.iconst 0, 1) := by decide +kernel
theorem dX5_fail_6 : decode cX5_fail 6 = .ok (.ireturn, 1) := by decide +kernel
theorem dX5_isIn_0 : decode cX5_isIn 0 = .ok (.iload_n 0, 1) := by decide +kernel
theorem dX5_isIn_1 : decode cX5_isIn 1 = .ok (.iload_n 1, 1) := by decide +kernel
theorem dX5_isIn_2 : decode cX5_isIn 2 = .ok (.if_icmp .lt 12, 3) := by decide +kernel
theorem dX5_isIn_5 : decode cX5_isIn 5 = .ok (.iload_n 0, 1) := by decide +kernel
theorem dX5_isIn_6 : decode cX5_isIn 6 = .ok (.iload_n 2, 1) := by decide +kernel
theorem dX5_isIn_7 : decode cX5_isIn 7 = .ok (.if_icmp .gt 7, 3) := by decide +kernel
theorem dX5_isIn_10 : decode cX5_isIn 10 = .ok (.iconst 1, 1) := by decide +kernel
theorem dX5_isIn_11 : decode cX5_isIn 11 = .ok (.goto 4, 3) := by decide +kernel
theorem dX5_isIn_14 : decode cX5_isIn 14 = .ok (.iconst 0, 1) := by decide +kernel
theorem dX5_isIn_15 : decode cX5_isIn 15 = .ok (.ireturn, 1) := by decide +kernel
theorem dX5_isHouse_0 : decode cX5_isHouse 0 = .ok (.iload_n 1, 1) := by decide +kernel
theorem dX5_isHouse_1 : decode cX5_isHouse 1 = .ok (.iconst 0, 1) := by decide +kernel
theorem dX5_isHouse_2 : decode cX5_isHouse 2 = .ok (.aload_n 0, 1) := by decide +kernel
theorem dX5_isHouse_3 : decode cX5_isHouse 3 = .ok (.getfield 32, 3) := by decide +kernel
theorem dX5_isHouse_6 : decode cX5_isHouse 6 = .ok (.iconst 1, 1) := by decide +kernel
theorem dX5_isHouse_7 : decode cX5_isHouse 7 = .ok (.isub, 1) := by decide +kernel
theorem dX5_isHouse_8 : decode cX5_isHouse 8 = .ok (.invokestatic 35, 3) := by decide +kernel
theorem dX5_isHouse_11 : decode cX5_isHouse 11 = .ok (.ireturn, 1) := by decide +kernel
theorem dX5_isPipe_0 : decode cX5_isPipe 0 = .ok (.iload_n 1, 1) := by decide +kernel
theorem dX5_isPipe_1 : decode cX5_isPipe 1 = .ok (.iconst 0, 1) := by decide +kernel
theorem dX5_isPipe_2 : decode cX5_isPipe 2 = .ok (.aload_n 0, 1) := by decide +kernel
theorem dX5_isPipe_3 : decode cX5_isPipe 3 = .ok (.getfield 39, 3) := by decide +kernel
theorem dX5_isPipe_6 : decode cX5_isPipe 6 = .ok (.iconst 1, 1) := by decide +kernel
theorem dX5_isPipe_7 : decode cX5_isPipe 7 = .ok (.isub, 1) := by decide +kernel
theorem dX5_isPipe_8 : decode cX5_isPipe 8 = .ok (.invokestatic 35, 3) := by decide +kernel
theorem dX5_isPipe_11 : decode cX5_isPipe 11 = .ok (.ireturn, 1) := by decide +kernel
theorem dX5_ho_0 : decode cX5_ho 0 = .ok (.aload_n 0, 1) := by decide +kernel
theorem dX5_ho_1 : decode cX5_ho 1 = .ok (.getfield 16, 3) := by decide +kernel
theorem dX5_ho_4 : decode cX5_ho 4 = .ok (.bipush 10, 2) := by decide +kernel
theorem dX5_ho_6 : decode cX5_ho 6 = .ok (.iload_n 1, 1) := by decide +kernel
theorem dX5_ho_7 : decode cX5_ho 7 = .ok (.imul, 1) := by decide +kernel
theorem dX5_ho_8 : decode cX5_ho 8 = .ok (.iload_n 2, 1) := by decide +kernel
theorem dX5_ho_9 : decode cX5_ho 9 = .ok (.iadd, 1) := by decide +kernel
theorem dX5_ho_10 : decode cX5_ho 10 = .ok (.iaload, 1) := by decide +kernel
theorem dX5_ho_11 : decode cX5_ho 11 = .ok (.ireturn, 1) := by decide +kernel
theorem dX5_set_0 : decode cX5_set 0 = .ok (.aload_n 0, 1) := by decide +kernel
theorem dX5_set_1 : decode cX5_set 1 = .ok (.getfield 16, 3) := by decide +kernel
theorem dX5_set_4 : decode cX5_set 4 = .ok (.bipush 10, 2) := by decide +kernel
theorem dX5_set_6 : decode cX5_set 6 = .ok (.iload_n 1, 1) := by decide +kernel
theorem dX5_set_7 : decode cX5_set 7 = .ok (.imul, 1) := by decide +kernel
theorem dX5_set_8 : decode cX5_set 8 = .ok (.iload_n 2, 1) := by decide +kernel
theorem dX5_set_9 : decode cX5_set 9 = .ok (.iadd, 1) := by decide +kernel
theorem dX5_set_10 : decode cX5_set 10 = .ok (.iload_n 3, 1) := by decide +kernel
theorem dX5_set_11 : decode cX5_set 11 = .ok (.iastore, 1) := by decide +kernel
theorem dX5_set_12 : decode cX5_set 12 = .ok (.return_, 1) := by decide +kernel
theorem dX5_pi_0 : decode cX5_pi 0 = .ok (.aload_n 0, 1) := by decide +kernel
theorem dX5_pi_1 : decode cX5_pi 1 = .ok (.getfield 19, 3) := by decide +kernel
theorem dX5_pi_4 : decode cX5_pi 4 = .ok (.iconst 5, 1) := by decide +kernel
theorem dX5_pi_5 : decode cX5_pi 5 = .ok (.iload_n 1, 1) := by decide +kernel
theorem dX5_pi_6 : decode cX5_pi 6 = .ok (.imul, 1) := by decide +kernel
theorem dX5_pi_7 : decode cX5_pi 7 = .ok (.iload_n 2, 1) := by decide +kernel
theorem dX5_pi_8 : decode cX5_pi 8 = .ok (.iadd, 1) := by decide +kernel
theorem dX5_pi_9 : decode cX5_pi 9 = .ok (.iaload, 1) := by decide +kernel
theorem dX5_pi_10 : decode cX5_pi 10 = .ok (.ireturn, 1) := by decide +kernel
theorem dX5_setWeather_0 : decode cX5_setWeather 0 = .ok (.aload_n 0, 1) := by decide +kernel
theorem dX5_setWeather_1 : decode cX5_setWeather 1 = .ok (.iconst 0, 1) := by decide +kernel
theorem dX5_setWeather_2 : decode cX5_setWeather 2 = .ok (.putfield 28, 3) := by decide +kernel
theorem dX5_setWeather_5 : decode cX5_setWeather 5 = .ok (.iload_n 1, 1) := by decide +kernel
theorem dX5_setWeather_6 : decode cX5_setWeather 6 = .ok (.iconst 0, 1) := by decide +kernel
theorem dX5_setWeather_7 : decode cX5_setWeather 7 = .ok (.bipush 27, 2) := by decide +kernel
theorem dX5_setWeather_9 : decode cX5_setWeather 9 = .ok (.invokestatic 35, 3) := by decide +kernel
theorem dX5_setWeather_12 : decode cX5_setWeather 12 = .ok (.ifCond .ne 9, 3) := by decide +kernel
theorem dX5_setWeather_15 : decode cX5_setWeather 15 = .ok (.aload_n 0, 1) := by decide +kernel
theorem dX5_setWeather_16 : decode cX5_setWeather 16 = .ok (.iconst 1, 1) := by decide +kernel
theorem dX5_setWeather_17 : decode cX5_setWeather 17 = .ok (.invokevirtual 42, 3) := by decide +kernel
theorem dX5_setWeather_20 : decode cX5_setWeather 20 = .ok (.ireturn, 1) := by decide +kernel
theorem dX5_setWeather_21 : decode cX5_setWeather 21 = .ok (.iload_n 2, 1) := by decide +kernel
theorem dX5_setWeather_22 : decode cX5_setWeather 22 = .ok (.iconst 0, 1) := by decide +kernel
theorem dX5_setWeather_23 : decode cX5_setWeather 23 = .ok (.bipush 20, 2) := by decide +kernel
theorem dX5_setWeather_25 : decode cX5_setWeather 25 = .ok (.invokestatic 35, 3) := by decide +kernel
theorem dX5_setWeather_28 : decode cX5_setWeather 28 = .ok (.ifCond .eq 12, 3) := by decide +kernel
theorem dX5_setWeather_31 : decode cX5_setWeather 31 = .ok (.iload_n 3, 1) := by decide +kernel
theorem dX5_setWeather_32 : decode cX5_setWeather 32 = .ok (.iconst 0, 1) := by decide +kernel
theorem dX5_setWeather_33 : decode cX5_setWeather 33 = .ok (.iconst 3, 1) := by decide +kernel
theorem dX5_setWeather_34 : decode cX5_setWeather 34 = .ok (.invokestatic 35, 3) := by decide +kernel
theorem dX5_setWeather_37 : decode cX5_setWeather 37 = .ok (.ifCond .ne 9, 3) := by decide +kernel
theorem dX5_setWeather_40 : decode cX5_setWeather 40 = .ok (.aload_n 0, 1) := by decide +kernel
theorem dX5_setWeather_41 : decode cX5_setWeather 41 = .ok (.iconst 2, 1) := by decide +kernel
theorem dX5_setWeather_42 : decode cX5_setWeather 42 = .ok (.invokevirtual 42, 3) := by decide +kernel
theorem dX5_setWeather_45 : decode cX5_setWeather 45 = .ok (.ireturn, 1) := by decide +kernel
theorem dX5_setWeather_46 : decode cX5_setWeather 46 = .ok (.bipush 10, 2) := by decide +kernel
theorem dX5_setWeather_48 : decode cX5_setWeather 48 = .ok (.aload_n 0, 1) := by decide +kernel
theorem dX5_setWeather_49 : decode cX5_setWeather 49 = .ok (.getfield 9, 3) := by decide +kernel
theorem dX5_setWeather_52 : decode cX5_setWeather 52 = .ok (.iload_n 1, 1) := by decide +kernel
theorem dX5_setWeather_53 : decode cX5_setWeather 53 = .ok (.iaload, 1) := by decide +kernel
theorem dX5_setWeather_54 : decode cX5_setWeather 54 = .ok (.imul, 1) := by decide +kernel
theorem dX5_setWeather_55 : decode cX5_setWeather 55 = .ok (.aload_n 0, 1) := by decide +kernel
theorem dX5_setWeather_56 : decode cX5_setWeather 56 = .ok (.getfield 13, 3) := by decide +kernel
theorem dX5_setWeather_59 : decode cX5_setWeather 59 = .ok (.iload_n 1, 1) := by decide +kernel
theorem dX5_setWeather_60 : decode cX5_setWeather 60 = .ok (.iaload, 1) := by decide +kernel
theorem dX5_setWeather_61 : decode cX5_setWeather 61 = .ok (.iadd, 1) := by decide +kernel
theorem dX5_setWeather_62 : decode cX5_setWeather 62 = .ok (.istore 4, 2) := by decide +kernel
theorem dX5_setWeather_64 : decode cX5_setWeather 64 = .ok (.aload_n 0, 1) := by decide +kernel
theorem dX5_setWeather_65 : decode cX5_setWeather 65 = .ok (.getfield 9, 3) := by decide +kernel
theorem dX5_setWeather_68 : decode cX5_setWeather 68 = .ok (.iload_n 1, 1) := by decide +kernel
theorem dX5_setWeather_69 : decode cX5_setWeather 69 = .ok (.iload_n 2, 1) := by decide +kernel
theorem dX5_setWeather_70 : decode cX5_setWeather 70 = .ok (.iastore, 1) := by decide +kernel
theorem dX5_setWeather_71 : decode cX5_setWeather 71 = .ok (.aload_n 0, 1) := by decide +kernel
theorem dX5_setWeather_72 : decode cX5_setWeather 72 = .ok (.getfield 13, 3) := by decide +kernel
theorem dX5_setWeather_75 : decode cX5_setWeather 75 = .ok (.iload_n 1, 1) := by decide +kernel
theorem dX5_setWeather_76 : decode cX5_setWeather 76 = .ok (.iload_n 3, 1) := by decide +kernel
theorem dX5_setWeather_77 : decode cX5_setWeather 77 = .ok (.iastore, 1) := by decide +kernel
theorem dX5_setWeather_78 : decode cX5_setWeather 78 = .ok (.iload 4, 2) := by decide +kernel
theorem dX5_setWeather_80 : decode cX5_setWeather 80 = .ok (.ireturn, 1) := by decide +kernel
theorem dX5_build_0 : decode cX5_build 0 = .ok (.aload_n 0, 1) := by decide +kernel
theorem dX5_build_1 : decode cX5_build 1 = .ok (.iconst 0, 1) := by decide +kernel
theorem dX5_build_2 : decode cX5_build 2 = .ok (.putfield 28, 3) := by decide +kernel
theorem dX5_build_5 : decode cX5_build 5 = .ok (.iload_n 1, 1) := by decide +kernel
theorem dX5_build_6 : decode cX5_build 6 = .ok (.iconst 1, 1) := by decide +kernel
theorem dX5_build_7 : decode cX5_build 7 = .ok (.bipush 30, 2) := by decide +kernel
theorem dX5_build_9 : decode cX5_build 9 = .ok (.invokestatic 35, 3) := by decide +kernel
theorem dX5_build_12 : decode cX5_build 12 = .ok (.ifCond .eq 36, 3) := by decide +kernel
theorem dX5_build_15 : decode cX5_build 15 = .ok (.iload_n 2, 1) := by decide +kernel
theorem dX5_build_16 : decode cX5_build 16 = .ok (.bipush 10, 2) := by decide +kernel
theorem dX5_build_18 : decode cX5_build 18 = .ok (.sipush 900, 3) := by decide +kernel
theorem dX5_build_21 : decode cX5_build 21 = .ok (.invokestatic 35, 3) := by decide +kernel
theorem dX5_build_24 : decode cX5_build 24 = .ok (.ifCond .eq 24, 3) := by decide +kernel
theorem dX5_build_27 : decode cX5_build 27 = .ok (.iload_n 3, 1) := by decide +kernel
theorem dX5_build_28 : decode cX5_build 28 = .ok (.iconst 0, 1) := by decide +kernel
theorem dX5_build_29 : decode cX5_build 29 = .ok (.bipush 9, 2) := by decide +kernel
theorem dX5_build_31 : decode cX5_build 31 = .ok (.invokestatic 35, 3) := by decide +kernel
theorem dX5_build_34 : decode cX5_build 34 = .ok (.ifCond .eq 14, 3) := by decide +kernel
theorem dX5_build_37 : decode cX5_build 37 = .ok (.iload 4, 2) := by decide +kernel
theorem dX5_build_39 : decode cX5_build 39 = .ok (.iconst 0, 1) := by decide +kernel
theorem dX5_build_40 : decode cX5_build 40 = .ok (.bipush 20, 2) := by decide +kernel
theorem dX5_build_42 : decode cX5_build 42 = .ok (.invokestatic 35, 3) := by decide +kernel
theorem dX5_build_45 : decode cX5_build 45 = .ok (.ifCond .ne 9, 3) := by decide +kernel
theorem dX5_build_48 : decode cX5_build 48 = .ok (.aload_n 0, 1) := by decide +kernel
theorem dX5_build_49 : decode cX5_build 49 = .ok (.iconst 1, 1) := by decide +kernel
theorem dX5_build_50 : decode cX5_build 50 = .ok (.invokevirtual 42, 3) := by decide +kernel
theorem dX5_build_53 : decode cX5_build 53 = .ok (.ireturn, 1) := by decide +kernel
theorem dX5_build_54 : decode cX5_build 54 = .ok (.aload_n 0, 1) := by decide +kernel
theorem dX5_build_55 : decode cX5_build 55 = .ok (.getfield 32, 3) := by decide +kernel
theorem dX5_build_58 : decode cX5_build 58 = .ok (.bipush 10, 2) := by decide +kernel
theorem dX5_build_60 : decode cX5_build 60 = .ok (.if_icmp .ne 9, 3) := by decide +kernel
theorem dX5_build_63 : decode cX5_build 63 = .ok (.aload_n 0, 1) := by decide +kernel
theorem dX5_build_64 : decode cX5_build 64 = .ok (.iconst 2, 1) := by decide +kernel
theorem dX5_build_65 : decode cX5_build 65 = .ok (.invokevirtual 42, 3) := by decide +kernel
theorem dX5_build_68 : decode cX5_build 68 = .ok (.ireturn, 1) := by decide +kernel
theorem dX5_build_69 : decode cX5_build 69 = .ok (.bipush 10, 2) := by decide +kernel
theorem dX5_build_71 : decode cX5_build 71 = .ok (.newarray .int, 2) := by decide +kernel
theorem dX5_build_73 : decode cX5_build 73 = .ok (.dup, 1) := by decide +kernel
theorem dX5_build_74 : decode cX5_build 74 = .ok (.iconst 0, 1) := by decide +kernel
theorem dX5_build_75 : decode cX5_build 75 = .ok (.iload_n 1, 1) := by decide +kernel
theorem dX5_build_76 : decode cX5_build 76 = .ok (.iastore, 1) := by decide +kernel
theorem dX5_build_77 : decode cX5_build 77 = .ok (.dup, 1) := by decide +kernel
theorem dX5_build_78 : decode cX5_build 78 = .ok (.iconst 1, 1) := by decide +kernel
theorem dX5_build_79 : decode cX5_build 79 = .ok (.iload_n 2, 1) := by decide +kernel
theorem dX5_build_80 : decode cX5_build 80 = .ok (.iastore, 1) := by decide +kernel
theorem dX5_build_81 : decode cX5_build 81 = .ok (.dup, 1) := by decide +kernel
theorem dX5_build_82 : decode cX5_build 82 = .ok (.iconst 2, 1) := by decide +kernel
theorem dX5_build_83 : decode cX5_build 83 = .ok (.iconst 0, 1) := by decide +kernel
theorem dX5_build_84 : decode cX5_build 84 = .ok (.iastore, 1) := by decide +kernel
theorem dX5_build_85 : decode cX5_build 85 = .ok (.dup, 1) := by decide +kernel
theorem dX5_build_86 : decode cX5_build 86 = .ok (.iconst 3, 1) := by decide +kernel
theorem dX5_build_87 : decode cX5_build 87 = .ok (.iload_n 3, 1) := by decide +kernel
theorem dX5_build_88 : decode cX5_build 88 = .ok (.iastore, 1) := by decide +kernel
theorem dX5_build_89 : decode cX5_build 89 = .ok (.dup, 1) := by decide +kernel
theorem dX5_build_90 : decode cX5_build 90 = .ok (.iconst 4, 1) := by decide +kernel
theorem dX5_build_91 : decode cX5_build 91 = .ok (.iload 4, 2) := by decide +kernel
theorem dX5_build_93 : decode cX5_build 93 = .ok (.iastore, 1) := by decide +kernel
theorem dX5_build_94 : decode cX5_build 94 = .ok (.dup, 1) := by decide +kernel
theorem dX5_build_95 : decode cX5_build 95 = .ok (.iconst 5, 1) := by decide +kernel
theorem dX5_build_96 : decode cX5_build 96 = .ok (.iconst 0, 1) := by decide +kernel
theorem dX5_build_97 : decode cX5_build 97 = .ok (.iastore, 1) := by decide +kernel
theorem dX5_build_98 : decode cX5_build 98 = .ok (.dup, 1) := by decide +kernel
theorem dX5_build_99 : decode cX5_build 99 = .ok (.bipush 6, 2) := by decide +kernel
theorem dX5_build_101 : decode cX5_build 101 = .ok (.iconst (-1), 1) := by decide +kernel
theorem dX5_build_102 : decode cX5_build 102 = .ok (.iastore, 1) := by decide +kernel
theorem dX5_build_103 : decode cX5_build 103 = .ok (.dup, 1) := by decide +kernel
theorem dX5_build_104 : decode cX5_build 104 = .ok (.bipush 7, 2) := by decide +kernel
theorem dX5_build_106 : decode cX5_build 106 = .ok (.iconst 0, 1) := by decide +kernel
theorem dX5_build_107 : decode cX5_build 107 = .ok (.iastore, 1) := by decide +kernel
theorem dX5_build_108 : decode cX5_build 108 = .ok (.dup, 1) := by decide +kernel
theorem dX5_build_109 : decode cX5_build 109 = .ok (.bipush 8, 2) := by decide +kernel
theorem dX5_build_111 : decode cX5_build 111 = .ok (.iconst 0, 1) := by decide +kernel
theorem dX5_build_112 : decode cX5_build 112 = .ok (.iastore, 1) := by decide +kernel
theorem dX5_build_113 : decode cX5_build 113 = .ok (.dup, 1) := by decide +kernel
theorem dX5_build_114 : decode cX5_build 114 = .ok (.bipush 9, 2) := by decide +kernel
theorem dX5_build_116 : decode cX5_build 116 = .ok (.iconst 0, 1) := by decide +kernel
theorem dX5_build_117 : decode cX5_build 117 = .ok (.iastore, 1) := by decide +kernel
theorem dX5_build_118 : decode cX5_build 118 = .ok (.astore 5, 2) := by decide +kernel
theorem dX5_build_120 : decode cX5_build 120 = .ok (.aload 5, 2) := by decide +kernel
theorem dX5_build_122 : decode cX5_build 122 = .ok (.iconst 0, 1) := by decide +kernel
theorem dX5_build_123 : decode cX5_build 123 = .ok (.aload_n 0, 1) := by decide +kernel
theorem dX5_build_124 : decode cX5_build 124 = .ok (.getfield 16, 3) := by decide +kernel
theorem dX5_build_127 : decode cX5_build 127 = .ok (.bipush 10, 2) := by decide +kernel
theorem dX5_build_129 : decode cX5_build 129 = .ok (.aload_n 0, 1) := by decide +kernel
theorem dX5_build_130 : decode cX5_build 130 = .ok (.getfield 32, 3) := by decide +kernel
theorem dX5_build_133 : decode cX5_build 133 = .ok (.imul, 1) := by decide +kernel
theorem dX5_build_134 : decode cX5_build 134 = .ok (.bipush 10, 2) := by decide +kernel
theorem dX5_build_136 : decode cX5_build 136 = .ok (.invokestatic 46, 3) := by decide +kernel
theorem dX5_build_139 : decode cX5_build 139 = .ok (.aload_n 0, 1) := by decide +kernel
theorem dX5_build_140 : decode cX5_build 140 = .ok (.dup, 1) := by decide +kernel
theorem dX5_build_141 : decode cX5_build 141 = .ok (.getfield 32, 3) := by decide +kernel
theorem dX5_build_144 : decode cX5_build 144 = .ok (.iconst 1, 1) := by decide +kernel
theorem dX5_build_145 : decode cX5_build 145 = .ok (.iadd, 1) := by decide +kernel
theorem dX5_build_146 : decode cX5_build 146 = .ok (.putfield 32, 3) := by decide +kernel
theorem dX5_build_149 : decode cX5_build 149 = .ok (.aload_n 0, 1) := by decide +kernel
theorem dX5_build_150 : decode cX5_build 150 = .ok (.getfield 32, 3) := by decide +kernel
theorem dX5_build_153 : decode cX5_build 153 = .ok (.iconst 1, 1) := by decide +kernel
theorem dX5_build_154 : decode cX5_build 154 = .ok (.isub, 1) := by decide +kernel
theorem dX5_build_155 : decode cX5_build 155 = .ok (.ireturn, 1) := by decide +kernel
theorem dX5_chain_0 : decode cX5_chain 0 = .ok (.aload_n 0, 1) := by decide +kernel
theorem dX5_chain_1 : decode cX5_chain 1 = .ok (.iconst 0, 1) := by decide +kernel
theorem dX5_chain_2 : decode cX5_chain 2 = .ok (.putfield 28, 3) := by decide +kernel
theorem dX5_chain_5 : decode cX5_chain 5 = .ok (.aload_n 0, 1) := by decide +kernel
theorem dX5_chain_6 : decode cX5_chain 6 = .ok (.iload_n 1, 1) := by decide +kernel
theorem dX5_chain_7 : decode cX5_chain 7 = .ok (.invokevirtual 52, 3) := by decide +kernel
theorem dX5_chain_10 : decode cX5_chain 10 = .ok (.ifCond .eq 16, 3) := by decide +kernel
theorem dX5_chain_13 : decode cX5_chain 13 = .ok (.iload_n 2, 1) := by decide +kernel
theorem dX5_chain_14 : decode cX5_chain 14 = .ok (.iconst (-1), 1) := by decide +kernel
theorem dX5_chain_15 : decode cX5_chain 15 = .ok (.if_icmp .eq 17, 3) := by decide +kernel
theorem dX5_chain_18 : decode cX5_chain 18 = .ok (.aload_n 0, 1) := by decide +kernel
theorem dX5_chain_19 : decode cX5_chain 19 = .ok (.iload_n 2, 1) := by decide +kernel
theorem dX5_chain_20 : decode cX5_chain 20 = .ok (.invokevirtual 52, 3) := by decide +kernel
theorem dX5_chain_23 : decode cX5_chain 23 = .ok (.ifCond .ne 9, 3) := by decide +kernel
theorem dX5_chain_26 : decode cX5_chain 26 = .ok (.aload_n 0, 1) := by decide +kernel
theorem dX5_chain_27 : decode cX5_chain 27 = .ok (.iconst 1, 1) := by decide +kernel
theorem dX5_chain_28 : decode cX5_chain 28 = .ok (.invokevirtual 42, 3) := by decide +kernel
theorem dX5_chain_31 : decode cX5_chain 31 = .ok (.ireturn, 1) := by decide +kernel
theorem dX5_chain_32 : decode cX5_chain 32 = .ok (.iload_n 1, 1) := by decide +kernel
theorem dX5_chain_33 : decode cX5_chain 33 = .ok (.iload_n 2, 1) := by decide +kernel
theorem dX5_chain_34 : decode cX5_chain 34 = .ok (.if_icmp .ne 9, 3) := by decide +kernel
theorem dX5_chain_37 : decode cX5_chain 37 = .ok (.aload_n 0, 1) := by decide +kernel
theorem dX5_chain_38 : decode cX5_chain 38 = .ok (.iconst 2, 1) := by decide +kernel
theorem dX5_chain_39 : decode cX5_chain 39 = .ok (.invokevirtual 42, 3) := by decide +kernel
theorem dX5_chain_42 : decode cX5_chain 42 = .ok (.ireturn, 1) := by decide +kernel
theorem dX5_chain_43 : decode cX5_chain 43 = .ok (.iconst 0, 1) := by decide +kernel
theorem dX5_chain_44 : decode cX5_chain 44 = .ok (.istore_n 3, 1) := by decide +kernel
theorem dX5_chain_45 : decode cX5_chain 45 = .ok (.iload_n 2, 1) := by decide +kernel
theorem dX5_chain_46 : decode cX5_chain 46 = .ok (.istore 4, 2) := by decide +kernel
theorem dX5_chain_48 : decode cX5_chain 48 = .ok (.iload 4, 2) := by decide +kernel
theorem dX5_chain_50 : decode cX5_chain 50 = .ok (.iconst (-1), 1) := by decide +kernel
theorem dX5_chain_51 : decode cX5_chain 51 = .ok (.if_icmp .eq 31, 3) := by decide +kernel
theorem dX5_chain_54 : decode cX5_chain 54 = .ok (.iload 4, 2) := by decide +kernel
theorem dX5_chain_56 : decode cX5_chain 56 = .ok (.iload_n 1, 1) := by decide +kernel
theorem dX5_chain_57 : decode cX5_chain 57 = .ok (.if_icmp .ne 9, 3) := by decide +kernel
theorem dX5_chain_60 : decode cX5_chain 60 = .ok (.aload_n 0, 1) := by decide +kernel
theorem dX5_chain_61 : decode cX5_chain 61 = .ok (.iconst 3, 1) := by decide +kernel
theorem dX5_chain_62 : decode cX5_chain 62 = .ok (.invokevirtual 42, 3) := by decide +kernel
theorem dX5_chain_65 : decode cX5_chain 65 = .ok (.ireturn, 1) := by decide +kernel
theorem dX5_chain_66 : decode cX5_chain 66 = .ok (.iinc 3 1, 3) := by decide +kernel
theorem dX5_chain_69 : decode cX5_chain 69 = .ok (.aload_n 0, 1) := by decide +kernel
theorem dX5_chain_70 : decode cX5_chain 70 = .ok (.iload 4, 2) := by decide +kernel
theorem dX5_chain_72 : decode cX5_chain 72 = .ok (.bipush 6, 2) := by decide +kernel
theorem dX5_chain_74 : decode cX5_chain 74 = .ok (.invokevirtual 56, 3) := by decide +kernel
theorem dX5_chain_77 : decode cX5_chain 77 = .ok (.istore 4, 2) := by decide +kernel
theorem dX5_chain_79 : decode cX5_chain 79 = .ok (.goto (-31), 3) := by decide +kernel
theorem dX5_chain_82 : decode cX5_chain 82 = .ok (.aload_n 0, 1) := by decide +kernel
theorem dX5_chain_83 : decode cX5_chain 83 = .ok (.iload_n 1, 1) := by decide +kernel
theorem dX5_chain_84 : decode cX5_chain 84 = .ok (.bipush 6, 2) := by decide +kernel
theorem dX5_chain_86 : decode cX5_chain 86 = .ok (.iload_n 2, 1) := by decide +kernel
theorem dX5_chain_87 : decode cX5_chain 87 = .ok (.invokevirtual 60, 3) := by decide +kernel
theorem dX5_chain_90 : decode cX5_chain 90 = .ok (.iload_n 3, 1) := by decide +kernel
theorem dX5_chain_91 : decode cX5_chain 91 = .ok (.ireturn, 1) := by decide +kernel
theorem dX5_lay_0 : decode cX5_lay 0 = .ok (.aload_n 0, 1) := by decide +kernel
theorem dX5_lay_1 : decode cX5_lay 1 = .ok (.iconst 0, 1) := by decide +kernel
theorem dX5_lay_2 : decode cX5_lay 2 = .ok (.putfield 28, 3) := by decide +kernel
theorem dX5_lay_5 : decode cX5_lay 5 = .ok (.aload_n 0, 1) := by decide +kernel
theorem dX5_lay_6 : decode cX5_lay 6 = .ok (.iload_n 1, 1) := by decide +kernel
theorem dX5_lay_7 : decode cX5_lay 7 = .ok (.invokevirtual 52, 3) := by decide +kernel
theorem dX5_lay_10 : decode cX5_lay 10 = .ok (.ifCond .eq 11, 3) := by decide +kernel
theorem dX5_lay_13 : decode cX5_lay 13 = .ok (.aload_n 0, 1) := by decide +kernel
theorem dX5_lay_14 : decode cX5_lay 14 = .ok (.iload_n 2, 1) := by decide +kernel
theorem dX5_lay_15 : decode cX5_lay 15 = .ok (.invokevirtual 52, 3) := by decide +kernel
theorem dX5_lay_18 : decode cX5_lay 18 = .ok (.ifCond .ne 9, 3) := by decide +kernel
theorem dX5_lay_21 : decode cX5_lay 21 = .ok (.aload_n 0, 1) := by decide +kernel
theorem dX5_lay_22 : decode cX5_lay 22 = .ok (.iconst 1, 1) := by decide +kernel
theorem dX5_lay_23 : decode cX5_lay 23 = .ok (.invokevirtual 42, 3) := by decide +kernel
theorem dX5_lay_26 : decode cX5_lay 26 = .ok (.ireturn, 1) := by decide +kernel
theorem dX5_lay_27 : decode cX5_lay 27 = .ok (.iload_n 1, 1) := by decide +kernel
theorem dX5_lay_28 : decode cX5_lay 28 = .ok (.iload_n 2, 1) := by decide +kernel
theorem dX5_lay_29 : decode cX5_lay 29 = .ok (.if_icmp .eq 13, 3) := by decide +kernel
theorem dX5_lay_32 : decode cX5_lay 32 = .ok (.iload_n 3, 1) := by decide +kernel
theorem dX5_lay_33 : decode cX5_lay 33 = .ok (.iconst 1, 1) := by decide +kernel
theorem dX5_lay_34 : decode cX5_lay 34 = .ok (.bipush 50, 2) := by decide +kernel
theorem dX5_lay_36 : decode cX5_lay 36 = .ok (.invokestatic 35, 3) := by decide +kernel
theorem dX5_lay_39 : decode cX5_lay 39 = .ok (.ifCond .ne 9, 3) := by decide +kernel
theorem dX5_lay_42 : decode cX5_lay 42 = .ok (.aload_n 0, 1) := by decide +kernel
theorem dX5_lay_43 : decode cX5_lay 43 = .ok (.iconst 2, 1) := by decide +kernel
theorem dX5_lay_44 : decode cX5_lay 44 = .ok (.invokevirtual 42, 3) := by decide +kernel
theorem dX5_lay_47 : decode cX5_lay 47 = .ok (.ireturn, 1) := by decide +kernel
theorem dX5_lay_48 : decode cX5_lay 48 = .ok (.aload_n 0, 1) := by decide +kernel
theorem dX5_lay_49 : decode cX5_lay 49 = .ok (.getfield 39, 3) := by decide +kernel
theorem dX5_lay_52 : decode cX5_lay 52 = .ok (.bipush 12, 2) := by decide +kernel
theorem dX5_lay_54 : decode cX5_lay 54 = .ok (.if_icmp .ne 9, 3) := by decide +kernel
theorem dX5_lay_57 : decode cX5_lay 57 = .ok (.aload_n 0, 1) := by decide +kernel
theorem dX5_lay_58 : decode cX5_lay 58 = .ok (.iconst 3, 1) := by decide +kernel
theorem dX5_lay_59 : decode cX5_lay 59 = .ok (.invokevirtual 42, 3) := by decide +kernel
theorem dX5_lay_62 : decode cX5_lay 62 = .ok (.ireturn, 1) := by decide +kernel
theorem dX5_lay_63 : decode cX5_lay 63 = .ok (.iconst 5, 1) := by decide +kernel
theorem dX5_lay_64 : decode cX5_lay 64 = .ok (.newarray .int, 2) := by decide +kernel
theorem dX5_lay_66 : decode cX5_lay 66 = .ok (.dup, 1) := by decide +kernel
theorem dX5_lay_67 : decode cX5_lay 67 = .ok (.iconst 0, 1) := by decide +kernel
theorem dX5_lay_68 : decode cX5_lay 68 = .ok (.iload_n 1, 1) := by decide +kernel
theorem dX5_lay_69 : decode cX5_lay 69 = .ok (.iastore, 1) := by decide +kernel
theorem dX5_lay_70 : decode cX5_lay 70 = .ok (.dup, 1) := by decide +kernel
theorem dX5_lay_71 : decode cX5_lay 71 = .ok (.iconst 1, 1) := by decide +kernel
theorem dX5_lay_72 : decode cX5_lay 72 = .ok (.iload_n 2, 1) := by decide +kernel
theorem dX5_lay_73 : decode cX5_lay 73 = .ok (.iastore, 1) := by decide +kernel
theorem dX5_lay_74 : decode cX5_lay 74 = .ok (.dup, 1) := by decide +kernel
theorem dX5_lay_75 : decode cX5_lay 75 = .ok (.iconst 2, 1) := by decide +kernel
theorem dX5_lay_76 : decode cX5_lay 76 = .ok (.iload_n 3, 1) := by decide +kernel
theorem dX5_lay_77 : decode cX5_lay 77 = .ok (.iastore, 1) := by decide +kernel
theorem dX5_lay_78 : decode cX5_lay 78 = .ok (.dup, 1) := by decide +kernel
theorem dX5_lay_79 : decode cX5_lay 79 = .ok (.iconst 3, 1) := by decide +kernel
theorem dX5_lay_80 : decode cX5_lay 80 = .ok (.iconst 1, 1) := by decide +kernel
theorem dX5_lay_81 : decode cX5_lay 81 = .ok (.iastore, 1) := by decide +kernel
theorem dX5_lay_82 : decode cX5_lay 82 = .ok (.dup, 1) := by decide +kernel
theorem dX5_lay_83 : decode cX5_lay 83 = .ok (.iconst 4, 1) := by decide +kernel
theorem dX5_lay_84 : decode cX5_lay 84 = .ok (.iconst 0, 1) := by decide +kernel
theorem dX5_lay_85 : decode cX5_lay 85 = .ok (.iastore, 1) := by decide +kernel
theorem dX5_lay_86 : decode cX5_lay 86 = .ok (.astore 4, 2) := by decide +kernel
theorem dX5_lay_88 : decode cX5_lay 88 = .ok (.aload 4, 2) := by decide +kernel
theorem dX5_lay_90 : decode cX5_lay 90 = .ok (.iconst 0, 1) := by decide +kernel
theorem dX5_lay_91 : decode cX5_lay 91 = .ok (.aload_n 0, 1) := by decide +kernel
theorem dX5_lay_92 : decode cX5_lay 92 = .ok (.getfield 19, 3) := by decide +kernel
theorem dX5_lay_95 : decode cX5_lay 95 = .ok (.iconst 5, 1) := by decide +kernel
theorem dX5_lay_96 : decode cX5_lay 96 = .ok (.aload_n 0, 1) := by decide +kernel
theorem dX5_lay_97 : decode cX5_lay 97 = .ok (.getfield 39, 3) := by decide +kernel
theorem dX5_lay_100 : decode cX5_lay 100 = .ok (.imul, 1) := by decide +kernel
theorem dX5_lay_101 : decode cX5_lay 101 = .ok (.iconst 5, 1) := by decide +kernel
theorem dX5_lay_102 : decode cX5_lay 102 = .ok (.invokestatic 46, 3) := by decide +kernel
theorem dX5_lay_105 : decode cX5_lay 105 = .ok (.aload_n 0, 1) := by decide +kernel
theorem dX5_lay_106 : decode cX5_lay 106 = .ok (.dup, 1) := by decide +kernel
theorem dX5_lay_107 : decode cX5_lay 107 = .ok (.getfield 39, 3) := by decide +kernel
theorem dX5_lay_110 : decode cX5_lay 110 = .ok (.iconst 1, 1) := by decide +kernel
theorem dX5_lay_111 : decode cX5_lay 111 = .ok (.iadd, 1) := by decide +kernel
theorem dX5_lay_112 : decode cX5_lay 112 = .ok (.putfield 39, 3) := by decide +kernel
theorem dX5_lay_115 : decode cX5_lay 115 = .ok (.aload_n 0, 1) := by decide +kernel
theorem dX5_lay_116 : decode cX5_lay 116 = .ok (.getfield 39, 3) := by decide +kernel
theorem dX5_lay_119 : decode cX5_lay 119 = .ok (.iconst 1, 1) := by decide +kernel
theorem dX5_lay_120 : decode cX5_lay 120 = .ok (.isub, 1) := by decide +kernel
theorem dX5_lay_121 : decode cX5_lay 121 = .ok (.ireturn, 1) := by decide +kernel
theorem dX5_turn_0 : decode cX5_turn 0 = .ok (.aload_n 0, 1) := by decide +kernel
theorem dX5_turn_1 : decode cX5_turn 1 = .ok (.aload_n 0, 1) := by decide +kernel
theorem dX5_turn_2 : decode cX5_turn 2 = .ok (.iload_n 1, 1) := by decide +kernel
theorem dX5_turn_3 : decode cX5_turn 3 = .ok (.invokevirtual 64, 3) := by decide +kernel
theorem dX5_turn_6 : decode cX5_turn 6 = .ok (.ifCond .eq 7, 3) := by decide +kernel
theorem dX5_turn_9 : decode cX5_turn 9 = .ok (.iconst 0, 1) := by decide +kernel
theorem dX5_turn_10 : decode cX5_turn 10 = .ok (.goto 4, 3) := by decide +kernel
theorem dX5_turn_13 : decode cX5_turn 13 = .ok (.iconst 1, 1) := by decide +kernel
theorem dX5_turn_14 : decode cX5_turn 14 = .ok (.putfield 28, 3) := by decide +kernel
theorem dX5_turn_17 : decode cX5_turn 17 = .ok (.aload_n 0, 1) := by decide +kernel
theorem dX5_turn_18 : decode cX5_turn 18 = .ok (.getfield 28, 3) := by decide +kernel
theorem dX5_turn_21 : decode cX5_turn 21 = .ok (.ifCond .eq 5, 3) := by decide +kernel
theorem dX5_turn_24 : decode cX5_turn 24 = .ok (.iconst 0, 1) := by decide +kernel
theorem dX5_turn_25 : decode cX5_turn 25 = .ok (.ireturn, 1) := by decide +kernel
theorem dX5_turn_26 : decode cX5_turn 26 = .ok (.aload_n 0, 1) := by decide +kernel
theorem dX5_turn_27 : decode cX5_turn 27 = .ok (.iload_n 1, 1) := by decide +kernel
theorem dX5_turn_28 : decode cX5_turn 28 = .ok (.iconst 3, 1) := by decide +kernel
theorem dX5_turn_29 : decode cX5_turn 29 = .ok (.invokevirtual 67, 3) := by decide +kernel
theorem dX5_turn_32 : decode cX5_turn 32 = .ok (.iconst 1, 1) := by decide +kernel
theorem dX5_turn_33 : decode cX5_turn 33 = .ok (.if_icmp .ne 7, 3) := by decide +kernel
theorem dX5_turn_36 : decode cX5_turn 36 = .ok (.iconst 1, 1) := by decide +kernel
theorem dX5_turn_37 : decode cX5_turn 37 = .ok (.goto 4, 3) := by decide +kernel
theorem dX5_turn_40 : decode cX5_turn 40 = .ok (.iconst 0, 1) := by decide +kernel
theorem dX5_turn_41 : decode cX5_turn 41 = .ok (.istore_n 3, 1) := by decide +kernel
theorem dX5_turn_42 : decode cX5_turn 42 = .ok (.aload_n 0, 1) := by decide +kernel
theorem dX5_turn_43 : decode cX5_turn 43 = .ok (.getfield 19, 3) := by decide +kernel
theorem dX5_turn_46 : decode cX5_turn 46 = .ok (.iconst 5, 1) := by decide +kernel
theorem dX5_turn_47 : decode cX5_turn 47 = .ok (.iload_n 1, 1) := by decide +kernel
theorem dX5_turn_48 : decode cX5_turn 48 = .ok (.imul, 1) := by decide +kernel
theorem dX5_turn_49 : decode cX5_turn 49 = .ok (.iconst 3, 1) := by decide +kernel
theorem dX5_turn_50 : decode cX5_turn 50 = .ok (.iadd, 1) := by decide +kernel
theorem dX5_turn_51 : decode cX5_turn 51 = .ok (.iload_n 2, 1) := by decide +kernel
theorem dX5_turn_52 : decode cX5_turn 52 = .ok (.ifCond .eq 7, 3) := by decide +kernel
theorem dX5_turn_55 : decode cX5_turn 55 = .ok (.iconst 1, 1) := by decide +kernel
theorem dX5_turn_56 : decode cX5_turn 56 = .ok (.goto 4, 3) := by decide +kernel
theorem dX5_turn_59 : decode cX5_turn 59 = .ok (.iconst 0, 1) := by decide +kernel
theorem dX5_turn_60 : decode cX5_turn 60 = .ok (.iastore, 1) := by decide +kernel
theorem dX5_turn_61 : decode cX5_turn 61 = .ok (.iload_n 3, 1) := by decide +kernel
theorem dX5_turn_62 : decode cX5_turn 62 = .ok (.ireturn, 1) := by decide +kernel
theorem dX5_clean_0 : decode cX5_clean 0 = .ok (.aload_n 0, 1) := by decide +kernel
theorem dX5_clean_1 : decode cX5_clean 1 = .ok (.iconst 0, 1) := by decide +kernel
theorem dX5_clean_2 : decode cX5_clean 2 = .ok (.putfield 28, 3) := by decide +kernel
theorem dX5_clean_5 : decode cX5_clean 5 = .ok (.aload_n 0, 1) := by decide +kernel
theorem dX5_clean_6 : decode cX5_clean 6 = .ok (.iload_n 1, 1) := by decide +kernel
theorem dX5_clean_7 : decode cX5_clean 7 = .ok (.invokevirtual 52, 3) := by decide +kernel
theorem dX5_clean_10 : decode cX5_clean 10 = .ok (.ifCond .ne 9, 3) := by decide +kernel
theorem dX5_clean_13 : decode cX5_clean 13 = .ok (.aload_n 0, 1) := by decide +kernel
theorem dX5_clean_14 : decode cX5_clean 14 = .ok (.iconst 1, 1) := by decide +kernel
theorem dX5_clean_15 : decode cX5_clean 15 = .ok (.invokevirtual 42, 3) := by decide +kernel
theorem dX5_clean_18 : decode cX5_clean 18 = .ok (.ireturn, 1) := by decide +kernel
theorem dX5_clean_19 : decode cX5_clean 19 = .ok (.aload_n 0, 1) := by decide +kernel
theorem dX5_clean_20 : decode cX5_clean 20 = .ok (.iload_n 1, 1) := by decide +kernel
theorem dX5_clean_21 : decode cX5_clean 21 = .ok (.iconst 5, 1) := by decide +kernel
theorem dX5_clean_22 : decode cX5_clean 22 = .ok (.invokevirtual 56, 3) := by decide +kernel
theorem dX5_clean_25 : decode cX5_clean 25 = .ok (.istore_n 2, 1) := by decide +kernel
theorem dX5_clean_26 : decode cX5_clean 26 = .ok (.aload_n 0, 1) := by decide +kernel
theorem dX5_clean_27 : decode cX5_clean 27 = .ok (.iload_n 1, 1) := by decide +kernel
theorem dX5_clean_28 : decode cX5_clean 28 = .ok (.iconst 5, 1) := by decide +kernel
theorem dX5_clean_29 : decode cX5_clean 29 = .ok (.iconst 0, 1) := by decide +kernel
theorem dX5_clean_30 : decode cX5_clean 30 = .ok (.invokevirtual 60, 3) := by decide +kernel
theorem dX5_clean_33 : decode cX5_clean 33 = .ok (.iload_n 2, 1) := by decide +kernel
theorem dX5_clean_34 : decode cX5_clean 34 = .ok (.ireturn, 1) := by decide +kernel
theorem dX5_pour_0 : decode cX5_pour 0 = .ok (.iload_n 2, 1) := by decide +kernel
theorem dX5_pour_1 : decode cX5_pour 1 = .ok (.istore_n 3, 1) := by decide +kernel
theorem dX5_pour_2 : decode cX5_pour 2 = .ok (.iload_n 1, 1) := by decide +kernel
theorem dX5_pour_3 : decode cX5_pour 3 = .ok (.istore 4, 2) := by decide +kernel
theorem dX5_pour_5 : decode cX5_pour 5 = .ok (.iload 4, 2) := by decide +kernel
theorem dX5_pour_7 : decode cX5_pour 7 = .ok (.iconst (-1), 1) := by decide +kernel
theorem dX5_pour_8 : decode cX5_pour 8 = .ok (.if_icmp .eq 59, 3) := by decide +kernel
theorem dX5_pour_11 : decode cX5_pour 11 = .ok (.iload_n 3, 1) := by decide +kernel
theorem dX5_pour_12 : decode cX5_pour 12 = .ok (.aload_n 0, 1) := by decide +kernel
theorem dX5_pour_13 : decode cX5_pour 13 = .ok (.iload 4, 2) := by decide +kernel
theorem dX5_pour_15 : decode cX5_pour 15 = .ok (.iconst 1, 1) := by decide +kernel
theorem dX5_pour_16 : decode cX5_pour 16 = .ok (.invokevirtual 56, 3) := by decide +kernel
theorem dX5_pour_19 : decode cX5_pour 19 = .ok (.aload_n 0, 1) := by decide +kernel
theorem dX5_pour_20 : decode cX5_pour 20 = .ok (.iload 4, 2) := by decide +kernel
theorem dX5_pour_22 : decode cX5_pour 22 = .ok (.iconst 2, 1) := by decide +kernel
theorem dX5_pour_23 : decode cX5_pour 23 = .ok (.invokevirtual 56, 3) := by decide +kernel
theorem dX5_pour_26 : decode cX5_pour 26 = .ok (.isub, 1) := by decide +kernel
theorem dX5_pour_27 : decode cX5_pour 27 = .ok (.invokestatic 70, 3) := by decide +kernel
theorem dX5_pour_30 : decode cX5_pour 30 = .ok (.istore 5, 2) := by decide +kernel
theorem dX5_pour_32 : decode cX5_pour 32 = .ok (.aload_n 0, 1) := by decide +kernel
theorem dX5_pour_33 : decode cX5_pour 33 = .ok (.iload 4, 2) := by decide +kernel
theorem dX5_pour_35 : decode cX5_pour 35 = .ok (.iconst 2, 1) := by decide +kernel
theorem dX5_pour_36 : decode cX5_pour 36 = .ok (.aload_n 0, 1) := by decide +kernel
theorem dX5_pour_37 : decode cX5_pour 37 = .ok (.iload 4, 2) := by decide +kernel
theorem dX5_pour_39 : decode cX5_pour 39 = .ok (.iconst 2, 1) := by decide +kernel
theorem dX5_pour_40 : decode cX5_pour 40 = .ok (.invokevirtual 56, 3) := by decide +kernel
theorem dX5_pour_43 : decode cX5_pour 43 = .ok (.iload 5, 2) := by decide +kernel
theorem dX5_pour_45 : decode cX5_pour 45 = .ok (.iadd, 1) := by decide +kernel
theorem dX5_pour_46 : decode cX5_pour 46 = .ok (.invokevirtual 60, 3) := by decide +kernel
theorem dX5_pour_49 : decode cX5_pour 49 = .ok (.iload_n 3, 1) := by decide +kernel
theorem dX5_pour_50 : decode cX5_pour 50 = .ok (.iload 5, 2) := by decide +kernel
theorem dX5_pour_52 : decode cX5_pour 52 = .ok (.isub, 1) := by decide +kernel
theorem dX5_pour_53 : decode cX5_pour 53 = .ok (.istore_n 3, 1) := by decide +kernel
theorem dX5_pour_54 : decode cX5_pour 54 = .ok (.aload_n 0, 1) := by decide +kernel
theorem dX5_pour_55 : decode cX5_pour 55 = .ok (.iload 4, 2) := by decide +kernel
theorem dX5_pour_57 : decode cX5_pour 57 = .ok (.bipush 6, 2) := by decide +kernel
theorem dX5_pour_59 : decode cX5_pour 59 = .ok (.invokevirtual 56, 3) := by decide +kernel
theorem dX5_pour_62 : decode cX5_pour 62 = .ok (.istore 4, 2) := by decide +kernel
theorem dX5_pour_64 : decode cX5_pour 64 = .ok (.goto (-59), 3) := by decide +kernel
theorem dX5_pour_67 : decode cX5_pour 67 = .ok (.aload_n 0, 1) := by decide +kernel
theorem dX5_pour_68 : decode cX5_pour 68 = .ok (.getfield 25, 3) := by decide +kernel
theorem dX5_pour_71 : decode cX5_pour 71 = .ok (.iconst 2, 1) := by decide +kernel
theorem dX5_pour_72 : decode cX5_pour 72 = .ok (.dup2, 1) := by decide +kernel
theorem dX5_pour_73 : decode cX5_pour 73 = .ok (.iaload, 1) := by decide +kernel
theorem dX5_pour_74 : decode cX5_pour 74 = .ok (.iload_n 3, 1) := by decide +kernel
theorem dX5_pour_75 : decode cX5_pour 75 = .ok (.iadd, 1) := by decide +kernel
theorem dX5_pour_76 : decode cX5_pour 76 = .ok (.iastore, 1) := by decide +kernel
theorem dX5_pour_77 : decode cX5_pour 77 = .ok (.iload_n 3, 1) := by decide +kernel
theorem dX5_pour_78 : decode cX5_pour 78 = .ok (.ireturn, 1) := by decide +kernel
theorem dX5_cart_0 : decode cX5_cart 0 = .ok (.aload_n 0, 1) := by decide +kernel
theorem dX5_cart_1 : decode cX5_cart 1 = .ok (.iconst 0, 1) := by decide +kernel
theorem dX5_cart_2 : decode cX5_cart 2 = .ok (.putfield 28, 3) := by decide +kernel
theorem dX5_cart_5 : decode cX5_cart 5 = .ok (.aload_n 0, 1) := by decide +kernel
theorem dX5_cart_6 : decode cX5_cart 6 = .ok (.iload_n 1, 1) := by decide +kernel
theorem dX5_cart_7 : decode cX5_cart 7 = .ok (.invokevirtual 52, 3) := by decide +kernel
theorem dX5_cart_10 : decode cX5_cart 10 = .ok (.ifCond .ne 9, 3) := by decide +kernel
theorem dX5_cart_13 : decode cX5_cart 13 = .ok (.aload_n 0, 1) := by decide +kernel
theorem dX5_cart_14 : decode cX5_cart 14 = .ok (.iconst 1, 1) := by decide +kernel
theorem dX5_cart_15 : decode cX5_cart 15 = .ok (.invokevirtual 42, 3) := by decide +kernel
theorem dX5_cart_18 : decode cX5_cart 18 = .ok (.ireturn, 1) := by decide +kernel
theorem dX5_cart_19 : decode cX5_cart 19 = .ok (.iload_n 2, 1) := by decide +kernel
theorem dX5_cart_20 : decode cX5_cart 20 = .ok (.iconst 1, 1) := by decide +kernel
theorem dX5_cart_21 : decode cX5_cart 21 = .ok (.sipush 500, 3) := by decide +kernel
theorem dX5_cart_24 : decode cX5_cart 24 = .ok (.invokestatic 35, 3) := by decide +kernel
theorem dX5_cart_27 : decode cX5_cart 27 = .ok (.ifCond .ne 9, 3) := by decide +kernel
theorem dX5_cart_30 : decode cX5_cart 30 = .ok (.aload_n 0, 1) := by decide +kernel
theorem dX5_cart_31 : decode cX5_cart 31 = .ok (.iconst 2, 1) := by decide +kernel
theorem dX5_cart_32 : decode cX5_cart 32 = .ok (.invokevirtual 42, 3) := by decide +kernel
theorem dX5_cart_35 : decode cX5_cart 35 = .ok (.ireturn, 1) := by decide +kernel
theorem dX5_cart_36 : decode cX5_cart 36 = .ok (.aload_n 0, 1) := by decide +kernel
theorem dX5_cart_37 : decode cX5_cart 37 = .ok (.getfield 25, 3) := by decide +kernel
theorem dX5_cart_40 : decode cX5_cart 40 = .ok (.iconst 4, 1) := by decide +kernel
theorem dX5_cart_41 : decode cX5_cart 41 = .ok (.dup2, 1) := by decide +kernel
theorem dX5_cart_42 : decode cX5_cart 42 = .ok (.iaload, 1) := by decide +kernel
theorem dX5_cart_43 : decode cX5_cart 43 = .ok (.iload_n 2, 1) := by decide +kernel
theorem dX5_cart_44 : decode cX5_cart 44 = .ok (.iadd, 1) := by decide +kernel
theorem dX5_cart_45 : decode cX5_cart 45 = .ok (.iastore, 1) := by decide +kernel
theorem dX5_cart_46 : decode cX5_cart 46 = .ok (.aload_n 0, 1) := by decide +kernel
theorem dX5_cart_47 : decode cX5_cart 47 = .ok (.iload_n 1, 1) := by decide +kernel
theorem dX5_cart_48 : decode cX5_cart 48 = .ok (.iload_n 2, 1) := by decide +kernel
theorem dX5_cart_49 : decode cX5_cart 49 = .ok (.invokevirtual 75, 3) := by decide +kernel
theorem dX5_cart_52 : decode cX5_cart 52 = .ok (.ireturn, 1) := by decide +kernel
theorem dX5_setPeople_0 : decode cX5_setPeople 0 = .ok (.aload_n 0, 1) := by decide +kernel
theorem dX5_setPeople_1 : decode cX5_setPeople 1 = .ok (.iconst 0, 1) := by decide +kernel
theorem dX5_setPeople_2 : decode cX5_setPeople 2 = .ok (.putfield 28, 3) := by decide +kernel
theorem dX5_setPeople_5 : decode cX5_setPeople 5 = .ok (.aload_n 0, 1) := by decide +kernel
theorem dX5_setPeople_6 : decode cX5_setPeople 6 = .ok (.iload_n 1, 1) := by decide +kernel
theorem dX5_setPeople_7 : decode cX5_setPeople 7 = .ok (.invokevirtual 52, 3) := by decide +kernel
theorem dX5_setPeople_10 : decode cX5_setPeople 10 = .ok (.ifCond .ne 9, 3) := by decide +kernel
theorem dX5_setPeople_13 : decode cX5_setPeople 13 = .ok (.aload_n 0, 1) := by decide +kernel
theorem dX5_setPeople_14 : decode cX5_setPeople 14 = .ok (.iconst 1, 1) := by decide +kernel
theorem dX5_setPeople_15 : decode cX5_setPeople 15 = .ok (.invokevirtual 42, 3) := by decide +kernel
theorem dX5_setPeople_18 : decode cX5_setPeople 18 = .ok (.ireturn, 1) := by decide +kernel
theorem dX5_setPeople_19 : decode cX5_setPeople 19 = .ok (.iload_n 2, 1) := by decide +kernel
theorem dX5_setPeople_20 : decode cX5_setPeople 20 = .ok (.iconst 0, 1) := by decide +kernel
theorem dX5_setPeople_21 : decode cX5_setPeople 21 = .ok (.bipush 9, 2) := by decide +kernel
theorem dX5_setPeople_23 : decode cX5_setPeople 23 = .ok (.invokestatic 35, 3) := by decide +kernel
theorem dX5_setPeople_26 : decode cX5_setPeople 26 = .ok (.ifCond .ne 9, 3) := by decide +kernel
theorem dX5_setPeople_29 : decode cX5_setPeople 29 = .ok (.aload_n 0, 1) := by decide +kernel
theorem dX5_setPeople_30 : decode cX5_setPeople 30 = .ok (.iconst 2, 1) := by decide +kernel
theorem dX5_setPeople_31 : decode cX5_setPeople 31 = .ok (.invokevirtual 42, 3) := by decide +kernel
theorem dX5_setPeople_34 : decode cX5_setPeople 34 = .ok (.ireturn, 1) := by decide +kernel
theorem dX5_setPeople_35 : decode cX5_setPeople 35 = .ok (.aload_n 0, 1) := by decide +kernel
theorem dX5_setPeople_36 : decode cX5_setPeople 36 = .ok (.iload_n 1, 1) := by decide +kernel
theorem dX5_setPeople_37 : decode cX5_setPeople 37 = .ok (.iconst 3, 1) := by decide +kernel
theorem dX5_setPeople_38 : decode cX5_setPeople 38 = .ok (.invokevirtual 56, 3) := by decide +kernel
theorem dX5_setPeople_41 : decode cX5_setPeople 41 = .ok (.istore_n 3, 1) := by decide +kernel
theorem dX5_setPeople_42 : decode cX5_setPeople 42 = .ok (.aload_n 0, 1) := by decide +kernel
theorem dX5_setPeople_43 : decode cX5_setPeople 43 = .ok (.iload_n 1, 1) := by decide +kernel
theorem dX5_setPeople_44 : decode cX5_setPeople 44 = .ok (.iconst 3, 1) := by decide +kernel
theorem dX5_setPeople_45 : decode cX5_setPeople 45 = .ok (.iload_n 2, 1) := by decide +kernel
theorem dX5_setPeople_46 : decode cX5_setPeople 46 = .ok (.invokevirtual 60, 3) := by decide +kernel
theorem dX5_setPeople_49 : decode cX5_setPeople 49 = .ok (.iload_n 3, 1) := by decide +kernel
theorem dX5_setPeople_50 : decode cX5_setPeople 50 = .ok (.ireturn, 1) := by decide +kernel
theorem dX5_house_0 : decode cX5_house 0 = .ok (.aload_n 0, 1) := by decide +kernel
theorem dX5_house_1 : decode cX5_house 1 = .ok (.iconst 0, 1) := by decide +kernel
theorem dX5_house_2 : decode cX5_house 2 = .ok (.putfield 28, 3) := by decide +kernel
theorem dX5_house_5 : decode cX5_house 5 = .ok (.aload_n 0, 1) := by decide +kernel
theorem dX5_house_6 : decode cX5_house 6 = .ok (.iload_n 1, 1) := by decide +kernel
theorem dX5_house_7 : decode cX5_house 7 = .ok (.invokevirtual 52, 3) := by decide +kernel
theorem dX5_house_10 : decode cX5_house 10 = .ok (.ifCond .eq 22, 3) := by decide +kernel
theorem dX5_house_13 : decode cX5_house 13 = .ok (.iload_n 2, 1) := by decide +kernel
theorem dX5_house_14 : decode cX5_house 14 = .ok (.iconst 0, 1) := by decide +kernel
theorem dX5_house_15 : decode cX5_house 15 = .ok (.bipush 9, 2) := by decide +kernel
theorem dX5_house_17 : decode cX5_house 17 = .ok (.invokestatic 35, 3) := by decide +kernel
theorem dX5_house_20 : decode cX5_house 20 = .ok (.ifCond .eq 12, 3) := by decide +kernel
theorem dX5_house_23 : decode cX5_house 23 = .ok (.aload_n 0, 1) := by decide +kernel
theorem dX5_house_24 : decode cX5_house 24 = .ok (.iload_n 1, 1) := by decide +kernel
theorem dX5_house_25 : decode cX5_house 25 = .ok (.iload_n 2, 1) := by decide +kernel
theorem dX5_house_26 : decode cX5_house 26 = .ok (.invokevirtual 56, 3) := by decide +kernel
theorem dX5_house_29 : decode cX5_house 29 = .ok (.goto 8, 3) := by decide +kernel
theorem dX5_house_32 : decode cX5_house 32 = .ok (.aload_n 0, 1) := by decide +kernel
theorem dX5_house_33 : decode cX5_house 33 = .ok (.iconst 1, 1) := by decide +kernel
theorem dX5_house_34 : decode cX5_house 34 = .ok (.invokevirtual 42, 3) := by decide +kernel
theorem dX5_house_37 : decode cX5_house 37 = .ok (.ireturn, 1) := by decide +kernel
theorem dX5_pipe_0 : decode cX5_pipe 0 = .ok (.aload_n 0, 1) := by decide +kernel
theorem dX5_pipe_1 : decode cX5_pipe 1 = .ok (.iconst 0, 1) := by decide +kernel
theorem dX5_pipe_2 : decode cX5_pipe 2 = .ok (.putfield 28, 3) := by decide +kernel
theorem dX5_pipe_5 : decode cX5_pipe 5 = .ok (.aload_n 0, 1) := by decide +kernel
theorem dX5_pipe_6 : decode cX5_pipe 6 = .ok (.iload_n 1, 1) := by decide +kernel
theorem dX5_pipe_7 : decode cX5_pipe 7 = .ok (.invokevirtual 64, 3) := by decide +kernel
theorem dX5_pipe_10 : decode cX5_pipe 10 = .ok (.ifCond .eq 21, 3) := by decide +kernel
theorem dX5_pipe_13 : decode cX5_pipe 13 = .ok (.iload_n 2, 1) := by decide +kernel
theorem dX5_pipe_14 : decode cX5_pipe 14 = .ok (.iconst 0, 1) := by decide +kernel
theorem dX5_pipe_15 : decode cX5_pipe 15 = .ok (.iconst 4, 1) := by decide +kernel
theorem dX5_pipe_16 : decode cX5_pipe 16 = .ok (.invokestatic 35, 3) := by decide +kernel
theorem dX5_pipe_19 : decode cX5_pipe 19 = .ok (.ifCond .eq 12, 3) := by decide +kernel
theorem dX5_pipe_22 : decode cX5_pipe 22 = .ok (.aload_n 0, 1) := by decide +kernel
theorem dX5_pipe_23 : decode cX5_pipe 23 = .ok (.iload_n 1, 1) := by decide +kernel
theorem dX5_pipe_24 : decode cX5_pipe 24 = .ok (.iload_n 2, 1) := by decide +kernel
theorem dX5_pipe_25 : decode cX5_pipe 25 = .ok (.invokevirtual 67, 3) := by decide +kernel
theorem dX5_pipe_28 : decode cX5_pipe 28 = .ok (.goto 8, 3) := by decide +kernel
theorem dX5_pipe_31 : decode cX5_pipe 31 = .ok (.aload_n 0, 1) := by decide +kernel
theorem dX5_pipe_32 : decode cX5_pipe 32 = .ok (.iconst 1, 1) := by decide +kernel
theorem dX5_pipe_33 : decode cX5_pipe 33 = .ok (.invokevirtual 42, 3) := by decide +kernel
theorem dX5_pipe_36 : decode cX5_pipe 36 = .ok (.ireturn, 1) := by decide +kernel
theorem dX5_debt_0 : decode cX5_debt 0 = .ok (.aload_n 0, 1) := by decide +kernel
theorem dX5_debt_1 : decode cX5_debt 1 = .ok (.getfield 22, 3) := by decide +kernel
theorem dX5_debt_4 : decode cX5_debt 4 = .ok (.bipush 10, 2) := by decide +kernel
theorem dX5_debt_6 : decode cX5_debt 6 = .ok (.iload_n 1, 1) := by decide +kernel
theorem dX5_debt_7 : decode cX5_debt 7 = .ok (.imul, 1) := by decide +kernel
theorem dX5_debt_8 : decode cX5_debt 8 = .ok (.iload_n 2, 1) := by decide +kernel
theorem dX5_debt_9 : decode cX5_debt 9 = .ok (.iadd, 1) := by decide +kernel
theorem dX5_debt_10 : decode cX5_debt 10 = .ok (.iaload, 1) := by decide +kernel
theorem dX5_debt_11 : decode cX5_debt 11 = .ok (.aload_n 0, 1) := by decide +kernel
theorem dX5_debt_12 : decode cX5_debt 12 = .ok (.getfield 22, 3) := by decide +kernel
theorem dX5_debt_15 : decode cX5_debt 15 = .ok (.bipush 10, 2) := by decide +kernel
theorem dX5_debt_17 : decode cX5_debt 17 = .ok (.iload_n 2, 1) := by decide +kernel
theorem dX5_debt_18 : decode cX5_debt 18 = .ok (.imul, 1) := by decide +kernel
theorem dX5_debt_19 : decode cX5_debt 19 = .ok (.iload_n 1, 1) := by decide +kernel
theorem dX5_debt_20 : decode cX5_debt 20 = .ok (.iadd, 1) := by decide +kernel
theorem dX5_debt_21 : decode cX5_debt 21 = .ok (.iaload, 1) := by decide +kernel
theorem dX5_debt_22 : decode cX5_debt 22 = .ok (.isub, 1) := by decide +kernel
theorem dX5_debt_23 : decode cX5_debt 23 = .ok (.ireturn, 1) := by decide +kernel
theorem dX5_owes_0 : decode cX5_owes 0 = .ok (.aload_n 0, 1) := by decide +kernel
theorem dX5_owes_1 : decode cX5_owes 1 = .ok (.iconst 0, 1) := by decide +kernel
theorem dX5_owes_2 : decode cX5_owes 2 = .ok (.putfield 28, 3) := by decide +kernel
theorem dX5_owes_5 : decode cX5_owes 5 = .ok (.aload_n 0, 1) := by decide +kernel
theorem dX5_owes_6 : decode cX5_owes 6 = .ok (.iload_n 1, 1) := by decide +kernel
theorem dX5_owes_7 : decode cX5_owes 7 = .ok (.invokevirtual 52, 3) := by decide +kernel
theorem dX5_owes_10 : decode cX5_owes 10 = .ok (.ifCond .eq 20, 3) := by decide +kernel
theorem dX5_owes_13 : decode cX5_owes 13 = .ok (.aload_n 0, 1) := by decide +kernel
theorem dX5_owes_14 : decode cX5_owes 14 = .ok (.iload_n 2, 1) := by decide +kernel
theorem dX5_owes_15 : decode cX5_owes 15 = .ok (.invokevirtual 52, 3) := by decide +kernel
theorem dX5_owes_18 : decode cX5_owes 18 = .ok (.ifCond .eq 12, 3) := by decide +kernel
theorem dX5_owes_21 : decode cX5_owes 21 = .ok (.aload_n 0, 1) := by decide +kernel
theorem dX5_owes_22 : decode cX5_owes 22 = .ok (.iload_n 1, 1) := by decide +kernel
theorem dX5_owes_23 : decode cX5_owes 23 = .ok (.iload_n 2, 1) := by decide +kernel
theorem dX5_owes_24 : decode cX5_owes 24 = .ok (.invokevirtual 78, 3) := by decide +kernel
theorem dX5_owes_27 : decode cX5_owes 27 = .ok (.goto 8, 3) := by decide +kernel
theorem dX5_owes_30 : decode cX5_owes 30 = .ok (.aload_n 0, 1) := by decide +kernel
theorem dX5_owes_31 : decode cX5_owes 31 = .ok (.iconst 1, 1) := by decide +kernel
theorem dX5_owes_32 : decode cX5_owes 32 = .ok (.invokevirtual 42, 3) := by decide +kernel
theorem dX5_owes_35 : decode cX5_owes 35 = .ok (.ireturn, 1) := by decide +kernel
theorem dX5_even_0 : decode cX5_even 0 = .ok (.aload_n 0, 1) := by decide +kernel
theorem dX5_even_1 : decode cX5_even 1 = .ok (.iload_n 1, 1) := by decide +kernel
theorem dX5_even_2 : decode cX5_even 2 = .ok (.iconst 0, 1) := by decide +kernel
theorem dX5_even_3 : decode cX5_even 3 = .ok (.invokevirtual 67, 3) := by decide +kernel
theorem dX5_even_6 : decode cX5_even 6 = .ok (.istore_n 2, 1) := by decide +kernel
theorem dX5_even_7 : decode cX5_even 7 = .ok (.aload_n 0, 1) := by decide +kernel
theorem dX5_even_8 : decode cX5_even 8 = .ok (.iload_n 1, 1) := by decide +kernel
theorem dX5_even_9 : decode cX5_even 9 = .ok (.iconst 1, 1) := by decide +kernel
theorem dX5_even_10 : decode cX5_even 10 = .ok (.invokevirtual 67, 3) := by decide +kernel
theorem dX5_even_13 : decode cX5_even 13 = .ok (.istore_n 3, 1) := by decide +kernel
theorem dX5_even_14 : decode cX5_even 14 = .ok (.aload_n 0, 1) := by decide +kernel
theorem dX5_even_15 : decode cX5_even 15 = .ok (.iload_n 2, 1) := by decide +kernel
theorem dX5_even_16 : decode cX5_even 16 = .ok (.iconst 2, 1) := by decide +kernel
theorem dX5_even_17 : decode cX5_even 17 = .ok (.invokevirtual 56, 3) := by decide +kernel
theorem dX5_even_20 : decode cX5_even 20 = .ok (.aload_n 0, 1) := by decide +kernel
theorem dX5_even_21 : decode cX5_even 21 = .ok (.iload_n 3, 1) := by decide +kernel
theorem dX5_even_22 : decode cX5_even 22 = .ok (.iconst 1, 1) := by decide +kernel
theorem dX5_even_23 : decode cX5_even 23 = .ok (.invokevirtual 56, 3) := by decide +kernel
theorem dX5_even_26 : decode cX5_even 26 = .ok (.imul, 1) := by decide +kernel
theorem dX5_even_27 : decode cX5_even 27 = .ok (.aload_n 0, 1) := by decide +kernel
theorem dX5_even_28 : decode cX5_even 28 = .ok (.iload_n 3, 1) := by decide +kernel
theorem dX5_even_29 : decode cX5_even 29 = .ok (.iconst 2, 1) := by decide +kernel
theorem dX5_even_30 : decode cX5_even 30 = .ok (.invokevirtual 56, 3) := by decide +kernel
theorem dX5_even_33 : decode cX5_even 33 = .ok (.aload_n 0, 1) := by decide +kernel
theorem dX5_even_34 : decode cX5_even 34 = .ok (.iload_n 2, 1) := by decide +kernel
theorem dX5_even_35 : decode cX5_even 35 = .ok (.iconst 1, 1) := by decide +kernel
theorem dX5_even_36 : decode cX5_even 36 = .ok (.invokevirtual 56, 3) := by decide +kernel
theorem dX5_even_39 : decode cX5_even 39 = .ok (.imul, 1) := by decide +kernel
theorem dX5_even_40 : decode cX5_even 40 = .ok (.isub, 1) := by decide +kernel
theorem dX5_even_41 : decode cX5_even 41 = .ok (.istore 4, 2) := by decide +kernel
theorem dX5_even_43 : decode cX5_even 43 = .ok (.iload 4, 2) := by decide +kernel
theorem dX5_even_45 : decode cX5_even 45 = .ok (.ifCond .le 7, 3) := by decide +kernel
theorem dX5_even_48 : decode cX5_even 48 = .ok (.iload_n 2, 1) := by decide +kernel
theorem dX5_even_49 : decode cX5_even 49 = .ok (.goto 4, 3) := by decide +kernel
theorem dX5_even_52 : decode cX5_even 52 = .ok (.iload_n 3, 1) := by decide +kernel
theorem dX5_even_53 : decode cX5_even 53 = .ok (.istore 5, 2) := by decide +kernel
theorem dX5_even_55 : decode cX5_even 55 = .ok (.iload 4, 2) := by decide +kernel
theorem dX5_even_57 : decode cX5_even 57 = .ok (.ifCond .le 7, 3) := by decide +kernel
theorem dX5_even_60 : decode cX5_even 60 = .ok (.iload_n 3, 1) := by decide +kernel
theorem dX5_even_61 : decode cX5_even 61 = .ok (.goto 4, 3) := by decide +kernel
theorem dX5_even_64 : decode cX5_even 64 = .ok (.iload_n 2, 1) := by decide +kernel
theorem dX5_even_65 : decode cX5_even 65 = .ok (.istore 6, 2) := by decide +kernel
theorem dX5_even_67 : decode cX5_even 67 = .ok (.aload_n 0, 1) := by decide +kernel
theorem dX5_even_68 : decode cX5_even 68 = .ok (.iload_n 1, 1) := by decide +kernel
theorem dX5_even_69 : decode cX5_even 69 = .ok (.iconst 2, 1) := by decide +kernel
theorem dX5_even_70 : decode cX5_even 70 = .ok (.invokevirtual 67, 3) := by decide +kernel
theorem dX5_even_73 : decode cX5_even 73 = .ok (.iload 4, 2) := by decide +kernel
theorem dX5_even_75 : decode cX5_even 75 = .ok (.invokestatic 81, 3) := by decide +kernel
theorem dX5_even_78 : decode cX5_even 78 = .ok (.aload_n 0, 1) := by decide +kernel
theorem dX5_even_79 : decode cX5_even 79 = .ok (.iload_n 2, 1) := by decide +kernel
theorem dX5_even_80 : decode cX5_even 80 = .ok (.iconst 1, 1) := by decide +kernel
theorem dX5_even_81 : decode cX5_even 81 = .ok (.invokevirtual 56, 3) := by decide +kernel
theorem dX5_even_84 : decode cX5_even 84 = .ok (.aload_n 0, 1) := by decide +kernel
theorem dX5_even_85 : decode cX5_even 85 = .ok (.iload_n 3, 1) := by decide +kernel
theorem dX5_even_86 : decode cX5_even 86 = .ok (.iconst 1, 1) := by decide +kernel
theorem dX5_even_87 : decode cX5_even 87 = .ok (.invokevirtual 56, 3) := by decide +kernel
theorem dX5_even_90 : decode cX5_even 90 = .ok (.iadd, 1) := by decide +kernel
theorem dX5_even_91 : decode cX5_even 91 = .ok (.idiv, 1) := by decide +kernel
theorem dX5_even_92 : decode cX5_even 92 = .ok (.invokestatic 70, 3) := by decide +kernel
theorem dX5_even_95 : decode cX5_even 95 = .ok (.istore 7, 2) := by decide +kernel
theorem dX5_even_97 : decode cX5_even 97 = .ok (.aload_n 0, 1) := by decide +kernel
theorem dX5_even_98 : decode cX5_even 98 = .ok (.iload 5, 2) := by decide +kernel
theorem dX5_even_100 : decode cX5_even 100 = .ok (.iconst 2, 1) := by decide +kernel
theorem dX5_even_101 : decode cX5_even 101 = .ok (.aload_n 0, 1) := by decide +kernel
theorem dX5_even_102 : decode cX5_even 102 = .ok (.iload 5, 2) := by decide +kernel
theorem dX5_even_104 : decode cX5_even 104 = .ok (.iconst 2, 1) := by decide +kernel
theorem dX5_even_105 : decode cX5_even 105 = .ok (.invokevirtual 56, 3) := by decide +kernel
theorem dX5_even_108 : decode cX5_even 108 = .ok (.iload 7, 2) := by decide +kernel
theorem dX5_even_110 : decode cX5_even 110 = .ok (.isub, 1) := by decide +kernel
theorem dX5_even_111 : decode cX5_even 111 = .ok (.invokevirtual 60, 3) := by decide +kernel
theorem dX5_even_114 : decode cX5_even 114 = .ok (.aload_n 0, 1) := by decide +kernel
theorem dX5_even_115 : decode cX5_even 115 = .ok (.iload 6, 2) := by decide +kernel
theorem dX5_even_117 : decode cX5_even 117 = .ok (.iconst 2, 1) := by decide +kernel
theorem dX5_even_118 : decode cX5_even 118 = .ok (.aload_n 0, 1) := by decide +kernel
theorem dX5_even_119 : decode cX5_even 119 = .ok (.iload 6, 2) := by decide +kernel
theorem dX5_even_121 : decode cX5_even 121 = .ok (.iconst 2, 1) := by decide +kernel
theorem dX5_even_122 : decode cX5_even 122 = .ok (.invokevirtual 56, 3) := by decide +kernel
theorem dX5_even_125 : decode cX5_even 125 = .ok (.iload 7, 2) := by decide +kernel
theorem dX5_even_127 : decode cX5_even 127 = .ok (.iadd, 1) := by decide +kernel
theorem dX5_even_128 : decode cX5_even 128 = .ok (.invokevirtual 60, 3) := by decide +kernel
theorem dX5_even_131 : decode cX5_even 131 = .ok (.aload_n 0, 1) := by decide +kernel
theorem dX5_even_132 : decode cX5_even 132 = .ok (.getfield 19, 3) := by decide +kernel
theorem dX5_even_135 : decode cX5_even 135 = .ok (.iconst 5, 1) := by decide +kernel
theorem dX5_even_136 : decode cX5_even 136 = .ok (.iload_n 1, 1) := by decide +kernel
theorem dX5_even_137 : decode cX5_even 137 = .ok (.imul, 1) := by decide +kernel
theorem dX5_even_138 : decode cX5_even 138 = .ok (.iconst 4, 1) := by decide +kernel
theorem dX5_even_139 : decode cX5_even 139 = .ok (.iadd, 1) := by decide +kernel
theorem dX5_even_140 : decode cX5_even 140 = .ok (.dup2, 1) := by decide +kernel
theorem dX5_even_141 : decode cX5_even 141 = .ok (.iaload, 1) := by decide +kernel
theorem dX5_even_142 : decode cX5_even 142 = .ok (.iload 7, 2) := by decide +kernel
theorem dX5_even_144 : decode cX5_even 144 = .ok (.iadd, 1) := by decide +kernel
theorem dX5_even_145 : decode cX5_even 145 = .ok (.iastore, 1) := by decide +kernel
theorem dX5_even_146 : decode cX5_even 146 = .ok (.aload_n 0, 1) := by decide +kernel
theorem dX5_even_147 : decode cX5_even 147 = .ok (.getfield 22, 3) := by decide +kernel
theorem dX5_even_150 : decode cX5_even 150 = .ok (.bipush 10, 2) := by decide +kernel
theorem dX5_even_152 : decode cX5_even 152 = .ok (.iload 6, 2) := by decide +kernel
theorem dX5_even_154 : decode cX5_even 154 = .ok (.imul, 1) := by decide +kernel
theorem dX5_even_155 : decode cX5_even 155 = .ok (.iload 5, 2) := by decide +kernel
theorem dX5_even_157 : decode cX5_even 157 = .ok (.iadd, 1) := by decide +kernel
theorem dX5_even_158 : decode cX5_even 158 = .ok (.dup2, 1) := by decide +kernel
theorem dX5_even_159 : decode cX5_even 159 = .ok (.iaload, 1) := by decide +kernel
theorem dX5_even_160 : decode cX5_even 160 = .ok (.iload 7, 2) := by decide +kernel
theorem dX5_even_162 : decode cX5_even 162 = .ok (.iadd, 1) := by decide +kernel
theorem dX5_even_163 : decode cX5_even 163 = .ok (.iastore, 1) := by decide +kernel
theorem dX5_even_164 : decode cX5_even 164 = .ok (.return_, 1) := by decide +kernel
theorem dX5_dayOn_0 : decode cX5_dayOn 0 = .ok (.iconst 0, 1) := by decide +kernel
theorem dX5_dayOn_1 : decode cX5_dayOn 1 = .ok (.istore_n 1, 1) := by decide +kernel
theorem dX5_dayOn_2 : decode cX5_dayOn 2 = .ok (.aload_n 0, 1) := by decide +kernel
theorem dX5_dayOn_3 : decode cX5_dayOn 3 = .ok (.getfield 25, 3) := by decide +kernel
theorem dX5_dayOn_6 : decode cX5_dayOn 6 = .ok (.iconst 0, 1) := by decide +kernel
theorem dX5_dayOn_7 : decode cX5_dayOn 7 = .ok (.iaload, 1) := by decide +kernel
theorem dX5_dayOn_8 : decode cX5_dayOn 8 = .ok (.bipush 28, 2) := by decide +kernel
theorem dX5_dayOn_10 : decode cX5_dayOn 10 = .ok (.irem, 1) := by decide +kernel
theorem dX5_dayOn_11 : decode cX5_dayOn 11 = .ok (.istore_n 2, 1) := by decide +kernel
theorem dX5_dayOn_12 : decode cX5_dayOn 12 = .ok (.iconst 0, 1) := by decide +kernel
theorem dX5_dayOn_13 : decode cX5_dayOn 13 = .ok (.istore_n 3, 1) := by decide +kernel
theorem dX5_dayOn_14 : decode cX5_dayOn 14 = .ok (.iload_n 3, 1) := by decide +kernel
theorem dX5_dayOn_15 : decode cX5_dayOn 15 = .ok (.aload_n 0, 1) := by decide +kernel
theorem dX5_dayOn_16 : decode cX5_dayOn 16 = .ok (.getfield 32, 3) := by decide +kernel
theorem dX5_dayOn_19 : decode cX5_dayOn 19 = .ok (.if_icmp .ge 56, 3) := by decide +kernel
theorem dX5_dayOn_22 : decode cX5_dayOn 22 = .ok (.aload_n 0, 1) := by decide +kernel
theorem dX5_dayOn_23 : decode cX5_dayOn 23 = .ok (.iload_n 3, 1) := by decide +kernel
theorem dX5_dayOn_24 : decode cX5_dayOn 24 = .ok (.iconst 0, 1) := by decide +kernel
theorem dX5_dayOn_25 : decode cX5_dayOn 25 = .ok (.invokevirtual 56, 3) := by decide +kernel
theorem dX5_dayOn_28 : decode cX5_dayOn 28 = .ok (.aload_n 0, 1) := by decide +kernel
theorem dX5_dayOn_29 : decode cX5_dayOn 29 = .ok (.getfield 9, 3) := by decide +kernel
theorem dX5_dayOn_32 : decode cX5_dayOn 32 = .ok (.iload_n 2, 1) := by decide +kernel
theorem dX5_dayOn_33 : decode cX5_dayOn 33 = .ok (.iaload, 1) := by decide +kernel
theorem dX5_dayOn_34 : decode cX5_dayOn 34 = .ok (.imul, 1) := by decide +kernel
theorem dX5_dayOn_35 : decode cX5_dayOn 35 = .ok (.bipush 10, 2) := by decide +kernel
theorem dX5_dayOn_37 : decode cX5_dayOn 37 = .ok (.aload_n 0, 1) := by decide +kernel
theorem dX5_dayOn_38 : decode cX5_dayOn 38 = .ok (.iload_n 3, 1) := by decide +kernel
theorem dX5_dayOn_39 : decode cX5_dayOn 39 = .ok (.iconst 5, 1) := by decide +kernel
theorem dX5_dayOn_40 : decode cX5_dayOn 40 = .ok (.invokevirtual 56, 3) := by decide +kernel
theorem dX5_dayOn_43 : decode cX5_dayOn 43 = .ok (.isub, 1) := by decide +kernel
theorem dX5_dayOn_44 : decode cX5_dayOn 44 = .ok (.imul, 1) := by decide +kernel
theorem dX5_dayOn_45 : decode cX5_dayOn 45 = .ok (.bipush 10, 2) := by decide +kernel
theorem dX5_dayOn_47 : decode cX5_dayOn 47 = .ok (.idiv, 1) := by decide +kernel
theorem dX5_dayOn_48 : decode cX5_dayOn 48 = .ok (.istore 4, 2) := by decide +kernel
theorem dX5_dayOn_50 : decode cX5_dayOn 50 = .ok (.aload_n 0, 1) := by decide +kernel
theorem dX5_dayOn_51 : decode cX5_dayOn 51 = .ok (.getfield 25, 3) := by decide +kernel
theorem dX5_dayOn_54 : decode cX5_dayOn 54 = .ok (.iconst 1, 1) := by decide +kernel
theorem dX5_dayOn_55 : decode cX5_dayOn 55 = .ok (.dup2, 1) := by decide +kernel
theorem dX5_dayOn_56 : decode cX5_dayOn 56 = .ok (.iaload, 1) := by decide +kernel
theorem dX5_dayOn_57 : decode cX5_dayOn 57 = .ok (.iload 4, 2) := by decide +kernel
theorem dX5_dayOn_59 : decode cX5_dayOn 59 = .ok (.iadd, 1) := by decide +kernel
theorem dX5_dayOn_60 : decode cX5_dayOn 60 = .ok (.iastore, 1) := by decide +kernel
theorem dX5_dayOn_61 : decode cX5_dayOn 61 = .ok (.aload_n 0, 1) := by decide +kernel
theorem dX5_dayOn_62 : decode cX5_dayOn 62 = .ok (.iload_n 3, 1) := by decide +kernel
theorem dX5_dayOn_63 : decode cX5_dayOn 63 = .ok (.iload 4, 2) := by decide +kernel
theorem dX5_dayOn_65 : decode cX5_dayOn 65 = .ok (.invokevirtual 75, 3) := by decide +kernel
theorem dX5_dayOn_68 : decode cX5_dayOn 68 = .ok (.pop, 1) := by decide +kernel
theorem dX5_dayOn_69 : decode cX5_dayOn 69 = .ok (.iinc 3 1, 3) := by decide +kernel
theorem dX5_dayOn_72 : decode cX5_dayOn 72 = .ok (.goto (-58), 3) := by decide +kernel
theorem dX5_dayOn_75 : decode cX5_dayOn 75 = .ok (.iconst 0, 1) := by decide +kernel
theorem dX5_dayOn_76 : decode cX5_dayOn 76 = .ok (.istore_n 3, 1) := by decide +kernel
theorem dX5_dayOn_77 : decode cX5_dayOn 77 = .ok (.iload_n 3, 1) := by decide +kernel
theorem dX5_dayOn_78 : decode cX5_dayOn 78 = .ok (.aload_n 0, 1) := by decide +kernel
theorem dX5_dayOn_79 : decode cX5_dayOn 79 = .ok (.getfield 32, 3) := by decide +kernel
theorem dX5_dayOn_82 : decode cX5_dayOn 82 = .ok (.if_icmp .ge 109, 3) := by decide +kernel
theorem dX5_dayOn_85 : decode cX5_dayOn 85 = .ok (.iconst 3, 1) := by decide +kernel
theorem dX5_dayOn_86 : decode cX5_dayOn 86 = .ok (.aload_n 0, 1) := by decide +kernel
theorem dX5_dayOn_87 : decode cX5_dayOn 87 = .ok (.iload_n 3, 1) := by decide +kernel
theorem dX5_dayOn_88 : decode cX5_dayOn 88 = .ok (.iconst 3, 1) := by decide +kernel
theorem dX5_dayOn_89 : decode cX5_dayOn 89 = .ok (.invokevirtual 56, 3) := by decide +kernel
theorem dX5_dayOn_92 : decode cX5_dayOn 92 = .ok (.imul, 1) := by decide +kernel
theorem dX5_dayOn_93 : decode cX5_dayOn 93 = .ok (.istore 4, 2) := by decide +kernel
theorem dX5_dayOn_95 : decode cX5_dayOn 95 = .ok (.iload 4, 2) := by decide +kernel
theorem dX5_dayOn_97 : decode cX5_dayOn 97 = .ok (.aload_n 0, 1) := by decide +kernel
theorem dX5_dayOn_98 : decode cX5_dayOn 98 = .ok (.iload_n 3, 1) := by decide +kernel
theorem dX5_dayOn_99 : decode cX5_dayOn 99 = .ok (.iconst 2, 1) := by decide +kernel
theorem dX5_dayOn_100 : decode cX5_dayOn 100 = .ok (.invokevirtual 56, 3) := by decide +kernel
theorem dX5_dayOn_103 : decode cX5_dayOn 103 = .ok (.invokestatic 70, 3) := by decide +kernel
theorem dX5_dayOn_106 : decode cX5_dayOn 106 = .ok (.istore 5, 2) := by decide +kernel
theorem dX5_dayOn_108 : decode cX5_dayOn 108 = .ok (.aload_n 0, 1) := by decide +kernel
theorem dX5_dayOn_109 : decode cX5_dayOn 109 = .ok (.iload_n 3, 1) := by decide +kernel
theorem dX5_dayOn_110 : decode cX5_dayOn 110 = .ok (.iconst 2, 1) := by decide +kernel
theorem dX5_dayOn_111 : decode cX5_dayOn 111 = .ok (.aload_n 0, 1) := by decide +kernel
theorem dX5_dayOn_112 : decode cX5_dayOn 112 = .ok (.iload_n 3, 1) := by decide +kernel
theorem dX5_dayOn_113 : decode cX5_dayOn 113 = .ok (.iconst 2, 1) := by decide +kernel
theorem dX5_dayOn_114 : decode cX5_dayOn 114 = .ok (.invokevirtual 56, 3) := by decide +kernel
theorem dX5_dayOn_117 : decode cX5_dayOn 117 = .ok (.iload 5, 2) := by decide +kernel
theorem dX5_dayOn_119 : decode cX5_dayOn 119 = .ok (.isub, 1) := by decide +kernel
theorem dX5_dayOn_120 : decode cX5_dayOn 120 = .ok (.invokevirtual 60, 3) := by decide +kernel
theorem dX5_dayOn_123 : decode cX5_dayOn 123 = .ok (.aload_n 0, 1) := by decide +kernel
theorem dX5_dayOn_124 : decode cX5_dayOn 124 = .ok (.iload_n 3, 1) := by decide +kernel
theorem dX5_dayOn_125 : decode cX5_dayOn 125 = .ok (.bipush 7, 2) := by decide +kernel
theorem dX5_dayOn_127 : decode cX5_dayOn 127 = .ok (.aload_n 0, 1) := by decide +kernel
theorem dX5_dayOn_128 : decode cX5_dayOn 128 = .ok (.iload_n 3, 1) := by decide +kernel
theorem dX5_dayOn_129 : decode cX5_dayOn 129 = .ok (.bipush 7, 2) := by decide +kernel
theorem dX5_dayOn_131 : decode cX5_dayOn 131 = .ok (.invokevirtual 56, 3) := by decide +kernel
theorem dX5_dayOn_134 : decode cX5_dayOn 134 = .ok (.iload 4, 2) := by decide +kernel
theorem dX5_dayOn_136 : decode cX5_dayOn 136 = .ok (.iadd, 1) := by decide +kernel
theorem dX5_dayOn_137 : decode cX5_dayOn 137 = .ok (.iload 5, 2) := by decide +kernel
theorem dX5_dayOn_139 : decode cX5_dayOn 139 = .ok (.isub, 1) := by decide +kernel
theorem dX5_dayOn_140 : decode cX5_dayOn 140 = .ok (.invokevirtual 60, 3) := by decide +kernel
theorem dX5_dayOn_143 : decode cX5_dayOn 143 = .ok (.iload 5, 2) := by decide +kernel
theorem dX5_dayOn_145 : decode cX5_dayOn 145 = .ok (.iload 4, 2) := by decide +kernel
theorem dX5_dayOn_147 : decode cX5_dayOn 147 = .ok (.if_icmp .ge 19, 3) := by decide +kernel
theorem dX5_dayOn_150 : decode cX5_dayOn 150 = .ok (.aload_n 0, 1) := by decide +kernel
theorem dX5_dayOn_151 : decode cX5_dayOn 151 = .ok (.iload_n 3, 1) := by decide +kernel
theorem dX5_dayOn_152 : decode cX5_dayOn 152 = .ok (.bipush 9, 2) := by decide +kernel
theorem dX5_dayOn_154 : decode cX5_dayOn 154 = .ok (.aload_n 0, 1) := by decide +kernel
theorem dX5_dayOn_155 : decode cX5_dayOn 155 = .ok (.iload_n 3, 1) := by decide +kernel
theorem dX5_dayOn_156 : decode cX5_dayOn 156 = .ok (.bipush 9, 2) := by decide +kernel
theorem dX5_dayOn_158 : decode cX5_dayOn 158 = .ok (.invokevirtual 56, 3) := by decide +kernel
theorem dX5_dayOn_161 : decode cX5_dayOn 161 = .ok (.iconst 1, 1) := by decide +kernel
theorem dX5_dayOn_162 : decode cX5_dayOn 162 = .ok (.iadd, 1) := by decide +kernel
theorem dX5_dayOn_163 : decode cX5_dayOn 163 = .ok (.invokevirtual 60, 3) := by decide +kernel
theorem dX5_dayOn_166 : decode cX5_dayOn 166 = .ok (.aload_n 0, 1) := by decide +kernel
theorem dX5_dayOn_167 : decode cX5_dayOn 167 = .ok (.getfield 25, 3) := by decide +kernel
theorem dX5_dayOn_170 : decode cX5_dayOn 170 = .ok (.iconst 3, 1) := by decide +kernel
theorem dX5_dayOn_171 : decode cX5_dayOn 171 = .ok (.dup2, 1) := by decide +kernel
theorem dX5_dayOn_172 : decode cX5_dayOn 172 = .ok (.iaload, 1) := by decide +kernel
theorem dX5_dayOn_173 : decode cX5_dayOn 173 = .ok (.iload 5, 2) := by decide +kernel
theorem dX5_dayOn_175 : decode cX5_dayOn 175 = .ok (.iadd, 1) := by decide +kernel
theorem dX5_dayOn_176 : decode cX5_dayOn 176 = .ok (.iastore, 1) := by decide +kernel
theorem dX5_dayOn_177 : decode cX5_dayOn 177 = .ok (.iload_n 1, 1) := by decide +kernel
theorem dX5_dayOn_178 : decode cX5_dayOn 178 = .ok (.iload 4, 2) := by decide +kernel
theorem dX5_dayOn_180 : decode cX5_dayOn 180 = .ok (.iload 5, 2) := by decide +kernel
theorem dX5_dayOn_182 : decode cX5_dayOn 182 = .ok (.isub, 1) := by decide +kernel
theorem dX5_dayOn_183 : decode cX5_dayOn 183 = .ok (.iadd, 1) := by decide +kernel
theorem dX5_dayOn_184 : decode cX5_dayOn 184 = .ok (.istore_n 1, 1) := by decide +kernel
theorem dX5_dayOn_185 : decode cX5_dayOn 185 = .ok (.iinc 3 1, 3) := by decide +kernel
theorem dX5_dayOn_188 : decode cX5_dayOn 188 = .ok (.goto (-111), 3) := by decide +kernel
theorem dX5_dayOn_191 : decode cX5_dayOn 191 = .ok (.iconst 0, 1) := by decide +kernel
theorem dX5_dayOn_192 : decode cX5_dayOn 192 = .ok (.istore_n 3, 1) := by decide +kernel
theorem dX5_dayOn_193 : decode cX5_dayOn 193 = .ok (.iload_n 3, 1) := by decide +kernel
theorem dX5_dayOn_194 : decode cX5_dayOn 194 = .ok (.aload_n 0, 1) := by decide +kernel
theorem dX5_dayOn_195 : decode cX5_dayOn 195 = .ok (.getfield 32, 3) := by decide +kernel
theorem dX5_dayOn_198 : decode cX5_dayOn 198 = .ok (.if_icmp .ge 82, 3) := by decide +kernel
theorem dX5_dayOn_201 : decode cX5_dayOn 201 = .ok (.iconst 2, 1) := by decide +kernel
theorem dX5_dayOn_202 : decode cX5_dayOn 202 = .ok (.aload_n 0, 1) := by decide +kernel
theorem dX5_dayOn_203 : decode cX5_dayOn 203 = .ok (.iload_n 3, 1) := by decide +kernel
theorem dX5_dayOn_204 : decode cX5_dayOn 204 = .ok (.iconst 2, 1) := by decide +kernel
theorem dX5_dayOn_205 : decode cX5_dayOn 205 = .ok (.invokevirtual 56, 3) := by decide +kernel
theorem dX5_dayOn_208 : decode cX5_dayOn 208 = .ok (.imul, 1) := by decide +kernel
theorem dX5_dayOn_209 : decode cX5_dayOn 209 = .ok (.aload_n 0, 1) := by decide +kernel
theorem dX5_dayOn_210 : decode cX5_dayOn 210 = .ok (.iload_n 3, 1) := by decide +kernel
theorem dX5_dayOn_211 : decode cX5_dayOn 211 = .ok (.iconst 1, 1) := by decide +kernel
theorem dX5_dayOn_212 : decode cX5_dayOn 212 = .ok (.invokevirtual 56, 3) := by decide +kernel
theorem dX5_dayOn_215 : decode cX5_dayOn 215 = .ok (.isub, 1) := by decide +kernel
theorem dX5_dayOn_216 : decode cX5_dayOn 216 = .ok (.istore 4, 2) := by decide +kernel
theorem dX5_dayOn_218 : decode cX5_dayOn 218 = .ok (.iload 4, 2) := by decide +kernel
theorem dX5_dayOn_220 : decode cX5_dayOn 220 = .ok (.ifCond .le 19, 3) := by decide +kernel
theorem dX5_dayOn_223 : decode cX5_dayOn 223 = .ok (.aload_n 0, 1) := by decide +kernel
theorem dX5_dayOn_224 : decode cX5_dayOn 224 = .ok (.iload_n 3, 1) := by decide +kernel
theorem dX5_dayOn_225 : decode cX5_dayOn 225 = .ok (.iconst 4, 1) := by decide +kernel
theorem dX5_dayOn_226 : decode cX5_dayOn 226 = .ok (.invokevirtual 56, 3) := by decide +kernel
theorem dX5_dayOn_229 : decode cX5_dayOn 229 = .ok (.iload 4, 2) := by decide +kernel
theorem dX5_dayOn_231 : decode cX5_dayOn 231 = .ok (.iconst 2, 1) := by decide +kernel
theorem dX5_dayOn_232 : decode cX5_dayOn 232 = .ok (.idiv, 1) := by decide +kernel
theorem dX5_dayOn_233 : decode cX5_dayOn 233 = .ok (.invokestatic 70, 3) := by decide +kernel
theorem dX5_dayOn_236 : decode cX5_dayOn 236 = .ok (.goto 4, 3) := by decide +kernel
theorem dX5_dayOn_239 : decode cX5_dayOn 239 = .ok (.iconst 0, 1) := by decide +kernel
theorem dX5_dayOn_240 : decode cX5_dayOn 240 = .ok (.istore 5, 2) := by decide +kernel
theorem dX5_dayOn_242 : decode cX5_dayOn 242 = .ok (.aload_n 0, 1) := by decide +kernel
theorem dX5_dayOn_243 : decode cX5_dayOn 243 = .ok (.iload_n 3, 1) := by decide +kernel
theorem dX5_dayOn_244 : decode cX5_dayOn 244 = .ok (.iconst 2, 1) := by decide +kernel
theorem dX5_dayOn_245 : decode cX5_dayOn 245 = .ok (.aload_n 0, 1) := by decide +kernel
theorem dX5_dayOn_246 : decode cX5_dayOn 246 = .ok (.iload_n 3, 1) := by decide +kernel
theorem dX5_dayOn_247 : decode cX5_dayOn 247 = .ok (.iconst 2, 1) := by decide +kernel
theorem dX5_dayOn_248 : decode cX5_dayOn 248 = .ok (.invokevirtual 56, 3) := by decide +kernel
theorem dX5_dayOn_251 : decode cX5_dayOn 251 = .ok (.iload 5, 2) := by decide +kernel
theorem dX5_dayOn_253 : decode cX5_dayOn 253 = .ok (.isub, 1) := by decide +kernel
theorem dX5_dayOn_254 : decode cX5_dayOn 254 = .ok (.invokevirtual 60, 3) := by decide +kernel
theorem dX5_dayOn_257 : decode cX5_dayOn 257 = .ok (.aload_n 0, 1) := by decide +kernel
theorem dX5_dayOn_258 : decode cX5_dayOn 258 = .ok (.iload_n 3, 1) := by decide +kernel
theorem dX5_dayOn_259 : decode cX5_dayOn 259 = .ok (.bipush 8, 2) := by decide +kernel
theorem dX5_dayOn_261 : decode cX5_dayOn 261 = .ok (.aload_n 0, 1) := by decide +kernel
theorem dX5_dayOn_262 : decode cX5_dayOn 262 = .ok (.iload_n 3, 1) := by decide +kernel
theorem dX5_dayOn_263 : decode cX5_dayOn 263 = .ok (.bipush 8, 2) := by decide +kernel
theorem dX5_dayOn_265 : decode cX5_dayOn 265 = .ok (.invokevirtual 56, 3) := by decide +kernel
theorem dX5_dayOn_268 : decode cX5_dayOn 268 = .ok (.iload 5, 2) := by decide +kernel
theorem dX5_dayOn_270 : decode cX5_dayOn 270 = .ok (.iadd, 1) := by decide +kernel
theorem dX5_dayOn_271 : decode cX5_dayOn 271 = .ok (.invokevirtual 60, 3) := by decide +kernel
theorem dX5_dayOn_274 : decode cX5_dayOn 274 = .ok (.iinc 3 1, 3) := by decide +kernel
theorem dX5_dayOn_277 : decode cX5_dayOn 277 = .ok (.goto (-84), 3) := by decide +kernel
theorem dX5_dayOn_280 : decode cX5_dayOn 280 = .ok (.iconst 0, 1) := by decide +kernel
theorem dX5_dayOn_281 : decode cX5_dayOn 281 = .ok (.istore_n 3, 1) := by decide +kernel
theorem dX5_dayOn_282 : decode cX5_dayOn 282 = .ok (.iload_n 3, 1) := by decide +kernel
theorem dX5_dayOn_283 : decode cX5_dayOn 283 = .ok (.aload_n 0, 1) := by decide +kernel
theorem dX5_dayOn_284 : decode cX5_dayOn 284 = .ok (.getfield 39, 3) := by decide +kernel
theorem dX5_dayOn_287 : decode cX5_dayOn 287 = .ok (.if_icmp .ge 24, 3) := by decide +kernel
theorem dX5_dayOn_290 : decode cX5_dayOn 290 = .ok (.aload_n 0, 1) := by decide +kernel
theorem dX5_dayOn_291 : decode cX5_dayOn 291 = .ok (.iload_n 3, 1) := by decide +kernel
theorem dX5_dayOn_292 : decode cX5_dayOn 292 = .ok (.iconst 3, 1) := by decide +kernel
theorem dX5_dayOn_293 : decode cX5_dayOn 293 = .ok (.invokevirtual 67, 3) := by decide +kernel
theorem dX5_dayOn_296 : decode cX5_dayOn 296 = .ok (.iconst 1, 1) := by decide +kernel
theorem dX5_dayOn_297 : decode cX5_dayOn 297 = .ok (.if_icmp .ne 8, 3) := by decide +kernel
theorem dX5_dayOn_300 : decode cX5_dayOn 300 = .ok (.aload_n 0, 1) := by decide +kernel
theorem dX5_dayOn_301 : decode cX5_dayOn 301 = .ok (.iload_n 3, 1) := by decide +kernel
theorem dX5_dayOn_302 : decode cX5_dayOn 302 = .ok (.invokevirtual 84, 3) := by decide +kernel
theorem dX5_dayOn_305 : decode cX5_dayOn 305 = .ok (.iinc 3 1, 3) := by decide +kernel
theorem dX5_dayOn_308 : decode cX5_dayOn 308 = .ok (.goto (-26), 3) := by decide +kernel
theorem dX5_dayOn_311 : decode cX5_dayOn 311 = .ok (.iconst 0, 1) := by decide +kernel
theorem dX5_dayOn_312 : decode cX5_dayOn 312 = .ok (.istore_n 3, 1) := by decide +kernel
theorem dX5_dayOn_313 : decode cX5_dayOn 313 = .ok (.iload_n 3, 1) := by decide +kernel
theorem dX5_dayOn_314 : decode cX5_dayOn 314 = .ok (.aload_n 0, 1) := by decide +kernel
theorem dX5_dayOn_315 : decode cX5_dayOn 315 = .ok (.getfield 32, 3) := by decide +kernel
theorem dX5_dayOn_318 : decode cX5_dayOn 318 = .ok (.if_icmp .ge 33, 3) := by decide +kernel
theorem dX5_dayOn_321 : decode cX5_dayOn 321 = .ok (.aload_n 0, 1) := by decide +kernel
theorem dX5_dayOn_322 : decode cX5_dayOn 322 = .ok (.iload_n 3, 1) := by decide +kernel
theorem dX5_dayOn_323 : decode cX5_dayOn 323 = .ok (.iconst 5, 1) := by decide +kernel
theorem dX5_dayOn_324 : decode cX5_dayOn 324 = .ok (.bipush 10, 2) := by decide +kernel
theorem dX5_dayOn_326 : decode cX5_dayOn 326 = .ok (.aload_n 0, 1) := by decide +kernel
theorem dX5_dayOn_327 : decode cX5_dayOn 327 = .ok (.iload_n 3, 1) := by decide +kernel
theorem dX5_dayOn_328 : decode cX5_dayOn 328 = .ok (.iconst 5, 1) := by decide +kernel
theorem dX5_dayOn_329 : decode cX5_dayOn 329 = .ok (.invokevirtual 56, 3) := by decide +kernel
theorem dX5_dayOn_332 : decode cX5_dayOn 332 = .ok (.aload_n 0, 1) := by decide +kernel
theorem dX5_dayOn_333 : decode cX5_dayOn 333 = .ok (.getfield 13, 3) := by decide +kernel
theorem dX5_dayOn_336 : decode cX5_dayOn 336 = .ok (.iload_n 2, 1) := by decide +kernel
theorem dX5_dayOn_337 : decode cX5_dayOn 337 = .ok (.iaload, 1) := by decide +kernel
theorem dX5_dayOn_338 : decode cX5_dayOn 338 = .ok (.iadd, 1) := by decide +kernel
theorem dX5_dayOn_339 : decode cX5_dayOn 339 = .ok (.invokestatic 70, 3) := by decide +kernel
theorem dX5_dayOn_342 : decode cX5_dayOn 342 = .ok (.invokevirtual 60, 3) := by decide +kernel
theorem dX5_dayOn_345 : decode cX5_dayOn 345 = .ok (.iinc 3 1, 3) := by decide +kernel
theorem dX5_dayOn_348 : decode cX5_dayOn 348 = .ok (.goto (-35), 3) := by decide +kernel
theorem dX5_dayOn_351 : decode cX5_dayOn 351 = .ok (.aload_n 0, 1) := by decide +kernel
theorem dX5_dayOn_352 : decode cX5_dayOn 352 = .ok (.getfield 25, 3) := by decide +kernel
theorem dX5_dayOn_355 : decode cX5_dayOn 355 = .ok (.iconst 0, 1) := by decide +kernel
theorem dX5_dayOn_356 : decode cX5_dayOn 356 = .ok (.dup2, 1) := by decide +kernel
theorem dX5_dayOn_357 : decode cX5_dayOn 357 = .ok (.iaload, 1) := by decide +kernel
theorem dX5_dayOn_358 : decode cX5_dayOn 358 = .ok (.iconst 1, 1) := by decide +kernel
theorem dX5_dayOn_359 : decode cX5_dayOn 359 = .ok (.iadd, 1) := by decide +kernel
theorem dX5_dayOn_360 : decode cX5_dayOn 360 = .ok (.iastore, 1) := by decide +kernel
theorem dX5_dayOn_361 : decode cX5_dayOn 361 = .ok (.iload_n 1, 1) := by decide +kernel
theorem dX5_dayOn_362 : decode cX5_dayOn 362 = .ok (.ireturn, 1) := by decide +kernel
theorem dX5_daysOn_0 : decode cX5_daysOn 0 = .ok (.iconst 0, 1) := by decide +kernel
theorem dX5_daysOn_1 : decode cX5_daysOn 1 = .ok (.istore_n 2, 1) := by decide +kernel
theorem dX5_daysOn_2 : decode cX5_daysOn 2 = .ok (.iconst 0, 1) := by decide +kernel
theorem dX5_daysOn_3 : decode cX5_daysOn 3 = .ok (.istore_n 3, 1) := by decide +kernel
theorem dX5_daysOn_4 : decode cX5_daysOn 4 = .ok (.iload_n 3, 1) := by decide +kernel
theorem dX5_daysOn_5 : decode cX5_daysOn 5 = .ok (.iload_n 1, 1) := by decide +kernel
theorem dX5_daysOn_6 : decode cX5_daysOn 6 = .ok (.if_icmp .ge 16, 3) := by decide +kernel
theorem dX5_daysOn_9 : decode cX5_daysOn 9 = .ok (.iload_n 2, 1) := by decide +kernel
theorem dX5_daysOn_10 : decode cX5_daysOn 10 = .ok (.aload_n 0, 1) := by decide +kernel
theorem dX5_daysOn_11 : decode cX5_daysOn 11 = .ok (.invokevirtual 88, 3) := by decide +kernel
theorem dX5_daysOn_14 : decode cX5_daysOn 14 = .ok (.iadd, 1) := by decide +kernel
theorem dX5_daysOn_15 : decode cX5_daysOn 15 = .ok (.istore_n 2, 1) := by decide +kernel
theorem dX5_daysOn_16 : decode cX5_daysOn 16 = .ok (.iinc 3 1, 3) := by decide +kernel
theorem dX5_daysOn_19 : decode cX5_daysOn 19 = .ok (.goto (-15), 3) := by decide +kernel
theorem dX5_daysOn_22 : decode cX5_daysOn 22 = .ok (.iload_n 2, 1) := by decide +kernel
theorem dX5_daysOn_23 : decode cX5_daysOn 23 = .ok (.ireturn, 1) := by decide +kernel
theorem dX5_pass_0 : decode cX5_pass 0 = .ok (.aload_n 0, 1) := by decide +kernel
theorem dX5_pass_1 : decode cX5_pass 1 = .ok (.iconst 0, 1) := by decide +kernel
theorem dX5_pass_2 : decode cX5_pass 2 = .ok (.putfield 28, 3) := by decide +kernel
theorem dX5_pass_5 : decode cX5_pass 5 = .ok (.iload_n 1, 1) := by decide +kernel
theorem dX5_pass_6 : decode cX5_pass 6 = .ok (.iconst 1, 1) := by decide +kernel
theorem dX5_pass_7 : decode cX5_pass 7 = .ok (.bipush 100, 2) := by decide +kernel
theorem dX5_pass_9 : decode cX5_pass 9 = .ok (.invokestatic 35, 3) := by decide +kernel
theorem dX5_pass_12 : decode cX5_pass 12 = .ok (.ifCond .eq 11, 3) := by decide +kernel
theorem dX5_pass_15 : decode cX5_pass 15 = .ok (.aload_n 0, 1) := by decide +kernel
theorem dX5_pass_16 : decode cX5_pass 16 = .ok (.iload_n 1, 1) := by decide +kernel
theorem dX5_pass_17 : decode cX5_pass 17 = .ok (.invokevirtual 92, 3) := by decide +kernel
theorem dX5_pass_20 : decode cX5_pass 20 = .ok (.goto 8, 3) := by decide +kernel
theorem dX5_pass_23 : decode cX5_pass 23 = .ok (.aload_n 0, 1) := by decide +kernel
theorem dX5_pass_24 : decode cX5_pass 24 = .ok (.iconst 1, 1) := by decide +kernel
theorem dX5_pass_25 : decode cX5_pass 25 = .ok (.invokevirtual 42, 3) := by decide +kernel
theorem dX5_pass_28 : decode cX5_pass 28 = .ok (.ireturn, 1) := by decide +kernel
theorem dX5_all_0 : decode cX5_all 0 = .ok (.iconst 0, 1) := by decide +kernel
theorem dX5_all_1 : decode cX5_all 1 = .ok (.istore_n 2, 1) := by decide +kernel
theorem dX5_all_2 : decode cX5_all 2 = .ok (.iconst 0, 1) := by decide +kernel
theorem dX5_all_3 : decode cX5_all 3 = .ok (.istore_n 3, 1) := by decide +kernel
theorem dX5_all_4 : decode cX5_all 4 = .ok (.iload_n 3, 1) := by decide +kernel
theorem dX5_all_5 : decode cX5_all 5 = .ok (.aload_n 0, 1) := by decide +kernel
theorem dX5_all_6 : decode cX5_all 6 = .ok (.getfield 32, 3) := by decide +kernel
theorem dX5_all_9 : decode cX5_all 9 = .ok (.if_icmp .ge 18, 3) := by decide +kernel
theorem dX5_all_12 : decode cX5_all 12 = .ok (.iload_n 2, 1) := by decide +kernel
theorem dX5_all_13 : decode cX5_all 13 = .ok (.aload_n 0, 1) := by decide +kernel
theorem dX5_all_14 : decode cX5_all 14 = .ok (.iload_n 3, 1) := by decide +kernel
theorem dX5_all_15 : decode cX5_all 15 = .ok (.iload_n 1, 1) := by decide +kernel
theorem dX5_all_16 : decode cX5_all 16 = .ok (.invokevirtual 56, 3) := by decide +kernel
theorem dX5_all_19 : decode cX5_all 19 = .ok (.iadd, 1) := by decide +kernel
theorem dX5_all_20 : decode cX5_all 20 = .ok (.istore_n 2, 1) := by decide +kernel
theorem dX5_all_21 : decode cX5_all 21 = .ok (.iinc 3 1, 3) := by decide +kernel
theorem dX5_all_24 : decode cX5_all 24 = .ok (.goto (-20), 3) := by decide +kernel
theorem dX5_all_27 : decode cX5_all 27 = .ok (.iload_n 2, 1) := by decide +kernel
theorem dX5_all_28 : decode cX5_all 28 = .ok (.ireturn, 1) := by decide +kernel
theorem dX5_counted_0 : decode cX5_counted 0 = .ok (.iconst 0, 1) := by decide +kernel
theorem dX5_counted_1 : decode cX5_counted 1 = .ok (.istore_n 2, 1) := by decide +kernel
theorem dX5_counted_2 : decode cX5_counted 2 = .ok (.iload_n 1, 1) := by decide +kernel
theorem dX5_counted_3 : decode cX5_counted 3 = .ok (.tableswitch 106 0 9 #[53, 60, 65, 70, 76, 83, 83, 83, 92, 99], 53) := by decide +kernel
theorem dX5_counted_56 : decode cX5_counted 56 = .ok (.aload_n 0, 1) := by decide +kernel
theorem dX5_counted_57 : decode cX5_counted 57 = .ok (.getfield 25, 3) := by decide +kernel
theorem dX5_counted_60 : decode cX5_counted 60 = .ok (.iconst 0, 1) := by decide +kernel
theorem dX5_counted_61 : decode cX5_counted 61 = .ok (.iaload, 1) := by decide +kernel
theorem dX5_counted_62 : decode cX5_counted 62 = .ok (.ireturn, 1) := by decide +kernel
theorem dX5_counted_63 : decode cX5_counted 63 = .ok (.aload_n 0, 1) := by decide +kernel
theorem dX5_counted_64 : decode cX5_counted 64 = .ok (.getfield 32, 3) := by decide +kernel
theorem dX5_counted_67 : decode cX5_counted 67 = .ok (.ireturn, 1) := by decide +kernel
theorem dX5_counted_68 : decode cX5_counted 68 = .ok (.aload_n 0, 1) := by decide +kernel
theorem dX5_counted_69 : decode cX5_counted 69 = .ok (.getfield 39, 3) := by decide +kernel
theorem dX5_counted_72 : decode cX5_counted 72 = .ok (.ireturn, 1) := by decide +kernel
theorem dX5_counted_73 : decode cX5_counted 73 = .ok (.aload_n 0, 1) := by decide +kernel
theorem dX5_counted_74 : decode cX5_counted 74 = .ok (.iconst 2, 1) := by decide +kernel
theorem dX5_counted_75 : decode cX5_counted 75 = .ok (.invokevirtual 95, 3) := by decide +kernel
theorem dX5_counted_78 : decode cX5_counted 78 = .ok (.ireturn, 1) := by decide +kernel
theorem dX5_counted_79 : decode cX5_counted 79 = .ok (.aload_n 0, 1) := by decide +kernel
theorem dX5_counted_80 : decode cX5_counted 80 = .ok (.bipush 7, 2) := by decide +kernel
theorem dX5_counted_82 : decode cX5_counted 82 = .ok (.invokevirtual 95, 3) := by decide +kernel
theorem dX5_counted_85 : decode cX5_counted 85 = .ok (.ireturn, 1) := by decide +kernel
theorem dX5_counted_86 : decode cX5_counted 86 = .ok (.aload_n 0, 1) := by decide +kernel
theorem dX5_counted_87 : decode cX5_counted 87 = .ok (.getfield 25, 3) := by decide +kernel
theorem dX5_counted_90 : decode cX5_counted 90 = .ok (.iload_n 1, 1) := by decide +kernel
theorem dX5_counted_91 : decode cX5_counted 91 = .ok (.iconst 4, 1) := by decide +kernel
theorem dX5_counted_92 : decode cX5_counted 92 = .ok (.isub, 1) := by decide +kernel
theorem dX5_counted_93 : decode cX5_counted 93 = .ok (.iaload, 1) := by decide +kernel
theorem dX5_counted_94 : decode cX5_counted 94 = .ok (.ireturn, 1) := by decide +kernel
theorem dX5_counted_95 : decode cX5_counted 95 = .ok (.aload_n 0, 1) := by decide +kernel
theorem dX5_counted_96 : decode cX5_counted 96 = .ok (.bipush 8, 2) := by decide +kernel
theorem dX5_counted_98 : decode cX5_counted 98 = .ok (.invokevirtual 95, 3) := by decide +kernel
theorem dX5_counted_101 : decode cX5_counted 101 = .ok (.ireturn, 1) := by decide +kernel
theorem dX5_counted_102 : decode cX5_counted 102 = .ok (.aload_n 0, 1) := by decide +kernel
theorem dX5_counted_103 : decode cX5_counted 103 = .ok (.getfield 25, 3) := by decide +kernel
theorem dX5_counted_106 : decode cX5_counted 106 = .ok (.iconst 4, 1) := by decide +kernel
theorem dX5_counted_107 : decode cX5_counted 107 = .ok (.iaload, 1) := by decide +kernel
theorem dX5_counted_108 : decode cX5_counted 108 = .ok (.ireturn, 1) := by decide +kernel
theorem dX5_counted_109 : decode cX5_counted 109 = .ok (.iconst 0, 1) := by decide +kernel
theorem dX5_counted_110 : decode cX5_counted 110 = .ok (.istore_n 3, 1) := by decide +kernel
theorem dX5_counted_111 : decode cX5_counted 111 = .ok (.iload_n 3, 1) := by decide +kernel
theorem dX5_counted_112 : decode cX5_counted 112 = .ok (.aload_n 0, 1) := by decide +kernel
theorem dX5_counted_113 : decode cX5_counted 113 = .ok (.getfield 39, 3) := by decide +kernel
theorem dX5_counted_116 : decode cX5_counted 116 = .ok (.if_icmp .ge 18, 3) := by decide +kernel
theorem dX5_counted_119 : decode cX5_counted 119 = .ok (.iload_n 2, 1) := by decide +kernel
theorem dX5_counted_120 : decode cX5_counted 120 = .ok (.aload_n 0, 1) := by decide +kernel
theorem dX5_counted_121 : decode cX5_counted 121 = .ok (.iload_n 3, 1) := by decide +kernel
theorem dX5_counted_122 : decode cX5_counted 122 = .ok (.iconst 3, 1) := by decide +kernel
theorem dX5_counted_123 : decode cX5_counted 123 = .ok (.invokevirtual 67, 3) := by decide +kernel
theorem dX5_counted_126 : decode cX5_counted 126 = .ok (.iadd, 1) := by decide +kernel
theorem dX5_counted_127 : decode cX5_counted 127 = .ok (.istore_n 2, 1) := by decide +kernel
theorem dX5_counted_128 : decode cX5_counted 128 = .ok (.iinc 3 1, 3) := by decide +kernel
theorem dX5_counted_131 : decode cX5_counted 131 = .ok (.goto (-20), 3) := by decide +kernel
theorem dX5_counted_134 : decode cX5_counted 134 = .ok (.iload_n 2, 1) := by decide +kernel
theorem dX5_counted_135 : decode cX5_counted 135 = .ok (.ireturn, 1) := by decide +kernel
theorem dX5_count_0 : decode cX5_count 0 = .ok (.aload_n 0, 1) := by decide +kernel
theorem dX5_count_1 : decode cX5_count 1 = .ok (.iconst 0, 1) := by decide +kernel
theorem dX5_count_2 : decode cX5_count 2 = .ok (.putfield 28, 3) := by decide +kernel
theorem dX5_count_5 : decode cX5_count 5 = .ok (.iload_n 1, 1) := by decide +kernel
theorem dX5_count_6 : decode cX5_count 6 = .ok (.iconst 0, 1) := by decide +kernel
theorem dX5_count_7 : decode cX5_count 7 = .ok (.bipush 10, 2) := by decide +kernel
theorem dX5_count_9 : decode cX5_count 9 = .ok (.invokestatic 35, 3) := by decide +kernel
theorem dX5_count_12 : decode cX5_count 12 = .ok (.ifCond .eq 11, 3) := by decide +kernel
theorem dX5_count_15 : decode cX5_count 15 = .ok (.aload_n 0, 1) := by decide +kernel
theorem dX5_count_16 : decode cX5_count 16 = .ok (.iload_n 1, 1) := by decide +kernel
theorem dX5_count_17 : decode cX5_count 17 = .ok (.invokevirtual 98, 3) := by decide +kernel
theorem dX5_count_20 : decode cX5_count 20 = .ok (.goto 8, 3) := by decide +kernel
theorem dX5_count_23 : decode cX5_count 23 = .ok (.aload_n 0, 1) := by decide +kernel
theorem dX5_count_24 : decode cX5_count 24 = .ok (.iconst 1, 1) := by decide +kernel
theorem dX5_count_25 : decode cX5_count 25 = .ok (.invokevirtual 42, 3) := by decide +kernel
theorem dX5_count_28 : decode cX5_count 28 = .ok (.ireturn, 1) := by decide +kernel
theorem dX5_kept_0 : decode cX5_kept 0 = .ok (.iconst 4, 1) := by decide +kernel
theorem dX5_kept_1 : decode cX5_kept 1 = .ok (.anewarray 101, 3) := by decide +kernel
theorem dX5_kept_4 : decode cX5_kept 4 = .ok (.dup, 1) := by decide +kernel
theorem dX5_kept_5 : decode cX5_kept 5 = .ok (.iconst 0, 1) := by decide +kernel
theorem dX5_kept_6 : decode cX5_kept 6 = .ok (.aload_n 0, 1) := by decide +kernel
theorem dX5_kept_7 : decode cX5_kept 7 = .ok (.getfield 16, 3) := by decide +kernel
theorem dX5_kept_10 : decode cX5_kept 10 = .ok (.invokevirtual 102, 3) := by decide +kernel
theorem dX5_kept_13 : decode cX5_kept 13 = .ok (.checkcast 101, 3) := by decide +kernel
theorem dX5_kept_16 : decode cX5_kept 16 = .ok (.aastore, 1) := by decide +kernel
theorem dX5_kept_17 : decode cX5_kept 17 = .ok (.dup, 1) := by decide +kernel
theorem dX5_kept_18 : decode cX5_kept 18 = .ok (.iconst 1, 1) := by decide +kernel
theorem dX5_kept_19 : decode cX5_kept 19 = .ok (.aload_n 0, 1) := by decide +kernel
theorem dX5_kept_20 : decode cX5_kept 20 = .ok (.getfield 19, 3) := by decide +kernel
theorem dX5_kept_23 : decode cX5_kept 23 = .ok (.invokevirtual 102, 3) := by decide +kernel
theorem dX5_kept_26 : decode cX5_kept 26 = .ok (.checkcast 101, 3) := by decide +kernel
theorem dX5_kept_29 : decode cX5_kept 29 = .ok (.aastore, 1) := by decide +kernel
theorem dX5_kept_30 : decode cX5_kept 30 = .ok (.dup, 1) := by decide +kernel
theorem dX5_kept_31 : decode cX5_kept 31 = .ok (.iconst 2, 1) := by decide +kernel
theorem dX5_kept_32 : decode cX5_kept 32 = .ok (.aload_n 0, 1) := by decide +kernel
theorem dX5_kept_33 : decode cX5_kept 33 = .ok (.getfield 22, 3) := by decide +kernel
theorem dX5_kept_36 : decode cX5_kept 36 = .ok (.invokevirtual 102, 3) := by decide +kernel
theorem dX5_kept_39 : decode cX5_kept 39 = .ok (.checkcast 101, 3) := by decide +kernel
theorem dX5_kept_42 : decode cX5_kept 42 = .ok (.aastore, 1) := by decide +kernel
theorem dX5_kept_43 : decode cX5_kept 43 = .ok (.dup, 1) := by decide +kernel
theorem dX5_kept_44 : decode cX5_kept 44 = .ok (.iconst 3, 1) := by decide +kernel
theorem dX5_kept_45 : decode cX5_kept 45 = .ok (.aload_n 0, 1) := by decide +kernel
theorem dX5_kept_46 : decode cX5_kept 46 = .ok (.getfield 25, 3) := by decide +kernel
theorem dX5_kept_49 : decode cX5_kept 49 = .ok (.invokevirtual 102, 3) := by decide +kernel
theorem dX5_kept_52 : decode cX5_kept 52 = .ok (.checkcast 101, 3) := by decide +kernel
theorem dX5_kept_55 : decode cX5_kept 55 = .ok (.aastore, 1) := by decide +kernel
theorem dX5_kept_56 : decode cX5_kept 56 = .ok (.areturn, 1) := by decide +kernel
theorem dX5_bringBack_0 : decode cX5_bringBack 0 = .ok (.iconst 4, 1) := by decide +kernel
theorem dX5_bringBack_1 : decode cX5_bringBack 1 = .ok (.anewarray 101, 3) := by decide +kernel
theorem dX5_bringBack_4 : decode cX5_bringBack 4 = .ok (.dup, 1) := by decide +kernel
theorem dX5_bringBack_5 : decode cX5_bringBack 5 = .ok (.iconst 0, 1) := by decide +kernel
theorem dX5_bringBack_6 : decode cX5_bringBack 6 = .ok (.aload_n 0, 1) := by decide +kernel
theorem dX5_bringBack_7 : decode cX5_bringBack 7 = .ok (.getfield 16, 3) := by decide +kernel
theorem dX5_bringBack_10 : decode cX5_bringBack 10 = .ok (.aastore, 1) := by decide +kernel
theorem dX5_bringBack_11 : decode cX5_bringBack 11 = .ok (.dup, 1) := by decide +kernel
theorem dX5_bringBack_12 : decode cX5_bringBack 12 = .ok (.iconst 1, 1) := by decide +kernel
theorem dX5_bringBack_13 : decode cX5_bringBack 13 = .ok (.aload_n 0, 1) := by decide +kernel
theorem dX5_bringBack_14 : decode cX5_bringBack 14 = .ok (.getfield 19, 3) := by decide +kernel
theorem dX5_bringBack_17 : decode cX5_bringBack 17 = .ok (.aastore, 1) := by decide +kernel
theorem dX5_bringBack_18 : decode cX5_bringBack 18 = .ok (.dup, 1) := by decide +kernel
theorem dX5_bringBack_19 : decode cX5_bringBack 19 = .ok (.iconst 2, 1) := by decide +kernel
theorem dX5_bringBack_20 : decode cX5_bringBack 20 = .ok (.aload_n 0, 1) := by decide +kernel
theorem dX5_bringBack_21 : decode cX5_bringBack 21 = .ok (.getfield 22, 3) := by decide +kernel
theorem dX5_bringBack_24 : decode cX5_bringBack 24 = .ok (.aastore, 1) := by decide +kernel
theorem dX5_bringBack_25 : decode cX5_bringBack 25 = .ok (.dup, 1) := by decide +kernel
theorem dX5_bringBack_26 : decode cX5_bringBack 26 = .ok (.iconst 3, 1) := by decide +kernel
theorem dX5_bringBack_27 : decode cX5_bringBack 27 = .ok (.aload_n 0, 1) := by decide +kernel
theorem dX5_bringBack_28 : decode cX5_bringBack 28 = .ok (.getfield 25, 3) := by decide +kernel
theorem dX5_bringBack_31 : decode cX5_bringBack 31 = .ok (.aastore, 1) := by decide +kernel
theorem dX5_bringBack_32 : decode cX5_bringBack 32 = .ok (.astore_n 2, 1) := by decide +kernel
theorem dX5_bringBack_33 : decode cX5_bringBack 33 = .ok (.iconst 0, 1) := by decide +kernel
theorem dX5_bringBack_34 : decode cX5_bringBack 34 = .ok (.istore_n 3, 1) := by decide +kernel
theorem dX5_bringBack_35 : decode cX5_bringBack 35 = .ok (.iload_n 3, 1) := by decide +kernel
theorem dX5_bringBack_36 : decode cX5_bringBack 36 = .ok (.aload_n 2, 1) := by decide +kernel
theorem dX5_bringBack_37 : decode cX5_bringBack 37 = .ok (.arraylength, 1) := by decide +kernel
theorem dX5_bringBack_38 : decode cX5_bringBack 38 = .ok (.if_icmp .ge 24, 3) := by decide +kernel
theorem dX5_bringBack_41 : decode cX5_bringBack 41 = .ok (.aload_n 1, 1) := by decide +kernel
theorem dX5_bringBack_42 : decode cX5_bringBack 42 = .ok (.iload_n 3, 1) := by decide +kernel
theorem dX5_bringBack_43 : decode cX5_bringBack 43 = .ok (.aaload, 1) := by decide +kernel
theorem dX5_bringBack_44 : decode cX5_bringBack 44 = .ok (.iconst 0, 1) := by decide +kernel
theorem dX5_bringBack_45 : decode cX5_bringBack 45 = .ok (.aload_n 2, 1) := by decide +kernel
theorem dX5_bringBack_46 : decode cX5_bringBack 46 = .ok (.iload_n 3, 1) := by decide +kernel
theorem dX5_bringBack_47 : decode cX5_bringBack 47 = .ok (.aaload, 1) := by decide +kernel
theorem dX5_bringBack_48 : decode cX5_bringBack 48 = .ok (.iconst 0, 1) := by decide +kernel
theorem dX5_bringBack_49 : decode cX5_bringBack 49 = .ok (.aload_n 2, 1) := by decide +kernel
theorem dX5_bringBack_50 : decode cX5_bringBack 50 = .ok (.iload_n 3, 1) := by decide +kernel
theorem dX5_bringBack_51 : decode cX5_bringBack 51 = .ok (.aaload, 1) := by decide +kernel
theorem dX5_bringBack_52 : decode cX5_bringBack 52 = .ok (.arraylength, 1) := by decide +kernel
theorem dX5_bringBack_53 : decode cX5_bringBack 53 = .ok (.invokestatic 46, 3) := by decide +kernel
theorem dX5_bringBack_56 : decode cX5_bringBack 56 = .ok (.iinc 3 1, 3) := by decide +kernel
theorem dX5_bringBack_59 : decode cX5_bringBack 59 = .ok (.goto (-24), 3) := by decide +kernel
theorem dX5_bringBack_62 : decode cX5_bringBack 62 = .ok (.return_, 1) := by decide +kernel
theorem dX5_foresee_0 : decode cX5_foresee 0 = .ok (.aload_n 0, 1) := by decide +kernel
theorem dX5_foresee_1 : decode cX5_foresee 1 = .ok (.iconst 0, 1) := by decide +kernel
theorem dX5_foresee_2 : decode cX5_foresee 2 = .ok (.putfield 28, 3) := by decide +kernel
theorem dX5_foresee_5 : decode cX5_foresee 5 = .ok (.iload_n 1, 1) := by decide +kernel
theorem dX5_foresee_6 : decode cX5_foresee 6 = .ok (.iconst 1, 1) := by decide +kernel
theorem dX5_foresee_7 : decode cX5_foresee 7 = .ok (.bipush 100, 2) := by decide +kernel
theorem dX5_foresee_9 : decode cX5_foresee 9 = .ok (.invokestatic 35, 3) := by decide +kernel
theorem dX5_foresee_12 : decode cX5_foresee 12 = .ok (.ifCond .ne 9, 3) := by decide +kernel
theorem dX5_foresee_15 : decode cX5_foresee 15 = .ok (.aload_n 0, 1) := by decide +kernel
theorem dX5_foresee_16 : decode cX5_foresee 16 = .ok (.iconst 1, 1) := by decide +kernel
theorem dX5_foresee_17 : decode cX5_foresee 17 = .ok (.invokevirtual 42, 3) := by decide +kernel
theorem dX5_foresee_20 : decode cX5_foresee 20 = .ok (.ireturn, 1) := by decide +kernel
theorem dX5_foresee_21 : decode cX5_foresee 21 = .ok (.iload_n 2, 1) := by decide +kernel
theorem dX5_foresee_22 : decode cX5_foresee 22 = .ok (.iconst 0, 1) := by decide +kernel
theorem dX5_foresee_23 : decode cX5_foresee 23 = .ok (.iconst 2, 1) := by decide +kernel
theorem dX5_foresee_24 : decode cX5_foresee 24 = .ok (.invokestatic 35, 3) := by decide +kernel
theorem dX5_foresee_27 : decode cX5_foresee 27 = .ok (.ifCond .ne 9, 3) := by decide +kernel
theorem dX5_foresee_30 : decode cX5_foresee 30 = .ok (.aload_n 0, 1) := by decide +kernel
theorem dX5_foresee_31 : decode cX5_foresee 31 = .ok (.iconst 2, 1) := by decide +kernel
theorem dX5_foresee_32 : decode cX5_foresee 32 = .ok (.invokevirtual 42, 3) := by decide +kernel
theorem dX5_foresee_35 : decode cX5_foresee 35 = .ok (.ireturn, 1) := by decide +kernel
theorem dX5_foresee_36 : decode cX5_foresee 36 = .ok (.aload_n 0, 1) := by decide +kernel
theorem dX5_foresee_37 : decode cX5_foresee 37 = .ok (.invokevirtual 106, 3) := by decide +kernel
theorem dX5_foresee_40 : decode cX5_foresee 40 = .ok (.astore_n 3, 1) := by decide +kernel
theorem dX5_foresee_41 : decode cX5_foresee 41 = .ok (.aload_n 0, 1) := by decide +kernel
theorem dX5_foresee_42 : decode cX5_foresee 42 = .ok (.getfield 25, 3) := by decide +kernel
theorem dX5_foresee_45 : decode cX5_foresee 45 = .ok (.iconst 2, 1) := by decide +kernel
theorem dX5_foresee_46 : decode cX5_foresee 46 = .ok (.iaload, 1) := by decide +kernel
theorem dX5_foresee_47 : decode cX5_foresee 47 = .ok (.istore 4, 2) := by decide +kernel
theorem dX5_foresee_49 : decode cX5_foresee 49 = .ok (.aload_n 0, 1) := by decide +kernel
theorem dX5_foresee_50 : decode cX5_foresee 50 = .ok (.iload_n 1, 1) := by decide +kernel
theorem dX5_foresee_51 : decode cX5_foresee 51 = .ok (.invokevirtual 92, 3) := by decide +kernel
theorem dX5_foresee_54 : decode cX5_foresee 54 = .ok (.istore 5, 2) := by decide +kernel
theorem dX5_foresee_56 : decode cX5_foresee 56 = .ok (.iload_n 2, 1) := by decide +kernel
theorem dX5_foresee_57 : decode cX5_foresee 57 = .ok (.ifCond .ne 8, 3) := by decide +kernel
theorem dX5_foresee_60 : decode cX5_foresee 60 = .ok (.iload 5, 2) := by decide +kernel
theorem dX5_foresee_62 : decode cX5_foresee 62 = .ok (.goto 25, 3) := by decide +kernel
theorem dX5_foresee_65 : decode cX5_foresee 65 = .ok (.iload_n 2, 1) := by decide +kernel
theorem dX5_foresee_66 : decode cX5_foresee 66 = .ok (.iconst 1, 1) := by decide +kernel
theorem dX5_foresee_67 : decode cX5_foresee 67 = .ok (.if_icmp .ne 11, 3) := by decide +kernel
theorem dX5_foresee_70 : decode cX5_foresee 70 = .ok (.aload_n 0, 1) := by decide +kernel
theorem dX5_foresee_71 : decode cX5_foresee 71 = .ok (.iconst 2, 1) := by decide +kernel
theorem dX5_foresee_72 : decode cX5_foresee 72 = .ok (.invokevirtual 95, 3) := by decide +kernel
theorem dX5_foresee_75 : decode cX5_foresee 75 = .ok (.goto 12, 3) := by decide +kernel
theorem dX5_foresee_78 : decode cX5_foresee 78 = .ok (.aload_n 0, 1) := by decide +kernel
theorem dX5_foresee_79 : decode cX5_foresee 79 = .ok (.getfield 25, 3) := by decide +kernel
theorem dX5_foresee_82 : decode cX5_foresee 82 = .ok (.iconst 2, 1) := by decide +kernel
theorem dX5_foresee_83 : decode cX5_foresee 83 = .ok (.iaload, 1) := by decide +kernel
theorem dX5_foresee_84 : decode cX5_foresee 84 = .ok (.iload 4, 2) := by decide +kernel
theorem dX5_foresee_86 : decode cX5_foresee 86 = .ok (.isub, 1) := by decide +kernel
theorem dX5_foresee_87 : decode cX5_foresee 87 = .ok (.istore 6, 2) := by decide +kernel
theorem dX5_foresee_89 : decode cX5_foresee 89 = .ok (.aload_n 0, 1) := by decide +kernel
theorem dX5_foresee_90 : decode cX5_foresee 90 = .ok (.aload_n 3, 1) := by decide +kernel
theorem dX5_foresee_91 : decode cX5_foresee 91 = .ok (.invokevirtual 110, 3) := by decide +kernel
theorem dX5_foresee_94 : decode cX5_foresee 94 = .ok (.iload 6, 2) := by decide +kernel
theorem dX5_foresee_96 : decode cX5_foresee 96 = .ok (.ireturn, 1) := by decide +kernel
theorem dX5_lasts_0 : decode cX5_lasts 0 = .ok (.aload_n 0, 1) := by decide +kernel
theorem dX5_lasts_1 : decode cX5_lasts 1 = .ok (.iconst 0, 1) := by decide +kernel
theorem dX5_lasts_2 : decode cX5_lasts 2 = .ok (.putfield 28, 3) := by decide +kernel
theorem dX5_lasts_5 : decode cX5_lasts 5 = .ok (.aload_n 0, 1) := by decide +kernel
theorem dX5_lasts_6 : decode cX5_lasts 6 = .ok (.iload_n 1, 1) := by decide +kernel
theorem dX5_lasts_7 : decode cX5_lasts 7 = .ok (.invokevirtual 52, 3) := by decide +kernel
theorem dX5_lasts_10 : decode cX5_lasts 10 = .ok (.ifCond .ne 9, 3) := by decide +kernel
theorem dX5_lasts_13 : decode cX5_lasts 13 = .ok (.aload_n 0, 1) := by decide +kernel
theorem dX5_lasts_14 : decode cX5_lasts 14 = .ok (.iconst 1, 1) := by decide +kernel
theorem dX5_lasts_15 : decode cX5_lasts 15 = .ok (.invokevirtual 42, 3) := by decide +kernel
theorem dX5_lasts_18 : decode cX5_lasts 18 = .ok (.ireturn, 1) := by decide +kernel
theorem dX5_lasts_19 : decode cX5_lasts 19 = .ok (.aload_n 0, 1) := by decide +kernel
theorem dX5_lasts_20 : decode cX5_lasts 20 = .ok (.invokevirtual 106, 3) := by decide +kernel
theorem dX5_lasts_23 : decode cX5_lasts 23 = .ok (.astore_n 2, 1) := by decide +kernel
theorem dX5_lasts_24 : decode cX5_lasts 24 = .ok (.aload_n 0, 1) := by decide +kernel
theorem dX5_lasts_25 : decode cX5_lasts 25 = .ok (.iload_n 1, 1) := by decide +kernel
theorem dX5_lasts_26 : decode cX5_lasts 26 = .ok (.bipush 7, 2) := by decide +kernel
theorem dX5_lasts_28 : decode cX5_lasts 28 = .ok (.invokevirtual 56, 3) := by decide +kernel
theorem dX5_lasts_31 : decode cX5_lasts 31 = .ok (.istore_n 3, 1) := by decide +kernel
theorem dX5_lasts_32 : decode cX5_lasts 32 = .ok (.iconst 0, 1) := by decide +kernel
theorem dX5_lasts_33 : decode cX5_lasts 33 = .ok (.istore 4, 2) := by decide +kernel
theorem dX5_lasts_35 : decode cX5_lasts 35 = .ok (.iload 4, 2) := by decide +kernel
theorem dX5_lasts_37 : decode cX5_lasts 37 = .ok (.sipush 200, 3) := by decide +kernel
theorem dX5_lasts_40 : decode cX5_lasts 40 = .ok (.if_icmp .ge 25, 3) := by decide +kernel
theorem dX5_lasts_43 : decode cX5_lasts 43 = .ok (.aload_n 0, 1) := by decide +kernel
theorem dX5_lasts_44 : decode cX5_lasts 44 = .ok (.iload_n 1, 1) := by decide +kernel
theorem dX5_lasts_45 : decode cX5_lasts 45 = .ok (.bipush 7, 2) := by decide +kernel
theorem dX5_lasts_47 : decode cX5_lasts 47 = .ok (.invokevirtual 56, 3) := by decide +kernel
theorem dX5_lasts_50 : decode cX5_lasts 50 = .ok (.iload_n 3, 1) := by decide +kernel
theorem dX5_lasts_51 : decode cX5_lasts 51 = .ok (.if_icmp .ne 14, 3) := by decide +kernel
theorem dX5_lasts_54 : decode cX5_lasts 54 = .ok (.aload_n 0, 1) := by decide +kernel
theorem dX5_lasts_55 : decode cX5_lasts 55 = .ok (.invokevirtual 88, 3) := by decide +kernel
theorem dX5_lasts_58 : decode cX5_lasts 58 = .ok (.pop, 1) := by decide +kernel
theorem dX5_lasts_59 : decode cX5_lasts 59 = .ok (.iinc 4 1, 3) := by decide +kernel
theorem dX5_lasts_62 : decode cX5_lasts 62 = .ok (.goto (-27), 3) := by decide +kernel
theorem dX5_lasts_65 : decode cX5_lasts 65 = .ok (.aload_n 0, 1) := by decide +kernel
theorem dX5_lasts_66 : decode cX5_lasts 66 = .ok (.iload_n 1, 1) := by decide +kernel
theorem dX5_lasts_67 : decode cX5_lasts 67 = .ok (.bipush 7, 2) := by decide +kernel
theorem dX5_lasts_69 : decode cX5_lasts 69 = .ok (.invokevirtual 56, 3) := by decide +kernel
theorem dX5_lasts_72 : decode cX5_lasts 72 = .ok (.iload_n 3, 1) := by decide +kernel
theorem dX5_lasts_73 : decode cX5_lasts 73 = .ok (.if_icmp .ne 6, 3) := by decide +kernel
theorem dX5_lasts_76 : decode cX5_lasts 76 = .ok (.iconst (-1), 1) := by decide +kernel
theorem dX5_lasts_77 : decode cX5_lasts 77 = .ok (.istore 4, 2) := by decide +kernel
theorem dX5_lasts_79 : decode cX5_lasts 79 = .ok (.aload_n 0, 1) := by decide +kernel
theorem dX5_lasts_80 : decode cX5_lasts 80 = .ok (.aload_n 2, 1) := by decide +kernel
theorem dX5_lasts_81 : decode cX5_lasts 81 = .ok (.invokevirtual 110, 3) := by decide +kernel
theorem dX5_lasts_84 : decode cX5_lasts 84 = .ok (.iload 4, 2) := by decide +kernel
theorem dX5_lasts_86 : decode cX5_lasts 86 = .ok (.ireturn, 1) := by decide +kernel
theorem dX5_needs_0 : decode cX5_needs 0 = .ok (.aload_n 0, 1) := by decide +kernel
theorem dX5_needs_1 : decode cX5_needs 1 = .ok (.iconst 0, 1) := by decide +kernel
theorem dX5_needs_2 : decode cX5_needs 2 = .ok (.putfield 28, 3) := by decide +kernel
theorem dX5_needs_5 : decode cX5_needs 5 = .ok (.aload_n 0, 1) := by decide +kernel
theorem dX5_needs_6 : decode cX5_needs 6 = .ok (.iload_n 1, 1) := by decide +kernel
theorem dX5_needs_7 : decode cX5_needs 7 = .ok (.invokevirtual 52, 3) := by decide +kernel
theorem dX5_needs_10 : decode cX5_needs 10 = .ok (.ifCond .ne 9, 3) := by decide +kernel
theorem dX5_needs_13 : decode cX5_needs 13 = .ok (.aload_n 0, 1) := by decide +kernel
theorem dX5_needs_14 : decode cX5_needs 14 = .ok (.iconst 1, 1) := by decide +kernel
theorem dX5_needs_15 : decode cX5_needs 15 = .ok (.invokevirtual 42, 3) := by decide +kernel
theorem dX5_needs_18 : decode cX5_needs 18 = .ok (.ireturn, 1) := by decide +kernel
theorem dX5_needs_19 : decode cX5_needs 19 = .ok (.iload_n 2, 1) := by decide +kernel
theorem dX5_needs_20 : decode cX5_needs 20 = .ok (.iconst 1, 1) := by decide +kernel
theorem dX5_needs_21 : decode cX5_needs 21 = .ok (.bipush 60, 2) := by decide +kernel
theorem dX5_needs_23 : decode cX5_needs 23 = .ok (.invokestatic 35, 3) := by decide +kernel
theorem dX5_needs_26 : decode cX5_needs 26 = .ok (.ifCond .ne 9, 3) := by decide +kernel
theorem dX5_needs_29 : decode cX5_needs 29 = .ok (.aload_n 0, 1) := by decide +kernel
theorem dX5_needs_30 : decode cX5_needs 30 = .ok (.iconst 2, 1) := by decide +kernel
theorem dX5_needs_31 : decode cX5_needs 31 = .ok (.invokevirtual 42, 3) := by decide +kernel
theorem dX5_needs_34 : decode cX5_needs 34 = .ok (.ireturn, 1) := by decide +kernel
theorem dX5_needs_35 : decode cX5_needs 35 = .ok (.aload_n 0, 1) := by decide +kernel
theorem dX5_needs_36 : decode cX5_needs 36 = .ok (.invokevirtual 106, 3) := by decide +kernel
theorem dX5_needs_39 : decode cX5_needs 39 = .ok (.astore_n 3, 1) := by decide +kernel
theorem dX5_needs_40 : decode cX5_needs 40 = .ok (.aload_n 0, 1) := by decide +kernel
theorem dX5_needs_41 : decode cX5_needs 41 = .ok (.iload_n 1, 1) := by decide +kernel
theorem dX5_needs_42 : decode cX5_needs 42 = .ok (.bipush 7, 2) := by decide +kernel
theorem dX5_needs_44 : decode cX5_needs 44 = .ok (.invokevirtual 56, 3) := by decide +kernel
theorem dX5_needs_47 : decode cX5_needs 47 = .ok (.istore 4, 2) := by decide +kernel
theorem dX5_needs_49 : decode cX5_needs 49 = .ok (.iconst (-1), 1) := by decide +kernel
theorem dX5_needs_50 : decode cX5_needs 50 = .ok (.istore 5, 2) := by decide +kernel
theorem dX5_needs_52 : decode cX5_needs 52 = .ok (.bipush 10, 2) := by decide +kernel
theorem dX5_needs_54 : decode cX5_needs 54 = .ok (.istore 6, 2) := by decide +kernel
theorem dX5_needs_56 : decode cX5_needs 56 = .ok (.iload 6, 2) := by decide +kernel
theorem dX5_needs_58 : decode cX5_needs 58 = .ok (.sipush 900, 3) := by decide +kernel
theorem dX5_needs_61 : decode cX5_needs 61 = .ok (.if_icmp .gt 67, 3) := by decide +kernel
theorem dX5_needs_64 : decode cX5_needs 64 = .ok (.iload 5, 2) := by decide +kernel
theorem dX5_needs_66 : decode cX5_needs 66 = .ok (.iconst (-1), 1) := by decide +kernel
theorem dX5_needs_67 : decode cX5_needs 67 = .ok (.if_icmp .ne 61, 3) := by decide +kernel
theorem dX5_needs_70 : decode cX5_needs 70 = .ok (.aload_n 0, 1) := by decide +kernel
theorem dX5_needs_71 : decode cX5_needs 71 = .ok (.iload_n 1, 1) := by decide +kernel
theorem dX5_needs_72 : decode cX5_needs 72 = .ok (.iconst 1, 1) := by decide +kernel
theorem dX5_needs_73 : decode cX5_needs 73 = .ok (.iload 6, 2) := by decide +kernel
theorem dX5_needs_75 : decode cX5_needs 75 = .ok (.invokevirtual 60, 3) := by decide +kernel
theorem dX5_needs_78 : decode cX5_needs 78 = .ok (.aload_n 0, 1) := by decide +kernel
theorem dX5_needs_79 : decode cX5_needs 79 = .ok (.iload_n 1, 1) := by decide +kernel
theorem dX5_needs_80 : decode cX5_needs 80 = .ok (.iconst 2, 1) := by decide +kernel
theorem dX5_needs_81 : decode cX5_needs 81 = .ok (.iload 6, 2) := by decide +kernel
theorem dX5_needs_83 : decode cX5_needs 83 = .ok (.aload_n 0, 1) := by decide +kernel
theorem dX5_needs_84 : decode cX5_needs 84 = .ok (.iload_n 1, 1) := by decide +kernel
theorem dX5_needs_85 : decode cX5_needs 85 = .ok (.iconst 2, 1) := by decide +kernel
theorem dX5_needs_86 : decode cX5_needs 86 = .ok (.invokevirtual 56, 3) := by decide +kernel
theorem dX5_needs_89 : decode cX5_needs 89 = .ok (.invokestatic 70, 3) := by decide +kernel
theorem dX5_needs_92 : decode cX5_needs 92 = .ok (.invokevirtual 60, 3) := by decide +kernel
theorem dX5_needs_95 : decode cX5_needs 95 = .ok (.aload_n 0, 1) := by decide +kernel
theorem dX5_needs_96 : decode cX5_needs 96 = .ok (.iload_n 2, 1) := by decide +kernel
theorem dX5_needs_97 : decode cX5_needs 97 = .ok (.invokevirtual 92, 3) := by decide +kernel
theorem dX5_needs_100 : decode cX5_needs 100 = .ok (.pop, 1) := by decide +kernel
theorem dX5_needs_101 : decode cX5_needs 101 = .ok (.aload_n 0, 1) := by decide +kernel
theorem dX5_needs_102 : decode cX5_needs 102 = .ok (.iload_n 1, 1) := by decide +kernel
theorem dX5_needs_103 : decode cX5_needs 103 = .ok (.bipush 7, 2) := by decide +kernel
theorem dX5_needs_105 : decode cX5_needs 105 = .ok (.invokevirtual 56, 3) := by decide +kernel
theorem dX5_needs_108 : decode cX5_needs 108 = .ok (.iload 4, 2) := by decide +kernel
theorem dX5_needs_110 : decode cX5_needs 110 = .ok (.if_icmp .ne 7, 3) := by decide +kernel
theorem dX5_needs_113 : decode cX5_needs 113 = .ok (.iload 6, 2) := by decide +kernel
theorem dX5_needs_115 : decode cX5_needs 115 = .ok (.istore 5, 2) := by decide +kernel
theorem dX5_needs_117 : decode cX5_needs 117 = .ok (.aload_n 0, 1) := by decide +kernel
theorem dX5_needs_118 : decode cX5_needs 118 = .ok (.aload_n 3, 1) := by decide +kernel
theorem dX5_needs_119 : decode cX5_needs 119 = .ok (.invokevirtual 110, 3) := by decide +kernel
theorem dX5_needs_122 : decode cX5_needs 122 = .ok (.iinc 6 10, 3) := by decide +kernel
theorem dX5_needs_125 : decode cX5_needs 125 = .ok (.goto (-69), 3) := by decide +kernel
theorem dX5_needs_128 : decode cX5_needs 128 = .ok (.iload 5, 2) := by decide +kernel
theorem dX5_needs_130 : decode cX5_needs 130 = .ok (.ireturn, 1) := by decide +kernel
theorem dX5_dirty_0 : decode cX5_dirty 0 = .ok (.aload_n 0, 1) := by decide +kernel
theorem dX5_dirty_1 : decode cX5_dirty 1 = .ok (.iconst 0, 1) := by decide +kernel
theorem dX5_dirty_2 : decode cX5_dirty 2 = .ok (.putfield 28, 3) := by decide +kernel
theorem dX5_dirty_5 : decode cX5_dirty 5 = .ok (.iload_n 1, 1) := by decide +kernel
theorem dX5_dirty_6 : decode cX5_dirty 6 = .ok (.iconst 1, 1) := by decide +kernel
theorem dX5_dirty_7 : decode cX5_dirty 7 = .ok (.bipush 60, 2) := by decide +kernel
theorem dX5_dirty_9 : decode cX5_dirty 9 = .ok (.invokestatic 35, 3) := by decide +kernel
theorem dX5_dirty_12 : decode cX5_dirty 12 = .ok (.ifCond .ne 9, 3) := by decide +kernel
theorem dX5_dirty_15 : decode cX5_dirty 15 = .ok (.aload_n 0, 1) := by decide +kernel
theorem dX5_dirty_16 : decode cX5_dirty 16 = .ok (.iconst 1, 1) := by decide +kernel
theorem dX5_dirty_17 : decode cX5_dirty 17 = .ok (.invokevirtual 42, 3) := by decide +kernel
theorem dX5_dirty_20 : decode cX5_dirty 20 = .ok (.ireturn, 1) := by decide +kernel
theorem dX5_dirty_21 : decode cX5_dirty 21 = .ok (.aload_n 0, 1) := by decide +kernel
theorem dX5_dirty_22 : decode cX5_dirty 22 = .ok (.invokevirtual 106, 3) := by decide +kernel
theorem dX5_dirty_25 : decode cX5_dirty 25 = .ok (.astore_n 2, 1) := by decide +kernel
theorem dX5_dirty_26 : decode cX5_dirty 26 = .ok (.iconst (-1), 1) := by decide +kernel
theorem dX5_dirty_27 : decode cX5_dirty 27 = .ok (.istore_n 3, 1) := by decide +kernel
theorem dX5_dirty_28 : decode cX5_dirty 28 = .ok (.aload_n 0, 1) := by decide +kernel
theorem dX5_dirty_29 : decode cX5_dirty 29 = .ok (.iload_n 1, 1) := by decide +kernel
theorem dX5_dirty_30 : decode cX5_dirty 30 = .ok (.invokevirtual 92, 3) := by decide +kernel
theorem dX5_dirty_33 : decode cX5_dirty 33 = .ok (.istore 4, 2) := by decide +kernel
theorem dX5_dirty_35 : decode cX5_dirty 35 = .ok (.aload_n 0, 1) := by decide +kernel
theorem dX5_dirty_36 : decode cX5_dirty 36 = .ok (.aload_n 2, 1) := by decide +kernel
theorem dX5_dirty_37 : decode cX5_dirty 37 = .ok (.invokevirtual 110, 3) := by decide +kernel
theorem dX5_dirty_40 : decode cX5_dirty 40 = .ok (.iconst 0, 1) := by decide +kernel
theorem dX5_dirty_41 : decode cX5_dirty 41 = .ok (.istore 5, 2) := by decide +kernel
theorem dX5_dirty_43 : decode cX5_dirty 43 = .ok (.iload 5, 2) := by decide +kernel
theorem dX5_dirty_45 : decode cX5_dirty 45 = .ok (.aload_n 0, 1) := by decide +kernel
theorem dX5_dirty_46 : decode cX5_dirty 46 = .ok (.getfield 32, 3) := by decide +kernel
theorem dX5_dirty_49 : decode cX5_dirty 49 = .ok (.if_icmp .ge 46, 3) := by decide +kernel
theorem dX5_dirty_52 : decode cX5_dirty 52 = .ok (.aload_n 0, 1) := by decide +kernel
theorem dX5_dirty_53 : decode cX5_dirty 53 = .ok (.iload 5, 2) := by decide +kernel
theorem dX5_dirty_55 : decode cX5_dirty 55 = .ok (.iconst 5, 1) := by decide +kernel
theorem dX5_dirty_56 : decode cX5_dirty 56 = .ok (.iconst 0, 1) := by decide +kernel
theorem dX5_dirty_57 : decode cX5_dirty 57 = .ok (.invokevirtual 60, 3) := by decide +kernel
theorem dX5_dirty_60 : decode cX5_dirty 60 = .ok (.aload_n 0, 1) := by decide +kernel
theorem dX5_dirty_61 : decode cX5_dirty 61 = .ok (.iload_n 1, 1) := by decide +kernel
theorem dX5_dirty_62 : decode cX5_dirty 62 = .ok (.invokevirtual 92, 3) := by decide +kernel
theorem dX5_dirty_65 : decode cX5_dirty 65 = .ok (.istore 6, 2) := by decide +kernel
theorem dX5_dirty_67 : decode cX5_dirty 67 = .ok (.aload_n 0, 1) := by decide +kernel
theorem dX5_dirty_68 : decode cX5_dirty 68 = .ok (.aload_n 2, 1) := by decide +kernel
theorem dX5_dirty_69 : decode cX5_dirty 69 = .ok (.invokevirtual 110, 3) := by decide +kernel
theorem dX5_dirty_72 : decode cX5_dirty 72 = .ok (.iload 6, 2) := by decide +kernel
theorem dX5_dirty_74 : decode cX5_dirty 74 = .ok (.iload 4, 2) := by decide +kernel
theorem dX5_dirty_76 : decode cX5_dirty 76 = .ok (.if_icmp .lt 6, 3) := by decide +kernel
theorem dX5_dirty_79 : decode cX5_dirty 79 = .ok (.goto 10, 3) := by decide +kernel
theorem dX5_dirty_82 : decode cX5_dirty 82 = .ok (.iload 5, 2) := by decide +kernel
theorem dX5_dirty_84 : decode cX5_dirty 84 = .ok (.istore_n 3, 1) := by decide +kernel
theorem dX5_dirty_85 : decode cX5_dirty 85 = .ok (.iload 6, 2) := by decide +kernel
theorem dX5_dirty_87 : decode cX5_dirty 87 = .ok (.istore 4, 2) := by decide +kernel
theorem dX5_dirty_89 : decode cX5_dirty 89 = .ok (.iinc 5 1, 3) := by decide +kernel
theorem dX5_dirty_92 : decode cX5_dirty 92 = .ok (.goto (-49), 3) := by decide +kernel
theorem dX5_dirty_95 : decode cX5_dirty 95 = .ok (.iload_n 3, 1) := by decide +kernel
theorem dX5_dirty_96 : decode cX5_dirty 96 = .ok (.ireturn, 1) := by decide +kernel
theorem dX5_advise_0 : decode cX5_advise 0 = .ok (.aload_n 0, 1) := by decide +kernel
theorem dX5_advise_1 : decode cX5_advise 1 = .ok (.iconst 0, 1) := by decide +kernel
theorem dX5_advise_2 : decode cX5_advise 2 = .ok (.putfield 28, 3) := by decide +kernel
theorem dX5_advise_5 : decode cX5_advise 5 = .ok (.iload_n 1, 1) := by decide +kernel
theorem dX5_advise_6 : decode cX5_advise 6 = .ok (.iconst 1, 1) := by decide +kernel
theorem dX5_advise_7 : decode cX5_advise 7 = .ok (.bipush 60, 2) := by decide +kernel
theorem dX5_advise_9 : decode cX5_advise 9 = .ok (.invokestatic 35, 3) := by decide +kernel
theorem dX5_advise_12 : decode cX5_advise 12 = .ok (.ifCond .ne 9, 3) := by decide +kernel
theorem dX5_advise_15 : decode cX5_advise 15 = .ok (.aload_n 0, 1) := by decide +kernel
theorem dX5_advise_16 : decode cX5_advise 16 = .ok (.iconst 1, 1) := by decide +kernel
theorem dX5_advise_17 : decode cX5_advise 17 = .ok (.invokevirtual 42, 3) := by decide +kernel
theorem dX5_advise_20 : decode cX5_advise 20 = .ok (.ireturn, 1) := by decide +kernel
theorem dX5_advise_21 : decode cX5_advise 21 = .ok (.aload_n 0, 1) := by decide +kernel
theorem dX5_advise_22 : decode cX5_advise 22 = .ok (.invokevirtual 106, 3) := by decide +kernel
theorem dX5_advise_25 : decode cX5_advise 25 = .ok (.astore_n 2, 1) := by decide +kernel
theorem dX5_advise_26 : decode cX5_advise 26 = .ok (.iconst (-1), 1) := by decide +kernel
theorem dX5_advise_27 : decode cX5_advise 27 = .ok (.istore_n 3, 1) := by decide +kernel
theorem dX5_advise_28 : decode cX5_advise 28 = .ok (.aload_n 0, 1) := by decide +kernel
theorem dX5_advise_29 : decode cX5_advise 29 = .ok (.iload_n 1, 1) := by decide +kernel
theorem dX5_advise_30 : decode cX5_advise 30 = .ok (.invokevirtual 92, 3) := by decide +kernel
theorem dX5_advise_33 : decode cX5_advise 33 = .ok (.istore 4, 2) := by decide +kernel
theorem dX5_advise_35 : decode cX5_advise 35 = .ok (.aload_n 0, 1) := by decide +kernel
theorem dX5_advise_36 : decode cX5_advise 36 = .ok (.aload_n 2, 1) := by decide +kernel
theorem dX5_advise_37 : decode cX5_advise 37 = .ok (.invokevirtual 110, 3) := by decide +kernel
theorem dX5_advise_40 : decode cX5_advise 40 = .ok (.iconst 0, 1) := by decide +kernel
theorem dX5_advise_41 : decode cX5_advise 41 = .ok (.istore 5, 2) := by decide +kernel
theorem dX5_advise_43 : decode cX5_advise 43 = .ok (.iload 5, 2) := by decide +kernel
theorem dX5_advise_45 : decode cX5_advise 45 = .ok (.aload_n 0, 1) := by decide +kernel
theorem dX5_advise_46 : decode cX5_advise 46 = .ok (.getfield 39, 3) := by decide +kernel
theorem dX5_advise_49 : decode cX5_advise 49 = .ok (.if_icmp .ge 58, 3) := by decide +kernel
theorem dX5_advise_52 : decode cX5_advise 52 = .ok (.aload_n 0, 1) := by decide +kernel
theorem dX5_advise_53 : decode cX5_advise 53 = .ok (.getfield 19, 3) := by decide +kernel
theorem dX5_advise_56 : decode cX5_advise 56 = .ok (.iconst 5, 1) := by decide +kernel
theorem dX5_advise_57 : decode cX5_advise 57 = .ok (.iload 5, 2) := by decide +kernel
theorem dX5_advise_59 : decode cX5_advise 59 = .ok (.imul, 1) := by decide +kernel
theorem dX5_advise_60 : decode cX5_advise 60 = .ok (.iconst 3, 1) := by decide +kernel
theorem dX5_advise_61 : decode cX5_advise 61 = .ok (.iadd, 1) := by decide +kernel
theorem dX5_advise_62 : decode cX5_advise 62 = .ok (.iconst 1, 1) := by decide +kernel
theorem dX5_advise_63 : decode cX5_advise 63 = .ok (.aload_n 0, 1) := by decide +kernel
theorem dX5_advise_64 : decode cX5_advise 64 = .ok (.iload 5, 2) := by decide +kernel
theorem dX5_advise_66 : decode cX5_advise 66 = .ok (.iconst 3, 1) := by decide +kernel
theorem dX5_advise_67 : decode cX5_advise 67 = .ok (.invokevirtual 67, 3) := by decide +kernel
theorem dX5_advise_70 : decode cX5_advise 70 = .ok (.isub, 1) := by decide +kernel
theorem dX5_advise_71 : decode cX5_advise 71 = .ok (.iastore, 1) := by decide +kernel
theorem dX5_advise_72 : decode cX5_advise 72 = .ok (.aload_n 0, 1) := by decide +kernel
theorem dX5_advise_73 : decode cX5_advise 73 = .ok (.iload_n 1, 1) := by decide +kernel
theorem dX5_advise_74 : decode cX5_advise 74 = .ok (.invokevirtual 92, 3) := by decide +kernel
theorem dX5_advise_77 : decode cX5_advise 77 = .ok (.istore 6, 2) := by decide +kernel
theorem dX5_advise_79 : decode cX5_advise 79 = .ok (.aload_n 0, 1) := by decide +kernel
theorem dX5_advise_80 : decode cX5_advise 80 = .ok (.aload_n 2, 1) := by decide +kernel
theorem dX5_advise_81 : decode cX5_advise 81 = .ok (.invokevirtual 110, 3) := by decide +kernel
theorem dX5_advise_84 : decode cX5_advise 84 = .ok (.iload 6, 2) := by decide +kernel
theorem dX5_advise_86 : decode cX5_advise 86 = .ok (.iload 4, 2) := by decide +kernel
theorem dX5_advise_88 : decode cX5_advise 88 = .ok (.if_icmp .lt 6, 3) := by decide +kernel
theorem dX5_advise_91 : decode cX5_advise 91 = .ok (.goto 10, 3) := by decide +kernel
theorem dX5_advise_94 : decode cX5_advise 94 = .ok (.iload 5, 2) := by decide +kernel
theorem dX5_advise_96 : decode cX5_advise 96 = .ok (.istore_n 3, 1) := by decide +kernel
theorem dX5_advise_97 : decode cX5_advise 97 = .ok (.iload 6, 2) := by decide +kernel
theorem dX5_advise_99 : decode cX5_advise 99 = .ok (.istore 4, 2) := by decide +kernel
theorem dX5_advise_101 : decode cX5_advise 101 = .ok (.iinc 5 1, 3) := by decide +kernel
theorem dX5_advise_104 : decode cX5_advise 104 = .ok (.goto (-61), 3) := by decide +kernel
theorem dX5_advise_107 : decode cX5_advise 107 = .ok (.iload_n 3, 1) := by decide +kernel
theorem dX5_advise_108 : decode cX5_advise 108 = .ok (.ireturn, 1) := by decide +kernel
theorem dX5_drought_0 : decode cX5_drought 0 = .ok (.aload_n 0, 1) := by decide +kernel
theorem dX5_drought_1 : decode cX5_drought 1 = .ok (.iconst 0, 1) := by decide +kernel
theorem dX5_drought_2 : decode cX5_drought 2 = .ok (.putfield 28, 3) := by decide +kernel
theorem dX5_drought_5 : decode cX5_drought 5 = .ok (.iconst 0, 1) := by decide +kernel
theorem dX5_drought_6 : decode cX5_drought 6 = .ok (.istore_n 1, 1) := by decide +kernel
theorem dX5_drought_7 : decode cX5_drought 7 = .ok (.iconst 0, 1) := by decide +kernel
theorem dX5_drought_8 : decode cX5_drought 8 = .ok (.istore_n 2, 1) := by decide +kernel
theorem dX5_drought_9 : decode cX5_drought 9 = .ok (.iload_n 2, 1) := by decide +kernel
theorem dX5_drought_10 : decode cX5_drought 10 = .ok (.bipush 28, 2) := by decide +kernel
theorem dX5_drought_12 : decode cX5_drought 12 = .ok (.if_icmp .ge 43, 3) := by decide +kernel
theorem dX5_drought_15 : decode cX5_drought 15 = .ok (.iconst 0, 1) := by decide +kernel
theorem dX5_drought_16 : decode cX5_drought 16 = .ok (.istore_n 3, 1) := by decide +kernel
theorem dX5_drought_17 : decode cX5_drought 17 = .ok (.iload_n 3, 1) := by decide +kernel
theorem dX5_drought_18 : decode cX5_drought 18 = .ok (.bipush 28, 2) := by decide +kernel
theorem dX5_drought_20 : decode cX5_drought 20 = .ok (.if_icmp .ge 23, 3) := by decide +kernel
theorem dX5_drought_23 : decode cX5_drought 23 = .ok (.aload_n 0, 1) := by decide +kernel
theorem dX5_drought_24 : decode cX5_drought 24 = .ok (.getfield 9, 3) := by decide +kernel
theorem dX5_drought_27 : decode cX5_drought 27 = .ok (.iload_n 2, 1) := by decide +kernel
theorem dX5_drought_28 : decode cX5_drought 28 = .ok (.iload_n 3, 1) := by decide +kernel
theorem dX5_drought_29 : decode cX5_drought 29 = .ok (.iadd, 1) := by decide +kernel
theorem dX5_drought_30 : decode cX5_drought 30 = .ok (.bipush 28, 2) := by decide +kernel
theorem dX5_drought_32 : decode cX5_drought 32 = .ok (.irem, 1) := by decide +kernel
theorem dX5_drought_33 : decode cX5_drought 33 = .ok (.iaload, 1) := by decide +kernel
theorem dX5_drought_34 : decode cX5_drought 34 = .ok (.ifCond .ne 9, 3) := by decide +kernel
theorem dX5_drought_37 : decode cX5_drought 37 = .ok (.iinc 3 1, 3) := by decide +kernel
theorem dX5_drought_40 : decode cX5_drought 40 = .ok (.goto (-23), 3) := by decide +kernel
theorem dX5_drought_43 : decode cX5_drought 43 = .ok (.iload_n 1, 1) := by decide +kernel
theorem dX5_drought_44 : decode cX5_drought 44 = .ok (.iload_n 3, 1) := by decide +kernel
theorem dX5_drought_45 : decode cX5_drought 45 = .ok (.invokestatic 114, 3) := by decide +kernel
theorem dX5_drought_48 : decode cX5_drought 48 = .ok (.istore_n 1, 1) := by decide +kernel
theorem dX5_drought_49 : decode cX5_drought 49 = .ok (.iinc 2 1, 3) := by decide +kernel
theorem dX5_drought_52 : decode cX5_drought 52 = .ok (.goto (-43), 3) := by decide +kernel
theorem dX5_drought_55 : decode cX5_drought 55 = .ok (.iload_n 1, 1) := by decide +kernel
theorem dX5_drought_56 : decode cX5_drought 56 = .ok (.ireturn, 1) := by decide +kernel
theorem dX5_full_0 : decode cX5_full 0 = .ok (.aload_n 0, 1) := by decide +kernel
theorem dX5_full_1 : decode cX5_full 1 = .ok (.iconst 0, 1) := by decide +kernel
theorem dX5_full_2 : decode cX5_full 2 = .ok (.putfield 28, 3) := by decide +kernel
theorem dX5_full_5 : decode cX5_full 5 = .ok (.aload_n 0, 1) := by decide +kernel
theorem dX5_full_6 : decode cX5_full 6 = .ok (.getfield 32, 3) := by decide +kernel
theorem dX5_full_9 : decode cX5_full 9 = .ok (.ifCond .ne 7, 3) := by decide +kernel
theorem dX5_full_12 : decode cX5_full 12 = .ok (.dconst 0, 1) := by decide +kernel
theorem dX5_full_13 : decode cX5_full 13 = .ok (.goto 16, 3) := by decide +kernel
theorem dX5_full_16 : decode cX5_full 16 = .ok (.aload_n 0, 1) := by decide +kernel
theorem dX5_full_17 : decode cX5_full 17 = .ok (.iconst 2, 1) := by decide +kernel
theorem dX5_full_18 : decode cX5_full 18 = .ok (.invokevirtual 95, 3) := by decide +kernel
theorem dX5_full_21 : decode cX5_full 21 = .ok (.i2d, 1) := by decide +kernel
theorem dX5_full_22 : decode cX5_full 22 = .ok (.aload_n 0, 1) := by decide +kernel
theorem dX5_full_23 : decode cX5_full 23 = .ok (.iconst 1, 1) := by decide +kernel
theorem dX5_full_24 : decode cX5_full 24 = .ok (.invokevirtual 95, 3) := by decide +kernel
theorem dX5_full_27 : decode cX5_full 27 = .ok (.i2d, 1) := by decide +kernel
theorem dX5_full_28 : decode cX5_full 28 = .ok (.ddiv, 1) := by decide +kernel
theorem dX5_full_29 : decode cX5_full 29 = .ok (.dreturn, 1) := by decide +kernel
theorem dX5_digest_0 : decode cX5_digest 0 = .ok (.aload_n 0, 1) := by decide +kernel
theorem dX5_digest_1 : decode cX5_digest 1 = .ok (.iconst 0, 1) := by decide +kernel
theorem dX5_digest_2 : decode cX5_digest 2 = .ok (.putfield 28, 3) := by decide +kernel
theorem dX5_digest_5 : decode cX5_digest 5 = .ok (.ldc2_w 117, 3) := by decide +kernel
theorem dX5_digest_8 : decode cX5_digest 8 = .ok (.lstore_n 1, 1) := by decide +kernel
theorem dX5_digest_9 : decode cX5_digest 9 = .ok (.iconst 0, 1) := by decide +kernel
theorem dX5_digest_10 : decode cX5_digest 10 = .ok (.istore_n 3, 1) := by decide +kernel
theorem dX5_digest_11 : decode cX5_digest 11 = .ok (.iload_n 3, 1) := by decide +kernel
theorem dX5_digest_12 : decode cX5_digest 12 = .ok (.bipush 11, 2) := by decide +kernel
theorem dX5_digest_14 : decode cX5_digest 14 = .ok (.if_icmp .ge 22, 3) := by decide +kernel
theorem dX5_digest_17 : decode cX5_digest 17 = .ok (.lload_n 1, 1) := by decide +kernel
theorem dX5_digest_18 : decode cX5_digest 18 = .ok (.ldc2_w 119, 3) := by decide +kernel
theorem dX5_digest_21 : decode cX5_digest 21 = .ok (.lmul, 1) := by decide +kernel
theorem dX5_digest_22 : decode cX5_digest 22 = .ok (.aload_n 0, 1) := by decide +kernel
theorem dX5_digest_23 : decode cX5_digest 23 = .ok (.iload_n 3, 1) := by decide +kernel
theorem dX5_digest_24 : decode cX5_digest 24 = .ok (.invokevirtual 98, 3) := by decide +kernel
theorem dX5_digest_27 : decode cX5_digest 27 = .ok (.i2l, 1) := by decide +kernel
theorem dX5_digest_28 : decode cX5_digest 28 = .ok (.ladd, 1) := by decide +kernel
theorem dX5_digest_29 : decode cX5_digest 29 = .ok (.lstore_n 1, 1) := by decide +kernel
theorem dX5_digest_30 : decode cX5_digest 30 = .ok (.iinc 3 1, 3) := by decide +kernel
theorem dX5_digest_33 : decode cX5_digest 33 = .ok (.goto (-22), 3) := by decide +kernel
theorem dX5_digest_36 : decode cX5_digest 36 = .ok (.iconst 0, 1) := by decide +kernel
theorem dX5_digest_37 : decode cX5_digest 37 = .ok (.istore_n 3, 1) := by decide +kernel
theorem dX5_digest_38 : decode cX5_digest 38 = .ok (.iload_n 3, 1) := by decide +kernel
theorem dX5_digest_39 : decode cX5_digest 39 = .ok (.bipush 28, 2) := by decide +kernel
theorem dX5_digest_41 : decode cX5_digest 41 = .ok (.if_icmp .ge 33, 3) := by decide +kernel
theorem dX5_digest_44 : decode cX5_digest 44 = .ok (.lload_n 1, 1) := by decide +kernel
theorem dX5_digest_45 : decode cX5_digest 45 = .ok (.ldc2_w 119, 3) := by decide +kernel
theorem dX5_digest_48 : decode cX5_digest 48 = .ok (.lmul, 1) := by decide +kernel
theorem dX5_digest_49 : decode cX5_digest 49 = .ok (.bipush 10, 2) := by decide +kernel
theorem dX5_digest_51 : decode cX5_digest 51 = .ok (.aload_n 0, 1) := by decide +kernel
theorem dX5_digest_52 : decode cX5_digest 52 = .ok (.getfield 9, 3) := by decide +kernel
theorem dX5_digest_55 : decode cX5_digest 55 = .ok (.iload_n 3, 1) := by decide +kernel
theorem dX5_digest_56 : decode cX5_digest 56 = .ok (.iaload, 1) := by decide +kernel
theorem dX5_digest_57 : decode cX5_digest 57 = .ok (.imul, 1) := by decide +kernel
theorem dX5_digest_58 : decode cX5_digest 58 = .ok (.aload_n 0, 1) := by decide +kernel
theorem dX5_digest_59 : decode cX5_digest 59 = .ok (.getfield 13, 3) := by decide +kernel
theorem dX5_digest_62 : decode cX5_digest 62 = .ok (.iload_n 3, 1) := by decide +kernel
theorem dX5_digest_63 : decode cX5_digest 63 = .ok (.iaload, 1) := by decide +kernel
theorem dX5_digest_64 : decode cX5_digest 64 = .ok (.iadd, 1) := by decide +kernel
theorem dX5_digest_65 : decode cX5_digest 65 = .ok (.i2l, 1) := by decide +kernel
theorem dX5_digest_66 : decode cX5_digest 66 = .ok (.ladd, 1) := by decide +kernel
theorem dX5_digest_67 : decode cX5_digest 67 = .ok (.lstore_n 1, 1) := by decide +kernel
theorem dX5_digest_68 : decode cX5_digest 68 = .ok (.iinc 3 1, 3) := by decide +kernel
theorem dX5_digest_71 : decode cX5_digest 71 = .ok (.goto (-33), 3) := by decide +kernel
theorem dX5_digest_74 : decode cX5_digest 74 = .ok (.iconst 0, 1) := by decide +kernel
theorem dX5_digest_75 : decode cX5_digest 75 = .ok (.istore_n 3, 1) := by decide +kernel
theorem dX5_digest_76 : decode cX5_digest 76 = .ok (.iload_n 3, 1) := by decide +kernel
theorem dX5_digest_77 : decode cX5_digest 77 = .ok (.aload_n 0, 1) := by decide +kernel
theorem dX5_digest_78 : decode cX5_digest 78 = .ok (.getfield 32, 3) := by decide +kernel
theorem dX5_digest_81 : decode cX5_digest 81 = .ok (.if_icmp .ge 40, 3) := by decide +kernel
theorem dX5_digest_84 : decode cX5_digest 84 = .ok (.iconst 0, 1) := by decide +kernel
theorem dX5_digest_85 : decode cX5_digest 85 = .ok (.istore 4, 2) := by decide +kernel
theorem dX5_digest_87 : decode cX5_digest 87 = .ok (.iload 4, 2) := by decide +kernel
theorem dX5_digest_89 : decode cX5_digest 89 = .ok (.bipush 10, 2) := by decide +kernel
theorem dX5_digest_91 : decode cX5_digest 91 = .ok (.if_icmp .ge 24, 3) := by decide +kernel
theorem dX5_digest_94 : decode cX5_digest 94 = .ok (.lload_n 1, 1) := by decide +kernel
theorem dX5_digest_95 : decode cX5_digest 95 = .ok (.ldc2_w 119, 3) := by decide +kernel
theorem dX5_digest_98 : decode cX5_digest 98 = .ok (.lmul, 1) := by decide +kernel
theorem dX5_digest_99 : decode cX5_digest 99 = .ok (.aload_n 0, 1) := by decide +kernel
theorem dX5_digest_100 : decode cX5_digest 100 = .ok (.iload_n 3, 1) := by decide +kernel
theorem dX5_digest_101 : decode cX5_digest 101 = .ok (.iload 4, 2) := by decide +kernel
theorem dX5_digest_103 : decode cX5_digest 103 = .ok (.invokevirtual 56, 3) := by decide +kernel
theorem dX5_digest_106 : decode cX5_digest 106 = .ok (.i2l, 1) := by decide +kernel
theorem dX5_digest_107 : decode cX5_digest 107 = .ok (.ladd, 1) := by decide +kernel
theorem dX5_digest_108 : decode cX5_digest 108 = .ok (.lstore_n 1, 1) := by decide +kernel
theorem dX5_digest_109 : decode cX5_digest 109 = .ok (.iinc 4 1, 3) := by decide +kernel
theorem dX5_digest_112 : decode cX5_digest 112 = .ok (.goto (-25), 3) := by decide +kernel
theorem dX5_digest_115 : decode cX5_digest 115 = .ok (.iinc 3 1, 3) := by decide +kernel
theorem dX5_digest_118 : decode cX5_digest 118 = .ok (.goto (-42), 3) := by decide +kernel
theorem dX5_digest_121 : decode cX5_digest 121 = .ok (.iconst 0, 1) := by decide +kernel
theorem dX5_digest_122 : decode cX5_digest 122 = .ok (.istore_n 3, 1) := by decide +kernel
theorem dX5_digest_123 : decode cX5_digest 123 = .ok (.iload_n 3, 1) := by decide +kernel
theorem dX5_digest_124 : decode cX5_digest 124 = .ok (.aload_n 0, 1) := by decide +kernel
theorem dX5_digest_125 : decode cX5_digest 125 = .ok (.getfield 39, 3) := by decide +kernel
theorem dX5_digest_128 : decode cX5_digest 128 = .ok (.if_icmp .ge 39, 3) := by decide +kernel
theorem dX5_digest_131 : decode cX5_digest 131 = .ok (.iconst 0, 1) := by decide +kernel
theorem dX5_digest_132 : decode cX5_digest 132 = .ok (.istore 4, 2) := by decide +kernel
theorem dX5_digest_134 : decode cX5_digest 134 = .ok (.iload 4, 2) := by decide +kernel
theorem dX5_digest_136 : decode cX5_digest 136 = .ok (.iconst 5, 1) := by decide +kernel
theorem dX5_digest_137 : decode cX5_digest 137 = .ok (.if_icmp .ge 24, 3) := by decide +kernel
theorem dX5_digest_140 : decode cX5_digest 140 = .ok (.lload_n 1, 1) := by decide +kernel
theorem dX5_digest_141 : decode cX5_digest 141 = .ok (.ldc2_w 119, 3) := by decide +kernel
theorem dX5_digest_144 : decode cX5_digest 144 = .ok (.lmul, 1) := by decide +kernel
theorem dX5_digest_145 : decode cX5_digest 145 = .ok (.aload_n 0, 1) := by decide +kernel
theorem dX5_digest_146 : decode cX5_digest 146 = .ok (.iload_n 3, 1) := by decide +kernel
theorem dX5_digest_147 : decode cX5_digest 147 = .ok (.iload 4, 2) := by decide +kernel
theorem dX5_digest_149 : decode cX5_digest 149 = .ok (.invokevirtual 67, 3) := by decide +kernel
theorem dX5_digest_152 : decode cX5_digest 152 = .ok (.i2l, 1) := by decide +kernel
theorem dX5_digest_153 : decode cX5_digest 153 = .ok (.ladd, 1) := by decide +kernel
theorem dX5_digest_154 : decode cX5_digest 154 = .ok (.lstore_n 1, 1) := by decide +kernel
theorem dX5_digest_155 : decode cX5_digest 155 = .ok (.iinc 4 1, 3) := by decide +kernel
theorem dX5_digest_158 : decode cX5_digest 158 = .ok (.goto (-24), 3) := by decide +kernel
theorem dX5_digest_161 : decode cX5_digest 161 = .ok (.iinc 3 1, 3) := by decide +kernel
theorem dX5_digest_164 : decode cX5_digest 164 = .ok (.goto (-41), 3) := by decide +kernel
theorem dX5_digest_167 : decode cX5_digest 167 = .ok (.iconst 0, 1) := by decide +kernel
theorem dX5_digest_168 : decode cX5_digest 168 = .ok (.istore_n 3, 1) := by decide +kernel
theorem dX5_digest_169 : decode cX5_digest 169 = .ok (.iload_n 3, 1) := by decide +kernel
theorem dX5_digest_170 : decode cX5_digest 170 = .ok (.aload_n 0, 1) := by decide +kernel
theorem dX5_digest_171 : decode cX5_digest 171 = .ok (.getfield 32, 3) := by decide +kernel
theorem dX5_digest_174 : decode cX5_digest 174 = .ok (.if_icmp .ge 44, 3) := by decide +kernel
theorem dX5_digest_177 : decode cX5_digest 177 = .ok (.iload_n 3, 1) := by decide +kernel
theorem dX5_digest_178 : decode cX5_digest 178 = .ok (.iconst 1, 1) := by decide +kernel
theorem dX5_digest_179 : decode cX5_digest 179 = .ok (.iadd, 1) := by decide +kernel
theorem dX5_digest_180 : decode cX5_digest 180 = .ok (.istore 4, 2) := by decide +kernel
theorem dX5_digest_182 : decode cX5_digest 182 = .ok (.iload 4, 2) := by decide +kernel
theorem dX5_digest_184 : decode cX5_digest 184 = .ok (.aload_n 0, 1) := by decide +kernel
theorem dX5_digest_185 : decode cX5_digest 185 = .ok (.getfield 32, 3) := by decide +kernel
theorem dX5_digest_188 : decode cX5_digest 188 = .ok (.if_icmp .ge 24, 3) := by decide +kernel
theorem dX5_digest_191 : decode cX5_digest 191 = .ok (.lload_n 1, 1) := by decide +kernel
theorem dX5_digest_192 : decode cX5_digest 192 = .ok (.ldc2_w 119, 3) := by decide +kernel
theorem dX5_digest_195 : decode cX5_digest 195 = .ok (.lmul, 1) := by decide +kernel
theorem dX5_digest_196 : decode cX5_digest 196 = .ok (.aload_n 0, 1) := by decide +kernel
theorem dX5_digest_197 : decode cX5_digest 197 = .ok (.iload_n 3, 1) := by decide +kernel
theorem dX5_digest_198 : decode cX5_digest 198 = .ok (.iload 4, 2) := by decide +kernel
theorem dX5_digest_200 : decode cX5_digest 200 = .ok (.invokevirtual 78, 3) := by decide +kernel
theorem dX5_digest_203 : decode cX5_digest 203 = .ok (.i2l, 1) := by decide +kernel
theorem dX5_digest_204 : decode cX5_digest 204 = .ok (.ladd, 1) := by decide +kernel
theorem dX5_digest_205 : decode cX5_digest 205 = .ok (.lstore_n 1, 1) := by decide +kernel
theorem dX5_digest_206 : decode cX5_digest 206 = .ok (.iinc 4 1, 3) := by decide +kernel
theorem dX5_digest_209 : decode cX5_digest 209 = .ok (.goto (-27), 3) := by decide +kernel
theorem dX5_digest_212 : decode cX5_digest 212 = .ok (.iinc 3 1, 3) := by decide +kernel
theorem dX5_digest_215 : decode cX5_digest 215 = .ok (.goto (-46), 3) := by decide +kernel
theorem dX5_digest_218 : decode cX5_digest 218 = .ok (.lload_n 1, 1) := by decide +kernel
theorem dX5_digest_219 : decode cX5_digest 219 = .ok (.lreturn, 1) := by decide +kernel
