theorem dX4_init_0 : decode cX4_init 0 = .ok (.aload_n 0, 1) := by decide +kernel
theorem dX4_init_1 : decode cX4_init 1 = .ok (.invokespecial 1, 3) := by decide +kernel
theorem dX4_init_4 : decode cX4_init 4 = .ok (.aload_n 0, 1) := by decide +kernel
theorem dX4_init_5 : decode cX4_init 5 = .ok (.new 7, 3) := by decide +kernel
theorem dX4_init_8 : decode cX4_init 8 = .ok (.dup, 1) := by decide +kernel
theorem dX4_init_9 : decode cX4_init 9 = .ok (.invokespecial 9, 3) := by decide +kernel
theorem dX4_init_12 : decode cX4_init 12 = .ok (.putfield 10, 3) := by decide +kernel
theorem dX4_init_15 : decode cX4_init 15 = .ok (.aload_n 0, 1) := by decide +kernel
theorem dX4_init_16 : decode cX4_init 16 = .ok (.new 16, 3) := by decide +kernel
theorem dX4_init_19 : decode cX4_init 19 = .ok (.dup, 1) := by decide +kernel
theorem dX4_init_20 : decode cX4_init 20 = .ok (.aload_n 0, 1) := by decide +kernel
theorem dX4_init_21 : decode cX4_init 21 = .ok (.getfield 10, 3) := by decide +kernel
theorem dX4_init_24 : decode cX4_init 24 = .ok (.invokespecial 18, 3) := by decide +kernel
theorem dX4_init_27 : decode cX4_init 27 = .ok (.putfield 21, 3) := by decide +kernel
theorem dX4_init_30 : decode cX4_init 30 = .ok (.aload_n 0, 1) := by decide +kernel
theorem dX4_init_31 : decode cX4_init 31 = .ok (.new 16, 3) := by decide +kernel
theorem dX4_init_34 : decode cX4_init 34 = .ok (.dup, 1) := by decide +kernel
theorem dX4_init_35 : decode cX4_init 35 = .ok (.aload_n 0, 1) := by decide +kernel
theorem dX4_init_36 : decode cX4_init 36 = .ok (.getfield 10, 3) := by decide +kernel
theorem dX4_init_39 : decode cX4_init 39 = .ok (.invokespecial 18, 3) := by decide +kernel
theorem dX4_init_42 : decode cX4_init 42 = .ok (.putfield 25, 3) := by decide +kernel
theorem dX4_init_45 : decode cX4_init 45 = .ok (.return_, 1) := by decide +kernel
theorem dX4_setWeather_0 : decode cX4_setWeather 0 = .ok (.iload_n 1, 1) := by decide +kernel
theorem dX4_setWeather_1 : decode cX4_setWeather 1 = .ok (.iconst 0, 1) := by decide +kernel
theorem dX4_setWeather_2 : decode cX4_setWeather 2 = .ok (.bipush 27, 2) := by decide +kernel
theorem dX4_setWeather_4 : decode cX4_setWeather 4 = .ok (.invokestatic 28, 3) := by decide +kernel
theorem dX4_setWeather_7 : decode cX4_setWeather 7 = .ok (.invokestatic 32, 3) := by decide +kernel
theorem dX4_setWeather_10 : decode cX4_setWeather 10 = .ok (.iload_n 2, 1) := by decide +kernel
theorem dX4_setWeather_11 : decode cX4_setWeather 11 = .ok (.iconst 0, 1) := by decide +kernel
theorem dX4_setWeather_12 : decode cX4_setWeather 12 = .ok (.bipush 20, 2) := by decide +kernel
theorem dX4_setWeather_14 : decode cX4_setWeather 14 = .ok (.invokestatic 28, 3) := by decide +kernel
theorem dX4_setWeather_17 : decode cX4_setWeather 17 = .ok (.ifCond .eq 16, 3) := by decide +kernel
theorem dX4_setWeather_20 : decode cX4_setWeather 20 = .ok (.iload_n 3, 1) := by decide +kernel
theorem dX4_setWeather_21 : decode cX4_setWeather 21 = .ok (.iconst 0, 1) := by decide +kernel
theorem dX4_setWeather_22 : decode cX4_setWeather 22 = .ok (.iconst 3, 1) := by decide +kernel
theorem dX4_setWeather_23 : decode cX4_setWeather 23 = .ok (.invokestatic 28, 3) := by decide +kernel
theorem dX4_setWeather_26 : decode cX4_setWeather 26 = .ok (.ifCond .eq 7, 3) := by decide +kernel
theorem dX4_setWeather_29 : decode cX4_setWeather 29 = .ok (.iconst 1, 1) := by decide +kernel
theorem dX4_setWeather_30 : decode cX4_setWeather 30 = .ok (.goto 4, 3) := by decide +kernel
theorem dX4_setWeather_33 : decode cX4_setWeather 33 = .ok (.iconst 0, 1) := by decide +kernel
theorem dX4_setWeather_34 : decode cX4_setWeather 34 = .ok (.invokestatic 36, 3) := by decide +kernel
theorem dX4_setWeather_37 : decode cX4_setWeather 37 = .ok (.aload_n 0, 1) := by decide +kernel
theorem dX4_setWeather_38 : decode cX4_setWeather 38 = .ok (.getfield 10, 3) := by decide +kernel
theorem dX4_setWeather_41 : decode cX4_setWeather 41 = .ok (.iload_n 1, 1) := by decide +kernel
theorem dX4_setWeather_42 : decode cX4_setWeather 42 = .ok (.invokevirtual 39, 3) := by decide +kernel
theorem dX4_setWeather_45 : decode cX4_setWeather 45 = .ok (.istore 4, 2) := by decide +kernel
theorem dX4_setWeather_47 : decode cX4_setWeather 47 = .ok (.aload_n 0, 1) := by decide +kernel
theorem dX4_setWeather_48 : decode cX4_setWeather 48 = .ok (.getfield 10, 3) := by decide +kernel
theorem dX4_setWeather_51 : decode cX4_setWeather 51 = .ok (.iload_n 1, 1) := by decide +kernel
theorem dX4_setWeather_52 : decode cX4_setWeather 52 = .ok (.iload_n 2, 1) := by decide +kernel
theorem dX4_setWeather_53 : decode cX4_setWeather 53 = .ok (.iload_n 3, 1) := by decide +kernel
theorem dX4_setWeather_54 : decode cX4_setWeather 54 = .ok (.invokevirtual 43, 3) := by decide +kernel
theorem dX4_setWeather_57 : decode cX4_setWeather 57 = .ok (.iload 4, 2) := by decide +kernel
theorem dX4_setWeather_59 : decode cX4_setWeather 59 = .ok (.ireturn, 1) := by decide +kernel
theorem dX4_build_0 : decode cX4_build 0 = .ok (.iload_n 1, 1) := by decide +kernel
theorem dX4_build_1 : decode cX4_build 1 = .ok (.iconst 1, 1) := by decide +kernel
theorem dX4_build_2 : decode cX4_build 2 = .ok (.bipush 30, 2) := by decide +kernel
theorem dX4_build_4 : decode cX4_build 4 = .ok (.invokestatic 28, 3) := by decide +kernel
theorem dX4_build_7 : decode cX4_build 7 = .ok (.ifCond .eq 19, 3) := by decide +kernel
theorem dX4_build_10 : decode cX4_build 10 = .ok (.iload_n 2, 1) := by decide +kernel
theorem dX4_build_11 : decode cX4_build 11 = .ok (.bipush 10, 2) := by decide +kernel
theorem dX4_build_13 : decode cX4_build 13 = .ok (.sipush 900, 3) := by decide +kernel
theorem dX4_build_16 : decode cX4_build 16 = .ok (.invokestatic 28, 3) := by decide +kernel
theorem dX4_build_19 : decode cX4_build 19 = .ok (.ifCond .eq 7, 3) := by decide +kernel
theorem dX4_build_22 : decode cX4_build 22 = .ok (.iconst 1, 1) := by decide +kernel
theorem dX4_build_23 : decode cX4_build 23 = .ok (.goto 4, 3) := by decide +kernel
theorem dX4_build_26 : decode cX4_build 26 = .ok (.iconst 0, 1) := by decide +kernel
theorem dX4_build_27 : decode cX4_build 27 = .ok (.invokestatic 36, 3) := by decide +kernel
theorem dX4_build_30 : decode cX4_build 30 = .ok (.iload_n 3, 1) := by decide +kernel
theorem dX4_build_31 : decode cX4_build 31 = .ok (.iconst 0, 1) := by decide +kernel
theorem dX4_build_32 : decode cX4_build 32 = .ok (.bipush 9, 2) := by decide +kernel
theorem dX4_build_34 : decode cX4_build 34 = .ok (.invokestatic 28, 3) := by decide +kernel
theorem dX4_build_37 : decode cX4_build 37 = .ok (.ifCond .eq 18, 3) := by decide +kernel
theorem dX4_build_40 : decode cX4_build 40 = .ok (.iload 4, 2) := by decide +kernel
theorem dX4_build_42 : decode cX4_build 42 = .ok (.iconst 0, 1) := by decide +kernel
theorem dX4_build_43 : decode cX4_build 43 = .ok (.bipush 20, 2) := by decide +kernel
theorem dX4_build_45 : decode cX4_build 45 = .ok (.invokestatic 28, 3) := by decide +kernel
theorem dX4_build_48 : decode cX4_build 48 = .ok (.ifCond .eq 7, 3) := by decide +kernel
theorem dX4_build_51 : decode cX4_build 51 = .ok (.iconst 1, 1) := by decide +kernel
theorem dX4_build_52 : decode cX4_build 52 = .ok (.goto 4, 3) := by decide +kernel
theorem dX4_build_55 : decode cX4_build 55 = .ok (.iconst 0, 1) := by decide +kernel
theorem dX4_build_56 : decode cX4_build 56 = .ok (.invokestatic 36, 3) := by decide +kernel
theorem dX4_build_59 : decode cX4_build 59 = .ok (.aload_n 0, 1) := by decide +kernel
theorem dX4_build_60 : decode cX4_build 60 = .ok (.getfield 21, 3) := by decide +kernel
theorem dX4_build_63 : decode cX4_build 63 = .ok (.getfield 47, 3) := by decide +kernel
theorem dX4_build_66 : decode cX4_build 66 = .ok (.bipush 10, 2) := by decide +kernel
theorem dX4_build_68 : decode cX4_build 68 = .ok (.if_icmp .ge 7, 3) := by decide +kernel
theorem dX4_build_71 : decode cX4_build 71 = .ok (.iconst 1, 1) := by decide +kernel
theorem dX4_build_72 : decode cX4_build 72 = .ok (.goto 4, 3) := by decide +kernel
theorem dX4_build_75 : decode cX4_build 75 = .ok (.iconst 0, 1) := by decide +kernel
theorem dX4_build_76 : decode cX4_build 76 = .ok (.invokestatic 51, 3) := by decide +kernel
theorem dX4_build_79 : decode cX4_build 79 = .ok (.aload_n 0, 1) := by decide +kernel
theorem dX4_build_80 : decode cX4_build 80 = .ok (.getfield 21, 3) := by decide +kernel
theorem dX4_build_83 : decode cX4_build 83 = .ok (.iload_n 1, 1) := by decide +kernel
theorem dX4_build_84 : decode cX4_build 84 = .ok (.iload_n 2, 1) := by decide +kernel
theorem dX4_build_85 : decode cX4_build 85 = .ok (.iload_n 3, 1) := by decide +kernel
theorem dX4_build_86 : decode cX4_build 86 = .ok (.iload 4, 2) := by decide +kernel
theorem dX4_build_88 : decode cX4_build 88 = .ok (.invokevirtual 54, 3) := by decide +kernel
theorem dX4_build_91 : decode cX4_build 91 = .ok (.ireturn, 1) := by decide +kernel
theorem dX4_chain_0 : decode cX4_chain 0 = .ok (.aload_n 0, 1) := by decide +kernel
theorem dX4_chain_1 : decode cX4_chain 1 = .ok (.iload_n 1, 1) := by decide +kernel
theorem dX4_chain_2 : decode cX4_chain 2 = .ok (.invokevirtual 58, 3) := by decide +kernel
theorem dX4_chain_5 : decode cX4_chain 5 = .ok (.iload_n 2, 1) := by decide +kernel
theorem dX4_chain_6 : decode cX4_chain 6 = .ok (.iconst (-1), 1) := by decide +kernel
theorem dX4_chain_7 : decode cX4_chain 7 = .ok (.if_icmp .eq 14, 3) := by decide +kernel
theorem dX4_chain_10 : decode cX4_chain 10 = .ok (.aload_n 0, 1) := by decide +kernel
theorem dX4_chain_11 : decode cX4_chain 11 = .ok (.getfield 21, 3) := by decide +kernel
theorem dX4_chain_14 : decode cX4_chain 14 = .ok (.iload_n 2, 1) := by decide +kernel
theorem dX4_chain_15 : decode cX4_chain 15 = .ok (.invokevirtual 62, 3) := by decide +kernel
theorem dX4_chain_18 : decode cX4_chain 18 = .ok (.ifCond .eq 7, 3) := by decide +kernel
theorem dX4_chain_21 : decode cX4_chain 21 = .ok (.iconst 1, 1) := by decide +kernel
theorem dX4_chain_22 : decode cX4_chain 22 = .ok (.goto 4, 3) := by decide +kernel
theorem dX4_chain_25 : decode cX4_chain 25 = .ok (.iconst 0, 1) := by decide +kernel
theorem dX4_chain_26 : decode cX4_chain 26 = .ok (.invokestatic 32, 3) := by decide +kernel
theorem dX4_chain_29 : decode cX4_chain 29 = .ok (.iload_n 1, 1) := by decide +kernel
theorem dX4_chain_30 : decode cX4_chain 30 = .ok (.iload_n 2, 1) := by decide +kernel
theorem dX4_chain_31 : decode cX4_chain 31 = .ok (.if_icmp .eq 7, 3) := by decide +kernel
theorem dX4_chain_34 : decode cX4_chain 34 = .ok (.iconst 1, 1) := by decide +kernel
theorem dX4_chain_35 : decode cX4_chain 35 = .ok (.goto 4, 3) := by decide +kernel
theorem dX4_chain_38 : decode cX4_chain 38 = .ok (.iconst 0, 1) := by decide +kernel
theorem dX4_chain_39 : decode cX4_chain 39 = .ok (.invokestatic 36, 3) := by decide +kernel
theorem dX4_chain_42 : decode cX4_chain 42 = .ok (.aload_n 0, 1) := by decide +kernel
theorem dX4_chain_43 : decode cX4_chain 43 = .ok (.getfield 21, 3) := by decide +kernel
theorem dX4_chain_46 : decode cX4_chain 46 = .ok (.iload_n 2, 1) := by decide +kernel
theorem dX4_chain_47 : decode cX4_chain 47 = .ok (.iload_n 1, 1) := by decide +kernel
theorem dX4_chain_48 : decode cX4_chain 48 = .ok (.invokevirtual 66, 3) := by decide +kernel
theorem dX4_chain_51 : decode cX4_chain 51 = .ok (.ifCond .ne 7, 3) := by decide +kernel
theorem dX4_chain_54 : decode cX4_chain 54 = .ok (.iconst 1, 1) := by decide +kernel
theorem dX4_chain_55 : decode cX4_chain 55 = .ok (.goto 4, 3) := by decide +kernel
theorem dX4_chain_58 : decode cX4_chain 58 = .ok (.iconst 0, 1) := by decide +kernel
theorem dX4_chain_59 : decode cX4_chain 59 = .ok (.invokestatic 51, 3) := by decide +kernel
theorem dX4_chain_62 : decode cX4_chain 62 = .ok (.aload_n 0, 1) := by decide +kernel
theorem dX4_chain_63 : decode cX4_chain 63 = .ok (.getfield 21, 3) := by decide +kernel
theorem dX4_chain_66 : decode cX4_chain 66 = .ok (.getfield 70, 3) := by decide +kernel
theorem dX4_chain_69 : decode cX4_chain 69 = .ok (.iload_n 1, 1) := by decide +kernel
theorem dX4_chain_70 : decode cX4_chain 70 = .ok (.aaload, 1) := by decide +kernel
theorem dX4_chain_71 : decode cX4_chain 71 = .ok (.iload_n 2, 1) := by decide +kernel
theorem dX4_chain_72 : decode cX4_chain 72 = .ok (.putfield 74, 3) := by decide +kernel
theorem dX4_chain_75 : decode cX4_chain 75 = .ok (.aload_n 0, 1) := by decide +kernel
theorem dX4_chain_76 : decode cX4_chain 76 = .ok (.getfield 21, 3) := by decide +kernel
theorem dX4_chain_79 : decode cX4_chain 79 = .ok (.iload_n 2, 1) := by decide +kernel
theorem dX4_chain_80 : decode cX4_chain 80 = .ok (.invokevirtual 79, 3) := by decide +kernel
theorem dX4_chain_83 : decode cX4_chain 83 = .ok (.ireturn, 1) := by decide +kernel
theorem dX4_lay_0 : decode cX4_lay 0 = .ok (.aload_n 0, 1) := by decide +kernel
theorem dX4_lay_1 : decode cX4_lay 1 = .ok (.iload_n 1, 1) := by decide +kernel
theorem dX4_lay_2 : decode cX4_lay 2 = .ok (.invokevirtual 58, 3) := by decide +kernel
theorem dX4_lay_5 : decode cX4_lay 5 = .ok (.aload_n 0, 1) := by decide +kernel
theorem dX4_lay_6 : decode cX4_lay 6 = .ok (.iload_n 2, 1) := by decide +kernel
theorem dX4_lay_7 : decode cX4_lay 7 = .ok (.invokevirtual 58, 3) := by decide +kernel
theorem dX4_lay_10 : decode cX4_lay 10 = .ok (.iload_n 1, 1) := by decide +kernel
theorem dX4_lay_11 : decode cX4_lay 11 = .ok (.iload_n 2, 1) := by decide +kernel
theorem dX4_lay_12 : decode cX4_lay 12 = .ok (.if_icmp .eq 17, 3) := by decide +kernel
theorem dX4_lay_15 : decode cX4_lay 15 = .ok (.iload_n 3, 1) := by decide +kernel
theorem dX4_lay_16 : decode cX4_lay 16 = .ok (.iconst 1, 1) := by decide +kernel
theorem dX4_lay_17 : decode cX4_lay 17 = .ok (.bipush 50, 2) := by decide +kernel
theorem dX4_lay_19 : decode cX4_lay 19 = .ok (.invokestatic 28, 3) := by decide +kernel
theorem dX4_lay_22 : decode cX4_lay 22 = .ok (.ifCond .eq 7, 3) := by decide +kernel
theorem dX4_lay_25 : decode cX4_lay 25 = .ok (.iconst 1, 1) := by decide +kernel
theorem dX4_lay_26 : decode cX4_lay 26 = .ok (.goto 4, 3) := by decide +kernel
theorem dX4_lay_29 : decode cX4_lay 29 = .ok (.iconst 0, 1) := by decide +kernel
theorem dX4_lay_30 : decode cX4_lay 30 = .ok (.invokestatic 36, 3) := by decide +kernel
theorem dX4_lay_33 : decode cX4_lay 33 = .ok (.aload_n 0, 1) := by decide +kernel
theorem dX4_lay_34 : decode cX4_lay 34 = .ok (.getfield 21, 3) := by decide +kernel
theorem dX4_lay_37 : decode cX4_lay 37 = .ok (.getfield 82, 3) := by decide +kernel
theorem dX4_lay_40 : decode cX4_lay 40 = .ok (.bipush 12, 2) := by decide +kernel
theorem dX4_lay_42 : decode cX4_lay 42 = .ok (.if_icmp .ge 7, 3) := by decide +kernel
theorem dX4_lay_45 : decode cX4_lay 45 = .ok (.iconst 1, 1) := by decide +kernel
theorem dX4_lay_46 : decode cX4_lay 46 = .ok (.goto 4, 3) := by decide +kernel
theorem dX4_lay_49 : decode cX4_lay 49 = .ok (.iconst 0, 1) := by decide +kernel
theorem dX4_lay_50 : decode cX4_lay 50 = .ok (.invokestatic 51, 3) := by decide +kernel
theorem dX4_lay_53 : decode cX4_lay 53 = .ok (.aload_n 0, 1) := by decide +kernel
theorem dX4_lay_54 : decode cX4_lay 54 = .ok (.getfield 21, 3) := by decide +kernel
theorem dX4_lay_57 : decode cX4_lay 57 = .ok (.iload_n 1, 1) := by decide +kernel
theorem dX4_lay_58 : decode cX4_lay 58 = .ok (.iload_n 2, 1) := by decide +kernel
theorem dX4_lay_59 : decode cX4_lay 59 = .ok (.iload_n 3, 1) := by decide +kernel
theorem dX4_lay_60 : decode cX4_lay 60 = .ok (.invokevirtual 85, 3) := by decide +kernel
theorem dX4_lay_63 : decode cX4_lay 63 = .ok (.ireturn, 1) := by decide +kernel
theorem dX4_turn_0 : decode cX4_turn 0 = .ok (.aload_n 0, 1) := by decide +kernel
theorem dX4_turn_1 : decode cX4_turn 1 = .ok (.iload_n 1, 1) := by decide +kernel
theorem dX4_turn_2 : decode cX4_turn 2 = .ok (.invokevirtual 89, 3) := by decide +kernel
theorem dX4_turn_5 : decode cX4_turn 5 = .ok (.aload_n 0, 1) := by decide +kernel
theorem dX4_turn_6 : decode cX4_turn 6 = .ok (.getfield 21, 3) := by decide +kernel
theorem dX4_turn_9 : decode cX4_turn 9 = .ok (.getfield 92, 3) := by decide +kernel
theorem dX4_turn_12 : decode cX4_turn 12 = .ok (.iload_n 1, 1) := by decide +kernel
theorem dX4_turn_13 : decode cX4_turn 13 = .ok (.aaload, 1) := by decide +kernel
theorem dX4_turn_14 : decode cX4_turn 14 = .ok (.getfield 96, 3) := by decide +kernel
theorem dX4_turn_17 : decode cX4_turn 17 = .ok (.istore_n 3, 1) := by decide +kernel
theorem dX4_turn_18 : decode cX4_turn 18 = .ok (.aload_n 0, 1) := by decide +kernel
theorem dX4_turn_19 : decode cX4_turn 19 = .ok (.getfield 21, 3) := by decide +kernel
theorem dX4_turn_22 : decode cX4_turn 22 = .ok (.getfield 92, 3) := by decide +kernel
theorem dX4_turn_25 : decode cX4_turn 25 = .ok (.iload_n 1, 1) := by decide +kernel
theorem dX4_turn_26 : decode cX4_turn 26 = .ok (.aaload, 1) := by decide +kernel
theorem dX4_turn_27 : decode cX4_turn 27 = .ok (.iload_n 2, 1) := by decide +kernel
theorem dX4_turn_28 : decode cX4_turn 28 = .ok (.putfield 96, 3) := by decide +kernel
theorem dX4_turn_31 : decode cX4_turn 31 = .ok (.iload_n 3, 1) := by decide +kernel
theorem dX4_turn_32 : decode cX4_turn 32 = .ok (.ireturn, 1) := by decide +kernel
theorem dX4_clean_0 : decode cX4_clean 0 = .ok (.aload_n 0, 1) := by decide +kernel
theorem dX4_clean_1 : decode cX4_clean 1 = .ok (.iload_n 1, 1) := by decide +kernel
theorem dX4_clean_2 : decode cX4_clean 2 = .ok (.invokevirtual 58, 3) := by decide +kernel
theorem dX4_clean_5 : decode cX4_clean 5 = .ok (.aload_n 0, 1) := by decide +kernel
theorem dX4_clean_6 : decode cX4_clean 6 = .ok (.getfield 21, 3) := by decide +kernel
theorem dX4_clean_9 : decode cX4_clean 9 = .ok (.getfield 70, 3) := by decide +kernel
theorem dX4_clean_12 : decode cX4_clean 12 = .ok (.iload_n 1, 1) := by decide +kernel
theorem dX4_clean_13 : decode cX4_clean 13 = .ok (.aaload, 1) := by decide +kernel
theorem dX4_clean_14 : decode cX4_clean 14 = .ok (.getfield 102, 3) := by decide +kernel
theorem dX4_clean_17 : decode cX4_clean 17 = .ok (.istore_n 2, 1) := by decide +kernel
theorem dX4_clean_18 : decode cX4_clean 18 = .ok (.aload_n 0, 1) := by decide +kernel
theorem dX4_clean_19 : decode cX4_clean 19 = .ok (.getfield 21, 3) := by decide +kernel
theorem dX4_clean_22 : decode cX4_clean 22 = .ok (.getfield 70, 3) := by decide +kernel
theorem dX4_clean_25 : decode cX4_clean 25 = .ok (.iload_n 1, 1) := by decide +kernel
theorem dX4_clean_26 : decode cX4_clean 26 = .ok (.aaload, 1) := by decide +kernel
theorem dX4_clean_27 : decode cX4_clean 27 = .ok (.iconst 0, 1) := by decide +kernel
theorem dX4_clean_28 : decode cX4_clean 28 = .ok (.putfield 102, 3) := by decide +kernel
theorem dX4_clean_31 : decode cX4_clean 31 = .ok (.iload_n 2, 1) := by decide +kernel
theorem dX4_clean_32 : decode cX4_clean 32 = .ok (.ireturn, 1) := by decide +kernel
theorem dX4_cart_0 : decode cX4_cart 0 = .ok (.aload_n 0, 1) := by decide +kernel
theorem dX4_cart_1 : decode cX4_cart 1 = .ok (.iload_n 1, 1) := by decide +kernel
theorem dX4_cart_2 : decode cX4_cart 2 = .ok (.invokevirtual 58, 3) := by decide +kernel
theorem dX4_cart_5 : decode cX4_cart 5 = .ok (.iload_n 2, 1) := by decide +kernel
theorem dX4_cart_6 : decode cX4_cart 6 = .ok (.iconst 1, 1) := by decide +kernel
theorem dX4_cart_7 : decode cX4_cart 7 = .ok (.sipush 500, 3) := by decide +kernel
theorem dX4_cart_10 : decode cX4_cart 10 = .ok (.invokestatic 28, 3) := by decide +kernel
theorem dX4_cart_13 : decode cX4_cart 13 = .ok (.invokestatic 36, 3) := by decide +kernel
theorem dX4_cart_16 : decode cX4_cart 16 = .ok (.aload_n 0, 1) := by decide +kernel
theorem dX4_cart_17 : decode cX4_cart 17 = .ok (.getfield 21, 3) := by decide +kernel
theorem dX4_cart_20 : decode cX4_cart 20 = .ok (.dup, 1) := by decide +kernel
theorem dX4_cart_21 : decode cX4_cart 21 = .ok (.getfield 105, 3) := by decide +kernel
theorem dX4_cart_24 : decode cX4_cart 24 = .ok (.iload_n 2, 1) := by decide +kernel
theorem dX4_cart_25 : decode cX4_cart 25 = .ok (.iadd, 1) := by decide +kernel
theorem dX4_cart_26 : decode cX4_cart 26 = .ok (.putfield 105, 3) := by decide +kernel
theorem dX4_cart_29 : decode cX4_cart 29 = .ok (.aload_n 0, 1) := by decide +kernel
theorem dX4_cart_30 : decode cX4_cart 30 = .ok (.getfield 21, 3) := by decide +kernel
theorem dX4_cart_33 : decode cX4_cart 33 = .ok (.iload_n 1, 1) := by decide +kernel
theorem dX4_cart_34 : decode cX4_cart 34 = .ok (.iload_n 2, 1) := by decide +kernel
theorem dX4_cart_35 : decode cX4_cart 35 = .ok (.invokevirtual 108, 3) := by decide +kernel
theorem dX4_cart_38 : decode cX4_cart 38 = .ok (.ireturn, 1) := by decide +kernel
theorem dX4_setPeople_0 : decode cX4_setPeople 0 = .ok (.aload_n 0, 1) := by decide +kernel
theorem dX4_setPeople_1 : decode cX4_setPeople 1 = .ok (.iload_n 1, 1) := by decide +kernel
theorem dX4_setPeople_2 : decode cX4_setPeople 2 = .ok (.invokevirtual 58, 3) := by decide +kernel
theorem dX4_setPeople_5 : decode cX4_setPeople 5 = .ok (.iload_n 2, 1) := by decide +kernel
theorem dX4_setPeople_6 : decode cX4_setPeople 6 = .ok (.iconst 0, 1) := by decide +kernel
theorem dX4_setPeople_7 : decode cX4_setPeople 7 = .ok (.bipush 9, 2) := by decide +kernel
theorem dX4_setPeople_9 : decode cX4_setPeople 9 = .ok (.invokestatic 28, 3) := by decide +kernel
theorem dX4_setPeople_12 : decode cX4_setPeople 12 = .ok (.invokestatic 36, 3) := by decide +kernel
theorem dX4_setPeople_15 : decode cX4_setPeople 15 = .ok (.aload_n 0, 1) := by decide +kernel
theorem dX4_setPeople_16 : decode cX4_setPeople 16 = .ok (.getfield 21, 3) := by decide +kernel
theorem dX4_setPeople_19 : decode cX4_setPeople 19 = .ok (.getfield 70, 3) := by decide +kernel
theorem dX4_setPeople_22 : decode cX4_setPeople 22 = .ok (.iload_n 1, 1) := by decide +kernel
theorem dX4_setPeople_23 : decode cX4_setPeople 23 = .ok (.aaload, 1) := by decide +kernel
theorem dX4_setPeople_24 : decode cX4_setPeople 24 = .ok (.getfield 112, 3) := by decide +kernel
theorem dX4_setPeople_27 : decode cX4_setPeople 27 = .ok (.istore_n 3, 1) := by decide +kernel
theorem dX4_setPeople_28 : decode cX4_setPeople 28 = .ok (.aload_n 0, 1) := by decide +kernel
theorem dX4_setPeople_29 : decode cX4_setPeople 29 = .ok (.getfield 21, 3) := by decide +kernel
theorem dX4_setPeople_32 : decode cX4_setPeople 32 = .ok (.getfield 70, 3) := by decide +kernel
theorem dX4_setPeople_35 : decode cX4_setPeople 35 = .ok (.iload_n 1, 1) := by decide +kernel
theorem dX4_setPeople_36 : decode cX4_setPeople 36 = .ok (.aaload, 1) := by decide +kernel
theorem dX4_setPeople_37 : decode cX4_setPeople 37 = .ok (.iload_n 2, 1) := by decide +kernel
theorem dX4_setPeople_38 : decode cX4_setPeople 38 = .ok (.putfield 112, 3) := by decide +kernel
theorem dX4_setPeople_41 : decode cX4_setPeople 41 = .ok (.iload_n 3, 1) := by decide +kernel
theorem dX4_setPeople_42 : decode cX4_setPeople 42 = .ok (.ireturn, 1) := by decide +kernel
theorem dX4_house_0 : decode cX4_house 0 = .ok (.aload_n 0, 1) := by decide +kernel
theorem dX4_house_1 : decode cX4_house 1 = .ok (.iload_n 1, 1) := by decide +kernel
theorem dX4_house_2 : decode cX4_house 2 = .ok (.invokevirtual 58, 3) := by decide +kernel
theorem dX4_house_5 : decode cX4_house 5 = .ok (.iload_n 2, 1) := by decide +kernel
theorem dX4_house_6 : decode cX4_house 6 = .ok (.iconst 0, 1) := by decide +kernel
theorem dX4_house_7 : decode cX4_house 7 = .ok (.bipush 9, 2) := by decide +kernel
theorem dX4_house_9 : decode cX4_house 9 = .ok (.invokestatic 28, 3) := by decide +kernel
theorem dX4_house_12 : decode cX4_house 12 = .ok (.invokestatic 32, 3) := by decide +kernel
theorem dX4_house_15 : decode cX4_house 15 = .ok (.aload_n 0, 1) := by decide +kernel
theorem dX4_house_16 : decode cX4_house 16 = .ok (.getfield 21, 3) := by decide +kernel
theorem dX4_house_19 : decode cX4_house 19 = .ok (.getfield 70, 3) := by decide +kernel
theorem dX4_house_22 : decode cX4_house 22 = .ok (.iload_n 1, 1) := by decide +kernel
theorem dX4_house_23 : decode cX4_house 23 = .ok (.aaload, 1) := by decide +kernel
theorem dX4_house_24 : decode cX4_house 24 = .ok (.iload_n 2, 1) := by decide +kernel
theorem dX4_house_25 : decode cX4_house 25 = .ok (.invokevirtual 115, 3) := by decide +kernel
theorem dX4_house_28 : decode cX4_house 28 = .ok (.ireturn, 1) := by decide +kernel
theorem dX4_pipe_0 : decode cX4_pipe 0 = .ok (.aload_n 0, 1) := by decide +kernel
theorem dX4_pipe_1 : decode cX4_pipe 1 = .ok (.iload_n 1, 1) := by decide +kernel
theorem dX4_pipe_2 : decode cX4_pipe 2 = .ok (.invokevirtual 89, 3) := by decide +kernel
theorem dX4_pipe_5 : decode cX4_pipe 5 = .ok (.iload_n 2, 1) := by decide +kernel
theorem dX4_pipe_6 : decode cX4_pipe 6 = .ok (.iconst 0, 1) := by decide +kernel
theorem dX4_pipe_7 : decode cX4_pipe 7 = .ok (.iconst 4, 1) := by decide +kernel
theorem dX4_pipe_8 : decode cX4_pipe 8 = .ok (.invokestatic 28, 3) := by decide +kernel
theorem dX4_pipe_11 : decode cX4_pipe 11 = .ok (.invokestatic 32, 3) := by decide +kernel
theorem dX4_pipe_14 : decode cX4_pipe 14 = .ok (.aload_n 0, 1) := by decide +kernel
theorem dX4_pipe_15 : decode cX4_pipe 15 = .ok (.getfield 21, 3) := by decide +kernel
theorem dX4_pipe_18 : decode cX4_pipe 18 = .ok (.getfield 92, 3) := by decide +kernel
theorem dX4_pipe_21 : decode cX4_pipe 21 = .ok (.iload_n 1, 1) := by decide +kernel
theorem dX4_pipe_22 : decode cX4_pipe 22 = .ok (.aaload, 1) := by decide +kernel
theorem dX4_pipe_23 : decode cX4_pipe 23 = .ok (.iload_n 2, 1) := by decide +kernel
theorem dX4_pipe_24 : decode cX4_pipe 24 = .ok (.invokevirtual 118, 3) := by decide +kernel
theorem dX4_pipe_27 : decode cX4_pipe 27 = .ok (.ireturn, 1) := by decide +kernel
theorem dX4_owes_0 : decode cX4_owes 0 = .ok (.aload_n 0, 1) := by decide +kernel
theorem dX4_owes_1 : decode cX4_owes 1 = .ok (.iload_n 1, 1) := by decide +kernel
theorem dX4_owes_2 : decode cX4_owes 2 = .ok (.invokevirtual 58, 3) := by decide +kernel
theorem dX4_owes_5 : decode cX4_owes 5 = .ok (.aload_n 0, 1) := by decide +kernel
theorem dX4_owes_6 : decode cX4_owes 6 = .ok (.iload_n 2, 1) := by decide +kernel
theorem dX4_owes_7 : decode cX4_owes 7 = .ok (.invokevirtual 58, 3) := by decide +kernel
theorem dX4_owes_10 : decode cX4_owes 10 = .ok (.aload_n 0, 1) := by decide +kernel
theorem dX4_owes_11 : decode cX4_owes 11 = .ok (.getfield 21, 3) := by decide +kernel
theorem dX4_owes_14 : decode cX4_owes 14 = .ok (.iload_n 1, 1) := by decide +kernel
theorem dX4_owes_15 : decode cX4_owes 15 = .ok (.iload_n 2, 1) := by decide +kernel
theorem dX4_owes_16 : decode cX4_owes 16 = .ok (.invokevirtual 119, 3) := by decide +kernel
theorem dX4_owes_19 : decode cX4_owes 19 = .ok (.ireturn, 1) := by decide +kernel
theorem dX4_pass_0 : decode cX4_pass 0 = .ok (.iload_n 1, 1) := by decide +kernel
theorem dX4_pass_1 : decode cX4_pass 1 = .ok (.iconst 1, 1) := by decide +kernel
theorem dX4_pass_2 : decode cX4_pass 2 = .ok (.bipush 100, 2) := by decide +kernel
theorem dX4_pass_4 : decode cX4_pass 4 = .ok (.invokestatic 28, 3) := by decide +kernel
theorem dX4_pass_7 : decode cX4_pass 7 = .ok (.invokestatic 36, 3) := by decide +kernel
theorem dX4_pass_10 : decode cX4_pass 10 = .ok (.aload_n 0, 1) := by decide +kernel
theorem dX4_pass_11 : decode cX4_pass 11 = .ok (.getfield 21, 3) := by decide +kernel
theorem dX4_pass_14 : decode cX4_pass 14 = .ok (.iload_n 1, 1) := by decide +kernel
theorem dX4_pass_15 : decode cX4_pass 15 = .ok (.invokevirtual 122, 3) := by decide +kernel
theorem dX4_pass_18 : decode cX4_pass 18 = .ok (.ireturn, 1) := by decide +kernel
theorem dX4_count_0 : decode cX4_count 0 = .ok (.iload_n 1, 1) := by decide +kernel
theorem dX4_count_1 : decode cX4_count 1 = .ok (.iconst 0, 1) := by decide +kernel
theorem dX4_count_2 : decode cX4_count 2 = .ok (.bipush 10, 2) := by decide +kernel
theorem dX4_count_4 : decode cX4_count 4 = .ok (.invokestatic 28, 3) := by decide +kernel
theorem dX4_count_7 : decode cX4_count 7 = .ok (.invokestatic 32, 3) := by decide +kernel
theorem dX4_count_10 : decode cX4_count 10 = .ok (.aload_n 0, 1) := by decide +kernel
theorem dX4_count_11 : decode cX4_count 11 = .ok (.getfield 21, 3) := by decide +kernel
theorem dX4_count_14 : decode cX4_count 14 = .ok (.iload_n 1, 1) := by decide +kernel
theorem dX4_count_15 : decode cX4_count 15 = .ok (.invokevirtual 125, 3) := by decide +kernel
theorem dX4_count_18 : decode cX4_count 18 = .ok (.ireturn, 1) := by decide +kernel
theorem dX4_foresee_0 : decode cX4_foresee 0 = .ok (.iload_n 1, 1) := by decide +kernel
theorem dX4_foresee_1 : decode cX4_foresee 1 = .ok (.iconst 1, 1) := by decide +kernel
theorem dX4_foresee_2 : decode cX4_foresee 2 = .ok (.bipush 100, 2) := by decide +kernel
theorem dX4_foresee_4 : decode cX4_foresee 4 = .ok (.invokestatic 28, 3) := by decide +kernel
theorem dX4_foresee_7 : decode cX4_foresee 7 = .ok (.invokestatic 36, 3) := by decide +kernel
theorem dX4_foresee_10 : decode cX4_foresee 10 = .ok (.iload_n 2, 1) := by decide +kernel
theorem dX4_foresee_11 : decode cX4_foresee 11 = .ok (.iconst 0, 1) := by decide +kernel
theorem dX4_foresee_12 : decode cX4_foresee 12 = .ok (.iconst 2, 1) := by decide +kernel
theorem dX4_foresee_13 : decode cX4_foresee 13 = .ok (.invokestatic 28, 3) := by decide +kernel
theorem dX4_foresee_16 : decode cX4_foresee 16 = .ok (.invokestatic 32, 3) := by decide +kernel
theorem dX4_foresee_19 : decode cX4_foresee 19 = .ok (.aload_n 0, 1) := by decide +kernel
theorem dX4_foresee_20 : decode cX4_foresee 20 = .ok (.getfield 25, 3) := by decide +kernel
theorem dX4_foresee_23 : decode cX4_foresee 23 = .ok (.aload_n 0, 1) := by decide +kernel
theorem dX4_foresee_24 : decode cX4_foresee 24 = .ok (.getfield 21, 3) := by decide +kernel
theorem dX4_foresee_27 : decode cX4_foresee 27 = .ok (.invokevirtual 128, 3) := by decide +kernel
theorem dX4_foresee_30 : decode cX4_foresee 30 = .ok (.aload_n 0, 1) := by decide +kernel
theorem dX4_foresee_31 : decode cX4_foresee 31 = .ok (.getfield 25, 3) := by decide +kernel
theorem dX4_foresee_34 : decode cX4_foresee 34 = .ok (.iload_n 1, 1) := by decide +kernel
theorem dX4_foresee_35 : decode cX4_foresee 35 = .ok (.invokevirtual 122, 3) := by decide +kernel
theorem dX4_foresee_38 : decode cX4_foresee 38 = .ok (.istore_n 3, 1) := by decide +kernel
theorem dX4_foresee_39 : decode cX4_foresee 39 = .ok (.iload_n 2, 1) := by decide +kernel
theorem dX4_foresee_40 : decode cX4_foresee 40 = .ok (.lookupswitch 38 #[(0, 28), (1, 30)], 28) := by decide +kernel
theorem dX4_foresee_68 : decode cX4_foresee 68 = .ok (.iload_n 3, 1) := by decide +kernel
theorem dX4_foresee_69 : decode cX4_foresee 69 = .ok (.ireturn, 1) := by decide +kernel
theorem dX4_foresee_70 : decode cX4_foresee 70 = .ok (.aload_n 0, 1) := by decide +kernel
theorem dX4_foresee_71 : decode cX4_foresee 71 = .ok (.getfield 25, 3) := by decide +kernel
theorem dX4_foresee_74 : decode cX4_foresee 74 = .ok (.invokevirtual 132, 3) := by decide +kernel
theorem dX4_foresee_77 : decode cX4_foresee 77 = .ok (.ireturn, 1) := by decide +kernel
theorem dX4_foresee_78 : decode cX4_foresee 78 = .ok (.aload_n 0, 1) := by decide +kernel
theorem dX4_foresee_79 : decode cX4_foresee 79 = .ok (.getfield 25, 3) := by decide +kernel
theorem dX4_foresee_82 : decode cX4_foresee 82 = .ok (.getfield 136, 3) := by decide +kernel
theorem dX4_foresee_85 : decode cX4_foresee 85 = .ok (.aload_n 0, 1) := by decide +kernel
theorem dX4_foresee_86 : decode cX4_foresee 86 = .ok (.getfield 21, 3) := by decide +kernel
theorem dX4_foresee_89 : decode cX4_foresee 89 = .ok (.getfield 136, 3) := by decide +kernel
theorem dX4_foresee_92 : decode cX4_foresee 92 = .ok (.isub, 1) := by decide +kernel
theorem dX4_foresee_93 : decode cX4_foresee 93 = .ok (.ireturn, 1) := by decide +kernel
theorem dX4_lasts_0 : decode cX4_lasts 0 = .ok (.aload_n 0, 1) := by decide +kernel
theorem dX4_lasts_1 : decode cX4_lasts 1 = .ok (.iload_n 1, 1) := by decide +kernel
theorem dX4_lasts_2 : decode cX4_lasts 2 = .ok (.invokevirtual 58, 3) := by decide +kernel
theorem dX4_lasts_5 : decode cX4_lasts 5 = .ok (.aload_n 0, 1) := by decide +kernel
theorem dX4_lasts_6 : decode cX4_lasts 6 = .ok (.getfield 25, 3) := by decide +kernel
theorem dX4_lasts_9 : decode cX4_lasts 9 = .ok (.aload_n 0, 1) := by decide +kernel
theorem dX4_lasts_10 : decode cX4_lasts 10 = .ok (.getfield 21, 3) := by decide +kernel
theorem dX4_lasts_13 : decode cX4_lasts 13 = .ok (.invokevirtual 128, 3) := by decide +kernel
theorem dX4_lasts_16 : decode cX4_lasts 16 = .ok (.aload_n 0, 1) := by decide +kernel
theorem dX4_lasts_17 : decode cX4_lasts 17 = .ok (.getfield 25, 3) := by decide +kernel
theorem dX4_lasts_20 : decode cX4_lasts 20 = .ok (.iload_n 1, 1) := by decide +kernel
theorem dX4_lasts_21 : decode cX4_lasts 21 = .ok (.sipush 200, 3) := by decide +kernel
theorem dX4_lasts_24 : decode cX4_lasts 24 = .ok (.invokevirtual 139, 3) := by decide +kernel
theorem dX4_lasts_27 : decode cX4_lasts 27 = .ok (.ireturn, 1) := by decide +kernel
theorem dX4_full_0 : decode cX4_full 0 = .ok (.aload_n 0, 1) := by decide +kernel
theorem dX4_full_1 : decode cX4_full 1 = .ok (.getfield 21, 3) := by decide +kernel
theorem dX4_full_4 : decode cX4_full 4 = .ok (.invokevirtual 148, 3) := by decide +kernel
theorem dX4_full_7 : decode cX4_full 7 = .ok (.istore_n 1, 1) := by decide +kernel
theorem dX4_full_8 : decode cX4_full 8 = .ok (.iload_n 1, 1) := by decide +kernel
theorem dX4_full_9 : decode cX4_full 9 = .ok (.ifCond .le 17, 3) := by decide +kernel
theorem dX4_full_12 : decode cX4_full 12 = .ok (.aload_n 0, 1) := by decide +kernel
theorem dX4_full_13 : decode cX4_full 13 = .ok (.getfield 21, 3) := by decide +kernel
theorem dX4_full_16 : decode cX4_full 16 = .ok (.invokevirtual 132, 3) := by decide +kernel
theorem dX4_full_19 : decode cX4_full 19 = .ok (.i2d, 1) := by decide +kernel
theorem dX4_full_20 : decode cX4_full 20 = .ok (.iload_n 1, 1) := by decide +kernel
theorem dX4_full_21 : decode cX4_full 21 = .ok (.i2d, 1) := by decide +kernel
theorem dX4_full_22 : decode cX4_full 22 = .ok (.ddiv, 1) := by decide +kernel
theorem dX4_full_23 : decode cX4_full 23 = .ok (.goto 4, 3) := by decide +kernel
theorem dX4_full_26 : decode cX4_full 26 = .ok (.dconst 0, 1) := by decide +kernel
theorem dX4_full_27 : decode cX4_full 27 = .ok (.dreturn, 1) := by decide +kernel
theorem dX4_isWithin_0 : decode cX4_isWithin 0 = .ok (.iload_n 0, 1) := by decide +kernel
theorem dX4_isWithin_1 : decode cX4_isWithin 1 = .ok (.iload_n 1, 1) := by decide +kernel
theorem dX4_isWithin_2 : decode cX4_isWithin 2 = .ok (.if_icmp .lt 12, 3) := by decide +kernel
theorem dX4_isWithin_5 : decode cX4_isWithin 5 = .ok (.iload_n 0, 1) := by decide +kernel
theorem dX4_isWithin_6 : decode cX4_isWithin 6 = .ok (.iload_n 2, 1) := by decide +kernel
theorem dX4_isWithin_7 : decode cX4_isWithin 7 = .ok (.if_icmp .gt 7, 3) := by decide +kernel
theorem dX4_isWithin_10 : decode cX4_isWithin 10 = .ok (.iconst 1, 1) := by decide +kernel
theorem dX4_isWithin_11 : decode cX4_isWithin 11 = .ok (.goto 4, 3) := by decide +kernel
theorem dX4_isWithin_14 : decode cX4_isWithin 14 = .ok (.iconst 0, 1) := by decide +kernel
theorem dX4_isWithin_15 : decode cX4_isWithin 15 = .ok (.ireturn, 1) := by decide +kernel
theorem dX4_needHouse_0 : decode cX4_needHouse 0 = .ok (.aload_n 0, 1) := by decide +kernel
theorem dX4_needHouse_1 : decode cX4_needHouse 1 = .ok (.getfield 21, 3) := by decide +kernel
theorem dX4_needHouse_4 : decode cX4_needHouse 4 = .ok (.iload_n 1, 1) := by decide +kernel
theorem dX4_needHouse_5 : decode cX4_needHouse 5 = .ok (.invokevirtual 62, 3) := by decide +kernel
theorem dX4_needHouse_8 : decode cX4_needHouse 8 = .ok (.ifCond .ne 13, 3) := by decide +kernel
theorem dX4_needHouse_11 : decode cX4_needHouse 11 = .ok (.new 169, 3) := by decide +kernel
theorem dX4_needHouse_14 : decode cX4_needHouse 14 = .ok (.dup, 1) := by decide +kernel
theorem dX4_needHouse_15 : decode cX4_needHouse 15 = .ok (.ldc 171, 2) := by decide +kernel
theorem dX4_needHouse_17 : decode cX4_needHouse 17 = .ok (.invokespecial 173, 3) := by decide +kernel
theorem dX4_needHouse_20 : decode cX4_needHouse 20 = .ok (.athrow, 1) := by decide +kernel
theorem dX4_needHouse_21 : decode cX4_needHouse 21 = .ok (.return_, 1) := by decide +kernel
theorem dX4_needPipe_0 : decode cX4_needPipe 0 = .ok (.aload_n 0, 1) := by decide +kernel
theorem dX4_needPipe_1 : decode cX4_needPipe 1 = .ok (.getfield 21, 3) := by decide +kernel
theorem dX4_needPipe_4 : decode cX4_needPipe 4 = .ok (.iload_n 1, 1) := by decide +kernel
theorem dX4_needPipe_5 : decode cX4_needPipe 5 = .ok (.invokevirtual 176, 3) := by decide +kernel
theorem dX4_needPipe_8 : decode cX4_needPipe 8 = .ok (.ifCond .ne 13, 3) := by decide +kernel
theorem dX4_needPipe_11 : decode cX4_needPipe 11 = .ok (.new 169, 3) := by decide +kernel
theorem dX4_needPipe_14 : decode cX4_needPipe 14 = .ok (.dup, 1) := by decide +kernel
theorem dX4_needPipe_15 : decode cX4_needPipe 15 = .ok (.ldc 179, 2) := by decide +kernel
theorem dX4_needPipe_17 : decode cX4_needPipe 17 = .ok (.invokespecial 173, 3) := by decide +kernel
theorem dX4_needPipe_20 : decode cX4_needPipe 20 = .ok (.athrow, 1) := by decide +kernel
theorem dX4_needPipe_21 : decode cX4_needPipe 21 = .ok (.return_, 1) := by decide +kernel
theorem dX4_needIndex_0 : decode cX4_needIndex 0 = .ok (.iload_n 0, 1) := by decide +kernel
theorem dX4_needIndex_1 : decode cX4_needIndex 1 = .ok (.ifCond .ne 13, 3) := by decide +kernel
theorem dX4_needIndex_4 : decode cX4_needIndex 4 = .ok (.new 169, 3) := by decide +kernel
theorem dX4_needIndex_7 : decode cX4_needIndex 7 = .ok (.dup, 1) := by decide +kernel
theorem dX4_needIndex_8 : decode cX4_needIndex 8 = .ok (.ldc 181, 2) := by decide +kernel
theorem dX4_needIndex_10 : decode cX4_needIndex 10 = .ok (.invokespecial 173, 3) := by decide +kernel
theorem dX4_needIndex_13 : decode cX4_needIndex 13 = .ok (.athrow, 1) := by decide +kernel
theorem dX4_needIndex_14 : decode cX4_needIndex 14 = .ok (.return_, 1) := by decide +kernel
theorem dX4_needArgument_0 : decode cX4_needArgument 0 = .ok (.iload_n 0, 1) := by decide +kernel
theorem dX4_needArgument_1 : decode cX4_needArgument 1 = .ok (.ifCond .ne 13, 3) := by decide +kernel
theorem dX4_needArgument_4 : decode cX4_needArgument 4 = .ok (.new 183, 3) := by decide +kernel
theorem dX4_needArgument_7 : decode cX4_needArgument 7 = .ok (.dup, 1) := by decide +kernel
theorem dX4_needArgument_8 : decode cX4_needArgument 8 = .ok (.ldc 185, 2) := by decide +kernel
theorem dX4_needArgument_10 : decode cX4_needArgument 10 = .ok (.invokespecial 187, 3) := by decide +kernel
theorem dX4_needArgument_13 : decode cX4_needArgument 13 = .ok (.athrow, 1) := by decide +kernel
theorem dX4_needArgument_14 : decode cX4_needArgument 14 = .ok (.return_, 1) := by decide +kernel
theorem dX4_needState_0 : decode cX4_needState 0 = .ok (.iload_n 0, 1) := by decide +kernel
theorem dX4_needState_1 : decode cX4_needState 1 = .ok (.ifCond .ne 13, 3) := by decide +kernel
theorem dX4_needState_4 : decode cX4_needState 4 = .ok (.new 188, 3) := by decide +kernel
theorem dX4_needState_7 : decode cX4_needState 7 = .ok (.dup, 1) := by decide +kernel
theorem dX4_needState_8 : decode cX4_needState 8 = .ok (.ldc 190, 2) := by decide +kernel
theorem dX4_needState_10 : decode cX4_needState 10 = .ok (.invokespecial 192, 3) := by decide +kernel
theorem dX4_needState_13 : decode cX4_needState 13 = .ok (.athrow, 1) := by decide +kernel
theorem dX4_needState_14 : decode cX4_needState 14 = .ok (.return_, 1) := by decide +kernel
