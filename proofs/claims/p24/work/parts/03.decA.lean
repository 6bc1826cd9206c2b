theorem dX0_init_0 : decode cX0_init 0 = .ok (.aload_n 0, 1) := by decide +kernel
theorem dX0_init_1 : decode cX0_init 1 = .ok (.invokespecial 3, 3) := by decide +kernel
theorem dX0_init_4 : decode cX0_init 4 = .ok (.aload_n 0, 1) := by decide +kernel
theorem dX0_init_5 : decode cX0_init 5 = .ok (.iconst (-1), 1) := by decide +kernel
theorem dX0_init_6 : decode cX0_init 6 = .ok (.putfield 9, 3) := by decide +kernel
theorem dX0_init_9 : decode cX0_init 9 = .ok (.return_, 1) := by decide +kernel
theorem dX0_copy_0 : decode cX0_copy 0 = .ok (.aload_n 0, 1) := by decide +kernel
theorem dX0_copy_1 : decode cX0_copy 1 = .ok (.aload_n 1, 1) := by decide +kernel
theorem dX0_copy_2 : decode cX0_copy 2 = .ok (.getfield 15, 3) := by decide +kernel
theorem dX0_copy_5 : decode cX0_copy 5 = .ok (.putfield 15, 3) := by decide +kernel
theorem dX0_copy_8 : decode cX0_copy 8 = .ok (.aload_n 0, 1) := by decide +kernel
theorem dX0_copy_9 : decode cX0_copy 9 = .ok (.aload_n 1, 1) := by decide +kernel
theorem dX0_copy_10 : decode cX0_copy 10 = .ok (.getfield 18, 3) := by decide +kernel
theorem dX0_copy_13 : decode cX0_copy 13 = .ok (.putfield 18, 3) := by decide +kernel
theorem dX0_copy_16 : decode cX0_copy 16 = .ok (.aload_n 0, 1) := by decide +kernel
theorem dX0_copy_17 : decode cX0_copy 17 = .ok (.aload_n 1, 1) := by decide +kernel
theorem dX0_copy_18 : decode cX0_copy 18 = .ok (.getfield 21, 3) := by decide +kernel
theorem dX0_copy_21 : decode cX0_copy 21 = .ok (.putfield 21, 3) := by decide +kernel
theorem dX0_copy_24 : decode cX0_copy 24 = .ok (.aload_n 0, 1) := by decide +kernel
theorem dX0_copy_25 : decode cX0_copy 25 = .ok (.aload_n 1, 1) := by decide +kernel
theorem dX0_copy_26 : decode cX0_copy 26 = .ok (.getfield 24, 3) := by decide +kernel
theorem dX0_copy_29 : decode cX0_copy 29 = .ok (.putfield 24, 3) := by decide +kernel
theorem dX0_copy_32 : decode cX0_copy 32 = .ok (.aload_n 0, 1) := by decide +kernel
theorem dX0_copy_33 : decode cX0_copy 33 = .ok (.aload_n 1, 1) := by decide +kernel
theorem dX0_copy_34 : decode cX0_copy 34 = .ok (.getfield 27, 3) := by decide +kernel
theorem dX0_copy_37 : decode cX0_copy 37 = .ok (.putfield 27, 3) := by decide +kernel
theorem dX0_copy_40 : decode cX0_copy 40 = .ok (.aload_n 0, 1) := by decide +kernel
theorem dX0_copy_41 : decode cX0_copy 41 = .ok (.aload_n 1, 1) := by decide +kernel
theorem dX0_copy_42 : decode cX0_copy 42 = .ok (.getfield 30, 3) := by decide +kernel
theorem dX0_copy_45 : decode cX0_copy 45 = .ok (.putfield 30, 3) := by decide +kernel
theorem dX0_copy_48 : decode cX0_copy 48 = .ok (.aload_n 0, 1) := by decide +kernel
theorem dX0_copy_49 : decode cX0_copy 49 = .ok (.aload_n 1, 1) := by decide +kernel
theorem dX0_copy_50 : decode cX0_copy 50 = .ok (.getfield 9, 3) := by decide +kernel
theorem dX0_copy_53 : decode cX0_copy 53 = .ok (.putfield 9, 3) := by decide +kernel
theorem dX0_copy_56 : decode cX0_copy 56 = .ok (.aload_n 0, 1) := by decide +kernel
theorem dX0_copy_57 : decode cX0_copy 57 = .ok (.aload_n 1, 1) := by decide +kernel
theorem dX0_copy_58 : decode cX0_copy 58 = .ok (.getfield 33, 3) := by decide +kernel
theorem dX0_copy_61 : decode cX0_copy 61 = .ok (.putfield 33, 3) := by decide +kernel
theorem dX0_copy_64 : decode cX0_copy 64 = .ok (.aload_n 0, 1) := by decide +kernel
theorem dX0_copy_65 : decode cX0_copy 65 = .ok (.aload_n 1, 1) := by decide +kernel
theorem dX0_copy_66 : decode cX0_copy 66 = .ok (.getfield 36, 3) := by decide +kernel
theorem dX0_copy_69 : decode cX0_copy 69 = .ok (.putfield 36, 3) := by decide +kernel
theorem dX0_copy_72 : decode cX0_copy 72 = .ok (.aload_n 0, 1) := by decide +kernel
theorem dX0_copy_73 : decode cX0_copy 73 = .ok (.aload_n 1, 1) := by decide +kernel
theorem dX0_copy_74 : decode cX0_copy 74 = .ok (.getfield 39, 3) := by decide +kernel
theorem dX0_copy_77 : decode cX0_copy 77 = .ok (.putfield 39, 3) := by decide +kernel
theorem dX0_copy_80 : decode cX0_copy 80 = .ok (.return_, 1) := by decide +kernel
theorem dX0_fact_0 : decode cX0_fact 0 = .ok (.iload_n 1, 1) := by decide +kernel
theorem dX0_fact_1 : decode cX0_fact 1 = .ok (.tableswitch 96 0 8 #[51, 56, 61, 66, 71, 76, 81, 86, 91], 51) := by decide +kernel
theorem dX0_fact_52 : decode cX0_fact 52 = .ok (.aload_n 0, 1) := by decide +kernel
theorem dX0_fact_53 : decode cX0_fact 53 = .ok (.getfield 15, 3) := by decide +kernel
theorem dX0_fact_56 : decode cX0_fact 56 = .ok (.ireturn, 1) := by decide +kernel
theorem dX0_fact_57 : decode cX0_fact 57 = .ok (.aload_n 0, 1) := by decide +kernel
theorem dX0_fact_58 : decode cX0_fact 58 = .ok (.getfield 18, 3) := by decide +kernel
theorem dX0_fact_61 : decode cX0_fact 61 = .ok (.ireturn, 1) := by decide +kernel
theorem dX0_fact_62 : decode cX0_fact 62 = .ok (.aload_n 0, 1) := by decide +kernel
theorem dX0_fact_63 : decode cX0_fact 63 = .ok (.getfield 21, 3) := by decide +kernel
theorem dX0_fact_66 : decode cX0_fact 66 = .ok (.ireturn, 1) := by decide +kernel
theorem dX0_fact_67 : decode cX0_fact 67 = .ok (.aload_n 0, 1) := by decide +kernel
theorem dX0_fact_68 : decode cX0_fact 68 = .ok (.getfield 24, 3) := by decide +kernel
theorem dX0_fact_71 : decode cX0_fact 71 = .ok (.ireturn, 1) := by decide +kernel
theorem dX0_fact_72 : decode cX0_fact 72 = .ok (.aload_n 0, 1) := by decide +kernel
theorem dX0_fact_73 : decode cX0_fact 73 = .ok (.getfield 27, 3) := by decide +kernel
theorem dX0_fact_76 : decode cX0_fact 76 = .ok (.ireturn, 1) := by decide +kernel
theorem dX0_fact_77 : decode cX0_fact 77 = .ok (.aload_n 0, 1) := by decide +kernel
theorem dX0_fact_78 : decode cX0_fact 78 = .ok (.getfield 30, 3) := by decide +kernel
theorem dX0_fact_81 : decode cX0_fact 81 = .ok (.ireturn, 1) := by decide +kernel
theorem dX0_fact_82 : decode cX0_fact 82 = .ok (.aload_n 0, 1) := by decide +kernel
theorem dX0_fact_83 : decode cX0_fact 83 = .ok (.getfield 9, 3) := by decide +kernel
theorem dX0_fact_86 : decode cX0_fact 86 = .ok (.ireturn, 1) := by decide +kernel
theorem dX0_fact_87 : decode cX0_fact 87 = .ok (.aload_n 0, 1) := by decide +kernel
theorem dX0_fact_88 : decode cX0_fact 88 = .ok (.getfield 33, 3) := by decide +kernel
theorem dX0_fact_91 : decode cX0_fact 91 = .ok (.ireturn, 1) := by decide +kernel
theorem dX0_fact_92 : decode cX0_fact 92 = .ok (.aload_n 0, 1) := by decide +kernel
theorem dX0_fact_93 : decode cX0_fact 93 = .ok (.getfield 36, 3) := by decide +kernel
theorem dX0_fact_96 : decode cX0_fact 96 = .ok (.ireturn, 1) := by decide +kernel
theorem dX0_fact_97 : decode cX0_fact 97 = .ok (.aload_n 0, 1) := by decide +kernel
theorem dX0_fact_98 : decode cX0_fact 98 = .ok (.getfield 39, 3) := by decide +kernel
theorem dX0_fact_101 : decode cX0_fact 101 = .ok (.ireturn, 1) := by decide +kernel
theorem dX0_runOff_0 : decode cX0_runOff 0 = .ok (.aload_n 0, 1) := by decide +kernel
theorem dX0_runOff_1 : decode cX0_runOff 1 = .ok (.getfield 15, 3) := by decide +kernel
theorem dX0_runOff_4 : decode cX0_runOff 4 = .ok (.iload_n 1, 1) := by decide +kernel
theorem dX0_runOff_5 : decode cX0_runOff 5 = .ok (.imul, 1) := by decide +kernel
theorem dX0_runOff_6 : decode cX0_runOff 6 = .ok (.bipush 10, 2) := by decide +kernel
theorem dX0_runOff_8 : decode cX0_runOff 8 = .ok (.aload_n 0, 1) := by decide +kernel
theorem dX0_runOff_9 : decode cX0_runOff 9 = .ok (.getfield 30, 3) := by decide +kernel
theorem dX0_runOff_12 : decode cX0_runOff 12 = .ok (.isub, 1) := by decide +kernel
theorem dX0_runOff_13 : decode cX0_runOff 13 = .ok (.imul, 1) := by decide +kernel
theorem dX0_runOff_14 : decode cX0_runOff 14 = .ok (.bipush 10, 2) := by decide +kernel
theorem dX0_runOff_16 : decode cX0_runOff 16 = .ok (.idiv, 1) := by decide +kernel
theorem dX0_runOff_17 : decode cX0_runOff 17 = .ok (.ireturn, 1) := by decide +kernel
theorem dX0_takeIn_0 : decode cX0_takeIn 0 = .ok (.iload_n 1, 1) := by decide +kernel
theorem dX0_takeIn_1 : decode cX0_takeIn 1 = .ok (.aload_n 0, 1) := by decide +kernel
theorem dX0_takeIn_2 : decode cX0_takeIn 2 = .ok (.getfield 18, 3) := by decide +kernel
theorem dX0_takeIn_5 : decode cX0_takeIn 5 = .ok (.aload_n 0, 1) := by decide +kernel
theorem dX0_takeIn_6 : decode cX0_takeIn 6 = .ok (.getfield 21, 3) := by decide +kernel
theorem dX0_takeIn_9 : decode cX0_takeIn 9 = .ok (.isub, 1) := by decide +kernel
theorem dX0_takeIn_10 : decode cX0_takeIn 10 = .ok (.invokestatic 42, 3) := by decide +kernel
theorem dX0_takeIn_13 : decode cX0_takeIn 13 = .ok (.istore_n 2, 1) := by decide +kernel
theorem dX0_takeIn_14 : decode cX0_takeIn 14 = .ok (.aload_n 0, 1) := by decide +kernel
theorem dX0_takeIn_15 : decode cX0_takeIn 15 = .ok (.dup, 1) := by decide +kernel
theorem dX0_takeIn_16 : decode cX0_takeIn 16 = .ok (.getfield 21, 3) := by decide +kernel
theorem dX0_takeIn_19 : decode cX0_takeIn 19 = .ok (.iload_n 2, 1) := by decide +kernel
theorem dX0_takeIn_20 : decode cX0_takeIn 20 = .ok (.iadd, 1) := by decide +kernel
theorem dX0_takeIn_21 : decode cX0_takeIn 21 = .ok (.putfield 21, 3) := by decide +kernel
theorem dX0_takeIn_24 : decode cX0_takeIn 24 = .ok (.iload_n 1, 1) := by decide +kernel
theorem dX0_takeIn_25 : decode cX0_takeIn 25 = .ok (.iload_n 2, 1) := by decide +kernel
theorem dX0_takeIn_26 : decode cX0_takeIn 26 = .ok (.isub, 1) := by decide +kernel
theorem dX0_takeIn_27 : decode cX0_takeIn 27 = .ok (.ireturn, 1) := by decide +kernel
theorem dX0_drink_0 : decode cX0_drink 0 = .ok (.iconst 3, 1) := by decide +kernel
theorem dX0_drink_1 : decode cX0_drink 1 = .ok (.aload_n 0, 1) := by decide +kernel
theorem dX0_drink_2 : decode cX0_drink 2 = .ok (.getfield 24, 3) := by decide +kernel
theorem dX0_drink_5 : decode cX0_drink 5 = .ok (.imul, 1) := by decide +kernel
theorem dX0_drink_6 : decode cX0_drink 6 = .ok (.istore_n 1, 1) := by decide +kernel
theorem dX0_drink_7 : decode cX0_drink 7 = .ok (.iload_n 1, 1) := by decide +kernel
theorem dX0_drink_8 : decode cX0_drink 8 = .ok (.aload_n 0, 1) := by decide +kernel
theorem dX0_drink_9 : decode cX0_drink 9 = .ok (.getfield 21, 3) := by decide +kernel
theorem dX0_drink_12 : decode cX0_drink 12 = .ok (.invokestatic 42, 3) := by decide +kernel
theorem dX0_drink_15 : decode cX0_drink 15 = .ok (.istore_n 2, 1) := by decide +kernel
theorem dX0_drink_16 : decode cX0_drink 16 = .ok (.aload_n 0, 1) := by decide +kernel
theorem dX0_drink_17 : decode cX0_drink 17 = .ok (.dup, 1) := by decide +kernel
theorem dX0_drink_18 : decode cX0_drink 18 = .ok (.getfield 21, 3) := by decide +kernel
theorem dX0_drink_21 : decode cX0_drink 21 = .ok (.iload_n 2, 1) := by decide +kernel
theorem dX0_drink_22 : decode cX0_drink 22 = .ok (.isub, 1) := by decide +kernel
theorem dX0_drink_23 : decode cX0_drink 23 = .ok (.putfield 21, 3) := by decide +kernel
theorem dX0_drink_26 : decode cX0_drink 26 = .ok (.aload_n 0, 1) := by decide +kernel
theorem dX0_drink_27 : decode cX0_drink 27 = .ok (.dup, 1) := by decide +kernel
theorem dX0_drink_28 : decode cX0_drink 28 = .ok (.getfield 33, 3) := by decide +kernel
theorem dX0_drink_31 : decode cX0_drink 31 = .ok (.iload_n 1, 1) := by decide +kernel
theorem dX0_drink_32 : decode cX0_drink 32 = .ok (.iload_n 2, 1) := by decide +kernel
theorem dX0_drink_33 : decode cX0_drink 33 = .ok (.isub, 1) := by decide +kernel
theorem dX0_drink_34 : decode cX0_drink 34 = .ok (.iadd, 1) := by decide +kernel
theorem dX0_drink_35 : decode cX0_drink 35 = .ok (.putfield 33, 3) := by decide +kernel
theorem dX0_drink_38 : decode cX0_drink 38 = .ok (.iload_n 2, 1) := by decide +kernel
theorem dX0_drink_39 : decode cX0_drink 39 = .ok (.iload_n 1, 1) := by decide +kernel
theorem dX0_drink_40 : decode cX0_drink 40 = .ok (.if_icmp .ge 13, 3) := by decide +kernel
theorem dX0_drink_43 : decode cX0_drink 43 = .ok (.aload_n 0, 1) := by decide +kernel
theorem dX0_drink_44 : decode cX0_drink 44 = .ok (.dup, 1) := by decide +kernel
theorem dX0_drink_45 : decode cX0_drink 45 = .ok (.getfield 39, 3) := by decide +kernel
theorem dX0_drink_48 : decode cX0_drink 48 = .ok (.iconst 1, 1) := by decide +kernel
theorem dX0_drink_49 : decode cX0_drink 49 = .ok (.iadd, 1) := by decide +kernel
theorem dX0_drink_50 : decode cX0_drink 50 = .ok (.putfield 39, 3) := by decide +kernel
theorem dX0_drink_53 : decode cX0_drink 53 = .ok (.iload_n 2, 1) := by decide +kernel
theorem dX0_drink_54 : decode cX0_drink 54 = .ok (.ireturn, 1) := by decide +kernel
theorem dX0_waterGarden_0 : decode cX0_waterGarden 0 = .ok (.iconst 2, 1) := by decide +kernel
theorem dX0_waterGarden_1 : decode cX0_waterGarden 1 = .ok (.aload_n 0, 1) := by decide +kernel
theorem dX0_waterGarden_2 : decode cX0_waterGarden 2 = .ok (.getfield 21, 3) := by decide +kernel
theorem dX0_waterGarden_5 : decode cX0_waterGarden 5 = .ok (.imul, 1) := by decide +kernel
theorem dX0_waterGarden_6 : decode cX0_waterGarden 6 = .ok (.aload_n 0, 1) := by decide +kernel
theorem dX0_waterGarden_7 : decode cX0_waterGarden 7 = .ok (.getfield 18, 3) := by decide +kernel
theorem dX0_waterGarden_10 : decode cX0_waterGarden 10 = .ok (.isub, 1) := by decide +kernel
theorem dX0_waterGarden_11 : decode cX0_waterGarden 11 = .ok (.istore_n 1, 1) := by decide +kernel
theorem dX0_waterGarden_12 : decode cX0_waterGarden 12 = .ok (.iload_n 1, 1) := by decide +kernel
theorem dX0_waterGarden_13 : decode cX0_waterGarden 13 = .ok (.ifCond .le 34, 3) := by decide +kernel
theorem dX0_waterGarden_16 : decode cX0_waterGarden 16 = .ok (.aload_n 0, 1) := by decide +kernel
theorem dX0_waterGarden_17 : decode cX0_waterGarden 17 = .ok (.getfield 27, 3) := by decide +kernel
theorem dX0_waterGarden_20 : decode cX0_waterGarden 20 = .ok (.iload_n 1, 1) := by decide +kernel
theorem dX0_waterGarden_21 : decode cX0_waterGarden 21 = .ok (.iconst 2, 1) := by decide +kernel
theorem dX0_waterGarden_22 : decode cX0_waterGarden 22 = .ok (.idiv, 1) := by decide +kernel
theorem dX0_waterGarden_23 : decode cX0_waterGarden 23 = .ok (.invokestatic 42, 3) := by decide +kernel
theorem dX0_waterGarden_26 : decode cX0_waterGarden 26 = .ok (.istore_n 2, 1) := by decide +kernel
theorem dX0_waterGarden_27 : decode cX0_waterGarden 27 = .ok (.aload_n 0, 1) := by decide +kernel
theorem dX0_waterGarden_28 : decode cX0_waterGarden 28 = .ok (.dup, 1) := by decide +kernel
theorem dX0_waterGarden_29 : decode cX0_waterGarden 29 = .ok (.getfield 21, 3) := by decide +kernel
theorem dX0_waterGarden_32 : decode cX0_waterGarden 32 = .ok (.iload_n 2, 1) := by decide +kernel
theorem dX0_waterGarden_33 : decode cX0_waterGarden 33 = .ok (.isub, 1) := by decide +kernel
theorem dX0_waterGarden_34 : decode cX0_waterGarden 34 = .ok (.putfield 21, 3) := by decide +kernel
theorem dX0_waterGarden_37 : decode cX0_waterGarden 37 = .ok (.aload_n 0, 1) := by decide +kernel
theorem dX0_waterGarden_38 : decode cX0_waterGarden 38 = .ok (.dup, 1) := by decide +kernel
theorem dX0_waterGarden_39 : decode cX0_waterGarden 39 = .ok (.getfield 36, 3) := by decide +kernel
theorem dX0_waterGarden_42 : decode cX0_waterGarden 42 = .ok (.iload_n 2, 1) := by decide +kernel
theorem dX0_waterGarden_43 : decode cX0_waterGarden 43 = .ok (.iadd, 1) := by decide +kernel
theorem dX0_waterGarden_44 : decode cX0_waterGarden 44 = .ok (.putfield 36, 3) := by decide +kernel
theorem dX0_waterGarden_47 : decode cX0_waterGarden 47 = .ok (.return_, 1) := by decide +kernel
theorem dX0_clog_0 : decode cX0_clog 0 = .ok (.aload_n 0, 1) := by decide +kernel
theorem dX0_clog_1 : decode cX0_clog 1 = .ok (.bipush 10, 2) := by decide +kernel
theorem dX0_clog_3 : decode cX0_clog 3 = .ok (.aload_n 0, 1) := by decide +kernel
theorem dX0_clog_4 : decode cX0_clog 4 = .ok (.getfield 30, 3) := by decide +kernel
theorem dX0_clog_7 : decode cX0_clog 7 = .ok (.iload_n 1, 1) := by decide +kernel
theorem dX0_clog_8 : decode cX0_clog 8 = .ok (.iadd, 1) := by decide +kernel
theorem dX0_clog_9 : decode cX0_clog 9 = .ok (.invokestatic 42, 3) := by decide +kernel
theorem dX0_clog_12 : decode cX0_clog 12 = .ok (.putfield 30, 3) := by decide +kernel
theorem dX0_clog_15 : decode cX0_clog 15 = .ok (.return_, 1) := by decide +kernel
theorem dJ9_floorMod_7cf53_0 : decode cJ9_floorMod_7cf53 0 = .ok (.iload_n 0, 1) := by decide +kernel
theorem dJ9_floorMod_7cf53_1 : decode cJ9_floorMod_7cf53 1 = .ok (.iload_n 1, 1) := by decide +kernel
theorem dJ9_floorMod_7cf53_2 : decode cJ9_floorMod_7cf53 2 = .ok (.irem, 1) := by decide +kernel
theorem dJ9_floorMod_7cf53_3 : decode cJ9_floorMod_7cf53 3 = .ok (.istore_n 2, 1) := by decide +kernel
theorem dJ9_floorMod_7cf53_4 : decode cJ9_floorMod_7cf53 4 = .ok (.iload_n 0, 1) := by decide +kernel
theorem dJ9_floorMod_7cf53_5 : decode cJ9_floorMod_7cf53 5 = .ok (.iload_n 1, 1) := by decide +kernel
theorem dJ9_floorMod_7cf53_6 : decode cJ9_floorMod_7cf53 6 = .ok (.ixor, 1) := by decide +kernel
theorem dJ9_floorMod_7cf53_7 : decode cJ9_floorMod_7cf53 7 = .ok (.ifCond .ge 11, 3) := by decide +kernel
theorem dJ9_floorMod_7cf53_10 : decode cJ9_floorMod_7cf53 10 = .ok (.iload_n 2, 1) := by decide +kernel
theorem dJ9_floorMod_7cf53_11 : decode cJ9_floorMod_7cf53 11 = .ok (.ifCond .eq 7, 3) := by decide +kernel
theorem dJ9_floorMod_7cf53_14 : decode cJ9_floorMod_7cf53 14 = .ok (.iload_n 2, 1) := by decide +kernel
theorem dJ9_floorMod_7cf53_15 : decode cJ9_floorMod_7cf53 15 = .ok (.iload_n 1, 1) := by decide +kernel
theorem dJ9_floorMod_7cf53_16 : decode cJ9_floorMod_7cf53 16 = .ok (.iadd, 1) := by decide +kernel
theorem dJ9_floorMod_7cf53_17 : decode cJ9_floorMod_7cf53 17 = .ok (.ireturn, 1) := by decide +kernel
theorem dJ9_floorMod_7cf53_18 : decode cJ9_floorMod_7cf53 18 = .ok (.iload_n 2, 1) := by decide +kernel
theorem dJ9_floorMod_7cf53_19 : decode cJ9_floorMod_7cf53 19 = .ok (.ireturn, 1) := by decide +kernel
theorem dJ9_abs_0f7a4_0 : decode cJ9_abs_0f7a4 0 = .ok (.iload_n 0, 1) := by decide +kernel
theorem dJ9_abs_0f7a4_1 : decode cJ9_abs_0f7a4 1 = .ok (.ifCond .ge 8, 3) := by decide +kernel
theorem dJ9_abs_0f7a4_4 : decode cJ9_abs_0f7a4 4 = .ok (.iload_n 0, 1) := by decide +kernel
theorem dJ9_abs_0f7a4_5 : decode cJ9_abs_0f7a4 5 = .ok (.ineg, 1) := by decide +kernel
theorem dJ9_abs_0f7a4_6 : decode cJ9_abs_0f7a4 6 = .ok (.goto 4, 3) := by decide +kernel
theorem dJ9_abs_0f7a4_9 : decode cJ9_abs_0f7a4 9 = .ok (.iload_n 0, 1) := by decide +kernel
theorem dJ9_abs_0f7a4_10 : decode cJ9_abs_0f7a4 10 = .ok (.ireturn, 1) := by decide +kernel
theorem dJ9_max_7cf53_0 : decode cJ9_max_7cf53 0 = .ok (.iload_n 0, 1) := by decide +kernel
theorem dJ9_max_7cf53_1 : decode cJ9_max_7cf53 1 = .ok (.iload_n 1, 1) := by decide +kernel
theorem dJ9_max_7cf53_2 : decode cJ9_max_7cf53 2 = .ok (.if_icmp .lt 7, 3) := by decide +kernel
theorem dJ9_max_7cf53_5 : decode cJ9_max_7cf53 5 = .ok (.iload_n 0, 1) := by decide +kernel
theorem dJ9_max_7cf53_6 : decode cJ9_max_7cf53 6 = .ok (.goto 4, 3) := by decide +kernel
theorem dJ9_max_7cf53_9 : decode cJ9_max_7cf53 9 = .ok (.iload_n 1, 1) := by decide +kernel
theorem dJ9_max_7cf53_10 : decode cJ9_max_7cf53 10 = .ok (.ireturn, 1) := by decide +kernel
theorem dJ9_min_7cf53_0 : decode cJ9_min_7cf53 0 = .ok (.iload_n 0, 1) := by decide +kernel
theorem dJ9_min_7cf53_1 : decode cJ9_min_7cf53 1 = .ok (.iload_n 1, 1) := by decide +kernel
theorem dJ9_min_7cf53_2 : decode cJ9_min_7cf53 2 = .ok (.if_icmp .gt 7, 3) := by decide +kernel
theorem dJ9_min_7cf53_5 : decode cJ9_min_7cf53 5 = .ok (.iload_n 0, 1) := by decide +kernel
theorem dJ9_min_7cf53_6 : decode cJ9_min_7cf53 6 = .ok (.goto 4, 3) := by decide +kernel
theorem dJ9_min_7cf53_9 : decode cJ9_min_7cf53 9 = .ok (.iload_n 1, 1) := by decide +kernel
theorem dJ9_min_7cf53_10 : decode cJ9_min_7cf53 10 = .ok (.ireturn, 1) := by decide +kernel
theorem dX1_init_0 : decode cX1_init 0 = .ok (.aload_n 0, 1) := by decide +kernel
theorem dX1_init_1 : decode cX1_init 1 = .ok (.invokespecial 1, 3) := by decide +kernel
theorem dX1_init_4 : decode cX1_init 4 = .ok (.return_, 1) := by decide +kernel
theorem dX1_copy_0 : decode cX1_copy 0 = .ok (.aload_n 0, 1) := by decide +kernel
theorem dX1_copy_1 : decode cX1_copy 1 = .ok (.aload_n 1, 1) := by decide +kernel
theorem dX1_copy_2 : decode cX1_copy 2 = .ok (.getfield 7, 3) := by decide +kernel
theorem dX1_copy_5 : decode cX1_copy 5 = .ok (.putfield 7, 3) := by decide +kernel
theorem dX1_copy_8 : decode cX1_copy 8 = .ok (.aload_n 0, 1) := by decide +kernel
theorem dX1_copy_9 : decode cX1_copy 9 = .ok (.aload_n 1, 1) := by decide +kernel
theorem dX1_copy_10 : decode cX1_copy 10 = .ok (.getfield 13, 3) := by decide +kernel
theorem dX1_copy_13 : decode cX1_copy 13 = .ok (.putfield 13, 3) := by decide +kernel
theorem dX1_copy_16 : decode cX1_copy 16 = .ok (.aload_n 0, 1) := by decide +kernel
theorem dX1_copy_17 : decode cX1_copy 17 = .ok (.aload_n 1, 1) := by decide +kernel
theorem dX1_copy_18 : decode cX1_copy 18 = .ok (.getfield 16, 3) := by decide +kernel
theorem dX1_copy_21 : decode cX1_copy 21 = .ok (.putfield 16, 3) := by decide +kernel
theorem dX1_copy_24 : decode cX1_copy 24 = .ok (.aload_n 0, 1) := by decide +kernel
theorem dX1_copy_25 : decode cX1_copy 25 = .ok (.aload_n 1, 1) := by decide +kernel
theorem dX1_copy_26 : decode cX1_copy 26 = .ok (.getfield 19, 3) := by decide +kernel
theorem dX1_copy_29 : decode cX1_copy 29 = .ok (.putfield 19, 3) := by decide +kernel
theorem dX1_copy_32 : decode cX1_copy 32 = .ok (.aload_n 0, 1) := by decide +kernel
theorem dX1_copy_33 : decode cX1_copy 33 = .ok (.aload_n 1, 1) := by decide +kernel
theorem dX1_copy_34 : decode cX1_copy 34 = .ok (.getfield 23, 3) := by decide +kernel
theorem dX1_copy_37 : decode cX1_copy 37 = .ok (.putfield 23, 3) := by decide +kernel
theorem dX1_copy_40 : decode cX1_copy 40 = .ok (.aload_n 0, 1) := by decide +kernel
theorem dX1_copy_41 : decode cX1_copy 41 = .ok (.aload_n 1, 1) := by decide +kernel
theorem dX1_copy_42 : decode cX1_copy 42 = .ok (.getfield 26, 3) := by decide +kernel
theorem dX1_copy_45 : decode cX1_copy 45 = .ok (.putfield 26, 3) := by decide +kernel
theorem dX1_copy_48 : decode cX1_copy 48 = .ok (.return_, 1) := by decide +kernel
theorem dX1_fact_0 : decode cX1_fact 0 = .ok (.iload_n 1, 1) := by decide +kernel
theorem dX1_fact_1 : decode cX1_fact 1 = .ok (.tableswitch 59 0 3 #[31, 36, 41, 46], 31) := by decide +kernel
theorem dX1_fact_32 : decode cX1_fact 32 = .ok (.aload_n 0, 1) := by decide +kernel
theorem dX1_fact_33 : decode cX1_fact 33 = .ok (.getfield 7, 3) := by decide +kernel
theorem dX1_fact_36 : decode cX1_fact 36 = .ok (.ireturn, 1) := by decide +kernel
theorem dX1_fact_37 : decode cX1_fact 37 = .ok (.aload_n 0, 1) := by decide +kernel
theorem dX1_fact_38 : decode cX1_fact 38 = .ok (.getfield 13, 3) := by decide +kernel
theorem dX1_fact_41 : decode cX1_fact 41 = .ok (.ireturn, 1) := by decide +kernel
theorem dX1_fact_42 : decode cX1_fact 42 = .ok (.aload_n 0, 1) := by decide +kernel
theorem dX1_fact_43 : decode cX1_fact 43 = .ok (.getfield 16, 3) := by decide +kernel
theorem dX1_fact_46 : decode cX1_fact 46 = .ok (.ireturn, 1) := by decide +kernel
theorem dX1_fact_47 : decode cX1_fact 47 = .ok (.aload_n 0, 1) := by decide +kernel
theorem dX1_fact_48 : decode cX1_fact 48 = .ok (.getfield 19, 3) := by decide +kernel
theorem dX1_fact_51 : decode cX1_fact 51 = .ok (.ifCond .eq 7, 3) := by decide +kernel
theorem dX1_fact_54 : decode cX1_fact 54 = .ok (.iconst 1, 1) := by decide +kernel
theorem dX1_fact_55 : decode cX1_fact 55 = .ok (.goto 4, 3) := by decide +kernel
theorem dX1_fact_58 : decode cX1_fact 58 = .ok (.iconst 0, 1) := by decide +kernel
theorem dX1_fact_59 : decode cX1_fact 59 = .ok (.ireturn, 1) := by decide +kernel
theorem dX1_fact_60 : decode cX1_fact 60 = .ok (.aload_n 0, 1) := by decide +kernel
theorem dX1_fact_61 : decode cX1_fact 61 = .ok (.getfield 23, 3) := by decide +kernel
theorem dX1_fact_64 : decode cX1_fact 64 = .ok (.ireturn, 1) := by decide +kernel
theorem dX1_evenOut_0 : decode cX1_evenOut 0 = .ok (.aload_n 1, 1) := by decide +kernel
theorem dX1_evenOut_1 : decode cX1_evenOut 1 = .ok (.getfield 29, 3) := by decide +kernel
theorem dX1_evenOut_4 : decode cX1_evenOut 4 = .ok (.aload_n 2, 1) := by decide +kernel
theorem dX1_evenOut_5 : decode cX1_evenOut 5 = .ok (.getfield 29, 3) := by decide +kernel
theorem dX1_evenOut_8 : decode cX1_evenOut 8 = .ok (.iadd, 1) := by decide +kernel
theorem dX1_evenOut_9 : decode cX1_evenOut 9 = .ok (.istore_n 3, 1) := by decide +kernel
theorem dX1_evenOut_10 : decode cX1_evenOut 10 = .ok (.iload_n 3, 1) := by decide +kernel
theorem dX1_evenOut_11 : decode cX1_evenOut 11 = .ok (.ifCond .gt 4, 3) := by decide +kernel
theorem dX1_evenOut_14 : decode cX1_evenOut 14 = .ok (.return_, 1) := by decide +kernel
theorem dX1_evenOut_15 : decode cX1_evenOut 15 = .ok (.aload_n 1, 1) := by decide +kernel
theorem dX1_evenOut_16 : decode cX1_evenOut 16 = .ok (.getfield 34, 3) := by decide +kernel
theorem dX1_evenOut_19 : decode cX1_evenOut 19 = .ok (.aload_n 2, 1) := by decide +kernel
theorem dX1_evenOut_20 : decode cX1_evenOut 20 = .ok (.getfield 29, 3) := by decide +kernel
theorem dX1_evenOut_23 : decode cX1_evenOut 23 = .ok (.imul, 1) := by decide +kernel
theorem dX1_evenOut_24 : decode cX1_evenOut 24 = .ok (.aload_n 2, 1) := by decide +kernel
theorem dX1_evenOut_25 : decode cX1_evenOut 25 = .ok (.getfield 34, 3) := by decide +kernel
theorem dX1_evenOut_28 : decode cX1_evenOut 28 = .ok (.aload_n 1, 1) := by decide +kernel
theorem dX1_evenOut_29 : decode cX1_evenOut 29 = .ok (.getfield 29, 3) := by decide +kernel
theorem dX1_evenOut_32 : decode cX1_evenOut 32 = .ok (.imul, 1) := by decide +kernel
theorem dX1_evenOut_33 : decode cX1_evenOut 33 = .ok (.isub, 1) := by decide +kernel
theorem dX1_evenOut_34 : decode cX1_evenOut 34 = .ok (.iload_n 3, 1) := by decide +kernel
theorem dX1_evenOut_35 : decode cX1_evenOut 35 = .ok (.idiv, 1) := by decide +kernel
theorem dX1_evenOut_36 : decode cX1_evenOut 36 = .ok (.istore 4, 2) := by decide +kernel
theorem dX1_evenOut_38 : decode cX1_evenOut 38 = .ok (.aload_n 0, 1) := by decide +kernel
theorem dX1_evenOut_39 : decode cX1_evenOut 39 = .ok (.getfield 16, 3) := by decide +kernel
theorem dX1_evenOut_42 : decode cX1_evenOut 42 = .ok (.ineg, 1) := by decide +kernel
theorem dX1_evenOut_43 : decode cX1_evenOut 43 = .ok (.aload_n 0, 1) := by decide +kernel
theorem dX1_evenOut_44 : decode cX1_evenOut 44 = .ok (.getfield 16, 3) := by decide +kernel
theorem dX1_evenOut_47 : decode cX1_evenOut 47 = .ok (.iload 4, 2) := by decide +kernel
theorem dX1_evenOut_49 : decode cX1_evenOut 49 = .ok (.invokestatic 37, 3) := by decide +kernel
theorem dX1_evenOut_52 : decode cX1_evenOut 52 = .ok (.invokestatic 43, 3) := by decide +kernel
theorem dX1_evenOut_55 : decode cX1_evenOut 55 = .ok (.istore 5, 2) := by decide +kernel
theorem dX1_evenOut_57 : decode cX1_evenOut 57 = .ok (.aload_n 1, 1) := by decide +kernel
theorem dX1_evenOut_58 : decode cX1_evenOut 58 = .ok (.dup, 1) := by decide +kernel
theorem dX1_evenOut_59 : decode cX1_evenOut 59 = .ok (.getfield 34, 3) := by decide +kernel
theorem dX1_evenOut_62 : decode cX1_evenOut 62 = .ok (.iload 5, 2) := by decide +kernel
theorem dX1_evenOut_64 : decode cX1_evenOut 64 = .ok (.isub, 1) := by decide +kernel
theorem dX1_evenOut_65 : decode cX1_evenOut 65 = .ok (.putfield 34, 3) := by decide +kernel
theorem dX1_evenOut_68 : decode cX1_evenOut 68 = .ok (.aload_n 2, 1) := by decide +kernel
theorem dX1_evenOut_69 : decode cX1_evenOut 69 = .ok (.dup, 1) := by decide +kernel
theorem dX1_evenOut_70 : decode cX1_evenOut 70 = .ok (.getfield 34, 3) := by decide +kernel
theorem dX1_evenOut_73 : decode cX1_evenOut 73 = .ok (.iload 5, 2) := by decide +kernel
theorem dX1_evenOut_75 : decode cX1_evenOut 75 = .ok (.iadd, 1) := by decide +kernel
theorem dX1_evenOut_76 : decode cX1_evenOut 76 = .ok (.putfield 34, 3) := by decide +kernel
theorem dX1_evenOut_79 : decode cX1_evenOut 79 = .ok (.aload_n 0, 1) := by decide +kernel
theorem dX1_evenOut_80 : decode cX1_evenOut 80 = .ok (.dup, 1) := by decide +kernel
theorem dX1_evenOut_81 : decode cX1_evenOut 81 = .ok (.getfield 26, 3) := by decide +kernel
theorem dX1_evenOut_84 : decode cX1_evenOut 84 = .ok (.iload 5, 2) := by decide +kernel
theorem dX1_evenOut_86 : decode cX1_evenOut 86 = .ok (.iadd, 1) := by decide +kernel
theorem dX1_evenOut_87 : decode cX1_evenOut 87 = .ok (.putfield 26, 3) := by decide +kernel
theorem dX1_evenOut_90 : decode cX1_evenOut 90 = .ok (.aload_n 0, 1) := by decide +kernel
theorem dX1_evenOut_91 : decode cX1_evenOut 91 = .ok (.dup, 1) := by decide +kernel
theorem dX1_evenOut_92 : decode cX1_evenOut 92 = .ok (.getfield 23, 3) := by decide +kernel
theorem dX1_evenOut_95 : decode cX1_evenOut 95 = .ok (.iload 5, 2) := by decide +kernel
theorem dX1_evenOut_97 : decode cX1_evenOut 97 = .ok (.invokestatic 46, 3) := by decide +kernel
theorem dX1_evenOut_100 : decode cX1_evenOut 100 = .ok (.iadd, 1) := by decide +kernel
theorem dX1_evenOut_101 : decode cX1_evenOut 101 = .ok (.putfield 23, 3) := by decide +kernel
theorem dX1_evenOut_104 : decode cX1_evenOut 104 = .ok (.return_, 1) := by decide +kernel
theorem dX1_debt_0 : decode cX1_debt 0 = .ok (.iload_n 1, 1) := by decide +kernel
theorem dX1_debt_1 : decode cX1_debt 1 = .ok (.aload_n 0, 1) := by decide +kernel
theorem dX1_debt_2 : decode cX1_debt 2 = .ok (.getfield 13, 3) := by decide +kernel
theorem dX1_debt_5 : decode cX1_debt 5 = .ok (.if_icmp .ne 16, 3) := by decide +kernel
theorem dX1_debt_8 : decode cX1_debt 8 = .ok (.iload_n 2, 1) := by decide +kernel
theorem dX1_debt_9 : decode cX1_debt 9 = .ok (.aload_n 0, 1) := by decide +kernel
theorem dX1_debt_10 : decode cX1_debt 10 = .ok (.getfield 7, 3) := by decide +kernel
theorem dX1_debt_13 : decode cX1_debt 13 = .ok (.if_icmp .ne 8, 3) := by decide +kernel
theorem dX1_debt_16 : decode cX1_debt 16 = .ok (.aload_n 0, 1) := by decide +kernel
theorem dX1_debt_17 : decode cX1_debt 17 = .ok (.getfield 26, 3) := by decide +kernel
theorem dX1_debt_20 : decode cX1_debt 20 = .ok (.ireturn, 1) := by decide +kernel
theorem dX1_debt_21 : decode cX1_debt 21 = .ok (.iload_n 1, 1) := by decide +kernel
theorem dX1_debt_22 : decode cX1_debt 22 = .ok (.aload_n 0, 1) := by decide +kernel
theorem dX1_debt_23 : decode cX1_debt 23 = .ok (.getfield 7, 3) := by decide +kernel
theorem dX1_debt_26 : decode cX1_debt 26 = .ok (.if_icmp .ne 19, 3) := by decide +kernel
theorem dX1_debt_29 : decode cX1_debt 29 = .ok (.iload_n 2, 1) := by decide +kernel
theorem dX1_debt_30 : decode cX1_debt 30 = .ok (.aload_n 0, 1) := by decide +kernel
theorem dX1_debt_31 : decode cX1_debt 31 = .ok (.getfield 13, 3) := by decide +kernel
theorem dX1_debt_34 : decode cX1_debt 34 = .ok (.if_icmp .ne 11, 3) := by decide +kernel
theorem dX1_debt_37 : decode cX1_debt 37 = .ok (.aload_n 0, 1) := by decide +kernel
theorem dX1_debt_38 : decode cX1_debt 38 = .ok (.getfield 26, 3) := by decide +kernel
theorem dX1_debt_41 : decode cX1_debt 41 = .ok (.ineg, 1) := by decide +kernel
theorem dX1_debt_42 : decode cX1_debt 42 = .ok (.goto 4, 3) := by decide +kernel
theorem dX1_debt_45 : decode cX1_debt 45 = .ok (.iconst 0, 1) := by decide +kernel
theorem dX1_debt_46 : decode cX1_debt 46 = .ok (.ireturn, 1) := by decide +kernel
theorem dX2_init_0 : decode cX2_init 0 = .ok (.aload_n 0, 1) := by decide +kernel
theorem dX2_init_1 : decode cX2_init 1 = .ok (.invokespecial 3, 3) := by decide +kernel
theorem dX2_init_4 : decode cX2_init 4 = .ok (.aload_n 0, 1) := by decide +kernel
theorem dX2_init_5 : decode cX2_init 5 = .ok (.bipush 10, 2) := by decide +kernel
theorem dX2_init_7 : decode cX2_init 7 = .ok (.anewarray 11, 3) := by decide +kernel
theorem dX2_init_10 : decode cX2_init 10 = .ok (.putfield 13, 3) := by decide +kernel
theorem dX2_init_13 : decode cX2_init 13 = .ok (.aload_n 0, 1) := by decide +kernel
theorem dX2_init_14 : decode cX2_init 14 = .ok (.bipush 12, 2) := by decide +kernel
theorem dX2_init_16 : decode cX2_init 16 = .ok (.anewarray 17, 3) := by decide +kernel
theorem dX2_init_19 : decode cX2_init 19 = .ok (.putfield 19, 3) := by decide +kernel
theorem dX2_init_22 : decode cX2_init 22 = .ok (.aload_n 0, 1) := by decide +kernel
theorem dX2_init_23 : decode cX2_init 23 = .ok (.aload_n 1, 1) := by decide +kernel
theorem dX2_init_24 : decode cX2_init 24 = .ok (.putfield 23, 3) := by decide +kernel
theorem dX2_init_27 : decode cX2_init 27 = .ok (.iconst 0, 1) := by decide +kernel
theorem dX2_init_28 : decode cX2_init 28 = .ok (.istore_n 2, 1) := by decide +kernel
theorem dX2_init_29 : decode cX2_init 29 = .ok (.iload_n 2, 1) := by decide +kernel
theorem dX2_init_30 : decode cX2_init 30 = .ok (.bipush 10, 2) := by decide +kernel
theorem dX2_init_32 : decode cX2_init 32 = .ok (.if_icmp .ge 22, 3) := by decide +kernel
theorem dX2_init_35 : decode cX2_init 35 = .ok (.aload_n 0, 1) := by decide +kernel
theorem dX2_init_36 : decode cX2_init 36 = .ok (.getfield 13, 3) := by decide +kernel
theorem dX2_init_39 : decode cX2_init 39 = .ok (.iload_n 2, 1) := by decide +kernel
theorem dX2_init_40 : decode cX2_init 40 = .ok (.new 11, 3) := by decide +kernel
theorem dX2_init_43 : decode cX2_init 43 = .ok (.dup, 1) := by decide +kernel
theorem dX2_init_44 : decode cX2_init 44 = .ok (.invokespecial 27, 3) := by decide +kernel
theorem dX2_init_47 : decode cX2_init 47 = .ok (.aastore, 1) := by decide +kernel
theorem dX2_init_48 : decode cX2_init 48 = .ok (.iinc 2 1, 3) := by decide +kernel
theorem dX2_init_51 : decode cX2_init 51 = .ok (.goto (-22), 3) := by decide +kernel
theorem dX2_init_54 : decode cX2_init 54 = .ok (.iconst 0, 1) := by decide +kernel
theorem dX2_init_55 : decode cX2_init 55 = .ok (.istore_n 2, 1) := by decide +kernel
theorem dX2_init_56 : decode cX2_init 56 = .ok (.iload_n 2, 1) := by decide +kernel
theorem dX2_init_57 : decode cX2_init 57 = .ok (.bipush 12, 2) := by decide +kernel
theorem dX2_init_59 : decode cX2_init 59 = .ok (.if_icmp .ge 22, 3) := by decide +kernel
theorem dX2_init_62 : decode cX2_init 62 = .ok (.aload_n 0, 1) := by decide +kernel
theorem dX2_init_63 : decode cX2_init 63 = .ok (.getfield 19, 3) := by decide +kernel
theorem dX2_init_66 : decode cX2_init 66 = .ok (.iload_n 2, 1) := by decide +kernel
theorem dX2_init_67 : decode cX2_init 67 = .ok (.new 17, 3) := by decide +kernel
theorem dX2_init_70 : decode cX2_init 70 = .ok (.dup, 1) := by decide +kernel
theorem dX2_init_71 : decode cX2_init 71 = .ok (.invokespecial 28, 3) := by decide +kernel
theorem dX2_init_74 : decode cX2_init 74 = .ok (.aastore, 1) := by decide +kernel
theorem dX2_init_75 : decode cX2_init 75 = .ok (.iinc 2 1, 3) := by decide +kernel
theorem dX2_init_78 : decode cX2_init 78 = .ok (.goto (-22), 3) := by decide +kernel
theorem dX2_init_81 : decode cX2_init 81 = .ok (.return_, 1) := by decide +kernel
theorem dX2_copy_0 : decode cX2_copy 0 = .ok (.aload_n 0, 1) := by decide +kernel
theorem dX2_copy_1 : decode cX2_copy 1 = .ok (.aload_n 1, 1) := by decide +kernel
theorem dX2_copy_2 : decode cX2_copy 2 = .ok (.getfield 29, 3) := by decide +kernel
theorem dX2_copy_5 : decode cX2_copy 5 = .ok (.putfield 29, 3) := by decide +kernel
theorem dX2_copy_8 : decode cX2_copy 8 = .ok (.aload_n 0, 1) := by decide +kernel
theorem dX2_copy_9 : decode cX2_copy 9 = .ok (.aload_n 1, 1) := by decide +kernel
theorem dX2_copy_10 : decode cX2_copy 10 = .ok (.getfield 33, 3) := by decide +kernel
theorem dX2_copy_13 : decode cX2_copy 13 = .ok (.putfield 33, 3) := by decide +kernel
theorem dX2_copy_16 : decode cX2_copy 16 = .ok (.aload_n 0, 1) := by decide +kernel
theorem dX2_copy_17 : decode cX2_copy 17 = .ok (.aload_n 1, 1) := by decide +kernel
theorem dX2_copy_18 : decode cX2_copy 18 = .ok (.getfield 36, 3) := by decide +kernel
theorem dX2_copy_21 : decode cX2_copy 21 = .ok (.putfield 36, 3) := by decide +kernel
theorem dX2_copy_24 : decode cX2_copy 24 = .ok (.aload_n 0, 1) := by decide +kernel
theorem dX2_copy_25 : decode cX2_copy 25 = .ok (.aload_n 1, 1) := by decide +kernel
theorem dX2_copy_26 : decode cX2_copy 26 = .ok (.getfield 39, 3) := by decide +kernel
theorem dX2_copy_29 : decode cX2_copy 29 = .ok (.putfield 39, 3) := by decide +kernel
theorem dX2_copy_32 : decode cX2_copy 32 = .ok (.aload_n 0, 1) := by decide +kernel
theorem dX2_copy_33 : decode cX2_copy 33 = .ok (.aload_n 1, 1) := by decide +kernel
theorem dX2_copy_34 : decode cX2_copy 34 = .ok (.getfield 42, 3) := by decide +kernel
theorem dX2_copy_37 : decode cX2_copy 37 = .ok (.putfield 42, 3) := by decide +kernel
theorem dX2_copy_40 : decode cX2_copy 40 = .ok (.aload_n 0, 1) := by decide +kernel
theorem dX2_copy_41 : decode cX2_copy 41 = .ok (.aload_n 1, 1) := by decide +kernel
theorem dX2_copy_42 : decode cX2_copy 42 = .ok (.getfield 45, 3) := by decide +kernel
theorem dX2_copy_45 : decode cX2_copy 45 = .ok (.putfield 45, 3) := by decide +kernel
theorem dX2_copy_48 : decode cX2_copy 48 = .ok (.aload_n 0, 1) := by decide +kernel
theorem dX2_copy_49 : decode cX2_copy 49 = .ok (.aload_n 1, 1) := by decide +kernel
theorem dX2_copy_50 : decode cX2_copy 50 = .ok (.getfield 48, 3) := by decide +kernel
theorem dX2_copy_53 : decode cX2_copy 53 = .ok (.putfield 48, 3) := by decide +kernel
theorem dX2_copy_56 : decode cX2_copy 56 = .ok (.iconst 0, 1) := by decide +kernel
theorem dX2_copy_57 : decode cX2_copy 57 = .ok (.istore_n 2, 1) := by decide +kernel
theorem dX2_copy_58 : decode cX2_copy 58 = .ok (.iload_n 2, 1) := by decide +kernel
theorem dX2_copy_59 : decode cX2_copy 59 = .ok (.aload_n 0, 1) := by decide +kernel
theorem dX2_copy_60 : decode cX2_copy 60 = .ok (.getfield 29, 3) := by decide +kernel
theorem dX2_copy_63 : decode cX2_copy 63 = .ok (.if_icmp .ge 24, 3) := by decide +kernel
theorem dX2_copy_66 : decode cX2_copy 66 = .ok (.aload_n 0, 1) := by decide +kernel
theorem dX2_copy_67 : decode cX2_copy 67 = .ok (.getfield 13, 3) := by decide +kernel
theorem dX2_copy_70 : decode cX2_copy 70 = .ok (.iload_n 2, 1) := by decide +kernel
theorem dX2_copy_71 : decode cX2_copy 71 = .ok (.aaload, 1) := by decide +kernel
theorem dX2_copy_72 : decode cX2_copy 72 = .ok (.aload_n 1, 1) := by decide +kernel
theorem dX2_copy_73 : decode cX2_copy 73 = .ok (.getfield 13, 3) := by decide +kernel
theorem dX2_copy_76 : decode cX2_copy 76 = .ok (.iload_n 2, 1) := by decide +kernel
theorem dX2_copy_77 : decode cX2_copy 77 = .ok (.aaload, 1) := by decide +kernel
theorem dX2_copy_78 : decode cX2_copy 78 = .ok (.invokevirtual 51, 3) := by decide +kernel
theorem dX2_copy_81 : decode cX2_copy 81 = .ok (.iinc 2 1, 3) := by decide +kernel
theorem dX2_copy_84 : decode cX2_copy 84 = .ok (.goto (-26), 3) := by decide +kernel
theorem dX2_copy_87 : decode cX2_copy 87 = .ok (.iconst 0, 1) := by decide +kernel
theorem dX2_copy_88 : decode cX2_copy 88 = .ok (.istore_n 2, 1) := by decide +kernel
theorem dX2_copy_89 : decode cX2_copy 89 = .ok (.iload_n 2, 1) := by decide +kernel
theorem dX2_copy_90 : decode cX2_copy 90 = .ok (.aload_n 0, 1) := by decide +kernel
theorem dX2_copy_91 : decode cX2_copy 91 = .ok (.getfield 33, 3) := by decide +kernel
theorem dX2_copy_94 : decode cX2_copy 94 = .ok (.if_icmp .ge 24, 3) := by decide +kernel
theorem dX2_copy_97 : decode cX2_copy 97 = .ok (.aload_n 0, 1) := by decide +kernel
theorem dX2_copy_98 : decode cX2_copy 98 = .ok (.getfield 19, 3) := by decide +kernel
theorem dX2_copy_101 : decode cX2_copy 101 = .ok (.iload_n 2, 1) := by decide +kernel
theorem dX2_copy_102 : decode cX2_copy 102 = .ok (.aaload, 1) := by decide +kernel
theorem dX2_copy_103 : decode cX2_copy 103 = .ok (.aload_n 1, 1) := by decide +kernel
theorem dX2_copy_104 : decode cX2_copy 104 = .ok (.getfield 19, 3) := by decide +kernel
theorem dX2_copy_107 : decode cX2_copy 107 = .ok (.iload_n 2, 1) := by decide +kernel
theorem dX2_copy_108 : decode cX2_copy 108 = .ok (.aaload, 1) := by decide +kernel
theorem dX2_copy_109 : decode cX2_copy 109 = .ok (.invokevirtual 55, 3) := by decide +kernel
theorem dX2_copy_112 : decode cX2_copy 112 = .ok (.iinc 2 1, 3) := by decide +kernel
theorem dX2_copy_115 : decode cX2_copy 115 = .ok (.goto (-26), 3) := by decide +kernel
theorem dX2_copy_118 : decode cX2_copy 118 = .ok (.return_, 1) := by decide +kernel
theorem dX2_hasHouse_0 : decode cX2_hasHouse 0 = .ok (.iload_n 1, 1) := by decide +kernel
theorem dX2_hasHouse_1 : decode cX2_hasHouse 1 = .ok (.ifCond .lt 15, 3) := by decide +kernel
theorem dX2_hasHouse_4 : decode cX2_hasHouse 4 = .ok (.iload_n 1, 1) := by decide +kernel
theorem dX2_hasHouse_5 : decode cX2_hasHouse 5 = .ok (.aload_n 0, 1) := by decide +kernel
theorem dX2_hasHouse_6 : decode cX2_hasHouse 6 = .ok (.getfield 29, 3) := by decide +kernel
theorem dX2_hasHouse_9 : decode cX2_hasHouse 9 = .ok (.if_icmp .ge 7, 3) := by decide +kernel
theorem dX2_hasHouse_12 : decode cX2_hasHouse 12 = .ok (.iconst 1, 1) := by decide +kernel
theorem dX2_hasHouse_13 : decode cX2_hasHouse 13 = .ok (.goto 4, 3) := by decide +kernel
theorem dX2_hasHouse_16 : decode cX2_hasHouse 16 = .ok (.iconst 0, 1) := by decide +kernel
theorem dX2_hasHouse_17 : decode cX2_hasHouse 17 = .ok (.ireturn, 1) := by decide +kernel
theorem dX2_hasPipe_0 : decode cX2_hasPipe 0 = .ok (.iload_n 1, 1) := by decide +kernel
theorem dX2_hasPipe_1 : decode cX2_hasPipe 1 = .ok (.ifCond .lt 15, 3) := by decide +kernel
theorem dX2_hasPipe_4 : decode cX2_hasPipe 4 = .ok (.iload_n 1, 1) := by decide +kernel
theorem dX2_hasPipe_5 : decode cX2_hasPipe 5 = .ok (.aload_n 0, 1) := by decide +kernel
theorem dX2_hasPipe_6 : decode cX2_hasPipe 6 = .ok (.getfield 33, 3) := by decide +kernel
theorem dX2_hasPipe_9 : decode cX2_hasPipe 9 = .ok (.if_icmp .ge 7, 3) := by decide +kernel
theorem dX2_hasPipe_12 : decode cX2_hasPipe 12 = .ok (.iconst 1, 1) := by decide +kernel
theorem dX2_hasPipe_13 : decode cX2_hasPipe 13 = .ok (.goto 4, 3) := by decide +kernel
theorem dX2_hasPipe_16 : decode cX2_hasPipe 16 = .ok (.iconst 0, 1) := by decide +kernel
theorem dX2_hasPipe_17 : decode cX2_hasPipe 17 = .ok (.ireturn, 1) := by decide +kernel
theorem dX2_addHouse_0 : decode cX2_addHouse 0 = .ok (.aload_n 0, 1) := by decide +kernel
theorem dX2_addHouse_1 : decode cX2_addHouse 1 = .ok (.getfield 13, 3) := by decide +kernel
theorem dX2_addHouse_4 : decode cX2_addHouse 4 = .ok (.aload_n 0, 1) := by decide +kernel
theorem dX2_addHouse_5 : decode cX2_addHouse 5 = .ok (.getfield 29, 3) := by decide +kernel
theorem dX2_addHouse_8 : decode cX2_addHouse 8 = .ok (.aaload, 1) := by decide +kernel
theorem dX2_addHouse_9 : decode cX2_addHouse 9 = .ok (.astore 5, 2) := by decide +kernel
theorem dX2_addHouse_11 : decode cX2_addHouse 11 = .ok (.aload 5, 2) := by decide +kernel
theorem dX2_addHouse_13 : decode cX2_addHouse 13 = .ok (.iload_n 1, 1) := by decide +kernel
theorem dX2_addHouse_14 : decode cX2_addHouse 14 = .ok (.putfield 58, 3) := by decide +kernel
theorem dX2_addHouse_17 : decode cX2_addHouse 17 = .ok (.aload 5, 2) := by decide +kernel
theorem dX2_addHouse_19 : decode cX2_addHouse 19 = .ok (.iload_n 2, 1) := by decide +kernel
theorem dX2_addHouse_20 : decode cX2_addHouse 20 = .ok (.putfield 61, 3) := by decide +kernel
theorem dX2_addHouse_23 : decode cX2_addHouse 23 = .ok (.aload 5, 2) := by decide +kernel
theorem dX2_addHouse_25 : decode cX2_addHouse 25 = .ok (.iload_n 3, 1) := by decide +kernel
theorem dX2_addHouse_26 : decode cX2_addHouse 26 = .ok (.putfield 64, 3) := by decide +kernel
theorem dX2_addHouse_29 : decode cX2_addHouse 29 = .ok (.aload 5, 2) := by decide +kernel
theorem dX2_addHouse_31 : decode cX2_addHouse 31 = .ok (.iload 4, 2) := by decide +kernel
theorem dX2_addHouse_33 : decode cX2_addHouse 33 = .ok (.putfield 67, 3) := by decide +kernel
theorem dX2_addHouse_36 : decode cX2_addHouse 36 = .ok (.aload_n 0, 1) := by decide +kernel
theorem dX2_addHouse_37 : decode cX2_addHouse 37 = .ok (.dup, 1) := by decide +kernel
theorem dX2_addHouse_38 : decode cX2_addHouse 38 = .ok (.getfield 29, 3) := by decide +kernel
theorem dX2_addHouse_41 : decode cX2_addHouse 41 = .ok (.dup_x1, 1) := by decide +kernel
theorem dX2_addHouse_42 : decode cX2_addHouse 42 = .ok (.iconst 1, 1) := by decide +kernel
theorem dX2_addHouse_43 : decode cX2_addHouse 43 = .ok (.iadd, 1) := by decide +kernel
theorem dX2_addHouse_44 : decode cX2_addHouse 44 = .ok (.putfield 29, 3) := by decide +kernel
theorem dX2_addHouse_47 : decode cX2_addHouse 47 = .ok (.ireturn, 1) := by decide +kernel
theorem dX2_addPipe_0 : decode cX2_addPipe 0 = .ok (.aload_n 0, 1) := by decide +kernel
theorem dX2_addPipe_1 : decode cX2_addPipe 1 = .ok (.getfield 19, 3) := by decide +kernel
theorem dX2_addPipe_4 : decode cX2_addPipe 4 = .ok (.aload_n 0, 1) := by decide +kernel
theorem dX2_addPipe_5 : decode cX2_addPipe 5 = .ok (.getfield 33, 3) := by decide +kernel
theorem dX2_addPipe_8 : decode cX2_addPipe 8 = .ok (.aaload, 1) := by decide +kernel
theorem dX2_addPipe_9 : decode cX2_addPipe 9 = .ok (.astore 4, 2) := by decide +kernel
theorem dX2_addPipe_11 : decode cX2_addPipe 11 = .ok (.aload 4, 2) := by decide +kernel
theorem dX2_addPipe_13 : decode cX2_addPipe 13 = .ok (.iload_n 1, 1) := by decide +kernel
theorem dX2_addPipe_14 : decode cX2_addPipe 14 = .ok (.putfield 70, 3) := by decide +kernel
theorem dX2_addPipe_17 : decode cX2_addPipe 17 = .ok (.aload 4, 2) := by decide +kernel
theorem dX2_addPipe_19 : decode cX2_addPipe 19 = .ok (.iload_n 2, 1) := by decide +kernel
theorem dX2_addPipe_20 : decode cX2_addPipe 20 = .ok (.putfield 73, 3) := by decide +kernel
theorem dX2_addPipe_23 : decode cX2_addPipe 23 = .ok (.aload 4, 2) := by decide +kernel
theorem dX2_addPipe_25 : decode cX2_addPipe 25 = .ok (.iload_n 3, 1) := by decide +kernel
theorem dX2_addPipe_26 : decode cX2_addPipe 26 = .ok (.putfield 76, 3) := by decide +kernel
theorem dX2_addPipe_29 : decode cX2_addPipe 29 = .ok (.aload 4, 2) := by decide +kernel
theorem dX2_addPipe_31 : decode cX2_addPipe 31 = .ok (.iconst 1, 1) := by decide +kernel
theorem dX2_addPipe_32 : decode cX2_addPipe 32 = .ok (.putfield 79, 3) := by decide +kernel
theorem dX2_addPipe_35 : decode cX2_addPipe 35 = .ok (.aload_n 0, 1) := by decide +kernel
theorem dX2_addPipe_36 : decode cX2_addPipe 36 = .ok (.dup, 1) := by decide +kernel
theorem dX2_addPipe_37 : decode cX2_addPipe 37 = .ok (.getfield 33, 3) := by decide +kernel
theorem dX2_addPipe_40 : decode cX2_addPipe 40 = .ok (.dup_x1, 1) := by decide +kernel
theorem dX2_addPipe_41 : decode cX2_addPipe 41 = .ok (.iconst 1, 1) := by decide +kernel
theorem dX2_addPipe_42 : decode cX2_addPipe 42 = .ok (.iadd, 1) := by decide +kernel
theorem dX2_addPipe_43 : decode cX2_addPipe 43 = .ok (.putfield 33, 3) := by decide +kernel
theorem dX2_addPipe_46 : decode cX2_addPipe 46 = .ok (.ireturn, 1) := by decide +kernel
theorem dX2_flowsThrough_0 : decode cX2_flowsThrough 0 = .ok (.iload_n 1, 1) := by decide +kernel
theorem dX2_flowsThrough_1 : decode cX2_flowsThrough 1 = .ok (.istore_n 3, 1) := by decide +kernel
theorem dX2_flowsThrough_2 : decode cX2_flowsThrough 2 = .ok (.iconst 0, 1) := by decide +kernel
theorem dX2_flowsThrough_3 : decode cX2_flowsThrough 3 = .ok (.istore 4, 2) := by decide +kernel
theorem dX2_flowsThrough_5 : decode cX2_flowsThrough 5 = .ok (.iload 4, 2) := by decide +kernel
theorem dX2_flowsThrough_7 : decode cX2_flowsThrough 7 = .ok (.aload_n 0, 1) := by decide +kernel
theorem dX2_flowsThrough_8 : decode cX2_flowsThrough 8 = .ok (.getfield 29, 3) := by decide +kernel
theorem dX2_flowsThrough_11 : decode cX2_flowsThrough 11 = .ok (.if_icmp .ge 34, 3) := by decide +kernel
theorem dX2_flowsThrough_14 : decode cX2_flowsThrough 14 = .ok (.aload_n 0, 1) := by decide +kernel
theorem dX2_flowsThrough_15 : decode cX2_flowsThrough 15 = .ok (.iload_n 3, 1) := by decide +kernel
theorem dX2_flowsThrough_16 : decode cX2_flowsThrough 16 = .ok (.invokevirtual 83, 3) := by decide +kernel
theorem dX2_flowsThrough_19 : decode cX2_flowsThrough 19 = .ok (.ifCond .eq 26, 3) := by decide +kernel
theorem dX2_flowsThrough_22 : decode cX2_flowsThrough 22 = .ok (.iload_n 3, 1) := by decide +kernel
theorem dX2_flowsThrough_23 : decode cX2_flowsThrough 23 = .ok (.iload_n 2, 1) := by decide +kernel
theorem dX2_flowsThrough_24 : decode cX2_flowsThrough 24 = .ok (.if_icmp .ne 5, 3) := by decide +kernel
theorem dX2_flowsThrough_27 : decode cX2_flowsThrough 27 = .ok (.iconst 1, 1) := by decide +kernel
theorem dX2_flowsThrough_28 : decode cX2_flowsThrough 28 = .ok (.ireturn, 1) := by decide +kernel
theorem dX2_flowsThrough_29 : decode cX2_flowsThrough 29 = .ok (.aload_n 0, 1) := by decide +kernel
theorem dX2_flowsThrough_30 : decode cX2_flowsThrough 30 = .ok (.getfield 13, 3) := by decide +kernel
theorem dX2_flowsThrough_33 : decode cX2_flowsThrough 33 = .ok (.iload_n 3, 1) := by decide +kernel
theorem dX2_flowsThrough_34 : decode cX2_flowsThrough 34 = .ok (.aaload, 1) := by decide +kernel
theorem dX2_flowsThrough_35 : decode cX2_flowsThrough 35 = .ok (.getfield 87, 3) := by decide +kernel
theorem dX2_flowsThrough_38 : decode cX2_flowsThrough 38 = .ok (.istore_n 3, 1) := by decide +kernel
theorem dX2_flowsThrough_39 : decode cX2_flowsThrough 39 = .ok (.iinc 4 1, 3) := by decide +kernel
theorem dX2_flowsThrough_42 : decode cX2_flowsThrough 42 = .ok (.goto (-37), 3) := by decide +kernel
theorem dX2_flowsThrough_45 : decode cX2_flowsThrough 45 = .ok (.iconst 0, 1) := by decide +kernel
theorem dX2_flowsThrough_46 : decode cX2_flowsThrough 46 = .ok (.ireturn, 1) := by decide +kernel
theorem dX2_chainLength_0 : decode cX2_chainLength 0 = .ok (.iconst 0, 1) := by decide +kernel
theorem dX2_chainLength_1 : decode cX2_chainLength 1 = .ok (.istore_n 2, 1) := by decide +kernel
theorem dX2_chainLength_2 : decode cX2_chainLength 2 = .ok (.iload_n 1, 1) := by decide +kernel
theorem dX2_chainLength_3 : decode cX2_chainLength 3 = .ok (.istore_n 3, 1) := by decide +kernel
theorem dX2_chainLength_4 : decode cX2_chainLength 4 = .ok (.iload_n 2, 1) := by decide +kernel
theorem dX2_chainLength_5 : decode cX2_chainLength 5 = .ok (.aload_n 0, 1) := by decide +kernel
theorem dX2_chainLength_6 : decode cX2_chainLength 6 = .ok (.getfield 29, 3) := by decide +kernel
theorem dX2_chainLength_9 : decode cX2_chainLength 9 = .ok (.if_icmp .ge 27, 3) := by decide +kernel
theorem dX2_chainLength_12 : decode cX2_chainLength 12 = .ok (.aload_n 0, 1) := by decide +kernel
theorem dX2_chainLength_13 : decode cX2_chainLength 13 = .ok (.iload_n 3, 1) := by decide +kernel
theorem dX2_chainLength_14 : decode cX2_chainLength 14 = .ok (.invokevirtual 83, 3) := by decide +kernel
theorem dX2_chainLength_17 : decode cX2_chainLength 17 = .ok (.ifCond .eq 19, 3) := by decide +kernel
theorem dX2_chainLength_20 : decode cX2_chainLength 20 = .ok (.iinc 2 1, 3) := by decide +kernel
theorem dX2_chainLength_23 : decode cX2_chainLength 23 = .ok (.aload_n 0, 1) := by decide +kernel
theorem dX2_chainLength_24 : decode cX2_chainLength 24 = .ok (.getfield 13, 3) := by decide +kernel
theorem dX2_chainLength_27 : decode cX2_chainLength 27 = .ok (.iload_n 3, 1) := by decide +kernel
theorem dX2_chainLength_28 : decode cX2_chainLength 28 = .ok (.aaload, 1) := by decide +kernel
theorem dX2_chainLength_29 : decode cX2_chainLength 29 = .ok (.getfield 87, 3) := by decide +kernel
theorem dX2_chainLength_32 : decode cX2_chainLength 32 = .ok (.istore_n 3, 1) := by decide +kernel
theorem dX2_chainLength_33 : decode cX2_chainLength 33 = .ok (.goto (-29), 3) := by decide +kernel
theorem dX2_chainLength_36 : decode cX2_chainLength 36 = .ok (.iload_n 2, 1) := by decide +kernel
theorem dX2_chainLength_37 : decode cX2_chainLength 37 = .ok (.ireturn, 1) := by decide +kernel
theorem dX2_pour_0 : decode cX2_pour 0 = .ok (.iload_n 2, 1) := by decide +kernel
theorem dX2_pour_1 : decode cX2_pour 1 = .ok (.istore_n 3, 1) := by decide +kernel
theorem dX2_pour_2 : decode cX2_pour 2 = .ok (.iload_n 1, 1) := by decide +kernel
theorem dX2_pour_3 : decode cX2_pour 3 = .ok (.istore 4, 2) := by decide +kernel
theorem dX2_pour_5 : decode cX2_pour 5 = .ok (.iconst 0, 1) := by decide +kernel
theorem dX2_pour_6 : decode cX2_pour 6 = .ok (.istore 5, 2) := by decide +kernel
theorem dX2_pour_8 : decode cX2_pour 8 = .ok (.iload 5, 2) := by decide +kernel
theorem dX2_pour_10 : decode cX2_pour 10 = .ok (.aload_n 0, 1) := by decide +kernel
theorem dX2_pour_11 : decode cX2_pour 11 = .ok (.getfield 29, 3) := by decide +kernel
theorem dX2_pour_14 : decode cX2_pour 14 = .ok (.if_icmp .ge 42, 3) := by decide +kernel
theorem dX2_pour_17 : decode cX2_pour 17 = .ok (.aload_n 0, 1) := by decide +kernel
theorem dX2_pour_18 : decode cX2_pour 18 = .ok (.iload 4, 2) := by decide +kernel
theorem dX2_pour_20 : decode cX2_pour 20 = .ok (.invokevirtual 83, 3) := by decide +kernel
theorem dX2_pour_23 : decode cX2_pour 23 = .ok (.ifCond .eq 33, 3) := by decide +kernel
theorem dX2_pour_26 : decode cX2_pour 26 = .ok (.aload_n 0, 1) := by decide +kernel
theorem dX2_pour_27 : decode cX2_pour 27 = .ok (.getfield 13, 3) := by decide +kernel
theorem dX2_pour_30 : decode cX2_pour 30 = .ok (.iload 4, 2) := by decide +kernel
theorem dX2_pour_32 : decode cX2_pour 32 = .ok (.aaload, 1) := by decide +kernel
theorem dX2_pour_33 : decode cX2_pour 33 = .ok (.iload_n 3, 1) := by decide +kernel
theorem dX2_pour_34 : decode cX2_pour 34 = .ok (.invokevirtual 90, 3) := by decide +kernel
theorem dX2_pour_37 : decode cX2_pour 37 = .ok (.istore_n 3, 1) := by decide +kernel
theorem dX2_pour_38 : decode cX2_pour 38 = .ok (.aload_n 0, 1) := by decide +kernel
theorem dX2_pour_39 : decode cX2_pour 39 = .ok (.getfield 13, 3) := by decide +kernel
theorem dX2_pour_42 : decode cX2_pour 42 = .ok (.iload 4, 2) := by decide +kernel
theorem dX2_pour_44 : decode cX2_pour 44 = .ok (.aaload, 1) := by decide +kernel
theorem dX2_pour_45 : decode cX2_pour 45 = .ok (.getfield 87, 3) := by decide +kernel
theorem dX2_pour_48 : decode cX2_pour 48 = .ok (.istore 4, 2) := by decide +kernel
theorem dX2_pour_50 : decode cX2_pour 50 = .ok (.iinc 5 1, 3) := by decide +kernel
theorem dX2_pour_53 : decode cX2_pour 53 = .ok (.goto (-45), 3) := by decide +kernel
theorem dX2_pour_56 : decode cX2_pour 56 = .ok (.aload_n 0, 1) := by decide +kernel
theorem dX2_pour_57 : decode cX2_pour 57 = .ok (.dup, 1) := by decide +kernel
theorem dX2_pour_58 : decode cX2_pour 58 = .ok (.getfield 42, 3) := by decide +kernel
theorem dX2_pour_61 : decode cX2_pour 61 = .ok (.iload_n 3, 1) := by decide +kernel
theorem dX2_pour_62 : decode cX2_pour 62 = .ok (.iadd, 1) := by decide +kernel
theorem dX2_pour_63 : decode cX2_pour 63 = .ok (.putfield 42, 3) := by decide +kernel
theorem dX2_pour_66 : decode cX2_pour 66 = .ok (.iload_n 3, 1) := by decide +kernel
theorem dX2_pour_67 : decode cX2_pour 67 = .ok (.ireturn, 1) := by decide +kernel
theorem dX2_live_0 : decode cX2_live 0 = .ok (.aload_n 0, 1) := by decide +kernel
theorem dX2_live_1 : decode cX2_live 1 = .ok (.invokevirtual 94, 3) := by decide +kernel
theorem dX2_live_4 : decode cX2_live 4 = .ok (.istore_n 2, 1) := by decide +kernel
theorem dX2_live_5 : decode cX2_live 5 = .ok (.iconst 0, 1) := by decide +kernel
theorem dX2_live_6 : decode cX2_live 6 = .ok (.istore_n 3, 1) := by decide +kernel
theorem dX2_live_7 : decode cX2_live 7 = .ok (.iload_n 3, 1) := by decide +kernel
theorem dX2_live_8 : decode cX2_live 8 = .ok (.iload_n 1, 1) := by decide +kernel
theorem dX2_live_9 : decode cX2_live 9 = .ok (.if_icmp .ge 13, 3) := by decide +kernel
theorem dX2_live_12 : decode cX2_live 12 = .ok (.aload_n 0, 1) := by decide +kernel
theorem dX2_live_13 : decode cX2_live 13 = .ok (.invokevirtual 98, 3) := by decide +kernel
theorem dX2_live_16 : decode cX2_live 16 = .ok (.iinc 3 1, 3) := by decide +kernel
theorem dX2_live_19 : decode cX2_live 19 = .ok (.goto (-12), 3) := by decide +kernel
theorem dX2_live_22 : decode cX2_live 22 = .ok (.aload_n 0, 1) := by decide +kernel
theorem dX2_live_23 : decode cX2_live 23 = .ok (.invokevirtual 94, 3) := by decide +kernel
theorem dX2_live_26 : decode cX2_live 26 = .ok (.iload_n 2, 1) := by decide +kernel
theorem dX2_live_27 : decode cX2_live 27 = .ok (.isub, 1) := by decide +kernel
theorem dX2_live_28 : decode cX2_live 28 = .ok (.ireturn, 1) := by decide +kernel
theorem dX2_daysToThirst_0 : decode cX2_daysToThirst 0 = .ok (.aload_n 0, 1) := by decide +kernel
theorem dX2_daysToThirst_1 : decode cX2_daysToThirst 1 = .ok (.getfield 13, 3) := by decide +kernel
theorem dX2_daysToThirst_4 : decode cX2_daysToThirst 4 = .ok (.iload_n 1, 1) := by decide +kernel
theorem dX2_daysToThirst_5 : decode cX2_daysToThirst 5 = .ok (.aaload, 1) := by decide +kernel
theorem dX2_daysToThirst_6 : decode cX2_daysToThirst 6 = .ok (.astore_n 3, 1) := by decide +kernel
theorem dX2_daysToThirst_7 : decode cX2_daysToThirst 7 = .ok (.aload_n 3, 1) := by decide +kernel
theorem dX2_daysToThirst_8 : decode cX2_daysToThirst 8 = .ok (.getfield 101, 3) := by decide +kernel
theorem dX2_daysToThirst_11 : decode cX2_daysToThirst 11 = .ok (.istore 4, 2) := by decide +kernel
theorem dX2_daysToThirst_13 : decode cX2_daysToThirst 13 = .ok (.iconst 1, 1) := by decide +kernel
theorem dX2_daysToThirst_14 : decode cX2_daysToThirst 14 = .ok (.istore 5, 2) := by decide +kernel
theorem dX2_daysToThirst_16 : decode cX2_daysToThirst 16 = .ok (.iload 5, 2) := by decide +kernel
theorem dX2_daysToThirst_18 : decode cX2_daysToThirst 18 = .ok (.iload_n 2, 1) := by decide +kernel
theorem dX2_daysToThirst_19 : decode cX2_daysToThirst 19 = .ok (.if_icmp .gt 25, 3) := by decide +kernel
theorem dX2_daysToThirst_22 : decode cX2_daysToThirst 22 = .ok (.aload_n 0, 1) := by decide +kernel
theorem dX2_daysToThirst_23 : decode cX2_daysToThirst 23 = .ok (.invokevirtual 98, 3) := by decide +kernel
theorem dX2_daysToThirst_26 : decode cX2_daysToThirst 26 = .ok (.aload_n 3, 1) := by decide +kernel
theorem dX2_daysToThirst_27 : decode cX2_daysToThirst 27 = .ok (.getfield 101, 3) := by decide +kernel
theorem dX2_daysToThirst_30 : decode cX2_daysToThirst 30 = .ok (.iload 4, 2) := by decide +kernel
theorem dX2_daysToThirst_32 : decode cX2_daysToThirst 32 = .ok (.if_icmp .eq 6, 3) := by decide +kernel
theorem dX2_daysToThirst_35 : decode cX2_daysToThirst 35 = .ok (.iload 5, 2) := by decide +kernel
theorem dX2_daysToThirst_37 : decode cX2_daysToThirst 37 = .ok (.ireturn, 1) := by decide +kernel
theorem dX2_daysToThirst_38 : decode cX2_daysToThirst 38 = .ok (.iinc 5 1, 3) := by decide +kernel
theorem dX2_daysToThirst_41 : decode cX2_daysToThirst 41 = .ok (.goto (-25), 3) := by decide +kernel
theorem dX2_daysToThirst_44 : decode cX2_daysToThirst 44 = .ok (.iconst (-1), 1) := by decide +kernel
theorem dX2_daysToThirst_45 : decode cX2_daysToThirst 45 = .ok (.ireturn, 1) := by decide +kernel
theorem dX2_liveDay_0 : decode cX2_liveDay 0 = .ok (.aload_n 0, 1) := by decide +kernel
theorem dX2_liveDay_1 : decode cX2_liveDay 1 = .ok (.aload_n 0, 1) := by decide +kernel
theorem dX2_liveDay_2 : decode cX2_liveDay 2 = .ok (.getfield 23, 3) := by decide +kernel
theorem dX2_liveDay_5 : decode cX2_liveDay 5 = .ok (.aload_n 0, 1) := by decide +kernel
theorem dX2_liveDay_6 : decode cX2_liveDay 6 = .ok (.getfield 36, 3) := by decide +kernel
theorem dX2_liveDay_9 : decode cX2_liveDay 9 = .ok (.invokevirtual 104, 3) := by decide +kernel
theorem dX2_liveDay_12 : decode cX2_liveDay 12 = .ok (.invokevirtual 109, 3) := by decide +kernel
theorem dX2_liveDay_15 : decode cX2_liveDay 15 = .ok (.iconst 0, 1) := by decide +kernel
theorem dX2_liveDay_16 : decode cX2_liveDay 16 = .ok (.istore_n 1, 1) := by decide +kernel
theorem dX2_liveDay_17 : decode cX2_liveDay 17 = .ok (.iload_n 1, 1) := by decide +kernel
theorem dX2_liveDay_18 : decode cX2_liveDay 18 = .ok (.aload_n 0, 1) := by decide +kernel
theorem dX2_liveDay_19 : decode cX2_liveDay 19 = .ok (.getfield 29, 3) := by decide +kernel
theorem dX2_liveDay_22 : decode cX2_liveDay 22 = .ok (.if_icmp .ge 27, 3) := by decide +kernel
theorem dX2_liveDay_25 : decode cX2_liveDay 25 = .ok (.aload_n 0, 1) := by decide +kernel
theorem dX2_liveDay_26 : decode cX2_liveDay 26 = .ok (.dup, 1) := by decide +kernel
theorem dX2_liveDay_27 : decode cX2_liveDay 27 = .ok (.getfield 45, 3) := by decide +kernel
theorem dX2_liveDay_30 : decode cX2_liveDay 30 = .ok (.aload_n 0, 1) := by decide +kernel
theorem dX2_liveDay_31 : decode cX2_liveDay 31 = .ok (.getfield 13, 3) := by decide +kernel
theorem dX2_liveDay_34 : decode cX2_liveDay 34 = .ok (.iload_n 1, 1) := by decide +kernel
theorem dX2_liveDay_35 : decode cX2_liveDay 35 = .ok (.aaload, 1) := by decide +kernel
theorem dX2_liveDay_36 : decode cX2_liveDay 36 = .ok (.invokevirtual 113, 3) := by decide +kernel
theorem dX2_liveDay_39 : decode cX2_liveDay 39 = .ok (.iadd, 1) := by decide +kernel
theorem dX2_liveDay_40 : decode cX2_liveDay 40 = .ok (.putfield 45, 3) := by decide +kernel
theorem dX2_liveDay_43 : decode cX2_liveDay 43 = .ok (.iinc 1 1, 3) := by decide +kernel
theorem dX2_liveDay_46 : decode cX2_liveDay 46 = .ok (.goto (-29), 3) := by decide +kernel
theorem dX2_liveDay_49 : decode cX2_liveDay 49 = .ok (.iconst 0, 1) := by decide +kernel
theorem dX2_liveDay_50 : decode cX2_liveDay 50 = .ok (.istore_n 1, 1) := by decide +kernel
theorem dX2_liveDay_51 : decode cX2_liveDay 51 = .ok (.iload_n 1, 1) := by decide +kernel
theorem dX2_liveDay_52 : decode cX2_liveDay 52 = .ok (.aload_n 0, 1) := by decide +kernel
theorem dX2_liveDay_53 : decode cX2_liveDay 53 = .ok (.getfield 29, 3) := by decide +kernel
theorem dX2_liveDay_56 : decode cX2_liveDay 56 = .ok (.if_icmp .ge 18, 3) := by decide +kernel
theorem dX2_liveDay_59 : decode cX2_liveDay 59 = .ok (.aload_n 0, 1) := by decide +kernel
theorem dX2_liveDay_60 : decode cX2_liveDay 60 = .ok (.getfield 13, 3) := by decide +kernel
theorem dX2_liveDay_63 : decode cX2_liveDay 63 = .ok (.iload_n 1, 1) := by decide +kernel
theorem dX2_liveDay_64 : decode cX2_liveDay 64 = .ok (.aaload, 1) := by decide +kernel
theorem dX2_liveDay_65 : decode cX2_liveDay 65 = .ok (.invokevirtual 116, 3) := by decide +kernel
theorem dX2_liveDay_68 : decode cX2_liveDay 68 = .ok (.iinc 1 1, 3) := by decide +kernel
theorem dX2_liveDay_71 : decode cX2_liveDay 71 = .ok (.goto (-20), 3) := by decide +kernel
theorem dX2_liveDay_74 : decode cX2_liveDay 74 = .ok (.aload_n 0, 1) := by decide +kernel
theorem dX2_liveDay_75 : decode cX2_liveDay 75 = .ok (.invokevirtual 119, 3) := by decide +kernel
theorem dX2_liveDay_78 : decode cX2_liveDay 78 = .ok (.aload_n 0, 1) := by decide +kernel
theorem dX2_liveDay_79 : decode cX2_liveDay 79 = .ok (.getfield 23, 3) := by decide +kernel
theorem dX2_liveDay_82 : decode cX2_liveDay 82 = .ok (.aload_n 0, 1) := by decide +kernel
theorem dX2_liveDay_83 : decode cX2_liveDay 83 = .ok (.getfield 36, 3) := by decide +kernel
theorem dX2_liveDay_86 : decode cX2_liveDay 86 = .ok (.invokevirtual 122, 3) := by decide +kernel
theorem dX2_liveDay_89 : decode cX2_liveDay 89 = .ok (.istore_n 1, 1) := by decide +kernel
theorem dX2_liveDay_90 : decode cX2_liveDay 90 = .ok (.iconst 0, 1) := by decide +kernel
theorem dX2_liveDay_91 : decode cX2_liveDay 91 = .ok (.istore_n 2, 1) := by decide +kernel
theorem dX2_liveDay_92 : decode cX2_liveDay 92 = .ok (.iload_n 2, 1) := by decide +kernel
theorem dX2_liveDay_93 : decode cX2_liveDay 93 = .ok (.aload_n 0, 1) := by decide +kernel
theorem dX2_liveDay_94 : decode cX2_liveDay 94 = .ok (.getfield 29, 3) := by decide +kernel
theorem dX2_liveDay_97 : decode cX2_liveDay 97 = .ok (.if_icmp .ge 19, 3) := by decide +kernel
theorem dX2_liveDay_100 : decode cX2_liveDay 100 = .ok (.aload_n 0, 1) := by decide +kernel
theorem dX2_liveDay_101 : decode cX2_liveDay 101 = .ok (.getfield 13, 3) := by decide +kernel
theorem dX2_liveDay_104 : decode cX2_liveDay 104 = .ok (.iload_n 2, 1) := by decide +kernel
theorem dX2_liveDay_105 : decode cX2_liveDay 105 = .ok (.aaload, 1) := by decide +kernel
theorem dX2_liveDay_106 : decode cX2_liveDay 106 = .ok (.iload_n 1, 1) := by decide +kernel
theorem dX2_liveDay_107 : decode cX2_liveDay 107 = .ok (.invokevirtual 125, 3) := by decide +kernel
theorem dX2_liveDay_110 : decode cX2_liveDay 110 = .ok (.iinc 2 1, 3) := by decide +kernel
theorem dX2_liveDay_113 : decode cX2_liveDay 113 = .ok (.goto (-21), 3) := by decide +kernel
theorem dX2_liveDay_116 : decode cX2_liveDay 116 = .ok (.aload_n 0, 1) := by decide +kernel
theorem dX2_liveDay_117 : decode cX2_liveDay 117 = .ok (.dup, 1) := by decide +kernel
theorem dX2_liveDay_118 : decode cX2_liveDay 118 = .ok (.getfield 36, 3) := by decide +kernel
theorem dX2_liveDay_121 : decode cX2_liveDay 121 = .ok (.iconst 1, 1) := by decide +kernel
theorem dX2_liveDay_122 : decode cX2_liveDay 122 = .ok (.iadd, 1) := by decide +kernel
theorem dX2_liveDay_123 : decode cX2_liveDay 123 = .ok (.putfield 36, 3) := by decide +kernel
theorem dX2_liveDay_126 : decode cX2_liveDay 126 = .ok (.return_, 1) := by decide +kernel
theorem dX2_rainDown_0 : decode cX2_rainDown 0 = .ok (.iconst 0, 1) := by decide +kernel
theorem dX2_rainDown_1 : decode cX2_rainDown 1 = .ok (.istore_n 2, 1) := by decide +kernel
theorem dX2_rainDown_2 : decode cX2_rainDown 2 = .ok (.iload_n 2, 1) := by decide +kernel
theorem dX2_rainDown_3 : decode cX2_rainDown 3 = .ok (.aload_n 0, 1) := by decide +kernel
theorem dX2_rainDown_4 : decode cX2_rainDown 4 = .ok (.getfield 29, 3) := by decide +kernel
theorem dX2_rainDown_7 : decode cX2_rainDown 7 = .ok (.if_icmp .ge 37, 3) := by decide +kernel
theorem dX2_rainDown_10 : decode cX2_rainDown 10 = .ok (.aload_n 0, 1) := by decide +kernel
theorem dX2_rainDown_11 : decode cX2_rainDown 11 = .ok (.getfield 13, 3) := by decide +kernel
theorem dX2_rainDown_14 : decode cX2_rainDown 14 = .ok (.iload_n 2, 1) := by decide +kernel
theorem dX2_rainDown_15 : decode cX2_rainDown 15 = .ok (.aaload, 1) := by decide +kernel
theorem dX2_rainDown_16 : decode cX2_rainDown 16 = .ok (.iload_n 1, 1) := by decide +kernel
theorem dX2_rainDown_17 : decode cX2_rainDown 17 = .ok (.invokevirtual 128, 3) := by decide +kernel
theorem dX2_rainDown_20 : decode cX2_rainDown 20 = .ok (.istore_n 3, 1) := by decide +kernel
theorem dX2_rainDown_21 : decode cX2_rainDown 21 = .ok (.aload_n 0, 1) := by decide +kernel
theorem dX2_rainDown_22 : decode cX2_rainDown 22 = .ok (.dup, 1) := by decide +kernel
theorem dX2_rainDown_23 : decode cX2_rainDown 23 = .ok (.getfield 39, 3) := by decide +kernel
theorem dX2_rainDown_26 : decode cX2_rainDown 26 = .ok (.iload_n 3, 1) := by decide +kernel
theorem dX2_rainDown_27 : decode cX2_rainDown 27 = .ok (.iadd, 1) := by decide +kernel
theorem dX2_rainDown_28 : decode cX2_rainDown 28 = .ok (.putfield 39, 3) := by decide +kernel
theorem dX2_rainDown_31 : decode cX2_rainDown 31 = .ok (.aload_n 0, 1) := by decide +kernel
theorem dX2_rainDown_32 : decode cX2_rainDown 32 = .ok (.iload_n 2, 1) := by decide +kernel
theorem dX2_rainDown_33 : decode cX2_rainDown 33 = .ok (.iload_n 3, 1) := by decide +kernel
theorem dX2_rainDown_34 : decode cX2_rainDown 34 = .ok (.invokevirtual 131, 3) := by decide +kernel
theorem dX2_rainDown_37 : decode cX2_rainDown 37 = .ok (.pop, 1) := by decide +kernel
theorem dX2_rainDown_38 : decode cX2_rainDown 38 = .ok (.iinc 2 1, 3) := by decide +kernel
theorem dX2_rainDown_41 : decode cX2_rainDown 41 = .ok (.goto (-39), 3) := by decide +kernel
theorem dX2_rainDown_44 : decode cX2_rainDown 44 = .ok (.return_, 1) := by decide +kernel
theorem dX2_openPipesFlow_0 : decode cX2_openPipesFlow 0 = .ok (.iconst 0, 1) := by decide +kernel
theorem dX2_openPipesFlow_1 : decode cX2_openPipesFlow 1 = .ok (.istore_n 1, 1) := by decide +kernel
theorem dX2_openPipesFlow_2 : decode cX2_openPipesFlow 2 = .ok (.iload_n 1, 1) := by decide +kernel
theorem dX2_openPipesFlow_3 : decode cX2_openPipesFlow 3 = .ok (.aload_n 0, 1) := by decide +kernel
theorem dX2_openPipesFlow_4 : decode cX2_openPipesFlow 4 = .ok (.getfield 33, 3) := by decide +kernel
theorem dX2_openPipesFlow_7 : decode cX2_openPipesFlow 7 = .ok (.if_icmp .ge 45, 3) := by decide +kernel
theorem dX2_openPipesFlow_10 : decode cX2_openPipesFlow 10 = .ok (.aload_n 0, 1) := by decide +kernel
theorem dX2_openPipesFlow_11 : decode cX2_openPipesFlow 11 = .ok (.getfield 19, 3) := by decide +kernel
theorem dX2_openPipesFlow_14 : decode cX2_openPipesFlow 14 = .ok (.iload_n 1, 1) := by decide +kernel
theorem dX2_openPipesFlow_15 : decode cX2_openPipesFlow 15 = .ok (.aaload, 1) := by decide +kernel
theorem dX2_openPipesFlow_16 : decode cX2_openPipesFlow 16 = .ok (.astore_n 2, 1) := by decide +kernel
theorem dX2_openPipesFlow_17 : decode cX2_openPipesFlow 17 = .ok (.aload_n 2, 1) := by decide +kernel
theorem dX2_openPipesFlow_18 : decode cX2_openPipesFlow 18 = .ok (.getfield 79, 3) := by decide +kernel
theorem dX2_openPipesFlow_21 : decode cX2_openPipesFlow 21 = .ok (.ifCond .eq 25, 3) := by decide +kernel
theorem dX2_openPipesFlow_24 : decode cX2_openPipesFlow 24 = .ok (.aload_n 2, 1) := by decide +kernel
theorem dX2_openPipesFlow_25 : decode cX2_openPipesFlow 25 = .ok (.aload_n 0, 1) := by decide +kernel
theorem dX2_openPipesFlow_26 : decode cX2_openPipesFlow 26 = .ok (.getfield 13, 3) := by decide +kernel
theorem dX2_openPipesFlow_29 : decode cX2_openPipesFlow 29 = .ok (.aload_n 2, 1) := by decide +kernel
theorem dX2_openPipesFlow_30 : decode cX2_openPipesFlow 30 = .ok (.getfield 70, 3) := by decide +kernel
theorem dX2_openPipesFlow_33 : decode cX2_openPipesFlow 33 = .ok (.aaload, 1) := by decide +kernel
theorem dX2_openPipesFlow_34 : decode cX2_openPipesFlow 34 = .ok (.aload_n 0, 1) := by decide +kernel
theorem dX2_openPipesFlow_35 : decode cX2_openPipesFlow 35 = .ok (.getfield 13, 3) := by decide +kernel
theorem dX2_openPipesFlow_38 : decode cX2_openPipesFlow 38 = .ok (.aload_n 2, 1) := by decide +kernel
theorem dX2_openPipesFlow_39 : decode cX2_openPipesFlow 39 = .ok (.getfield 73, 3) := by decide +kernel
theorem dX2_openPipesFlow_42 : decode cX2_openPipesFlow 42 = .ok (.aaload, 1) := by decide +kernel
theorem dX2_openPipesFlow_43 : decode cX2_openPipesFlow 43 = .ok (.invokevirtual 135, 3) := by decide +kernel
theorem dX2_openPipesFlow_46 : decode cX2_openPipesFlow 46 = .ok (.iinc 1 1, 3) := by decide +kernel
theorem dX2_openPipesFlow_49 : decode cX2_openPipesFlow 49 = .ok (.goto (-47), 3) := by decide +kernel
theorem dX2_openPipesFlow_52 : decode cX2_openPipesFlow 52 = .ok (.return_, 1) := by decide +kernel
theorem dX2_debt_0 : decode cX2_debt 0 = .ok (.iconst 0, 1) := by decide +kernel
theorem dX2_debt_1 : decode cX2_debt 1 = .ok (.istore_n 3, 1) := by decide +kernel
theorem dX2_debt_2 : decode cX2_debt 2 = .ok (.iconst 0, 1) := by decide +kernel
theorem dX2_debt_3 : decode cX2_debt 3 = .ok (.istore 4, 2) := by decide +kernel
theorem dX2_debt_5 : decode cX2_debt 5 = .ok (.iload 4, 2) := by decide +kernel
theorem dX2_debt_7 : decode cX2_debt 7 = .ok (.aload_n 0, 1) := by decide +kernel
theorem dX2_debt_8 : decode cX2_debt 8 = .ok (.getfield 33, 3) := by decide +kernel
theorem dX2_debt_11 : decode cX2_debt 11 = .ok (.if_icmp .ge 24, 3) := by decide +kernel
theorem dX2_debt_14 : decode cX2_debt 14 = .ok (.iload_n 3, 1) := by decide +kernel
theorem dX2_debt_15 : decode cX2_debt 15 = .ok (.aload_n 0, 1) := by decide +kernel
theorem dX2_debt_16 : decode cX2_debt 16 = .ok (.getfield 19, 3) := by decide +kernel
theorem dX2_debt_19 : decode cX2_debt 19 = .ok (.iload 4, 2) := by decide +kernel
theorem dX2_debt_21 : decode cX2_debt 21 = .ok (.aaload, 1) := by decide +kernel
theorem dX2_debt_22 : decode cX2_debt 22 = .ok (.iload_n 1, 1) := by decide +kernel
theorem dX2_debt_23 : decode cX2_debt 23 = .ok (.iload_n 2, 1) := by decide +kernel
theorem dX2_debt_24 : decode cX2_debt 24 = .ok (.invokevirtual 139, 3) := by decide +kernel
theorem dX2_debt_27 : decode cX2_debt 27 = .ok (.iadd, 1) := by decide +kernel
theorem dX2_debt_28 : decode cX2_debt 28 = .ok (.istore_n 3, 1) := by decide +kernel
theorem dX2_debt_29 : decode cX2_debt 29 = .ok (.iinc 4 1, 3) := by decide +kernel
theorem dX2_debt_32 : decode cX2_debt 32 = .ok (.goto (-27), 3) := by decide +kernel
theorem dX2_debt_35 : decode cX2_debt 35 = .ok (.iload_n 3, 1) := by decide +kernel
theorem dX2_debt_36 : decode cX2_debt 36 = .ok (.ireturn, 1) := by decide +kernel
theorem dX2_total_0 : decode cX2_total 0 = .ok (.iload_n 1, 1) := by decide +kernel
theorem dX2_total_1 : decode cX2_total 1 = .ok (.tableswitch 105 0 9 #[55, 60, 65, 70, 75, 80, 85, 90, 95, 100], 55) := by decide +kernel
theorem dX2_total_56 : decode cX2_total 56 = .ok (.aload_n 0, 1) := by decide +kernel
theorem dX2_total_57 : decode cX2_total 57 = .ok (.getfield 36, 3) := by decide +kernel
theorem dX2_total_60 : decode cX2_total 60 = .ok (.ireturn, 1) := by decide +kernel
theorem dX2_total_61 : decode cX2_total 61 = .ok (.aload_n 0, 1) := by decide +kernel
theorem dX2_total_62 : decode cX2_total 62 = .ok (.getfield 29, 3) := by decide +kernel
theorem dX2_total_65 : decode cX2_total 65 = .ok (.ireturn, 1) := by decide +kernel
theorem dX2_total_66 : decode cX2_total 66 = .ok (.aload_n 0, 1) := by decide +kernel
theorem dX2_total_67 : decode cX2_total 67 = .ok (.getfield 33, 3) := by decide +kernel
theorem dX2_total_70 : decode cX2_total 70 = .ok (.ireturn, 1) := by decide +kernel
theorem dX2_total_71 : decode cX2_total 71 = .ok (.aload_n 0, 1) := by decide +kernel
theorem dX2_total_72 : decode cX2_total 72 = .ok (.invokevirtual 142, 3) := by decide +kernel
theorem dX2_total_75 : decode cX2_total 75 = .ok (.ireturn, 1) := by decide +kernel
theorem dX2_total_76 : decode cX2_total 76 = .ok (.aload_n 0, 1) := by decide +kernel
theorem dX2_total_77 : decode cX2_total 77 = .ok (.invokevirtual 94, 3) := by decide +kernel
theorem dX2_total_80 : decode cX2_total 80 = .ok (.ireturn, 1) := by decide +kernel
theorem dX2_total_81 : decode cX2_total 81 = .ok (.aload_n 0, 1) := by decide +kernel
theorem dX2_total_82 : decode cX2_total 82 = .ok (.getfield 39, 3) := by decide +kernel
theorem dX2_total_85 : decode cX2_total 85 = .ok (.ireturn, 1) := by decide +kernel
theorem dX2_total_86 : decode cX2_total 86 = .ok (.aload_n 0, 1) := by decide +kernel
theorem dX2_total_87 : decode cX2_total 87 = .ok (.getfield 42, 3) := by decide +kernel
theorem dX2_total_90 : decode cX2_total 90 = .ok (.ireturn, 1) := by decide +kernel
theorem dX2_total_91 : decode cX2_total 91 = .ok (.aload_n 0, 1) := by decide +kernel
theorem dX2_total_92 : decode cX2_total 92 = .ok (.getfield 45, 3) := by decide +kernel
theorem dX2_total_95 : decode cX2_total 95 = .ok (.ireturn, 1) := by decide +kernel
theorem dX2_total_96 : decode cX2_total 96 = .ok (.aload_n 0, 1) := by decide +kernel
theorem dX2_total_97 : decode cX2_total 97 = .ok (.invokevirtual 145, 3) := by decide +kernel
theorem dX2_total_100 : decode cX2_total 100 = .ok (.ireturn, 1) := by decide +kernel
theorem dX2_total_101 : decode cX2_total 101 = .ok (.aload_n 0, 1) := by decide +kernel
theorem dX2_total_102 : decode cX2_total 102 = .ok (.getfield 48, 3) := by decide +kernel
theorem dX2_total_105 : decode cX2_total 105 = .ok (.ireturn, 1) := by decide +kernel
theorem dX2_total_106 : decode cX2_total 106 = .ok (.aload_n 0, 1) := by decide +kernel
theorem dX2_total_107 : decode cX2_total 107 = .ok (.invokevirtual 148, 3) := by decide +kernel
theorem dX2_total_110 : decode cX2_total 110 = .ok (.ireturn, 1) := by decide +kernel
theorem dX2_allWater_0 : decode cX2_allWater 0 = .ok (.iconst 0, 1) := by decide +kernel
theorem dX2_allWater_1 : decode cX2_allWater 1 = .ok (.istore_n 1, 1) := by decide +kernel
theorem dX2_allWater_2 : decode cX2_allWater 2 = .ok (.iconst 0, 1) := by decide +kernel
theorem dX2_allWater_3 : decode cX2_allWater 3 = .ok (.istore_n 2, 1) := by decide +kernel
theorem dX2_allWater_4 : decode cX2_allWater 4 = .ok (.iload_n 2, 1) := by decide +kernel
theorem dX2_allWater_5 : decode cX2_allWater 5 = .ok (.aload_n 0, 1) := by decide +kernel
theorem dX2_allWater_6 : decode cX2_allWater 6 = .ok (.getfield 29, 3) := by decide +kernel
theorem dX2_allWater_9 : decode cX2_allWater 9 = .ok (.if_icmp .ge 21, 3) := by decide +kernel
theorem dX2_allWater_12 : decode cX2_allWater 12 = .ok (.iload_n 1, 1) := by decide +kernel
theorem dX2_allWater_13 : decode cX2_allWater 13 = .ok (.aload_n 0, 1) := by decide +kernel
theorem dX2_allWater_14 : decode cX2_allWater 14 = .ok (.getfield 13, 3) := by decide +kernel
theorem dX2_allWater_17 : decode cX2_allWater 17 = .ok (.iload_n 2, 1) := by decide +kernel
theorem dX2_allWater_18 : decode cX2_allWater 18 = .ok (.aaload, 1) := by decide +kernel
theorem dX2_allWater_19 : decode cX2_allWater 19 = .ok (.getfield 151, 3) := by decide +kernel
theorem dX2_allWater_22 : decode cX2_allWater 22 = .ok (.iadd, 1) := by decide +kernel
theorem dX2_allWater_23 : decode cX2_allWater 23 = .ok (.istore_n 1, 1) := by decide +kernel
theorem dX2_allWater_24 : decode cX2_allWater 24 = .ok (.iinc 2 1, 3) := by decide +kernel
theorem dX2_allWater_27 : decode cX2_allWater 27 = .ok (.goto (-23), 3) := by decide +kernel
theorem dX2_allWater_30 : decode cX2_allWater 30 = .ok (.iload_n 1, 1) := by decide +kernel
theorem dX2_allWater_31 : decode cX2_allWater 31 = .ok (.ireturn, 1) := by decide +kernel
theorem dX2_allHolds_0 : decode cX2_allHolds 0 = .ok (.iconst 0, 1) := by decide +kernel
theorem dX2_allHolds_1 : decode cX2_allHolds 1 = .ok (.istore_n 1, 1) := by decide +kernel
theorem dX2_allHolds_2 : decode cX2_allHolds 2 = .ok (.iconst 0, 1) := by decide +kernel
theorem dX2_allHolds_3 : decode cX2_allHolds 3 = .ok (.istore_n 2, 1) := by decide +kernel
theorem dX2_allHolds_4 : decode cX2_allHolds 4 = .ok (.iload_n 2, 1) := by decide +kernel
theorem dX2_allHolds_5 : decode cX2_allHolds 5 = .ok (.aload_n 0, 1) := by decide +kernel
theorem dX2_allHolds_6 : decode cX2_allHolds 6 = .ok (.getfield 29, 3) := by decide +kernel
theorem dX2_allHolds_9 : decode cX2_allHolds 9 = .ok (.if_icmp .ge 21, 3) := by decide +kernel
theorem dX2_allHolds_12 : decode cX2_allHolds 12 = .ok (.iload_n 1, 1) := by decide +kernel
theorem dX2_allHolds_13 : decode cX2_allHolds 13 = .ok (.aload_n 0, 1) := by decide +kernel
theorem dX2_allHolds_14 : decode cX2_allHolds 14 = .ok (.getfield 13, 3) := by decide +kernel
theorem dX2_allHolds_17 : decode cX2_allHolds 17 = .ok (.iload_n 2, 1) := by decide +kernel
theorem dX2_allHolds_18 : decode cX2_allHolds 18 = .ok (.aaload, 1) := by decide +kernel
theorem dX2_allHolds_19 : decode cX2_allHolds 19 = .ok (.getfield 61, 3) := by decide +kernel
theorem dX2_allHolds_22 : decode cX2_allHolds 22 = .ok (.iadd, 1) := by decide +kernel
theorem dX2_allHolds_23 : decode cX2_allHolds 23 = .ok (.istore_n 1, 1) := by decide +kernel
theorem dX2_allHolds_24 : decode cX2_allHolds 24 = .ok (.iinc 2 1, 3) := by decide +kernel
theorem dX2_allHolds_27 : decode cX2_allHolds 27 = .ok (.goto (-23), 3) := by decide +kernel
theorem dX2_allHolds_30 : decode cX2_allHolds 30 = .ok (.iload_n 1, 1) := by decide +kernel
theorem dX2_allHolds_31 : decode cX2_allHolds 31 = .ok (.ireturn, 1) := by decide +kernel
theorem dX2_allThirst_0 : decode cX2_allThirst 0 = .ok (.iconst 0, 1) := by decide +kernel
theorem dX2_allThirst_1 : decode cX2_allThirst 1 = .ok (.istore_n 1, 1) := by decide +kernel
theorem dX2_allThirst_2 : decode cX2_allThirst 2 = .ok (.iconst 0, 1) := by decide +kernel
theorem dX2_allThirst_3 : decode cX2_allThirst 3 = .ok (.istore_n 2, 1) := by decide +kernel
theorem dX2_allThirst_4 : decode cX2_allThirst 4 = .ok (.iload_n 2, 1) := by decide +kernel
theorem dX2_allThirst_5 : decode cX2_allThirst 5 = .ok (.aload_n 0, 1) := by decide +kernel
theorem dX2_allThirst_6 : decode cX2_allThirst 6 = .ok (.getfield 29, 3) := by decide +kernel
theorem dX2_allThirst_9 : decode cX2_allThirst 9 = .ok (.if_icmp .ge 21, 3) := by decide +kernel
theorem dX2_allThirst_12 : decode cX2_allThirst 12 = .ok (.iload_n 1, 1) := by decide +kernel
theorem dX2_allThirst_13 : decode cX2_allThirst 13 = .ok (.aload_n 0, 1) := by decide +kernel
theorem dX2_allThirst_14 : decode cX2_allThirst 14 = .ok (.getfield 13, 3) := by decide +kernel
theorem dX2_allThirst_17 : decode cX2_allThirst 17 = .ok (.iload_n 2, 1) := by decide +kernel
theorem dX2_allThirst_18 : decode cX2_allThirst 18 = .ok (.aaload, 1) := by decide +kernel
theorem dX2_allThirst_19 : decode cX2_allThirst 19 = .ok (.getfield 154, 3) := by decide +kernel
theorem dX2_allThirst_22 : decode cX2_allThirst 22 = .ok (.iadd, 1) := by decide +kernel
theorem dX2_allThirst_23 : decode cX2_allThirst 23 = .ok (.istore_n 1, 1) := by decide +kernel
theorem dX2_allThirst_24 : decode cX2_allThirst 24 = .ok (.iinc 2 1, 3) := by decide +kernel
theorem dX2_allThirst_27 : decode cX2_allThirst 27 = .ok (.goto (-23), 3) := by decide +kernel
theorem dX2_allThirst_30 : decode cX2_allThirst 30 = .ok (.iload_n 1, 1) := by decide +kernel
theorem dX2_allThirst_31 : decode cX2_allThirst 31 = .ok (.ireturn, 1) := by decide +kernel
theorem dX2_allWatered_0 : decode cX2_allWatered 0 = .ok (.iconst 0, 1) := by decide +kernel
theorem dX2_allWatered_1 : decode cX2_allWatered 1 = .ok (.istore_n 1, 1) := by decide +kernel
theorem dX2_allWatered_2 : decode cX2_allWatered 2 = .ok (.iconst 0, 1) := by decide +kernel
theorem dX2_allWatered_3 : decode cX2_allWatered 3 = .ok (.istore_n 2, 1) := by decide +kernel
theorem dX2_allWatered_4 : decode cX2_allWatered 4 = .ok (.iload_n 2, 1) := by decide +kernel
theorem dX2_allWatered_5 : decode cX2_allWatered 5 = .ok (.aload_n 0, 1) := by decide +kernel
theorem dX2_allWatered_6 : decode cX2_allWatered 6 = .ok (.getfield 29, 3) := by decide +kernel
theorem dX2_allWatered_9 : decode cX2_allWatered 9 = .ok (.if_icmp .ge 21, 3) := by decide +kernel
theorem dX2_allWatered_12 : decode cX2_allWatered 12 = .ok (.iload_n 1, 1) := by decide +kernel
theorem dX2_allWatered_13 : decode cX2_allWatered 13 = .ok (.aload_n 0, 1) := by decide +kernel
theorem dX2_allWatered_14 : decode cX2_allWatered 14 = .ok (.getfield 13, 3) := by decide +kernel
theorem dX2_allWatered_17 : decode cX2_allWatered 17 = .ok (.iload_n 2, 1) := by decide +kernel
theorem dX2_allWatered_18 : decode cX2_allWatered 18 = .ok (.aaload, 1) := by decide +kernel
theorem dX2_allWatered_19 : decode cX2_allWatered 19 = .ok (.getfield 157, 3) := by decide +kernel
theorem dX2_allWatered_22 : decode cX2_allWatered 22 = .ok (.iadd, 1) := by decide +kernel
theorem dX2_allWatered_23 : decode cX2_allWatered 23 = .ok (.istore_n 1, 1) := by decide +kernel
theorem dX2_allWatered_24 : decode cX2_allWatered 24 = .ok (.iinc 2 1, 3) := by decide +kernel
theorem dX2_allWatered_27 : decode cX2_allWatered 27 = .ok (.goto (-23), 3) := by decide +kernel
theorem dX2_allWatered_30 : decode cX2_allWatered 30 = .ok (.iload_n 1, 1) := by decide +kernel
theorem dX2_allWatered_31 : decode cX2_allWatered 31 = .ok (.ireturn, 1) := by decide +kernel
theorem dX2_openValves_0 : decode cX2_openValves 0 = .ok (.iconst 0, 1) := by decide +kernel
theorem dX2_openValves_1 : decode cX2_openValves 1 = .ok (.istore_n 1, 1) := by decide +kernel
theorem dX2_openValves_2 : decode cX2_openValves 2 = .ok (.iconst 0, 1) := by decide +kernel
theorem dX2_openValves_3 : decode cX2_openValves 3 = .ok (.istore_n 2, 1) := by decide +kernel
theorem dX2_openValves_4 : decode cX2_openValves 4 = .ok (.iload_n 2, 1) := by decide +kernel
theorem dX2_openValves_5 : decode cX2_openValves 5 = .ok (.aload_n 0, 1) := by decide +kernel
theorem dX2_openValves_6 : decode cX2_openValves 6 = .ok (.getfield 33, 3) := by decide +kernel
theorem dX2_openValves_9 : decode cX2_openValves 9 = .ok (.if_icmp .ge 24, 3) := by decide +kernel
theorem dX2_openValves_12 : decode cX2_openValves 12 = .ok (.aload_n 0, 1) := by decide +kernel
theorem dX2_openValves_13 : decode cX2_openValves 13 = .ok (.getfield 19, 3) := by decide +kernel
theorem dX2_openValves_16 : decode cX2_openValves 16 = .ok (.iload_n 2, 1) := by decide +kernel
theorem dX2_openValves_17 : decode cX2_openValves 17 = .ok (.aaload, 1) := by decide +kernel
theorem dX2_openValves_18 : decode cX2_openValves 18 = .ok (.getfield 79, 3) := by decide +kernel
theorem dX2_openValves_21 : decode cX2_openValves 21 = .ok (.ifCond .eq 6, 3) := by decide +kernel
theorem dX2_openValves_24 : decode cX2_openValves 24 = .ok (.iinc 1 1, 3) := by decide +kernel
theorem dX2_openValves_27 : decode cX2_openValves 27 = .ok (.iinc 2 1, 3) := by decide +kernel
theorem dX2_openValves_30 : decode cX2_openValves 30 = .ok (.goto (-26), 3) := by decide +kernel
theorem dX2_openValves_33 : decode cX2_openValves 33 = .ok (.iload_n 1, 1) := by decide +kernel
theorem dX2_openValves_34 : decode cX2_openValves 34 = .ok (.ireturn, 1) := by decide +kernel
theorem dX3_init_0 : decode cX3_init 0 = .ok (.aload_n 0, 1) := by decide +kernel
theorem dX3_init_1 : decode cX3_init 1 = .ok (.invokespecial 1, 3) := by decide +kernel
theorem dX3_init_4 : decode cX3_init 4 = .ok (.aload_n 0, 1) := by decide +kernel
theorem dX3_init_5 : decode cX3_init 5 = .ok (.bipush 28, 2) := by decide +kernel
theorem dX3_init_7 : decode cX3_init 7 = .ok (.newarray .int, 2) := by decide +kernel
theorem dX3_init_9 : decode cX3_init 9 = .ok (.putfield 9, 3) := by decide +kernel
theorem dX3_init_12 : decode cX3_init 12 = .ok (.aload_n 0, 1) := by decide +kernel
theorem dX3_init_13 : decode cX3_init 13 = .ok (.bipush 28, 2) := by decide +kernel
theorem dX3_init_15 : decode cX3_init 15 = .ok (.newarray .int, 2) := by decide +kernel
theorem dX3_init_17 : decode cX3_init 17 = .ok (.putfield 13, 3) := by decide +kernel
theorem dX3_init_20 : decode cX3_init 20 = .ok (.return_, 1) := by decide +kernel
theorem dX3_change_0 : decode cX3_change 0 = .ok (.aload_n 0, 1) := by decide +kernel
theorem dX3_change_1 : decode cX3_change 1 = .ok (.getfield 9, 3) := by decide +kernel
theorem dX3_change_4 : decode cX3_change 4 = .ok (.iload_n 1, 1) := by decide +kernel
theorem dX3_change_5 : decode cX3_change 5 = .ok (.iload_n 2, 1) := by decide +kernel
theorem dX3_change_6 : decode cX3_change 6 = .ok (.iastore, 1) := by decide +kernel
theorem dX3_change_7 : decode cX3_change 7 = .ok (.aload_n 0, 1) := by decide +kernel
theorem dX3_change_8 : decode cX3_change 8 = .ok (.getfield 13, 3) := by decide +kernel
theorem dX3_change_11 : decode cX3_change 11 = .ok (.iload_n 1, 1) := by decide +kernel
theorem dX3_change_12 : decode cX3_change 12 = .ok (.iload_n 3, 1) := by decide +kernel
theorem dX3_change_13 : decode cX3_change 13 = .ok (.iastore, 1) := by decide +kernel
theorem dX3_change_14 : decode cX3_change 14 = .ok (.return_, 1) := by decide +kernel
theorem dX3_code_0 : decode cX3_code 0 = .ok (.bipush 10, 2) := by decide +kernel
theorem dX3_code_2 : decode cX3_code 2 = .ok (.aload_n 0, 1) := by decide +kernel
theorem dX3_code_3 : decode cX3_code 3 = .ok (.getfield 9, 3) := by decide +kernel
theorem dX3_code_6 : decode cX3_code 6 = .ok (.iload_n 1, 1) := by decide +kernel
theorem dX3_code_7 : decode cX3_code 7 = .ok (.iaload, 1) := by decide +kernel
theorem dX3_code_8 : decode cX3_code 8 = .ok (.imul, 1) := by decide +kernel
theorem dX3_code_9 : decode cX3_code 9 = .ok (.aload_n 0, 1) := by decide +kernel
theorem dX3_code_10 : decode cX3_code 10 = .ok (.getfield 13, 3) := by decide +kernel
theorem dX3_code_13 : decode cX3_code 13 = .ok (.iload_n 1, 1) := by decide +kernel
theorem dX3_code_14 : decode cX3_code 14 = .ok (.iaload, 1) := by decide +kernel
theorem dX3_code_15 : decode cX3_code 15 = .ok (.iadd, 1) := by decide +kernel
theorem dX3_code_16 : decode cX3_code 16 = .ok (.ireturn, 1) := by decide +kernel
theorem dX3_rainOn_0 : decode cX3_rainOn 0 = .ok (.aload_n 0, 1) := by decide +kernel
theorem dX3_rainOn_1 : decode cX3_rainOn 1 = .ok (.getfield 9, 3) := by decide +kernel
theorem dX3_rainOn_4 : decode cX3_rainOn 4 = .ok (.iload_n 1, 1) := by decide +kernel
theorem dX3_rainOn_5 : decode cX3_rainOn 5 = .ok (.bipush 28, 2) := by decide +kernel
theorem dX3_rainOn_7 : decode cX3_rainOn 7 = .ok (.invokestatic 16, 3) := by decide +kernel
theorem dX3_rainOn_10 : decode cX3_rainOn 10 = .ok (.iaload, 1) := by decide +kernel
theorem dX3_rainOn_11 : decode cX3_rainOn 11 = .ok (.ireturn, 1) := by decide +kernel
theorem dX3_leavesOn_0 : decode cX3_leavesOn 0 = .ok (.aload_n 0, 1) := by decide +kernel
theorem dX3_leavesOn_1 : decode cX3_leavesOn 1 = .ok (.getfield 13, 3) := by decide +kernel
theorem dX3_leavesOn_4 : decode cX3_leavesOn 4 = .ok (.iload_n 1, 1) := by decide +kernel
theorem dX3_leavesOn_5 : decode cX3_leavesOn 5 = .ok (.bipush 28, 2) := by decide +kernel
theorem dX3_leavesOn_7 : decode cX3_leavesOn 7 = .ok (.invokestatic 16, 3) := by decide +kernel
theorem dX3_leavesOn_10 : decode cX3_leavesOn 10 = .ok (.iaload, 1) := by decide +kernel
theorem dX3_leavesOn_11 : decode cX3_leavesOn 11 = .ok (.ireturn, 1) := by decide +kernel
