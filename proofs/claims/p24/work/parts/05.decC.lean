theorem dX5_init_0 : decode cX5_init 0 = .ok (.aload_n 0, 1) := by decide +kernel
theorem dX5_init_1 : decode cX5_init 1 = .ok (.invokespecial 1, 3) := by decide +kernel
theorem dX5_init_4 : decode cX5_init 4 = .ok (.aload_n 0, 1) := by decide +kernel
theorem dX5_init_5 : decode cX5_init 5 = .ok (.iconst (-1), 1) := by decide +kernel
theorem dX5_init_6 : decode cX5_init 6 = .ok (.putfield 7, 3) := by decide +kernel
theorem dX5_init_9 : decode cX5_init 9 = .ok (.return_, 1) := by decide +kernel
theorem dX6_init_0 : decode cX6_init 0 = .ok (.aload_n 0, 1) := by decide +kernel
theorem dX6_init_1 : decode cX6_init 1 = .ok (.invokespecial 1, 3) := by decide +kernel
theorem dX6_init_4 : decode cX6_init 4 = .ok (.aload_n 0, 1) := by decide +kernel
theorem dX6_init_5 : decode cX6_init 5 = .ok (.bipush 28, 2) := by decide +kernel
theorem dX6_init_7 : decode cX6_init 7 = .ok (.iconst 2, 1) := by decide +kernel
theorem dX6_init_8 : decode cX6_init 8 = .ok (.multianewarray 7 2, 4) := by decide +kernel
theorem dX6_init_12 : decode cX6_init 12 = .ok (.putfield 9, 3) := by decide +kernel
theorem dX6_init_15 : decode cX6_init 15 = .ok (.aload_n 0, 1) := by decide +kernel
theorem dX6_init_16 : decode cX6_init 16 = .ok (.iconst 0, 1) := by decide +kernel
theorem dX6_init_17 : decode cX6_init 17 = .ok (.anewarray 14, 3) := by decide +kernel
theorem dX6_init_20 : decode cX6_init 20 = .ok (.putfield 16, 3) := by decide +kernel
theorem dX6_init_23 : decode cX6_init 23 = .ok (.aload_n 0, 1) := by decide +kernel
theorem dX6_init_24 : decode cX6_init 24 = .ok (.iconst 0, 1) := by decide +kernel
theorem dX6_init_25 : decode cX6_init 25 = .ok (.anewarray 20, 3) := by decide +kernel
theorem dX6_init_28 : decode cX6_init 28 = .ok (.putfield 22, 3) := by decide +kernel
theorem dX6_init_31 : decode cX6_init 31 = .ok (.aload_n 0, 1) := by decide +kernel
theorem dX6_init_32 : decode cX6_init 32 = .ok (.bipush 10, 2) := by decide +kernel
theorem dX6_init_34 : decode cX6_init 34 = .ok (.bipush 10, 2) := by decide +kernel
theorem dX6_init_36 : decode cX6_init 36 = .ok (.multianewarray 7 2, 4) := by decide +kernel
theorem dX6_init_40 : decode cX6_init 40 = .ok (.putfield 25, 3) := by decide +kernel
theorem dX6_init_43 : decode cX6_init 43 = .ok (.return_, 1) := by decide +kernel
theorem dX6_build_0 : decode cX6_build 0 = .ok (.aload_n 0, 1) := by decide +kernel
theorem dX6_build_1 : decode cX6_build 1 = .ok (.getfield 16, 3) := by decide +kernel
theorem dX6_build_4 : decode cX6_build 4 = .ok (.arraylength, 1) := by decide +kernel
theorem dX6_build_5 : decode cX6_build 5 = .ok (.iconst 1, 1) := by decide +kernel
theorem dX6_build_6 : decode cX6_build 6 = .ok (.iadd, 1) := by decide +kernel
theorem dX6_build_7 : decode cX6_build 7 = .ok (.anewarray 14, 3) := by decide +kernel
theorem dX6_build_10 : decode cX6_build 10 = .ok (.astore 5, 2) := by decide +kernel
theorem dX6_build_12 : decode cX6_build 12 = .ok (.iconst 0, 1) := by decide +kernel
theorem dX6_build_13 : decode cX6_build 13 = .ok (.istore 6, 2) := by decide +kernel
theorem dX6_build_15 : decode cX6_build 15 = .ok (.iload 6, 2) := by decide +kernel
theorem dX6_build_17 : decode cX6_build 17 = .ok (.aload_n 0, 1) := by decide +kernel
theorem dX6_build_18 : decode cX6_build 18 = .ok (.getfield 16, 3) := by decide +kernel
theorem dX6_build_21 : decode cX6_build 21 = .ok (.arraylength, 1) := by decide +kernel
theorem dX6_build_22 : decode cX6_build 22 = .ok (.if_icmp .ge 21, 3) := by decide +kernel
theorem dX6_build_25 : decode cX6_build 25 = .ok (.aload 5, 2) := by decide +kernel
theorem dX6_build_27 : decode cX6_build 27 = .ok (.iload 6, 2) := by decide +kernel
theorem dX6_build_29 : decode cX6_build 29 = .ok (.aload_n 0, 1) := by decide +kernel
theorem dX6_build_30 : decode cX6_build 30 = .ok (.getfield 16, 3) := by decide +kernel
theorem dX6_build_33 : decode cX6_build 33 = .ok (.iload 6, 2) := by decide +kernel
theorem dX6_build_35 : decode cX6_build 35 = .ok (.aaload, 1) := by decide +kernel
theorem dX6_build_36 : decode cX6_build 36 = .ok (.aastore, 1) := by decide +kernel
theorem dX6_build_37 : decode cX6_build 37 = .ok (.iinc 6 1, 3) := by decide +kernel
theorem dX6_build_40 : decode cX6_build 40 = .ok (.goto (-25), 3) := by decide +kernel
theorem dX6_build_43 : decode cX6_build 43 = .ok (.new 14, 3) := by decide +kernel
theorem dX6_build_46 : decode cX6_build 46 = .ok (.dup, 1) := by decide +kernel
theorem dX6_build_47 : decode cX6_build 47 = .ok (.invokespecial 44, 3) := by decide +kernel
theorem dX6_build_50 : decode cX6_build 50 = .ok (.astore 6, 2) := by decide +kernel
theorem dX6_build_52 : decode cX6_build 52 = .ok (.aload 6, 2) := by decide +kernel
theorem dX6_build_54 : decode cX6_build 54 = .ok (.iload_n 1, 1) := by decide +kernel
theorem dX6_build_55 : decode cX6_build 55 = .ok (.putfield 45, 3) := by decide +kernel
theorem dX6_build_58 : decode cX6_build 58 = .ok (.aload 6, 2) := by decide +kernel
theorem dX6_build_60 : decode cX6_build 60 = .ok (.iload_n 2, 1) := by decide +kernel
theorem dX6_build_61 : decode cX6_build 61 = .ok (.putfield 48, 3) := by decide +kernel
theorem dX6_build_64 : decode cX6_build 64 = .ok (.aload 6, 2) := by decide +kernel
theorem dX6_build_66 : decode cX6_build 66 = .ok (.iload_n 3, 1) := by decide +kernel
theorem dX6_build_67 : decode cX6_build 67 = .ok (.putfield 51, 3) := by decide +kernel
theorem dX6_build_70 : decode cX6_build 70 = .ok (.aload 6, 2) := by decide +kernel
theorem dX6_build_72 : decode cX6_build 72 = .ok (.iload 4, 2) := by decide +kernel
theorem dX6_build_74 : decode cX6_build 74 = .ok (.putfield 54, 3) := by decide +kernel
theorem dX6_build_77 : decode cX6_build 77 = .ok (.aload 5, 2) := by decide +kernel
theorem dX6_build_79 : decode cX6_build 79 = .ok (.aload_n 0, 1) := by decide +kernel
theorem dX6_build_80 : decode cX6_build 80 = .ok (.getfield 16, 3) := by decide +kernel
theorem dX6_build_83 : decode cX6_build 83 = .ok (.arraylength, 1) := by decide +kernel
theorem dX6_build_84 : decode cX6_build 84 = .ok (.aload 6, 2) := by decide +kernel
theorem dX6_build_86 : decode cX6_build 86 = .ok (.aastore, 1) := by decide +kernel
theorem dX6_build_87 : decode cX6_build 87 = .ok (.aload_n 0, 1) := by decide +kernel
theorem dX6_build_88 : decode cX6_build 88 = .ok (.aload 5, 2) := by decide +kernel
theorem dX6_build_90 : decode cX6_build 90 = .ok (.putfield 16, 3) := by decide +kernel
theorem dX6_build_93 : decode cX6_build 93 = .ok (.return_, 1) := by decide +kernel
theorem dX6_lay_0 : decode cX6_lay 0 = .ok (.aload_n 0, 1) := by decide +kernel
theorem dX6_lay_1 : decode cX6_lay 1 = .ok (.getfield 22, 3) := by decide +kernel
theorem dX6_lay_4 : decode cX6_lay 4 = .ok (.arraylength, 1) := by decide +kernel
theorem dX6_lay_5 : decode cX6_lay 5 = .ok (.iconst 1, 1) := by decide +kernel
theorem dX6_lay_6 : decode cX6_lay 6 = .ok (.iadd, 1) := by decide +kernel
theorem dX6_lay_7 : decode cX6_lay 7 = .ok (.anewarray 20, 3) := by decide +kernel
theorem dX6_lay_10 : decode cX6_lay 10 = .ok (.astore 4, 2) := by decide +kernel
theorem dX6_lay_12 : decode cX6_lay 12 = .ok (.iconst 0, 1) := by decide +kernel
theorem dX6_lay_13 : decode cX6_lay 13 = .ok (.istore 5, 2) := by decide +kernel
theorem dX6_lay_15 : decode cX6_lay 15 = .ok (.iload 5, 2) := by decide +kernel
theorem dX6_lay_17 : decode cX6_lay 17 = .ok (.aload_n 0, 1) := by decide +kernel
theorem dX6_lay_18 : decode cX6_lay 18 = .ok (.getfield 22, 3) := by decide +kernel
theorem dX6_lay_21 : decode cX6_lay 21 = .ok (.arraylength, 1) := by decide +kernel
theorem dX6_lay_22 : decode cX6_lay 22 = .ok (.if_icmp .ge 21, 3) := by decide +kernel
theorem dX6_lay_25 : decode cX6_lay 25 = .ok (.aload 4, 2) := by decide +kernel
theorem dX6_lay_27 : decode cX6_lay 27 = .ok (.iload 5, 2) := by decide +kernel
theorem dX6_lay_29 : decode cX6_lay 29 = .ok (.aload_n 0, 1) := by decide +kernel
theorem dX6_lay_30 : decode cX6_lay 30 = .ok (.getfield 22, 3) := by decide +kernel
theorem dX6_lay_33 : decode cX6_lay 33 = .ok (.iload 5, 2) := by decide +kernel
theorem dX6_lay_35 : decode cX6_lay 35 = .ok (.aaload, 1) := by decide +kernel
theorem dX6_lay_36 : decode cX6_lay 36 = .ok (.aastore, 1) := by decide +kernel
theorem dX6_lay_37 : decode cX6_lay 37 = .ok (.iinc 5 1, 3) := by decide +kernel
theorem dX6_lay_40 : decode cX6_lay 40 = .ok (.goto (-25), 3) := by decide +kernel
theorem dX6_lay_43 : decode cX6_lay 43 = .ok (.aload 4, 2) := by decide +kernel
theorem dX6_lay_45 : decode cX6_lay 45 = .ok (.aload_n 0, 1) := by decide +kernel
theorem dX6_lay_46 : decode cX6_lay 46 = .ok (.getfield 22, 3) := by decide +kernel
theorem dX6_lay_49 : decode cX6_lay 49 = .ok (.arraylength, 1) := by decide +kernel
theorem dX6_lay_50 : decode cX6_lay 50 = .ok (.iconst 5, 1) := by decide +kernel
theorem dX6_lay_51 : decode cX6_lay 51 = .ok (.newarray .int, 2) := by decide +kernel
theorem dX6_lay_53 : decode cX6_lay 53 = .ok (.dup, 1) := by decide +kernel
theorem dX6_lay_54 : decode cX6_lay 54 = .ok (.iconst 0, 1) := by decide +kernel
theorem dX6_lay_55 : decode cX6_lay 55 = .ok (.iload_n 1, 1) := by decide +kernel
theorem dX6_lay_56 : decode cX6_lay 56 = .ok (.iastore, 1) := by decide +kernel
theorem dX6_lay_57 : decode cX6_lay 57 = .ok (.dup, 1) := by decide +kernel
theorem dX6_lay_58 : decode cX6_lay 58 = .ok (.iconst 1, 1) := by decide +kernel
theorem dX6_lay_59 : decode cX6_lay 59 = .ok (.iload_n 2, 1) := by decide +kernel
theorem dX6_lay_60 : decode cX6_lay 60 = .ok (.iastore, 1) := by decide +kernel
theorem dX6_lay_61 : decode cX6_lay 61 = .ok (.dup, 1) := by decide +kernel
theorem dX6_lay_62 : decode cX6_lay 62 = .ok (.iconst 2, 1) := by decide +kernel
theorem dX6_lay_63 : decode cX6_lay 63 = .ok (.iload_n 3, 1) := by decide +kernel
theorem dX6_lay_64 : decode cX6_lay 64 = .ok (.iastore, 1) := by decide +kernel
theorem dX6_lay_65 : decode cX6_lay 65 = .ok (.dup, 1) := by decide +kernel
theorem dX6_lay_66 : decode cX6_lay 66 = .ok (.iconst 3, 1) := by decide +kernel
theorem dX6_lay_67 : decode cX6_lay 67 = .ok (.iconst 1, 1) := by decide +kernel
theorem dX6_lay_68 : decode cX6_lay 68 = .ok (.iastore, 1) := by decide +kernel
theorem dX6_lay_69 : decode cX6_lay 69 = .ok (.dup, 1) := by decide +kernel
theorem dX6_lay_70 : decode cX6_lay 70 = .ok (.iconst 4, 1) := by decide +kernel
theorem dX6_lay_71 : decode cX6_lay 71 = .ok (.iconst 0, 1) := by decide +kernel
theorem dX6_lay_72 : decode cX6_lay 72 = .ok (.iastore, 1) := by decide +kernel
theorem dX6_lay_73 : decode cX6_lay 73 = .ok (.aastore, 1) := by decide +kernel
theorem dX6_lay_74 : decode cX6_lay 74 = .ok (.aload_n 0, 1) := by decide +kernel
theorem dX6_lay_75 : decode cX6_lay 75 = .ok (.aload 4, 2) := by decide +kernel
theorem dX6_lay_77 : decode cX6_lay 77 = .ok (.putfield 22, 3) := by decide +kernel
theorem dX6_lay_80 : decode cX6_lay 80 = .ok (.return_, 1) := by decide +kernel
theorem dX6_leads_0 : decode cX6_leads 0 = .ok (.iload_n 1, 1) := by decide +kernel
theorem dX6_leads_1 : decode cX6_leads 1 = .ok (.iload_n 2, 1) := by decide +kernel
theorem dX6_leads_2 : decode cX6_leads 2 = .ok (.if_icmp .eq 32, 3) := by decide +kernel
theorem dX6_leads_5 : decode cX6_leads 5 = .ok (.aload_n 0, 1) := by decide +kernel
theorem dX6_leads_6 : decode cX6_leads 6 = .ok (.getfield 16, 3) := by decide +kernel
theorem dX6_leads_9 : decode cX6_leads 9 = .ok (.iload_n 1, 1) := by decide +kernel
theorem dX6_leads_10 : decode cX6_leads 10 = .ok (.aaload, 1) := by decide +kernel
theorem dX6_leads_11 : decode cX6_leads 11 = .ok (.getfield 57, 3) := by decide +kernel
theorem dX6_leads_14 : decode cX6_leads 14 = .ok (.ifCond .lt 24, 3) := by decide +kernel
theorem dX6_leads_17 : decode cX6_leads 17 = .ok (.aload_n 0, 1) := by decide +kernel
theorem dX6_leads_18 : decode cX6_leads 18 = .ok (.aload_n 0, 1) := by decide +kernel
theorem dX6_leads_19 : decode cX6_leads 19 = .ok (.getfield 16, 3) := by decide +kernel
theorem dX6_leads_22 : decode cX6_leads 22 = .ok (.iload_n 1, 1) := by decide +kernel
theorem dX6_leads_23 : decode cX6_leads 23 = .ok (.aaload, 1) := by decide +kernel
theorem dX6_leads_24 : decode cX6_leads 24 = .ok (.getfield 57, 3) := by decide +kernel
theorem dX6_leads_27 : decode cX6_leads 27 = .ok (.iload_n 2, 1) := by decide +kernel
theorem dX6_leads_28 : decode cX6_leads 28 = .ok (.invokevirtual 60, 3) := by decide +kernel
theorem dX6_leads_31 : decode cX6_leads 31 = .ok (.ifCond .eq 7, 3) := by decide +kernel
theorem dX6_leads_34 : decode cX6_leads 34 = .ok (.iconst 1, 1) := by decide +kernel
theorem dX6_leads_35 : decode cX6_leads 35 = .ok (.goto 4, 3) := by decide +kernel
theorem dX6_leads_38 : decode cX6_leads 38 = .ok (.iconst 0, 1) := by decide +kernel
theorem dX6_leads_39 : decode cX6_leads 39 = .ok (.ireturn, 1) := by decide +kernel
theorem dX6_behind_0 : decode cX6_behind 0 = .ok (.iload_n 1, 1) := by decide +kernel
theorem dX6_behind_1 : decode cX6_behind 1 = .ok (.ifCond .ge 7, 3) := by decide +kernel
theorem dX6_behind_4 : decode cX6_behind 4 = .ok (.iconst 0, 1) := by decide +kernel
theorem dX6_behind_5 : decode cX6_behind 5 = .ok (.goto 18, 3) := by decide +kernel
theorem dX6_behind_8 : decode cX6_behind 8 = .ok (.iconst 1, 1) := by decide +kernel
theorem dX6_behind_9 : decode cX6_behind 9 = .ok (.aload_n 0, 1) := by decide +kernel
theorem dX6_behind_10 : decode cX6_behind 10 = .ok (.aload_n 0, 1) := by decide +kernel
theorem dX6_behind_11 : decode cX6_behind 11 = .ok (.getfield 16, 3) := by decide +kernel
theorem dX6_behind_14 : decode cX6_behind 14 = .ok (.iload_n 1, 1) := by decide +kernel
theorem dX6_behind_15 : decode cX6_behind 15 = .ok (.aaload, 1) := by decide +kernel
theorem dX6_behind_16 : decode cX6_behind 16 = .ok (.getfield 57, 3) := by decide +kernel
theorem dX6_behind_19 : decode cX6_behind 19 = .ok (.invokevirtual 64, 3) := by decide +kernel
theorem dX6_behind_22 : decode cX6_behind 22 = .ok (.iadd, 1) := by decide +kernel
theorem dX6_behind_23 : decode cX6_behind 23 = .ok (.ireturn, 1) := by decide +kernel
theorem dX6_pour_0 : decode cX6_pour 0 = .ok (.aload_n 0, 1) := by decide +kernel
theorem dX6_pour_1 : decode cX6_pour 1 = .ok (.getfield 16, 3) := by decide +kernel
theorem dX6_pour_4 : decode cX6_pour 4 = .ok (.iload_n 1, 1) := by decide +kernel
theorem dX6_pour_5 : decode cX6_pour 5 = .ok (.aaload, 1) := by decide +kernel
theorem dX6_pour_6 : decode cX6_pour 6 = .ok (.astore_n 3, 1) := by decide +kernel
theorem dX6_pour_7 : decode cX6_pour 7 = .ok (.iconst 0, 1) := by decide +kernel
theorem dX6_pour_8 : decode cX6_pour 8 = .ok (.aload_n 3, 1) := by decide +kernel
theorem dX6_pour_9 : decode cX6_pour 9 = .ok (.getfield 68, 3) := by decide +kernel
theorem dX6_pour_12 : decode cX6_pour 12 = .ok (.iload_n 2, 1) := by decide +kernel
theorem dX6_pour_13 : decode cX6_pour 13 = .ok (.iadd, 1) := by decide +kernel
theorem dX6_pour_14 : decode cX6_pour 14 = .ok (.aload_n 3, 1) := by decide +kernel
theorem dX6_pour_15 : decode cX6_pour 15 = .ok (.getfield 48, 3) := by decide +kernel
theorem dX6_pour_18 : decode cX6_pour 18 = .ok (.isub, 1) := by decide +kernel
theorem dX6_pour_19 : decode cX6_pour 19 = .ok (.invokestatic 71, 3) := by decide +kernel
theorem dX6_pour_22 : decode cX6_pour 22 = .ok (.istore 4, 2) := by decide +kernel
theorem dX6_pour_24 : decode cX6_pour 24 = .ok (.aload_n 3, 1) := by decide +kernel
theorem dX6_pour_25 : decode cX6_pour 25 = .ok (.dup, 1) := by decide +kernel
theorem dX6_pour_26 : decode cX6_pour 26 = .ok (.getfield 68, 3) := by decide +kernel
theorem dX6_pour_29 : decode cX6_pour 29 = .ok (.iload_n 2, 1) := by decide +kernel
theorem dX6_pour_30 : decode cX6_pour 30 = .ok (.iload 4, 2) := by decide +kernel
theorem dX6_pour_32 : decode cX6_pour 32 = .ok (.isub, 1) := by decide +kernel
theorem dX6_pour_33 : decode cX6_pour 33 = .ok (.iadd, 1) := by decide +kernel
theorem dX6_pour_34 : decode cX6_pour 34 = .ok (.putfield 68, 3) := by decide +kernel
theorem dX6_pour_37 : decode cX6_pour 37 = .ok (.iload 4, 2) := by decide +kernel
theorem dX6_pour_39 : decode cX6_pour 39 = .ok (.ifCond .ne 5, 3) := by decide +kernel
theorem dX6_pour_42 : decode cX6_pour 42 = .ok (.iconst 0, 1) := by decide +kernel
theorem dX6_pour_43 : decode cX6_pour 43 = .ok (.ireturn, 1) := by decide +kernel
theorem dX6_pour_44 : decode cX6_pour 44 = .ok (.aload_n 3, 1) := by decide +kernel
theorem dX6_pour_45 : decode cX6_pour 45 = .ok (.getfield 57, 3) := by decide +kernel
theorem dX6_pour_48 : decode cX6_pour 48 = .ok (.ifCond .lt 14, 3) := by decide +kernel
theorem dX6_pour_51 : decode cX6_pour 51 = .ok (.aload_n 0, 1) := by decide +kernel
theorem dX6_pour_52 : decode cX6_pour 52 = .ok (.aload_n 3, 1) := by decide +kernel
theorem dX6_pour_53 : decode cX6_pour 53 = .ok (.getfield 57, 3) := by decide +kernel
theorem dX6_pour_56 : decode cX6_pour 56 = .ok (.iload 4, 2) := by decide +kernel
theorem dX6_pour_58 : decode cX6_pour 58 = .ok (.invokevirtual 77, 3) := by decide +kernel
theorem dX6_pour_61 : decode cX6_pour 61 = .ok (.ireturn, 1) := by decide +kernel
theorem dX6_pour_62 : decode cX6_pour 62 = .ok (.aload_n 0, 1) := by decide +kernel
theorem dX6_pour_63 : decode cX6_pour 63 = .ok (.dup, 1) := by decide +kernel
theorem dX6_pour_64 : decode cX6_pour 64 = .ok (.getfield 41, 3) := by decide +kernel
theorem dX6_pour_67 : decode cX6_pour 67 = .ok (.iload 4, 2) := by decide +kernel
theorem dX6_pour_69 : decode cX6_pour 69 = .ok (.iadd, 1) := by decide +kernel
theorem dX6_pour_70 : decode cX6_pour 70 = .ok (.putfield 41, 3) := by decide +kernel
theorem dX6_pour_73 : decode cX6_pour 73 = .ok (.iload 4, 2) := by decide +kernel
theorem dX6_pour_75 : decode cX6_pour 75 = .ok (.ireturn, 1) := by decide +kernel
theorem dX6_pass_0 : decode cX6_pass 0 = .ok (.aload_n 0, 1) := by decide +kernel
theorem dX6_pass_1 : decode cX6_pass 1 = .ok (.getfield 9, 3) := by decide +kernel
theorem dX6_pass_4 : decode cX6_pass 4 = .ok (.aload_n 0, 1) := by decide +kernel
theorem dX6_pass_5 : decode cX6_pass 5 = .ok (.getfield 37, 3) := by decide +kernel
theorem dX6_pass_8 : decode cX6_pass 8 = .ok (.bipush 28, 2) := by decide +kernel
theorem dX6_pass_10 : decode cX6_pass 10 = .ok (.irem, 1) := by decide +kernel
theorem dX6_pass_11 : decode cX6_pass 11 = .ok (.aaload, 1) := by decide +kernel
theorem dX6_pass_12 : decode cX6_pass 12 = .ok (.astore_n 1, 1) := by decide +kernel
theorem dX6_pass_13 : decode cX6_pass 13 = .ok (.iconst 0, 1) := by decide +kernel
theorem dX6_pass_14 : decode cX6_pass 14 = .ok (.istore_n 2, 1) := by decide +kernel
theorem dX6_pass_15 : decode cX6_pass 15 = .ok (.iconst 0, 1) := by decide +kernel
theorem dX6_pass_16 : decode cX6_pass 16 = .ok (.istore_n 3, 1) := by decide +kernel
theorem dX6_pass_17 : decode cX6_pass 17 = .ok (.iload_n 3, 1) := by decide +kernel
theorem dX6_pass_18 : decode cX6_pass 18 = .ok (.aload_n 0, 1) := by decide +kernel
theorem dX6_pass_19 : decode cX6_pass 19 = .ok (.getfield 16, 3) := by decide +kernel
theorem dX6_pass_22 : decode cX6_pass 22 = .ok (.arraylength, 1) := by decide +kernel
theorem dX6_pass_23 : decode cX6_pass 23 = .ok (.if_icmp .ge 59, 3) := by decide +kernel
theorem dX6_pass_26 : decode cX6_pass 26 = .ok (.aload_n 0, 1) := by decide +kernel
theorem dX6_pass_27 : decode cX6_pass 27 = .ok (.getfield 16, 3) := by decide +kernel
theorem dX6_pass_30 : decode cX6_pass 30 = .ok (.iload_n 3, 1) := by decide +kernel
theorem dX6_pass_31 : decode cX6_pass 31 = .ok (.aaload, 1) := by decide +kernel
theorem dX6_pass_32 : decode cX6_pass 32 = .ok (.getfield 45, 3) := by decide +kernel
theorem dX6_pass_35 : decode cX6_pass 35 = .ok (.aload_n 1, 1) := by decide +kernel
theorem dX6_pass_36 : decode cX6_pass 36 = .ok (.iconst 0, 1) := by decide +kernel
theorem dX6_pass_37 : decode cX6_pass 37 = .ok (.iaload, 1) := by decide +kernel
theorem dX6_pass_38 : decode cX6_pass 38 = .ok (.imul, 1) := by decide +kernel
theorem dX6_pass_39 : decode cX6_pass 39 = .ok (.bipush 10, 2) := by decide +kernel
theorem dX6_pass_41 : decode cX6_pass 41 = .ok (.aload_n 0, 1) := by decide +kernel
theorem dX6_pass_42 : decode cX6_pass 42 = .ok (.getfield 16, 3) := by decide +kernel
theorem dX6_pass_45 : decode cX6_pass 45 = .ok (.iload_n 3, 1) := by decide +kernel
theorem dX6_pass_46 : decode cX6_pass 46 = .ok (.aaload, 1) := by decide +kernel
theorem dX6_pass_47 : decode cX6_pass 47 = .ok (.getfield 80, 3) := by decide +kernel
theorem dX6_pass_50 : decode cX6_pass 50 = .ok (.isub, 1) := by decide +kernel
theorem dX6_pass_51 : decode cX6_pass 51 = .ok (.imul, 1) := by decide +kernel
theorem dX6_pass_52 : decode cX6_pass 52 = .ok (.bipush 10, 2) := by decide +kernel
theorem dX6_pass_54 : decode cX6_pass 54 = .ok (.idiv, 1) := by decide +kernel
theorem dX6_pass_55 : decode cX6_pass 55 = .ok (.istore 4, 2) := by decide +kernel
theorem dX6_pass_57 : decode cX6_pass 57 = .ok (.aload_n 0, 1) := by decide +kernel
theorem dX6_pass_58 : decode cX6_pass 58 = .ok (.dup, 1) := by decide +kernel
theorem dX6_pass_59 : decode cX6_pass 59 = .ok (.getfield 83, 3) := by decide +kernel
theorem dX6_pass_62 : decode cX6_pass 62 = .ok (.iload 4, 2) := by decide +kernel
theorem dX6_pass_64 : decode cX6_pass 64 = .ok (.iadd, 1) := by decide +kernel
theorem dX6_pass_65 : decode cX6_pass 65 = .ok (.putfield 83, 3) := by decide +kernel
theorem dX6_pass_68 : decode cX6_pass 68 = .ok (.aload_n 0, 1) := by decide +kernel
theorem dX6_pass_69 : decode cX6_pass 69 = .ok (.iload_n 3, 1) := by decide +kernel
theorem dX6_pass_70 : decode cX6_pass 70 = .ok (.iload 4, 2) := by decide +kernel
theorem dX6_pass_72 : decode cX6_pass 72 = .ok (.invokevirtual 77, 3) := by decide +kernel
theorem dX6_pass_75 : decode cX6_pass 75 = .ok (.pop, 1) := by decide +kernel
theorem dX6_pass_76 : decode cX6_pass 76 = .ok (.iinc 3 1, 3) := by decide +kernel
theorem dX6_pass_79 : decode cX6_pass 79 = .ok (.goto (-62), 3) := by decide +kernel
theorem dX6_pass_82 : decode cX6_pass 82 = .ok (.aload_n 0, 1) := by decide +kernel
theorem dX6_pass_83 : decode cX6_pass 83 = .ok (.getfield 16, 3) := by decide +kernel
theorem dX6_pass_86 : decode cX6_pass 86 = .ok (.astore_n 3, 1) := by decide +kernel
theorem dX6_pass_87 : decode cX6_pass 87 = .ok (.aload_n 3, 1) := by decide +kernel
theorem dX6_pass_88 : decode cX6_pass 88 = .ok (.arraylength, 1) := by decide +kernel
theorem dX6_pass_89 : decode cX6_pass 89 = .ok (.istore 4, 2) := by decide +kernel
theorem dX6_pass_91 : decode cX6_pass 91 = .ok (.iconst 0, 1) := by decide +kernel
theorem dX6_pass_92 : decode cX6_pass 92 = .ok (.istore 5, 2) := by decide +kernel
theorem dX6_pass_94 : decode cX6_pass 94 = .ok (.iload 5, 2) := by decide +kernel
theorem dX6_pass_96 : decode cX6_pass 96 = .ok (.iload 4, 2) := by decide +kernel
theorem dX6_pass_98 : decode cX6_pass 98 = .ok (.if_icmp .ge 110, 3) := by decide +kernel
theorem dX6_pass_101 : decode cX6_pass 101 = .ok (.aload_n 3, 1) := by decide +kernel
theorem dX6_pass_102 : decode cX6_pass 102 = .ok (.iload 5, 2) := by decide +kernel
theorem dX6_pass_104 : decode cX6_pass 104 = .ok (.aaload, 1) := by decide +kernel
theorem dX6_pass_105 : decode cX6_pass 105 = .ok (.astore 6, 2) := by decide +kernel
theorem dX6_pass_107 : decode cX6_pass 107 = .ok (.iconst 0, 1) := by decide +kernel
theorem dX6_pass_108 : decode cX6_pass 108 = .ok (.iconst 3, 1) := by decide +kernel
theorem dX6_pass_109 : decode cX6_pass 109 = .ok (.aload 6, 2) := by decide +kernel
theorem dX6_pass_111 : decode cX6_pass 111 = .ok (.getfield 51, 3) := by decide +kernel
theorem dX6_pass_114 : decode cX6_pass 114 = .ok (.imul, 1) := by decide +kernel
theorem dX6_pass_115 : decode cX6_pass 115 = .ok (.aload 6, 2) := by decide +kernel
theorem dX6_pass_117 : decode cX6_pass 117 = .ok (.getfield 68, 3) := by decide +kernel
theorem dX6_pass_120 : decode cX6_pass 120 = .ok (.isub, 1) := by decide +kernel
theorem dX6_pass_121 : decode cX6_pass 121 = .ok (.invokestatic 71, 3) := by decide +kernel
theorem dX6_pass_124 : decode cX6_pass 124 = .ok (.istore 7, 2) := by decide +kernel
theorem dX6_pass_126 : decode cX6_pass 126 = .ok (.aload 6, 2) := by decide +kernel
theorem dX6_pass_128 : decode cX6_pass 128 = .ok (.dup, 1) := by decide +kernel
theorem dX6_pass_129 : decode cX6_pass 129 = .ok (.getfield 68, 3) := by decide +kernel
theorem dX6_pass_132 : decode cX6_pass 132 = .ok (.iconst 3, 1) := by decide +kernel
theorem dX6_pass_133 : decode cX6_pass 133 = .ok (.aload 6, 2) := by decide +kernel
theorem dX6_pass_135 : decode cX6_pass 135 = .ok (.getfield 51, 3) := by decide +kernel
theorem dX6_pass_138 : decode cX6_pass 138 = .ok (.imul, 1) := by decide +kernel
theorem dX6_pass_139 : decode cX6_pass 139 = .ok (.iload 7, 2) := by decide +kernel
theorem dX6_pass_141 : decode cX6_pass 141 = .ok (.isub, 1) := by decide +kernel
theorem dX6_pass_142 : decode cX6_pass 142 = .ok (.isub, 1) := by decide +kernel
theorem dX6_pass_143 : decode cX6_pass 143 = .ok (.putfield 68, 3) := by decide +kernel
theorem dX6_pass_146 : decode cX6_pass 146 = .ok (.aload 6, 2) := by decide +kernel
theorem dX6_pass_148 : decode cX6_pass 148 = .ok (.dup, 1) := by decide +kernel
theorem dX6_pass_149 : decode cX6_pass 149 = .ok (.getfield 86, 3) := by decide +kernel
theorem dX6_pass_152 : decode cX6_pass 152 = .ok (.iload 7, 2) := by decide +kernel
theorem dX6_pass_154 : decode cX6_pass 154 = .ok (.iadd, 1) := by decide +kernel
theorem dX6_pass_155 : decode cX6_pass 155 = .ok (.putfield 86, 3) := by decide +kernel
theorem dX6_pass_158 : decode cX6_pass 158 = .ok (.aload 6, 2) := by decide +kernel
theorem dX6_pass_160 : decode cX6_pass 160 = .ok (.dup, 1) := by decide +kernel
theorem dX6_pass_161 : decode cX6_pass 161 = .ok (.getfield 89, 3) := by decide +kernel
theorem dX6_pass_164 : decode cX6_pass 164 = .ok (.iload 7, 2) := by decide +kernel
theorem dX6_pass_166 : decode cX6_pass 166 = .ok (.ifCond .le 7, 3) := by decide +kernel
theorem dX6_pass_169 : decode cX6_pass 169 = .ok (.iconst 1, 1) := by decide +kernel
theorem dX6_pass_170 : decode cX6_pass 170 = .ok (.goto 4, 3) := by decide +kernel
theorem dX6_pass_173 : decode cX6_pass 173 = .ok (.iconst 0, 1) := by decide +kernel
theorem dX6_pass_174 : decode cX6_pass 174 = .ok (.iadd, 1) := by decide +kernel
theorem dX6_pass_175 : decode cX6_pass 175 = .ok (.putfield 89, 3) := by decide +kernel
theorem dX6_pass_178 : decode cX6_pass 178 = .ok (.aload_n 0, 1) := by decide +kernel
theorem dX6_pass_179 : decode cX6_pass 179 = .ok (.dup, 1) := by decide +kernel
theorem dX6_pass_180 : decode cX6_pass 180 = .ok (.getfield 92, 3) := by decide +kernel
theorem dX6_pass_183 : decode cX6_pass 183 = .ok (.iconst 3, 1) := by decide +kernel
theorem dX6_pass_184 : decode cX6_pass 184 = .ok (.aload 6, 2) := by decide +kernel
theorem dX6_pass_186 : decode cX6_pass 186 = .ok (.getfield 51, 3) := by decide +kernel
theorem dX6_pass_189 : decode cX6_pass 189 = .ok (.imul, 1) := by decide +kernel
theorem dX6_pass_190 : decode cX6_pass 190 = .ok (.iload 7, 2) := by decide +kernel
theorem dX6_pass_192 : decode cX6_pass 192 = .ok (.isub, 1) := by decide +kernel
theorem dX6_pass_193 : decode cX6_pass 193 = .ok (.iadd, 1) := by decide +kernel
theorem dX6_pass_194 : decode cX6_pass 194 = .ok (.putfield 92, 3) := by decide +kernel
theorem dX6_pass_197 : decode cX6_pass 197 = .ok (.iload_n 2, 1) := by decide +kernel
theorem dX6_pass_198 : decode cX6_pass 198 = .ok (.iload 7, 2) := by decide +kernel
theorem dX6_pass_200 : decode cX6_pass 200 = .ok (.iadd, 1) := by decide +kernel
theorem dX6_pass_201 : decode cX6_pass 201 = .ok (.istore_n 2, 1) := by decide +kernel
theorem dX6_pass_202 : decode cX6_pass 202 = .ok (.iinc 5 1, 3) := by decide +kernel
theorem dX6_pass_205 : decode cX6_pass 205 = .ok (.goto (-111), 3) := by decide +kernel
theorem dX6_pass_208 : decode cX6_pass 208 = .ok (.aload_n 0, 1) := by decide +kernel
theorem dX6_pass_209 : decode cX6_pass 209 = .ok (.getfield 16, 3) := by decide +kernel
theorem dX6_pass_212 : decode cX6_pass 212 = .ok (.astore_n 3, 1) := by decide +kernel
theorem dX6_pass_213 : decode cX6_pass 213 = .ok (.aload_n 3, 1) := by decide +kernel
theorem dX6_pass_214 : decode cX6_pass 214 = .ok (.arraylength, 1) := by decide +kernel
theorem dX6_pass_215 : decode cX6_pass 215 = .ok (.istore 4, 2) := by decide +kernel
theorem dX6_pass_217 : decode cX6_pass 217 = .ok (.iconst 0, 1) := by decide +kernel
theorem dX6_pass_218 : decode cX6_pass 218 = .ok (.istore 5, 2) := by decide +kernel
theorem dX6_pass_220 : decode cX6_pass 220 = .ok (.iload 5, 2) := by decide +kernel
theorem dX6_pass_222 : decode cX6_pass 222 = .ok (.iload 4, 2) := by decide +kernel
theorem dX6_pass_224 : decode cX6_pass 224 = .ok (.if_icmp .ge 76, 3) := by decide +kernel
theorem dX6_pass_227 : decode cX6_pass 227 = .ok (.aload_n 3, 1) := by decide +kernel
theorem dX6_pass_228 : decode cX6_pass 228 = .ok (.iload 5, 2) := by decide +kernel
theorem dX6_pass_230 : decode cX6_pass 230 = .ok (.aaload, 1) := by decide +kernel
theorem dX6_pass_231 : decode cX6_pass 231 = .ok (.astore 6, 2) := by decide +kernel
theorem dX6_pass_233 : decode cX6_pass 233 = .ok (.iconst 0, 1) := by decide +kernel
theorem dX6_pass_234 : decode cX6_pass 234 = .ok (.istore 7, 2) := by decide +kernel
theorem dX6_pass_236 : decode cX6_pass 236 = .ok (.iload 7, 2) := by decide +kernel
theorem dX6_pass_238 : decode cX6_pass 238 = .ok (.aload 6, 2) := by decide +kernel
theorem dX6_pass_240 : decode cX6_pass 240 = .ok (.getfield 54, 3) := by decide +kernel
theorem dX6_pass_243 : decode cX6_pass 243 = .ok (.if_icmp .ge 51, 3) := by decide +kernel
theorem dX6_pass_246 : decode cX6_pass 246 = .ok (.iconst 2, 1) := by decide +kernel
theorem dX6_pass_247 : decode cX6_pass 247 = .ok (.aload 6, 2) := by decide +kernel
theorem dX6_pass_249 : decode cX6_pass 249 = .ok (.getfield 68, 3) := by decide +kernel
theorem dX6_pass_252 : decode cX6_pass 252 = .ok (.iconst 1, 1) := by decide +kernel
theorem dX6_pass_253 : decode cX6_pass 253 = .ok (.isub, 1) := by decide +kernel
theorem dX6_pass_254 : decode cX6_pass 254 = .ok (.imul, 1) := by decide +kernel
theorem dX6_pass_255 : decode cX6_pass 255 = .ok (.aload 6, 2) := by decide +kernel
theorem dX6_pass_257 : decode cX6_pass 257 = .ok (.getfield 48, 3) := by decide +kernel
theorem dX6_pass_260 : decode cX6_pass 260 = .ok (.if_icmp .ge 6, 3) := by decide +kernel
theorem dX6_pass_263 : decode cX6_pass 263 = .ok (.goto 31, 3) := by decide +kernel
theorem dX6_pass_266 : decode cX6_pass 266 = .ok (.aload 6, 2) := by decide +kernel
theorem dX6_pass_268 : decode cX6_pass 268 = .ok (.dup, 1) := by decide +kernel
theorem dX6_pass_269 : decode cX6_pass 269 = .ok (.getfield 68, 3) := by decide +kernel
theorem dX6_pass_272 : decode cX6_pass 272 = .ok (.iconst 1, 1) := by decide +kernel
theorem dX6_pass_273 : decode cX6_pass 273 = .ok (.isub, 1) := by decide +kernel
theorem dX6_pass_274 : decode cX6_pass 274 = .ok (.putfield 68, 3) := by decide +kernel
theorem dX6_pass_277 : decode cX6_pass 277 = .ok (.aload 6, 2) := by decide +kernel
theorem dX6_pass_279 : decode cX6_pass 279 = .ok (.dup, 1) := by decide +kernel
theorem dX6_pass_280 : decode cX6_pass 280 = .ok (.getfield 95, 3) := by decide +kernel
theorem dX6_pass_283 : decode cX6_pass 283 = .ok (.iconst 1, 1) := by decide +kernel
theorem dX6_pass_284 : decode cX6_pass 284 = .ok (.iadd, 1) := by decide +kernel
theorem dX6_pass_285 : decode cX6_pass 285 = .ok (.putfield 95, 3) := by decide +kernel
theorem dX6_pass_288 : decode cX6_pass 288 = .ok (.iinc 7 1, 3) := by decide +kernel
theorem dX6_pass_291 : decode cX6_pass 291 = .ok (.goto (-55), 3) := by decide +kernel
theorem dX6_pass_294 : decode cX6_pass 294 = .ok (.iinc 5 1, 3) := by decide +kernel
theorem dX6_pass_297 : decode cX6_pass 297 = .ok (.goto (-77), 3) := by decide +kernel
theorem dX6_pass_300 : decode cX6_pass 300 = .ok (.aload_n 0, 1) := by decide +kernel
theorem dX6_pass_301 : decode cX6_pass 301 = .ok (.getfield 22, 3) := by decide +kernel
theorem dX6_pass_304 : decode cX6_pass 304 = .ok (.astore_n 3, 1) := by decide +kernel
theorem dX6_pass_305 : decode cX6_pass 305 = .ok (.aload_n 3, 1) := by decide +kernel
theorem dX6_pass_306 : decode cX6_pass 306 = .ok (.arraylength, 1) := by decide +kernel
theorem dX6_pass_307 : decode cX6_pass 307 = .ok (.istore 4, 2) := by decide +kernel
theorem dX6_pass_309 : decode cX6_pass 309 = .ok (.iconst 0, 1) := by decide +kernel
theorem dX6_pass_310 : decode cX6_pass 310 = .ok (.istore 5, 2) := by decide +kernel
theorem dX6_pass_312 : decode cX6_pass 312 = .ok (.iload 5, 2) := by decide +kernel
theorem dX6_pass_314 : decode cX6_pass 314 = .ok (.iload 4, 2) := by decide +kernel
theorem dX6_pass_316 : decode cX6_pass 316 = .ok (.if_icmp .ge 219, 3) := by decide +kernel
theorem dX6_pass_319 : decode cX6_pass 319 = .ok (.aload_n 3, 1) := by decide +kernel
theorem dX6_pass_320 : decode cX6_pass 320 = .ok (.iload 5, 2) := by decide +kernel
theorem dX6_pass_322 : decode cX6_pass 322 = .ok (.aaload, 1) := by decide +kernel
theorem dX6_pass_323 : decode cX6_pass 323 = .ok (.astore 6, 2) := by decide +kernel
theorem dX6_pass_325 : decode cX6_pass 325 = .ok (.aload 6, 2) := by decide +kernel
theorem dX6_pass_327 : decode cX6_pass 327 = .ok (.iconst 3, 1) := by decide +kernel
theorem dX6_pass_328 : decode cX6_pass 328 = .ok (.iaload, 1) := by decide +kernel
theorem dX6_pass_329 : decode cX6_pass 329 = .ok (.ifCond .ne 6, 3) := by decide +kernel
theorem dX6_pass_332 : decode cX6_pass 332 = .ok (.goto 197, 3) := by decide +kernel
theorem dX6_pass_335 : decode cX6_pass 335 = .ok (.aload_n 0, 1) := by decide +kernel
theorem dX6_pass_336 : decode cX6_pass 336 = .ok (.getfield 16, 3) := by decide +kernel
theorem dX6_pass_339 : decode cX6_pass 339 = .ok (.aload 6, 2) := by decide +kernel
theorem dX6_pass_341 : decode cX6_pass 341 = .ok (.iconst 0, 1) := by decide +kernel
theorem dX6_pass_342 : decode cX6_pass 342 = .ok (.iaload, 1) := by decide +kernel
theorem dX6_pass_343 : decode cX6_pass 343 = .ok (.aaload, 1) := by decide +kernel
theorem dX6_pass_344 : decode cX6_pass 344 = .ok (.astore 7, 2) := by decide +kernel
theorem dX6_pass_346 : decode cX6_pass 346 = .ok (.aload_n 0, 1) := by decide +kernel
theorem dX6_pass_347 : decode cX6_pass 347 = .ok (.getfield 16, 3) := by decide +kernel
theorem dX6_pass_350 : decode cX6_pass 350 = .ok (.aload 6, 2) := by decide +kernel
theorem dX6_pass_352 : decode cX6_pass 352 = .ok (.iconst 1, 1) := by decide +kernel
theorem dX6_pass_353 : decode cX6_pass 353 = .ok (.iaload, 1) := by decide +kernel
theorem dX6_pass_354 : decode cX6_pass 354 = .ok (.aaload, 1) := by decide +kernel
theorem dX6_pass_355 : decode cX6_pass 355 = .ok (.astore 8, 2) := by decide +kernel
theorem dX6_pass_357 : decode cX6_pass 357 = .ok (.aload 7, 2) := by decide +kernel
theorem dX6_pass_359 : decode cX6_pass 359 = .ok (.getfield 68, 3) := by decide +kernel
theorem dX6_pass_362 : decode cX6_pass 362 = .ok (.aload 8, 2) := by decide +kernel
theorem dX6_pass_364 : decode cX6_pass 364 = .ok (.getfield 48, 3) := by decide +kernel
theorem dX6_pass_367 : decode cX6_pass 367 = .ok (.imul, 1) := by decide +kernel
theorem dX6_pass_368 : decode cX6_pass 368 = .ok (.aload 8, 2) := by decide +kernel
theorem dX6_pass_370 : decode cX6_pass 370 = .ok (.getfield 68, 3) := by decide +kernel
theorem dX6_pass_373 : decode cX6_pass 373 = .ok (.aload 7, 2) := by decide +kernel
theorem dX6_pass_375 : decode cX6_pass 375 = .ok (.getfield 48, 3) := by decide +kernel
theorem dX6_pass_378 : decode cX6_pass 378 = .ok (.imul, 1) := by decide +kernel
theorem dX6_pass_379 : decode cX6_pass 379 = .ok (.isub, 1) := by decide +kernel
theorem dX6_pass_380 : decode cX6_pass 380 = .ok (.istore 9, 2) := by decide +kernel
theorem dX6_pass_382 : decode cX6_pass 382 = .ok (.iload 9, 2) := by decide +kernel
theorem dX6_pass_384 : decode cX6_pass 384 = .ok (.ifCond .ge 7, 3) := by decide +kernel
theorem dX6_pass_387 : decode cX6_pass 387 = .ok (.iconst 1, 1) := by decide +kernel
theorem dX6_pass_388 : decode cX6_pass 388 = .ok (.goto 4, 3) := by decide +kernel
theorem dX6_pass_391 : decode cX6_pass 391 = .ok (.iconst 0, 1) := by decide +kernel
theorem dX6_pass_392 : decode cX6_pass 392 = .ok (.istore 10, 2) := by decide +kernel
theorem dX6_pass_394 : decode cX6_pass 394 = .ok (.aload 6, 2) := by decide +kernel
theorem dX6_pass_396 : decode cX6_pass 396 = .ok (.iconst 2, 1) := by decide +kernel
theorem dX6_pass_397 : decode cX6_pass 397 = .ok (.iaload, 1) := by decide +kernel
theorem dX6_pass_398 : decode cX6_pass 398 = .ok (.iload 10, 2) := by decide +kernel
theorem dX6_pass_400 : decode cX6_pass 400 = .ok (.ifCond .eq 9, 3) := by decide +kernel
theorem dX6_pass_403 : decode cX6_pass 403 = .ok (.iload 9, 2) := by decide +kernel
theorem dX6_pass_405 : decode cX6_pass 405 = .ok (.ineg, 1) := by decide +kernel
theorem dX6_pass_406 : decode cX6_pass 406 = .ok (.goto 5, 3) := by decide +kernel
theorem dX6_pass_409 : decode cX6_pass 409 = .ok (.iload 9, 2) := by decide +kernel
theorem dX6_pass_411 : decode cX6_pass 411 = .ok (.aload 7, 2) := by decide +kernel
theorem dX6_pass_413 : decode cX6_pass 413 = .ok (.getfield 48, 3) := by decide +kernel
theorem dX6_pass_416 : decode cX6_pass 416 = .ok (.aload 8, 2) := by decide +kernel
theorem dX6_pass_418 : decode cX6_pass 418 = .ok (.getfield 48, 3) := by decide +kernel
theorem dX6_pass_421 : decode cX6_pass 421 = .ok (.iadd, 1) := by decide +kernel
theorem dX6_pass_422 : decode cX6_pass 422 = .ok (.idiv, 1) := by decide +kernel
theorem dX6_pass_423 : decode cX6_pass 423 = .ok (.invokestatic 98, 3) := by decide +kernel
theorem dX6_pass_426 : decode cX6_pass 426 = .ok (.istore 11, 2) := by decide +kernel
theorem dX6_pass_428 : decode cX6_pass 428 = .ok (.aload 7, 2) := by decide +kernel
theorem dX6_pass_430 : decode cX6_pass 430 = .ok (.dup, 1) := by decide +kernel
theorem dX6_pass_431 : decode cX6_pass 431 = .ok (.getfield 68, 3) := by decide +kernel
theorem dX6_pass_434 : decode cX6_pass 434 = .ok (.iload 10, 2) := by decide +kernel
theorem dX6_pass_436 : decode cX6_pass 436 = .ok (.ifCond .eq 8, 3) := by decide +kernel
theorem dX6_pass_439 : decode cX6_pass 439 = .ok (.iload 11, 2) := by decide +kernel
theorem dX6_pass_441 : decode cX6_pass 441 = .ok (.goto 6, 3) := by decide +kernel
theorem dX6_pass_444 : decode cX6_pass 444 = .ok (.iload 11, 2) := by decide +kernel
theorem dX6_pass_446 : decode cX6_pass 446 = .ok (.ineg, 1) := by decide +kernel
theorem dX6_pass_447 : decode cX6_pass 447 = .ok (.iadd, 1) := by decide +kernel
theorem dX6_pass_448 : decode cX6_pass 448 = .ok (.putfield 68, 3) := by decide +kernel
theorem dX6_pass_451 : decode cX6_pass 451 = .ok (.aload 8, 2) := by decide +kernel
theorem dX6_pass_453 : decode cX6_pass 453 = .ok (.dup, 1) := by decide +kernel
theorem dX6_pass_454 : decode cX6_pass 454 = .ok (.getfield 68, 3) := by decide +kernel
theorem dX6_pass_457 : decode cX6_pass 457 = .ok (.iload 10, 2) := by decide +kernel
theorem dX6_pass_459 : decode cX6_pass 459 = .ok (.ifCond .eq 9, 3) := by decide +kernel
theorem dX6_pass_462 : decode cX6_pass 462 = .ok (.iload 11, 2) := by decide +kernel
theorem dX6_pass_464 : decode cX6_pass 464 = .ok (.ineg, 1) := by decide +kernel
theorem dX6_pass_465 : decode cX6_pass 465 = .ok (.goto 5, 3) := by decide +kernel
theorem dX6_pass_468 : decode cX6_pass 468 = .ok (.iload 11, 2) := by decide +kernel
theorem dX6_pass_470 : decode cX6_pass 470 = .ok (.iadd, 1) := by decide +kernel
theorem dX6_pass_471 : decode cX6_pass 471 = .ok (.putfield 68, 3) := by decide +kernel
theorem dX6_pass_474 : decode cX6_pass 474 = .ok (.aload 6, 2) := by decide +kernel
theorem dX6_pass_476 : decode cX6_pass 476 = .ok (.iconst 4, 1) := by decide +kernel
theorem dX6_pass_477 : decode cX6_pass 477 = .ok (.dup2, 1) := by decide +kernel
theorem dX6_pass_478 : decode cX6_pass 478 = .ok (.iaload, 1) := by decide +kernel
theorem dX6_pass_479 : decode cX6_pass 479 = .ok (.iload 11, 2) := by decide +kernel
theorem dX6_pass_481 : decode cX6_pass 481 = .ok (.iadd, 1) := by decide +kernel
theorem dX6_pass_482 : decode cX6_pass 482 = .ok (.iastore, 1) := by decide +kernel
theorem dX6_pass_483 : decode cX6_pass 483 = .ok (.iload 10, 2) := by decide +kernel
theorem dX6_pass_485 : decode cX6_pass 485 = .ok (.ifCond .eq 25, 3) := by decide +kernel
theorem dX6_pass_488 : decode cX6_pass 488 = .ok (.aload_n 0, 1) := by decide +kernel
theorem dX6_pass_489 : decode cX6_pass 489 = .ok (.getfield 25, 3) := by decide +kernel
theorem dX6_pass_492 : decode cX6_pass 492 = .ok (.aload 6, 2) := by decide +kernel
theorem dX6_pass_494 : decode cX6_pass 494 = .ok (.iconst 0, 1) := by decide +kernel
theorem dX6_pass_495 : decode cX6_pass 495 = .ok (.iaload, 1) := by decide +kernel
theorem dX6_pass_496 : decode cX6_pass 496 = .ok (.aaload, 1) := by decide +kernel
theorem dX6_pass_497 : decode cX6_pass 497 = .ok (.aload 6, 2) := by decide +kernel
theorem dX6_pass_499 : decode cX6_pass 499 = .ok (.iconst 1, 1) := by decide +kernel
theorem dX6_pass_500 : decode cX6_pass 500 = .ok (.iaload, 1) := by decide +kernel
theorem dX6_pass_501 : decode cX6_pass 501 = .ok (.dup2, 1) := by decide +kernel
theorem dX6_pass_502 : decode cX6_pass 502 = .ok (.iaload, 1) := by decide +kernel
theorem dX6_pass_503 : decode cX6_pass 503 = .ok (.iload 11, 2) := by decide +kernel
theorem dX6_pass_505 : decode cX6_pass 505 = .ok (.iadd, 1) := by decide +kernel
theorem dX6_pass_506 : decode cX6_pass 506 = .ok (.iastore, 1) := by decide +kernel
theorem dX6_pass_507 : decode cX6_pass 507 = .ok (.goto 22, 3) := by decide +kernel
theorem dX6_pass_510 : decode cX6_pass 510 = .ok (.aload_n 0, 1) := by decide +kernel
theorem dX6_pass_511 : decode cX6_pass 511 = .ok (.getfield 25, 3) := by decide +kernel
theorem dX6_pass_514 : decode cX6_pass 514 = .ok (.aload 6, 2) := by decide +kernel
theorem dX6_pass_516 : decode cX6_pass 516 = .ok (.iconst 1, 1) := by decide +kernel
theorem dX6_pass_517 : decode cX6_pass 517 = .ok (.iaload, 1) := by decide +kernel
theorem dX6_pass_518 : decode cX6_pass 518 = .ok (.aaload, 1) := by decide +kernel
theorem dX6_pass_519 : decode cX6_pass 519 = .ok (.aload 6, 2) := by decide +kernel
theorem dX6_pass_521 : decode cX6_pass 521 = .ok (.iconst 0, 1) := by decide +kernel
theorem dX6_pass_522 : decode cX6_pass 522 = .ok (.iaload, 1) := by decide +kernel
theorem dX6_pass_523 : decode cX6_pass 523 = .ok (.dup2, 1) := by decide +kernel
theorem dX6_pass_524 : decode cX6_pass 524 = .ok (.iaload, 1) := by decide +kernel
theorem dX6_pass_525 : decode cX6_pass 525 = .ok (.iload 11, 2) := by decide +kernel
theorem dX6_pass_527 : decode cX6_pass 527 = .ok (.iadd, 1) := by decide +kernel
theorem dX6_pass_528 : decode cX6_pass 528 = .ok (.iastore, 1) := by decide +kernel
theorem dX6_pass_529 : decode cX6_pass 529 = .ok (.iinc 5 1, 3) := by decide +kernel
theorem dX6_pass_532 : decode cX6_pass 532 = .ok (.goto (-220), 3) := by decide +kernel
theorem dX6_pass_535 : decode cX6_pass 535 = .ok (.aload_n 0, 1) := by decide +kernel
theorem dX6_pass_536 : decode cX6_pass 536 = .ok (.getfield 16, 3) := by decide +kernel
theorem dX6_pass_539 : decode cX6_pass 539 = .ok (.astore_n 3, 1) := by decide +kernel
theorem dX6_pass_540 : decode cX6_pass 540 = .ok (.aload_n 3, 1) := by decide +kernel
theorem dX6_pass_541 : decode cX6_pass 541 = .ok (.arraylength, 1) := by decide +kernel
theorem dX6_pass_542 : decode cX6_pass 542 = .ok (.istore 4, 2) := by decide +kernel
theorem dX6_pass_544 : decode cX6_pass 544 = .ok (.iconst 0, 1) := by decide +kernel
theorem dX6_pass_545 : decode cX6_pass 545 = .ok (.istore 5, 2) := by decide +kernel
theorem dX6_pass_547 : decode cX6_pass 547 = .ok (.iload 5, 2) := by decide +kernel
theorem dX6_pass_549 : decode cX6_pass 549 = .ok (.iload 4, 2) := by decide +kernel
theorem dX6_pass_551 : decode cX6_pass 551 = .ok (.if_icmp .ge 34, 3) := by decide +kernel
theorem dX6_pass_554 : decode cX6_pass 554 = .ok (.aload_n 3, 1) := by decide +kernel
theorem dX6_pass_555 : decode cX6_pass 555 = .ok (.iload 5, 2) := by decide +kernel
theorem dX6_pass_557 : decode cX6_pass 557 = .ok (.aaload, 1) := by decide +kernel
theorem dX6_pass_558 : decode cX6_pass 558 = .ok (.astore 6, 2) := by decide +kernel
theorem dX6_pass_560 : decode cX6_pass 560 = .ok (.aload 6, 2) := by decide +kernel
theorem dX6_pass_562 : decode cX6_pass 562 = .ok (.bipush 10, 2) := by decide +kernel
theorem dX6_pass_564 : decode cX6_pass 564 = .ok (.aload 6, 2) := by decide +kernel
theorem dX6_pass_566 : decode cX6_pass 566 = .ok (.getfield 80, 3) := by decide +kernel
theorem dX6_pass_569 : decode cX6_pass 569 = .ok (.aload_n 1, 1) := by decide +kernel
theorem dX6_pass_570 : decode cX6_pass 570 = .ok (.iconst 1, 1) := by decide +kernel
theorem dX6_pass_571 : decode cX6_pass 571 = .ok (.iaload, 1) := by decide +kernel
theorem dX6_pass_572 : decode cX6_pass 572 = .ok (.iadd, 1) := by decide +kernel
theorem dX6_pass_573 : decode cX6_pass 573 = .ok (.invokestatic 98, 3) := by decide +kernel
theorem dX6_pass_576 : decode cX6_pass 576 = .ok (.putfield 80, 3) := by decide +kernel
theorem dX6_pass_579 : decode cX6_pass 579 = .ok (.iinc 5 1, 3) := by decide +kernel
theorem dX6_pass_582 : decode cX6_pass 582 = .ok (.goto (-35), 3) := by decide +kernel
theorem dX6_pass_585 : decode cX6_pass 585 = .ok (.aload_n 0, 1) := by decide +kernel
theorem dX6_pass_586 : decode cX6_pass 586 = .ok (.dup, 1) := by decide +kernel
theorem dX6_pass_587 : decode cX6_pass 587 = .ok (.getfield 37, 3) := by decide +kernel
theorem dX6_pass_590 : decode cX6_pass 590 = .ok (.iconst 1, 1) := by decide +kernel
theorem dX6_pass_591 : decode cX6_pass 591 = .ok (.iadd, 1) := by decide +kernel
theorem dX6_pass_592 : decode cX6_pass 592 = .ok (.putfield 37, 3) := by decide +kernel
theorem dX6_pass_595 : decode cX6_pass 595 = .ok (.iload_n 2, 1) := by decide +kernel
theorem dX6_pass_596 : decode cX6_pass 596 = .ok (.ireturn, 1) := by decide +kernel
theorem dX6_all_0 : decode cX6_all 0 = .ok (.iconst 0, 1) := by decide +kernel
theorem dX6_all_1 : decode cX6_all 1 = .ok (.istore_n 1, 1) := by decide +kernel
theorem dX6_all_2 : decode cX6_all 2 = .ok (.aload_n 0, 1) := by decide +kernel
theorem dX6_all_3 : decode cX6_all 3 = .ok (.getfield 16, 3) := by decide +kernel
theorem dX6_all_6 : decode cX6_all 6 = .ok (.astore_n 2, 1) := by decide +kernel
theorem dX6_all_7 : decode cX6_all 7 = .ok (.aload_n 2, 1) := by decide +kernel
theorem dX6_all_8 : decode cX6_all 8 = .ok (.arraylength, 1) := by decide +kernel
theorem dX6_all_9 : decode cX6_all 9 = .ok (.istore_n 3, 1) := by decide +kernel
theorem dX6_all_10 : decode cX6_all 10 = .ok (.iconst 0, 1) := by decide +kernel
theorem dX6_all_11 : decode cX6_all 11 = .ok (.istore 4, 2) := by decide +kernel
theorem dX6_all_13 : decode cX6_all 13 = .ok (.iload 4, 2) := by decide +kernel
theorem dX6_all_15 : decode cX6_all 15 = .ok (.iload_n 3, 1) := by decide +kernel
theorem dX6_all_16 : decode cX6_all 16 = .ok (.if_icmp .ge 23, 3) := by decide +kernel
theorem dX6_all_19 : decode cX6_all 19 = .ok (.aload_n 2, 1) := by decide +kernel
theorem dX6_all_20 : decode cX6_all 20 = .ok (.iload 4, 2) := by decide +kernel
theorem dX6_all_22 : decode cX6_all 22 = .ok (.aaload, 1) := by decide +kernel
theorem dX6_all_23 : decode cX6_all 23 = .ok (.astore 5, 2) := by decide +kernel
theorem dX6_all_25 : decode cX6_all 25 = .ok (.iload_n 1, 1) := by decide +kernel
theorem dX6_all_26 : decode cX6_all 26 = .ok (.aload 5, 2) := by decide +kernel
theorem dX6_all_28 : decode cX6_all 28 = .ok (.getfield 68, 3) := by decide +kernel
theorem dX6_all_31 : decode cX6_all 31 = .ok (.iadd, 1) := by decide +kernel
theorem dX6_all_32 : decode cX6_all 32 = .ok (.istore_n 1, 1) := by decide +kernel
theorem dX6_all_33 : decode cX6_all 33 = .ok (.iinc 4 1, 3) := by decide +kernel
theorem dX6_all_36 : decode cX6_all 36 = .ok (.goto (-23), 3) := by decide +kernel
theorem dX6_all_39 : decode cX6_all 39 = .ok (.iload_n 1, 1) := by decide +kernel
theorem dX6_all_40 : decode cX6_all 40 = .ok (.ireturn, 1) := by decide +kernel
theorem dX6_isSame_0 : decode cX6_isSame 0 = .ok (.iconst 0, 1) := by decide +kernel
theorem dX6_isSame_1 : decode cX6_isSame 1 = .ok (.istore_n 2, 1) := by decide +kernel
theorem dX6_isSame_2 : decode cX6_isSame 2 = .ok (.iconst 0, 1) := by decide +kernel
theorem dX6_isSame_3 : decode cX6_isSame 3 = .ok (.istore_n 3, 1) := by decide +kernel
theorem dX6_isSame_4 : decode cX6_isSame 4 = .ok (.iconst 0, 1) := by decide +kernel
theorem dX6_isSame_5 : decode cX6_isSame 5 = .ok (.istore 4, 2) := by decide +kernel
theorem dX6_isSame_7 : decode cX6_isSame 7 = .ok (.iconst 0, 1) := by decide +kernel
theorem dX6_isSame_8 : decode cX6_isSame 8 = .ok (.istore 5, 2) := by decide +kernel
theorem dX6_isSame_10 : decode cX6_isSame 10 = .ok (.iconst 0, 1) := by decide +kernel
theorem dX6_isSame_11 : decode cX6_isSame 11 = .ok (.istore 6, 2) := by decide +kernel
theorem dX6_isSame_13 : decode cX6_isSame 13 = .ok (.iload 6, 2) := by decide +kernel
theorem dX6_isSame_15 : decode cX6_isSame 15 = .ok (.aload_n 0, 1) := by decide +kernel
theorem dX6_isSame_16 : decode cX6_isSame 16 = .ok (.getfield 16, 3) := by decide +kernel
theorem dX6_isSame_19 : decode cX6_isSame 19 = .ok (.arraylength, 1) := by decide +kernel
theorem dX6_isSame_20 : decode cX6_isSame 20 = .ok (.if_icmp .ge 221, 3) := by decide +kernel
theorem dX6_isSame_23 : decode cX6_isSame 23 = .ok (.aload_n 0, 1) := by decide +kernel
theorem dX6_isSame_24 : decode cX6_isSame 24 = .ok (.getfield 16, 3) := by decide +kernel
theorem dX6_isSame_27 : decode cX6_isSame 27 = .ok (.iload 6, 2) := by decide +kernel
theorem dX6_isSame_29 : decode cX6_isSame 29 = .ok (.aaload, 1) := by decide +kernel
theorem dX6_isSame_30 : decode cX6_isSame 30 = .ok (.astore 7, 2) := by decide +kernel
theorem dX6_isSame_32 : decode cX6_isSame 32 = .ok (.bipush 10, 2) := by decide +kernel
theorem dX6_isSame_34 : decode cX6_isSame 34 = .ok (.newarray .int, 2) := by decide +kernel
theorem dX6_isSame_36 : decode cX6_isSame 36 = .ok (.dup, 1) := by decide +kernel
theorem dX6_isSame_37 : decode cX6_isSame 37 = .ok (.iconst 0, 1) := by decide +kernel
theorem dX6_isSame_38 : decode cX6_isSame 38 = .ok (.aload 7, 2) := by decide +kernel
theorem dX6_isSame_40 : decode cX6_isSame 40 = .ok (.getfield 45, 3) := by decide +kernel
theorem dX6_isSame_43 : decode cX6_isSame 43 = .ok (.iastore, 1) := by decide +kernel
theorem dX6_isSame_44 : decode cX6_isSame 44 = .ok (.dup, 1) := by decide +kernel
theorem dX6_isSame_45 : decode cX6_isSame 45 = .ok (.iconst 1, 1) := by decide +kernel
theorem dX6_isSame_46 : decode cX6_isSame 46 = .ok (.aload 7, 2) := by decide +kernel
theorem dX6_isSame_48 : decode cX6_isSame 48 = .ok (.getfield 48, 3) := by decide +kernel
theorem dX6_isSame_51 : decode cX6_isSame 51 = .ok (.iastore, 1) := by decide +kernel
theorem dX6_isSame_52 : decode cX6_isSame 52 = .ok (.dup, 1) := by decide +kernel
theorem dX6_isSame_53 : decode cX6_isSame 53 = .ok (.iconst 2, 1) := by decide +kernel
theorem dX6_isSame_54 : decode cX6_isSame 54 = .ok (.aload 7, 2) := by decide +kernel
theorem dX6_isSame_56 : decode cX6_isSame 56 = .ok (.getfield 68, 3) := by decide +kernel
theorem dX6_isSame_59 : decode cX6_isSame 59 = .ok (.iastore, 1) := by decide +kernel
theorem dX6_isSame_60 : decode cX6_isSame 60 = .ok (.dup, 1) := by decide +kernel
theorem dX6_isSame_61 : decode cX6_isSame 61 = .ok (.iconst 3, 1) := by decide +kernel
theorem dX6_isSame_62 : decode cX6_isSame 62 = .ok (.aload 7, 2) := by decide +kernel
theorem dX6_isSame_64 : decode cX6_isSame 64 = .ok (.getfield 51, 3) := by decide +kernel
theorem dX6_isSame_67 : decode cX6_isSame 67 = .ok (.iastore, 1) := by decide +kernel
theorem dX6_isSame_68 : decode cX6_isSame 68 = .ok (.dup, 1) := by decide +kernel
theorem dX6_isSame_69 : decode cX6_isSame 69 = .ok (.iconst 4, 1) := by decide +kernel
theorem dX6_isSame_70 : decode cX6_isSame 70 = .ok (.aload 7, 2) := by decide +kernel
theorem dX6_isSame_72 : decode cX6_isSame 72 = .ok (.getfield 54, 3) := by decide +kernel
theorem dX6_isSame_75 : decode cX6_isSame 75 = .ok (.iastore, 1) := by decide +kernel
theorem dX6_isSame_76 : decode cX6_isSame 76 = .ok (.dup, 1) := by decide +kernel
theorem dX6_isSame_77 : decode cX6_isSame 77 = .ok (.iconst 5, 1) := by decide +kernel
theorem dX6_isSame_78 : decode cX6_isSame 78 = .ok (.aload 7, 2) := by decide +kernel
theorem dX6_isSame_80 : decode cX6_isSame 80 = .ok (.getfield 80, 3) := by decide +kernel
theorem dX6_isSame_83 : decode cX6_isSame 83 = .ok (.iastore, 1) := by decide +kernel
theorem dX6_isSame_84 : decode cX6_isSame 84 = .ok (.dup, 1) := by decide +kernel
theorem dX6_isSame_85 : decode cX6_isSame 85 = .ok (.bipush 6, 2) := by decide +kernel
theorem dX6_isSame_87 : decode cX6_isSame 87 = .ok (.aload 7, 2) := by decide +kernel
theorem dX6_isSame_89 : decode cX6_isSame 89 = .ok (.getfield 57, 3) := by decide +kernel
theorem dX6_isSame_92 : decode cX6_isSame 92 = .ok (.iastore, 1) := by decide +kernel
theorem dX6_isSame_93 : decode cX6_isSame 93 = .ok (.dup, 1) := by decide +kernel
theorem dX6_isSame_94 : decode cX6_isSame 94 = .ok (.bipush 7, 2) := by decide +kernel
theorem dX6_isSame_96 : decode cX6_isSame 96 = .ok (.aload 7, 2) := by decide +kernel
theorem dX6_isSame_98 : decode cX6_isSame 98 = .ok (.getfield 86, 3) := by decide +kernel
theorem dX6_isSame_101 : decode cX6_isSame 101 = .ok (.iastore, 1) := by decide +kernel
theorem dX6_isSame_102 : decode cX6_isSame 102 = .ok (.dup, 1) := by decide +kernel
theorem dX6_isSame_103 : decode cX6_isSame 103 = .ok (.bipush 8, 2) := by decide +kernel
theorem dX6_isSame_105 : decode cX6_isSame 105 = .ok (.aload 7, 2) := by decide +kernel
theorem dX6_isSame_107 : decode cX6_isSame 107 = .ok (.getfield 95, 3) := by decide +kernel
theorem dX6_isSame_110 : decode cX6_isSame 110 = .ok (.iastore, 1) := by decide +kernel
theorem dX6_isSame_111 : decode cX6_isSame 111 = .ok (.dup, 1) := by decide +kernel
theorem dX6_isSame_112 : decode cX6_isSame 112 = .ok (.bipush 9, 2) := by decide +kernel
theorem dX6_isSame_114 : decode cX6_isSame 114 = .ok (.aload 7, 2) := by decide +kernel
theorem dX6_isSame_116 : decode cX6_isSame 116 = .ok (.getfield 89, 3) := by decide +kernel
theorem dX6_isSame_119 : decode cX6_isSame 119 = .ok (.iastore, 1) := by decide +kernel
theorem dX6_isSame_120 : decode cX6_isSame 120 = .ok (.astore 8, 2) := by decide +kernel
theorem dX6_isSame_122 : decode cX6_isSame 122 = .ok (.iconst 0, 1) := by decide +kernel
theorem dX6_isSame_123 : decode cX6_isSame 123 = .ok (.istore 9, 2) := by decide +kernel
theorem dX6_isSame_125 : decode cX6_isSame 125 = .ok (.iload 9, 2) := by decide +kernel
theorem dX6_isSame_127 : decode cX6_isSame 127 = .ok (.bipush 10, 2) := by decide +kernel
theorem dX6_isSame_129 : decode cX6_isSame 129 = .ok (.if_icmp .ge 27, 3) := by decide +kernel
theorem dX6_isSame_132 : decode cX6_isSame 132 = .ok (.aload_n 1, 1) := by decide +kernel
theorem dX6_isSame_133 : decode cX6_isSame 133 = .ok (.iload 6, 2) := by decide +kernel
theorem dX6_isSame_135 : decode cX6_isSame 135 = .ok (.iload 9, 2) := by decide +kernel
theorem dX6_isSame_137 : decode cX6_isSame 137 = .ok (.invokevirtual 105, 3) := by decide +kernel
theorem dX6_isSame_140 : decode cX6_isSame 140 = .ok (.aload 8, 2) := by decide +kernel
theorem dX6_isSame_142 : decode cX6_isSame 142 = .ok (.iload 9, 2) := by decide +kernel
theorem dX6_isSame_144 : decode cX6_isSame 144 = .ok (.iaload, 1) := by decide +kernel
theorem dX6_isSame_145 : decode cX6_isSame 145 = .ok (.if_icmp .eq 5, 3) := by decide +kernel
theorem dX6_isSame_148 : decode cX6_isSame 148 = .ok (.iconst 0, 1) := by decide +kernel
theorem dX6_isSame_149 : decode cX6_isSame 149 = .ok (.ireturn, 1) := by decide +kernel
theorem dX6_isSame_150 : decode cX6_isSame 150 = .ok (.iinc 9 1, 3) := by decide +kernel
theorem dX6_isSame_153 : decode cX6_isSame 153 = .ok (.goto (-28), 3) := by decide +kernel
theorem dX6_isSame_156 : decode cX6_isSame 156 = .ok (.iconst 0, 1) := by decide +kernel
theorem dX6_isSame_157 : decode cX6_isSame 157 = .ok (.istore 9, 2) := by decide +kernel
theorem dX6_isSame_159 : decode cX6_isSame 159 = .ok (.iload 9, 2) := by decide +kernel
theorem dX6_isSame_161 : decode cX6_isSame 161 = .ok (.aload_n 0, 1) := by decide +kernel
theorem dX6_isSame_162 : decode cX6_isSame 162 = .ok (.getfield 16, 3) := by decide +kernel
theorem dX6_isSame_165 : decode cX6_isSame 165 = .ok (.arraylength, 1) := by decide +kernel
theorem dX6_isSame_166 : decode cX6_isSame 166 = .ok (.if_icmp .ge 43, 3) := by decide +kernel
theorem dX6_isSame_169 : decode cX6_isSame 169 = .ok (.aload_n 1, 1) := by decide +kernel
theorem dX6_isSame_170 : decode cX6_isSame 170 = .ok (.iload 6, 2) := by decide +kernel
theorem dX6_isSame_172 : decode cX6_isSame 172 = .ok (.iload 9, 2) := by decide +kernel
theorem dX6_isSame_174 : decode cX6_isSame 174 = .ok (.invokevirtual 110, 3) := by decide +kernel
theorem dX6_isSame_177 : decode cX6_isSame 177 = .ok (.aload_n 0, 1) := by decide +kernel
theorem dX6_isSame_178 : decode cX6_isSame 178 = .ok (.getfield 25, 3) := by decide +kernel
theorem dX6_isSame_181 : decode cX6_isSame 181 = .ok (.iload 6, 2) := by decide +kernel
theorem dX6_isSame_183 : decode cX6_isSame 183 = .ok (.aaload, 1) := by decide +kernel
theorem dX6_isSame_184 : decode cX6_isSame 184 = .ok (.iload 9, 2) := by decide +kernel
theorem dX6_isSame_186 : decode cX6_isSame 186 = .ok (.iaload, 1) := by decide +kernel
theorem dX6_isSame_187 : decode cX6_isSame 187 = .ok (.aload_n 0, 1) := by decide +kernel
theorem dX6_isSame_188 : decode cX6_isSame 188 = .ok (.getfield 25, 3) := by decide +kernel
theorem dX6_isSame_191 : decode cX6_isSame 191 = .ok (.iload 9, 2) := by decide +kernel
theorem dX6_isSame_193 : decode cX6_isSame 193 = .ok (.aaload, 1) := by decide +kernel
theorem dX6_isSame_194 : decode cX6_isSame 194 = .ok (.iload 6, 2) := by decide +kernel
theorem dX6_isSame_196 : decode cX6_isSame 196 = .ok (.iaload, 1) := by decide +kernel
theorem dX6_isSame_197 : decode cX6_isSame 197 = .ok (.isub, 1) := by decide +kernel
theorem dX6_isSame_198 : decode cX6_isSame 198 = .ok (.if_icmp .eq 5, 3) := by decide +kernel
theorem dX6_isSame_201 : decode cX6_isSame 201 = .ok (.iconst 0, 1) := by decide +kernel
theorem dX6_isSame_202 : decode cX6_isSame 202 = .ok (.ireturn, 1) := by decide +kernel
theorem dX6_isSame_203 : decode cX6_isSame 203 = .ok (.iinc 9 1, 3) := by decide +kernel
theorem dX6_isSame_206 : decode cX6_isSame 206 = .ok (.goto (-47), 3) := by decide +kernel
theorem dX6_isSame_209 : decode cX6_isSame 209 = .ok (.iload_n 2, 1) := by decide +kernel
theorem dX6_isSame_210 : decode cX6_isSame 210 = .ok (.aload 7, 2) := by decide +kernel
theorem dX6_isSame_212 : decode cX6_isSame 212 = .ok (.getfield 86, 3) := by decide +kernel
theorem dX6_isSame_215 : decode cX6_isSame 215 = .ok (.iadd, 1) := by decide +kernel
theorem dX6_isSame_216 : decode cX6_isSame 216 = .ok (.istore_n 2, 1) := by decide +kernel
theorem dX6_isSame_217 : decode cX6_isSame 217 = .ok (.iload_n 3, 1) := by decide +kernel
theorem dX6_isSame_218 : decode cX6_isSame 218 = .ok (.aload 7, 2) := by decide +kernel
theorem dX6_isSame_220 : decode cX6_isSame 220 = .ok (.getfield 95, 3) := by decide +kernel
theorem dX6_isSame_223 : decode cX6_isSame 223 = .ok (.iadd, 1) := by decide +kernel
theorem dX6_isSame_224 : decode cX6_isSame 224 = .ok (.istore_n 3, 1) := by decide +kernel
theorem dX6_isSame_225 : decode cX6_isSame 225 = .ok (.iload 4, 2) := by decide +kernel
theorem dX6_isSame_227 : decode cX6_isSame 227 = .ok (.aload 7, 2) := by decide +kernel
theorem dX6_isSame_229 : decode cX6_isSame 229 = .ok (.getfield 48, 3) := by decide +kernel
theorem dX6_isSame_232 : decode cX6_isSame 232 = .ok (.iadd, 1) := by decide +kernel
theorem dX6_isSame_233 : decode cX6_isSame 233 = .ok (.istore 4, 2) := by decide +kernel
theorem dX6_isSame_235 : decode cX6_isSame 235 = .ok (.iinc 6 1, 3) := by decide +kernel
theorem dX6_isSame_238 : decode cX6_isSame 238 = .ok (.goto (-225), 3) := by decide +kernel
theorem dX6_isSame_241 : decode cX6_isSame 241 = .ok (.iconst 0, 1) := by decide +kernel
theorem dX6_isSame_242 : decode cX6_isSame 242 = .ok (.istore 6, 2) := by decide +kernel
theorem dX6_isSame_244 : decode cX6_isSame 244 = .ok (.iload 6, 2) := by decide +kernel
theorem dX6_isSame_246 : decode cX6_isSame 246 = .ok (.aload_n 0, 1) := by decide +kernel
theorem dX6_isSame_247 : decode cX6_isSame 247 = .ok (.getfield 22, 3) := by decide +kernel
theorem dX6_isSame_250 : decode cX6_isSame 250 = .ok (.arraylength, 1) := by decide +kernel
theorem dX6_isSame_251 : decode cX6_isSame 251 = .ok (.if_icmp .ge 61, 3) := by decide +kernel
theorem dX6_isSame_254 : decode cX6_isSame 254 = .ok (.iconst 0, 1) := by decide +kernel
theorem dX6_isSame_255 : decode cX6_isSame 255 = .ok (.istore 7, 2) := by decide +kernel
theorem dX6_isSame_257 : decode cX6_isSame 257 = .ok (.iload 7, 2) := by decide +kernel
theorem dX6_isSame_259 : decode cX6_isSame 259 = .ok (.iconst 5, 1) := by decide +kernel
theorem dX6_isSame_260 : decode cX6_isSame 260 = .ok (.if_icmp .ge 32, 3) := by decide +kernel
theorem dX6_isSame_263 : decode cX6_isSame 263 = .ok (.aload_n 1, 1) := by decide +kernel
theorem dX6_isSame_264 : decode cX6_isSame 264 = .ok (.iload 6, 2) := by decide +kernel
theorem dX6_isSame_266 : decode cX6_isSame 266 = .ok (.iload 7, 2) := by decide +kernel
theorem dX6_isSame_268 : decode cX6_isSame 268 = .ok (.invokevirtual 113, 3) := by decide +kernel
theorem dX6_isSame_271 : decode cX6_isSame 271 = .ok (.aload_n 0, 1) := by decide +kernel
theorem dX6_isSame_272 : decode cX6_isSame 272 = .ok (.getfield 22, 3) := by decide +kernel
theorem dX6_isSame_275 : decode cX6_isSame 275 = .ok (.iload 6, 2) := by decide +kernel
theorem dX6_isSame_277 : decode cX6_isSame 277 = .ok (.aaload, 1) := by decide +kernel
theorem dX6_isSame_278 : decode cX6_isSame 278 = .ok (.iload 7, 2) := by decide +kernel
theorem dX6_isSame_280 : decode cX6_isSame 280 = .ok (.iaload, 1) := by decide +kernel
theorem dX6_isSame_281 : decode cX6_isSame 281 = .ok (.if_icmp .eq 5, 3) := by decide +kernel
theorem dX6_isSame_284 : decode cX6_isSame 284 = .ok (.iconst 0, 1) := by decide +kernel
theorem dX6_isSame_285 : decode cX6_isSame 285 = .ok (.ireturn, 1) := by decide +kernel
theorem dX6_isSame_286 : decode cX6_isSame 286 = .ok (.iinc 7 1, 3) := by decide +kernel
theorem dX6_isSame_289 : decode cX6_isSame 289 = .ok (.goto (-32), 3) := by decide +kernel
theorem dX6_isSame_292 : decode cX6_isSame 292 = .ok (.iload 5, 2) := by decide +kernel
theorem dX6_isSame_294 : decode cX6_isSame 294 = .ok (.aload_n 0, 1) := by decide +kernel
theorem dX6_isSame_295 : decode cX6_isSame 295 = .ok (.getfield 22, 3) := by decide +kernel
theorem dX6_isSame_298 : decode cX6_isSame 298 = .ok (.iload 6, 2) := by decide +kernel
theorem dX6_isSame_300 : decode cX6_isSame 300 = .ok (.aaload, 1) := by decide +kernel
theorem dX6_isSame_301 : decode cX6_isSame 301 = .ok (.iconst 3, 1) := by decide +kernel
theorem dX6_isSame_302 : decode cX6_isSame 302 = .ok (.iaload, 1) := by decide +kernel
theorem dX6_isSame_303 : decode cX6_isSame 303 = .ok (.iadd, 1) := by decide +kernel
theorem dX6_isSame_304 : decode cX6_isSame 304 = .ok (.istore 5, 2) := by decide +kernel
theorem dX6_isSame_306 : decode cX6_isSame 306 = .ok (.iinc 6 1, 3) := by decide +kernel
theorem dX6_isSame_309 : decode cX6_isSame 309 = .ok (.goto (-65), 3) := by decide +kernel
theorem dX6_isSame_312 : decode cX6_isSame 312 = .ok (.bipush 11, 2) := by decide +kernel
theorem dX6_isSame_314 : decode cX6_isSame 314 = .ok (.newarray .int, 2) := by decide +kernel
theorem dX6_isSame_316 : decode cX6_isSame 316 = .ok (.dup, 1) := by decide +kernel
theorem dX6_isSame_317 : decode cX6_isSame 317 = .ok (.iconst 0, 1) := by decide +kernel
theorem dX6_isSame_318 : decode cX6_isSame 318 = .ok (.aload_n 0, 1) := by decide +kernel
theorem dX6_isSame_319 : decode cX6_isSame 319 = .ok (.getfield 37, 3) := by decide +kernel
theorem dX6_isSame_322 : decode cX6_isSame 322 = .ok (.iastore, 1) := by decide +kernel
theorem dX6_isSame_323 : decode cX6_isSame 323 = .ok (.dup, 1) := by decide +kernel
theorem dX6_isSame_324 : decode cX6_isSame 324 = .ok (.iconst 1, 1) := by decide +kernel
theorem dX6_isSame_325 : decode cX6_isSame 325 = .ok (.aload_n 0, 1) := by decide +kernel
theorem dX6_isSame_326 : decode cX6_isSame 326 = .ok (.getfield 16, 3) := by decide +kernel
theorem dX6_isSame_329 : decode cX6_isSame 329 = .ok (.arraylength, 1) := by decide +kernel
theorem dX6_isSame_330 : decode cX6_isSame 330 = .ok (.iastore, 1) := by decide +kernel
theorem dX6_isSame_331 : decode cX6_isSame 331 = .ok (.dup, 1) := by decide +kernel
theorem dX6_isSame_332 : decode cX6_isSame 332 = .ok (.iconst 2, 1) := by decide +kernel
theorem dX6_isSame_333 : decode cX6_isSame 333 = .ok (.aload_n 0, 1) := by decide +kernel
theorem dX6_isSame_334 : decode cX6_isSame 334 = .ok (.getfield 22, 3) := by decide +kernel
theorem dX6_isSame_337 : decode cX6_isSame 337 = .ok (.arraylength, 1) := by decide +kernel
theorem dX6_isSame_338 : decode cX6_isSame 338 = .ok (.iastore, 1) := by decide +kernel
theorem dX6_isSame_339 : decode cX6_isSame 339 = .ok (.dup, 1) := by decide +kernel
theorem dX6_isSame_340 : decode cX6_isSame 340 = .ok (.iconst 3, 1) := by decide +kernel
theorem dX6_isSame_341 : decode cX6_isSame 341 = .ok (.aload_n 0, 1) := by decide +kernel
theorem dX6_isSame_342 : decode cX6_isSame 342 = .ok (.invokevirtual 116, 3) := by decide +kernel
theorem dX6_isSame_345 : decode cX6_isSame 345 = .ok (.iastore, 1) := by decide +kernel
theorem dX6_isSame_346 : decode cX6_isSame 346 = .ok (.dup, 1) := by decide +kernel
theorem dX6_isSame_347 : decode cX6_isSame 347 = .ok (.iconst 4, 1) := by decide +kernel
theorem dX6_isSame_348 : decode cX6_isSame 348 = .ok (.iload_n 2, 1) := by decide +kernel
theorem dX6_isSame_349 : decode cX6_isSame 349 = .ok (.iastore, 1) := by decide +kernel
theorem dX6_isSame_350 : decode cX6_isSame 350 = .ok (.dup, 1) := by decide +kernel
theorem dX6_isSame_351 : decode cX6_isSame 351 = .ok (.iconst 5, 1) := by decide +kernel
theorem dX6_isSame_352 : decode cX6_isSame 352 = .ok (.aload_n 0, 1) := by decide +kernel
theorem dX6_isSame_353 : decode cX6_isSame 353 = .ok (.getfield 83, 3) := by decide +kernel
theorem dX6_isSame_356 : decode cX6_isSame 356 = .ok (.iastore, 1) := by decide +kernel
theorem dX6_isSame_357 : decode cX6_isSame 357 = .ok (.dup, 1) := by decide +kernel
theorem dX6_isSame_358 : decode cX6_isSame 358 = .ok (.bipush 6, 2) := by decide +kernel
theorem dX6_isSame_360 : decode cX6_isSame 360 = .ok (.aload_n 0, 1) := by decide +kernel
theorem dX6_isSame_361 : decode cX6_isSame 361 = .ok (.getfield 41, 3) := by decide +kernel
theorem dX6_isSame_364 : decode cX6_isSame 364 = .ok (.iastore, 1) := by decide +kernel
theorem dX6_isSame_365 : decode cX6_isSame 365 = .ok (.dup, 1) := by decide +kernel
theorem dX6_isSame_366 : decode cX6_isSame 366 = .ok (.bipush 7, 2) := by decide +kernel
theorem dX6_isSame_368 : decode cX6_isSame 368 = .ok (.aload_n 0, 1) := by decide +kernel
theorem dX6_isSame_369 : decode cX6_isSame 369 = .ok (.getfield 92, 3) := by decide +kernel
theorem dX6_isSame_372 : decode cX6_isSame 372 = .ok (.iastore, 1) := by decide +kernel
theorem dX6_isSame_373 : decode cX6_isSame 373 = .ok (.dup, 1) := by decide +kernel
theorem dX6_isSame_374 : decode cX6_isSame 374 = .ok (.bipush 8, 2) := by decide +kernel
theorem dX6_isSame_376 : decode cX6_isSame 376 = .ok (.iload_n 3, 1) := by decide +kernel
theorem dX6_isSame_377 : decode cX6_isSame 377 = .ok (.iastore, 1) := by decide +kernel
theorem dX6_isSame_378 : decode cX6_isSame 378 = .ok (.dup, 1) := by decide +kernel
theorem dX6_isSame_379 : decode cX6_isSame 379 = .ok (.bipush 9, 2) := by decide +kernel
theorem dX6_isSame_381 : decode cX6_isSame 381 = .ok (.aload_n 0, 1) := by decide +kernel
theorem dX6_isSame_382 : decode cX6_isSame 382 = .ok (.getfield 119, 3) := by decide +kernel
theorem dX6_isSame_385 : decode cX6_isSame 385 = .ok (.iastore, 1) := by decide +kernel
theorem dX6_isSame_386 : decode cX6_isSame 386 = .ok (.dup, 1) := by decide +kernel
theorem dX6_isSame_387 : decode cX6_isSame 387 = .ok (.bipush 10, 2) := by decide +kernel
theorem dX6_isSame_389 : decode cX6_isSame 389 = .ok (.iload 5, 2) := by decide +kernel
theorem dX6_isSame_391 : decode cX6_isSame 391 = .ok (.iastore, 1) := by decide +kernel
theorem dX6_isSame_392 : decode cX6_isSame 392 = .ok (.astore 6, 2) := by decide +kernel
theorem dX6_isSame_394 : decode cX6_isSame 394 = .ok (.iconst 0, 1) := by decide +kernel
theorem dX6_isSame_395 : decode cX6_isSame 395 = .ok (.istore 7, 2) := by decide +kernel
theorem dX6_isSame_397 : decode cX6_isSame 397 = .ok (.iload 7, 2) := by decide +kernel
theorem dX6_isSame_399 : decode cX6_isSame 399 = .ok (.bipush 11, 2) := by decide +kernel
theorem dX6_isSame_401 : decode cX6_isSame 401 = .ok (.if_icmp .ge 25, 3) := by decide +kernel
theorem dX6_isSame_404 : decode cX6_isSame 404 = .ok (.aload_n 1, 1) := by decide +kernel
theorem dX6_isSame_405 : decode cX6_isSame 405 = .ok (.iload 7, 2) := by decide +kernel
theorem dX6_isSame_407 : decode cX6_isSame 407 = .ok (.invokevirtual 122, 3) := by decide +kernel
theorem dX6_isSame_410 : decode cX6_isSame 410 = .ok (.aload 6, 2) := by decide +kernel
theorem dX6_isSame_412 : decode cX6_isSame 412 = .ok (.iload 7, 2) := by decide +kernel
theorem dX6_isSame_414 : decode cX6_isSame 414 = .ok (.iaload, 1) := by decide +kernel
theorem dX6_isSame_415 : decode cX6_isSame 415 = .ok (.if_icmp .eq 5, 3) := by decide +kernel
theorem dX6_isSame_418 : decode cX6_isSame 418 = .ok (.iconst 0, 1) := by decide +kernel
theorem dX6_isSame_419 : decode cX6_isSame 419 = .ok (.ireturn, 1) := by decide +kernel
theorem dX6_isSame_420 : decode cX6_isSame 420 = .ok (.iinc 7 1, 3) := by decide +kernel
theorem dX6_isSame_423 : decode cX6_isSame 423 = .ok (.goto (-26), 3) := by decide +kernel
theorem dX6_isSame_426 : decode cX6_isSame 426 = .ok (.aload_n 1, 1) := by decide +kernel
theorem dX6_isSame_427 : decode cX6_isSame 427 = .ok (.invokevirtual 125, 3) := by decide +kernel
theorem dX6_isSame_430 : decode cX6_isSame 430 = .ok (.iload 4, 2) := by decide +kernel
theorem dX6_isSame_432 : decode cX6_isSame 432 = .ok (.ifCond .ne 7, 3) := by decide +kernel
theorem dX6_isSame_435 : decode cX6_isSame 435 = .ok (.dconst 0, 1) := by decide +kernel
theorem dX6_isSame_436 : decode cX6_isSame 436 = .ok (.goto 12, 3) := by decide +kernel
theorem dX6_isSame_439 : decode cX6_isSame 439 = .ok (.aload_n 0, 1) := by decide +kernel
theorem dX6_isSame_440 : decode cX6_isSame 440 = .ok (.invokevirtual 116, 3) := by decide +kernel
theorem dX6_isSame_443 : decode cX6_isSame 443 = .ok (.i2d, 1) := by decide +kernel
theorem dX6_isSame_444 : decode cX6_isSame 444 = .ok (.iload 4, 2) := by decide +kernel
theorem dX6_isSame_446 : decode cX6_isSame 446 = .ok (.i2d, 1) := by decide +kernel
theorem dX6_isSame_447 : decode cX6_isSame 447 = .ok (.ddiv, 1) := by decide +kernel
theorem dX6_isSame_448 : decode cX6_isSame 448 = .ok (.dcmp .l, 1) := by decide +kernel
theorem dX6_isSame_449 : decode cX6_isSame 449 = .ok (.ifCond .ne 7, 3) := by decide +kernel
theorem dX6_isSame_452 : decode cX6_isSame 452 = .ok (.iconst 1, 1) := by decide +kernel
theorem dX6_isSame_453 : decode cX6_isSame 453 = .ok (.goto 4, 3) := by decide +kernel
theorem dX6_isSame_456 : decode cX6_isSame 456 = .ok (.iconst 0, 1) := by decide +kernel
theorem dX6_isSame_457 : decode cX6_isSame 457 = .ok (.ireturn, 1) := by decide +kernel
