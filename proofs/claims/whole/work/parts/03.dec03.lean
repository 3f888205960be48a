theorem dX10_withdraw_30 : decode cX10_withdraw 30 = .ok (.iconst 2, 1) := by decide +kernel
theorem dX10_withdraw_31 : decode cX10_withdraw 31 = .ok (.goto 4, 3) := by decide +kernel
theorem dX10_withdraw_34 : decode cX10_withdraw 34 = .ok (.iconst 0, 1) := by decide +kernel
theorem dX10_withdraw_35 : decode cX10_withdraw 35 = .ok (.invokevirtual 119, 3) := by decide +kernel
theorem dX10_withdraw_38 : decode cX10_withdraw 38 = .ok (.ifCond .ne 5, 3) := by decide +kernel
theorem dX10_withdraw_41 : decode cX10_withdraw 41 = .ok (.iconst 0, 1) := by decide +kernel
theorem dX10_withdraw_42 : decode cX10_withdraw 42 = .ok (.ireturn, 1) := by decide +kernel
theorem dX10_withdraw_43 : decode cX10_withdraw 43 = .ok (.aload_n 0, 1) := by decide +kernel
theorem dX10_withdraw_44 : decode cX10_withdraw 44 = .ok (.getfield 72, 3) := by decide +kernel
theorem dX10_withdraw_47 : decode cX10_withdraw 47 = .ok (.iload_n 1, 1) := by decide +kernel
theorem dX10_withdraw_48 : decode cX10_withdraw 48 = .ok (.iconst 0, 1) := by decide +kernel
theorem dX10_withdraw_49 : decode cX10_withdraw 49 = .ok (.bastore, 1) := by decide +kernel
theorem dX10_withdraw_50 : decode cX10_withdraw 50 = .ok (.iconst 0, 1) := by decide +kernel
theorem dX10_withdraw_51 : decode cX10_withdraw 51 = .ok (.istore_n 3, 1) := by decide +kernel
theorem dX10_withdraw_52 : decode cX10_withdraw 52 = .ok (.iconst 0, 1) := by decide +kernel
theorem dX10_withdraw_53 : decode cX10_withdraw 53 = .ok (.istore 4, 2) := by decide +kernel
theorem dX10_withdraw_55 : decode cX10_withdraw 55 = .ok (.iload 4, 2) := by decide +kernel
theorem dX10_withdraw_57 : decode cX10_withdraw 57 = .ok (.aload_n 0, 1) := by decide +kernel
theorem dX10_withdraw_58 : decode cX10_withdraw 58 = .ok (.getfield 154, 3) := by decide +kernel
theorem dX10_withdraw_61 : decode cX10_withdraw 61 = .ok (.if_icmp .ge 27, 3) := by decide +kernel
theorem dX10_withdraw_64 : decode cX10_withdraw 64 = .ok (.iload_n 3, 1) := by decide +kernel
theorem dX10_withdraw_65 : decode cX10_withdraw 65 = .ok (.aload_n 0, 1) := by decide +kernel
theorem dX10_withdraw_66 : decode cX10_withdraw 66 = .ok (.getfield 72, 3) := by decide +kernel
theorem dX10_withdraw_69 : decode cX10_withdraw 69 = .ok (.iload 4, 2) := by decide +kernel
theorem dX10_withdraw_71 : decode cX10_withdraw 71 = .ok (.baload, 1) := by decide +kernel
theorem dX10_withdraw_72 : decode cX10_withdraw 72 = .ok (.ifCond .eq 7, 3) := by decide +kernel
theorem dX10_withdraw_75 : decode cX10_withdraw 75 = .ok (.iconst 1, 1) := by decide +kernel
theorem dX10_withdraw_76 : decode cX10_withdraw 76 = .ok (.goto 4, 3) := by decide +kernel
theorem dX10_withdraw_79 : decode cX10_withdraw 79 = .ok (.iconst 0, 1) := by decide +kernel
theorem dX10_withdraw_80 : decode cX10_withdraw 80 = .ok (.iadd, 1) := by decide +kernel
theorem dX10_withdraw_81 : decode cX10_withdraw 81 = .ok (.istore_n 3, 1) := by decide +kernel
theorem dX10_withdraw_82 : decode cX10_withdraw 82 = .ok (.iinc 4 1, 3) := by decide +kernel
theorem dX10_withdraw_85 : decode cX10_withdraw 85 = .ok (.goto (-30), 3) := by decide +kernel
theorem dX10_withdraw_88 : decode cX10_withdraw 88 = .ok (.iload_n 3, 1) := by decide +kernel
theorem dX10_withdraw_89 : decode cX10_withdraw 89 = .ok (.ireturn, 1) := by decide +kernel
theorem dX10_turned_0 : decode cX10_turned 0 = .ok (.iload_n 0, 1) := by decide +kernel
theorem dX10_turned_1 : decode cX10_turned 1 = .ok (.iconst 1, 1) := by decide +kernel
theorem dX10_turned_2 : decode cX10_turned 2 = .ok (.if_icmp .ne 7, 3) := by decide +kernel
theorem dX10_turned_5 : decode cX10_turned 5 = .ok (.iconst 2, 1) := by decide +kernel
theorem dX10_turned_6 : decode cX10_turned 6 = .ok (.goto 13, 3) := by decide +kernel
theorem dX10_turned_9 : decode cX10_turned 9 = .ok (.iload_n 0, 1) := by decide +kernel
theorem dX10_turned_10 : decode cX10_turned 10 = .ok (.iconst 2, 1) := by decide +kernel
theorem dX10_turned_11 : decode cX10_turned 11 = .ok (.if_icmp .ne 7, 3) := by decide +kernel
theorem dX10_turned_14 : decode cX10_turned 14 = .ok (.iconst 1, 1) := by decide +kernel
theorem dX10_turned_15 : decode cX10_turned 15 = .ok (.goto 4, 3) := by decide +kernel
theorem dX10_turned_18 : decode cX10_turned 18 = .ok (.iload_n 0, 1) := by decide +kernel
theorem dX10_turned_19 : decode cX10_turned 19 = .ok (.ireturn, 1) := by decide +kernel
theorem dX10_tie_0 : decode cX10_tie 0 = .ok (.iload_n 1, 1) := by decide +kernel
theorem dX10_tie_1 : decode cX10_tie 1 = .ok (.invokestatic 125, 3) := by decide +kernel
theorem dX10_tie_4 : decode cX10_tie 4 = .ok (.ifCond .eq 14, 3) := by decide +kernel
theorem dX10_tie_7 : decode cX10_tie 7 = .ok (.iload_n 2, 1) := by decide +kernel
theorem dX10_tie_8 : decode cX10_tie 8 = .ok (.invokestatic 125, 3) := by decide +kernel
theorem dX10_tie_11 : decode cX10_tie 11 = .ok (.ifCond .eq 7, 3) := by decide +kernel
theorem dX10_tie_14 : decode cX10_tie 14 = .ok (.iconst 1, 1) := by decide +kernel
theorem dX10_tie_15 : decode cX10_tie 15 = .ok (.goto 4, 3) := by decide +kernel
theorem dX10_tie_18 : decode cX10_tie 18 = .ok (.iconst 0, 1) := by decide +kernel
theorem dX10_tie_19 : decode cX10_tie 19 = .ok (.istore 4, 2) := by decide +kernel
theorem dX10_tie_21 : decode cX10_tie 21 = .ok (.aload_n 0, 1) := by decide +kernel
theorem dX10_tie_22 : decode cX10_tie 22 = .ok (.iload 4, 2) := by decide +kernel
theorem dX10_tie_24 : decode cX10_tie 24 = .ok (.ifCond .ne 7, 3) := by decide +kernel
theorem dX10_tie_27 : decode cX10_tie 27 = .ok (.iconst 1, 1) := by decide +kernel
theorem dX10_tie_28 : decode cX10_tie 28 = .ok (.goto 22, 3) := by decide +kernel
theorem dX10_tie_31 : decode cX10_tie 31 = .ok (.iload_n 1, 1) := by decide +kernel
theorem dX10_tie_32 : decode cX10_tie 32 = .ok (.iload_n 2, 1) := by decide +kernel
theorem dX10_tie_33 : decode cX10_tie 33 = .ok (.if_icmp .eq 12, 3) := by decide +kernel
theorem dX10_tie_36 : decode cX10_tie 36 = .ok (.iload_n 3, 1) := by decide +kernel
theorem dX10_tie_37 : decode cX10_tie 37 = .ok (.iconst 0, 1) := by decide +kernel
theorem dX10_tie_38 : decode cX10_tie 38 = .ok (.iconst 3, 1) := by decide +kernel
theorem dX10_tie_39 : decode cX10_tie 39 = .ok (.invokestatic 108, 3) := by decide +kernel
theorem dX10_tie_42 : decode cX10_tie 42 = .ok (.ifCond .ne 7, 3) := by decide +kernel
theorem dX10_tie_45 : decode cX10_tie 45 = .ok (.iconst 2, 1) := by decide +kernel
theorem dX10_tie_46 : decode cX10_tie 46 = .ok (.goto 4, 3) := by decide +kernel
theorem dX10_tie_49 : decode cX10_tie 49 = .ok (.iconst 0, 1) := by decide +kernel
theorem dX10_tie_50 : decode cX10_tie 50 = .ok (.invokevirtual 119, 3) := by decide +kernel
theorem dX10_tie_53 : decode cX10_tie 53 = .ok (.ifCond .ne 5, 3) := by decide +kernel
theorem dX10_tie_56 : decode cX10_tie 56 = .ok (.iconst 0, 1) := by decide +kernel
theorem dX10_tie_57 : decode cX10_tie 57 = .ok (.ireturn, 1) := by decide +kernel
theorem dX10_tie_58 : decode cX10_tie 58 = .ok (.aload_n 0, 1) := by decide +kernel
theorem dX10_tie_59 : decode cX10_tie 59 = .ok (.getfield 75, 3) := by decide +kernel
theorem dX10_tie_62 : decode cX10_tie 62 = .ok (.bipush 10, 2) := by decide +kernel
theorem dX10_tie_64 : decode cX10_tie 64 = .ok (.iload_n 1, 1) := by decide +kernel
theorem dX10_tie_65 : decode cX10_tie 65 = .ok (.imul, 1) := by decide +kernel
theorem dX10_tie_66 : decode cX10_tie 66 = .ok (.iload_n 2, 1) := by decide +kernel
theorem dX10_tie_67 : decode cX10_tie 67 = .ok (.iadd, 1) := by decide +kernel
theorem dX10_tie_68 : decode cX10_tie 68 = .ok (.iaload, 1) := by decide +kernel
theorem dX10_tie_69 : decode cX10_tie 69 = .ok (.istore 5, 2) := by decide +kernel
theorem dX10_tie_71 : decode cX10_tie 71 = .ok (.aload_n 0, 1) := by decide +kernel
theorem dX10_tie_72 : decode cX10_tie 72 = .ok (.getfield 75, 3) := by decide +kernel
theorem dX10_tie_75 : decode cX10_tie 75 = .ok (.bipush 10, 2) := by decide +kernel
theorem dX10_tie_77 : decode cX10_tie 77 = .ok (.iload_n 1, 1) := by decide +kernel
theorem dX10_tie_78 : decode cX10_tie 78 = .ok (.imul, 1) := by decide +kernel
theorem dX10_tie_79 : decode cX10_tie 79 = .ok (.iload_n 2, 1) := by decide +kernel
theorem dX10_tie_80 : decode cX10_tie 80 = .ok (.iadd, 1) := by decide +kernel
theorem dX10_tie_81 : decode cX10_tie 81 = .ok (.iload_n 3, 1) := by decide +kernel
theorem dX10_tie_82 : decode cX10_tie 82 = .ok (.iastore, 1) := by decide +kernel
theorem dX10_tie_83 : decode cX10_tie 83 = .ok (.aload_n 0, 1) := by decide +kernel
theorem dX10_tie_84 : decode cX10_tie 84 = .ok (.getfield 75, 3) := by decide +kernel
theorem dX10_tie_87 : decode cX10_tie 87 = .ok (.bipush 10, 2) := by decide +kernel
theorem dX10_tie_89 : decode cX10_tie 89 = .ok (.iload_n 2, 1) := by decide +kernel
theorem dX10_tie_90 : decode cX10_tie 90 = .ok (.imul, 1) := by decide +kernel
theorem dX10_tie_91 : decode cX10_tie 91 = .ok (.iload_n 1, 1) := by decide +kernel
theorem dX10_tie_92 : decode cX10_tie 92 = .ok (.iadd, 1) := by decide +kernel
theorem dX10_tie_93 : decode cX10_tie 93 = .ok (.iload_n 3, 1) := by decide +kernel
theorem dX10_tie_94 : decode cX10_tie 94 = .ok (.invokestatic 157, 3) := by decide +kernel
theorem dX10_tie_97 : decode cX10_tie 97 = .ok (.iastore, 1) := by decide +kernel
theorem dX10_tie_98 : decode cX10_tie 98 = .ok (.iload 5, 2) := by decide +kernel
theorem dX10_tie_100 : decode cX10_tie 100 = .ok (.ireturn, 1) := by decide +kernel
theorem dX10_today_0 : decode cX10_today 0 = .ok (.aload_n 0, 1) := by decide +kernel
theorem dX10_today_1 : decode cX10_today 1 = .ok (.iconst 0, 1) := by decide +kernel
theorem dX10_today_2 : decode cX10_today 2 = .ok (.putfield 105, 3) := by decide +kernel
theorem dX10_today_5 : decode cX10_today 5 = .ok (.aload_n 0, 1) := by decide +kernel
theorem dX10_today_6 : decode cX10_today 6 = .ok (.getfield 122, 3) := by decide +kernel
theorem dX10_today_9 : decode cX10_today 9 = .ok (.ireturn, 1) := by decide +kernel
theorem dX10_objects_0 : decode cX10_objects 0 = .ok (.aload_n 0, 1) := by decide +kernel
theorem dX10_objects_1 : decode cX10_objects 1 = .ok (.iconst 0, 1) := by decide +kernel
theorem dX10_objects_2 : decode cX10_objects 2 = .ok (.putfield 105, 3) := by decide +kernel
theorem dX10_objects_5 : decode cX10_objects 5 = .ok (.aload_n 0, 1) := by decide +kernel
theorem dX10_objects_6 : decode cX10_objects 6 = .ok (.getfield 112, 3) := by decide +kernel
theorem dX10_objects_9 : decode cX10_objects 9 = .ok (.ireturn, 1) := by decide +kernel
theorem dX10_simply_0 : decode cX10_simply 0 = .ok (.aload_n 0, 1) := by decide +kernel
theorem dX10_simply_1 : decode cX10_simply 1 = .ok (.getfield 122, 3) := by decide +kernel
theorem dX10_simply_4 : decode cX10_simply 4 = .ok (.aload_n 0, 1) := by decide +kernel
theorem dX10_simply_5 : decode cX10_simply 5 = .ok (.getfield 44, 3) := by decide +kernel
theorem dX10_simply_8 : decode cX10_simply 8 = .ok (.iload_n 1, 1) := by decide +kernel
theorem dX10_simply_9 : decode cX10_simply 9 = .ok (.iaload, 1) := by decide +kernel
theorem dX10_simply_10 : decode cX10_simply 10 = .ok (.if_icmp .le 5, 3) := by decide +kernel
theorem dX10_simply_13 : decode cX10_simply 13 = .ok (.iconst 1, 1) := by decide +kernel
theorem dX10_simply_14 : decode cX10_simply 14 = .ok (.ireturn, 1) := by decide +kernel
theorem dX10_simply_15 : decode cX10_simply 15 = .ok (.aload_n 0, 1) := by decide +kernel
theorem dX10_simply_16 : decode cX10_simply 16 = .ok (.getfield 54, 3) := by decide +kernel
theorem dX10_simply_19 : decode cX10_simply 19 = .ok (.iload_n 1, 1) := by decide +kernel
theorem dX10_simply_20 : decode cX10_simply 20 = .ok (.baload, 1) := by decide +kernel
theorem dX10_simply_21 : decode cX10_simply 21 = .ok (.ifCond .eq 7, 3) := by decide +kernel
theorem dX10_simply_24 : decode cX10_simply 24 = .ok (.iconst 2, 1) := by decide +kernel
theorem dX10_simply_25 : decode cX10_simply 25 = .ok (.goto 44, 3) := by decide +kernel
theorem dX10_simply_28 : decode cX10_simply 28 = .ok (.aload_n 0, 1) := by decide +kernel
theorem dX10_simply_29 : decode cX10_simply 29 = .ok (.getfield 122, 3) := by decide +kernel
theorem dX10_simply_32 : decode cX10_simply 32 = .ok (.aload_n 0, 1) := by decide +kernel
theorem dX10_simply_33 : decode cX10_simply 33 = .ok (.getfield 16, 3) := by decide +kernel
theorem dX10_simply_36 : decode cX10_simply 36 = .ok (.aload_n 0, 1) := by decide +kernel
theorem dX10_simply_37 : decode cX10_simply 37 = .ok (.getfield 29, 3) := by decide +kernel
theorem dX10_simply_40 : decode cX10_simply 40 = .ok (.iload_n 1, 1) := by decide +kernel
theorem dX10_simply_41 : decode cX10_simply 41 = .ok (.iaload, 1) := by decide +kernel
theorem dX10_simply_42 : decode cX10_simply 42 = .ok (.iaload, 1) := by decide +kernel
theorem dX10_simply_43 : decode cX10_simply 43 = .ok (.if_icmp .le 7, 3) := by decide +kernel
theorem dX10_simply_46 : decode cX10_simply 46 = .ok (.iconst 3, 1) := by decide +kernel
theorem dX10_simply_47 : decode cX10_simply 47 = .ok (.goto 22, 3) := by decide +kernel
theorem dX10_simply_50 : decode cX10_simply 50 = .ok (.aload_n 0, 1) := by decide +kernel
theorem dX10_simply_51 : decode cX10_simply 51 = .ok (.getfield 47, 3) := by decide +kernel
theorem dX10_simply_54 : decode cX10_simply 54 = .ok (.iload_n 1, 1) := by decide +kernel
theorem dX10_simply_55 : decode cX10_simply 55 = .ok (.iaload, 1) := by decide +kernel
theorem dX10_simply_56 : decode cX10_simply 56 = .ok (.aload_n 0, 1) := by decide +kernel
theorem dX10_simply_57 : decode cX10_simply 57 = .ok (.iload_n 1, 1) := by decide +kernel
theorem dX10_simply_58 : decode cX10_simply 58 = .ok (.invokevirtual 133, 3) := by decide +kernel
theorem dX10_simply_61 : decode cX10_simply 61 = .ok (.if_icmp .eq 7, 3) := by decide +kernel
theorem dX10_simply_64 : decode cX10_simply 64 = .ok (.iconst 4, 1) := by decide +kernel
theorem dX10_simply_65 : decode cX10_simply 65 = .ok (.goto 4, 3) := by decide +kernel
theorem dX10_simply_68 : decode cX10_simply 68 = .ok (.iconst 0, 1) := by decide +kernel
theorem dX10_simply_69 : decode cX10_simply 69 = .ok (.ireturn, 1) := by decide +kernel
theorem dX10_has0_0 : decode cX10_has0 0 = .ok (.iload_n 1, 1) := by decide +kernel
theorem dX10_has0_1 : decode cX10_has0 1 = .ok (.ifCond .ne 7, 3) := by decide +kernel
theorem dX10_has0_4 : decode cX10_has0 4 = .ok (.iconst 1, 1) := by decide +kernel
theorem dX10_has0_5 : decode cX10_has0 5 = .ok (.goto 4, 3) := by decide +kernel
theorem dX10_has0_8 : decode cX10_has0 8 = .ok (.iconst 0, 1) := by decide +kernel
theorem dX10_has0_9 : decode cX10_has0 9 = .ok (.istore 4, 2) := by decide +kernel
theorem dX10_has0_11 : decode cX10_has0 11 = .ok (.iconst 0, 1) := by decide +kernel
theorem dX10_has0_12 : decode cX10_has0 12 = .ok (.istore 5, 2) := by decide +kernel
theorem dX10_has0_14 : decode cX10_has0 14 = .ok (.iload 5, 2) := by decide +kernel
theorem dX10_has0_16 : decode cX10_has0 16 = .ok (.aload_n 0, 1) := by decide +kernel
theorem dX10_has0_17 : decode cX10_has0 17 = .ok (.getfield 112, 3) := by decide +kernel
theorem dX10_has0_20 : decode cX10_has0 20 = .ok (.if_icmp .ge 74, 3) := by decide +kernel
theorem dX10_has0_23 : decode cX10_has0 23 = .ok (.iload 4, 2) := by decide +kernel
theorem dX10_has0_25 : decode cX10_has0 25 = .ok (.ifCond .ne 56, 3) := by decide +kernel
theorem dX10_has0_28 : decode cX10_has0 28 = .ok (.aload_n 0, 1) := by decide +kernel
theorem dX10_has0_29 : decode cX10_has0 29 = .ok (.getfield 26, 3) := by decide +kernel
theorem dX10_has0_32 : decode cX10_has0 32 = .ok (.iload 5, 2) := by decide +kernel
theorem dX10_has0_34 : decode cX10_has0 34 = .ok (.iaload, 1) := by decide +kernel
theorem dX10_has0_35 : decode cX10_has0 35 = .ok (.ifCond .ne 50, 3) := by decide +kernel
theorem dX10_has0_38 : decode cX10_has0 38 = .ok (.aload_n 0, 1) := by decide +kernel
theorem dX10_has0_39 : decode cX10_has0 39 = .ok (.getfield 32, 3) := by decide +kernel
theorem dX10_has0_42 : decode cX10_has0 42 = .ok (.iload 5, 2) := by decide +kernel
theorem dX10_has0_44 : decode cX10_has0 44 = .ok (.iaload, 1) := by decide +kernel
theorem dX10_has0_45 : decode cX10_has0 45 = .ok (.iload_n 1, 1) := by decide +kernel
theorem dX10_has0_46 : decode cX10_has0 46 = .ok (.if_icmp .ne 39, 3) := by decide +kernel
theorem dX10_has0_49 : decode cX10_has0 49 = .ok (.aload_n 0, 1) := by decide +kernel
theorem dX10_has0_50 : decode cX10_has0 50 = .ok (.getfield 78, 3) := by decide +kernel
theorem dX10_has0_53 : decode cX10_has0 53 = .ok (.iload 5, 2) := by decide +kernel
theorem dX10_has0_55 : decode cX10_has0 55 = .ok (.iaload, 1) := by decide +kernel
theorem dX10_has0_56 : decode cX10_has0 56 = .ok (.ifCond .ne 29, 3) := by decide +kernel
theorem dX10_has0_59 : decode cX10_has0 59 = .ok (.iload_n 2, 1) := by decide +kernel
theorem dX10_has0_60 : decode cX10_has0 60 = .ok (.iload_n 3, 1) := by decide +kernel
theorem dX10_has0_61 : decode cX10_has0 61 = .ok (.aload_n 0, 1) := by decide +kernel
theorem dX10_has0_62 : decode cX10_has0 62 = .ok (.getfield 35, 3) := by decide +kernel
theorem dX10_has0_65 : decode cX10_has0 65 = .ok (.iload 5, 2) := by decide +kernel
theorem dX10_has0_67 : decode cX10_has0 67 = .ok (.iaload, 1) := by decide +kernel
theorem dX10_has0_68 : decode cX10_has0 68 = .ok (.aload_n 0, 1) := by decide +kernel
theorem dX10_has0_69 : decode cX10_has0 69 = .ok (.getfield 38, 3) := by decide +kernel
theorem dX10_has0_72 : decode cX10_has0 72 = .ok (.iload 5, 2) := by decide +kernel
theorem dX10_has0_74 : decode cX10_has0 74 = .ok (.iaload, 1) := by decide +kernel
theorem dX10_has0_75 : decode cX10_has0 75 = .ok (.invokestatic 160, 3) := by decide +kernel
theorem dX10_has0_78 : decode cX10_has0 78 = .ok (.ifCond .eq 7, 3) := by decide +kernel
theorem dX10_has0_81 : decode cX10_has0 81 = .ok (.iconst 1, 1) := by decide +kernel
theorem dX10_has0_82 : decode cX10_has0 82 = .ok (.goto 4, 3) := by decide +kernel
theorem dX10_has0_85 : decode cX10_has0 85 = .ok (.iconst 0, 1) := by decide +kernel
theorem dX10_has0_86 : decode cX10_has0 86 = .ok (.istore 4, 2) := by decide +kernel
theorem dX10_has0_88 : decode cX10_has0 88 = .ok (.iinc 5 1, 3) := by decide +kernel
theorem dX10_has0_91 : decode cX10_has0 91 = .ok (.goto (-77), 3) := by decide +kernel
theorem dX10_has0_94 : decode cX10_has0 94 = .ok (.iload 4, 2) := by decide +kernel
theorem dX10_has0_96 : decode cX10_has0 96 = .ok (.ireturn, 1) := by decide +kernel
theorem dX10_hasAny_0 : decode cX10_hasAny 0 = .ok (.iload_n 1, 1) := by decide +kernel
theorem dX10_hasAny_1 : decode cX10_hasAny 1 = .ok (.ifCond .ne 7, 3) := by decide +kernel
theorem dX10_hasAny_4 : decode cX10_hasAny 4 = .ok (.iconst 1, 1) := by decide +kernel
theorem dX10_hasAny_5 : decode cX10_hasAny 5 = .ok (.goto 4, 3) := by decide +kernel
theorem dX10_hasAny_8 : decode cX10_hasAny 8 = .ok (.iconst 0, 1) := by decide +kernel
theorem dX10_hasAny_9 : decode cX10_hasAny 9 = .ok (.istore_n 2, 1) := by decide +kernel
theorem dX10_hasAny_10 : decode cX10_hasAny 10 = .ok (.iconst 0, 1) := by decide +kernel
theorem dX10_hasAny_11 : decode cX10_hasAny 11 = .ok (.istore_n 3, 1) := by decide +kernel
theorem dX10_hasAny_12 : decode cX10_hasAny 12 = .ok (.iload_n 3, 1) := by decide +kernel
theorem dX10_hasAny_13 : decode cX10_hasAny 13 = .ok (.aload_n 0, 1) := by decide +kernel
theorem dX10_hasAny_14 : decode cX10_hasAny 14 = .ok (.getfield 112, 3) := by decide +kernel
theorem dX10_hasAny_17 : decode cX10_hasAny 17 = .ok (.if_icmp .ge 47, 3) := by decide +kernel
theorem dX10_hasAny_20 : decode cX10_hasAny 20 = .ok (.iload_n 2, 1) := by decide +kernel
theorem dX10_hasAny_21 : decode cX10_hasAny 21 = .ok (.ifCond .ne 31, 3) := by decide +kernel
theorem dX10_hasAny_24 : decode cX10_hasAny 24 = .ok (.aload_n 0, 1) := by decide +kernel
theorem dX10_hasAny_25 : decode cX10_hasAny 25 = .ok (.getfield 26, 3) := by decide +kernel
theorem dX10_hasAny_28 : decode cX10_hasAny 28 = .ok (.iload_n 3, 1) := by decide +kernel
theorem dX10_hasAny_29 : decode cX10_hasAny 29 = .ok (.iaload, 1) := by decide +kernel
theorem dX10_hasAny_30 : decode cX10_hasAny 30 = .ok (.ifCond .ne 26, 3) := by decide +kernel
theorem dX10_hasAny_33 : decode cX10_hasAny 33 = .ok (.aload_n 0, 1) := by decide +kernel
theorem dX10_hasAny_34 : decode cX10_hasAny 34 = .ok (.getfield 32, 3) := by decide +kernel
theorem dX10_hasAny_37 : decode cX10_hasAny 37 = .ok (.iload_n 3, 1) := by decide +kernel
theorem dX10_hasAny_38 : decode cX10_hasAny 38 = .ok (.iaload, 1) := by decide +kernel
theorem dX10_hasAny_39 : decode cX10_hasAny 39 = .ok (.iload_n 1, 1) := by decide +kernel
theorem dX10_hasAny_40 : decode cX10_hasAny 40 = .ok (.if_icmp .ne 16, 3) := by decide +kernel
theorem dX10_hasAny_43 : decode cX10_hasAny 43 = .ok (.aload_n 0, 1) := by decide +kernel
theorem dX10_hasAny_44 : decode cX10_hasAny 44 = .ok (.getfield 78, 3) := by decide +kernel
theorem dX10_hasAny_47 : decode cX10_hasAny 47 = .ok (.iload_n 3, 1) := by decide +kernel
theorem dX10_hasAny_48 : decode cX10_hasAny 48 = .ok (.iaload, 1) := by decide +kernel
theorem dX10_hasAny_49 : decode cX10_hasAny 49 = .ok (.ifCond .ne 7, 3) := by decide +kernel
theorem dX10_hasAny_52 : decode cX10_hasAny 52 = .ok (.iconst 1, 1) := by decide +kernel
theorem dX10_hasAny_53 : decode cX10_hasAny 53 = .ok (.goto 4, 3) := by decide +kernel
theorem dX10_hasAny_56 : decode cX10_hasAny 56 = .ok (.iconst 0, 1) := by decide +kernel
theorem dX10_hasAny_57 : decode cX10_hasAny 57 = .ok (.istore_n 2, 1) := by decide +kernel
theorem dX10_hasAny_58 : decode cX10_hasAny 58 = .ok (.iinc 3 1, 3) := by decide +kernel
theorem dX10_hasAny_61 : decode cX10_hasAny 61 = .ok (.goto (-49), 3) := by decide +kernel
theorem dX10_hasAny_64 : decode cX10_hasAny 64 = .ok (.iload_n 2, 1) := by decide +kernel
theorem dX10_hasAny_65 : decode cX10_hasAny 65 = .ok (.ireturn, 1) := by decide +kernel
theorem dX10_isOutside_0 : decode cX10_isOutside 0 = .ok (.aload_n 0, 1) := by decide +kernel
theorem dX10_isOutside_1 : decode cX10_isOutside 1 = .ok (.getfield 26, 3) := by decide +kernel
theorem dX10_isOutside_4 : decode cX10_isOutside 4 = .ok (.iload_n 1, 1) := by decide +kernel
theorem dX10_isOutside_5 : decode cX10_isOutside 5 = .ok (.iaload, 1) := by decide +kernel
theorem dX10_isOutside_6 : decode cX10_isOutside 6 = .ok (.iconst 2, 1) := by decide +kernel
theorem dX10_isOutside_7 : decode cX10_isOutside 7 = .ok (.if_icmp .ne 42, 3) := by decide +kernel
theorem dX10_isOutside_10 : decode cX10_isOutside 10 = .ok (.aload_n 0, 1) := by decide +kernel
theorem dX10_isOutside_11 : decode cX10_isOutside 11 = .ok (.getfield 23, 3) := by decide +kernel
theorem dX10_isOutside_14 : decode cX10_isOutside 14 = .ok (.aload_n 0, 1) := by decide +kernel
theorem dX10_isOutside_15 : decode cX10_isOutside 15 = .ok (.getfield 32, 3) := by decide +kernel
theorem dX10_isOutside_18 : decode cX10_isOutside 18 = .ok (.iload_n 1, 1) := by decide +kernel
theorem dX10_isOutside_19 : decode cX10_isOutside 19 = .ok (.iaload, 1) := by decide +kernel
theorem dX10_isOutside_20 : decode cX10_isOutside 20 = .ok (.iaload, 1) := by decide +kernel
theorem dX10_isOutside_21 : decode cX10_isOutside 21 = .ok (.aload_n 0, 1) := by decide +kernel
theorem dX10_isOutside_22 : decode cX10_isOutside 22 = .ok (.getfield 29, 3) := by decide +kernel
theorem dX10_isOutside_25 : decode cX10_isOutside 25 = .ok (.iload_n 1, 1) := by decide +kernel
theorem dX10_isOutside_26 : decode cX10_isOutside 26 = .ok (.iaload, 1) := by decide +kernel
theorem dX10_isOutside_27 : decode cX10_isOutside 27 = .ok (.if_icmp .ne 16, 3) := by decide +kernel
theorem dX10_isOutside_30 : decode cX10_isOutside 30 = .ok (.aload_n 0, 1) := by decide +kernel
theorem dX10_isOutside_31 : decode cX10_isOutside 31 = .ok (.aload_n 0, 1) := by decide +kernel
theorem dX10_isOutside_32 : decode cX10_isOutside 32 = .ok (.getfield 29, 3) := by decide +kernel
theorem dX10_isOutside_35 : decode cX10_isOutside 35 = .ok (.iload_n 1, 1) := by decide +kernel
theorem dX10_isOutside_36 : decode cX10_isOutside 36 = .ok (.iaload, 1) := by decide +kernel
theorem dX10_isOutside_37 : decode cX10_isOutside 37 = .ok (.invokevirtual 164, 3) := by decide +kernel
theorem dX10_isOutside_40 : decode cX10_isOutside 40 = .ok (.ifCond .ne 7, 3) := by decide +kernel
theorem dX10_isOutside_43 : decode cX10_isOutside 43 = .ok (.iconst 1, 1) := by decide +kernel
theorem dX10_isOutside_44 : decode cX10_isOutside 44 = .ok (.goto 4, 3) := by decide +kernel
theorem dX10_isOutside_47 : decode cX10_isOutside 47 = .ok (.iconst 0, 1) := by decide +kernel
theorem dX10_isOutside_48 : decode cX10_isOutside 48 = .ok (.ireturn, 1) := by decide +kernel
theorem dX10_isOutside_49 : decode cX10_isOutside 49 = .ok (.aload_n 0, 1) := by decide +kernel
theorem dX10_isOutside_50 : decode cX10_isOutside 50 = .ok (.getfield 26, 3) := by decide +kernel
theorem dX10_isOutside_53 : decode cX10_isOutside 53 = .ok (.iload_n 1, 1) := by decide +kernel
theorem dX10_isOutside_54 : decode cX10_isOutside 54 = .ok (.iaload, 1) := by decide +kernel
theorem dX10_isOutside_55 : decode cX10_isOutside 55 = .ok (.ifCond .ne 23, 3) := by decide +kernel
theorem dX10_isOutside_58 : decode cX10_isOutside 58 = .ok (.aload_n 0, 1) := by decide +kernel
theorem dX10_isOutside_59 : decode cX10_isOutside 59 = .ok (.getfield 7, 3) := by decide +kernel
theorem dX10_isOutside_62 : decode cX10_isOutside 62 = .ok (.aload_n 0, 1) := by decide +kernel
theorem dX10_isOutside_63 : decode cX10_isOutside 63 = .ok (.getfield 32, 3) := by decide +kernel
theorem dX10_isOutside_66 : decode cX10_isOutside 66 = .ok (.iload_n 1, 1) := by decide +kernel
theorem dX10_isOutside_67 : decode cX10_isOutside 67 = .ok (.iaload, 1) := by decide +kernel
theorem dX10_isOutside_68 : decode cX10_isOutside 68 = .ok (.iaload, 1) := by decide +kernel
theorem dX10_isOutside_69 : decode cX10_isOutside 69 = .ok (.aload_n 0, 1) := by decide +kernel
theorem dX10_isOutside_70 : decode cX10_isOutside 70 = .ok (.getfield 29, 3) := by decide +kernel
theorem dX10_isOutside_73 : decode cX10_isOutside 73 = .ok (.iload_n 1, 1) := by decide +kernel
theorem dX10_isOutside_74 : decode cX10_isOutside 74 = .ok (.iaload, 1) := by decide +kernel
theorem dX10_isOutside_75 : decode cX10_isOutside 75 = .ok (.if_icmp .ne 28, 3) := by decide +kernel
theorem dX10_isOutside_78 : decode cX10_isOutside 78 = .ok (.aload_n 0, 1) := by decide +kernel
theorem dX10_isOutside_79 : decode cX10_isOutside 79 = .ok (.aload_n 0, 1) := by decide +kernel
theorem dX10_isOutside_80 : decode cX10_isOutside 80 = .ok (.getfield 29, 3) := by decide +kernel
theorem dX10_isOutside_83 : decode cX10_isOutside 83 = .ok (.iload_n 1, 1) := by decide +kernel
theorem dX10_isOutside_84 : decode cX10_isOutside 84 = .ok (.iaload, 1) := by decide +kernel
theorem dX10_isOutside_85 : decode cX10_isOutside 85 = .ok (.aload_n 0, 1) := by decide +kernel
theorem dX10_isOutside_86 : decode cX10_isOutside 86 = .ok (.getfield 35, 3) := by decide +kernel
theorem dX10_isOutside_89 : decode cX10_isOutside 89 = .ok (.iload_n 1, 1) := by decide +kernel
theorem dX10_isOutside_90 : decode cX10_isOutside 90 = .ok (.iaload, 1) := by decide +kernel
theorem dX10_isOutside_91 : decode cX10_isOutside 91 = .ok (.aload_n 0, 1) := by decide +kernel
theorem dX10_isOutside_92 : decode cX10_isOutside 92 = .ok (.getfield 38, 3) := by decide +kernel
theorem dX10_isOutside_95 : decode cX10_isOutside 95 = .ok (.iload_n 1, 1) := by decide +kernel
theorem dX10_isOutside_96 : decode cX10_isOutside 96 = .ok (.iaload, 1) := by decide +kernel
theorem dX10_isOutside_97 : decode cX10_isOutside 97 = .ok (.invokevirtual 167, 3) := by decide +kernel
theorem dX10_isOutside_100 : decode cX10_isOutside 100 = .ok (.ifCond .ne 7, 3) := by decide +kernel
theorem dX10_isOutside_103 : decode cX10_isOutside 103 = .ok (.iconst 1, 1) := by decide +kernel
theorem dX10_isOutside_104 : decode cX10_isOutside 104 = .ok (.goto 4, 3) := by decide +kernel
theorem dX10_isOutside_107 : decode cX10_isOutside 107 = .ok (.iconst 0, 1) := by decide +kernel
theorem dX10_isOutside_108 : decode cX10_isOutside 108 = .ok (.ireturn, 1) := by decide +kernel
theorem dX10_judges_0 : decode cX10_judges 0 = .ok (.iconst 0, 1) := by decide +kernel
theorem dX10_judges_1 : decode cX10_judges 1 = .ok (.istore_n 1, 1) := by decide +kernel
theorem dX10_judges_2 : decode cX10_judges 2 = .ok (.iload_n 1, 1) := by decide +kernel
theorem dX10_judges_3 : decode cX10_judges 3 = .ok (.aload_n 0, 1) := by decide +kernel
theorem dX10_judges_4 : decode cX10_judges 4 = .ok (.getfield 112, 3) := by decide +kernel
theorem dX10_judges_7 : decode cX10_judges 7 = .ok (.if_icmp .ge 33, 3) := by decide +kernel
theorem dX10_judges_10 : decode cX10_judges 10 = .ok (.aload_n 0, 1) := by decide +kernel
theorem dX10_judges_11 : decode cX10_judges 11 = .ok (.getfield 78, 3) := by decide +kernel
theorem dX10_judges_14 : decode cX10_judges 14 = .ok (.iload_n 1, 1) := by decide +kernel
theorem dX10_judges_15 : decode cX10_judges 15 = .ok (.aload_n 0, 1) := by decide +kernel
theorem dX10_judges_16 : decode cX10_judges 16 = .ok (.getfield 26, 3) := by decide +kernel
theorem dX10_judges_19 : decode cX10_judges 19 = .ok (.iload_n 1, 1) := by decide +kernel
theorem dX10_judges_20 : decode cX10_judges 20 = .ok (.iaload, 1) := by decide +kernel
theorem dX10_judges_21 : decode cX10_judges 21 = .ok (.ifCond .ne 7, 3) := by decide +kernel
theorem dX10_judges_24 : decode cX10_judges 24 = .ok (.iconst 5, 1) := by decide +kernel
theorem dX10_judges_25 : decode cX10_judges 25 = .ok (.goto 8, 3) := by decide +kernel
theorem dX10_judges_28 : decode cX10_judges 28 = .ok (.aload_n 0, 1) := by decide +kernel
theorem dX10_judges_29 : decode cX10_judges 29 = .ok (.iload_n 1, 1) := by decide +kernel
theorem dX10_judges_30 : decode cX10_judges 30 = .ok (.invokevirtual 170, 3) := by decide +kernel
theorem dX10_judges_33 : decode cX10_judges 33 = .ok (.iastore, 1) := by decide +kernel
theorem dX10_judges_34 : decode cX10_judges 34 = .ok (.iinc 1 1, 3) := by decide +kernel
theorem dX10_judges_37 : decode cX10_judges 37 = .ok (.goto (-35), 3) := by decide +kernel
theorem dX10_judges_40 : decode cX10_judges 40 = .ok (.iconst 0, 1) := by decide +kernel
theorem dX10_judges_41 : decode cX10_judges 41 = .ok (.istore_n 1, 1) := by decide +kernel
theorem dX10_judges_42 : decode cX10_judges 42 = .ok (.iload_n 1, 1) := by decide +kernel
theorem dX10_judges_43 : decode cX10_judges 43 = .ok (.aload_n 0, 1) := by decide +kernel
theorem dX10_judges_44 : decode cX10_judges 44 = .ok (.getfield 19, 3) := by decide +kernel
theorem dX10_judges_47 : decode cX10_judges 47 = .ok (.if_icmp .ge 73, 3) := by decide +kernel
theorem dX10_judges_50 : decode cX10_judges 50 = .ok (.iconst 0, 1) := by decide +kernel
theorem dX10_judges_51 : decode cX10_judges 51 = .ok (.istore_n 2, 1) := by decide +kernel
theorem dX10_judges_52 : decode cX10_judges 52 = .ok (.iload_n 2, 1) := by decide +kernel
theorem dX10_judges_53 : decode cX10_judges 53 = .ok (.aload_n 0, 1) := by decide +kernel
theorem dX10_judges_54 : decode cX10_judges 54 = .ok (.getfield 112, 3) := by decide +kernel
theorem dX10_judges_57 : decode cX10_judges 57 = .ok (.if_icmp .ge 57, 3) := by decide +kernel
theorem dX10_judges_60 : decode cX10_judges 60 = .ok (.aload_n 0, 1) := by decide +kernel
theorem dX10_judges_61 : decode cX10_judges 61 = .ok (.getfield 26, 3) := by decide +kernel
theorem dX10_judges_64 : decode cX10_judges 64 = .ok (.iload_n 2, 1) := by decide +kernel
theorem dX10_judges_65 : decode cX10_judges 65 = .ok (.iaload, 1) := by decide +kernel
theorem dX10_judges_66 : decode cX10_judges 66 = .ok (.ifCond .ne 42, 3) := by decide +kernel
theorem dX10_judges_69 : decode cX10_judges 69 = .ok (.aload_n 0, 1) := by decide +kernel
theorem dX10_judges_70 : decode cX10_judges 70 = .ok (.getfield 32, 3) := by decide +kernel
theorem dX10_judges_73 : decode cX10_judges 73 = .ok (.iload_n 2, 1) := by decide +kernel
theorem dX10_judges_74 : decode cX10_judges 74 = .ok (.iaload, 1) := by decide +kernel
theorem dX10_judges_75 : decode cX10_judges 75 = .ok (.iload_n 1, 1) := by decide +kernel
theorem dX10_judges_76 : decode cX10_judges 76 = .ok (.if_icmp .ne 32, 3) := by decide +kernel
theorem dX10_judges_79 : decode cX10_judges 79 = .ok (.aload_n 0, 1) := by decide +kernel
theorem dX10_judges_80 : decode cX10_judges 80 = .ok (.iload_n 2, 1) := by decide +kernel
theorem dX10_judges_81 : decode cX10_judges 81 = .ok (.invokevirtual 170, 3) := by decide +kernel
theorem dX10_judges_84 : decode cX10_judges 84 = .ok (.istore_n 3, 1) := by decide +kernel
theorem dX10_judges_85 : decode cX10_judges 85 = .ok (.aload_n 0, 1) := by decide +kernel
theorem dX10_judges_86 : decode cX10_judges 86 = .ok (.getfield 78, 3) := by decide +kernel
theorem dX10_judges_89 : decode cX10_judges 89 = .ok (.iload_n 2, 1) := by decide +kernel
theorem dX10_judges_90 : decode cX10_judges 90 = .ok (.iload_n 3, 1) := by decide +kernel
theorem dX10_judges_91 : decode cX10_judges 91 = .ok (.ifCond .ne 15, 3) := by decide +kernel
theorem dX10_judges_94 : decode cX10_judges 94 = .ok (.aload_n 0, 1) := by decide +kernel
theorem dX10_judges_95 : decode cX10_judges 95 = .ok (.iload_n 2, 1) := by decide +kernel
theorem dX10_judges_96 : decode cX10_judges 96 = .ok (.invokevirtual 173, 3) := by decide +kernel
theorem dX10_judges_99 : decode cX10_judges 99 = .ok (.ifCond .eq 7, 3) := by decide +kernel
theorem dX10_judges_102 : decode cX10_judges 102 = .ok (.iconst 5, 1) := by decide +kernel
theorem dX10_judges_103 : decode cX10_judges 103 = .ok (.goto 4, 3) := by decide +kernel
theorem dX10_judges_106 : decode cX10_judges 106 = .ok (.iload_n 3, 1) := by decide +kernel
theorem dX10_judges_107 : decode cX10_judges 107 = .ok (.iastore, 1) := by decide +kernel
theorem dX10_judges_108 : decode cX10_judges 108 = .ok (.iinc 2 1, 3) := by decide +kernel
theorem dX10_judges_111 : decode cX10_judges 111 = .ok (.goto (-59), 3) := by decide +kernel
theorem dX10_judges_114 : decode cX10_judges 114 = .ok (.iinc 1 1, 3) := by decide +kernel
theorem dX10_judges_117 : decode cX10_judges 117 = .ok (.goto (-75), 3) := by decide +kernel
theorem dX10_judges_120 : decode cX10_judges 120 = .ok (.iconst 0, 1) := by decide +kernel
theorem dX10_judges_121 : decode cX10_judges 121 = .ok (.istore_n 1, 1) := by decide +kernel
theorem dX10_judges_122 : decode cX10_judges 122 = .ok (.iload_n 1, 1) := by decide +kernel
theorem dX10_judges_123 : decode cX10_judges 123 = .ok (.aload_n 0, 1) := by decide +kernel
theorem dX10_judges_124 : decode cX10_judges 124 = .ok (.getfield 112, 3) := by decide +kernel
theorem dX10_judges_127 : decode cX10_judges 127 = .ok (.if_icmp .ge 51, 3) := by decide +kernel
theorem dX10_judges_130 : decode cX10_judges 130 = .ok (.aload_n 0, 1) := by decide +kernel
theorem dX10_judges_131 : decode cX10_judges 131 = .ok (.getfield 78, 3) := by decide +kernel
theorem dX10_judges_134 : decode cX10_judges 134 = .ok (.iload_n 1, 1) := by decide +kernel
theorem dX10_judges_135 : decode cX10_judges 135 = .ok (.aload_n 0, 1) := by decide +kernel
theorem dX10_judges_136 : decode cX10_judges 136 = .ok (.getfield 78, 3) := by decide +kernel
theorem dX10_judges_139 : decode cX10_judges 139 = .ok (.iload_n 1, 1) := by decide +kernel
theorem dX10_judges_140 : decode cX10_judges 140 = .ok (.iaload, 1) := by decide +kernel
theorem dX10_judges_141 : decode cX10_judges 141 = .ok (.ifCond .ne 24, 3) := by decide +kernel
theorem dX10_judges_144 : decode cX10_judges 144 = .ok (.aload_n 0, 1) := by decide +kernel
theorem dX10_judges_145 : decode cX10_judges 145 = .ok (.getfield 26, 3) := by decide +kernel
theorem dX10_judges_148 : decode cX10_judges 148 = .ok (.iload_n 1, 1) := by decide +kernel
theorem dX10_judges_149 : decode cX10_judges 149 = .ok (.iaload, 1) := by decide +kernel
theorem dX10_judges_150 : decode cX10_judges 150 = .ok (.ifCond .eq 15, 3) := by decide +kernel
theorem dX10_judges_153 : decode cX10_judges 153 = .ok (.aload_n 0, 1) := by decide +kernel
theorem dX10_judges_154 : decode cX10_judges 154 = .ok (.iload_n 1, 1) := by decide +kernel
theorem dX10_judges_155 : decode cX10_judges 155 = .ok (.invokevirtual 173, 3) := by decide +kernel
theorem dX10_judges_158 : decode cX10_judges 158 = .ok (.ifCond .eq 7, 3) := by decide +kernel
theorem dX10_judges_161 : decode cX10_judges 161 = .ok (.iconst 5, 1) := by decide +kernel
theorem dX10_judges_162 : decode cX10_judges 162 = .ok (.goto 9, 3) := by decide +kernel
theorem dX10_judges_165 : decode cX10_judges 165 = .ok (.aload_n 0, 1) := by decide +kernel
theorem dX10_judges_166 : decode cX10_judges 166 = .ok (.getfield 78, 3) := by decide +kernel
theorem dX10_judges_169 : decode cX10_judges 169 = .ok (.iload_n 1, 1) := by decide +kernel
theorem dX10_judges_170 : decode cX10_judges 170 = .ok (.iaload, 1) := by decide +kernel
theorem dX10_judges_171 : decode cX10_judges 171 = .ok (.iastore, 1) := by decide +kernel
theorem dX10_judges_172 : decode cX10_judges 172 = .ok (.iinc 1 1, 3) := by decide +kernel
theorem dX10_judges_175 : decode cX10_judges 175 = .ok (.goto (-53), 3) := by decide +kernel
theorem dX10_judges_178 : decode cX10_judges 178 = .ok (.return_, 1) := by decide +kernel
theorem dX10_judged_0 : decode cX10_judged 0 = .ok (.aload_n 0, 1) := by decide +kernel
theorem dX10_judged_1 : decode cX10_judged 1 = .ok (.aload_n 0, 1) := by decide +kernel
theorem dX10_judged_2 : decode cX10_judged 2 = .ok (.iload_n 1, 1) := by decide +kernel
theorem dX10_judged_3 : decode cX10_judged 3 = .ok (.invokevirtual 148, 3) := by decide +kernel
theorem dX10_judged_6 : decode cX10_judged 6 = .ok (.ifCond .eq 7, 3) := by decide +kernel
theorem dX10_judged_9 : decode cX10_judged 9 = .ok (.iconst 0, 1) := by decide +kernel
theorem dX10_judged_10 : decode cX10_judged 10 = .ok (.goto 4, 3) := by decide +kernel
theorem dX10_judged_13 : decode cX10_judged 13 = .ok (.iconst 1, 1) := by decide +kernel
theorem dX10_judged_14 : decode cX10_judged 14 = .ok (.invokevirtual 119, 3) := by decide +kernel
theorem dX10_judged_17 : decode cX10_judged 17 = .ok (.ifCond .ne 5, 3) := by decide +kernel
theorem dX10_judged_20 : decode cX10_judged 20 = .ok (.iconst 0, 1) := by decide +kernel
theorem dX10_judged_21 : decode cX10_judged 21 = .ok (.ireturn, 1) := by decide +kernel
theorem dX10_judged_22 : decode cX10_judged 22 = .ok (.aload_n 0, 1) := by decide +kernel
theorem dX10_judged_23 : decode cX10_judged 23 = .ok (.invokevirtual 176, 3) := by decide +kernel
theorem dX10_judged_26 : decode cX10_judged 26 = .ok (.aload_n 0, 1) := by decide +kernel
theorem dX10_judged_27 : decode cX10_judged 27 = .ok (.getfield 78, 3) := by decide +kernel
theorem dX10_judged_30 : decode cX10_judged 30 = .ok (.iload_n 1, 1) := by decide +kernel
theorem dX10_judged_31 : decode cX10_judged 31 = .ok (.iaload, 1) := by decide +kernel
theorem dX10_judged_32 : decode cX10_judged 32 = .ok (.ireturn, 1) := by decide +kernel
theorem dX10_hasNow_0 : decode cX10_hasNow 0 = .ok (.aload_n 0, 1) := by decide +kernel
theorem dX10_hasNow_1 : decode cX10_hasNow 1 = .ok (.aload_n 0, 1) := by decide +kernel
theorem dX10_hasNow_2 : decode cX10_hasNow 2 = .ok (.iload_n 1, 1) := by decide +kernel
theorem dX10_hasNow_3 : decode cX10_hasNow 3 = .ok (.invokevirtual 115, 3) := by decide +kernel
theorem dX10_hasNow_6 : decode cX10_hasNow 6 = .ok (.ifCond .ne 7, 3) := by decide +kernel
theorem dX10_hasNow_9 : decode cX10_hasNow 9 = .ok (.iconst 1, 1) := by decide +kernel
theorem dX10_hasNow_10 : decode cX10_hasNow 10 = .ok (.goto 16, 3) := by decide +kernel
theorem dX10_hasNow_13 : decode cX10_hasNow 13 = .ok (.iload_n 2, 1) := by decide +kernel
theorem dX10_hasNow_14 : decode cX10_hasNow 14 = .ok (.iload_n 3, 1) := by decide +kernel
theorem dX10_hasNow_15 : decode cX10_hasNow 15 = .ok (.invokestatic 137, 3) := by decide +kernel
theorem dX10_hasNow_18 : decode cX10_hasNow 18 = .ok (.ifCond .ne 7, 3) := by decide +kernel
theorem dX10_hasNow_21 : decode cX10_hasNow 21 = .ok (.iconst 2, 1) := by decide +kernel
theorem dX10_hasNow_22 : decode cX10_hasNow 22 = .ok (.goto 4, 3) := by decide +kernel
theorem dX10_hasNow_25 : decode cX10_hasNow 25 = .ok (.iconst 0, 1) := by decide +kernel
theorem dX10_hasNow_26 : decode cX10_hasNow 26 = .ok (.invokevirtual 119, 3) := by decide +kernel
theorem dX10_hasNow_29 : decode cX10_hasNow 29 = .ok (.ifCond .ne 5, 3) := by decide +kernel
theorem dX10_hasNow_32 : decode cX10_hasNow 32 = .ok (.iconst 0, 1) := by decide +kernel
theorem dX10_hasNow_33 : decode cX10_hasNow 33 = .ok (.ireturn, 1) := by decide +kernel
theorem dX10_hasNow_34 : decode cX10_hasNow 34 = .ok (.aload_n 0, 1) := by decide +kernel
theorem dX10_hasNow_35 : decode cX10_hasNow 35 = .ok (.invokevirtual 176, 3) := by decide +kernel
theorem dX10_hasNow_38 : decode cX10_hasNow 38 = .ok (.aload_n 0, 1) := by decide +kernel
theorem dX10_hasNow_39 : decode cX10_hasNow 39 = .ok (.iload_n 1, 1) := by decide +kernel
theorem dX10_hasNow_40 : decode cX10_hasNow 40 = .ok (.iload_n 2, 1) := by decide +kernel
theorem dX10_hasNow_41 : decode cX10_hasNow 41 = .ok (.iload_n 3, 1) := by decide +kernel
theorem dX10_hasNow_42 : decode cX10_hasNow 42 = .ok (.invokevirtual 167, 3) := by decide +kernel
theorem dX10_hasNow_45 : decode cX10_hasNow 45 = .ok (.ireturn, 1) := by decide +kernel
theorem dX10_has_0 : decode cX10_has 0 = .ok (.aload_n 0, 1) := by decide +kernel
theorem dX10_has_1 : decode cX10_has 1 = .ok (.iload_n 1, 1) := by decide +kernel
theorem dX10_has_2 : decode cX10_has 2 = .ok (.iload_n 2, 1) := by decide +kernel
theorem dX10_has_3 : decode cX10_has 3 = .ok (.iload_n 3, 1) := by decide +kernel
theorem dX10_has_4 : decode cX10_has 4 = .ok (.invokevirtual 179, 3) := by decide +kernel
theorem dX10_has_7 : decode cX10_has 7 = .ok (.ireturn, 1) := by decide +kernel
theorem dX10_hasByChains_0 : decode cX10_hasByChains 0 = .ok (.aload_n 0, 1) := by decide +kernel
theorem dX10_hasByChains_1 : decode cX10_hasByChains 1 = .ok (.iload_n 1, 1) := by decide +kernel
theorem dX10_hasByChains_2 : decode cX10_hasByChains 2 = .ok (.iload_n 2, 1) := by decide +kernel
theorem dX10_hasByChains_3 : decode cX10_hasByChains 3 = .ok (.iload_n 3, 1) := by decide +kernel
theorem dX10_hasByChains_4 : decode cX10_hasByChains 4 = .ok (.invokevirtual 179, 3) := by decide +kernel
theorem dX10_hasByChains_7 : decode cX10_hasByChains 7 = .ok (.ireturn, 1) := by decide +kernel
theorem dX10_stands_0 : decode cX10_stands 0 = .ok (.iconst 0, 1) := by decide +kernel
theorem dX10_stands_1 : decode cX10_stands 1 = .ok (.istore 4, 2) := by decide +kernel
theorem dX10_stands_3 : decode cX10_stands 3 = .ok (.iconst 0, 1) := by decide +kernel
theorem dX10_stands_4 : decode cX10_stands 4 = .ok (.istore 5, 2) := by decide +kernel
theorem dX10_stands_6 : decode cX10_stands 6 = .ok (.iload 5, 2) := by decide +kernel
theorem dX10_stands_8 : decode cX10_stands 8 = .ok (.aload_n 0, 1) := by decide +kernel
theorem dX10_stands_9 : decode cX10_stands 9 = .ok (.getfield 112, 3) := by decide +kernel
theorem dX10_stands_12 : decode cX10_stands 12 = .ok (.if_icmp .ge 87, 3) := by decide +kernel
theorem dX10_stands_15 : decode cX10_stands 15 = .ok (.iload 4, 2) := by decide +kernel
theorem dX10_stands_17 : decode cX10_stands 17 = .ok (.iconst 1, 1) := by decide +kernel
theorem dX10_stands_18 : decode cX10_stands 18 = .ok (.if_icmp .eq 81, 3) := by decide +kernel
theorem dX10_stands_21 : decode cX10_stands 21 = .ok (.aload_n 0, 1) := by decide +kernel
theorem dX10_stands_22 : decode cX10_stands 22 = .ok (.getfield 26, 3) := by decide +kernel
theorem dX10_stands_25 : decode cX10_stands 25 = .ok (.iload 5, 2) := by decide +kernel
theorem dX10_stands_27 : decode cX10_stands 27 = .ok (.iaload, 1) := by decide +kernel
theorem dX10_stands_28 : decode cX10_stands 28 = .ok (.iconst 1, 1) := by decide +kernel
theorem dX10_stands_29 : decode cX10_stands 29 = .ok (.if_icmp .ne 64, 3) := by decide +kernel
theorem dX10_stands_32 : decode cX10_stands 32 = .ok (.aload_n 0, 1) := by decide +kernel
theorem dX10_stands_33 : decode cX10_stands 33 = .ok (.getfield 78, 3) := by decide +kernel
theorem dX10_stands_36 : decode cX10_stands 36 = .ok (.iload 5, 2) := by decide +kernel
theorem dX10_stands_38 : decode cX10_stands 38 = .ok (.iaload, 1) := by decide +kernel
theorem dX10_stands_39 : decode cX10_stands 39 = .ok (.ifCond .ne 54, 3) := by decide +kernel
theorem dX10_stands_42 : decode cX10_stands 42 = .ok (.iload_n 2, 1) := by decide +kernel
theorem dX10_stands_43 : decode cX10_stands 43 = .ok (.iload_n 3, 1) := by decide +kernel
theorem dX10_stands_44 : decode cX10_stands 44 = .ok (.aload_n 0, 1) := by decide +kernel
theorem dX10_stands_45 : decode cX10_stands 45 = .ok (.getfield 35, 3) := by decide +kernel
theorem dX10_stands_48 : decode cX10_stands 48 = .ok (.iload 5, 2) := by decide +kernel
theorem dX10_stands_50 : decode cX10_stands 50 = .ok (.iaload, 1) := by decide +kernel
theorem dX10_stands_51 : decode cX10_stands 51 = .ok (.aload_n 0, 1) := by decide +kernel
theorem dX10_stands_52 : decode cX10_stands 52 = .ok (.getfield 38, 3) := by decide +kernel
theorem dX10_stands_55 : decode cX10_stands 55 = .ok (.iload 5, 2) := by decide +kernel
theorem dX10_stands_57 : decode cX10_stands 57 = .ok (.iaload, 1) := by decide +kernel
theorem dX10_stands_58 : decode cX10_stands 58 = .ok (.invokestatic 160, 3) := by decide +kernel
theorem dX10_stands_61 : decode cX10_stands 61 = .ok (.ifCond .eq 32, 3) := by decide +kernel
theorem dX10_stands_64 : decode cX10_stands 64 = .ok (.aload_n 0, 1) := by decide +kernel
theorem dX10_stands_65 : decode cX10_stands 65 = .ok (.getfield 32, 3) := by decide +kernel
theorem dX10_stands_68 : decode cX10_stands 68 = .ok (.iload 5, 2) := by decide +kernel
theorem dX10_stands_70 : decode cX10_stands 70 = .ok (.iaload, 1) := by decide +kernel
theorem dX10_stands_71 : decode cX10_stands 71 = .ok (.iload_n 1, 1) := by decide +kernel
theorem dX10_stands_72 : decode cX10_stands 72 = .ok (.if_icmp .ne 18, 3) := by decide +kernel
theorem dX10_stands_75 : decode cX10_stands 75 = .ok (.iload_n 3, 1) := by decide +kernel
theorem dX10_stands_76 : decode cX10_stands 76 = .ok (.aload_n 0, 1) := by decide +kernel
theorem dX10_stands_77 : decode cX10_stands 77 = .ok (.getfield 41, 3) := by decide +kernel
theorem dX10_stands_80 : decode cX10_stands 80 = .ok (.iload 5, 2) := by decide +kernel
theorem dX10_stands_82 : decode cX10_stands 82 = .ok (.iaload, 1) := by decide +kernel
theorem dX10_stands_83 : decode cX10_stands 83 = .ok (.if_icmp .gt 7, 3) := by decide +kernel
theorem dX10_stands_86 : decode cX10_stands 86 = .ok (.iconst 1, 1) := by decide +kernel
theorem dX10_stands_87 : decode cX10_stands 87 = .ok (.goto 4, 3) := by decide +kernel
theorem dX10_stands_90 : decode cX10_stands 90 = .ok (.iconst 2, 1) := by decide +kernel
theorem dX10_stands_91 : decode cX10_stands 91 = .ok (.istore 4, 2) := by decide +kernel
theorem dX10_stands_93 : decode cX10_stands 93 = .ok (.iinc 5 1, 3) := by decide +kernel
theorem dX10_stands_96 : decode cX10_stands 96 = .ok (.goto (-90), 3) := by decide +kernel
theorem dX10_stands_99 : decode cX10_stands 99 = .ok (.iload 4, 2) := by decide +kernel
theorem dX10_stands_101 : decode cX10_stands 101 = .ok (.ireturn, 1) := by decide +kernel
theorem dX10_state_0 : decode cX10_state 0 = .ok (.aload_n 0, 1) := by decide +kernel
theorem dX10_state_1 : decode cX10_state 1 = .ok (.iload_n 1, 1) := by decide +kernel
theorem dX10_state_2 : decode cX10_state 2 = .ok (.invokestatic 125, 3) := by decide +kernel
theorem dX10_state_5 : decode cX10_state 5 = .ok (.ifCond .ne 7, 3) := by decide +kernel
theorem dX10_state_8 : decode cX10_state 8 = .ok (.iconst 1, 1) := by decide +kernel
theorem dX10_state_9 : decode cX10_state 9 = .ok (.goto 16, 3) := by decide +kernel
theorem dX10_state_12 : decode cX10_state 12 = .ok (.iload_n 2, 1) := by decide +kernel
theorem dX10_state_13 : decode cX10_state 13 = .ok (.iload_n 3, 1) := by decide +kernel
theorem dX10_state_14 : decode cX10_state 14 = .ok (.invokestatic 137, 3) := by decide +kernel
theorem dX10_state_17 : decode cX10_state 17 = .ok (.ifCond .ne 7, 3) := by decide +kernel
theorem dX10_state_20 : decode cX10_state 20 = .ok (.iconst 2, 1) := by decide +kernel
theorem dX10_state_21 : decode cX10_state 21 = .ok (.goto 4, 3) := by decide +kernel
theorem dX10_state_24 : decode cX10_state 24 = .ok (.iconst 0, 1) := by decide +kernel
theorem dX10_state_25 : decode cX10_state 25 = .ok (.invokevirtual 119, 3) := by decide +kernel
theorem dX10_state_28 : decode cX10_state 28 = .ok (.ifCond .ne 5, 3) := by decide +kernel
theorem dX10_state_31 : decode cX10_state 31 = .ok (.iconst 0, 1) := by decide +kernel
theorem dX10_state_32 : decode cX10_state 32 = .ok (.ireturn, 1) := by decide +kernel
theorem dX10_state_33 : decode cX10_state 33 = .ok (.aload_n 0, 1) := by decide +kernel
theorem dX10_state_34 : decode cX10_state 34 = .ok (.invokevirtual 176, 3) := by decide +kernel
theorem dX10_state_37 : decode cX10_state 37 = .ok (.aload_n 0, 1) := by decide +kernel
theorem dX10_state_38 : decode cX10_state 38 = .ok (.iload_n 1, 1) := by decide +kernel
theorem dX10_state_39 : decode cX10_state 39 = .ok (.iload_n 2, 1) := by decide +kernel
theorem dX10_state_40 : decode cX10_state 40 = .ok (.iload_n 3, 1) := by decide +kernel
theorem dX10_state_41 : decode cX10_state 41 = .ok (.invokevirtual 182, 3) := by decide +kernel
theorem dX10_state_44 : decode cX10_state 44 = .ok (.ireturn, 1) := by decide +kernel
theorem dX10_vouches_0 : decode cX10_vouches 0 = .ok (.aload_n 0, 1) := by decide +kernel
theorem dX10_vouches_1 : decode cX10_vouches 1 = .ok (.invokevirtual 176, 3) := by decide +kernel
theorem dX10_vouches_4 : decode cX10_vouches 4 = .ok (.iconst 0, 1) := by decide +kernel
theorem dX10_vouches_5 : decode cX10_vouches 5 = .ok (.istore_n 1, 1) := by decide +kernel
theorem dX10_vouches_6 : decode cX10_vouches 6 = .ok (.iload_n 1, 1) := by decide +kernel
theorem dX10_vouches_7 : decode cX10_vouches 7 = .ok (.bipush 10, 2) := by decide +kernel
theorem dX10_vouches_9 : decode cX10_vouches 9 = .ok (.if_icmp .ge 23, 3) := by decide +kernel
theorem dX10_vouches_12 : decode cX10_vouches 12 = .ok (.aload_n 0, 1) := by decide +kernel
theorem dX10_vouches_13 : decode cX10_vouches 13 = .ok (.getfield 81, 3) := by decide +kernel
theorem dX10_vouches_16 : decode cX10_vouches 16 = .ok (.iload_n 1, 1) := by decide +kernel
theorem dX10_vouches_17 : decode cX10_vouches 17 = .ok (.iconst 0, 1) := by decide +kernel
theorem dX10_vouches_18 : decode cX10_vouches 18 = .ok (.iastore, 1) := by decide +kernel
theorem dX10_vouches_19 : decode cX10_vouches 19 = .ok (.aload_n 0, 1) := by decide +kernel
theorem dX10_vouches_20 : decode cX10_vouches 20 = .ok (.getfield 84, 3) := by decide +kernel
theorem dX10_vouches_23 : decode cX10_vouches 23 = .ok (.iload_n 1, 1) := by decide +kernel
theorem dX10_vouches_24 : decode cX10_vouches 24 = .ok (.iconst 0, 1) := by decide +kernel
theorem dX10_vouches_25 : decode cX10_vouches 25 = .ok (.bastore, 1) := by decide +kernel
theorem dX10_vouches_26 : decode cX10_vouches 26 = .ok (.iinc 1 1, 3) := by decide +kernel
theorem dX10_vouches_29 : decode cX10_vouches 29 = .ok (.goto (-23), 3) := by decide +kernel
theorem dX10_vouches_32 : decode cX10_vouches 32 = .ok (.iconst 0, 1) := by decide +kernel
theorem dX10_vouches_33 : decode cX10_vouches 33 = .ok (.istore_n 1, 1) := by decide +kernel
theorem dX10_vouches_34 : decode cX10_vouches 34 = .ok (.iload_n 1, 1) := by decide +kernel
theorem dX10_vouches_35 : decode cX10_vouches 35 = .ok (.aload_n 0, 1) := by decide +kernel
theorem dX10_vouches_36 : decode cX10_vouches 36 = .ok (.getfield 112, 3) := by decide +kernel
theorem dX10_vouches_39 : decode cX10_vouches 39 = .ok (.if_icmp .ge 60, 3) := by decide +kernel
theorem dX10_vouches_42 : decode cX10_vouches 42 = .ok (.aload_n 0, 1) := by decide +kernel
theorem dX10_vouches_43 : decode cX10_vouches 43 = .ok (.getfield 26, 3) := by decide +kernel
theorem dX10_vouches_46 : decode cX10_vouches 46 = .ok (.iload_n 1, 1) := by decide +kernel
theorem dX10_vouches_47 : decode cX10_vouches 47 = .ok (.iaload, 1) := by decide +kernel
theorem dX10_vouches_48 : decode cX10_vouches 48 = .ok (.iconst 2, 1) := by decide +kernel
theorem dX10_vouches_49 : decode cX10_vouches 49 = .ok (.if_icmp .ne 44, 3) := by decide +kernel
theorem dX10_vouches_52 : decode cX10_vouches 52 = .ok (.aload_n 0, 1) := by decide +kernel
theorem dX10_vouches_53 : decode cX10_vouches 53 = .ok (.getfield 78, 3) := by decide +kernel
theorem dX10_vouches_56 : decode cX10_vouches 56 = .ok (.iload_n 1, 1) := by decide +kernel
theorem dX10_vouches_57 : decode cX10_vouches 57 = .ok (.iaload, 1) := by decide +kernel
theorem dX10_vouches_58 : decode cX10_vouches 58 = .ok (.ifCond .ne 35, 3) := by decide +kernel
theorem dX10_vouches_61 : decode cX10_vouches 61 = .ok (.aload_n 0, 1) := by decide +kernel
theorem dX10_vouches_62 : decode cX10_vouches 62 = .ok (.getfield 81, 3) := by decide +kernel
theorem dX10_vouches_65 : decode cX10_vouches 65 = .ok (.aload_n 0, 1) := by decide +kernel
theorem dX10_vouches_66 : decode cX10_vouches 66 = .ok (.getfield 32, 3) := by decide +kernel
theorem dX10_vouches_69 : decode cX10_vouches 69 = .ok (.iload_n 1, 1) := by decide +kernel
theorem dX10_vouches_70 : decode cX10_vouches 70 = .ok (.iaload, 1) := by decide +kernel
theorem dX10_vouches_71 : decode cX10_vouches 71 = .ok (.dup2, 1) := by decide +kernel
theorem dX10_vouches_72 : decode cX10_vouches 72 = .ok (.iaload, 1) := by decide +kernel
theorem dX10_vouches_73 : decode cX10_vouches 73 = .ok (.aload_n 0, 1) := by decide +kernel
theorem dX10_vouches_74 : decode cX10_vouches 74 = .ok (.getfield 41, 3) := by decide +kernel
theorem dX10_vouches_77 : decode cX10_vouches 77 = .ok (.iload_n 1, 1) := by decide +kernel
theorem dX10_vouches_78 : decode cX10_vouches 78 = .ok (.iaload, 1) := by decide +kernel
theorem dX10_vouches_79 : decode cX10_vouches 79 = .ok (.ior, 1) := by decide +kernel
theorem dX10_vouches_80 : decode cX10_vouches 80 = .ok (.iastore, 1) := by decide +kernel
theorem dX10_vouches_81 : decode cX10_vouches 81 = .ok (.aload_n 0, 1) := by decide +kernel
theorem dX10_vouches_82 : decode cX10_vouches 82 = .ok (.getfield 84, 3) := by decide +kernel
theorem dX10_vouches_85 : decode cX10_vouches 85 = .ok (.aload_n 0, 1) := by decide +kernel
theorem dX10_vouches_86 : decode cX10_vouches 86 = .ok (.getfield 32, 3) := by decide +kernel
theorem dX10_vouches_89 : decode cX10_vouches 89 = .ok (.iload_n 1, 1) := by decide +kernel
theorem dX10_vouches_90 : decode cX10_vouches 90 = .ok (.iaload, 1) := by decide +kernel
theorem dX10_vouches_91 : decode cX10_vouches 91 = .ok (.iconst 1, 1) := by decide +kernel
theorem dX10_vouches_92 : decode cX10_vouches 92 = .ok (.bastore, 1) := by decide +kernel
theorem dX10_vouches_93 : decode cX10_vouches 93 = .ok (.iinc 1 1, 3) := by decide +kernel
theorem dX10_vouches_96 : decode cX10_vouches 96 = .ok (.goto (-62), 3) := by decide +kernel
theorem dX10_vouches_99 : decode cX10_vouches 99 = .ok (.return_, 1) := by decide +kernel
theorem dX10_isFor_0 : decode cX10_isFor 0 = .ok (.aload_n 0, 1) := by decide +kernel
theorem dX10_isFor_1 : decode cX10_isFor 1 = .ok (.getfield 81, 3) := by decide +kernel
theorem dX10_isFor_4 : decode cX10_isFor 4 = .ok (.iload_n 1, 1) := by decide +kernel
theorem dX10_isFor_5 : decode cX10_isFor 5 = .ok (.iaload, 1) := by decide +kernel
theorem dX10_isFor_6 : decode cX10_isFor 6 = .ok (.iload_n 2, 1) := by decide +kernel
theorem dX10_isFor_7 : decode cX10_isFor 7 = .ok (.ishr, 1) := by decide +kernel
theorem dX10_isFor_8 : decode cX10_isFor 8 = .ok (.iconst 1, 1) := by decide +kernel
theorem dX10_isFor_9 : decode cX10_isFor 9 = .ok (.iand, 1) := by decide +kernel
theorem dX10_isFor_10 : decode cX10_isFor 10 = .ok (.iconst 1, 1) := by decide +kernel
theorem dX10_isFor_11 : decode cX10_isFor 11 = .ok (.if_icmp .ne 7, 3) := by decide +kernel
theorem dX10_isFor_14 : decode cX10_isFor 14 = .ok (.iconst 1, 1) := by decide +kernel
theorem dX10_isFor_15 : decode cX10_isFor 15 = .ok (.goto 4, 3) := by decide +kernel
theorem dX10_isFor_18 : decode cX10_isFor 18 = .ok (.iconst 0, 1) := by decide +kernel
theorem dX10_isFor_19 : decode cX10_isFor 19 = .ok (.ireturn, 1) := by decide +kernel
theorem dX10_denies_0 : decode cX10_denies 0 = .ok (.aload_n 0, 1) := by decide +kernel
theorem dX10_denies_1 : decode cX10_denies 1 = .ok (.getfield 84, 3) := by decide +kernel
theorem dX10_denies_4 : decode cX10_denies 4 = .ok (.iload_n 1, 1) := by decide +kernel
theorem dX10_denies_5 : decode cX10_denies 5 = .ok (.baload, 1) := by decide +kernel
theorem dX10_denies_6 : decode cX10_denies 6 = .ok (.ifCond .eq 16, 3) := by decide +kernel
theorem dX10_denies_9 : decode cX10_denies 9 = .ok (.aload_n 0, 1) := by decide +kernel
theorem dX10_denies_10 : decode cX10_denies 10 = .ok (.iload_n 1, 1) := by decide +kernel
theorem dX10_denies_11 : decode cX10_denies 11 = .ok (.iload_n 2, 1) := by decide +kernel
theorem dX10_denies_12 : decode cX10_denies 12 = .ok (.invokevirtual 186, 3) := by decide +kernel
theorem dX10_denies_15 : decode cX10_denies 15 = .ok (.ifCond .ne 7, 3) := by decide +kernel
theorem dX10_denies_18 : decode cX10_denies 18 = .ok (.iconst 1, 1) := by decide +kernel
theorem dX10_denies_19 : decode cX10_denies 19 = .ok (.goto 4, 3) := by decide +kernel
theorem dX10_denies_22 : decode cX10_denies 22 = .ok (.iconst 0, 1) := by decide +kernel
theorem dX10_denies_23 : decode cX10_denies 23 = .ok (.ireturn, 1) := by decide +kernel
theorem dX10_runsRound_0 : decode cX10_runsRound 0 = .ok (.iconst 0, 1) := by decide +kernel
theorem dX10_runsRound_1 : decode cX10_runsRound 1 = .ok (.istore_n 3, 1) := by decide +kernel
theorem dX10_runsRound_2 : decode cX10_runsRound 2 = .ok (.iconst 0, 1) := by decide +kernel
theorem dX10_runsRound_3 : decode cX10_runsRound 3 = .ok (.istore 4, 2) := by decide +kernel
theorem dX10_runsRound_5 : decode cX10_runsRound 5 = .ok (.iload_n 1, 1) := by decide +kernel
theorem dX10_runsRound_6 : decode cX10_runsRound 6 = .ok (.istore 5, 2) := by decide +kernel
theorem dX10_runsRound_8 : decode cX10_runsRound 8 = .ok (.iload 5, 2) := by decide +kernel
theorem dX10_runsRound_10 : decode cX10_runsRound 10 = .ok (.iload_n 1, 1) := by decide +kernel
theorem dX10_runsRound_11 : decode cX10_runsRound 11 = .ok (.iload_n 2, 1) := by decide +kernel
theorem dX10_runsRound_12 : decode cX10_runsRound 12 = .ok (.iadd, 1) := by decide +kernel
theorem dX10_runsRound_13 : decode cX10_runsRound 13 = .ok (.if_icmp .ge 42, 3) := by decide +kernel
theorem dX10_runsRound_16 : decode cX10_runsRound 16 = .ok (.iload 4, 2) := by decide +kernel
theorem dX10_runsRound_18 : decode cX10_runsRound 18 = .ok (.ifCond .ne 15, 3) := by decide +kernel
theorem dX10_runsRound_21 : decode cX10_runsRound 21 = .ok (.iload_n 3, 1) := by decide +kernel
theorem dX10_runsRound_22 : decode cX10_runsRound 22 = .ok (.aload_n 0, 1) := by decide +kernel
theorem dX10_runsRound_23 : decode cX10_runsRound 23 = .ok (.iload 5, 2) := by decide +kernel
theorem dX10_runsRound_25 : decode cX10_runsRound 25 = .ok (.iaload, 1) := by decide +kernel
theorem dX10_runsRound_26 : decode cX10_runsRound 26 = .ok (.ishr, 1) := by decide +kernel
theorem dX10_runsRound_27 : decode cX10_runsRound 27 = .ok (.iconst 1, 1) := by decide +kernel
theorem dX10_runsRound_28 : decode cX10_runsRound 28 = .ok (.iand, 1) := by decide +kernel
theorem dX10_runsRound_29 : decode cX10_runsRound 29 = .ok (.iconst 1, 1) := by decide +kernel
theorem dX10_runsRound_30 : decode cX10_runsRound 30 = .ok (.if_icmp .ne 7, 3) := by decide +kernel
theorem dX10_runsRound_33 : decode cX10_runsRound 33 = .ok (.iconst 1, 1) := by decide +kernel
theorem dX10_runsRound_34 : decode cX10_runsRound 34 = .ok (.goto 4, 3) := by decide +kernel
theorem dX10_runsRound_37 : decode cX10_runsRound 37 = .ok (.iconst 0, 1) := by decide +kernel
theorem dX10_runsRound_38 : decode cX10_runsRound 38 = .ok (.istore 4, 2) := by decide +kernel
theorem dX10_runsRound_40 : decode cX10_runsRound 40 = .ok (.iload_n 3, 1) := by decide +kernel
theorem dX10_runsRound_41 : decode cX10_runsRound 41 = .ok (.iconst 1, 1) := by decide +kernel
theorem dX10_runsRound_42 : decode cX10_runsRound 42 = .ok (.aload_n 0, 1) := by decide +kernel
theorem dX10_runsRound_43 : decode cX10_runsRound 43 = .ok (.iload 5, 2) := by decide +kernel
theorem dX10_runsRound_45 : decode cX10_runsRound 45 = .ok (.iaload, 1) := by decide +kernel
theorem dX10_runsRound_46 : decode cX10_runsRound 46 = .ok (.ishl, 1) := by decide +kernel
theorem dX10_runsRound_47 : decode cX10_runsRound 47 = .ok (.ior, 1) := by decide +kernel
theorem dX10_runsRound_48 : decode cX10_runsRound 48 = .ok (.istore_n 3, 1) := by decide +kernel
theorem dX10_runsRound_49 : decode cX10_runsRound 49 = .ok (.iinc 5 1, 3) := by decide +kernel
theorem dX10_runsRound_52 : decode cX10_runsRound 52 = .ok (.goto (-44), 3) := by decide +kernel
theorem dX10_runsRound_55 : decode cX10_runsRound 55 = .ok (.iload 4, 2) := by decide +kernel
theorem dX10_runsRound_57 : decode cX10_runsRound 57 = .ok (.ireturn, 1) := by decide +kernel
theorem dX10_counts_0 : decode cX10_counts 0 = .ok (.iconst 1, 1) := by decide +kernel
theorem dX10_counts_1 : decode cX10_counts 1 = .ok (.istore 6, 2) := by decide +kernel
theorem dX10_counts_3 : decode cX10_counts 3 = .ok (.iconst 1, 1) := by decide +kernel
theorem dX10_counts_4 : decode cX10_counts 4 = .ok (.istore 7, 2) := by decide +kernel
theorem dX10_counts_6 : decode cX10_counts 6 = .ok (.iload 7, 2) := by decide +kernel
theorem dX10_counts_8 : decode cX10_counts 8 = .ok (.ifCond .eq 113, 3) := by decide +kernel
theorem dX10_counts_11 : decode cX10_counts 11 = .ok (.iload 6, 2) := by decide +kernel
theorem dX10_counts_13 : decode cX10_counts 13 = .ok (.iload_n 3, 1) := by decide +kernel
theorem dX10_counts_14 : decode cX10_counts 14 = .ok (.if_icmp .ge 107, 3) := by decide +kernel
theorem dX10_counts_17 : decode cX10_counts 17 = .ok (.iload 4, 2) := by decide +kernel
theorem dX10_counts_19 : decode cX10_counts 19 = .ok (.ifCond .eq 14, 3) := by decide +kernel
theorem dX10_counts_22 : decode cX10_counts 22 = .ok (.aload_n 1, 1) := by decide +kernel
theorem dX10_counts_23 : decode cX10_counts 23 = .ok (.iload_n 2, 1) := by decide +kernel
theorem dX10_counts_24 : decode cX10_counts 24 = .ok (.iload_n 3, 1) := by decide +kernel
theorem dX10_counts_25 : decode cX10_counts 25 = .ok (.iadd, 1) := by decide +kernel
theorem dX10_counts_26 : decode cX10_counts 26 = .ok (.iload 6, 2) := by decide +kernel
theorem dX10_counts_28 : decode cX10_counts 28 = .ok (.isub, 1) := by decide +kernel
theorem dX10_counts_29 : decode cX10_counts 29 = .ok (.iaload, 1) := by decide +kernel
theorem dX10_counts_30 : decode cX10_counts 30 = .ok (.goto 11, 3) := by decide +kernel
theorem dX10_counts_33 : decode cX10_counts 33 = .ok (.aload_n 1, 1) := by decide +kernel
theorem dX10_counts_34 : decode cX10_counts 34 = .ok (.iload_n 2, 1) := by decide +kernel
theorem dX10_counts_35 : decode cX10_counts 35 = .ok (.iload 6, 2) := by decide +kernel
theorem dX10_counts_37 : decode cX10_counts 37 = .ok (.iadd, 1) := by decide +kernel
theorem dX10_counts_38 : decode cX10_counts 38 = .ok (.iconst 1, 1) := by decide +kernel
theorem dX10_counts_39 : decode cX10_counts 39 = .ok (.isub, 1) := by decide +kernel
theorem dX10_counts_40 : decode cX10_counts 40 = .ok (.iaload, 1) := by decide +kernel
theorem dX10_counts_41 : decode cX10_counts 41 = .ok (.istore 8, 2) := by decide +kernel
theorem dX10_counts_43 : decode cX10_counts 43 = .ok (.iload 4, 2) := by decide +kernel
theorem dX10_counts_45 : decode cX10_counts 45 = .ok (.ifCond .eq 16, 3) := by decide +kernel
theorem dX10_counts_48 : decode cX10_counts 48 = .ok (.aload_n 1, 1) := by decide +kernel
theorem dX10_counts_49 : decode cX10_counts 49 = .ok (.iload_n 2, 1) := by decide +kernel
theorem dX10_counts_50 : decode cX10_counts 50 = .ok (.iload_n 3, 1) := by decide +kernel
theorem dX10_counts_51 : decode cX10_counts 51 = .ok (.iadd, 1) := by decide +kernel
theorem dX10_counts_52 : decode cX10_counts 52 = .ok (.iload 6, 2) := by decide +kernel
theorem dX10_counts_54 : decode cX10_counts 54 = .ok (.isub, 1) := by decide +kernel
theorem dX10_counts_55 : decode cX10_counts 55 = .ok (.iconst 1, 1) := by decide +kernel
theorem dX10_counts_56 : decode cX10_counts 56 = .ok (.isub, 1) := by decide +kernel
theorem dX10_counts_57 : decode cX10_counts 57 = .ok (.iaload, 1) := by decide +kernel
theorem dX10_counts_58 : decode cX10_counts 58 = .ok (.goto 9, 3) := by decide +kernel
theorem dX10_counts_61 : decode cX10_counts 61 = .ok (.aload_n 1, 1) := by decide +kernel
theorem dX10_counts_62 : decode cX10_counts 62 = .ok (.iload_n 2, 1) := by decide +kernel
theorem dX10_counts_63 : decode cX10_counts 63 = .ok (.iload 6, 2) := by decide +kernel
theorem dX10_counts_65 : decode cX10_counts 65 = .ok (.iadd, 1) := by decide +kernel
theorem dX10_counts_66 : decode cX10_counts 66 = .ok (.iaload, 1) := by decide +kernel
theorem dX10_counts_67 : decode cX10_counts 67 = .ok (.istore 9, 2) := by decide +kernel
theorem dX10_counts_69 : decode cX10_counts 69 = .ok (.iload 5, 2) := by decide +kernel
theorem dX10_counts_71 : decode cX10_counts 71 = .ok (.ifCond .eq 14, 3) := by decide +kernel
theorem dX10_counts_74 : decode cX10_counts 74 = .ok (.aload_n 0, 1) := by decide +kernel
theorem dX10_counts_75 : decode cX10_counts 75 = .ok (.iload 8, 2) := by decide +kernel
theorem dX10_counts_77 : decode cX10_counts 77 = .ok (.iload 9, 2) := by decide +kernel
theorem dX10_counts_79 : decode cX10_counts 79 = .ok (.invokevirtual 186, 3) := by decide +kernel
theorem dX10_counts_82 : decode cX10_counts 82 = .ok (.goto 19, 3) := by decide +kernel
theorem dX10_counts_85 : decode cX10_counts 85 = .ok (.aload_n 0, 1) := by decide +kernel
theorem dX10_counts_86 : decode cX10_counts 86 = .ok (.iload 8, 2) := by decide +kernel
theorem dX10_counts_88 : decode cX10_counts 88 = .ok (.iload 9, 2) := by decide +kernel
theorem dX10_counts_90 : decode cX10_counts 90 = .ok (.invokevirtual 189, 3) := by decide +kernel
theorem dX10_counts_93 : decode cX10_counts 93 = .ok (.ifCond .ne 7, 3) := by decide +kernel
theorem dX10_counts_96 : decode cX10_counts 96 = .ok (.iconst 1, 1) := by decide +kernel
theorem dX10_counts_97 : decode cX10_counts 97 = .ok (.goto 4, 3) := by decide +kernel
theorem dX10_counts_100 : decode cX10_counts 100 = .ok (.iconst 0, 1) := by decide +kernel
theorem dX10_counts_101 : decode cX10_counts 101 = .ok (.istore 7, 2) := by decide +kernel
theorem dX10_counts_103 : decode cX10_counts 103 = .ok (.iload 6, 2) := by decide +kernel
theorem dX10_counts_105 : decode cX10_counts 105 = .ok (.iload 7, 2) := by decide +kernel
theorem dX10_counts_107 : decode cX10_counts 107 = .ok (.ifCond .eq 7, 3) := by decide +kernel
theorem dX10_counts_110 : decode cX10_counts 110 = .ok (.iconst 1, 1) := by decide +kernel
theorem dX10_counts_111 : decode cX10_counts 111 = .ok (.goto 4, 3) := by decide +kernel
theorem dX10_counts_114 : decode cX10_counts 114 = .ok (.iconst 0, 1) := by decide +kernel
theorem dX10_counts_115 : decode cX10_counts 115 = .ok (.iadd, 1) := by decide +kernel
theorem dX10_counts_116 : decode cX10_counts 116 = .ok (.istore 6, 2) := by decide +kernel
theorem dX10_counts_118 : decode cX10_counts 118 = .ok (.goto (-112), 3) := by decide +kernel
theorem dX10_counts_121 : decode cX10_counts 121 = .ok (.iload 6, 2) := by decide +kernel
theorem dX10_counts_123 : decode cX10_counts 123 = .ok (.ireturn, 1) := by decide +kernel
theorem dX10_judge_0 : decode cX10_judge 0 = .ok (.aload_n 1, 1) := by decide +kernel
theorem dX10_judge_1 : decode cX10_judge 1 = .ok (.iload_n 2, 1) := by decide +kernel
theorem dX10_judge_2 : decode cX10_judge 2 = .ok (.iload_n 3, 1) := by decide +kernel
theorem dX10_judge_3 : decode cX10_judge 3 = .ok (.invokestatic 192, 3) := by decide +kernel
theorem dX10_judge_6 : decode cX10_judge 6 = .ok (.ifCond .eq 5, 3) := by decide +kernel
theorem dX10_judge_9 : decode cX10_judge 9 = .ok (.iconst 2, 1) := by decide +kernel
theorem dX10_judge_10 : decode cX10_judge 10 = .ok (.ireturn, 1) := by decide +kernel
theorem dX10_judge_11 : decode cX10_judge 11 = .ok (.aload_n 0, 1) := by decide +kernel
theorem dX10_judge_12 : decode cX10_judge 12 = .ok (.aload_n 1, 1) := by decide +kernel
theorem dX10_judge_13 : decode cX10_judge 13 = .ok (.iload_n 2, 1) := by decide +kernel
theorem dX10_judge_14 : decode cX10_judge 14 = .ok (.iload_n 3, 1) := by decide +kernel
theorem dX10_judge_15 : decode cX10_judge 15 = .ok (.iconst 0, 1) := by decide +kernel
theorem dX10_judge_16 : decode cX10_judge 16 = .ok (.iconst 0, 1) := by decide +kernel
theorem dX10_judge_17 : decode cX10_judge 17 = .ok (.invokevirtual 196, 3) := by decide +kernel
theorem dX10_judge_20 : decode cX10_judge 20 = .ok (.iload 4, 2) := by decide +kernel
theorem dX10_judge_22 : decode cX10_judge 22 = .ok (.ifCond .eq 7, 3) := by decide +kernel
theorem dX10_judge_25 : decode cX10_judge 25 = .ok (.iconst 0, 1) := by decide +kernel
theorem dX10_judge_26 : decode cX10_judge 26 = .ok (.goto 12, 3) := by decide +kernel
theorem dX10_judge_29 : decode cX10_judge 29 = .ok (.aload_n 0, 1) := by decide +kernel
theorem dX10_judge_30 : decode cX10_judge 30 = .ok (.aload_n 1, 1) := by decide +kernel
theorem dX10_judge_31 : decode cX10_judge 31 = .ok (.iload_n 2, 1) := by decide +kernel
theorem dX10_judge_32 : decode cX10_judge 32 = .ok (.iload_n 3, 1) := by decide +kernel
theorem dX10_judge_33 : decode cX10_judge 33 = .ok (.iconst 1, 1) := by decide +kernel
theorem dX10_judge_34 : decode cX10_judge 34 = .ok (.iconst 0, 1) := by decide +kernel
theorem dX10_judge_35 : decode cX10_judge 35 = .ok (.invokevirtual 196, 3) := by decide +kernel
theorem dX10_judge_38 : decode cX10_judge 38 = .ok (.iadd, 1) := by decide +kernel
theorem dX10_judge_39 : decode cX10_judge 39 = .ok (.istore 5, 2) := by decide +kernel
theorem dX10_judge_41 : decode cX10_judge 41 = .ok (.aload_n 0, 1) := by decide +kernel
theorem dX10_judge_42 : decode cX10_judge 42 = .ok (.aload_n 1, 1) := by decide +kernel
theorem dX10_judge_43 : decode cX10_judge 43 = .ok (.iload_n 2, 1) := by decide +kernel
theorem dX10_judge_44 : decode cX10_judge 44 = .ok (.iload_n 3, 1) := by decide +kernel
theorem dX10_judge_45 : decode cX10_judge 45 = .ok (.iconst 0, 1) := by decide +kernel
theorem dX10_judge_46 : decode cX10_judge 46 = .ok (.iconst 1, 1) := by decide +kernel
theorem dX10_judge_47 : decode cX10_judge 47 = .ok (.invokevirtual 196, 3) := by decide +kernel
theorem dX10_judge_50 : decode cX10_judge 50 = .ok (.iload 4, 2) := by decide +kernel
theorem dX10_judge_52 : decode cX10_judge 52 = .ok (.ifCond .eq 7, 3) := by decide +kernel
theorem dX10_judge_55 : decode cX10_judge 55 = .ok (.iconst 0, 1) := by decide +kernel
theorem dX10_judge_56 : decode cX10_judge 56 = .ok (.goto 12, 3) := by decide +kernel
theorem dX10_judge_59 : decode cX10_judge 59 = .ok (.aload_n 0, 1) := by decide +kernel
theorem dX10_judge_60 : decode cX10_judge 60 = .ok (.aload_n 1, 1) := by decide +kernel
theorem dX10_judge_61 : decode cX10_judge 61 = .ok (.iload_n 2, 1) := by decide +kernel
theorem dX10_judge_62 : decode cX10_judge 62 = .ok (.iload_n 3, 1) := by decide +kernel
theorem dX10_judge_63 : decode cX10_judge 63 = .ok (.iconst 1, 1) := by decide +kernel
theorem dX10_judge_64 : decode cX10_judge 64 = .ok (.iconst 1, 1) := by decide +kernel
theorem dX10_judge_65 : decode cX10_judge 65 = .ok (.invokevirtual 196, 3) := by decide +kernel
theorem dX10_judge_68 : decode cX10_judge 68 = .ok (.iadd, 1) := by decide +kernel
theorem dX10_judge_69 : decode cX10_judge 69 = .ok (.istore 6, 2) := by decide +kernel
theorem dX10_judge_71 : decode cX10_judge 71 = .ok (.iload 5, 2) := by decide +kernel
theorem dX10_judge_73 : decode cX10_judge 73 = .ok (.iload_n 3, 1) := by decide +kernel
theorem dX10_judge_74 : decode cX10_judge 74 = .ok (.if_icmp .ge 7, 3) := by decide +kernel
theorem dX10_judge_77 : decode cX10_judge 77 = .ok (.iconst 2, 1) := by decide +kernel
theorem dX10_judge_78 : decode cX10_judge 78 = .ok (.goto 14, 3) := by decide +kernel
theorem dX10_judge_81 : decode cX10_judge 81 = .ok (.iload 6, 2) := by decide +kernel
theorem dX10_judge_83 : decode cX10_judge 83 = .ok (.iload_n 3, 1) := by decide +kernel
theorem dX10_judge_84 : decode cX10_judge 84 = .ok (.if_icmp .lt 7, 3) := by decide +kernel
theorem dX10_judge_87 : decode cX10_judge 87 = .ok (.iconst 1, 1) := by decide +kernel
theorem dX10_judge_88 : decode cX10_judge 88 = .ok (.goto 4, 3) := by decide +kernel
theorem dX10_judge_91 : decode cX10_judge 91 = .ok (.iconst 0, 1) := by decide +kernel
theorem dX10_judge_92 : decode cX10_judge 92 = .ok (.ireturn, 1) := by decide +kernel
theorem dX10_isRoute_0 : decode cX10_isRoute 0 = .ok (.iload_n 1, 1) := by decide +kernel
theorem dX10_isRoute_1 : decode cX10_isRoute 1 = .ok (.iconst 0, 1) := by decide +kernel
theorem dX10_isRoute_2 : decode cX10_isRoute 2 = .ok (.aload_n 0, 1) := by decide +kernel
theorem dX10_isRoute_3 : decode cX10_isRoute 3 = .ok (.getfield 154, 3) := by decide +kernel
theorem dX10_isRoute_6 : decode cX10_isRoute 6 = .ok (.iconst 1, 1) := by decide +kernel
theorem dX10_isRoute_7 : decode cX10_isRoute 7 = .ok (.isub, 1) := by decide +kernel
theorem dX10_isRoute_8 : decode cX10_isRoute 8 = .ok (.invokestatic 108, 3) := by decide +kernel
theorem dX10_isRoute_11 : decode cX10_isRoute 11 = .ok (.ifCond .eq 16, 3) := by decide +kernel
theorem dX10_isRoute_14 : decode cX10_isRoute 14 = .ok (.aload_n 0, 1) := by decide +kernel
theorem dX10_isRoute_15 : decode cX10_isRoute 15 = .ok (.getfield 72, 3) := by decide +kernel
theorem dX10_isRoute_18 : decode cX10_isRoute 18 = .ok (.iload_n 1, 1) := by decide +kernel
theorem dX10_isRoute_19 : decode cX10_isRoute 19 = .ok (.baload, 1) := by decide +kernel
theorem dX10_isRoute_20 : decode cX10_isRoute 20 = .ok (.ifCond .eq 7, 3) := by decide +kernel
theorem dX10_isRoute_23 : decode cX10_isRoute 23 = .ok (.iconst 1, 1) := by decide +kernel
theorem dX10_isRoute_24 : decode cX10_isRoute 24 = .ok (.goto 4, 3) := by decide +kernel
theorem dX10_isRoute_27 : decode cX10_isRoute 27 = .ok (.iconst 0, 1) := by decide +kernel
theorem dX10_isRoute_28 : decode cX10_isRoute 28 = .ok (.ireturn, 1) := by decide +kernel
theorem dX10_routes_0 : decode cX10_routes 0 = .ok (.aload_n 0, 1) := by decide +kernel
theorem dX10_routes_1 : decode cX10_routes 1 = .ok (.iconst 0, 1) := by decide +kernel
theorem dX10_routes_2 : decode cX10_routes 2 = .ok (.putfield 105, 3) := by decide +kernel
theorem dX10_routes_5 : decode cX10_routes 5 = .ok (.aload_n 0, 1) := by decide +kernel
theorem dX10_routes_6 : decode cX10_routes 6 = .ok (.getfield 154, 3) := by decide +kernel
theorem dX10_routes_9 : decode cX10_routes 9 = .ok (.ireturn, 1) := by decide +kernel
theorem dX10_path_0 : decode cX10_path 0 = .ok (.aload_n 0, 1) := by decide +kernel
theorem dX10_path_1 : decode cX10_path 1 = .ok (.aload_n 0, 1) := by decide +kernel
theorem dX10_path_2 : decode cX10_path 2 = .ok (.iload_n 1, 1) := by decide +kernel
theorem dX10_path_3 : decode cX10_path 3 = .ok (.invokevirtual 200, 3) := by decide +kernel
theorem dX10_path_6 : decode cX10_path 6 = .ok (.ifCond .eq 7, 3) := by decide +kernel
theorem dX10_path_9 : decode cX10_path 9 = .ok (.iconst 0, 1) := by decide +kernel
theorem dX10_path_10 : decode cX10_path 10 = .ok (.goto 4, 3) := by decide +kernel
theorem dX10_path_13 : decode cX10_path 13 = .ok (.iconst 1, 1) := by decide +kernel
theorem dX10_path_14 : decode cX10_path 14 = .ok (.invokevirtual 119, 3) := by decide +kernel
theorem dX10_path_17 : decode cX10_path 17 = .ok (.ifCond .ne 5, 3) := by decide +kernel
theorem dX10_path_20 : decode cX10_path 20 = .ok (.iconst 0, 1) := by decide +kernel
theorem dX10_path_21 : decode cX10_path 21 = .ok (.ireturn, 1) := by decide +kernel
theorem dX10_path_22 : decode cX10_path 22 = .ok (.aload_n 0, 1) := by decide +kernel
theorem dX10_path_23 : decode cX10_path 23 = .ok (.invokevirtual 203, 3) := by decide +kernel
theorem dX10_path_26 : decode cX10_path 26 = .ok (.aload_n 0, 1) := by decide +kernel
theorem dX10_path_27 : decode cX10_path 27 = .ok (.aload_n 0, 1) := by decide +kernel
theorem dX10_path_28 : decode cX10_path 28 = .ok (.getfield 60, 3) := by decide +kernel
theorem dX10_path_31 : decode cX10_path 31 = .ok (.bipush 6, 2) := by decide +kernel
theorem dX10_path_33 : decode cX10_path 33 = .ok (.iload_n 1, 1) := by decide +kernel
theorem dX10_path_34 : decode cX10_path 34 = .ok (.imul, 1) := by decide +kernel
theorem dX10_path_35 : decode cX10_path 35 = .ok (.aload_n 0, 1) := by decide +kernel
theorem dX10_path_36 : decode cX10_path 36 = .ok (.getfield 63, 3) := by decide +kernel
theorem dX10_path_39 : decode cX10_path 39 = .ok (.iload_n 1, 1) := by decide +kernel
theorem dX10_path_40 : decode cX10_path 40 = .ok (.iaload, 1) := by decide +kernel
theorem dX10_path_41 : decode cX10_path 41 = .ok (.iload_n 2, 1) := by decide +kernel
theorem dX10_path_42 : decode cX10_path 42 = .ok (.invokevirtual 206, 3) := by decide +kernel
theorem dX10_path_45 : decode cX10_path 45 = .ok (.ireturn, 1) := by decide +kernel
theorem dX10_leak_0 : decode cX10_leak 0 = .ok (.aload_n 0, 1) := by decide +kernel
theorem dX10_leak_1 : decode cX10_leak 1 = .ok (.aload_n 0, 1) := by decide +kernel
theorem dX10_leak_2 : decode cX10_leak 2 = .ok (.iload_n 1, 1) := by decide +kernel
theorem dX10_leak_3 : decode cX10_leak 3 = .ok (.invokevirtual 200, 3) := by decide +kernel
theorem dX10_leak_6 : decode cX10_leak 6 = .ok (.ifCond .eq 7, 3) := by decide +kernel
theorem dX10_leak_9 : decode cX10_leak 9 = .ok (.iconst 0, 1) := by decide +kernel
theorem dX10_leak_10 : decode cX10_leak 10 = .ok (.goto 4, 3) := by decide +kernel
theorem dX10_leak_13 : decode cX10_leak 13 = .ok (.iconst 1, 1) := by decide +kernel
theorem dX10_leak_14 : decode cX10_leak 14 = .ok (.invokevirtual 119, 3) := by decide +kernel
theorem dX10_leak_17 : decode cX10_leak 17 = .ok (.ifCond .ne 5, 3) := by decide +kernel
theorem dX10_leak_20 : decode cX10_leak 20 = .ok (.iconst 0, 1) := by decide +kernel
theorem dX10_leak_21 : decode cX10_leak 21 = .ok (.ireturn, 1) := by decide +kernel
theorem dX10_leak_22 : decode cX10_leak 22 = .ok (.iconst 1, 1) := by decide +kernel
theorem dX10_leak_23 : decode cX10_leak 23 = .ok (.istore_n 2, 1) := by decide +kernel
theorem dX10_leak_24 : decode cX10_leak 24 = .ok (.iload_n 2, 1) := by decide +kernel
theorem dX10_leak_25 : decode cX10_leak 25 = .ok (.iconst 1, 1) := by decide +kernel
theorem dX10_leak_26 : decode cX10_leak 26 = .ok (.iadd, 1) := by decide +kernel
theorem dX10_leak_27 : decode cX10_leak 27 = .ok (.aload_n 0, 1) := by decide +kernel
theorem dX10_leak_28 : decode cX10_leak 28 = .ok (.getfield 63, 3) := by decide +kernel
theorem dX10_leak_31 : decode cX10_leak 31 = .ok (.iload_n 1, 1) := by decide +kernel
theorem dX10_leak_32 : decode cX10_leak 32 = .ok (.iaload, 1) := by decide +kernel
theorem dX10_leak_33 : decode cX10_leak 33 = .ok (.if_icmp .ge 95, 3) := by decide +kernel
theorem dX10_leak_36 : decode cX10_leak 36 = .ok (.aload_n 0, 1) := by decide +kernel
theorem dX10_leak_37 : decode cX10_leak 37 = .ok (.getfield 60, 3) := by decide +kernel
theorem dX10_leak_40 : decode cX10_leak 40 = .ok (.bipush 6, 2) := by decide +kernel
theorem dX10_leak_42 : decode cX10_leak 42 = .ok (.iload_n 1, 1) := by decide +kernel
theorem dX10_leak_43 : decode cX10_leak 43 = .ok (.imul, 1) := by decide +kernel
theorem dX10_leak_44 : decode cX10_leak 44 = .ok (.iload_n 2, 1) := by decide +kernel
theorem dX10_leak_45 : decode cX10_leak 45 = .ok (.iadd, 1) := by decide +kernel
theorem dX10_leak_46 : decode cX10_leak 46 = .ok (.iaload, 1) := by decide +kernel
theorem dX10_leak_47 : decode cX10_leak 47 = .ok (.istore_n 3, 1) := by decide +kernel
theorem dX10_leak_48 : decode cX10_leak 48 = .ok (.aload_n 0, 1) := by decide +kernel
theorem dX10_leak_49 : decode cX10_leak 49 = .ok (.getfield 75, 3) := by decide +kernel
theorem dX10_leak_52 : decode cX10_leak 52 = .ok (.bipush 10, 2) := by decide +kernel
theorem dX10_leak_54 : decode cX10_leak 54 = .ok (.aload_n 0, 1) := by decide +kernel
theorem dX10_leak_55 : decode cX10_leak 55 = .ok (.getfield 60, 3) := by decide +kernel
theorem dX10_leak_58 : decode cX10_leak 58 = .ok (.bipush 6, 2) := by decide +kernel
theorem dX10_leak_60 : decode cX10_leak 60 = .ok (.iload_n 1, 1) := by decide +kernel
theorem dX10_leak_61 : decode cX10_leak 61 = .ok (.imul, 1) := by decide +kernel
theorem dX10_leak_62 : decode cX10_leak 62 = .ok (.iload_n 2, 1) := by decide +kernel
theorem dX10_leak_63 : decode cX10_leak 63 = .ok (.iadd, 1) := by decide +kernel
theorem dX10_leak_64 : decode cX10_leak 64 = .ok (.iconst 1, 1) := by decide +kernel
theorem dX10_leak_65 : decode cX10_leak 65 = .ok (.isub, 1) := by decide +kernel
theorem dX10_leak_66 : decode cX10_leak 66 = .ok (.iaload, 1) := by decide +kernel
theorem dX10_leak_67 : decode cX10_leak 67 = .ok (.imul, 1) := by decide +kernel
theorem dX10_leak_68 : decode cX10_leak 68 = .ok (.iload_n 3, 1) := by decide +kernel
theorem dX10_leak_69 : decode cX10_leak 69 = .ok (.iadd, 1) := by decide +kernel
theorem dX10_leak_70 : decode cX10_leak 70 = .ok (.iaload, 1) := by decide +kernel
theorem dX10_leak_71 : decode cX10_leak 71 = .ok (.istore 4, 2) := by decide +kernel
theorem dX10_leak_73 : decode cX10_leak 73 = .ok (.aload_n 0, 1) := by decide +kernel
theorem dX10_leak_74 : decode cX10_leak 74 = .ok (.getfield 75, 3) := by decide +kernel
theorem dX10_leak_77 : decode cX10_leak 77 = .ok (.bipush 10, 2) := by decide +kernel
theorem dX10_leak_79 : decode cX10_leak 79 = .ok (.aload_n 0, 1) := by decide +kernel
theorem dX10_leak_80 : decode cX10_leak 80 = .ok (.getfield 60, 3) := by decide +kernel
theorem dX10_leak_83 : decode cX10_leak 83 = .ok (.bipush 6, 2) := by decide +kernel
theorem dX10_leak_85 : decode cX10_leak 85 = .ok (.iload_n 1, 1) := by decide +kernel
theorem dX10_leak_86 : decode cX10_leak 86 = .ok (.imul, 1) := by decide +kernel
theorem dX10_leak_87 : decode cX10_leak 87 = .ok (.iload_n 2, 1) := by decide +kernel
theorem dX10_leak_88 : decode cX10_leak 88 = .ok (.iadd, 1) := by decide +kernel
theorem dX10_leak_89 : decode cX10_leak 89 = .ok (.iconst 1, 1) := by decide +kernel
theorem dX10_leak_90 : decode cX10_leak 90 = .ok (.iadd, 1) := by decide +kernel
theorem dX10_leak_91 : decode cX10_leak 91 = .ok (.iaload, 1) := by decide +kernel
theorem dX10_leak_92 : decode cX10_leak 92 = .ok (.imul, 1) := by decide +kernel
theorem dX10_leak_93 : decode cX10_leak 93 = .ok (.iload_n 3, 1) := by decide +kernel
theorem dX10_leak_94 : decode cX10_leak 94 = .ok (.iadd, 1) := by decide +kernel
theorem dX10_leak_95 : decode cX10_leak 95 = .ok (.iaload, 1) := by decide +kernel
theorem dX10_leak_96 : decode cX10_leak 96 = .ok (.istore 5, 2) := by decide +kernel
theorem dX10_leak_98 : decode cX10_leak 98 = .ok (.iload 4, 2) := by decide +kernel
theorem dX10_leak_100 : decode cX10_leak 100 = .ok (.ifCond .eq 22, 3) := by decide +kernel
theorem dX10_leak_103 : decode cX10_leak 103 = .ok (.iload 5, 2) := by decide +kernel
theorem dX10_leak_105 : decode cX10_leak 105 = .ok (.ifCond .eq 17, 3) := by decide +kernel
theorem dX10_leak_108 : decode cX10_leak 108 = .ok (.iload 4, 2) := by decide +kernel
theorem dX10_leak_110 : decode cX10_leak 110 = .ok (.iconst 1, 1) := by decide +kernel
theorem dX10_leak_111 : decode cX10_leak 111 = .ok (.if_icmp .eq 11, 3) := by decide +kernel
theorem dX10_leak_114 : decode cX10_leak 114 = .ok (.iload 5, 2) := by decide +kernel
theorem dX10_leak_116 : decode cX10_leak 116 = .ok (.iconst 1, 1) := by decide +kernel
theorem dX10_leak_117 : decode cX10_leak 117 = .ok (.if_icmp .eq 5, 3) := by decide +kernel
theorem dX10_leak_120 : decode cX10_leak 120 = .ok (.iload_n 3, 1) := by decide +kernel
theorem dX10_leak_121 : decode cX10_leak 121 = .ok (.ireturn, 1) := by decide +kernel
theorem dX10_leak_122 : decode cX10_leak 122 = .ok (.iinc 2 1, 3) := by decide +kernel
theorem dX10_leak_125 : decode cX10_leak 125 = .ok (.goto (-101), 3) := by decide +kernel
theorem dX10_leak_128 : decode cX10_leak 128 = .ok (.iconst (-1), 1) := by decide +kernel
theorem dX10_leak_129 : decode cX10_leak 129 = .ok (.ireturn, 1) := by decide +kernel
theorem dX10_refuses_0 : decode cX10_refuses 0 = .ok (.aload_n 0, 1) := by decide +kernel
theorem dX10_refuses_1 : decode cX10_refuses 1 = .ok (.getfield 75, 3) := by decide +kernel
theorem dX10_refuses_4 : decode cX10_refuses 4 = .ok (.bipush 10, 2) := by decide +kernel
theorem dX10_refuses_6 : decode cX10_refuses 6 = .ok (.aload_n 1, 1) := by decide +kernel
theorem dX10_refuses_7 : decode cX10_refuses 7 = .ok (.iload_n 2, 1) := by decide +kernel
theorem dX10_refuses_8 : decode cX10_refuses 8 = .ok (.iload_n 3, 1) := by decide +kernel
theorem dX10_refuses_9 : decode cX10_refuses 9 = .ok (.iadd, 1) := by decide +kernel
theorem dX10_refuses_10 : decode cX10_refuses 10 = .ok (.iconst 1, 1) := by decide +kernel
theorem dX10_refuses_11 : decode cX10_refuses 11 = .ok (.isub, 1) := by decide +kernel
theorem dX10_refuses_12 : decode cX10_refuses 12 = .ok (.iaload, 1) := by decide +kernel
theorem dX10_refuses_13 : decode cX10_refuses 13 = .ok (.imul, 1) := by decide +kernel
theorem dX10_refuses_14 : decode cX10_refuses 14 = .ok (.iload 4, 2) := by decide +kernel
theorem dX10_refuses_16 : decode cX10_refuses 16 = .ok (.iadd, 1) := by decide +kernel
theorem dX10_refuses_17 : decode cX10_refuses 17 = .ok (.iaload, 1) := by decide +kernel
theorem dX10_refuses_18 : decode cX10_refuses 18 = .ok (.iconst 2, 1) := by decide +kernel
theorem dX10_refuses_19 : decode cX10_refuses 19 = .ok (.if_icmp .ne 7, 3) := by decide +kernel
theorem dX10_refuses_22 : decode cX10_refuses 22 = .ok (.iconst 1, 1) := by decide +kernel
theorem dX10_refuses_23 : decode cX10_refuses 23 = .ok (.goto 4, 3) := by decide +kernel
theorem dX10_refuses_26 : decode cX10_refuses 26 = .ok (.iconst 0, 1) := by decide +kernel
theorem dX10_refuses_27 : decode cX10_refuses 27 = .ok (.istore 5, 2) := by decide +kernel
theorem dX10_refuses_29 : decode cX10_refuses 29 = .ok (.aload_n 0, 1) := by decide +kernel
theorem dX10_refuses_30 : decode cX10_refuses 30 = .ok (.aload_n 1, 1) := by decide +kernel
theorem dX10_refuses_31 : decode cX10_refuses 31 = .ok (.iload_n 2, 1) := by decide +kernel
theorem dX10_refuses_32 : decode cX10_refuses 32 = .ok (.iload_n 3, 1) := by decide +kernel
theorem dX10_refuses_33 : decode cX10_refuses 33 = .ok (.iload 5, 2) := by decide +kernel
theorem dX10_refuses_35 : decode cX10_refuses 35 = .ok (.ifCond .ne 7, 3) := by decide +kernel
theorem dX10_refuses_38 : decode cX10_refuses 38 = .ok (.iconst 1, 1) := by decide +kernel
theorem dX10_refuses_39 : decode cX10_refuses 39 = .ok (.goto 4, 3) := by decide +kernel
theorem dX10_refuses_42 : decode cX10_refuses 42 = .ok (.iconst 0, 1) := by decide +kernel
theorem dX10_refuses_43 : decode cX10_refuses 43 = .ok (.invokevirtual 206, 3) := by decide +kernel
theorem dX10_refuses_46 : decode cX10_refuses 46 = .ok (.iconst 2, 1) := by decide +kernel
theorem dX10_refuses_47 : decode cX10_refuses 47 = .ok (.if_icmp .ne 7, 3) := by decide +kernel
theorem dX10_refuses_50 : decode cX10_refuses 50 = .ok (.iconst 1, 1) := by decide +kernel
theorem dX10_refuses_51 : decode cX10_refuses 51 = .ok (.goto 4, 3) := by decide +kernel
theorem dX10_refuses_54 : decode cX10_refuses 54 = .ok (.iconst 0, 1) := by decide +kernel
theorem dX10_refuses_55 : decode cX10_refuses 55 = .ok (.ireturn, 1) := by decide +kernel
theorem dX10_stopped_0 : decode cX10_stopped 0 = .ok (.aload_n 0, 1) := by decide +kernel
theorem dX10_stopped_1 : decode cX10_stopped 1 = .ok (.aload_n 0, 1) := by decide +kernel
theorem dX10_stopped_2 : decode cX10_stopped 2 = .ok (.iload_n 1, 1) := by decide +kernel
theorem dX10_stopped_3 : decode cX10_stopped 3 = .ok (.invokevirtual 200, 3) := by decide +kernel
theorem dX10_stopped_6 : decode cX10_stopped 6 = .ok (.ifCond .ne 7, 3) := by decide +kernel
theorem dX10_stopped_9 : decode cX10_stopped 9 = .ok (.iconst 1, 1) := by decide +kernel
theorem dX10_stopped_10 : decode cX10_stopped 10 = .ok (.goto 19, 3) := by decide +kernel
theorem dX10_stopped_13 : decode cX10_stopped 13 = .ok (.iload_n 2, 1) := by decide +kernel
theorem dX10_stopped_14 : decode cX10_stopped 14 = .ok (.iconst 0, 1) := by decide +kernel
theorem dX10_stopped_15 : decode cX10_stopped 15 = .ok (.sipush 1023, 3) := by decide +kernel
theorem dX10_stopped_18 : decode cX10_stopped 18 = .ok (.invokestatic 108, 3) := by decide +kernel
theorem dX10_stopped_21 : decode cX10_stopped 21 = .ok (.ifCond .ne 7, 3) := by decide +kernel
theorem dX10_stopped_24 : decode cX10_stopped 24 = .ok (.iconst 2, 1) := by decide +kernel
theorem dX10_stopped_25 : decode cX10_stopped 25 = .ok (.goto 4, 3) := by decide +kernel
theorem dX10_stopped_28 : decode cX10_stopped 28 = .ok (.iconst 0, 1) := by decide +kernel
theorem dX10_stopped_29 : decode cX10_stopped 29 = .ok (.invokevirtual 119, 3) := by decide +kernel
theorem dX10_stopped_32 : decode cX10_stopped 32 = .ok (.ifCond .ne 5, 3) := by decide +kernel
theorem dX10_stopped_35 : decode cX10_stopped 35 = .ok (.iconst 0, 1) := by decide +kernel
theorem dX10_stopped_36 : decode cX10_stopped 36 = .ok (.ireturn, 1) := by decide +kernel
theorem dX10_stopped_37 : decode cX10_stopped 37 = .ok (.aload_n 0, 1) := by decide +kernel
theorem dX10_stopped_38 : decode cX10_stopped 38 = .ok (.invokevirtual 203, 3) := by decide +kernel
theorem dX10_stopped_41 : decode cX10_stopped 41 = .ok (.bipush 6, 2) := by decide +kernel
theorem dX10_stopped_43 : decode cX10_stopped 43 = .ok (.iload_n 1, 1) := by decide +kernel
theorem dX10_stopped_44 : decode cX10_stopped 44 = .ok (.imul, 1) := by decide +kernel
theorem dX10_stopped_45 : decode cX10_stopped 45 = .ok (.istore_n 3, 1) := by decide +kernel
theorem dX10_stopped_46 : decode cX10_stopped 46 = .ok (.aload_n 0, 1) := by decide +kernel
theorem dX10_stopped_47 : decode cX10_stopped 47 = .ok (.aload_n 0, 1) := by decide +kernel
theorem dX10_stopped_48 : decode cX10_stopped 48 = .ok (.getfield 60, 3) := by decide +kernel
theorem dX10_stopped_51 : decode cX10_stopped 51 = .ok (.iload_n 3, 1) := by decide +kernel
theorem dX10_stopped_52 : decode cX10_stopped 52 = .ok (.iaload, 1) := by decide +kernel
theorem dX10_stopped_53 : decode cX10_stopped 53 = .ok (.aload_n 0, 1) := by decide +kernel
theorem dX10_stopped_54 : decode cX10_stopped 54 = .ok (.getfield 66, 3) := by decide +kernel
theorem dX10_stopped_57 : decode cX10_stopped 57 = .ok (.iload_n 1, 1) := by decide +kernel
theorem dX10_stopped_58 : decode cX10_stopped 58 = .ok (.iaload, 1) := by decide +kernel
theorem dX10_stopped_59 : decode cX10_stopped 59 = .ok (.aload_n 0, 1) := by decide +kernel
theorem dX10_stopped_60 : decode cX10_stopped 60 = .ok (.getfield 69, 3) := by decide +kernel
theorem dX10_stopped_63 : decode cX10_stopped 63 = .ok (.iload_n 1, 1) := by decide +kernel
theorem dX10_stopped_64 : decode cX10_stopped 64 = .ok (.iaload, 1) := by decide +kernel
theorem dX10_stopped_65 : decode cX10_stopped 65 = .ok (.invokevirtual 182, 3) := by decide +kernel
theorem dX10_stopped_68 : decode cX10_stopped 68 = .ok (.iconst 2, 1) := by decide +kernel
theorem dX10_stopped_69 : decode cX10_stopped 69 = .ok (.if_icmp .ne 7, 3) := by decide +kernel
theorem dX10_stopped_72 : decode cX10_stopped 72 = .ok (.iconst 1, 1) := by decide +kernel
theorem dX10_stopped_73 : decode cX10_stopped 73 = .ok (.goto 4, 3) := by decide +kernel
theorem dX10_stopped_76 : decode cX10_stopped 76 = .ok (.iconst 0, 1) := by decide +kernel
theorem dX10_stopped_77 : decode cX10_stopped 77 = .ok (.istore 4, 2) := by decide +kernel
theorem dX10_stopped_79 : decode cX10_stopped 79 = .ok (.iconst 1, 1) := by decide +kernel
theorem dX10_stopped_80 : decode cX10_stopped 80 = .ok (.istore 5, 2) := by decide +kernel
theorem dX10_stopped_82 : decode cX10_stopped 82 = .ok (.iload 5, 2) := by decide +kernel
theorem dX10_stopped_84 : decode cX10_stopped 84 = .ok (.aload_n 0, 1) := by decide +kernel
theorem dX10_stopped_85 : decode cX10_stopped 85 = .ok (.getfield 63, 3) := by decide +kernel
theorem dX10_stopped_88 : decode cX10_stopped 88 = .ok (.iload_n 1, 1) := by decide +kernel
theorem dX10_stopped_89 : decode cX10_stopped 89 = .ok (.iaload, 1) := by decide +kernel
theorem dX10_stopped_90 : decode cX10_stopped 90 = .ok (.if_icmp .ge 54, 3) := by decide +kernel
theorem dX10_stopped_93 : decode cX10_stopped 93 = .ok (.aload_n 0, 1) := by decide +kernel
theorem dX10_stopped_94 : decode cX10_stopped 94 = .ok (.getfield 60, 3) := by decide +kernel
theorem dX10_stopped_97 : decode cX10_stopped 97 = .ok (.iload_n 3, 1) := by decide +kernel
theorem dX10_stopped_98 : decode cX10_stopped 98 = .ok (.iload 5, 2) := by decide +kernel
theorem dX10_stopped_100 : decode cX10_stopped 100 = .ok (.iadd, 1) := by decide +kernel
theorem dX10_stopped_101 : decode cX10_stopped 101 = .ok (.iaload, 1) := by decide +kernel
theorem dX10_stopped_102 : decode cX10_stopped 102 = .ok (.istore 6, 2) := by decide +kernel
theorem dX10_stopped_104 : decode cX10_stopped 104 = .ok (.iload_n 2, 1) := by decide +kernel
theorem dX10_stopped_105 : decode cX10_stopped 105 = .ok (.iload 6, 2) := by decide +kernel
theorem dX10_stopped_107 : decode cX10_stopped 107 = .ok (.ishr, 1) := by decide +kernel
theorem dX10_stopped_108 : decode cX10_stopped 108 = .ok (.iconst 1, 1) := by decide +kernel
theorem dX10_stopped_109 : decode cX10_stopped 109 = .ok (.iand, 1) := by decide +kernel
theorem dX10_stopped_110 : decode cX10_stopped 110 = .ok (.iconst 1, 1) := by decide +kernel
theorem dX10_stopped_111 : decode cX10_stopped 111 = .ok (.if_icmp .ne 27, 3) := by decide +kernel
theorem dX10_stopped_114 : decode cX10_stopped 114 = .ok (.iload 4, 2) := by decide +kernel
theorem dX10_stopped_116 : decode cX10_stopped 116 = .ok (.ifCond .ne 19, 3) := by decide +kernel
theorem dX10_stopped_119 : decode cX10_stopped 119 = .ok (.aload_n 0, 1) := by decide +kernel
theorem dX10_stopped_120 : decode cX10_stopped 120 = .ok (.aload_n 0, 1) := by decide +kernel
theorem dX10_stopped_121 : decode cX10_stopped 121 = .ok (.getfield 60, 3) := by decide +kernel
theorem dX10_stopped_124 : decode cX10_stopped 124 = .ok (.iload_n 3, 1) := by decide +kernel
theorem dX10_stopped_125 : decode cX10_stopped 125 = .ok (.iload 5, 2) := by decide +kernel
theorem dX10_stopped_127 : decode cX10_stopped 127 = .ok (.iload 6, 2) := by decide +kernel
theorem dX10_stopped_129 : decode cX10_stopped 129 = .ok (.invokevirtual 210, 3) := by decide +kernel
theorem dX10_stopped_132 : decode cX10_stopped 132 = .ok (.ifCond .eq 6, 3) := by decide +kernel
theorem dX10_stopped_135 : decode cX10_stopped 135 = .ok (.iload 6, 2) := by decide +kernel
theorem dX10_stopped_137 : decode cX10_stopped 137 = .ok (.ireturn, 1) := by decide +kernel
theorem dX10_stopped_138 : decode cX10_stopped 138 = .ok (.iinc 5 1, 3) := by decide +kernel
theorem dX10_stopped_141 : decode cX10_stopped 141 = .ok (.goto (-59), 3) := by decide +kernel
theorem dX10_stopped_144 : decode cX10_stopped 144 = .ok (.iconst (-1), 1) := by decide +kernel
theorem dX10_stopped_145 : decode cX10_stopped 145 = .ok (.ireturn, 1) := by decide +kernel
theorem dX10_isAllowed_0 : decode cX10_isAllowed 0 = .ok (.iload_n 1, 1) := by decide +kernel
theorem dX10_isAllowed_1 : decode cX10_isAllowed 1 = .ok (.istore_n 3, 1) := by decide +kernel
theorem dX10_isAllowed_2 : decode cX10_isAllowed 2 = .ok (.iconst 0, 1) := by decide +kernel
theorem dX10_isAllowed_3 : decode cX10_isAllowed 3 = .ok (.istore 4, 2) := by decide +kernel
theorem dX10_isAllowed_5 : decode cX10_isAllowed 5 = .ok (.iload 4, 2) := by decide +kernel
theorem dX10_isAllowed_7 : decode cX10_isAllowed 7 = .ok (.iload_n 2, 1) := by decide +kernel
theorem dX10_isAllowed_8 : decode cX10_isAllowed 8 = .ok (.if_icmp .ge 25, 3) := by decide +kernel
theorem dX10_isAllowed_11 : decode cX10_isAllowed 11 = .ok (.aload_n 0, 1) := by decide +kernel
theorem dX10_isAllowed_12 : decode cX10_isAllowed 12 = .ok (.getfield 87, 3) := by decide +kernel
theorem dX10_isAllowed_15 : decode cX10_isAllowed 15 = .ok (.iload 4, 2) := by decide +kernel
theorem dX10_isAllowed_17 : decode cX10_isAllowed 17 = .ok (.iload_n 3, 1) := by decide +kernel
theorem dX10_isAllowed_18 : decode cX10_isAllowed 18 = .ok (.bipush 10, 2) := by decide +kernel
theorem dX10_isAllowed_20 : decode cX10_isAllowed 20 = .ok (.irem, 1) := by decide +kernel
theorem dX10_isAllowed_21 : decode cX10_isAllowed 21 = .ok (.iastore, 1) := by decide +kernel
theorem dX10_isAllowed_22 : decode cX10_isAllowed 22 = .ok (.iload_n 3, 1) := by decide +kernel
theorem dX10_isAllowed_23 : decode cX10_isAllowed 23 = .ok (.bipush 10, 2) := by decide +kernel
theorem dX10_isAllowed_25 : decode cX10_isAllowed 25 = .ok (.idiv, 1) := by decide +kernel
theorem dX10_isAllowed_26 : decode cX10_isAllowed 26 = .ok (.istore_n 3, 1) := by decide +kernel
theorem dX10_isAllowed_27 : decode cX10_isAllowed 27 = .ok (.iinc 4 1, 3) := by decide +kernel
theorem dX10_isAllowed_30 : decode cX10_isAllowed 30 = .ok (.goto (-25), 3) := by decide +kernel
theorem dX10_isAllowed_33 : decode cX10_isAllowed 33 = .ok (.aload_n 0, 1) := by decide +kernel
theorem dX10_isAllowed_34 : decode cX10_isAllowed 34 = .ok (.getfield 87, 3) := by decide +kernel
theorem dX10_isAllowed_37 : decode cX10_isAllowed 37 = .ok (.iconst 0, 1) := by decide +kernel
theorem dX10_isAllowed_38 : decode cX10_isAllowed 38 = .ok (.iload_n 2, 1) := by decide +kernel
theorem dX10_isAllowed_39 : decode cX10_isAllowed 39 = .ok (.invokestatic 192, 3) := by decide +kernel
theorem dX10_isAllowed_42 : decode cX10_isAllowed 42 = .ok (.ifCond .ne 7, 3) := by decide +kernel
theorem dX10_isAllowed_45 : decode cX10_isAllowed 45 = .ok (.iconst 1, 1) := by decide +kernel
theorem dX10_isAllowed_46 : decode cX10_isAllowed 46 = .ok (.goto 4, 3) := by decide +kernel
theorem dX10_isAllowed_49 : decode cX10_isAllowed 49 = .ok (.iconst 0, 1) := by decide +kernel
theorem dX10_isAllowed_50 : decode cX10_isAllowed 50 = .ok (.istore 4, 2) := by decide +kernel
theorem dX10_isAllowed_52 : decode cX10_isAllowed 52 = .ok (.iconst 0, 1) := by decide +kernel
theorem dX10_isAllowed_53 : decode cX10_isAllowed 53 = .ok (.istore 5, 2) := by decide +kernel
theorem dX10_isAllowed_55 : decode cX10_isAllowed 55 = .ok (.iload 5, 2) := by decide +kernel
theorem dX10_isAllowed_57 : decode cX10_isAllowed 57 = .ok (.iconst 1, 1) := by decide +kernel
theorem dX10_isAllowed_58 : decode cX10_isAllowed 58 = .ok (.iadd, 1) := by decide +kernel
theorem dX10_isAllowed_59 : decode cX10_isAllowed 59 = .ok (.iload_n 2, 1) := by decide +kernel
theorem dX10_isAllowed_60 : decode cX10_isAllowed 60 = .ok (.if_icmp .ge 136, 3) := by decide +kernel
theorem dX10_isAllowed_63 : decode cX10_isAllowed 63 = .ok (.iload 4, 2) := by decide +kernel
theorem dX10_isAllowed_65 : decode cX10_isAllowed 65 = .ok (.ifCond .eq 131, 3) := by decide +kernel
theorem dX10_isAllowed_68 : decode cX10_isAllowed 68 = .ok (.aload_n 0, 1) := by decide +kernel
theorem dX10_isAllowed_69 : decode cX10_isAllowed 69 = .ok (.getfield 75, 3) := by decide +kernel
theorem dX10_isAllowed_72 : decode cX10_isAllowed 72 = .ok (.bipush 10, 2) := by decide +kernel
theorem dX10_isAllowed_74 : decode cX10_isAllowed 74 = .ok (.aload_n 0, 1) := by decide +kernel
theorem dX10_isAllowed_75 : decode cX10_isAllowed 75 = .ok (.getfield 87, 3) := by decide +kernel
theorem dX10_isAllowed_78 : decode cX10_isAllowed 78 = .ok (.iload 5, 2) := by decide +kernel
theorem dX10_isAllowed_80 : decode cX10_isAllowed 80 = .ok (.iaload, 1) := by decide +kernel
theorem dX10_isAllowed_81 : decode cX10_isAllowed 81 = .ok (.imul, 1) := by decide +kernel
theorem dX10_isAllowed_82 : decode cX10_isAllowed 82 = .ok (.aload_n 0, 1) := by decide +kernel
theorem dX10_isAllowed_83 : decode cX10_isAllowed 83 = .ok (.getfield 87, 3) := by decide +kernel
theorem dX10_isAllowed_86 : decode cX10_isAllowed 86 = .ok (.iload 5, 2) := by decide +kernel
theorem dX10_isAllowed_88 : decode cX10_isAllowed 88 = .ok (.iconst 1, 1) := by decide +kernel
theorem dX10_isAllowed_89 : decode cX10_isAllowed 89 = .ok (.iadd, 1) := by decide +kernel
theorem dX10_isAllowed_90 : decode cX10_isAllowed 90 = .ok (.iaload, 1) := by decide +kernel
theorem dX10_isAllowed_91 : decode cX10_isAllowed 91 = .ok (.iadd, 1) := by decide +kernel
theorem dX10_isAllowed_92 : decode cX10_isAllowed 92 = .ok (.iaload, 1) := by decide +kernel
theorem dX10_isAllowed_93 : decode cX10_isAllowed 93 = .ok (.ifCond .eq 7, 3) := by decide +kernel
theorem dX10_isAllowed_96 : decode cX10_isAllowed 96 = .ok (.iconst 1, 1) := by decide +kernel
theorem dX10_isAllowed_97 : decode cX10_isAllowed 97 = .ok (.goto 4, 3) := by decide +kernel
theorem dX10_isAllowed_100 : decode cX10_isAllowed 100 = .ok (.iconst 0, 1) := by decide +kernel
theorem dX10_isAllowed_101 : decode cX10_isAllowed 101 = .ok (.istore 4, 2) := by decide +kernel
theorem dX10_isAllowed_103 : decode cX10_isAllowed 103 = .ok (.iload 5, 2) := by decide +kernel
theorem dX10_isAllowed_105 : decode cX10_isAllowed 105 = .ok (.ifCond .eq 61, 3) := by decide +kernel
theorem dX10_isAllowed_108 : decode cX10_isAllowed 108 = .ok (.aload_n 0, 1) := by decide +kernel
theorem dX10_isAllowed_109 : decode cX10_isAllowed 109 = .ok (.getfield 75, 3) := by decide +kernel
theorem dX10_isAllowed_112 : decode cX10_isAllowed 112 = .ok (.bipush 10, 2) := by decide +kernel
theorem dX10_isAllowed_114 : decode cX10_isAllowed 114 = .ok (.aload_n 0, 1) := by decide +kernel
theorem dX10_isAllowed_115 : decode cX10_isAllowed 115 = .ok (.getfield 87, 3) := by decide +kernel
theorem dX10_isAllowed_118 : decode cX10_isAllowed 118 = .ok (.iload 5, 2) := by decide +kernel
theorem dX10_isAllowed_120 : decode cX10_isAllowed 120 = .ok (.iconst 1, 1) := by decide +kernel
theorem dX10_isAllowed_121 : decode cX10_isAllowed 121 = .ok (.isub, 1) := by decide +kernel
theorem dX10_isAllowed_122 : decode cX10_isAllowed 122 = .ok (.iaload, 1) := by decide +kernel
theorem dX10_isAllowed_123 : decode cX10_isAllowed 123 = .ok (.imul, 1) := by decide +kernel
theorem dX10_isAllowed_124 : decode cX10_isAllowed 124 = .ok (.aload_n 0, 1) := by decide +kernel
theorem dX10_isAllowed_125 : decode cX10_isAllowed 125 = .ok (.getfield 87, 3) := by decide +kernel
theorem dX10_isAllowed_128 : decode cX10_isAllowed 128 = .ok (.iload 5, 2) := by decide +kernel
theorem dX10_isAllowed_130 : decode cX10_isAllowed 130 = .ok (.iaload, 1) := by decide +kernel
theorem dX10_isAllowed_131 : decode cX10_isAllowed 131 = .ok (.iadd, 1) := by decide +kernel
theorem dX10_isAllowed_132 : decode cX10_isAllowed 132 = .ok (.iaload, 1) := by decide +kernel
theorem dX10_isAllowed_133 : decode cX10_isAllowed 133 = .ok (.iconst 1, 1) := by decide +kernel
theorem dX10_isAllowed_134 : decode cX10_isAllowed 134 = .ok (.if_icmp .eq 32, 3) := by decide +kernel
theorem dX10_isAllowed_137 : decode cX10_isAllowed 137 = .ok (.aload_n 0, 1) := by decide +kernel
theorem dX10_isAllowed_138 : decode cX10_isAllowed 138 = .ok (.getfield 75, 3) := by decide +kernel
theorem dX10_isAllowed_141 : decode cX10_isAllowed 141 = .ok (.bipush 10, 2) := by decide +kernel
theorem dX10_isAllowed_143 : decode cX10_isAllowed 143 = .ok (.aload_n 0, 1) := by decide +kernel
theorem dX10_isAllowed_144 : decode cX10_isAllowed 144 = .ok (.getfield 87, 3) := by decide +kernel
theorem dX10_isAllowed_147 : decode cX10_isAllowed 147 = .ok (.iload 5, 2) := by decide +kernel
theorem dX10_isAllowed_149 : decode cX10_isAllowed 149 = .ok (.iconst 1, 1) := by decide +kernel
theorem dX10_isAllowed_150 : decode cX10_isAllowed 150 = .ok (.iadd, 1) := by decide +kernel
theorem dX10_isAllowed_151 : decode cX10_isAllowed 151 = .ok (.iaload, 1) := by decide +kernel
theorem dX10_isAllowed_152 : decode cX10_isAllowed 152 = .ok (.imul, 1) := by decide +kernel
theorem dX10_isAllowed_153 : decode cX10_isAllowed 153 = .ok (.aload_n 0, 1) := by decide +kernel
theorem dX10_isAllowed_154 : decode cX10_isAllowed 154 = .ok (.getfield 87, 3) := by decide +kernel
theorem dX10_isAllowed_157 : decode cX10_isAllowed 157 = .ok (.iload 5, 2) := by decide +kernel
theorem dX10_isAllowed_159 : decode cX10_isAllowed 159 = .ok (.iaload, 1) := by decide +kernel
theorem dX10_isAllowed_160 : decode cX10_isAllowed 160 = .ok (.iadd, 1) := by decide +kernel
theorem dX10_isAllowed_161 : decode cX10_isAllowed 161 = .ok (.iaload, 1) := by decide +kernel
theorem dX10_isAllowed_162 : decode cX10_isAllowed 162 = .ok (.iconst 1, 1) := by decide +kernel
theorem dX10_isAllowed_163 : decode cX10_isAllowed 163 = .ok (.if_icmp .ne 7, 3) := by decide +kernel
theorem dX10_isAllowed_166 : decode cX10_isAllowed 166 = .ok (.iconst 1, 1) := by decide +kernel
theorem dX10_isAllowed_167 : decode cX10_isAllowed 167 = .ok (.goto 4, 3) := by decide +kernel
theorem dX10_isAllowed_170 : decode cX10_isAllowed 170 = .ok (.iconst 0, 1) := by decide +kernel
theorem dX10_isAllowed_171 : decode cX10_isAllowed 171 = .ok (.istore 6, 2) := by decide +kernel
theorem dX10_isAllowed_173 : decode cX10_isAllowed 173 = .ok (.iload 4, 2) := by decide +kernel
theorem dX10_isAllowed_175 : decode cX10_isAllowed 175 = .ok (.ifCond .eq 12, 3) := by decide +kernel
theorem dX10_isAllowed_178 : decode cX10_isAllowed 178 = .ok (.iload 6, 2) := by decide +kernel
theorem dX10_isAllowed_180 : decode cX10_isAllowed 180 = .ok (.ifCond .eq 7, 3) := by decide +kernel
theorem dX10_isAllowed_183 : decode cX10_isAllowed 183 = .ok (.iconst 1, 1) := by decide +kernel
theorem dX10_isAllowed_184 : decode cX10_isAllowed 184 = .ok (.goto 4, 3) := by decide +kernel
theorem dX10_isAllowed_187 : decode cX10_isAllowed 187 = .ok (.iconst 0, 1) := by decide +kernel
theorem dX10_isAllowed_188 : decode cX10_isAllowed 188 = .ok (.istore 4, 2) := by decide +kernel
theorem dX10_isAllowed_190 : decode cX10_isAllowed 190 = .ok (.iinc 5 1, 3) := by decide +kernel
theorem dX10_isAllowed_193 : decode cX10_isAllowed 193 = .ok (.goto (-138), 3) := by decide +kernel
theorem dX10_isAllowed_196 : decode cX10_isAllowed 196 = .ok (.iload 4, 2) := by decide +kernel
theorem dX10_isAllowed_198 : decode cX10_isAllowed 198 = .ok (.ireturn, 1) := by decide +kernel
theorem dX10_power_0 : decode cX10_power 0 = .ok (.iconst 1, 1) := by decide +kernel
theorem dX10_power_1 : decode cX10_power 1 = .ok (.istore_n 1, 1) := by decide +kernel
theorem dX10_power_2 : decode cX10_power 2 = .ok (.iconst 0, 1) := by decide +kernel
theorem dX10_power_3 : decode cX10_power 3 = .ok (.istore_n 2, 1) := by decide +kernel
theorem dX10_power_4 : decode cX10_power 4 = .ok (.iload_n 2, 1) := by decide +kernel
theorem dX10_power_5 : decode cX10_power 5 = .ok (.iload_n 0, 1) := by decide +kernel
theorem dX10_power_6 : decode cX10_power 6 = .ok (.if_icmp .ge 14, 3) := by decide +kernel
theorem dX10_power_9 : decode cX10_power 9 = .ok (.iload_n 1, 1) := by decide +kernel
theorem dX10_power_10 : decode cX10_power 10 = .ok (.bipush 10, 2) := by decide +kernel
theorem dX10_power_12 : decode cX10_power 12 = .ok (.imul, 1) := by decide +kernel
theorem dX10_power_13 : decode cX10_power 13 = .ok (.istore_n 1, 1) := by decide +kernel
theorem dX10_power_14 : decode cX10_power 14 = .ok (.iinc 2 1, 3) := by decide +kernel
theorem dX10_power_17 : decode cX10_power 17 = .ok (.goto (-13), 3) := by decide +kernel
theorem dX10_power_20 : decode cX10_power 20 = .ok (.iload_n 1, 1) := by decide +kernel
theorem dX10_power_21 : decode cX10_power 21 = .ok (.ireturn, 1) := by decide +kernel
theorem dX10_allowed_0 : decode cX10_allowed 0 = .ok (.aload_n 0, 1) := by decide +kernel
theorem dX10_allowed_1 : decode cX10_allowed 1 = .ok (.iload_n 1, 1) := by decide +kernel
theorem dX10_allowed_2 : decode cX10_allowed 2 = .ok (.invokestatic 125, 3) := by decide +kernel
theorem dX10_allowed_5 : decode cX10_allowed 5 = .ok (.ifCond .eq 14, 3) := by decide +kernel
theorem dX10_allowed_8 : decode cX10_allowed 8 = .ok (.iload_n 2, 1) := by decide +kernel
theorem dX10_allowed_9 : decode cX10_allowed 9 = .ok (.invokestatic 125, 3) := by decide +kernel
theorem dX10_allowed_12 : decode cX10_allowed 12 = .ok (.ifCond .eq 7, 3) := by decide +kernel
theorem dX10_allowed_15 : decode cX10_allowed 15 = .ok (.iconst 0, 1) := by decide +kernel
theorem dX10_allowed_16 : decode cX10_allowed 16 = .ok (.goto 4, 3) := by decide +kernel
theorem dX10_allowed_19 : decode cX10_allowed 19 = .ok (.iconst 1, 1) := by decide +kernel
theorem dX10_allowed_20 : decode cX10_allowed 20 = .ok (.invokevirtual 119, 3) := by decide +kernel
theorem dX10_allowed_23 : decode cX10_allowed 23 = .ok (.ifCond .ne 5, 3) := by decide +kernel
theorem dX10_allowed_26 : decode cX10_allowed 26 = .ok (.iconst 0, 1) := by decide +kernel
theorem dX10_allowed_27 : decode cX10_allowed 27 = .ok (.ireturn, 1) := by decide +kernel
theorem dX10_allowed_28 : decode cX10_allowed 28 = .ok (.iconst 0, 1) := by decide +kernel
theorem dX10_allowed_29 : decode cX10_allowed 29 = .ok (.istore_n 3, 1) := by decide +kernel
theorem dX10_allowed_30 : decode cX10_allowed 30 = .ok (.iconst 2, 1) := by decide +kernel
theorem dX10_allowed_31 : decode cX10_allowed 31 = .ok (.istore 4, 2) := by decide +kernel
theorem dX10_allowed_33 : decode cX10_allowed 33 = .ok (.iload 4, 2) := by decide +kernel
theorem dX10_allowed_35 : decode cX10_allowed 35 = .ok (.bipush 6, 2) := by decide +kernel
theorem dX10_allowed_37 : decode cX10_allowed 37 = .ok (.if_icmp .ge 64, 3) := by decide +kernel
theorem dX10_allowed_40 : decode cX10_allowed 40 = .ok (.iconst 0, 1) := by decide +kernel
theorem dX10_allowed_41 : decode cX10_allowed 41 = .ok (.istore 5, 2) := by decide +kernel
theorem dX10_allowed_43 : decode cX10_allowed 43 = .ok (.iload 5, 2) := by decide +kernel
theorem dX10_allowed_45 : decode cX10_allowed 45 = .ok (.iload 4, 2) := by decide +kernel
theorem dX10_allowed_47 : decode cX10_allowed 47 = .ok (.iconst 2, 1) := by decide +kernel
theorem dX10_allowed_48 : decode cX10_allowed 48 = .ok (.isub, 1) := by decide +kernel
theorem dX10_allowed_49 : decode cX10_allowed 49 = .ok (.invokestatic 214, 3) := by decide +kernel
theorem dX10_allowed_52 : decode cX10_allowed 52 = .ok (.if_icmp .ge 43, 3) := by decide +kernel
theorem dX10_allowed_55 : decode cX10_allowed 55 = .ok (.iload_n 3, 1) := by decide +kernel
theorem dX10_allowed_56 : decode cX10_allowed 56 = .ok (.aload_n 0, 1) := by decide +kernel
theorem dX10_allowed_57 : decode cX10_allowed 57 = .ok (.iload_n 1, 1) := by decide +kernel
theorem dX10_allowed_58 : decode cX10_allowed 58 = .ok (.bipush 10, 2) := by decide +kernel
theorem dX10_allowed_60 : decode cX10_allowed 60 = .ok (.iload 5, 2) := by decide +kernel
theorem dX10_allowed_62 : decode cX10_allowed 62 = .ok (.imul, 1) := by decide +kernel
theorem dX10_allowed_63 : decode cX10_allowed 63 = .ok (.iadd, 1) := by decide +kernel
theorem dX10_allowed_64 : decode cX10_allowed 64 = .ok (.iload 4, 2) := by decide +kernel
theorem dX10_allowed_66 : decode cX10_allowed 66 = .ok (.iconst 1, 1) := by decide +kernel
theorem dX10_allowed_67 : decode cX10_allowed 67 = .ok (.isub, 1) := by decide +kernel
theorem dX10_allowed_68 : decode cX10_allowed 68 = .ok (.invokestatic 214, 3) := by decide +kernel
theorem dX10_allowed_71 : decode cX10_allowed 71 = .ok (.iload_n 2, 1) := by decide +kernel
theorem dX10_allowed_72 : decode cX10_allowed 72 = .ok (.imul, 1) := by decide +kernel
theorem dX10_allowed_73 : decode cX10_allowed 73 = .ok (.iadd, 1) := by decide +kernel
theorem dX10_allowed_74 : decode cX10_allowed 74 = .ok (.iload 4, 2) := by decide +kernel
theorem dX10_allowed_76 : decode cX10_allowed 76 = .ok (.invokevirtual 217, 3) := by decide +kernel
theorem dX10_allowed_79 : decode cX10_allowed 79 = .ok (.ifCond .eq 7, 3) := by decide +kernel
theorem dX10_allowed_82 : decode cX10_allowed 82 = .ok (.iconst 1, 1) := by decide +kernel
theorem dX10_allowed_83 : decode cX10_allowed 83 = .ok (.goto 4, 3) := by decide +kernel
theorem dX10_allowed_86 : decode cX10_allowed 86 = .ok (.iconst 0, 1) := by decide +kernel
theorem dX10_allowed_87 : decode cX10_allowed 87 = .ok (.iadd, 1) := by decide +kernel
theorem dX10_allowed_88 : decode cX10_allowed 88 = .ok (.istore_n 3, 1) := by decide +kernel
theorem dX10_allowed_89 : decode cX10_allowed 89 = .ok (.iinc 5 1, 3) := by decide +kernel
theorem dX10_allowed_92 : decode cX10_allowed 92 = .ok (.goto (-49), 3) := by decide +kernel
theorem dX10_allowed_95 : decode cX10_allowed 95 = .ok (.iinc 4 1, 3) := by decide +kernel
theorem dX10_allowed_98 : decode cX10_allowed 98 = .ok (.goto (-65), 3) := by decide +kernel
theorem dX10_allowed_101 : decode cX10_allowed 101 = .ok (.iload_n 3, 1) := by decide +kernel
theorem dX10_allowed_102 : decode cX10_allowed 102 = .ok (.ireturn, 1) := by decide +kernel
theorem dX10_falseAlarms_0 : decode cX10_falseAlarms 0 = .ok (.aload_n 0, 1) := by decide +kernel
theorem dX10_falseAlarms_1 : decode cX10_falseAlarms 1 = .ok (.iconst 0, 1) := by decide +kernel
theorem dX10_falseAlarms_2 : decode cX10_falseAlarms 2 = .ok (.putfield 105, 3) := by decide +kernel
theorem dX10_falseAlarms_5 : decode cX10_falseAlarms 5 = .ok (.aload_n 0, 1) := by decide +kernel
theorem dX10_falseAlarms_6 : decode cX10_falseAlarms 6 = .ok (.invokevirtual 203, 3) := by decide +kernel
theorem dX10_falseAlarms_9 : decode cX10_falseAlarms 9 = .ok (.iconst 0, 1) := by decide +kernel
theorem dX10_falseAlarms_10 : decode cX10_falseAlarms 10 = .ok (.istore_n 1, 1) := by decide +kernel
theorem dX10_falseAlarms_11 : decode cX10_falseAlarms 11 = .ok (.iconst 2, 1) := by decide +kernel
theorem dX10_falseAlarms_12 : decode cX10_falseAlarms 12 = .ok (.istore_n 2, 1) := by decide +kernel
theorem dX10_falseAlarms_13 : decode cX10_falseAlarms 13 = .ok (.iload_n 2, 1) := by decide +kernel
theorem dX10_falseAlarms_14 : decode cX10_falseAlarms 14 = .ok (.bipush 6, 2) := by decide +kernel
theorem dX10_falseAlarms_16 : decode cX10_falseAlarms 16 = .ok (.if_icmp .ge 65, 3) := by decide +kernel
theorem dX10_falseAlarms_19 : decode cX10_falseAlarms 19 = .ok (.iconst 0, 1) := by decide +kernel
theorem dX10_falseAlarms_20 : decode cX10_falseAlarms 20 = .ok (.istore_n 3, 1) := by decide +kernel
theorem dX10_falseAlarms_21 : decode cX10_falseAlarms 21 = .ok (.iload_n 3, 1) := by decide +kernel
theorem dX10_falseAlarms_22 : decode cX10_falseAlarms 22 = .ok (.iload_n 2, 1) := by decide +kernel
theorem dX10_falseAlarms_23 : decode cX10_falseAlarms 23 = .ok (.invokestatic 214, 3) := by decide +kernel
theorem dX10_falseAlarms_26 : decode cX10_falseAlarms 26 = .ok (.if_icmp .ge 49, 3) := by decide +kernel
theorem dX10_falseAlarms_29 : decode cX10_falseAlarms 29 = .ok (.iload_n 1, 1) := by decide +kernel
theorem dX10_falseAlarms_30 : decode cX10_falseAlarms 30 = .ok (.aload_n 0, 1) := by decide +kernel
theorem dX10_falseAlarms_31 : decode cX10_falseAlarms 31 = .ok (.iload_n 3, 1) := by decide +kernel
theorem dX10_falseAlarms_32 : decode cX10_falseAlarms 32 = .ok (.iload_n 2, 1) := by decide +kernel
theorem dX10_falseAlarms_33 : decode cX10_falseAlarms 33 = .ok (.invokevirtual 217, 3) := by decide +kernel
theorem dX10_falseAlarms_36 : decode cX10_falseAlarms 36 = .ok (.ifCond .eq 30, 3) := by decide +kernel
theorem dX10_falseAlarms_39 : decode cX10_falseAlarms 39 = .ok (.aload_n 0, 1) := by decide +kernel
theorem dX10_falseAlarms_40 : decode cX10_falseAlarms 40 = .ok (.aload_n 0, 1) := by decide +kernel
theorem dX10_falseAlarms_41 : decode cX10_falseAlarms 41 = .ok (.getfield 87, 3) := by decide +kernel
theorem dX10_falseAlarms_44 : decode cX10_falseAlarms 44 = .ok (.iconst 0, 1) := by decide +kernel
theorem dX10_falseAlarms_45 : decode cX10_falseAlarms 45 = .ok (.iload_n 2, 1) := by decide +kernel
theorem dX10_falseAlarms_46 : decode cX10_falseAlarms 46 = .ok (.iconst 1, 1) := by decide +kernel
theorem dX10_falseAlarms_47 : decode cX10_falseAlarms 47 = .ok (.isub, 1) := by decide +kernel
theorem dX10_falseAlarms_48 : decode cX10_falseAlarms 48 = .ok (.aload_n 0, 1) := by decide +kernel
theorem dX10_falseAlarms_49 : decode cX10_falseAlarms 49 = .ok (.getfield 87, 3) := by decide +kernel
theorem dX10_falseAlarms_52 : decode cX10_falseAlarms 52 = .ok (.iload_n 2, 1) := by decide +kernel
theorem dX10_falseAlarms_53 : decode cX10_falseAlarms 53 = .ok (.iconst 1, 1) := by decide +kernel
theorem dX10_falseAlarms_54 : decode cX10_falseAlarms 54 = .ok (.isub, 1) := by decide +kernel
theorem dX10_falseAlarms_55 : decode cX10_falseAlarms 55 = .ok (.iaload, 1) := by decide +kernel
theorem dX10_falseAlarms_56 : decode cX10_falseAlarms 56 = .ok (.invokevirtual 210, 3) := by decide +kernel
theorem dX10_falseAlarms_59 : decode cX10_falseAlarms 59 = .ok (.ifCond .eq 7, 3) := by decide +kernel
theorem dX10_falseAlarms_62 : decode cX10_falseAlarms 62 = .ok (.iconst 1, 1) := by decide +kernel
theorem dX10_falseAlarms_63 : decode cX10_falseAlarms 63 = .ok (.goto 4, 3) := by decide +kernel
theorem dX10_falseAlarms_66 : decode cX10_falseAlarms 66 = .ok (.iconst 0, 1) := by decide +kernel
theorem dX10_falseAlarms_67 : decode cX10_falseAlarms 67 = .ok (.iadd, 1) := by decide +kernel
theorem dX10_falseAlarms_68 : decode cX10_falseAlarms 68 = .ok (.istore_n 1, 1) := by decide +kernel
theorem dX10_falseAlarms_69 : decode cX10_falseAlarms 69 = .ok (.iinc 3 1, 3) := by decide +kernel
theorem dX10_falseAlarms_72 : decode cX10_falseAlarms 72 = .ok (.goto (-51), 3) := by decide +kernel
theorem dX10_falseAlarms_75 : decode cX10_falseAlarms 75 = .ok (.iinc 2 1, 3) := by decide +kernel
theorem dX10_falseAlarms_78 : decode cX10_falseAlarms 78 = .ok (.goto (-65), 3) := by decide +kernel
theorem dX10_falseAlarms_81 : decode cX10_falseAlarms 81 = .ok (.iload_n 1, 1) := by decide +kernel
theorem dX10_falseAlarms_82 : decode cX10_falseAlarms 82 = .ok (.ireturn, 1) := by decide +kernel
theorem dX10_count_0 : decode cX10_count 0 = .ok (.iconst 0, 1) := by decide +kernel
theorem dX10_count_1 : decode cX10_count 1 = .ok (.istore_n 1, 1) := by decide +kernel
theorem dX10_count_2 : decode cX10_count 2 = .ok (.iconst 0, 1) := by decide +kernel
theorem dX10_count_3 : decode cX10_count 3 = .ok (.istore_n 2, 1) := by decide +kernel
theorem dX10_count_4 : decode cX10_count 4 = .ok (.iload_n 2, 1) := by decide +kernel
theorem dX10_count_5 : decode cX10_count 5 = .ok (.bipush 10, 2) := by decide +kernel
theorem dX10_count_7 : decode cX10_count 7 = .ok (.if_icmp .ge 17, 3) := by decide +kernel
