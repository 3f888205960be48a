theorem dX5_between_19 : decode cX5_between 19 = .ok (.iload_n 3, 1) := by decide +kernel
theorem dX5_between_20 : decode cX5_between 20 = .ok (.aaload, 1) := by decide +kernel
theorem dX5_between_21 : decode cX5_between 21 = .ok (.iload_n 2, 1) := by decide +kernel
theorem dX5_between_22 : decode cX5_between 22 = .ok (.iaload, 1) := by decide +kernel
theorem dX5_between_23 : decode cX5_between 23 = .ok (.iload_n 1, 1) := by decide +kernel
theorem dX5_between_24 : decode cX5_between 24 = .ok (.invokestatic 77, 3) := by decide +kernel
theorem dX5_between_27 : decode cX5_between 27 = .ok (.ifCond .eq 5, 3) := by decide +kernel
theorem dX5_between_30 : decode cX5_between 30 = .ok (.iconst 1, 1) := by decide +kernel
theorem dX5_between_31 : decode cX5_between 31 = .ok (.ireturn, 1) := by decide +kernel
theorem dX5_between_32 : decode cX5_between 32 = .ok (.aload_n 0, 1) := by decide +kernel
theorem dX5_between_33 : decode cX5_between 33 = .ok (.getfield 24, 3) := by decide +kernel
theorem dX5_between_36 : decode cX5_between 36 = .ok (.iload_n 3, 1) := by decide +kernel
theorem dX5_between_37 : decode cX5_between 37 = .ok (.aaload, 1) := by decide +kernel
theorem dX5_between_38 : decode cX5_between 38 = .ok (.iload_n 1, 1) := by decide +kernel
theorem dX5_between_39 : decode cX5_between 39 = .ok (.iaload, 1) := by decide +kernel
theorem dX5_between_40 : decode cX5_between 40 = .ok (.iload_n 2, 1) := by decide +kernel
theorem dX5_between_41 : decode cX5_between 41 = .ok (.invokestatic 77, 3) := by decide +kernel
theorem dX5_between_44 : decode cX5_between 44 = .ok (.ifCond .eq 7, 3) := by decide +kernel
theorem dX5_between_47 : decode cX5_between 47 = .ok (.iconst 2, 1) := by decide +kernel
theorem dX5_between_48 : decode cX5_between 48 = .ok (.goto 4, 3) := by decide +kernel
theorem dX5_between_51 : decode cX5_between 51 = .ok (.iconst 3, 1) := by decide +kernel
theorem dX5_between_52 : decode cX5_between 52 = .ok (.ireturn, 1) := by decide +kernel
theorem dX5_coneOf_0 : decode cX5_coneOf 0 = .ok (.iconst 1, 1) := by decide +kernel
theorem dX5_coneOf_1 : decode cX5_coneOf 1 = .ok (.iload_n 1, 1) := by decide +kernel
theorem dX5_coneOf_2 : decode cX5_coneOf 2 = .ok (.ishl, 1) := by decide +kernel
theorem dX5_coneOf_3 : decode cX5_coneOf 3 = .ok (.istore_n 2, 1) := by decide +kernel
theorem dX5_coneOf_4 : decode cX5_coneOf 4 = .ok (.iconst 0, 1) := by decide +kernel
theorem dX5_coneOf_5 : decode cX5_coneOf 5 = .ok (.istore_n 3, 1) := by decide +kernel
theorem dX5_coneOf_6 : decode cX5_coneOf 6 = .ok (.iload_n 3, 1) := by decide +kernel
theorem dX5_coneOf_7 : decode cX5_coneOf 7 = .ok (.bipush 10, 2) := by decide +kernel
theorem dX5_coneOf_9 : decode cX5_coneOf 9 = .ok (.if_icmp .ge 46, 3) := by decide +kernel
theorem dX5_coneOf_12 : decode cX5_coneOf 12 = .ok (.iconst 0, 1) := by decide +kernel
theorem dX5_coneOf_13 : decode cX5_coneOf 13 = .ok (.istore 4, 2) := by decide +kernel
theorem dX5_coneOf_15 : decode cX5_coneOf 15 = .ok (.iload 4, 2) := by decide +kernel
theorem dX5_coneOf_17 : decode cX5_coneOf 17 = .ok (.bipush 10, 2) := by decide +kernel
theorem dX5_coneOf_19 : decode cX5_coneOf 19 = .ok (.if_icmp .ge 30, 3) := by decide +kernel
theorem dX5_coneOf_22 : decode cX5_coneOf 22 = .ok (.iload_n 2, 1) := by decide +kernel
theorem dX5_coneOf_23 : decode cX5_coneOf 23 = .ok (.iload 4, 2) := by decide +kernel
theorem dX5_coneOf_25 : decode cX5_coneOf 25 = .ok (.invokestatic 77, 3) := by decide +kernel
theorem dX5_coneOf_28 : decode cX5_coneOf 28 = .ok (.ifCond .eq 15, 3) := by decide +kernel
theorem dX5_coneOf_31 : decode cX5_coneOf 31 = .ok (.iload_n 2, 1) := by decide +kernel
theorem dX5_coneOf_32 : decode cX5_coneOf 32 = .ok (.aload_n 0, 1) := by decide +kernel
theorem dX5_coneOf_33 : decode cX5_coneOf 33 = .ok (.getfield 24, 3) := by decide +kernel
theorem dX5_coneOf_36 : decode cX5_coneOf 36 = .ok (.iconst 2, 1) := by decide +kernel
theorem dX5_coneOf_37 : decode cX5_coneOf 37 = .ok (.aaload, 1) := by decide +kernel
theorem dX5_coneOf_38 : decode cX5_coneOf 38 = .ok (.iload 4, 2) := by decide +kernel
theorem dX5_coneOf_40 : decode cX5_coneOf 40 = .ok (.iaload, 1) := by decide +kernel
theorem dX5_coneOf_41 : decode cX5_coneOf 41 = .ok (.ior, 1) := by decide +kernel
theorem dX5_coneOf_42 : decode cX5_coneOf 42 = .ok (.istore_n 2, 1) := by decide +kernel
theorem dX5_coneOf_43 : decode cX5_coneOf 43 = .ok (.iinc 4 1, 3) := by decide +kernel
theorem dX5_coneOf_46 : decode cX5_coneOf 46 = .ok (.goto (-31), 3) := by decide +kernel
theorem dX5_coneOf_49 : decode cX5_coneOf 49 = .ok (.iinc 3 1, 3) := by decide +kernel
theorem dX5_coneOf_52 : decode cX5_coneOf 52 = .ok (.goto (-46), 3) := by decide +kernel
theorem dX5_coneOf_55 : decode cX5_coneOf 55 = .ok (.iload_n 2, 1) := by decide +kernel
theorem dX5_coneOf_56 : decode cX5_coneOf 56 = .ok (.ireturn, 1) := by decide +kernel
theorem dX5_pathConeOf_0 : decode cX5_pathConeOf 0 = .ok (.iconst 1, 1) := by decide +kernel
theorem dX5_pathConeOf_1 : decode cX5_pathConeOf 1 = .ok (.iload_n 1, 1) := by decide +kernel
theorem dX5_pathConeOf_2 : decode cX5_pathConeOf 2 = .ok (.ishl, 1) := by decide +kernel
theorem dX5_pathConeOf_3 : decode cX5_pathConeOf 3 = .ok (.istore_n 2, 1) := by decide +kernel
theorem dX5_pathConeOf_4 : decode cX5_pathConeOf 4 = .ok (.iconst 0, 1) := by decide +kernel
theorem dX5_pathConeOf_5 : decode cX5_pathConeOf 5 = .ok (.istore_n 3, 1) := by decide +kernel
theorem dX5_pathConeOf_6 : decode cX5_pathConeOf 6 = .ok (.iload_n 3, 1) := by decide +kernel
theorem dX5_pathConeOf_7 : decode cX5_pathConeOf 7 = .ok (.aload_n 0, 1) := by decide +kernel
theorem dX5_pathConeOf_8 : decode cX5_pathConeOf 8 = .ok (.getfield 27, 3) := by decide +kernel
theorem dX5_pathConeOf_11 : decode cX5_pathConeOf 11 = .ok (.getfield 44, 3) := by decide +kernel
theorem dX5_pathConeOf_14 : decode cX5_pathConeOf 14 = .ok (.if_icmp .ge 46, 3) := by decide +kernel
theorem dX5_pathConeOf_17 : decode cX5_pathConeOf 17 = .ok (.aload_n 0, 1) := by decide +kernel
theorem dX5_pathConeOf_18 : decode cX5_pathConeOf 18 = .ok (.getfield 27, 3) := by decide +kernel
theorem dX5_pathConeOf_21 : decode cX5_pathConeOf 21 = .ok (.iload_n 3, 1) := by decide +kernel
theorem dX5_pathConeOf_22 : decode cX5_pathConeOf 22 = .ok (.invokevirtual 49, 3) := by decide +kernel
theorem dX5_pathConeOf_25 : decode cX5_pathConeOf 25 = .ok (.ifCond .eq 29, 3) := by decide +kernel
theorem dX5_pathConeOf_28 : decode cX5_pathConeOf 28 = .ok (.iload_n 2, 1) := by decide +kernel
theorem dX5_pathConeOf_29 : decode cX5_pathConeOf 29 = .ok (.aload_n 0, 1) := by decide +kernel
theorem dX5_pathConeOf_30 : decode cX5_pathConeOf 30 = .ok (.aload_n 0, 1) := by decide +kernel
theorem dX5_pathConeOf_31 : decode cX5_pathConeOf 31 = .ok (.getfield 27, 3) := by decide +kernel
theorem dX5_pathConeOf_34 : decode cX5_pathConeOf 34 = .ok (.getfield 53, 3) := by decide +kernel
theorem dX5_pathConeOf_37 : decode cX5_pathConeOf 37 = .ok (.iload_n 3, 1) := by decide +kernel
theorem dX5_pathConeOf_38 : decode cX5_pathConeOf 38 = .ok (.aaload, 1) := by decide +kernel
theorem dX5_pathConeOf_39 : decode cX5_pathConeOf 39 = .ok (.aload_n 0, 1) := by decide +kernel
theorem dX5_pathConeOf_40 : decode cX5_pathConeOf 40 = .ok (.getfield 27, 3) := by decide +kernel
theorem dX5_pathConeOf_43 : decode cX5_pathConeOf 43 = .ok (.getfield 56, 3) := by decide +kernel
theorem dX5_pathConeOf_46 : decode cX5_pathConeOf 46 = .ok (.iload_n 3, 1) := by decide +kernel
theorem dX5_pathConeOf_47 : decode cX5_pathConeOf 47 = .ok (.iaload, 1) := by decide +kernel
theorem dX5_pathConeOf_48 : decode cX5_pathConeOf 48 = .ok (.iload_n 1, 1) := by decide +kernel
theorem dX5_pathConeOf_49 : decode cX5_pathConeOf 49 = .ok (.invokevirtual 85, 3) := by decide +kernel
theorem dX5_pathConeOf_52 : decode cX5_pathConeOf 52 = .ok (.ior, 1) := by decide +kernel
theorem dX5_pathConeOf_53 : decode cX5_pathConeOf 53 = .ok (.istore_n 2, 1) := by decide +kernel
theorem dX5_pathConeOf_54 : decode cX5_pathConeOf 54 = .ok (.iinc 3 1, 3) := by decide +kernel
theorem dX5_pathConeOf_57 : decode cX5_pathConeOf 57 = .ok (.goto (-51), 3) := by decide +kernel
theorem dX5_pathConeOf_60 : decode cX5_pathConeOf 60 = .ok (.iload_n 2, 1) := by decide +kernel
theorem dX5_pathConeOf_61 : decode cX5_pathConeOf 61 = .ok (.ireturn, 1) := by decide +kernel
theorem dX5_customersAhead_0 : decode cX5_customersAhead 0 = .ok (.iconst 0, 1) := by decide +kernel
theorem dX5_customersAhead_1 : decode cX5_customersAhead 1 = .ok (.istore 4, 2) := by decide +kernel
theorem dX5_customersAhead_3 : decode cX5_customersAhead 3 = .ok (.iconst 0, 1) := by decide +kernel
theorem dX5_customersAhead_4 : decode cX5_customersAhead 4 = .ok (.istore 5, 2) := by decide +kernel
theorem dX5_customersAhead_6 : decode cX5_customersAhead 6 = .ok (.iload 5, 2) := by decide +kernel
theorem dX5_customersAhead_8 : decode cX5_customersAhead 8 = .ok (.iload_n 2, 1) := by decide +kernel
theorem dX5_customersAhead_9 : decode cX5_customersAhead 9 = .ok (.if_icmp .ge 62, 3) := by decide +kernel
theorem dX5_customersAhead_12 : decode cX5_customersAhead 12 = .ok (.iload 5, 2) := by decide +kernel
theorem dX5_customersAhead_14 : decode cX5_customersAhead 14 = .ok (.ifCond .le 29, 3) := by decide +kernel
theorem dX5_customersAhead_17 : decode cX5_customersAhead 17 = .ok (.aload_n 0, 1) := by decide +kernel
theorem dX5_customersAhead_18 : decode cX5_customersAhead 18 = .ok (.getfield 24, 3) := by decide +kernel
theorem dX5_customersAhead_21 : decode cX5_customersAhead 21 = .ok (.iconst 2, 1) := by decide +kernel
theorem dX5_customersAhead_22 : decode cX5_customersAhead 22 = .ok (.aaload, 1) := by decide +kernel
theorem dX5_customersAhead_23 : decode cX5_customersAhead 23 = .ok (.aload_n 1, 1) := by decide +kernel
theorem dX5_customersAhead_24 : decode cX5_customersAhead 24 = .ok (.iload 5, 2) := by decide +kernel
theorem dX5_customersAhead_26 : decode cX5_customersAhead 26 = .ok (.iaload, 1) := by decide +kernel
theorem dX5_customersAhead_27 : decode cX5_customersAhead 27 = .ok (.iaload, 1) := by decide +kernel
theorem dX5_customersAhead_28 : decode cX5_customersAhead 28 = .ok (.aload_n 1, 1) := by decide +kernel
theorem dX5_customersAhead_29 : decode cX5_customersAhead 29 = .ok (.iload 5, 2) := by decide +kernel
theorem dX5_customersAhead_31 : decode cX5_customersAhead 31 = .ok (.iconst 1, 1) := by decide +kernel
theorem dX5_customersAhead_32 : decode cX5_customersAhead 32 = .ok (.isub, 1) := by decide +kernel
theorem dX5_customersAhead_33 : decode cX5_customersAhead 33 = .ok (.iaload, 1) := by decide +kernel
theorem dX5_customersAhead_34 : decode cX5_customersAhead 34 = .ok (.invokestatic 77, 3) := by decide +kernel
theorem dX5_customersAhead_37 : decode cX5_customersAhead 37 = .ok (.ifCond .ne 6, 3) := by decide +kernel
theorem dX5_customersAhead_40 : decode cX5_customersAhead 40 = .ok (.iconst 0, 1) := by decide +kernel
theorem dX5_customersAhead_41 : decode cX5_customersAhead 41 = .ok (.istore 4, 2) := by decide +kernel
theorem dX5_customersAhead_43 : decode cX5_customersAhead 43 = .ok (.aload_n 1, 1) := by decide +kernel
theorem dX5_customersAhead_44 : decode cX5_customersAhead 44 = .ok (.iload 5, 2) := by decide +kernel
theorem dX5_customersAhead_46 : decode cX5_customersAhead 46 = .ok (.iaload, 1) := by decide +kernel
theorem dX5_customersAhead_47 : decode cX5_customersAhead 47 = .ok (.iload_n 3, 1) := by decide +kernel
theorem dX5_customersAhead_48 : decode cX5_customersAhead 48 = .ok (.if_icmp .ne 6, 3) := by decide +kernel
theorem dX5_customersAhead_51 : decode cX5_customersAhead 51 = .ok (.iload 4, 2) := by decide +kernel
theorem dX5_customersAhead_53 : decode cX5_customersAhead 53 = .ok (.ireturn, 1) := by decide +kernel
theorem dX5_customersAhead_54 : decode cX5_customersAhead 54 = .ok (.iload 4, 2) := by decide +kernel
theorem dX5_customersAhead_56 : decode cX5_customersAhead 56 = .ok (.iconst 1, 1) := by decide +kernel
theorem dX5_customersAhead_57 : decode cX5_customersAhead 57 = .ok (.aload_n 1, 1) := by decide +kernel
theorem dX5_customersAhead_58 : decode cX5_customersAhead 58 = .ok (.iload 5, 2) := by decide +kernel
theorem dX5_customersAhead_60 : decode cX5_customersAhead 60 = .ok (.iaload, 1) := by decide +kernel
theorem dX5_customersAhead_61 : decode cX5_customersAhead 61 = .ok (.ishl, 1) := by decide +kernel
theorem dX5_customersAhead_62 : decode cX5_customersAhead 62 = .ok (.ior, 1) := by decide +kernel
theorem dX5_customersAhead_63 : decode cX5_customersAhead 63 = .ok (.istore 4, 2) := by decide +kernel
theorem dX5_customersAhead_65 : decode cX5_customersAhead 65 = .ok (.iinc 5 1, 3) := by decide +kernel
theorem dX5_customersAhead_68 : decode cX5_customersAhead 68 = .ok (.goto (-62), 3) := by decide +kernel
theorem dX5_customersAhead_71 : decode cX5_customersAhead 71 = .ok (.iconst 0, 1) := by decide +kernel
theorem dX5_customersAhead_72 : decode cX5_customersAhead 72 = .ok (.ireturn, 1) := by decide +kernel
theorem dX6_init_0 : decode cX6_init 0 = .ok (.aload_n 0, 1) := by decide +kernel
theorem dX6_init_1 : decode cX6_init 1 = .ok (.invokespecial 3, 3) := by decide +kernel
theorem dX6_init_4 : decode cX6_init 4 = .ok (.aload_n 0, 1) := by decide +kernel
theorem dX6_init_5 : decode cX6_init 5 = .ok (.iconst 0, 1) := by decide +kernel
theorem dX6_init_6 : decode cX6_init 6 = .ok (.putfield 9, 3) := by decide +kernel
theorem dX6_init_9 : decode cX6_init 9 = .ok (.aload_n 0, 1) := by decide +kernel
theorem dX6_init_10 : decode cX6_init 10 = .ok (.iconst 0, 1) := by decide +kernel
theorem dX6_init_11 : decode cX6_init 11 = .ok (.putfield 15, 3) := by decide +kernel
theorem dX6_init_14 : decode cX6_init 14 = .ok (.aload_n 0, 1) := by decide +kernel
theorem dX6_init_15 : decode cX6_init 15 = .ok (.iconst 0, 1) := by decide +kernel
theorem dX6_init_16 : decode cX6_init 16 = .ok (.putfield 18, 3) := by decide +kernel
theorem dX6_init_19 : decode cX6_init 19 = .ok (.aload_n 0, 1) := by decide +kernel
theorem dX6_init_20 : decode cX6_init 20 = .ok (.bipush 6, 2) := by decide +kernel
theorem dX6_init_22 : decode cX6_init 22 = .ok (.newarray .int, 2) := by decide +kernel
theorem dX6_init_24 : decode cX6_init 24 = .ok (.putfield 21, 3) := by decide +kernel
theorem dX6_init_27 : decode cX6_init 27 = .ok (.aload_n 0, 1) := by decide +kernel
theorem dX6_init_28 : decode cX6_init 28 = .ok (.bipush 24, 2) := by decide +kernel
theorem dX6_init_30 : decode cX6_init 30 = .ok (.bipush 6, 2) := by decide +kernel
theorem dX6_init_32 : decode cX6_init 32 = .ok (.multianewarray 25 2, 4) := by decide +kernel
theorem dX6_init_36 : decode cX6_init 36 = .ok (.putfield 27, 3) := by decide +kernel
theorem dX6_init_39 : decode cX6_init 39 = .ok (.aload_n 0, 1) := by decide +kernel
theorem dX6_init_40 : decode cX6_init 40 = .ok (.bipush 24, 2) := by decide +kernel
theorem dX6_init_42 : decode cX6_init 42 = .ok (.newarray .int, 2) := by decide +kernel
theorem dX6_init_44 : decode cX6_init 44 = .ok (.putfield 30, 3) := by decide +kernel
theorem dX6_init_47 : decode cX6_init 47 = .ok (.aload_n 0, 1) := by decide +kernel
theorem dX6_init_48 : decode cX6_init 48 = .ok (.bipush 24, 2) := by decide +kernel
theorem dX6_init_50 : decode cX6_init 50 = .ok (.newarray .int, 2) := by decide +kernel
theorem dX6_init_52 : decode cX6_init 52 = .ok (.putfield 33, 3) := by decide +kernel
theorem dX6_init_55 : decode cX6_init 55 = .ok (.aload_n 0, 1) := by decide +kernel
theorem dX6_init_56 : decode cX6_init 56 = .ok (.bipush 24, 2) := by decide +kernel
theorem dX6_init_58 : decode cX6_init 58 = .ok (.newarray .int, 2) := by decide +kernel
theorem dX6_init_60 : decode cX6_init 60 = .ok (.putfield 36, 3) := by decide +kernel
theorem dX6_init_63 : decode cX6_init 63 = .ok (.aload_n 0, 1) := by decide +kernel
theorem dX6_init_64 : decode cX6_init 64 = .ok (.bipush 24, 2) := by decide +kernel
theorem dX6_init_66 : decode cX6_init 66 = .ok (.newarray .boolean, 2) := by decide +kernel
theorem dX6_init_68 : decode cX6_init 68 = .ok (.putfield 39, 3) := by decide +kernel
theorem dX6_init_71 : decode cX6_init 71 = .ok (.return_, 1) := by decide +kernel
theorem dX6_addDraft_0 : decode cX6_addDraft 0 = .ok (.aload_n 0, 1) := by decide +kernel
theorem dX6_addDraft_1 : decode cX6_addDraft 1 = .ok (.getfield 9, 3) := by decide +kernel
theorem dX6_addDraft_4 : decode cX6_addDraft 4 = .ok (.istore_n 3, 1) := by decide +kernel
theorem dX6_addDraft_5 : decode cX6_addDraft 5 = .ok (.iconst 0, 1) := by decide +kernel
theorem dX6_addDraft_6 : decode cX6_addDraft 6 = .ok (.istore 4, 2) := by decide +kernel
theorem dX6_addDraft_8 : decode cX6_addDraft 8 = .ok (.iconst 0, 1) := by decide +kernel
theorem dX6_addDraft_9 : decode cX6_addDraft 9 = .ok (.istore 5, 2) := by decide +kernel
theorem dX6_addDraft_11 : decode cX6_addDraft 11 = .ok (.iload 5, 2) := by decide +kernel
theorem dX6_addDraft_13 : decode cX6_addDraft 13 = .ok (.aload_n 0, 1) := by decide +kernel
theorem dX6_addDraft_14 : decode cX6_addDraft 14 = .ok (.getfield 18, 3) := by decide +kernel
theorem dX6_addDraft_17 : decode cX6_addDraft 17 = .ok (.if_icmp .ge 52, 3) := by decide +kernel
theorem dX6_addDraft_20 : decode cX6_addDraft 20 = .ok (.iload 5, 2) := by decide +kernel
theorem dX6_addDraft_22 : decode cX6_addDraft 22 = .ok (.ifCond .eq 22, 3) := by decide +kernel
theorem dX6_addDraft_25 : decode cX6_addDraft 25 = .ok (.aload_n 0, 1) := by decide +kernel
theorem dX6_addDraft_26 : decode cX6_addDraft 26 = .ok (.getfield 21, 3) := by decide +kernel
theorem dX6_addDraft_29 : decode cX6_addDraft 29 = .ok (.iload 5, 2) := by decide +kernel
theorem dX6_addDraft_31 : decode cX6_addDraft 31 = .ok (.iaload, 1) := by decide +kernel
theorem dX6_addDraft_32 : decode cX6_addDraft 32 = .ok (.aload_n 0, 1) := by decide +kernel
theorem dX6_addDraft_33 : decode cX6_addDraft 33 = .ok (.getfield 21, 3) := by decide +kernel
theorem dX6_addDraft_36 : decode cX6_addDraft 36 = .ok (.iload 5, 2) := by decide +kernel
theorem dX6_addDraft_38 : decode cX6_addDraft 38 = .ok (.iconst 1, 1) := by decide +kernel
theorem dX6_addDraft_39 : decode cX6_addDraft 39 = .ok (.isub, 1) := by decide +kernel
theorem dX6_addDraft_40 : decode cX6_addDraft 40 = .ok (.iaload, 1) := by decide +kernel
theorem dX6_addDraft_41 : decode cX6_addDraft 41 = .ok (.if_icmp .eq 22, 3) := by decide +kernel
theorem dX6_addDraft_44 : decode cX6_addDraft 44 = .ok (.aload_n 0, 1) := by decide +kernel
theorem dX6_addDraft_45 : decode cX6_addDraft 45 = .ok (.getfield 27, 3) := by decide +kernel
theorem dX6_addDraft_48 : decode cX6_addDraft 48 = .ok (.iload_n 3, 1) := by decide +kernel
theorem dX6_addDraft_49 : decode cX6_addDraft 49 = .ok (.aaload, 1) := by decide +kernel
theorem dX6_addDraft_50 : decode cX6_addDraft 50 = .ok (.iload 4, 2) := by decide +kernel
theorem dX6_addDraft_52 : decode cX6_addDraft 52 = .ok (.aload_n 0, 1) := by decide +kernel
theorem dX6_addDraft_53 : decode cX6_addDraft 53 = .ok (.getfield 21, 3) := by decide +kernel
theorem dX6_addDraft_56 : decode cX6_addDraft 56 = .ok (.iload 5, 2) := by decide +kernel
theorem dX6_addDraft_58 : decode cX6_addDraft 58 = .ok (.iaload, 1) := by decide +kernel
theorem dX6_addDraft_59 : decode cX6_addDraft 59 = .ok (.iastore, 1) := by decide +kernel
theorem dX6_addDraft_60 : decode cX6_addDraft 60 = .ok (.iinc 4 1, 3) := by decide +kernel
theorem dX6_addDraft_63 : decode cX6_addDraft 63 = .ok (.iinc 5 1, 3) := by decide +kernel
theorem dX6_addDraft_66 : decode cX6_addDraft 66 = .ok (.goto (-55), 3) := by decide +kernel
theorem dX6_addDraft_69 : decode cX6_addDraft 69 = .ok (.aload_n 0, 1) := by decide +kernel
theorem dX6_addDraft_70 : decode cX6_addDraft 70 = .ok (.getfield 30, 3) := by decide +kernel
theorem dX6_addDraft_73 : decode cX6_addDraft 73 = .ok (.iload_n 3, 1) := by decide +kernel
theorem dX6_addDraft_74 : decode cX6_addDraft 74 = .ok (.iload 4, 2) := by decide +kernel
theorem dX6_addDraft_76 : decode cX6_addDraft 76 = .ok (.iastore, 1) := by decide +kernel
theorem dX6_addDraft_77 : decode cX6_addDraft 77 = .ok (.aload_n 0, 1) := by decide +kernel
theorem dX6_addDraft_78 : decode cX6_addDraft 78 = .ok (.getfield 33, 3) := by decide +kernel
theorem dX6_addDraft_81 : decode cX6_addDraft 81 = .ok (.iload_n 3, 1) := by decide +kernel
theorem dX6_addDraft_82 : decode cX6_addDraft 82 = .ok (.iload_n 1, 1) := by decide +kernel
theorem dX6_addDraft_83 : decode cX6_addDraft 83 = .ok (.iastore, 1) := by decide +kernel
theorem dX6_addDraft_84 : decode cX6_addDraft 84 = .ok (.aload_n 0, 1) := by decide +kernel
theorem dX6_addDraft_85 : decode cX6_addDraft 85 = .ok (.getfield 36, 3) := by decide +kernel
theorem dX6_addDraft_88 : decode cX6_addDraft 88 = .ok (.iload_n 3, 1) := by decide +kernel
theorem dX6_addDraft_89 : decode cX6_addDraft 89 = .ok (.iload_n 2, 1) := by decide +kernel
theorem dX6_addDraft_90 : decode cX6_addDraft 90 = .ok (.iastore, 1) := by decide +kernel
theorem dX6_addDraft_91 : decode cX6_addDraft 91 = .ok (.aload_n 0, 1) := by decide +kernel
theorem dX6_addDraft_92 : decode cX6_addDraft 92 = .ok (.iconst 0, 1) := by decide +kernel
theorem dX6_addDraft_93 : decode cX6_addDraft 93 = .ok (.putfield 18, 3) := by decide +kernel
theorem dX6_addDraft_96 : decode cX6_addDraft 96 = .ok (.aload_n 0, 1) := by decide +kernel
theorem dX6_addDraft_97 : decode cX6_addDraft 97 = .ok (.dup, 1) := by decide +kernel
theorem dX6_addDraft_98 : decode cX6_addDraft 98 = .ok (.getfield 9, 3) := by decide +kernel
theorem dX6_addDraft_101 : decode cX6_addDraft 101 = .ok (.iconst 1, 1) := by decide +kernel
theorem dX6_addDraft_102 : decode cX6_addDraft 102 = .ok (.iadd, 1) := by decide +kernel
theorem dX6_addDraft_103 : decode cX6_addDraft 103 = .ok (.putfield 9, 3) := by decide +kernel
theorem dX6_addDraft_106 : decode cX6_addDraft 106 = .ok (.aload_n 0, 1) := by decide +kernel
theorem dX6_addDraft_107 : decode cX6_addDraft 107 = .ok (.dup, 1) := by decide +kernel
theorem dX6_addDraft_108 : decode cX6_addDraft 108 = .ok (.getfield 15, 3) := by decide +kernel
theorem dX6_addDraft_111 : decode cX6_addDraft 111 = .ok (.iconst 1, 1) := by decide +kernel
theorem dX6_addDraft_112 : decode cX6_addDraft 112 = .ok (.iadd, 1) := by decide +kernel
theorem dX6_addDraft_113 : decode cX6_addDraft 113 = .ok (.putfield 15, 3) := by decide +kernel
theorem dX6_addDraft_116 : decode cX6_addDraft 116 = .ok (.iload_n 3, 1) := by decide +kernel
theorem dX6_addDraft_117 : decode cX6_addDraft 117 = .ok (.ireturn, 1) := by decide +kernel
theorem dX6_tellsRelations_0 : decode cX6_tellsRelations 0 = .ok (.aload_n 0, 1) := by decide +kernel
theorem dX6_tellsRelations_1 : decode cX6_tellsRelations 1 = .ok (.getfield 39, 3) := by decide +kernel
theorem dX6_tellsRelations_4 : decode cX6_tellsRelations 4 = .ok (.iload_n 1, 1) := by decide +kernel
theorem dX6_tellsRelations_5 : decode cX6_tellsRelations 5 = .ok (.baload, 1) := by decide +kernel
theorem dX6_tellsRelations_6 : decode cX6_tellsRelations 6 = .ok (.ifCond .ne 25, 3) := by decide +kernel
theorem dX6_tellsRelations_9 : decode cX6_tellsRelations 9 = .ok (.aload_n 0, 1) := by decide +kernel
theorem dX6_tellsRelations_10 : decode cX6_tellsRelations 10 = .ok (.getfield 27, 3) := by decide +kernel
theorem dX6_tellsRelations_13 : decode cX6_tellsRelations 13 = .ok (.iload_n 1, 1) := by decide +kernel
theorem dX6_tellsRelations_14 : decode cX6_tellsRelations 14 = .ok (.aaload, 1) := by decide +kernel
theorem dX6_tellsRelations_15 : decode cX6_tellsRelations 15 = .ok (.aload_n 0, 1) := by decide +kernel
theorem dX6_tellsRelations_16 : decode cX6_tellsRelations 16 = .ok (.getfield 30, 3) := by decide +kernel
theorem dX6_tellsRelations_19 : decode cX6_tellsRelations 19 = .ok (.iload_n 1, 1) := by decide +kernel
theorem dX6_tellsRelations_20 : decode cX6_tellsRelations 20 = .ok (.iaload, 1) := by decide +kernel
theorem dX6_tellsRelations_21 : decode cX6_tellsRelations 21 = .ok (.invokestatic 43, 3) := by decide +kernel
theorem dX6_tellsRelations_24 : decode cX6_tellsRelations 24 = .ok (.ifCond .ne 7, 3) := by decide +kernel
theorem dX6_tellsRelations_27 : decode cX6_tellsRelations 27 = .ok (.iconst 1, 1) := by decide +kernel
theorem dX6_tellsRelations_28 : decode cX6_tellsRelations 28 = .ok (.goto 4, 3) := by decide +kernel
theorem dX6_tellsRelations_31 : decode cX6_tellsRelations 31 = .ok (.iconst 0, 1) := by decide +kernel
theorem dX6_tellsRelations_32 : decode cX6_tellsRelations 32 = .ok (.ireturn, 1) := by decide +kernel
theorem dX6_runsRound_0 : decode cX6_runsRound 0 = .ok (.iconst 0, 1) := by decide +kernel
theorem dX6_runsRound_1 : decode cX6_runsRound 1 = .ok (.istore_n 2, 1) := by decide +kernel
theorem dX6_runsRound_2 : decode cX6_runsRound 2 = .ok (.iconst 0, 1) := by decide +kernel
theorem dX6_runsRound_3 : decode cX6_runsRound 3 = .ok (.istore_n 3, 1) := by decide +kernel
theorem dX6_runsRound_4 : decode cX6_runsRound 4 = .ok (.iload_n 3, 1) := by decide +kernel
theorem dX6_runsRound_5 : decode cX6_runsRound 5 = .ok (.iload_n 1, 1) := by decide +kernel
theorem dX6_runsRound_6 : decode cX6_runsRound 6 = .ok (.if_icmp .ge 29, 3) := by decide +kernel
theorem dX6_runsRound_9 : decode cX6_runsRound 9 = .ok (.iload_n 2, 1) := by decide +kernel
theorem dX6_runsRound_10 : decode cX6_runsRound 10 = .ok (.aload_n 0, 1) := by decide +kernel
theorem dX6_runsRound_11 : decode cX6_runsRound 11 = .ok (.iload_n 3, 1) := by decide +kernel
theorem dX6_runsRound_12 : decode cX6_runsRound 12 = .ok (.iaload, 1) := by decide +kernel
theorem dX6_runsRound_13 : decode cX6_runsRound 13 = .ok (.invokestatic 47, 3) := by decide +kernel
theorem dX6_runsRound_16 : decode cX6_runsRound 16 = .ok (.ifCond .eq 5, 3) := by decide +kernel
theorem dX6_runsRound_19 : decode cX6_runsRound 19 = .ok (.iconst 1, 1) := by decide +kernel
theorem dX6_runsRound_20 : decode cX6_runsRound 20 = .ok (.ireturn, 1) := by decide +kernel
theorem dX6_runsRound_21 : decode cX6_runsRound 21 = .ok (.iload_n 2, 1) := by decide +kernel
theorem dX6_runsRound_22 : decode cX6_runsRound 22 = .ok (.iconst 1, 1) := by decide +kernel
theorem dX6_runsRound_23 : decode cX6_runsRound 23 = .ok (.aload_n 0, 1) := by decide +kernel
theorem dX6_runsRound_24 : decode cX6_runsRound 24 = .ok (.iload_n 3, 1) := by decide +kernel
theorem dX6_runsRound_25 : decode cX6_runsRound 25 = .ok (.iaload, 1) := by decide +kernel
theorem dX6_runsRound_26 : decode cX6_runsRound 26 = .ok (.ishl, 1) := by decide +kernel
theorem dX6_runsRound_27 : decode cX6_runsRound 27 = .ok (.ior, 1) := by decide +kernel
theorem dX6_runsRound_28 : decode cX6_runsRound 28 = .ok (.istore_n 2, 1) := by decide +kernel
theorem dX6_runsRound_29 : decode cX6_runsRound 29 = .ok (.iinc 3 1, 3) := by decide +kernel
theorem dX6_runsRound_32 : decode cX6_runsRound 32 = .ok (.goto (-28), 3) := by decide +kernel
theorem dX6_runsRound_35 : decode cX6_runsRound 35 = .ok (.iconst 0, 1) := by decide +kernel
theorem dX6_runsRound_36 : decode cX6_runsRound 36 = .ok (.ireturn, 1) := by decide +kernel
theorem dX6_countAddressesFrom_0 : decode cX6_countAddressesFrom 0 = .ok (.iconst 0, 1) := by decide +kernel
theorem dX6_countAddressesFrom_1 : decode cX6_countAddressesFrom 1 = .ok (.istore_n 2, 1) := by decide +kernel
theorem dX6_countAddressesFrom_2 : decode cX6_countAddressesFrom 2 = .ok (.iconst 0, 1) := by decide +kernel
theorem dX6_countAddressesFrom_3 : decode cX6_countAddressesFrom 3 = .ok (.istore_n 3, 1) := by decide +kernel
theorem dX6_countAddressesFrom_4 : decode cX6_countAddressesFrom 4 = .ok (.iload_n 3, 1) := by decide +kernel
theorem dX6_countAddressesFrom_5 : decode cX6_countAddressesFrom 5 = .ok (.sipush 256, 3) := by decide +kernel
theorem dX6_countAddressesFrom_8 : decode cX6_countAddressesFrom 8 = .ok (.if_icmp .ge 21, 3) := by decide +kernel
theorem dX6_countAddressesFrom_11 : decode cX6_countAddressesFrom 11 = .ok (.aload_n 0, 1) := by decide +kernel
theorem dX6_countAddressesFrom_12 : decode cX6_countAddressesFrom 12 = .ok (.iload_n 3, 1) := by decide +kernel
theorem dX6_countAddressesFrom_13 : decode cX6_countAddressesFrom 13 = .ok (.iload_n 1, 1) := by decide +kernel
theorem dX6_countAddressesFrom_14 : decode cX6_countAddressesFrom 14 = .ok (.invokevirtual 51, 3) := by decide +kernel
theorem dX6_countAddressesFrom_17 : decode cX6_countAddressesFrom 17 = .ok (.ifCond .eq 6, 3) := by decide +kernel
theorem dX6_countAddressesFrom_20 : decode cX6_countAddressesFrom 20 = .ok (.iinc 2 1, 3) := by decide +kernel
theorem dX6_countAddressesFrom_23 : decode cX6_countAddressesFrom 23 = .ok (.iinc 3 1, 3) := by decide +kernel
theorem dX6_countAddressesFrom_26 : decode cX6_countAddressesFrom 26 = .ok (.goto (-22), 3) := by decide +kernel
theorem dX6_countAddressesFrom_29 : decode cX6_countAddressesFrom 29 = .ok (.iload_n 2, 1) := by decide +kernel
theorem dX6_countAddressesFrom_30 : decode cX6_countAddressesFrom 30 = .ok (.ireturn, 1) := by decide +kernel
theorem dX6_reaches_0 : decode cX6_reaches 0 = .ok (.iconst 0, 1) := by decide +kernel
theorem dX6_reaches_1 : decode cX6_reaches 1 = .ok (.istore_n 3, 1) := by decide +kernel
theorem dX6_reaches_2 : decode cX6_reaches 2 = .ok (.iconst 0, 1) := by decide +kernel
theorem dX6_reaches_3 : decode cX6_reaches 3 = .ok (.istore 4, 2) := by decide +kernel
theorem dX6_reaches_5 : decode cX6_reaches 5 = .ok (.iload 4, 2) := by decide +kernel
theorem dX6_reaches_7 : decode cX6_reaches 7 = .ok (.aload_n 0, 1) := by decide +kernel
theorem dX6_reaches_8 : decode cX6_reaches 8 = .ok (.getfield 9, 3) := by decide +kernel
theorem dX6_reaches_11 : decode cX6_reaches 11 = .ok (.if_icmp .ge 68, 3) := by decide +kernel
theorem dX6_reaches_14 : decode cX6_reaches 14 = .ok (.iload_n 3, 1) := by decide +kernel
theorem dX6_reaches_15 : decode cX6_reaches 15 = .ok (.ifCond .ne 64, 3) := by decide +kernel
theorem dX6_reaches_18 : decode cX6_reaches 18 = .ok (.aload_n 0, 1) := by decide +kernel
theorem dX6_reaches_19 : decode cX6_reaches 19 = .ok (.getfield 39, 3) := by decide +kernel
theorem dX6_reaches_22 : decode cX6_reaches 22 = .ok (.iload 4, 2) := by decide +kernel
theorem dX6_reaches_24 : decode cX6_reaches 24 = .ok (.baload, 1) := by decide +kernel
theorem dX6_reaches_25 : decode cX6_reaches 25 = .ok (.ifCond .ne 46, 3) := by decide +kernel
theorem dX6_reaches_28 : decode cX6_reaches 28 = .ok (.iload_n 2, 1) := by decide +kernel
theorem dX6_reaches_29 : decode cX6_reaches 29 = .ok (.aload_n 0, 1) := by decide +kernel
theorem dX6_reaches_30 : decode cX6_reaches 30 = .ok (.getfield 27, 3) := by decide +kernel
theorem dX6_reaches_33 : decode cX6_reaches 33 = .ok (.iload 4, 2) := by decide +kernel
theorem dX6_reaches_35 : decode cX6_reaches 35 = .ok (.aaload, 1) := by decide +kernel
theorem dX6_reaches_36 : decode cX6_reaches 36 = .ok (.iconst 0, 1) := by decide +kernel
theorem dX6_reaches_37 : decode cX6_reaches 37 = .ok (.iaload, 1) := by decide +kernel
theorem dX6_reaches_38 : decode cX6_reaches 38 = .ok (.invokestatic 47, 3) := by decide +kernel
theorem dX6_reaches_41 : decode cX6_reaches 41 = .ok (.ifCond .eq 30, 3) := by decide +kernel
theorem dX6_reaches_44 : decode cX6_reaches 44 = .ok (.iload_n 1, 1) := by decide +kernel
theorem dX6_reaches_45 : decode cX6_reaches 45 = .ok (.bipush 8, 2) := by decide +kernel
theorem dX6_reaches_47 : decode cX6_reaches 47 = .ok (.aload_n 0, 1) := by decide +kernel
theorem dX6_reaches_48 : decode cX6_reaches 48 = .ok (.getfield 33, 3) := by decide +kernel
theorem dX6_reaches_51 : decode cX6_reaches 51 = .ok (.iload 4, 2) := by decide +kernel
theorem dX6_reaches_53 : decode cX6_reaches 53 = .ok (.iaload, 1) := by decide +kernel
theorem dX6_reaches_54 : decode cX6_reaches 54 = .ok (.aload_n 0, 1) := by decide +kernel
theorem dX6_reaches_55 : decode cX6_reaches 55 = .ok (.getfield 36, 3) := by decide +kernel
theorem dX6_reaches_58 : decode cX6_reaches 58 = .ok (.iload 4, 2) := by decide +kernel
theorem dX6_reaches_60 : decode cX6_reaches 60 = .ok (.iaload, 1) := by decide +kernel
theorem dX6_reaches_61 : decode cX6_reaches 61 = .ok (.invokestatic 54, 3) := by decide +kernel
theorem dX6_reaches_64 : decode cX6_reaches 64 = .ok (.ifCond .eq 7, 3) := by decide +kernel
theorem dX6_reaches_67 : decode cX6_reaches 67 = .ok (.iconst 1, 1) := by decide +kernel
theorem dX6_reaches_68 : decode cX6_reaches 68 = .ok (.goto 4, 3) := by decide +kernel
theorem dX6_reaches_71 : decode cX6_reaches 71 = .ok (.iconst 0, 1) := by decide +kernel
theorem dX6_reaches_72 : decode cX6_reaches 72 = .ok (.istore_n 3, 1) := by decide +kernel
theorem dX6_reaches_73 : decode cX6_reaches 73 = .ok (.iinc 4 1, 3) := by decide +kernel
theorem dX6_reaches_76 : decode cX6_reaches 76 = .ok (.goto (-71), 3) := by decide +kernel
theorem dX6_reaches_79 : decode cX6_reaches 79 = .ok (.iload_n 3, 1) := by decide +kernel
theorem dX6_reaches_80 : decode cX6_reaches 80 = .ok (.ireturn, 1) := by decide +kernel
theorem dX7_init_0 : decode cX7_init 0 = .ok (.aload_n 0, 1) := by decide +kernel
theorem dX7_init_1 : decode cX7_init 1 = .ok (.invokespecial 3, 3) := by decide +kernel
theorem dX7_init_4 : decode cX7_init 4 = .ok (.aload_n 0, 1) := by decide +kernel
theorem dX7_init_5 : decode cX7_init 5 = .ok (.iconst 0, 1) := by decide +kernel
theorem dX7_init_6 : decode cX7_init 6 = .ok (.putfield 9, 3) := by decide +kernel
theorem dX7_init_9 : decode cX7_init 9 = .ok (.aload_n 0, 1) := by decide +kernel
theorem dX7_init_10 : decode cX7_init 10 = .ok (.bipush 50, 2) := by decide +kernel
theorem dX7_init_12 : decode cX7_init 12 = .ok (.newarray .int, 2) := by decide +kernel
theorem dX7_init_14 : decode cX7_init 14 = .ok (.putfield 15, 3) := by decide +kernel
theorem dX7_init_17 : decode cX7_init 17 = .ok (.aload_n 0, 1) := by decide +kernel
theorem dX7_init_18 : decode cX7_init 18 = .ok (.bipush 50, 2) := by decide +kernel
theorem dX7_init_20 : decode cX7_init 20 = .ok (.newarray .int, 2) := by decide +kernel
theorem dX7_init_22 : decode cX7_init 22 = .ok (.putfield 19, 3) := by decide +kernel
theorem dX7_init_25 : decode cX7_init 25 = .ok (.aload_n 0, 1) := by decide +kernel
theorem dX7_init_26 : decode cX7_init 26 = .ok (.bipush 50, 2) := by decide +kernel
theorem dX7_init_28 : decode cX7_init 28 = .ok (.newarray .int, 2) := by decide +kernel
theorem dX7_init_30 : decode cX7_init 30 = .ok (.putfield 22, 3) := by decide +kernel
theorem dX7_init_33 : decode cX7_init 33 = .ok (.aload_n 0, 1) := by decide +kernel
theorem dX7_init_34 : decode cX7_init 34 = .ok (.bipush 50, 2) := by decide +kernel
theorem dX7_init_36 : decode cX7_init 36 = .ok (.newarray .int, 2) := by decide +kernel
theorem dX7_init_38 : decode cX7_init 38 = .ok (.putfield 25, 3) := by decide +kernel
theorem dX7_init_41 : decode cX7_init 41 = .ok (.aload_n 0, 1) := by decide +kernel
theorem dX7_init_42 : decode cX7_init 42 = .ok (.bipush 50, 2) := by decide +kernel
theorem dX7_init_44 : decode cX7_init 44 = .ok (.newarray .int, 2) := by decide +kernel
theorem dX7_init_46 : decode cX7_init 46 = .ok (.putfield 28, 3) := by decide +kernel
theorem dX7_init_49 : decode cX7_init 49 = .ok (.aload_n 0, 1) := by decide +kernel
theorem dX7_init_50 : decode cX7_init 50 = .ok (.bipush 50, 2) := by decide +kernel
theorem dX7_init_52 : decode cX7_init 52 = .ok (.newarray .int, 2) := by decide +kernel
theorem dX7_init_54 : decode cX7_init 54 = .ok (.putfield 31, 3) := by decide +kernel
theorem dX7_init_57 : decode cX7_init 57 = .ok (.aload_n 0, 1) := by decide +kernel
theorem dX7_init_58 : decode cX7_init 58 = .ok (.bipush 50, 2) := by decide +kernel
theorem dX7_init_60 : decode cX7_init 60 = .ok (.newarray .int, 2) := by decide +kernel
theorem dX7_init_62 : decode cX7_init 62 = .ok (.putfield 34, 3) := by decide +kernel
theorem dX7_init_65 : decode cX7_init 65 = .ok (.aload_n 0, 1) := by decide +kernel
theorem dX7_init_66 : decode cX7_init 66 = .ok (.bipush 50, 2) := by decide +kernel
theorem dX7_init_68 : decode cX7_init 68 = .ok (.newarray .int, 2) := by decide +kernel
theorem dX7_init_70 : decode cX7_init 70 = .ok (.putfield 37, 3) := by decide +kernel
theorem dX7_init_73 : decode cX7_init 73 = .ok (.aload_n 0, 1) := by decide +kernel
theorem dX7_init_74 : decode cX7_init 74 = .ok (.bipush 50, 2) := by decide +kernel
theorem dX7_init_76 : decode cX7_init 76 = .ok (.newarray .boolean, 2) := by decide +kernel
theorem dX7_init_78 : decode cX7_init 78 = .ok (.putfield 40, 3) := by decide +kernel
theorem dX7_init_81 : decode cX7_init 81 = .ok (.aload_n 0, 1) := by decide +kernel
theorem dX7_init_82 : decode cX7_init 82 = .ok (.bipush 50, 2) := by decide +kernel
theorem dX7_init_84 : decode cX7_init 84 = .ok (.newarray .boolean, 2) := by decide +kernel
theorem dX7_init_86 : decode cX7_init 86 = .ok (.putfield 44, 3) := by decide +kernel
theorem dX7_init_89 : decode cX7_init 89 = .ok (.return_, 1) := by decide +kernel
theorem dX7_add_0 : decode cX7_add 0 = .ok (.aload_n 0, 1) := by decide +kernel
theorem dX7_add_1 : decode cX7_add 1 = .ok (.getfield 9, 3) := by decide +kernel
theorem dX7_add_4 : decode cX7_add 4 = .ok (.istore 8, 2) := by decide +kernel
theorem dX7_add_6 : decode cX7_add 6 = .ok (.aload_n 0, 1) := by decide +kernel
theorem dX7_add_7 : decode cX7_add 7 = .ok (.getfield 15, 3) := by decide +kernel
theorem dX7_add_10 : decode cX7_add 10 = .ok (.iload 8, 2) := by decide +kernel
theorem dX7_add_12 : decode cX7_add 12 = .ok (.iload_n 1, 1) := by decide +kernel
theorem dX7_add_13 : decode cX7_add 13 = .ok (.iastore, 1) := by decide +kernel
theorem dX7_add_14 : decode cX7_add 14 = .ok (.aload_n 0, 1) := by decide +kernel
theorem dX7_add_15 : decode cX7_add 15 = .ok (.getfield 19, 3) := by decide +kernel
theorem dX7_add_18 : decode cX7_add 18 = .ok (.iload 8, 2) := by decide +kernel
theorem dX7_add_20 : decode cX7_add 20 = .ok (.iload_n 2, 1) := by decide +kernel
theorem dX7_add_21 : decode cX7_add 21 = .ok (.iastore, 1) := by decide +kernel
theorem dX7_add_22 : decode cX7_add 22 = .ok (.aload_n 0, 1) := by decide +kernel
theorem dX7_add_23 : decode cX7_add 23 = .ok (.getfield 22, 3) := by decide +kernel
theorem dX7_add_26 : decode cX7_add 26 = .ok (.iload 8, 2) := by decide +kernel
theorem dX7_add_28 : decode cX7_add 28 = .ok (.iload_n 3, 1) := by decide +kernel
theorem dX7_add_29 : decode cX7_add 29 = .ok (.iastore, 1) := by decide +kernel
theorem dX7_add_30 : decode cX7_add 30 = .ok (.aload_n 0, 1) := by decide +kernel
theorem dX7_add_31 : decode cX7_add 31 = .ok (.getfield 25, 3) := by decide +kernel
theorem dX7_add_34 : decode cX7_add 34 = .ok (.iload 8, 2) := by decide +kernel
theorem dX7_add_36 : decode cX7_add 36 = .ok (.iload 4, 2) := by decide +kernel
theorem dX7_add_38 : decode cX7_add 38 = .ok (.iastore, 1) := by decide +kernel
theorem dX7_add_39 : decode cX7_add 39 = .ok (.aload_n 0, 1) := by decide +kernel
theorem dX7_add_40 : decode cX7_add 40 = .ok (.getfield 28, 3) := by decide +kernel
theorem dX7_add_43 : decode cX7_add 43 = .ok (.iload 8, 2) := by decide +kernel
theorem dX7_add_45 : decode cX7_add 45 = .ok (.iload 5, 2) := by decide +kernel
theorem dX7_add_47 : decode cX7_add 47 = .ok (.iastore, 1) := by decide +kernel
theorem dX7_add_48 : decode cX7_add 48 = .ok (.aload_n 0, 1) := by decide +kernel
theorem dX7_add_49 : decode cX7_add 49 = .ok (.getfield 31, 3) := by decide +kernel
theorem dX7_add_52 : decode cX7_add 52 = .ok (.iload 8, 2) := by decide +kernel
theorem dX7_add_54 : decode cX7_add 54 = .ok (.iload 6, 2) := by decide +kernel
theorem dX7_add_56 : decode cX7_add 56 = .ok (.iastore, 1) := by decide +kernel
theorem dX7_add_57 : decode cX7_add 57 = .ok (.aload_n 0, 1) := by decide +kernel
theorem dX7_add_58 : decode cX7_add 58 = .ok (.getfield 34, 3) := by decide +kernel
theorem dX7_add_61 : decode cX7_add 61 = .ok (.iload 8, 2) := by decide +kernel
theorem dX7_add_63 : decode cX7_add 63 = .ok (.iload 7, 2) := by decide +kernel
theorem dX7_add_65 : decode cX7_add 65 = .ok (.iastore, 1) := by decide +kernel
theorem dX7_add_66 : decode cX7_add 66 = .ok (.aload_n 0, 1) := by decide +kernel
theorem dX7_add_67 : decode cX7_add 67 = .ok (.dup, 1) := by decide +kernel
theorem dX7_add_68 : decode cX7_add 68 = .ok (.getfield 9, 3) := by decide +kernel
theorem dX7_add_71 : decode cX7_add 71 = .ok (.iconst 1, 1) := by decide +kernel
theorem dX7_add_72 : decode cX7_add 72 = .ok (.iadd, 1) := by decide +kernel
theorem dX7_add_73 : decode cX7_add 73 = .ok (.putfield 9, 3) := by decide +kernel
theorem dX7_add_76 : decode cX7_add 76 = .ok (.iload 8, 2) := by decide +kernel
theorem dX7_add_78 : decode cX7_add 78 = .ok (.ireturn, 1) := by decide +kernel
theorem dX7_listRevokedOf_0 : decode cX7_listRevokedOf 0 = .ok (.iconst 0, 1) := by decide +kernel
theorem dX7_listRevokedOf_1 : decode cX7_listRevokedOf 1 = .ok (.istore_n 2, 1) := by decide +kernel
theorem dX7_listRevokedOf_2 : decode cX7_listRevokedOf 2 = .ok (.iconst 0, 1) := by decide +kernel
theorem dX7_listRevokedOf_3 : decode cX7_listRevokedOf 3 = .ok (.istore_n 3, 1) := by decide +kernel
theorem dX7_listRevokedOf_4 : decode cX7_listRevokedOf 4 = .ok (.iload_n 3, 1) := by decide +kernel
theorem dX7_listRevokedOf_5 : decode cX7_listRevokedOf 5 = .ok (.aload_n 0, 1) := by decide +kernel
theorem dX7_listRevokedOf_6 : decode cX7_listRevokedOf 6 = .ok (.getfield 9, 3) := by decide +kernel
theorem dX7_listRevokedOf_9 : decode cX7_listRevokedOf 9 = .ok (.if_icmp .ge 38, 3) := by decide +kernel
theorem dX7_listRevokedOf_12 : decode cX7_listRevokedOf 12 = .ok (.aload_n 0, 1) := by decide +kernel
theorem dX7_listRevokedOf_13 : decode cX7_listRevokedOf 13 = .ok (.getfield 19, 3) := by decide +kernel
theorem dX7_listRevokedOf_16 : decode cX7_listRevokedOf 16 = .ok (.iload_n 3, 1) := by decide +kernel
theorem dX7_listRevokedOf_17 : decode cX7_listRevokedOf 17 = .ok (.iaload, 1) := by decide +kernel
theorem dX7_listRevokedOf_18 : decode cX7_listRevokedOf 18 = .ok (.iload_n 1, 1) := by decide +kernel
theorem dX7_listRevokedOf_19 : decode cX7_listRevokedOf 19 = .ok (.if_icmp .ne 22, 3) := by decide +kernel
theorem dX7_listRevokedOf_22 : decode cX7_listRevokedOf 22 = .ok (.aload_n 0, 1) := by decide +kernel
theorem dX7_listRevokedOf_23 : decode cX7_listRevokedOf 23 = .ok (.getfield 40, 3) := by decide +kernel
theorem dX7_listRevokedOf_26 : decode cX7_listRevokedOf 26 = .ok (.iload_n 3, 1) := by decide +kernel
theorem dX7_listRevokedOf_27 : decode cX7_listRevokedOf 27 = .ok (.baload, 1) := by decide +kernel
theorem dX7_listRevokedOf_28 : decode cX7_listRevokedOf 28 = .ok (.ifCond .eq 13, 3) := by decide +kernel
theorem dX7_listRevokedOf_31 : decode cX7_listRevokedOf 31 = .ok (.aload_n 0, 1) := by decide +kernel
theorem dX7_listRevokedOf_32 : decode cX7_listRevokedOf 32 = .ok (.getfield 44, 3) := by decide +kernel
theorem dX7_listRevokedOf_35 : decode cX7_listRevokedOf 35 = .ok (.iload_n 3, 1) := by decide +kernel
theorem dX7_listRevokedOf_36 : decode cX7_listRevokedOf 36 = .ok (.iconst 1, 1) := by decide +kernel
theorem dX7_listRevokedOf_37 : decode cX7_listRevokedOf 37 = .ok (.bastore, 1) := by decide +kernel
theorem dX7_listRevokedOf_38 : decode cX7_listRevokedOf 38 = .ok (.iinc 2 1, 3) := by decide +kernel
theorem dX7_listRevokedOf_41 : decode cX7_listRevokedOf 41 = .ok (.iinc 3 1, 3) := by decide +kernel
theorem dX7_listRevokedOf_44 : decode cX7_listRevokedOf 44 = .ok (.goto (-40), 3) := by decide +kernel
theorem dX7_listRevokedOf_47 : decode cX7_listRevokedOf 47 = .ok (.iload_n 2, 1) := by decide +kernel
theorem dX7_listRevokedOf_48 : decode cX7_listRevokedOf 48 = .ok (.ireturn, 1) := by decide +kernel
theorem dX7_signatureBy_0 : decode cX7_signatureBy 0 = .ok (.iconst 0, 1) := by decide +kernel
theorem dX7_signatureBy_1 : decode cX7_signatureBy 1 = .ok (.aload_n 0, 1) := by decide +kernel
theorem dX7_signatureBy_2 : decode cX7_signatureBy 2 = .ok (.getfield 15, 3) := by decide +kernel
theorem dX7_signatureBy_5 : decode cX7_signatureBy 5 = .ok (.iload_n 1, 1) := by decide +kernel
theorem dX7_signatureBy_6 : decode cX7_signatureBy 6 = .ok (.iaload, 1) := by decide +kernel
theorem dX7_signatureBy_7 : decode cX7_signatureBy 7 = .ok (.invokestatic 47, 3) := by decide +kernel
theorem dX7_signatureBy_10 : decode cX7_signatureBy 10 = .ok (.istore_n 3, 1) := by decide +kernel
theorem dX7_signatureBy_11 : decode cX7_signatureBy 11 = .ok (.iload_n 3, 1) := by decide +kernel
theorem dX7_signatureBy_12 : decode cX7_signatureBy 12 = .ok (.aload_n 0, 1) := by decide +kernel
theorem dX7_signatureBy_13 : decode cX7_signatureBy 13 = .ok (.getfield 19, 3) := by decide +kernel
theorem dX7_signatureBy_16 : decode cX7_signatureBy 16 = .ok (.iload_n 1, 1) := by decide +kernel
theorem dX7_signatureBy_17 : decode cX7_signatureBy 17 = .ok (.iaload, 1) := by decide +kernel
theorem dX7_signatureBy_18 : decode cX7_signatureBy 18 = .ok (.invokestatic 47, 3) := by decide +kernel
theorem dX7_signatureBy_21 : decode cX7_signatureBy 21 = .ok (.istore_n 3, 1) := by decide +kernel
theorem dX7_signatureBy_22 : decode cX7_signatureBy 22 = .ok (.iload_n 3, 1) := by decide +kernel
theorem dX7_signatureBy_23 : decode cX7_signatureBy 23 = .ok (.aload_n 0, 1) := by decide +kernel
theorem dX7_signatureBy_24 : decode cX7_signatureBy 24 = .ok (.getfield 22, 3) := by decide +kernel
theorem dX7_signatureBy_27 : decode cX7_signatureBy 27 = .ok (.iload_n 1, 1) := by decide +kernel
theorem dX7_signatureBy_28 : decode cX7_signatureBy 28 = .ok (.iaload, 1) := by decide +kernel
theorem dX7_signatureBy_29 : decode cX7_signatureBy 29 = .ok (.invokestatic 47, 3) := by decide +kernel
theorem dX7_signatureBy_32 : decode cX7_signatureBy 32 = .ok (.istore_n 3, 1) := by decide +kernel
theorem dX7_signatureBy_33 : decode cX7_signatureBy 33 = .ok (.iload_n 3, 1) := by decide +kernel
theorem dX7_signatureBy_34 : decode cX7_signatureBy 34 = .ok (.aload_n 0, 1) := by decide +kernel
theorem dX7_signatureBy_35 : decode cX7_signatureBy 35 = .ok (.getfield 25, 3) := by decide +kernel
theorem dX7_signatureBy_38 : decode cX7_signatureBy 38 = .ok (.iload_n 1, 1) := by decide +kernel
theorem dX7_signatureBy_39 : decode cX7_signatureBy 39 = .ok (.iaload, 1) := by decide +kernel
theorem dX7_signatureBy_40 : decode cX7_signatureBy 40 = .ok (.invokestatic 47, 3) := by decide +kernel
theorem dX7_signatureBy_43 : decode cX7_signatureBy 43 = .ok (.istore_n 3, 1) := by decide +kernel
theorem dX7_signatureBy_44 : decode cX7_signatureBy 44 = .ok (.iload_n 3, 1) := by decide +kernel
theorem dX7_signatureBy_45 : decode cX7_signatureBy 45 = .ok (.aload_n 0, 1) := by decide +kernel
theorem dX7_signatureBy_46 : decode cX7_signatureBy 46 = .ok (.getfield 28, 3) := by decide +kernel
theorem dX7_signatureBy_49 : decode cX7_signatureBy 49 = .ok (.iload_n 1, 1) := by decide +kernel
theorem dX7_signatureBy_50 : decode cX7_signatureBy 50 = .ok (.iaload, 1) := by decide +kernel
theorem dX7_signatureBy_51 : decode cX7_signatureBy 51 = .ok (.invokestatic 47, 3) := by decide +kernel
theorem dX7_signatureBy_54 : decode cX7_signatureBy 54 = .ok (.istore_n 3, 1) := by decide +kernel
theorem dX7_signatureBy_55 : decode cX7_signatureBy 55 = .ok (.iload_n 3, 1) := by decide +kernel
theorem dX7_signatureBy_56 : decode cX7_signatureBy 56 = .ok (.aload_n 0, 1) := by decide +kernel
theorem dX7_signatureBy_57 : decode cX7_signatureBy 57 = .ok (.getfield 31, 3) := by decide +kernel
theorem dX7_signatureBy_60 : decode cX7_signatureBy 60 = .ok (.iload_n 1, 1) := by decide +kernel
theorem dX7_signatureBy_61 : decode cX7_signatureBy 61 = .ok (.iaload, 1) := by decide +kernel
theorem dX7_signatureBy_62 : decode cX7_signatureBy 62 = .ok (.invokestatic 47, 3) := by decide +kernel
theorem dX7_signatureBy_65 : decode cX7_signatureBy 65 = .ok (.istore_n 3, 1) := by decide +kernel
theorem dX7_signatureBy_66 : decode cX7_signatureBy 66 = .ok (.iload_n 3, 1) := by decide +kernel
theorem dX7_signatureBy_67 : decode cX7_signatureBy 67 = .ok (.aload_n 0, 1) := by decide +kernel
theorem dX7_signatureBy_68 : decode cX7_signatureBy 68 = .ok (.getfield 34, 3) := by decide +kernel
theorem dX7_signatureBy_71 : decode cX7_signatureBy 71 = .ok (.iload_n 1, 1) := by decide +kernel
theorem dX7_signatureBy_72 : decode cX7_signatureBy 72 = .ok (.iaload, 1) := by decide +kernel
theorem dX7_signatureBy_73 : decode cX7_signatureBy 73 = .ok (.invokestatic 47, 3) := by decide +kernel
theorem dX7_signatureBy_76 : decode cX7_signatureBy 76 = .ok (.istore_n 3, 1) := by decide +kernel
theorem dX7_signatureBy_77 : decode cX7_signatureBy 77 = .ok (.sipush 7919, 3) := by decide +kernel
theorem dX7_signatureBy_80 : decode cX7_signatureBy 80 = .ok (.bipush 101, 2) := by decide +kernel
theorem dX7_signatureBy_82 : decode cX7_signatureBy 82 = .ok (.aload_n 0, 1) := by decide +kernel
theorem dX7_signatureBy_83 : decode cX7_signatureBy 83 = .ok (.getfield 19, 3) := by decide +kernel
theorem dX7_signatureBy_86 : decode cX7_signatureBy 86 = .ok (.iload_n 1, 1) := by decide +kernel
theorem dX7_signatureBy_87 : decode cX7_signatureBy 87 = .ok (.iaload, 1) := by decide +kernel
theorem dX7_signatureBy_88 : decode cX7_signatureBy 88 = .ok (.imul, 1) := by decide +kernel
theorem dX7_signatureBy_89 : decode cX7_signatureBy 89 = .ok (.bipush 17, 2) := by decide +kernel
theorem dX7_signatureBy_91 : decode cX7_signatureBy 91 = .ok (.iload_n 2, 1) := by decide +kernel
theorem dX7_signatureBy_92 : decode cX7_signatureBy 92 = .ok (.imul, 1) := by decide +kernel
theorem dX7_signatureBy_93 : decode cX7_signatureBy 93 = .ok (.iadd, 1) := by decide +kernel
theorem dX7_signatureBy_94 : decode cX7_signatureBy 94 = .ok (.imul, 1) := by decide +kernel
theorem dX7_signatureBy_95 : decode cX7_signatureBy 95 = .ok (.istore 4, 2) := by decide +kernel
theorem dX7_signatureBy_97 : decode cX7_signatureBy 97 = .ok (.bipush 31, 2) := by decide +kernel
theorem dX7_signatureBy_99 : decode cX7_signatureBy 99 = .ok (.iload_n 3, 1) := by decide +kernel
theorem dX7_signatureBy_100 : decode cX7_signatureBy 100 = .ok (.imul, 1) := by decide +kernel
theorem dX7_signatureBy_101 : decode cX7_signatureBy 101 = .ok (.iload 4, 2) := by decide +kernel
theorem dX7_signatureBy_103 : decode cX7_signatureBy 103 = .ok (.iadd, 1) := by decide +kernel
theorem dX7_signatureBy_104 : decode cX7_signatureBy 104 = .ok (.ldc 51, 2) := by decide +kernel
theorem dX7_signatureBy_106 : decode cX7_signatureBy 106 = .ok (.irem, 1) := by decide +kernel
theorem dX7_signatureBy_107 : decode cX7_signatureBy 107 = .ok (.ireturn, 1) := by decide +kernel
theorem dX7_mix_0 : decode cX7_mix 0 = .ok (.sipush 263, 3) := by decide +kernel
theorem dX7_mix_3 : decode cX7_mix 3 = .ok (.iload_n 0, 1) := by decide +kernel
theorem dX7_mix_4 : decode cX7_mix 4 = .ok (.imul, 1) := by decide +kernel
theorem dX7_mix_5 : decode cX7_mix 5 = .ok (.iload_n 1, 1) := by decide +kernel
theorem dX7_mix_6 : decode cX7_mix 6 = .ok (.iadd, 1) := by decide +kernel
theorem dX7_mix_7 : decode cX7_mix 7 = .ok (.iconst 1, 1) := by decide +kernel
theorem dX7_mix_8 : decode cX7_mix 8 = .ok (.iadd, 1) := by decide +kernel
theorem dX7_mix_9 : decode cX7_mix 9 = .ok (.ldc 51, 2) := by decide +kernel
theorem dX7_mix_11 : decode cX7_mix 11 = .ok (.irem, 1) := by decide +kernel
theorem dX7_mix_12 : decode cX7_mix 12 = .ok (.ireturn, 1) := by decide +kernel
theorem dX7_covers_0 : decode cX7_covers 0 = .ok (.iload_n 2, 1) := by decide +kernel
theorem dX7_covers_1 : decode cX7_covers 1 = .ok (.iload_n 3, 1) := by decide +kernel
theorem dX7_covers_2 : decode cX7_covers 2 = .ok (.aload_n 0, 1) := by decide +kernel
theorem dX7_covers_3 : decode cX7_covers 3 = .ok (.getfield 25, 3) := by decide +kernel
theorem dX7_covers_6 : decode cX7_covers 6 = .ok (.iload_n 1, 1) := by decide +kernel
theorem dX7_covers_7 : decode cX7_covers 7 = .ok (.iaload, 1) := by decide +kernel
theorem dX7_covers_8 : decode cX7_covers 8 = .ok (.aload_n 0, 1) := by decide +kernel
theorem dX7_covers_9 : decode cX7_covers 9 = .ok (.getfield 28, 3) := by decide +kernel
theorem dX7_covers_12 : decode cX7_covers 12 = .ok (.iload_n 1, 1) := by decide +kernel
theorem dX7_covers_13 : decode cX7_covers 13 = .ok (.iaload, 1) := by decide +kernel
theorem dX7_covers_14 : decode cX7_covers 14 = .ok (.invokestatic 52, 3) := by decide +kernel
theorem dX7_covers_17 : decode cX7_covers 17 = .ok (.ireturn, 1) := by decide +kernel
theorem dX8_init_0 : decode cX8_init 0 = .ok (.aload_n 0, 1) := by decide +kernel
theorem dX8_init_1 : decode cX8_init 1 = .ok (.invokespecial 3, 3) := by decide +kernel
theorem dX8_init_4 : decode cX8_init 4 = .ok (.aload_n 0, 1) := by decide +kernel
theorem dX8_init_5 : decode cX8_init 5 = .ok (.bipush 10, 2) := by decide +kernel
theorem dX8_init_7 : decode cX8_init 7 = .ok (.bipush 10, 2) := by decide +kernel
theorem dX8_init_9 : decode cX8_init 9 = .ok (.multianewarray 9 2, 4) := by decide +kernel
theorem dX8_init_13 : decode cX8_init 13 = .ok (.putfield 11, 3) := by decide +kernel
theorem dX8_init_16 : decode cX8_init 16 = .ok (.return_, 1) := by decide +kernel
theorem dX8_between_0 : decode cX8_between 0 = .ok (.aload_n 0, 1) := by decide +kernel
theorem dX8_between_1 : decode cX8_between 1 = .ok (.getfield 11, 3) := by decide +kernel
theorem dX8_between_4 : decode cX8_between 4 = .ok (.iload_n 1, 1) := by decide +kernel
theorem dX8_between_5 : decode cX8_between 5 = .ok (.aaload, 1) := by decide +kernel
theorem dX8_between_6 : decode cX8_between 6 = .ok (.iload_n 2, 1) := by decide +kernel
theorem dX8_between_7 : decode cX8_between 7 = .ok (.iaload, 1) := by decide +kernel
theorem dX8_between_8 : decode cX8_between 8 = .ok (.ireturn, 1) := by decide +kernel
theorem dX8_tell_0 : decode cX8_tell 0 = .ok (.aload_n 0, 1) := by decide +kernel
theorem dX8_tell_1 : decode cX8_tell 1 = .ok (.getfield 11, 3) := by decide +kernel
theorem dX8_tell_4 : decode cX8_tell 4 = .ok (.iload_n 1, 1) := by decide +kernel
theorem dX8_tell_5 : decode cX8_tell 5 = .ok (.aaload, 1) := by decide +kernel
theorem dX8_tell_6 : decode cX8_tell 6 = .ok (.iload_n 2, 1) := by decide +kernel
theorem dX8_tell_7 : decode cX8_tell 7 = .ok (.iload_n 3, 1) := by decide +kernel
theorem dX8_tell_8 : decode cX8_tell 8 = .ok (.iastore, 1) := by decide +kernel
theorem dX8_tell_9 : decode cX8_tell 9 = .ok (.aload_n 0, 1) := by decide +kernel
theorem dX8_tell_10 : decode cX8_tell 10 = .ok (.getfield 11, 3) := by decide +kernel
theorem dX8_tell_13 : decode cX8_tell 13 = .ok (.iload_n 2, 1) := by decide +kernel
theorem dX8_tell_14 : decode cX8_tell 14 = .ok (.aaload, 1) := by decide +kernel
theorem dX8_tell_15 : decode cX8_tell 15 = .ok (.iload_n 1, 1) := by decide +kernel
theorem dX8_tell_16 : decode cX8_tell 16 = .ok (.iload_n 3, 1) := by decide +kernel
theorem dX8_tell_17 : decode cX8_tell 17 = .ok (.invokestatic 16, 3) := by decide +kernel
theorem dX8_tell_20 : decode cX8_tell 20 = .ok (.iastore, 1) := by decide +kernel
theorem dX8_tell_21 : decode cX8_tell 21 = .ok (.return_, 1) := by decide +kernel
theorem dX8_turned_0 : decode cX8_turned 0 = .ok (.iload_n 0, 1) := by decide +kernel
theorem dX8_turned_1 : decode cX8_turned 1 = .ok (.iconst 1, 1) := by decide +kernel
theorem dX8_turned_2 : decode cX8_turned 2 = .ok (.if_icmp .ne 5, 3) := by decide +kernel
theorem dX8_turned_5 : decode cX8_turned 5 = .ok (.iconst 2, 1) := by decide +kernel
theorem dX8_turned_6 : decode cX8_turned 6 = .ok (.ireturn, 1) := by decide +kernel
theorem dX8_turned_7 : decode cX8_turned 7 = .ok (.iload_n 0, 1) := by decide +kernel
theorem dX8_turned_8 : decode cX8_turned 8 = .ok (.iconst 2, 1) := by decide +kernel
theorem dX8_turned_9 : decode cX8_turned 9 = .ok (.if_icmp .ne 7, 3) := by decide +kernel
theorem dX8_turned_12 : decode cX8_turned 12 = .ok (.iconst 1, 1) := by decide +kernel
theorem dX8_turned_13 : decode cX8_turned 13 = .ok (.goto 4, 3) := by decide +kernel
theorem dX8_turned_16 : decode cX8_turned 16 = .ok (.iload_n 0, 1) := by decide +kernel
theorem dX8_turned_17 : decode cX8_turned 17 = .ok (.ireturn, 1) := by decide +kernel
theorem dX8_areTied_0 : decode cX8_areTied 0 = .ok (.aload_n 0, 1) := by decide +kernel
theorem dX8_areTied_1 : decode cX8_areTied 1 = .ok (.getfield 11, 3) := by decide +kernel
theorem dX8_areTied_4 : decode cX8_areTied 4 = .ok (.iload_n 1, 1) := by decide +kernel
theorem dX8_areTied_5 : decode cX8_areTied 5 = .ok (.aaload, 1) := by decide +kernel
theorem dX8_areTied_6 : decode cX8_areTied 6 = .ok (.iload_n 2, 1) := by decide +kernel
theorem dX8_areTied_7 : decode cX8_areTied 7 = .ok (.iaload, 1) := by decide +kernel
theorem dX8_areTied_8 : decode cX8_areTied 8 = .ok (.ifCond .eq 7, 3) := by decide +kernel
theorem dX8_areTied_11 : decode cX8_areTied 11 = .ok (.iconst 1, 1) := by decide +kernel
theorem dX8_areTied_12 : decode cX8_areTied 12 = .ok (.goto 4, 3) := by decide +kernel
theorem dX8_areTied_15 : decode cX8_areTied 15 = .ok (.iconst 0, 1) := by decide +kernel
theorem dX8_areTied_16 : decode cX8_areTied 16 = .ok (.ireturn, 1) := by decide +kernel
theorem dX8_hasCustomer_0 : decode cX8_hasCustomer 0 = .ok (.aload_n 0, 1) := by decide +kernel
theorem dX8_hasCustomer_1 : decode cX8_hasCustomer 1 = .ok (.getfield 11, 3) := by decide +kernel
theorem dX8_hasCustomer_4 : decode cX8_hasCustomer 4 = .ok (.iload_n 2, 1) := by decide +kernel
theorem dX8_hasCustomer_5 : decode cX8_hasCustomer 5 = .ok (.aaload, 1) := by decide +kernel
theorem dX8_hasCustomer_6 : decode cX8_hasCustomer 6 = .ok (.iload_n 1, 1) := by decide +kernel
theorem dX8_hasCustomer_7 : decode cX8_hasCustomer 7 = .ok (.iaload, 1) := by decide +kernel
theorem dX8_hasCustomer_8 : decode cX8_hasCustomer 8 = .ok (.iconst 1, 1) := by decide +kernel
theorem dX8_hasCustomer_9 : decode cX8_hasCustomer 9 = .ok (.if_icmp .eq 15, 3) := by decide +kernel
theorem dX8_hasCustomer_12 : decode cX8_hasCustomer 12 = .ok (.aload_n 0, 1) := by decide +kernel
theorem dX8_hasCustomer_13 : decode cX8_hasCustomer 13 = .ok (.getfield 11, 3) := by decide +kernel
theorem dX8_hasCustomer_16 : decode cX8_hasCustomer 16 = .ok (.iload_n 3, 1) := by decide +kernel
theorem dX8_hasCustomer_17 : decode cX8_hasCustomer 17 = .ok (.aaload, 1) := by decide +kernel
theorem dX8_hasCustomer_18 : decode cX8_hasCustomer 18 = .ok (.iload_n 1, 1) := by decide +kernel
theorem dX8_hasCustomer_19 : decode cX8_hasCustomer 19 = .ok (.iaload, 1) := by decide +kernel
theorem dX8_hasCustomer_20 : decode cX8_hasCustomer 20 = .ok (.iconst 1, 1) := by decide +kernel
theorem dX8_hasCustomer_21 : decode cX8_hasCustomer 21 = .ok (.if_icmp .ne 7, 3) := by decide +kernel
theorem dX8_hasCustomer_24 : decode cX8_hasCustomer 24 = .ok (.iconst 1, 1) := by decide +kernel
theorem dX8_hasCustomer_25 : decode cX8_hasCustomer 25 = .ok (.goto 4, 3) := by decide +kernel
theorem dX8_hasCustomer_28 : decode cX8_hasCustomer 28 = .ok (.iconst 0, 1) := by decide +kernel
theorem dX8_hasCustomer_29 : decode cX8_hasCustomer 29 = .ok (.ireturn, 1) := by decide +kernel
theorem dX8_leaksAt_0 : decode cX8_leaksAt 0 = .ok (.aload_n 0, 1) := by decide +kernel
theorem dX8_leaksAt_1 : decode cX8_leaksAt 1 = .ok (.iload_n 1, 1) := by decide +kernel
theorem dX8_leaksAt_2 : decode cX8_leaksAt 2 = .ok (.iload_n 2, 1) := by decide +kernel
theorem dX8_leaksAt_3 : decode cX8_leaksAt 3 = .ok (.invokevirtual 20, 3) := by decide +kernel
theorem dX8_leaksAt_6 : decode cX8_leaksAt 6 = .ok (.ifCond .eq 26, 3) := by decide +kernel
theorem dX8_leaksAt_9 : decode cX8_leaksAt 9 = .ok (.aload_n 0, 1) := by decide +kernel
theorem dX8_leaksAt_10 : decode cX8_leaksAt 10 = .ok (.iload_n 3, 1) := by decide +kernel
theorem dX8_leaksAt_11 : decode cX8_leaksAt 11 = .ok (.iload_n 2, 1) := by decide +kernel
theorem dX8_leaksAt_12 : decode cX8_leaksAt 12 = .ok (.invokevirtual 20, 3) := by decide +kernel
theorem dX8_leaksAt_15 : decode cX8_leaksAt 15 = .ok (.ifCond .eq 17, 3) := by decide +kernel
theorem dX8_leaksAt_18 : decode cX8_leaksAt 18 = .ok (.aload_n 0, 1) := by decide +kernel
theorem dX8_leaksAt_19 : decode cX8_leaksAt 19 = .ok (.iload_n 2, 1) := by decide +kernel
theorem dX8_leaksAt_20 : decode cX8_leaksAt 20 = .ok (.iload_n 1, 1) := by decide +kernel
theorem dX8_leaksAt_21 : decode cX8_leaksAt 21 = .ok (.iload_n 3, 1) := by decide +kernel
theorem dX8_leaksAt_22 : decode cX8_leaksAt 22 = .ok (.invokevirtual 24, 3) := by decide +kernel
theorem dX8_leaksAt_25 : decode cX8_leaksAt 25 = .ok (.ifCond .ne 7, 3) := by decide +kernel
theorem dX8_leaksAt_28 : decode cX8_leaksAt 28 = .ok (.iconst 1, 1) := by decide +kernel
theorem dX8_leaksAt_29 : decode cX8_leaksAt 29 = .ok (.goto 4, 3) := by decide +kernel
theorem dX8_leaksAt_32 : decode cX8_leaksAt 32 = .ok (.iconst 0, 1) := by decide +kernel
theorem dX8_leaksAt_33 : decode cX8_leaksAt 33 = .ok (.ireturn, 1) := by decide +kernel
theorem dX9_init_0 : decode cX9_init 0 = .ok (.aload_n 0, 1) := by decide +kernel
theorem dX9_init_1 : decode cX9_init 1 = .ok (.invokespecial 1, 3) := by decide +kernel
theorem dX9_init_4 : decode cX9_init 4 = .ok (.aload_n 0, 1) := by decide +kernel
theorem dX9_init_5 : decode cX9_init 5 = .ok (.new 7, 3) := by decide +kernel
theorem dX9_init_8 : decode cX9_init 8 = .ok (.dup, 1) := by decide +kernel
theorem dX9_init_9 : decode cX9_init 9 = .ok (.invokespecial 9, 3) := by decide +kernel
theorem dX9_init_12 : decode cX9_init 12 = .ok (.putfield 10, 3) := by decide +kernel
theorem dX9_init_15 : decode cX9_init 15 = .ok (.aload_n 0, 1) := by decide +kernel
theorem dX9_init_16 : decode cX9_init 16 = .ok (.new 16, 3) := by decide +kernel
theorem dX9_init_19 : decode cX9_init 19 = .ok (.dup, 1) := by decide +kernel
theorem dX9_init_20 : decode cX9_init 20 = .ok (.invokespecial 18, 3) := by decide +kernel
theorem dX9_init_23 : decode cX9_init 23 = .ok (.putfield 19, 3) := by decide +kernel
theorem dX9_init_26 : decode cX9_init 26 = .ok (.aload_n 0, 1) := by decide +kernel
theorem dX9_init_27 : decode cX9_init 27 = .ok (.new 23, 3) := by decide +kernel
theorem dX9_init_30 : decode cX9_init 30 = .ok (.dup, 1) := by decide +kernel
theorem dX9_init_31 : decode cX9_init 31 = .ok (.aload_n 0, 1) := by decide +kernel
theorem dX9_init_32 : decode cX9_init 32 = .ok (.getfield 10, 3) := by decide +kernel
theorem dX9_init_35 : decode cX9_init 35 = .ok (.aload_n 0, 1) := by decide +kernel
theorem dX9_init_36 : decode cX9_init 36 = .ok (.getfield 19, 3) := by decide +kernel
theorem dX9_init_39 : decode cX9_init 39 = .ok (.invokespecial 25, 3) := by decide +kernel
theorem dX9_init_42 : decode cX9_init 42 = .ok (.putfield 28, 3) := by decide +kernel
theorem dX9_init_45 : decode cX9_init 45 = .ok (.aload_n 0, 1) := by decide +kernel
theorem dX9_init_46 : decode cX9_init 46 = .ok (.new 32, 3) := by decide +kernel
theorem dX9_init_49 : decode cX9_init 49 = .ok (.dup, 1) := by decide +kernel
theorem dX9_init_50 : decode cX9_init 50 = .ok (.invokespecial 34, 3) := by decide +kernel
theorem dX9_init_53 : decode cX9_init 53 = .ok (.putfield 35, 3) := by decide +kernel
theorem dX9_init_56 : decode cX9_init 56 = .ok (.aload_n 0, 1) := by decide +kernel
theorem dX9_init_57 : decode cX9_init 57 = .ok (.new 39, 3) := by decide +kernel
theorem dX9_init_60 : decode cX9_init 60 = .ok (.dup, 1) := by decide +kernel
theorem dX9_init_61 : decode cX9_init 61 = .ok (.invokespecial 41, 3) := by decide +kernel
theorem dX9_init_64 : decode cX9_init 64 = .ok (.putfield 42, 3) := by decide +kernel
theorem dX9_init_67 : decode cX9_init 67 = .ok (.aload_n 0, 1) := by decide +kernel
theorem dX9_init_68 : decode cX9_init 68 = .ok (.new 46, 3) := by decide +kernel
theorem dX9_init_71 : decode cX9_init 71 = .ok (.dup, 1) := by decide +kernel
theorem dX9_init_72 : decode cX9_init 72 = .ok (.aload_n 0, 1) := by decide +kernel
theorem dX9_init_73 : decode cX9_init 73 = .ok (.getfield 42, 3) := by decide +kernel
theorem dX9_init_76 : decode cX9_init 76 = .ok (.invokespecial 48, 3) := by decide +kernel
theorem dX9_init_79 : decode cX9_init 79 = .ok (.putfield 51, 3) := by decide +kernel
theorem dX9_init_82 : decode cX9_init 82 = .ok (.aload_n 0, 1) := by decide +kernel
theorem dX9_init_83 : decode cX9_init 83 = .ok (.new 55, 3) := by decide +kernel
theorem dX9_init_86 : decode cX9_init 86 = .ok (.dup, 1) := by decide +kernel
theorem dX9_init_87 : decode cX9_init 87 = .ok (.aload_n 0, 1) := by decide +kernel
theorem dX9_init_88 : decode cX9_init 88 = .ok (.getfield 42, 3) := by decide +kernel
theorem dX9_init_91 : decode cX9_init 91 = .ok (.aload_n 0, 1) := by decide +kernel
theorem dX9_init_92 : decode cX9_init 92 = .ok (.getfield 51, 3) := by decide +kernel
theorem dX9_init_95 : decode cX9_init 95 = .ok (.invokespecial 57, 3) := by decide +kernel
theorem dX9_init_98 : decode cX9_init 98 = .ok (.putfield 60, 3) := by decide +kernel
theorem dX9_init_101 : decode cX9_init 101 = .ok (.aload_n 0, 1) := by decide +kernel
theorem dX9_init_102 : decode cX9_init 102 = .ok (.new 64, 3) := by decide +kernel
theorem dX9_init_105 : decode cX9_init 105 = .ok (.dup, 1) := by decide +kernel
theorem dX9_init_106 : decode cX9_init 106 = .ok (.aload_n 0, 1) := by decide +kernel
theorem dX9_init_107 : decode cX9_init 107 = .ok (.getfield 35, 3) := by decide +kernel
theorem dX9_init_110 : decode cX9_init 110 = .ok (.invokespecial 66, 3) := by decide +kernel
theorem dX9_init_113 : decode cX9_init 113 = .ok (.putfield 69, 3) := by decide +kernel
theorem dX9_init_116 : decode cX9_init 116 = .ok (.return_, 1) := by decide +kernel
theorem dX9_holder_0 : decode cX9_holder 0 = .ok (.aload_n 0, 1) := by decide +kernel
theorem dX9_holder_1 : decode cX9_holder 1 = .ok (.iload_n 1, 1) := by decide +kernel
theorem dX9_holder_2 : decode cX9_holder 2 = .ok (.invokevirtual 73, 3) := by decide +kernel
theorem dX9_holder_5 : decode cX9_holder 5 = .ok (.aload_n 0, 1) := by decide +kernel
theorem dX9_holder_6 : decode cX9_holder 6 = .ok (.getfield 10, 3) := by decide +kernel
theorem dX9_holder_9 : decode cX9_holder 9 = .ok (.getfield 77, 3) := by decide +kernel
theorem dX9_holder_12 : decode cX9_holder 12 = .ok (.bipush 8, 2) := by decide +kernel
theorem dX9_holder_14 : decode cX9_holder 14 = .ok (.if_icmp .lt 13, 3) := by decide +kernel
theorem dX9_holder_17 : decode cX9_holder 17 = .ok (.new 81, 3) := by decide +kernel
theorem dX9_holder_20 : decode cX9_holder 20 = .ok (.dup, 1) := by decide +kernel
theorem dX9_holder_21 : decode cX9_holder 21 = .ok (.ldc 83, 2) := by decide +kernel
theorem dX9_holder_23 : decode cX9_holder 23 = .ok (.invokespecial 85, 3) := by decide +kernel
theorem dX9_holder_26 : decode cX9_holder 26 = .ok (.athrow, 1) := by decide +kernel
theorem dX9_holder_27 : decode cX9_holder 27 = .ok (.aload_n 0, 1) := by decide +kernel
theorem dX9_holder_28 : decode cX9_holder 28 = .ok (.getfield 10, 3) := by decide +kernel
theorem dX9_holder_31 : decode cX9_holder 31 = .ok (.iload_n 1, 1) := by decide +kernel
theorem dX9_holder_32 : decode cX9_holder 32 = .ok (.invokevirtual 88, 3) := by decide +kernel
theorem dX9_holder_35 : decode cX9_holder 35 = .ok (.ireturn, 1) := by decide +kernel
theorem dX9_belong_0 : decode cX9_belong 0 = .ok (.iload_n 1, 1) := by decide +kernel
theorem dX9_belong_1 : decode cX9_belong 1 = .ok (.invokestatic 92, 3) := by decide +kernel
theorem dX9_belong_4 : decode cX9_belong 4 = .ok (.aload_n 0, 1) := by decide +kernel
theorem dX9_belong_5 : decode cX9_belong 5 = .ok (.iload_n 2, 1) := by decide +kernel
theorem dX9_belong_6 : decode cX9_belong 6 = .ok (.invokevirtual 73, 3) := by decide +kernel
theorem dX9_belong_9 : decode cX9_belong 9 = .ok (.aload_n 0, 1) := by decide +kernel
theorem dX9_belong_10 : decode cX9_belong 10 = .ok (.getfield 10, 3) := by decide +kernel
theorem dX9_belong_13 : decode cX9_belong 13 = .ok (.getfield 95, 3) := by decide +kernel
theorem dX9_belong_16 : decode cX9_belong 16 = .ok (.iload_n 1, 1) := by decide +kernel
theorem dX9_belong_17 : decode cX9_belong 17 = .ok (.iaload, 1) := by decide +kernel
theorem dX9_belong_18 : decode cX9_belong 18 = .ok (.istore_n 3, 1) := by decide +kernel
theorem dX9_belong_19 : decode cX9_belong 19 = .ok (.aload_n 0, 1) := by decide +kernel
theorem dX9_belong_20 : decode cX9_belong 20 = .ok (.getfield 10, 3) := by decide +kernel
theorem dX9_belong_23 : decode cX9_belong 23 = .ok (.getfield 95, 3) := by decide +kernel
theorem dX9_belong_26 : decode cX9_belong 26 = .ok (.iload_n 1, 1) := by decide +kernel
theorem dX9_belong_27 : decode cX9_belong 27 = .ok (.iload_n 2, 1) := by decide +kernel
theorem dX9_belong_28 : decode cX9_belong 28 = .ok (.iastore, 1) := by decide +kernel
theorem dX9_belong_29 : decode cX9_belong 29 = .ok (.iload_n 3, 1) := by decide +kernel
theorem dX9_belong_30 : decode cX9_belong 30 = .ok (.ireturn, 1) := by decide +kernel
theorem dX9_roll_0 : decode cX9_roll 0 = .ok (.aload_n 0, 1) := by decide +kernel
theorem dX9_roll_1 : decode cX9_roll 1 = .ok (.iload_n 1, 1) := by decide +kernel
theorem dX9_roll_2 : decode cX9_roll 2 = .ok (.invokevirtual 73, 3) := by decide +kernel
theorem dX9_roll_5 : decode cX9_roll 5 = .ok (.aload_n 0, 1) := by decide +kernel
theorem dX9_roll_6 : decode cX9_roll 6 = .ok (.getfield 10, 3) := by decide +kernel
theorem dX9_roll_9 : decode cX9_roll 9 = .ok (.getfield 99, 3) := by decide +kernel
theorem dX9_roll_12 : decode cX9_roll 12 = .ok (.iload_n 1, 1) := by decide +kernel
theorem dX9_roll_13 : decode cX9_roll 13 = .ok (.iaload, 1) := by decide +kernel
theorem dX9_roll_14 : decode cX9_roll 14 = .ok (.bipush 100, 2) := by decide +kernel
theorem dX9_roll_16 : decode cX9_roll 16 = .ok (.if_icmp .lt 13, 3) := by decide +kernel
theorem dX9_roll_19 : decode cX9_roll 19 = .ok (.new 81, 3) := by decide +kernel
theorem dX9_roll_22 : decode cX9_roll 22 = .ok (.dup, 1) := by decide +kernel
theorem dX9_roll_23 : decode cX9_roll 23 = .ok (.ldc 102, 2) := by decide +kernel
theorem dX9_roll_25 : decode cX9_roll 25 = .ok (.invokespecial 85, 3) := by decide +kernel
theorem dX9_roll_28 : decode cX9_roll 28 = .ok (.athrow, 1) := by decide +kernel
theorem dX9_roll_29 : decode cX9_roll 29 = .ok (.aload_n 0, 1) := by decide +kernel
theorem dX9_roll_30 : decode cX9_roll 30 = .ok (.getfield 10, 3) := by decide +kernel
theorem dX9_roll_33 : decode cX9_roll 33 = .ok (.getfield 99, 3) := by decide +kernel
theorem dX9_roll_36 : decode cX9_roll 36 = .ok (.iload_n 1, 1) := by decide +kernel
theorem dX9_roll_37 : decode cX9_roll 37 = .ok (.dup2, 1) := by decide +kernel
theorem dX9_roll_38 : decode cX9_roll 38 = .ok (.iaload, 1) := by decide +kernel
theorem dX9_roll_39 : decode cX9_roll 39 = .ok (.iconst 1, 1) := by decide +kernel
theorem dX9_roll_40 : decode cX9_roll 40 = .ok (.iadd, 1) := by decide +kernel
theorem dX9_roll_41 : decode cX9_roll 41 = .ok (.iastore, 1) := by decide +kernel
theorem dX9_roll_42 : decode cX9_roll 42 = .ok (.aload_n 0, 1) := by decide +kernel
theorem dX9_roll_43 : decode cX9_roll 43 = .ok (.getfield 10, 3) := by decide +kernel
theorem dX9_roll_46 : decode cX9_roll 46 = .ok (.getfield 99, 3) := by decide +kernel
theorem dX9_roll_49 : decode cX9_roll 49 = .ok (.iload_n 1, 1) := by decide +kernel
theorem dX9_roll_50 : decode cX9_roll 50 = .ok (.iaload, 1) := by decide +kernel
theorem dX9_roll_51 : decode cX9_roll 51 = .ok (.ireturn, 1) := by decide +kernel
theorem dX9_publish_0 : decode cX9_publish 0 = .ok (.aload_n 0, 1) := by decide +kernel
theorem dX9_publish_1 : decode cX9_publish 1 = .ok (.iload_n 1, 1) := by decide +kernel
theorem dX9_publish_2 : decode cX9_publish 2 = .ok (.invokevirtual 73, 3) := by decide +kernel
theorem dX9_publish_5 : decode cX9_publish 5 = .ok (.iload_n 2, 1) := by decide +kernel
theorem dX9_publish_6 : decode cX9_publish 6 = .ok (.iconst 0, 1) := by decide +kernel
theorem dX9_publish_7 : decode cX9_publish 7 = .ok (.bipush 100, 2) := by decide +kernel
theorem dX9_publish_9 : decode cX9_publish 9 = .ok (.invokestatic 104, 3) := by decide +kernel
theorem dX9_publish_12 : decode cX9_publish 12 = .ok (.aload_n 0, 1) := by decide +kernel
theorem dX9_publish_13 : decode cX9_publish 13 = .ok (.getfield 10, 3) := by decide +kernel
theorem dX9_publish_16 : decode cX9_publish 16 = .ok (.getfield 108, 3) := by decide +kernel
theorem dX9_publish_19 : decode cX9_publish 19 = .ok (.iload_n 1, 1) := by decide +kernel
theorem dX9_publish_20 : decode cX9_publish 20 = .ok (.aload_n 0, 1) := by decide +kernel
theorem dX9_publish_21 : decode cX9_publish 21 = .ok (.getfield 10, 3) := by decide +kernel
theorem dX9_publish_24 : decode cX9_publish 24 = .ok (.getfield 111, 3) := by decide +kernel
theorem dX9_publish_27 : decode cX9_publish 27 = .ok (.iload_n 2, 1) := by decide +kernel
theorem dX9_publish_28 : decode cX9_publish 28 = .ok (.iadd, 1) := by decide +kernel
theorem dX9_publish_29 : decode cX9_publish 29 = .ok (.iastore, 1) := by decide +kernel
theorem dX9_publish_30 : decode cX9_publish 30 = .ok (.aload_n 0, 1) := by decide +kernel
theorem dX9_publish_31 : decode cX9_publish 31 = .ok (.getfield 19, 3) := by decide +kernel
theorem dX9_publish_34 : decode cX9_publish 34 = .ok (.iload_n 1, 1) := by decide +kernel
theorem dX9_publish_35 : decode cX9_publish 35 = .ok (.invokevirtual 114, 3) := by decide +kernel
theorem dX9_publish_38 : decode cX9_publish 38 = .ok (.ireturn, 1) := by decide +kernel
theorem dX9_pass_0 : decode cX9_pass 0 = .ok (.iload_n 1, 1) := by decide +kernel
theorem dX9_pass_1 : decode cX9_pass 1 = .ok (.iconst 1, 1) := by decide +kernel
theorem dX9_pass_2 : decode cX9_pass 2 = .ok (.bipush 100, 2) := by decide +kernel
theorem dX9_pass_4 : decode cX9_pass 4 = .ok (.invokestatic 104, 3) := by decide +kernel
theorem dX9_pass_7 : decode cX9_pass 7 = .ok (.aload_n 0, 1) := by decide +kernel
theorem dX9_pass_8 : decode cX9_pass 8 = .ok (.getfield 10, 3) := by decide +kernel
theorem dX9_pass_11 : decode cX9_pass 11 = .ok (.getfield 111, 3) := by decide +kernel
theorem dX9_pass_14 : decode cX9_pass 14 = .ok (.iload_n 1, 1) := by decide +kernel
theorem dX9_pass_15 : decode cX9_pass 15 = .ok (.iadd, 1) := by decide +kernel
theorem dX9_pass_16 : decode cX9_pass 16 = .ok (.sipush 10000, 3) := by decide +kernel
theorem dX9_pass_19 : decode cX9_pass 19 = .ok (.if_icmp .le 13, 3) := by decide +kernel
theorem dX9_pass_22 : decode cX9_pass 22 = .ok (.new 81, 3) := by decide +kernel
theorem dX9_pass_25 : decode cX9_pass 25 = .ok (.dup, 1) := by decide +kernel
theorem dX9_pass_26 : decode cX9_pass 26 = .ok (.ldc 117, 2) := by decide +kernel
theorem dX9_pass_28 : decode cX9_pass 28 = .ok (.invokespecial 85, 3) := by decide +kernel
theorem dX9_pass_31 : decode cX9_pass 31 = .ok (.athrow, 1) := by decide +kernel
theorem dX9_pass_32 : decode cX9_pass 32 = .ok (.aload_n 0, 1) := by decide +kernel
theorem dX9_pass_33 : decode cX9_pass 33 = .ok (.getfield 10, 3) := by decide +kernel
theorem dX9_pass_36 : decode cX9_pass 36 = .ok (.dup, 1) := by decide +kernel
theorem dX9_pass_37 : decode cX9_pass 37 = .ok (.getfield 111, 3) := by decide +kernel
theorem dX9_pass_40 : decode cX9_pass 40 = .ok (.iload_n 1, 1) := by decide +kernel
theorem dX9_pass_41 : decode cX9_pass 41 = .ok (.iadd, 1) := by decide +kernel
theorem dX9_pass_42 : decode cX9_pass 42 = .ok (.putfield 111, 3) := by decide +kernel
theorem dX9_pass_45 : decode cX9_pass 45 = .ok (.aload_n 0, 1) := by decide +kernel
theorem dX9_pass_46 : decode cX9_pass 46 = .ok (.getfield 10, 3) := by decide +kernel
theorem dX9_pass_49 : decode cX9_pass 49 = .ok (.getfield 111, 3) := by decide +kernel
theorem dX9_pass_52 : decode cX9_pass 52 = .ok (.ireturn, 1) := by decide +kernel
theorem dX9_grant_0 : decode cX9_grant 0 = .ok (.aload_n 0, 1) := by decide +kernel
theorem dX9_grant_1 : decode cX9_grant 1 = .ok (.iload_n 1, 1) := by decide +kernel
theorem dX9_grant_2 : decode cX9_grant 2 = .ok (.invokevirtual 73, 3) := by decide +kernel
theorem dX9_grant_5 : decode cX9_grant 5 = .ok (.aload_n 0, 1) := by decide +kernel
theorem dX9_grant_6 : decode cX9_grant 6 = .ok (.iload_n 2, 1) := by decide +kernel
theorem dX9_grant_7 : decode cX9_grant 7 = .ok (.invokevirtual 73, 3) := by decide +kernel
theorem dX9_grant_10 : decode cX9_grant 10 = .ok (.iload_n 3, 1) := by decide +kernel
theorem dX9_grant_11 : decode cX9_grant 11 = .ok (.iload 4, 2) := by decide +kernel
theorem dX9_grant_13 : decode cX9_grant 13 = .ok (.invokestatic 119, 3) := by decide +kernel
theorem dX9_grant_16 : decode cX9_grant 16 = .ok (.iload 5, 2) := by decide +kernel
theorem dX9_grant_18 : decode cX9_grant 18 = .ok (.iconst 0, 1) := by decide +kernel
theorem dX9_grant_19 : decode cX9_grant 19 = .ok (.sipush 1000, 3) := by decide +kernel
theorem dX9_grant_22 : decode cX9_grant 22 = .ok (.invokestatic 104, 3) := by decide +kernel
theorem dX9_grant_25 : decode cX9_grant 25 = .ok (.aload_n 0, 1) := by decide +kernel
theorem dX9_grant_26 : decode cX9_grant 26 = .ok (.invokevirtual 123, 3) := by decide +kernel
theorem dX9_grant_29 : decode cX9_grant 29 = .ok (.aload_n 0, 1) := by decide +kernel
theorem dX9_grant_30 : decode cX9_grant 30 = .ok (.aload_n 0, 1) := by decide +kernel
theorem dX9_grant_31 : decode cX9_grant 31 = .ok (.getfield 19, 3) := by decide +kernel
theorem dX9_grant_34 : decode cX9_grant 34 = .ok (.iconst 0, 1) := by decide +kernel
theorem dX9_grant_35 : decode cX9_grant 35 = .ok (.iload_n 1, 1) := by decide +kernel
theorem dX9_grant_36 : decode cX9_grant 36 = .ok (.iload_n 2, 1) := by decide +kernel
theorem dX9_grant_37 : decode cX9_grant 37 = .ok (.iload_n 3, 1) := by decide +kernel
theorem dX9_grant_38 : decode cX9_grant 38 = .ok (.iload 4, 2) := by decide +kernel
theorem dX9_grant_40 : decode cX9_grant 40 = .ok (.iconst 0, 1) := by decide +kernel
theorem dX9_grant_41 : decode cX9_grant 41 = .ok (.aload_n 0, 1) := by decide +kernel
theorem dX9_grant_42 : decode cX9_grant 42 = .ok (.getfield 10, 3) := by decide +kernel
theorem dX9_grant_45 : decode cX9_grant 45 = .ok (.getfield 111, 3) := by decide +kernel
theorem dX9_grant_48 : decode cX9_grant 48 = .ok (.iload 5, 2) := by decide +kernel
theorem dX9_grant_50 : decode cX9_grant 50 = .ok (.iadd, 1) := by decide +kernel
theorem dX9_grant_51 : decode cX9_grant 51 = .ok (.invokevirtual 126, 3) := by decide +kernel
theorem dX9_grant_54 : decode cX9_grant 54 = .ok (.invokevirtual 129, 3) := by decide +kernel
theorem dX9_grant_57 : decode cX9_grant 57 = .ok (.ireturn, 1) := by decide +kernel
theorem dX9_origin_0 : decode cX9_origin 0 = .ok (.aload_n 0, 1) := by decide +kernel
theorem dX9_origin_1 : decode cX9_origin 1 = .ok (.iload_n 1, 1) := by decide +kernel
theorem dX9_origin_2 : decode cX9_origin 2 = .ok (.invokevirtual 73, 3) := by decide +kernel
theorem dX9_origin_5 : decode cX9_origin 5 = .ok (.iload_n 2, 1) := by decide +kernel
theorem dX9_origin_6 : decode cX9_origin 6 = .ok (.invokestatic 92, 3) := by decide +kernel
theorem dX9_origin_9 : decode cX9_origin 9 = .ok (.iload_n 3, 1) := by decide +kernel
theorem dX9_origin_10 : decode cX9_origin 10 = .ok (.iload 4, 2) := by decide +kernel
theorem dX9_origin_12 : decode cX9_origin 12 = .ok (.invokestatic 119, 3) := by decide +kernel
theorem dX9_origin_15 : decode cX9_origin 15 = .ok (.iload 5, 2) := by decide +kernel
theorem dX9_origin_17 : decode cX9_origin 17 = .ok (.iconst 0, 1) := by decide +kernel
theorem dX9_origin_18 : decode cX9_origin 18 = .ok (.bipush 8, 2) := by decide +kernel
theorem dX9_origin_20 : decode cX9_origin 20 = .ok (.invokestatic 104, 3) := by decide +kernel
theorem dX9_origin_23 : decode cX9_origin 23 = .ok (.iload 6, 2) := by decide +kernel
theorem dX9_origin_25 : decode cX9_origin 25 = .ok (.iconst 0, 1) := by decide +kernel
theorem dX9_origin_26 : decode cX9_origin 26 = .ok (.sipush 1000, 3) := by decide +kernel
theorem dX9_origin_29 : decode cX9_origin 29 = .ok (.invokestatic 104, 3) := by decide +kernel
theorem dX9_origin_32 : decode cX9_origin 32 = .ok (.aload_n 0, 1) := by decide +kernel
theorem dX9_origin_33 : decode cX9_origin 33 = .ok (.invokevirtual 123, 3) := by decide +kernel
theorem dX9_origin_36 : decode cX9_origin 36 = .ok (.aload_n 0, 1) := by decide +kernel
theorem dX9_origin_37 : decode cX9_origin 37 = .ok (.aload_n 0, 1) := by decide +kernel
theorem dX9_origin_38 : decode cX9_origin 38 = .ok (.getfield 19, 3) := by decide +kernel
theorem dX9_origin_41 : decode cX9_origin 41 = .ok (.iconst 1, 1) := by decide +kernel
theorem dX9_origin_42 : decode cX9_origin 42 = .ok (.iload_n 1, 1) := by decide +kernel
theorem dX9_origin_43 : decode cX9_origin 43 = .ok (.iload_n 2, 1) := by decide +kernel
theorem dX9_origin_44 : decode cX9_origin 44 = .ok (.iload_n 3, 1) := by decide +kernel
theorem dX9_origin_45 : decode cX9_origin 45 = .ok (.iload 4, 2) := by decide +kernel
theorem dX9_origin_47 : decode cX9_origin 47 = .ok (.iload 5, 2) := by decide +kernel
theorem dX9_origin_49 : decode cX9_origin 49 = .ok (.aload_n 0, 1) := by decide +kernel
theorem dX9_origin_50 : decode cX9_origin 50 = .ok (.getfield 10, 3) := by decide +kernel
theorem dX9_origin_53 : decode cX9_origin 53 = .ok (.getfield 111, 3) := by decide +kernel
theorem dX9_origin_56 : decode cX9_origin 56 = .ok (.iload 6, 2) := by decide +kernel
theorem dX9_origin_58 : decode cX9_origin 58 = .ok (.iadd, 1) := by decide +kernel
theorem dX9_origin_59 : decode cX9_origin 59 = .ok (.invokevirtual 126, 3) := by decide +kernel
theorem dX9_origin_62 : decode cX9_origin 62 = .ok (.invokevirtual 129, 3) := by decide +kernel
theorem dX9_origin_65 : decode cX9_origin 65 = .ok (.ireturn, 1) := by decide +kernel
theorem dX9_vouch_0 : decode cX9_vouch 0 = .ok (.aload_n 0, 1) := by decide +kernel
theorem dX9_vouch_1 : decode cX9_vouch 1 = .ok (.iload_n 1, 1) := by decide +kernel
theorem dX9_vouch_2 : decode cX9_vouch 2 = .ok (.invokevirtual 73, 3) := by decide +kernel
theorem dX9_vouch_5 : decode cX9_vouch 5 = .ok (.iload_n 2, 1) := by decide +kernel
theorem dX9_vouch_6 : decode cX9_vouch 6 = .ok (.invokestatic 92, 3) := by decide +kernel
theorem dX9_vouch_9 : decode cX9_vouch 9 = .ok (.iload_n 3, 1) := by decide +kernel
theorem dX9_vouch_10 : decode cX9_vouch 10 = .ok (.iconst 0, 1) := by decide +kernel
theorem dX9_vouch_11 : decode cX9_vouch 11 = .ok (.sipush 1023, 3) := by decide +kernel
theorem dX9_vouch_14 : decode cX9_vouch 14 = .ok (.invokestatic 104, 3) := by decide +kernel
theorem dX9_vouch_17 : decode cX9_vouch 17 = .ok (.iload 4, 2) := by decide +kernel
theorem dX9_vouch_19 : decode cX9_vouch 19 = .ok (.iconst 0, 1) := by decide +kernel
theorem dX9_vouch_20 : decode cX9_vouch 20 = .ok (.sipush 1000, 3) := by decide +kernel
theorem dX9_vouch_23 : decode cX9_vouch 23 = .ok (.invokestatic 104, 3) := by decide +kernel
theorem dX9_vouch_26 : decode cX9_vouch 26 = .ok (.aload_n 0, 1) := by decide +kernel
theorem dX9_vouch_27 : decode cX9_vouch 27 = .ok (.invokevirtual 123, 3) := by decide +kernel
theorem dX9_vouch_30 : decode cX9_vouch 30 = .ok (.aload_n 0, 1) := by decide +kernel
theorem dX9_vouch_31 : decode cX9_vouch 31 = .ok (.aload_n 0, 1) := by decide +kernel
theorem dX9_vouch_32 : decode cX9_vouch 32 = .ok (.getfield 19, 3) := by decide +kernel
theorem dX9_vouch_35 : decode cX9_vouch 35 = .ok (.iconst 2, 1) := by decide +kernel
theorem dX9_vouch_36 : decode cX9_vouch 36 = .ok (.iload_n 1, 1) := by decide +kernel
theorem dX9_vouch_37 : decode cX9_vouch 37 = .ok (.iload_n 2, 1) := by decide +kernel
theorem dX9_vouch_38 : decode cX9_vouch 38 = .ok (.iconst 0, 1) := by decide +kernel
theorem dX9_vouch_39 : decode cX9_vouch 39 = .ok (.iconst 0, 1) := by decide +kernel
theorem dX9_vouch_40 : decode cX9_vouch 40 = .ok (.iload_n 3, 1) := by decide +kernel
theorem dX9_vouch_41 : decode cX9_vouch 41 = .ok (.aload_n 0, 1) := by decide +kernel
theorem dX9_vouch_42 : decode cX9_vouch 42 = .ok (.getfield 10, 3) := by decide +kernel
theorem dX9_vouch_45 : decode cX9_vouch 45 = .ok (.getfield 111, 3) := by decide +kernel
theorem dX9_vouch_48 : decode cX9_vouch 48 = .ok (.iload 4, 2) := by decide +kernel
theorem dX9_vouch_50 : decode cX9_vouch 50 = .ok (.iadd, 1) := by decide +kernel
theorem dX9_vouch_51 : decode cX9_vouch 51 = .ok (.invokevirtual 126, 3) := by decide +kernel
theorem dX9_vouch_54 : decode cX9_vouch 54 = .ok (.invokevirtual 129, 3) := by decide +kernel
theorem dX9_vouch_57 : decode cX9_vouch 57 = .ok (.ireturn, 1) := by decide +kernel
theorem dX9_revoke_0 : decode cX9_revoke 0 = .ok (.aload_n 0, 1) := by decide +kernel
theorem dX9_revoke_1 : decode cX9_revoke 1 = .ok (.iload_n 1, 1) := by decide +kernel
theorem dX9_revoke_2 : decode cX9_revoke 2 = .ok (.invokevirtual 132, 3) := by decide +kernel
theorem dX9_revoke_5 : decode cX9_revoke 5 = .ok (.aload_n 0, 1) := by decide +kernel
theorem dX9_revoke_6 : decode cX9_revoke 6 = .ok (.getfield 19, 3) := by decide +kernel
theorem dX9_revoke_9 : decode cX9_revoke 9 = .ok (.getfield 135, 3) := by decide +kernel
theorem dX9_revoke_12 : decode cX9_revoke 12 = .ok (.iload_n 1, 1) := by decide +kernel
theorem dX9_revoke_13 : decode cX9_revoke 13 = .ok (.baload, 1) := by decide +kernel
theorem dX9_revoke_14 : decode cX9_revoke 14 = .ok (.ifCond .ne 7, 3) := by decide +kernel
theorem dX9_revoke_17 : decode cX9_revoke 17 = .ok (.iconst 1, 1) := by decide +kernel
theorem dX9_revoke_18 : decode cX9_revoke 18 = .ok (.goto 4, 3) := by decide +kernel
theorem dX9_revoke_21 : decode cX9_revoke 21 = .ok (.iconst 0, 1) := by decide +kernel
theorem dX9_revoke_22 : decode cX9_revoke 22 = .ok (.istore_n 2, 1) := by decide +kernel
theorem dX9_revoke_23 : decode cX9_revoke 23 = .ok (.aload_n 0, 1) := by decide +kernel
theorem dX9_revoke_24 : decode cX9_revoke 24 = .ok (.getfield 19, 3) := by decide +kernel
theorem dX9_revoke_27 : decode cX9_revoke 27 = .ok (.getfield 135, 3) := by decide +kernel
theorem dX9_revoke_30 : decode cX9_revoke 30 = .ok (.iload_n 1, 1) := by decide +kernel
theorem dX9_revoke_31 : decode cX9_revoke 31 = .ok (.iconst 1, 1) := by decide +kernel
theorem dX9_revoke_32 : decode cX9_revoke 32 = .ok (.bastore, 1) := by decide +kernel
theorem dX9_revoke_33 : decode cX9_revoke 33 = .ok (.iload_n 2, 1) := by decide +kernel
theorem dX9_revoke_34 : decode cX9_revoke 34 = .ok (.ireturn, 1) := by decide +kernel
theorem dX9_alter_0 : decode cX9_alter 0 = .ok (.aload_n 0, 1) := by decide +kernel
theorem dX9_alter_1 : decode cX9_alter 1 = .ok (.iload_n 1, 1) := by decide +kernel
theorem dX9_alter_2 : decode cX9_alter 2 = .ok (.invokevirtual 132, 3) := by decide +kernel
theorem dX9_alter_5 : decode cX9_alter 5 = .ok (.aload_n 0, 1) := by decide +kernel
theorem dX9_alter_6 : decode cX9_alter 6 = .ok (.getfield 19, 3) := by decide +kernel
theorem dX9_alter_9 : decode cX9_alter 9 = .ok (.getfield 139, 3) := by decide +kernel
theorem dX9_alter_12 : decode cX9_alter 12 = .ok (.iload_n 1, 1) := by decide +kernel
theorem dX9_alter_13 : decode cX9_alter 13 = .ok (.iaload, 1) := by decide +kernel
theorem dX9_alter_14 : decode cX9_alter 14 = .ok (.ifCond .ne 13, 3) := by decide +kernel
theorem dX9_alter_17 : decode cX9_alter 17 = .ok (.new 81, 3) := by decide +kernel
theorem dX9_alter_20 : decode cX9_alter 20 = .ok (.dup, 1) := by decide +kernel
theorem dX9_alter_21 : decode cX9_alter 21 = .ok (.ldc 142, 2) := by decide +kernel
theorem dX9_alter_23 : decode cX9_alter 23 = .ok (.invokespecial 85, 3) := by decide +kernel
theorem dX9_alter_26 : decode cX9_alter 26 = .ok (.athrow, 1) := by decide +kernel
theorem dX9_alter_27 : decode cX9_alter 27 = .ok (.iload_n 2, 1) := by decide +kernel
theorem dX9_alter_28 : decode cX9_alter 28 = .ok (.iconst 0, 1) := by decide +kernel
theorem dX9_alter_29 : decode cX9_alter 29 = .ok (.aload_n 0, 1) := by decide +kernel
theorem dX9_alter_30 : decode cX9_alter 30 = .ok (.getfield 19, 3) := by decide +kernel
theorem dX9_alter_33 : decode cX9_alter 33 = .ok (.getfield 139, 3) := by decide +kernel
theorem dX9_alter_36 : decode cX9_alter 36 = .ok (.iload_n 1, 1) := by decide +kernel
theorem dX9_alter_37 : decode cX9_alter 37 = .ok (.iaload, 1) := by decide +kernel
theorem dX9_alter_38 : decode cX9_alter 38 = .ok (.iconst 1, 1) := by decide +kernel
theorem dX9_alter_39 : decode cX9_alter 39 = .ok (.if_icmp .ne 8, 3) := by decide +kernel
theorem dX9_alter_42 : decode cX9_alter 42 = .ok (.bipush 8, 2) := by decide +kernel
theorem dX9_alter_44 : decode cX9_alter 44 = .ok (.goto 6, 3) := by decide +kernel
theorem dX9_alter_47 : decode cX9_alter 47 = .ok (.sipush 1023, 3) := by decide +kernel
theorem dX9_alter_50 : decode cX9_alter 50 = .ok (.invokestatic 104, 3) := by decide +kernel
theorem dX9_alter_53 : decode cX9_alter 53 = .ok (.aload_n 0, 1) := by decide +kernel
theorem dX9_alter_54 : decode cX9_alter 54 = .ok (.getfield 19, 3) := by decide +kernel
theorem dX9_alter_57 : decode cX9_alter 57 = .ok (.getfield 144, 3) := by decide +kernel
theorem dX9_alter_60 : decode cX9_alter 60 = .ok (.iload_n 1, 1) := by decide +kernel
theorem dX9_alter_61 : decode cX9_alter 61 = .ok (.iaload, 1) := by decide +kernel
theorem dX9_alter_62 : decode cX9_alter 62 = .ok (.istore_n 3, 1) := by decide +kernel
theorem dX9_alter_63 : decode cX9_alter 63 = .ok (.aload_n 0, 1) := by decide +kernel
theorem dX9_alter_64 : decode cX9_alter 64 = .ok (.getfield 19, 3) := by decide +kernel
theorem dX9_alter_67 : decode cX9_alter 67 = .ok (.getfield 144, 3) := by decide +kernel
theorem dX9_alter_70 : decode cX9_alter 70 = .ok (.iload_n 1, 1) := by decide +kernel
theorem dX9_alter_71 : decode cX9_alter 71 = .ok (.iload_n 2, 1) := by decide +kernel
theorem dX9_alter_72 : decode cX9_alter 72 = .ok (.iastore, 1) := by decide +kernel
theorem dX9_alter_73 : decode cX9_alter 73 = .ok (.iload_n 3, 1) := by decide +kernel
theorem dX9_alter_74 : decode cX9_alter 74 = .ok (.ireturn, 1) := by decide +kernel
theorem dX9_sign_0 : decode cX9_sign 0 = .ok (.aload_n 0, 1) := by decide +kernel
theorem dX9_sign_1 : decode cX9_sign 1 = .ok (.iload_n 1, 1) := by decide +kernel
theorem dX9_sign_2 : decode cX9_sign 2 = .ok (.invokevirtual 132, 3) := by decide +kernel
theorem dX9_sign_5 : decode cX9_sign 5 = .ok (.aload_n 0, 1) := by decide +kernel
theorem dX9_sign_6 : decode cX9_sign 6 = .ok (.iload_n 1, 1) := by decide +kernel
theorem dX9_sign_7 : decode cX9_sign 7 = .ok (.invokevirtual 147, 3) := by decide +kernel
theorem dX9_sign_10 : decode cX9_sign 10 = .ok (.ireturn, 1) := by decide +kernel
theorem dX9_hop_0 : decode cX9_hop 0 = .ok (.iload_n 1, 1) := by decide +kernel
theorem dX9_hop_1 : decode cX9_hop 1 = .ok (.invokestatic 92, 3) := by decide +kernel
theorem dX9_hop_4 : decode cX9_hop 4 = .ok (.aload_n 0, 1) := by decide +kernel
theorem dX9_hop_5 : decode cX9_hop 5 = .ok (.getfield 35, 3) := by decide +kernel
theorem dX9_hop_8 : decode cX9_hop 8 = .ok (.getfield 150, 3) := by decide +kernel
theorem dX9_hop_11 : decode cX9_hop 11 = .ok (.bipush 6, 2) := by decide +kernel
theorem dX9_hop_13 : decode cX9_hop 13 = .ok (.if_icmp .lt 13, 3) := by decide +kernel
theorem dX9_hop_16 : decode cX9_hop 16 = .ok (.new 81, 3) := by decide +kernel
theorem dX9_hop_19 : decode cX9_hop 19 = .ok (.dup, 1) := by decide +kernel
theorem dX9_hop_20 : decode cX9_hop 20 = .ok (.ldc 153, 2) := by decide +kernel
theorem dX9_hop_22 : decode cX9_hop 22 = .ok (.invokespecial 85, 3) := by decide +kernel
theorem dX9_hop_25 : decode cX9_hop 25 = .ok (.athrow, 1) := by decide +kernel
theorem dX9_hop_26 : decode cX9_hop 26 = .ok (.aload_n 0, 1) := by decide +kernel
theorem dX9_hop_27 : decode cX9_hop 27 = .ok (.getfield 35, 3) := by decide +kernel
theorem dX9_hop_30 : decode cX9_hop 30 = .ok (.getfield 155, 3) := by decide +kernel
theorem dX9_hop_33 : decode cX9_hop 33 = .ok (.aload_n 0, 1) := by decide +kernel
theorem dX9_hop_34 : decode cX9_hop 34 = .ok (.getfield 35, 3) := by decide +kernel
theorem dX9_hop_37 : decode cX9_hop 37 = .ok (.getfield 150, 3) := by decide +kernel
theorem dX9_hop_40 : decode cX9_hop 40 = .ok (.iload_n 1, 1) := by decide +kernel
theorem dX9_hop_41 : decode cX9_hop 41 = .ok (.iastore, 1) := by decide +kernel
theorem dX9_hop_42 : decode cX9_hop 42 = .ok (.aload_n 0, 1) := by decide +kernel
theorem dX9_hop_43 : decode cX9_hop 43 = .ok (.getfield 35, 3) := by decide +kernel
theorem dX9_hop_46 : decode cX9_hop 46 = .ok (.dup, 1) := by decide +kernel
theorem dX9_hop_47 : decode cX9_hop 47 = .ok (.getfield 150, 3) := by decide +kernel
theorem dX9_hop_50 : decode cX9_hop 50 = .ok (.iconst 1, 1) := by decide +kernel
theorem dX9_hop_51 : decode cX9_hop 51 = .ok (.iadd, 1) := by decide +kernel
theorem dX9_hop_52 : decode cX9_hop 52 = .ok (.putfield 150, 3) := by decide +kernel
theorem dX9_hop_55 : decode cX9_hop 55 = .ok (.aload_n 0, 1) := by decide +kernel
theorem dX9_hop_56 : decode cX9_hop 56 = .ok (.getfield 35, 3) := by decide +kernel
theorem dX9_hop_59 : decode cX9_hop 59 = .ok (.getfield 150, 3) := by decide +kernel
theorem dX9_hop_62 : decode cX9_hop 62 = .ok (.ireturn, 1) := by decide +kernel
theorem dX9_hear_0 : decode cX9_hear 0 = .ok (.iload_n 1, 1) := by decide +kernel
theorem dX9_hear_1 : decode cX9_hear 1 = .ok (.iload_n 2, 1) := by decide +kernel
theorem dX9_hear_2 : decode cX9_hear 2 = .ok (.invokestatic 119, 3) := by decide +kernel
theorem dX9_hear_5 : decode cX9_hear 5 = .ok (.aload_n 0, 1) := by decide +kernel
theorem dX9_hear_6 : decode cX9_hear 6 = .ok (.getfield 35, 3) := by decide +kernel
theorem dX9_hear_9 : decode cX9_hear 9 = .ok (.getfield 150, 3) := by decide +kernel
theorem dX9_hear_12 : decode cX9_hear 12 = .ok (.ifCond .eq 15, 3) := by decide +kernel
theorem dX9_hear_15 : decode cX9_hear 15 = .ok (.aload_n 0, 1) := by decide +kernel
theorem dX9_hear_16 : decode cX9_hear 16 = .ok (.getfield 35, 3) := by decide +kernel
theorem dX9_hear_19 : decode cX9_hear 19 = .ok (.getfield 158, 3) := by decide +kernel
theorem dX9_hear_22 : decode cX9_hear 22 = .ok (.bipush 24, 2) := by decide +kernel
theorem dX9_hear_24 : decode cX9_hear 24 = .ok (.if_icmp .lt 13, 3) := by decide +kernel
theorem dX9_hear_27 : decode cX9_hear 27 = .ok (.new 81, 3) := by decide +kernel
theorem dX9_hear_30 : decode cX9_hear 30 = .ok (.dup, 1) := by decide +kernel
theorem dX9_hear_31 : decode cX9_hear 31 = .ok (.ldc 159, 2) := by decide +kernel
theorem dX9_hear_33 : decode cX9_hear 33 = .ok (.invokespecial 85, 3) := by decide +kernel
theorem dX9_hear_36 : decode cX9_hear 36 = .ok (.athrow, 1) := by decide +kernel
theorem dX9_hear_37 : decode cX9_hear 37 = .ok (.aload_n 0, 1) := by decide +kernel
theorem dX9_hear_38 : decode cX9_hear 38 = .ok (.getfield 35, 3) := by decide +kernel
theorem dX9_hear_41 : decode cX9_hear 41 = .ok (.iload_n 1, 1) := by decide +kernel
theorem dX9_hear_42 : decode cX9_hear 42 = .ok (.iload_n 2, 1) := by decide +kernel
theorem dX9_hear_43 : decode cX9_hear 43 = .ok (.invokevirtual 161, 3) := by decide +kernel
theorem dX9_hear_46 : decode cX9_hear 46 = .ok (.ireturn, 1) := by decide +kernel
theorem dX9_withdraw_0 : decode cX9_withdraw 0 = .ok (.iload_n 1, 1) := by decide +kernel
theorem dX9_withdraw_1 : decode cX9_withdraw 1 = .ok (.ifCond .lt 14, 3) := by decide +kernel
theorem dX9_withdraw_4 : decode cX9_withdraw 4 = .ok (.iload_n 1, 1) := by decide +kernel
theorem dX9_withdraw_5 : decode cX9_withdraw 5 = .ok (.aload_n 0, 1) := by decide +kernel
theorem dX9_withdraw_6 : decode cX9_withdraw 6 = .ok (.getfield 35, 3) := by decide +kernel
theorem dX9_withdraw_9 : decode cX9_withdraw 9 = .ok (.getfield 158, 3) := by decide +kernel
theorem dX9_withdraw_12 : decode cX9_withdraw 12 = .ok (.if_icmp .lt 13, 3) := by decide +kernel
theorem dX9_withdraw_15 : decode cX9_withdraw 15 = .ok (.new 165, 3) := by decide +kernel
theorem dX9_withdraw_18 : decode cX9_withdraw 18 = .ok (.dup, 1) := by decide +kernel
theorem dX9_withdraw_19 : decode cX9_withdraw 19 = .ok (.ldc 167, 2) := by decide +kernel
theorem dX9_withdraw_21 : decode cX9_withdraw 21 = .ok (.invokespecial 169, 3) := by decide +kernel
theorem dX9_withdraw_24 : decode cX9_withdraw 24 = .ok (.athrow, 1) := by decide +kernel
theorem dX9_withdraw_25 : decode cX9_withdraw 25 = .ok (.aload_n 0, 1) := by decide +kernel
theorem dX9_withdraw_26 : decode cX9_withdraw 26 = .ok (.getfield 35, 3) := by decide +kernel
theorem dX9_withdraw_29 : decode cX9_withdraw 29 = .ok (.getfield 170, 3) := by decide +kernel
theorem dX9_withdraw_32 : decode cX9_withdraw 32 = .ok (.iload_n 1, 1) := by decide +kernel
theorem dX9_withdraw_33 : decode cX9_withdraw 33 = .ok (.baload, 1) := by decide +kernel
theorem dX9_withdraw_34 : decode cX9_withdraw 34 = .ok (.ifCond .eq 13, 3) := by decide +kernel
theorem dX9_withdraw_37 : decode cX9_withdraw 37 = .ok (.new 81, 3) := by decide +kernel
theorem dX9_withdraw_40 : decode cX9_withdraw 40 = .ok (.dup, 1) := by decide +kernel
theorem dX9_withdraw_41 : decode cX9_withdraw 41 = .ok (.ldc 173, 2) := by decide +kernel
theorem dX9_withdraw_43 : decode cX9_withdraw 43 = .ok (.invokespecial 85, 3) := by decide +kernel
theorem dX9_withdraw_46 : decode cX9_withdraw 46 = .ok (.athrow, 1) := by decide +kernel
theorem dX9_withdraw_47 : decode cX9_withdraw 47 = .ok (.aload_n 0, 1) := by decide +kernel
theorem dX9_withdraw_48 : decode cX9_withdraw 48 = .ok (.getfield 35, 3) := by decide +kernel
theorem dX9_withdraw_51 : decode cX9_withdraw 51 = .ok (.getfield 170, 3) := by decide +kernel
theorem dX9_withdraw_54 : decode cX9_withdraw 54 = .ok (.iload_n 1, 1) := by decide +kernel
theorem dX9_withdraw_55 : decode cX9_withdraw 55 = .ok (.iconst 1, 1) := by decide +kernel
theorem dX9_withdraw_56 : decode cX9_withdraw 56 = .ok (.bastore, 1) := by decide +kernel
theorem dX9_withdraw_57 : decode cX9_withdraw 57 = .ok (.aload_n 0, 1) := by decide +kernel
theorem dX9_withdraw_58 : decode cX9_withdraw 58 = .ok (.getfield 35, 3) := by decide +kernel
theorem dX9_withdraw_61 : decode cX9_withdraw 61 = .ok (.dup, 1) := by decide +kernel
theorem dX9_withdraw_62 : decode cX9_withdraw 62 = .ok (.getfield 175, 3) := by decide +kernel
theorem dX9_withdraw_65 : decode cX9_withdraw 65 = .ok (.iconst 1, 1) := by decide +kernel
theorem dX9_withdraw_66 : decode cX9_withdraw 66 = .ok (.isub, 1) := by decide +kernel
theorem dX9_withdraw_67 : decode cX9_withdraw 67 = .ok (.putfield 175, 3) := by decide +kernel
theorem dX9_withdraw_70 : decode cX9_withdraw 70 = .ok (.aload_n 0, 1) := by decide +kernel
theorem dX9_withdraw_71 : decode cX9_withdraw 71 = .ok (.getfield 35, 3) := by decide +kernel
theorem dX9_withdraw_74 : decode cX9_withdraw 74 = .ok (.getfield 175, 3) := by decide +kernel
theorem dX9_withdraw_77 : decode cX9_withdraw 77 = .ok (.ireturn, 1) := by decide +kernel
theorem dX9_tie_0 : decode cX9_tie 0 = .ok (.iload_n 1, 1) := by decide +kernel
theorem dX9_tie_1 : decode cX9_tie 1 = .ok (.invokestatic 92, 3) := by decide +kernel
theorem dX9_tie_4 : decode cX9_tie 4 = .ok (.iload_n 2, 1) := by decide +kernel
theorem dX9_tie_5 : decode cX9_tie 5 = .ok (.invokestatic 92, 3) := by decide +kernel
theorem dX9_tie_8 : decode cX9_tie 8 = .ok (.iload_n 1, 1) := by decide +kernel
theorem dX9_tie_9 : decode cX9_tie 9 = .ok (.iload_n 2, 1) := by decide +kernel
theorem dX9_tie_10 : decode cX9_tie 10 = .ok (.if_icmp .ne 13, 3) := by decide +kernel
theorem dX9_tie_13 : decode cX9_tie 13 = .ok (.new 178, 3) := by decide +kernel
theorem dX9_tie_16 : decode cX9_tie 16 = .ok (.dup, 1) := by decide +kernel
theorem dX9_tie_17 : decode cX9_tie 17 = .ok (.ldc 180, 2) := by decide +kernel
theorem dX9_tie_19 : decode cX9_tie 19 = .ok (.invokespecial 182, 3) := by decide +kernel
theorem dX9_tie_22 : decode cX9_tie 22 = .ok (.athrow, 1) := by decide +kernel
theorem dX9_tie_23 : decode cX9_tie 23 = .ok (.iload_n 3, 1) := by decide +kernel
theorem dX9_tie_24 : decode cX9_tie 24 = .ok (.iconst 0, 1) := by decide +kernel
theorem dX9_tie_25 : decode cX9_tie 25 = .ok (.iconst 3, 1) := by decide +kernel
theorem dX9_tie_26 : decode cX9_tie 26 = .ok (.invokestatic 104, 3) := by decide +kernel
theorem dX9_tie_29 : decode cX9_tie 29 = .ok (.aload_n 0, 1) := by decide +kernel
theorem dX9_tie_30 : decode cX9_tie 30 = .ok (.getfield 42, 3) := by decide +kernel
theorem dX9_tie_33 : decode cX9_tie 33 = .ok (.iload_n 1, 1) := by decide +kernel
theorem dX9_tie_34 : decode cX9_tie 34 = .ok (.iload_n 2, 1) := by decide +kernel
theorem dX9_tie_35 : decode cX9_tie 35 = .ok (.invokevirtual 183, 3) := by decide +kernel
theorem dX9_tie_38 : decode cX9_tie 38 = .ok (.istore 4, 2) := by decide +kernel
theorem dX9_tie_40 : decode cX9_tie 40 = .ok (.aload_n 0, 1) := by decide +kernel
theorem dX9_tie_41 : decode cX9_tie 41 = .ok (.getfield 42, 3) := by decide +kernel
theorem dX9_tie_44 : decode cX9_tie 44 = .ok (.iload_n 1, 1) := by decide +kernel
theorem dX9_tie_45 : decode cX9_tie 45 = .ok (.iload_n 2, 1) := by decide +kernel
theorem dX9_tie_46 : decode cX9_tie 46 = .ok (.iload_n 3, 1) := by decide +kernel
theorem dX9_tie_47 : decode cX9_tie 47 = .ok (.invokevirtual 186, 3) := by decide +kernel
theorem dX9_tie_50 : decode cX9_tie 50 = .ok (.iload 4, 2) := by decide +kernel
theorem dX9_tie_52 : decode cX9_tie 52 = .ok (.ireturn, 1) := by decide +kernel
theorem dX9_today_0 : decode cX9_today 0 = .ok (.aload_n 0, 1) := by decide +kernel
theorem dX9_today_1 : decode cX9_today 1 = .ok (.getfield 10, 3) := by decide +kernel
theorem dX9_today_4 : decode cX9_today 4 = .ok (.getfield 111, 3) := by decide +kernel
theorem dX9_today_7 : decode cX9_today 7 = .ok (.ireturn, 1) := by decide +kernel
theorem dX9_judged_0 : decode cX9_judged 0 = .ok (.aload_n 0, 1) := by decide +kernel
theorem dX9_judged_1 : decode cX9_judged 1 = .ok (.iload_n 1, 1) := by decide +kernel
theorem dX9_judged_2 : decode cX9_judged 2 = .ok (.invokevirtual 132, 3) := by decide +kernel
theorem dX9_judged_5 : decode cX9_judged 5 = .ok (.aload_n 0, 1) := by decide +kernel
theorem dX9_judged_6 : decode cX9_judged 6 = .ok (.getfield 28, 3) := by decide +kernel
theorem dX9_judged_9 : decode cX9_judged 9 = .ok (.invokevirtual 190, 3) := by decide +kernel
theorem dX9_judged_12 : decode cX9_judged 12 = .ok (.aload_n 0, 1) := by decide +kernel
theorem dX9_judged_13 : decode cX9_judged 13 = .ok (.getfield 28, 3) := by decide +kernel
theorem dX9_judged_16 : decode cX9_judged 16 = .ok (.getfield 193, 3) := by decide +kernel
theorem dX9_judged_19 : decode cX9_judged 19 = .ok (.iload_n 1, 1) := by decide +kernel
theorem dX9_judged_20 : decode cX9_judged 20 = .ok (.iaload, 1) := by decide +kernel
theorem dX9_judged_21 : decode cX9_judged 21 = .ok (.ireturn, 1) := by decide +kernel
theorem dX9_has_0 : decode cX9_has 0 = .ok (.aload_n 0, 1) := by decide +kernel
theorem dX9_has_1 : decode cX9_has 1 = .ok (.iload_n 1, 1) := by decide +kernel
theorem dX9_has_2 : decode cX9_has 2 = .ok (.invokevirtual 73, 3) := by decide +kernel
theorem dX9_has_5 : decode cX9_has 5 = .ok (.iload_n 2, 1) := by decide +kernel
theorem dX9_has_6 : decode cX9_has 6 = .ok (.iload_n 3, 1) := by decide +kernel
theorem dX9_has_7 : decode cX9_has 7 = .ok (.invokestatic 119, 3) := by decide +kernel
theorem dX9_has_10 : decode cX9_has 10 = .ok (.aload_n 0, 1) := by decide +kernel
theorem dX9_has_11 : decode cX9_has 11 = .ok (.getfield 28, 3) := by decide +kernel
theorem dX9_has_14 : decode cX9_has 14 = .ok (.invokevirtual 190, 3) := by decide +kernel
theorem dX9_has_17 : decode cX9_has 17 = .ok (.aload_n 0, 1) := by decide +kernel
theorem dX9_has_18 : decode cX9_has 18 = .ok (.getfield 28, 3) := by decide +kernel
theorem dX9_has_21 : decode cX9_has 21 = .ok (.iload_n 1, 1) := by decide +kernel
theorem dX9_has_22 : decode cX9_has 22 = .ok (.iload_n 2, 1) := by decide +kernel
theorem dX9_has_23 : decode cX9_has 23 = .ok (.iload_n 3, 1) := by decide +kernel
theorem dX9_has_24 : decode cX9_has 24 = .ok (.invokevirtual 196, 3) := by decide +kernel
theorem dX9_has_27 : decode cX9_has 27 = .ok (.ireturn, 1) := by decide +kernel
theorem dX9_hasByChains_0 : decode cX9_hasByChains 0 = .ok (.aload_n 0, 1) := by decide +kernel
theorem dX9_hasByChains_1 : decode cX9_hasByChains 1 = .ok (.iload_n 1, 1) := by decide +kernel
theorem dX9_hasByChains_2 : decode cX9_hasByChains 2 = .ok (.invokevirtual 73, 3) := by decide +kernel
theorem dX9_hasByChains_5 : decode cX9_hasByChains 5 = .ok (.iload_n 2, 1) := by decide +kernel
theorem dX9_hasByChains_6 : decode cX9_hasByChains 6 = .ok (.iload_n 3, 1) := by decide +kernel
theorem dX9_hasByChains_7 : decode cX9_hasByChains 7 = .ok (.invokestatic 119, 3) := by decide +kernel
theorem dX9_hasByChains_10 : decode cX9_hasByChains 10 = .ok (.aload_n 0, 1) := by decide +kernel
theorem dX9_hasByChains_11 : decode cX9_hasByChains 11 = .ok (.getfield 28, 3) := by decide +kernel
theorem dX9_hasByChains_14 : decode cX9_hasByChains 14 = .ok (.iload_n 1, 1) := by decide +kernel
theorem dX9_hasByChains_15 : decode cX9_hasByChains 15 = .ok (.iload_n 2, 1) := by decide +kernel
theorem dX9_hasByChains_16 : decode cX9_hasByChains 16 = .ok (.iload_n 3, 1) := by decide +kernel
theorem dX9_hasByChains_17 : decode cX9_hasByChains 17 = .ok (.invokevirtual 200, 3) := by decide +kernel
theorem dX9_hasByChains_20 : decode cX9_hasByChains 20 = .ok (.ireturn, 1) := by decide +kernel
theorem dX9_state_0 : decode cX9_state 0 = .ok (.iload_n 1, 1) := by decide +kernel
theorem dX9_state_1 : decode cX9_state 1 = .ok (.invokestatic 92, 3) := by decide +kernel
theorem dX9_state_4 : decode cX9_state 4 = .ok (.iload_n 2, 1) := by decide +kernel
theorem dX9_state_5 : decode cX9_state 5 = .ok (.iload_n 3, 1) := by decide +kernel
theorem dX9_state_6 : decode cX9_state 6 = .ok (.invokestatic 119, 3) := by decide +kernel
theorem dX9_state_9 : decode cX9_state 9 = .ok (.aload_n 0, 1) := by decide +kernel
theorem dX9_state_10 : decode cX9_state 10 = .ok (.getfield 28, 3) := by decide +kernel
theorem dX9_state_13 : decode cX9_state 13 = .ok (.invokevirtual 190, 3) := by decide +kernel
theorem dX9_state_16 : decode cX9_state 16 = .ok (.aload_n 0, 1) := by decide +kernel
theorem dX9_state_17 : decode cX9_state 17 = .ok (.getfield 28, 3) := by decide +kernel
theorem dX9_state_20 : decode cX9_state 20 = .ok (.iload_n 1, 1) := by decide +kernel
theorem dX9_state_21 : decode cX9_state 21 = .ok (.iload_n 2, 1) := by decide +kernel
theorem dX9_state_22 : decode cX9_state 22 = .ok (.iload_n 3, 1) := by decide +kernel
theorem dX9_state_23 : decode cX9_state 23 = .ok (.invokevirtual 203, 3) := by decide +kernel
theorem dX9_state_26 : decode cX9_state 26 = .ok (.ireturn, 1) := by decide +kernel
theorem dX9_routes_0 : decode cX9_routes 0 = .ok (.aload_n 0, 1) := by decide +kernel
theorem dX9_routes_1 : decode cX9_routes 1 = .ok (.getfield 35, 3) := by decide +kernel
theorem dX9_routes_4 : decode cX9_routes 4 = .ok (.getfield 158, 3) := by decide +kernel
theorem dX9_routes_7 : decode cX9_routes 7 = .ok (.ireturn, 1) := by decide +kernel
theorem dX9_path_0 : decode cX9_path 0 = .ok (.aload_n 0, 1) := by decide +kernel
theorem dX9_path_1 : decode cX9_path 1 = .ok (.iload_n 1, 1) := by decide +kernel
theorem dX9_path_2 : decode cX9_path 2 = .ok (.invokevirtual 207, 3) := by decide +kernel
theorem dX9_path_5 : decode cX9_path 5 = .ok (.aload_n 0, 1) := by decide +kernel
theorem dX9_path_6 : decode cX9_path 6 = .ok (.invokevirtual 210, 3) := by decide +kernel
theorem dX9_path_9 : decode cX9_path 9 = .ok (.aload_n 0, 1) := by decide +kernel
theorem dX9_path_10 : decode cX9_path 10 = .ok (.getfield 35, 3) := by decide +kernel
theorem dX9_path_13 : decode cX9_path 13 = .ok (.getfield 213, 3) := by decide +kernel
theorem dX9_path_16 : decode cX9_path 16 = .ok (.iload_n 1, 1) := by decide +kernel
theorem dX9_path_17 : decode cX9_path 17 = .ok (.aaload, 1) := by decide +kernel
theorem dX9_path_18 : decode cX9_path 18 = .ok (.astore_n 3, 1) := by decide +kernel
theorem dX9_path_19 : decode cX9_path 19 = .ok (.aload_n 0, 1) := by decide +kernel
theorem dX9_path_20 : decode cX9_path 20 = .ok (.getfield 35, 3) := by decide +kernel
theorem dX9_path_23 : decode cX9_path 23 = .ok (.getfield 217, 3) := by decide +kernel
theorem dX9_path_26 : decode cX9_path 26 = .ok (.iload_n 1, 1) := by decide +kernel
theorem dX9_path_27 : decode cX9_path 27 = .ok (.iaload, 1) := by decide +kernel
theorem dX9_path_28 : decode cX9_path 28 = .ok (.istore 4, 2) := by decide +kernel
theorem dX9_path_30 : decode cX9_path 30 = .ok (.iload_n 2, 1) := by decide +kernel
theorem dX9_path_31 : decode cX9_path 31 = .ok (.ifCond .eq 16, 3) := by decide +kernel
theorem dX9_path_34 : decode cX9_path 34 = .ok (.aload_n 0, 1) := by decide +kernel
theorem dX9_path_35 : decode cX9_path 35 = .ok (.getfield 51, 3) := by decide +kernel
theorem dX9_path_38 : decode cX9_path 38 = .ok (.aload_n 3, 1) := by decide +kernel
theorem dX9_path_39 : decode cX9_path 39 = .ok (.iload 4, 2) := by decide +kernel
theorem dX9_path_41 : decode cX9_path 41 = .ok (.invokevirtual 220, 3) := by decide +kernel
theorem dX9_path_44 : decode cX9_path 44 = .ok (.goto 13, 3) := by decide +kernel
theorem dX9_path_47 : decode cX9_path 47 = .ok (.aload_n 0, 1) := by decide +kernel
theorem dX9_path_48 : decode cX9_path 48 = .ok (.getfield 51, 3) := by decide +kernel
theorem dX9_path_51 : decode cX9_path 51 = .ok (.aload_n 3, 1) := by decide +kernel
theorem dX9_path_52 : decode cX9_path 52 = .ok (.iload 4, 2) := by decide +kernel
theorem dX9_path_54 : decode cX9_path 54 = .ok (.invokevirtual 224, 3) := by decide +kernel
theorem dX9_path_57 : decode cX9_path 57 = .ok (.ireturn, 1) := by decide +kernel
theorem dX9_leak_0 : decode cX9_leak 0 = .ok (.aload_n 0, 1) := by decide +kernel
theorem dX9_leak_1 : decode cX9_leak 1 = .ok (.iload_n 1, 1) := by decide +kernel
theorem dX9_leak_2 : decode cX9_leak 2 = .ok (.invokevirtual 207, 3) := by decide +kernel
theorem dX9_leak_5 : decode cX9_leak 5 = .ok (.aload_n 0, 1) := by decide +kernel
theorem dX9_leak_6 : decode cX9_leak 6 = .ok (.getfield 35, 3) := by decide +kernel
theorem dX9_leak_9 : decode cX9_leak 9 = .ok (.getfield 213, 3) := by decide +kernel
theorem dX9_leak_12 : decode cX9_leak 12 = .ok (.iload_n 1, 1) := by decide +kernel
theorem dX9_leak_13 : decode cX9_leak 13 = .ok (.aaload, 1) := by decide +kernel
theorem dX9_leak_14 : decode cX9_leak 14 = .ok (.astore_n 2, 1) := by decide +kernel
theorem dX9_leak_15 : decode cX9_leak 15 = .ok (.iconst 1, 1) := by decide +kernel
theorem dX9_leak_16 : decode cX9_leak 16 = .ok (.istore_n 3, 1) := by decide +kernel
theorem dX9_leak_17 : decode cX9_leak 17 = .ok (.iload_n 3, 1) := by decide +kernel
theorem dX9_leak_18 : decode cX9_leak 18 = .ok (.aload_n 0, 1) := by decide +kernel
theorem dX9_leak_19 : decode cX9_leak 19 = .ok (.getfield 35, 3) := by decide +kernel
theorem dX9_leak_22 : decode cX9_leak 22 = .ok (.getfield 217, 3) := by decide +kernel
theorem dX9_leak_25 : decode cX9_leak 25 = .ok (.iload_n 1, 1) := by decide +kernel
theorem dX9_leak_26 : decode cX9_leak 26 = .ok (.iaload, 1) := by decide +kernel
theorem dX9_leak_27 : decode cX9_leak 27 = .ok (.iconst 1, 1) := by decide +kernel
theorem dX9_leak_28 : decode cX9_leak 28 = .ok (.isub, 1) := by decide +kernel
theorem dX9_leak_29 : decode cX9_leak 29 = .ok (.if_icmp .ge 36, 3) := by decide +kernel
theorem dX9_leak_32 : decode cX9_leak 32 = .ok (.aload_n 0, 1) := by decide +kernel
theorem dX9_leak_33 : decode cX9_leak 33 = .ok (.getfield 42, 3) := by decide +kernel
theorem dX9_leak_36 : decode cX9_leak 36 = .ok (.aload_n 2, 1) := by decide +kernel
theorem dX9_leak_37 : decode cX9_leak 37 = .ok (.iload_n 3, 1) := by decide +kernel
theorem dX9_leak_38 : decode cX9_leak 38 = .ok (.iconst 1, 1) := by decide +kernel
theorem dX9_leak_39 : decode cX9_leak 39 = .ok (.isub, 1) := by decide +kernel
theorem dX9_leak_40 : decode cX9_leak 40 = .ok (.iaload, 1) := by decide +kernel
theorem dX9_leak_41 : decode cX9_leak 41 = .ok (.aload_n 2, 1) := by decide +kernel
theorem dX9_leak_42 : decode cX9_leak 42 = .ok (.iload_n 3, 1) := by decide +kernel
theorem dX9_leak_43 : decode cX9_leak 43 = .ok (.iaload, 1) := by decide +kernel
theorem dX9_leak_44 : decode cX9_leak 44 = .ok (.aload_n 2, 1) := by decide +kernel
theorem dX9_leak_45 : decode cX9_leak 45 = .ok (.iload_n 3, 1) := by decide +kernel
theorem dX9_leak_46 : decode cX9_leak 46 = .ok (.iconst 1, 1) := by decide +kernel
theorem dX9_leak_47 : decode cX9_leak 47 = .ok (.iadd, 1) := by decide +kernel
theorem dX9_leak_48 : decode cX9_leak 48 = .ok (.iaload, 1) := by decide +kernel
theorem dX9_leak_49 : decode cX9_leak 49 = .ok (.invokevirtual 227, 3) := by decide +kernel
theorem dX9_leak_52 : decode cX9_leak 52 = .ok (.ifCond .eq 7, 3) := by decide +kernel
theorem dX9_leak_55 : decode cX9_leak 55 = .ok (.aload_n 2, 1) := by decide +kernel
theorem dX9_leak_56 : decode cX9_leak 56 = .ok (.iload_n 3, 1) := by decide +kernel
theorem dX9_leak_57 : decode cX9_leak 57 = .ok (.iaload, 1) := by decide +kernel
theorem dX9_leak_58 : decode cX9_leak 58 = .ok (.ireturn, 1) := by decide +kernel
theorem dX9_leak_59 : decode cX9_leak 59 = .ok (.iinc 3 1, 3) := by decide +kernel
theorem dX9_leak_62 : decode cX9_leak 62 = .ok (.goto (-45), 3) := by decide +kernel
theorem dX9_leak_65 : decode cX9_leak 65 = .ok (.iconst (-1), 1) := by decide +kernel
theorem dX9_leak_66 : decode cX9_leak 66 = .ok (.ireturn, 1) := by decide +kernel
theorem dX9_stopped_0 : decode cX9_stopped 0 = .ok (.aload_n 0, 1) := by decide +kernel
theorem dX9_stopped_1 : decode cX9_stopped 1 = .ok (.iload_n 1, 1) := by decide +kernel
theorem dX9_stopped_2 : decode cX9_stopped 2 = .ok (.invokevirtual 207, 3) := by decide +kernel
theorem dX9_stopped_5 : decode cX9_stopped 5 = .ok (.iload_n 2, 1) := by decide +kernel
theorem dX9_stopped_6 : decode cX9_stopped 6 = .ok (.iconst 0, 1) := by decide +kernel
theorem dX9_stopped_7 : decode cX9_stopped 7 = .ok (.sipush 1023, 3) := by decide +kernel
theorem dX9_stopped_10 : decode cX9_stopped 10 = .ok (.invokestatic 104, 3) := by decide +kernel
theorem dX9_stopped_13 : decode cX9_stopped 13 = .ok (.aload_n 0, 1) := by decide +kernel
theorem dX9_stopped_14 : decode cX9_stopped 14 = .ok (.invokevirtual 210, 3) := by decide +kernel
theorem dX9_stopped_17 : decode cX9_stopped 17 = .ok (.aload_n 0, 1) := by decide +kernel
theorem dX9_stopped_18 : decode cX9_stopped 18 = .ok (.getfield 35, 3) := by decide +kernel
theorem dX9_stopped_21 : decode cX9_stopped 21 = .ok (.getfield 213, 3) := by decide +kernel
theorem dX9_stopped_24 : decode cX9_stopped 24 = .ok (.iload_n 1, 1) := by decide +kernel
theorem dX9_stopped_25 : decode cX9_stopped 25 = .ok (.aaload, 1) := by decide +kernel
theorem dX9_stopped_26 : decode cX9_stopped 26 = .ok (.astore_n 3, 1) := by decide +kernel
theorem dX9_stopped_27 : decode cX9_stopped 27 = .ok (.aload_n 0, 1) := by decide +kernel
theorem dX9_stopped_28 : decode cX9_stopped 28 = .ok (.getfield 28, 3) := by decide +kernel
theorem dX9_stopped_31 : decode cX9_stopped 31 = .ok (.aload_n 3, 1) := by decide +kernel
theorem dX9_stopped_32 : decode cX9_stopped 32 = .ok (.iconst 0, 1) := by decide +kernel
theorem dX9_stopped_33 : decode cX9_stopped 33 = .ok (.iaload, 1) := by decide +kernel
theorem dX9_stopped_34 : decode cX9_stopped 34 = .ok (.aload_n 0, 1) := by decide +kernel
theorem dX9_stopped_35 : decode cX9_stopped 35 = .ok (.getfield 35, 3) := by decide +kernel
theorem dX9_stopped_38 : decode cX9_stopped 38 = .ok (.getfield 230, 3) := by decide +kernel
theorem dX9_stopped_41 : decode cX9_stopped 41 = .ok (.iload_n 1, 1) := by decide +kernel
theorem dX9_stopped_42 : decode cX9_stopped 42 = .ok (.iaload, 1) := by decide +kernel
theorem dX9_stopped_43 : decode cX9_stopped 43 = .ok (.aload_n 0, 1) := by decide +kernel
theorem dX9_stopped_44 : decode cX9_stopped 44 = .ok (.getfield 35, 3) := by decide +kernel
theorem dX9_stopped_47 : decode cX9_stopped 47 = .ok (.getfield 233, 3) := by decide +kernel
theorem dX9_stopped_50 : decode cX9_stopped 50 = .ok (.iload_n 1, 1) := by decide +kernel
theorem dX9_stopped_51 : decode cX9_stopped 51 = .ok (.iaload, 1) := by decide +kernel
theorem dX9_stopped_52 : decode cX9_stopped 52 = .ok (.invokevirtual 203, 3) := by decide +kernel
theorem dX9_stopped_55 : decode cX9_stopped 55 = .ok (.iconst 2, 1) := by decide +kernel
theorem dX9_stopped_56 : decode cX9_stopped 56 = .ok (.if_icmp .ne 7, 3) := by decide +kernel
theorem dX9_stopped_59 : decode cX9_stopped 59 = .ok (.iconst 1, 1) := by decide +kernel
theorem dX9_stopped_60 : decode cX9_stopped 60 = .ok (.goto 4, 3) := by decide +kernel
theorem dX9_stopped_63 : decode cX9_stopped 63 = .ok (.iconst 0, 1) := by decide +kernel
theorem dX9_stopped_64 : decode cX9_stopped 64 = .ok (.istore 4, 2) := by decide +kernel
theorem dX9_stopped_66 : decode cX9_stopped 66 = .ok (.iconst 1, 1) := by decide +kernel
theorem dX9_stopped_67 : decode cX9_stopped 67 = .ok (.istore 5, 2) := by decide +kernel
theorem dX9_stopped_69 : decode cX9_stopped 69 = .ok (.iload 5, 2) := by decide +kernel
theorem dX9_stopped_71 : decode cX9_stopped 71 = .ok (.aload_n 0, 1) := by decide +kernel
