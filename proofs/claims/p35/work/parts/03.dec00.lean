theorem dX0_init_0 : decode cX0_init 0 = .ok (.aload_n 0, 1) := by decide +kernel
theorem dX0_init_1 : decode cX0_init 1 = .ok (.invokespecial 3, 3) := by decide +kernel
theorem dX0_init_4 : decode cX0_init 4 = .ok (.aload_n 0, 1) := by decide +kernel
theorem dX0_init_5 : decode cX0_init 5 = .ok (.iconst 5, 1) := by decide +kernel
theorem dX0_init_6 : decode cX0_init 6 = .ok (.newarray .int, 2) := by decide +kernel
theorem dX0_init_8 : decode cX0_init 8 = .ok (.putfield 9, 3) := by decide +kernel
theorem dX0_init_11 : decode cX0_init 11 = .ok (.aload_n 0, 1) := by decide +kernel
theorem dX0_init_12 : decode cX0_init 12 = .ok (.aload_n 1, 1) := by decide +kernel
theorem dX0_init_13 : decode cX0_init 13 = .ok (.putfield 15, 3) := by decide +kernel
theorem dX0_init_16 : decode cX0_init 16 = .ok (.aload_n 0, 1) := by decide +kernel
theorem dX0_init_17 : decode cX0_init 17 = .ok (.aload_n 2, 1) := by decide +kernel
theorem dX0_init_18 : decode cX0_init 18 = .ok (.putfield 19, 3) := by decide +kernel
theorem dX0_init_21 : decode cX0_init 21 = .ok (.return_, 1) := by decide +kernel
theorem dX0_countTo_0 : decode cX0_countTo 0 = .ok (.aload_n 0, 1) := by decide +kernel
theorem dX0_countTo_1 : decode cX0_countTo 1 = .ok (.getfield 9, 3) := by decide +kernel
theorem dX0_countTo_4 : decode cX0_countTo 4 = .ok (.iconst 0, 1) := by decide +kernel
theorem dX0_countTo_5 : decode cX0_countTo 5 = .ok (.iload_n 1, 1) := by decide +kernel
theorem dX0_countTo_6 : decode cX0_countTo 6 = .ok (.iastore, 1) := by decide +kernel
theorem dX0_countTo_7 : decode cX0_countTo 7 = .ok (.aload_n 0, 1) := by decide +kernel
theorem dX0_countTo_8 : decode cX0_countTo 8 = .ok (.iconst 1, 1) := by decide +kernel
theorem dX0_countTo_9 : decode cX0_countTo 9 = .ok (.iconst 1, 1) := by decide +kernel
theorem dX0_countTo_10 : decode cX0_countTo 10 = .ok (.iload_n 1, 1) := by decide +kernel
theorem dX0_countTo_11 : decode cX0_countTo 11 = .ok (.ishl, 1) := by decide +kernel
theorem dX0_countTo_12 : decode cX0_countTo 12 = .ok (.iload_n 2, 1) := by decide +kernel
theorem dX0_countTo_13 : decode cX0_countTo 13 = .ok (.invokevirtual 23, 3) := by decide +kernel
theorem dX0_countTo_16 : decode cX0_countTo 16 = .ok (.ireturn, 1) := by decide +kernel
theorem dX0_countRefused_0 : decode cX0_countRefused 0 = .ok (.iconst 0, 1) := by decide +kernel
theorem dX0_countRefused_1 : decode cX0_countRefused 1 = .ok (.istore_n 1, 1) := by decide +kernel
theorem dX0_countRefused_2 : decode cX0_countRefused 2 = .ok (.iconst 0, 1) := by decide +kernel
theorem dX0_countRefused_3 : decode cX0_countRefused 3 = .ok (.istore_n 2, 1) := by decide +kernel
theorem dX0_countRefused_4 : decode cX0_countRefused 4 = .ok (.iload_n 2, 1) := by decide +kernel
theorem dX0_countRefused_5 : decode cX0_countRefused 5 = .ok (.bipush 10, 2) := by decide +kernel
theorem dX0_countRefused_7 : decode cX0_countRefused 7 = .ok (.if_icmp .ge 28, 3) := by decide +kernel
theorem dX0_countRefused_10 : decode cX0_countRefused 10 = .ok (.aload_n 0, 1) := by decide +kernel
theorem dX0_countRefused_11 : decode cX0_countRefused 11 = .ok (.getfield 9, 3) := by decide +kernel
theorem dX0_countRefused_14 : decode cX0_countRefused 14 = .ok (.iconst 0, 1) := by decide +kernel
theorem dX0_countRefused_15 : decode cX0_countRefused 15 = .ok (.iload_n 2, 1) := by decide +kernel
theorem dX0_countRefused_16 : decode cX0_countRefused 16 = .ok (.iastore, 1) := by decide +kernel
theorem dX0_countRefused_17 : decode cX0_countRefused 17 = .ok (.iload_n 1, 1) := by decide +kernel
theorem dX0_countRefused_18 : decode cX0_countRefused 18 = .ok (.aload_n 0, 1) := by decide +kernel
theorem dX0_countRefused_19 : decode cX0_countRefused 19 = .ok (.iconst 1, 1) := by decide +kernel
theorem dX0_countRefused_20 : decode cX0_countRefused 20 = .ok (.iconst 1, 1) := by decide +kernel
theorem dX0_countRefused_21 : decode cX0_countRefused 21 = .ok (.iload_n 2, 1) := by decide +kernel
theorem dX0_countRefused_22 : decode cX0_countRefused 22 = .ok (.ishl, 1) := by decide +kernel
theorem dX0_countRefused_23 : decode cX0_countRefused 23 = .ok (.iconst (-1), 1) := by decide +kernel
theorem dX0_countRefused_24 : decode cX0_countRefused 24 = .ok (.invokevirtual 23, 3) := by decide +kernel
theorem dX0_countRefused_27 : decode cX0_countRefused 27 = .ok (.iadd, 1) := by decide +kernel
theorem dX0_countRefused_28 : decode cX0_countRefused 28 = .ok (.istore_n 1, 1) := by decide +kernel
theorem dX0_countRefused_29 : decode cX0_countRefused 29 = .ok (.iinc 2 1, 3) := by decide +kernel
theorem dX0_countRefused_32 : decode cX0_countRefused 32 = .ok (.goto (-28), 3) := by decide +kernel
theorem dX0_countRefused_35 : decode cX0_countRefused 35 = .ok (.iload_n 1, 1) := by decide +kernel
theorem dX0_countRefused_36 : decode cX0_countRefused 36 = .ok (.ireturn, 1) := by decide +kernel
theorem dX0_countOnwards_0 : decode cX0_countOnwards 0 = .ok (.iload_n 1, 1) := by decide +kernel
theorem dX0_countOnwards_1 : decode cX0_countOnwards 1 = .ok (.iconst 5, 1) := by decide +kernel
theorem dX0_countOnwards_2 : decode cX0_countOnwards 2 = .ok (.if_icmp .lt 5, 3) := by decide +kernel
theorem dX0_countOnwards_5 : decode cX0_countOnwards 5 = .ok (.iconst 0, 1) := by decide +kernel
theorem dX0_countOnwards_6 : decode cX0_countOnwards 6 = .ok (.ireturn, 1) := by decide +kernel
theorem dX0_countOnwards_7 : decode cX0_countOnwards 7 = .ok (.iconst 0, 1) := by decide +kernel
theorem dX0_countOnwards_8 : decode cX0_countOnwards 8 = .ok (.istore 4, 2) := by decide +kernel
theorem dX0_countOnwards_10 : decode cX0_countOnwards 10 = .ok (.iconst 0, 1) := by decide +kernel
theorem dX0_countOnwards_11 : decode cX0_countOnwards 11 = .ok (.istore 5, 2) := by decide +kernel
theorem dX0_countOnwards_13 : decode cX0_countOnwards 13 = .ok (.iload 5, 2) := by decide +kernel
theorem dX0_countOnwards_15 : decode cX0_countOnwards 15 = .ok (.bipush 10, 2) := by decide +kernel
theorem dX0_countOnwards_17 : decode cX0_countOnwards 17 = .ok (.if_icmp .ge 42, 3) := by decide +kernel
theorem dX0_countOnwards_20 : decode cX0_countOnwards 20 = .ok (.iload_n 2, 1) := by decide +kernel
theorem dX0_countOnwards_21 : decode cX0_countOnwards 21 = .ok (.iload 5, 2) := by decide +kernel
theorem dX0_countOnwards_23 : decode cX0_countOnwards 23 = .ok (.invokestatic 27, 3) := by decide +kernel
theorem dX0_countOnwards_26 : decode cX0_countOnwards 26 = .ok (.ifCond .ne 27, 3) := by decide +kernel
theorem dX0_countOnwards_29 : decode cX0_countOnwards 29 = .ok (.aload_n 0, 1) := by decide +kernel
theorem dX0_countOnwards_30 : decode cX0_countOnwards 30 = .ok (.iload_n 1, 1) := by decide +kernel
theorem dX0_countOnwards_31 : decode cX0_countOnwards 31 = .ok (.iload 5, 2) := by decide +kernel
theorem dX0_countOnwards_33 : decode cX0_countOnwards 33 = .ok (.invokevirtual 31, 3) := by decide +kernel
theorem dX0_countOnwards_36 : decode cX0_countOnwards 36 = .ok (.ifCond .eq 17, 3) := by decide +kernel
theorem dX0_countOnwards_39 : decode cX0_countOnwards 39 = .ok (.iload 4, 2) := by decide +kernel
theorem dX0_countOnwards_41 : decode cX0_countOnwards 41 = .ok (.aload_n 0, 1) := by decide +kernel
theorem dX0_countOnwards_42 : decode cX0_countOnwards 42 = .ok (.iload 5, 2) := by decide +kernel
theorem dX0_countOnwards_44 : decode cX0_countOnwards 44 = .ok (.iload_n 1, 1) := by decide +kernel
theorem dX0_countOnwards_45 : decode cX0_countOnwards 45 = .ok (.iload_n 2, 1) := by decide +kernel
theorem dX0_countOnwards_46 : decode cX0_countOnwards 46 = .ok (.iload_n 3, 1) := by decide +kernel
theorem dX0_countOnwards_47 : decode cX0_countOnwards 47 = .ok (.invokevirtual 34, 3) := by decide +kernel
theorem dX0_countOnwards_50 : decode cX0_countOnwards 50 = .ok (.iadd, 1) := by decide +kernel
theorem dX0_countOnwards_51 : decode cX0_countOnwards 51 = .ok (.istore 4, 2) := by decide +kernel
theorem dX0_countOnwards_53 : decode cX0_countOnwards 53 = .ok (.iinc 5 1, 3) := by decide +kernel
theorem dX0_countOnwards_56 : decode cX0_countOnwards 56 = .ok (.goto (-43), 3) := by decide +kernel
theorem dX0_countOnwards_59 : decode cX0_countOnwards 59 = .ok (.iload 4, 2) := by decide +kernel
theorem dX0_countOnwards_61 : decode cX0_countOnwards 61 = .ok (.ireturn, 1) := by decide +kernel
theorem dX0_countOver_0 : decode cX0_countOver 0 = .ok (.aload_n 0, 1) := by decide +kernel
theorem dX0_countOver_1 : decode cX0_countOver 1 = .ok (.getfield 9, 3) := by decide +kernel
theorem dX0_countOver_4 : decode cX0_countOver 4 = .ok (.iload_n 2, 1) := by decide +kernel
theorem dX0_countOver_5 : decode cX0_countOver 5 = .ok (.iload_n 1, 1) := by decide +kernel
theorem dX0_countOver_6 : decode cX0_countOver 6 = .ok (.iastore, 1) := by decide +kernel
theorem dX0_countOver_7 : decode cX0_countOver 7 = .ok (.iload 4, 2) := by decide +kernel
theorem dX0_countOver_9 : decode cX0_countOver 9 = .ok (.iconst (-1), 1) := by decide +kernel
theorem dX0_countOver_10 : decode cX0_countOver 10 = .ok (.if_icmp .ne 18, 3) := by decide +kernel
theorem dX0_countOver_13 : decode cX0_countOver 13 = .ok (.aload_n 0, 1) := by decide +kernel
theorem dX0_countOver_14 : decode cX0_countOver 14 = .ok (.getfield 19, 3) := by decide +kernel
theorem dX0_countOver_17 : decode cX0_countOver 17 = .ok (.aload_n 0, 1) := by decide +kernel
theorem dX0_countOver_18 : decode cX0_countOver 18 = .ok (.getfield 9, 3) := by decide +kernel
theorem dX0_countOver_21 : decode cX0_countOver 21 = .ok (.iload_n 2, 1) := by decide +kernel
theorem dX0_countOver_22 : decode cX0_countOver 22 = .ok (.invokevirtual 38, 3) := by decide +kernel
theorem dX0_countOver_25 : decode cX0_countOver 25 = .ok (.goto 14, 3) := by decide +kernel
theorem dX0_countOver_28 : decode cX0_countOver 28 = .ok (.iload_n 1, 1) := by decide +kernel
theorem dX0_countOver_29 : decode cX0_countOver 29 = .ok (.iload 4, 2) := by decide +kernel
theorem dX0_countOver_31 : decode cX0_countOver 31 = .ok (.if_icmp .ne 7, 3) := by decide +kernel
theorem dX0_countOver_34 : decode cX0_countOver 34 = .ok (.iconst 1, 1) := by decide +kernel
theorem dX0_countOver_35 : decode cX0_countOver 35 = .ok (.goto 4, 3) := by decide +kernel
theorem dX0_countOver_38 : decode cX0_countOver 38 = .ok (.iconst 0, 1) := by decide +kernel
theorem dX0_countOver_39 : decode cX0_countOver 39 = .ok (.istore 5, 2) := by decide +kernel
theorem dX0_countOver_41 : decode cX0_countOver 41 = .ok (.iload 5, 2) := by decide +kernel
theorem dX0_countOver_43 : decode cX0_countOver 43 = .ok (.ifCond .eq 7, 3) := by decide +kernel
theorem dX0_countOver_46 : decode cX0_countOver 46 = .ok (.iconst 1, 1) := by decide +kernel
theorem dX0_countOver_47 : decode cX0_countOver 47 = .ok (.goto 4, 3) := by decide +kernel
theorem dX0_countOver_50 : decode cX0_countOver 50 = .ok (.iconst 0, 1) := by decide +kernel
theorem dX0_countOver_51 : decode cX0_countOver 51 = .ok (.aload_n 0, 1) := by decide +kernel
theorem dX0_countOver_52 : decode cX0_countOver 52 = .ok (.iload_n 2, 1) := by decide +kernel
theorem dX0_countOver_53 : decode cX0_countOver 53 = .ok (.iconst 1, 1) := by decide +kernel
theorem dX0_countOver_54 : decode cX0_countOver 54 = .ok (.iadd, 1) := by decide +kernel
theorem dX0_countOver_55 : decode cX0_countOver 55 = .ok (.iload_n 3, 1) := by decide +kernel
theorem dX0_countOver_56 : decode cX0_countOver 56 = .ok (.iconst 1, 1) := by decide +kernel
theorem dX0_countOver_57 : decode cX0_countOver 57 = .ok (.iload_n 1, 1) := by decide +kernel
theorem dX0_countOver_58 : decode cX0_countOver 58 = .ok (.ishl, 1) := by decide +kernel
theorem dX0_countOver_59 : decode cX0_countOver 59 = .ok (.ior, 1) := by decide +kernel
theorem dX0_countOver_60 : decode cX0_countOver 60 = .ok (.iload 4, 2) := by decide +kernel
theorem dX0_countOver_62 : decode cX0_countOver 62 = .ok (.invokevirtual 23, 3) := by decide +kernel
theorem dX0_countOver_65 : decode cX0_countOver 65 = .ok (.iadd, 1) := by decide +kernel
theorem dX0_countOver_66 : decode cX0_countOver 66 = .ok (.ireturn, 1) := by decide +kernel
theorem dX0_mayGoOn_0 : decode cX0_mayGoOn 0 = .ok (.aload_n 0, 1) := by decide +kernel
theorem dX0_mayGoOn_1 : decode cX0_mayGoOn 1 = .ok (.getfield 9, 3) := by decide +kernel
theorem dX0_mayGoOn_4 : decode cX0_mayGoOn 4 = .ok (.iload_n 1, 1) := by decide +kernel
theorem dX0_mayGoOn_5 : decode cX0_mayGoOn 5 = .ok (.iconst 1, 1) := by decide +kernel
theorem dX0_mayGoOn_6 : decode cX0_mayGoOn 6 = .ok (.isub, 1) := by decide +kernel
theorem dX0_mayGoOn_7 : decode cX0_mayGoOn 7 = .ok (.iaload, 1) := by decide +kernel
theorem dX0_mayGoOn_8 : decode cX0_mayGoOn 8 = .ok (.istore_n 3, 1) := by decide +kernel
theorem dX0_mayGoOn_9 : decode cX0_mayGoOn 9 = .ok (.aload_n 0, 1) := by decide +kernel
theorem dX0_mayGoOn_10 : decode cX0_mayGoOn 10 = .ok (.getfield 15, 3) := by decide +kernel
theorem dX0_mayGoOn_13 : decode cX0_mayGoOn 13 = .ok (.iload_n 3, 1) := by decide +kernel
theorem dX0_mayGoOn_14 : decode cX0_mayGoOn 14 = .ok (.iload_n 2, 1) := by decide +kernel
theorem dX0_mayGoOn_15 : decode cX0_mayGoOn 15 = .ok (.invokevirtual 44, 3) := by decide +kernel
theorem dX0_mayGoOn_18 : decode cX0_mayGoOn 18 = .ok (.ifCond .eq 32, 3) := by decide +kernel
theorem dX0_mayGoOn_21 : decode cX0_mayGoOn 21 = .ok (.iload_n 1, 1) := by decide +kernel
theorem dX0_mayGoOn_22 : decode cX0_mayGoOn 22 = .ok (.iconst 1, 1) := by decide +kernel
theorem dX0_mayGoOn_23 : decode cX0_mayGoOn 23 = .ok (.if_icmp .eq 23, 3) := by decide +kernel
theorem dX0_mayGoOn_26 : decode cX0_mayGoOn 26 = .ok (.aload_n 0, 1) := by decide +kernel
theorem dX0_mayGoOn_27 : decode cX0_mayGoOn 27 = .ok (.getfield 15, 3) := by decide +kernel
theorem dX0_mayGoOn_30 : decode cX0_mayGoOn 30 = .ok (.iload_n 3, 1) := by decide +kernel
theorem dX0_mayGoOn_31 : decode cX0_mayGoOn 31 = .ok (.aload_n 0, 1) := by decide +kernel
theorem dX0_mayGoOn_32 : decode cX0_mayGoOn 32 = .ok (.getfield 9, 3) := by decide +kernel
theorem dX0_mayGoOn_35 : decode cX0_mayGoOn 35 = .ok (.iload_n 1, 1) := by decide +kernel
theorem dX0_mayGoOn_36 : decode cX0_mayGoOn 36 = .ok (.iconst 2, 1) := by decide +kernel
theorem dX0_mayGoOn_37 : decode cX0_mayGoOn 37 = .ok (.isub, 1) := by decide +kernel
theorem dX0_mayGoOn_38 : decode cX0_mayGoOn 38 = .ok (.iaload, 1) := by decide +kernel
theorem dX0_mayGoOn_39 : decode cX0_mayGoOn 39 = .ok (.iload_n 2, 1) := by decide +kernel
theorem dX0_mayGoOn_40 : decode cX0_mayGoOn 40 = .ok (.invokevirtual 49, 3) := by decide +kernel
theorem dX0_mayGoOn_43 : decode cX0_mayGoOn 43 = .ok (.ifCond .eq 7, 3) := by decide +kernel
theorem dX0_mayGoOn_46 : decode cX0_mayGoOn 46 = .ok (.iconst 1, 1) := by decide +kernel
theorem dX0_mayGoOn_47 : decode cX0_mayGoOn 47 = .ok (.goto 4, 3) := by decide +kernel
theorem dX0_mayGoOn_50 : decode cX0_mayGoOn 50 = .ok (.iconst 0, 1) := by decide +kernel
theorem dX0_mayGoOn_51 : decode cX0_mayGoOn 51 = .ok (.ireturn, 1) := by decide +kernel
theorem dX1_hasOthersThanFirstBits_0 : decode cX1_hasOthersThanFirstBits 0 = .ok (.iload_n 0, 1) := by decide +kernel
theorem dX1_hasOthersThanFirstBits_1 : decode cX1_hasOthersThanFirstBits 1 = .ok (.sipush 255, 3) := by decide +kernel
theorem dX1_hasOthersThanFirstBits_4 : decode cX1_hasOthersThanFirstBits 4 = .ok (.iload_n 1, 1) := by decide +kernel
theorem dX1_hasOthersThanFirstBits_5 : decode cX1_hasOthersThanFirstBits 5 = .ok (.ishr, 1) := by decide +kernel
theorem dX1_hasOthersThanFirstBits_6 : decode cX1_hasOthersThanFirstBits 6 = .ok (.iand, 1) := by decide +kernel
theorem dX1_hasOthersThanFirstBits_7 : decode cX1_hasOthersThanFirstBits 7 = .ok (.ifCond .eq 7, 3) := by decide +kernel
theorem dX1_hasOthersThanFirstBits_10 : decode cX1_hasOthersThanFirstBits 10 = .ok (.iconst 1, 1) := by decide +kernel
theorem dX1_hasOthersThanFirstBits_11 : decode cX1_hasOthersThanFirstBits 11 = .ok (.goto 4, 3) := by decide +kernel
theorem dX1_hasOthersThanFirstBits_14 : decode cX1_hasOthersThanFirstBits 14 = .ok (.iconst 0, 1) := by decide +kernel
theorem dX1_hasOthersThanFirstBits_15 : decode cX1_hasOthersThanFirstBits 15 = .ok (.ireturn, 1) := by decide +kernel
theorem dX1_liesIn_0 : decode cX1_liesIn 0 = .ok (.bipush 8, 2) := by decide +kernel
theorem dX1_liesIn_2 : decode cX1_liesIn 2 = .ok (.iload_n 3, 1) := by decide +kernel
theorem dX1_liesIn_3 : decode cX1_liesIn 3 = .ok (.isub, 1) := by decide +kernel
theorem dX1_liesIn_4 : decode cX1_liesIn 4 = .ok (.istore 4, 2) := by decide +kernel
theorem dX1_liesIn_6 : decode cX1_liesIn 6 = .ok (.iload_n 1, 1) := by decide +kernel
theorem dX1_liesIn_7 : decode cX1_liesIn 7 = .ok (.iload_n 3, 1) := by decide +kernel
theorem dX1_liesIn_8 : decode cX1_liesIn 8 = .ok (.if_icmp .lt 18, 3) := by decide +kernel
theorem dX1_liesIn_11 : decode cX1_liesIn 11 = .ok (.iload_n 0, 1) := by decide +kernel
theorem dX1_liesIn_12 : decode cX1_liesIn 12 = .ok (.iload 4, 2) := by decide +kernel
theorem dX1_liesIn_14 : decode cX1_liesIn 14 = .ok (.ishr, 1) := by decide +kernel
theorem dX1_liesIn_15 : decode cX1_liesIn 15 = .ok (.iload_n 2, 1) := by decide +kernel
theorem dX1_liesIn_16 : decode cX1_liesIn 16 = .ok (.iload 4, 2) := by decide +kernel
theorem dX1_liesIn_18 : decode cX1_liesIn 18 = .ok (.ishr, 1) := by decide +kernel
theorem dX1_liesIn_19 : decode cX1_liesIn 19 = .ok (.if_icmp .ne 7, 3) := by decide +kernel
theorem dX1_liesIn_22 : decode cX1_liesIn 22 = .ok (.iconst 1, 1) := by decide +kernel
theorem dX1_liesIn_23 : decode cX1_liesIn 23 = .ok (.goto 4, 3) := by decide +kernel
theorem dX1_liesIn_26 : decode cX1_liesIn 26 = .ok (.iconst 0, 1) := by decide +kernel
theorem dX1_liesIn_27 : decode cX1_liesIn 27 = .ok (.ireturn, 1) := by decide +kernel
theorem dX2_init_0 : decode cX2_init 0 = .ok (.aload_n 0, 1) := by decide +kernel
theorem dX2_init_1 : decode cX2_init 1 = .ok (.invokespecial 3, 3) := by decide +kernel
theorem dX2_init_4 : decode cX2_init 4 = .ok (.aload_n 0, 1) := by decide +kernel
theorem dX2_init_5 : decode cX2_init 5 = .ok (.bipush 50, 2) := by decide +kernel
theorem dX2_init_7 : decode cX2_init 7 = .ok (.newarray .int, 2) := by decide +kernel
theorem dX2_init_9 : decode cX2_init 9 = .ok (.putfield 9, 3) := by decide +kernel
theorem dX2_init_12 : decode cX2_init 12 = .ok (.aload_n 0, 1) := by decide +kernel
theorem dX2_init_13 : decode cX2_init 13 = .ok (.bipush 50, 2) := by decide +kernel
theorem dX2_init_15 : decode cX2_init 15 = .ok (.newarray .boolean, 2) := by decide +kernel
theorem dX2_init_17 : decode cX2_init 17 = .ok (.putfield 15, 3) := by decide +kernel
theorem dX2_init_20 : decode cX2_init 20 = .ok (.aload_n 0, 1) := by decide +kernel
theorem dX2_init_21 : decode cX2_init 21 = .ok (.aload_n 1, 1) := by decide +kernel
theorem dX2_init_22 : decode cX2_init 22 = .ok (.putfield 19, 3) := by decide +kernel
theorem dX2_init_25 : decode cX2_init 25 = .ok (.aload_n 0, 1) := by decide +kernel
theorem dX2_init_26 : decode cX2_init 26 = .ok (.aload_n 2, 1) := by decide +kernel
theorem dX2_init_27 : decode cX2_init 27 = .ok (.putfield 23, 3) := by decide +kernel
theorem dX2_init_30 : decode cX2_init 30 = .ok (.return_, 1) := by decide +kernel
theorem dX2_judgeAll_0 : decode cX2_judgeAll 0 = .ok (.iconst 0, 1) := by decide +kernel
theorem dX2_judgeAll_1 : decode cX2_judgeAll 1 = .ok (.istore_n 1, 1) := by decide +kernel
theorem dX2_judgeAll_2 : decode cX2_judgeAll 2 = .ok (.iload_n 1, 1) := by decide +kernel
theorem dX2_judgeAll_3 : decode cX2_judgeAll 3 = .ok (.aload_n 0, 1) := by decide +kernel
theorem dX2_judgeAll_4 : decode cX2_judgeAll 4 = .ok (.getfield 19, 3) := by decide +kernel
theorem dX2_judgeAll_7 : decode cX2_judgeAll 7 = .ok (.getfield 27, 3) := by decide +kernel
theorem dX2_judgeAll_10 : decode cX2_judgeAll 10 = .ok (.if_icmp .ge 48, 3) := by decide +kernel
theorem dX2_judgeAll_13 : decode cX2_judgeAll 13 = .ok (.iconst 0, 1) := by decide +kernel
theorem dX2_judgeAll_14 : decode cX2_judgeAll 14 = .ok (.istore_n 2, 1) := by decide +kernel
theorem dX2_judgeAll_15 : decode cX2_judgeAll 15 = .ok (.iload_n 2, 1) := by decide +kernel
theorem dX2_judgeAll_16 : decode cX2_judgeAll 16 = .ok (.aload_n 0, 1) := by decide +kernel
theorem dX2_judgeAll_17 : decode cX2_judgeAll 17 = .ok (.getfield 23, 3) := by decide +kernel
theorem dX2_judgeAll_20 : decode cX2_judgeAll 20 = .ok (.getfield 33, 3) := by decide +kernel
theorem dX2_judgeAll_23 : decode cX2_judgeAll 23 = .ok (.if_icmp .ge 29, 3) := by decide +kernel
theorem dX2_judgeAll_26 : decode cX2_judgeAll 26 = .ok (.aload_n 0, 1) := by decide +kernel
theorem dX2_judgeAll_27 : decode cX2_judgeAll 27 = .ok (.iload_n 2, 1) := by decide +kernel
theorem dX2_judgeAll_28 : decode cX2_judgeAll 28 = .ok (.iload_n 1, 1) := by decide +kernel
theorem dX2_judgeAll_29 : decode cX2_judgeAll 29 = .ok (.invokevirtual 36, 3) := by decide +kernel
theorem dX2_judgeAll_32 : decode cX2_judgeAll 32 = .ok (.ifCond .eq 14, 3) := by decide +kernel
theorem dX2_judgeAll_35 : decode cX2_judgeAll 35 = .ok (.aload_n 0, 1) := by decide +kernel
theorem dX2_judgeAll_36 : decode cX2_judgeAll 36 = .ok (.getfield 9, 3) := by decide +kernel
theorem dX2_judgeAll_39 : decode cX2_judgeAll 39 = .ok (.iload_n 2, 1) := by decide +kernel
theorem dX2_judgeAll_40 : decode cX2_judgeAll 40 = .ok (.aload_n 0, 1) := by decide +kernel
theorem dX2_judgeAll_41 : decode cX2_judgeAll 41 = .ok (.iload_n 2, 1) := by decide +kernel
theorem dX2_judgeAll_42 : decode cX2_judgeAll 42 = .ok (.invokevirtual 40, 3) := by decide +kernel
theorem dX2_judgeAll_45 : decode cX2_judgeAll 45 = .ok (.iastore, 1) := by decide +kernel
theorem dX2_judgeAll_46 : decode cX2_judgeAll 46 = .ok (.iinc 2 1, 3) := by decide +kernel
theorem dX2_judgeAll_49 : decode cX2_judgeAll 49 = .ok (.goto (-34), 3) := by decide +kernel
theorem dX2_judgeAll_52 : decode cX2_judgeAll 52 = .ok (.iinc 1 1, 3) := by decide +kernel
theorem dX2_judgeAll_55 : decode cX2_judgeAll 55 = .ok (.goto (-53), 3) := by decide +kernel
theorem dX2_judgeAll_58 : decode cX2_judgeAll 58 = .ok (.iconst 0, 1) := by decide +kernel
theorem dX2_judgeAll_59 : decode cX2_judgeAll 59 = .ok (.istore_n 1, 1) := by decide +kernel
theorem dX2_judgeAll_60 : decode cX2_judgeAll 60 = .ok (.iload_n 1, 1) := by decide +kernel
theorem dX2_judgeAll_61 : decode cX2_judgeAll 61 = .ok (.aload_n 0, 1) := by decide +kernel
theorem dX2_judgeAll_62 : decode cX2_judgeAll 62 = .ok (.getfield 23, 3) := by decide +kernel
theorem dX2_judgeAll_65 : decode cX2_judgeAll 65 = .ok (.getfield 33, 3) := by decide +kernel
theorem dX2_judgeAll_68 : decode cX2_judgeAll 68 = .ok (.if_icmp .ge 32, 3) := by decide +kernel
theorem dX2_judgeAll_71 : decode cX2_judgeAll 71 = .ok (.aload_n 0, 1) := by decide +kernel
theorem dX2_judgeAll_72 : decode cX2_judgeAll 72 = .ok (.getfield 23, 3) := by decide +kernel
theorem dX2_judgeAll_75 : decode cX2_judgeAll 75 = .ok (.getfield 44, 3) := by decide +kernel
theorem dX2_judgeAll_78 : decode cX2_judgeAll 78 = .ok (.iload_n 1, 1) := by decide +kernel
theorem dX2_judgeAll_79 : decode cX2_judgeAll 79 = .ok (.iaload, 1) := by decide +kernel
theorem dX2_judgeAll_80 : decode cX2_judgeAll 80 = .ok (.ifCond .eq 14, 3) := by decide +kernel
theorem dX2_judgeAll_83 : decode cX2_judgeAll 83 = .ok (.aload_n 0, 1) := by decide +kernel
theorem dX2_judgeAll_84 : decode cX2_judgeAll 84 = .ok (.getfield 9, 3) := by decide +kernel
theorem dX2_judgeAll_87 : decode cX2_judgeAll 87 = .ok (.iload_n 1, 1) := by decide +kernel
theorem dX2_judgeAll_88 : decode cX2_judgeAll 88 = .ok (.aload_n 0, 1) := by decide +kernel
theorem dX2_judgeAll_89 : decode cX2_judgeAll 89 = .ok (.iload_n 1, 1) := by decide +kernel
theorem dX2_judgeAll_90 : decode cX2_judgeAll 90 = .ok (.invokevirtual 40, 3) := by decide +kernel
theorem dX2_judgeAll_93 : decode cX2_judgeAll 93 = .ok (.iastore, 1) := by decide +kernel
theorem dX2_judgeAll_94 : decode cX2_judgeAll 94 = .ok (.iinc 1 1, 3) := by decide +kernel
theorem dX2_judgeAll_97 : decode cX2_judgeAll 97 = .ok (.goto (-37), 3) := by decide +kernel
theorem dX2_judgeAll_100 : decode cX2_judgeAll 100 = .ok (.return_, 1) := by decide +kernel
theorem dX2_isGrantTo_0 : decode cX2_isGrantTo 0 = .ok (.aload_n 0, 1) := by decide +kernel
theorem dX2_isGrantTo_1 : decode cX2_isGrantTo 1 = .ok (.getfield 23, 3) := by decide +kernel
theorem dX2_isGrantTo_4 : decode cX2_isGrantTo 4 = .ok (.getfield 44, 3) := by decide +kernel
theorem dX2_isGrantTo_7 : decode cX2_isGrantTo 7 = .ok (.iload_n 1, 1) := by decide +kernel
theorem dX2_isGrantTo_8 : decode cX2_isGrantTo 8 = .ok (.iaload, 1) := by decide +kernel
theorem dX2_isGrantTo_9 : decode cX2_isGrantTo 9 = .ok (.ifCond .ne 20, 3) := by decide +kernel
theorem dX2_isGrantTo_12 : decode cX2_isGrantTo 12 = .ok (.aload_n 0, 1) := by decide +kernel
theorem dX2_isGrantTo_13 : decode cX2_isGrantTo 13 = .ok (.getfield 23, 3) := by decide +kernel
theorem dX2_isGrantTo_16 : decode cX2_isGrantTo 16 = .ok (.getfield 47, 3) := by decide +kernel
theorem dX2_isGrantTo_19 : decode cX2_isGrantTo 19 = .ok (.iload_n 1, 1) := by decide +kernel
theorem dX2_isGrantTo_20 : decode cX2_isGrantTo 20 = .ok (.iaload, 1) := by decide +kernel
theorem dX2_isGrantTo_21 : decode cX2_isGrantTo 21 = .ok (.iload_n 2, 1) := by decide +kernel
theorem dX2_isGrantTo_22 : decode cX2_isGrantTo 22 = .ok (.if_icmp .ne 7, 3) := by decide +kernel
theorem dX2_isGrantTo_25 : decode cX2_isGrantTo 25 = .ok (.iconst 1, 1) := by decide +kernel
theorem dX2_isGrantTo_26 : decode cX2_isGrantTo 26 = .ok (.goto 4, 3) := by decide +kernel
theorem dX2_isGrantTo_29 : decode cX2_isGrantTo 29 = .ok (.iconst 0, 1) := by decide +kernel
theorem dX2_isGrantTo_30 : decode cX2_isGrantTo 30 = .ok (.ireturn, 1) := by decide +kernel
theorem dX2_judgeOne_0 : decode cX2_judgeOne 0 = .ok (.aload_n 0, 1) := by decide +kernel
theorem dX2_judgeOne_1 : decode cX2_judgeOne 1 = .ok (.iload_n 1, 1) := by decide +kernel
theorem dX2_judgeOne_2 : decode cX2_judgeOne 2 = .ok (.invokevirtual 50, 3) := by decide +kernel
theorem dX2_judgeOne_5 : decode cX2_judgeOne 5 = .ok (.istore_n 2, 1) := by decide +kernel
theorem dX2_judgeOne_6 : decode cX2_judgeOne 6 = .ok (.iload_n 2, 1) := by decide +kernel
theorem dX2_judgeOne_7 : decode cX2_judgeOne 7 = .ok (.ifCond .eq 5, 3) := by decide +kernel
theorem dX2_judgeOne_10 : decode cX2_judgeOne 10 = .ok (.iload_n 2, 1) := by decide +kernel
theorem dX2_judgeOne_11 : decode cX2_judgeOne 11 = .ok (.ireturn, 1) := by decide +kernel
theorem dX2_judgeOne_12 : decode cX2_judgeOne 12 = .ok (.aload_n 0, 1) := by decide +kernel
theorem dX2_judgeOne_13 : decode cX2_judgeOne 13 = .ok (.iload_n 1, 1) := by decide +kernel
theorem dX2_judgeOne_14 : decode cX2_judgeOne 14 = .ok (.invokevirtual 53, 3) := by decide +kernel
theorem dX2_judgeOne_17 : decode cX2_judgeOne 17 = .ok (.ifCond .eq 7, 3) := by decide +kernel
theorem dX2_judgeOne_20 : decode cX2_judgeOne 20 = .ok (.iconst 5, 1) := by decide +kernel
theorem dX2_judgeOne_21 : decode cX2_judgeOne 21 = .ok (.goto 4, 3) := by decide +kernel
theorem dX2_judgeOne_24 : decode cX2_judgeOne 24 = .ok (.iconst 0, 1) := by decide +kernel
theorem dX2_judgeOne_25 : decode cX2_judgeOne 25 = .ok (.ireturn, 1) := by decide +kernel
theorem dX2_faultOfItsOwn_0 : decode cX2_faultOfItsOwn 0 = .ok (.aload_n 0, 1) := by decide +kernel
theorem dX2_faultOfItsOwn_1 : decode cX2_faultOfItsOwn 1 = .ok (.getfield 23, 3) := by decide +kernel
theorem dX2_faultOfItsOwn_4 : decode cX2_faultOfItsOwn 4 = .ok (.getfield 57, 3) := by decide +kernel
theorem dX2_faultOfItsOwn_7 : decode cX2_faultOfItsOwn 7 = .ok (.iload_n 1, 1) := by decide +kernel
theorem dX2_faultOfItsOwn_8 : decode cX2_faultOfItsOwn 8 = .ok (.iaload, 1) := by decide +kernel
theorem dX2_faultOfItsOwn_9 : decode cX2_faultOfItsOwn 9 = .ok (.istore_n 2, 1) := by decide +kernel
theorem dX2_faultOfItsOwn_10 : decode cX2_faultOfItsOwn 10 = .ok (.aload_n 0, 1) := by decide +kernel
theorem dX2_faultOfItsOwn_11 : decode cX2_faultOfItsOwn 11 = .ok (.getfield 19, 3) := by decide +kernel
theorem dX2_faultOfItsOwn_14 : decode cX2_faultOfItsOwn 14 = .ok (.getfield 60, 3) := by decide +kernel
theorem dX2_faultOfItsOwn_17 : decode cX2_faultOfItsOwn 17 = .ok (.aload_n 0, 1) := by decide +kernel
theorem dX2_faultOfItsOwn_18 : decode cX2_faultOfItsOwn 18 = .ok (.getfield 23, 3) := by decide +kernel
theorem dX2_faultOfItsOwn_21 : decode cX2_faultOfItsOwn 21 = .ok (.getfield 63, 3) := by decide +kernel
theorem dX2_faultOfItsOwn_24 : decode cX2_faultOfItsOwn 24 = .ok (.iload_n 1, 1) := by decide +kernel
theorem dX2_faultOfItsOwn_25 : decode cX2_faultOfItsOwn 25 = .ok (.iaload, 1) := by decide +kernel
theorem dX2_faultOfItsOwn_26 : decode cX2_faultOfItsOwn 26 = .ok (.if_icmp .le 5, 3) := by decide +kernel
theorem dX2_faultOfItsOwn_29 : decode cX2_faultOfItsOwn 29 = .ok (.iconst 1, 1) := by decide +kernel
theorem dX2_faultOfItsOwn_30 : decode cX2_faultOfItsOwn 30 = .ok (.ireturn, 1) := by decide +kernel
theorem dX2_faultOfItsOwn_31 : decode cX2_faultOfItsOwn 31 = .ok (.aload_n 0, 1) := by decide +kernel
theorem dX2_faultOfItsOwn_32 : decode cX2_faultOfItsOwn 32 = .ok (.getfield 23, 3) := by decide +kernel
theorem dX2_faultOfItsOwn_35 : decode cX2_faultOfItsOwn 35 = .ok (.getfield 66, 3) := by decide +kernel
theorem dX2_faultOfItsOwn_38 : decode cX2_faultOfItsOwn 38 = .ok (.iload_n 1, 1) := by decide +kernel
theorem dX2_faultOfItsOwn_39 : decode cX2_faultOfItsOwn 39 = .ok (.baload, 1) := by decide +kernel
theorem dX2_faultOfItsOwn_40 : decode cX2_faultOfItsOwn 40 = .ok (.ifCond .eq 5, 3) := by decide +kernel
theorem dX2_faultOfItsOwn_43 : decode cX2_faultOfItsOwn 43 = .ok (.iconst 2, 1) := by decide +kernel
theorem dX2_faultOfItsOwn_44 : decode cX2_faultOfItsOwn 44 = .ok (.ireturn, 1) := by decide +kernel
theorem dX2_faultOfItsOwn_45 : decode cX2_faultOfItsOwn 45 = .ok (.aload_n 0, 1) := by decide +kernel
theorem dX2_faultOfItsOwn_46 : decode cX2_faultOfItsOwn 46 = .ok (.getfield 19, 3) := by decide +kernel
theorem dX2_faultOfItsOwn_49 : decode cX2_faultOfItsOwn 49 = .ok (.getfield 60, 3) := by decide +kernel
theorem dX2_faultOfItsOwn_52 : decode cX2_faultOfItsOwn 52 = .ok (.aload_n 0, 1) := by decide +kernel
theorem dX2_faultOfItsOwn_53 : decode cX2_faultOfItsOwn 53 = .ok (.getfield 19, 3) := by decide +kernel
theorem dX2_faultOfItsOwn_56 : decode cX2_faultOfItsOwn 56 = .ok (.getfield 69, 3) := by decide +kernel
theorem dX2_faultOfItsOwn_59 : decode cX2_faultOfItsOwn 59 = .ok (.iload_n 2, 1) := by decide +kernel
theorem dX2_faultOfItsOwn_60 : decode cX2_faultOfItsOwn 60 = .ok (.iaload, 1) := by decide +kernel
theorem dX2_faultOfItsOwn_61 : decode cX2_faultOfItsOwn 61 = .ok (.if_icmp .le 5, 3) := by decide +kernel
theorem dX2_faultOfItsOwn_64 : decode cX2_faultOfItsOwn 64 = .ok (.iconst 3, 1) := by decide +kernel
theorem dX2_faultOfItsOwn_65 : decode cX2_faultOfItsOwn 65 = .ok (.ireturn, 1) := by decide +kernel
theorem dX2_faultOfItsOwn_66 : decode cX2_faultOfItsOwn 66 = .ok (.aload_n 0, 1) := by decide +kernel
theorem dX2_faultOfItsOwn_67 : decode cX2_faultOfItsOwn 67 = .ok (.getfield 23, 3) := by decide +kernel
theorem dX2_faultOfItsOwn_70 : decode cX2_faultOfItsOwn 70 = .ok (.getfield 72, 3) := by decide +kernel
theorem dX2_faultOfItsOwn_73 : decode cX2_faultOfItsOwn 73 = .ok (.iload_n 1, 1) := by decide +kernel
theorem dX2_faultOfItsOwn_74 : decode cX2_faultOfItsOwn 74 = .ok (.iaload, 1) := by decide +kernel
theorem dX2_faultOfItsOwn_75 : decode cX2_faultOfItsOwn 75 = .ok (.aload_n 0, 1) := by decide +kernel
theorem dX2_faultOfItsOwn_76 : decode cX2_faultOfItsOwn 76 = .ok (.getfield 23, 3) := by decide +kernel
theorem dX2_faultOfItsOwn_79 : decode cX2_faultOfItsOwn 79 = .ok (.iload_n 1, 1) := by decide +kernel
theorem dX2_faultOfItsOwn_80 : decode cX2_faultOfItsOwn 80 = .ok (.aload_n 0, 1) := by decide +kernel
theorem dX2_faultOfItsOwn_81 : decode cX2_faultOfItsOwn 81 = .ok (.getfield 19, 3) := by decide +kernel
theorem dX2_faultOfItsOwn_84 : decode cX2_faultOfItsOwn 84 = .ok (.getfield 75, 3) := by decide +kernel
theorem dX2_faultOfItsOwn_87 : decode cX2_faultOfItsOwn 87 = .ok (.iload_n 2, 1) := by decide +kernel
theorem dX2_faultOfItsOwn_88 : decode cX2_faultOfItsOwn 88 = .ok (.iaload, 1) := by decide +kernel
theorem dX2_faultOfItsOwn_89 : decode cX2_faultOfItsOwn 89 = .ok (.invokevirtual 78, 3) := by decide +kernel
theorem dX2_faultOfItsOwn_92 : decode cX2_faultOfItsOwn 92 = .ok (.if_icmp .ne 7, 3) := by decide +kernel
theorem dX2_faultOfItsOwn_95 : decode cX2_faultOfItsOwn 95 = .ok (.iconst 0, 1) := by decide +kernel
theorem dX2_faultOfItsOwn_96 : decode cX2_faultOfItsOwn 96 = .ok (.goto 4, 3) := by decide +kernel
theorem dX2_faultOfItsOwn_99 : decode cX2_faultOfItsOwn 99 = .ok (.iconst 4, 1) := by decide +kernel
theorem dX2_faultOfItsOwn_100 : decode cX2_faultOfItsOwn 100 = .ok (.ireturn, 1) := by decide +kernel
theorem dX2_isOutside_0 : decode cX2_isOutside 0 = .ok (.aload_n 0, 1) := by decide +kernel
theorem dX2_isOutside_1 : decode cX2_isOutside 1 = .ok (.getfield 23, 3) := by decide +kernel
theorem dX2_isOutside_4 : decode cX2_isOutside 4 = .ok (.getfield 57, 3) := by decide +kernel
theorem dX2_isOutside_7 : decode cX2_isOutside 7 = .ok (.iload_n 1, 1) := by decide +kernel
theorem dX2_isOutside_8 : decode cX2_isOutside 8 = .ok (.iaload, 1) := by decide +kernel
theorem dX2_isOutside_9 : decode cX2_isOutside 9 = .ok (.istore_n 2, 1) := by decide +kernel
theorem dX2_isOutside_10 : decode cX2_isOutside 10 = .ok (.aload_n 0, 1) := by decide +kernel
theorem dX2_isOutside_11 : decode cX2_isOutside 11 = .ok (.getfield 23, 3) := by decide +kernel
theorem dX2_isOutside_14 : decode cX2_isOutside 14 = .ok (.getfield 47, 3) := by decide +kernel
theorem dX2_isOutside_17 : decode cX2_isOutside 17 = .ok (.iload_n 1, 1) := by decide +kernel
theorem dX2_isOutside_18 : decode cX2_isOutside 18 = .ok (.iaload, 1) := by decide +kernel
theorem dX2_isOutside_19 : decode cX2_isOutside 19 = .ok (.istore_n 3, 1) := by decide +kernel
theorem dX2_isOutside_20 : decode cX2_isOutside 20 = .ok (.aload_n 0, 1) := by decide +kernel
theorem dX2_isOutside_21 : decode cX2_isOutside 21 = .ok (.getfield 23, 3) := by decide +kernel
theorem dX2_isOutside_24 : decode cX2_isOutside 24 = .ok (.getfield 44, 3) := by decide +kernel
theorem dX2_isOutside_27 : decode cX2_isOutside 27 = .ok (.iload_n 1, 1) := by decide +kernel
theorem dX2_isOutside_28 : decode cX2_isOutside 28 = .ok (.iaload, 1) := by decide +kernel
theorem dX2_isOutside_29 : decode cX2_isOutside 29 = .ok (.iconst 2, 1) := by decide +kernel
theorem dX2_isOutside_30 : decode cX2_isOutside 30 = .ok (.if_icmp .ne 30, 3) := by decide +kernel
theorem dX2_isOutside_33 : decode cX2_isOutside 33 = .ok (.aload_n 0, 1) := by decide +kernel
theorem dX2_isOutside_34 : decode cX2_isOutside 34 = .ok (.getfield 19, 3) := by decide +kernel
theorem dX2_isOutside_37 : decode cX2_isOutside 37 = .ok (.getfield 82, 3) := by decide +kernel
theorem dX2_isOutside_40 : decode cX2_isOutside 40 = .ok (.iload_n 3, 1) := by decide +kernel
theorem dX2_isOutside_41 : decode cX2_isOutside 41 = .ok (.iaload, 1) := by decide +kernel
theorem dX2_isOutside_42 : decode cX2_isOutside 42 = .ok (.iload_n 2, 1) := by decide +kernel
theorem dX2_isOutside_43 : decode cX2_isOutside 43 = .ok (.if_icmp .ne 11, 3) := by decide +kernel
theorem dX2_isOutside_46 : decode cX2_isOutside 46 = .ok (.aload_n 0, 1) := by decide +kernel
theorem dX2_isOutside_47 : decode cX2_isOutside 47 = .ok (.iload_n 2, 1) := by decide +kernel
theorem dX2_isOutside_48 : decode cX2_isOutside 48 = .ok (.invokevirtual 85, 3) := by decide +kernel
theorem dX2_isOutside_51 : decode cX2_isOutside 51 = .ok (.ifCond .ne 7, 3) := by decide +kernel
theorem dX2_isOutside_54 : decode cX2_isOutside 54 = .ok (.iconst 1, 1) := by decide +kernel
theorem dX2_isOutside_55 : decode cX2_isOutside 55 = .ok (.goto 4, 3) := by decide +kernel
theorem dX2_isOutside_58 : decode cX2_isOutside 58 = .ok (.iconst 0, 1) := by decide +kernel
theorem dX2_isOutside_59 : decode cX2_isOutside 59 = .ok (.ireturn, 1) := by decide +kernel
theorem dX2_isOutside_60 : decode cX2_isOutside 60 = .ok (.aload_n 0, 1) := by decide +kernel
theorem dX2_isOutside_61 : decode cX2_isOutside 61 = .ok (.getfield 23, 3) := by decide +kernel
theorem dX2_isOutside_64 : decode cX2_isOutside 64 = .ok (.getfield 44, 3) := by decide +kernel
theorem dX2_isOutside_67 : decode cX2_isOutside 67 = .ok (.iload_n 1, 1) := by decide +kernel
theorem dX2_isOutside_68 : decode cX2_isOutside 68 = .ok (.iaload, 1) := by decide +kernel
theorem dX2_isOutside_69 : decode cX2_isOutside 69 = .ok (.ifCond .ne 18, 3) := by decide +kernel
theorem dX2_isOutside_72 : decode cX2_isOutside 72 = .ok (.aload_n 0, 1) := by decide +kernel
theorem dX2_isOutside_73 : decode cX2_isOutside 73 = .ok (.getfield 19, 3) := by decide +kernel
theorem dX2_isOutside_76 : decode cX2_isOutside 76 = .ok (.getfield 88, 3) := by decide +kernel
theorem dX2_isOutside_79 : decode cX2_isOutside 79 = .ok (.iload_n 3, 1) := by decide +kernel
theorem dX2_isOutside_80 : decode cX2_isOutside 80 = .ok (.iaload, 1) := by decide +kernel
theorem dX2_isOutside_81 : decode cX2_isOutside 81 = .ok (.iload_n 2, 1) := by decide +kernel
theorem dX2_isOutside_82 : decode cX2_isOutside 82 = .ok (.if_icmp .eq 5, 3) := by decide +kernel
theorem dX2_isOutside_85 : decode cX2_isOutside 85 = .ok (.iconst 1, 1) := by decide +kernel
theorem dX2_isOutside_86 : decode cX2_isOutside 86 = .ok (.ireturn, 1) := by decide +kernel
theorem dX2_isOutside_87 : decode cX2_isOutside 87 = .ok (.aload_n 0, 1) := by decide +kernel
theorem dX2_isOutside_88 : decode cX2_isOutside 88 = .ok (.iload_n 2, 1) := by decide +kernel
theorem dX2_isOutside_89 : decode cX2_isOutside 89 = .ok (.aload_n 0, 1) := by decide +kernel
theorem dX2_isOutside_90 : decode cX2_isOutside 90 = .ok (.getfield 23, 3) := by decide +kernel
theorem dX2_isOutside_93 : decode cX2_isOutside 93 = .ok (.getfield 91, 3) := by decide +kernel
theorem dX2_isOutside_96 : decode cX2_isOutside 96 = .ok (.iload_n 1, 1) := by decide +kernel
theorem dX2_isOutside_97 : decode cX2_isOutside 97 = .ok (.iaload, 1) := by decide +kernel
theorem dX2_isOutside_98 : decode cX2_isOutside 98 = .ok (.aload_n 0, 1) := by decide +kernel
theorem dX2_isOutside_99 : decode cX2_isOutside 99 = .ok (.getfield 23, 3) := by decide +kernel
theorem dX2_isOutside_102 : decode cX2_isOutside 102 = .ok (.getfield 94, 3) := by decide +kernel
theorem dX2_isOutside_105 : decode cX2_isOutside 105 = .ok (.iload_n 1, 1) := by decide +kernel
theorem dX2_isOutside_106 : decode cX2_isOutside 106 = .ok (.iaload, 1) := by decide +kernel
theorem dX2_isOutside_107 : decode cX2_isOutside 107 = .ok (.invokevirtual 97, 3) := by decide +kernel
theorem dX2_isOutside_110 : decode cX2_isOutside 110 = .ok (.ifCond .ne 7, 3) := by decide +kernel
theorem dX2_isOutside_113 : decode cX2_isOutside 113 = .ok (.iconst 1, 1) := by decide +kernel
theorem dX2_isOutside_114 : decode cX2_isOutside 114 = .ok (.goto 4, 3) := by decide +kernel
theorem dX2_isOutside_117 : decode cX2_isOutside 117 = .ok (.iconst 0, 1) := by decide +kernel
theorem dX2_isOutside_118 : decode cX2_isOutside 118 = .ok (.ireturn, 1) := by decide +kernel
theorem dX2_holds_0 : decode cX2_holds 0 = .ok (.iload_n 1, 1) := by decide +kernel
theorem dX2_holds_1 : decode cX2_holds 1 = .ok (.ifCond .ne 7, 3) := by decide +kernel
theorem dX2_holds_4 : decode cX2_holds 4 = .ok (.iconst 1, 1) := by decide +kernel
theorem dX2_holds_5 : decode cX2_holds 5 = .ok (.goto 4, 3) := by decide +kernel
theorem dX2_holds_8 : decode cX2_holds 8 = .ok (.iconst 0, 1) := by decide +kernel
theorem dX2_holds_9 : decode cX2_holds 9 = .ok (.istore 4, 2) := by decide +kernel
theorem dX2_holds_11 : decode cX2_holds 11 = .ok (.iconst 0, 1) := by decide +kernel
theorem dX2_holds_12 : decode cX2_holds 12 = .ok (.istore 5, 2) := by decide +kernel
theorem dX2_holds_14 : decode cX2_holds 14 = .ok (.iload 5, 2) := by decide +kernel
theorem dX2_holds_16 : decode cX2_holds 16 = .ok (.aload_n 0, 1) := by decide +kernel
theorem dX2_holds_17 : decode cX2_holds 17 = .ok (.getfield 23, 3) := by decide +kernel
theorem dX2_holds_20 : decode cX2_holds 20 = .ok (.getfield 33, 3) := by decide +kernel
theorem dX2_holds_23 : decode cX2_holds 23 = .ok (.if_icmp .ge 45, 3) := by decide +kernel
theorem dX2_holds_26 : decode cX2_holds 26 = .ok (.iload 4, 2) := by decide +kernel
theorem dX2_holds_28 : decode cX2_holds 28 = .ok (.ifCond .ne 40, 3) := by decide +kernel
theorem dX2_holds_31 : decode cX2_holds 31 = .ok (.aload_n 0, 1) := by decide +kernel
theorem dX2_holds_32 : decode cX2_holds 32 = .ok (.iload 5, 2) := by decide +kernel
theorem dX2_holds_34 : decode cX2_holds 34 = .ok (.iload_n 1, 1) := by decide +kernel
theorem dX2_holds_35 : decode cX2_holds 35 = .ok (.invokevirtual 101, 3) := by decide +kernel
theorem dX2_holds_38 : decode cX2_holds 38 = .ok (.ifCond .eq 21, 3) := by decide +kernel
theorem dX2_holds_41 : decode cX2_holds 41 = .ok (.aload_n 0, 1) := by decide +kernel
theorem dX2_holds_42 : decode cX2_holds 42 = .ok (.getfield 23, 3) := by decide +kernel
theorem dX2_holds_45 : decode cX2_holds 45 = .ok (.iload 5, 2) := by decide +kernel
theorem dX2_holds_47 : decode cX2_holds 47 = .ok (.iload_n 2, 1) := by decide +kernel
theorem dX2_holds_48 : decode cX2_holds 48 = .ok (.iload_n 3, 1) := by decide +kernel
theorem dX2_holds_49 : decode cX2_holds 49 = .ok (.invokevirtual 104, 3) := by decide +kernel
theorem dX2_holds_52 : decode cX2_holds 52 = .ok (.ifCond .eq 7, 3) := by decide +kernel
theorem dX2_holds_55 : decode cX2_holds 55 = .ok (.iconst 1, 1) := by decide +kernel
theorem dX2_holds_56 : decode cX2_holds 56 = .ok (.goto 4, 3) := by decide +kernel
theorem dX2_holds_59 : decode cX2_holds 59 = .ok (.iconst 0, 1) := by decide +kernel
theorem dX2_holds_60 : decode cX2_holds 60 = .ok (.istore 4, 2) := by decide +kernel
theorem dX2_holds_62 : decode cX2_holds 62 = .ok (.iinc 5 1, 3) := by decide +kernel
theorem dX2_holds_65 : decode cX2_holds 65 = .ok (.goto (-51), 3) := by decide +kernel
theorem dX2_holds_68 : decode cX2_holds 68 = .ok (.iload 4, 2) := by decide +kernel
theorem dX2_holds_70 : decode cX2_holds 70 = .ok (.ireturn, 1) := by decide +kernel
theorem dX2_holdsAnything_0 : decode cX2_holdsAnything 0 = .ok (.iload_n 1, 1) := by decide +kernel
theorem dX2_holdsAnything_1 : decode cX2_holdsAnything 1 = .ok (.ifCond .ne 7, 3) := by decide +kernel
theorem dX2_holdsAnything_4 : decode cX2_holdsAnything 4 = .ok (.iconst 1, 1) := by decide +kernel
theorem dX2_holdsAnything_5 : decode cX2_holdsAnything 5 = .ok (.goto 4, 3) := by decide +kernel
theorem dX2_holdsAnything_8 : decode cX2_holdsAnything 8 = .ok (.iconst 0, 1) := by decide +kernel
theorem dX2_holdsAnything_9 : decode cX2_holdsAnything 9 = .ok (.istore_n 2, 1) := by decide +kernel
theorem dX2_holdsAnything_10 : decode cX2_holdsAnything 10 = .ok (.iconst 0, 1) := by decide +kernel
theorem dX2_holdsAnything_11 : decode cX2_holdsAnything 11 = .ok (.istore_n 3, 1) := by decide +kernel
theorem dX2_holdsAnything_12 : decode cX2_holdsAnything 12 = .ok (.iload_n 3, 1) := by decide +kernel
theorem dX2_holdsAnything_13 : decode cX2_holdsAnything 13 = .ok (.aload_n 0, 1) := by decide +kernel
theorem dX2_holdsAnything_14 : decode cX2_holdsAnything 14 = .ok (.getfield 23, 3) := by decide +kernel
theorem dX2_holdsAnything_17 : decode cX2_holdsAnything 17 = .ok (.getfield 33, 3) := by decide +kernel
theorem dX2_holdsAnything_20 : decode cX2_holdsAnything 20 = .ok (.if_icmp .ge 20, 3) := by decide +kernel
theorem dX2_holdsAnything_23 : decode cX2_holdsAnything 23 = .ok (.iload_n 2, 1) := by decide +kernel
theorem dX2_holdsAnything_24 : decode cX2_holdsAnything 24 = .ok (.ifCond .ne 16, 3) := by decide +kernel
theorem dX2_holdsAnything_27 : decode cX2_holdsAnything 27 = .ok (.aload_n 0, 1) := by decide +kernel
theorem dX2_holdsAnything_28 : decode cX2_holdsAnything 28 = .ok (.iload_n 3, 1) := by decide +kernel
theorem dX2_holdsAnything_29 : decode cX2_holdsAnything 29 = .ok (.iload_n 1, 1) := by decide +kernel
theorem dX2_holdsAnything_30 : decode cX2_holdsAnything 30 = .ok (.invokevirtual 101, 3) := by decide +kernel
theorem dX2_holdsAnything_33 : decode cX2_holdsAnything 33 = .ok (.istore_n 2, 1) := by decide +kernel
theorem dX2_holdsAnything_34 : decode cX2_holdsAnything 34 = .ok (.iinc 3 1, 3) := by decide +kernel
theorem dX2_holdsAnything_37 : decode cX2_holdsAnything 37 = .ok (.goto (-25), 3) := by decide +kernel
theorem dX2_holdsAnything_40 : decode cX2_holdsAnything 40 = .ok (.iload_n 2, 1) := by decide +kernel
theorem dX2_holdsAnything_41 : decode cX2_holdsAnything 41 = .ok (.ireturn, 1) := by decide +kernel
theorem dX2_isGoodGrantTo_0 : decode cX2_isGoodGrantTo 0 = .ok (.aload_n 0, 1) := by decide +kernel
theorem dX2_isGoodGrantTo_1 : decode cX2_isGoodGrantTo 1 = .ok (.iload_n 1, 1) := by decide +kernel
theorem dX2_isGoodGrantTo_2 : decode cX2_isGoodGrantTo 2 = .ok (.iload_n 2, 1) := by decide +kernel
theorem dX2_isGoodGrantTo_3 : decode cX2_isGoodGrantTo 3 = .ok (.invokevirtual 36, 3) := by decide +kernel
theorem dX2_isGoodGrantTo_6 : decode cX2_isGoodGrantTo 6 = .ok (.ifCond .eq 16, 3) := by decide +kernel
theorem dX2_isGoodGrantTo_9 : decode cX2_isGoodGrantTo 9 = .ok (.aload_n 0, 1) := by decide +kernel
theorem dX2_isGoodGrantTo_10 : decode cX2_isGoodGrantTo 10 = .ok (.getfield 9, 3) := by decide +kernel
theorem dX2_isGoodGrantTo_13 : decode cX2_isGoodGrantTo 13 = .ok (.iload_n 1, 1) := by decide +kernel
theorem dX2_isGoodGrantTo_14 : decode cX2_isGoodGrantTo 14 = .ok (.iaload, 1) := by decide +kernel
theorem dX2_isGoodGrantTo_15 : decode cX2_isGoodGrantTo 15 = .ok (.ifCond .ne 7, 3) := by decide +kernel
theorem dX2_isGoodGrantTo_18 : decode cX2_isGoodGrantTo 18 = .ok (.iconst 1, 1) := by decide +kernel
theorem dX2_isGoodGrantTo_19 : decode cX2_isGoodGrantTo 19 = .ok (.goto 4, 3) := by decide +kernel
theorem dX2_isGoodGrantTo_22 : decode cX2_isGoodGrantTo 22 = .ok (.iconst 0, 1) := by decide +kernel
theorem dX2_isGoodGrantTo_23 : decode cX2_isGoodGrantTo 23 = .ok (.ireturn, 1) := by decide +kernel
theorem dX2_holdsByChains_0 : decode cX2_holdsByChains 0 = .ok (.iconst 0, 1) := by decide +kernel
theorem dX2_holdsByChains_1 : decode cX2_holdsByChains 1 = .ok (.istore 4, 2) := by decide +kernel
theorem dX2_holdsByChains_3 : decode cX2_holdsByChains 3 = .ok (.iload 4, 2) := by decide +kernel
theorem dX2_holdsByChains_5 : decode cX2_holdsByChains 5 = .ok (.aload_n 0, 1) := by decide +kernel
theorem dX2_holdsByChains_6 : decode cX2_holdsByChains 6 = .ok (.getfield 23, 3) := by decide +kernel
theorem dX2_holdsByChains_9 : decode cX2_holdsByChains 9 = .ok (.getfield 33, 3) := by decide +kernel
theorem dX2_holdsByChains_12 : decode cX2_holdsByChains 12 = .ok (.if_icmp .ge 17, 3) := by decide +kernel
theorem dX2_holdsByChains_15 : decode cX2_holdsByChains 15 = .ok (.aload_n 0, 1) := by decide +kernel
theorem dX2_holdsByChains_16 : decode cX2_holdsByChains 16 = .ok (.getfield 15, 3) := by decide +kernel
theorem dX2_holdsByChains_19 : decode cX2_holdsByChains 19 = .ok (.iload 4, 2) := by decide +kernel
theorem dX2_holdsByChains_21 : decode cX2_holdsByChains 21 = .ok (.iconst 0, 1) := by decide +kernel
theorem dX2_holdsByChains_22 : decode cX2_holdsByChains 22 = .ok (.bastore, 1) := by decide +kernel
theorem dX2_holdsByChains_23 : decode cX2_holdsByChains 23 = .ok (.iinc 4 1, 3) := by decide +kernel
theorem dX2_holdsByChains_26 : decode cX2_holdsByChains 26 = .ok (.goto (-23), 3) := by decide +kernel
theorem dX2_holdsByChains_29 : decode cX2_holdsByChains 29 = .ok (.aload_n 0, 1) := by decide +kernel
theorem dX2_holdsByChains_30 : decode cX2_holdsByChains 30 = .ok (.iload_n 1, 1) := by decide +kernel
theorem dX2_holdsByChains_31 : decode cX2_holdsByChains 31 = .ok (.iload_n 2, 1) := by decide +kernel
theorem dX2_holdsByChains_32 : decode cX2_holdsByChains 32 = .ok (.iload_n 3, 1) := by decide +kernel
theorem dX2_holdsByChains_33 : decode cX2_holdsByChains 33 = .ok (.iconst 0, 1) := by decide +kernel
theorem dX2_holdsByChains_34 : decode cX2_holdsByChains 34 = .ok (.invokevirtual 107, 3) := by decide +kernel
theorem dX2_holdsByChains_37 : decode cX2_holdsByChains 37 = .ok (.ireturn, 1) := by decide +kernel
theorem dX2_chainReaches_0 : decode cX2_chainReaches 0 = .ok (.iload 4, 2) := by decide +kernel
theorem dX2_chainReaches_2 : decode cX2_chainReaches 2 = .ok (.bipush 8, 2) := by decide +kernel
theorem dX2_chainReaches_4 : decode cX2_chainReaches 4 = .ok (.if_icmp .lt 5, 3) := by decide +kernel
theorem dX2_chainReaches_7 : decode cX2_chainReaches 7 = .ok (.iconst 0, 1) := by decide +kernel
theorem dX2_chainReaches_8 : decode cX2_chainReaches 8 = .ok (.ireturn, 1) := by decide +kernel
theorem dX2_chainReaches_9 : decode cX2_chainReaches 9 = .ok (.iload_n 1, 1) := by decide +kernel
theorem dX2_chainReaches_10 : decode cX2_chainReaches 10 = .ok (.ifCond .ne 7, 3) := by decide +kernel
theorem dX2_chainReaches_13 : decode cX2_chainReaches 13 = .ok (.iconst 1, 1) := by decide +kernel
theorem dX2_chainReaches_14 : decode cX2_chainReaches 14 = .ok (.goto 4, 3) := by decide +kernel
theorem dX2_chainReaches_17 : decode cX2_chainReaches 17 = .ok (.iconst 0, 1) := by decide +kernel
theorem dX2_chainReaches_18 : decode cX2_chainReaches 18 = .ok (.istore 5, 2) := by decide +kernel
theorem dX2_chainReaches_20 : decode cX2_chainReaches 20 = .ok (.iconst 0, 1) := by decide +kernel
theorem dX2_chainReaches_21 : decode cX2_chainReaches 21 = .ok (.istore 6, 2) := by decide +kernel
theorem dX2_chainReaches_23 : decode cX2_chainReaches 23 = .ok (.iload 6, 2) := by decide +kernel
theorem dX2_chainReaches_25 : decode cX2_chainReaches 25 = .ok (.aload_n 0, 1) := by decide +kernel
theorem dX2_chainReaches_26 : decode cX2_chainReaches 26 = .ok (.getfield 23, 3) := by decide +kernel
theorem dX2_chainReaches_29 : decode cX2_chainReaches 29 = .ok (.getfield 33, 3) := by decide +kernel
theorem dX2_chainReaches_32 : decode cX2_chainReaches 32 = .ok (.if_icmp .ge 66, 3) := by decide +kernel
theorem dX2_chainReaches_35 : decode cX2_chainReaches 35 = .ok (.iload 5, 2) := by decide +kernel
theorem dX2_chainReaches_37 : decode cX2_chainReaches 37 = .ok (.ifCond .ne 61, 3) := by decide +kernel
theorem dX2_chainReaches_40 : decode cX2_chainReaches 40 = .ok (.aload_n 0, 1) := by decide +kernel
theorem dX2_chainReaches_41 : decode cX2_chainReaches 41 = .ok (.getfield 15, 3) := by decide +kernel
theorem dX2_chainReaches_44 : decode cX2_chainReaches 44 = .ok (.iload 6, 2) := by decide +kernel
theorem dX2_chainReaches_46 : decode cX2_chainReaches 46 = .ok (.baload, 1) := by decide +kernel
theorem dX2_chainReaches_47 : decode cX2_chainReaches 47 = .ok (.ifCond .ne 42, 3) := by decide +kernel
theorem dX2_chainReaches_50 : decode cX2_chainReaches 50 = .ok (.aload_n 0, 1) := by decide +kernel
theorem dX2_chainReaches_51 : decode cX2_chainReaches 51 = .ok (.iload 6, 2) := by decide +kernel
theorem dX2_chainReaches_53 : decode cX2_chainReaches 53 = .ok (.iload_n 1, 1) := by decide +kernel
theorem dX2_chainReaches_54 : decode cX2_chainReaches 54 = .ok (.invokevirtual 111, 3) := by decide +kernel
theorem dX2_chainReaches_57 : decode cX2_chainReaches 57 = .ok (.ifCond .eq 32, 3) := by decide +kernel
theorem dX2_chainReaches_60 : decode cX2_chainReaches 60 = .ok (.aload_n 0, 1) := by decide +kernel
theorem dX2_chainReaches_61 : decode cX2_chainReaches 61 = .ok (.getfield 23, 3) := by decide +kernel
theorem dX2_chainReaches_64 : decode cX2_chainReaches 64 = .ok (.iload 6, 2) := by decide +kernel
theorem dX2_chainReaches_66 : decode cX2_chainReaches 66 = .ok (.iload_n 2, 1) := by decide +kernel
theorem dX2_chainReaches_67 : decode cX2_chainReaches 67 = .ok (.iload_n 3, 1) := by decide +kernel
theorem dX2_chainReaches_68 : decode cX2_chainReaches 68 = .ok (.invokevirtual 104, 3) := by decide +kernel
theorem dX2_chainReaches_71 : decode cX2_chainReaches 71 = .ok (.ifCond .eq 18, 3) := by decide +kernel
theorem dX2_chainReaches_74 : decode cX2_chainReaches 74 = .ok (.aload_n 0, 1) := by decide +kernel
theorem dX2_chainReaches_75 : decode cX2_chainReaches 75 = .ok (.iload 6, 2) := by decide +kernel
theorem dX2_chainReaches_77 : decode cX2_chainReaches 77 = .ok (.iload 4, 2) := by decide +kernel
theorem dX2_chainReaches_79 : decode cX2_chainReaches 79 = .ok (.invokevirtual 114, 3) := by decide +kernel
theorem dX2_chainReaches_82 : decode cX2_chainReaches 82 = .ok (.ifCond .eq 7, 3) := by decide +kernel
theorem dX2_chainReaches_85 : decode cX2_chainReaches 85 = .ok (.iconst 1, 1) := by decide +kernel
theorem dX2_chainReaches_86 : decode cX2_chainReaches 86 = .ok (.goto 4, 3) := by decide +kernel
theorem dX2_chainReaches_89 : decode cX2_chainReaches 89 = .ok (.iconst 0, 1) := by decide +kernel
theorem dX2_chainReaches_90 : decode cX2_chainReaches 90 = .ok (.istore 5, 2) := by decide +kernel
theorem dX2_chainReaches_92 : decode cX2_chainReaches 92 = .ok (.iinc 6 1, 3) := by decide +kernel
theorem dX2_chainReaches_95 : decode cX2_chainReaches 95 = .ok (.goto (-72), 3) := by decide +kernel
theorem dX2_chainReaches_98 : decode cX2_chainReaches 98 = .ok (.iload 5, 2) := by decide +kernel
theorem dX2_chainReaches_100 : decode cX2_chainReaches 100 = .ok (.ireturn, 1) := by decide +kernel
theorem dX2_leadsUp_0 : decode cX2_leadsUp 0 = .ok (.aload_n 0, 1) := by decide +kernel
theorem dX2_leadsUp_1 : decode cX2_leadsUp 1 = .ok (.getfield 15, 3) := by decide +kernel
theorem dX2_leadsUp_4 : decode cX2_leadsUp 4 = .ok (.iload_n 1, 1) := by decide +kernel
theorem dX2_leadsUp_5 : decode cX2_leadsUp 5 = .ok (.iconst 1, 1) := by decide +kernel
theorem dX2_leadsUp_6 : decode cX2_leadsUp 6 = .ok (.bastore, 1) := by decide +kernel
theorem dX2_leadsUp_7 : decode cX2_leadsUp 7 = .ok (.aload_n 0, 1) := by decide +kernel
theorem dX2_leadsUp_8 : decode cX2_leadsUp 8 = .ok (.aload_n 0, 1) := by decide +kernel
theorem dX2_leadsUp_9 : decode cX2_leadsUp 9 = .ok (.getfield 23, 3) := by decide +kernel
theorem dX2_leadsUp_12 : decode cX2_leadsUp 12 = .ok (.getfield 57, 3) := by decide +kernel
theorem dX2_leadsUp_15 : decode cX2_leadsUp 15 = .ok (.iload_n 1, 1) := by decide +kernel
theorem dX2_leadsUp_16 : decode cX2_leadsUp 16 = .ok (.iaload, 1) := by decide +kernel
theorem dX2_leadsUp_17 : decode cX2_leadsUp 17 = .ok (.aload_n 0, 1) := by decide +kernel
theorem dX2_leadsUp_18 : decode cX2_leadsUp 18 = .ok (.getfield 23, 3) := by decide +kernel
theorem dX2_leadsUp_21 : decode cX2_leadsUp 21 = .ok (.getfield 91, 3) := by decide +kernel
theorem dX2_leadsUp_24 : decode cX2_leadsUp 24 = .ok (.iload_n 1, 1) := by decide +kernel
theorem dX2_leadsUp_25 : decode cX2_leadsUp 25 = .ok (.iaload, 1) := by decide +kernel
theorem dX2_leadsUp_26 : decode cX2_leadsUp 26 = .ok (.aload_n 0, 1) := by decide +kernel
theorem dX2_leadsUp_27 : decode cX2_leadsUp 27 = .ok (.getfield 23, 3) := by decide +kernel
theorem dX2_leadsUp_30 : decode cX2_leadsUp 30 = .ok (.getfield 94, 3) := by decide +kernel
theorem dX2_leadsUp_33 : decode cX2_leadsUp 33 = .ok (.iload_n 1, 1) := by decide +kernel
theorem dX2_leadsUp_34 : decode cX2_leadsUp 34 = .ok (.iaload, 1) := by decide +kernel
theorem dX2_leadsUp_35 : decode cX2_leadsUp 35 = .ok (.iload_n 2, 1) := by decide +kernel
theorem dX2_leadsUp_36 : decode cX2_leadsUp 36 = .ok (.iconst 1, 1) := by decide +kernel
theorem dX2_leadsUp_37 : decode cX2_leadsUp 37 = .ok (.iadd, 1) := by decide +kernel
theorem dX2_leadsUp_38 : decode cX2_leadsUp 38 = .ok (.invokevirtual 107, 3) := by decide +kernel
theorem dX2_leadsUp_41 : decode cX2_leadsUp 41 = .ok (.ireturn, 1) := by decide +kernel
theorem dX2_isLinkTo_0 : decode cX2_isLinkTo 0 = .ok (.aload_n 0, 1) := by decide +kernel
theorem dX2_isLinkTo_1 : decode cX2_isLinkTo 1 = .ok (.iload_n 1, 1) := by decide +kernel
theorem dX2_isLinkTo_2 : decode cX2_isLinkTo 2 = .ok (.iload_n 2, 1) := by decide +kernel
theorem dX2_isLinkTo_3 : decode cX2_isLinkTo 3 = .ok (.invokevirtual 36, 3) := by decide +kernel
theorem dX2_isLinkTo_6 : decode cX2_isLinkTo 6 = .ok (.ifCond .eq 36, 3) := by decide +kernel
theorem dX2_isLinkTo_9 : decode cX2_isLinkTo 9 = .ok (.aload_n 0, 1) := by decide +kernel
theorem dX2_isLinkTo_10 : decode cX2_isLinkTo 10 = .ok (.getfield 23, 3) := by decide +kernel
theorem dX2_isLinkTo_13 : decode cX2_isLinkTo 13 = .ok (.getfield 57, 3) := by decide +kernel
theorem dX2_isLinkTo_16 : decode cX2_isLinkTo 16 = .ok (.iload_n 1, 1) := by decide +kernel
theorem dX2_isLinkTo_17 : decode cX2_isLinkTo 17 = .ok (.iaload, 1) := by decide +kernel
theorem dX2_isLinkTo_18 : decode cX2_isLinkTo 18 = .ok (.aload_n 0, 1) := by decide +kernel
theorem dX2_isLinkTo_19 : decode cX2_isLinkTo 19 = .ok (.getfield 19, 3) := by decide +kernel
theorem dX2_isLinkTo_22 : decode cX2_isLinkTo 22 = .ok (.getfield 88, 3) := by decide +kernel
theorem dX2_isLinkTo_25 : decode cX2_isLinkTo 25 = .ok (.iload_n 2, 1) := by decide +kernel
theorem dX2_isLinkTo_26 : decode cX2_isLinkTo 26 = .ok (.iaload, 1) := by decide +kernel
theorem dX2_isLinkTo_27 : decode cX2_isLinkTo 27 = .ok (.if_icmp .ne 15, 3) := by decide +kernel
theorem dX2_isLinkTo_30 : decode cX2_isLinkTo 30 = .ok (.aload_n 0, 1) := by decide +kernel
theorem dX2_isLinkTo_31 : decode cX2_isLinkTo 31 = .ok (.iload_n 1, 1) := by decide +kernel
theorem dX2_isLinkTo_32 : decode cX2_isLinkTo 32 = .ok (.invokevirtual 50, 3) := by decide +kernel
theorem dX2_isLinkTo_35 : decode cX2_isLinkTo 35 = .ok (.ifCond .ne 7, 3) := by decide +kernel
theorem dX2_isLinkTo_38 : decode cX2_isLinkTo 38 = .ok (.iconst 1, 1) := by decide +kernel
theorem dX2_isLinkTo_39 : decode cX2_isLinkTo 39 = .ok (.goto 4, 3) := by decide +kernel
theorem dX2_isLinkTo_42 : decode cX2_isLinkTo 42 = .ok (.iconst 0, 1) := by decide +kernel
theorem dX2_isLinkTo_43 : decode cX2_isLinkTo 43 = .ok (.ireturn, 1) := by decide +kernel
theorem dX2_originState_0 : decode cX2_originState 0 = .ok (.iconst 0, 1) := by decide +kernel
theorem dX2_originState_1 : decode cX2_originState 1 = .ok (.istore 4, 2) := by decide +kernel
theorem dX2_originState_3 : decode cX2_originState 3 = .ok (.iconst 0, 1) := by decide +kernel
theorem dX2_originState_4 : decode cX2_originState 4 = .ok (.istore 5, 2) := by decide +kernel
theorem dX2_originState_6 : decode cX2_originState 6 = .ok (.iload 5, 2) := by decide +kernel
theorem dX2_originState_8 : decode cX2_originState 8 = .ok (.aload_n 0, 1) := by decide +kernel
theorem dX2_originState_9 : decode cX2_originState 9 = .ok (.getfield 23, 3) := by decide +kernel
theorem dX2_originState_12 : decode cX2_originState 12 = .ok (.getfield 33, 3) := by decide +kernel
theorem dX2_originState_15 : decode cX2_originState 15 = .ok (.if_icmp .ge 61, 3) := by decide +kernel
theorem dX2_originState_18 : decode cX2_originState 18 = .ok (.iload 4, 2) := by decide +kernel
theorem dX2_originState_20 : decode cX2_originState 20 = .ok (.iconst 1, 1) := by decide +kernel
theorem dX2_originState_21 : decode cX2_originState 21 = .ok (.if_icmp .eq 55, 3) := by decide +kernel
theorem dX2_originState_24 : decode cX2_originState 24 = .ok (.aload_n 0, 1) := by decide +kernel
theorem dX2_originState_25 : decode cX2_originState 25 = .ok (.iload 5, 2) := by decide +kernel
theorem dX2_originState_27 : decode cX2_originState 27 = .ok (.iload_n 2, 1) := by decide +kernel
theorem dX2_originState_28 : decode cX2_originState 28 = .ok (.iload_n 3, 1) := by decide +kernel
theorem dX2_originState_29 : decode cX2_originState 29 = .ok (.invokevirtual 117, 3) := by decide +kernel
theorem dX2_originState_32 : decode cX2_originState 32 = .ok (.ifCond .eq 38, 3) := by decide +kernel
theorem dX2_originState_35 : decode cX2_originState 35 = .ok (.aload_n 0, 1) := by decide +kernel
theorem dX2_originState_36 : decode cX2_originState 36 = .ok (.getfield 23, 3) := by decide +kernel
theorem dX2_originState_39 : decode cX2_originState 39 = .ok (.getfield 47, 3) := by decide +kernel
theorem dX2_originState_42 : decode cX2_originState 42 = .ok (.iload 5, 2) := by decide +kernel
theorem dX2_originState_44 : decode cX2_originState 44 = .ok (.iaload, 1) := by decide +kernel
theorem dX2_originState_45 : decode cX2_originState 45 = .ok (.iload_n 1, 1) := by decide +kernel
theorem dX2_originState_46 : decode cX2_originState 46 = .ok (.if_icmp .ne 21, 3) := by decide +kernel
theorem dX2_originState_49 : decode cX2_originState 49 = .ok (.iload_n 3, 1) := by decide +kernel
theorem dX2_originState_50 : decode cX2_originState 50 = .ok (.aload_n 0, 1) := by decide +kernel
theorem dX2_originState_51 : decode cX2_originState 51 = .ok (.getfield 23, 3) := by decide +kernel
theorem dX2_originState_54 : decode cX2_originState 54 = .ok (.getfield 120, 3) := by decide +kernel
theorem dX2_originState_57 : decode cX2_originState 57 = .ok (.iload 5, 2) := by decide +kernel
theorem dX2_originState_59 : decode cX2_originState 59 = .ok (.iaload, 1) := by decide +kernel
theorem dX2_originState_60 : decode cX2_originState 60 = .ok (.if_icmp .gt 7, 3) := by decide +kernel
theorem dX2_originState_63 : decode cX2_originState 63 = .ok (.iconst 1, 1) := by decide +kernel
theorem dX2_originState_64 : decode cX2_originState 64 = .ok (.goto 4, 3) := by decide +kernel
theorem dX2_originState_67 : decode cX2_originState 67 = .ok (.iconst 2, 1) := by decide +kernel
theorem dX2_originState_68 : decode cX2_originState 68 = .ok (.istore 4, 2) := by decide +kernel
theorem dX2_originState_70 : decode cX2_originState 70 = .ok (.iinc 5 1, 3) := by decide +kernel
theorem dX2_originState_73 : decode cX2_originState 73 = .ok (.goto (-67), 3) := by decide +kernel
theorem dX2_originState_76 : decode cX2_originState 76 = .ok (.iload 4, 2) := by decide +kernel
theorem dX2_originState_78 : decode cX2_originState 78 = .ok (.ireturn, 1) := by decide +kernel
theorem dX2_isGoodOriginOver_0 : decode cX2_isGoodOriginOver 0 = .ok (.aload_n 0, 1) := by decide +kernel
theorem dX2_isGoodOriginOver_1 : decode cX2_isGoodOriginOver 1 = .ok (.getfield 23, 3) := by decide +kernel
theorem dX2_isGoodOriginOver_4 : decode cX2_isGoodOriginOver 4 = .ok (.getfield 44, 3) := by decide +kernel
theorem dX2_isGoodOriginOver_7 : decode cX2_isGoodOriginOver 7 = .ok (.iload_n 1, 1) := by decide +kernel
theorem dX2_isGoodOriginOver_8 : decode cX2_isGoodOriginOver 8 = .ok (.iaload, 1) := by decide +kernel
theorem dX2_isGoodOriginOver_9 : decode cX2_isGoodOriginOver 9 = .ok (.iconst 1, 1) := by decide +kernel
theorem dX2_isGoodOriginOver_10 : decode cX2_isGoodOriginOver 10 = .ok (.if_icmp .ne 29, 3) := by decide +kernel
theorem dX2_isGoodOriginOver_13 : decode cX2_isGoodOriginOver 13 = .ok (.aload_n 0, 1) := by decide +kernel
theorem dX2_isGoodOriginOver_14 : decode cX2_isGoodOriginOver 14 = .ok (.getfield 9, 3) := by decide +kernel
theorem dX2_isGoodOriginOver_17 : decode cX2_isGoodOriginOver 17 = .ok (.iload_n 1, 1) := by decide +kernel
theorem dX2_isGoodOriginOver_18 : decode cX2_isGoodOriginOver 18 = .ok (.iaload, 1) := by decide +kernel
theorem dX2_isGoodOriginOver_19 : decode cX2_isGoodOriginOver 19 = .ok (.ifCond .ne 20, 3) := by decide +kernel
theorem dX2_isGoodOriginOver_22 : decode cX2_isGoodOriginOver 22 = .ok (.aload_n 0, 1) := by decide +kernel
theorem dX2_isGoodOriginOver_23 : decode cX2_isGoodOriginOver 23 = .ok (.getfield 23, 3) := by decide +kernel
theorem dX2_isGoodOriginOver_26 : decode cX2_isGoodOriginOver 26 = .ok (.iload_n 1, 1) := by decide +kernel
theorem dX2_isGoodOriginOver_27 : decode cX2_isGoodOriginOver 27 = .ok (.iload_n 2, 1) := by decide +kernel
theorem dX2_isGoodOriginOver_28 : decode cX2_isGoodOriginOver 28 = .ok (.iload_n 3, 1) := by decide +kernel
theorem dX2_isGoodOriginOver_29 : decode cX2_isGoodOriginOver 29 = .ok (.invokevirtual 104, 3) := by decide +kernel
theorem dX2_isGoodOriginOver_32 : decode cX2_isGoodOriginOver 32 = .ok (.ifCond .eq 7, 3) := by decide +kernel
theorem dX2_isGoodOriginOver_35 : decode cX2_isGoodOriginOver 35 = .ok (.iconst 1, 1) := by decide +kernel
theorem dX2_isGoodOriginOver_36 : decode cX2_isGoodOriginOver 36 = .ok (.goto 4, 3) := by decide +kernel
theorem dX2_isGoodOriginOver_39 : decode cX2_isGoodOriginOver 39 = .ok (.iconst 0, 1) := by decide +kernel
theorem dX2_isGoodOriginOver_40 : decode cX2_isGoodOriginOver 40 = .ok (.ireturn, 1) := by decide +kernel
theorem dX3_init_0 : decode cX3_init 0 = .ok (.aload_n 0, 1) := by decide +kernel
theorem dX3_init_1 : decode cX3_init 1 = .ok (.invokespecial 3, 3) := by decide +kernel
theorem dX3_init_4 : decode cX3_init 4 = .ok (.aload_n 0, 1) := by decide +kernel
theorem dX3_init_5 : decode cX3_init 5 = .ok (.bipush 10, 2) := by decide +kernel
theorem dX3_init_7 : decode cX3_init 7 = .ok (.newarray .int, 2) := by decide +kernel
theorem dX3_init_9 : decode cX3_init 9 = .ok (.putfield 9, 3) := by decide +kernel
theorem dX3_init_12 : decode cX3_init 12 = .ok (.aload_n 0, 1) := by decide +kernel
theorem dX3_init_13 : decode cX3_init 13 = .ok (.bipush 10, 2) := by decide +kernel
theorem dX3_init_15 : decode cX3_init 15 = .ok (.newarray .int, 2) := by decide +kernel
theorem dX3_init_17 : decode cX3_init 17 = .ok (.putfield 15, 3) := by decide +kernel
theorem dX3_init_20 : decode cX3_init 20 = .ok (.aload_n 0, 1) := by decide +kernel
theorem dX3_init_21 : decode cX3_init 21 = .ok (.aload_n 1, 1) := by decide +kernel
theorem dX3_init_22 : decode cX3_init 22 = .ok (.putfield 18, 3) := by decide +kernel
theorem dX3_init_25 : decode cX3_init 25 = .ok (.return_, 1) := by decide +kernel
theorem dX3_forgetVouchers_0 : decode cX3_forgetVouchers 0 = .ok (.iconst 0, 1) := by decide +kernel
theorem dX3_forgetVouchers_1 : decode cX3_forgetVouchers 1 = .ok (.istore_n 1, 1) := by decide +kernel
theorem dX3_forgetVouchers_2 : decode cX3_forgetVouchers 2 = .ok (.iload_n 1, 1) := by decide +kernel
theorem dX3_forgetVouchers_3 : decode cX3_forgetVouchers 3 = .ok (.bipush 10, 2) := by decide +kernel
theorem dX3_forgetVouchers_5 : decode cX3_forgetVouchers 5 = .ok (.if_icmp .ge 25, 3) := by decide +kernel
theorem dX3_forgetVouchers_8 : decode cX3_forgetVouchers 8 = .ok (.aload_n 0, 1) := by decide +kernel
theorem dX3_forgetVouchers_9 : decode cX3_forgetVouchers 9 = .ok (.getfield 9, 3) := by decide +kernel
theorem dX3_forgetVouchers_12 : decode cX3_forgetVouchers 12 = .ok (.iload_n 1, 1) := by decide +kernel
theorem dX3_forgetVouchers_13 : decode cX3_forgetVouchers 13 = .ok (.iconst 0, 1) := by decide +kernel
theorem dX3_forgetVouchers_14 : decode cX3_forgetVouchers 14 = .ok (.iastore, 1) := by decide +kernel
theorem dX3_forgetVouchers_15 : decode cX3_forgetVouchers 15 = .ok (.aload_n 0, 1) := by decide +kernel
theorem dX3_forgetVouchers_16 : decode cX3_forgetVouchers 16 = .ok (.getfield 15, 3) := by decide +kernel
theorem dX3_forgetVouchers_19 : decode cX3_forgetVouchers 19 = .ok (.iload_n 1, 1) := by decide +kernel
theorem dX3_forgetVouchers_20 : decode cX3_forgetVouchers 20 = .ok (.sipush 1023, 3) := by decide +kernel
theorem dX3_forgetVouchers_23 : decode cX3_forgetVouchers 23 = .ok (.iastore, 1) := by decide +kernel
theorem dX3_forgetVouchers_24 : decode cX3_forgetVouchers 24 = .ok (.iinc 1 1, 3) := by decide +kernel
theorem dX3_forgetVouchers_27 : decode cX3_forgetVouchers 27 = .ok (.goto (-25), 3) := by decide +kernel
theorem dX3_forgetVouchers_30 : decode cX3_forgetVouchers 30 = .ok (.return_, 1) := by decide +kernel
theorem dX3_addVoucher_0 : decode cX3_addVoucher 0 = .ok (.aload_n 0, 1) := by decide +kernel
theorem dX3_addVoucher_1 : decode cX3_addVoucher 1 = .ok (.getfield 9, 3) := by decide +kernel
theorem dX3_addVoucher_4 : decode cX3_addVoucher 4 = .ok (.iload_n 1, 1) := by decide +kernel
theorem dX3_addVoucher_5 : decode cX3_addVoucher 5 = .ok (.dup2, 1) := by decide +kernel
theorem dX3_addVoucher_6 : decode cX3_addVoucher 6 = .ok (.iaload, 1) := by decide +kernel
theorem dX3_addVoucher_7 : decode cX3_addVoucher 7 = .ok (.iload_n 2, 1) := by decide +kernel
theorem dX3_addVoucher_8 : decode cX3_addVoucher 8 = .ok (.ior, 1) := by decide +kernel
theorem dX3_addVoucher_9 : decode cX3_addVoucher 9 = .ok (.iastore, 1) := by decide +kernel
theorem dX3_addVoucher_10 : decode cX3_addVoucher 10 = .ok (.aload_n 0, 1) := by decide +kernel
theorem dX3_addVoucher_11 : decode cX3_addVoucher 11 = .ok (.getfield 15, 3) := by decide +kernel
theorem dX3_addVoucher_14 : decode cX3_addVoucher 14 = .ok (.iload_n 1, 1) := by decide +kernel
theorem dX3_addVoucher_15 : decode cX3_addVoucher 15 = .ok (.aload_n 0, 1) := by decide +kernel
theorem dX3_addVoucher_16 : decode cX3_addVoucher 16 = .ok (.getfield 9, 3) := by decide +kernel
theorem dX3_addVoucher_19 : decode cX3_addVoucher 19 = .ok (.iload_n 1, 1) := by decide +kernel
theorem dX3_addVoucher_20 : decode cX3_addVoucher 20 = .ok (.iaload, 1) := by decide +kernel
theorem dX3_addVoucher_21 : decode cX3_addVoucher 21 = .ok (.iastore, 1) := by decide +kernel
theorem dX3_addVoucher_22 : decode cX3_addVoucher 22 = .ok (.return_, 1) := by decide +kernel
theorem dX3_judgeUp_0 : decode cX3_judgeUp 0 = .ok (.aload_n 1, 1) := by decide +kernel
theorem dX3_judgeUp_1 : decode cX3_judgeUp 1 = .ok (.iload_n 2, 1) := by decide +kernel
theorem dX3_judgeUp_2 : decode cX3_judgeUp 2 = .ok (.invokestatic 22, 3) := by decide +kernel
theorem dX3_judgeUp_5 : decode cX3_judgeUp 5 = .ok (.ifCond .ne 16, 3) := by decide +kernel
theorem dX3_judgeUp_8 : decode cX3_judgeUp 8 = .ok (.aload_n 1, 1) := by decide +kernel
theorem dX3_judgeUp_9 : decode cX3_judgeUp 9 = .ok (.iload_n 2, 1) := by decide +kernel
theorem dX3_judgeUp_10 : decode cX3_judgeUp 10 = .ok (.aload_n 0, 1) := by decide +kernel
theorem dX3_judgeUp_11 : decode cX3_judgeUp 11 = .ok (.getfield 15, 3) := by decide +kernel
theorem dX3_judgeUp_14 : decode cX3_judgeUp 14 = .ok (.invokestatic 28, 3) := by decide +kernel
theorem dX3_judgeUp_17 : decode cX3_judgeUp 17 = .ok (.iload_n 2, 1) := by decide +kernel
theorem dX3_judgeUp_18 : decode cX3_judgeUp 18 = .ok (.if_icmp .ge 5, 3) := by decide +kernel
theorem dX3_judgeUp_21 : decode cX3_judgeUp 21 = .ok (.iconst 2, 1) := by decide +kernel
theorem dX3_judgeUp_22 : decode cX3_judgeUp 22 = .ok (.ireturn, 1) := by decide +kernel
theorem dX3_judgeUp_23 : decode cX3_judgeUp 23 = .ok (.aload_n 1, 1) := by decide +kernel
theorem dX3_judgeUp_24 : decode cX3_judgeUp 24 = .ok (.iload_n 2, 1) := by decide +kernel
theorem dX3_judgeUp_25 : decode cX3_judgeUp 25 = .ok (.aload_n 0, 1) := by decide +kernel
theorem dX3_judgeUp_26 : decode cX3_judgeUp 26 = .ok (.getfield 9, 3) := by decide +kernel
theorem dX3_judgeUp_29 : decode cX3_judgeUp 29 = .ok (.invokestatic 28, 3) := by decide +kernel
theorem dX3_judgeUp_32 : decode cX3_judgeUp 32 = .ok (.iload_n 2, 1) := by decide +kernel
theorem dX3_judgeUp_33 : decode cX3_judgeUp 33 = .ok (.if_icmp .ne 7, 3) := by decide +kernel
theorem dX3_judgeUp_36 : decode cX3_judgeUp 36 = .ok (.iconst 1, 1) := by decide +kernel
theorem dX3_judgeUp_37 : decode cX3_judgeUp 37 = .ok (.goto 4, 3) := by decide +kernel
theorem dX3_judgeUp_40 : decode cX3_judgeUp 40 = .ok (.iconst 0, 1) := by decide +kernel
theorem dX3_judgeUp_41 : decode cX3_judgeUp 41 = .ok (.ireturn, 1) := by decide +kernel
theorem dX3_judgeDown_0 : decode cX3_judgeDown 0 = .ok (.aload_n 1, 1) := by decide +kernel
theorem dX3_judgeDown_1 : decode cX3_judgeDown 1 = .ok (.iload_n 2, 1) := by decide +kernel
theorem dX3_judgeDown_2 : decode cX3_judgeDown 2 = .ok (.invokestatic 22, 3) := by decide +kernel
theorem dX3_judgeDown_5 : decode cX3_judgeDown 5 = .ok (.ifCond .eq 5, 3) := by decide +kernel
theorem dX3_judgeDown_8 : decode cX3_judgeDown 8 = .ok (.iconst 2, 1) := by decide +kernel
theorem dX3_judgeDown_9 : decode cX3_judgeDown 9 = .ok (.ireturn, 1) := by decide +kernel
theorem dX3_judgeDown_10 : decode cX3_judgeDown 10 = .ok (.aload_n 1, 1) := by decide +kernel
theorem dX3_judgeDown_11 : decode cX3_judgeDown 11 = .ok (.iload_n 2, 1) := by decide +kernel
theorem dX3_judgeDown_12 : decode cX3_judgeDown 12 = .ok (.aload_n 0, 1) := by decide +kernel
theorem dX3_judgeDown_13 : decode cX3_judgeDown 13 = .ok (.getfield 15, 3) := by decide +kernel
theorem dX3_judgeDown_16 : decode cX3_judgeDown 16 = .ok (.invokestatic 28, 3) := by decide +kernel
theorem dX3_judgeDown_19 : decode cX3_judgeDown 19 = .ok (.aload_n 1, 1) := by decide +kernel
theorem dX3_judgeDown_20 : decode cX3_judgeDown 20 = .ok (.iload_n 2, 1) := by decide +kernel
theorem dX3_judgeDown_21 : decode cX3_judgeDown 21 = .ok (.aload_n 0, 1) := by decide +kernel
theorem dX3_judgeDown_22 : decode cX3_judgeDown 22 = .ok (.getfield 15, 3) := by decide +kernel
theorem dX3_judgeDown_25 : decode cX3_judgeDown 25 = .ok (.invokestatic 32, 3) := by decide +kernel
theorem dX3_judgeDown_28 : decode cX3_judgeDown 28 = .ok (.iadd, 1) := by decide +kernel
theorem dX3_judgeDown_29 : decode cX3_judgeDown 29 = .ok (.iload_n 2, 1) := by decide +kernel
theorem dX3_judgeDown_30 : decode cX3_judgeDown 30 = .ok (.if_icmp .ge 5, 3) := by decide +kernel
theorem dX3_judgeDown_33 : decode cX3_judgeDown 33 = .ok (.iconst 2, 1) := by decide +kernel
theorem dX3_judgeDown_34 : decode cX3_judgeDown 34 = .ok (.ireturn, 1) := by decide +kernel
theorem dX3_judgeDown_35 : decode cX3_judgeDown 35 = .ok (.aload_n 1, 1) := by decide +kernel
theorem dX3_judgeDown_36 : decode cX3_judgeDown 36 = .ok (.iload_n 2, 1) := by decide +kernel
theorem dX3_judgeDown_37 : decode cX3_judgeDown 37 = .ok (.aload_n 0, 1) := by decide +kernel
theorem dX3_judgeDown_38 : decode cX3_judgeDown 38 = .ok (.getfield 9, 3) := by decide +kernel
theorem dX3_judgeDown_41 : decode cX3_judgeDown 41 = .ok (.invokestatic 28, 3) := by decide +kernel
theorem dX3_judgeDown_44 : decode cX3_judgeDown 44 = .ok (.aload_n 1, 1) := by decide +kernel
theorem dX3_judgeDown_45 : decode cX3_judgeDown 45 = .ok (.iload_n 2, 1) := by decide +kernel
theorem dX3_judgeDown_46 : decode cX3_judgeDown 46 = .ok (.aload_n 0, 1) := by decide +kernel
theorem dX3_judgeDown_47 : decode cX3_judgeDown 47 = .ok (.getfield 9, 3) := by decide +kernel
theorem dX3_judgeDown_50 : decode cX3_judgeDown 50 = .ok (.invokestatic 32, 3) := by decide +kernel
theorem dX3_judgeDown_53 : decode cX3_judgeDown 53 = .ok (.iadd, 1) := by decide +kernel
theorem dX3_judgeDown_54 : decode cX3_judgeDown 54 = .ok (.iload_n 2, 1) := by decide +kernel
theorem dX3_judgeDown_55 : decode cX3_judgeDown 55 = .ok (.if_icmp .lt 7, 3) := by decide +kernel
theorem dX3_judgeDown_58 : decode cX3_judgeDown 58 = .ok (.iconst 1, 1) := by decide +kernel
theorem dX3_judgeDown_59 : decode cX3_judgeDown 59 = .ok (.goto 4, 3) := by decide +kernel
theorem dX3_judgeDown_62 : decode cX3_judgeDown 62 = .ok (.iconst 0, 1) := by decide +kernel
theorem dX3_judgeDown_63 : decode cX3_judgeDown 63 = .ok (.ireturn, 1) := by decide +kernel
theorem dX3_isRefusedAt_0 : decode cX3_isRefusedAt 0 = .ok (.aload_n 0, 1) := by decide +kernel
theorem dX3_isRefusedAt_1 : decode cX3_isRefusedAt 1 = .ok (.getfield 18, 3) := by decide +kernel
theorem dX3_isRefusedAt_4 : decode cX3_isRefusedAt 4 = .ok (.aload_n 1, 1) := by decide +kernel
theorem dX3_isRefusedAt_5 : decode cX3_isRefusedAt 5 = .ok (.iload_n 2, 1) := by decide +kernel
theorem dX3_isRefusedAt_6 : decode cX3_isRefusedAt 6 = .ok (.iconst 1, 1) := by decide +kernel
theorem dX3_isRefusedAt_7 : decode cX3_isRefusedAt 7 = .ok (.isub, 1) := by decide +kernel
theorem dX3_isRefusedAt_8 : decode cX3_isRefusedAt 8 = .ok (.iaload, 1) := by decide +kernel
theorem dX3_isRefusedAt_9 : decode cX3_isRefusedAt 9 = .ok (.aload_n 1, 1) := by decide +kernel
theorem dX3_isRefusedAt_10 : decode cX3_isRefusedAt 10 = .ok (.iload_n 2, 1) := by decide +kernel
theorem dX3_isRefusedAt_11 : decode cX3_isRefusedAt 11 = .ok (.iaload, 1) := by decide +kernel
theorem dX3_isRefusedAt_12 : decode cX3_isRefusedAt 12 = .ok (.invokevirtual 35, 3) := by decide +kernel
theorem dX3_isRefusedAt_15 : decode cX3_isRefusedAt 15 = .ok (.iconst 2, 1) := by decide +kernel
theorem dX3_isRefusedAt_16 : decode cX3_isRefusedAt 16 = .ok (.if_icmp .ne 7, 3) := by decide +kernel
theorem dX3_isRefusedAt_19 : decode cX3_isRefusedAt 19 = .ok (.iconst 1, 1) := by decide +kernel
theorem dX3_isRefusedAt_20 : decode cX3_isRefusedAt 20 = .ok (.goto 4, 3) := by decide +kernel
theorem dX3_isRefusedAt_23 : decode cX3_isRefusedAt 23 = .ok (.iconst 0, 1) := by decide +kernel
theorem dX3_isRefusedAt_24 : decode cX3_isRefusedAt 24 = .ok (.istore_n 3, 1) := by decide +kernel
theorem dX3_isRefusedAt_25 : decode cX3_isRefusedAt 25 = .ok (.iload_n 3, 1) := by decide +kernel
theorem dX3_isRefusedAt_26 : decode cX3_isRefusedAt 26 = .ok (.ifCond .eq 12, 3) := by decide +kernel
theorem dX3_isRefusedAt_29 : decode cX3_isRefusedAt 29 = .ok (.aload_n 0, 1) := by decide +kernel
theorem dX3_isRefusedAt_30 : decode cX3_isRefusedAt 30 = .ok (.aload_n 1, 1) := by decide +kernel
theorem dX3_isRefusedAt_31 : decode cX3_isRefusedAt 31 = .ok (.iload_n 2, 1) := by decide +kernel
theorem dX3_isRefusedAt_32 : decode cX3_isRefusedAt 32 = .ok (.invokevirtual 41, 3) := by decide +kernel
theorem dX3_isRefusedAt_35 : decode cX3_isRefusedAt 35 = .ok (.goto 9, 3) := by decide +kernel
theorem dX3_isRefusedAt_38 : decode cX3_isRefusedAt 38 = .ok (.aload_n 0, 1) := by decide +kernel
theorem dX3_isRefusedAt_39 : decode cX3_isRefusedAt 39 = .ok (.aload_n 1, 1) := by decide +kernel
theorem dX3_isRefusedAt_40 : decode cX3_isRefusedAt 40 = .ok (.iload_n 2, 1) := by decide +kernel
theorem dX3_isRefusedAt_41 : decode cX3_isRefusedAt 41 = .ok (.invokevirtual 45, 3) := by decide +kernel
theorem dX3_isRefusedAt_44 : decode cX3_isRefusedAt 44 = .ok (.iconst 2, 1) := by decide +kernel
theorem dX3_isRefusedAt_45 : decode cX3_isRefusedAt 45 = .ok (.if_icmp .ne 7, 3) := by decide +kernel
theorem dX3_isRefusedAt_48 : decode cX3_isRefusedAt 48 = .ok (.iconst 1, 1) := by decide +kernel
theorem dX3_isRefusedAt_49 : decode cX3_isRefusedAt 49 = .ok (.goto 4, 3) := by decide +kernel
theorem dX3_isRefusedAt_52 : decode cX3_isRefusedAt 52 = .ok (.iconst 0, 1) := by decide +kernel
theorem dX3_isRefusedAt_53 : decode cX3_isRefusedAt 53 = .ok (.ireturn, 1) := by decide +kernel
theorem dX3_netsUp_0 : decode cX3_netsUp 0 = .ok (.iconst 1, 1) := by decide +kernel
theorem dX3_netsUp_1 : decode cX3_netsUp 1 = .ok (.istore_n 3, 1) := by decide +kernel
theorem dX3_netsUp_2 : decode cX3_netsUp 2 = .ok (.iload_n 3, 1) := by decide +kernel
theorem dX3_netsUp_3 : decode cX3_netsUp 3 = .ok (.iload_n 1, 1) := by decide +kernel
theorem dX3_netsUp_4 : decode cX3_netsUp 4 = .ok (.if_icmp .ge 25, 3) := by decide +kernel
theorem dX3_netsUp_7 : decode cX3_netsUp 7 = .ok (.aload_n 2, 1) := by decide +kernel
theorem dX3_netsUp_8 : decode cX3_netsUp 8 = .ok (.aload_n 0, 1) := by decide +kernel
theorem dX3_netsUp_9 : decode cX3_netsUp 9 = .ok (.iload_n 3, 1) := by decide +kernel
theorem dX3_netsUp_10 : decode cX3_netsUp 10 = .ok (.iconst 1, 1) := by decide +kernel
theorem dX3_netsUp_11 : decode cX3_netsUp 11 = .ok (.isub, 1) := by decide +kernel
theorem dX3_netsUp_12 : decode cX3_netsUp 12 = .ok (.iaload, 1) := by decide +kernel
theorem dX3_netsUp_13 : decode cX3_netsUp 13 = .ok (.iaload, 1) := by decide +kernel
theorem dX3_netsUp_14 : decode cX3_netsUp 14 = .ok (.aload_n 0, 1) := by decide +kernel
theorem dX3_netsUp_15 : decode cX3_netsUp 15 = .ok (.iload_n 3, 1) := by decide +kernel
theorem dX3_netsUp_16 : decode cX3_netsUp 16 = .ok (.iaload, 1) := by decide +kernel
theorem dX3_netsUp_17 : decode cX3_netsUp 17 = .ok (.invokestatic 48, 3) := by decide +kernel
theorem dX3_netsUp_20 : decode cX3_netsUp 20 = .ok (.ifCond .eq 9, 3) := by decide +kernel
theorem dX3_netsUp_23 : decode cX3_netsUp 23 = .ok (.iinc 3 1, 3) := by decide +kernel
theorem dX3_netsUp_26 : decode cX3_netsUp 26 = .ok (.goto (-24), 3) := by decide +kernel
theorem dX3_netsUp_29 : decode cX3_netsUp 29 = .ok (.iload_n 3, 1) := by decide +kernel
theorem dX3_netsUp_30 : decode cX3_netsUp 30 = .ok (.ireturn, 1) := by decide +kernel
theorem dX3_netsBack_0 : decode cX3_netsBack 0 = .ok (.iconst 1, 1) := by decide +kernel
theorem dX3_netsBack_1 : decode cX3_netsBack 1 = .ok (.istore_n 3, 1) := by decide +kernel
theorem dX3_netsBack_2 : decode cX3_netsBack 2 = .ok (.iload_n 3, 1) := by decide +kernel
theorem dX3_netsBack_3 : decode cX3_netsBack 3 = .ok (.iload_n 1, 1) := by decide +kernel
theorem dX3_netsBack_4 : decode cX3_netsBack 4 = .ok (.if_icmp .ge 29, 3) := by decide +kernel
theorem dX3_netsBack_7 : decode cX3_netsBack 7 = .ok (.aload_n 2, 1) := by decide +kernel
theorem dX3_netsBack_8 : decode cX3_netsBack 8 = .ok (.aload_n 0, 1) := by decide +kernel
theorem dX3_netsBack_9 : decode cX3_netsBack 9 = .ok (.iload_n 1, 1) := by decide +kernel
theorem dX3_netsBack_10 : decode cX3_netsBack 10 = .ok (.iload_n 3, 1) := by decide +kernel
theorem dX3_netsBack_11 : decode cX3_netsBack 11 = .ok (.isub, 1) := by decide +kernel
theorem dX3_netsBack_12 : decode cX3_netsBack 12 = .ok (.iaload, 1) := by decide +kernel
theorem dX3_netsBack_13 : decode cX3_netsBack 13 = .ok (.iaload, 1) := by decide +kernel
theorem dX3_netsBack_14 : decode cX3_netsBack 14 = .ok (.aload_n 0, 1) := by decide +kernel
theorem dX3_netsBack_15 : decode cX3_netsBack 15 = .ok (.iload_n 1, 1) := by decide +kernel
theorem dX3_netsBack_16 : decode cX3_netsBack 16 = .ok (.iload_n 3, 1) := by decide +kernel
theorem dX3_netsBack_17 : decode cX3_netsBack 17 = .ok (.isub, 1) := by decide +kernel
theorem dX3_netsBack_18 : decode cX3_netsBack 18 = .ok (.iconst 1, 1) := by decide +kernel
theorem dX3_netsBack_19 : decode cX3_netsBack 19 = .ok (.isub, 1) := by decide +kernel
theorem dX3_netsBack_20 : decode cX3_netsBack 20 = .ok (.iaload, 1) := by decide +kernel
theorem dX3_netsBack_21 : decode cX3_netsBack 21 = .ok (.invokestatic 48, 3) := by decide +kernel
theorem dX3_netsBack_24 : decode cX3_netsBack 24 = .ok (.ifCond .eq 9, 3) := by decide +kernel
theorem dX3_netsBack_27 : decode cX3_netsBack 27 = .ok (.iinc 3 1, 3) := by decide +kernel
theorem dX3_netsBack_30 : decode cX3_netsBack 30 = .ok (.goto (-28), 3) := by decide +kernel
theorem dX3_netsBack_33 : decode cX3_netsBack 33 = .ok (.iload_n 3, 1) := by decide +kernel
theorem dX3_netsBack_34 : decode cX3_netsBack 34 = .ok (.ireturn, 1) := by decide +kernel
theorem dX4_init_0 : decode cX4_init 0 = .ok (.aload_n 0, 1) := by decide +kernel
theorem dX4_init_1 : decode cX4_init 1 = .ok (.invokespecial 3, 3) := by decide +kernel
theorem dX4_init_4 : decode cX4_init 4 = .ok (.aload_n 0, 1) := by decide +kernel
theorem dX4_init_5 : decode cX4_init 5 = .ok (.iconst 0, 1) := by decide +kernel
theorem dX4_init_6 : decode cX4_init 6 = .ok (.putfield 9, 3) := by decide +kernel
theorem dX4_init_9 : decode cX4_init 9 = .ok (.aload_n 0, 1) := by decide +kernel
theorem dX4_init_10 : decode cX4_init 10 = .ok (.iconst 1, 1) := by decide +kernel
theorem dX4_init_11 : decode cX4_init 11 = .ok (.putfield 15, 3) := by decide +kernel
theorem dX4_init_14 : decode cX4_init 14 = .ok (.aload_n 0, 1) := by decide +kernel
theorem dX4_init_15 : decode cX4_init 15 = .ok (.bipush 8, 2) := by decide +kernel
theorem dX4_init_17 : decode cX4_init 17 = .ok (.newarray .int, 2) := by decide +kernel
theorem dX4_init_19 : decode cX4_init 19 = .ok (.putfield 18, 3) := by decide +kernel
theorem dX4_init_22 : decode cX4_init 22 = .ok (.aload_n 0, 1) := by decide +kernel
theorem dX4_init_23 : decode cX4_init 23 = .ok (.bipush 8, 2) := by decide +kernel
theorem dX4_init_25 : decode cX4_init 25 = .ok (.newarray .int, 2) := by decide +kernel
theorem dX4_init_27 : decode cX4_init 27 = .ok (.putfield 22, 3) := by decide +kernel
theorem dX4_init_30 : decode cX4_init 30 = .ok (.aload_n 0, 1) := by decide +kernel
theorem dX4_init_31 : decode cX4_init 31 = .ok (.bipush 8, 2) := by decide +kernel
theorem dX4_init_33 : decode cX4_init 33 = .ok (.newarray .int, 2) := by decide +kernel
theorem dX4_init_35 : decode cX4_init 35 = .ok (.putfield 25, 3) := by decide +kernel
theorem dX4_init_38 : decode cX4_init 38 = .ok (.aload_n 0, 1) := by decide +kernel
theorem dX4_init_39 : decode cX4_init 39 = .ok (.bipush 10, 2) := by decide +kernel
theorem dX4_init_41 : decode cX4_init 41 = .ok (.newarray .int, 2) := by decide +kernel
theorem dX4_init_43 : decode cX4_init 43 = .ok (.putfield 28, 3) := by decide +kernel
theorem dX4_init_46 : decode cX4_init 46 = .ok (.aload_n 0, 1) := by decide +kernel
theorem dX4_init_47 : decode cX4_init 47 = .ok (.getfield 18, 3) := by decide +kernel
theorem dX4_init_50 : decode cX4_init 50 = .ok (.iconst 0, 1) := by decide +kernel
theorem dX4_init_51 : decode cX4_init 51 = .ok (.iconst (-1), 1) := by decide +kernel
theorem dX4_init_52 : decode cX4_init 52 = .ok (.iastore, 1) := by decide +kernel
theorem dX4_init_53 : decode cX4_init 53 = .ok (.aload_n 0, 1) := by decide +kernel
theorem dX4_init_54 : decode cX4_init 54 = .ok (.getfield 25, 3) := by decide +kernel
theorem dX4_init_57 : decode cX4_init 57 = .ok (.iconst 0, 1) := by decide +kernel
theorem dX4_init_58 : decode cX4_init 58 = .ok (.bipush 30, 2) := by decide +kernel
theorem dX4_init_60 : decode cX4_init 60 = .ok (.iastore, 1) := by decide +kernel
theorem dX4_init_61 : decode cX4_init 61 = .ok (.return_, 1) := by decide +kernel
theorem dX4_add_0 : decode cX4_add 0 = .ok (.aload_n 0, 1) := by decide +kernel
theorem dX4_add_1 : decode cX4_add 1 = .ok (.getfield 15, 3) := by decide +kernel
theorem dX4_add_4 : decode cX4_add 4 = .ok (.istore_n 2, 1) := by decide +kernel
theorem dX4_add_5 : decode cX4_add 5 = .ok (.aload_n 0, 1) := by decide +kernel
theorem dX4_add_6 : decode cX4_add 6 = .ok (.getfield 18, 3) := by decide +kernel
theorem dX4_add_9 : decode cX4_add 9 = .ok (.iload_n 2, 1) := by decide +kernel
theorem dX4_add_10 : decode cX4_add 10 = .ok (.iload_n 1, 1) := by decide +kernel
theorem dX4_add_11 : decode cX4_add 11 = .ok (.iastore, 1) := by decide +kernel
theorem dX4_add_12 : decode cX4_add 12 = .ok (.aload_n 0, 1) := by decide +kernel
theorem dX4_add_13 : decode cX4_add 13 = .ok (.getfield 25, 3) := by decide +kernel
theorem dX4_add_16 : decode cX4_add 16 = .ok (.iload_n 2, 1) := by decide +kernel
theorem dX4_add_17 : decode cX4_add 17 = .ok (.aload_n 0, 1) := by decide +kernel
theorem dX4_add_18 : decode cX4_add 18 = .ok (.getfield 9, 3) := by decide +kernel
theorem dX4_add_21 : decode cX4_add 21 = .ok (.bipush 30, 2) := by decide +kernel
theorem dX4_add_23 : decode cX4_add 23 = .ok (.iadd, 1) := by decide +kernel
theorem dX4_add_24 : decode cX4_add 24 = .ok (.iastore, 1) := by decide +kernel
theorem dX4_add_25 : decode cX4_add 25 = .ok (.aload_n 0, 1) := by decide +kernel
theorem dX4_add_26 : decode cX4_add 26 = .ok (.dup, 1) := by decide +kernel
theorem dX4_add_27 : decode cX4_add 27 = .ok (.getfield 15, 3) := by decide +kernel
theorem dX4_add_30 : decode cX4_add 30 = .ok (.iconst 1, 1) := by decide +kernel
theorem dX4_add_31 : decode cX4_add 31 = .ok (.iadd, 1) := by decide +kernel
theorem dX4_add_32 : decode cX4_add 32 = .ok (.putfield 15, 3) := by decide +kernel
theorem dX4_add_35 : decode cX4_add 35 = .ok (.iload_n 2, 1) := by decide +kernel
theorem dX4_add_36 : decode cX4_add 36 = .ok (.ireturn, 1) := by decide +kernel
theorem dX5_init_0 : decode cX5_init 0 = .ok (.aload_n 0, 1) := by decide +kernel
theorem dX5_init_1 : decode cX5_init 1 = .ok (.invokespecial 3, 3) := by decide +kernel
theorem dX5_init_4 : decode cX5_init 4 = .ok (.aload_n 0, 1) := by decide +kernel
theorem dX5_init_5 : decode cX5_init 5 = .ok (.iconst 0, 1) := by decide +kernel
theorem dX5_init_6 : decode cX5_init 6 = .ok (.putfield 9, 3) := by decide +kernel
theorem dX5_init_9 : decode cX5_init 9 = .ok (.aload_n 0, 1) := by decide +kernel
theorem dX5_init_10 : decode cX5_init 10 = .ok (.bipush 10, 2) := by decide +kernel
theorem dX5_init_12 : decode cX5_init 12 = .ok (.newarray .int, 2) := by decide +kernel
theorem dX5_init_14 : decode cX5_init 14 = .ok (.putfield 15, 3) := by decide +kernel
theorem dX5_init_17 : decode cX5_init 17 = .ok (.aload_n 0, 1) := by decide +kernel
theorem dX5_init_18 : decode cX5_init 18 = .ok (.bipush 10, 2) := by decide +kernel
theorem dX5_init_20 : decode cX5_init 20 = .ok (.bipush 10, 2) := by decide +kernel
theorem dX5_init_22 : decode cX5_init 22 = .ok (.multianewarray 19 2, 4) := by decide +kernel
theorem dX5_init_26 : decode cX5_init 26 = .ok (.putfield 21, 3) := by decide +kernel
theorem dX5_init_29 : decode cX5_init 29 = .ok (.aload_n 0, 1) := by decide +kernel
theorem dX5_init_30 : decode cX5_init 30 = .ok (.iconst 3, 1) := by decide +kernel
theorem dX5_init_31 : decode cX5_init 31 = .ok (.bipush 10, 2) := by decide +kernel
theorem dX5_init_33 : decode cX5_init 33 = .ok (.multianewarray 19 2, 4) := by decide +kernel
theorem dX5_init_37 : decode cX5_init 37 = .ok (.putfield 24, 3) := by decide +kernel
theorem dX5_init_40 : decode cX5_init 40 = .ok (.aload_n 0, 1) := by decide +kernel
theorem dX5_init_41 : decode cX5_init 41 = .ok (.aload_n 1, 1) := by decide +kernel
theorem dX5_init_42 : decode cX5_init 42 = .ok (.putfield 27, 3) := by decide +kernel
theorem dX5_init_45 : decode cX5_init 45 = .ok (.return_, 1) := by decide +kernel
theorem dX5_infer_0 : decode cX5_infer 0 = .ok (.aload_n 0, 1) := by decide +kernel
theorem dX5_infer_1 : decode cX5_infer 1 = .ok (.invokevirtual 31, 3) := by decide +kernel
theorem dX5_infer_4 : decode cX5_infer 4 = .ok (.aload_n 0, 1) := by decide +kernel
theorem dX5_infer_5 : decode cX5_infer 5 = .ok (.invokevirtual 34, 3) := by decide +kernel
theorem dX5_infer_8 : decode cX5_infer 8 = .ok (.iconst 0, 1) := by decide +kernel
theorem dX5_infer_9 : decode cX5_infer 9 = .ok (.istore_n 1, 1) := by decide +kernel
theorem dX5_infer_10 : decode cX5_infer 10 = .ok (.iload_n 1, 1) := by decide +kernel
theorem dX5_infer_11 : decode cX5_infer 11 = .ok (.iconst 3, 1) := by decide +kernel
theorem dX5_infer_12 : decode cX5_infer 12 = .ok (.if_icmp .ge 19, 3) := by decide +kernel
theorem dX5_infer_15 : decode cX5_infer 15 = .ok (.aload_n 0, 1) := by decide +kernel
theorem dX5_infer_16 : decode cX5_infer 16 = .ok (.iload_n 1, 1) := by decide +kernel
theorem dX5_infer_17 : decode cX5_infer 17 = .ok (.invokevirtual 37, 3) := by decide +kernel
theorem dX5_infer_20 : decode cX5_infer 20 = .ok (.aload_n 0, 1) := by decide +kernel
theorem dX5_infer_21 : decode cX5_infer 21 = .ok (.iload_n 1, 1) := by decide +kernel
theorem dX5_infer_22 : decode cX5_infer 22 = .ok (.invokevirtual 41, 3) := by decide +kernel
theorem dX5_infer_25 : decode cX5_infer 25 = .ok (.iinc 1 1, 3) := by decide +kernel
theorem dX5_infer_28 : decode cX5_infer 28 = .ok (.goto (-18), 3) := by decide +kernel
theorem dX5_infer_31 : decode cX5_infer 31 = .ok (.return_, 1) := by decide +kernel
theorem dX5_findNeighbours_0 : decode cX5_findNeighbours 0 = .ok (.iconst 0, 1) := by decide +kernel
theorem dX5_findNeighbours_1 : decode cX5_findNeighbours 1 = .ok (.istore_n 1, 1) := by decide +kernel
theorem dX5_findNeighbours_2 : decode cX5_findNeighbours 2 = .ok (.iload_n 1, 1) := by decide +kernel
theorem dX5_findNeighbours_3 : decode cX5_findNeighbours 3 = .ok (.bipush 10, 2) := by decide +kernel
theorem dX5_findNeighbours_5 : decode cX5_findNeighbours 5 = .ok (.if_icmp .ge 16, 3) := by decide +kernel
theorem dX5_findNeighbours_8 : decode cX5_findNeighbours 8 = .ok (.aload_n 0, 1) := by decide +kernel
theorem dX5_findNeighbours_9 : decode cX5_findNeighbours 9 = .ok (.getfield 15, 3) := by decide +kernel
theorem dX5_findNeighbours_12 : decode cX5_findNeighbours 12 = .ok (.iload_n 1, 1) := by decide +kernel
theorem dX5_findNeighbours_13 : decode cX5_findNeighbours 13 = .ok (.iconst 0, 1) := by decide +kernel
theorem dX5_findNeighbours_14 : decode cX5_findNeighbours 14 = .ok (.iastore, 1) := by decide +kernel
theorem dX5_findNeighbours_15 : decode cX5_findNeighbours 15 = .ok (.iinc 1 1, 3) := by decide +kernel
theorem dX5_findNeighbours_18 : decode cX5_findNeighbours 18 = .ok (.goto (-16), 3) := by decide +kernel
theorem dX5_findNeighbours_21 : decode cX5_findNeighbours 21 = .ok (.iconst 0, 1) := by decide +kernel
theorem dX5_findNeighbours_22 : decode cX5_findNeighbours 22 = .ok (.istore_n 1, 1) := by decide +kernel
theorem dX5_findNeighbours_23 : decode cX5_findNeighbours 23 = .ok (.iload_n 1, 1) := by decide +kernel
theorem dX5_findNeighbours_24 : decode cX5_findNeighbours 24 = .ok (.aload_n 0, 1) := by decide +kernel
theorem dX5_findNeighbours_25 : decode cX5_findNeighbours 25 = .ok (.getfield 27, 3) := by decide +kernel
theorem dX5_findNeighbours_28 : decode cX5_findNeighbours 28 = .ok (.getfield 44, 3) := by decide +kernel
theorem dX5_findNeighbours_31 : decode cX5_findNeighbours 31 = .ok (.if_icmp .ge 42, 3) := by decide +kernel
theorem dX5_findNeighbours_34 : decode cX5_findNeighbours 34 = .ok (.aload_n 0, 1) := by decide +kernel
theorem dX5_findNeighbours_35 : decode cX5_findNeighbours 35 = .ok (.getfield 27, 3) := by decide +kernel
theorem dX5_findNeighbours_38 : decode cX5_findNeighbours 38 = .ok (.iload_n 1, 1) := by decide +kernel
theorem dX5_findNeighbours_39 : decode cX5_findNeighbours 39 = .ok (.invokevirtual 49, 3) := by decide +kernel
theorem dX5_findNeighbours_42 : decode cX5_findNeighbours 42 = .ok (.ifCond .eq 25, 3) := by decide +kernel
theorem dX5_findNeighbours_45 : decode cX5_findNeighbours 45 = .ok (.aload_n 0, 1) := by decide +kernel
theorem dX5_findNeighbours_46 : decode cX5_findNeighbours 46 = .ok (.aload_n 0, 1) := by decide +kernel
theorem dX5_findNeighbours_47 : decode cX5_findNeighbours 47 = .ok (.getfield 27, 3) := by decide +kernel
theorem dX5_findNeighbours_50 : decode cX5_findNeighbours 50 = .ok (.getfield 53, 3) := by decide +kernel
theorem dX5_findNeighbours_53 : decode cX5_findNeighbours 53 = .ok (.iload_n 1, 1) := by decide +kernel
theorem dX5_findNeighbours_54 : decode cX5_findNeighbours 54 = .ok (.aaload, 1) := by decide +kernel
theorem dX5_findNeighbours_55 : decode cX5_findNeighbours 55 = .ok (.aload_n 0, 1) := by decide +kernel
theorem dX5_findNeighbours_56 : decode cX5_findNeighbours 56 = .ok (.getfield 27, 3) := by decide +kernel
theorem dX5_findNeighbours_59 : decode cX5_findNeighbours 59 = .ok (.getfield 56, 3) := by decide +kernel
theorem dX5_findNeighbours_62 : decode cX5_findNeighbours 62 = .ok (.iload_n 1, 1) := by decide +kernel
theorem dX5_findNeighbours_63 : decode cX5_findNeighbours 63 = .ok (.iaload, 1) := by decide +kernel
theorem dX5_findNeighbours_64 : decode cX5_findNeighbours 64 = .ok (.invokevirtual 59, 3) := by decide +kernel
theorem dX5_findNeighbours_67 : decode cX5_findNeighbours 67 = .ok (.iinc 1 1, 3) := by decide +kernel
theorem dX5_findNeighbours_70 : decode cX5_findNeighbours 70 = .ok (.goto (-47), 3) := by decide +kernel
theorem dX5_findNeighbours_73 : decode cX5_findNeighbours 73 = .ok (.return_, 1) := by decide +kernel
theorem dX5_joinNeighbours_0 : decode cX5_joinNeighbours 0 = .ok (.iconst 1, 1) := by decide +kernel
theorem dX5_joinNeighbours_1 : decode cX5_joinNeighbours 1 = .ok (.istore_n 3, 1) := by decide +kernel
theorem dX5_joinNeighbours_2 : decode cX5_joinNeighbours 2 = .ok (.iload_n 3, 1) := by decide +kernel
theorem dX5_joinNeighbours_3 : decode cX5_joinNeighbours 3 = .ok (.iload_n 2, 1) := by decide +kernel
theorem dX5_joinNeighbours_4 : decode cX5_joinNeighbours 4 = .ok (.if_icmp .ge 45, 3) := by decide +kernel
theorem dX5_joinNeighbours_7 : decode cX5_joinNeighbours 7 = .ok (.aload_n 0, 1) := by decide +kernel
theorem dX5_joinNeighbours_8 : decode cX5_joinNeighbours 8 = .ok (.getfield 15, 3) := by decide +kernel
theorem dX5_joinNeighbours_11 : decode cX5_joinNeighbours 11 = .ok (.aload_n 1, 1) := by decide +kernel
theorem dX5_joinNeighbours_12 : decode cX5_joinNeighbours 12 = .ok (.iload_n 3, 1) := by decide +kernel
theorem dX5_joinNeighbours_13 : decode cX5_joinNeighbours 13 = .ok (.iconst 1, 1) := by decide +kernel
theorem dX5_joinNeighbours_14 : decode cX5_joinNeighbours 14 = .ok (.isub, 1) := by decide +kernel
theorem dX5_joinNeighbours_15 : decode cX5_joinNeighbours 15 = .ok (.iaload, 1) := by decide +kernel
theorem dX5_joinNeighbours_16 : decode cX5_joinNeighbours 16 = .ok (.dup2, 1) := by decide +kernel
theorem dX5_joinNeighbours_17 : decode cX5_joinNeighbours 17 = .ok (.iaload, 1) := by decide +kernel
theorem dX5_joinNeighbours_18 : decode cX5_joinNeighbours 18 = .ok (.iconst 1, 1) := by decide +kernel
theorem dX5_joinNeighbours_19 : decode cX5_joinNeighbours 19 = .ok (.aload_n 1, 1) := by decide +kernel
theorem dX5_joinNeighbours_20 : decode cX5_joinNeighbours 20 = .ok (.iload_n 3, 1) := by decide +kernel
theorem dX5_joinNeighbours_21 : decode cX5_joinNeighbours 21 = .ok (.iaload, 1) := by decide +kernel
theorem dX5_joinNeighbours_22 : decode cX5_joinNeighbours 22 = .ok (.ishl, 1) := by decide +kernel
theorem dX5_joinNeighbours_23 : decode cX5_joinNeighbours 23 = .ok (.ior, 1) := by decide +kernel
theorem dX5_joinNeighbours_24 : decode cX5_joinNeighbours 24 = .ok (.iastore, 1) := by decide +kernel
theorem dX5_joinNeighbours_25 : decode cX5_joinNeighbours 25 = .ok (.aload_n 0, 1) := by decide +kernel
theorem dX5_joinNeighbours_26 : decode cX5_joinNeighbours 26 = .ok (.getfield 15, 3) := by decide +kernel
theorem dX5_joinNeighbours_29 : decode cX5_joinNeighbours 29 = .ok (.aload_n 1, 1) := by decide +kernel
theorem dX5_joinNeighbours_30 : decode cX5_joinNeighbours 30 = .ok (.iload_n 3, 1) := by decide +kernel
theorem dX5_joinNeighbours_31 : decode cX5_joinNeighbours 31 = .ok (.iaload, 1) := by decide +kernel
theorem dX5_joinNeighbours_32 : decode cX5_joinNeighbours 32 = .ok (.dup2, 1) := by decide +kernel
theorem dX5_joinNeighbours_33 : decode cX5_joinNeighbours 33 = .ok (.iaload, 1) := by decide +kernel
theorem dX5_joinNeighbours_34 : decode cX5_joinNeighbours 34 = .ok (.iconst 1, 1) := by decide +kernel
theorem dX5_joinNeighbours_35 : decode cX5_joinNeighbours 35 = .ok (.aload_n 1, 1) := by decide +kernel
theorem dX5_joinNeighbours_36 : decode cX5_joinNeighbours 36 = .ok (.iload_n 3, 1) := by decide +kernel
theorem dX5_joinNeighbours_37 : decode cX5_joinNeighbours 37 = .ok (.iconst 1, 1) := by decide +kernel
theorem dX5_joinNeighbours_38 : decode cX5_joinNeighbours 38 = .ok (.isub, 1) := by decide +kernel
theorem dX5_joinNeighbours_39 : decode cX5_joinNeighbours 39 = .ok (.iaload, 1) := by decide +kernel
theorem dX5_joinNeighbours_40 : decode cX5_joinNeighbours 40 = .ok (.ishl, 1) := by decide +kernel
theorem dX5_joinNeighbours_41 : decode cX5_joinNeighbours 41 = .ok (.ior, 1) := by decide +kernel
theorem dX5_joinNeighbours_42 : decode cX5_joinNeighbours 42 = .ok (.iastore, 1) := by decide +kernel
theorem dX5_joinNeighbours_43 : decode cX5_joinNeighbours 43 = .ok (.iinc 3 1, 3) := by decide +kernel
theorem dX5_joinNeighbours_46 : decode cX5_joinNeighbours 46 = .ok (.goto (-44), 3) := by decide +kernel
theorem dX5_joinNeighbours_49 : decode cX5_joinNeighbours 49 = .ok (.return_, 1) := by decide +kernel
theorem dX5_findCore_0 : decode cX5_findCore 0 = .ok (.aload_n 0, 1) := by decide +kernel
theorem dX5_findCore_1 : decode cX5_findCore 1 = .ok (.iconst 0, 1) := by decide +kernel
theorem dX5_findCore_2 : decode cX5_findCore 2 = .ok (.putfield 9, 3) := by decide +kernel
theorem dX5_findCore_5 : decode cX5_findCore 5 = .ok (.bipush 9, 2) := by decide +kernel
theorem dX5_findCore_7 : decode cX5_findCore 7 = .ok (.istore_n 1, 1) := by decide +kernel
theorem dX5_findCore_8 : decode cX5_findCore 8 = .ok (.iload_n 1, 1) := by decide +kernel
theorem dX5_findCore_9 : decode cX5_findCore 9 = .ok (.ifCond .le 64, 3) := by decide +kernel
theorem dX5_findCore_12 : decode cX5_findCore 12 = .ok (.iconst 0, 1) := by decide +kernel
theorem dX5_findCore_13 : decode cX5_findCore 13 = .ok (.istore_n 2, 1) := by decide +kernel
theorem dX5_findCore_14 : decode cX5_findCore 14 = .ok (.iload_n 2, 1) := by decide +kernel
theorem dX5_findCore_15 : decode cX5_findCore 15 = .ok (.bipush 10, 2) := by decide +kernel
theorem dX5_findCore_17 : decode cX5_findCore 17 = .ok (.if_icmp .ge 50, 3) := by decide +kernel
theorem dX5_findCore_20 : decode cX5_findCore 20 = .ok (.aload_n 0, 1) := by decide +kernel
theorem dX5_findCore_21 : decode cX5_findCore 21 = .ok (.getfield 15, 3) := by decide +kernel
theorem dX5_findCore_24 : decode cX5_findCore 24 = .ok (.iload_n 2, 1) := by decide +kernel
theorem dX5_findCore_25 : decode cX5_findCore 25 = .ok (.iaload, 1) := by decide +kernel
theorem dX5_findCore_26 : decode cX5_findCore 26 = .ok (.invokestatic 63, 3) := by decide +kernel
theorem dX5_findCore_29 : decode cX5_findCore 29 = .ok (.iload_n 1, 1) := by decide +kernel
theorem dX5_findCore_30 : decode cX5_findCore 30 = .ok (.if_icmp .ne 31, 3) := by decide +kernel
theorem dX5_findCore_33 : decode cX5_findCore 33 = .ok (.aload_n 0, 1) := by decide +kernel
theorem dX5_findCore_34 : decode cX5_findCore 34 = .ok (.getfield 9, 3) := by decide +kernel
theorem dX5_findCore_37 : decode cX5_findCore 37 = .ok (.aload_n 0, 1) := by decide +kernel
theorem dX5_findCore_38 : decode cX5_findCore 38 = .ok (.getfield 15, 3) := by decide +kernel
theorem dX5_findCore_41 : decode cX5_findCore 41 = .ok (.iload_n 2, 1) := by decide +kernel
theorem dX5_findCore_42 : decode cX5_findCore 42 = .ok (.iaload, 1) := by decide +kernel
theorem dX5_findCore_43 : decode cX5_findCore 43 = .ok (.iconst (-1), 1) := by decide +kernel
theorem dX5_findCore_44 : decode cX5_findCore 44 = .ok (.ixor, 1) := by decide +kernel
theorem dX5_findCore_45 : decode cX5_findCore 45 = .ok (.iand, 1) := by decide +kernel
theorem dX5_findCore_46 : decode cX5_findCore 46 = .ok (.ifCond .ne 15, 3) := by decide +kernel
theorem dX5_findCore_49 : decode cX5_findCore 49 = .ok (.aload_n 0, 1) := by decide +kernel
theorem dX5_findCore_50 : decode cX5_findCore 50 = .ok (.dup, 1) := by decide +kernel
theorem dX5_findCore_51 : decode cX5_findCore 51 = .ok (.getfield 9, 3) := by decide +kernel
theorem dX5_findCore_54 : decode cX5_findCore 54 = .ok (.iconst 1, 1) := by decide +kernel
theorem dX5_findCore_55 : decode cX5_findCore 55 = .ok (.iload_n 2, 1) := by decide +kernel
theorem dX5_findCore_56 : decode cX5_findCore 56 = .ok (.ishl, 1) := by decide +kernel
theorem dX5_findCore_57 : decode cX5_findCore 57 = .ok (.ior, 1) := by decide +kernel
theorem dX5_findCore_58 : decode cX5_findCore 58 = .ok (.putfield 9, 3) := by decide +kernel
theorem dX5_findCore_61 : decode cX5_findCore 61 = .ok (.iinc 2 1, 3) := by decide +kernel
theorem dX5_findCore_64 : decode cX5_findCore 64 = .ok (.goto (-50), 3) := by decide +kernel
theorem dX5_findCore_67 : decode cX5_findCore 67 = .ok (.iinc 1 (-1), 3) := by decide +kernel
theorem dX5_findCore_70 : decode cX5_findCore 70 = .ok (.goto (-62), 3) := by decide +kernel
theorem dX5_findCore_73 : decode cX5_findCore 73 = .ok (.return_, 1) := by decide +kernel
theorem dX5_vote_0 : decode cX5_vote 0 = .ok (.iconst 0, 1) := by decide +kernel
theorem dX5_vote_1 : decode cX5_vote 1 = .ok (.istore_n 2, 1) := by decide +kernel
theorem dX5_vote_2 : decode cX5_vote 2 = .ok (.iload_n 2, 1) := by decide +kernel
theorem dX5_vote_3 : decode cX5_vote 3 = .ok (.bipush 10, 2) := by decide +kernel
theorem dX5_vote_5 : decode cX5_vote 5 = .ok (.if_icmp .ge 32, 3) := by decide +kernel
theorem dX5_vote_8 : decode cX5_vote 8 = .ok (.iconst 0, 1) := by decide +kernel
theorem dX5_vote_9 : decode cX5_vote 9 = .ok (.istore_n 3, 1) := by decide +kernel
theorem dX5_vote_10 : decode cX5_vote 10 = .ok (.iload_n 3, 1) := by decide +kernel
theorem dX5_vote_11 : decode cX5_vote 11 = .ok (.bipush 10, 2) := by decide +kernel
theorem dX5_vote_13 : decode cX5_vote 13 = .ok (.if_icmp .ge 18, 3) := by decide +kernel
theorem dX5_vote_16 : decode cX5_vote 16 = .ok (.aload_n 0, 1) := by decide +kernel
theorem dX5_vote_17 : decode cX5_vote 17 = .ok (.getfield 21, 3) := by decide +kernel
theorem dX5_vote_20 : decode cX5_vote 20 = .ok (.iload_n 2, 1) := by decide +kernel
theorem dX5_vote_21 : decode cX5_vote 21 = .ok (.aaload, 1) := by decide +kernel
theorem dX5_vote_22 : decode cX5_vote 22 = .ok (.iload_n 3, 1) := by decide +kernel
theorem dX5_vote_23 : decode cX5_vote 23 = .ok (.iconst 0, 1) := by decide +kernel
theorem dX5_vote_24 : decode cX5_vote 24 = .ok (.iastore, 1) := by decide +kernel
theorem dX5_vote_25 : decode cX5_vote 25 = .ok (.iinc 3 1, 3) := by decide +kernel
theorem dX5_vote_28 : decode cX5_vote 28 = .ok (.goto (-18), 3) := by decide +kernel
theorem dX5_vote_31 : decode cX5_vote 31 = .ok (.iinc 2 1, 3) := by decide +kernel
theorem dX5_vote_34 : decode cX5_vote 34 = .ok (.goto (-32), 3) := by decide +kernel
theorem dX5_vote_37 : decode cX5_vote 37 = .ok (.iconst 0, 1) := by decide +kernel
theorem dX5_vote_38 : decode cX5_vote 38 = .ok (.istore_n 2, 1) := by decide +kernel
theorem dX5_vote_39 : decode cX5_vote 39 = .ok (.iload_n 2, 1) := by decide +kernel
theorem dX5_vote_40 : decode cX5_vote 40 = .ok (.aload_n 0, 1) := by decide +kernel
theorem dX5_vote_41 : decode cX5_vote 41 = .ok (.getfield 27, 3) := by decide +kernel
theorem dX5_vote_44 : decode cX5_vote 44 = .ok (.getfield 44, 3) := by decide +kernel
theorem dX5_vote_47 : decode cX5_vote 47 = .ok (.if_icmp .ge 43, 3) := by decide +kernel
theorem dX5_vote_50 : decode cX5_vote 50 = .ok (.aload_n 0, 1) := by decide +kernel
theorem dX5_vote_51 : decode cX5_vote 51 = .ok (.getfield 27, 3) := by decide +kernel
theorem dX5_vote_54 : decode cX5_vote 54 = .ok (.iload_n 2, 1) := by decide +kernel
theorem dX5_vote_55 : decode cX5_vote 55 = .ok (.invokevirtual 49, 3) := by decide +kernel
theorem dX5_vote_58 : decode cX5_vote 58 = .ok (.ifCond .eq 26, 3) := by decide +kernel
theorem dX5_vote_61 : decode cX5_vote 61 = .ok (.aload_n 0, 1) := by decide +kernel
theorem dX5_vote_62 : decode cX5_vote 62 = .ok (.aload_n 0, 1) := by decide +kernel
theorem dX5_vote_63 : decode cX5_vote 63 = .ok (.getfield 27, 3) := by decide +kernel
theorem dX5_vote_66 : decode cX5_vote 66 = .ok (.getfield 53, 3) := by decide +kernel
theorem dX5_vote_69 : decode cX5_vote 69 = .ok (.iload_n 2, 1) := by decide +kernel
theorem dX5_vote_70 : decode cX5_vote 70 = .ok (.aaload, 1) := by decide +kernel
theorem dX5_vote_71 : decode cX5_vote 71 = .ok (.aload_n 0, 1) := by decide +kernel
theorem dX5_vote_72 : decode cX5_vote 72 = .ok (.getfield 27, 3) := by decide +kernel
theorem dX5_vote_75 : decode cX5_vote 75 = .ok (.getfield 56, 3) := by decide +kernel
theorem dX5_vote_78 : decode cX5_vote 78 = .ok (.iload_n 2, 1) := by decide +kernel
theorem dX5_vote_79 : decode cX5_vote 79 = .ok (.iaload, 1) := by decide +kernel
theorem dX5_vote_80 : decode cX5_vote 80 = .ok (.iload_n 1, 1) := by decide +kernel
theorem dX5_vote_81 : decode cX5_vote 81 = .ok (.invokevirtual 69, 3) := by decide +kernel
theorem dX5_vote_84 : decode cX5_vote 84 = .ok (.iinc 2 1, 3) := by decide +kernel
theorem dX5_vote_87 : decode cX5_vote 87 = .ok (.goto (-48), 3) := by decide +kernel
theorem dX5_vote_90 : decode cX5_vote 90 = .ok (.return_, 1) := by decide +kernel
theorem dX5_voteAlong_0 : decode cX5_voteAlong 0 = .ok (.aload_n 0, 1) := by decide +kernel
theorem dX5_voteAlong_1 : decode cX5_voteAlong 1 = .ok (.aload_n 1, 1) := by decide +kernel
theorem dX5_voteAlong_2 : decode cX5_voteAlong 2 = .ok (.iload_n 2, 1) := by decide +kernel
theorem dX5_voteAlong_3 : decode cX5_voteAlong 3 = .ok (.iload_n 3, 1) := by decide +kernel
theorem dX5_voteAlong_4 : decode cX5_voteAlong 4 = .ok (.invokevirtual 73, 3) := by decide +kernel
theorem dX5_voteAlong_7 : decode cX5_voteAlong 7 = .ok (.istore 4, 2) := by decide +kernel
theorem dX5_voteAlong_9 : decode cX5_voteAlong 9 = .ok (.iconst 1, 1) := by decide +kernel
theorem dX5_voteAlong_10 : decode cX5_voteAlong 10 = .ok (.istore 5, 2) := by decide +kernel
theorem dX5_voteAlong_12 : decode cX5_voteAlong 12 = .ok (.iload 5, 2) := by decide +kernel
theorem dX5_voteAlong_14 : decode cX5_voteAlong 14 = .ok (.iload_n 2, 1) := by decide +kernel
theorem dX5_voteAlong_15 : decode cX5_voteAlong 15 = .ok (.if_icmp .ge 88, 3) := by decide +kernel
theorem dX5_voteAlong_18 : decode cX5_voteAlong 18 = .ok (.aload_n 1, 1) := by decide +kernel
theorem dX5_voteAlong_19 : decode cX5_voteAlong 19 = .ok (.iload 5, 2) := by decide +kernel
theorem dX5_voteAlong_21 : decode cX5_voteAlong 21 = .ok (.iconst 1, 1) := by decide +kernel
theorem dX5_voteAlong_22 : decode cX5_voteAlong 22 = .ok (.isub, 1) := by decide +kernel
theorem dX5_voteAlong_23 : decode cX5_voteAlong 23 = .ok (.iaload, 1) := by decide +kernel
theorem dX5_voteAlong_24 : decode cX5_voteAlong 24 = .ok (.istore 6, 2) := by decide +kernel
theorem dX5_voteAlong_26 : decode cX5_voteAlong 26 = .ok (.aload_n 1, 1) := by decide +kernel
theorem dX5_voteAlong_27 : decode cX5_voteAlong 27 = .ok (.iload 5, 2) := by decide +kernel
theorem dX5_voteAlong_29 : decode cX5_voteAlong 29 = .ok (.iaload, 1) := by decide +kernel
theorem dX5_voteAlong_30 : decode cX5_voteAlong 30 = .ok (.istore 7, 2) := by decide +kernel
theorem dX5_voteAlong_32 : decode cX5_voteAlong 32 = .ok (.aload_n 0, 1) := by decide +kernel
theorem dX5_voteAlong_33 : decode cX5_voteAlong 33 = .ok (.getfield 9, 3) := by decide +kernel
theorem dX5_voteAlong_36 : decode cX5_voteAlong 36 = .ok (.iload 6, 2) := by decide +kernel
theorem dX5_voteAlong_38 : decode cX5_voteAlong 38 = .ok (.invokestatic 77, 3) := by decide +kernel
theorem dX5_voteAlong_41 : decode cX5_voteAlong 41 = .ok (.ifCond .eq 18, 3) := by decide +kernel
theorem dX5_voteAlong_44 : decode cX5_voteAlong 44 = .ok (.aload_n 0, 1) := by decide +kernel
theorem dX5_voteAlong_45 : decode cX5_voteAlong 45 = .ok (.getfield 9, 3) := by decide +kernel
theorem dX5_voteAlong_48 : decode cX5_voteAlong 48 = .ok (.iload 7, 2) := by decide +kernel
theorem dX5_voteAlong_50 : decode cX5_voteAlong 50 = .ok (.invokestatic 77, 3) := by decide +kernel
theorem dX5_voteAlong_53 : decode cX5_voteAlong 53 = .ok (.ifCond .eq 6, 3) := by decide +kernel
theorem dX5_voteAlong_56 : decode cX5_voteAlong 56 = .ok (.goto 41, 3) := by decide +kernel
theorem dX5_voteAlong_59 : decode cX5_voteAlong 59 = .ok (.iload 5, 2) := by decide +kernel
theorem dX5_voteAlong_61 : decode cX5_voteAlong 61 = .ok (.iload 4, 2) := by decide +kernel
theorem dX5_voteAlong_63 : decode cX5_voteAlong 63 = .ok (.if_icmp .gt 20, 3) := by decide +kernel
theorem dX5_voteAlong_66 : decode cX5_voteAlong 66 = .ok (.aload_n 0, 1) := by decide +kernel
theorem dX5_voteAlong_67 : decode cX5_voteAlong 67 = .ok (.getfield 21, 3) := by decide +kernel
theorem dX5_voteAlong_70 : decode cX5_voteAlong 70 = .ok (.iload 6, 2) := by decide +kernel
theorem dX5_voteAlong_72 : decode cX5_voteAlong 72 = .ok (.aaload, 1) := by decide +kernel
theorem dX5_voteAlong_73 : decode cX5_voteAlong 73 = .ok (.iload 7, 2) := by decide +kernel
theorem dX5_voteAlong_75 : decode cX5_voteAlong 75 = .ok (.dup2, 1) := by decide +kernel
theorem dX5_voteAlong_76 : decode cX5_voteAlong 76 = .ok (.iaload, 1) := by decide +kernel
theorem dX5_voteAlong_77 : decode cX5_voteAlong 77 = .ok (.iconst 1, 1) := by decide +kernel
theorem dX5_voteAlong_78 : decode cX5_voteAlong 78 = .ok (.iadd, 1) := by decide +kernel
theorem dX5_voteAlong_79 : decode cX5_voteAlong 79 = .ok (.iastore, 1) := by decide +kernel
theorem dX5_voteAlong_80 : decode cX5_voteAlong 80 = .ok (.goto 17, 3) := by decide +kernel
theorem dX5_voteAlong_83 : decode cX5_voteAlong 83 = .ok (.aload_n 0, 1) := by decide +kernel
theorem dX5_voteAlong_84 : decode cX5_voteAlong 84 = .ok (.getfield 21, 3) := by decide +kernel
theorem dX5_voteAlong_87 : decode cX5_voteAlong 87 = .ok (.iload 7, 2) := by decide +kernel
theorem dX5_voteAlong_89 : decode cX5_voteAlong 89 = .ok (.aaload, 1) := by decide +kernel
theorem dX5_voteAlong_90 : decode cX5_voteAlong 90 = .ok (.iload 6, 2) := by decide +kernel
theorem dX5_voteAlong_92 : decode cX5_voteAlong 92 = .ok (.dup2, 1) := by decide +kernel
theorem dX5_voteAlong_93 : decode cX5_voteAlong 93 = .ok (.iaload, 1) := by decide +kernel
theorem dX5_voteAlong_94 : decode cX5_voteAlong 94 = .ok (.iconst 1, 1) := by decide +kernel
theorem dX5_voteAlong_95 : decode cX5_voteAlong 95 = .ok (.iadd, 1) := by decide +kernel
theorem dX5_voteAlong_96 : decode cX5_voteAlong 96 = .ok (.iastore, 1) := by decide +kernel
theorem dX5_voteAlong_97 : decode cX5_voteAlong 97 = .ok (.iinc 5 1, 3) := by decide +kernel
theorem dX5_voteAlong_100 : decode cX5_voteAlong 100 = .ok (.goto (-88), 3) := by decide +kernel
theorem dX5_voteAlong_103 : decode cX5_voteAlong 103 = .ok (.return_, 1) := by decide +kernel
theorem dX5_topOf_0 : decode cX5_topOf 0 = .ok (.iconst 0, 1) := by decide +kernel
theorem dX5_topOf_1 : decode cX5_topOf 1 = .ok (.istore 4, 2) := by decide +kernel
theorem dX5_topOf_3 : decode cX5_topOf 3 = .ok (.iconst 0, 1) := by decide +kernel
theorem dX5_topOf_4 : decode cX5_topOf 4 = .ok (.istore 5, 2) := by decide +kernel
theorem dX5_topOf_6 : decode cX5_topOf 6 = .ok (.iload 5, 2) := by decide +kernel
theorem dX5_topOf_8 : decode cX5_topOf 8 = .ok (.iload_n 2, 1) := by decide +kernel
theorem dX5_topOf_9 : decode cX5_topOf 9 = .ok (.if_icmp .ge 51, 3) := by decide +kernel
theorem dX5_topOf_12 : decode cX5_topOf 12 = .ok (.aload_n 0, 1) := by decide +kernel
theorem dX5_topOf_13 : decode cX5_topOf 13 = .ok (.getfield 9, 3) := by decide +kernel
theorem dX5_topOf_16 : decode cX5_topOf 16 = .ok (.aload_n 1, 1) := by decide +kernel
theorem dX5_topOf_17 : decode cX5_topOf 17 = .ok (.iload 5, 2) := by decide +kernel
theorem dX5_topOf_19 : decode cX5_topOf 19 = .ok (.iaload, 1) := by decide +kernel
theorem dX5_topOf_20 : decode cX5_topOf 20 = .ok (.invokestatic 77, 3) := by decide +kernel
theorem dX5_topOf_23 : decode cX5_topOf 23 = .ok (.ifCond .eq 6, 3) := by decide +kernel
theorem dX5_topOf_26 : decode cX5_topOf 26 = .ok (.iload 5, 2) := by decide +kernel
theorem dX5_topOf_28 : decode cX5_topOf 28 = .ok (.ireturn, 1) := by decide +kernel
theorem dX5_topOf_29 : decode cX5_topOf 29 = .ok (.aload_n 0, 1) := by decide +kernel
theorem dX5_topOf_30 : decode cX5_topOf 30 = .ok (.aload_n 1, 1) := by decide +kernel
theorem dX5_topOf_31 : decode cX5_topOf 31 = .ok (.iload 5, 2) := by decide +kernel
theorem dX5_topOf_33 : decode cX5_topOf 33 = .ok (.iaload, 1) := by decide +kernel
theorem dX5_topOf_34 : decode cX5_topOf 34 = .ok (.iload_n 3, 1) := by decide +kernel
theorem dX5_topOf_35 : decode cX5_topOf 35 = .ok (.invokevirtual 81, 3) := by decide +kernel
theorem dX5_topOf_38 : decode cX5_topOf 38 = .ok (.aload_n 0, 1) := by decide +kernel
theorem dX5_topOf_39 : decode cX5_topOf 39 = .ok (.aload_n 1, 1) := by decide +kernel
theorem dX5_topOf_40 : decode cX5_topOf 40 = .ok (.iload 4, 2) := by decide +kernel
theorem dX5_topOf_42 : decode cX5_topOf 42 = .ok (.iaload, 1) := by decide +kernel
theorem dX5_topOf_43 : decode cX5_topOf 43 = .ok (.iload_n 3, 1) := by decide +kernel
theorem dX5_topOf_44 : decode cX5_topOf 44 = .ok (.invokevirtual 81, 3) := by decide +kernel
theorem dX5_topOf_47 : decode cX5_topOf 47 = .ok (.if_icmp .le 7, 3) := by decide +kernel
theorem dX5_topOf_50 : decode cX5_topOf 50 = .ok (.iload 5, 2) := by decide +kernel
theorem dX5_topOf_52 : decode cX5_topOf 52 = .ok (.istore 4, 2) := by decide +kernel
theorem dX5_topOf_54 : decode cX5_topOf 54 = .ok (.iinc 5 1, 3) := by decide +kernel
theorem dX5_topOf_57 : decode cX5_topOf 57 = .ok (.goto (-51), 3) := by decide +kernel
theorem dX5_topOf_60 : decode cX5_topOf 60 = .ok (.iload 4, 2) := by decide +kernel
theorem dX5_topOf_62 : decode cX5_topOf 62 = .ok (.ireturn, 1) := by decide +kernel
theorem dX5_rankOf_0 : decode cX5_rankOf 0 = .ok (.iload_n 2, 1) := by decide +kernel
theorem dX5_rankOf_1 : decode cX5_rankOf 1 = .ok (.ifCond .ne 12, 3) := by decide +kernel
theorem dX5_rankOf_4 : decode cX5_rankOf 4 = .ok (.aload_n 0, 1) := by decide +kernel
theorem dX5_rankOf_5 : decode cX5_rankOf 5 = .ok (.getfield 15, 3) := by decide +kernel
theorem dX5_rankOf_8 : decode cX5_rankOf 8 = .ok (.iload_n 1, 1) := by decide +kernel
theorem dX5_rankOf_9 : decode cX5_rankOf 9 = .ok (.iaload, 1) := by decide +kernel
theorem dX5_rankOf_10 : decode cX5_rankOf 10 = .ok (.goto 13, 3) := by decide +kernel
theorem dX5_rankOf_13 : decode cX5_rankOf 13 = .ok (.aload_n 0, 1) := by decide +kernel
theorem dX5_rankOf_14 : decode cX5_rankOf 14 = .ok (.getfield 24, 3) := by decide +kernel
theorem dX5_rankOf_17 : decode cX5_rankOf 17 = .ok (.iload_n 2, 1) := by decide +kernel
theorem dX5_rankOf_18 : decode cX5_rankOf 18 = .ok (.iconst 1, 1) := by decide +kernel
theorem dX5_rankOf_19 : decode cX5_rankOf 19 = .ok (.isub, 1) := by decide +kernel
theorem dX5_rankOf_20 : decode cX5_rankOf 20 = .ok (.aaload, 1) := by decide +kernel
theorem dX5_rankOf_21 : decode cX5_rankOf 21 = .ok (.iload_n 1, 1) := by decide +kernel
theorem dX5_rankOf_22 : decode cX5_rankOf 22 = .ok (.iaload, 1) := by decide +kernel
theorem dX5_rankOf_23 : decode cX5_rankOf 23 = .ok (.invokestatic 63, 3) := by decide +kernel
theorem dX5_rankOf_26 : decode cX5_rankOf 26 = .ok (.ireturn, 1) := by decide +kernel
theorem dX5_findCustomers_0 : decode cX5_findCustomers 0 = .ok (.iconst 0, 1) := by decide +kernel
theorem dX5_findCustomers_1 : decode cX5_findCustomers 1 = .ok (.istore_n 2, 1) := by decide +kernel
theorem dX5_findCustomers_2 : decode cX5_findCustomers 2 = .ok (.iload_n 2, 1) := by decide +kernel
theorem dX5_findCustomers_3 : decode cX5_findCustomers 3 = .ok (.bipush 10, 2) := by decide +kernel
theorem dX5_findCustomers_5 : decode cX5_findCustomers 5 = .ok (.if_icmp .ge 67, 3) := by decide +kernel
theorem dX5_findCustomers_8 : decode cX5_findCustomers 8 = .ok (.aload_n 0, 1) := by decide +kernel
theorem dX5_findCustomers_9 : decode cX5_findCustomers 9 = .ok (.getfield 24, 3) := by decide +kernel
theorem dX5_findCustomers_12 : decode cX5_findCustomers 12 = .ok (.iload_n 1, 1) := by decide +kernel
theorem dX5_findCustomers_13 : decode cX5_findCustomers 13 = .ok (.aaload, 1) := by decide +kernel
theorem dX5_findCustomers_14 : decode cX5_findCustomers 14 = .ok (.iload_n 2, 1) := by decide +kernel
theorem dX5_findCustomers_15 : decode cX5_findCustomers 15 = .ok (.iconst 0, 1) := by decide +kernel
theorem dX5_findCustomers_16 : decode cX5_findCustomers 16 = .ok (.iastore, 1) := by decide +kernel
theorem dX5_findCustomers_17 : decode cX5_findCustomers 17 = .ok (.iconst 0, 1) := by decide +kernel
theorem dX5_findCustomers_18 : decode cX5_findCustomers 18 = .ok (.istore_n 3, 1) := by decide +kernel
theorem dX5_findCustomers_19 : decode cX5_findCustomers 19 = .ok (.iload_n 3, 1) := by decide +kernel
theorem dX5_findCustomers_20 : decode cX5_findCustomers 20 = .ok (.bipush 10, 2) := by decide +kernel
theorem dX5_findCustomers_22 : decode cX5_findCustomers 22 = .ok (.if_icmp .ge 44, 3) := by decide +kernel
theorem dX5_findCustomers_25 : decode cX5_findCustomers 25 = .ok (.aload_n 0, 1) := by decide +kernel
theorem dX5_findCustomers_26 : decode cX5_findCustomers 26 = .ok (.getfield 21, 3) := by decide +kernel
theorem dX5_findCustomers_29 : decode cX5_findCustomers 29 = .ok (.iload_n 3, 1) := by decide +kernel
theorem dX5_findCustomers_30 : decode cX5_findCustomers 30 = .ok (.aaload, 1) := by decide +kernel
theorem dX5_findCustomers_31 : decode cX5_findCustomers 31 = .ok (.iload_n 2, 1) := by decide +kernel
theorem dX5_findCustomers_32 : decode cX5_findCustomers 32 = .ok (.iaload, 1) := by decide +kernel
theorem dX5_findCustomers_33 : decode cX5_findCustomers 33 = .ok (.iconst 2, 1) := by decide +kernel
theorem dX5_findCustomers_34 : decode cX5_findCustomers 34 = .ok (.aload_n 0, 1) := by decide +kernel
theorem dX5_findCustomers_35 : decode cX5_findCustomers 35 = .ok (.getfield 21, 3) := by decide +kernel
theorem dX5_findCustomers_38 : decode cX5_findCustomers 38 = .ok (.iload_n 2, 1) := by decide +kernel
theorem dX5_findCustomers_39 : decode cX5_findCustomers 39 = .ok (.aaload, 1) := by decide +kernel
theorem dX5_findCustomers_40 : decode cX5_findCustomers 40 = .ok (.iload_n 3, 1) := by decide +kernel
theorem dX5_findCustomers_41 : decode cX5_findCustomers 41 = .ok (.iaload, 1) := by decide +kernel
theorem dX5_findCustomers_42 : decode cX5_findCustomers 42 = .ok (.imul, 1) := by decide +kernel
theorem dX5_findCustomers_43 : decode cX5_findCustomers 43 = .ok (.if_icmp .le 17, 3) := by decide +kernel
theorem dX5_findCustomers_46 : decode cX5_findCustomers 46 = .ok (.aload_n 0, 1) := by decide +kernel
theorem dX5_findCustomers_47 : decode cX5_findCustomers 47 = .ok (.getfield 24, 3) := by decide +kernel
theorem dX5_findCustomers_50 : decode cX5_findCustomers 50 = .ok (.iload_n 1, 1) := by decide +kernel
theorem dX5_findCustomers_51 : decode cX5_findCustomers 51 = .ok (.aaload, 1) := by decide +kernel
theorem dX5_findCustomers_52 : decode cX5_findCustomers 52 = .ok (.iload_n 2, 1) := by decide +kernel
theorem dX5_findCustomers_53 : decode cX5_findCustomers 53 = .ok (.dup2, 1) := by decide +kernel
theorem dX5_findCustomers_54 : decode cX5_findCustomers 54 = .ok (.iaload, 1) := by decide +kernel
theorem dX5_findCustomers_55 : decode cX5_findCustomers 55 = .ok (.iconst 1, 1) := by decide +kernel
theorem dX5_findCustomers_56 : decode cX5_findCustomers 56 = .ok (.iload_n 3, 1) := by decide +kernel
theorem dX5_findCustomers_57 : decode cX5_findCustomers 57 = .ok (.ishl, 1) := by decide +kernel
theorem dX5_findCustomers_58 : decode cX5_findCustomers 58 = .ok (.ior, 1) := by decide +kernel
theorem dX5_findCustomers_59 : decode cX5_findCustomers 59 = .ok (.iastore, 1) := by decide +kernel
theorem dX5_findCustomers_60 : decode cX5_findCustomers 60 = .ok (.iinc 3 1, 3) := by decide +kernel
theorem dX5_findCustomers_63 : decode cX5_findCustomers 63 = .ok (.goto (-44), 3) := by decide +kernel
theorem dX5_findCustomers_66 : decode cX5_findCustomers 66 = .ok (.iinc 2 1, 3) := by decide +kernel
theorem dX5_findCustomers_69 : decode cX5_findCustomers 69 = .ok (.goto (-67), 3) := by decide +kernel
theorem dX5_findCustomers_72 : decode cX5_findCustomers 72 = .ok (.return_, 1) := by decide +kernel
theorem dX5_between_0 : decode cX5_between 0 = .ok (.aload_n 0, 1) := by decide +kernel
theorem dX5_between_1 : decode cX5_between 1 = .ok (.getfield 15, 3) := by decide +kernel
theorem dX5_between_4 : decode cX5_between 4 = .ok (.iload_n 1, 1) := by decide +kernel
theorem dX5_between_5 : decode cX5_between 5 = .ok (.iaload, 1) := by decide +kernel
theorem dX5_between_6 : decode cX5_between 6 = .ok (.iload_n 2, 1) := by decide +kernel
theorem dX5_between_7 : decode cX5_between 7 = .ok (.invokestatic 77, 3) := by decide +kernel
theorem dX5_between_10 : decode cX5_between 10 = .ok (.ifCond .ne 5, 3) := by decide +kernel
theorem dX5_between_13 : decode cX5_between 13 = .ok (.iconst 0, 1) := by decide +kernel
theorem dX5_between_14 : decode cX5_between 14 = .ok (.ireturn, 1) := by decide +kernel
theorem dX5_between_15 : decode cX5_between 15 = .ok (.aload_n 0, 1) := by decide +kernel
theorem dX5_between_16 : decode cX5_between 16 = .ok (.getfield 24, 3) := by decide +kernel
