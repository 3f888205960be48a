theorem dX9_stopped_66 : decode cX9_stopped 66 = .ok (.iconst 1, 1) := by decide +kernel
theorem dX9_stopped_67 : decode cX9_stopped 67 = .ok (.istore 5, 2) := by decide +kernel
theorem dX9_stopped_69 : decode cX9_stopped 69 = .ok (.iload 5, 2) := by decide +kernel
theorem dX9_stopped_71 : decode cX9_stopped 71 = .ok (.aload_n 0, 1) := by decide +kernel
theorem dX9_stopped_72 : decode cX9_stopped 72 = .ok (.getfield 35, 3) := by decide +kernel
theorem dX9_stopped_75 : decode cX9_stopped 75 = .ok (.getfield 217, 3) := by decide +kernel
theorem dX9_stopped_78 : decode cX9_stopped 78 = .ok (.iload_n 1, 1) := by decide +kernel
theorem dX9_stopped_79 : decode cX9_stopped 79 = .ok (.iaload, 1) := by decide +kernel
theorem dX9_stopped_80 : decode cX9_stopped 80 = .ok (.if_icmp .ge 43, 3) := by decide +kernel
theorem dX9_stopped_83 : decode cX9_stopped 83 = .ok (.iload_n 2, 1) := by decide +kernel
theorem dX9_stopped_84 : decode cX9_stopped 84 = .ok (.aload_n 3, 1) := by decide +kernel
theorem dX9_stopped_85 : decode cX9_stopped 85 = .ok (.iload 5, 2) := by decide +kernel
theorem dX9_stopped_87 : decode cX9_stopped 87 = .ok (.iaload, 1) := by decide +kernel
theorem dX9_stopped_88 : decode cX9_stopped 88 = .ok (.invokestatic 236, 3) := by decide +kernel
theorem dX9_stopped_91 : decode cX9_stopped 91 = .ok (.ifCond .eq 26, 3) := by decide +kernel
theorem dX9_stopped_94 : decode cX9_stopped 94 = .ok (.iload 4, 2) := by decide +kernel
theorem dX9_stopped_96 : decode cX9_stopped 96 = .ok (.ifCond .ne 16, 3) := by decide +kernel
theorem dX9_stopped_99 : decode cX9_stopped 99 = .ok (.aload_n 0, 1) := by decide +kernel
theorem dX9_stopped_100 : decode cX9_stopped 100 = .ok (.getfield 51, 3) := by decide +kernel
theorem dX9_stopped_103 : decode cX9_stopped 103 = .ok (.aload_n 3, 1) := by decide +kernel
theorem dX9_stopped_104 : decode cX9_stopped 104 = .ok (.iload 5, 2) := by decide +kernel
theorem dX9_stopped_106 : decode cX9_stopped 106 = .ok (.invokevirtual 240, 3) := by decide +kernel
theorem dX9_stopped_109 : decode cX9_stopped 109 = .ok (.ifCond .eq 8, 3) := by decide +kernel
theorem dX9_stopped_112 : decode cX9_stopped 112 = .ok (.aload_n 3, 1) := by decide +kernel
theorem dX9_stopped_113 : decode cX9_stopped 113 = .ok (.iload 5, 2) := by decide +kernel
theorem dX9_stopped_115 : decode cX9_stopped 115 = .ok (.iaload, 1) := by decide +kernel
theorem dX9_stopped_116 : decode cX9_stopped 116 = .ok (.ireturn, 1) := by decide +kernel
theorem dX9_stopped_117 : decode cX9_stopped 117 = .ok (.iinc 5 1, 3) := by decide +kernel
theorem dX9_stopped_120 : decode cX9_stopped 120 = .ok (.goto (-51), 3) := by decide +kernel
theorem dX9_stopped_123 : decode cX9_stopped 123 = .ok (.iconst (-1), 1) := by decide +kernel
theorem dX9_stopped_124 : decode cX9_stopped 124 = .ok (.ireturn, 1) := by decide +kernel
theorem dX9_allowed_0 : decode cX9_allowed 0 = .ok (.iload_n 1, 1) := by decide +kernel
theorem dX9_allowed_1 : decode cX9_allowed 1 = .ok (.invokestatic 92, 3) := by decide +kernel
theorem dX9_allowed_4 : decode cX9_allowed 4 = .ok (.iload_n 2, 1) := by decide +kernel
theorem dX9_allowed_5 : decode cX9_allowed 5 = .ok (.invokestatic 92, 3) := by decide +kernel
theorem dX9_allowed_8 : decode cX9_allowed 8 = .ok (.iload_n 1, 1) := by decide +kernel
theorem dX9_allowed_9 : decode cX9_allowed 9 = .ok (.iload_n 2, 1) := by decide +kernel
theorem dX9_allowed_10 : decode cX9_allowed 10 = .ok (.if_icmp .ne 7, 3) := by decide +kernel
theorem dX9_allowed_13 : decode cX9_allowed 13 = .ok (.iconst 0, 1) := by decide +kernel
theorem dX9_allowed_14 : decode cX9_allowed 14 = .ok (.goto 12, 3) := by decide +kernel
theorem dX9_allowed_17 : decode cX9_allowed 17 = .ok (.aload_n 0, 1) := by decide +kernel
theorem dX9_allowed_18 : decode cX9_allowed 18 = .ok (.getfield 60, 3) := by decide +kernel
theorem dX9_allowed_21 : decode cX9_allowed 21 = .ok (.iload_n 1, 1) := by decide +kernel
theorem dX9_allowed_22 : decode cX9_allowed 22 = .ok (.iload_n 2, 1) := by decide +kernel
theorem dX9_allowed_23 : decode cX9_allowed 23 = .ok (.invokevirtual 244, 3) := by decide +kernel
theorem dX9_allowed_26 : decode cX9_allowed 26 = .ok (.ireturn, 1) := by decide +kernel
theorem dX9_falseAlarms_0 : decode cX9_falseAlarms 0 = .ok (.aload_n 0, 1) := by decide +kernel
theorem dX9_falseAlarms_1 : decode cX9_falseAlarms 1 = .ok (.invokevirtual 210, 3) := by decide +kernel
theorem dX9_falseAlarms_4 : decode cX9_falseAlarms 4 = .ok (.aload_n 0, 1) := by decide +kernel
theorem dX9_falseAlarms_5 : decode cX9_falseAlarms 5 = .ok (.getfield 60, 3) := by decide +kernel
theorem dX9_falseAlarms_8 : decode cX9_falseAlarms 8 = .ok (.invokevirtual 247, 3) := by decide +kernel
theorem dX9_falseAlarms_11 : decode cX9_falseAlarms 11 = .ok (.ireturn, 1) := by decide +kernel
theorem dX9_clique_0 : decode cX9_clique 0 = .ok (.aload_n 0, 1) := by decide +kernel
theorem dX9_clique_1 : decode cX9_clique 1 = .ok (.getfield 69, 3) := by decide +kernel
theorem dX9_clique_4 : decode cX9_clique 4 = .ok (.invokevirtual 251, 3) := by decide +kernel
theorem dX9_clique_7 : decode cX9_clique 7 = .ok (.aload_n 0, 1) := by decide +kernel
theorem dX9_clique_8 : decode cX9_clique 8 = .ok (.getfield 69, 3) := by decide +kernel
theorem dX9_clique_11 : decode cX9_clique 11 = .ok (.getfield 254, 3) := by decide +kernel
theorem dX9_clique_14 : decode cX9_clique 14 = .ok (.ireturn, 1) := by decide +kernel
theorem dX9_inferred_0 : decode cX9_inferred 0 = .ok (.iload_n 1, 1) := by decide +kernel
theorem dX9_inferred_1 : decode cX9_inferred 1 = .ok (.invokestatic 92, 3) := by decide +kernel
theorem dX9_inferred_4 : decode cX9_inferred 4 = .ok (.iload_n 2, 1) := by decide +kernel
theorem dX9_inferred_5 : decode cX9_inferred 5 = .ok (.invokestatic 92, 3) := by decide +kernel
theorem dX9_inferred_8 : decode cX9_inferred 8 = .ok (.iload_n 3, 1) := by decide +kernel
theorem dX9_inferred_9 : decode cX9_inferred 9 = .ok (.ifCond .lt 8, 3) := by decide +kernel
theorem dX9_inferred_12 : decode cX9_inferred 12 = .ok (.iload_n 3, 1) := by decide +kernel
theorem dX9_inferred_13 : decode cX9_inferred 13 = .ok (.iconst 3, 1) := by decide +kernel
theorem dX9_inferred_14 : decode cX9_inferred 14 = .ok (.if_icmp .lt 14, 3) := by decide +kernel
theorem dX9_inferred_17 : decode cX9_inferred 17 = .ok (.new 165, 3) := by decide +kernel
theorem dX9_inferred_20 : decode cX9_inferred 20 = .ok (.dup, 1) := by decide +kernel
theorem dX9_inferred_21 : decode cX9_inferred 21 = .ok (.ldc_w 257, 3) := by decide +kernel
theorem dX9_inferred_24 : decode cX9_inferred 24 = .ok (.invokespecial 169, 3) := by decide +kernel
theorem dX9_inferred_27 : decode cX9_inferred 27 = .ok (.athrow, 1) := by decide +kernel
theorem dX9_inferred_28 : decode cX9_inferred 28 = .ok (.aload_n 0, 1) := by decide +kernel
theorem dX9_inferred_29 : decode cX9_inferred 29 = .ok (.getfield 69, 3) := by decide +kernel
theorem dX9_inferred_32 : decode cX9_inferred 32 = .ok (.invokevirtual 251, 3) := by decide +kernel
theorem dX9_inferred_35 : decode cX9_inferred 35 = .ok (.aload_n 0, 1) := by decide +kernel
theorem dX9_inferred_36 : decode cX9_inferred 36 = .ok (.getfield 69, 3) := by decide +kernel
theorem dX9_inferred_39 : decode cX9_inferred 39 = .ok (.iload_n 1, 1) := by decide +kernel
theorem dX9_inferred_40 : decode cX9_inferred 40 = .ok (.iload_n 2, 1) := by decide +kernel
theorem dX9_inferred_41 : decode cX9_inferred 41 = .ok (.iload_n 3, 1) := by decide +kernel
theorem dX9_inferred_42 : decode cX9_inferred 42 = .ok (.invokevirtual 259, 3) := by decide +kernel
theorem dX9_inferred_45 : decode cX9_inferred 45 = .ok (.ireturn, 1) := by decide +kernel
theorem dX9_cone_0 : decode cX9_cone 0 = .ok (.iload_n 1, 1) := by decide +kernel
theorem dX9_cone_1 : decode cX9_cone 1 = .ok (.invokestatic 92, 3) := by decide +kernel
theorem dX9_cone_4 : decode cX9_cone 4 = .ok (.aload_n 0, 1) := by decide +kernel
theorem dX9_cone_5 : decode cX9_cone 5 = .ok (.getfield 69, 3) := by decide +kernel
theorem dX9_cone_8 : decode cX9_cone 8 = .ok (.invokevirtual 251, 3) := by decide +kernel
theorem dX9_cone_11 : decode cX9_cone 11 = .ok (.aload_n 0, 1) := by decide +kernel
theorem dX9_cone_12 : decode cX9_cone 12 = .ok (.getfield 69, 3) := by decide +kernel
theorem dX9_cone_15 : decode cX9_cone 15 = .ok (.iload_n 1, 1) := by decide +kernel
theorem dX9_cone_16 : decode cX9_cone 16 = .ok (.invokevirtual 261, 3) := by decide +kernel
theorem dX9_cone_19 : decode cX9_cone 19 = .ok (.ireturn, 1) := by decide +kernel
theorem dX9_coneByPaths_0 : decode cX9_coneByPaths 0 = .ok (.iload_n 1, 1) := by decide +kernel
theorem dX9_coneByPaths_1 : decode cX9_coneByPaths 1 = .ok (.invokestatic 92, 3) := by decide +kernel
theorem dX9_coneByPaths_4 : decode cX9_coneByPaths 4 = .ok (.aload_n 0, 1) := by decide +kernel
theorem dX9_coneByPaths_5 : decode cX9_coneByPaths 5 = .ok (.getfield 69, 3) := by decide +kernel
theorem dX9_coneByPaths_8 : decode cX9_coneByPaths 8 = .ok (.invokevirtual 251, 3) := by decide +kernel
theorem dX9_coneByPaths_11 : decode cX9_coneByPaths 11 = .ok (.aload_n 0, 1) := by decide +kernel
theorem dX9_coneByPaths_12 : decode cX9_coneByPaths 12 = .ok (.getfield 69, 3) := by decide +kernel
theorem dX9_coneByPaths_15 : decode cX9_coneByPaths 15 = .ok (.iload_n 1, 1) := by decide +kernel
theorem dX9_coneByPaths_16 : decode cX9_coneByPaths 16 = .ok (.invokevirtual 264, 3) := by decide +kernel
theorem dX9_coneByPaths_19 : decode cX9_coneByPaths 19 = .ok (.ireturn, 1) := by decide +kernel
theorem dX9_addresses_0 : decode cX9_addresses 0 = .ok (.iload_n 1, 1) := by decide +kernel
theorem dX9_addresses_1 : decode cX9_addresses 1 = .ok (.invokestatic 92, 3) := by decide +kernel
theorem dX9_addresses_4 : decode cX9_addresses 4 = .ok (.aload_n 0, 1) := by decide +kernel
theorem dX9_addresses_5 : decode cX9_addresses 5 = .ok (.getfield 69, 3) := by decide +kernel
theorem dX9_addresses_8 : decode cX9_addresses 8 = .ok (.invokevirtual 251, 3) := by decide +kernel
theorem dX9_addresses_11 : decode cX9_addresses 11 = .ok (.aload_n 0, 1) := by decide +kernel
theorem dX9_addresses_12 : decode cX9_addresses 12 = .ok (.getfield 35, 3) := by decide +kernel
theorem dX9_addresses_15 : decode cX9_addresses 15 = .ok (.aload_n 0, 1) := by decide +kernel
theorem dX9_addresses_16 : decode cX9_addresses 16 = .ok (.getfield 69, 3) := by decide +kernel
theorem dX9_addresses_19 : decode cX9_addresses 19 = .ok (.iload_n 1, 1) := by decide +kernel
theorem dX9_addresses_20 : decode cX9_addresses 20 = .ok (.invokevirtual 261, 3) := by decide +kernel
theorem dX9_addresses_23 : decode cX9_addresses 23 = .ok (.invokevirtual 267, 3) := by decide +kernel
theorem dX9_addresses_26 : decode cX9_addresses 26 = .ok (.ireturn, 1) := by decide +kernel
theorem dX9_needHolder_0 : decode cX9_needHolder 0 = .ok (.iload_n 1, 1) := by decide +kernel
theorem dX9_needHolder_1 : decode cX9_needHolder 1 = .ok (.ifCond .lt 14, 3) := by decide +kernel
theorem dX9_needHolder_4 : decode cX9_needHolder 4 = .ok (.iload_n 1, 1) := by decide +kernel
theorem dX9_needHolder_5 : decode cX9_needHolder 5 = .ok (.aload_n 0, 1) := by decide +kernel
theorem dX9_needHolder_6 : decode cX9_needHolder 6 = .ok (.getfield 10, 3) := by decide +kernel
theorem dX9_needHolder_9 : decode cX9_needHolder 9 = .ok (.getfield 77, 3) := by decide +kernel
theorem dX9_needHolder_12 : decode cX9_needHolder 12 = .ok (.if_icmp .lt 14, 3) := by decide +kernel
theorem dX9_needHolder_15 : decode cX9_needHolder 15 = .ok (.new 165, 3) := by decide +kernel
theorem dX9_needHolder_18 : decode cX9_needHolder 18 = .ok (.dup, 1) := by decide +kernel
theorem dX9_needHolder_19 : decode cX9_needHolder 19 = .ok (.ldc_w 270, 3) := by decide +kernel
theorem dX9_needHolder_22 : decode cX9_needHolder 22 = .ok (.invokespecial 169, 3) := by decide +kernel
theorem dX9_needHolder_25 : decode cX9_needHolder 25 = .ok (.athrow, 1) := by decide +kernel
theorem dX9_needHolder_26 : decode cX9_needHolder 26 = .ok (.return_, 1) := by decide +kernel
theorem dX9_needNet_0 : decode cX9_needNet 0 = .ok (.iload_n 0, 1) := by decide +kernel
theorem dX9_needNet_1 : decode cX9_needNet 1 = .ok (.ifCond .lt 9, 3) := by decide +kernel
theorem dX9_needNet_4 : decode cX9_needNet 4 = .ok (.iload_n 0, 1) := by decide +kernel
theorem dX9_needNet_5 : decode cX9_needNet 5 = .ok (.bipush 10, 2) := by decide +kernel
theorem dX9_needNet_7 : decode cX9_needNet 7 = .ok (.if_icmp .lt 14, 3) := by decide +kernel
theorem dX9_needNet_10 : decode cX9_needNet 10 = .ok (.new 165, 3) := by decide +kernel
theorem dX9_needNet_13 : decode cX9_needNet 13 = .ok (.dup, 1) := by decide +kernel
theorem dX9_needNet_14 : decode cX9_needNet 14 = .ok (.ldc_w 272, 3) := by decide +kernel
theorem dX9_needNet_17 : decode cX9_needNet 17 = .ok (.invokespecial 169, 3) := by decide +kernel
theorem dX9_needNet_20 : decode cX9_needNet 20 = .ok (.athrow, 1) := by decide +kernel
theorem dX9_needNet_21 : decode cX9_needNet 21 = .ok (.return_, 1) := by decide +kernel
theorem dX9_needObject_0 : decode cX9_needObject 0 = .ok (.iload_n 1, 1) := by decide +kernel
theorem dX9_needObject_1 : decode cX9_needObject 1 = .ok (.ifCond .lt 14, 3) := by decide +kernel
theorem dX9_needObject_4 : decode cX9_needObject 4 = .ok (.iload_n 1, 1) := by decide +kernel
theorem dX9_needObject_5 : decode cX9_needObject 5 = .ok (.aload_n 0, 1) := by decide +kernel
theorem dX9_needObject_6 : decode cX9_needObject 6 = .ok (.getfield 19, 3) := by decide +kernel
theorem dX9_needObject_9 : decode cX9_needObject 9 = .ok (.getfield 189, 3) := by decide +kernel
theorem dX9_needObject_12 : decode cX9_needObject 12 = .ok (.if_icmp .lt 14, 3) := by decide +kernel
theorem dX9_needObject_15 : decode cX9_needObject 15 = .ok (.new 165, 3) := by decide +kernel
theorem dX9_needObject_18 : decode cX9_needObject 18 = .ok (.dup, 1) := by decide +kernel
theorem dX9_needObject_19 : decode cX9_needObject 19 = .ok (.ldc_w 274, 3) := by decide +kernel
theorem dX9_needObject_22 : decode cX9_needObject 22 = .ok (.invokespecial 169, 3) := by decide +kernel
theorem dX9_needObject_25 : decode cX9_needObject 25 = .ok (.athrow, 1) := by decide +kernel
theorem dX9_needObject_26 : decode cX9_needObject 26 = .ok (.return_, 1) := by decide +kernel
theorem dX9_needRouteThere_0 : decode cX9_needRouteThere 0 = .ok (.iload_n 1, 1) := by decide +kernel
theorem dX9_needRouteThere_1 : decode cX9_needRouteThere 1 = .ok (.ifCond .lt 26, 3) := by decide +kernel
theorem dX9_needRouteThere_4 : decode cX9_needRouteThere 4 = .ok (.iload_n 1, 1) := by decide +kernel
theorem dX9_needRouteThere_5 : decode cX9_needRouteThere 5 = .ok (.aload_n 0, 1) := by decide +kernel
theorem dX9_needRouteThere_6 : decode cX9_needRouteThere 6 = .ok (.getfield 35, 3) := by decide +kernel
theorem dX9_needRouteThere_9 : decode cX9_needRouteThere 9 = .ok (.getfield 158, 3) := by decide +kernel
theorem dX9_needRouteThere_12 : decode cX9_needRouteThere 12 = .ok (.if_icmp .ge 15, 3) := by decide +kernel
theorem dX9_needRouteThere_15 : decode cX9_needRouteThere 15 = .ok (.aload_n 0, 1) := by decide +kernel
theorem dX9_needRouteThere_16 : decode cX9_needRouteThere 16 = .ok (.getfield 35, 3) := by decide +kernel
theorem dX9_needRouteThere_19 : decode cX9_needRouteThere 19 = .ok (.getfield 170, 3) := by decide +kernel
theorem dX9_needRouteThere_22 : decode cX9_needRouteThere 22 = .ok (.iload_n 1, 1) := by decide +kernel
theorem dX9_needRouteThere_23 : decode cX9_needRouteThere 23 = .ok (.baload, 1) := by decide +kernel
theorem dX9_needRouteThere_24 : decode cX9_needRouteThere 24 = .ok (.ifCond .eq 14, 3) := by decide +kernel
theorem dX9_needRouteThere_27 : decode cX9_needRouteThere 27 = .ok (.new 165, 3) := by decide +kernel
theorem dX9_needRouteThere_30 : decode cX9_needRouteThere 30 = .ok (.dup, 1) := by decide +kernel
theorem dX9_needRouteThere_31 : decode cX9_needRouteThere 31 = .ok (.ldc_w 276, 3) := by decide +kernel
theorem dX9_needRouteThere_34 : decode cX9_needRouteThere 34 = .ok (.invokespecial 169, 3) := by decide +kernel
theorem dX9_needRouteThere_37 : decode cX9_needRouteThere 37 = .ok (.athrow, 1) := by decide +kernel
theorem dX9_needRouteThere_38 : decode cX9_needRouteThere 38 = .ok (.return_, 1) := by decide +kernel
theorem dX9_needRange_0 : decode cX9_needRange 0 = .ok (.iload_n 0, 1) := by decide +kernel
theorem dX9_needRange_1 : decode cX9_needRange 1 = .ok (.iload_n 1, 1) := by decide +kernel
theorem dX9_needRange_2 : decode cX9_needRange 2 = .ok (.if_icmp .lt 8, 3) := by decide +kernel
theorem dX9_needRange_5 : decode cX9_needRange 5 = .ok (.iload_n 0, 1) := by decide +kernel
theorem dX9_needRange_6 : decode cX9_needRange 6 = .ok (.iload_n 2, 1) := by decide +kernel
theorem dX9_needRange_7 : decode cX9_needRange 7 = .ok (.if_icmp .le 14, 3) := by decide +kernel
theorem dX9_needRange_10 : decode cX9_needRange 10 = .ok (.new 178, 3) := by decide +kernel
theorem dX9_needRange_13 : decode cX9_needRange 13 = .ok (.dup, 1) := by decide +kernel
theorem dX9_needRange_14 : decode cX9_needRange 14 = .ok (.ldc_w 278, 3) := by decide +kernel
theorem dX9_needRange_17 : decode cX9_needRange 17 = .ok (.invokespecial 182, 3) := by decide +kernel
theorem dX9_needRange_20 : decode cX9_needRange 20 = .ok (.athrow, 1) := by decide +kernel
theorem dX9_needRange_21 : decode cX9_needRange 21 = .ok (.return_, 1) := by decide +kernel
theorem dX9_needBlock_0 : decode cX9_needBlock 0 = .ok (.iload_n 0, 1) := by decide +kernel
theorem dX9_needBlock_1 : decode cX9_needBlock 1 = .ok (.iconst 0, 1) := by decide +kernel
theorem dX9_needBlock_2 : decode cX9_needBlock 2 = .ok (.sipush 255, 3) := by decide +kernel
theorem dX9_needBlock_5 : decode cX9_needBlock 5 = .ok (.invokestatic 104, 3) := by decide +kernel
theorem dX9_needBlock_8 : decode cX9_needBlock 8 = .ok (.iload_n 1, 1) := by decide +kernel
theorem dX9_needBlock_9 : decode cX9_needBlock 9 = .ok (.iconst 0, 1) := by decide +kernel
theorem dX9_needBlock_10 : decode cX9_needBlock 10 = .ok (.bipush 8, 2) := by decide +kernel
theorem dX9_needBlock_12 : decode cX9_needBlock 12 = .ok (.invokestatic 104, 3) := by decide +kernel
theorem dX9_needBlock_15 : decode cX9_needBlock 15 = .ok (.iload_n 0, 1) := by decide +kernel
theorem dX9_needBlock_16 : decode cX9_needBlock 16 = .ok (.iload_n 1, 1) := by decide +kernel
theorem dX9_needBlock_17 : decode cX9_needBlock 17 = .ok (.invokestatic 280, 3) := by decide +kernel
theorem dX9_needBlock_20 : decode cX9_needBlock 20 = .ok (.ifCond .eq 14, 3) := by decide +kernel
theorem dX9_needBlock_23 : decode cX9_needBlock 23 = .ok (.new 178, 3) := by decide +kernel
theorem dX9_needBlock_26 : decode cX9_needBlock 26 = .ok (.dup, 1) := by decide +kernel
theorem dX9_needBlock_27 : decode cX9_needBlock 27 = .ok (.ldc_w 285, 3) := by decide +kernel
theorem dX9_needBlock_30 : decode cX9_needBlock 30 = .ok (.invokespecial 182, 3) := by decide +kernel
theorem dX9_needBlock_33 : decode cX9_needBlock 33 = .ok (.athrow, 1) := by decide +kernel
theorem dX9_needBlock_34 : decode cX9_needBlock 34 = .ok (.return_, 1) := by decide +kernel
theorem dX9_needRoomForObject_0 : decode cX9_needRoomForObject 0 = .ok (.aload_n 0, 1) := by decide +kernel
theorem dX9_needRoomForObject_1 : decode cX9_needRoomForObject 1 = .ok (.getfield 19, 3) := by decide +kernel
theorem dX9_needRoomForObject_4 : decode cX9_needRoomForObject 4 = .ok (.getfield 189, 3) := by decide +kernel
theorem dX9_needRoomForObject_7 : decode cX9_needRoomForObject 7 = .ok (.bipush 50, 2) := by decide +kernel
theorem dX9_needRoomForObject_9 : decode cX9_needRoomForObject 9 = .ok (.if_icmp .lt 14, 3) := by decide +kernel
theorem dX9_needRoomForObject_12 : decode cX9_needRoomForObject 12 = .ok (.new 81, 3) := by decide +kernel
theorem dX9_needRoomForObject_15 : decode cX9_needRoomForObject 15 = .ok (.dup, 1) := by decide +kernel
theorem dX9_needRoomForObject_16 : decode cX9_needRoomForObject 16 = .ok (.ldc_w 287, 3) := by decide +kernel
theorem dX9_needRoomForObject_19 : decode cX9_needRoomForObject 19 = .ok (.invokespecial 85, 3) := by decide +kernel
theorem dX9_needRoomForObject_22 : decode cX9_needRoomForObject 22 = .ok (.athrow, 1) := by decide +kernel
theorem dX9_needRoomForObject_23 : decode cX9_needRoomForObject 23 = .ok (.return_, 1) := by decide +kernel
theorem dX9_keep_0 : decode cX9_keep 0 = .ok (.aload_n 0, 1) := by decide +kernel
theorem dX9_keep_1 : decode cX9_keep 1 = .ok (.iload_n 1, 1) := by decide +kernel
theorem dX9_keep_2 : decode cX9_keep 2 = .ok (.invokevirtual 147, 3) := by decide +kernel
theorem dX9_keep_5 : decode cX9_keep 5 = .ok (.pop, 1) := by decide +kernel
theorem dX9_keep_6 : decode cX9_keep 6 = .ok (.iload_n 1, 1) := by decide +kernel
theorem dX9_keep_7 : decode cX9_keep 7 = .ok (.ireturn, 1) := by decide +kernel
theorem dX9_putSignature_0 : decode cX9_putSignature 0 = .ok (.aload_n 0, 1) := by decide +kernel
theorem dX9_putSignature_1 : decode cX9_putSignature 1 = .ok (.getfield 19, 3) := by decide +kernel
theorem dX9_putSignature_4 : decode cX9_putSignature 4 = .ok (.iload_n 1, 1) := by decide +kernel
theorem dX9_putSignature_5 : decode cX9_putSignature 5 = .ok (.aload_n 0, 1) := by decide +kernel
theorem dX9_putSignature_6 : decode cX9_putSignature 6 = .ok (.getfield 10, 3) := by decide +kernel
theorem dX9_putSignature_9 : decode cX9_putSignature 9 = .ok (.getfield 99, 3) := by decide +kernel
theorem dX9_putSignature_12 : decode cX9_putSignature 12 = .ok (.aload_n 0, 1) := by decide +kernel
theorem dX9_putSignature_13 : decode cX9_putSignature 13 = .ok (.getfield 19, 3) := by decide +kernel
theorem dX9_putSignature_16 : decode cX9_putSignature 16 = .ok (.getfield 289, 3) := by decide +kernel
theorem dX9_putSignature_19 : decode cX9_putSignature 19 = .ok (.iload_n 1, 1) := by decide +kernel
theorem dX9_putSignature_20 : decode cX9_putSignature 20 = .ok (.iaload, 1) := by decide +kernel
theorem dX9_putSignature_21 : decode cX9_putSignature 21 = .ok (.iaload, 1) := by decide +kernel
theorem dX9_putSignature_22 : decode cX9_putSignature 22 = .ok (.invokevirtual 292, 3) := by decide +kernel
theorem dX9_putSignature_25 : decode cX9_putSignature 25 = .ok (.istore_n 2, 1) := by decide +kernel
theorem dX9_putSignature_26 : decode cX9_putSignature 26 = .ok (.aload_n 0, 1) := by decide +kernel
theorem dX9_putSignature_27 : decode cX9_putSignature 27 = .ok (.getfield 19, 3) := by decide +kernel
theorem dX9_putSignature_30 : decode cX9_putSignature 30 = .ok (.getfield 295, 3) := by decide +kernel
theorem dX9_putSignature_33 : decode cX9_putSignature 33 = .ok (.iload_n 1, 1) := by decide +kernel
theorem dX9_putSignature_34 : decode cX9_putSignature 34 = .ok (.iload_n 2, 1) := by decide +kernel
theorem dX9_putSignature_35 : decode cX9_putSignature 35 = .ok (.iastore, 1) := by decide +kernel
theorem dX9_putSignature_36 : decode cX9_putSignature 36 = .ok (.iload_n 2, 1) := by decide +kernel
theorem dX9_putSignature_37 : decode cX9_putSignature 37 = .ok (.ireturn, 1) := by decide +kernel
theorem dX9_readVouchers_0 : decode cX9_readVouchers 0 = .ok (.aload_n 0, 1) := by decide +kernel
theorem dX9_readVouchers_1 : decode cX9_readVouchers 1 = .ok (.getfield 28, 3) := by decide +kernel
theorem dX9_readVouchers_4 : decode cX9_readVouchers 4 = .ok (.invokevirtual 190, 3) := by decide +kernel
theorem dX9_readVouchers_7 : decode cX9_readVouchers 7 = .ok (.aload_n 0, 1) := by decide +kernel
theorem dX9_readVouchers_8 : decode cX9_readVouchers 8 = .ok (.getfield 51, 3) := by decide +kernel
theorem dX9_readVouchers_11 : decode cX9_readVouchers 11 = .ok (.invokevirtual 298, 3) := by decide +kernel
theorem dX9_readVouchers_14 : decode cX9_readVouchers 14 = .ok (.iconst 0, 1) := by decide +kernel
theorem dX9_readVouchers_15 : decode cX9_readVouchers 15 = .ok (.istore_n 1, 1) := by decide +kernel
theorem dX9_readVouchers_16 : decode cX9_readVouchers 16 = .ok (.iload_n 1, 1) := by decide +kernel
theorem dX9_readVouchers_17 : decode cX9_readVouchers 17 = .ok (.aload_n 0, 1) := by decide +kernel
theorem dX9_readVouchers_18 : decode cX9_readVouchers 18 = .ok (.getfield 19, 3) := by decide +kernel
theorem dX9_readVouchers_21 : decode cX9_readVouchers 21 = .ok (.getfield 189, 3) := by decide +kernel
theorem dX9_readVouchers_24 : decode cX9_readVouchers 24 = .ok (.if_icmp .ge 59, 3) := by decide +kernel
theorem dX9_readVouchers_27 : decode cX9_readVouchers 27 = .ok (.aload_n 0, 1) := by decide +kernel
theorem dX9_readVouchers_28 : decode cX9_readVouchers 28 = .ok (.getfield 19, 3) := by decide +kernel
theorem dX9_readVouchers_31 : decode cX9_readVouchers 31 = .ok (.getfield 139, 3) := by decide +kernel
theorem dX9_readVouchers_34 : decode cX9_readVouchers 34 = .ok (.iload_n 1, 1) := by decide +kernel
theorem dX9_readVouchers_35 : decode cX9_readVouchers 35 = .ok (.iaload, 1) := by decide +kernel
theorem dX9_readVouchers_36 : decode cX9_readVouchers 36 = .ok (.iconst 2, 1) := by decide +kernel
theorem dX9_readVouchers_37 : decode cX9_readVouchers 37 = .ok (.if_icmp .ne 40, 3) := by decide +kernel
theorem dX9_readVouchers_40 : decode cX9_readVouchers 40 = .ok (.aload_n 0, 1) := by decide +kernel
theorem dX9_readVouchers_41 : decode cX9_readVouchers 41 = .ok (.getfield 28, 3) := by decide +kernel
theorem dX9_readVouchers_44 : decode cX9_readVouchers 44 = .ok (.getfield 193, 3) := by decide +kernel
theorem dX9_readVouchers_47 : decode cX9_readVouchers 47 = .ok (.iload_n 1, 1) := by decide +kernel
theorem dX9_readVouchers_48 : decode cX9_readVouchers 48 = .ok (.iaload, 1) := by decide +kernel
theorem dX9_readVouchers_49 : decode cX9_readVouchers 49 = .ok (.ifCond .ne 28, 3) := by decide +kernel
theorem dX9_readVouchers_52 : decode cX9_readVouchers 52 = .ok (.aload_n 0, 1) := by decide +kernel
theorem dX9_readVouchers_53 : decode cX9_readVouchers 53 = .ok (.getfield 51, 3) := by decide +kernel
theorem dX9_readVouchers_56 : decode cX9_readVouchers 56 = .ok (.aload_n 0, 1) := by decide +kernel
theorem dX9_readVouchers_57 : decode cX9_readVouchers 57 = .ok (.getfield 19, 3) := by decide +kernel
theorem dX9_readVouchers_60 : decode cX9_readVouchers 60 = .ok (.getfield 301, 3) := by decide +kernel
theorem dX9_readVouchers_63 : decode cX9_readVouchers 63 = .ok (.iload_n 1, 1) := by decide +kernel
theorem dX9_readVouchers_64 : decode cX9_readVouchers 64 = .ok (.iaload, 1) := by decide +kernel
theorem dX9_readVouchers_65 : decode cX9_readVouchers 65 = .ok (.aload_n 0, 1) := by decide +kernel
theorem dX9_readVouchers_66 : decode cX9_readVouchers 66 = .ok (.getfield 19, 3) := by decide +kernel
theorem dX9_readVouchers_69 : decode cX9_readVouchers 69 = .ok (.getfield 144, 3) := by decide +kernel
theorem dX9_readVouchers_72 : decode cX9_readVouchers 72 = .ok (.iload_n 1, 1) := by decide +kernel
theorem dX9_readVouchers_73 : decode cX9_readVouchers 73 = .ok (.iaload, 1) := by decide +kernel
theorem dX9_readVouchers_74 : decode cX9_readVouchers 74 = .ok (.invokevirtual 304, 3) := by decide +kernel
theorem dX9_readVouchers_77 : decode cX9_readVouchers 77 = .ok (.iinc 1 1, 3) := by decide +kernel
theorem dX9_readVouchers_80 : decode cX9_readVouchers 80 = .ok (.goto (-64), 3) := by decide +kernel
theorem dX9_readVouchers_83 : decode cX9_readVouchers 83 = .ok (.return_, 1) := by decide +kernel
theorem dX9_isIn_0 : decode cX9_isIn 0 = .ok (.iload_n 0, 1) := by decide +kernel
theorem dX9_isIn_1 : decode cX9_isIn 1 = .ok (.iload_n 1, 1) := by decide +kernel
theorem dX9_isIn_2 : decode cX9_isIn 2 = .ok (.ishr, 1) := by decide +kernel
theorem dX9_isIn_3 : decode cX9_isIn 3 = .ok (.iconst 1, 1) := by decide +kernel
theorem dX9_isIn_4 : decode cX9_isIn 4 = .ok (.iand, 1) := by decide +kernel
theorem dX9_isIn_5 : decode cX9_isIn 5 = .ok (.iconst 1, 1) := by decide +kernel
theorem dX9_isIn_6 : decode cX9_isIn 6 = .ok (.if_icmp .ne 7, 3) := by decide +kernel
theorem dX9_isIn_9 : decode cX9_isIn 9 = .ok (.iconst 1, 1) := by decide +kernel
theorem dX9_isIn_10 : decode cX9_isIn 10 = .ok (.goto 4, 3) := by decide +kernel
theorem dX9_isIn_13 : decode cX9_isIn 13 = .ok (.iconst 0, 1) := by decide +kernel
theorem dX9_isIn_14 : decode cX9_isIn 14 = .ok (.ireturn, 1) := by decide +kernel
theorem dX10_init_0 : decode cX10_init 0 = .ok (.aload_n 0, 1) := by decide +kernel
theorem dX10_init_1 : decode cX10_init 1 = .ok (.invokespecial 1, 3) := by decide +kernel
theorem dX10_init_4 : decode cX10_init 4 = .ok (.aload_n 0, 1) := by decide +kernel
theorem dX10_init_5 : decode cX10_init 5 = .ok (.bipush 8, 2) := by decide +kernel
theorem dX10_init_7 : decode cX10_init 7 = .ok (.newarray .int, 2) := by decide +kernel
theorem dX10_init_9 : decode cX10_init 9 = .ok (.putfield 7, 3) := by decide +kernel
theorem dX10_init_12 : decode cX10_init 12 = .ok (.aload_n 0, 1) := by decide +kernel
theorem dX10_init_13 : decode cX10_init 13 = .ok (.bipush 8, 2) := by decide +kernel
theorem dX10_init_15 : decode cX10_init 15 = .ok (.newarray .int, 2) := by decide +kernel
theorem dX10_init_17 : decode cX10_init 17 = .ok (.putfield 13, 3) := by decide +kernel
theorem dX10_init_20 : decode cX10_init 20 = .ok (.aload_n 0, 1) := by decide +kernel
theorem dX10_init_21 : decode cX10_init 21 = .ok (.bipush 8, 2) := by decide +kernel
theorem dX10_init_23 : decode cX10_init 23 = .ok (.newarray .int, 2) := by decide +kernel
theorem dX10_init_25 : decode cX10_init 25 = .ok (.putfield 16, 3) := by decide +kernel
theorem dX10_init_28 : decode cX10_init 28 = .ok (.aload_n 0, 1) := by decide +kernel
theorem dX10_init_29 : decode cX10_init 29 = .ok (.iconst 1, 1) := by decide +kernel
theorem dX10_init_30 : decode cX10_init 30 = .ok (.putfield 19, 3) := by decide +kernel
theorem dX10_init_33 : decode cX10_init 33 = .ok (.aload_n 0, 1) := by decide +kernel
theorem dX10_init_34 : decode cX10_init 34 = .ok (.bipush 10, 2) := by decide +kernel
theorem dX10_init_36 : decode cX10_init 36 = .ok (.newarray .int, 2) := by decide +kernel
theorem dX10_init_38 : decode cX10_init 38 = .ok (.putfield 23, 3) := by decide +kernel
theorem dX10_init_41 : decode cX10_init 41 = .ok (.aload_n 0, 1) := by decide +kernel
theorem dX10_init_42 : decode cX10_init 42 = .ok (.bipush 50, 2) := by decide +kernel
theorem dX10_init_44 : decode cX10_init 44 = .ok (.newarray .int, 2) := by decide +kernel
theorem dX10_init_46 : decode cX10_init 46 = .ok (.putfield 26, 3) := by decide +kernel
theorem dX10_init_49 : decode cX10_init 49 = .ok (.aload_n 0, 1) := by decide +kernel
theorem dX10_init_50 : decode cX10_init 50 = .ok (.bipush 50, 2) := by decide +kernel
theorem dX10_init_52 : decode cX10_init 52 = .ok (.newarray .int, 2) := by decide +kernel
theorem dX10_init_54 : decode cX10_init 54 = .ok (.putfield 29, 3) := by decide +kernel
theorem dX10_init_57 : decode cX10_init 57 = .ok (.aload_n 0, 1) := by decide +kernel
theorem dX10_init_58 : decode cX10_init 58 = .ok (.bipush 50, 2) := by decide +kernel
theorem dX10_init_60 : decode cX10_init 60 = .ok (.newarray .int, 2) := by decide +kernel
theorem dX10_init_62 : decode cX10_init 62 = .ok (.putfield 32, 3) := by decide +kernel
theorem dX10_init_65 : decode cX10_init 65 = .ok (.aload_n 0, 1) := by decide +kernel
theorem dX10_init_66 : decode cX10_init 66 = .ok (.bipush 50, 2) := by decide +kernel
theorem dX10_init_68 : decode cX10_init 68 = .ok (.newarray .int, 2) := by decide +kernel
theorem dX10_init_70 : decode cX10_init 70 = .ok (.putfield 35, 3) := by decide +kernel
theorem dX10_init_73 : decode cX10_init 73 = .ok (.aload_n 0, 1) := by decide +kernel
theorem dX10_init_74 : decode cX10_init 74 = .ok (.bipush 50, 2) := by decide +kernel
theorem dX10_init_76 : decode cX10_init 76 = .ok (.newarray .int, 2) := by decide +kernel
theorem dX10_init_78 : decode cX10_init 78 = .ok (.putfield 38, 3) := by decide +kernel
theorem dX10_init_81 : decode cX10_init 81 = .ok (.aload_n 0, 1) := by decide +kernel
theorem dX10_init_82 : decode cX10_init 82 = .ok (.bipush 50, 2) := by decide +kernel
theorem dX10_init_84 : decode cX10_init 84 = .ok (.newarray .int, 2) := by decide +kernel
theorem dX10_init_86 : decode cX10_init 86 = .ok (.putfield 41, 3) := by decide +kernel
theorem dX10_init_89 : decode cX10_init 89 = .ok (.aload_n 0, 1) := by decide +kernel
theorem dX10_init_90 : decode cX10_init 90 = .ok (.bipush 50, 2) := by decide +kernel
theorem dX10_init_92 : decode cX10_init 92 = .ok (.newarray .int, 2) := by decide +kernel
theorem dX10_init_94 : decode cX10_init 94 = .ok (.putfield 44, 3) := by decide +kernel
theorem dX10_init_97 : decode cX10_init 97 = .ok (.aload_n 0, 1) := by decide +kernel
theorem dX10_init_98 : decode cX10_init 98 = .ok (.bipush 50, 2) := by decide +kernel
theorem dX10_init_100 : decode cX10_init 100 = .ok (.newarray .int, 2) := by decide +kernel
theorem dX10_init_102 : decode cX10_init 102 = .ok (.putfield 47, 3) := by decide +kernel
theorem dX10_init_105 : decode cX10_init 105 = .ok (.aload_n 0, 1) := by decide +kernel
theorem dX10_init_106 : decode cX10_init 106 = .ok (.bipush 50, 2) := by decide +kernel
theorem dX10_init_108 : decode cX10_init 108 = .ok (.newarray .boolean, 2) := by decide +kernel
theorem dX10_init_110 : decode cX10_init 110 = .ok (.putfield 50, 3) := by decide +kernel
theorem dX10_init_113 : decode cX10_init 113 = .ok (.aload_n 0, 1) := by decide +kernel
theorem dX10_init_114 : decode cX10_init 114 = .ok (.bipush 50, 2) := by decide +kernel
theorem dX10_init_116 : decode cX10_init 116 = .ok (.newarray .boolean, 2) := by decide +kernel
theorem dX10_init_118 : decode cX10_init 118 = .ok (.putfield 54, 3) := by decide +kernel
theorem dX10_init_121 : decode cX10_init 121 = .ok (.aload_n 0, 1) := by decide +kernel
theorem dX10_init_122 : decode cX10_init 122 = .ok (.bipush 6, 2) := by decide +kernel
theorem dX10_init_124 : decode cX10_init 124 = .ok (.newarray .int, 2) := by decide +kernel
theorem dX10_init_126 : decode cX10_init 126 = .ok (.putfield 57, 3) := by decide +kernel
theorem dX10_init_129 : decode cX10_init 129 = .ok (.aload_n 0, 1) := by decide +kernel
theorem dX10_init_130 : decode cX10_init 130 = .ok (.sipush 144, 3) := by decide +kernel
theorem dX10_init_133 : decode cX10_init 133 = .ok (.newarray .int, 2) := by decide +kernel
theorem dX10_init_135 : decode cX10_init 135 = .ok (.putfield 60, 3) := by decide +kernel
theorem dX10_init_138 : decode cX10_init 138 = .ok (.aload_n 0, 1) := by decide +kernel
theorem dX10_init_139 : decode cX10_init 139 = .ok (.bipush 24, 2) := by decide +kernel
theorem dX10_init_141 : decode cX10_init 141 = .ok (.newarray .int, 2) := by decide +kernel
theorem dX10_init_143 : decode cX10_init 143 = .ok (.putfield 63, 3) := by decide +kernel
theorem dX10_init_146 : decode cX10_init 146 = .ok (.aload_n 0, 1) := by decide +kernel
theorem dX10_init_147 : decode cX10_init 147 = .ok (.bipush 24, 2) := by decide +kernel
theorem dX10_init_149 : decode cX10_init 149 = .ok (.newarray .int, 2) := by decide +kernel
theorem dX10_init_151 : decode cX10_init 151 = .ok (.putfield 66, 3) := by decide +kernel
theorem dX10_init_154 : decode cX10_init 154 = .ok (.aload_n 0, 1) := by decide +kernel
theorem dX10_init_155 : decode cX10_init 155 = .ok (.bipush 24, 2) := by decide +kernel
theorem dX10_init_157 : decode cX10_init 157 = .ok (.newarray .int, 2) := by decide +kernel
theorem dX10_init_159 : decode cX10_init 159 = .ok (.putfield 69, 3) := by decide +kernel
theorem dX10_init_162 : decode cX10_init 162 = .ok (.aload_n 0, 1) := by decide +kernel
theorem dX10_init_163 : decode cX10_init 163 = .ok (.bipush 24, 2) := by decide +kernel
theorem dX10_init_165 : decode cX10_init 165 = .ok (.newarray .boolean, 2) := by decide +kernel
theorem dX10_init_167 : decode cX10_init 167 = .ok (.putfield 72, 3) := by decide +kernel
theorem dX10_init_170 : decode cX10_init 170 = .ok (.aload_n 0, 1) := by decide +kernel
theorem dX10_init_171 : decode cX10_init 171 = .ok (.bipush 100, 2) := by decide +kernel
theorem dX10_init_173 : decode cX10_init 173 = .ok (.newarray .int, 2) := by decide +kernel
theorem dX10_init_175 : decode cX10_init 175 = .ok (.putfield 75, 3) := by decide +kernel
theorem dX10_init_178 : decode cX10_init 178 = .ok (.aload_n 0, 1) := by decide +kernel
theorem dX10_init_179 : decode cX10_init 179 = .ok (.bipush 50, 2) := by decide +kernel
theorem dX10_init_181 : decode cX10_init 181 = .ok (.newarray .int, 2) := by decide +kernel
theorem dX10_init_183 : decode cX10_init 183 = .ok (.putfield 78, 3) := by decide +kernel
theorem dX10_init_186 : decode cX10_init 186 = .ok (.aload_n 0, 1) := by decide +kernel
theorem dX10_init_187 : decode cX10_init 187 = .ok (.bipush 10, 2) := by decide +kernel
theorem dX10_init_189 : decode cX10_init 189 = .ok (.newarray .int, 2) := by decide +kernel
theorem dX10_init_191 : decode cX10_init 191 = .ok (.putfield 81, 3) := by decide +kernel
theorem dX10_init_194 : decode cX10_init 194 = .ok (.aload_n 0, 1) := by decide +kernel
theorem dX10_init_195 : decode cX10_init 195 = .ok (.bipush 10, 2) := by decide +kernel
theorem dX10_init_197 : decode cX10_init 197 = .ok (.newarray .boolean, 2) := by decide +kernel
theorem dX10_init_199 : decode cX10_init 199 = .ok (.putfield 84, 3) := by decide +kernel
theorem dX10_init_202 : decode cX10_init 202 = .ok (.aload_n 0, 1) := by decide +kernel
theorem dX10_init_203 : decode cX10_init 203 = .ok (.bipush 6, 2) := by decide +kernel
theorem dX10_init_205 : decode cX10_init 205 = .ok (.newarray .int, 2) := by decide +kernel
theorem dX10_init_207 : decode cX10_init 207 = .ok (.putfield 87, 3) := by decide +kernel
theorem dX10_init_210 : decode cX10_init 210 = .ok (.aload_n 0, 1) := by decide +kernel
theorem dX10_init_211 : decode cX10_init 211 = .ok (.bipush 10, 2) := by decide +kernel
theorem dX10_init_213 : decode cX10_init 213 = .ok (.newarray .int, 2) := by decide +kernel
theorem dX10_init_215 : decode cX10_init 215 = .ok (.putfield 90, 3) := by decide +kernel
theorem dX10_init_218 : decode cX10_init 218 = .ok (.aload_n 0, 1) := by decide +kernel
theorem dX10_init_219 : decode cX10_init 219 = .ok (.bipush 100, 2) := by decide +kernel
theorem dX10_init_221 : decode cX10_init 221 = .ok (.newarray .int, 2) := by decide +kernel
theorem dX10_init_223 : decode cX10_init 223 = .ok (.putfield 93, 3) := by decide +kernel
theorem dX10_init_226 : decode cX10_init 226 = .ok (.aload_n 0, 1) := by decide +kernel
theorem dX10_init_227 : decode cX10_init 227 = .ok (.bipush 100, 2) := by decide +kernel
theorem dX10_init_229 : decode cX10_init 229 = .ok (.newarray .int, 2) := by decide +kernel
theorem dX10_init_231 : decode cX10_init 231 = .ok (.putfield 96, 3) := by decide +kernel
theorem dX10_init_234 : decode cX10_init 234 = .ok (.aload_n 0, 1) := by decide +kernel
theorem dX10_init_235 : decode cX10_init 235 = .ok (.bipush 10, 2) := by decide +kernel
theorem dX10_init_237 : decode cX10_init 237 = .ok (.newarray .int, 2) := by decide +kernel
theorem dX10_init_239 : decode cX10_init 239 = .ok (.putfield 99, 3) := by decide +kernel
theorem dX10_init_242 : decode cX10_init 242 = .ok (.aload_n 0, 1) := by decide +kernel
theorem dX10_init_243 : decode cX10_init 243 = .ok (.sipush 256, 3) := by decide +kernel
theorem dX10_init_246 : decode cX10_init 246 = .ok (.newarray .boolean, 2) := by decide +kernel
theorem dX10_init_248 : decode cX10_init 248 = .ok (.putfield 102, 3) := by decide +kernel
theorem dX10_init_251 : decode cX10_init 251 = .ok (.aload_n 0, 1) := by decide +kernel
theorem dX10_init_252 : decode cX10_init 252 = .ok (.getfield 7, 3) := by decide +kernel
theorem dX10_init_255 : decode cX10_init 255 = .ok (.iconst 0, 1) := by decide +kernel
theorem dX10_init_256 : decode cX10_init 256 = .ok (.iconst (-1), 1) := by decide +kernel
theorem dX10_init_257 : decode cX10_init 257 = .ok (.iastore, 1) := by decide +kernel
theorem dX10_init_258 : decode cX10_init 258 = .ok (.aload_n 0, 1) := by decide +kernel
theorem dX10_init_259 : decode cX10_init 259 = .ok (.getfield 16, 3) := by decide +kernel
theorem dX10_init_262 : decode cX10_init 262 = .ok (.iconst 0, 1) := by decide +kernel
theorem dX10_init_263 : decode cX10_init 263 = .ok (.bipush 30, 2) := by decide +kernel
theorem dX10_init_265 : decode cX10_init 265 = .ok (.iastore, 1) := by decide +kernel
theorem dX10_init_266 : decode cX10_init 266 = .ok (.return_, 1) := by decide +kernel
theorem dX10_thrown_0 : decode cX10_thrown 0 = .ok (.aload_n 0, 1) := by decide +kernel
theorem dX10_thrown_1 : decode cX10_thrown 1 = .ok (.getfield 105, 3) := by decide +kernel
theorem dX10_thrown_4 : decode cX10_thrown 4 = .ok (.ireturn, 1) := by decide +kernel
theorem dX10_isFine_0 : decode cX10_isFine 0 = .ok (.aload_n 0, 1) := by decide +kernel
theorem dX10_isFine_1 : decode cX10_isFine 1 = .ok (.iload_n 1, 1) := by decide +kernel
theorem dX10_isFine_2 : decode cX10_isFine 2 = .ok (.putfield 105, 3) := by decide +kernel
theorem dX10_isFine_5 : decode cX10_isFine 5 = .ok (.iload_n 1, 1) := by decide +kernel
theorem dX10_isFine_6 : decode cX10_isFine 6 = .ok (.ifCond .ne 7, 3) := by decide +kernel
theorem dX10_isFine_9 : decode cX10_isFine 9 = .ok (.iconst 1, 1) := by decide +kernel
theorem dX10_isFine_10 : decode cX10_isFine 10 = .ok (.goto 4, 3) := by decide +kernel
theorem dX10_isFine_13 : decode cX10_isFine 13 = .ok (.iconst 0, 1) := by decide +kernel
theorem dX10_isFine_14 : decode cX10_isFine 14 = .ok (.ireturn, 1) := by decide +kernel
theorem dX10_isBetween_0 : decode cX10_isBetween 0 = .ok (.iload_n 0, 1) := by decide +kernel
theorem dX10_isBetween_1 : decode cX10_isBetween 1 = .ok (.iload_n 1, 1) := by decide +kernel
theorem dX10_isBetween_2 : decode cX10_isBetween 2 = .ok (.if_icmp .lt 12, 3) := by decide +kernel
theorem dX10_isBetween_5 : decode cX10_isBetween 5 = .ok (.iload_n 0, 1) := by decide +kernel
theorem dX10_isBetween_6 : decode cX10_isBetween 6 = .ok (.iload_n 2, 1) := by decide +kernel
theorem dX10_isBetween_7 : decode cX10_isBetween 7 = .ok (.if_icmp .gt 7, 3) := by decide +kernel
theorem dX10_isBetween_10 : decode cX10_isBetween 10 = .ok (.iconst 1, 1) := by decide +kernel
theorem dX10_isBetween_11 : decode cX10_isBetween 11 = .ok (.goto 4, 3) := by decide +kernel
theorem dX10_isBetween_14 : decode cX10_isBetween 14 = .ok (.iconst 0, 1) := by decide +kernel
theorem dX10_isBetween_15 : decode cX10_isBetween 15 = .ok (.ireturn, 1) := by decide +kernel
theorem dX10_isHolder_0 : decode cX10_isHolder 0 = .ok (.iload_n 1, 1) := by decide +kernel
theorem dX10_isHolder_1 : decode cX10_isHolder 1 = .ok (.iconst 0, 1) := by decide +kernel
theorem dX10_isHolder_2 : decode cX10_isHolder 2 = .ok (.aload_n 0, 1) := by decide +kernel
theorem dX10_isHolder_3 : decode cX10_isHolder 3 = .ok (.getfield 19, 3) := by decide +kernel
theorem dX10_isHolder_6 : decode cX10_isHolder 6 = .ok (.iconst 1, 1) := by decide +kernel
theorem dX10_isHolder_7 : decode cX10_isHolder 7 = .ok (.isub, 1) := by decide +kernel
theorem dX10_isHolder_8 : decode cX10_isHolder 8 = .ok (.invokestatic 108, 3) := by decide +kernel
theorem dX10_isHolder_11 : decode cX10_isHolder 11 = .ok (.ireturn, 1) := by decide +kernel
theorem dX10_isNet_0 : decode cX10_isNet 0 = .ok (.iload_n 0, 1) := by decide +kernel
theorem dX10_isNet_1 : decode cX10_isNet 1 = .ok (.iconst 0, 1) := by decide +kernel
theorem dX10_isNet_2 : decode cX10_isNet 2 = .ok (.bipush 9, 2) := by decide +kernel
theorem dX10_isNet_4 : decode cX10_isNet 4 = .ok (.invokestatic 108, 3) := by decide +kernel
theorem dX10_isNet_7 : decode cX10_isNet 7 = .ok (.ireturn, 1) := by decide +kernel
theorem dX10_isObject_0 : decode cX10_isObject 0 = .ok (.iload_n 1, 1) := by decide +kernel
theorem dX10_isObject_1 : decode cX10_isObject 1 = .ok (.iconst 0, 1) := by decide +kernel
theorem dX10_isObject_2 : decode cX10_isObject 2 = .ok (.aload_n 0, 1) := by decide +kernel
theorem dX10_isObject_3 : decode cX10_isObject 3 = .ok (.getfield 112, 3) := by decide +kernel
theorem dX10_isObject_6 : decode cX10_isObject 6 = .ok (.iconst 1, 1) := by decide +kernel
theorem dX10_isObject_7 : decode cX10_isObject 7 = .ok (.isub, 1) := by decide +kernel
theorem dX10_isObject_8 : decode cX10_isObject 8 = .ok (.invokestatic 108, 3) := by decide +kernel
theorem dX10_isObject_11 : decode cX10_isObject 11 = .ok (.ireturn, 1) := by decide +kernel
theorem dX10_isBlock_0 : decode cX10_isBlock 0 = .ok (.iload_n 0, 1) := by decide +kernel
theorem dX10_isBlock_1 : decode cX10_isBlock 1 = .ok (.iconst 0, 1) := by decide +kernel
theorem dX10_isBlock_2 : decode cX10_isBlock 2 = .ok (.sipush 255, 3) := by decide +kernel
theorem dX10_isBlock_5 : decode cX10_isBlock 5 = .ok (.invokestatic 108, 3) := by decide +kernel
theorem dX10_isBlock_8 : decode cX10_isBlock 8 = .ok (.ifCond .eq 30, 3) := by decide +kernel
theorem dX10_isBlock_11 : decode cX10_isBlock 11 = .ok (.iload_n 1, 1) := by decide +kernel
theorem dX10_isBlock_12 : decode cX10_isBlock 12 = .ok (.iconst 0, 1) := by decide +kernel
theorem dX10_isBlock_13 : decode cX10_isBlock 13 = .ok (.bipush 8, 2) := by decide +kernel
theorem dX10_isBlock_15 : decode cX10_isBlock 15 = .ok (.invokestatic 108, 3) := by decide +kernel
theorem dX10_isBlock_18 : decode cX10_isBlock 18 = .ok (.ifCond .eq 20, 3) := by decide +kernel
theorem dX10_isBlock_21 : decode cX10_isBlock 21 = .ok (.iload_n 0, 1) := by decide +kernel
theorem dX10_isBlock_22 : decode cX10_isBlock 22 = .ok (.iconst 1, 1) := by decide +kernel
theorem dX10_isBlock_23 : decode cX10_isBlock 23 = .ok (.bipush 8, 2) := by decide +kernel
theorem dX10_isBlock_25 : decode cX10_isBlock 25 = .ok (.iload_n 1, 1) := by decide +kernel
theorem dX10_isBlock_26 : decode cX10_isBlock 26 = .ok (.isub, 1) := by decide +kernel
theorem dX10_isBlock_27 : decode cX10_isBlock 27 = .ok (.ishl, 1) := by decide +kernel
theorem dX10_isBlock_28 : decode cX10_isBlock 28 = .ok (.iconst 1, 1) := by decide +kernel
theorem dX10_isBlock_29 : decode cX10_isBlock 29 = .ok (.isub, 1) := by decide +kernel
theorem dX10_isBlock_30 : decode cX10_isBlock 30 = .ok (.iand, 1) := by decide +kernel
theorem dX10_isBlock_31 : decode cX10_isBlock 31 = .ok (.ifCond .ne 7, 3) := by decide +kernel
theorem dX10_isBlock_34 : decode cX10_isBlock 34 = .ok (.iconst 1, 1) := by decide +kernel
theorem dX10_isBlock_35 : decode cX10_isBlock 35 = .ok (.goto 4, 3) := by decide +kernel
theorem dX10_isBlock_38 : decode cX10_isBlock 38 = .ok (.iconst 0, 1) := by decide +kernel
theorem dX10_isBlock_39 : decode cX10_isBlock 39 = .ok (.ireturn, 1) := by decide +kernel
theorem dX10_lies_0 : decode cX10_lies 0 = .ok (.iload_n 1, 1) := by decide +kernel
theorem dX10_lies_1 : decode cX10_lies 1 = .ok (.iload_n 3, 1) := by decide +kernel
theorem dX10_lies_2 : decode cX10_lies 2 = .ok (.if_icmp .lt 22, 3) := by decide +kernel
theorem dX10_lies_5 : decode cX10_lies 5 = .ok (.iload_n 0, 1) := by decide +kernel
theorem dX10_lies_6 : decode cX10_lies 6 = .ok (.bipush 8, 2) := by decide +kernel
theorem dX10_lies_8 : decode cX10_lies 8 = .ok (.iload_n 3, 1) := by decide +kernel
theorem dX10_lies_9 : decode cX10_lies 9 = .ok (.isub, 1) := by decide +kernel
theorem dX10_lies_10 : decode cX10_lies 10 = .ok (.ishr, 1) := by decide +kernel
theorem dX10_lies_11 : decode cX10_lies 11 = .ok (.iload_n 2, 1) := by decide +kernel
theorem dX10_lies_12 : decode cX10_lies 12 = .ok (.bipush 8, 2) := by decide +kernel
theorem dX10_lies_14 : decode cX10_lies 14 = .ok (.iload_n 3, 1) := by decide +kernel
theorem dX10_lies_15 : decode cX10_lies 15 = .ok (.isub, 1) := by decide +kernel
theorem dX10_lies_16 : decode cX10_lies 16 = .ok (.ishr, 1) := by decide +kernel
theorem dX10_lies_17 : decode cX10_lies 17 = .ok (.if_icmp .ne 7, 3) := by decide +kernel
theorem dX10_lies_20 : decode cX10_lies 20 = .ok (.iconst 1, 1) := by decide +kernel
theorem dX10_lies_21 : decode cX10_lies 21 = .ok (.goto 4, 3) := by decide +kernel
theorem dX10_lies_24 : decode cX10_lies 24 = .ok (.iconst 0, 1) := by decide +kernel
theorem dX10_lies_25 : decode cX10_lies 25 = .ok (.ireturn, 1) := by decide +kernel
theorem dX10_holder_0 : decode cX10_holder 0 = .ok (.aload_n 0, 1) := by decide +kernel
theorem dX10_holder_1 : decode cX10_holder 1 = .ok (.aload_n 0, 1) := by decide +kernel
theorem dX10_holder_2 : decode cX10_holder 2 = .ok (.iload_n 1, 1) := by decide +kernel
theorem dX10_holder_3 : decode cX10_holder 3 = .ok (.invokevirtual 115, 3) := by decide +kernel
theorem dX10_holder_6 : decode cX10_holder 6 = .ok (.ifCond .ne 7, 3) := by decide +kernel
theorem dX10_holder_9 : decode cX10_holder 9 = .ok (.iconst 1, 1) := by decide +kernel
theorem dX10_holder_10 : decode cX10_holder 10 = .ok (.goto 17, 3) := by decide +kernel
theorem dX10_holder_13 : decode cX10_holder 13 = .ok (.aload_n 0, 1) := by decide +kernel
theorem dX10_holder_14 : decode cX10_holder 14 = .ok (.getfield 19, 3) := by decide +kernel
theorem dX10_holder_17 : decode cX10_holder 17 = .ok (.bipush 8, 2) := by decide +kernel
theorem dX10_holder_19 : decode cX10_holder 19 = .ok (.if_icmp .ne 7, 3) := by decide +kernel
theorem dX10_holder_22 : decode cX10_holder 22 = .ok (.iconst 2, 1) := by decide +kernel
theorem dX10_holder_23 : decode cX10_holder 23 = .ok (.goto 4, 3) := by decide +kernel
theorem dX10_holder_26 : decode cX10_holder 26 = .ok (.iconst 0, 1) := by decide +kernel
theorem dX10_holder_27 : decode cX10_holder 27 = .ok (.invokevirtual 119, 3) := by decide +kernel
theorem dX10_holder_30 : decode cX10_holder 30 = .ok (.ifCond .ne 5, 3) := by decide +kernel
theorem dX10_holder_33 : decode cX10_holder 33 = .ok (.iconst 0, 1) := by decide +kernel
theorem dX10_holder_34 : decode cX10_holder 34 = .ok (.ireturn, 1) := by decide +kernel
theorem dX10_holder_35 : decode cX10_holder 35 = .ok (.aload_n 0, 1) := by decide +kernel
theorem dX10_holder_36 : decode cX10_holder 36 = .ok (.getfield 7, 3) := by decide +kernel
theorem dX10_holder_39 : decode cX10_holder 39 = .ok (.aload_n 0, 1) := by decide +kernel
theorem dX10_holder_40 : decode cX10_holder 40 = .ok (.getfield 19, 3) := by decide +kernel
theorem dX10_holder_43 : decode cX10_holder 43 = .ok (.iload_n 1, 1) := by decide +kernel
theorem dX10_holder_44 : decode cX10_holder 44 = .ok (.iastore, 1) := by decide +kernel
theorem dX10_holder_45 : decode cX10_holder 45 = .ok (.aload_n 0, 1) := by decide +kernel
theorem dX10_holder_46 : decode cX10_holder 46 = .ok (.getfield 16, 3) := by decide +kernel
theorem dX10_holder_49 : decode cX10_holder 49 = .ok (.aload_n 0, 1) := by decide +kernel
theorem dX10_holder_50 : decode cX10_holder 50 = .ok (.getfield 19, 3) := by decide +kernel
theorem dX10_holder_53 : decode cX10_holder 53 = .ok (.aload_n 0, 1) := by decide +kernel
theorem dX10_holder_54 : decode cX10_holder 54 = .ok (.getfield 122, 3) := by decide +kernel
theorem dX10_holder_57 : decode cX10_holder 57 = .ok (.bipush 30, 2) := by decide +kernel
theorem dX10_holder_59 : decode cX10_holder 59 = .ok (.iadd, 1) := by decide +kernel
theorem dX10_holder_60 : decode cX10_holder 60 = .ok (.iastore, 1) := by decide +kernel
theorem dX10_holder_61 : decode cX10_holder 61 = .ok (.aload_n 0, 1) := by decide +kernel
theorem dX10_holder_62 : decode cX10_holder 62 = .ok (.dup, 1) := by decide +kernel
theorem dX10_holder_63 : decode cX10_holder 63 = .ok (.getfield 19, 3) := by decide +kernel
theorem dX10_holder_66 : decode cX10_holder 66 = .ok (.iconst 1, 1) := by decide +kernel
theorem dX10_holder_67 : decode cX10_holder 67 = .ok (.iadd, 1) := by decide +kernel
theorem dX10_holder_68 : decode cX10_holder 68 = .ok (.putfield 19, 3) := by decide +kernel
theorem dX10_holder_71 : decode cX10_holder 71 = .ok (.aload_n 0, 1) := by decide +kernel
theorem dX10_holder_72 : decode cX10_holder 72 = .ok (.getfield 19, 3) := by decide +kernel
theorem dX10_holder_75 : decode cX10_holder 75 = .ok (.iconst 1, 1) := by decide +kernel
theorem dX10_holder_76 : decode cX10_holder 76 = .ok (.isub, 1) := by decide +kernel
theorem dX10_holder_77 : decode cX10_holder 77 = .ok (.ireturn, 1) := by decide +kernel
theorem dX10_belong_0 : decode cX10_belong 0 = .ok (.aload_n 0, 1) := by decide +kernel
theorem dX10_belong_1 : decode cX10_belong 1 = .ok (.iload_n 1, 1) := by decide +kernel
theorem dX10_belong_2 : decode cX10_belong 2 = .ok (.invokestatic 125, 3) := by decide +kernel
theorem dX10_belong_5 : decode cX10_belong 5 = .ok (.ifCond .eq 15, 3) := by decide +kernel
theorem dX10_belong_8 : decode cX10_belong 8 = .ok (.aload_n 0, 1) := by decide +kernel
theorem dX10_belong_9 : decode cX10_belong 9 = .ok (.iload_n 2, 1) := by decide +kernel
theorem dX10_belong_10 : decode cX10_belong 10 = .ok (.invokevirtual 115, 3) := by decide +kernel
theorem dX10_belong_13 : decode cX10_belong 13 = .ok (.ifCond .eq 7, 3) := by decide +kernel
theorem dX10_belong_16 : decode cX10_belong 16 = .ok (.iconst 0, 1) := by decide +kernel
theorem dX10_belong_17 : decode cX10_belong 17 = .ok (.goto 4, 3) := by decide +kernel
theorem dX10_belong_20 : decode cX10_belong 20 = .ok (.iconst 1, 1) := by decide +kernel
theorem dX10_belong_21 : decode cX10_belong 21 = .ok (.invokevirtual 119, 3) := by decide +kernel
theorem dX10_belong_24 : decode cX10_belong 24 = .ok (.ifCond .ne 5, 3) := by decide +kernel
theorem dX10_belong_27 : decode cX10_belong 27 = .ok (.iconst 0, 1) := by decide +kernel
theorem dX10_belong_28 : decode cX10_belong 28 = .ok (.ireturn, 1) := by decide +kernel
theorem dX10_belong_29 : decode cX10_belong 29 = .ok (.aload_n 0, 1) := by decide +kernel
theorem dX10_belong_30 : decode cX10_belong 30 = .ok (.getfield 23, 3) := by decide +kernel
theorem dX10_belong_33 : decode cX10_belong 33 = .ok (.iload_n 1, 1) := by decide +kernel
theorem dX10_belong_34 : decode cX10_belong 34 = .ok (.iaload, 1) := by decide +kernel
theorem dX10_belong_35 : decode cX10_belong 35 = .ok (.istore_n 3, 1) := by decide +kernel
theorem dX10_belong_36 : decode cX10_belong 36 = .ok (.aload_n 0, 1) := by decide +kernel
theorem dX10_belong_37 : decode cX10_belong 37 = .ok (.getfield 23, 3) := by decide +kernel
theorem dX10_belong_40 : decode cX10_belong 40 = .ok (.iload_n 1, 1) := by decide +kernel
theorem dX10_belong_41 : decode cX10_belong 41 = .ok (.iload_n 2, 1) := by decide +kernel
theorem dX10_belong_42 : decode cX10_belong 42 = .ok (.iastore, 1) := by decide +kernel
theorem dX10_belong_43 : decode cX10_belong 43 = .ok (.iload_n 3, 1) := by decide +kernel
theorem dX10_belong_44 : decode cX10_belong 44 = .ok (.ireturn, 1) := by decide +kernel
theorem dX10_roll_0 : decode cX10_roll 0 = .ok (.aload_n 0, 1) := by decide +kernel
theorem dX10_roll_1 : decode cX10_roll 1 = .ok (.iload_n 1, 1) := by decide +kernel
theorem dX10_roll_2 : decode cX10_roll 2 = .ok (.invokevirtual 115, 3) := by decide +kernel
theorem dX10_roll_5 : decode cX10_roll 5 = .ok (.istore_n 2, 1) := by decide +kernel
theorem dX10_roll_6 : decode cX10_roll 6 = .ok (.aload_n 0, 1) := by decide +kernel
theorem dX10_roll_7 : decode cX10_roll 7 = .ok (.iload_n 2, 1) := by decide +kernel
theorem dX10_roll_8 : decode cX10_roll 8 = .ok (.ifCond .ne 7, 3) := by decide +kernel
theorem dX10_roll_11 : decode cX10_roll 11 = .ok (.iconst 1, 1) := by decide +kernel
theorem dX10_roll_12 : decode cX10_roll 12 = .ok (.goto 19, 3) := by decide +kernel
theorem dX10_roll_15 : decode cX10_roll 15 = .ok (.aload_n 0, 1) := by decide +kernel
theorem dX10_roll_16 : decode cX10_roll 16 = .ok (.getfield 13, 3) := by decide +kernel
theorem dX10_roll_19 : decode cX10_roll 19 = .ok (.iload_n 1, 1) := by decide +kernel
theorem dX10_roll_20 : decode cX10_roll 20 = .ok (.iaload, 1) := by decide +kernel
theorem dX10_roll_21 : decode cX10_roll 21 = .ok (.bipush 100, 2) := by decide +kernel
theorem dX10_roll_23 : decode cX10_roll 23 = .ok (.if_icmp .ne 7, 3) := by decide +kernel
theorem dX10_roll_26 : decode cX10_roll 26 = .ok (.iconst 2, 1) := by decide +kernel
theorem dX10_roll_27 : decode cX10_roll 27 = .ok (.goto 4, 3) := by decide +kernel
theorem dX10_roll_30 : decode cX10_roll 30 = .ok (.iconst 0, 1) := by decide +kernel
theorem dX10_roll_31 : decode cX10_roll 31 = .ok (.invokevirtual 119, 3) := by decide +kernel
theorem dX10_roll_34 : decode cX10_roll 34 = .ok (.ifCond .ne 5, 3) := by decide +kernel
theorem dX10_roll_37 : decode cX10_roll 37 = .ok (.iconst 0, 1) := by decide +kernel
theorem dX10_roll_38 : decode cX10_roll 38 = .ok (.ireturn, 1) := by decide +kernel
theorem dX10_roll_39 : decode cX10_roll 39 = .ok (.aload_n 0, 1) := by decide +kernel
theorem dX10_roll_40 : decode cX10_roll 40 = .ok (.getfield 13, 3) := by decide +kernel
theorem dX10_roll_43 : decode cX10_roll 43 = .ok (.iload_n 1, 1) := by decide +kernel
theorem dX10_roll_44 : decode cX10_roll 44 = .ok (.dup2, 1) := by decide +kernel
theorem dX10_roll_45 : decode cX10_roll 45 = .ok (.iaload, 1) := by decide +kernel
theorem dX10_roll_46 : decode cX10_roll 46 = .ok (.iconst 1, 1) := by decide +kernel
theorem dX10_roll_47 : decode cX10_roll 47 = .ok (.iadd, 1) := by decide +kernel
theorem dX10_roll_48 : decode cX10_roll 48 = .ok (.iastore, 1) := by decide +kernel
theorem dX10_roll_49 : decode cX10_roll 49 = .ok (.aload_n 0, 1) := by decide +kernel
theorem dX10_roll_50 : decode cX10_roll 50 = .ok (.getfield 13, 3) := by decide +kernel
theorem dX10_roll_53 : decode cX10_roll 53 = .ok (.iload_n 1, 1) := by decide +kernel
theorem dX10_roll_54 : decode cX10_roll 54 = .ok (.iaload, 1) := by decide +kernel
theorem dX10_roll_55 : decode cX10_roll 55 = .ok (.ireturn, 1) := by decide +kernel
theorem dX10_publish_0 : decode cX10_publish 0 = .ok (.aload_n 0, 1) := by decide +kernel
theorem dX10_publish_1 : decode cX10_publish 1 = .ok (.aload_n 0, 1) := by decide +kernel
theorem dX10_publish_2 : decode cX10_publish 2 = .ok (.iload_n 1, 1) := by decide +kernel
theorem dX10_publish_3 : decode cX10_publish 3 = .ok (.invokevirtual 115, 3) := by decide +kernel
theorem dX10_publish_6 : decode cX10_publish 6 = .ok (.ifCond .ne 7, 3) := by decide +kernel
theorem dX10_publish_9 : decode cX10_publish 9 = .ok (.iconst 1, 1) := by decide +kernel
theorem dX10_publish_10 : decode cX10_publish 10 = .ok (.goto 18, 3) := by decide +kernel
theorem dX10_publish_13 : decode cX10_publish 13 = .ok (.iload_n 2, 1) := by decide +kernel
theorem dX10_publish_14 : decode cX10_publish 14 = .ok (.iconst 0, 1) := by decide +kernel
theorem dX10_publish_15 : decode cX10_publish 15 = .ok (.bipush 100, 2) := by decide +kernel
theorem dX10_publish_17 : decode cX10_publish 17 = .ok (.invokestatic 108, 3) := by decide +kernel
theorem dX10_publish_20 : decode cX10_publish 20 = .ok (.ifCond .ne 7, 3) := by decide +kernel
theorem dX10_publish_23 : decode cX10_publish 23 = .ok (.iconst 2, 1) := by decide +kernel
theorem dX10_publish_24 : decode cX10_publish 24 = .ok (.goto 4, 3) := by decide +kernel
theorem dX10_publish_27 : decode cX10_publish 27 = .ok (.iconst 0, 1) := by decide +kernel
theorem dX10_publish_28 : decode cX10_publish 28 = .ok (.invokevirtual 119, 3) := by decide +kernel
theorem dX10_publish_31 : decode cX10_publish 31 = .ok (.ifCond .ne 5, 3) := by decide +kernel
theorem dX10_publish_34 : decode cX10_publish 34 = .ok (.iconst 0, 1) := by decide +kernel
theorem dX10_publish_35 : decode cX10_publish 35 = .ok (.ireturn, 1) := by decide +kernel
theorem dX10_publish_36 : decode cX10_publish 36 = .ok (.iconst 0, 1) := by decide +kernel
theorem dX10_publish_37 : decode cX10_publish 37 = .ok (.istore_n 3, 1) := by decide +kernel
theorem dX10_publish_38 : decode cX10_publish 38 = .ok (.iconst 0, 1) := by decide +kernel
theorem dX10_publish_39 : decode cX10_publish 39 = .ok (.istore 4, 2) := by decide +kernel
theorem dX10_publish_41 : decode cX10_publish 41 = .ok (.iload 4, 2) := by decide +kernel
theorem dX10_publish_43 : decode cX10_publish 43 = .ok (.aload_n 0, 1) := by decide +kernel
theorem dX10_publish_44 : decode cX10_publish 44 = .ok (.getfield 112, 3) := by decide +kernel
theorem dX10_publish_47 : decode cX10_publish 47 = .ok (.if_icmp .ge 81, 3) := by decide +kernel
theorem dX10_publish_50 : decode cX10_publish 50 = .ok (.aload_n 0, 1) := by decide +kernel
theorem dX10_publish_51 : decode cX10_publish 51 = .ok (.getfield 54, 3) := by decide +kernel
theorem dX10_publish_54 : decode cX10_publish 54 = .ok (.iload 4, 2) := by decide +kernel
theorem dX10_publish_56 : decode cX10_publish 56 = .ok (.aload_n 0, 1) := by decide +kernel
theorem dX10_publish_57 : decode cX10_publish 57 = .ok (.getfield 54, 3) := by decide +kernel
theorem dX10_publish_60 : decode cX10_publish 60 = .ok (.iload 4, 2) := by decide +kernel
theorem dX10_publish_62 : decode cX10_publish 62 = .ok (.baload, 1) := by decide +kernel
theorem dX10_publish_63 : decode cX10_publish 63 = .ok (.ifCond .ne 24, 3) := by decide +kernel
theorem dX10_publish_66 : decode cX10_publish 66 = .ok (.aload_n 0, 1) := by decide +kernel
theorem dX10_publish_67 : decode cX10_publish 67 = .ok (.getfield 50, 3) := by decide +kernel
theorem dX10_publish_70 : decode cX10_publish 70 = .ok (.iload 4, 2) := by decide +kernel
theorem dX10_publish_72 : decode cX10_publish 72 = .ok (.baload, 1) := by decide +kernel
theorem dX10_publish_73 : decode cX10_publish 73 = .ok (.ifCond .eq 18, 3) := by decide +kernel
theorem dX10_publish_76 : decode cX10_publish 76 = .ok (.aload_n 0, 1) := by decide +kernel
theorem dX10_publish_77 : decode cX10_publish 77 = .ok (.getfield 29, 3) := by decide +kernel
theorem dX10_publish_80 : decode cX10_publish 80 = .ok (.iload 4, 2) := by decide +kernel
theorem dX10_publish_82 : decode cX10_publish 82 = .ok (.iaload, 1) := by decide +kernel
theorem dX10_publish_83 : decode cX10_publish 83 = .ok (.iload_n 1, 1) := by decide +kernel
theorem dX10_publish_84 : decode cX10_publish 84 = .ok (.if_icmp .ne 7, 3) := by decide +kernel
theorem dX10_publish_87 : decode cX10_publish 87 = .ok (.iconst 1, 1) := by decide +kernel
theorem dX10_publish_88 : decode cX10_publish 88 = .ok (.goto 4, 3) := by decide +kernel
theorem dX10_publish_91 : decode cX10_publish 91 = .ok (.iconst 0, 1) := by decide +kernel
theorem dX10_publish_92 : decode cX10_publish 92 = .ok (.bastore, 1) := by decide +kernel
theorem dX10_publish_93 : decode cX10_publish 93 = .ok (.iload_n 3, 1) := by decide +kernel
theorem dX10_publish_94 : decode cX10_publish 94 = .ok (.aload_n 0, 1) := by decide +kernel
theorem dX10_publish_95 : decode cX10_publish 95 = .ok (.getfield 54, 3) := by decide +kernel
theorem dX10_publish_98 : decode cX10_publish 98 = .ok (.iload 4, 2) := by decide +kernel
theorem dX10_publish_100 : decode cX10_publish 100 = .ok (.baload, 1) := by decide +kernel
theorem dX10_publish_101 : decode cX10_publish 101 = .ok (.ifCond .eq 18, 3) := by decide +kernel
theorem dX10_publish_104 : decode cX10_publish 104 = .ok (.aload_n 0, 1) := by decide +kernel
theorem dX10_publish_105 : decode cX10_publish 105 = .ok (.getfield 29, 3) := by decide +kernel
theorem dX10_publish_108 : decode cX10_publish 108 = .ok (.iload 4, 2) := by decide +kernel
theorem dX10_publish_110 : decode cX10_publish 110 = .ok (.iaload, 1) := by decide +kernel
theorem dX10_publish_111 : decode cX10_publish 111 = .ok (.iload_n 1, 1) := by decide +kernel
theorem dX10_publish_112 : decode cX10_publish 112 = .ok (.if_icmp .ne 7, 3) := by decide +kernel
theorem dX10_publish_115 : decode cX10_publish 115 = .ok (.iconst 1, 1) := by decide +kernel
theorem dX10_publish_116 : decode cX10_publish 116 = .ok (.goto 4, 3) := by decide +kernel
theorem dX10_publish_119 : decode cX10_publish 119 = .ok (.iconst 0, 1) := by decide +kernel
theorem dX10_publish_120 : decode cX10_publish 120 = .ok (.iadd, 1) := by decide +kernel
theorem dX10_publish_121 : decode cX10_publish 121 = .ok (.istore_n 3, 1) := by decide +kernel
theorem dX10_publish_122 : decode cX10_publish 122 = .ok (.iinc 4 1, 3) := by decide +kernel
theorem dX10_publish_125 : decode cX10_publish 125 = .ok (.goto (-84), 3) := by decide +kernel
theorem dX10_publish_128 : decode cX10_publish 128 = .ok (.aload_n 0, 1) := by decide +kernel
theorem dX10_publish_129 : decode cX10_publish 129 = .ok (.getfield 16, 3) := by decide +kernel
theorem dX10_publish_132 : decode cX10_publish 132 = .ok (.iload_n 1, 1) := by decide +kernel
theorem dX10_publish_133 : decode cX10_publish 133 = .ok (.aload_n 0, 1) := by decide +kernel
theorem dX10_publish_134 : decode cX10_publish 134 = .ok (.getfield 122, 3) := by decide +kernel
theorem dX10_publish_137 : decode cX10_publish 137 = .ok (.iload_n 2, 1) := by decide +kernel
theorem dX10_publish_138 : decode cX10_publish 138 = .ok (.iadd, 1) := by decide +kernel
theorem dX10_publish_139 : decode cX10_publish 139 = .ok (.iastore, 1) := by decide +kernel
theorem dX10_publish_140 : decode cX10_publish 140 = .ok (.iload_n 3, 1) := by decide +kernel
theorem dX10_publish_141 : decode cX10_publish 141 = .ok (.ireturn, 1) := by decide +kernel
theorem dX10_pass_0 : decode cX10_pass 0 = .ok (.aload_n 0, 1) := by decide +kernel
theorem dX10_pass_1 : decode cX10_pass 1 = .ok (.iload_n 1, 1) := by decide +kernel
theorem dX10_pass_2 : decode cX10_pass 2 = .ok (.iconst 1, 1) := by decide +kernel
theorem dX10_pass_3 : decode cX10_pass 3 = .ok (.bipush 100, 2) := by decide +kernel
theorem dX10_pass_5 : decode cX10_pass 5 = .ok (.invokestatic 108, 3) := by decide +kernel
theorem dX10_pass_8 : decode cX10_pass 8 = .ok (.ifCond .ne 7, 3) := by decide +kernel
theorem dX10_pass_11 : decode cX10_pass 11 = .ok (.iconst 1, 1) := by decide +kernel
theorem dX10_pass_12 : decode cX10_pass 12 = .ok (.goto 20, 3) := by decide +kernel
theorem dX10_pass_15 : decode cX10_pass 15 = .ok (.aload_n 0, 1) := by decide +kernel
theorem dX10_pass_16 : decode cX10_pass 16 = .ok (.getfield 122, 3) := by decide +kernel
theorem dX10_pass_19 : decode cX10_pass 19 = .ok (.iload_n 1, 1) := by decide +kernel
theorem dX10_pass_20 : decode cX10_pass 20 = .ok (.iadd, 1) := by decide +kernel
theorem dX10_pass_21 : decode cX10_pass 21 = .ok (.sipush 10000, 3) := by decide +kernel
theorem dX10_pass_24 : decode cX10_pass 24 = .ok (.if_icmp .le 7, 3) := by decide +kernel
theorem dX10_pass_27 : decode cX10_pass 27 = .ok (.iconst 2, 1) := by decide +kernel
theorem dX10_pass_28 : decode cX10_pass 28 = .ok (.goto 4, 3) := by decide +kernel
theorem dX10_pass_31 : decode cX10_pass 31 = .ok (.iconst 0, 1) := by decide +kernel
theorem dX10_pass_32 : decode cX10_pass 32 = .ok (.invokevirtual 119, 3) := by decide +kernel
theorem dX10_pass_35 : decode cX10_pass 35 = .ok (.ifCond .ne 5, 3) := by decide +kernel
theorem dX10_pass_38 : decode cX10_pass 38 = .ok (.iconst 0, 1) := by decide +kernel
theorem dX10_pass_39 : decode cX10_pass 39 = .ok (.ireturn, 1) := by decide +kernel
theorem dX10_pass_40 : decode cX10_pass 40 = .ok (.aload_n 0, 1) := by decide +kernel
theorem dX10_pass_41 : decode cX10_pass 41 = .ok (.dup, 1) := by decide +kernel
theorem dX10_pass_42 : decode cX10_pass 42 = .ok (.getfield 122, 3) := by decide +kernel
theorem dX10_pass_45 : decode cX10_pass 45 = .ok (.iload_n 1, 1) := by decide +kernel
theorem dX10_pass_46 : decode cX10_pass 46 = .ok (.iadd, 1) := by decide +kernel
theorem dX10_pass_47 : decode cX10_pass 47 = .ok (.putfield 122, 3) := by decide +kernel
theorem dX10_pass_50 : decode cX10_pass 50 = .ok (.aload_n 0, 1) := by decide +kernel
theorem dX10_pass_51 : decode cX10_pass 51 = .ok (.getfield 122, 3) := by decide +kernel
theorem dX10_pass_54 : decode cX10_pass 54 = .ok (.ireturn, 1) := by decide +kernel
theorem dX10_mixes_0 : decode cX10_mixes 0 = .ok (.sipush 263, 3) := by decide +kernel
theorem dX10_mixes_3 : decode cX10_mixes 3 = .ok (.iload_n 0, 1) := by decide +kernel
theorem dX10_mixes_4 : decode cX10_mixes 4 = .ok (.imul, 1) := by decide +kernel
theorem dX10_mixes_5 : decode cX10_mixes 5 = .ok (.iload_n 1, 1) := by decide +kernel
theorem dX10_mixes_6 : decode cX10_mixes 6 = .ok (.iadd, 1) := by decide +kernel
theorem dX10_mixes_7 : decode cX10_mixes 7 = .ok (.iconst 1, 1) := by decide +kernel
theorem dX10_mixes_8 : decode cX10_mixes 8 = .ok (.iadd, 1) := by decide +kernel
theorem dX10_mixes_9 : decode cX10_mixes 9 = .ok (.ldc 128, 2) := by decide +kernel
theorem dX10_mixes_11 : decode cX10_mixes 11 = .ok (.irem, 1) := by decide +kernel
theorem dX10_mixes_12 : decode cX10_mixes 12 = .ok (.ireturn, 1) := by decide +kernel
theorem dX10_signs_0 : decode cX10_signs 0 = .ok (.iconst 0, 1) := by decide +kernel
theorem dX10_signs_1 : decode cX10_signs 1 = .ok (.aload_n 0, 1) := by decide +kernel
theorem dX10_signs_2 : decode cX10_signs 2 = .ok (.getfield 26, 3) := by decide +kernel
theorem dX10_signs_5 : decode cX10_signs 5 = .ok (.iload_n 1, 1) := by decide +kernel
theorem dX10_signs_6 : decode cX10_signs 6 = .ok (.iaload, 1) := by decide +kernel
theorem dX10_signs_7 : decode cX10_signs 7 = .ok (.invokestatic 129, 3) := by decide +kernel
theorem dX10_signs_10 : decode cX10_signs 10 = .ok (.aload_n 0, 1) := by decide +kernel
theorem dX10_signs_11 : decode cX10_signs 11 = .ok (.getfield 29, 3) := by decide +kernel
theorem dX10_signs_14 : decode cX10_signs 14 = .ok (.iload_n 1, 1) := by decide +kernel
theorem dX10_signs_15 : decode cX10_signs 15 = .ok (.iaload, 1) := by decide +kernel
theorem dX10_signs_16 : decode cX10_signs 16 = .ok (.invokestatic 129, 3) := by decide +kernel
theorem dX10_signs_19 : decode cX10_signs 19 = .ok (.aload_n 0, 1) := by decide +kernel
theorem dX10_signs_20 : decode cX10_signs 20 = .ok (.getfield 32, 3) := by decide +kernel
theorem dX10_signs_23 : decode cX10_signs 23 = .ok (.iload_n 1, 1) := by decide +kernel
theorem dX10_signs_24 : decode cX10_signs 24 = .ok (.iaload, 1) := by decide +kernel
theorem dX10_signs_25 : decode cX10_signs 25 = .ok (.invokestatic 129, 3) := by decide +kernel
theorem dX10_signs_28 : decode cX10_signs 28 = .ok (.istore_n 2, 1) := by decide +kernel
theorem dX10_signs_29 : decode cX10_signs 29 = .ok (.iload_n 2, 1) := by decide +kernel
theorem dX10_signs_30 : decode cX10_signs 30 = .ok (.aload_n 0, 1) := by decide +kernel
theorem dX10_signs_31 : decode cX10_signs 31 = .ok (.getfield 35, 3) := by decide +kernel
theorem dX10_signs_34 : decode cX10_signs 34 = .ok (.iload_n 1, 1) := by decide +kernel
theorem dX10_signs_35 : decode cX10_signs 35 = .ok (.iaload, 1) := by decide +kernel
theorem dX10_signs_36 : decode cX10_signs 36 = .ok (.invokestatic 129, 3) := by decide +kernel
theorem dX10_signs_39 : decode cX10_signs 39 = .ok (.aload_n 0, 1) := by decide +kernel
theorem dX10_signs_40 : decode cX10_signs 40 = .ok (.getfield 38, 3) := by decide +kernel
theorem dX10_signs_43 : decode cX10_signs 43 = .ok (.iload_n 1, 1) := by decide +kernel
theorem dX10_signs_44 : decode cX10_signs 44 = .ok (.iaload, 1) := by decide +kernel
theorem dX10_signs_45 : decode cX10_signs 45 = .ok (.invokestatic 129, 3) := by decide +kernel
theorem dX10_signs_48 : decode cX10_signs 48 = .ok (.aload_n 0, 1) := by decide +kernel
theorem dX10_signs_49 : decode cX10_signs 49 = .ok (.getfield 41, 3) := by decide +kernel
theorem dX10_signs_52 : decode cX10_signs 52 = .ok (.iload_n 1, 1) := by decide +kernel
theorem dX10_signs_53 : decode cX10_signs 53 = .ok (.iaload, 1) := by decide +kernel
theorem dX10_signs_54 : decode cX10_signs 54 = .ok (.invokestatic 129, 3) := by decide +kernel
theorem dX10_signs_57 : decode cX10_signs 57 = .ok (.aload_n 0, 1) := by decide +kernel
theorem dX10_signs_58 : decode cX10_signs 58 = .ok (.getfield 44, 3) := by decide +kernel
theorem dX10_signs_61 : decode cX10_signs 61 = .ok (.iload_n 1, 1) := by decide +kernel
theorem dX10_signs_62 : decode cX10_signs 62 = .ok (.iaload, 1) := by decide +kernel
theorem dX10_signs_63 : decode cX10_signs 63 = .ok (.invokestatic 129, 3) := by decide +kernel
theorem dX10_signs_66 : decode cX10_signs 66 = .ok (.istore_n 2, 1) := by decide +kernel
theorem dX10_signs_67 : decode cX10_signs 67 = .ok (.bipush 31, 2) := by decide +kernel
theorem dX10_signs_69 : decode cX10_signs 69 = .ok (.iload_n 2, 1) := by decide +kernel
theorem dX10_signs_70 : decode cX10_signs 70 = .ok (.imul, 1) := by decide +kernel
theorem dX10_signs_71 : decode cX10_signs 71 = .ok (.sipush 7919, 3) := by decide +kernel
theorem dX10_signs_74 : decode cX10_signs 74 = .ok (.bipush 101, 2) := by decide +kernel
theorem dX10_signs_76 : decode cX10_signs 76 = .ok (.aload_n 0, 1) := by decide +kernel
theorem dX10_signs_77 : decode cX10_signs 77 = .ok (.getfield 29, 3) := by decide +kernel
theorem dX10_signs_80 : decode cX10_signs 80 = .ok (.iload_n 1, 1) := by decide +kernel
theorem dX10_signs_81 : decode cX10_signs 81 = .ok (.iaload, 1) := by decide +kernel
theorem dX10_signs_82 : decode cX10_signs 82 = .ok (.imul, 1) := by decide +kernel
theorem dX10_signs_83 : decode cX10_signs 83 = .ok (.bipush 17, 2) := by decide +kernel
theorem dX10_signs_85 : decode cX10_signs 85 = .ok (.aload_n 0, 1) := by decide +kernel
theorem dX10_signs_86 : decode cX10_signs 86 = .ok (.getfield 13, 3) := by decide +kernel
theorem dX10_signs_89 : decode cX10_signs 89 = .ok (.aload_n 0, 1) := by decide +kernel
theorem dX10_signs_90 : decode cX10_signs 90 = .ok (.getfield 29, 3) := by decide +kernel
theorem dX10_signs_93 : decode cX10_signs 93 = .ok (.iload_n 1, 1) := by decide +kernel
theorem dX10_signs_94 : decode cX10_signs 94 = .ok (.iaload, 1) := by decide +kernel
theorem dX10_signs_95 : decode cX10_signs 95 = .ok (.iaload, 1) := by decide +kernel
theorem dX10_signs_96 : decode cX10_signs 96 = .ok (.imul, 1) := by decide +kernel
theorem dX10_signs_97 : decode cX10_signs 97 = .ok (.iadd, 1) := by decide +kernel
theorem dX10_signs_98 : decode cX10_signs 98 = .ok (.imul, 1) := by decide +kernel
theorem dX10_signs_99 : decode cX10_signs 99 = .ok (.iadd, 1) := by decide +kernel
theorem dX10_signs_100 : decode cX10_signs 100 = .ok (.ldc 128, 2) := by decide +kernel
theorem dX10_signs_102 : decode cX10_signs 102 = .ok (.irem, 1) := by decide +kernel
theorem dX10_signs_103 : decode cX10_signs 103 = .ok (.ireturn, 1) := by decide +kernel
theorem dX10_makes_0 : decode cX10_makes 0 = .ok (.aload_n 0, 1) := by decide +kernel
theorem dX10_makes_1 : decode cX10_makes 1 = .ok (.getfield 26, 3) := by decide +kernel
theorem dX10_makes_4 : decode cX10_makes 4 = .ok (.aload_n 0, 1) := by decide +kernel
theorem dX10_makes_5 : decode cX10_makes 5 = .ok (.getfield 112, 3) := by decide +kernel
theorem dX10_makes_8 : decode cX10_makes 8 = .ok (.iload_n 1, 1) := by decide +kernel
theorem dX10_makes_9 : decode cX10_makes 9 = .ok (.iastore, 1) := by decide +kernel
theorem dX10_makes_10 : decode cX10_makes 10 = .ok (.aload_n 0, 1) := by decide +kernel
theorem dX10_makes_11 : decode cX10_makes 11 = .ok (.getfield 29, 3) := by decide +kernel
theorem dX10_makes_14 : decode cX10_makes 14 = .ok (.aload_n 0, 1) := by decide +kernel
theorem dX10_makes_15 : decode cX10_makes 15 = .ok (.getfield 112, 3) := by decide +kernel
theorem dX10_makes_18 : decode cX10_makes 18 = .ok (.iload_n 2, 1) := by decide +kernel
theorem dX10_makes_19 : decode cX10_makes 19 = .ok (.iastore, 1) := by decide +kernel
theorem dX10_makes_20 : decode cX10_makes 20 = .ok (.aload_n 0, 1) := by decide +kernel
theorem dX10_makes_21 : decode cX10_makes 21 = .ok (.getfield 32, 3) := by decide +kernel
theorem dX10_makes_24 : decode cX10_makes 24 = .ok (.aload_n 0, 1) := by decide +kernel
theorem dX10_makes_25 : decode cX10_makes 25 = .ok (.getfield 112, 3) := by decide +kernel
theorem dX10_makes_28 : decode cX10_makes 28 = .ok (.iload_n 3, 1) := by decide +kernel
theorem dX10_makes_29 : decode cX10_makes 29 = .ok (.iastore, 1) := by decide +kernel
theorem dX10_makes_30 : decode cX10_makes 30 = .ok (.aload_n 0, 1) := by decide +kernel
theorem dX10_makes_31 : decode cX10_makes 31 = .ok (.getfield 35, 3) := by decide +kernel
theorem dX10_makes_34 : decode cX10_makes 34 = .ok (.aload_n 0, 1) := by decide +kernel
theorem dX10_makes_35 : decode cX10_makes 35 = .ok (.getfield 112, 3) := by decide +kernel
theorem dX10_makes_38 : decode cX10_makes 38 = .ok (.iload 4, 2) := by decide +kernel
theorem dX10_makes_40 : decode cX10_makes 40 = .ok (.iastore, 1) := by decide +kernel
theorem dX10_makes_41 : decode cX10_makes 41 = .ok (.aload_n 0, 1) := by decide +kernel
theorem dX10_makes_42 : decode cX10_makes 42 = .ok (.getfield 38, 3) := by decide +kernel
theorem dX10_makes_45 : decode cX10_makes 45 = .ok (.aload_n 0, 1) := by decide +kernel
theorem dX10_makes_46 : decode cX10_makes 46 = .ok (.getfield 112, 3) := by decide +kernel
theorem dX10_makes_49 : decode cX10_makes 49 = .ok (.iload 5, 2) := by decide +kernel
theorem dX10_makes_51 : decode cX10_makes 51 = .ok (.iastore, 1) := by decide +kernel
theorem dX10_makes_52 : decode cX10_makes 52 = .ok (.aload_n 0, 1) := by decide +kernel
theorem dX10_makes_53 : decode cX10_makes 53 = .ok (.getfield 41, 3) := by decide +kernel
theorem dX10_makes_56 : decode cX10_makes 56 = .ok (.aload_n 0, 1) := by decide +kernel
theorem dX10_makes_57 : decode cX10_makes 57 = .ok (.getfield 112, 3) := by decide +kernel
theorem dX10_makes_60 : decode cX10_makes 60 = .ok (.iload 6, 2) := by decide +kernel
theorem dX10_makes_62 : decode cX10_makes 62 = .ok (.iastore, 1) := by decide +kernel
theorem dX10_makes_63 : decode cX10_makes 63 = .ok (.aload_n 0, 1) := by decide +kernel
theorem dX10_makes_64 : decode cX10_makes 64 = .ok (.getfield 44, 3) := by decide +kernel
theorem dX10_makes_67 : decode cX10_makes 67 = .ok (.aload_n 0, 1) := by decide +kernel
theorem dX10_makes_68 : decode cX10_makes 68 = .ok (.getfield 112, 3) := by decide +kernel
theorem dX10_makes_71 : decode cX10_makes 71 = .ok (.aload_n 0, 1) := by decide +kernel
theorem dX10_makes_72 : decode cX10_makes 72 = .ok (.getfield 122, 3) := by decide +kernel
theorem dX10_makes_75 : decode cX10_makes 75 = .ok (.iload 7, 2) := by decide +kernel
theorem dX10_makes_77 : decode cX10_makes 77 = .ok (.iadd, 1) := by decide +kernel
theorem dX10_makes_78 : decode cX10_makes 78 = .ok (.iastore, 1) := by decide +kernel
theorem dX10_makes_79 : decode cX10_makes 79 = .ok (.aload_n 0, 1) := by decide +kernel
theorem dX10_makes_80 : decode cX10_makes 80 = .ok (.getfield 47, 3) := by decide +kernel
theorem dX10_makes_83 : decode cX10_makes 83 = .ok (.aload_n 0, 1) := by decide +kernel
theorem dX10_makes_84 : decode cX10_makes 84 = .ok (.getfield 112, 3) := by decide +kernel
theorem dX10_makes_87 : decode cX10_makes 87 = .ok (.aload_n 0, 1) := by decide +kernel
theorem dX10_makes_88 : decode cX10_makes 88 = .ok (.aload_n 0, 1) := by decide +kernel
theorem dX10_makes_89 : decode cX10_makes 89 = .ok (.getfield 112, 3) := by decide +kernel
theorem dX10_makes_92 : decode cX10_makes 92 = .ok (.invokevirtual 133, 3) := by decide +kernel
theorem dX10_makes_95 : decode cX10_makes 95 = .ok (.iastore, 1) := by decide +kernel
theorem dX10_makes_96 : decode cX10_makes 96 = .ok (.aload_n 0, 1) := by decide +kernel
theorem dX10_makes_97 : decode cX10_makes 97 = .ok (.dup, 1) := by decide +kernel
theorem dX10_makes_98 : decode cX10_makes 98 = .ok (.getfield 112, 3) := by decide +kernel
theorem dX10_makes_101 : decode cX10_makes 101 = .ok (.iconst 1, 1) := by decide +kernel
theorem dX10_makes_102 : decode cX10_makes 102 = .ok (.iadd, 1) := by decide +kernel
theorem dX10_makes_103 : decode cX10_makes 103 = .ok (.putfield 112, 3) := by decide +kernel
theorem dX10_makes_106 : decode cX10_makes 106 = .ok (.aload_n 0, 1) := by decide +kernel
theorem dX10_makes_107 : decode cX10_makes 107 = .ok (.getfield 112, 3) := by decide +kernel
theorem dX10_makes_110 : decode cX10_makes 110 = .ok (.iconst 1, 1) := by decide +kernel
theorem dX10_makes_111 : decode cX10_makes 111 = .ok (.isub, 1) := by decide +kernel
theorem dX10_makes_112 : decode cX10_makes 112 = .ok (.ireturn, 1) := by decide +kernel
theorem dX10_areDays_0 : decode cX10_areDays 0 = .ok (.iload_n 0, 1) := by decide +kernel
theorem dX10_areDays_1 : decode cX10_areDays 1 = .ok (.iconst 0, 1) := by decide +kernel
theorem dX10_areDays_2 : decode cX10_areDays 2 = .ok (.sipush 1000, 3) := by decide +kernel
theorem dX10_areDays_5 : decode cX10_areDays 5 = .ok (.invokestatic 108, 3) := by decide +kernel
theorem dX10_areDays_8 : decode cX10_areDays 8 = .ok (.ireturn, 1) := by decide +kernel
theorem dX10_grant_0 : decode cX10_grant 0 = .ok (.aload_n 0, 1) := by decide +kernel
theorem dX10_grant_1 : decode cX10_grant 1 = .ok (.iload_n 1, 1) := by decide +kernel
theorem dX10_grant_2 : decode cX10_grant 2 = .ok (.invokevirtual 115, 3) := by decide +kernel
theorem dX10_grant_5 : decode cX10_grant 5 = .ok (.ifCond .eq 15, 3) := by decide +kernel
theorem dX10_grant_8 : decode cX10_grant 8 = .ok (.aload_n 0, 1) := by decide +kernel
theorem dX10_grant_9 : decode cX10_grant 9 = .ok (.iload_n 2, 1) := by decide +kernel
theorem dX10_grant_10 : decode cX10_grant 10 = .ok (.invokevirtual 115, 3) := by decide +kernel
theorem dX10_grant_13 : decode cX10_grant 13 = .ok (.ifCond .eq 7, 3) := by decide +kernel
theorem dX10_grant_16 : decode cX10_grant 16 = .ok (.iconst 1, 1) := by decide +kernel
theorem dX10_grant_17 : decode cX10_grant 17 = .ok (.goto 4, 3) := by decide +kernel
theorem dX10_grant_20 : decode cX10_grant 20 = .ok (.iconst 0, 1) := by decide +kernel
theorem dX10_grant_21 : decode cX10_grant 21 = .ok (.istore 6, 2) := by decide +kernel
theorem dX10_grant_23 : decode cX10_grant 23 = .ok (.iload_n 3, 1) := by decide +kernel
theorem dX10_grant_24 : decode cX10_grant 24 = .ok (.iload 4, 2) := by decide +kernel
theorem dX10_grant_26 : decode cX10_grant 26 = .ok (.invokestatic 137, 3) := by decide +kernel
theorem dX10_grant_29 : decode cX10_grant 29 = .ok (.ifCond .eq 15, 3) := by decide +kernel
theorem dX10_grant_32 : decode cX10_grant 32 = .ok (.iload 5, 2) := by decide +kernel
theorem dX10_grant_34 : decode cX10_grant 34 = .ok (.invokestatic 141, 3) := by decide +kernel
theorem dX10_grant_37 : decode cX10_grant 37 = .ok (.ifCond .eq 7, 3) := by decide +kernel
theorem dX10_grant_40 : decode cX10_grant 40 = .ok (.iconst 1, 1) := by decide +kernel
theorem dX10_grant_41 : decode cX10_grant 41 = .ok (.goto 4, 3) := by decide +kernel
theorem dX10_grant_44 : decode cX10_grant 44 = .ok (.iconst 0, 1) := by decide +kernel
theorem dX10_grant_45 : decode cX10_grant 45 = .ok (.istore 7, 2) := by decide +kernel
theorem dX10_grant_47 : decode cX10_grant 47 = .ok (.aload_n 0, 1) := by decide +kernel
theorem dX10_grant_48 : decode cX10_grant 48 = .ok (.iload 6, 2) := by decide +kernel
theorem dX10_grant_50 : decode cX10_grant 50 = .ok (.ifCond .ne 7, 3) := by decide +kernel
theorem dX10_grant_53 : decode cX10_grant 53 = .ok (.iconst 1, 1) := by decide +kernel
theorem dX10_grant_54 : decode cX10_grant 54 = .ok (.goto 26, 3) := by decide +kernel
theorem dX10_grant_57 : decode cX10_grant 57 = .ok (.iload 7, 2) := by decide +kernel
theorem dX10_grant_59 : decode cX10_grant 59 = .ok (.ifCond .ne 7, 3) := by decide +kernel
theorem dX10_grant_62 : decode cX10_grant 62 = .ok (.iconst 2, 1) := by decide +kernel
theorem dX10_grant_63 : decode cX10_grant 63 = .ok (.goto 17, 3) := by decide +kernel
theorem dX10_grant_66 : decode cX10_grant 66 = .ok (.aload_n 0, 1) := by decide +kernel
theorem dX10_grant_67 : decode cX10_grant 67 = .ok (.getfield 112, 3) := by decide +kernel
theorem dX10_grant_70 : decode cX10_grant 70 = .ok (.bipush 50, 2) := by decide +kernel
theorem dX10_grant_72 : decode cX10_grant 72 = .ok (.if_icmp .ne 7, 3) := by decide +kernel
theorem dX10_grant_75 : decode cX10_grant 75 = .ok (.iconst 3, 1) := by decide +kernel
theorem dX10_grant_76 : decode cX10_grant 76 = .ok (.goto 4, 3) := by decide +kernel
theorem dX10_grant_79 : decode cX10_grant 79 = .ok (.iconst 0, 1) := by decide +kernel
theorem dX10_grant_80 : decode cX10_grant 80 = .ok (.invokevirtual 119, 3) := by decide +kernel
theorem dX10_grant_83 : decode cX10_grant 83 = .ok (.ifCond .eq 19, 3) := by decide +kernel
theorem dX10_grant_86 : decode cX10_grant 86 = .ok (.aload_n 0, 1) := by decide +kernel
theorem dX10_grant_87 : decode cX10_grant 87 = .ok (.iconst 0, 1) := by decide +kernel
theorem dX10_grant_88 : decode cX10_grant 88 = .ok (.iload_n 1, 1) := by decide +kernel
theorem dX10_grant_89 : decode cX10_grant 89 = .ok (.iload_n 2, 1) := by decide +kernel
theorem dX10_grant_90 : decode cX10_grant 90 = .ok (.iload_n 3, 1) := by decide +kernel
theorem dX10_grant_91 : decode cX10_grant 91 = .ok (.iload 4, 2) := by decide +kernel
theorem dX10_grant_93 : decode cX10_grant 93 = .ok (.iconst 0, 1) := by decide +kernel
theorem dX10_grant_94 : decode cX10_grant 94 = .ok (.iload 5, 2) := by decide +kernel
theorem dX10_grant_96 : decode cX10_grant 96 = .ok (.invokevirtual 144, 3) := by decide +kernel
theorem dX10_grant_99 : decode cX10_grant 99 = .ok (.goto 4, 3) := by decide +kernel
theorem dX10_grant_102 : decode cX10_grant 102 = .ok (.iconst 0, 1) := by decide +kernel
theorem dX10_grant_103 : decode cX10_grant 103 = .ok (.ireturn, 1) := by decide +kernel
theorem dX10_origin_0 : decode cX10_origin 0 = .ok (.aload_n 0, 1) := by decide +kernel
theorem dX10_origin_1 : decode cX10_origin 1 = .ok (.iload_n 1, 1) := by decide +kernel
theorem dX10_origin_2 : decode cX10_origin 2 = .ok (.invokevirtual 115, 3) := by decide +kernel
theorem dX10_origin_5 : decode cX10_origin 5 = .ok (.ifCond .eq 14, 3) := by decide +kernel
theorem dX10_origin_8 : decode cX10_origin 8 = .ok (.iload_n 2, 1) := by decide +kernel
theorem dX10_origin_9 : decode cX10_origin 9 = .ok (.invokestatic 125, 3) := by decide +kernel
theorem dX10_origin_12 : decode cX10_origin 12 = .ok (.ifCond .eq 7, 3) := by decide +kernel
theorem dX10_origin_15 : decode cX10_origin 15 = .ok (.iconst 1, 1) := by decide +kernel
theorem dX10_origin_16 : decode cX10_origin 16 = .ok (.goto 4, 3) := by decide +kernel
theorem dX10_origin_19 : decode cX10_origin 19 = .ok (.iconst 0, 1) := by decide +kernel
theorem dX10_origin_20 : decode cX10_origin 20 = .ok (.istore 7, 2) := by decide +kernel
theorem dX10_origin_22 : decode cX10_origin 22 = .ok (.iload_n 3, 1) := by decide +kernel
theorem dX10_origin_23 : decode cX10_origin 23 = .ok (.iload 4, 2) := by decide +kernel
theorem dX10_origin_25 : decode cX10_origin 25 = .ok (.invokestatic 137, 3) := by decide +kernel
theorem dX10_origin_28 : decode cX10_origin 28 = .ok (.ifCond .eq 26, 3) := by decide +kernel
theorem dX10_origin_31 : decode cX10_origin 31 = .ok (.iload 5, 2) := by decide +kernel
theorem dX10_origin_33 : decode cX10_origin 33 = .ok (.iconst 0, 1) := by decide +kernel
theorem dX10_origin_34 : decode cX10_origin 34 = .ok (.bipush 8, 2) := by decide +kernel
theorem dX10_origin_36 : decode cX10_origin 36 = .ok (.invokestatic 108, 3) := by decide +kernel
theorem dX10_origin_39 : decode cX10_origin 39 = .ok (.ifCond .eq 15, 3) := by decide +kernel
theorem dX10_origin_42 : decode cX10_origin 42 = .ok (.iload 6, 2) := by decide +kernel
theorem dX10_origin_44 : decode cX10_origin 44 = .ok (.invokestatic 141, 3) := by decide +kernel
theorem dX10_origin_47 : decode cX10_origin 47 = .ok (.ifCond .eq 7, 3) := by decide +kernel
theorem dX10_origin_50 : decode cX10_origin 50 = .ok (.iconst 1, 1) := by decide +kernel
theorem dX10_origin_51 : decode cX10_origin 51 = .ok (.goto 4, 3) := by decide +kernel
theorem dX10_origin_54 : decode cX10_origin 54 = .ok (.iconst 0, 1) := by decide +kernel
theorem dX10_origin_55 : decode cX10_origin 55 = .ok (.istore 8, 2) := by decide +kernel
theorem dX10_origin_57 : decode cX10_origin 57 = .ok (.aload_n 0, 1) := by decide +kernel
theorem dX10_origin_58 : decode cX10_origin 58 = .ok (.iload 7, 2) := by decide +kernel
theorem dX10_origin_60 : decode cX10_origin 60 = .ok (.ifCond .ne 7, 3) := by decide +kernel
theorem dX10_origin_63 : decode cX10_origin 63 = .ok (.iconst 1, 1) := by decide +kernel
theorem dX10_origin_64 : decode cX10_origin 64 = .ok (.goto 26, 3) := by decide +kernel
theorem dX10_origin_67 : decode cX10_origin 67 = .ok (.iload 8, 2) := by decide +kernel
theorem dX10_origin_69 : decode cX10_origin 69 = .ok (.ifCond .ne 7, 3) := by decide +kernel
theorem dX10_origin_72 : decode cX10_origin 72 = .ok (.iconst 2, 1) := by decide +kernel
theorem dX10_origin_73 : decode cX10_origin 73 = .ok (.goto 17, 3) := by decide +kernel
theorem dX10_origin_76 : decode cX10_origin 76 = .ok (.aload_n 0, 1) := by decide +kernel
theorem dX10_origin_77 : decode cX10_origin 77 = .ok (.getfield 112, 3) := by decide +kernel
theorem dX10_origin_80 : decode cX10_origin 80 = .ok (.bipush 50, 2) := by decide +kernel
theorem dX10_origin_82 : decode cX10_origin 82 = .ok (.if_icmp .ne 7, 3) := by decide +kernel
theorem dX10_origin_85 : decode cX10_origin 85 = .ok (.iconst 3, 1) := by decide +kernel
theorem dX10_origin_86 : decode cX10_origin 86 = .ok (.goto 4, 3) := by decide +kernel
theorem dX10_origin_89 : decode cX10_origin 89 = .ok (.iconst 0, 1) := by decide +kernel
theorem dX10_origin_90 : decode cX10_origin 90 = .ok (.invokevirtual 119, 3) := by decide +kernel
theorem dX10_origin_93 : decode cX10_origin 93 = .ok (.ifCond .eq 20, 3) := by decide +kernel
theorem dX10_origin_96 : decode cX10_origin 96 = .ok (.aload_n 0, 1) := by decide +kernel
theorem dX10_origin_97 : decode cX10_origin 97 = .ok (.iconst 1, 1) := by decide +kernel
theorem dX10_origin_98 : decode cX10_origin 98 = .ok (.iload_n 1, 1) := by decide +kernel
theorem dX10_origin_99 : decode cX10_origin 99 = .ok (.iload_n 2, 1) := by decide +kernel
theorem dX10_origin_100 : decode cX10_origin 100 = .ok (.iload_n 3, 1) := by decide +kernel
theorem dX10_origin_101 : decode cX10_origin 101 = .ok (.iload 4, 2) := by decide +kernel
theorem dX10_origin_103 : decode cX10_origin 103 = .ok (.iload 5, 2) := by decide +kernel
theorem dX10_origin_105 : decode cX10_origin 105 = .ok (.iload 6, 2) := by decide +kernel
theorem dX10_origin_107 : decode cX10_origin 107 = .ok (.invokevirtual 144, 3) := by decide +kernel
theorem dX10_origin_110 : decode cX10_origin 110 = .ok (.goto 4, 3) := by decide +kernel
theorem dX10_origin_113 : decode cX10_origin 113 = .ok (.iconst 0, 1) := by decide +kernel
theorem dX10_origin_114 : decode cX10_origin 114 = .ok (.ireturn, 1) := by decide +kernel
theorem dX10_vouch_0 : decode cX10_vouch 0 = .ok (.aload_n 0, 1) := by decide +kernel
theorem dX10_vouch_1 : decode cX10_vouch 1 = .ok (.iload_n 1, 1) := by decide +kernel
theorem dX10_vouch_2 : decode cX10_vouch 2 = .ok (.invokevirtual 115, 3) := by decide +kernel
theorem dX10_vouch_5 : decode cX10_vouch 5 = .ok (.ifCond .eq 14, 3) := by decide +kernel
theorem dX10_vouch_8 : decode cX10_vouch 8 = .ok (.iload_n 2, 1) := by decide +kernel
theorem dX10_vouch_9 : decode cX10_vouch 9 = .ok (.invokestatic 125, 3) := by decide +kernel
theorem dX10_vouch_12 : decode cX10_vouch 12 = .ok (.ifCond .eq 7, 3) := by decide +kernel
theorem dX10_vouch_15 : decode cX10_vouch 15 = .ok (.iconst 1, 1) := by decide +kernel
theorem dX10_vouch_16 : decode cX10_vouch 16 = .ok (.goto 4, 3) := by decide +kernel
theorem dX10_vouch_19 : decode cX10_vouch 19 = .ok (.iconst 0, 1) := by decide +kernel
theorem dX10_vouch_20 : decode cX10_vouch 20 = .ok (.istore 5, 2) := by decide +kernel
theorem dX10_vouch_22 : decode cX10_vouch 22 = .ok (.iload_n 3, 1) := by decide +kernel
theorem dX10_vouch_23 : decode cX10_vouch 23 = .ok (.iconst 0, 1) := by decide +kernel
theorem dX10_vouch_24 : decode cX10_vouch 24 = .ok (.sipush 1023, 3) := by decide +kernel
theorem dX10_vouch_27 : decode cX10_vouch 27 = .ok (.invokestatic 108, 3) := by decide +kernel
theorem dX10_vouch_30 : decode cX10_vouch 30 = .ok (.ifCond .eq 15, 3) := by decide +kernel
theorem dX10_vouch_33 : decode cX10_vouch 33 = .ok (.iload 4, 2) := by decide +kernel
theorem dX10_vouch_35 : decode cX10_vouch 35 = .ok (.invokestatic 141, 3) := by decide +kernel
theorem dX10_vouch_38 : decode cX10_vouch 38 = .ok (.ifCond .eq 7, 3) := by decide +kernel
theorem dX10_vouch_41 : decode cX10_vouch 41 = .ok (.iconst 1, 1) := by decide +kernel
theorem dX10_vouch_42 : decode cX10_vouch 42 = .ok (.goto 4, 3) := by decide +kernel
theorem dX10_vouch_45 : decode cX10_vouch 45 = .ok (.iconst 0, 1) := by decide +kernel
theorem dX10_vouch_46 : decode cX10_vouch 46 = .ok (.istore 6, 2) := by decide +kernel
theorem dX10_vouch_48 : decode cX10_vouch 48 = .ok (.aload_n 0, 1) := by decide +kernel
theorem dX10_vouch_49 : decode cX10_vouch 49 = .ok (.iload 5, 2) := by decide +kernel
theorem dX10_vouch_51 : decode cX10_vouch 51 = .ok (.ifCond .ne 7, 3) := by decide +kernel
theorem dX10_vouch_54 : decode cX10_vouch 54 = .ok (.iconst 1, 1) := by decide +kernel
theorem dX10_vouch_55 : decode cX10_vouch 55 = .ok (.goto 26, 3) := by decide +kernel
theorem dX10_vouch_58 : decode cX10_vouch 58 = .ok (.iload 6, 2) := by decide +kernel
theorem dX10_vouch_60 : decode cX10_vouch 60 = .ok (.ifCond .ne 7, 3) := by decide +kernel
theorem dX10_vouch_63 : decode cX10_vouch 63 = .ok (.iconst 2, 1) := by decide +kernel
theorem dX10_vouch_64 : decode cX10_vouch 64 = .ok (.goto 17, 3) := by decide +kernel
theorem dX10_vouch_67 : decode cX10_vouch 67 = .ok (.aload_n 0, 1) := by decide +kernel
theorem dX10_vouch_68 : decode cX10_vouch 68 = .ok (.getfield 112, 3) := by decide +kernel
theorem dX10_vouch_71 : decode cX10_vouch 71 = .ok (.bipush 50, 2) := by decide +kernel
theorem dX10_vouch_73 : decode cX10_vouch 73 = .ok (.if_icmp .ne 7, 3) := by decide +kernel
theorem dX10_vouch_76 : decode cX10_vouch 76 = .ok (.iconst 3, 1) := by decide +kernel
theorem dX10_vouch_77 : decode cX10_vouch 77 = .ok (.goto 4, 3) := by decide +kernel
theorem dX10_vouch_80 : decode cX10_vouch 80 = .ok (.iconst 0, 1) := by decide +kernel
theorem dX10_vouch_81 : decode cX10_vouch 81 = .ok (.invokevirtual 119, 3) := by decide +kernel
theorem dX10_vouch_84 : decode cX10_vouch 84 = .ok (.ifCond .eq 18, 3) := by decide +kernel
theorem dX10_vouch_87 : decode cX10_vouch 87 = .ok (.aload_n 0, 1) := by decide +kernel
theorem dX10_vouch_88 : decode cX10_vouch 88 = .ok (.iconst 2, 1) := by decide +kernel
theorem dX10_vouch_89 : decode cX10_vouch 89 = .ok (.iload_n 1, 1) := by decide +kernel
theorem dX10_vouch_90 : decode cX10_vouch 90 = .ok (.iload_n 2, 1) := by decide +kernel
theorem dX10_vouch_91 : decode cX10_vouch 91 = .ok (.iconst 0, 1) := by decide +kernel
theorem dX10_vouch_92 : decode cX10_vouch 92 = .ok (.iconst 0, 1) := by decide +kernel
theorem dX10_vouch_93 : decode cX10_vouch 93 = .ok (.iload_n 3, 1) := by decide +kernel
theorem dX10_vouch_94 : decode cX10_vouch 94 = .ok (.iload 4, 2) := by decide +kernel
theorem dX10_vouch_96 : decode cX10_vouch 96 = .ok (.invokevirtual 144, 3) := by decide +kernel
theorem dX10_vouch_99 : decode cX10_vouch 99 = .ok (.goto 4, 3) := by decide +kernel
theorem dX10_vouch_102 : decode cX10_vouch 102 = .ok (.iconst 0, 1) := by decide +kernel
theorem dX10_vouch_103 : decode cX10_vouch 103 = .ok (.ireturn, 1) := by decide +kernel
theorem dX10_revoke_0 : decode cX10_revoke 0 = .ok (.aload_n 0, 1) := by decide +kernel
theorem dX10_revoke_1 : decode cX10_revoke 1 = .ok (.aload_n 0, 1) := by decide +kernel
theorem dX10_revoke_2 : decode cX10_revoke 2 = .ok (.iload_n 1, 1) := by decide +kernel
theorem dX10_revoke_3 : decode cX10_revoke 3 = .ok (.invokevirtual 148, 3) := by decide +kernel
theorem dX10_revoke_6 : decode cX10_revoke 6 = .ok (.ifCond .eq 7, 3) := by decide +kernel
theorem dX10_revoke_9 : decode cX10_revoke 9 = .ok (.iconst 0, 1) := by decide +kernel
theorem dX10_revoke_10 : decode cX10_revoke 10 = .ok (.goto 4, 3) := by decide +kernel
theorem dX10_revoke_13 : decode cX10_revoke 13 = .ok (.iconst 1, 1) := by decide +kernel
theorem dX10_revoke_14 : decode cX10_revoke 14 = .ok (.invokevirtual 119, 3) := by decide +kernel
theorem dX10_revoke_17 : decode cX10_revoke 17 = .ok (.ifCond .eq 12, 3) := by decide +kernel
theorem dX10_revoke_20 : decode cX10_revoke 20 = .ok (.aload_n 0, 1) := by decide +kernel
theorem dX10_revoke_21 : decode cX10_revoke 21 = .ok (.getfield 50, 3) := by decide +kernel
theorem dX10_revoke_24 : decode cX10_revoke 24 = .ok (.iload_n 1, 1) := by decide +kernel
theorem dX10_revoke_25 : decode cX10_revoke 25 = .ok (.baload, 1) := by decide +kernel
theorem dX10_revoke_26 : decode cX10_revoke 26 = .ok (.ifCond .eq 5, 3) := by decide +kernel
theorem dX10_revoke_29 : decode cX10_revoke 29 = .ok (.iconst 0, 1) := by decide +kernel
theorem dX10_revoke_30 : decode cX10_revoke 30 = .ok (.ireturn, 1) := by decide +kernel
theorem dX10_revoke_31 : decode cX10_revoke 31 = .ok (.aload_n 0, 1) := by decide +kernel
theorem dX10_revoke_32 : decode cX10_revoke 32 = .ok (.getfield 50, 3) := by decide +kernel
theorem dX10_revoke_35 : decode cX10_revoke 35 = .ok (.iload_n 1, 1) := by decide +kernel
theorem dX10_revoke_36 : decode cX10_revoke 36 = .ok (.iconst 1, 1) := by decide +kernel
theorem dX10_revoke_37 : decode cX10_revoke 37 = .ok (.bastore, 1) := by decide +kernel
theorem dX10_revoke_38 : decode cX10_revoke 38 = .ok (.iconst 1, 1) := by decide +kernel
theorem dX10_revoke_39 : decode cX10_revoke 39 = .ok (.ireturn, 1) := by decide +kernel
theorem dX10_alter_0 : decode cX10_alter 0 = .ok (.aload_n 0, 1) := by decide +kernel
theorem dX10_alter_1 : decode cX10_alter 1 = .ok (.iload_n 1, 1) := by decide +kernel
theorem dX10_alter_2 : decode cX10_alter 2 = .ok (.invokevirtual 148, 3) := by decide +kernel
theorem dX10_alter_5 : decode cX10_alter 5 = .ok (.istore_n 3, 1) := by decide +kernel
theorem dX10_alter_6 : decode cX10_alter 6 = .ok (.iload_n 3, 1) := by decide +kernel
theorem dX10_alter_7 : decode cX10_alter 7 = .ok (.ifCond .eq 16, 3) := by decide +kernel
theorem dX10_alter_10 : decode cX10_alter 10 = .ok (.aload_n 0, 1) := by decide +kernel
theorem dX10_alter_11 : decode cX10_alter 11 = .ok (.getfield 26, 3) := by decide +kernel
theorem dX10_alter_14 : decode cX10_alter 14 = .ok (.iload_n 1, 1) := by decide +kernel
theorem dX10_alter_15 : decode cX10_alter 15 = .ok (.iaload, 1) := by decide +kernel
theorem dX10_alter_16 : decode cX10_alter 16 = .ok (.ifCond .ne 7, 3) := by decide +kernel
theorem dX10_alter_19 : decode cX10_alter 19 = .ok (.iconst 1, 1) := by decide +kernel
theorem dX10_alter_20 : decode cX10_alter 20 = .ok (.goto 4, 3) := by decide +kernel
theorem dX10_alter_23 : decode cX10_alter 23 = .ok (.iconst 0, 1) := by decide +kernel
theorem dX10_alter_24 : decode cX10_alter 24 = .ok (.istore 4, 2) := by decide +kernel
theorem dX10_alter_26 : decode cX10_alter 26 = .ok (.iload_n 3, 1) := by decide +kernel
theorem dX10_alter_27 : decode cX10_alter 27 = .ok (.ifCond .eq 33, 3) := by decide +kernel
theorem dX10_alter_30 : decode cX10_alter 30 = .ok (.iload_n 2, 1) := by decide +kernel
theorem dX10_alter_31 : decode cX10_alter 31 = .ok (.iconst 0, 1) := by decide +kernel
theorem dX10_alter_32 : decode cX10_alter 32 = .ok (.aload_n 0, 1) := by decide +kernel
theorem dX10_alter_33 : decode cX10_alter 33 = .ok (.getfield 26, 3) := by decide +kernel
theorem dX10_alter_36 : decode cX10_alter 36 = .ok (.iload_n 1, 1) := by decide +kernel
theorem dX10_alter_37 : decode cX10_alter 37 = .ok (.iaload, 1) := by decide +kernel
theorem dX10_alter_38 : decode cX10_alter 38 = .ok (.iconst 1, 1) := by decide +kernel
theorem dX10_alter_39 : decode cX10_alter 39 = .ok (.if_icmp .ne 8, 3) := by decide +kernel
theorem dX10_alter_42 : decode cX10_alter 42 = .ok (.bipush 8, 2) := by decide +kernel
theorem dX10_alter_44 : decode cX10_alter 44 = .ok (.goto 6, 3) := by decide +kernel
theorem dX10_alter_47 : decode cX10_alter 47 = .ok (.sipush 1023, 3) := by decide +kernel
theorem dX10_alter_50 : decode cX10_alter 50 = .ok (.invokestatic 108, 3) := by decide +kernel
theorem dX10_alter_53 : decode cX10_alter 53 = .ok (.ifCond .eq 7, 3) := by decide +kernel
theorem dX10_alter_56 : decode cX10_alter 56 = .ok (.iconst 1, 1) := by decide +kernel
theorem dX10_alter_57 : decode cX10_alter 57 = .ok (.goto 4, 3) := by decide +kernel
theorem dX10_alter_60 : decode cX10_alter 60 = .ok (.iconst 0, 1) := by decide +kernel
theorem dX10_alter_61 : decode cX10_alter 61 = .ok (.istore 5, 2) := by decide +kernel
theorem dX10_alter_63 : decode cX10_alter 63 = .ok (.aload_n 0, 1) := by decide +kernel
theorem dX10_alter_64 : decode cX10_alter 64 = .ok (.iload_n 3, 1) := by decide +kernel
theorem dX10_alter_65 : decode cX10_alter 65 = .ok (.ifCond .ne 7, 3) := by decide +kernel
theorem dX10_alter_68 : decode cX10_alter 68 = .ok (.iconst 1, 1) := by decide +kernel
theorem dX10_alter_69 : decode cX10_alter 69 = .ok (.goto 22, 3) := by decide +kernel
theorem dX10_alter_72 : decode cX10_alter 72 = .ok (.iload 4, 2) := by decide +kernel
theorem dX10_alter_74 : decode cX10_alter 74 = .ok (.ifCond .eq 7, 3) := by decide +kernel
theorem dX10_alter_77 : decode cX10_alter 77 = .ok (.iconst 2, 1) := by decide +kernel
theorem dX10_alter_78 : decode cX10_alter 78 = .ok (.goto 13, 3) := by decide +kernel
theorem dX10_alter_81 : decode cX10_alter 81 = .ok (.iload 5, 2) := by decide +kernel
theorem dX10_alter_83 : decode cX10_alter 83 = .ok (.ifCond .ne 7, 3) := by decide +kernel
theorem dX10_alter_86 : decode cX10_alter 86 = .ok (.iconst 3, 1) := by decide +kernel
theorem dX10_alter_87 : decode cX10_alter 87 = .ok (.goto 4, 3) := by decide +kernel
theorem dX10_alter_90 : decode cX10_alter 90 = .ok (.iconst 0, 1) := by decide +kernel
theorem dX10_alter_91 : decode cX10_alter 91 = .ok (.invokevirtual 119, 3) := by decide +kernel
theorem dX10_alter_94 : decode cX10_alter 94 = .ok (.ifCond .ne 5, 3) := by decide +kernel
theorem dX10_alter_97 : decode cX10_alter 97 = .ok (.iconst 0, 1) := by decide +kernel
theorem dX10_alter_98 : decode cX10_alter 98 = .ok (.ireturn, 1) := by decide +kernel
theorem dX10_alter_99 : decode cX10_alter 99 = .ok (.aload_n 0, 1) := by decide +kernel
theorem dX10_alter_100 : decode cX10_alter 100 = .ok (.getfield 41, 3) := by decide +kernel
theorem dX10_alter_103 : decode cX10_alter 103 = .ok (.iload_n 1, 1) := by decide +kernel
theorem dX10_alter_104 : decode cX10_alter 104 = .ok (.iaload, 1) := by decide +kernel
theorem dX10_alter_105 : decode cX10_alter 105 = .ok (.istore 6, 2) := by decide +kernel
theorem dX10_alter_107 : decode cX10_alter 107 = .ok (.aload_n 0, 1) := by decide +kernel
theorem dX10_alter_108 : decode cX10_alter 108 = .ok (.getfield 41, 3) := by decide +kernel
theorem dX10_alter_111 : decode cX10_alter 111 = .ok (.iload_n 1, 1) := by decide +kernel
theorem dX10_alter_112 : decode cX10_alter 112 = .ok (.iload_n 2, 1) := by decide +kernel
theorem dX10_alter_113 : decode cX10_alter 113 = .ok (.iastore, 1) := by decide +kernel
theorem dX10_alter_114 : decode cX10_alter 114 = .ok (.iload 6, 2) := by decide +kernel
theorem dX10_alter_116 : decode cX10_alter 116 = .ok (.ireturn, 1) := by decide +kernel
theorem dX10_sign_0 : decode cX10_sign 0 = .ok (.aload_n 0, 1) := by decide +kernel
theorem dX10_sign_1 : decode cX10_sign 1 = .ok (.aload_n 0, 1) := by decide +kernel
theorem dX10_sign_2 : decode cX10_sign 2 = .ok (.iload_n 1, 1) := by decide +kernel
theorem dX10_sign_3 : decode cX10_sign 3 = .ok (.invokevirtual 148, 3) := by decide +kernel
theorem dX10_sign_6 : decode cX10_sign 6 = .ok (.ifCond .eq 7, 3) := by decide +kernel
theorem dX10_sign_9 : decode cX10_sign 9 = .ok (.iconst 0, 1) := by decide +kernel
theorem dX10_sign_10 : decode cX10_sign 10 = .ok (.goto 4, 3) := by decide +kernel
theorem dX10_sign_13 : decode cX10_sign 13 = .ok (.iconst 1, 1) := by decide +kernel
theorem dX10_sign_14 : decode cX10_sign 14 = .ok (.invokevirtual 119, 3) := by decide +kernel
theorem dX10_sign_17 : decode cX10_sign 17 = .ok (.ifCond .ne 5, 3) := by decide +kernel
theorem dX10_sign_20 : decode cX10_sign 20 = .ok (.iconst 0, 1) := by decide +kernel
theorem dX10_sign_21 : decode cX10_sign 21 = .ok (.ireturn, 1) := by decide +kernel
theorem dX10_sign_22 : decode cX10_sign 22 = .ok (.aload_n 0, 1) := by decide +kernel
theorem dX10_sign_23 : decode cX10_sign 23 = .ok (.getfield 47, 3) := by decide +kernel
theorem dX10_sign_26 : decode cX10_sign 26 = .ok (.iload_n 1, 1) := by decide +kernel
theorem dX10_sign_27 : decode cX10_sign 27 = .ok (.aload_n 0, 1) := by decide +kernel
theorem dX10_sign_28 : decode cX10_sign 28 = .ok (.iload_n 1, 1) := by decide +kernel
theorem dX10_sign_29 : decode cX10_sign 29 = .ok (.invokevirtual 133, 3) := by decide +kernel
theorem dX10_sign_32 : decode cX10_sign 32 = .ok (.iastore, 1) := by decide +kernel
theorem dX10_sign_33 : decode cX10_sign 33 = .ok (.aload_n 0, 1) := by decide +kernel
theorem dX10_sign_34 : decode cX10_sign 34 = .ok (.getfield 47, 3) := by decide +kernel
theorem dX10_sign_37 : decode cX10_sign 37 = .ok (.iload_n 1, 1) := by decide +kernel
theorem dX10_sign_38 : decode cX10_sign 38 = .ok (.iaload, 1) := by decide +kernel
theorem dX10_sign_39 : decode cX10_sign 39 = .ok (.ireturn, 1) := by decide +kernel
theorem dX10_hop_0 : decode cX10_hop 0 = .ok (.aload_n 0, 1) := by decide +kernel
theorem dX10_hop_1 : decode cX10_hop 1 = .ok (.iload_n 1, 1) := by decide +kernel
theorem dX10_hop_2 : decode cX10_hop 2 = .ok (.invokestatic 125, 3) := by decide +kernel
theorem dX10_hop_5 : decode cX10_hop 5 = .ok (.ifCond .ne 7, 3) := by decide +kernel
theorem dX10_hop_8 : decode cX10_hop 8 = .ok (.iconst 1, 1) := by decide +kernel
theorem dX10_hop_9 : decode cX10_hop 9 = .ok (.goto 17, 3) := by decide +kernel
theorem dX10_hop_12 : decode cX10_hop 12 = .ok (.aload_n 0, 1) := by decide +kernel
theorem dX10_hop_13 : decode cX10_hop 13 = .ok (.getfield 151, 3) := by decide +kernel
theorem dX10_hop_16 : decode cX10_hop 16 = .ok (.bipush 6, 2) := by decide +kernel
theorem dX10_hop_18 : decode cX10_hop 18 = .ok (.if_icmp .ne 7, 3) := by decide +kernel
theorem dX10_hop_21 : decode cX10_hop 21 = .ok (.iconst 2, 1) := by decide +kernel
theorem dX10_hop_22 : decode cX10_hop 22 = .ok (.goto 4, 3) := by decide +kernel
theorem dX10_hop_25 : decode cX10_hop 25 = .ok (.iconst 0, 1) := by decide +kernel
theorem dX10_hop_26 : decode cX10_hop 26 = .ok (.invokevirtual 119, 3) := by decide +kernel
theorem dX10_hop_29 : decode cX10_hop 29 = .ok (.ifCond .ne 5, 3) := by decide +kernel
theorem dX10_hop_32 : decode cX10_hop 32 = .ok (.iconst 0, 1) := by decide +kernel
theorem dX10_hop_33 : decode cX10_hop 33 = .ok (.ireturn, 1) := by decide +kernel
theorem dX10_hop_34 : decode cX10_hop 34 = .ok (.aload_n 0, 1) := by decide +kernel
theorem dX10_hop_35 : decode cX10_hop 35 = .ok (.getfield 57, 3) := by decide +kernel
theorem dX10_hop_38 : decode cX10_hop 38 = .ok (.aload_n 0, 1) := by decide +kernel
theorem dX10_hop_39 : decode cX10_hop 39 = .ok (.getfield 151, 3) := by decide +kernel
theorem dX10_hop_42 : decode cX10_hop 42 = .ok (.iload_n 1, 1) := by decide +kernel
theorem dX10_hop_43 : decode cX10_hop 43 = .ok (.iastore, 1) := by decide +kernel
theorem dX10_hop_44 : decode cX10_hop 44 = .ok (.aload_n 0, 1) := by decide +kernel
theorem dX10_hop_45 : decode cX10_hop 45 = .ok (.dup, 1) := by decide +kernel
theorem dX10_hop_46 : decode cX10_hop 46 = .ok (.getfield 151, 3) := by decide +kernel
theorem dX10_hop_49 : decode cX10_hop 49 = .ok (.iconst 1, 1) := by decide +kernel
theorem dX10_hop_50 : decode cX10_hop 50 = .ok (.iadd, 1) := by decide +kernel
theorem dX10_hop_51 : decode cX10_hop 51 = .ok (.putfield 151, 3) := by decide +kernel
theorem dX10_hop_54 : decode cX10_hop 54 = .ok (.aload_n 0, 1) := by decide +kernel
theorem dX10_hop_55 : decode cX10_hop 55 = .ok (.getfield 151, 3) := by decide +kernel
theorem dX10_hop_58 : decode cX10_hop 58 = .ok (.ireturn, 1) := by decide +kernel
theorem dX10_hear_0 : decode cX10_hear 0 = .ok (.aload_n 0, 1) := by decide +kernel
theorem dX10_hear_1 : decode cX10_hear 1 = .ok (.iload_n 1, 1) := by decide +kernel
theorem dX10_hear_2 : decode cX10_hear 2 = .ok (.iload_n 2, 1) := by decide +kernel
theorem dX10_hear_3 : decode cX10_hear 3 = .ok (.invokestatic 137, 3) := by decide +kernel
theorem dX10_hear_6 : decode cX10_hear 6 = .ok (.ifCond .ne 7, 3) := by decide +kernel
theorem dX10_hear_9 : decode cX10_hear 9 = .ok (.iconst 1, 1) := by decide +kernel
theorem dX10_hear_10 : decode cX10_hear 10 = .ok (.goto 24, 3) := by decide +kernel
theorem dX10_hear_13 : decode cX10_hear 13 = .ok (.aload_n 0, 1) := by decide +kernel
theorem dX10_hear_14 : decode cX10_hear 14 = .ok (.getfield 151, 3) := by decide +kernel
theorem dX10_hear_17 : decode cX10_hear 17 = .ok (.ifCond .eq 12, 3) := by decide +kernel
theorem dX10_hear_20 : decode cX10_hear 20 = .ok (.aload_n 0, 1) := by decide +kernel
theorem dX10_hear_21 : decode cX10_hear 21 = .ok (.getfield 154, 3) := by decide +kernel
theorem dX10_hear_24 : decode cX10_hear 24 = .ok (.bipush 24, 2) := by decide +kernel
theorem dX10_hear_26 : decode cX10_hear 26 = .ok (.if_icmp .ne 7, 3) := by decide +kernel
theorem dX10_hear_29 : decode cX10_hear 29 = .ok (.iconst 2, 1) := by decide +kernel
theorem dX10_hear_30 : decode cX10_hear 30 = .ok (.goto 4, 3) := by decide +kernel
theorem dX10_hear_33 : decode cX10_hear 33 = .ok (.iconst 0, 1) := by decide +kernel
theorem dX10_hear_34 : decode cX10_hear 34 = .ok (.invokevirtual 119, 3) := by decide +kernel
theorem dX10_hear_37 : decode cX10_hear 37 = .ok (.ifCond .ne 5, 3) := by decide +kernel
theorem dX10_hear_40 : decode cX10_hear 40 = .ok (.iconst 0, 1) := by decide +kernel
theorem dX10_hear_41 : decode cX10_hear 41 = .ok (.ireturn, 1) := by decide +kernel
theorem dX10_hear_42 : decode cX10_hear 42 = .ok (.iconst 0, 1) := by decide +kernel
theorem dX10_hear_43 : decode cX10_hear 43 = .ok (.istore_n 3, 1) := by decide +kernel
theorem dX10_hear_44 : decode cX10_hear 44 = .ok (.iconst 0, 1) := by decide +kernel
theorem dX10_hear_45 : decode cX10_hear 45 = .ok (.istore 4, 2) := by decide +kernel
theorem dX10_hear_47 : decode cX10_hear 47 = .ok (.iload 4, 2) := by decide +kernel
theorem dX10_hear_49 : decode cX10_hear 49 = .ok (.aload_n 0, 1) := by decide +kernel
theorem dX10_hear_50 : decode cX10_hear 50 = .ok (.getfield 151, 3) := by decide +kernel
theorem dX10_hear_53 : decode cX10_hear 53 = .ok (.if_icmp .ge 63, 3) := by decide +kernel
theorem dX10_hear_56 : decode cX10_hear 56 = .ok (.iload_n 3, 1) := by decide +kernel
theorem dX10_hear_57 : decode cX10_hear 57 = .ok (.ifCond .eq 29, 3) := by decide +kernel
theorem dX10_hear_60 : decode cX10_hear 60 = .ok (.aload_n 0, 1) := by decide +kernel
theorem dX10_hear_61 : decode cX10_hear 61 = .ok (.getfield 60, 3) := by decide +kernel
theorem dX10_hear_64 : decode cX10_hear 64 = .ok (.bipush 6, 2) := by decide +kernel
theorem dX10_hear_66 : decode cX10_hear 66 = .ok (.aload_n 0, 1) := by decide +kernel
theorem dX10_hear_67 : decode cX10_hear 67 = .ok (.getfield 154, 3) := by decide +kernel
theorem dX10_hear_70 : decode cX10_hear 70 = .ok (.imul, 1) := by decide +kernel
theorem dX10_hear_71 : decode cX10_hear 71 = .ok (.iload_n 3, 1) := by decide +kernel
theorem dX10_hear_72 : decode cX10_hear 72 = .ok (.iadd, 1) := by decide +kernel
theorem dX10_hear_73 : decode cX10_hear 73 = .ok (.iconst 1, 1) := by decide +kernel
theorem dX10_hear_74 : decode cX10_hear 74 = .ok (.isub, 1) := by decide +kernel
theorem dX10_hear_75 : decode cX10_hear 75 = .ok (.iaload, 1) := by decide +kernel
theorem dX10_hear_76 : decode cX10_hear 76 = .ok (.aload_n 0, 1) := by decide +kernel
theorem dX10_hear_77 : decode cX10_hear 77 = .ok (.getfield 57, 3) := by decide +kernel
theorem dX10_hear_80 : decode cX10_hear 80 = .ok (.iload 4, 2) := by decide +kernel
theorem dX10_hear_82 : decode cX10_hear 82 = .ok (.iaload, 1) := by decide +kernel
theorem dX10_hear_83 : decode cX10_hear 83 = .ok (.if_icmp .eq 27, 3) := by decide +kernel
theorem dX10_hear_86 : decode cX10_hear 86 = .ok (.aload_n 0, 1) := by decide +kernel
theorem dX10_hear_87 : decode cX10_hear 87 = .ok (.getfield 60, 3) := by decide +kernel
theorem dX10_hear_90 : decode cX10_hear 90 = .ok (.bipush 6, 2) := by decide +kernel
theorem dX10_hear_92 : decode cX10_hear 92 = .ok (.aload_n 0, 1) := by decide +kernel
theorem dX10_hear_93 : decode cX10_hear 93 = .ok (.getfield 154, 3) := by decide +kernel
theorem dX10_hear_96 : decode cX10_hear 96 = .ok (.imul, 1) := by decide +kernel
theorem dX10_hear_97 : decode cX10_hear 97 = .ok (.iload_n 3, 1) := by decide +kernel
theorem dX10_hear_98 : decode cX10_hear 98 = .ok (.iadd, 1) := by decide +kernel
theorem dX10_hear_99 : decode cX10_hear 99 = .ok (.aload_n 0, 1) := by decide +kernel
theorem dX10_hear_100 : decode cX10_hear 100 = .ok (.getfield 57, 3) := by decide +kernel
theorem dX10_hear_103 : decode cX10_hear 103 = .ok (.iload 4, 2) := by decide +kernel
theorem dX10_hear_105 : decode cX10_hear 105 = .ok (.iaload, 1) := by decide +kernel
theorem dX10_hear_106 : decode cX10_hear 106 = .ok (.iastore, 1) := by decide +kernel
theorem dX10_hear_107 : decode cX10_hear 107 = .ok (.iinc 3 1, 3) := by decide +kernel
theorem dX10_hear_110 : decode cX10_hear 110 = .ok (.iinc 4 1, 3) := by decide +kernel
theorem dX10_hear_113 : decode cX10_hear 113 = .ok (.goto (-66), 3) := by decide +kernel
theorem dX10_hear_116 : decode cX10_hear 116 = .ok (.aload_n 0, 1) := by decide +kernel
theorem dX10_hear_117 : decode cX10_hear 117 = .ok (.getfield 63, 3) := by decide +kernel
theorem dX10_hear_120 : decode cX10_hear 120 = .ok (.aload_n 0, 1) := by decide +kernel
theorem dX10_hear_121 : decode cX10_hear 121 = .ok (.getfield 154, 3) := by decide +kernel
theorem dX10_hear_124 : decode cX10_hear 124 = .ok (.iload_n 3, 1) := by decide +kernel
theorem dX10_hear_125 : decode cX10_hear 125 = .ok (.iastore, 1) := by decide +kernel
theorem dX10_hear_126 : decode cX10_hear 126 = .ok (.aload_n 0, 1) := by decide +kernel
theorem dX10_hear_127 : decode cX10_hear 127 = .ok (.getfield 66, 3) := by decide +kernel
theorem dX10_hear_130 : decode cX10_hear 130 = .ok (.aload_n 0, 1) := by decide +kernel
theorem dX10_hear_131 : decode cX10_hear 131 = .ok (.getfield 154, 3) := by decide +kernel
theorem dX10_hear_134 : decode cX10_hear 134 = .ok (.iload_n 1, 1) := by decide +kernel
theorem dX10_hear_135 : decode cX10_hear 135 = .ok (.iastore, 1) := by decide +kernel
theorem dX10_hear_136 : decode cX10_hear 136 = .ok (.aload_n 0, 1) := by decide +kernel
theorem dX10_hear_137 : decode cX10_hear 137 = .ok (.getfield 69, 3) := by decide +kernel
theorem dX10_hear_140 : decode cX10_hear 140 = .ok (.aload_n 0, 1) := by decide +kernel
theorem dX10_hear_141 : decode cX10_hear 141 = .ok (.getfield 154, 3) := by decide +kernel
theorem dX10_hear_144 : decode cX10_hear 144 = .ok (.iload_n 2, 1) := by decide +kernel
theorem dX10_hear_145 : decode cX10_hear 145 = .ok (.iastore, 1) := by decide +kernel
theorem dX10_hear_146 : decode cX10_hear 146 = .ok (.aload_n 0, 1) := by decide +kernel
theorem dX10_hear_147 : decode cX10_hear 147 = .ok (.getfield 72, 3) := by decide +kernel
theorem dX10_hear_150 : decode cX10_hear 150 = .ok (.aload_n 0, 1) := by decide +kernel
theorem dX10_hear_151 : decode cX10_hear 151 = .ok (.getfield 154, 3) := by decide +kernel
theorem dX10_hear_154 : decode cX10_hear 154 = .ok (.iconst 1, 1) := by decide +kernel
theorem dX10_hear_155 : decode cX10_hear 155 = .ok (.bastore, 1) := by decide +kernel
theorem dX10_hear_156 : decode cX10_hear 156 = .ok (.aload_n 0, 1) := by decide +kernel
theorem dX10_hear_157 : decode cX10_hear 157 = .ok (.dup, 1) := by decide +kernel
theorem dX10_hear_158 : decode cX10_hear 158 = .ok (.getfield 154, 3) := by decide +kernel
theorem dX10_hear_161 : decode cX10_hear 161 = .ok (.iconst 1, 1) := by decide +kernel
theorem dX10_hear_162 : decode cX10_hear 162 = .ok (.iadd, 1) := by decide +kernel
theorem dX10_hear_163 : decode cX10_hear 163 = .ok (.putfield 154, 3) := by decide +kernel
theorem dX10_hear_166 : decode cX10_hear 166 = .ok (.aload_n 0, 1) := by decide +kernel
theorem dX10_hear_167 : decode cX10_hear 167 = .ok (.iconst 0, 1) := by decide +kernel
theorem dX10_hear_168 : decode cX10_hear 168 = .ok (.putfield 151, 3) := by decide +kernel
theorem dX10_hear_171 : decode cX10_hear 171 = .ok (.aload_n 0, 1) := by decide +kernel
theorem dX10_hear_172 : decode cX10_hear 172 = .ok (.getfield 154, 3) := by decide +kernel
theorem dX10_hear_175 : decode cX10_hear 175 = .ok (.iconst 1, 1) := by decide +kernel
theorem dX10_hear_176 : decode cX10_hear 176 = .ok (.isub, 1) := by decide +kernel
theorem dX10_hear_177 : decode cX10_hear 177 = .ok (.ireturn, 1) := by decide +kernel
theorem dX10_withdraw_0 : decode cX10_withdraw 0 = .ok (.iload_n 1, 1) := by decide +kernel
theorem dX10_withdraw_1 : decode cX10_withdraw 1 = .ok (.iconst 0, 1) := by decide +kernel
theorem dX10_withdraw_2 : decode cX10_withdraw 2 = .ok (.aload_n 0, 1) := by decide +kernel
theorem dX10_withdraw_3 : decode cX10_withdraw 3 = .ok (.getfield 154, 3) := by decide +kernel
theorem dX10_withdraw_6 : decode cX10_withdraw 6 = .ok (.iconst 1, 1) := by decide +kernel
theorem dX10_withdraw_7 : decode cX10_withdraw 7 = .ok (.isub, 1) := by decide +kernel
theorem dX10_withdraw_8 : decode cX10_withdraw 8 = .ok (.invokestatic 108, 3) := by decide +kernel
theorem dX10_withdraw_11 : decode cX10_withdraw 11 = .ok (.istore_n 2, 1) := by decide +kernel
theorem dX10_withdraw_12 : decode cX10_withdraw 12 = .ok (.aload_n 0, 1) := by decide +kernel
theorem dX10_withdraw_13 : decode cX10_withdraw 13 = .ok (.iload_n 2, 1) := by decide +kernel
theorem dX10_withdraw_14 : decode cX10_withdraw 14 = .ok (.ifCond .ne 7, 3) := by decide +kernel
theorem dX10_withdraw_17 : decode cX10_withdraw 17 = .ok (.iconst 1, 1) := by decide +kernel
theorem dX10_withdraw_18 : decode cX10_withdraw 18 = .ok (.goto 17, 3) := by decide +kernel
theorem dX10_withdraw_21 : decode cX10_withdraw 21 = .ok (.aload_n 0, 1) := by decide +kernel
theorem dX10_withdraw_22 : decode cX10_withdraw 22 = .ok (.getfield 72, 3) := by decide +kernel
theorem dX10_withdraw_25 : decode cX10_withdraw 25 = .ok (.iload_n 1, 1) := by decide +kernel
theorem dX10_withdraw_26 : decode cX10_withdraw 26 = .ok (.baload, 1) := by decide +kernel
theorem dX10_withdraw_27 : decode cX10_withdraw 27 = .ok (.ifCond .ne 7, 3) := by decide +kernel
