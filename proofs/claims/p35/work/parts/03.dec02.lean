theorem dX9_stopped_72 : decode cX9_stopped 72 = .ok (.getfield 35, 3) := by decide +kernel
theorem dX9_stopped_75 : decode cX9_stopped 75 = .ok (.getfield 217, 3) := by decide +kernel
theorem dX9_stopped_78 : decode cX9_stopped 78 = .ok (.iload_n 1, 1) := by decide +kernel
theorem dX9_stopped_79 : decode cX9_stopped 79 = .ok (.iaload, 1) := by decide +kernel
theorem dX9_stopped_80 : decode cX9_stopped 80 = .ok (.if_icmp .ge 43, 3) := by decide +kernel
theorem dX9_stopped_83 : decode cX9_stopped 83 = .ok (.iload_n 2, 1) := by decide +kernel
theorem dX9_stopped_84 : decode cX9_stopped 84 = .ok (.aload_n 3, 1) := by decide +kernel
theorem dX9_stopped_85 : decode cX9_stopped 85 = .ok (.iload 5, 2) := by decide +kernel
theorem dX9_stopped_87 : decode cX9_stopped 87 = .ok (.iaload, 1) := by decide +kernel
theorem dX9_stopped_88 : decode cX9_stopped 88 = .ok (.invokestatic 236, 3) := by decide +kernel
theorem dX9_stopped_91 : decode cX9_stopped 91 = .ok (.ifCond .eq 26, 3) := by decide +kernel
theorem dX9_stopped_94 : decode cX9_stopped 94 = .ok (.iload 4, 2) := by decide +kernel
theorem dX9_stopped_96 : decode cX9_stopped 96 = .ok (.ifCond .ne 16, 3) := by decide +kernel
theorem dX9_stopped_99 : decode cX9_stopped 99 = .ok (.aload_n 0, 1) := by decide +kernel
theorem dX9_stopped_100 : decode cX9_stopped 100 = .ok (.getfield 51, 3) := by decide +kernel
theorem dX9_stopped_103 : decode cX9_stopped 103 = .ok (.aload_n 3, 1) := by decide +kernel
theorem dX9_stopped_104 : decode cX9_stopped 104 = .ok (.iload 5, 2) := by decide +kernel
theorem dX9_stopped_106 : decode cX9_stopped 106 = .ok (.invokevirtual 240, 3) := by decide +kernel
theorem dX9_stopped_109 : decode cX9_stopped 109 = .ok (.ifCond .eq 8, 3) := by decide +kernel
theorem dX9_stopped_112 : decode cX9_stopped 112 = .ok (.aload_n 3, 1) := by decide +kernel
theorem dX9_stopped_113 : decode cX9_stopped 113 = .ok (.iload 5, 2) := by decide +kernel
theorem dX9_stopped_115 : decode cX9_stopped 115 = .ok (.iaload, 1) := by decide +kernel
theorem dX9_stopped_116 : decode cX9_stopped 116 = .ok (.ireturn, 1) := by decide +kernel
theorem dX9_stopped_117 : decode cX9_stopped 117 = .ok (.iinc 5 1, 3) := by decide +kernel
theorem dX9_stopped_120 : decode cX9_stopped 120 = .ok (.goto (-51), 3) := by decide +kernel
theorem dX9_stopped_123 : decode cX9_stopped 123 = .ok (.iconst (-1), 1) := by decide +kernel
theorem dX9_stopped_124 : decode cX9_stopped 124 = .ok (.ireturn, 1) := by decide +kernel
theorem dX9_allowed_0 : decode cX9_allowed 0 = .ok (.iload_n 1, 1) := by decide +kernel
theorem dX9_allowed_1 : decode cX9_allowed 1 = .ok (.invokestatic 92, 3) := by decide +kernel
theorem dX9_allowed_4 : decode cX9_allowed 4 = .ok (.iload_n 2, 1) := by decide +kernel
theorem dX9_allowed_5 : decode cX9_allowed 5 = .ok (.invokestatic 92, 3) := by decide +kernel
theorem dX9_allowed_8 : decode cX9_allowed 8 = .ok (.iload_n 1, 1) := by decide +kernel
theorem dX9_allowed_9 : decode cX9_allowed 9 = .ok (.iload_n 2, 1) := by decide +kernel
theorem dX9_allowed_10 : decode cX9_allowed 10 = .ok (.if_icmp .ne 7, 3) := by decide +kernel
theorem dX9_allowed_13 : decode cX9_allowed 13 = .ok (.iconst 0, 1) := by decide +kernel
theorem dX9_allowed_14 : decode cX9_allowed 14 = .ok (.goto 12, 3) := by decide +kernel
theorem dX9_allowed_17 : decode cX9_allowed 17 = .ok (.aload_n 0, 1) := by decide +kernel
theorem dX9_allowed_18 : decode cX9_allowed 18 = .ok (.getfield 60, 3) := by decide +kernel
theorem dX9_allowed_21 : decode cX9_allowed 21 = .ok (.iload_n 1, 1) := by decide +kernel
theorem dX9_allowed_22 : decode cX9_allowed 22 = .ok (.iload_n 2, 1) := by decide +kernel
theorem dX9_allowed_23 : decode cX9_allowed 23 = .ok (.invokevirtual 244, 3) := by decide +kernel
theorem dX9_allowed_26 : decode cX9_allowed 26 = .ok (.ireturn, 1) := by decide +kernel
theorem dX9_falseAlarms_0 : decode cX9_falseAlarms 0 = .ok (.aload_n 0, 1) := by decide +kernel
theorem dX9_falseAlarms_1 : decode cX9_falseAlarms 1 = .ok (.invokevirtual 210, 3) := by decide +kernel
theorem dX9_falseAlarms_4 : decode cX9_falseAlarms 4 = .ok (.aload_n 0, 1) := by decide +kernel
theorem dX9_falseAlarms_5 : decode cX9_falseAlarms 5 = .ok (.getfield 60, 3) := by decide +kernel
theorem dX9_falseAlarms_8 : decode cX9_falseAlarms 8 = .ok (.invokevirtual 247, 3) := by decide +kernel
theorem dX9_falseAlarms_11 : decode cX9_falseAlarms 11 = .ok (.ireturn, 1) := by decide +kernel
theorem dX9_clique_0 : decode cX9_clique 0 = .ok (.aload_n 0, 1) := by decide +kernel
theorem dX9_clique_1 : decode cX9_clique 1 = .ok (.getfield 69, 3) := by decide +kernel
theorem dX9_clique_4 : decode cX9_clique 4 = .ok (.invokevirtual 251, 3) := by decide +kernel
theorem dX9_clique_7 : decode cX9_clique 7 = .ok (.aload_n 0, 1) := by decide +kernel
theorem dX9_clique_8 : decode cX9_clique 8 = .ok (.getfield 69, 3) := by decide +kernel
theorem dX9_clique_11 : decode cX9_clique 11 = .ok (.getfield 254, 3) := by decide +kernel
theorem dX9_clique_14 : decode cX9_clique 14 = .ok (.ireturn, 1) := by decide +kernel
theorem dX9_inferred_0 : decode cX9_inferred 0 = .ok (.iload_n 1, 1) := by decide +kernel
theorem dX9_inferred_1 : decode cX9_inferred 1 = .ok (.invokestatic 92, 3) := by decide +kernel
theorem dX9_inferred_4 : decode cX9_inferred 4 = .ok (.iload_n 2, 1) := by decide +kernel
theorem dX9_inferred_5 : decode cX9_inferred 5 = .ok (.invokestatic 92, 3) := by decide +kernel
theorem dX9_inferred_8 : decode cX9_inferred 8 = .ok (.iload_n 3, 1) := by decide +kernel
theorem dX9_inferred_9 : decode cX9_inferred 9 = .ok (.ifCond .lt 8, 3) := by decide +kernel
theorem dX9_inferred_12 : decode cX9_inferred 12 = .ok (.iload_n 3, 1) := by decide +kernel
theorem dX9_inferred_13 : decode cX9_inferred 13 = .ok (.iconst 3, 1) := by decide +kernel
theorem dX9_inferred_14 : decode cX9_inferred 14 = .ok (.if_icmp .lt 14, 3) := by decide +kernel
theorem dX9_inferred_17 : decode cX9_inferred 17 = .ok (.new 165, 3) := by decide +kernel
theorem dX9_inferred_20 : decode cX9_inferred 20 = .ok (.dup, 1) := by decide +kernel
theorem dX9_inferred_21 : decode cX9_inferred 21 = .ok (.ldc_w 257, 3) := by decide +kernel
theorem dX9_inferred_24 : decode cX9_inferred 24 = .ok (.invokespecial 169, 3) := by decide +kernel
theorem dX9_inferred_27 : decode cX9_inferred 27 = .ok (.athrow, 1) := by decide +kernel
theorem dX9_inferred_28 : decode cX9_inferred 28 = .ok (.aload_n 0, 1) := by decide +kernel
theorem dX9_inferred_29 : decode cX9_inferred 29 = .ok (.getfield 69, 3) := by decide +kernel
theorem dX9_inferred_32 : decode cX9_inferred 32 = .ok (.invokevirtual 251, 3) := by decide +kernel
theorem dX9_inferred_35 : decode cX9_inferred 35 = .ok (.aload_n 0, 1) := by decide +kernel
theorem dX9_inferred_36 : decode cX9_inferred 36 = .ok (.getfield 69, 3) := by decide +kernel
theorem dX9_inferred_39 : decode cX9_inferred 39 = .ok (.iload_n 1, 1) := by decide +kernel
theorem dX9_inferred_40 : decode cX9_inferred 40 = .ok (.iload_n 2, 1) := by decide +kernel
theorem dX9_inferred_41 : decode cX9_inferred 41 = .ok (.iload_n 3, 1) := by decide +kernel
theorem dX9_inferred_42 : decode cX9_inferred 42 = .ok (.invokevirtual 259, 3) := by decide +kernel
theorem dX9_inferred_45 : decode cX9_inferred 45 = .ok (.ireturn, 1) := by decide +kernel
theorem dX9_cone_0 : decode cX9_cone 0 = .ok (.iload_n 1, 1) := by decide +kernel
theorem dX9_cone_1 : decode cX9_cone 1 = .ok (.invokestatic 92, 3) := by decide +kernel
theorem dX9_cone_4 : decode cX9_cone 4 = .ok (.aload_n 0, 1) := by decide +kernel
theorem dX9_cone_5 : decode cX9_cone 5 = .ok (.getfield 69, 3) := by decide +kernel
theorem dX9_cone_8 : decode cX9_cone 8 = .ok (.invokevirtual 251, 3) := by decide +kernel
theorem dX9_cone_11 : decode cX9_cone 11 = .ok (.aload_n 0, 1) := by decide +kernel
theorem dX9_cone_12 : decode cX9_cone 12 = .ok (.getfield 69, 3) := by decide +kernel
theorem dX9_cone_15 : decode cX9_cone 15 = .ok (.iload_n 1, 1) := by decide +kernel
theorem dX9_cone_16 : decode cX9_cone 16 = .ok (.invokevirtual 261, 3) := by decide +kernel
theorem dX9_cone_19 : decode cX9_cone 19 = .ok (.ireturn, 1) := by decide +kernel
theorem dX9_coneByPaths_0 : decode cX9_coneByPaths 0 = .ok (.iload_n 1, 1) := by decide +kernel
theorem dX9_coneByPaths_1 : decode cX9_coneByPaths 1 = .ok (.invokestatic 92, 3) := by decide +kernel
theorem dX9_coneByPaths_4 : decode cX9_coneByPaths 4 = .ok (.aload_n 0, 1) := by decide +kernel
theorem dX9_coneByPaths_5 : decode cX9_coneByPaths 5 = .ok (.getfield 69, 3) := by decide +kernel
theorem dX9_coneByPaths_8 : decode cX9_coneByPaths 8 = .ok (.invokevirtual 251, 3) := by decide +kernel
theorem dX9_coneByPaths_11 : decode cX9_coneByPaths 11 = .ok (.aload_n 0, 1) := by decide +kernel
theorem dX9_coneByPaths_12 : decode cX9_coneByPaths 12 = .ok (.getfield 69, 3) := by decide +kernel
theorem dX9_coneByPaths_15 : decode cX9_coneByPaths 15 = .ok (.iload_n 1, 1) := by decide +kernel
theorem dX9_coneByPaths_16 : decode cX9_coneByPaths 16 = .ok (.invokevirtual 264, 3) := by decide +kernel
theorem dX9_coneByPaths_19 : decode cX9_coneByPaths 19 = .ok (.ireturn, 1) := by decide +kernel
theorem dX9_addresses_0 : decode cX9_addresses 0 = .ok (.iload_n 1, 1) := by decide +kernel
theorem dX9_addresses_1 : decode cX9_addresses 1 = .ok (.invokestatic 92, 3) := by decide +kernel
theorem dX9_addresses_4 : decode cX9_addresses 4 = .ok (.aload_n 0, 1) := by decide +kernel
theorem dX9_addresses_5 : decode cX9_addresses 5 = .ok (.getfield 69, 3) := by decide +kernel
theorem dX9_addresses_8 : decode cX9_addresses 8 = .ok (.invokevirtual 251, 3) := by decide +kernel
theorem dX9_addresses_11 : decode cX9_addresses 11 = .ok (.aload_n 0, 1) := by decide +kernel
theorem dX9_addresses_12 : decode cX9_addresses 12 = .ok (.getfield 35, 3) := by decide +kernel
theorem dX9_addresses_15 : decode cX9_addresses 15 = .ok (.aload_n 0, 1) := by decide +kernel
theorem dX9_addresses_16 : decode cX9_addresses 16 = .ok (.getfield 69, 3) := by decide +kernel
theorem dX9_addresses_19 : decode cX9_addresses 19 = .ok (.iload_n 1, 1) := by decide +kernel
theorem dX9_addresses_20 : decode cX9_addresses 20 = .ok (.invokevirtual 261, 3) := by decide +kernel
theorem dX9_addresses_23 : decode cX9_addresses 23 = .ok (.invokevirtual 267, 3) := by decide +kernel
theorem dX9_addresses_26 : decode cX9_addresses 26 = .ok (.ireturn, 1) := by decide +kernel
theorem dX9_needHolder_0 : decode cX9_needHolder 0 = .ok (.iload_n 1, 1) := by decide +kernel
theorem dX9_needHolder_1 : decode cX9_needHolder 1 = .ok (.ifCond .lt 14, 3) := by decide +kernel
theorem dX9_needHolder_4 : decode cX9_needHolder 4 = .ok (.iload_n 1, 1) := by decide +kernel
theorem dX9_needHolder_5 : decode cX9_needHolder 5 = .ok (.aload_n 0, 1) := by decide +kernel
theorem dX9_needHolder_6 : decode cX9_needHolder 6 = .ok (.getfield 10, 3) := by decide +kernel
theorem dX9_needHolder_9 : decode cX9_needHolder 9 = .ok (.getfield 77, 3) := by decide +kernel
theorem dX9_needHolder_12 : decode cX9_needHolder 12 = .ok (.if_icmp .lt 14, 3) := by decide +kernel
theorem dX9_needHolder_15 : decode cX9_needHolder 15 = .ok (.new 165, 3) := by decide +kernel
theorem dX9_needHolder_18 : decode cX9_needHolder 18 = .ok (.dup, 1) := by decide +kernel
theorem dX9_needHolder_19 : decode cX9_needHolder 19 = .ok (.ldc_w 270, 3) := by decide +kernel
theorem dX9_needHolder_22 : decode cX9_needHolder 22 = .ok (.invokespecial 169, 3) := by decide +kernel
theorem dX9_needHolder_25 : decode cX9_needHolder 25 = .ok (.athrow, 1) := by decide +kernel
theorem dX9_needHolder_26 : decode cX9_needHolder 26 = .ok (.return_, 1) := by decide +kernel
theorem dX9_needNet_0 : decode cX9_needNet 0 = .ok (.iload_n 0, 1) := by decide +kernel
theorem dX9_needNet_1 : decode cX9_needNet 1 = .ok (.ifCond .lt 9, 3) := by decide +kernel
theorem dX9_needNet_4 : decode cX9_needNet 4 = .ok (.iload_n 0, 1) := by decide +kernel
theorem dX9_needNet_5 : decode cX9_needNet 5 = .ok (.bipush 10, 2) := by decide +kernel
theorem dX9_needNet_7 : decode cX9_needNet 7 = .ok (.if_icmp .lt 14, 3) := by decide +kernel
theorem dX9_needNet_10 : decode cX9_needNet 10 = .ok (.new 165, 3) := by decide +kernel
theorem dX9_needNet_13 : decode cX9_needNet 13 = .ok (.dup, 1) := by decide +kernel
theorem dX9_needNet_14 : decode cX9_needNet 14 = .ok (.ldc_w 272, 3) := by decide +kernel
theorem dX9_needNet_17 : decode cX9_needNet 17 = .ok (.invokespecial 169, 3) := by decide +kernel
theorem dX9_needNet_20 : decode cX9_needNet 20 = .ok (.athrow, 1) := by decide +kernel
theorem dX9_needNet_21 : decode cX9_needNet 21 = .ok (.return_, 1) := by decide +kernel
theorem dX9_needObject_0 : decode cX9_needObject 0 = .ok (.iload_n 1, 1) := by decide +kernel
theorem dX9_needObject_1 : decode cX9_needObject 1 = .ok (.ifCond .lt 14, 3) := by decide +kernel
theorem dX9_needObject_4 : decode cX9_needObject 4 = .ok (.iload_n 1, 1) := by decide +kernel
theorem dX9_needObject_5 : decode cX9_needObject 5 = .ok (.aload_n 0, 1) := by decide +kernel
theorem dX9_needObject_6 : decode cX9_needObject 6 = .ok (.getfield 19, 3) := by decide +kernel
theorem dX9_needObject_9 : decode cX9_needObject 9 = .ok (.getfield 189, 3) := by decide +kernel
theorem dX9_needObject_12 : decode cX9_needObject 12 = .ok (.if_icmp .lt 14, 3) := by decide +kernel
theorem dX9_needObject_15 : decode cX9_needObject 15 = .ok (.new 165, 3) := by decide +kernel
theorem dX9_needObject_18 : decode cX9_needObject 18 = .ok (.dup, 1) := by decide +kernel
theorem dX9_needObject_19 : decode cX9_needObject 19 = .ok (.ldc_w 274, 3) := by decide +kernel
theorem dX9_needObject_22 : decode cX9_needObject 22 = .ok (.invokespecial 169, 3) := by decide +kernel
theorem dX9_needObject_25 : decode cX9_needObject 25 = .ok (.athrow, 1) := by decide +kernel
theorem dX9_needObject_26 : decode cX9_needObject 26 = .ok (.return_, 1) := by decide +kernel
theorem dX9_needRouteThere_0 : decode cX9_needRouteThere 0 = .ok (.iload_n 1, 1) := by decide +kernel
theorem dX9_needRouteThere_1 : decode cX9_needRouteThere 1 = .ok (.ifCond .lt 26, 3) := by decide +kernel
theorem dX9_needRouteThere_4 : decode cX9_needRouteThere 4 = .ok (.iload_n 1, 1) := by decide +kernel
theorem dX9_needRouteThere_5 : decode cX9_needRouteThere 5 = .ok (.aload_n 0, 1) := by decide +kernel
theorem dX9_needRouteThere_6 : decode cX9_needRouteThere 6 = .ok (.getfield 35, 3) := by decide +kernel
theorem dX9_needRouteThere_9 : decode cX9_needRouteThere 9 = .ok (.getfield 158, 3) := by decide +kernel
theorem dX9_needRouteThere_12 : decode cX9_needRouteThere 12 = .ok (.if_icmp .ge 15, 3) := by decide +kernel
theorem dX9_needRouteThere_15 : decode cX9_needRouteThere 15 = .ok (.aload_n 0, 1) := by decide +kernel
theorem dX9_needRouteThere_16 : decode cX9_needRouteThere 16 = .ok (.getfield 35, 3) := by decide +kernel
theorem dX9_needRouteThere_19 : decode cX9_needRouteThere 19 = .ok (.getfield 170, 3) := by decide +kernel
theorem dX9_needRouteThere_22 : decode cX9_needRouteThere 22 = .ok (.iload_n 1, 1) := by decide +kernel
theorem dX9_needRouteThere_23 : decode cX9_needRouteThere 23 = .ok (.baload, 1) := by decide +kernel
theorem dX9_needRouteThere_24 : decode cX9_needRouteThere 24 = .ok (.ifCond .eq 14, 3) := by decide +kernel
theorem dX9_needRouteThere_27 : decode cX9_needRouteThere 27 = .ok (.new 165, 3) := by decide +kernel
theorem dX9_needRouteThere_30 : decode cX9_needRouteThere 30 = .ok (.dup, 1) := by decide +kernel
theorem dX9_needRouteThere_31 : decode cX9_needRouteThere 31 = .ok (.ldc_w 276, 3) := by decide +kernel
theorem dX9_needRouteThere_34 : decode cX9_needRouteThere 34 = .ok (.invokespecial 169, 3) := by decide +kernel
theorem dX9_needRouteThere_37 : decode cX9_needRouteThere 37 = .ok (.athrow, 1) := by decide +kernel
theorem dX9_needRouteThere_38 : decode cX9_needRouteThere 38 = .ok (.return_, 1) := by decide +kernel
theorem dX9_needRange_0 : decode cX9_needRange 0 = .ok (.iload_n 0, 1) := by decide +kernel
theorem dX9_needRange_1 : decode cX9_needRange 1 = .ok (.iload_n 1, 1) := by decide +kernel
theorem dX9_needRange_2 : decode cX9_needRange 2 = .ok (.if_icmp .lt 8, 3) := by decide +kernel
theorem dX9_needRange_5 : decode cX9_needRange 5 = .ok (.iload_n 0, 1) := by decide +kernel
theorem dX9_needRange_6 : decode cX9_needRange 6 = .ok (.iload_n 2, 1) := by decide +kernel
theorem dX9_needRange_7 : decode cX9_needRange 7 = .ok (.if_icmp .le 14, 3) := by decide +kernel
theorem dX9_needRange_10 : decode cX9_needRange 10 = .ok (.new 178, 3) := by decide +kernel
theorem dX9_needRange_13 : decode cX9_needRange 13 = .ok (.dup, 1) := by decide +kernel
theorem dX9_needRange_14 : decode cX9_needRange 14 = .ok (.ldc_w 278, 3) := by decide +kernel
theorem dX9_needRange_17 : decode cX9_needRange 17 = .ok (.invokespecial 182, 3) := by decide +kernel
theorem dX9_needRange_20 : decode cX9_needRange 20 = .ok (.athrow, 1) := by decide +kernel
theorem dX9_needRange_21 : decode cX9_needRange 21 = .ok (.return_, 1) := by decide +kernel
theorem dX9_needBlock_0 : decode cX9_needBlock 0 = .ok (.iload_n 0, 1) := by decide +kernel
theorem dX9_needBlock_1 : decode cX9_needBlock 1 = .ok (.iconst 0, 1) := by decide +kernel
theorem dX9_needBlock_2 : decode cX9_needBlock 2 = .ok (.sipush 255, 3) := by decide +kernel
theorem dX9_needBlock_5 : decode cX9_needBlock 5 = .ok (.invokestatic 104, 3) := by decide +kernel
theorem dX9_needBlock_8 : decode cX9_needBlock 8 = .ok (.iload_n 1, 1) := by decide +kernel
theorem dX9_needBlock_9 : decode cX9_needBlock 9 = .ok (.iconst 0, 1) := by decide +kernel
theorem dX9_needBlock_10 : decode cX9_needBlock 10 = .ok (.bipush 8, 2) := by decide +kernel
theorem dX9_needBlock_12 : decode cX9_needBlock 12 = .ok (.invokestatic 104, 3) := by decide +kernel
theorem dX9_needBlock_15 : decode cX9_needBlock 15 = .ok (.iload_n 0, 1) := by decide +kernel
theorem dX9_needBlock_16 : decode cX9_needBlock 16 = .ok (.iload_n 1, 1) := by decide +kernel
theorem dX9_needBlock_17 : decode cX9_needBlock 17 = .ok (.invokestatic 280, 3) := by decide +kernel
theorem dX9_needBlock_20 : decode cX9_needBlock 20 = .ok (.ifCond .eq 14, 3) := by decide +kernel
theorem dX9_needBlock_23 : decode cX9_needBlock 23 = .ok (.new 178, 3) := by decide +kernel
theorem dX9_needBlock_26 : decode cX9_needBlock 26 = .ok (.dup, 1) := by decide +kernel
theorem dX9_needBlock_27 : decode cX9_needBlock 27 = .ok (.ldc_w 285, 3) := by decide +kernel
theorem dX9_needBlock_30 : decode cX9_needBlock 30 = .ok (.invokespecial 182, 3) := by decide +kernel
theorem dX9_needBlock_33 : decode cX9_needBlock 33 = .ok (.athrow, 1) := by decide +kernel
theorem dX9_needBlock_34 : decode cX9_needBlock 34 = .ok (.return_, 1) := by decide +kernel
theorem dX9_needRoomForObject_0 : decode cX9_needRoomForObject 0 = .ok (.aload_n 0, 1) := by decide +kernel
theorem dX9_needRoomForObject_1 : decode cX9_needRoomForObject 1 = .ok (.getfield 19, 3) := by decide +kernel
theorem dX9_needRoomForObject_4 : decode cX9_needRoomForObject 4 = .ok (.getfield 189, 3) := by decide +kernel
theorem dX9_needRoomForObject_7 : decode cX9_needRoomForObject 7 = .ok (.bipush 50, 2) := by decide +kernel
theorem dX9_needRoomForObject_9 : decode cX9_needRoomForObject 9 = .ok (.if_icmp .lt 14, 3) := by decide +kernel
theorem dX9_needRoomForObject_12 : decode cX9_needRoomForObject 12 = .ok (.new 81, 3) := by decide +kernel
theorem dX9_needRoomForObject_15 : decode cX9_needRoomForObject 15 = .ok (.dup, 1) := by decide +kernel
theorem dX9_needRoomForObject_16 : decode cX9_needRoomForObject 16 = .ok (.ldc_w 287, 3) := by decide +kernel
theorem dX9_needRoomForObject_19 : decode cX9_needRoomForObject 19 = .ok (.invokespecial 85, 3) := by decide +kernel
theorem dX9_needRoomForObject_22 : decode cX9_needRoomForObject 22 = .ok (.athrow, 1) := by decide +kernel
theorem dX9_needRoomForObject_23 : decode cX9_needRoomForObject 23 = .ok (.return_, 1) := by decide +kernel
theorem dX9_keep_0 : decode cX9_keep 0 = .ok (.aload_n 0, 1) := by decide +kernel
theorem dX9_keep_1 : decode cX9_keep 1 = .ok (.iload_n 1, 1) := by decide +kernel
theorem dX9_keep_2 : decode cX9_keep 2 = .ok (.invokevirtual 147, 3) := by decide +kernel
theorem dX9_keep_5 : decode cX9_keep 5 = .ok (.pop, 1) := by decide +kernel
theorem dX9_keep_6 : decode cX9_keep 6 = .ok (.iload_n 1, 1) := by decide +kernel
theorem dX9_keep_7 : decode cX9_keep 7 = .ok (.ireturn, 1) := by decide +kernel
theorem dX9_putSignature_0 : decode cX9_putSignature 0 = .ok (.aload_n 0, 1) := by decide +kernel
theorem dX9_putSignature_1 : decode cX9_putSignature 1 = .ok (.getfield 19, 3) := by decide +kernel
theorem dX9_putSignature_4 : decode cX9_putSignature 4 = .ok (.iload_n 1, 1) := by decide +kernel
theorem dX9_putSignature_5 : decode cX9_putSignature 5 = .ok (.aload_n 0, 1) := by decide +kernel
theorem dX9_putSignature_6 : decode cX9_putSignature 6 = .ok (.getfield 10, 3) := by decide +kernel
theorem dX9_putSignature_9 : decode cX9_putSignature 9 = .ok (.getfield 99, 3) := by decide +kernel
theorem dX9_putSignature_12 : decode cX9_putSignature 12 = .ok (.aload_n 0, 1) := by decide +kernel
theorem dX9_putSignature_13 : decode cX9_putSignature 13 = .ok (.getfield 19, 3) := by decide +kernel
theorem dX9_putSignature_16 : decode cX9_putSignature 16 = .ok (.getfield 289, 3) := by decide +kernel
theorem dX9_putSignature_19 : decode cX9_putSignature 19 = .ok (.iload_n 1, 1) := by decide +kernel
theorem dX9_putSignature_20 : decode cX9_putSignature 20 = .ok (.iaload, 1) := by decide +kernel
theorem dX9_putSignature_21 : decode cX9_putSignature 21 = .ok (.iaload, 1) := by decide +kernel
theorem dX9_putSignature_22 : decode cX9_putSignature 22 = .ok (.invokevirtual 292, 3) := by decide +kernel
theorem dX9_putSignature_25 : decode cX9_putSignature 25 = .ok (.istore_n 2, 1) := by decide +kernel
theorem dX9_putSignature_26 : decode cX9_putSignature 26 = .ok (.aload_n 0, 1) := by decide +kernel
theorem dX9_putSignature_27 : decode cX9_putSignature 27 = .ok (.getfield 19, 3) := by decide +kernel
theorem dX9_putSignature_30 : decode cX9_putSignature 30 = .ok (.getfield 295, 3) := by decide +kernel
theorem dX9_putSignature_33 : decode cX9_putSignature 33 = .ok (.iload_n 1, 1) := by decide +kernel
theorem dX9_putSignature_34 : decode cX9_putSignature 34 = .ok (.iload_n 2, 1) := by decide +kernel
theorem dX9_putSignature_35 : decode cX9_putSignature 35 = .ok (.iastore, 1) := by decide +kernel
theorem dX9_putSignature_36 : decode cX9_putSignature 36 = .ok (.iload_n 2, 1) := by decide +kernel
theorem dX9_putSignature_37 : decode cX9_putSignature 37 = .ok (.ireturn, 1) := by decide +kernel
theorem dX9_readVouchers_0 : decode cX9_readVouchers 0 = .ok (.aload_n 0, 1) := by decide +kernel
theorem dX9_readVouchers_1 : decode cX9_readVouchers 1 = .ok (.getfield 28, 3) := by decide +kernel
theorem dX9_readVouchers_4 : decode cX9_readVouchers 4 = .ok (.invokevirtual 190, 3) := by decide +kernel
theorem dX9_readVouchers_7 : decode cX9_readVouchers 7 = .ok (.aload_n 0, 1) := by decide +kernel
theorem dX9_readVouchers_8 : decode cX9_readVouchers 8 = .ok (.getfield 51, 3) := by decide +kernel
theorem dX9_readVouchers_11 : decode cX9_readVouchers 11 = .ok (.invokevirtual 298, 3) := by decide +kernel
theorem dX9_readVouchers_14 : decode cX9_readVouchers 14 = .ok (.iconst 0, 1) := by decide +kernel
theorem dX9_readVouchers_15 : decode cX9_readVouchers 15 = .ok (.istore_n 1, 1) := by decide +kernel
theorem dX9_readVouchers_16 : decode cX9_readVouchers 16 = .ok (.iload_n 1, 1) := by decide +kernel
theorem dX9_readVouchers_17 : decode cX9_readVouchers 17 = .ok (.aload_n 0, 1) := by decide +kernel
theorem dX9_readVouchers_18 : decode cX9_readVouchers 18 = .ok (.getfield 19, 3) := by decide +kernel
theorem dX9_readVouchers_21 : decode cX9_readVouchers 21 = .ok (.getfield 189, 3) := by decide +kernel
theorem dX9_readVouchers_24 : decode cX9_readVouchers 24 = .ok (.if_icmp .ge 59, 3) := by decide +kernel
theorem dX9_readVouchers_27 : decode cX9_readVouchers 27 = .ok (.aload_n 0, 1) := by decide +kernel
theorem dX9_readVouchers_28 : decode cX9_readVouchers 28 = .ok (.getfield 19, 3) := by decide +kernel
theorem dX9_readVouchers_31 : decode cX9_readVouchers 31 = .ok (.getfield 139, 3) := by decide +kernel
theorem dX9_readVouchers_34 : decode cX9_readVouchers 34 = .ok (.iload_n 1, 1) := by decide +kernel
theorem dX9_readVouchers_35 : decode cX9_readVouchers 35 = .ok (.iaload, 1) := by decide +kernel
theorem dX9_readVouchers_36 : decode cX9_readVouchers 36 = .ok (.iconst 2, 1) := by decide +kernel
theorem dX9_readVouchers_37 : decode cX9_readVouchers 37 = .ok (.if_icmp .ne 40, 3) := by decide +kernel
theorem dX9_readVouchers_40 : decode cX9_readVouchers 40 = .ok (.aload_n 0, 1) := by decide +kernel
theorem dX9_readVouchers_41 : decode cX9_readVouchers 41 = .ok (.getfield 28, 3) := by decide +kernel
theorem dX9_readVouchers_44 : decode cX9_readVouchers 44 = .ok (.getfield 193, 3) := by decide +kernel
theorem dX9_readVouchers_47 : decode cX9_readVouchers 47 = .ok (.iload_n 1, 1) := by decide +kernel
theorem dX9_readVouchers_48 : decode cX9_readVouchers 48 = .ok (.iaload, 1) := by decide +kernel
theorem dX9_readVouchers_49 : decode cX9_readVouchers 49 = .ok (.ifCond .ne 28, 3) := by decide +kernel
theorem dX9_readVouchers_52 : decode cX9_readVouchers 52 = .ok (.aload_n 0, 1) := by decide +kernel
theorem dX9_readVouchers_53 : decode cX9_readVouchers 53 = .ok (.getfield 51, 3) := by decide +kernel
theorem dX9_readVouchers_56 : decode cX9_readVouchers 56 = .ok (.aload_n 0, 1) := by decide +kernel
theorem dX9_readVouchers_57 : decode cX9_readVouchers 57 = .ok (.getfield 19, 3) := by decide +kernel
theorem dX9_readVouchers_60 : decode cX9_readVouchers 60 = .ok (.getfield 301, 3) := by decide +kernel
theorem dX9_readVouchers_63 : decode cX9_readVouchers 63 = .ok (.iload_n 1, 1) := by decide +kernel
theorem dX9_readVouchers_64 : decode cX9_readVouchers 64 = .ok (.iaload, 1) := by decide +kernel
theorem dX9_readVouchers_65 : decode cX9_readVouchers 65 = .ok (.aload_n 0, 1) := by decide +kernel
theorem dX9_readVouchers_66 : decode cX9_readVouchers 66 = .ok (.getfield 19, 3) := by decide +kernel
theorem dX9_readVouchers_69 : decode cX9_readVouchers 69 = .ok (.getfield 144, 3) := by decide +kernel
theorem dX9_readVouchers_72 : decode cX9_readVouchers 72 = .ok (.iload_n 1, 1) := by decide +kernel
theorem dX9_readVouchers_73 : decode cX9_readVouchers 73 = .ok (.iaload, 1) := by decide +kernel
theorem dX9_readVouchers_74 : decode cX9_readVouchers 74 = .ok (.invokevirtual 304, 3) := by decide +kernel
theorem dX9_readVouchers_77 : decode cX9_readVouchers 77 = .ok (.iinc 1 1, 3) := by decide +kernel
theorem dX9_readVouchers_80 : decode cX9_readVouchers 80 = .ok (.goto (-64), 3) := by decide +kernel
theorem dX9_readVouchers_83 : decode cX9_readVouchers 83 = .ok (.return_, 1) := by decide +kernel
theorem dX9_isIn_0 : decode cX9_isIn 0 = .ok (.iload_n 0, 1) := by decide +kernel
theorem dX9_isIn_1 : decode cX9_isIn 1 = .ok (.iload_n 1, 1) := by decide +kernel
theorem dX9_isIn_2 : decode cX9_isIn 2 = .ok (.ishr, 1) := by decide +kernel
theorem dX9_isIn_3 : decode cX9_isIn 3 = .ok (.iconst 1, 1) := by decide +kernel
theorem dX9_isIn_4 : decode cX9_isIn 4 = .ok (.iand, 1) := by decide +kernel
theorem dX9_isIn_5 : decode cX9_isIn 5 = .ok (.iconst 1, 1) := by decide +kernel
theorem dX9_isIn_6 : decode cX9_isIn 6 = .ok (.if_icmp .ne 7, 3) := by decide +kernel
theorem dX9_isIn_9 : decode cX9_isIn 9 = .ok (.iconst 1, 1) := by decide +kernel
theorem dX9_isIn_10 : decode cX9_isIn 10 = .ok (.goto 4, 3) := by decide +kernel
theorem dX9_isIn_13 : decode cX9_isIn 13 = .ok (.iconst 0, 1) := by decide +kernel
theorem dX9_isIn_14 : decode cX9_isIn 14 = .ok (.ireturn, 1) := by decide +kernel
theorem dJ6_bitCount_0f7a4_0 : decode cJ6_bitCount_0f7a4 0 = .ok (.iload_n 0, 1) := by decide +kernel
theorem dJ6_bitCount_0f7a4_1 : decode cJ6_bitCount_0f7a4 1 = .ok (.iload_n 0, 1) := by decide +kernel
theorem dJ6_bitCount_0f7a4_2 : decode cJ6_bitCount_0f7a4 2 = .ok (.iconst 1, 1) := by decide +kernel
theorem dJ6_bitCount_0f7a4_3 : decode cJ6_bitCount_0f7a4 3 = .ok (.iushr, 1) := by decide +kernel
theorem dJ6_bitCount_0f7a4_4 : decode cJ6_bitCount_0f7a4 4 = .ok (.ldc_w 265, 3) := by decide +kernel
theorem dJ6_bitCount_0f7a4_7 : decode cJ6_bitCount_0f7a4 7 = .ok (.iand, 1) := by decide +kernel
theorem dJ6_bitCount_0f7a4_8 : decode cJ6_bitCount_0f7a4 8 = .ok (.isub, 1) := by decide +kernel
theorem dJ6_bitCount_0f7a4_9 : decode cJ6_bitCount_0f7a4 9 = .ok (.istore_n 0, 1) := by decide +kernel
theorem dJ6_bitCount_0f7a4_10 : decode cJ6_bitCount_0f7a4 10 = .ok (.iload_n 0, 1) := by decide +kernel
theorem dJ6_bitCount_0f7a4_11 : decode cJ6_bitCount_0f7a4 11 = .ok (.ldc_w 266, 3) := by decide +kernel
theorem dJ6_bitCount_0f7a4_14 : decode cJ6_bitCount_0f7a4 14 = .ok (.iand, 1) := by decide +kernel
theorem dJ6_bitCount_0f7a4_15 : decode cJ6_bitCount_0f7a4 15 = .ok (.iload_n 0, 1) := by decide +kernel
theorem dJ6_bitCount_0f7a4_16 : decode cJ6_bitCount_0f7a4 16 = .ok (.iconst 2, 1) := by decide +kernel
theorem dJ6_bitCount_0f7a4_17 : decode cJ6_bitCount_0f7a4 17 = .ok (.iushr, 1) := by decide +kernel
theorem dJ6_bitCount_0f7a4_18 : decode cJ6_bitCount_0f7a4 18 = .ok (.ldc_w 266, 3) := by decide +kernel
theorem dJ6_bitCount_0f7a4_21 : decode cJ6_bitCount_0f7a4 21 = .ok (.iand, 1) := by decide +kernel
theorem dJ6_bitCount_0f7a4_22 : decode cJ6_bitCount_0f7a4 22 = .ok (.iadd, 1) := by decide +kernel
theorem dJ6_bitCount_0f7a4_23 : decode cJ6_bitCount_0f7a4 23 = .ok (.istore_n 0, 1) := by decide +kernel
theorem dJ6_bitCount_0f7a4_24 : decode cJ6_bitCount_0f7a4 24 = .ok (.iload_n 0, 1) := by decide +kernel
theorem dJ6_bitCount_0f7a4_25 : decode cJ6_bitCount_0f7a4 25 = .ok (.iload_n 0, 1) := by decide +kernel
theorem dJ6_bitCount_0f7a4_26 : decode cJ6_bitCount_0f7a4 26 = .ok (.iconst 4, 1) := by decide +kernel
theorem dJ6_bitCount_0f7a4_27 : decode cJ6_bitCount_0f7a4 27 = .ok (.iushr, 1) := by decide +kernel
theorem dJ6_bitCount_0f7a4_28 : decode cJ6_bitCount_0f7a4 28 = .ok (.iadd, 1) := by decide +kernel
theorem dJ6_bitCount_0f7a4_29 : decode cJ6_bitCount_0f7a4 29 = .ok (.ldc_w 267, 3) := by decide +kernel
theorem dJ6_bitCount_0f7a4_32 : decode cJ6_bitCount_0f7a4 32 = .ok (.iand, 1) := by decide +kernel
theorem dJ6_bitCount_0f7a4_33 : decode cJ6_bitCount_0f7a4 33 = .ok (.istore_n 0, 1) := by decide +kernel
theorem dJ6_bitCount_0f7a4_34 : decode cJ6_bitCount_0f7a4 34 = .ok (.iload_n 0, 1) := by decide +kernel
theorem dJ6_bitCount_0f7a4_35 : decode cJ6_bitCount_0f7a4 35 = .ok (.iload_n 0, 1) := by decide +kernel
theorem dJ6_bitCount_0f7a4_36 : decode cJ6_bitCount_0f7a4 36 = .ok (.bipush 8, 2) := by decide +kernel
theorem dJ6_bitCount_0f7a4_38 : decode cJ6_bitCount_0f7a4 38 = .ok (.iushr, 1) := by decide +kernel
theorem dJ6_bitCount_0f7a4_39 : decode cJ6_bitCount_0f7a4 39 = .ok (.iadd, 1) := by decide +kernel
theorem dJ6_bitCount_0f7a4_40 : decode cJ6_bitCount_0f7a4 40 = .ok (.istore_n 0, 1) := by decide +kernel
theorem dJ6_bitCount_0f7a4_41 : decode cJ6_bitCount_0f7a4 41 = .ok (.iload_n 0, 1) := by decide +kernel
theorem dJ6_bitCount_0f7a4_42 : decode cJ6_bitCount_0f7a4 42 = .ok (.iload_n 0, 1) := by decide +kernel
theorem dJ6_bitCount_0f7a4_43 : decode cJ6_bitCount_0f7a4 43 = .ok (.bipush 16, 2) := by decide +kernel
theorem dJ6_bitCount_0f7a4_45 : decode cJ6_bitCount_0f7a4 45 = .ok (.iushr, 1) := by decide +kernel
theorem dJ6_bitCount_0f7a4_46 : decode cJ6_bitCount_0f7a4 46 = .ok (.iadd, 1) := by decide +kernel
theorem dJ6_bitCount_0f7a4_47 : decode cJ6_bitCount_0f7a4 47 = .ok (.istore_n 0, 1) := by decide +kernel
theorem dJ6_bitCount_0f7a4_48 : decode cJ6_bitCount_0f7a4 48 = .ok (.iload_n 0, 1) := by decide +kernel
theorem dJ6_bitCount_0f7a4_49 : decode cJ6_bitCount_0f7a4 49 = .ok (.bipush 63, 2) := by decide +kernel
theorem dJ6_bitCount_0f7a4_51 : decode cJ6_bitCount_0f7a4 51 = .ok (.iand, 1) := by decide +kernel
theorem dJ6_bitCount_0f7a4_52 : decode cJ6_bitCount_0f7a4 52 = .ok (.ireturn, 1) := by decide +kernel
theorem dL_asks_0 : decode cL_asks 0 = .ok (.iload_n 1, 1) := by decide +kernel
theorem dL_asks_1 : decode cL_asks 1 = .ok (.ifCond .ne 12, 3) := by decide +kernel
theorem dL_asks_4 : decode cL_asks 4 = .ok (.aload_n 0, 1) := by decide +kernel
theorem dL_asks_5 : decode cL_asks 5 = .ok (.iload_n 2, 1) := by decide +kernel
theorem dL_asks_6 : decode cL_asks 6 = .ok (.iload_n 3, 1) := by decide +kernel
theorem dL_asks_7 : decode cL_asks 7 = .ok (.invokevirtual 7, 3) := by decide +kernel
theorem dL_asks_10 : decode cL_asks 10 = .ok (.goto 71, 3) := by decide +kernel
theorem dL_asks_13 : decode cL_asks 13 = .ok (.iload_n 1, 1) := by decide +kernel
theorem dL_asks_14 : decode cL_asks 14 = .ok (.iconst 1, 1) := by decide +kernel
theorem dL_asks_15 : decode cL_asks 15 = .ok (.if_icmp .ne 11, 3) := by decide +kernel
theorem dL_asks_18 : decode cL_asks 18 = .ok (.aload_n 0, 1) := by decide +kernel
theorem dL_asks_19 : decode cL_asks 19 = .ok (.iload_n 2, 1) := by decide +kernel
theorem dL_asks_20 : decode cL_asks 20 = .ok (.invokevirtual 13, 3) := by decide +kernel
theorem dL_asks_23 : decode cL_asks 23 = .ok (.goto 58, 3) := by decide +kernel
theorem dL_asks_26 : decode cL_asks 26 = .ok (.iload_n 1, 1) := by decide +kernel
theorem dL_asks_27 : decode cL_asks 27 = .ok (.iconst 2, 1) := by decide +kernel
theorem dL_asks_28 : decode cL_asks 28 = .ok (.if_icmp .ne 21, 3) := by decide +kernel
theorem dL_asks_31 : decode cL_asks 31 = .ok (.aload_n 0, 1) := by decide +kernel
theorem dL_asks_32 : decode cL_asks 32 = .ok (.iload_n 2, 1) := by decide +kernel
theorem dL_asks_33 : decode cL_asks 33 = .ok (.iload_n 3, 1) := by decide +kernel
theorem dL_asks_34 : decode cL_asks 34 = .ok (.iconst 1, 1) := by decide +kernel
theorem dL_asks_35 : decode cL_asks 35 = .ok (.if_icmp .ne 7, 3) := by decide +kernel
theorem dL_asks_38 : decode cL_asks 38 = .ok (.iconst 1, 1) := by decide +kernel
theorem dL_asks_39 : decode cL_asks 39 = .ok (.goto 4, 3) := by decide +kernel
theorem dL_asks_42 : decode cL_asks 42 = .ok (.iconst 0, 1) := by decide +kernel
theorem dL_asks_43 : decode cL_asks 43 = .ok (.invokevirtual 17, 3) := by decide +kernel
theorem dL_asks_46 : decode cL_asks 46 = .ok (.goto 35, 3) := by decide +kernel
theorem dL_asks_49 : decode cL_asks 49 = .ok (.iload_n 1, 1) := by decide +kernel
theorem dL_asks_50 : decode cL_asks 50 = .ok (.iconst 3, 1) := by decide +kernel
theorem dL_asks_51 : decode cL_asks 51 = .ok (.if_icmp .ne 11, 3) := by decide +kernel
theorem dL_asks_54 : decode cL_asks 54 = .ok (.aload_n 0, 1) := by decide +kernel
theorem dL_asks_55 : decode cL_asks 55 = .ok (.iload_n 2, 1) := by decide +kernel
theorem dL_asks_56 : decode cL_asks 56 = .ok (.invokevirtual 21, 3) := by decide +kernel
theorem dL_asks_59 : decode cL_asks 59 = .ok (.goto 22, 3) := by decide +kernel
theorem dL_asks_62 : decode cL_asks 62 = .ok (.iload_n 1, 1) := by decide +kernel
theorem dL_asks_63 : decode cL_asks 63 = .ok (.iconst 4, 1) := by decide +kernel
theorem dL_asks_64 : decode cL_asks 64 = .ok (.if_icmp .ne 12, 3) := by decide +kernel
theorem dL_asks_67 : decode cL_asks 67 = .ok (.aload_n 0, 1) := by decide +kernel
theorem dL_asks_68 : decode cL_asks 68 = .ok (.iload_n 2, 1) := by decide +kernel
theorem dL_asks_69 : decode cL_asks 69 = .ok (.iload_n 3, 1) := by decide +kernel
theorem dL_asks_70 : decode cL_asks 70 = .ok (.invokevirtual 24, 3) := by decide +kernel
theorem dL_asks_73 : decode cL_asks 73 = .ok (.goto 8, 3) := by decide +kernel
theorem dL_asks_76 : decode cL_asks 76 = .ok (.aload_n 0, 1) := by decide +kernel
theorem dL_asks_77 : decode cL_asks 77 = .ok (.iload_n 2, 1) := by decide +kernel
theorem dL_asks_78 : decode cL_asks 78 = .ok (.invokevirtual 27, 3) := by decide +kernel
theorem dL_asks_81 : decode cL_asks 81 = .ok (.ireturn, 1) := by decide +kernel
theorem dL_on_0 : decode cL_on 0 = .ok (.aload_n 0, 1) := by decide +kernel
theorem dL_on_1 : decode cL_on 1 = .ok (.iload_n 1, 1) := by decide +kernel
theorem dL_on_2 : decode cL_on 2 = .ok (.iload_n 2, 1) := by decide +kernel
theorem dL_on_3 : decode cL_on 3 = .ok (.iload_n 3, 1) := by decide +kernel
theorem dL_on_4 : decode cL_on 4 = .ok (.invokestatic 30, 3) := by decide +kernel
theorem dL_on_7 : decode cL_on 7 = .ok (.ireturn, 1) := by decide +kernel
theorem dL_on_8 : decode cL_on 8 = .ok (.astore 4, 2) := by decide +kernel
theorem dL_on_10 : decode cL_on 10 = .ok (.bipush (-11), 2) := by decide +kernel
theorem dL_on_12 : decode cL_on 12 = .ok (.ireturn, 1) := by decide +kernel
theorem dL_on_13 : decode cL_on 13 = .ok (.astore 4, 2) := by decide +kernel
theorem dL_on_15 : decode cL_on 15 = .ok (.bipush (-13), 2) := by decide +kernel
theorem dL_on_17 : decode cL_on 17 = .ok (.ireturn, 1) := by decide +kernel
theorem dL_areBlocks_0 : decode cL_areBlocks 0 = .ok (.aload_n 0, 1) := by decide +kernel
theorem dL_areBlocks_1 : decode cL_areBlocks 1 = .ok (.iload 6, 2) := by decide +kernel
theorem dL_areBlocks_3 : decode cL_areBlocks 3 = .ok (.iload 8, 2) := by decide +kernel
theorem dL_areBlocks_5 : decode cL_areBlocks 5 = .ok (.iload 9, 2) := by decide +kernel
theorem dL_areBlocks_7 : decode cL_areBlocks 7 = .ok (.invokevirtual 40, 3) := by decide +kernel
theorem dL_areBlocks_10 : decode cL_areBlocks 10 = .ok (.istore 10, 2) := by decide +kernel
theorem dL_areBlocks_12 : decode cL_areBlocks 12 = .ok (.iload 10, 2) := by decide +kernel
theorem dL_areBlocks_14 : decode cL_areBlocks 14 = .ok (.aload_n 0, 1) := by decide +kernel
theorem dL_areBlocks_15 : decode cL_areBlocks 15 = .ok (.iload 6, 2) := by decide +kernel
theorem dL_areBlocks_17 : decode cL_areBlocks 17 = .ok (.iload 8, 2) := by decide +kernel
theorem dL_areBlocks_19 : decode cL_areBlocks 19 = .ok (.iload 9, 2) := by decide +kernel
theorem dL_areBlocks_21 : decode cL_areBlocks 21 = .ok (.invokevirtual 44, 3) := by decide +kernel
theorem dL_areBlocks_24 : decode cL_areBlocks 24 = .ok (.if_icmp .ne 66, 3) := by decide +kernel
theorem dL_areBlocks_27 : decode cL_areBlocks 27 = .ok (.iload 6, 2) := by decide +kernel
theorem dL_areBlocks_29 : decode cL_areBlocks 29 = .ok (.ifCond .gt 8, 3) := by decide +kernel
theorem dL_areBlocks_32 : decode cL_areBlocks 32 = .ok (.iload 10, 2) := by decide +kernel
theorem dL_areBlocks_34 : decode cL_areBlocks 34 = .ok (.ifCond .eq 56, 3) := by decide +kernel
theorem dL_areBlocks_37 : decode cL_areBlocks 37 = .ok (.iload 9, 2) := by decide +kernel
theorem dL_areBlocks_39 : decode cL_areBlocks 39 = .ok (.bipush 8, 2) := by decide +kernel
theorem dL_areBlocks_41 : decode cL_areBlocks 41 = .ok (.if_icmp .eq 45, 3) := by decide +kernel
theorem dL_areBlocks_44 : decode cL_areBlocks 44 = .ok (.iload 10, 2) := by decide +kernel
theorem dL_areBlocks_46 : decode cL_areBlocks 46 = .ok (.ifCond .eq 40, 3) := by decide +kernel
theorem dL_areBlocks_49 : decode cL_areBlocks 49 = .ok (.aload_n 0, 1) := by decide +kernel
theorem dL_areBlocks_50 : decode cL_areBlocks 50 = .ok (.iload 6, 2) := by decide +kernel
theorem dL_areBlocks_52 : decode cL_areBlocks 52 = .ok (.iload 8, 2) := by decide +kernel
theorem dL_areBlocks_54 : decode cL_areBlocks 54 = .ok (.iload 9, 2) := by decide +kernel
theorem dL_areBlocks_56 : decode cL_areBlocks 56 = .ok (.iconst 1, 1) := by decide +kernel
theorem dL_areBlocks_57 : decode cL_areBlocks 57 = .ok (.iadd, 1) := by decide +kernel
theorem dL_areBlocks_58 : decode cL_areBlocks 58 = .ok (.invokevirtual 40, 3) := by decide +kernel
theorem dL_areBlocks_61 : decode cL_areBlocks 61 = .ok (.ifCond .eq 29, 3) := by decide +kernel
theorem dL_areBlocks_64 : decode cL_areBlocks 64 = .ok (.aload_n 0, 1) := by decide +kernel
theorem dL_areBlocks_65 : decode cL_areBlocks 65 = .ok (.iload 6, 2) := by decide +kernel
theorem dL_areBlocks_67 : decode cL_areBlocks 67 = .ok (.iload 8, 2) := by decide +kernel
theorem dL_areBlocks_69 : decode cL_areBlocks 69 = .ok (.sipush 128, 3) := by decide +kernel
theorem dL_areBlocks_72 : decode cL_areBlocks 72 = .ok (.iload 9, 2) := by decide +kernel
theorem dL_areBlocks_74 : decode cL_areBlocks 74 = .ok (.ishr, 1) := by decide +kernel
theorem dL_areBlocks_75 : decode cL_areBlocks 75 = .ok (.iadd, 1) := by decide +kernel
theorem dL_areBlocks_76 : decode cL_areBlocks 76 = .ok (.iload 9, 2) := by decide +kernel
theorem dL_areBlocks_78 : decode cL_areBlocks 78 = .ok (.iconst 1, 1) := by decide +kernel
theorem dL_areBlocks_79 : decode cL_areBlocks 79 = .ok (.iadd, 1) := by decide +kernel
theorem dL_areBlocks_80 : decode cL_areBlocks 80 = .ok (.invokevirtual 40, 3) := by decide +kernel
theorem dL_areBlocks_83 : decode cL_areBlocks 83 = .ok (.ifCond .eq 7, 3) := by decide +kernel
theorem dL_areBlocks_86 : decode cL_areBlocks 86 = .ok (.iconst 1, 1) := by decide +kernel
theorem dL_areBlocks_87 : decode cL_areBlocks 87 = .ok (.goto 4, 3) := by decide +kernel
theorem dL_areBlocks_90 : decode cL_areBlocks 90 = .ok (.iconst 0, 1) := by decide +kernel
theorem dL_areBlocks_91 : decode cL_areBlocks 91 = .ok (.istore 11, 2) := by decide +kernel
theorem dL_areBlocks_93 : decode cL_areBlocks 93 = .ok (.iconst 0, 1) := by decide +kernel
theorem dL_areBlocks_94 : decode cL_areBlocks 94 = .ok (.istore 12, 2) := by decide +kernel
theorem dL_areBlocks_96 : decode cL_areBlocks 96 = .ok (.iconst 0, 1) := by decide +kernel
theorem dL_areBlocks_97 : decode cL_areBlocks 97 = .ok (.istore 13, 2) := by decide +kernel
theorem dL_areBlocks_99 : decode cL_areBlocks 99 = .ok (.iconst 0, 1) := by decide +kernel
theorem dL_areBlocks_100 : decode cL_areBlocks 100 = .ok (.istore 14, 2) := by decide +kernel
theorem dL_areBlocks_102 : decode cL_areBlocks 102 = .ok (.iload 14, 2) := by decide +kernel
theorem dL_areBlocks_104 : decode cL_areBlocks 104 = .ok (.iload 5, 2) := by decide +kernel
theorem dL_areBlocks_106 : decode cL_areBlocks 106 = .ok (.if_icmp .ge 186, 3) := by decide +kernel
theorem dL_areBlocks_109 : decode cL_areBlocks 109 = .ok (.iload 11, 2) := by decide +kernel
theorem dL_areBlocks_111 : decode cL_areBlocks 111 = .ok (.ifCond .eq 181, 3) := by decide +kernel
theorem dL_areBlocks_114 : decode cL_areBlocks 114 = .ok (.aload_n 0, 1) := by decide +kernel
theorem dL_areBlocks_115 : decode cL_areBlocks 115 = .ok (.iload 14, 2) := by decide +kernel
theorem dL_areBlocks_117 : decode cL_areBlocks 117 = .ok (.invokevirtual 47, 3) := by decide +kernel
theorem dL_areBlocks_120 : decode cL_areBlocks 120 = .ok (.istore 15, 2) := by decide +kernel
theorem dL_areBlocks_122 : decode cL_areBlocks 122 = .ok (.iload 9, 2) := by decide +kernel
theorem dL_areBlocks_124 : decode cL_areBlocks 124 = .ok (.aload 4, 2) := by decide +kernel
theorem dL_areBlocks_126 : decode cL_areBlocks 126 = .ok (.iload 14, 2) := by decide +kernel
theorem dL_areBlocks_128 : decode cL_areBlocks 128 = .ok (.iaload, 1) := by decide +kernel
theorem dL_areBlocks_129 : decode cL_areBlocks 129 = .ok (.if_icmp .lt 34, 3) := by decide +kernel
theorem dL_areBlocks_132 : decode cL_areBlocks 132 = .ok (.iload 8, 2) := by decide +kernel
theorem dL_areBlocks_134 : decode cL_areBlocks 134 = .ok (.bipush 8, 2) := by decide +kernel
theorem dL_areBlocks_136 : decode cL_areBlocks 136 = .ok (.aload 4, 2) := by decide +kernel
theorem dL_areBlocks_138 : decode cL_areBlocks 138 = .ok (.iload 14, 2) := by decide +kernel
theorem dL_areBlocks_140 : decode cL_areBlocks 140 = .ok (.iaload, 1) := by decide +kernel
theorem dL_areBlocks_141 : decode cL_areBlocks 141 = .ok (.isub, 1) := by decide +kernel
theorem dL_areBlocks_142 : decode cL_areBlocks 142 = .ok (.ishr, 1) := by decide +kernel
theorem dL_areBlocks_143 : decode cL_areBlocks 143 = .ok (.aload_n 3, 1) := by decide +kernel
theorem dL_areBlocks_144 : decode cL_areBlocks 144 = .ok (.iload 14, 2) := by decide +kernel
theorem dL_areBlocks_146 : decode cL_areBlocks 146 = .ok (.iaload, 1) := by decide +kernel
theorem dL_areBlocks_147 : decode cL_areBlocks 147 = .ok (.bipush 8, 2) := by decide +kernel
theorem dL_areBlocks_149 : decode cL_areBlocks 149 = .ok (.aload 4, 2) := by decide +kernel
theorem dL_areBlocks_151 : decode cL_areBlocks 151 = .ok (.iload 14, 2) := by decide +kernel
theorem dL_areBlocks_153 : decode cL_areBlocks 153 = .ok (.iaload, 1) := by decide +kernel
theorem dL_areBlocks_154 : decode cL_areBlocks 154 = .ok (.isub, 1) := by decide +kernel
theorem dL_areBlocks_155 : decode cL_areBlocks 155 = .ok (.ishr, 1) := by decide +kernel
theorem dL_areBlocks_156 : decode cL_areBlocks 156 = .ok (.if_icmp .ne 7, 3) := by decide +kernel
theorem dL_areBlocks_159 : decode cL_areBlocks 159 = .ok (.iconst 1, 1) := by decide +kernel
theorem dL_areBlocks_160 : decode cL_areBlocks 160 = .ok (.goto 4, 3) := by decide +kernel
theorem dL_areBlocks_163 : decode cL_areBlocks 163 = .ok (.iconst 0, 1) := by decide +kernel
theorem dL_areBlocks_164 : decode cL_areBlocks 164 = .ok (.istore 16, 2) := by decide +kernel
theorem dL_areBlocks_166 : decode cL_areBlocks 166 = .ok (.iload 12, 2) := by decide +kernel
theorem dL_areBlocks_168 : decode cL_areBlocks 168 = .ok (.ifCond .ne 30, 3) := by decide +kernel
theorem dL_areBlocks_171 : decode cL_areBlocks 171 = .ok (.aload_n 1, 1) := by decide +kernel
theorem dL_areBlocks_172 : decode cL_areBlocks 172 = .ok (.iload 14, 2) := by decide +kernel
theorem dL_areBlocks_174 : decode cL_areBlocks 174 = .ok (.iaload, 1) := by decide +kernel
theorem dL_areBlocks_175 : decode cL_areBlocks 175 = .ok (.iconst 1, 1) := by decide +kernel
theorem dL_areBlocks_176 : decode cL_areBlocks 176 = .ok (.if_icmp .ne 26, 3) := by decide +kernel
theorem dL_areBlocks_179 : decode cL_areBlocks 179 = .ok (.iload 15, 2) := by decide +kernel
theorem dL_areBlocks_181 : decode cL_areBlocks 181 = .ok (.ifCond .ne 21, 3) := by decide +kernel
theorem dL_areBlocks_184 : decode cL_areBlocks 184 = .ok (.iload 16, 2) := by decide +kernel
theorem dL_areBlocks_186 : decode cL_areBlocks 186 = .ok (.ifCond .eq 16, 3) := by decide +kernel
theorem dL_areBlocks_189 : decode cL_areBlocks 189 = .ok (.aload_n 2, 1) := by decide +kernel
theorem dL_areBlocks_190 : decode cL_areBlocks 190 = .ok (.iload 14, 2) := by decide +kernel
theorem dL_areBlocks_192 : decode cL_areBlocks 192 = .ok (.iaload, 1) := by decide +kernel
theorem dL_areBlocks_193 : decode cL_areBlocks 193 = .ok (.iload 7, 2) := by decide +kernel
theorem dL_areBlocks_195 : decode cL_areBlocks 195 = .ok (.if_icmp .ne 7, 3) := by decide +kernel
theorem dL_areBlocks_198 : decode cL_areBlocks 198 = .ok (.iconst 1, 1) := by decide +kernel
theorem dL_areBlocks_199 : decode cL_areBlocks 199 = .ok (.goto 4, 3) := by decide +kernel
theorem dL_areBlocks_202 : decode cL_areBlocks 202 = .ok (.iconst 0, 1) := by decide +kernel
theorem dL_areBlocks_203 : decode cL_areBlocks 203 = .ok (.istore 12, 2) := by decide +kernel
theorem dL_areBlocks_205 : decode cL_areBlocks 205 = .ok (.iload 13, 2) := by decide +kernel
theorem dL_areBlocks_207 : decode cL_areBlocks 207 = .ok (.ifCond .ne 21, 3) := by decide +kernel
theorem dL_areBlocks_210 : decode cL_areBlocks 210 = .ok (.aload_n 1, 1) := by decide +kernel
theorem dL_areBlocks_211 : decode cL_areBlocks 211 = .ok (.iload 14, 2) := by decide +kernel
theorem dL_areBlocks_213 : decode cL_areBlocks 213 = .ok (.iaload, 1) := by decide +kernel
theorem dL_areBlocks_214 : decode cL_areBlocks 214 = .ok (.iconst 1, 1) := by decide +kernel
theorem dL_areBlocks_215 : decode cL_areBlocks 215 = .ok (.if_icmp .ne 17, 3) := by decide +kernel
theorem dL_areBlocks_218 : decode cL_areBlocks 218 = .ok (.iload 15, 2) := by decide +kernel
theorem dL_areBlocks_220 : decode cL_areBlocks 220 = .ok (.ifCond .ne 12, 3) := by decide +kernel
theorem dL_areBlocks_223 : decode cL_areBlocks 223 = .ok (.iload 16, 2) := by decide +kernel
theorem dL_areBlocks_225 : decode cL_areBlocks 225 = .ok (.ifCond .eq 7, 3) := by decide +kernel
theorem dL_areBlocks_228 : decode cL_areBlocks 228 = .ok (.iconst 1, 1) := by decide +kernel
theorem dL_areBlocks_229 : decode cL_areBlocks 229 = .ok (.goto 4, 3) := by decide +kernel
theorem dL_areBlocks_232 : decode cL_areBlocks 232 = .ok (.iconst 0, 1) := by decide +kernel
theorem dL_areBlocks_233 : decode cL_areBlocks 233 = .ok (.istore 13, 2) := by decide +kernel
theorem dL_areBlocks_235 : decode cL_areBlocks 235 = .ok (.iload 15, 2) := by decide +kernel
theorem dL_areBlocks_237 : decode cL_areBlocks 237 = .ok (.ifCond .lt 46, 3) := by decide +kernel
theorem dL_areBlocks_240 : decode cL_areBlocks 240 = .ok (.iload 15, 2) := by decide +kernel
theorem dL_areBlocks_242 : decode cL_areBlocks 242 = .ok (.bipush 6, 2) := by decide +kernel
theorem dL_areBlocks_244 : decode cL_areBlocks 244 = .ok (.if_icmp .ge 39, 3) := by decide +kernel
theorem dL_areBlocks_247 : decode cL_areBlocks 247 = .ok (.aload_n 1, 1) := by decide +kernel
theorem dL_areBlocks_248 : decode cL_areBlocks 248 = .ok (.iload 14, 2) := by decide +kernel
theorem dL_areBlocks_250 : decode cL_areBlocks 250 = .ok (.iaload, 1) := by decide +kernel
theorem dL_areBlocks_251 : decode cL_areBlocks 251 = .ok (.ifCond .gt 28, 3) := by decide +kernel
theorem dL_areBlocks_254 : decode cL_areBlocks 254 = .ok (.iload 15, 2) := by decide +kernel
theorem dL_areBlocks_256 : decode cL_areBlocks 256 = .ok (.ifCond .gt 23, 3) := by decide +kernel
theorem dL_areBlocks_259 : decode cL_areBlocks 259 = .ok (.aload_n 0, 1) := by decide +kernel
theorem dL_areBlocks_260 : decode cL_areBlocks 260 = .ok (.aload_n 2, 1) := by decide +kernel
theorem dL_areBlocks_261 : decode cL_areBlocks 261 = .ok (.iload 14, 2) := by decide +kernel
theorem dL_areBlocks_263 : decode cL_areBlocks 263 = .ok (.iaload, 1) := by decide +kernel
theorem dL_areBlocks_264 : decode cL_areBlocks 264 = .ok (.aload_n 3, 1) := by decide +kernel
theorem dL_areBlocks_265 : decode cL_areBlocks 265 = .ok (.iload 14, 2) := by decide +kernel
theorem dL_areBlocks_267 : decode cL_areBlocks 267 = .ok (.iaload, 1) := by decide +kernel
theorem dL_areBlocks_268 : decode cL_areBlocks 268 = .ok (.aload 4, 2) := by decide +kernel
theorem dL_areBlocks_270 : decode cL_areBlocks 270 = .ok (.iload 14, 2) := by decide +kernel
theorem dL_areBlocks_272 : decode cL_areBlocks 272 = .ok (.iaload, 1) := by decide +kernel
theorem dL_areBlocks_273 : decode cL_areBlocks 273 = .ok (.invokevirtual 40, 3) := by decide +kernel
theorem dL_areBlocks_276 : decode cL_areBlocks 276 = .ok (.ifCond .eq 7, 3) := by decide +kernel
theorem dL_areBlocks_279 : decode cL_areBlocks 279 = .ok (.iconst 1, 1) := by decide +kernel
theorem dL_areBlocks_280 : decode cL_areBlocks 280 = .ok (.goto 4, 3) := by decide +kernel
theorem dL_areBlocks_283 : decode cL_areBlocks 283 = .ok (.iconst 0, 1) := by decide +kernel
theorem dL_areBlocks_284 : decode cL_areBlocks 284 = .ok (.istore 11, 2) := by decide +kernel
theorem dL_areBlocks_286 : decode cL_areBlocks 286 = .ok (.iinc 14 1, 3) := by decide +kernel
theorem dL_areBlocks_289 : decode cL_areBlocks 289 = .ok (.goto (-187), 3) := by decide +kernel
theorem dL_areBlocks_292 : decode cL_areBlocks 292 = .ok (.aload_n 0, 1) := by decide +kernel
theorem dL_areBlocks_293 : decode cL_areBlocks 293 = .ok (.iload 7, 2) := by decide +kernel
theorem dL_areBlocks_295 : decode cL_areBlocks 295 = .ok (.iload 8, 2) := by decide +kernel
theorem dL_areBlocks_297 : decode cL_areBlocks 297 = .ok (.iload 9, 2) := by decide +kernel
theorem dL_areBlocks_299 : decode cL_areBlocks 299 = .ok (.invokevirtual 50, 3) := by decide +kernel
theorem dL_areBlocks_302 : decode cL_areBlocks 302 = .ok (.istore 14, 2) := by decide +kernel
theorem dL_areBlocks_304 : decode cL_areBlocks 304 = .ok (.iload 11, 2) := by decide +kernel
theorem dL_areBlocks_306 : decode cL_areBlocks 306 = .ok (.ifCond .eq 41, 3) := by decide +kernel
theorem dL_areBlocks_309 : decode cL_areBlocks 309 = .ok (.iload 14, 2) := by decide +kernel
theorem dL_areBlocks_311 : decode cL_areBlocks 311 = .ok (.ifCond .ne 7, 3) := by decide +kernel
theorem dL_areBlocks_314 : decode cL_areBlocks 314 = .ok (.iconst 1, 1) := by decide +kernel
theorem dL_areBlocks_315 : decode cL_areBlocks 315 = .ok (.goto 4, 3) := by decide +kernel
theorem dL_areBlocks_318 : decode cL_areBlocks 318 = .ok (.iconst 0, 1) := by decide +kernel
theorem dL_areBlocks_319 : decode cL_areBlocks 319 = .ok (.iload 13, 2) := by decide +kernel
theorem dL_areBlocks_321 : decode cL_areBlocks 321 = .ok (.ifCond .ne 7, 3) := by decide +kernel
theorem dL_areBlocks_324 : decode cL_areBlocks 324 = .ok (.iconst 1, 1) := by decide +kernel
theorem dL_areBlocks_325 : decode cL_areBlocks 325 = .ok (.goto 4, 3) := by decide +kernel
theorem dL_areBlocks_328 : decode cL_areBlocks 328 = .ok (.iconst 0, 1) := by decide +kernel
theorem dL_areBlocks_329 : decode cL_areBlocks 329 = .ok (.if_icmp .ne 18, 3) := by decide +kernel
theorem dL_areBlocks_332 : decode cL_areBlocks 332 = .ok (.iload 14, 2) := by decide +kernel
theorem dL_areBlocks_334 : decode cL_areBlocks 334 = .ok (.iconst 1, 1) := by decide +kernel
theorem dL_areBlocks_335 : decode cL_areBlocks 335 = .ok (.if_icmp .ne 8, 3) := by decide +kernel
theorem dL_areBlocks_338 : decode cL_areBlocks 338 = .ok (.iload 12, 2) := by decide +kernel
theorem dL_areBlocks_340 : decode cL_areBlocks 340 = .ok (.ifCond .eq 7, 3) := by decide +kernel
theorem dL_areBlocks_343 : decode cL_areBlocks 343 = .ok (.iconst 1, 1) := by decide +kernel
theorem dL_areBlocks_344 : decode cL_areBlocks 344 = .ok (.goto 4, 3) := by decide +kernel
theorem dL_areBlocks_347 : decode cL_areBlocks 347 = .ok (.iconst 0, 1) := by decide +kernel
theorem dL_areBlocks_348 : decode cL_areBlocks 348 = .ok (.ireturn, 1) := by decide +kernel
theorem dL_isRoute_0 : decode cL_isRoute 0 = .ok (.aload_n 0, 1) := by decide +kernel
theorem dL_isRoute_1 : decode cL_isRoute 1 = .ok (.iconst 2, 1) := by decide +kernel
theorem dL_isRoute_2 : decode cL_isRoute 2 = .ok (.iload_n 2, 1) := by decide +kernel
theorem dL_isRoute_3 : decode cL_isRoute 3 = .ok (.iconst 1, 1) := by decide +kernel
theorem dL_isRoute_4 : decode cL_isRoute 4 = .ok (.invokestatic 54, 3) := by decide +kernel
theorem dL_isRoute_7 : decode cL_isRoute 7 = .ok (.istore 4, 2) := by decide +kernel
theorem dL_isRoute_9 : decode cL_isRoute 9 = .ok (.aload_n 0, 1) := by decide +kernel
theorem dL_isRoute_10 : decode cL_isRoute 10 = .ok (.iconst 2, 1) := by decide +kernel
theorem dL_isRoute_11 : decode cL_isRoute 11 = .ok (.iload_n 2, 1) := by decide +kernel
theorem dL_isRoute_12 : decode cL_isRoute 12 = .ok (.iconst 0, 1) := by decide +kernel
theorem dL_isRoute_13 : decode cL_isRoute 13 = .ok (.invokestatic 54, 3) := by decide +kernel
theorem dL_isRoute_16 : decode cL_isRoute 16 = .ok (.istore 5, 2) := by decide +kernel
theorem dL_isRoute_18 : decode cL_isRoute 18 = .ok (.aload_n 1, 1) := by decide +kernel
theorem dL_isRoute_19 : decode cL_isRoute 19 = .ok (.bipush 7, 2) := by decide +kernel
theorem dL_isRoute_21 : decode cL_isRoute 21 = .ok (.iload_n 2, 1) := by decide +kernel
theorem dL_isRoute_22 : decode cL_isRoute 22 = .ok (.imul, 1) := by decide +kernel
theorem dL_isRoute_23 : decode cL_isRoute 23 = .ok (.iaload, 1) := by decide +kernel
theorem dL_isRoute_24 : decode cL_isRoute 24 = .ok (.istore 6, 2) := by decide +kernel
theorem dL_isRoute_26 : decode cL_isRoute 26 = .ok (.aload_n 0, 1) := by decide +kernel
theorem dL_isRoute_27 : decode cL_isRoute 27 = .ok (.iconst 3, 1) := by decide +kernel
theorem dL_isRoute_28 : decode cL_isRoute 28 = .ok (.iload_n 2, 1) := by decide +kernel
theorem dL_isRoute_29 : decode cL_isRoute 29 = .ok (.iconst 0, 1) := by decide +kernel
theorem dL_isRoute_30 : decode cL_isRoute 30 = .ok (.invokestatic 54, 3) := by decide +kernel
theorem dL_isRoute_33 : decode cL_isRoute 33 = .ok (.istore 7, 2) := by decide +kernel
theorem dL_isRoute_35 : decode cL_isRoute 35 = .ok (.aload_n 0, 1) := by decide +kernel
theorem dL_isRoute_36 : decode cL_isRoute 36 = .ok (.iconst 4, 1) := by decide +kernel
theorem dL_isRoute_37 : decode cL_isRoute 37 = .ok (.iload_n 2, 1) := by decide +kernel
theorem dL_isRoute_38 : decode cL_isRoute 38 = .ok (.iload_n 3, 1) := by decide +kernel
theorem dL_isRoute_39 : decode cL_isRoute 39 = .ok (.invokestatic 54, 3) := by decide +kernel
theorem dL_isRoute_42 : decode cL_isRoute 42 = .ok (.istore 8, 2) := by decide +kernel
theorem dL_isRoute_44 : decode cL_isRoute 44 = .ok (.iload 6, 2) := by decide +kernel
theorem dL_isRoute_46 : decode cL_isRoute 46 = .ok (.ifCond .ne 37, 3) := by decide +kernel
theorem dL_isRoute_49 : decode cL_isRoute 49 = .ok (.iload 4, 2) := by decide +kernel
theorem dL_isRoute_51 : decode cL_isRoute 51 = .ok (.bipush (-11), 2) := by decide +kernel
theorem dL_isRoute_53 : decode cL_isRoute 53 = .ok (.if_icmp .ne 28, 3) := by decide +kernel
theorem dL_isRoute_56 : decode cL_isRoute 56 = .ok (.iload 5, 2) := by decide +kernel
theorem dL_isRoute_58 : decode cL_isRoute 58 = .ok (.bipush (-11), 2) := by decide +kernel
theorem dL_isRoute_60 : decode cL_isRoute 60 = .ok (.if_icmp .ne 21, 3) := by decide +kernel
theorem dL_isRoute_63 : decode cL_isRoute 63 = .ok (.iload 7, 2) := by decide +kernel
theorem dL_isRoute_65 : decode cL_isRoute 65 = .ok (.bipush (-11), 2) := by decide +kernel
theorem dL_isRoute_67 : decode cL_isRoute 67 = .ok (.if_icmp .ne 14, 3) := by decide +kernel
theorem dL_isRoute_70 : decode cL_isRoute 70 = .ok (.iload 8, 2) := by decide +kernel
theorem dL_isRoute_72 : decode cL_isRoute 72 = .ok (.bipush (-11), 2) := by decide +kernel
theorem dL_isRoute_74 : decode cL_isRoute 74 = .ok (.if_icmp .ne 7, 3) := by decide +kernel
theorem dL_isRoute_77 : decode cL_isRoute 77 = .ok (.iconst 1, 1) := by decide +kernel
theorem dL_isRoute_78 : decode cL_isRoute 78 = .ok (.goto 4, 3) := by decide +kernel
theorem dL_isRoute_81 : decode cL_isRoute 81 = .ok (.iconst 0, 1) := by decide +kernel
theorem dL_isRoute_82 : decode cL_isRoute 82 = .ok (.ireturn, 1) := by decide +kernel
theorem dL_isRoute_83 : decode cL_isRoute 83 = .ok (.iconst 0, 1) := by decide +kernel
theorem dL_isRoute_84 : decode cL_isRoute 84 = .ok (.istore 9, 2) := by decide +kernel
theorem dL_isRoute_86 : decode cL_isRoute 86 = .ok (.iconst 0, 1) := by decide +kernel
theorem dL_isRoute_87 : decode cL_isRoute 87 = .ok (.istore 10, 2) := by decide +kernel
theorem dL_isRoute_89 : decode cL_isRoute 89 = .ok (.iload 7, 2) := by decide +kernel
theorem dL_isRoute_91 : decode cL_isRoute 91 = .ok (.iconst (-1), 1) := by decide +kernel
theorem dL_isRoute_92 : decode cL_isRoute 92 = .ok (.if_icmp .ne 7, 3) := by decide +kernel
theorem dL_isRoute_95 : decode cL_isRoute 95 = .ok (.iconst 1, 1) := by decide +kernel
theorem dL_isRoute_96 : decode cL_isRoute 96 = .ok (.goto 4, 3) := by decide +kernel
theorem dL_isRoute_99 : decode cL_isRoute 99 = .ok (.iconst 0, 1) := by decide +kernel
theorem dL_isRoute_100 : decode cL_isRoute 100 = .ok (.istore 11, 2) := by decide +kernel
theorem dL_isRoute_102 : decode cL_isRoute 102 = .ok (.iload 8, 2) := by decide +kernel
theorem dL_isRoute_104 : decode cL_isRoute 104 = .ok (.iconst (-1), 1) := by decide +kernel
theorem dL_isRoute_105 : decode cL_isRoute 105 = .ok (.if_icmp .ne 7, 3) := by decide +kernel
theorem dL_isRoute_108 : decode cL_isRoute 108 = .ok (.iconst 1, 1) := by decide +kernel
theorem dL_isRoute_109 : decode cL_isRoute 109 = .ok (.goto 4, 3) := by decide +kernel
theorem dL_isRoute_112 : decode cL_isRoute 112 = .ok (.iconst 0, 1) := by decide +kernel
theorem dL_isRoute_113 : decode cL_isRoute 113 = .ok (.istore 12, 2) := by decide +kernel
theorem dL_isRoute_115 : decode cL_isRoute 115 = .ok (.iconst 1, 1) := by decide +kernel
theorem dL_isRoute_116 : decode cL_isRoute 116 = .ok (.istore 13, 2) := by decide +kernel
theorem dL_isRoute_118 : decode cL_isRoute 118 = .ok (.iload 13, 2) := by decide +kernel
theorem dL_isRoute_120 : decode cL_isRoute 120 = .ok (.iload 6, 2) := by decide +kernel
theorem dL_isRoute_122 : decode cL_isRoute 122 = .ok (.if_icmp .gt 119, 3) := by decide +kernel
theorem dL_isRoute_125 : decode cL_isRoute 125 = .ok (.aload_n 1, 1) := by decide +kernel
theorem dL_isRoute_126 : decode cL_isRoute 126 = .ok (.bipush 7, 2) := by decide +kernel
theorem dL_isRoute_128 : decode cL_isRoute 128 = .ok (.iload_n 2, 1) := by decide +kernel
theorem dL_isRoute_129 : decode cL_isRoute 129 = .ok (.imul, 1) := by decide +kernel
theorem dL_isRoute_130 : decode cL_isRoute 130 = .ok (.iload 13, 2) := by decide +kernel
theorem dL_isRoute_132 : decode cL_isRoute 132 = .ok (.iadd, 1) := by decide +kernel
theorem dL_isRoute_133 : decode cL_isRoute 133 = .ok (.iaload, 1) := by decide +kernel
theorem dL_isRoute_134 : decode cL_isRoute 134 = .ok (.istore 14, 2) := by decide +kernel
theorem dL_isRoute_136 : decode cL_isRoute 136 = .ok (.iload 10, 2) := by decide +kernel
theorem dL_isRoute_138 : decode cL_isRoute 138 = .ok (.ifCond .ne 14, 3) := by decide +kernel
theorem dL_isRoute_141 : decode cL_isRoute 141 = .ok (.iload 9, 2) := by decide +kernel
theorem dL_isRoute_143 : decode cL_isRoute 143 = .ok (.iload 14, 2) := by decide +kernel
theorem dL_isRoute_145 : decode cL_isRoute 145 = .ok (.ishr, 1) := by decide +kernel
theorem dL_isRoute_146 : decode cL_isRoute 146 = .ok (.iconst 1, 1) := by decide +kernel
theorem dL_isRoute_147 : decode cL_isRoute 147 = .ok (.iand, 1) := by decide +kernel
theorem dL_isRoute_148 : decode cL_isRoute 148 = .ok (.iconst 1, 1) := by decide +kernel
theorem dL_isRoute_149 : decode cL_isRoute 149 = .ok (.if_icmp .ne 7, 3) := by decide +kernel
theorem dL_isRoute_152 : decode cL_isRoute 152 = .ok (.iconst 1, 1) := by decide +kernel
theorem dL_isRoute_153 : decode cL_isRoute 153 = .ok (.goto 4, 3) := by decide +kernel
theorem dL_isRoute_156 : decode cL_isRoute 156 = .ok (.iconst 0, 1) := by decide +kernel
theorem dL_isRoute_157 : decode cL_isRoute 157 = .ok (.istore 10, 2) := by decide +kernel
theorem dL_isRoute_159 : decode cL_isRoute 159 = .ok (.iload 9, 2) := by decide +kernel
theorem dL_isRoute_161 : decode cL_isRoute 161 = .ok (.iconst 1, 1) := by decide +kernel
theorem dL_isRoute_162 : decode cL_isRoute 162 = .ok (.iload 14, 2) := by decide +kernel
theorem dL_isRoute_164 : decode cL_isRoute 164 = .ok (.ishl, 1) := by decide +kernel
theorem dL_isRoute_165 : decode cL_isRoute 165 = .ok (.ior, 1) := by decide +kernel
theorem dL_isRoute_166 : decode cL_isRoute 166 = .ok (.istore 9, 2) := by decide +kernel
theorem dL_isRoute_168 : decode cL_isRoute 168 = .ok (.iload 11, 2) := by decide +kernel
theorem dL_isRoute_170 : decode cL_isRoute 170 = .ok (.ifCond .ne 23, 3) := by decide +kernel
theorem dL_isRoute_173 : decode cL_isRoute 173 = .ok (.iload 13, 2) := by decide +kernel
theorem dL_isRoute_175 : decode cL_isRoute 175 = .ok (.iconst 1, 1) := by decide +kernel
theorem dL_isRoute_176 : decode cL_isRoute 176 = .ok (.if_icmp .le 21, 3) := by decide +kernel
theorem dL_isRoute_179 : decode cL_isRoute 179 = .ok (.iload 13, 2) := by decide +kernel
theorem dL_isRoute_181 : decode cL_isRoute 181 = .ok (.iload 6, 2) := by decide +kernel
theorem dL_isRoute_183 : decode cL_isRoute 183 = .ok (.if_icmp .ge 14, 3) := by decide +kernel
theorem dL_isRoute_186 : decode cL_isRoute 186 = .ok (.iload 14, 2) := by decide +kernel
theorem dL_isRoute_188 : decode cL_isRoute 188 = .ok (.iload 7, 2) := by decide +kernel
theorem dL_isRoute_190 : decode cL_isRoute 190 = .ok (.if_icmp .ne 7, 3) := by decide +kernel
theorem dL_isRoute_193 : decode cL_isRoute 193 = .ok (.iconst 1, 1) := by decide +kernel
theorem dL_isRoute_194 : decode cL_isRoute 194 = .ok (.goto 4, 3) := by decide +kernel
theorem dL_isRoute_197 : decode cL_isRoute 197 = .ok (.iconst 0, 1) := by decide +kernel
theorem dL_isRoute_198 : decode cL_isRoute 198 = .ok (.istore 11, 2) := by decide +kernel
theorem dL_isRoute_200 : decode cL_isRoute 200 = .ok (.iload 12, 2) := by decide +kernel
theorem dL_isRoute_202 : decode cL_isRoute 202 = .ok (.ifCond .ne 26, 3) := by decide +kernel
theorem dL_isRoute_205 : decode cL_isRoute 205 = .ok (.iload 13, 2) := by decide +kernel
theorem dL_isRoute_207 : decode cL_isRoute 207 = .ok (.iconst 1, 1) := by decide +kernel
theorem dL_isRoute_208 : decode cL_isRoute 208 = .ok (.if_icmp .le 24, 3) := by decide +kernel
theorem dL_isRoute_211 : decode cL_isRoute 211 = .ok (.iload 14, 2) := by decide +kernel
theorem dL_isRoute_213 : decode cL_isRoute 213 = .ok (.iload 8, 2) := by decide +kernel
theorem dL_isRoute_215 : decode cL_isRoute 215 = .ok (.if_icmp .ne 17, 3) := by decide +kernel
theorem dL_isRoute_218 : decode cL_isRoute 218 = .ok (.iload_n 3, 1) := by decide +kernel
theorem dL_isRoute_219 : decode cL_isRoute 219 = .ok (.iload 14, 2) := by decide +kernel
theorem dL_isRoute_221 : decode cL_isRoute 221 = .ok (.ishr, 1) := by decide +kernel
theorem dL_isRoute_222 : decode cL_isRoute 222 = .ok (.iconst 1, 1) := by decide +kernel
theorem dL_isRoute_223 : decode cL_isRoute 223 = .ok (.iand, 1) := by decide +kernel
theorem dL_isRoute_224 : decode cL_isRoute 224 = .ok (.iconst 1, 1) := by decide +kernel
theorem dL_isRoute_225 : decode cL_isRoute 225 = .ok (.if_icmp .ne 7, 3) := by decide +kernel
theorem dL_isRoute_228 : decode cL_isRoute 228 = .ok (.iconst 1, 1) := by decide +kernel
theorem dL_isRoute_229 : decode cL_isRoute 229 = .ok (.goto 4, 3) := by decide +kernel
theorem dL_isRoute_232 : decode cL_isRoute 232 = .ok (.iconst 0, 1) := by decide +kernel
theorem dL_isRoute_233 : decode cL_isRoute 233 = .ok (.istore 12, 2) := by decide +kernel
theorem dL_isRoute_235 : decode cL_isRoute 235 = .ok (.iinc 13 1, 3) := by decide +kernel
theorem dL_isRoute_238 : decode cL_isRoute 238 = .ok (.goto (-120), 3) := by decide +kernel
theorem dL_isRoute_241 : decode cL_isRoute 241 = .ok (.iload 4, 2) := by decide +kernel
theorem dL_isRoute_243 : decode cL_isRoute 243 = .ok (.ifCond .lt 133, 3) := by decide +kernel
theorem dL_isRoute_246 : decode cL_isRoute 246 = .ok (.iload 4, 2) := by decide +kernel
theorem dL_isRoute_248 : decode cL_isRoute 248 = .ok (.iconst 3, 1) := by decide +kernel
theorem dL_isRoute_249 : decode cL_isRoute 249 = .ok (.if_icmp .ge 127, 3) := by decide +kernel
theorem dL_isRoute_252 : decode cL_isRoute 252 = .ok (.iload 5, 2) := by decide +kernel
theorem dL_isRoute_254 : decode cL_isRoute 254 = .ok (.ifCond .lt 122, 3) := by decide +kernel
theorem dL_isRoute_257 : decode cL_isRoute 257 = .ok (.iload 5, 2) := by decide +kernel
theorem dL_isRoute_259 : decode cL_isRoute 259 = .ok (.iconst 3, 1) := by decide +kernel
theorem dL_isRoute_260 : decode cL_isRoute 260 = .ok (.if_icmp .ge 116, 3) := by decide +kernel
theorem dL_isRoute_263 : decode cL_isRoute 263 = .ok (.iload 10, 2) := by decide +kernel
theorem dL_isRoute_265 : decode cL_isRoute 265 = .ok (.ifCond .eq 15, 3) := by decide +kernel
theorem dL_isRoute_268 : decode cL_isRoute 268 = .ok (.iload 4, 2) := by decide +kernel
theorem dL_isRoute_270 : decode cL_isRoute 270 = .ok (.iconst 2, 1) := by decide +kernel
theorem dL_isRoute_271 : decode cL_isRoute 271 = .ok (.if_icmp .ne 105, 3) := by decide +kernel
theorem dL_isRoute_274 : decode cL_isRoute 274 = .ok (.iload 5, 2) := by decide +kernel
theorem dL_isRoute_276 : decode cL_isRoute 276 = .ok (.iconst 2, 1) := by decide +kernel
theorem dL_isRoute_277 : decode cL_isRoute 277 = .ok (.if_icmp .ne 99, 3) := by decide +kernel
theorem dL_isRoute_280 : decode cL_isRoute 280 = .ok (.iload 4, 2) := by decide +kernel
theorem dL_isRoute_282 : decode cL_isRoute 282 = .ok (.iconst 1, 1) := by decide +kernel
theorem dL_isRoute_283 : decode cL_isRoute 283 = .ok (.if_icmp .ne 9, 3) := by decide +kernel
theorem dL_isRoute_286 : decode cL_isRoute 286 = .ok (.iload 5, 2) := by decide +kernel
theorem dL_isRoute_288 : decode cL_isRoute 288 = .ok (.iconst 1, 1) := by decide +kernel
theorem dL_isRoute_289 : decode cL_isRoute 289 = .ok (.if_icmp .ne 87, 3) := by decide +kernel
theorem dL_isRoute_292 : decode cL_isRoute 292 = .ok (.iload 5, 2) := by decide +kernel
theorem dL_isRoute_294 : decode cL_isRoute 294 = .ok (.iconst 2, 1) := by decide +kernel
theorem dL_isRoute_295 : decode cL_isRoute 295 = .ok (.if_icmp .ne 9, 3) := by decide +kernel
theorem dL_isRoute_298 : decode cL_isRoute 298 = .ok (.iload 4, 2) := by decide +kernel
theorem dL_isRoute_300 : decode cL_isRoute 300 = .ok (.iconst 2, 1) := by decide +kernel
theorem dL_isRoute_301 : decode cL_isRoute 301 = .ok (.if_icmp .ne 75, 3) := by decide +kernel
theorem dL_isRoute_304 : decode cL_isRoute 304 = .ok (.iload 6, 2) := by decide +kernel
theorem dL_isRoute_306 : decode cL_isRoute 306 = .ok (.iconst 1, 1) := by decide +kernel
theorem dL_isRoute_307 : decode cL_isRoute 307 = .ok (.if_icmp .gt 9, 3) := by decide +kernel
theorem dL_isRoute_310 : decode cL_isRoute 310 = .ok (.iload 4, 2) := by decide +kernel
theorem dL_isRoute_312 : decode cL_isRoute 312 = .ok (.iconst 1, 1) := by decide +kernel
theorem dL_isRoute_313 : decode cL_isRoute 313 = .ok (.if_icmp .ne 63, 3) := by decide +kernel
theorem dL_isRoute_316 : decode cL_isRoute 316 = .ok (.iload 6, 2) := by decide +kernel
theorem dL_isRoute_318 : decode cL_isRoute 318 = .ok (.iconst 2, 1) := by decide +kernel
theorem dL_isRoute_319 : decode cL_isRoute 319 = .ok (.if_icmp .gt 14, 3) := by decide +kernel
theorem dL_isRoute_322 : decode cL_isRoute 322 = .ok (.iload 10, 2) := by decide +kernel
theorem dL_isRoute_324 : decode cL_isRoute 324 = .ok (.ifCond .ne 9, 3) := by decide +kernel
theorem dL_isRoute_327 : decode cL_isRoute 327 = .ok (.iload 5, 2) := by decide +kernel
theorem dL_isRoute_329 : decode cL_isRoute 329 = .ok (.iconst 1, 1) := by decide +kernel
theorem dL_isRoute_330 : decode cL_isRoute 330 = .ok (.if_icmp .ne 46, 3) := by decide +kernel
theorem dL_isRoute_333 : decode cL_isRoute 333 = .ok (.iload 11, 2) := by decide +kernel
theorem dL_isRoute_335 : decode cL_isRoute 335 = .ok (.ifCond .eq 41, 3) := by decide +kernel
theorem dL_isRoute_338 : decode cL_isRoute 338 = .ok (.iload 12, 2) := by decide +kernel
theorem dL_isRoute_340 : decode cL_isRoute 340 = .ok (.ifCond .eq 36, 3) := by decide +kernel
theorem dL_isRoute_343 : decode cL_isRoute 343 = .ok (.aload_n 0, 1) := by decide +kernel
theorem dL_isRoute_344 : decode cL_isRoute 344 = .ok (.iconst 4, 1) := by decide +kernel
theorem dL_isRoute_345 : decode cL_isRoute 345 = .ok (.iload_n 2, 1) := by decide +kernel
theorem dL_isRoute_346 : decode cL_isRoute 346 = .ok (.iconst 0, 1) := by decide +kernel
theorem dL_isRoute_347 : decode cL_isRoute 347 = .ok (.invokestatic 54, 3) := by decide +kernel
theorem dL_isRoute_350 : decode cL_isRoute 350 = .ok (.iconst (-1), 1) := by decide +kernel
theorem dL_isRoute_351 : decode cL_isRoute 351 = .ok (.if_icmp .ne 25, 3) := by decide +kernel
theorem dL_isRoute_354 : decode cL_isRoute 354 = .ok (.iload 8, 2) := by decide +kernel
theorem dL_isRoute_356 : decode cL_isRoute 356 = .ok (.iconst (-1), 1) := by decide +kernel
theorem dL_isRoute_357 : decode cL_isRoute 357 = .ok (.if_icmp .eq 15, 3) := by decide +kernel
theorem dL_isRoute_360 : decode cL_isRoute 360 = .ok (.aload_n 0, 1) := by decide +kernel
theorem dL_isRoute_361 : decode cL_isRoute 361 = .ok (.iconst 4, 1) := by decide +kernel
theorem dL_isRoute_362 : decode cL_isRoute 362 = .ok (.iload_n 2, 1) := by decide +kernel
theorem dL_isRoute_363 : decode cL_isRoute 363 = .ok (.sipush 1023, 3) := by decide +kernel
theorem dL_isRoute_366 : decode cL_isRoute 366 = .ok (.invokestatic 54, 3) := by decide +kernel
theorem dL_isRoute_369 : decode cL_isRoute 369 = .ok (.ifCond .lt 7, 3) := by decide +kernel
theorem dL_isRoute_372 : decode cL_isRoute 372 = .ok (.iconst 1, 1) := by decide +kernel
theorem dL_isRoute_373 : decode cL_isRoute 373 = .ok (.goto 4, 3) := by decide +kernel
theorem dL_isRoute_376 : decode cL_isRoute 376 = .ok (.iconst 0, 1) := by decide +kernel
theorem dL_isRoute_377 : decode cL_isRoute 377 = .ok (.ireturn, 1) := by decide +kernel
theorem dL_areCones_0 : decode cL_areCones 0 = .ok (.aload_n 0, 1) := by decide +kernel
theorem dL_areCones_1 : decode cL_areCones 1 = .ok (.iload_n 1, 1) := by decide +kernel
theorem dL_areCones_2 : decode cL_areCones 2 = .ok (.iload_n 2, 1) := by decide +kernel
theorem dL_areCones_3 : decode cL_areCones 3 = .ok (.iload_n 3, 1) := by decide +kernel
theorem dL_areCones_4 : decode cL_areCones 4 = .ok (.invokevirtual 57, 3) := by decide +kernel
theorem dL_areCones_7 : decode cL_areCones 7 = .ok (.istore 4, 2) := by decide +kernel
theorem dL_areCones_9 : decode cL_areCones 9 = .ok (.aload_n 0, 1) := by decide +kernel
theorem dL_areCones_10 : decode cL_areCones 10 = .ok (.iload_n 1, 1) := by decide +kernel
theorem dL_areCones_11 : decode cL_areCones 11 = .ok (.invokevirtual 60, 3) := by decide +kernel
theorem dL_areCones_14 : decode cL_areCones 14 = .ok (.istore 5, 2) := by decide +kernel
theorem dL_areCones_16 : decode cL_areCones 16 = .ok (.aload_n 0, 1) := by decide +kernel
theorem dL_areCones_17 : decode cL_areCones 17 = .ok (.iload_n 1, 1) := by decide +kernel
theorem dL_areCones_18 : decode cL_areCones 18 = .ok (.invokevirtual 63, 3) := by decide +kernel
theorem dL_areCones_21 : decode cL_areCones 21 = .ok (.istore 6, 2) := by decide +kernel
theorem dL_areCones_23 : decode cL_areCones 23 = .ok (.aload_n 0, 1) := by decide +kernel
theorem dL_areCones_24 : decode cL_areCones 24 = .ok (.invokevirtual 66, 3) := by decide +kernel
theorem dL_areCones_27 : decode cL_areCones 27 = .ok (.istore 7, 2) := by decide +kernel
theorem dL_areCones_29 : decode cL_areCones 29 = .ok (.iload 7, 2) := by decide +kernel
theorem dL_areCones_31 : decode cL_areCones 31 = .ok (.iload_n 1, 1) := by decide +kernel
theorem dL_areCones_32 : decode cL_areCones 32 = .ok (.ishr, 1) := by decide +kernel
theorem dL_areCones_33 : decode cL_areCones 33 = .ok (.iconst 1, 1) := by decide +kernel
theorem dL_areCones_34 : decode cL_areCones 34 = .ok (.iand, 1) := by decide +kernel
theorem dL_areCones_35 : decode cL_areCones 35 = .ok (.iload 7, 2) := by decide +kernel
theorem dL_areCones_37 : decode cL_areCones 37 = .ok (.iload_n 2, 1) := by decide +kernel
theorem dL_areCones_38 : decode cL_areCones 38 = .ok (.ishr, 1) := by decide +kernel
theorem dL_areCones_39 : decode cL_areCones 39 = .ok (.iconst 1, 1) := by decide +kernel
theorem dL_areCones_40 : decode cL_areCones 40 = .ok (.iand, 1) := by decide +kernel
theorem dL_areCones_41 : decode cL_areCones 41 = .ok (.iadd, 1) := by decide +kernel
theorem dL_areCones_42 : decode cL_areCones 42 = .ok (.istore 8, 2) := by decide +kernel
theorem dL_areCones_44 : decode cL_areCones 44 = .ok (.aload_n 0, 1) := by decide +kernel
theorem dL_areCones_45 : decode cL_areCones 45 = .ok (.iload_n 2, 1) := by decide +kernel
theorem dL_areCones_46 : decode cL_areCones 46 = .ok (.iload_n 1, 1) := by decide +kernel
theorem dL_areCones_47 : decode cL_areCones 47 = .ok (.iload_n 3, 1) := by decide +kernel
theorem dL_areCones_48 : decode cL_areCones 48 = .ok (.invokevirtual 57, 3) := by decide +kernel
theorem dL_areCones_51 : decode cL_areCones 51 = .ok (.iload 4, 2) := by decide +kernel
theorem dL_areCones_53 : decode cL_areCones 53 = .ok (.iconst 1, 1) := by decide +kernel
theorem dL_areCones_54 : decode cL_areCones 54 = .ok (.if_icmp .ne 7, 3) := by decide +kernel
theorem dL_areCones_57 : decode cL_areCones 57 = .ok (.iconst 2, 1) := by decide +kernel
theorem dL_areCones_58 : decode cL_areCones 58 = .ok (.goto 15, 3) := by decide +kernel
theorem dL_areCones_61 : decode cL_areCones 61 = .ok (.iload 4, 2) := by decide +kernel
theorem dL_areCones_63 : decode cL_areCones 63 = .ok (.iconst 2, 1) := by decide +kernel
theorem dL_areCones_64 : decode cL_areCones 64 = .ok (.if_icmp .ne 7, 3) := by decide +kernel
theorem dL_areCones_67 : decode cL_areCones 67 = .ok (.iconst 1, 1) := by decide +kernel
theorem dL_areCones_68 : decode cL_areCones 68 = .ok (.goto 5, 3) := by decide +kernel
theorem dL_areCones_71 : decode cL_areCones 71 = .ok (.iload 4, 2) := by decide +kernel
theorem dL_areCones_73 : decode cL_areCones 73 = .ok (.if_icmp .ne 47, 3) := by decide +kernel
theorem dL_areCones_76 : decode cL_areCones 76 = .ok (.iload_n 1, 1) := by decide +kernel
theorem dL_areCones_77 : decode cL_areCones 77 = .ok (.iload_n 2, 1) := by decide +kernel
theorem dL_areCones_78 : decode cL_areCones 78 = .ok (.if_icmp .ne 8, 3) := by decide +kernel
theorem dL_areCones_81 : decode cL_areCones 81 = .ok (.iload 4, 2) := by decide +kernel
theorem dL_areCones_83 : decode cL_areCones 83 = .ok (.ifCond .ne 37, 3) := by decide +kernel
theorem dL_areCones_86 : decode cL_areCones 86 = .ok (.iload 5, 2) := by decide +kernel
theorem dL_areCones_88 : decode cL_areCones 88 = .ok (.iload_n 1, 1) := by decide +kernel
theorem dL_areCones_89 : decode cL_areCones 89 = .ok (.ishr, 1) := by decide +kernel
theorem dL_areCones_90 : decode cL_areCones 90 = .ok (.iconst 1, 1) := by decide +kernel
theorem dL_areCones_91 : decode cL_areCones 91 = .ok (.iand, 1) := by decide +kernel
theorem dL_areCones_92 : decode cL_areCones 92 = .ok (.iconst 1, 1) := by decide +kernel
theorem dL_areCones_93 : decode cL_areCones 93 = .ok (.if_icmp .ne 27, 3) := by decide +kernel
theorem dL_areCones_96 : decode cL_areCones 96 = .ok (.iload 5, 2) := by decide +kernel
theorem dL_areCones_98 : decode cL_areCones 98 = .ok (.iload 6, 2) := by decide +kernel
theorem dL_areCones_100 : decode cL_areCones 100 = .ok (.ior, 1) := by decide +kernel
theorem dL_areCones_101 : decode cL_areCones 101 = .ok (.iload 5, 2) := by decide +kernel
theorem dL_areCones_103 : decode cL_areCones 103 = .ok (.if_icmp .ne 17, 3) := by decide +kernel
theorem dL_areCones_106 : decode cL_areCones 106 = .ok (.iload 6, 2) := by decide +kernel
theorem dL_areCones_108 : decode cL_areCones 108 = .ok (.iload_n 1, 1) := by decide +kernel
theorem dL_areCones_109 : decode cL_areCones 109 = .ok (.ishr, 1) := by decide +kernel
theorem dL_areCones_110 : decode cL_areCones 110 = .ok (.iconst 1, 1) := by decide +kernel
theorem dL_areCones_111 : decode cL_areCones 111 = .ok (.iand, 1) := by decide +kernel
theorem dL_areCones_112 : decode cL_areCones 112 = .ok (.iconst 1, 1) := by decide +kernel
theorem dL_areCones_113 : decode cL_areCones 113 = .ok (.if_icmp .ne 7, 3) := by decide +kernel
theorem dL_areCones_116 : decode cL_areCones 116 = .ok (.iconst 1, 1) := by decide +kernel
theorem dL_areCones_117 : decode cL_areCones 117 = .ok (.goto 4, 3) := by decide +kernel
theorem dL_areCones_120 : decode cL_areCones 120 = .ok (.iconst 0, 1) := by decide +kernel
theorem dL_areCones_121 : decode cL_areCones 121 = .ok (.istore 9, 2) := by decide +kernel
theorem dL_areCones_123 : decode cL_areCones 123 = .ok (.iload 9, 2) := by decide +kernel
theorem dL_areCones_125 : decode cL_areCones 125 = .ok (.ifCond .eq 51, 3) := by decide +kernel
theorem dL_areCones_128 : decode cL_areCones 128 = .ok (.iload 8, 2) := by decide +kernel
theorem dL_areCones_130 : decode cL_areCones 130 = .ok (.iconst 2, 1) := by decide +kernel
theorem dL_areCones_131 : decode cL_areCones 131 = .ok (.if_icmp .lt 14, 3) := by decide +kernel
theorem dL_areCones_134 : decode cL_areCones 134 = .ok (.iload_n 1, 1) := by decide +kernel
theorem dL_areCones_135 : decode cL_areCones 135 = .ok (.iload_n 2, 1) := by decide +kernel
theorem dL_areCones_136 : decode cL_areCones 136 = .ok (.if_icmp .eq 9, 3) := by decide +kernel
theorem dL_areCones_139 : decode cL_areCones 139 = .ok (.iload 4, 2) := by decide +kernel
theorem dL_areCones_141 : decode cL_areCones 141 = .ok (.iconst 3, 1) := by decide +kernel
theorem dL_areCones_142 : decode cL_areCones 142 = .ok (.if_icmp .ne 34, 3) := by decide +kernel
theorem dL_areCones_145 : decode cL_areCones 145 = .ok (.iload_n 3, 1) := by decide +kernel
theorem dL_areCones_146 : decode cL_areCones 146 = .ok (.iconst 2, 1) := by decide +kernel
theorem dL_areCones_147 : decode cL_areCones 147 = .ok (.if_icmp .lt 25, 3) := by decide +kernel
theorem dL_areCones_150 : decode cL_areCones 150 = .ok (.iload 4, 2) := by decide +kernel
theorem dL_areCones_152 : decode cL_areCones 152 = .ok (.iconst 1, 1) := by decide +kernel
theorem dL_areCones_153 : decode cL_areCones 153 = .ok (.if_icmp .ne 19, 3) := by decide +kernel
theorem dL_areCones_156 : decode cL_areCones 156 = .ok (.aload_n 0, 1) := by decide +kernel
theorem dL_areCones_157 : decode cL_areCones 157 = .ok (.iload_n 2, 1) := by decide +kernel
theorem dL_areCones_158 : decode cL_areCones 158 = .ok (.invokevirtual 60, 3) := by decide +kernel
theorem dL_areCones_161 : decode cL_areCones 161 = .ok (.iload 5, 2) := by decide +kernel
theorem dL_areCones_163 : decode cL_areCones 163 = .ok (.ior, 1) := by decide +kernel
theorem dL_areCones_164 : decode cL_areCones 164 = .ok (.aload_n 0, 1) := by decide +kernel
theorem dL_areCones_165 : decode cL_areCones 165 = .ok (.iload_n 2, 1) := by decide +kernel
theorem dL_areCones_166 : decode cL_areCones 166 = .ok (.invokevirtual 60, 3) := by decide +kernel
theorem dL_areCones_169 : decode cL_areCones 169 = .ok (.if_icmp .ne 7, 3) := by decide +kernel
theorem dL_areCones_172 : decode cL_areCones 172 = .ok (.iconst 1, 1) := by decide +kernel
theorem dL_areCones_173 : decode cL_areCones 173 = .ok (.goto 4, 3) := by decide +kernel
theorem dL_areCones_176 : decode cL_areCones 176 = .ok (.iconst 0, 1) := by decide +kernel
theorem dL_areCones_177 : decode cL_areCones 177 = .ok (.istore 9, 2) := by decide +kernel
theorem dL_areCones_179 : decode cL_areCones 179 = .ok (.iload 9, 2) := by decide +kernel
theorem dL_areCones_181 : decode cL_areCones 181 = .ok (.ifCond .eq 50, 3) := by decide +kernel
theorem dL_areCones_184 : decode cL_areCones 184 = .ok (.aload_n 0, 1) := by decide +kernel
theorem dL_areCones_185 : decode cL_areCones 185 = .ok (.iload_n 1, 1) := by decide +kernel
theorem dL_areCones_186 : decode cL_areCones 186 = .ok (.invokevirtual 70, 3) := by decide +kernel
theorem dL_areCones_189 : decode cL_areCones 189 = .ok (.ifCond .lt 42, 3) := by decide +kernel
theorem dL_areCones_192 : decode cL_areCones 192 = .ok (.aload_n 0, 1) := by decide +kernel
theorem dL_areCones_193 : decode cL_areCones 193 = .ok (.iload_n 1, 1) := by decide +kernel
theorem dL_areCones_194 : decode cL_areCones 194 = .ok (.invokevirtual 70, 3) := by decide +kernel
theorem dL_areCones_197 : decode cL_areCones 197 = .ok (.sipush 256, 3) := by decide +kernel
theorem dL_areCones_200 : decode cL_areCones 200 = .ok (.if_icmp .gt 31, 3) := by decide +kernel
theorem dL_areCones_203 : decode cL_areCones 203 = .ok (.iload_n 3, 1) := by decide +kernel
theorem dL_areCones_204 : decode cL_areCones 204 = .ok (.iconst 2, 1) := by decide +kernel
theorem dL_areCones_205 : decode cL_areCones 205 = .ok (.if_icmp .lt 22, 3) := by decide +kernel
theorem dL_areCones_208 : decode cL_areCones 208 = .ok (.iload 4, 2) := by decide +kernel
theorem dL_areCones_210 : decode cL_areCones 210 = .ok (.iconst 1, 1) := by decide +kernel
theorem dL_areCones_211 : decode cL_areCones 211 = .ok (.if_icmp .ne 16, 3) := by decide +kernel
theorem dL_areCones_214 : decode cL_areCones 214 = .ok (.aload_n 0, 1) := by decide +kernel
theorem dL_areCones_215 : decode cL_areCones 215 = .ok (.iload_n 2, 1) := by decide +kernel
theorem dL_areCones_216 : decode cL_areCones 216 = .ok (.invokevirtual 70, 3) := by decide +kernel
theorem dL_areCones_219 : decode cL_areCones 219 = .ok (.aload_n 0, 1) := by decide +kernel
theorem dL_areCones_220 : decode cL_areCones 220 = .ok (.iload_n 1, 1) := by decide +kernel
theorem dL_areCones_221 : decode cL_areCones 221 = .ok (.invokevirtual 70, 3) := by decide +kernel
theorem dL_areCones_224 : decode cL_areCones 224 = .ok (.if_icmp .lt 7, 3) := by decide +kernel
theorem dL_areCones_227 : decode cL_areCones 227 = .ok (.iconst 1, 1) := by decide +kernel
theorem dL_areCones_228 : decode cL_areCones 228 = .ok (.goto 4, 3) := by decide +kernel
theorem dL_areCones_231 : decode cL_areCones 231 = .ok (.iconst 0, 1) := by decide +kernel
theorem dL_areCones_232 : decode cL_areCones 232 = .ok (.ireturn, 1) := by decide +kernel
theorem dL_law_0 : decode cL_law 0 = .ok (.new 8, 3) := by decide +kernel
theorem dL_law_3 : decode cL_law 3 = .ok (.dup, 1) := by decide +kernel
theorem dL_law_4 : decode cL_law 4 = .ok (.invokespecial 73, 3) := by decide +kernel
theorem dL_law_7 : decode cL_law 7 = .ok (.astore_n 1, 1) := by decide +kernel
theorem dL_law_8 : decode cL_law 8 = .ok (.bipush 16, 2) := by decide +kernel
theorem dL_law_10 : decode cL_law 10 = .ok (.newarray .int, 2) := by decide +kernel
theorem dL_law_12 : decode cL_law 12 = .ok (.astore_n 2, 1) := by decide +kernel
theorem dL_law_13 : decode cL_law 13 = .ok (.bipush 16, 2) := by decide +kernel
theorem dL_law_15 : decode cL_law 15 = .ok (.newarray .int, 2) := by decide +kernel
theorem dL_law_17 : decode cL_law 17 = .ok (.astore_n 3, 1) := by decide +kernel
theorem dL_law_18 : decode cL_law 18 = .ok (.bipush 16, 2) := by decide +kernel
theorem dL_law_20 : decode cL_law 20 = .ok (.newarray .int, 2) := by decide +kernel
theorem dL_law_22 : decode cL_law 22 = .ok (.astore 4, 2) := by decide +kernel
theorem dL_law_24 : decode cL_law 24 = .ok (.bipush 16, 2) := by decide +kernel
theorem dL_law_26 : decode cL_law 26 = .ok (.newarray .int, 2) := by decide +kernel
theorem dL_law_28 : decode cL_law 28 = .ok (.astore 5, 2) := by decide +kernel
theorem dL_law_30 : decode cL_law 30 = .ok (.bipush 16, 2) := by decide +kernel
theorem dL_law_32 : decode cL_law 32 = .ok (.newarray .int, 2) := by decide +kernel
theorem dL_law_34 : decode cL_law 34 = .ok (.astore 6, 2) := by decide +kernel
theorem dL_law_36 : decode cL_law 36 = .ok (.bipush 8, 2) := by decide +kernel
theorem dL_law_38 : decode cL_law 38 = .ok (.newarray .int, 2) := by decide +kernel
theorem dL_law_40 : decode cL_law 40 = .ok (.astore 7, 2) := by decide +kernel
theorem dL_law_42 : decode cL_law 42 = .ok (.bipush 56, 2) := by decide +kernel
theorem dL_law_44 : decode cL_law 44 = .ok (.newarray .int, 2) := by decide +kernel
theorem dL_law_46 : decode cL_law 46 = .ok (.astore 8, 2) := by decide +kernel
theorem dL_law_48 : decode cL_law 48 = .ok (.iconst 1, 1) := by decide +kernel
theorem dL_law_49 : decode cL_law 49 = .ok (.istore 9, 2) := by decide +kernel
theorem dL_law_51 : decode cL_law 51 = .ok (.iconst 0, 1) := by decide +kernel
theorem dL_law_52 : decode cL_law 52 = .ok (.istore 10, 2) := by decide +kernel
theorem dL_law_54 : decode cL_law 54 = .ok (.iconst 0, 1) := by decide +kernel
theorem dL_law_55 : decode cL_law 55 = .ok (.istore 11, 2) := by decide +kernel
theorem dL_law_57 : decode cL_law 57 = .ok (.aload_n 1, 1) := by decide +kernel
theorem dL_law_58 : decode cL_law 58 = .ok (.iconst 0, 1) := by decide +kernel
theorem dL_law_59 : decode cL_law 59 = .ok (.iconst 0, 1) := by decide +kernel
theorem dL_law_60 : decode cL_law 60 = .ok (.iconst 0, 1) := by decide +kernel
theorem dL_law_61 : decode cL_law 61 = .ok (.invokevirtual 40, 3) := by decide +kernel
theorem dL_law_64 : decode cL_law 64 = .ok (.ifCond .eq 14, 3) := by decide +kernel
theorem dL_law_67 : decode cL_law 67 = .ok (.aload_n 1, 1) := by decide +kernel
theorem dL_law_68 : decode cL_law 68 = .ok (.invokevirtual 66, 3) := by decide +kernel
theorem dL_law_71 : decode cL_law 71 = .ok (.ifCond .ne 7, 3) := by decide +kernel
theorem dL_law_74 : decode cL_law 74 = .ok (.iconst 1, 1) := by decide +kernel
theorem dL_law_75 : decode cL_law 75 = .ok (.goto 4, 3) := by decide +kernel
theorem dL_law_78 : decode cL_law 78 = .ok (.iconst 0, 1) := by decide +kernel
theorem dL_law_79 : decode cL_law 79 = .ok (.istore 12, 2) := by decide +kernel
theorem dL_law_81 : decode cL_law 81 = .ok (.aload_n 0, 1) := by decide +kernel
theorem dL_law_82 : decode cL_law 82 = .ok (.arraylength, 1) := by decide +kernel
theorem dL_law_83 : decode cL_law 83 = .ok (.bipush 40, 2) := by decide +kernel
theorem dL_law_85 : decode cL_law 85 = .ok (.if_icmp .ge 9, 3) := by decide +kernel
theorem dL_law_88 : decode cL_law 88 = .ok (.sipush 130, 3) := by decide +kernel
theorem dL_law_91 : decode cL_law 91 = .ok (.goto 20, 3) := by decide +kernel
theorem dL_law_94 : decode cL_law 94 = .ok (.aload_n 0, 1) := by decide +kernel
theorem dL_law_95 : decode cL_law 95 = .ok (.arraylength, 1) := by decide +kernel
theorem dL_law_96 : decode cL_law 96 = .ok (.bipush 80, 2) := by decide +kernel
theorem dL_law_98 : decode cL_law 98 = .ok (.if_icmp .ge 10, 3) := by decide +kernel
theorem dL_law_101 : decode cL_law 101 = .ok (.iconst 2, 1) := by decide +kernel
theorem dL_law_102 : decode cL_law 102 = .ok (.aload_n 0, 1) := by decide +kernel
theorem dL_law_103 : decode cL_law 103 = .ok (.arraylength, 1) := by decide +kernel
theorem dL_law_104 : decode cL_law 104 = .ok (.imul, 1) := by decide +kernel
theorem dL_law_105 : decode cL_law 105 = .ok (.goto 6, 3) := by decide +kernel
theorem dL_law_108 : decode cL_law 108 = .ok (.sipush 190, 3) := by decide +kernel
theorem dL_law_111 : decode cL_law 111 = .ok (.istore 13, 2) := by decide +kernel
theorem dL_law_113 : decode cL_law 113 = .ok (.iconst 0, 1) := by decide +kernel
theorem dL_law_114 : decode cL_law 114 = .ok (.istore 14, 2) := by decide +kernel
theorem dL_law_116 : decode cL_law 116 = .ok (.iload 14, 2) := by decide +kernel
theorem dL_law_118 : decode cL_law 118 = .ok (.iload 13, 2) := by decide +kernel
theorem dL_law_120 : decode cL_law 120 = .ok (.if_icmp .ge 1663, 3) := by decide +kernel
theorem dL_law_123 : decode cL_law 123 = .ok (.iload 12, 2) := by decide +kernel
theorem dL_law_125 : decode cL_law 125 = .ok (.ifCond .eq 1658, 3) := by decide +kernel
theorem dL_law_128 : decode cL_law 128 = .ok (.iload 14, 2) := by decide +kernel
theorem dL_law_130 : decode cL_law 130 = .ok (.aload_n 0, 1) := by decide +kernel
theorem dL_law_131 : decode cL_law 131 = .ok (.arraylength, 1) := by decide +kernel
theorem dL_law_132 : decode cL_law 132 = .ok (.if_icmp .ge 10, 3) := by decide +kernel
theorem dL_law_135 : decode cL_law 135 = .ok (.aload_n 0, 1) := by decide +kernel
theorem dL_law_136 : decode cL_law 136 = .ok (.iload 14, 2) := by decide +kernel
theorem dL_law_138 : decode cL_law 138 = .ok (.iaload, 1) := by decide +kernel
theorem dL_law_139 : decode cL_law 139 = .ok (.goto 21, 3) := by decide +kernel
theorem dL_law_142 : decode cL_law 142 = .ok (.ldc 74, 2) := by decide +kernel
theorem dL_law_144 : decode cL_law 144 = .ok (.iload 14, 2) := by decide +kernel
theorem dL_law_146 : decode cL_law 146 = .ok (.imul, 1) := by decide +kernel
theorem dL_law_147 : decode cL_law 147 = .ok (.iload 14, 2) := by decide +kernel
theorem dL_law_149 : decode cL_law 149 = .ok (.imul, 1) := by decide +kernel
theorem dL_law_150 : decode cL_law 150 = .ok (.ldc 75, 2) := by decide +kernel
theorem dL_law_152 : decode cL_law 152 = .ok (.iload 14, 2) := by decide +kernel
theorem dL_law_154 : decode cL_law 154 = .ok (.imul, 1) := by decide +kernel
theorem dL_law_155 : decode cL_law 155 = .ok (.iadd, 1) := by decide +kernel
theorem dL_law_156 : decode cL_law 156 = .ok (.sipush 167, 3) := by decide +kernel
theorem dL_law_159 : decode cL_law 159 = .ok (.iadd, 1) := by decide +kernel
theorem dL_law_160 : decode cL_law 160 = .ok (.istore 15, 2) := by decide +kernel
theorem dL_law_162 : decode cL_law 162 = .ok (.iload 15, 2) := by decide +kernel
theorem dL_law_164 : decode cL_law 164 = .ok (.iconst 4, 1) := by decide +kernel
theorem dL_law_165 : decode cL_law 165 = .ok (.ishr, 1) := by decide +kernel
theorem dL_law_166 : decode cL_law 166 = .ok (.ldc 76, 2) := by decide +kernel
theorem dL_law_168 : decode cL_law 168 = .ok (.iand, 1) := by decide +kernel
theorem dL_law_169 : decode cL_law 169 = .ok (.istore 16, 2) := by decide +kernel
theorem dL_law_171 : decode cL_law 171 = .ok (.iload 14, 2) := by decide +kernel
theorem dL_law_173 : decode cL_law 173 = .ok (.iconst 3, 1) := by decide +kernel
theorem dL_law_174 : decode cL_law 174 = .ok (.if_icmp .ge 7, 3) := by decide +kernel
theorem dL_law_177 : decode cL_law 177 = .ok (.iconst 0, 1) := by decide +kernel
theorem dL_law_178 : decode cL_law 178 = .ok (.goto 8, 3) := by decide +kernel
theorem dL_law_181 : decode cL_law 181 = .ok (.iload 15, 2) := by decide +kernel
theorem dL_law_183 : decode cL_law 183 = .ok (.bipush 15, 2) := by decide +kernel
theorem dL_law_185 : decode cL_law 185 = .ok (.iand, 1) := by decide +kernel
theorem dL_law_186 : decode cL_law 186 = .ok (.istore 17, 2) := by decide +kernel
theorem dL_law_188 : decode cL_law 188 = .ok (.iload 16, 2) := by decide +kernel
theorem dL_law_190 : decode cL_law 190 = .ok (.iload 9, 2) := by decide +kernel
theorem dL_law_192 : decode cL_law 192 = .ok (.irem, 1) := by decide +kernel
theorem dL_law_193 : decode cL_law 193 = .ok (.istore 18, 2) := by decide +kernel
theorem dL_law_195 : decode cL_law 195 = .ok (.iload 10, 2) := by decide +kernel
theorem dL_law_197 : decode cL_law 197 = .ok (.ifCond .ne 7, 3) := by decide +kernel
theorem dL_law_200 : decode cL_law 200 = .ok (.iconst 0, 1) := by decide +kernel
theorem dL_law_201 : decode cL_law 201 = .ok (.goto 8, 3) := by decide +kernel
theorem dL_law_204 : decode cL_law 204 = .ok (.iload 16, 2) := by decide +kernel
theorem dL_law_206 : decode cL_law 206 = .ok (.iload 10, 2) := by decide +kernel
theorem dL_law_208 : decode cL_law 208 = .ok (.irem, 1) := by decide +kernel
theorem dL_law_209 : decode cL_law 209 = .ok (.istore 19, 2) := by decide +kernel
theorem dL_law_211 : decode cL_law 211 = .ok (.iload 16, 2) := by decide +kernel
theorem dL_law_213 : decode cL_law 213 = .ok (.iconst 2, 1) := by decide +kernel
theorem dL_law_214 : decode cL_law 214 = .ok (.ishr, 1) := by decide +kernel
theorem dL_law_215 : decode cL_law 215 = .ok (.bipush 7, 2) := by decide +kernel
theorem dL_law_217 : decode cL_law 217 = .ok (.irem, 1) := by decide +kernel
theorem dL_law_218 : decode cL_law 218 = .ok (.istore 20, 2) := by decide +kernel
theorem dL_law_220 : decode cL_law 220 = .ok (.iload 16, 2) := by decide +kernel
theorem dL_law_222 : decode cL_law 222 = .ok (.iconst 4, 1) := by decide +kernel
theorem dL_law_223 : decode cL_law 223 = .ok (.ishr, 1) := by decide +kernel
theorem dL_law_224 : decode cL_law 224 = .ok (.bipush 9, 2) := by decide +kernel
theorem dL_law_226 : decode cL_law 226 = .ok (.irem, 1) := by decide +kernel
theorem dL_law_227 : decode cL_law 227 = .ok (.istore 21, 2) := by decide +kernel
theorem dL_law_229 : decode cL_law 229 = .ok (.iload 16, 2) := by decide +kernel
theorem dL_law_231 : decode cL_law 231 = .ok (.bipush 6, 2) := by decide +kernel
theorem dL_law_233 : decode cL_law 233 = .ok (.ishr, 1) := by decide +kernel
theorem dL_law_234 : decode cL_law 234 = .ok (.sipush 255, 3) := by decide +kernel
theorem dL_law_237 : decode cL_law 237 = .ok (.iand, 1) := by decide +kernel
theorem dL_law_238 : decode cL_law 238 = .ok (.bipush 8, 2) := by decide +kernel
theorem dL_law_240 : decode cL_law 240 = .ok (.iload 21, 2) := by decide +kernel
theorem dL_law_242 : decode cL_law 242 = .ok (.isub, 1) := by decide +kernel
theorem dL_law_243 : decode cL_law 243 = .ok (.ishr, 1) := by decide +kernel
theorem dL_law_244 : decode cL_law 244 = .ok (.bipush 8, 2) := by decide +kernel
theorem dL_law_246 : decode cL_law 246 = .ok (.iload 21, 2) := by decide +kernel
theorem dL_law_248 : decode cL_law 248 = .ok (.isub, 1) := by decide +kernel
theorem dL_law_249 : decode cL_law 249 = .ok (.ishl, 1) := by decide +kernel
theorem dL_law_250 : decode cL_law 250 = .ok (.istore 22, 2) := by decide +kernel
theorem dL_law_252 : decode cL_law 252 = .ok (.iload 17, 2) := by decide +kernel
theorem dL_law_254 : decode cL_law 254 = .ok (.ifCond .ne 53, 3) := by decide +kernel
theorem dL_law_257 : decode cL_law 257 = .ok (.iload 9, 2) := by decide +kernel
theorem dL_law_259 : decode cL_law 259 = .ok (.bipush 6, 2) := by decide +kernel
theorem dL_law_261 : decode cL_law 261 = .ok (.if_icmp .ge 46, 3) := by decide +kernel
theorem dL_law_264 : decode cL_law 264 = .ok (.aload 7, 2) := by decide +kernel
theorem dL_law_266 : decode cL_law 266 = .ok (.iload 9, 2) := by decide +kernel
theorem dL_law_268 : decode cL_law 268 = .ok (.iload 18, 2) := by decide +kernel
theorem dL_law_270 : decode cL_law 270 = .ok (.iastore, 1) := by decide +kernel
theorem dL_law_271 : decode cL_law 271 = .ok (.aload_n 1, 1) := by decide +kernel
theorem dL_law_272 : decode cL_law 272 = .ok (.iload 18, 2) := by decide +kernel
theorem dL_law_274 : decode cL_law 274 = .ok (.invokevirtual 77, 3) := by decide +kernel
theorem dL_law_277 : decode cL_law 277 = .ok (.iload 9, 2) := by decide +kernel
theorem dL_law_279 : decode cL_law 279 = .ok (.if_icmp .ne 19, 3) := by decide +kernel
theorem dL_law_282 : decode cL_law 282 = .ok (.aload_n 1, 1) := by decide +kernel
theorem dL_law_283 : decode cL_law 283 = .ok (.iload 9, 2) := by decide +kernel
theorem dL_law_285 : decode cL_law 285 = .ok (.iconst 0, 1) := by decide +kernel
theorem dL_law_286 : decode cL_law 286 = .ok (.bipush 8, 2) := by decide +kernel
theorem dL_law_288 : decode cL_law 288 = .ok (.invokevirtual 40, 3) := by decide +kernel
theorem dL_law_291 : decode cL_law 291 = .ok (.ifCond .ne 7, 3) := by decide +kernel
theorem dL_law_294 : decode cL_law 294 = .ok (.iconst 1, 1) := by decide +kernel
theorem dL_law_295 : decode cL_law 295 = .ok (.goto 4, 3) := by decide +kernel
theorem dL_law_298 : decode cL_law 298 = .ok (.iconst 0, 1) := by decide +kernel
theorem dL_law_299 : decode cL_law 299 = .ok (.istore 12, 2) := by decide +kernel
theorem dL_law_301 : decode cL_law 301 = .ok (.iinc 9 1, 3) := by decide +kernel
theorem dL_law_304 : decode cL_law 304 = .ok (.goto 1326, 3) := by decide +kernel
theorem dL_law_307 : decode cL_law 307 = .ok (.iload 17, 2) := by decide +kernel
theorem dL_law_309 : decode cL_law 309 = .ok (.iconst 2, 1) := by decide +kernel
theorem dL_law_310 : decode cL_law 310 = .ok (.if_icmp .ge 37, 3) := by decide +kernel
theorem dL_law_313 : decode cL_law 313 = .ok (.aload_n 1, 1) := by decide +kernel
theorem dL_law_314 : decode cL_law 314 = .ok (.iload 20, 2) := by decide +kernel
theorem dL_law_316 : decode cL_law 316 = .ok (.iload 18, 2) := by decide +kernel
theorem dL_law_318 : decode cL_law 318 = .ok (.invokevirtual 80, 3) := by decide +kernel
theorem dL_law_321 : decode cL_law 321 = .ok (.ifCond .lt 20, 3) := by decide +kernel
theorem dL_law_324 : decode cL_law 324 = .ok (.aload_n 1, 1) := by decide +kernel
theorem dL_law_325 : decode cL_law 325 = .ok (.iload 20, 2) := by decide +kernel
theorem dL_law_327 : decode cL_law 327 = .ok (.iload 18, 2) := by decide +kernel
theorem dL_law_329 : decode cL_law 329 = .ok (.invokevirtual 80, 3) := by decide +kernel
theorem dL_law_332 : decode cL_law 332 = .ok (.iload 18, 2) := by decide +kernel
theorem dL_law_334 : decode cL_law 334 = .ok (.if_icmp .ne 7, 3) := by decide +kernel
theorem dL_law_337 : decode cL_law 337 = .ok (.iconst 1, 1) := by decide +kernel
theorem dL_law_338 : decode cL_law 338 = .ok (.goto 4, 3) := by decide +kernel
theorem dL_law_341 : decode cL_law 341 = .ok (.iconst 0, 1) := by decide +kernel
theorem dL_law_342 : decode cL_law 342 = .ok (.istore 12, 2) := by decide +kernel
theorem dL_law_344 : decode cL_law 344 = .ok (.goto 1286, 3) := by decide +kernel
theorem dL_law_347 : decode cL_law 347 = .ok (.iload 17, 2) := by decide +kernel
theorem dL_law_349 : decode cL_law 349 = .ok (.bipush 6, 2) := by decide +kernel
theorem dL_law_351 : decode cL_law 351 = .ok (.if_icmp .ge 354, 3) := by decide +kernel
theorem dL_law_354 : decode cL_law 354 = .ok (.iload 10, 2) := by decide +kernel
theorem dL_law_356 : decode cL_law 356 = .ok (.bipush 16, 2) := by decide +kernel
theorem dL_law_358 : decode cL_law 358 = .ok (.if_icmp .ge 347, 3) := by decide +kernel
theorem dL_law_361 : decode cL_law 361 = .ok (.iload 17, 2) := by decide +kernel
theorem dL_law_363 : decode cL_law 363 = .ok (.iconst 2, 1) := by decide +kernel
theorem dL_law_364 : decode cL_law 364 = .ok (.if_icmp .ne 7, 3) := by decide +kernel
theorem dL_law_367 : decode cL_law 367 = .ok (.iconst 0, 1) := by decide +kernel
theorem dL_law_368 : decode cL_law 368 = .ok (.goto 30, 3) := by decide +kernel
theorem dL_law_371 : decode cL_law 371 = .ok (.iload 17, 2) := by decide +kernel
theorem dL_law_373 : decode cL_law 373 = .ok (.iconst 3, 1) := by decide +kernel
theorem dL_law_374 : decode cL_law 374 = .ok (.if_icmp .ne 7, 3) := by decide +kernel
theorem dL_law_377 : decode cL_law 377 = .ok (.iconst 1, 1) := by decide +kernel
theorem dL_law_378 : decode cL_law 378 = .ok (.goto 20, 3) := by decide +kernel
theorem dL_law_381 : decode cL_law 381 = .ok (.iload 17, 2) := by decide +kernel
theorem dL_law_383 : decode cL_law 383 = .ok (.iconst 4, 1) := by decide +kernel
theorem dL_law_384 : decode cL_law 384 = .ok (.if_icmp .ne 7, 3) := by decide +kernel
theorem dL_law_387 : decode cL_law 387 = .ok (.iconst 2, 1) := by decide +kernel
theorem dL_law_388 : decode cL_law 388 = .ok (.goto 10, 3) := by decide +kernel
theorem dL_law_391 : decode cL_law 391 = .ok (.iload 16, 2) := by decide +kernel
theorem dL_law_393 : decode cL_law 393 = .ok (.bipush 20, 2) := by decide +kernel
theorem dL_law_395 : decode cL_law 395 = .ok (.ishr, 1) := by decide +kernel
theorem dL_law_396 : decode cL_law 396 = .ok (.iconst 2, 1) := by decide +kernel
theorem dL_law_397 : decode cL_law 397 = .ok (.irem, 1) := by decide +kernel
theorem dL_law_398 : decode cL_law 398 = .ok (.istore 23, 2) := by decide +kernel
theorem dL_law_400 : decode cL_law 400 = .ok (.iload 23, 2) := by decide +kernel
theorem dL_law_402 : decode cL_law 402 = .ok (.ifCond .ne 14, 3) := by decide +kernel
theorem dL_law_405 : decode cL_law 405 = .ok (.iload 16, 2) := by decide +kernel
theorem dL_law_407 : decode cL_law 407 = .ok (.bipush 9, 2) := by decide +kernel
theorem dL_law_409 : decode cL_law 409 = .ok (.ishr, 1) := by decide +kernel
theorem dL_law_410 : decode cL_law 410 = .ok (.iload 9, 2) := by decide +kernel
theorem dL_law_412 : decode cL_law 412 = .ok (.irem, 1) := by decide +kernel
theorem dL_law_413 : decode cL_law 413 = .ok (.goto 5, 3) := by decide +kernel
theorem dL_law_416 : decode cL_law 416 = .ok (.iload 20, 2) := by decide +kernel
theorem dL_law_418 : decode cL_law 418 = .ok (.istore 24, 2) := by decide +kernel
theorem dL_law_420 : decode cL_law 420 = .ok (.iload 23, 2) := by decide +kernel
theorem dL_law_422 : decode cL_law 422 = .ok (.ifCond .ne 27, 3) := by decide +kernel
theorem dL_law_425 : decode cL_law 425 = .ok (.iload 24, 2) := by decide +kernel
theorem dL_law_427 : decode cL_law 427 = .ok (.ifCond .le 22, 3) := by decide +kernel
theorem dL_law_430 : decode cL_law 430 = .ok (.iload 16, 2) := by decide +kernel
theorem dL_law_432 : decode cL_law 432 = .ok (.bipush 12, 2) := by decide +kernel
theorem dL_law_434 : decode cL_law 434 = .ok (.ishr, 1) := by decide +kernel
theorem dL_law_435 : decode cL_law 435 = .ok (.bipush 7, 2) := by decide +kernel
theorem dL_law_437 : decode cL_law 437 = .ok (.iand, 1) := by decide +kernel
theorem dL_law_438 : decode cL_law 438 = .ok (.ifCond .le 11, 3) := by decide +kernel
theorem dL_law_441 : decode cL_law 441 = .ok (.aload 7, 2) := by decide +kernel
theorem dL_law_443 : decode cL_law 443 = .ok (.iload 24, 2) := by decide +kernel
theorem dL_law_445 : decode cL_law 445 = .ok (.iaload, 1) := by decide +kernel
theorem dL_law_446 : decode cL_law 446 = .ok (.goto 5, 3) := by decide +kernel
theorem dL_law_449 : decode cL_law 449 = .ok (.iload 18, 2) := by decide +kernel
theorem dL_law_451 : decode cL_law 451 = .ok (.istore 25, 2) := by decide +kernel
theorem dL_law_453 : decode cL_law 453 = .ok (.iload 23, 2) := by decide +kernel
theorem dL_law_455 : decode cL_law 455 = .ok (.iconst 2, 1) := by decide +kernel
theorem dL_law_456 : decode cL_law 456 = .ok (.if_icmp .ne 7, 3) := by decide +kernel
theorem dL_law_459 : decode cL_law 459 = .ok (.iconst 0, 1) := by decide +kernel
theorem dL_law_460 : decode cL_law 460 = .ok (.goto 22, 3) := by decide +kernel
theorem dL_law_463 : decode cL_law 463 = .ok (.iload 16, 2) := by decide +kernel
theorem dL_law_465 : decode cL_law 465 = .ok (.bipush 12, 2) := by decide +kernel
theorem dL_law_467 : decode cL_law 467 = .ok (.ishr, 1) := by decide +kernel
theorem dL_law_468 : decode cL_law 468 = .ok (.iconst 1, 1) := by decide +kernel
theorem dL_law_469 : decode cL_law 469 = .ok (.iand, 1) := by decide +kernel
theorem dL_law_470 : decode cL_law 470 = .ok (.ifCond .ne 10, 3) := by decide +kernel
theorem dL_law_473 : decode cL_law 473 = .ok (.iload 21, 2) := by decide +kernel
theorem dL_law_475 : decode cL_law 475 = .ok (.iconst 3, 1) := by decide +kernel
theorem dL_law_476 : decode cL_law 476 = .ok (.idiv, 1) := by decide +kernel
theorem dL_law_477 : decode cL_law 477 = .ok (.goto 5, 3) := by decide +kernel
theorem dL_law_480 : decode cL_law 480 = .ok (.iload 21, 2) := by decide +kernel
theorem dL_law_482 : decode cL_law 482 = .ok (.istore 21, 2) := by decide +kernel
theorem dL_law_484 : decode cL_law 484 = .ok (.iload 23, 2) := by decide +kernel
theorem dL_law_486 : decode cL_law 486 = .ok (.iconst 2, 1) := by decide +kernel
theorem dL_law_487 : decode cL_law 487 = .ok (.if_icmp .ne 7, 3) := by decide +kernel
theorem dL_law_490 : decode cL_law 490 = .ok (.iconst 0, 1) := by decide +kernel
theorem dL_law_491 : decode cL_law 491 = .ok (.goto 24, 3) := by decide +kernel
theorem dL_law_494 : decode cL_law 494 = .ok (.iload 16, 2) := by decide +kernel
theorem dL_law_496 : decode cL_law 496 = .ok (.bipush 6, 2) := by decide +kernel
theorem dL_law_498 : decode cL_law 498 = .ok (.ishr, 1) := by decide +kernel
theorem dL_law_499 : decode cL_law 499 = .ok (.sipush 255, 3) := by decide +kernel
theorem dL_law_502 : decode cL_law 502 = .ok (.iand, 1) := by decide +kernel
theorem dL_law_503 : decode cL_law 503 = .ok (.bipush 8, 2) := by decide +kernel
theorem dL_law_505 : decode cL_law 505 = .ok (.iload 21, 2) := by decide +kernel
theorem dL_law_507 : decode cL_law 507 = .ok (.isub, 1) := by decide +kernel
theorem dL_law_508 : decode cL_law 508 = .ok (.ishr, 1) := by decide +kernel
theorem dL_law_509 : decode cL_law 509 = .ok (.bipush 8, 2) := by decide +kernel
theorem dL_law_511 : decode cL_law 511 = .ok (.iload 21, 2) := by decide +kernel
theorem dL_law_513 : decode cL_law 513 = .ok (.isub, 1) := by decide +kernel
theorem dL_law_514 : decode cL_law 514 = .ok (.ishl, 1) := by decide +kernel
theorem dL_law_515 : decode cL_law 515 = .ok (.istore 22, 2) := by decide +kernel
theorem dL_law_517 : decode cL_law 517 = .ok (.iload 23, 2) := by decide +kernel
theorem dL_law_519 : decode cL_law 519 = .ok (.ifCond .ne 7, 3) := by decide +kernel
theorem dL_law_522 : decode cL_law 522 = .ok (.iconst 0, 1) := by decide +kernel
theorem dL_law_523 : decode cL_law 523 = .ok (.goto 28, 3) := by decide +kernel
theorem dL_law_526 : decode cL_law 526 = .ok (.iload 23, 2) := by decide +kernel
theorem dL_law_528 : decode cL_law 528 = .ok (.iconst 1, 1) := by decide +kernel
theorem dL_law_529 : decode cL_law 529 = .ok (.if_icmp .ne 14, 3) := by decide +kernel
theorem dL_law_532 : decode cL_law 532 = .ok (.iload 16, 2) := by decide +kernel
theorem dL_law_534 : decode cL_law 534 = .ok (.bipush 15, 2) := by decide +kernel
theorem dL_law_536 : decode cL_law 536 = .ok (.ishr, 1) := by decide +kernel
theorem dL_law_537 : decode cL_law 537 = .ok (.bipush 9, 2) := by decide +kernel
theorem dL_law_539 : decode cL_law 539 = .ok (.irem, 1) := by decide +kernel
theorem dL_law_540 : decode cL_law 540 = .ok (.goto 11, 3) := by decide +kernel
theorem dL_law_543 : decode cL_law 543 = .ok (.iload 16, 2) := by decide +kernel
theorem dL_law_545 : decode cL_law 545 = .ok (.bipush 14, 2) := by decide +kernel
theorem dL_law_547 : decode cL_law 547 = .ok (.ishr, 1) := by decide +kernel
theorem dL_law_548 : decode cL_law 548 = .ok (.bipush 127, 2) := by decide +kernel
theorem dL_law_550 : decode cL_law 550 = .ok (.iand, 1) := by decide +kernel
theorem dL_law_551 : decode cL_law 551 = .ok (.istore 26, 2) := by decide +kernel
theorem dL_law_553 : decode cL_law 553 = .ok (.iload 16, 2) := by decide +kernel
theorem dL_law_555 : decode cL_law 555 = .ok (.iconst 3, 1) := by decide +kernel
theorem dL_law_556 : decode cL_law 556 = .ok (.ishr, 1) := by decide +kernel
theorem dL_law_557 : decode cL_law 557 = .ok (.bipush 120, 2) := by decide +kernel
theorem dL_law_559 : decode cL_law 559 = .ok (.irem, 1) := by decide +kernel
theorem dL_law_560 : decode cL_law 560 = .ok (.istore 27, 2) := by decide +kernel
theorem dL_law_562 : decode cL_law 562 = .ok (.iload 23, 2) := by decide +kernel
theorem dL_law_564 : decode cL_law 564 = .ok (.ifCond .ne 20, 3) := by decide +kernel
theorem dL_law_567 : decode cL_law 567 = .ok (.aload_n 1, 1) := by decide +kernel
theorem dL_law_568 : decode cL_law 568 = .ok (.iload 25, 2) := by decide +kernel
theorem dL_law_570 : decode cL_law 570 = .ok (.iload 24, 2) := by decide +kernel
theorem dL_law_572 : decode cL_law 572 = .ok (.iload 22, 2) := by decide +kernel
theorem dL_law_574 : decode cL_law 574 = .ok (.iload 21, 2) := by decide +kernel
theorem dL_law_576 : decode cL_law 576 = .ok (.iload 27, 2) := by decide +kernel
theorem dL_law_578 : decode cL_law 578 = .ok (.invokevirtual 83, 3) := by decide +kernel
theorem dL_law_581 : decode cL_law 581 = .ok (.goto 40, 3) := by decide +kernel
theorem dL_law_584 : decode cL_law 584 = .ok (.iload 23, 2) := by decide +kernel
theorem dL_law_586 : decode cL_law 586 = .ok (.iconst 1, 1) := by decide +kernel
theorem dL_law_587 : decode cL_law 587 = .ok (.if_icmp .ne 22, 3) := by decide +kernel
theorem dL_law_590 : decode cL_law 590 = .ok (.aload_n 1, 1) := by decide +kernel
theorem dL_law_591 : decode cL_law 591 = .ok (.iload 25, 2) := by decide +kernel
theorem dL_law_593 : decode cL_law 593 = .ok (.iload 24, 2) := by decide +kernel
theorem dL_law_595 : decode cL_law 595 = .ok (.iload 22, 2) := by decide +kernel
theorem dL_law_597 : decode cL_law 597 = .ok (.iload 21, 2) := by decide +kernel
theorem dL_law_599 : decode cL_law 599 = .ok (.iload 26, 2) := by decide +kernel
theorem dL_law_601 : decode cL_law 601 = .ok (.iload 27, 2) := by decide +kernel
theorem dL_law_603 : decode cL_law 603 = .ok (.invokevirtual 87, 3) := by decide +kernel
theorem dL_law_606 : decode cL_law 606 = .ok (.goto 15, 3) := by decide +kernel
theorem dL_law_609 : decode cL_law 609 = .ok (.aload_n 1, 1) := by decide +kernel
theorem dL_law_610 : decode cL_law 610 = .ok (.iload 25, 2) := by decide +kernel
theorem dL_law_612 : decode cL_law 612 = .ok (.iload 24, 2) := by decide +kernel
theorem dL_law_614 : decode cL_law 614 = .ok (.iload 26, 2) := by decide +kernel
theorem dL_law_616 : decode cL_law 616 = .ok (.iload 27, 2) := by decide +kernel
theorem dL_law_618 : decode cL_law 618 = .ok (.invokevirtual 91, 3) := by decide +kernel
theorem dL_law_621 : decode cL_law 621 = .ok (.istore 28, 2) := by decide +kernel
theorem dL_law_623 : decode cL_law 623 = .ok (.aload_n 2, 1) := by decide +kernel
theorem dL_law_624 : decode cL_law 624 = .ok (.iload 10, 2) := by decide +kernel
theorem dL_law_626 : decode cL_law 626 = .ok (.iload 23, 2) := by decide +kernel
theorem dL_law_628 : decode cL_law 628 = .ok (.iastore, 1) := by decide +kernel
theorem dL_law_629 : decode cL_law 629 = .ok (.aload_n 3, 1) := by decide +kernel
theorem dL_law_630 : decode cL_law 630 = .ok (.iload 10, 2) := by decide +kernel
theorem dL_law_632 : decode cL_law 632 = .ok (.iload 24, 2) := by decide +kernel
theorem dL_law_634 : decode cL_law 634 = .ok (.iastore, 1) := by decide +kernel
theorem dL_law_635 : decode cL_law 635 = .ok (.aload 4, 2) := by decide +kernel
theorem dL_law_637 : decode cL_law 637 = .ok (.iload 10, 2) := by decide +kernel
theorem dL_law_639 : decode cL_law 639 = .ok (.iload 22, 2) := by decide +kernel
theorem dL_law_641 : decode cL_law 641 = .ok (.iastore, 1) := by decide +kernel
theorem dL_law_642 : decode cL_law 642 = .ok (.aload 5, 2) := by decide +kernel
theorem dL_law_644 : decode cL_law 644 = .ok (.iload 10, 2) := by decide +kernel
theorem dL_law_646 : decode cL_law 646 = .ok (.iload 21, 2) := by decide +kernel
theorem dL_law_648 : decode cL_law 648 = .ok (.iastore, 1) := by decide +kernel
theorem dL_law_649 : decode cL_law 649 = .ok (.aload 6, 2) := by decide +kernel
theorem dL_law_651 : decode cL_law 651 = .ok (.iload 10, 2) := by decide +kernel
theorem dL_law_653 : decode cL_law 653 = .ok (.iload 26, 2) := by decide +kernel
theorem dL_law_655 : decode cL_law 655 = .ok (.iastore, 1) := by decide +kernel
theorem dL_law_656 : decode cL_law 656 = .ok (.iload 28, 2) := by decide +kernel
theorem dL_law_658 : decode cL_law 658 = .ok (.iload 10, 2) := by decide +kernel
theorem dL_law_660 : decode cL_law 660 = .ok (.if_icmp .ne 36, 3) := by decide +kernel
theorem dL_law_663 : decode cL_law 663 = .ok (.aload_n 1, 1) := by decide +kernel
theorem dL_law_664 : decode cL_law 664 = .ok (.iload 28, 2) := by decide +kernel
theorem dL_law_666 : decode cL_law 666 = .ok (.invokevirtual 47, 3) := by decide +kernel
theorem dL_law_669 : decode cL_law 669 = .ok (.ifCond .eq 23, 3) := by decide +kernel
theorem dL_law_672 : decode cL_law 672 = .ok (.aload_n 1, 1) := by decide +kernel
theorem dL_law_673 : decode cL_law 673 = .ok (.iload 28, 2) := by decide +kernel
theorem dL_law_675 : decode cL_law 675 = .ok (.invokevirtual 47, 3) := by decide +kernel
theorem dL_law_678 : decode cL_law 678 = .ok (.iconst 3, 1) := by decide +kernel
theorem dL_law_679 : decode cL_law 679 = .ok (.if_icmp .eq 13, 3) := by decide +kernel
theorem dL_law_682 : decode cL_law 682 = .ok (.aload_n 1, 1) := by decide +kernel
theorem dL_law_683 : decode cL_law 683 = .ok (.iload 28, 2) := by decide +kernel
theorem dL_law_685 : decode cL_law 685 = .ok (.invokevirtual 47, 3) := by decide +kernel
theorem dL_law_688 : decode cL_law 688 = .ok (.iconst 5, 1) := by decide +kernel
theorem dL_law_689 : decode cL_law 689 = .ok (.if_icmp .ne 7, 3) := by decide +kernel
theorem dL_law_692 : decode cL_law 692 = .ok (.iconst 1, 1) := by decide +kernel
theorem dL_law_693 : decode cL_law 693 = .ok (.goto 4, 3) := by decide +kernel
theorem dL_law_696 : decode cL_law 696 = .ok (.iconst 0, 1) := by decide +kernel
theorem dL_law_697 : decode cL_law 697 = .ok (.istore 12, 2) := by decide +kernel
theorem dL_law_699 : decode cL_law 699 = .ok (.iinc 10 1, 3) := by decide +kernel
theorem dL_law_702 : decode cL_law 702 = .ok (.goto 928, 3) := by decide +kernel
theorem dL_law_705 : decode cL_law 705 = .ok (.iload 17, 2) := by decide +kernel
theorem dL_law_707 : decode cL_law 707 = .ok (.bipush 6, 2) := by decide +kernel
theorem dL_law_709 : decode cL_law 709 = .ok (.if_icmp .ne 147, 3) := by decide +kernel
theorem dL_law_712 : decode cL_law 712 = .ok (.iload 10, 2) := by decide +kernel
theorem dL_law_714 : decode cL_law 714 = .ok (.ifCond .le 142, 3) := by decide +kernel
theorem dL_law_717 : decode cL_law 717 = .ok (.iload 16, 2) := by decide +kernel
theorem dL_law_719 : decode cL_law 719 = .ok (.iconst 5, 1) := by decide +kernel
theorem dL_law_720 : decode cL_law 720 = .ok (.ishr, 1) := by decide +kernel
theorem dL_law_721 : decode cL_law 721 = .ok (.bipush 9, 2) := by decide +kernel
theorem dL_law_723 : decode cL_law 723 = .ok (.irem, 1) := by decide +kernel
theorem dL_law_724 : decode cL_law 724 = .ok (.istore 23, 2) := by decide +kernel
theorem dL_law_726 : decode cL_law 726 = .ok (.aload_n 1, 1) := by decide +kernel
theorem dL_law_727 : decode cL_law 727 = .ok (.iload 19, 2) := by decide +kernel
theorem dL_law_729 : decode cL_law 729 = .ok (.invokevirtual 47, 3) := by decide +kernel
theorem dL_law_732 : decode cL_law 732 = .ok (.istore 24, 2) := by decide +kernel
theorem dL_law_734 : decode cL_law 734 = .ok (.aload_n 1, 1) := by decide +kernel
theorem dL_law_735 : decode cL_law 735 = .ok (.iconst 0, 1) := by decide +kernel
theorem dL_law_736 : decode cL_law 736 = .ok (.iload 19, 2) := by decide +kernel
theorem dL_law_738 : decode cL_law 738 = .ok (.iload 23, 2) := by decide +kernel
theorem dL_law_740 : decode cL_law 740 = .ok (.invokestatic 54, 3) := by decide +kernel
theorem dL_law_743 : decode cL_law 743 = .ok (.istore 25, 2) := by decide +kernel
theorem dL_law_745 : decode cL_law 745 = .ok (.iload 25, 2) := by decide +kernel
theorem dL_law_747 : decode cL_law 747 = .ok (.aload_n 2, 1) := by decide +kernel
theorem dL_law_748 : decode cL_law 748 = .ok (.iload 19, 2) := by decide +kernel
theorem dL_law_750 : decode cL_law 750 = .ok (.iaload, 1) := by decide +kernel
