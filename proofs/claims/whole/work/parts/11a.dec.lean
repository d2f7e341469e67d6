theorem d0_0 : decode (ai_b 0) 0 = .ok (.aload_n 0, 1) := by decide +kernel
theorem d0_1 : decode (ai_b 0) 1 = .ok (.invokespecial 1, 3) := by decide +kernel
theorem d0_4 : decode (ai_b 0) 4 = .ok (.aload_n 0, 1) := by decide +kernel
theorem d0_5 : decode (ai_b 0) 5 = .ok (.iconst 0, 1) := by decide +kernel
theorem d0_6 : decode (ai_b 0) 6 = .ok (.putfield 7, 3) := by decide +kernel
theorem d0_9 : decode (ai_b 0) 9 = .ok (.aload_n 0, 1) := by decide +kernel
theorem d0_10 : decode (ai_b 0) 10 = .ok (.iload_n 1, 1) := by decide +kernel
theorem d0_11 : decode (ai_b 0) 11 = .ok (.iconst 1, 1) := by decide +kernel
theorem d0_12 : decode (ai_b 0) 12 = .ok (.invokestatic 13, 3) := by decide +kernel
theorem d0_15 : decode (ai_b 0) 15 = .ok (.newarray .int, 2) := by decide +kernel
theorem d0_17 : decode (ai_b 0) 17 = .ok (.putfield 19, 3) := by decide +kernel
theorem d0_20 : decode (ai_b 0) 20 = .ok (.return_, 1) := by decide +kernel
theorem d1_0 : decode (ai_b 1) 0 = .ok (.aload_n 0, 1) := by decide +kernel
theorem d1_1 : decode (ai_b 1) 1 = .ok (.getfield 19, 3) := by decide +kernel
theorem d1_4 : decode (ai_b 1) 4 = .ok (.iconst 0, 1) := by decide +kernel
theorem d1_5 : decode (ai_b 1) 5 = .ok (.iload_n 1, 1) := by decide +kernel
theorem d1_6 : decode (ai_b 1) 6 = .ok (.ldc 23, 2) := by decide +kernel
theorem d1_8 : decode (ai_b 1) 8 = .ok (.iand, 1) := by decide +kernel
theorem d1_9 : decode (ai_b 1) 9 = .ok (.iastore, 1) := by decide +kernel
theorem d1_10 : decode (ai_b 1) 10 = .ok (.aload_n 0, 1) := by decide +kernel
theorem d1_11 : decode (ai_b 1) 11 = .ok (.iconst 1, 1) := by decide +kernel
theorem d1_12 : decode (ai_b 1) 12 = .ok (.putfield 7, 3) := by decide +kernel
theorem d1_15 : decode (ai_b 1) 15 = .ok (.aload_n 0, 1) := by decide +kernel
theorem d1_16 : decode (ai_b 1) 16 = .ok (.invokevirtual 24, 3) := by decide +kernel
theorem d1_19 : decode (ai_b 1) 19 = .ok (.return_, 1) := by decide +kernel
theorem d2_0 : decode (ai_b 2) 0 = .ok (.aload_n 0, 1) := by decide +kernel
theorem d2_1 : decode (ai_b 2) 1 = .ok (.aload_n 1, 1) := by decide +kernel
theorem d2_2 : decode (ai_b 2) 2 = .ok (.getfield 7, 3) := by decide +kernel
theorem d2_5 : decode (ai_b 2) 5 = .ok (.aload_n 0, 1) := by decide +kernel
theorem d2_6 : decode (ai_b 2) 6 = .ok (.getfield 19, 3) := by decide +kernel
theorem d2_9 : decode (ai_b 2) 9 = .ok (.arraylength, 1) := by decide +kernel
theorem d2_10 : decode (ai_b 2) 10 = .ok (.invokestatic 27, 3) := by decide +kernel
theorem d2_13 : decode (ai_b 2) 13 = .ok (.putfield 7, 3) := by decide +kernel
theorem d2_16 : decode (ai_b 2) 16 = .ok (.aload_n 1, 1) := by decide +kernel
theorem d2_17 : decode (ai_b 2) 17 = .ok (.getfield 19, 3) := by decide +kernel
theorem d2_20 : decode (ai_b 2) 20 = .ok (.iconst 0, 1) := by decide +kernel
theorem d2_21 : decode (ai_b 2) 21 = .ok (.aload_n 0, 1) := by decide +kernel
theorem d2_22 : decode (ai_b 2) 22 = .ok (.getfield 19, 3) := by decide +kernel
theorem d2_25 : decode (ai_b 2) 25 = .ok (.iconst 0, 1) := by decide +kernel
theorem d2_26 : decode (ai_b 2) 26 = .ok (.aload_n 0, 1) := by decide +kernel
theorem d2_27 : decode (ai_b 2) 27 = .ok (.getfield 7, 3) := by decide +kernel
theorem d2_30 : decode (ai_b 2) 30 = .ok (.invokestatic 30, 3) := by decide +kernel
theorem d2_33 : decode (ai_b 2) 33 = .ok (.return_, 1) := by decide +kernel
theorem d3_0 : decode (ai_b 3) 0 = .ok (.aload_n 0, 1) := by decide +kernel
theorem d3_1 : decode (ai_b 3) 1 = .ok (.aload_n 1, 1) := by decide +kernel
theorem d3_2 : decode (ai_b 3) 2 = .ok (.getfield 7, 3) := by decide +kernel
theorem d3_5 : decode (ai_b 3) 5 = .ok (.aload_n 2, 1) := by decide +kernel
theorem d3_6 : decode (ai_b 3) 6 = .ok (.getfield 7, 3) := by decide +kernel
theorem d3_9 : decode (ai_b 3) 9 = .ok (.iadd, 1) := by decide +kernel
theorem d3_10 : decode (ai_b 3) 10 = .ok (.aload_n 0, 1) := by decide +kernel
theorem d3_11 : decode (ai_b 3) 11 = .ok (.getfield 19, 3) := by decide +kernel
theorem d3_14 : decode (ai_b 3) 14 = .ok (.arraylength, 1) := by decide +kernel
theorem d3_15 : decode (ai_b 3) 15 = .ok (.invokestatic 27, 3) := by decide +kernel
theorem d3_18 : decode (ai_b 3) 18 = .ok (.putfield 7, 3) := by decide +kernel
theorem d3_21 : decode (ai_b 3) 21 = .ok (.iconst 0, 1) := by decide +kernel
theorem d3_22 : decode (ai_b 3) 22 = .ok (.istore_n 3, 1) := by decide +kernel
theorem d3_23 : decode (ai_b 3) 23 = .ok (.iload_n 3, 1) := by decide +kernel
theorem d3_24 : decode (ai_b 3) 24 = .ok (.aload_n 0, 1) := by decide +kernel
theorem d3_25 : decode (ai_b 3) 25 = .ok (.getfield 7, 3) := by decide +kernel
theorem d3_28 : decode (ai_b 3) 28 = .ok (.if_icmp .ge 16, 3) := by decide +kernel
theorem d3_31 : decode (ai_b 3) 31 = .ok (.aload_n 0, 1) := by decide +kernel
theorem d3_32 : decode (ai_b 3) 32 = .ok (.getfield 19, 3) := by decide +kernel
theorem d3_35 : decode (ai_b 3) 35 = .ok (.iload_n 3, 1) := by decide +kernel
theorem d3_36 : decode (ai_b 3) 36 = .ok (.iconst 0, 1) := by decide +kernel
theorem d3_37 : decode (ai_b 3) 37 = .ok (.iastore, 1) := by decide +kernel
theorem d3_38 : decode (ai_b 3) 38 = .ok (.iinc 3 1, 3) := by decide +kernel
theorem d3_41 : decode (ai_b 3) 41 = .ok (.goto (-18), 3) := by decide +kernel
theorem d3_44 : decode (ai_b 3) 44 = .ok (.iconst 0, 1) := by decide +kernel
theorem d3_45 : decode (ai_b 3) 45 = .ok (.istore_n 3, 1) := by decide +kernel
theorem d3_46 : decode (ai_b 3) 46 = .ok (.iload_n 3, 1) := by decide +kernel
theorem d3_47 : decode (ai_b 3) 47 = .ok (.aload_n 1, 1) := by decide +kernel
theorem d3_48 : decode (ai_b 3) 48 = .ok (.getfield 7, 3) := by decide +kernel
theorem d3_51 : decode (ai_b 3) 51 = .ok (.if_icmp .ge 21, 3) := by decide +kernel
theorem d3_54 : decode (ai_b 3) 54 = .ok (.aload_n 0, 1) := by decide +kernel
theorem d3_55 : decode (ai_b 3) 55 = .ok (.aload_n 2, 1) := by decide +kernel
theorem d3_56 : decode (ai_b 3) 56 = .ok (.aload_n 1, 1) := by decide +kernel
theorem d3_57 : decode (ai_b 3) 57 = .ok (.getfield 19, 3) := by decide +kernel
theorem d3_60 : decode (ai_b 3) 60 = .ok (.iload_n 3, 1) := by decide +kernel
theorem d3_61 : decode (ai_b 3) 61 = .ok (.iaload, 1) := by decide +kernel
theorem d3_62 : decode (ai_b 3) 62 = .ok (.iload_n 3, 1) := by decide +kernel
theorem d3_63 : decode (ai_b 3) 63 = .ok (.invokevirtual 36, 3) := by decide +kernel
theorem d3_66 : decode (ai_b 3) 66 = .ok (.iinc 3 1, 3) := by decide +kernel
theorem d3_69 : decode (ai_b 3) 69 = .ok (.goto (-23), 3) := by decide +kernel
theorem d3_72 : decode (ai_b 3) 72 = .ok (.aload_n 0, 1) := by decide +kernel
theorem d3_73 : decode (ai_b 3) 73 = .ok (.invokevirtual 24, 3) := by decide +kernel
theorem d3_76 : decode (ai_b 3) 76 = .ok (.return_, 1) := by decide +kernel
theorem d4_0 : decode (ai_b 4) 0 = .ok (.lconst 0, 1) := by decide +kernel
theorem d4_1 : decode (ai_b 4) 1 = .ok (.lstore_n 2, 1) := by decide +kernel
theorem d4_2 : decode (ai_b 4) 2 = .ok (.iconst 0, 1) := by decide +kernel
theorem d4_3 : decode (ai_b 4) 3 = .ok (.istore 4, 2) := by decide +kernel
theorem d4_5 : decode (ai_b 4) 5 = .ok (.iload 4, 2) := by decide +kernel
theorem d4_7 : decode (ai_b 4) 7 = .ok (.aload_n 0, 1) := by decide +kernel
theorem d4_8 : decode (ai_b 4) 8 = .ok (.getfield 7, 3) := by decide +kernel
theorem d4_11 : decode (ai_b 4) 11 = .ok (.if_icmp .ge 44, 3) := by decide +kernel
theorem d4_14 : decode (ai_b 4) 14 = .ok (.aload_n 0, 1) := by decide +kernel
theorem d4_15 : decode (ai_b 4) 15 = .ok (.getfield 19, 3) := by decide +kernel
theorem d4_18 : decode (ai_b 4) 18 = .ok (.iload 4, 2) := by decide +kernel
theorem d4_20 : decode (ai_b 4) 20 = .ok (.iaload, 1) := by decide +kernel
theorem d4_21 : decode (ai_b 4) 21 = .ok (.i2l, 1) := by decide +kernel
theorem d4_22 : decode (ai_b 4) 22 = .ok (.iload_n 1, 1) := by decide +kernel
theorem d4_23 : decode (ai_b 4) 23 = .ok (.i2l, 1) := by decide +kernel
theorem d4_24 : decode (ai_b 4) 24 = .ok (.lmul, 1) := by decide +kernel
theorem d4_25 : decode (ai_b 4) 25 = .ok (.lload_n 2, 1) := by decide +kernel
theorem d4_26 : decode (ai_b 4) 26 = .ok (.ladd, 1) := by decide +kernel
theorem d4_27 : decode (ai_b 4) 27 = .ok (.lstore 5, 2) := by decide +kernel
theorem d4_29 : decode (ai_b 4) 29 = .ok (.aload_n 0, 1) := by decide +kernel
theorem d4_30 : decode (ai_b 4) 30 = .ok (.getfield 19, 3) := by decide +kernel
theorem d4_33 : decode (ai_b 4) 33 = .ok (.iload 4, 2) := by decide +kernel
theorem d4_35 : decode (ai_b 4) 35 = .ok (.lload 5, 2) := by decide +kernel
theorem d4_37 : decode (ai_b 4) 37 = .ok (.ldc2_w 40, 3) := by decide +kernel
theorem d4_40 : decode (ai_b 4) 40 = .ok (.land, 1) := by decide +kernel
theorem d4_41 : decode (ai_b 4) 41 = .ok (.l2i, 1) := by decide +kernel
theorem d4_42 : decode (ai_b 4) 42 = .ok (.iastore, 1) := by decide +kernel
theorem d4_43 : decode (ai_b 4) 43 = .ok (.lload 5, 2) := by decide +kernel
theorem d4_45 : decode (ai_b 4) 45 = .ok (.bipush 31, 2) := by decide +kernel
theorem d4_47 : decode (ai_b 4) 47 = .ok (.lushr, 1) := by decide +kernel
theorem d4_48 : decode (ai_b 4) 48 = .ok (.lstore_n 2, 1) := by decide +kernel
theorem d4_49 : decode (ai_b 4) 49 = .ok (.iinc 4 1, 3) := by decide +kernel
theorem d4_52 : decode (ai_b 4) 52 = .ok (.goto (-47), 3) := by decide +kernel
theorem d4_55 : decode (ai_b 4) 55 = .ok (.aload_n 0, 1) := by decide +kernel
theorem d4_56 : decode (ai_b 4) 56 = .ok (.lload_n 2, 1) := by decide +kernel
theorem d4_57 : decode (ai_b 4) 57 = .ok (.invokevirtual 42, 3) := by decide +kernel
theorem d4_60 : decode (ai_b 4) 60 = .ok (.aload_n 0, 1) := by decide +kernel
theorem d4_61 : decode (ai_b 4) 61 = .ok (.invokevirtual 24, 3) := by decide +kernel
theorem d4_64 : decode (ai_b 4) 64 = .ok (.return_, 1) := by decide +kernel
theorem d5_0 : decode (ai_b 5) 0 = .ok (.lconst 0, 1) := by decide +kernel
theorem d5_1 : decode (ai_b 5) 1 = .ok (.lstore_n 2, 1) := by decide +kernel
theorem d5_2 : decode (ai_b 5) 2 = .ok (.aload_n 0, 1) := by decide +kernel
theorem d5_3 : decode (ai_b 5) 3 = .ok (.getfield 7, 3) := by decide +kernel
theorem d5_6 : decode (ai_b 5) 6 = .ok (.aload_n 1, 1) := by decide +kernel
theorem d5_7 : decode (ai_b 5) 7 = .ok (.getfield 7, 3) := by decide +kernel
theorem d5_10 : decode (ai_b 5) 10 = .ok (.aload_n 0, 1) := by decide +kernel
theorem d5_11 : decode (ai_b 5) 11 = .ok (.getfield 19, 3) := by decide +kernel
theorem d5_14 : decode (ai_b 5) 14 = .ok (.arraylength, 1) := by decide +kernel
theorem d5_15 : decode (ai_b 5) 15 = .ok (.invokestatic 27, 3) := by decide +kernel
theorem d5_18 : decode (ai_b 5) 18 = .ok (.invokestatic 13, 3) := by decide +kernel
theorem d5_21 : decode (ai_b 5) 21 = .ok (.istore 4, 2) := by decide +kernel
theorem d5_23 : decode (ai_b 5) 23 = .ok (.iconst 0, 1) := by decide +kernel
theorem d5_24 : decode (ai_b 5) 24 = .ok (.istore 5, 2) := by decide +kernel
theorem d5_26 : decode (ai_b 5) 26 = .ok (.iload 5, 2) := by decide +kernel
theorem d5_28 : decode (ai_b 5) 28 = .ok (.iload 4, 2) := by decide +kernel
theorem d5_30 : decode (ai_b 5) 30 = .ok (.if_icmp .ge 48, 3) := by decide +kernel
theorem d5_33 : decode (ai_b 5) 33 = .ok (.lload_n 2, 1) := by decide +kernel
theorem d5_34 : decode (ai_b 5) 34 = .ok (.aload_n 0, 1) := by decide +kernel
theorem d5_35 : decode (ai_b 5) 35 = .ok (.iload 5, 2) := by decide +kernel
theorem d5_37 : decode (ai_b 5) 37 = .ok (.invokevirtual 46, 3) := by decide +kernel
theorem d5_40 : decode (ai_b 5) 40 = .ok (.i2l, 1) := by decide +kernel
theorem d5_41 : decode (ai_b 5) 41 = .ok (.ladd, 1) := by decide +kernel
theorem d5_42 : decode (ai_b 5) 42 = .ok (.aload_n 1, 1) := by decide +kernel
theorem d5_43 : decode (ai_b 5) 43 = .ok (.iload 5, 2) := by decide +kernel
theorem d5_45 : decode (ai_b 5) 45 = .ok (.invokevirtual 46, 3) := by decide +kernel
theorem d5_48 : decode (ai_b 5) 48 = .ok (.i2l, 1) := by decide +kernel
theorem d5_49 : decode (ai_b 5) 49 = .ok (.ladd, 1) := by decide +kernel
theorem d5_50 : decode (ai_b 5) 50 = .ok (.lstore 6, 2) := by decide +kernel
theorem d5_52 : decode (ai_b 5) 52 = .ok (.aload_n 0, 1) := by decide +kernel
theorem d5_53 : decode (ai_b 5) 53 = .ok (.getfield 19, 3) := by decide +kernel
theorem d5_56 : decode (ai_b 5) 56 = .ok (.iload 5, 2) := by decide +kernel
theorem d5_58 : decode (ai_b 5) 58 = .ok (.lload 6, 2) := by decide +kernel
theorem d5_60 : decode (ai_b 5) 60 = .ok (.ldc2_w 40, 3) := by decide +kernel
theorem d5_63 : decode (ai_b 5) 63 = .ok (.land, 1) := by decide +kernel
theorem d5_64 : decode (ai_b 5) 64 = .ok (.l2i, 1) := by decide +kernel
theorem d5_65 : decode (ai_b 5) 65 = .ok (.iastore, 1) := by decide +kernel
theorem d5_66 : decode (ai_b 5) 66 = .ok (.lload 6, 2) := by decide +kernel
theorem d5_68 : decode (ai_b 5) 68 = .ok (.bipush 31, 2) := by decide +kernel
theorem d5_70 : decode (ai_b 5) 70 = .ok (.lushr, 1) := by decide +kernel
theorem d5_71 : decode (ai_b 5) 71 = .ok (.lstore_n 2, 1) := by decide +kernel
theorem d5_72 : decode (ai_b 5) 72 = .ok (.iinc 5 1, 3) := by decide +kernel
theorem d5_75 : decode (ai_b 5) 75 = .ok (.goto (-49), 3) := by decide +kernel
theorem d5_78 : decode (ai_b 5) 78 = .ok (.aload_n 0, 1) := by decide +kernel
theorem d5_79 : decode (ai_b 5) 79 = .ok (.iload 4, 2) := by decide +kernel
theorem d5_81 : decode (ai_b 5) 81 = .ok (.putfield 7, 3) := by decide +kernel
theorem d5_84 : decode (ai_b 5) 84 = .ok (.aload_n 0, 1) := by decide +kernel
theorem d5_85 : decode (ai_b 5) 85 = .ok (.lload_n 2, 1) := by decide +kernel
theorem d5_86 : decode (ai_b 5) 86 = .ok (.invokevirtual 42, 3) := by decide +kernel
theorem d5_89 : decode (ai_b 5) 89 = .ok (.return_, 1) := by decide +kernel
theorem d6_0 : decode (ai_b 6) 0 = .ok (.iconst 0, 1) := by decide +kernel
theorem d6_1 : decode (ai_b 6) 1 = .ok (.istore_n 2, 1) := by decide +kernel
theorem d6_2 : decode (ai_b 6) 2 = .ok (.iconst 0, 1) := by decide +kernel
theorem d6_3 : decode (ai_b 6) 3 = .ok (.istore_n 3, 1) := by decide +kernel
theorem d6_4 : decode (ai_b 6) 4 = .ok (.iload_n 3, 1) := by decide +kernel
theorem d6_5 : decode (ai_b 6) 5 = .ok (.aload_n 0, 1) := by decide +kernel
theorem d6_6 : decode (ai_b 6) 6 = .ok (.getfield 7, 3) := by decide +kernel
theorem d6_9 : decode (ai_b 6) 9 = .ok (.if_icmp .ge 47, 3) := by decide +kernel
theorem d6_12 : decode (ai_b 6) 12 = .ok (.aload_n 0, 1) := by decide +kernel
theorem d6_13 : decode (ai_b 6) 13 = .ok (.getfield 19, 3) := by decide +kernel
theorem d6_16 : decode (ai_b 6) 16 = .ok (.iload_n 3, 1) := by decide +kernel
theorem d6_17 : decode (ai_b 6) 17 = .ok (.iaload, 1) := by decide +kernel
theorem d6_18 : decode (ai_b 6) 18 = .ok (.aload_n 1, 1) := by decide +kernel
theorem d6_19 : decode (ai_b 6) 19 = .ok (.iload_n 3, 1) := by decide +kernel
theorem d6_20 : decode (ai_b 6) 20 = .ok (.invokevirtual 46, 3) := by decide +kernel
theorem d6_23 : decode (ai_b 6) 23 = .ok (.isub, 1) := by decide +kernel
theorem d6_24 : decode (ai_b 6) 24 = .ok (.iload_n 2, 1) := by decide +kernel
theorem d6_25 : decode (ai_b 6) 25 = .ok (.isub, 1) := by decide +kernel
theorem d6_26 : decode (ai_b 6) 26 = .ok (.istore 4, 2) := by decide +kernel
theorem d6_28 : decode (ai_b 6) 28 = .ok (.aload_n 0, 1) := by decide +kernel
theorem d6_29 : decode (ai_b 6) 29 = .ok (.getfield 19, 3) := by decide +kernel
theorem d6_32 : decode (ai_b 6) 32 = .ok (.iload_n 3, 1) := by decide +kernel
theorem d6_33 : decode (ai_b 6) 33 = .ok (.iload 4, 2) := by decide +kernel
theorem d6_35 : decode (ai_b 6) 35 = .ok (.ldc 23, 2) := by decide +kernel
theorem d6_37 : decode (ai_b 6) 37 = .ok (.iand, 1) := by decide +kernel
theorem d6_38 : decode (ai_b 6) 38 = .ok (.iastore, 1) := by decide +kernel
theorem d6_39 : decode (ai_b 6) 39 = .ok (.iload 4, 2) := by decide +kernel
theorem d6_41 : decode (ai_b 6) 41 = .ok (.ifCond .ge 7, 3) := by decide +kernel
theorem d6_44 : decode (ai_b 6) 44 = .ok (.iconst 1, 1) := by decide +kernel
theorem d6_45 : decode (ai_b 6) 45 = .ok (.goto 4, 3) := by decide +kernel
theorem d6_48 : decode (ai_b 6) 48 = .ok (.iconst 0, 1) := by decide +kernel
theorem d6_49 : decode (ai_b 6) 49 = .ok (.istore_n 2, 1) := by decide +kernel
theorem d6_50 : decode (ai_b 6) 50 = .ok (.iinc 3 1, 3) := by decide +kernel
theorem d6_53 : decode (ai_b 6) 53 = .ok (.goto (-49), 3) := by decide +kernel
theorem d6_56 : decode (ai_b 6) 56 = .ok (.aload_n 0, 1) := by decide +kernel
theorem d6_57 : decode (ai_b 6) 57 = .ok (.invokevirtual 24, 3) := by decide +kernel
theorem d6_60 : decode (ai_b 6) 60 = .ok (.return_, 1) := by decide +kernel
theorem d7_0 : decode (ai_b 7) 0 = .ok (.aload_n 0, 1) := by decide +kernel
theorem d7_1 : decode (ai_b 7) 1 = .ok (.getfield 7, 3) := by decide +kernel
theorem d7_4 : decode (ai_b 7) 4 = .ok (.aload_n 1, 1) := by decide +kernel
theorem d7_5 : decode (ai_b 7) 5 = .ok (.getfield 7, 3) := by decide +kernel
theorem d7_8 : decode (ai_b 7) 8 = .ok (.if_icmp .eq 20, 3) := by decide +kernel
theorem d7_11 : decode (ai_b 7) 11 = .ok (.aload_n 0, 1) := by decide +kernel
theorem d7_12 : decode (ai_b 7) 12 = .ok (.getfield 7, 3) := by decide +kernel
theorem d7_15 : decode (ai_b 7) 15 = .ok (.aload_n 1, 1) := by decide +kernel
theorem d7_16 : decode (ai_b 7) 16 = .ok (.getfield 7, 3) := by decide +kernel
theorem d7_19 : decode (ai_b 7) 19 = .ok (.if_icmp .le 7, 3) := by decide +kernel
theorem d7_22 : decode (ai_b 7) 22 = .ok (.iconst 1, 1) := by decide +kernel
theorem d7_23 : decode (ai_b 7) 23 = .ok (.goto 4, 3) := by decide +kernel
theorem d7_26 : decode (ai_b 7) 26 = .ok (.iconst 0, 1) := by decide +kernel
theorem d7_27 : decode (ai_b 7) 27 = .ok (.ireturn, 1) := by decide +kernel
theorem d7_28 : decode (ai_b 7) 28 = .ok (.aload_n 0, 1) := by decide +kernel
theorem d7_29 : decode (ai_b 7) 29 = .ok (.getfield 7, 3) := by decide +kernel
theorem d7_32 : decode (ai_b 7) 32 = .ok (.iconst 1, 1) := by decide +kernel
theorem d7_33 : decode (ai_b 7) 33 = .ok (.isub, 1) := by decide +kernel
theorem d7_34 : decode (ai_b 7) 34 = .ok (.istore_n 2, 1) := by decide +kernel
theorem d7_35 : decode (ai_b 7) 35 = .ok (.iload_n 2, 1) := by decide +kernel
theorem d7_36 : decode (ai_b 7) 36 = .ok (.ifCond .lt 45, 3) := by decide +kernel
theorem d7_39 : decode (ai_b 7) 39 = .ok (.aload_n 0, 1) := by decide +kernel
theorem d7_40 : decode (ai_b 7) 40 = .ok (.getfield 19, 3) := by decide +kernel
theorem d7_43 : decode (ai_b 7) 43 = .ok (.iload_n 2, 1) := by decide +kernel
theorem d7_44 : decode (ai_b 7) 44 = .ok (.iaload, 1) := by decide +kernel
theorem d7_45 : decode (ai_b 7) 45 = .ok (.aload_n 1, 1) := by decide +kernel
theorem d7_46 : decode (ai_b 7) 46 = .ok (.getfield 19, 3) := by decide +kernel
theorem d7_49 : decode (ai_b 7) 49 = .ok (.iload_n 2, 1) := by decide +kernel
theorem d7_50 : decode (ai_b 7) 50 = .ok (.iaload, 1) := by decide +kernel
theorem d7_51 : decode (ai_b 7) 51 = .ok (.if_icmp .eq 24, 3) := by decide +kernel
theorem d7_54 : decode (ai_b 7) 54 = .ok (.aload_n 0, 1) := by decide +kernel
theorem d7_55 : decode (ai_b 7) 55 = .ok (.getfield 19, 3) := by decide +kernel
theorem d7_58 : decode (ai_b 7) 58 = .ok (.iload_n 2, 1) := by decide +kernel
theorem d7_59 : decode (ai_b 7) 59 = .ok (.iaload, 1) := by decide +kernel
theorem d7_60 : decode (ai_b 7) 60 = .ok (.aload_n 1, 1) := by decide +kernel
theorem d7_61 : decode (ai_b 7) 61 = .ok (.getfield 19, 3) := by decide +kernel
theorem d7_64 : decode (ai_b 7) 64 = .ok (.iload_n 2, 1) := by decide +kernel
theorem d7_65 : decode (ai_b 7) 65 = .ok (.iaload, 1) := by decide +kernel
theorem d7_66 : decode (ai_b 7) 66 = .ok (.if_icmp .le 7, 3) := by decide +kernel
theorem d7_69 : decode (ai_b 7) 69 = .ok (.iconst 1, 1) := by decide +kernel
theorem d7_70 : decode (ai_b 7) 70 = .ok (.goto 4, 3) := by decide +kernel
theorem d7_73 : decode (ai_b 7) 73 = .ok (.iconst 0, 1) := by decide +kernel
theorem d7_74 : decode (ai_b 7) 74 = .ok (.ireturn, 1) := by decide +kernel
theorem d7_75 : decode (ai_b 7) 75 = .ok (.iinc 2 (-1), 3) := by decide +kernel
theorem d7_78 : decode (ai_b 7) 78 = .ok (.goto (-43), 3) := by decide +kernel
theorem d7_81 : decode (ai_b 7) 81 = .ok (.iconst 0, 1) := by decide +kernel
theorem d7_82 : decode (ai_b 7) 82 = .ok (.ireturn, 1) := by decide +kernel
theorem d8_0 : decode (ai_b 8) 0 = .ok (.iload_n 1, 1) := by decide +kernel
theorem d8_1 : decode (ai_b 8) 1 = .ok (.ifCond .lt 20, 3) := by decide +kernel
theorem d8_4 : decode (ai_b 8) 4 = .ok (.iload_n 1, 1) := by decide +kernel
theorem d8_5 : decode (ai_b 8) 5 = .ok (.aload_n 0, 1) := by decide +kernel
theorem d8_6 : decode (ai_b 8) 6 = .ok (.getfield 7, 3) := by decide +kernel
theorem d8_9 : decode (ai_b 8) 9 = .ok (.if_icmp .ge 12, 3) := by decide +kernel
theorem d8_12 : decode (ai_b 8) 12 = .ok (.aload_n 0, 1) := by decide +kernel
theorem d8_13 : decode (ai_b 8) 13 = .ok (.getfield 19, 3) := by decide +kernel
theorem d8_16 : decode (ai_b 8) 16 = .ok (.iload_n 1, 1) := by decide +kernel
theorem d8_17 : decode (ai_b 8) 17 = .ok (.iaload, 1) := by decide +kernel
theorem d8_18 : decode (ai_b 8) 18 = .ok (.goto 4, 3) := by decide +kernel
theorem d8_21 : decode (ai_b 8) 21 = .ok (.iconst 0, 1) := by decide +kernel
theorem d8_22 : decode (ai_b 8) 22 = .ok (.ireturn, 1) := by decide +kernel
theorem d9_0 : decode (ai_b 9) 0 = .ok (.lconst 0, 1) := by decide +kernel
theorem d9_1 : decode (ai_b 9) 1 = .ok (.lstore 4, 2) := by decide +kernel
theorem d9_3 : decode (ai_b 9) 3 = .ok (.aload_n 1, 1) := by decide +kernel
theorem d9_4 : decode (ai_b 9) 4 = .ok (.getfield 7, 3) := by decide +kernel
theorem d9_7 : decode (ai_b 9) 7 = .ok (.aload_n 0, 1) := by decide +kernel
theorem d9_8 : decode (ai_b 9) 8 = .ok (.getfield 19, 3) := by decide +kernel
theorem d9_11 : decode (ai_b 9) 11 = .ok (.arraylength, 1) := by decide +kernel
theorem d9_12 : decode (ai_b 9) 12 = .ok (.iload_n 3, 1) := by decide +kernel
theorem d9_13 : decode (ai_b 9) 13 = .ok (.isub, 1) := by decide +kernel
theorem d9_14 : decode (ai_b 9) 14 = .ok (.invokestatic 27, 3) := by decide +kernel
theorem d9_17 : decode (ai_b 9) 17 = .ok (.istore 6, 2) := by decide +kernel
theorem d9_19 : decode (ai_b 9) 19 = .ok (.iconst 0, 1) := by decide +kernel
theorem d9_20 : decode (ai_b 9) 20 = .ok (.istore 7, 2) := by decide +kernel
theorem d9_22 : decode (ai_b 9) 22 = .ok (.iload 7, 2) := by decide +kernel
theorem d9_24 : decode (ai_b 9) 24 = .ok (.iload 6, 2) := by decide +kernel
theorem d9_26 : decode (ai_b 9) 26 = .ok (.if_icmp .ge 59, 3) := by decide +kernel
theorem d9_29 : decode (ai_b 9) 29 = .ok (.iload_n 2, 1) := by decide +kernel
theorem d9_30 : decode (ai_b 9) 30 = .ok (.i2l, 1) := by decide +kernel
theorem d9_31 : decode (ai_b 9) 31 = .ok (.aload_n 1, 1) := by decide +kernel
theorem d9_32 : decode (ai_b 9) 32 = .ok (.getfield 19, 3) := by decide +kernel
theorem d9_35 : decode (ai_b 9) 35 = .ok (.iload 7, 2) := by decide +kernel
theorem d9_37 : decode (ai_b 9) 37 = .ok (.iaload, 1) := by decide +kernel
theorem d9_38 : decode (ai_b 9) 38 = .ok (.i2l, 1) := by decide +kernel
theorem d9_39 : decode (ai_b 9) 39 = .ok (.lmul, 1) := by decide +kernel
theorem d9_40 : decode (ai_b 9) 40 = .ok (.aload_n 0, 1) := by decide +kernel
theorem d9_41 : decode (ai_b 9) 41 = .ok (.getfield 19, 3) := by decide +kernel
theorem d9_44 : decode (ai_b 9) 44 = .ok (.iload_n 3, 1) := by decide +kernel
theorem d9_45 : decode (ai_b 9) 45 = .ok (.iload 7, 2) := by decide +kernel
theorem d9_47 : decode (ai_b 9) 47 = .ok (.iadd, 1) := by decide +kernel
theorem d9_48 : decode (ai_b 9) 48 = .ok (.iaload, 1) := by decide +kernel
theorem d9_49 : decode (ai_b 9) 49 = .ok (.i2l, 1) := by decide +kernel
theorem d9_50 : decode (ai_b 9) 50 = .ok (.ladd, 1) := by decide +kernel
theorem d9_51 : decode (ai_b 9) 51 = .ok (.lload 4, 2) := by decide +kernel
theorem d9_53 : decode (ai_b 9) 53 = .ok (.ladd, 1) := by decide +kernel
theorem d9_54 : decode (ai_b 9) 54 = .ok (.lstore 8, 2) := by decide +kernel
theorem d9_56 : decode (ai_b 9) 56 = .ok (.aload_n 0, 1) := by decide +kernel
theorem d9_57 : decode (ai_b 9) 57 = .ok (.getfield 19, 3) := by decide +kernel
theorem d9_60 : decode (ai_b 9) 60 = .ok (.iload_n 3, 1) := by decide +kernel
theorem d9_61 : decode (ai_b 9) 61 = .ok (.iload 7, 2) := by decide +kernel
theorem d9_63 : decode (ai_b 9) 63 = .ok (.iadd, 1) := by decide +kernel
theorem d9_64 : decode (ai_b 9) 64 = .ok (.lload 8, 2) := by decide +kernel
theorem d9_66 : decode (ai_b 9) 66 = .ok (.ldc2_w 40, 3) := by decide +kernel
theorem d9_69 : decode (ai_b 9) 69 = .ok (.land, 1) := by decide +kernel
theorem d9_70 : decode (ai_b 9) 70 = .ok (.l2i, 1) := by decide +kernel
theorem d9_71 : decode (ai_b 9) 71 = .ok (.iastore, 1) := by decide +kernel
theorem d9_72 : decode (ai_b 9) 72 = .ok (.lload 8, 2) := by decide +kernel
theorem d9_74 : decode (ai_b 9) 74 = .ok (.bipush 31, 2) := by decide +kernel
theorem d9_76 : decode (ai_b 9) 76 = .ok (.lushr, 1) := by decide +kernel
theorem d9_77 : decode (ai_b 9) 77 = .ok (.lstore 4, 2) := by decide +kernel
theorem d9_79 : decode (ai_b 9) 79 = .ok (.iinc 7 1, 3) := by decide +kernel
theorem d9_82 : decode (ai_b 9) 82 = .ok (.goto (-60), 3) := by decide +kernel
theorem d9_85 : decode (ai_b 9) 85 = .ok (.iload_n 3, 1) := by decide +kernel
theorem d9_86 : decode (ai_b 9) 86 = .ok (.iload 6, 2) := by decide +kernel
theorem d9_88 : decode (ai_b 9) 88 = .ok (.iadd, 1) := by decide +kernel
theorem d9_89 : decode (ai_b 9) 89 = .ok (.aload_n 0, 1) := by decide +kernel
theorem d9_90 : decode (ai_b 9) 90 = .ok (.getfield 7, 3) := by decide +kernel
theorem d9_93 : decode (ai_b 9) 93 = .ok (.if_icmp .ge 15, 3) := by decide +kernel
theorem d9_96 : decode (ai_b 9) 96 = .ok (.aload_n 0, 1) := by decide +kernel
theorem d9_97 : decode (ai_b 9) 97 = .ok (.getfield 19, 3) := by decide +kernel
theorem d9_100 : decode (ai_b 9) 100 = .ok (.iload_n 3, 1) := by decide +kernel
theorem d9_101 : decode (ai_b 9) 101 = .ok (.iload 6, 2) := by decide +kernel
theorem d9_103 : decode (ai_b 9) 103 = .ok (.iadd, 1) := by decide +kernel
theorem d9_104 : decode (ai_b 9) 104 = .ok (.lload 4, 2) := by decide +kernel
theorem d9_106 : decode (ai_b 9) 106 = .ok (.l2i, 1) := by decide +kernel
theorem d9_107 : decode (ai_b 9) 107 = .ok (.iastore, 1) := by decide +kernel
theorem d9_108 : decode (ai_b 9) 108 = .ok (.return_, 1) := by decide +kernel
theorem d10_0 : decode (ai_b 10) 0 = .ok (.lload_n 1, 1) := by decide +kernel
theorem d10_1 : decode (ai_b 10) 1 = .ok (.lconst 0, 1) := by decide +kernel
theorem d10_2 : decode (ai_b 10) 2 = .ok (.lcmp, 1) := by decide +kernel
theorem d10_3 : decode (ai_b 10) 3 = .ok (.ifCond .le 36, 3) := by decide +kernel
theorem d10_6 : decode (ai_b 10) 6 = .ok (.aload_n 0, 1) := by decide +kernel
theorem d10_7 : decode (ai_b 10) 7 = .ok (.getfield 7, 3) := by decide +kernel
theorem d10_10 : decode (ai_b 10) 10 = .ok (.aload_n 0, 1) := by decide +kernel
theorem d10_11 : decode (ai_b 10) 11 = .ok (.getfield 19, 3) := by decide +kernel
theorem d10_14 : decode (ai_b 10) 14 = .ok (.arraylength, 1) := by decide +kernel
theorem d10_15 : decode (ai_b 10) 15 = .ok (.if_icmp .ge 24, 3) := by decide +kernel
theorem d10_18 : decode (ai_b 10) 18 = .ok (.aload_n 0, 1) := by decide +kernel
theorem d10_19 : decode (ai_b 10) 19 = .ok (.getfield 19, 3) := by decide +kernel
theorem d10_22 : decode (ai_b 10) 22 = .ok (.aload_n 0, 1) := by decide +kernel
theorem d10_23 : decode (ai_b 10) 23 = .ok (.getfield 7, 3) := by decide +kernel
theorem d10_26 : decode (ai_b 10) 26 = .ok (.lload_n 1, 1) := by decide +kernel
theorem d10_27 : decode (ai_b 10) 27 = .ok (.l2i, 1) := by decide +kernel
theorem d10_28 : decode (ai_b 10) 28 = .ok (.iastore, 1) := by decide +kernel
theorem d10_29 : decode (ai_b 10) 29 = .ok (.aload_n 0, 1) := by decide +kernel
theorem d10_30 : decode (ai_b 10) 30 = .ok (.dup, 1) := by decide +kernel
theorem d10_31 : decode (ai_b 10) 31 = .ok (.getfield 7, 3) := by decide +kernel
theorem d10_34 : decode (ai_b 10) 34 = .ok (.iconst 1, 1) := by decide +kernel
theorem d10_35 : decode (ai_b 10) 35 = .ok (.iadd, 1) := by decide +kernel
theorem d10_36 : decode (ai_b 10) 36 = .ok (.putfield 7, 3) := by decide +kernel
theorem d10_39 : decode (ai_b 10) 39 = .ok (.return_, 1) := by decide +kernel
theorem d11_0 : decode (ai_b 11) 0 = .ok (.aload_n 0, 1) := by decide +kernel
theorem d11_1 : decode (ai_b 11) 1 = .ok (.getfield 7, 3) := by decide +kernel
theorem d11_4 : decode (ai_b 11) 4 = .ok (.ifCond .le 30, 3) := by decide +kernel
theorem d11_7 : decode (ai_b 11) 7 = .ok (.aload_n 0, 1) := by decide +kernel
theorem d11_8 : decode (ai_b 11) 8 = .ok (.getfield 19, 3) := by decide +kernel
theorem d11_11 : decode (ai_b 11) 11 = .ok (.aload_n 0, 1) := by decide +kernel
theorem d11_12 : decode (ai_b 11) 12 = .ok (.getfield 7, 3) := by decide +kernel
theorem d11_15 : decode (ai_b 11) 15 = .ok (.iconst 1, 1) := by decide +kernel
theorem d11_16 : decode (ai_b 11) 16 = .ok (.isub, 1) := by decide +kernel
theorem d11_17 : decode (ai_b 11) 17 = .ok (.iaload, 1) := by decide +kernel
theorem d11_18 : decode (ai_b 11) 18 = .ok (.ifCond .ne 16, 3) := by decide +kernel
theorem d11_21 : decode (ai_b 11) 21 = .ok (.aload_n 0, 1) := by decide +kernel
theorem d11_22 : decode (ai_b 11) 22 = .ok (.dup, 1) := by decide +kernel
theorem d11_23 : decode (ai_b 11) 23 = .ok (.getfield 7, 3) := by decide +kernel
theorem d11_26 : decode (ai_b 11) 26 = .ok (.iconst 1, 1) := by decide +kernel
theorem d11_27 : decode (ai_b 11) 27 = .ok (.isub, 1) := by decide +kernel
theorem d11_28 : decode (ai_b 11) 28 = .ok (.putfield 7, 3) := by decide +kernel
theorem d11_31 : decode (ai_b 11) 31 = .ok (.goto (-31), 3) := by decide +kernel
theorem d11_34 : decode (ai_b 11) 34 = .ok (.return_, 1) := by decide +kernel
theorem d12_0 : decode (ai_b 12) 0 = .ok (.aload_n 0, 1) := by decide +kernel
theorem d12_1 : decode (ai_b 12) 1 = .ok (.invokespecial 3, 3) := by decide +kernel
theorem d12_4 : decode (ai_b 12) 4 = .ok (.aload_n 0, 1) := by decide +kernel
theorem d12_5 : decode (ai_b 12) 5 = .ok (.iconst (-1), 1) := by decide +kernel
theorem d12_6 : decode (ai_b 12) 6 = .ok (.putfield 9, 3) := by decide +kernel
theorem d12_9 : decode (ai_b 12) 9 = .ok (.aload_n 0, 1) := by decide +kernel
theorem d12_10 : decode (ai_b 12) 10 = .ok (.iconst (-1), 1) := by decide +kernel
theorem d12_11 : decode (ai_b 12) 11 = .ok (.putfield 15, 3) := by decide +kernel
theorem d12_14 : decode (ai_b 12) 14 = .ok (.aload_n 0, 1) := by decide +kernel
theorem d12_15 : decode (ai_b 12) 15 = .ok (.bipush 24, 2) := by decide +kernel
theorem d12_17 : decode (ai_b 12) 17 = .ok (.newarray .byte, 2) := by decide +kernel
theorem d12_19 : decode (ai_b 12) 19 = .ok (.putfield 18, 3) := by decide +kernel
theorem d12_22 : decode (ai_b 12) 22 = .ok (.return_, 1) := by decide +kernel
theorem d13_0 : decode (ai_b 13) 0 = .ok (.aload_n 0, 1) := by decide +kernel
theorem d13_1 : decode (ai_b 13) 1 = .ok (.getfield 9, 3) := by decide +kernel
theorem d13_4 : decode (ai_b 13) 4 = .ok (.iconst (-1), 1) := by decide +kernel
theorem d13_5 : decode (ai_b 13) 5 = .ok (.if_icmp .eq 7, 3) := by decide +kernel
theorem d13_8 : decode (ai_b 13) 8 = .ok (.iconst 1, 1) := by decide +kernel
theorem d13_9 : decode (ai_b 13) 9 = .ok (.goto 4, 3) := by decide +kernel
theorem d13_12 : decode (ai_b 13) 12 = .ok (.iconst 0, 1) := by decide +kernel
theorem d13_13 : decode (ai_b 13) 13 = .ok (.ireturn, 1) := by decide +kernel
theorem d14_0 : decode (ai_b 14) 0 = .ok (.iload_n 1, 1) := by decide +kernel
theorem d14_1 : decode (ai_b 14) 1 = .ok (.ifCond .lt 25, 3) := by decide +kernel
theorem d14_4 : decode (ai_b 14) 4 = .ok (.iload_n 1, 1) := by decide +kernel
theorem d14_5 : decode (ai_b 14) 5 = .ok (.aload_n 0, 1) := by decide +kernel
theorem d14_6 : decode (ai_b 14) 6 = .ok (.getfield 18, 3) := by decide +kernel
theorem d14_9 : decode (ai_b 14) 9 = .ok (.arraylength, 1) := by decide +kernel
theorem d14_10 : decode (ai_b 14) 10 = .ok (.if_icmp .ge 16, 3) := by decide +kernel
theorem d14_13 : decode (ai_b 14) 13 = .ok (.aload_n 0, 1) := by decide +kernel
theorem d14_14 : decode (ai_b 14) 14 = .ok (.getfield 18, 3) := by decide +kernel
theorem d14_17 : decode (ai_b 14) 17 = .ok (.iload_n 1, 1) := by decide +kernel
theorem d14_18 : decode (ai_b 14) 18 = .ok (.baload, 1) := by decide +kernel
theorem d14_19 : decode (ai_b 14) 19 = .ok (.ifCond .le 7, 3) := by decide +kernel
theorem d14_22 : decode (ai_b 14) 22 = .ok (.iconst 1, 1) := by decide +kernel
theorem d14_23 : decode (ai_b 14) 23 = .ok (.goto 4, 3) := by decide +kernel
theorem d14_26 : decode (ai_b 14) 26 = .ok (.iconst 0, 1) := by decide +kernel
theorem d14_27 : decode (ai_b 14) 27 = .ok (.ireturn, 1) := by decide +kernel
theorem d15_0 : decode (ai_b 15) 0 = .ok (.aload_n 0, 1) := by decide +kernel
theorem d15_1 : decode (ai_b 15) 1 = .ok (.iload_n 1, 1) := by decide +kernel
theorem d15_2 : decode (ai_b 15) 2 = .ok (.invokevirtual 22, 3) := by decide +kernel
theorem d15_5 : decode (ai_b 15) 5 = .ok (.ifCond .eq 16, 3) := by decide +kernel
theorem d15_8 : decode (ai_b 15) 8 = .ok (.aload_n 0, 1) := by decide +kernel
theorem d15_9 : decode (ai_b 15) 9 = .ok (.getfield 18, 3) := by decide +kernel
theorem d15_12 : decode (ai_b 15) 12 = .ok (.iload_n 1, 1) := by decide +kernel
theorem d15_13 : decode (ai_b 15) 13 = .ok (.baload, 1) := by decide +kernel
theorem d15_14 : decode (ai_b 15) 14 = .ok (.iconst 1, 1) := by decide +kernel
theorem d15_15 : decode (ai_b 15) 15 = .ok (.isub, 1) := by decide +kernel
theorem d15_16 : decode (ai_b 15) 16 = .ok (.iconst 4, 1) := by decide +kernel
theorem d15_17 : decode (ai_b 15) 17 = .ok (.idiv, 1) := by decide +kernel
theorem d15_18 : decode (ai_b 15) 18 = .ok (.goto 4, 3) := by decide +kernel
theorem d15_21 : decode (ai_b 15) 21 = .ok (.iconst (-1), 1) := by decide +kernel
theorem d15_22 : decode (ai_b 15) 22 = .ok (.ireturn, 1) := by decide +kernel
theorem d16_0 : decode (ai_b 16) 0 = .ok (.aload_n 0, 1) := by decide +kernel
theorem d16_1 : decode (ai_b 16) 1 = .ok (.iload_n 1, 1) := by decide +kernel
theorem d16_2 : decode (ai_b 16) 2 = .ok (.invokevirtual 22, 3) := by decide +kernel
theorem d16_5 : decode (ai_b 16) 5 = .ok (.ifCond .eq 16, 3) := by decide +kernel
theorem d16_8 : decode (ai_b 16) 8 = .ok (.aload_n 0, 1) := by decide +kernel
theorem d16_9 : decode (ai_b 16) 9 = .ok (.getfield 18, 3) := by decide +kernel
theorem d16_12 : decode (ai_b 16) 12 = .ok (.iload_n 1, 1) := by decide +kernel
theorem d16_13 : decode (ai_b 16) 13 = .ok (.baload, 1) := by decide +kernel
theorem d16_14 : decode (ai_b 16) 14 = .ok (.iconst 1, 1) := by decide +kernel
theorem d16_15 : decode (ai_b 16) 15 = .ok (.isub, 1) := by decide +kernel
theorem d16_16 : decode (ai_b 16) 16 = .ok (.iconst 4, 1) := by decide +kernel
theorem d16_17 : decode (ai_b 16) 17 = .ok (.irem, 1) := by decide +kernel
theorem d16_18 : decode (ai_b 16) 18 = .ok (.goto 4, 3) := by decide +kernel
theorem d16_21 : decode (ai_b 16) 21 = .ok (.iconst (-1), 1) := by decide +kernel
theorem d16_22 : decode (ai_b 16) 22 = .ok (.ireturn, 1) := by decide +kernel
theorem d17_0 : decode (ai_b 17) 0 = .ok (.iload_n 1, 1) := by decide +kernel
theorem d17_1 : decode (ai_b 17) 1 = .ok (.ifCond .lt 26, 3) := by decide +kernel
theorem d17_4 : decode (ai_b 17) 4 = .ok (.iload_n 1, 1) := by decide +kernel
theorem d17_5 : decode (ai_b 17) 5 = .ok (.aload_n 0, 1) := by decide +kernel
theorem d17_6 : decode (ai_b 17) 6 = .ok (.getfield 18, 3) := by decide +kernel
theorem d17_9 : decode (ai_b 17) 9 = .ok (.arraylength, 1) := by decide +kernel
theorem d17_10 : decode (ai_b 17) 10 = .ok (.if_icmp .ge 17, 3) := by decide +kernel
theorem d17_13 : decode (ai_b 17) 13 = .ok (.aload_n 0, 1) := by decide +kernel
theorem d17_14 : decode (ai_b 17) 14 = .ok (.getfield 18, 3) := by decide +kernel
theorem d17_17 : decode (ai_b 17) 17 = .ok (.iload_n 1, 1) := by decide +kernel
theorem d17_18 : decode (ai_b 17) 18 = .ok (.iconst 1, 1) := by decide +kernel
theorem d17_19 : decode (ai_b 17) 19 = .ok (.iconst 4, 1) := by decide +kernel
theorem d17_20 : decode (ai_b 17) 20 = .ok (.iload_n 2, 1) := by decide +kernel
theorem d17_21 : decode (ai_b 17) 21 = .ok (.imul, 1) := by decide +kernel
theorem d17_22 : decode (ai_b 17) 22 = .ok (.iadd, 1) := by decide +kernel
theorem d17_23 : decode (ai_b 17) 23 = .ok (.iload_n 3, 1) := by decide +kernel
theorem d17_24 : decode (ai_b 17) 24 = .ok (.iadd, 1) := by decide +kernel
theorem d17_25 : decode (ai_b 17) 25 = .ok (.i2b, 1) := by decide +kernel
theorem d17_26 : decode (ai_b 17) 26 = .ok (.bastore, 1) := by decide +kernel
theorem d17_27 : decode (ai_b 17) 27 = .ok (.return_, 1) := by decide +kernel
theorem d18_0 : decode (ai_b 18) 0 = .ok (.iload_n 1, 1) := by decide +kernel
theorem d18_1 : decode (ai_b 18) 1 = .ok (.ifCond .lt 19, 3) := by decide +kernel
theorem d18_4 : decode (ai_b 18) 4 = .ok (.iload_n 1, 1) := by decide +kernel
theorem d18_5 : decode (ai_b 18) 5 = .ok (.aload_n 0, 1) := by decide +kernel
theorem d18_6 : decode (ai_b 18) 6 = .ok (.getfield 18, 3) := by decide +kernel
theorem d18_9 : decode (ai_b 18) 9 = .ok (.arraylength, 1) := by decide +kernel
theorem d18_10 : decode (ai_b 18) 10 = .ok (.if_icmp .ge 10, 3) := by decide +kernel
theorem d18_13 : decode (ai_b 18) 13 = .ok (.aload_n 0, 1) := by decide +kernel
theorem d18_14 : decode (ai_b 18) 14 = .ok (.getfield 18, 3) := by decide +kernel
theorem d18_17 : decode (ai_b 18) 17 = .ok (.iload_n 1, 1) := by decide +kernel
theorem d18_18 : decode (ai_b 18) 18 = .ok (.iconst 0, 1) := by decide +kernel
theorem d18_19 : decode (ai_b 18) 19 = .ok (.bastore, 1) := by decide +kernel
theorem d18_20 : decode (ai_b 18) 20 = .ok (.return_, 1) := by decide +kernel
theorem d19_0 : decode (ai_b 19) 0 = .ok (.aload_n 0, 1) := by decide +kernel
theorem d19_1 : decode (ai_b 19) 1 = .ok (.invokespecial 3, 3) := by decide +kernel
theorem d19_4 : decode (ai_b 19) 4 = .ok (.aload_n 0, 1) := by decide +kernel
theorem d19_5 : decode (ai_b 19) 5 = .ok (.iconst 0, 1) := by decide +kernel
theorem d19_6 : decode (ai_b 19) 6 = .ok (.putfield 9, 3) := by decide +kernel
theorem d19_9 : decode (ai_b 19) 9 = .ok (.aload_n 0, 1) := by decide +kernel
theorem d19_10 : decode (ai_b 19) 10 = .ok (.iconst 0, 1) := by decide +kernel
theorem d19_11 : decode (ai_b 19) 11 = .ok (.putfield 15, 3) := by decide +kernel
theorem d19_14 : decode (ai_b 19) 14 = .ok (.aload_n 0, 1) := by decide +kernel
theorem d19_15 : decode (ai_b 19) 15 = .ok (.iconst 0, 1) := by decide +kernel
theorem d19_16 : decode (ai_b 19) 16 = .ok (.putfield 19, 3) := by decide +kernel
theorem d19_19 : decode (ai_b 19) 19 = .ok (.aload_n 0, 1) := by decide +kernel
theorem d19_20 : decode (ai_b 19) 20 = .ok (.iconst (-1), 1) := by decide +kernel
theorem d19_21 : decode (ai_b 19) 21 = .ok (.putfield 22, 3) := by decide +kernel
theorem d19_24 : decode (ai_b 19) 24 = .ok (.aload_n 0, 1) := by decide +kernel
theorem d19_25 : decode (ai_b 19) 25 = .ok (.bipush 24, 2) := by decide +kernel
theorem d19_27 : decode (ai_b 19) 27 = .ok (.newarray .int, 2) := by decide +kernel
theorem d19_29 : decode (ai_b 19) 29 = .ok (.putfield 25, 3) := by decide +kernel
theorem d19_32 : decode (ai_b 19) 32 = .ok (.aload_n 0, 1) := by decide +kernel
theorem d19_33 : decode (ai_b 19) 33 = .ok (.bipush 80, 2) := by decide +kernel
theorem d19_35 : decode (ai_b 19) 35 = .ok (.newarray .int, 2) := by decide +kernel
theorem d19_37 : decode (ai_b 19) 37 = .ok (.putfield 29, 3) := by decide +kernel
theorem d19_40 : decode (ai_b 19) 40 = .ok (.aload_n 0, 1) := by decide +kernel
theorem d19_41 : decode (ai_b 19) 41 = .ok (.bipush 20, 2) := by decide +kernel
theorem d19_43 : decode (ai_b 19) 43 = .ok (.newarray .int, 2) := by decide +kernel
theorem d19_45 : decode (ai_b 19) 45 = .ok (.putfield 32, 3) := by decide +kernel
theorem d19_48 : decode (ai_b 19) 48 = .ok (.return_, 1) := by decide +kernel
theorem d20_0 : decode (ai_b 20) 0 = .ok (.iload_n 1, 1) := by decide +kernel
theorem d20_1 : decode (ai_b 20) 1 = .ok (.ifCond .lt 44, 3) := by decide +kernel
theorem d20_4 : decode (ai_b 20) 4 = .ok (.iload_n 1, 1) := by decide +kernel
theorem d20_5 : decode (ai_b 20) 5 = .ok (.aload_n 0, 1) := by decide +kernel
theorem d20_6 : decode (ai_b 20) 6 = .ok (.getfield 25, 3) := by decide +kernel
theorem d20_9 : decode (ai_b 20) 9 = .ok (.arraylength, 1) := by decide +kernel
theorem d20_10 : decode (ai_b 20) 10 = .ok (.if_icmp .ge 35, 3) := by decide +kernel
theorem d20_13 : decode (ai_b 20) 13 = .ok (.aload_n 0, 1) := by decide +kernel
theorem d20_14 : decode (ai_b 20) 14 = .ok (.getfield 25, 3) := by decide +kernel
theorem d20_17 : decode (ai_b 20) 17 = .ok (.iload_n 1, 1) := by decide +kernel
theorem d20_18 : decode (ai_b 20) 18 = .ok (.iaload, 1) := by decide +kernel
theorem d20_19 : decode (ai_b 20) 19 = .ok (.iconst (-1), 1) := by decide +kernel
theorem d20_20 : decode (ai_b 20) 20 = .ok (.if_icmp .eq 25, 3) := by decide +kernel
theorem d20_23 : decode (ai_b 20) 23 = .ok (.aload_n 0, 1) := by decide +kernel
theorem d20_24 : decode (ai_b 20) 24 = .ok (.getfield 25, 3) := by decide +kernel
theorem d20_27 : decode (ai_b 20) 27 = .ok (.iload_n 1, 1) := by decide +kernel
theorem d20_28 : decode (ai_b 20) 28 = .ok (.iload_n 2, 1) := by decide +kernel
theorem d20_29 : decode (ai_b 20) 29 = .ok (.ifCond .eq 14, 3) := by decide +kernel
theorem d20_32 : decode (ai_b 20) 32 = .ok (.aload_n 0, 1) := by decide +kernel
theorem d20_33 : decode (ai_b 20) 33 = .ok (.getfield 25, 3) := by decide +kernel
theorem d20_36 : decode (ai_b 20) 36 = .ok (.iload_n 1, 1) := by decide +kernel
theorem d20_37 : decode (ai_b 20) 37 = .ok (.iaload, 1) := by decide +kernel
theorem d20_38 : decode (ai_b 20) 38 = .ok (.iconst 1, 1) := by decide +kernel
theorem d20_39 : decode (ai_b 20) 39 = .ok (.iadd, 1) := by decide +kernel
theorem d20_40 : decode (ai_b 20) 40 = .ok (.goto 4, 3) := by decide +kernel
theorem d20_43 : decode (ai_b 20) 43 = .ok (.iconst (-1), 1) := by decide +kernel
theorem d20_44 : decode (ai_b 20) 44 = .ok (.iastore, 1) := by decide +kernel
theorem d20_45 : decode (ai_b 20) 45 = .ok (.return_, 1) := by decide +kernel
theorem d21_0 : decode (ai_b 21) 0 = .ok (.iload_n 1, 1) := by decide +kernel
theorem d21_1 : decode (ai_b 21) 1 = .ok (.ifCond .lt 21, 3) := by decide +kernel
theorem d21_4 : decode (ai_b 21) 4 = .ok (.iload_n 1, 1) := by decide +kernel
theorem d21_5 : decode (ai_b 21) 5 = .ok (.aload_n 0, 1) := by decide +kernel
theorem d21_6 : decode (ai_b 21) 6 = .ok (.getfield 25, 3) := by decide +kernel
theorem d21_9 : decode (ai_b 21) 9 = .ok (.arraylength, 1) := by decide +kernel
theorem d21_10 : decode (ai_b 21) 10 = .ok (.if_icmp .ge 12, 3) := by decide +kernel
theorem d21_13 : decode (ai_b 21) 13 = .ok (.aload_n 0, 1) := by decide +kernel
theorem d21_14 : decode (ai_b 21) 14 = .ok (.getfield 25, 3) := by decide +kernel
theorem d21_17 : decode (ai_b 21) 17 = .ok (.iload_n 1, 1) := by decide +kernel
theorem d21_18 : decode (ai_b 21) 18 = .ok (.iaload, 1) := by decide +kernel
theorem d21_19 : decode (ai_b 21) 19 = .ok (.goto 4, 3) := by decide +kernel
theorem d21_22 : decode (ai_b 21) 22 = .ok (.iconst (-1), 1) := by decide +kernel
theorem d21_23 : decode (ai_b 21) 23 = .ok (.ireturn, 1) := by decide +kernel
theorem d22_0 : decode (ai_b 22) 0 = .ok (.iconst 0, 1) := by decide +kernel
theorem d22_1 : decode (ai_b 22) 1 = .ok (.istore_n 1, 1) := by decide +kernel
theorem d22_2 : decode (ai_b 22) 2 = .ok (.iload_n 1, 1) := by decide +kernel
theorem d22_3 : decode (ai_b 22) 3 = .ok (.aload_n 0, 1) := by decide +kernel
theorem d22_4 : decode (ai_b 22) 4 = .ok (.getfield 29, 3) := by decide +kernel
theorem d22_7 : decode (ai_b 22) 7 = .ok (.arraylength, 1) := by decide +kernel
theorem d22_8 : decode (ai_b 22) 8 = .ok (.if_icmp .ge 16, 3) := by decide +kernel
theorem d22_11 : decode (ai_b 22) 11 = .ok (.aload_n 0, 1) := by decide +kernel
theorem d22_12 : decode (ai_b 22) 12 = .ok (.getfield 29, 3) := by decide +kernel
theorem d22_15 : decode (ai_b 22) 15 = .ok (.iload_n 1, 1) := by decide +kernel
theorem d22_16 : decode (ai_b 22) 16 = .ok (.iconst 0, 1) := by decide +kernel
theorem d22_17 : decode (ai_b 22) 17 = .ok (.iastore, 1) := by decide +kernel
theorem d22_18 : decode (ai_b 22) 18 = .ok (.iinc 1 1, 3) := by decide +kernel
theorem d22_21 : decode (ai_b 22) 21 = .ok (.goto (-19), 3) := by decide +kernel
theorem d22_24 : decode (ai_b 22) 24 = .ok (.iconst 0, 1) := by decide +kernel
theorem d22_25 : decode (ai_b 22) 25 = .ok (.istore_n 1, 1) := by decide +kernel
theorem d22_26 : decode (ai_b 22) 26 = .ok (.iload_n 1, 1) := by decide +kernel
theorem d22_27 : decode (ai_b 22) 27 = .ok (.aload_n 0, 1) := by decide +kernel
theorem d22_28 : decode (ai_b 22) 28 = .ok (.getfield 32, 3) := by decide +kernel
theorem d22_31 : decode (ai_b 22) 31 = .ok (.arraylength, 1) := by decide +kernel
theorem d22_32 : decode (ai_b 22) 32 = .ok (.if_icmp .ge 16, 3) := by decide +kernel
theorem d22_35 : decode (ai_b 22) 35 = .ok (.aload_n 0, 1) := by decide +kernel
theorem d22_36 : decode (ai_b 22) 36 = .ok (.getfield 32, 3) := by decide +kernel
theorem d22_39 : decode (ai_b 22) 39 = .ok (.iload_n 1, 1) := by decide +kernel
theorem d22_40 : decode (ai_b 22) 40 = .ok (.iconst 0, 1) := by decide +kernel
theorem d22_41 : decode (ai_b 22) 41 = .ok (.iastore, 1) := by decide +kernel
theorem d22_42 : decode (ai_b 22) 42 = .ok (.iinc 1 1, 3) := by decide +kernel
theorem d22_45 : decode (ai_b 22) 45 = .ok (.goto (-19), 3) := by decide +kernel
theorem d22_48 : decode (ai_b 22) 48 = .ok (.return_, 1) := by decide +kernel
theorem d23_0 : decode (ai_b 23) 0 = .ok (.iload_n 1, 1) := by decide +kernel
theorem d23_1 : decode (ai_b 23) 1 = .ok (.iconst 4, 1) := by decide +kernel
theorem d23_2 : decode (ai_b 23) 2 = .ok (.imul, 1) := by decide +kernel
theorem d23_3 : decode (ai_b 23) 3 = .ok (.iload_n 2, 1) := by decide +kernel
theorem d23_4 : decode (ai_b 23) 4 = .ok (.iadd, 1) := by decide +kernel
theorem d23_5 : decode (ai_b 23) 5 = .ok (.iconst 4, 1) := by decide +kernel
theorem d23_6 : decode (ai_b 23) 6 = .ok (.imul, 1) := by decide +kernel
theorem d23_7 : decode (ai_b 23) 7 = .ok (.iload_n 3, 1) := by decide +kernel
theorem d23_8 : decode (ai_b 23) 8 = .ok (.iadd, 1) := by decide +kernel
theorem d23_9 : decode (ai_b 23) 9 = .ok (.istore 4, 2) := by decide +kernel
theorem d23_11 : decode (ai_b 23) 11 = .ok (.iload_n 1, 1) := by decide +kernel
theorem d23_12 : decode (ai_b 23) 12 = .ok (.iconst 4, 1) := by decide +kernel
theorem d23_13 : decode (ai_b 23) 13 = .ok (.imul, 1) := by decide +kernel
theorem d23_14 : decode (ai_b 23) 14 = .ok (.iload_n 3, 1) := by decide +kernel
theorem d23_15 : decode (ai_b 23) 15 = .ok (.iadd, 1) := by decide +kernel
theorem d23_16 : decode (ai_b 23) 16 = .ok (.istore 5, 2) := by decide +kernel
theorem d23_18 : decode (ai_b 23) 18 = .ok (.iload 4, 2) := by decide +kernel
theorem d23_20 : decode (ai_b 23) 20 = .ok (.ifCond .lt 50, 3) := by decide +kernel
theorem d23_23 : decode (ai_b 23) 23 = .ok (.iload 4, 2) := by decide +kernel
theorem d23_25 : decode (ai_b 23) 25 = .ok (.aload_n 0, 1) := by decide +kernel
theorem d23_26 : decode (ai_b 23) 26 = .ok (.getfield 29, 3) := by decide +kernel
theorem d23_29 : decode (ai_b 23) 29 = .ok (.arraylength, 1) := by decide +kernel
theorem d23_30 : decode (ai_b 23) 30 = .ok (.if_icmp .ge 40, 3) := by decide +kernel
theorem d23_33 : decode (ai_b 23) 33 = .ok (.iload 5, 2) := by decide +kernel
theorem d23_35 : decode (ai_b 23) 35 = .ok (.ifCond .lt 35, 3) := by decide +kernel
theorem d23_38 : decode (ai_b 23) 38 = .ok (.iload 5, 2) := by decide +kernel
theorem d23_40 : decode (ai_b 23) 40 = .ok (.aload_n 0, 1) := by decide +kernel
theorem d23_41 : decode (ai_b 23) 41 = .ok (.getfield 32, 3) := by decide +kernel
theorem d23_44 : decode (ai_b 23) 44 = .ok (.arraylength, 1) := by decide +kernel
theorem d23_45 : decode (ai_b 23) 45 = .ok (.if_icmp .ge 25, 3) := by decide +kernel
theorem d23_48 : decode (ai_b 23) 48 = .ok (.aload_n 0, 1) := by decide +kernel
theorem d23_49 : decode (ai_b 23) 49 = .ok (.getfield 29, 3) := by decide +kernel
theorem d23_52 : decode (ai_b 23) 52 = .ok (.iload 4, 2) := by decide +kernel
theorem d23_54 : decode (ai_b 23) 54 = .ok (.dup2, 1) := by decide +kernel
theorem d23_55 : decode (ai_b 23) 55 = .ok (.iaload, 1) := by decide +kernel
theorem d23_56 : decode (ai_b 23) 56 = .ok (.iconst 1, 1) := by decide +kernel
theorem d23_57 : decode (ai_b 23) 57 = .ok (.iadd, 1) := by decide +kernel
theorem d23_58 : decode (ai_b 23) 58 = .ok (.iastore, 1) := by decide +kernel
theorem d23_59 : decode (ai_b 23) 59 = .ok (.aload_n 0, 1) := by decide +kernel
theorem d23_60 : decode (ai_b 23) 60 = .ok (.getfield 32, 3) := by decide +kernel
theorem d23_63 : decode (ai_b 23) 63 = .ok (.iload 5, 2) := by decide +kernel
theorem d23_65 : decode (ai_b 23) 65 = .ok (.dup2, 1) := by decide +kernel
theorem d23_66 : decode (ai_b 23) 66 = .ok (.iaload, 1) := by decide +kernel
theorem d23_67 : decode (ai_b 23) 67 = .ok (.iconst 1, 1) := by decide +kernel
theorem d23_68 : decode (ai_b 23) 68 = .ok (.iadd, 1) := by decide +kernel
theorem d23_69 : decode (ai_b 23) 69 = .ok (.iastore, 1) := by decide +kernel
theorem d23_70 : decode (ai_b 23) 70 = .ok (.return_, 1) := by decide +kernel
theorem d24_0 : decode (ai_b 24) 0 = .ok (.iload_n 1, 1) := by decide +kernel
theorem d24_1 : decode (ai_b 24) 1 = .ok (.iconst 4, 1) := by decide +kernel
theorem d24_2 : decode (ai_b 24) 2 = .ok (.imul, 1) := by decide +kernel
theorem d24_3 : decode (ai_b 24) 3 = .ok (.iload_n 2, 1) := by decide +kernel
theorem d24_4 : decode (ai_b 24) 4 = .ok (.iadd, 1) := by decide +kernel
theorem d24_5 : decode (ai_b 24) 5 = .ok (.iconst 4, 1) := by decide +kernel
theorem d24_6 : decode (ai_b 24) 6 = .ok (.imul, 1) := by decide +kernel
theorem d24_7 : decode (ai_b 24) 7 = .ok (.iload_n 3, 1) := by decide +kernel
theorem d24_8 : decode (ai_b 24) 8 = .ok (.iadd, 1) := by decide +kernel
theorem d24_9 : decode (ai_b 24) 9 = .ok (.istore 4, 2) := by decide +kernel
theorem d24_11 : decode (ai_b 24) 11 = .ok (.iload 4, 2) := by decide +kernel
theorem d24_13 : decode (ai_b 24) 13 = .ok (.ifCond .lt 25, 3) := by decide +kernel
theorem d24_16 : decode (ai_b 24) 16 = .ok (.iload 4, 2) := by decide +kernel
theorem d24_18 : decode (ai_b 24) 18 = .ok (.aload_n 0, 1) := by decide +kernel
theorem d24_19 : decode (ai_b 24) 19 = .ok (.getfield 29, 3) := by decide +kernel
theorem d24_22 : decode (ai_b 24) 22 = .ok (.arraylength, 1) := by decide +kernel
theorem d24_23 : decode (ai_b 24) 23 = .ok (.if_icmp .ge 15, 3) := by decide +kernel
theorem d24_26 : decode (ai_b 24) 26 = .ok (.iconst 1, 1) := by decide +kernel
theorem d24_27 : decode (ai_b 24) 27 = .ok (.aload_n 0, 1) := by decide +kernel
theorem d24_28 : decode (ai_b 24) 28 = .ok (.getfield 29, 3) := by decide +kernel
theorem d24_31 : decode (ai_b 24) 31 = .ok (.iload 4, 2) := by decide +kernel
theorem d24_33 : decode (ai_b 24) 33 = .ok (.iaload, 1) := by decide +kernel
theorem d24_34 : decode (ai_b 24) 34 = .ok (.iadd, 1) := by decide +kernel
theorem d24_35 : decode (ai_b 24) 35 = .ok (.goto 4, 3) := by decide +kernel
theorem d24_38 : decode (ai_b 24) 38 = .ok (.iconst 0, 1) := by decide +kernel
theorem d24_39 : decode (ai_b 24) 39 = .ok (.ireturn, 1) := by decide +kernel
theorem d25_0 : decode (ai_b 25) 0 = .ok (.iload_n 1, 1) := by decide +kernel
theorem d25_1 : decode (ai_b 25) 1 = .ok (.iconst 4, 1) := by decide +kernel
theorem d25_2 : decode (ai_b 25) 2 = .ok (.imul, 1) := by decide +kernel
theorem d25_3 : decode (ai_b 25) 3 = .ok (.iload_n 2, 1) := by decide +kernel
theorem d25_4 : decode (ai_b 25) 4 = .ok (.iadd, 1) := by decide +kernel
theorem d25_5 : decode (ai_b 25) 5 = .ok (.istore 4, 2) := by decide +kernel
theorem d25_7 : decode (ai_b 25) 7 = .ok (.iload 4, 2) := by decide +kernel
theorem d25_9 : decode (ai_b 25) 9 = .ok (.ifCond .lt 25, 3) := by decide +kernel
theorem d25_12 : decode (ai_b 25) 12 = .ok (.iload 4, 2) := by decide +kernel
theorem d25_14 : decode (ai_b 25) 14 = .ok (.aload_n 0, 1) := by decide +kernel
theorem d25_15 : decode (ai_b 25) 15 = .ok (.getfield 32, 3) := by decide +kernel
theorem d25_18 : decode (ai_b 25) 18 = .ok (.arraylength, 1) := by decide +kernel
theorem d25_19 : decode (ai_b 25) 19 = .ok (.if_icmp .ge 15, 3) := by decide +kernel
theorem d25_22 : decode (ai_b 25) 22 = .ok (.iload_n 3, 1) := by decide +kernel
theorem d25_23 : decode (ai_b 25) 23 = .ok (.aload_n 0, 1) := by decide +kernel
theorem d25_24 : decode (ai_b 25) 24 = .ok (.getfield 32, 3) := by decide +kernel
theorem d25_27 : decode (ai_b 25) 27 = .ok (.iload 4, 2) := by decide +kernel
theorem d25_29 : decode (ai_b 25) 29 = .ok (.iaload, 1) := by decide +kernel
theorem d25_30 : decode (ai_b 25) 30 = .ok (.iadd, 1) := by decide +kernel
theorem d25_31 : decode (ai_b 25) 31 = .ok (.goto 4, 3) := by decide +kernel
theorem d25_34 : decode (ai_b 25) 34 = .ok (.iconst 0, 1) := by decide +kernel
theorem d25_35 : decode (ai_b 25) 35 = .ok (.ireturn, 1) := by decide +kernel
theorem d26_0 : decode (ai_b 26) 0 = .ok (.aload_n 0, 1) := by decide +kernel
theorem d26_1 : decode (ai_b 26) 1 = .ok (.iload_n 1, 1) := by decide +kernel
theorem d26_2 : decode (ai_b 26) 2 = .ok (.iload_n 2, 1) := by decide +kernel
theorem d26_3 : decode (ai_b 26) 3 = .ok (.iload_n 3, 1) := by decide +kernel
theorem d26_4 : decode (ai_b 26) 4 = .ok (.invokevirtual 35, 3) := by decide +kernel
theorem d26_7 : decode (ai_b 26) 7 = .ok (.istore 5, 2) := by decide +kernel
theorem d26_9 : decode (ai_b 26) 9 = .ok (.iconst 0, 1) := by decide +kernel
theorem d26_10 : decode (ai_b 26) 10 = .ok (.istore 6, 2) := by decide +kernel
theorem d26_12 : decode (ai_b 26) 12 = .ok (.iload 6, 2) := by decide +kernel
theorem d26_14 : decode (ai_b 26) 14 = .ok (.iload 4, 2) := by decide +kernel
theorem d26_16 : decode (ai_b 26) 16 = .ok (.if_icmp .ge 29, 3) := by decide +kernel
theorem d26_19 : decode (ai_b 26) 19 = .ok (.iload 6, 2) := by decide +kernel
theorem d26_21 : decode (ai_b 26) 21 = .ok (.iload_n 3, 1) := by decide +kernel
theorem d26_22 : decode (ai_b 26) 22 = .ok (.if_icmp .eq 17, 3) := by decide +kernel
theorem d26_25 : decode (ai_b 26) 25 = .ok (.iload 5, 2) := by decide +kernel
theorem d26_27 : decode (ai_b 26) 27 = .ok (.aload_n 0, 1) := by decide +kernel
theorem d26_28 : decode (ai_b 26) 28 = .ok (.iload_n 1, 1) := by decide +kernel
theorem d26_29 : decode (ai_b 26) 29 = .ok (.iload 6, 2) := by decide +kernel
theorem d26_31 : decode (ai_b 26) 31 = .ok (.iload 4, 2) := by decide +kernel
theorem d26_33 : decode (ai_b 26) 33 = .ok (.invokevirtual 39, 3) := by decide +kernel
theorem d26_36 : decode (ai_b 26) 36 = .ok (.imul, 1) := by decide +kernel
theorem d26_37 : decode (ai_b 26) 37 = .ok (.istore 5, 2) := by decide +kernel
theorem d26_39 : decode (ai_b 26) 39 = .ok (.iinc 6 1, 3) := by decide +kernel
theorem d26_42 : decode (ai_b 26) 42 = .ok (.goto (-30), 3) := by decide +kernel
theorem d26_45 : decode (ai_b 26) 45 = .ok (.iload 5, 2) := by decide +kernel
theorem d26_47 : decode (ai_b 26) 47 = .ok (.ireturn, 1) := by decide +kernel
theorem d27_0 : decode (ai_b 27) 0 = .ok (.iconst 1, 1) := by decide +kernel
theorem d27_1 : decode (ai_b 27) 1 = .ok (.istore_n 3, 1) := by decide +kernel
theorem d27_2 : decode (ai_b 27) 2 = .ok (.iconst 0, 1) := by decide +kernel
theorem d27_3 : decode (ai_b 27) 3 = .ok (.istore 4, 2) := by decide +kernel
theorem d27_5 : decode (ai_b 27) 5 = .ok (.iload 4, 2) := by decide +kernel
theorem d27_7 : decode (ai_b 27) 7 = .ok (.iload_n 2, 1) := by decide +kernel
theorem d27_8 : decode (ai_b 27) 8 = .ok (.if_icmp .ge 20, 3) := by decide +kernel
theorem d27_11 : decode (ai_b 27) 11 = .ok (.iload_n 3, 1) := by decide +kernel
theorem d27_12 : decode (ai_b 27) 12 = .ok (.aload_n 0, 1) := by decide +kernel
theorem d27_13 : decode (ai_b 27) 13 = .ok (.iload_n 1, 1) := by decide +kernel
theorem d27_14 : decode (ai_b 27) 14 = .ok (.iload 4, 2) := by decide +kernel
theorem d27_16 : decode (ai_b 27) 16 = .ok (.iload_n 2, 1) := by decide +kernel
theorem d27_17 : decode (ai_b 27) 17 = .ok (.invokevirtual 39, 3) := by decide +kernel
theorem d27_20 : decode (ai_b 27) 20 = .ok (.imul, 1) := by decide +kernel
theorem d27_21 : decode (ai_b 27) 21 = .ok (.istore_n 3, 1) := by decide +kernel
theorem d27_22 : decode (ai_b 27) 22 = .ok (.iinc 4 1, 3) := by decide +kernel
theorem d27_25 : decode (ai_b 27) 25 = .ok (.goto (-20), 3) := by decide +kernel
theorem d27_28 : decode (ai_b 27) 28 = .ok (.iload_n 3, 1) := by decide +kernel
theorem d27_29 : decode (ai_b 27) 29 = .ok (.ireturn, 1) := by decide +kernel
theorem d28_0 : decode (ai_b 28) 0 = .ok (.aload_n 0, 1) := by decide +kernel
theorem d28_1 : decode (ai_b 28) 1 = .ok (.invokespecial 3, 3) := by decide +kernel
theorem d28_4 : decode (ai_b 28) 4 = .ok (.aload_n 0, 1) := by decide +kernel
theorem d28_5 : decode (ai_b 28) 5 = .ok (.iconst 4, 1) := by decide +kernel
theorem d28_6 : decode (ai_b 28) 6 = .ok (.anewarray 9, 3) := by decide +kernel
theorem d28_9 : decode (ai_b 28) 9 = .ok (.putfield 11, 3) := by decide +kernel
theorem d28_12 : decode (ai_b 28) 12 = .ok (.aload_n 0, 1) := by decide +kernel
theorem d28_13 : decode (ai_b 28) 13 = .ok (.new 9, 3) := by decide +kernel
theorem d28_16 : decode (ai_b 28) 16 = .ok (.dup, 1) := by decide +kernel
theorem d28_17 : decode (ai_b 28) 17 = .ok (.bipush 16, 2) := by decide +kernel
theorem d28_19 : decode (ai_b 28) 19 = .ok (.invokespecial 17, 3) := by decide +kernel
theorem d28_22 : decode (ai_b 28) 22 = .ok (.putfield 20, 3) := by decide +kernel
theorem d28_25 : decode (ai_b 28) 25 = .ok (.aload_n 0, 1) := by decide +kernel
theorem d28_26 : decode (ai_b 28) 26 = .ok (.new 9, 3) := by decide +kernel
theorem d28_29 : decode (ai_b 28) 29 = .ok (.dup, 1) := by decide +kernel
theorem d28_30 : decode (ai_b 28) 30 = .ok (.bipush 16, 2) := by decide +kernel
theorem d28_32 : decode (ai_b 28) 32 = .ok (.invokespecial 17, 3) := by decide +kernel
theorem d28_35 : decode (ai_b 28) 35 = .ok (.putfield 24, 3) := by decide +kernel
theorem d28_38 : decode (ai_b 28) 38 = .ok (.aload_n 0, 1) := by decide +kernel
theorem d28_39 : decode (ai_b 28) 39 = .ok (.new 9, 3) := by decide +kernel
theorem d28_42 : decode (ai_b 28) 42 = .ok (.dup, 1) := by decide +kernel
theorem d28_43 : decode (ai_b 28) 43 = .ok (.bipush 16, 2) := by decide +kernel
theorem d28_45 : decode (ai_b 28) 45 = .ok (.invokespecial 17, 3) := by decide +kernel
theorem d28_48 : decode (ai_b 28) 48 = .ok (.putfield 27, 3) := by decide +kernel
theorem d28_51 : decode (ai_b 28) 51 = .ok (.aload_n 0, 1) := by decide +kernel
theorem d28_52 : decode (ai_b 28) 52 = .ok (.iconst 2, 1) := by decide +kernel
theorem d28_53 : decode (ai_b 28) 53 = .ok (.putfield 30, 3) := by decide +kernel
theorem d28_56 : decode (ai_b 28) 56 = .ok (.aload_n 0, 1) := by decide +kernel
theorem d28_57 : decode (ai_b 28) 57 = .ok (.iconst (-1), 1) := by decide +kernel
theorem d28_58 : decode (ai_b 28) 58 = .ok (.putfield 34, 3) := by decide +kernel
theorem d28_61 : decode (ai_b 28) 61 = .ok (.aload_n 0, 1) := by decide +kernel
theorem d28_62 : decode (ai_b 28) 62 = .ok (.iconst 0, 1) := by decide +kernel
theorem d28_63 : decode (ai_b 28) 63 = .ok (.putfield 37, 3) := by decide +kernel
theorem d28_66 : decode (ai_b 28) 66 = .ok (.aload_n 0, 1) := by decide +kernel
theorem d28_67 : decode (ai_b 28) 67 = .ok (.iconst 0, 1) := by decide +kernel
theorem d28_68 : decode (ai_b 28) 68 = .ok (.putfield 40, 3) := by decide +kernel
theorem d28_71 : decode (ai_b 28) 71 = .ok (.iconst 0, 1) := by decide +kernel
theorem d28_72 : decode (ai_b 28) 72 = .ok (.istore_n 1, 1) := by decide +kernel
theorem d28_73 : decode (ai_b 28) 73 = .ok (.iload_n 1, 1) := by decide +kernel
theorem d28_74 : decode (ai_b 28) 74 = .ok (.iconst 4, 1) := by decide +kernel
theorem d28_75 : decode (ai_b 28) 75 = .ok (.if_icmp .ge 24, 3) := by decide +kernel
theorem d28_78 : decode (ai_b 28) 78 = .ok (.aload_n 0, 1) := by decide +kernel
theorem d28_79 : decode (ai_b 28) 79 = .ok (.getfield 11, 3) := by decide +kernel
theorem d28_82 : decode (ai_b 28) 82 = .ok (.iload_n 1, 1) := by decide +kernel
theorem d28_83 : decode (ai_b 28) 83 = .ok (.new 9, 3) := by decide +kernel
theorem d28_86 : decode (ai_b 28) 86 = .ok (.dup, 1) := by decide +kernel
theorem d28_87 : decode (ai_b 28) 87 = .ok (.bipush 16, 2) := by decide +kernel
theorem d28_89 : decode (ai_b 28) 89 = .ok (.invokespecial 17, 3) := by decide +kernel
theorem d28_92 : decode (ai_b 28) 92 = .ok (.aastore, 1) := by decide +kernel
theorem d28_93 : decode (ai_b 28) 93 = .ok (.iinc 1 1, 3) := by decide +kernel
theorem d28_96 : decode (ai_b 28) 96 = .ok (.goto (-23), 3) := by decide +kernel
theorem d28_99 : decode (ai_b 28) 99 = .ok (.return_, 1) := by decide +kernel
theorem d29_0 : decode (ai_b 29) 0 = .ok (.aload_n 0, 1) := by decide +kernel
theorem d29_1 : decode (ai_b 29) 1 = .ok (.iload_n 1, 1) := by decide +kernel
theorem d29_2 : decode (ai_b 29) 2 = .ok (.iconst 4, 1) := by decide +kernel
theorem d29_3 : decode (ai_b 29) 3 = .ok (.invokestatic 43, 3) := by decide +kernel
theorem d29_6 : decode (ai_b 29) 6 = .ok (.putfield 30, 3) := by decide +kernel
theorem d29_9 : decode (ai_b 29) 9 = .ok (.aload_n 0, 1) := by decide +kernel
theorem d29_10 : decode (ai_b 29) 10 = .ok (.iload_n 2, 1) := by decide +kernel
theorem d29_11 : decode (ai_b 29) 11 = .ok (.putfield 34, 3) := by decide +kernel
theorem d29_14 : decode (ai_b 29) 14 = .ok (.aload_n 0, 1) := by decide +kernel
theorem d29_15 : decode (ai_b 29) 15 = .ok (.iconst 0, 1) := by decide +kernel
theorem d29_16 : decode (ai_b 29) 16 = .ok (.putfield 37, 3) := by decide +kernel
theorem d29_19 : decode (ai_b 29) 19 = .ok (.iconst 0, 1) := by decide +kernel
theorem d29_20 : decode (ai_b 29) 20 = .ok (.istore_n 3, 1) := by decide +kernel
theorem d29_21 : decode (ai_b 29) 21 = .ok (.iload_n 3, 1) := by decide +kernel
theorem d29_22 : decode (ai_b 29) 22 = .ok (.aload_n 0, 1) := by decide +kernel
theorem d29_23 : decode (ai_b 29) 23 = .ok (.getfield 30, 3) := by decide +kernel
theorem d29_26 : decode (ai_b 29) 26 = .ok (.if_icmp .ge 39, 3) := by decide +kernel
theorem d29_29 : decode (ai_b 29) 29 = .ok (.aload_n 0, 1) := by decide +kernel
theorem d29_30 : decode (ai_b 29) 30 = .ok (.getfield 11, 3) := by decide +kernel
theorem d29_33 : decode (ai_b 29) 33 = .ok (.iload_n 3, 1) := by decide +kernel
theorem d29_34 : decode (ai_b 29) 34 = .ok (.aaload, 1) := by decide +kernel
theorem d29_35 : decode (ai_b 29) 35 = .ok (.aload_n 0, 1) := by decide +kernel
theorem d29_36 : decode (ai_b 29) 36 = .ok (.getfield 34, 3) := by decide +kernel
theorem d29_39 : decode (ai_b 29) 39 = .ok (.iconst (-1), 1) := by decide +kernel
theorem d29_40 : decode (ai_b 29) 40 = .ok (.if_icmp .eq 11, 3) := by decide +kernel
theorem d29_43 : decode (ai_b 29) 43 = .ok (.aload_n 0, 1) := by decide +kernel
theorem d29_44 : decode (ai_b 29) 44 = .ok (.getfield 34, 3) := by decide +kernel
theorem d29_47 : decode (ai_b 29) 47 = .ok (.iload_n 3, 1) := by decide +kernel
theorem d29_48 : decode (ai_b 29) 48 = .ok (.if_icmp .ne 7, 3) := by decide +kernel
theorem d29_51 : decode (ai_b 29) 51 = .ok (.iconst 1, 1) := by decide +kernel
theorem d29_52 : decode (ai_b 29) 52 = .ok (.goto 4, 3) := by decide +kernel
theorem d29_55 : decode (ai_b 29) 55 = .ok (.iconst 0, 1) := by decide +kernel
theorem d29_56 : decode (ai_b 29) 56 = .ok (.invokevirtual 49, 3) := by decide +kernel
theorem d29_59 : decode (ai_b 29) 59 = .ok (.iinc 3 1, 3) := by decide +kernel
theorem d29_62 : decode (ai_b 29) 62 = .ok (.goto (-41), 3) := by decide +kernel
theorem d29_65 : decode (ai_b 29) 65 = .ok (.return_, 1) := by decide +kernel
theorem d30_0 : decode (ai_b 30) 0 = .ok (.aload_n 0, 1) := by decide +kernel
theorem d30_1 : decode (ai_b 30) 1 = .ok (.dup, 1) := by decide +kernel
theorem d30_2 : decode (ai_b 30) 2 = .ok (.getfield 37, 3) := by decide +kernel
theorem d30_5 : decode (ai_b 30) 5 = .ok (.iconst 1, 1) := by decide +kernel
theorem d30_6 : decode (ai_b 30) 6 = .ok (.iadd, 1) := by decide +kernel
theorem d30_7 : decode (ai_b 30) 7 = .ok (.putfield 37, 3) := by decide +kernel
theorem d30_10 : decode (ai_b 30) 10 = .ok (.aload_n 0, 1) := by decide +kernel
theorem d30_11 : decode (ai_b 30) 11 = .ok (.getfield 34, 3) := by decide +kernel
theorem d30_14 : decode (ai_b 30) 14 = .ok (.iconst (-1), 1) := by decide +kernel
theorem d30_15 : decode (ai_b 30) 15 = .ok (.if_icmp .ne 43, 3) := by decide +kernel
theorem d30_18 : decode (ai_b 30) 18 = .ok (.iconst 0, 1) := by decide +kernel
theorem d30_19 : decode (ai_b 30) 19 = .ok (.istore 4, 2) := by decide +kernel
theorem d30_21 : decode (ai_b 30) 21 = .ok (.iload 4, 2) := by decide +kernel
theorem d30_23 : decode (ai_b 30) 23 = .ok (.aload_n 0, 1) := by decide +kernel
theorem d30_24 : decode (ai_b 30) 24 = .ok (.getfield 30, 3) := by decide +kernel
theorem d30_27 : decode (ai_b 30) 27 = .ok (.if_icmp .ge 31, 3) := by decide +kernel
theorem d30_30 : decode (ai_b 30) 30 = .ok (.aload_n 0, 1) := by decide +kernel
theorem d30_31 : decode (ai_b 30) 31 = .ok (.getfield 11, 3) := by decide +kernel
theorem d30_34 : decode (ai_b 30) 34 = .ok (.iload 4, 2) := by decide +kernel
theorem d30_36 : decode (ai_b 30) 36 = .ok (.aaload, 1) := by decide +kernel
theorem d30_37 : decode (ai_b 30) 37 = .ok (.aload_n 1, 1) := by decide +kernel
theorem d30_38 : decode (ai_b 30) 38 = .ok (.iload_n 2, 1) := by decide +kernel
theorem d30_39 : decode (ai_b 30) 39 = .ok (.iload_n 3, 1) := by decide +kernel
theorem d30_40 : decode (ai_b 30) 40 = .ok (.iload 4, 2) := by decide +kernel
theorem d30_42 : decode (ai_b 30) 42 = .ok (.aload_n 0, 1) := by decide +kernel
theorem d30_43 : decode (ai_b 30) 43 = .ok (.getfield 30, 3) := by decide +kernel
theorem d30_46 : decode (ai_b 30) 46 = .ok (.invokevirtual 52, 3) := by decide +kernel
theorem d30_49 : decode (ai_b 30) 49 = .ok (.invokevirtual 58, 3) := by decide +kernel
theorem d30_52 : decode (ai_b 30) 52 = .ok (.iinc 4 1, 3) := by decide +kernel
theorem d30_55 : decode (ai_b 30) 55 = .ok (.goto (-34), 3) := by decide +kernel
theorem d30_58 : decode (ai_b 30) 58 = .ok (.return_, 1) := by decide +kernel
theorem d31_0 : decode (ai_b 31) 0 = .ok (.aload_n 0, 1) := by decide +kernel
theorem d31_1 : decode (ai_b 31) 1 = .ok (.getfield 20, 3) := by decide +kernel
theorem d31_4 : decode (ai_b 31) 4 = .ok (.iconst 0, 1) := by decide +kernel
theorem d31_5 : decode (ai_b 31) 5 = .ok (.invokevirtual 49, 3) := by decide +kernel
theorem d31_8 : decode (ai_b 31) 8 = .ok (.aload_n 0, 1) := by decide +kernel
theorem d31_9 : decode (ai_b 31) 9 = .ok (.iconst 0, 1) := by decide +kernel
theorem d31_10 : decode (ai_b 31) 10 = .ok (.putfield 40, 3) := by decide +kernel
theorem d31_13 : decode (ai_b 31) 13 = .ok (.iconst 0, 1) := by decide +kernel
theorem d31_14 : decode (ai_b 31) 14 = .ok (.istore_n 1, 1) := by decide +kernel
theorem d31_15 : decode (ai_b 31) 15 = .ok (.iload_n 1, 1) := by decide +kernel
theorem d31_16 : decode (ai_b 31) 16 = .ok (.aload_n 0, 1) := by decide +kernel
theorem d31_17 : decode (ai_b 31) 17 = .ok (.getfield 30, 3) := by decide +kernel
theorem d31_20 : decode (ai_b 31) 20 = .ok (.if_icmp .ge 39, 3) := by decide +kernel
theorem d31_23 : decode (ai_b 31) 23 = .ok (.aload_n 0, 1) := by decide +kernel
theorem d31_24 : decode (ai_b 31) 24 = .ok (.getfield 20, 3) := by decide +kernel
theorem d31_27 : decode (ai_b 31) 27 = .ok (.aload_n 0, 1) := by decide +kernel
theorem d31_28 : decode (ai_b 31) 28 = .ok (.getfield 11, 3) := by decide +kernel
theorem d31_31 : decode (ai_b 31) 31 = .ok (.iload_n 1, 1) := by decide +kernel
theorem d31_32 : decode (ai_b 31) 32 = .ok (.aaload, 1) := by decide +kernel
theorem d31_33 : decode (ai_b 31) 33 = .ok (.invokevirtual 61, 3) := by decide +kernel
theorem d31_36 : decode (ai_b 31) 36 = .ok (.aload_n 0, 1) := by decide +kernel
theorem d31_37 : decode (ai_b 31) 37 = .ok (.iload_n 1, 1) := by decide +kernel
theorem d31_38 : decode (ai_b 31) 38 = .ok (.aload_n 0, 1) := by decide +kernel
theorem d31_39 : decode (ai_b 31) 39 = .ok (.getfield 40, 3) := by decide +kernel
theorem d31_42 : decode (ai_b 31) 42 = .ok (.invokevirtual 65, 3) := by decide +kernel
theorem d31_45 : decode (ai_b 31) 45 = .ok (.ifCond .eq 8, 3) := by decide +kernel
theorem d31_48 : decode (ai_b 31) 48 = .ok (.aload_n 0, 1) := by decide +kernel
theorem d31_49 : decode (ai_b 31) 49 = .ok (.iload_n 1, 1) := by decide +kernel
theorem d31_50 : decode (ai_b 31) 50 = .ok (.putfield 40, 3) := by decide +kernel
theorem d31_53 : decode (ai_b 31) 53 = .ok (.iinc 1 1, 3) := by decide +kernel
theorem d31_56 : decode (ai_b 31) 56 = .ok (.goto (-41), 3) := by decide +kernel
theorem d31_59 : decode (ai_b 31) 59 = .ok (.return_, 1) := by decide +kernel
theorem d32_0 : decode (ai_b 32) 0 = .ok (.iload_n 1, 1) := by decide +kernel
theorem d32_1 : decode (ai_b 32) 1 = .ok (.ifCond .lt 45, 3) := by decide +kernel
theorem d32_4 : decode (ai_b 32) 4 = .ok (.iload_n 1, 1) := by decide +kernel
theorem d32_5 : decode (ai_b 32) 5 = .ok (.aload_n 0, 1) := by decide +kernel
theorem d32_6 : decode (ai_b 32) 6 = .ok (.getfield 30, 3) := by decide +kernel
theorem d32_9 : decode (ai_b 32) 9 = .ok (.if_icmp .ge 37, 3) := by decide +kernel
theorem d32_12 : decode (ai_b 32) 12 = .ok (.iload_n 2, 1) := by decide +kernel
theorem d32_13 : decode (ai_b 32) 13 = .ok (.ifCond .lt 33, 3) := by decide +kernel
theorem d32_16 : decode (ai_b 32) 16 = .ok (.iload_n 2, 1) := by decide +kernel
theorem d32_17 : decode (ai_b 32) 17 = .ok (.aload_n 0, 1) := by decide +kernel
theorem d32_18 : decode (ai_b 32) 18 = .ok (.getfield 30, 3) := by decide +kernel
theorem d32_21 : decode (ai_b 32) 21 = .ok (.if_icmp .ge 25, 3) := by decide +kernel
theorem d32_24 : decode (ai_b 32) 24 = .ok (.aload_n 0, 1) := by decide +kernel
theorem d32_25 : decode (ai_b 32) 25 = .ok (.getfield 11, 3) := by decide +kernel
theorem d32_28 : decode (ai_b 32) 28 = .ok (.iload_n 1, 1) := by decide +kernel
theorem d32_29 : decode (ai_b 32) 29 = .ok (.aaload, 1) := by decide +kernel
theorem d32_30 : decode (ai_b 32) 30 = .ok (.aload_n 0, 1) := by decide +kernel
theorem d32_31 : decode (ai_b 32) 31 = .ok (.getfield 11, 3) := by decide +kernel
theorem d32_34 : decode (ai_b 32) 34 = .ok (.iload_n 2, 1) := by decide +kernel
theorem d32_35 : decode (ai_b 32) 35 = .ok (.aaload, 1) := by decide +kernel
theorem d32_36 : decode (ai_b 32) 36 = .ok (.invokevirtual 69, 3) := by decide +kernel
theorem d32_39 : decode (ai_b 32) 39 = .ok (.ifCond .eq 7, 3) := by decide +kernel
theorem d32_42 : decode (ai_b 32) 42 = .ok (.iconst 1, 1) := by decide +kernel
theorem d32_43 : decode (ai_b 32) 43 = .ok (.goto 4, 3) := by decide +kernel
theorem d32_46 : decode (ai_b 32) 46 = .ok (.iconst 0, 1) := by decide +kernel
theorem d32_47 : decode (ai_b 32) 47 = .ok (.ireturn, 1) := by decide +kernel
theorem d33_0 : decode (ai_b 33) 0 = .ok (.aload_n 0, 1) := by decide +kernel
theorem d33_1 : decode (ai_b 33) 1 = .ok (.getfield 24, 3) := by decide +kernel
theorem d33_4 : decode (ai_b 33) 4 = .ok (.aload_n 0, 1) := by decide +kernel
theorem d33_5 : decode (ai_b 33) 5 = .ok (.getfield 11, 3) := by decide +kernel
theorem d33_8 : decode (ai_b 33) 8 = .ok (.aload_n 0, 1) := by decide +kernel
theorem d33_9 : decode (ai_b 33) 9 = .ok (.getfield 40, 3) := by decide +kernel
theorem d33_12 : decode (ai_b 33) 12 = .ok (.aaload, 1) := by decide +kernel
theorem d33_13 : decode (ai_b 33) 13 = .ok (.invokevirtual 72, 3) := by decide +kernel
theorem d33_16 : decode (ai_b 33) 16 = .ok (.aload_n 0, 1) := by decide +kernel
theorem d33_17 : decode (ai_b 33) 17 = .ok (.getfield 24, 3) := by decide +kernel
theorem d33_20 : decode (ai_b 33) 20 = .ok (.sipush 1000, 3) := by decide +kernel
theorem d33_23 : decode (ai_b 33) 23 = .ok (.invokevirtual 58, 3) := by decide +kernel
theorem d33_26 : decode (ai_b 33) 26 = .ok (.aload_n 0, 1) := by decide +kernel
theorem d33_27 : decode (ai_b 33) 27 = .ok (.getfield 27, 3) := by decide +kernel
theorem d33_30 : decode (ai_b 33) 30 = .ok (.aload_n 0, 1) := by decide +kernel
theorem d33_31 : decode (ai_b 33) 31 = .ok (.getfield 20, 3) := by decide +kernel
theorem d33_34 : decode (ai_b 33) 34 = .ok (.invokevirtual 72, 3) := by decide +kernel
theorem d33_37 : decode (ai_b 33) 37 = .ok (.aload_n 0, 1) := by decide +kernel
theorem d33_38 : decode (ai_b 33) 38 = .ok (.getfield 27, 3) := by decide +kernel
theorem d33_41 : decode (ai_b 33) 41 = .ok (.iload_n 1, 1) := by decide +kernel
theorem d33_42 : decode (ai_b 33) 42 = .ok (.invokevirtual 58, 3) := by decide +kernel
theorem d33_45 : decode (ai_b 33) 45 = .ok (.aload_n 0, 1) := by decide +kernel
theorem d33_46 : decode (ai_b 33) 46 = .ok (.getfield 27, 3) := by decide +kernel
theorem d33_49 : decode (ai_b 33) 49 = .ok (.aload_n 0, 1) := by decide +kernel
theorem d33_50 : decode (ai_b 33) 50 = .ok (.getfield 24, 3) := by decide +kernel
theorem d33_53 : decode (ai_b 33) 53 = .ok (.invokevirtual 69, 3) := by decide +kernel
theorem d33_56 : decode (ai_b 33) 56 = .ok (.ifCond .ne 7, 3) := by decide +kernel
theorem d33_59 : decode (ai_b 33) 59 = .ok (.iconst 1, 1) := by decide +kernel
theorem d33_60 : decode (ai_b 33) 60 = .ok (.goto 4, 3) := by decide +kernel
theorem d33_63 : decode (ai_b 33) 63 = .ok (.iconst 0, 1) := by decide +kernel
theorem d33_64 : decode (ai_b 33) 64 = .ok (.ireturn, 1) := by decide +kernel
theorem d34_0 : decode (ai_b 34) 0 = .ok (.aload_n 1, 1) := by decide +kernel
theorem d34_1 : decode (ai_b 34) 1 = .ok (.iload_n 2, 1) := by decide +kernel
theorem d34_2 : decode (ai_b 34) 2 = .ok (.aload_n 0, 1) := by decide +kernel
theorem d34_3 : decode (ai_b 34) 3 = .ok (.getfield 30, 3) := by decide +kernel
theorem d34_6 : decode (ai_b 34) 6 = .ok (.invokevirtual 74, 3) := by decide +kernel
theorem d34_9 : decode (ai_b 34) 9 = .ok (.istore 4, 2) := by decide +kernel
theorem d34_11 : decode (ai_b 34) 11 = .ok (.aload_n 3, 1) := by decide +kernel
theorem d34_12 : decode (ai_b 34) 12 = .ok (.getfield 77, 3) := by decide +kernel
theorem d34_15 : decode (ai_b 34) 15 = .ok (.iconst 0, 1) := by decide +kernel
theorem d34_16 : decode (ai_b 34) 16 = .ok (.invokevirtual 49, 3) := by decide +kernel
theorem d34_19 : decode (ai_b 34) 19 = .ok (.iconst 0, 1) := by decide +kernel
theorem d34_20 : decode (ai_b 34) 20 = .ok (.istore 5, 2) := by decide +kernel
theorem d34_22 : decode (ai_b 34) 22 = .ok (.iload 5, 2) := by decide +kernel
theorem d34_24 : decode (ai_b 34) 24 = .ok (.aload_n 0, 1) := by decide +kernel
theorem d34_25 : decode (ai_b 34) 25 = .ok (.getfield 30, 3) := by decide +kernel
theorem d34_28 : decode (ai_b 34) 28 = .ok (.if_icmp .ge 105, 3) := by decide +kernel
theorem d34_31 : decode (ai_b 34) 31 = .ok (.aload_n 0, 1) := by decide +kernel
theorem d34_32 : decode (ai_b 34) 32 = .ok (.getfield 27, 3) := by decide +kernel
theorem d34_35 : decode (ai_b 34) 35 = .ok (.iconst 0, 1) := by decide +kernel
theorem d34_36 : decode (ai_b 34) 36 = .ok (.invokevirtual 49, 3) := by decide +kernel
theorem d34_39 : decode (ai_b 34) 39 = .ok (.iconst 0, 1) := by decide +kernel
theorem d34_40 : decode (ai_b 34) 40 = .ok (.istore 6, 2) := by decide +kernel
theorem d34_42 : decode (ai_b 34) 42 = .ok (.iload 6, 2) := by decide +kernel
theorem d34_44 : decode (ai_b 34) 44 = .ok (.aload_n 0, 1) := by decide +kernel
theorem d34_45 : decode (ai_b 34) 45 = .ok (.getfield 30, 3) := by decide +kernel
theorem d34_48 : decode (ai_b 34) 48 = .ok (.if_icmp .ge 68, 3) := by decide +kernel
theorem d34_51 : decode (ai_b 34) 51 = .ok (.aload_n 0, 1) := by decide +kernel
theorem d34_52 : decode (ai_b 34) 52 = .ok (.getfield 24, 3) := by decide +kernel
theorem d34_55 : decode (ai_b 34) 55 = .ok (.aload_n 0, 1) := by decide +kernel
theorem d34_56 : decode (ai_b 34) 56 = .ok (.getfield 11, 3) := by decide +kernel
theorem d34_59 : decode (ai_b 34) 59 = .ok (.iload 6, 2) := by decide +kernel
theorem d34_61 : decode (ai_b 34) 61 = .ok (.aaload, 1) := by decide +kernel
theorem d34_62 : decode (ai_b 34) 62 = .ok (.invokevirtual 72, 3) := by decide +kernel
theorem d34_65 : decode (ai_b 34) 65 = .ok (.aload_n 0, 1) := by decide +kernel
theorem d34_66 : decode (ai_b 34) 66 = .ok (.getfield 24, 3) := by decide +kernel
theorem d34_69 : decode (ai_b 34) 69 = .ok (.aload_n 1, 1) := by decide +kernel
theorem d34_70 : decode (ai_b 34) 70 = .ok (.iload_n 2, 1) := by decide +kernel
theorem d34_71 : decode (ai_b 34) 71 = .ok (.iload 5, 2) := by decide +kernel
theorem d34_73 : decode (ai_b 34) 73 = .ok (.iload 6, 2) := by decide +kernel
theorem d34_75 : decode (ai_b 34) 75 = .ok (.aload_n 0, 1) := by decide +kernel
theorem d34_76 : decode (ai_b 34) 76 = .ok (.getfield 30, 3) := by decide +kernel
theorem d34_79 : decode (ai_b 34) 79 = .ok (.invokevirtual 52, 3) := by decide +kernel
theorem d34_82 : decode (ai_b 34) 82 = .ok (.invokevirtual 58, 3) := by decide +kernel
theorem d34_85 : decode (ai_b 34) 85 = .ok (.aload_n 0, 1) := by decide +kernel
theorem d34_86 : decode (ai_b 34) 86 = .ok (.getfield 24, 3) := by decide +kernel
theorem d34_89 : decode (ai_b 34) 89 = .ok (.aload_n 0, 1) := by decide +kernel
theorem d34_90 : decode (ai_b 34) 90 = .ok (.getfield 27, 3) := by decide +kernel
theorem d34_93 : decode (ai_b 34) 93 = .ok (.invokevirtual 69, 3) := by decide +kernel
theorem d34_96 : decode (ai_b 34) 96 = .ok (.ifCond .eq 14, 3) := by decide +kernel
theorem d34_99 : decode (ai_b 34) 99 = .ok (.aload_n 0, 1) := by decide +kernel
theorem d34_100 : decode (ai_b 34) 100 = .ok (.getfield 27, 3) := by decide +kernel
theorem d34_103 : decode (ai_b 34) 103 = .ok (.aload_n 0, 1) := by decide +kernel
theorem d34_104 : decode (ai_b 34) 104 = .ok (.getfield 24, 3) := by decide +kernel
theorem d34_107 : decode (ai_b 34) 107 = .ok (.invokevirtual 72, 3) := by decide +kernel
theorem d34_110 : decode (ai_b 34) 110 = .ok (.iinc 6 1, 3) := by decide +kernel
theorem d34_113 : decode (ai_b 34) 113 = .ok (.goto (-71), 3) := by decide +kernel
theorem d34_116 : decode (ai_b 34) 116 = .ok (.aload_n 3, 1) := by decide +kernel
theorem d34_117 : decode (ai_b 34) 117 = .ok (.getfield 77, 3) := by decide +kernel
theorem d34_120 : decode (ai_b 34) 120 = .ok (.aload_n 0, 1) := by decide +kernel
theorem d34_121 : decode (ai_b 34) 121 = .ok (.getfield 27, 3) := by decide +kernel
theorem d34_124 : decode (ai_b 34) 124 = .ok (.invokevirtual 61, 3) := by decide +kernel
theorem d34_127 : decode (ai_b 34) 127 = .ok (.iinc 5 1, 3) := by decide +kernel
theorem d34_130 : decode (ai_b 34) 130 = .ok (.goto (-108), 3) := by decide +kernel
theorem d34_133 : decode (ai_b 34) 133 = .ok (.aload_n 0, 1) := by decide +kernel
theorem d34_134 : decode (ai_b 34) 134 = .ok (.getfield 24, 3) := by decide +kernel
theorem d34_137 : decode (ai_b 34) 137 = .ok (.aload_n 0, 1) := by decide +kernel
theorem d34_138 : decode (ai_b 34) 138 = .ok (.getfield 11, 3) := by decide +kernel
theorem d34_141 : decode (ai_b 34) 141 = .ok (.aload_n 0, 1) := by decide +kernel
theorem d34_142 : decode (ai_b 34) 142 = .ok (.getfield 40, 3) := by decide +kernel
theorem d34_145 : decode (ai_b 34) 145 = .ok (.aaload, 1) := by decide +kernel
theorem d34_146 : decode (ai_b 34) 146 = .ok (.invokevirtual 72, 3) := by decide +kernel
theorem d34_149 : decode (ai_b 34) 149 = .ok (.aload_n 0, 1) := by decide +kernel
theorem d34_150 : decode (ai_b 34) 150 = .ok (.getfield 24, 3) := by decide +kernel
theorem d34_153 : decode (ai_b 34) 153 = .ok (.iload 4, 2) := by decide +kernel
theorem d34_155 : decode (ai_b 34) 155 = .ok (.invokevirtual 58, 3) := by decide +kernel
theorem d34_158 : decode (ai_b 34) 158 = .ok (.aload_n 3, 1) := by decide +kernel
theorem d34_159 : decode (ai_b 34) 159 = .ok (.getfield 77, 3) := by decide +kernel
theorem d34_162 : decode (ai_b 34) 162 = .ok (.aload_n 0, 1) := by decide +kernel
theorem d34_163 : decode (ai_b 34) 163 = .ok (.getfield 24, 3) := by decide +kernel
theorem d34_166 : decode (ai_b 34) 166 = .ok (.invokevirtual 82, 3) := by decide +kernel
theorem d34_169 : decode (ai_b 34) 169 = .ok (.aload_n 3, 1) := by decide +kernel
theorem d34_170 : decode (ai_b 34) 170 = .ok (.getfield 85, 3) := by decide +kernel
theorem d34_173 : decode (ai_b 34) 173 = .ok (.aload_n 0, 1) := by decide +kernel
theorem d34_174 : decode (ai_b 34) 174 = .ok (.getfield 20, 3) := by decide +kernel
theorem d34_177 : decode (ai_b 34) 177 = .ok (.invokevirtual 72, 3) := by decide +kernel
theorem d34_180 : decode (ai_b 34) 180 = .ok (.aload_n 3, 1) := by decide +kernel
theorem d34_181 : decode (ai_b 34) 181 = .ok (.getfield 85, 3) := by decide +kernel
theorem d34_184 : decode (ai_b 34) 184 = .ok (.iload 4, 2) := by decide +kernel
theorem d34_186 : decode (ai_b 34) 186 = .ok (.invokevirtual 58, 3) := by decide +kernel
theorem d34_189 : decode (ai_b 34) 189 = .ok (.return_, 1) := by decide +kernel
theorem d35_0 : decode (ai_b 35) 0 = .ok (.aload_n 0, 1) := by decide +kernel
theorem d35_1 : decode (ai_b 35) 1 = .ok (.invokespecial 3, 3) := by decide +kernel
theorem d35_4 : decode (ai_b 35) 4 = .ok (.aload_n 0, 1) := by decide +kernel
theorem d35_5 : decode (ai_b 35) 5 = .ok (.iconst 2, 1) := by decide +kernel
theorem d35_6 : decode (ai_b 35) 6 = .ok (.putfield 9, 3) := by decide +kernel
theorem d35_9 : decode (ai_b 35) 9 = .ok (.aload_n 0, 1) := by decide +kernel
theorem d35_10 : decode (ai_b 35) 10 = .ok (.iconst (-1), 1) := by decide +kernel
theorem d35_11 : decode (ai_b 35) 11 = .ok (.putfield 15, 3) := by decide +kernel
theorem d35_14 : decode (ai_b 35) 14 = .ok (.aload_n 0, 1) := by decide +kernel
theorem d35_15 : decode (ai_b 35) 15 = .ok (.iconst (-1), 1) := by decide +kernel
theorem d35_16 : decode (ai_b 35) 16 = .ok (.putfield 18, 3) := by decide +kernel
theorem d35_19 : decode (ai_b 35) 19 = .ok (.return_, 1) := by decide +kernel
theorem d36_0 : decode (ai_b 36) 0 = .ok (.aload_n 0, 1) := by decide +kernel
theorem d36_1 : decode (ai_b 36) 1 = .ok (.invokespecial 1, 3) := by decide +kernel
theorem d36_4 : decode (ai_b 36) 4 = .ok (.aload_n 0, 1) := by decide +kernel
theorem d36_5 : decode (ai_b 36) 5 = .ok (.new 7, 3) := by decide +kernel
theorem d36_8 : decode (ai_b 36) 8 = .ok (.dup, 1) := by decide +kernel
theorem d36_9 : decode (ai_b 36) 9 = .ok (.iload_n 1, 1) := by decide +kernel
theorem d36_10 : decode (ai_b 36) 10 = .ok (.invokespecial 9, 3) := by decide +kernel
theorem d36_13 : decode (ai_b 36) 13 = .ok (.putfield 12, 3) := by decide +kernel
theorem d36_16 : decode (ai_b 36) 16 = .ok (.aload_n 0, 1) := by decide +kernel
theorem d36_17 : decode (ai_b 36) 17 = .ok (.new 7, 3) := by decide +kernel
theorem d36_20 : decode (ai_b 36) 20 = .ok (.dup, 1) := by decide +kernel
theorem d36_21 : decode (ai_b 36) 21 = .ok (.iload_n 1, 1) := by decide +kernel
theorem d36_22 : decode (ai_b 36) 22 = .ok (.invokespecial 9, 3) := by decide +kernel
theorem d36_25 : decode (ai_b 36) 25 = .ok (.putfield 18, 3) := by decide +kernel
theorem d36_28 : decode (ai_b 36) 28 = .ok (.aload_n 0, 1) := by decide +kernel
theorem d36_29 : decode (ai_b 36) 29 = .ok (.new 7, 3) := by decide +kernel
theorem d36_32 : decode (ai_b 36) 32 = .ok (.dup, 1) := by decide +kernel
theorem d36_33 : decode (ai_b 36) 33 = .ok (.iload_n 1, 1) := by decide +kernel
theorem d36_34 : decode (ai_b 36) 34 = .ok (.invokespecial 9, 3) := by decide +kernel
theorem d36_37 : decode (ai_b 36) 37 = .ok (.putfield 21, 3) := by decide +kernel
theorem d36_40 : decode (ai_b 36) 40 = .ok (.aload_n 0, 1) := by decide +kernel
theorem d36_41 : decode (ai_b 36) 41 = .ok (.new 7, 3) := by decide +kernel
theorem d36_44 : decode (ai_b 36) 44 = .ok (.dup, 1) := by decide +kernel
theorem d36_45 : decode (ai_b 36) 45 = .ok (.iload_n 1, 1) := by decide +kernel
theorem d36_46 : decode (ai_b 36) 46 = .ok (.invokespecial 9, 3) := by decide +kernel
theorem d36_49 : decode (ai_b 36) 49 = .ok (.putfield 24, 3) := by decide +kernel
theorem d36_52 : decode (ai_b 36) 52 = .ok (.return_, 1) := by decide +kernel
theorem d37_0 : decode (ai_b 37) 0 = .ok (.aload_n 0, 1) := by decide +kernel
theorem d37_1 : decode (ai_b 37) 1 = .ok (.getfield 12, 3) := by decide +kernel
theorem d37_4 : decode (ai_b 37) 4 = .ok (.iconst 0, 1) := by decide +kernel
theorem d37_5 : decode (ai_b 37) 5 = .ok (.invokevirtual 27, 3) := by decide +kernel
theorem d37_8 : decode (ai_b 37) 8 = .ok (.aload_n 0, 1) := by decide +kernel
theorem d37_9 : decode (ai_b 37) 9 = .ok (.getfield 18, 3) := by decide +kernel
theorem d37_12 : decode (ai_b 37) 12 = .ok (.iconst 1, 1) := by decide +kernel
theorem d37_13 : decode (ai_b 37) 13 = .ok (.invokevirtual 27, 3) := by decide +kernel
theorem d37_16 : decode (ai_b 37) 16 = .ok (.return_, 1) := by decide +kernel
theorem d38_0 : decode (ai_b 38) 0 = .ok (.aload_n 0, 1) := by decide +kernel
theorem d38_1 : decode (ai_b 38) 1 = .ok (.getfield 12, 3) := by decide +kernel
theorem d38_4 : decode (ai_b 38) 4 = .ok (.aload_n 1, 1) := by decide +kernel
theorem d38_5 : decode (ai_b 38) 5 = .ok (.invokevirtual 30, 3) := by decide +kernel
theorem d38_8 : decode (ai_b 38) 8 = .ok (.aload_n 0, 1) := by decide +kernel
theorem d38_9 : decode (ai_b 38) 9 = .ok (.getfield 18, 3) := by decide +kernel
theorem d38_12 : decode (ai_b 38) 12 = .ok (.aload_n 2, 1) := by decide +kernel
theorem d38_13 : decode (ai_b 38) 13 = .ok (.invokevirtual 30, 3) := by decide +kernel
theorem d38_16 : decode (ai_b 38) 16 = .ok (.return_, 1) := by decide +kernel
theorem d39_0 : decode (ai_b 39) 0 = .ok (.aload_n 0, 1) := by decide +kernel
theorem d39_1 : decode (ai_b 39) 1 = .ok (.getfield 21, 3) := by decide +kernel
theorem d39_4 : decode (ai_b 39) 4 = .ok (.aload_n 0, 1) := by decide +kernel
theorem d39_5 : decode (ai_b 39) 5 = .ok (.getfield 12, 3) := by decide +kernel
theorem d39_8 : decode (ai_b 39) 8 = .ok (.aload_n 2, 1) := by decide +kernel
theorem d39_9 : decode (ai_b 39) 9 = .ok (.invokevirtual 33, 3) := by decide +kernel
theorem d39_12 : decode (ai_b 39) 12 = .ok (.aload_n 0, 1) := by decide +kernel
theorem d39_13 : decode (ai_b 39) 13 = .ok (.getfield 24, 3) := by decide +kernel
theorem d39_16 : decode (ai_b 39) 16 = .ok (.aload_n 1, 1) := by decide +kernel
theorem d39_17 : decode (ai_b 39) 17 = .ok (.aload_n 0, 1) := by decide +kernel
theorem d39_18 : decode (ai_b 39) 18 = .ok (.getfield 18, 3) := by decide +kernel
theorem d39_21 : decode (ai_b 39) 21 = .ok (.invokevirtual 33, 3) := by decide +kernel
theorem d39_24 : decode (ai_b 39) 24 = .ok (.aload_n 0, 1) := by decide +kernel
theorem d39_25 : decode (ai_b 39) 25 = .ok (.getfield 21, 3) := by decide +kernel
theorem d39_28 : decode (ai_b 39) 28 = .ok (.aload_n 0, 1) := by decide +kernel
theorem d39_29 : decode (ai_b 39) 29 = .ok (.getfield 24, 3) := by decide +kernel
theorem d39_32 : decode (ai_b 39) 32 = .ok (.invokevirtual 37, 3) := by decide +kernel
theorem d39_35 : decode (ai_b 39) 35 = .ok (.aload_n 0, 1) := by decide +kernel
theorem d39_36 : decode (ai_b 39) 36 = .ok (.getfield 12, 3) := by decide +kernel
theorem d39_39 : decode (ai_b 39) 39 = .ok (.aload_n 0, 1) := by decide +kernel
theorem d39_40 : decode (ai_b 39) 40 = .ok (.getfield 21, 3) := by decide +kernel
theorem d39_43 : decode (ai_b 39) 43 = .ok (.invokevirtual 30, 3) := by decide +kernel
theorem d39_46 : decode (ai_b 39) 46 = .ok (.aload_n 0, 1) := by decide +kernel
theorem d39_47 : decode (ai_b 39) 47 = .ok (.getfield 21, 3) := by decide +kernel
theorem d39_50 : decode (ai_b 39) 50 = .ok (.aload_n 0, 1) := by decide +kernel
theorem d39_51 : decode (ai_b 39) 51 = .ok (.getfield 18, 3) := by decide +kernel
theorem d39_54 : decode (ai_b 39) 54 = .ok (.aload_n 2, 1) := by decide +kernel
theorem d39_55 : decode (ai_b 39) 55 = .ok (.invokevirtual 33, 3) := by decide +kernel
theorem d39_58 : decode (ai_b 39) 58 = .ok (.aload_n 0, 1) := by decide +kernel
theorem d39_59 : decode (ai_b 39) 59 = .ok (.getfield 18, 3) := by decide +kernel
theorem d39_62 : decode (ai_b 39) 62 = .ok (.aload_n 0, 1) := by decide +kernel
theorem d39_63 : decode (ai_b 39) 63 = .ok (.getfield 21, 3) := by decide +kernel
theorem d39_66 : decode (ai_b 39) 66 = .ok (.invokevirtual 30, 3) := by decide +kernel
theorem d39_69 : decode (ai_b 39) 69 = .ok (.return_, 1) := by decide +kernel
theorem d40_0 : decode (ai_b 40) 0 = .ok (.aload_n 0, 1) := by decide +kernel
theorem d40_1 : decode (ai_b 40) 1 = .ok (.getfield 21, 3) := by decide +kernel
theorem d40_4 : decode (ai_b 40) 4 = .ok (.aload_n 0, 1) := by decide +kernel
theorem d40_5 : decode (ai_b 40) 5 = .ok (.getfield 12, 3) := by decide +kernel
theorem d40_8 : decode (ai_b 40) 8 = .ok (.aload_n 1, 1) := by decide +kernel
theorem d40_9 : decode (ai_b 40) 9 = .ok (.getfield 18, 3) := by decide +kernel
theorem d40_12 : decode (ai_b 40) 12 = .ok (.invokevirtual 33, 3) := by decide +kernel
theorem d40_15 : decode (ai_b 40) 15 = .ok (.aload_n 0, 1) := by decide +kernel
theorem d40_16 : decode (ai_b 40) 16 = .ok (.getfield 24, 3) := by decide +kernel
theorem d40_19 : decode (ai_b 40) 19 = .ok (.aload_n 1, 1) := by decide +kernel
theorem d40_20 : decode (ai_b 40) 20 = .ok (.getfield 12, 3) := by decide +kernel
theorem d40_23 : decode (ai_b 40) 23 = .ok (.aload_n 0, 1) := by decide +kernel
theorem d40_24 : decode (ai_b 40) 24 = .ok (.getfield 18, 3) := by decide +kernel
theorem d40_27 : decode (ai_b 40) 27 = .ok (.invokevirtual 33, 3) := by decide +kernel
theorem d40_30 : decode (ai_b 40) 30 = .ok (.aload_n 0, 1) := by decide +kernel
theorem d40_31 : decode (ai_b 40) 31 = .ok (.getfield 21, 3) := by decide +kernel
theorem d40_34 : decode (ai_b 40) 34 = .ok (.aload_n 0, 1) := by decide +kernel
theorem d40_35 : decode (ai_b 40) 35 = .ok (.getfield 24, 3) := by decide +kernel
theorem d40_38 : decode (ai_b 40) 38 = .ok (.invokevirtual 40, 3) := by decide +kernel
theorem d40_41 : decode (ai_b 40) 41 = .ok (.ireturn, 1) := by decide +kernel
theorem d41_0 : decode (ai_b 41) 0 = .ok (.aload_n 0, 1) := by decide +kernel
theorem d41_1 : decode (ai_b 41) 1 = .ok (.getfield 21, 3) := by decide +kernel
theorem d41_4 : decode (ai_b 41) 4 = .ok (.aload_n 0, 1) := by decide +kernel
theorem d41_5 : decode (ai_b 41) 5 = .ok (.getfield 12, 3) := by decide +kernel
theorem d41_8 : decode (ai_b 41) 8 = .ok (.invokevirtual 30, 3) := by decide +kernel
theorem d41_11 : decode (ai_b 41) 11 = .ok (.aload_n 0, 1) := by decide +kernel
theorem d41_12 : decode (ai_b 41) 12 = .ok (.getfield 21, 3) := by decide +kernel
theorem d41_15 : decode (ai_b 41) 15 = .ok (.iload_n 1, 1) := by decide +kernel
theorem d41_16 : decode (ai_b 41) 16 = .ok (.invokevirtual 44, 3) := by decide +kernel
theorem d41_19 : decode (ai_b 41) 19 = .ok (.iconst 0, 1) := by decide +kernel
theorem d41_20 : decode (ai_b 41) 20 = .ok (.istore_n 2, 1) := by decide +kernel
theorem d41_21 : decode (ai_b 41) 21 = .ok (.bipush 19, 2) := by decide +kernel
theorem d41_23 : decode (ai_b 41) 23 = .ok (.istore_n 3, 1) := by decide +kernel
theorem d41_24 : decode (ai_b 41) 24 = .ok (.iload_n 3, 1) := by decide +kernel
theorem d41_25 : decode (ai_b 41) 25 = .ok (.ifCond .lt 53, 3) := by decide +kernel
theorem d41_28 : decode (ai_b 41) 28 = .ok (.iload_n 2, 1) := by decide +kernel
theorem d41_29 : decode (ai_b 41) 29 = .ok (.iconst 1, 1) := by decide +kernel
theorem d41_30 : decode (ai_b 41) 30 = .ok (.iload_n 3, 1) := by decide +kernel
theorem d41_31 : decode (ai_b 41) 31 = .ok (.ishl, 1) := by decide +kernel
theorem d41_32 : decode (ai_b 41) 32 = .ok (.iadd, 1) := by decide +kernel
theorem d41_33 : decode (ai_b 41) 33 = .ok (.istore 4, 2) := by decide +kernel
theorem d41_35 : decode (ai_b 41) 35 = .ok (.aload_n 0, 1) := by decide +kernel
theorem d41_36 : decode (ai_b 41) 36 = .ok (.getfield 24, 3) := by decide +kernel
theorem d41_39 : decode (ai_b 41) 39 = .ok (.aload_n 0, 1) := by decide +kernel
theorem d41_40 : decode (ai_b 41) 40 = .ok (.getfield 18, 3) := by decide +kernel
theorem d41_43 : decode (ai_b 41) 43 = .ok (.invokevirtual 30, 3) := by decide +kernel
theorem d41_46 : decode (ai_b 41) 46 = .ok (.aload_n 0, 1) := by decide +kernel
theorem d41_47 : decode (ai_b 41) 47 = .ok (.getfield 24, 3) := by decide +kernel
theorem d41_50 : decode (ai_b 41) 50 = .ok (.iload 4, 2) := by decide +kernel
theorem d41_52 : decode (ai_b 41) 52 = .ok (.invokevirtual 44, 3) := by decide +kernel
theorem d41_55 : decode (ai_b 41) 55 = .ok (.aload_n 0, 1) := by decide +kernel
theorem d41_56 : decode (ai_b 41) 56 = .ok (.getfield 24, 3) := by decide +kernel
theorem d41_59 : decode (ai_b 41) 59 = .ok (.aload_n 0, 1) := by decide +kernel
theorem d41_60 : decode (ai_b 41) 60 = .ok (.getfield 21, 3) := by decide +kernel
theorem d41_63 : decode (ai_b 41) 63 = .ok (.invokevirtual 40, 3) := by decide +kernel
theorem d41_66 : decode (ai_b 41) 66 = .ok (.ifCond .ne 6, 3) := by decide +kernel
theorem d41_69 : decode (ai_b 41) 69 = .ok (.iload 4, 2) := by decide +kernel
theorem d41_71 : decode (ai_b 41) 71 = .ok (.istore_n 2, 1) := by decide +kernel
theorem d41_72 : decode (ai_b 41) 72 = .ok (.iinc 3 (-1), 3) := by decide +kernel
theorem d41_75 : decode (ai_b 41) 75 = .ok (.goto (-51), 3) := by decide +kernel
theorem d41_78 : decode (ai_b 41) 78 = .ok (.iload_n 2, 1) := by decide +kernel
theorem d41_79 : decode (ai_b 41) 79 = .ok (.ireturn, 1) := by decide +kernel
theorem d42_0 : decode (ai_b 42) 0 = .ok (.aload_n 0, 1) := by decide +kernel
theorem d42_1 : decode (ai_b 42) 1 = .ok (.invokespecial 3, 3) := by decide +kernel
theorem d42_4 : decode (ai_b 42) 4 = .ok (.aload_n 0, 1) := by decide +kernel
theorem d42_5 : decode (ai_b 42) 5 = .ok (.iconst 0, 1) := by decide +kernel
theorem d42_6 : decode (ai_b 42) 6 = .ok (.putfield 9, 3) := by decide +kernel
theorem d42_9 : decode (ai_b 42) 9 = .ok (.aload_n 0, 1) := by decide +kernel
theorem d42_10 : decode (ai_b 42) 10 = .ok (.iconst (-1), 1) := by decide +kernel
theorem d42_11 : decode (ai_b 42) 11 = .ok (.putfield 15, 3) := by decide +kernel
theorem d42_14 : decode (ai_b 42) 14 = .ok (.aload_n 0, 1) := by decide +kernel
theorem d42_15 : decode (ai_b 42) 15 = .ok (.iconst 0, 1) := by decide +kernel
theorem d42_16 : decode (ai_b 42) 16 = .ok (.putfield 19, 3) := by decide +kernel
theorem d42_19 : decode (ai_b 42) 19 = .ok (.aload_n 0, 1) := by decide +kernel
theorem d42_20 : decode (ai_b 42) 20 = .ok (.iconst 0, 1) := by decide +kernel
theorem d42_21 : decode (ai_b 42) 21 = .ok (.putfield 22, 3) := by decide +kernel
theorem d42_24 : decode (ai_b 42) 24 = .ok (.aload_n 0, 1) := by decide +kernel
theorem d42_25 : decode (ai_b 42) 25 = .ok (.bipush 100, 2) := by decide +kernel
theorem d42_27 : decode (ai_b 42) 27 = .ok (.newarray .long, 2) := by decide +kernel
theorem d42_29 : decode (ai_b 42) 29 = .ok (.putfield 25, 3) := by decide +kernel
theorem d42_32 : decode (ai_b 42) 32 = .ok (.return_, 1) := by decide +kernel
theorem d43_0 : decode (ai_b 43) 0 = .ok (.aload_n 0, 1) := by decide +kernel
theorem d43_1 : decode (ai_b 43) 1 = .ok (.iconst 0, 1) := by decide +kernel
theorem d43_2 : decode (ai_b 43) 2 = .ok (.putfield 9, 3) := by decide +kernel
theorem d43_5 : decode (ai_b 43) 5 = .ok (.aload_n 0, 1) := by decide +kernel
theorem d43_6 : decode (ai_b 43) 6 = .ok (.iconst (-1), 1) := by decide +kernel
theorem d43_7 : decode (ai_b 43) 7 = .ok (.putfield 15, 3) := by decide +kernel
theorem d43_10 : decode (ai_b 43) 10 = .ok (.return_, 1) := by decide +kernel
theorem d44_0 : decode (ai_b 44) 0 = .ok (.aload_n 0, 1) := by decide +kernel
theorem d44_1 : decode (ai_b 44) 1 = .ok (.iconst 0, 1) := by decide +kernel
theorem d44_2 : decode (ai_b 44) 2 = .ok (.putfield 9, 3) := by decide +kernel
theorem d44_5 : decode (ai_b 44) 5 = .ok (.aload_n 0, 1) := by decide +kernel
theorem d44_6 : decode (ai_b 44) 6 = .ok (.iload_n 1, 1) := by decide +kernel
theorem d44_7 : decode (ai_b 44) 7 = .ok (.putfield 15, 3) := by decide +kernel
theorem d44_10 : decode (ai_b 44) 10 = .ok (.return_, 1) := by decide +kernel
theorem d45_0 : decode (ai_b 45) 0 = .ok (.aload_n 0, 1) := by decide +kernel
theorem d45_1 : decode (ai_b 45) 1 = .ok (.iconst 1, 1) := by decide +kernel
theorem d45_2 : decode (ai_b 45) 2 = .ok (.putfield 9, 3) := by decide +kernel
theorem d45_5 : decode (ai_b 45) 5 = .ok (.aload_n 0, 1) := by decide +kernel
theorem d45_6 : decode (ai_b 45) 6 = .ok (.iconst (-1), 1) := by decide +kernel
theorem d45_7 : decode (ai_b 45) 7 = .ok (.putfield 15, 3) := by decide +kernel
theorem d45_10 : decode (ai_b 45) 10 = .ok (.aload_n 0, 1) := by decide +kernel
theorem d45_11 : decode (ai_b 45) 11 = .ok (.iload_n 1, 1) := by decide +kernel
theorem d45_12 : decode (ai_b 45) 12 = .ok (.putfield 19, 3) := by decide +kernel
theorem d45_15 : decode (ai_b 45) 15 = .ok (.aload_n 0, 1) := by decide +kernel
theorem d45_16 : decode (ai_b 45) 16 = .ok (.iload_n 2, 1) := by decide +kernel
theorem d45_17 : decode (ai_b 45) 17 = .ok (.aload_n 0, 1) := by decide +kernel
theorem d45_18 : decode (ai_b 45) 18 = .ok (.getfield 25, 3) := by decide +kernel
theorem d45_21 : decode (ai_b 45) 21 = .ok (.arraylength, 1) := by decide +kernel
theorem d45_22 : decode (ai_b 45) 22 = .ok (.invokestatic 29, 3) := by decide +kernel
theorem d45_25 : decode (ai_b 45) 25 = .ok (.putfield 22, 3) := by decide +kernel
theorem d45_28 : decode (ai_b 45) 28 = .ok (.iconst 0, 1) := by decide +kernel
theorem d45_29 : decode (ai_b 45) 29 = .ok (.istore_n 3, 1) := by decide +kernel
theorem d45_30 : decode (ai_b 45) 30 = .ok (.iload_n 3, 1) := by decide +kernel
theorem d45_31 : decode (ai_b 45) 31 = .ok (.aload_n 0, 1) := by decide +kernel
theorem d45_32 : decode (ai_b 45) 32 = .ok (.getfield 22, 3) := by decide +kernel
theorem d45_35 : decode (ai_b 45) 35 = .ok (.if_icmp .ge 16, 3) := by decide +kernel
theorem d45_38 : decode (ai_b 45) 38 = .ok (.aload_n 0, 1) := by decide +kernel
theorem d45_39 : decode (ai_b 45) 39 = .ok (.getfield 25, 3) := by decide +kernel
theorem d45_42 : decode (ai_b 45) 42 = .ok (.iload_n 3, 1) := by decide +kernel
theorem d45_43 : decode (ai_b 45) 43 = .ok (.lconst 0, 1) := by decide +kernel
theorem d45_44 : decode (ai_b 45) 44 = .ok (.lastore, 1) := by decide +kernel
theorem d45_45 : decode (ai_b 45) 45 = .ok (.iinc 3 1, 3) := by decide +kernel
theorem d45_48 : decode (ai_b 45) 48 = .ok (.goto (-18), 3) := by decide +kernel
theorem d45_51 : decode (ai_b 45) 51 = .ok (.return_, 1) := by decide +kernel
theorem d46_0 : decode (ai_b 46) 0 = .ok (.aload_n 0, 1) := by decide +kernel
theorem d46_1 : decode (ai_b 46) 1 = .ok (.getfield 9, 3) := by decide +kernel
theorem d46_4 : decode (ai_b 46) 4 = .ok (.ireturn, 1) := by decide +kernel
theorem d47_0 : decode (ai_b 47) 0 = .ok (.aload_n 0, 1) := by decide +kernel
theorem d47_1 : decode (ai_b 47) 1 = .ok (.getfield 15, 3) := by decide +kernel
theorem d47_4 : decode (ai_b 47) 4 = .ok (.iconst (-1), 1) := by decide +kernel
theorem d47_5 : decode (ai_b 47) 5 = .ok (.if_icmp .eq 7, 3) := by decide +kernel
theorem d47_8 : decode (ai_b 47) 8 = .ok (.iconst 1, 1) := by decide +kernel
theorem d47_9 : decode (ai_b 47) 9 = .ok (.goto 4, 3) := by decide +kernel
theorem d47_12 : decode (ai_b 47) 12 = .ok (.iconst 0, 1) := by decide +kernel
theorem d47_13 : decode (ai_b 47) 13 = .ok (.ireturn, 1) := by decide +kernel
theorem d48_0 : decode (ai_b 48) 0 = .ok (.iload_n 1, 1) := by decide +kernel
theorem d48_1 : decode (ai_b 48) 1 = .ok (.ifCond .lt 29, 3) := by decide +kernel
theorem d48_4 : decode (ai_b 48) 4 = .ok (.iload_n 2, 1) := by decide +kernel
theorem d48_5 : decode (ai_b 48) 5 = .ok (.ifCond .lt 25, 3) := by decide +kernel
theorem d48_8 : decode (ai_b 48) 8 = .ok (.iload_n 1, 1) := by decide +kernel
theorem d48_9 : decode (ai_b 48) 9 = .ok (.aload_n 0, 1) := by decide +kernel
theorem d48_10 : decode (ai_b 48) 10 = .ok (.getfield 22, 3) := by decide +kernel
theorem d48_13 : decode (ai_b 48) 13 = .ok (.if_icmp .gt 17, 3) := by decide +kernel
theorem d48_16 : decode (ai_b 48) 16 = .ok (.iload_n 2, 1) := by decide +kernel
theorem d48_17 : decode (ai_b 48) 17 = .ok (.aload_n 0, 1) := by decide +kernel
theorem d48_18 : decode (ai_b 48) 18 = .ok (.getfield 22, 3) := by decide +kernel
theorem d48_21 : decode (ai_b 48) 21 = .ok (.iload_n 1, 1) := by decide +kernel
theorem d48_22 : decode (ai_b 48) 22 = .ok (.isub, 1) := by decide +kernel
theorem d48_23 : decode (ai_b 48) 23 = .ok (.if_icmp .gt 7, 3) := by decide +kernel
theorem d48_26 : decode (ai_b 48) 26 = .ok (.iconst 1, 1) := by decide +kernel
theorem d48_27 : decode (ai_b 48) 27 = .ok (.goto 4, 3) := by decide +kernel
theorem d48_30 : decode (ai_b 48) 30 = .ok (.iconst 0, 1) := by decide +kernel
theorem d48_31 : decode (ai_b 48) 31 = .ok (.ireturn, 1) := by decide +kernel
theorem d49_0 : decode (ai_b 49) 0 = .ok (.aload_n 0, 1) := by decide +kernel
theorem d49_1 : decode (ai_b 49) 1 = .ok (.getfield 19, 3) := by decide +kernel
theorem d49_4 : decode (ai_b 49) 4 = .ok (.tableswitch 66 0 2 #[28, 41, 54], 28) := by decide +kernel
theorem d49_32 : decode (ai_b 49) 32 = .ok (.aload_n 0, 1) := by decide +kernel
theorem d49_33 : decode (ai_b 49) 33 = .ok (.getfield 25, 3) := by decide +kernel
theorem d49_36 : decode (ai_b 49) 36 = .ok (.iload_n 1, 1) := by decide +kernel
theorem d49_37 : decode (ai_b 49) 37 = .ok (.lload_n 2, 1) := by decide +kernel
theorem d49_38 : decode (ai_b 49) 38 = .ok (.l2i, 1) := by decide +kernel
theorem d49_39 : decode (ai_b 49) 39 = .ok (.i2b, 1) := by decide +kernel
theorem d49_40 : decode (ai_b 49) 40 = .ok (.i2l, 1) := by decide +kernel
theorem d49_41 : decode (ai_b 49) 41 = .ok (.lastore, 1) := by decide +kernel
theorem d49_42 : decode (ai_b 49) 42 = .ok (.goto 35, 3) := by decide +kernel
theorem d49_45 : decode (ai_b 49) 45 = .ok (.aload_n 0, 1) := by decide +kernel
theorem d49_46 : decode (ai_b 49) 46 = .ok (.getfield 25, 3) := by decide +kernel
theorem d49_49 : decode (ai_b 49) 49 = .ok (.iload_n 1, 1) := by decide +kernel
theorem d49_50 : decode (ai_b 49) 50 = .ok (.lload_n 2, 1) := by decide +kernel
theorem d49_51 : decode (ai_b 49) 51 = .ok (.l2i, 1) := by decide +kernel
theorem d49_52 : decode (ai_b 49) 52 = .ok (.i2s, 1) := by decide +kernel
theorem d49_53 : decode (ai_b 49) 53 = .ok (.i2l, 1) := by decide +kernel
theorem d49_54 : decode (ai_b 49) 54 = .ok (.lastore, 1) := by decide +kernel
theorem d49_55 : decode (ai_b 49) 55 = .ok (.goto 22, 3) := by decide +kernel
theorem d49_58 : decode (ai_b 49) 58 = .ok (.aload_n 0, 1) := by decide +kernel
theorem d49_59 : decode (ai_b 49) 59 = .ok (.getfield 25, 3) := by decide +kernel
theorem d49_62 : decode (ai_b 49) 62 = .ok (.iload_n 1, 1) := by decide +kernel
theorem d49_63 : decode (ai_b 49) 63 = .ok (.lload_n 2, 1) := by decide +kernel
theorem d49_64 : decode (ai_b 49) 64 = .ok (.l2i, 1) := by decide +kernel
theorem d49_65 : decode (ai_b 49) 65 = .ok (.i2l, 1) := by decide +kernel
theorem d49_66 : decode (ai_b 49) 66 = .ok (.lastore, 1) := by decide +kernel
theorem d49_67 : decode (ai_b 49) 67 = .ok (.goto 10, 3) := by decide +kernel
theorem d49_70 : decode (ai_b 49) 70 = .ok (.aload_n 0, 1) := by decide +kernel
theorem d49_71 : decode (ai_b 49) 71 = .ok (.getfield 25, 3) := by decide +kernel
theorem d49_74 : decode (ai_b 49) 74 = .ok (.iload_n 1, 1) := by decide +kernel
theorem d49_75 : decode (ai_b 49) 75 = .ok (.lload_n 2, 1) := by decide +kernel
theorem d49_76 : decode (ai_b 49) 76 = .ok (.lastore, 1) := by decide +kernel
theorem d49_77 : decode (ai_b 49) 77 = .ok (.return_, 1) := by decide +kernel
theorem d50_0 : decode (ai_b 50) 0 = .ok (.aload_n 0, 1) := by decide +kernel
theorem d50_1 : decode (ai_b 50) 1 = .ok (.invokespecial 3, 3) := by decide +kernel
theorem d50_4 : decode (ai_b 50) 4 = .ok (.aload_n 0, 1) := by decide +kernel
theorem d50_5 : decode (ai_b 50) 5 = .ok (.iconst 5, 1) := by decide +kernel
theorem d50_6 : decode (ai_b 50) 6 = .ok (.newarray .boolean, 2) := by decide +kernel
theorem d50_8 : decode (ai_b 50) 8 = .ok (.putfield 9, 3) := by decide +kernel
theorem d50_11 : decode (ai_b 50) 11 = .ok (.aload_n 0, 1) := by decide +kernel
theorem d50_12 : decode (ai_b 50) 12 = .ok (.iconst 5, 1) := by decide +kernel
theorem d50_13 : decode (ai_b 50) 13 = .ok (.newarray .boolean, 2) := by decide +kernel
theorem d50_15 : decode (ai_b 50) 15 = .ok (.putfield 15, 3) := by decide +kernel
theorem d50_18 : decode (ai_b 50) 18 = .ok (.aload_n 0, 1) := by decide +kernel
theorem d50_19 : decode (ai_b 50) 19 = .ok (.iconst 5, 1) := by decide +kernel
theorem d50_20 : decode (ai_b 50) 20 = .ok (.newarray .int, 2) := by decide +kernel
theorem d50_22 : decode (ai_b 50) 22 = .ok (.putfield 18, 3) := by decide +kernel
theorem d50_25 : decode (ai_b 50) 25 = .ok (.return_, 1) := by decide +kernel
theorem d51_0 : decode (ai_b 51) 0 = .ok (.iload_n 1, 1) := by decide +kernel
theorem d51_1 : decode (ai_b 51) 1 = .ok (.ifCond .lt 40, 3) := by decide +kernel
theorem d51_4 : decode (ai_b 51) 4 = .ok (.iload_n 1, 1) := by decide +kernel
theorem d51_5 : decode (ai_b 51) 5 = .ok (.iconst 5, 1) := by decide +kernel
theorem d51_6 : decode (ai_b 51) 6 = .ok (.if_icmp .ge 35, 3) := by decide +kernel
theorem d51_9 : decode (ai_b 51) 9 = .ok (.aload_n 0, 1) := by decide +kernel
theorem d51_10 : decode (ai_b 51) 10 = .ok (.getfield 9, 3) := by decide +kernel
theorem d51_13 : decode (ai_b 51) 13 = .ok (.iload_n 1, 1) := by decide +kernel
theorem d51_14 : decode (ai_b 51) 14 = .ok (.baload, 1) := by decide +kernel
theorem d51_15 : decode (ai_b 51) 15 = .ok (.ifCond .eq 26, 3) := by decide +kernel
theorem d51_18 : decode (ai_b 51) 18 = .ok (.aload_n 0, 1) := by decide +kernel
theorem d51_19 : decode (ai_b 51) 19 = .ok (.getfield 15, 3) := by decide +kernel
theorem d51_22 : decode (ai_b 51) 22 = .ok (.iload_n 1, 1) := by decide +kernel
theorem d51_23 : decode (ai_b 51) 23 = .ok (.baload, 1) := by decide +kernel
theorem d51_24 : decode (ai_b 51) 24 = .ok (.ifCond .eq 17, 3) := by decide +kernel
theorem d51_27 : decode (ai_b 51) 27 = .ok (.aload_n 0, 1) := by decide +kernel
theorem d51_28 : decode (ai_b 51) 28 = .ok (.getfield 18, 3) := by decide +kernel
theorem d51_31 : decode (ai_b 51) 31 = .ok (.iload_n 1, 1) := by decide +kernel
theorem d51_32 : decode (ai_b 51) 32 = .ok (.iaload, 1) := by decide +kernel
theorem d51_33 : decode (ai_b 51) 33 = .ok (.iload_n 2, 1) := by decide +kernel
theorem d51_34 : decode (ai_b 51) 34 = .ok (.if_icmp .ne 7, 3) := by decide +kernel
theorem d51_37 : decode (ai_b 51) 37 = .ok (.iconst 1, 1) := by decide +kernel
theorem d51_38 : decode (ai_b 51) 38 = .ok (.goto 4, 3) := by decide +kernel
theorem d51_41 : decode (ai_b 51) 41 = .ok (.iconst 0, 1) := by decide +kernel
theorem d51_42 : decode (ai_b 51) 42 = .ok (.ireturn, 1) := by decide +kernel
theorem d52_0 : decode (ai_b 52) 0 = .ok (.aload_n 0, 1) := by decide +kernel
theorem d52_1 : decode (ai_b 52) 1 = .ok (.invokespecial 1, 3) := by decide +kernel
theorem d52_4 : decode (ai_b 52) 4 = .ok (.aload_n 0, 1) := by decide +kernel
theorem d52_5 : decode (ai_b 52) 5 = .ok (.bipush 8, 2) := by decide +kernel
theorem d52_7 : decode (ai_b 52) 7 = .ok (.anewarray 9, 3) := by decide +kernel
theorem d52_10 : decode (ai_b 52) 10 = .ok (.putfield 11, 3) := by decide +kernel
theorem d52_13 : decode (ai_b 52) 13 = .ok (.aload_n 0, 1) := by decide +kernel
theorem d52_14 : decode (ai_b 52) 14 = .ok (.iconst 5, 1) := by decide +kernel
theorem d52_15 : decode (ai_b 52) 15 = .ok (.anewarray 15, 3) := by decide +kernel
theorem d52_18 : decode (ai_b 52) 18 = .ok (.putfield 17, 3) := by decide +kernel
theorem d52_21 : decode (ai_b 52) 21 = .ok (.aload_n 0, 1) := by decide +kernel
theorem d52_22 : decode (ai_b 52) 22 = .ok (.bipush 24, 2) := by decide +kernel
theorem d52_24 : decode (ai_b 52) 24 = .ok (.anewarray 21, 3) := by decide +kernel
theorem d52_27 : decode (ai_b 52) 27 = .ok (.putfield 23, 3) := by decide +kernel
theorem d52_30 : decode (ai_b 52) 30 = .ok (.aload_n 0, 1) := by decide +kernel
theorem d52_31 : decode (ai_b 52) 31 = .ok (.sipush 200, 3) := by decide +kernel
theorem d52_34 : decode (ai_b 52) 34 = .ok (.anewarray 27, 3) := by decide +kernel
theorem d52_37 : decode (ai_b 52) 37 = .ok (.putfield 29, 3) := by decide +kernel
theorem d52_40 : decode (ai_b 52) 40 = .ok (.aload_n 0, 1) := by decide +kernel
theorem d52_41 : decode (ai_b 52) 41 = .ok (.iconst 0, 1) := by decide +kernel
theorem d52_42 : decode (ai_b 52) 42 = .ok (.putfield 33, 3) := by decide +kernel
theorem d52_45 : decode (ai_b 52) 45 = .ok (.aload_n 0, 1) := by decide +kernel
theorem d52_46 : decode (ai_b 52) 46 = .ok (.iconst 0, 1) := by decide +kernel
theorem d52_47 : decode (ai_b 52) 47 = .ok (.putfield 37, 3) := by decide +kernel
theorem d52_50 : decode (ai_b 52) 50 = .ok (.aload_n 0, 1) := by decide +kernel
theorem d52_51 : decode (ai_b 52) 51 = .ok (.iconst 0, 1) := by decide +kernel
theorem d52_52 : decode (ai_b 52) 52 = .ok (.putfield 40, 3) := by decide +kernel
theorem d52_55 : decode (ai_b 52) 55 = .ok (.aload_n 0, 1) := by decide +kernel
theorem d52_56 : decode (ai_b 52) 56 = .ok (.sipush 950, 3) := by decide +kernel
theorem d52_59 : decode (ai_b 52) 59 = .ok (.putfield 43, 3) := by decide +kernel
theorem d52_62 : decode (ai_b 52) 62 = .ok (.aload_n 0, 1) := by decide +kernel
theorem d52_63 : decode (ai_b 52) 63 = .ok (.bipush 12, 2) := by decide +kernel
theorem d52_65 : decode (ai_b 52) 65 = .ok (.putfield 46, 3) := by decide +kernel
theorem d52_68 : decode (ai_b 52) 68 = .ok (.aload_n 0, 1) := by decide +kernel
theorem d52_69 : decode (ai_b 52) 69 = .ok (.iconst 3, 1) := by decide +kernel
theorem d52_70 : decode (ai_b 52) 70 = .ok (.putfield 49, 3) := by decide +kernel
theorem d52_73 : decode (ai_b 52) 73 = .ok (.aload_n 0, 1) := by decide +kernel
theorem d52_74 : decode (ai_b 52) 74 = .ok (.bipush 30, 2) := by decide +kernel
theorem d52_76 : decode (ai_b 52) 76 = .ok (.newarray .int, 2) := by decide +kernel
theorem d52_78 : decode (ai_b 52) 78 = .ok (.putfield 52, 3) := by decide +kernel
theorem d52_81 : decode (ai_b 52) 81 = .ok (.aload_n 0, 1) := by decide +kernel
theorem d52_82 : decode (ai_b 52) 82 = .ok (.iconst 0, 1) := by decide +kernel
theorem d52_83 : decode (ai_b 52) 83 = .ok (.putfield 56, 3) := by decide +kernel
theorem d52_86 : decode (ai_b 52) 86 = .ok (.aload_n 0, 1) := by decide +kernel
theorem d52_87 : decode (ai_b 52) 87 = .ok (.bipush 7, 2) := by decide +kernel
theorem d52_89 : decode (ai_b 52) 89 = .ok (.newarray .int, 2) := by decide +kernel
theorem d52_91 : decode (ai_b 52) 91 = .ok (.putfield 59, 3) := by decide +kernel
theorem d52_94 : decode (ai_b 52) 94 = .ok (.aload_n 0, 1) := by decide +kernel
theorem d52_95 : decode (ai_b 52) 95 = .ok (.new 62, 3) := by decide +kernel
theorem d52_98 : decode (ai_b 52) 98 = .ok (.dup, 1) := by decide +kernel
theorem d52_99 : decode (ai_b 52) 99 = .ok (.invokespecial 64, 3) := by decide +kernel
theorem d52_102 : decode (ai_b 52) 102 = .ok (.putfield 65, 3) := by decide +kernel
theorem d52_105 : decode (ai_b 52) 105 = .ok (.aload_n 0, 1) := by decide +kernel
theorem d52_106 : decode (ai_b 52) 106 = .ok (.new 69, 3) := by decide +kernel
theorem d52_109 : decode (ai_b 52) 109 = .ok (.dup, 1) := by decide +kernel
theorem d52_110 : decode (ai_b 52) 110 = .ok (.invokespecial 71, 3) := by decide +kernel
theorem d52_113 : decode (ai_b 52) 113 = .ok (.putfield 72, 3) := by decide +kernel
theorem d52_116 : decode (ai_b 52) 116 = .ok (.aload_n 0, 1) := by decide +kernel
theorem d52_117 : decode (ai_b 52) 117 = .ok (.new 76, 3) := by decide +kernel
theorem d52_120 : decode (ai_b 52) 120 = .ok (.dup, 1) := by decide +kernel
theorem d52_121 : decode (ai_b 52) 121 = .ok (.bipush 32, 2) := by decide +kernel
theorem d52_123 : decode (ai_b 52) 123 = .ok (.invokespecial 78, 3) := by decide +kernel
theorem d52_126 : decode (ai_b 52) 126 = .ok (.putfield 81, 3) := by decide +kernel
theorem d52_129 : decode (ai_b 52) 129 = .ok (.aload_n 0, 1) := by decide +kernel
theorem d52_130 : decode (ai_b 52) 130 = .ok (.new 76, 3) := by decide +kernel
theorem d52_133 : decode (ai_b 52) 133 = .ok (.dup, 1) := by decide +kernel
theorem d52_134 : decode (ai_b 52) 134 = .ok (.bipush 32, 2) := by decide +kernel
theorem d52_136 : decode (ai_b 52) 136 = .ok (.invokespecial 78, 3) := by decide +kernel
theorem d52_139 : decode (ai_b 52) 139 = .ok (.putfield 85, 3) := by decide +kernel
theorem d52_142 : decode (ai_b 52) 142 = .ok (.aload_n 0, 1) := by decide +kernel
theorem d52_143 : decode (ai_b 52) 143 = .ok (.new 76, 3) := by decide +kernel
theorem d52_146 : decode (ai_b 52) 146 = .ok (.dup, 1) := by decide +kernel
theorem d52_147 : decode (ai_b 52) 147 = .ok (.sipush 500, 3) := by decide +kernel
theorem d52_150 : decode (ai_b 52) 150 = .ok (.invokespecial 78, 3) := by decide +kernel
theorem d52_153 : decode (ai_b 52) 153 = .ok (.putfield 88, 3) := by decide +kernel
theorem d52_156 : decode (ai_b 52) 156 = .ok (.iconst 0, 1) := by decide +kernel
theorem d52_157 : decode (ai_b 52) 157 = .ok (.istore_n 1, 1) := by decide +kernel
theorem d52_158 : decode (ai_b 52) 158 = .ok (.iload_n 1, 1) := by decide +kernel
theorem d52_159 : decode (ai_b 52) 159 = .ok (.bipush 8, 2) := by decide +kernel
theorem d52_161 : decode (ai_b 52) 161 = .ok (.if_icmp .ge 22, 3) := by decide +kernel
theorem d52_164 : decode (ai_b 52) 164 = .ok (.aload_n 0, 1) := by decide +kernel
theorem d52_165 : decode (ai_b 52) 165 = .ok (.getfield 11, 3) := by decide +kernel
theorem d52_168 : decode (ai_b 52) 168 = .ok (.iload_n 1, 1) := by decide +kernel
theorem d52_169 : decode (ai_b 52) 169 = .ok (.new 9, 3) := by decide +kernel
theorem d52_172 : decode (ai_b 52) 172 = .ok (.dup, 1) := by decide +kernel
theorem d52_173 : decode (ai_b 52) 173 = .ok (.invokespecial 91, 3) := by decide +kernel
theorem d52_176 : decode (ai_b 52) 176 = .ok (.aastore, 1) := by decide +kernel
theorem d52_177 : decode (ai_b 52) 177 = .ok (.iinc 1 1, 3) := by decide +kernel
theorem d52_180 : decode (ai_b 52) 180 = .ok (.goto (-22), 3) := by decide +kernel
theorem d52_183 : decode (ai_b 52) 183 = .ok (.iconst 0, 1) := by decide +kernel
theorem d52_184 : decode (ai_b 52) 184 = .ok (.istore_n 1, 1) := by decide +kernel
theorem d52_185 : decode (ai_b 52) 185 = .ok (.iload_n 1, 1) := by decide +kernel
theorem d52_186 : decode (ai_b 52) 186 = .ok (.iconst 5, 1) := by decide +kernel
theorem d52_187 : decode (ai_b 52) 187 = .ok (.if_icmp .ge 22, 3) := by decide +kernel
theorem d52_190 : decode (ai_b 52) 190 = .ok (.aload_n 0, 1) := by decide +kernel
theorem d52_191 : decode (ai_b 52) 191 = .ok (.getfield 17, 3) := by decide +kernel
theorem d52_194 : decode (ai_b 52) 194 = .ok (.iload_n 1, 1) := by decide +kernel
theorem d52_195 : decode (ai_b 52) 195 = .ok (.new 15, 3) := by decide +kernel
theorem d52_198 : decode (ai_b 52) 198 = .ok (.dup, 1) := by decide +kernel
theorem d52_199 : decode (ai_b 52) 199 = .ok (.invokespecial 92, 3) := by decide +kernel
theorem d52_202 : decode (ai_b 52) 202 = .ok (.aastore, 1) := by decide +kernel
theorem d52_203 : decode (ai_b 52) 203 = .ok (.iinc 1 1, 3) := by decide +kernel
theorem d52_206 : decode (ai_b 52) 206 = .ok (.goto (-21), 3) := by decide +kernel
theorem d52_209 : decode (ai_b 52) 209 = .ok (.iconst 0, 1) := by decide +kernel
theorem d52_210 : decode (ai_b 52) 210 = .ok (.istore_n 1, 1) := by decide +kernel
theorem d52_211 : decode (ai_b 52) 211 = .ok (.iload_n 1, 1) := by decide +kernel
theorem d52_212 : decode (ai_b 52) 212 = .ok (.bipush 24, 2) := by decide +kernel
theorem d52_214 : decode (ai_b 52) 214 = .ok (.if_icmp .ge 22, 3) := by decide +kernel
theorem d52_217 : decode (ai_b 52) 217 = .ok (.aload_n 0, 1) := by decide +kernel
theorem d52_218 : decode (ai_b 52) 218 = .ok (.getfield 23, 3) := by decide +kernel
theorem d52_221 : decode (ai_b 52) 221 = .ok (.iload_n 1, 1) := by decide +kernel
theorem d52_222 : decode (ai_b 52) 222 = .ok (.new 21, 3) := by decide +kernel
theorem d52_225 : decode (ai_b 52) 225 = .ok (.dup, 1) := by decide +kernel
theorem d52_226 : decode (ai_b 52) 226 = .ok (.invokespecial 93, 3) := by decide +kernel
theorem d52_229 : decode (ai_b 52) 229 = .ok (.aastore, 1) := by decide +kernel
theorem d52_230 : decode (ai_b 52) 230 = .ok (.iinc 1 1, 3) := by decide +kernel
theorem d52_233 : decode (ai_b 52) 233 = .ok (.goto (-22), 3) := by decide +kernel
theorem d52_236 : decode (ai_b 52) 236 = .ok (.iconst 0, 1) := by decide +kernel
theorem d52_237 : decode (ai_b 52) 237 = .ok (.istore_n 1, 1) := by decide +kernel
theorem d52_238 : decode (ai_b 52) 238 = .ok (.iload_n 1, 1) := by decide +kernel
theorem d52_239 : decode (ai_b 52) 239 = .ok (.sipush 200, 3) := by decide +kernel
theorem d52_242 : decode (ai_b 52) 242 = .ok (.if_icmp .ge 22, 3) := by decide +kernel
theorem d52_245 : decode (ai_b 52) 245 = .ok (.aload_n 0, 1) := by decide +kernel
theorem d52_246 : decode (ai_b 52) 246 = .ok (.getfield 29, 3) := by decide +kernel
theorem d52_249 : decode (ai_b 52) 249 = .ok (.iload_n 1, 1) := by decide +kernel
theorem d52_250 : decode (ai_b 52) 250 = .ok (.new 27, 3) := by decide +kernel
theorem d52_253 : decode (ai_b 52) 253 = .ok (.dup, 1) := by decide +kernel
theorem d52_254 : decode (ai_b 52) 254 = .ok (.invokespecial 94, 3) := by decide +kernel
theorem d52_257 : decode (ai_b 52) 257 = .ok (.aastore, 1) := by decide +kernel
theorem d52_258 : decode (ai_b 52) 258 = .ok (.iinc 1 1, 3) := by decide +kernel
theorem d52_261 : decode (ai_b 52) 261 = .ok (.goto (-23), 3) := by decide +kernel
theorem d52_264 : decode (ai_b 52) 264 = .ok (.return_, 1) := by decide +kernel
theorem d53_0 : decode (ai_b 53) 0 = .ok (.aload_n 0, 1) := by decide +kernel
theorem d53_1 : decode (ai_b 53) 1 = .ok (.iload_n 1, 1) := by decide +kernel
theorem d53_2 : decode (ai_b 53) 2 = .ok (.invokevirtual 95, 3) := by decide +kernel
theorem d53_5 : decode (ai_b 53) 5 = .ok (.ifCond .ne 9, 3) := by decide +kernel
theorem d53_8 : decode (ai_b 53) 8 = .ok (.aload_n 0, 1) := by decide +kernel
theorem d53_9 : decode (ai_b 53) 9 = .ok (.iconst (-1), 1) := by decide +kernel
theorem d53_10 : decode (ai_b 53) 10 = .ok (.invokevirtual 99, 3) := by decide +kernel
theorem d53_13 : decode (ai_b 53) 13 = .ok (.ireturn, 1) := by decide +kernel
theorem d53_14 : decode (ai_b 53) 14 = .ok (.iload_n 3, 1) := by decide +kernel
theorem d53_15 : decode (ai_b 53) 15 = .ok (.ifCond .ge 10, 3) := by decide +kernel
theorem d53_18 : decode (ai_b 53) 18 = .ok (.aload_n 0, 1) := by decide +kernel
theorem d53_19 : decode (ai_b 53) 19 = .ok (.bipush (-4), 2) := by decide +kernel
theorem d53_21 : decode (ai_b 53) 21 = .ok (.invokevirtual 99, 3) := by decide +kernel
theorem d53_24 : decode (ai_b 53) 24 = .ok (.ireturn, 1) := by decide +kernel
theorem d53_25 : decode (ai_b 53) 25 = .ok (.iload_n 2, 1) := by decide +kernel
theorem d53_26 : decode (ai_b 53) 26 = .ok (.ifCond .lt 8, 3) := by decide +kernel
theorem d53_29 : decode (ai_b 53) 29 = .ok (.iload_n 2, 1) := by decide +kernel
theorem d53_30 : decode (ai_b 53) 30 = .ok (.iconst 3, 1) := by decide +kernel
theorem d53_31 : decode (ai_b 53) 31 = .ok (.if_icmp .le 10, 3) := by decide +kernel
theorem d53_34 : decode (ai_b 53) 34 = .ok (.aload_n 0, 1) := by decide +kernel
theorem d53_35 : decode (ai_b 53) 35 = .ok (.bipush (-6), 2) := by decide +kernel
theorem d53_37 : decode (ai_b 53) 37 = .ok (.invokevirtual 99, 3) := by decide +kernel
theorem d53_40 : decode (ai_b 53) 40 = .ok (.ireturn, 1) := by decide +kernel
theorem d53_41 : decode (ai_b 53) 41 = .ok (.iload_n 3, 1) := by decide +kernel
theorem d53_42 : decode (ai_b 53) 42 = .ok (.bipush 100, 2) := by decide +kernel
theorem d53_44 : decode (ai_b 53) 44 = .ok (.if_icmp .le 10, 3) := by decide +kernel
theorem d53_47 : decode (ai_b 53) 47 = .ok (.aload_n 0, 1) := by decide +kernel
theorem d53_48 : decode (ai_b 53) 48 = .ok (.bipush (-7), 2) := by decide +kernel
theorem d53_50 : decode (ai_b 53) 50 = .ok (.invokevirtual 99, 3) := by decide +kernel
theorem d53_53 : decode (ai_b 53) 53 = .ok (.ireturn, 1) := by decide +kernel
theorem d53_54 : decode (ai_b 53) 54 = .ok (.aload_n 0, 1) := by decide +kernel
theorem d53_55 : decode (ai_b 53) 55 = .ok (.getfield 11, 3) := by decide +kernel
theorem d53_58 : decode (ai_b 53) 58 = .ok (.iload_n 1, 1) := by decide +kernel
theorem d53_59 : decode (ai_b 53) 59 = .ok (.aaload, 1) := by decide +kernel
theorem d53_60 : decode (ai_b 53) 60 = .ok (.iload_n 2, 1) := by decide +kernel
theorem d53_61 : decode (ai_b 53) 61 = .ok (.iload_n 3, 1) := by decide +kernel
theorem d53_62 : decode (ai_b 53) 62 = .ok (.invokevirtual 103, 3) := by decide +kernel
theorem d53_65 : decode (ai_b 53) 65 = .ok (.iconst 1, 1) := by decide +kernel
theorem d53_66 : decode (ai_b 53) 66 = .ok (.ireturn, 1) := by decide +kernel
theorem d54_0 : decode (ai_b 54) 0 = .ok (.aload_n 0, 1) := by decide +kernel
theorem d54_1 : decode (ai_b 54) 1 = .ok (.iload_n 1, 1) := by decide +kernel
theorem d54_2 : decode (ai_b 54) 2 = .ok (.invokevirtual 107, 3) := by decide +kernel
theorem d54_5 : decode (ai_b 54) 5 = .ok (.istore 5, 2) := by decide +kernel
theorem d54_7 : decode (ai_b 54) 7 = .ok (.iload 5, 2) := by decide +kernel
theorem d54_9 : decode (ai_b 54) 9 = .ok (.ifCond .eq 10, 3) := by decide +kernel
theorem d54_12 : decode (ai_b 54) 12 = .ok (.aload_n 0, 1) := by decide +kernel
theorem d54_13 : decode (ai_b 54) 13 = .ok (.iload 5, 2) := by decide +kernel
theorem d54_15 : decode (ai_b 54) 15 = .ok (.invokevirtual 99, 3) := by decide +kernel
theorem d54_18 : decode (ai_b 54) 18 = .ok (.ireturn, 1) := by decide +kernel
theorem d54_19 : decode (ai_b 54) 19 = .ok (.aload_n 0, 1) := by decide +kernel
theorem d54_20 : decode (ai_b 54) 20 = .ok (.getfield 11, 3) := by decide +kernel
theorem d54_23 : decode (ai_b 54) 23 = .ok (.iload_n 1, 1) := by decide +kernel
theorem d54_24 : decode (ai_b 54) 24 = .ok (.aaload, 1) := by decide +kernel
theorem d54_25 : decode (ai_b 54) 25 = .ok (.iload_n 2, 1) := by decide +kernel
theorem d54_26 : decode (ai_b 54) 26 = .ok (.iconst 1, 1) := by decide +kernel
theorem d54_27 : decode (ai_b 54) 27 = .ok (.invokevirtual 110, 3) := by decide +kernel
theorem d54_30 : decode (ai_b 54) 30 = .ok (.ifCond .ne 10, 3) := by decide +kernel
theorem d54_33 : decode (ai_b 54) 33 = .ok (.aload_n 0, 1) := by decide +kernel
theorem d54_34 : decode (ai_b 54) 34 = .ok (.bipush (-5), 2) := by decide +kernel
theorem d54_36 : decode (ai_b 54) 36 = .ok (.invokevirtual 99, 3) := by decide +kernel
theorem d54_39 : decode (ai_b 54) 39 = .ok (.ireturn, 1) := by decide +kernel
theorem d54_40 : decode (ai_b 54) 40 = .ok (.aload_n 0, 1) := by decide +kernel
theorem d54_41 : decode (ai_b 54) 41 = .ok (.getfield 11, 3) := by decide +kernel
theorem d54_44 : decode (ai_b 54) 44 = .ok (.iload_n 1, 1) := by decide +kernel
theorem d54_45 : decode (ai_b 54) 45 = .ok (.aaload, 1) := by decide +kernel
theorem d54_46 : decode (ai_b 54) 46 = .ok (.iload_n 2, 1) := by decide +kernel
theorem d54_47 : decode (ai_b 54) 47 = .ok (.lload_n 3, 1) := by decide +kernel
theorem d54_48 : decode (ai_b 54) 48 = .ok (.invokevirtual 114, 3) := by decide +kernel
theorem d54_51 : decode (ai_b 54) 51 = .ok (.iconst 1, 1) := by decide +kernel
theorem d54_52 : decode (ai_b 54) 52 = .ok (.ireturn, 1) := by decide +kernel
theorem d55_0 : decode (ai_b 55) 0 = .ok (.aload_n 0, 1) := by decide +kernel
theorem d55_1 : decode (ai_b 55) 1 = .ok (.iload_n 1, 1) := by decide +kernel
theorem d55_2 : decode (ai_b 55) 2 = .ok (.invokevirtual 95, 3) := by decide +kernel
theorem d55_5 : decode (ai_b 55) 5 = .ok (.ifCond .eq 11, 3) := by decide +kernel
theorem d55_8 : decode (ai_b 55) 8 = .ok (.aload_n 0, 1) := by decide +kernel
theorem d55_9 : decode (ai_b 55) 9 = .ok (.iload_n 2, 1) := by decide +kernel
theorem d55_10 : decode (ai_b 55) 10 = .ok (.invokevirtual 95, 3) := by decide +kernel
theorem d55_13 : decode (ai_b 55) 13 = .ok (.ifCond .ne 9, 3) := by decide +kernel
theorem d55_16 : decode (ai_b 55) 16 = .ok (.aload_n 0, 1) := by decide +kernel
theorem d55_17 : decode (ai_b 55) 17 = .ok (.iconst (-1), 1) := by decide +kernel
theorem d55_18 : decode (ai_b 55) 18 = .ok (.invokevirtual 99, 3) := by decide +kernel
theorem d55_21 : decode (ai_b 55) 21 = .ok (.ireturn, 1) := by decide +kernel
theorem d55_22 : decode (ai_b 55) 22 = .ok (.aload_n 0, 1) := by decide +kernel
theorem d55_23 : decode (ai_b 55) 23 = .ok (.getfield 11, 3) := by decide +kernel
theorem d55_26 : decode (ai_b 55) 26 = .ok (.iload_n 1, 1) := by decide +kernel
theorem d55_27 : decode (ai_b 55) 27 = .ok (.aaload, 1) := by decide +kernel
theorem d55_28 : decode (ai_b 55) 28 = .ok (.astore 6, 2) := by decide +kernel
theorem d55_30 : decode (ai_b 55) 30 = .ok (.aload_n 0, 1) := by decide +kernel
theorem d55_31 : decode (ai_b 55) 31 = .ok (.getfield 11, 3) := by decide +kernel
theorem d55_34 : decode (ai_b 55) 34 = .ok (.iload_n 2, 1) := by decide +kernel
theorem d55_35 : decode (ai_b 55) 35 = .ok (.aaload, 1) := by decide +kernel
theorem d55_36 : decode (ai_b 55) 36 = .ok (.astore 7, 2) := by decide +kernel
theorem d55_38 : decode (ai_b 55) 38 = .ok (.aload 6, 2) := by decide +kernel
theorem d55_40 : decode (ai_b 55) 40 = .ok (.invokevirtual 118, 3) := by decide +kernel
theorem d55_43 : decode (ai_b 55) 43 = .ok (.ifCond .ne 11, 3) := by decide +kernel
theorem d55_46 : decode (ai_b 55) 46 = .ok (.aload 7, 2) := by decide +kernel
theorem d55_48 : decode (ai_b 55) 48 = .ok (.invokevirtual 118, 3) := by decide +kernel
theorem d55_51 : decode (ai_b 55) 51 = .ok (.ifCond .eq 10, 3) := by decide +kernel
theorem d55_54 : decode (ai_b 55) 54 = .ok (.aload_n 0, 1) := by decide +kernel
theorem d55_55 : decode (ai_b 55) 55 = .ok (.bipush (-2), 2) := by decide +kernel
theorem d55_57 : decode (ai_b 55) 57 = .ok (.invokevirtual 99, 3) := by decide +kernel
theorem d55_60 : decode (ai_b 55) 60 = .ok (.ireturn, 1) := by decide +kernel
theorem d55_61 : decode (ai_b 55) 61 = .ok (.aload 6, 2) := by decide +kernel
theorem d55_63 : decode (ai_b 55) 63 = .ok (.invokevirtual 122, 3) := by decide +kernel
theorem d55_66 : decode (ai_b 55) 66 = .ok (.ifCond .eq 31, 3) := by decide +kernel
theorem d55_69 : decode (ai_b 55) 69 = .ok (.aload 7, 2) := by decide +kernel
theorem d55_71 : decode (ai_b 55) 71 = .ok (.invokevirtual 122, 3) := by decide +kernel
theorem d55_74 : decode (ai_b 55) 74 = .ok (.ifCond .eq 23, 3) := by decide +kernel
theorem d55_77 : decode (ai_b 55) 77 = .ok (.aload 6, 2) := by decide +kernel
theorem d55_79 : decode (ai_b 55) 79 = .ok (.getfield 125, 3) := by decide +kernel
theorem d55_82 : decode (ai_b 55) 82 = .ok (.aload 7, 2) := by decide +kernel
theorem d55_84 : decode (ai_b 55) 84 = .ok (.getfield 125, 3) := by decide +kernel
theorem d55_87 : decode (ai_b 55) 87 = .ok (.if_icmp .eq 10, 3) := by decide +kernel
theorem d55_90 : decode (ai_b 55) 90 = .ok (.aload_n 0, 1) := by decide +kernel
theorem d55_91 : decode (ai_b 55) 91 = .ok (.bipush (-2), 2) := by decide +kernel
theorem d55_93 : decode (ai_b 55) 93 = .ok (.invokevirtual 99, 3) := by decide +kernel
theorem d55_96 : decode (ai_b 55) 96 = .ok (.ireturn, 1) := by decide +kernel
theorem d55_97 : decode (ai_b 55) 97 = .ok (.aload 6, 2) := by decide +kernel
theorem d55_99 : decode (ai_b 55) 99 = .ok (.invokevirtual 122, 3) := by decide +kernel
theorem d55_102 : decode (ai_b 55) 102 = .ok (.ifCond .eq 11, 3) := by decide +kernel
theorem d55_105 : decode (ai_b 55) 105 = .ok (.aload 7, 2) := by decide +kernel
theorem d55_107 : decode (ai_b 55) 107 = .ok (.invokevirtual 122, 3) := by decide +kernel
theorem d55_110 : decode (ai_b 55) 110 = .ok (.ifCond .ne 10, 3) := by decide +kernel
theorem d55_113 : decode (ai_b 55) 113 = .ok (.aload_n 0, 1) := by decide +kernel
theorem d55_114 : decode (ai_b 55) 114 = .ok (.bipush (-3), 2) := by decide +kernel
theorem d55_116 : decode (ai_b 55) 116 = .ok (.invokevirtual 99, 3) := by decide +kernel
theorem d55_119 : decode (ai_b 55) 119 = .ok (.ireturn, 1) := by decide +kernel
theorem d55_120 : decode (ai_b 55) 120 = .ok (.iload 5, 2) := by decide +kernel
theorem d55_122 : decode (ai_b 55) 122 = .ok (.ifCond .ge 10, 3) := by decide +kernel
theorem d55_125 : decode (ai_b 55) 125 = .ok (.aload_n 0, 1) := by decide +kernel
theorem d55_126 : decode (ai_b 55) 126 = .ok (.bipush (-4), 2) := by decide +kernel
theorem d55_128 : decode (ai_b 55) 128 = .ok (.invokevirtual 99, 3) := by decide +kernel
theorem d55_131 : decode (ai_b 55) 131 = .ok (.ireturn, 1) := by decide +kernel
theorem d55_132 : decode (ai_b 55) 132 = .ok (.aload 6, 2) := by decide +kernel
theorem d55_134 : decode (ai_b 55) 134 = .ok (.iload_n 3, 1) := by decide +kernel
theorem d55_135 : decode (ai_b 55) 135 = .ok (.iload 5, 2) := by decide +kernel
theorem d55_137 : decode (ai_b 55) 137 = .ok (.invokevirtual 110, 3) := by decide +kernel
theorem d55_140 : decode (ai_b 55) 140 = .ok (.ifCond .eq 15, 3) := by decide +kernel
theorem d55_143 : decode (ai_b 55) 143 = .ok (.aload 7, 2) := by decide +kernel
theorem d55_145 : decode (ai_b 55) 145 = .ok (.iload 4, 2) := by decide +kernel
theorem d55_147 : decode (ai_b 55) 147 = .ok (.iload 5, 2) := by decide +kernel
theorem d55_149 : decode (ai_b 55) 149 = .ok (.invokevirtual 110, 3) := by decide +kernel
theorem d55_152 : decode (ai_b 55) 152 = .ok (.ifCond .ne 10, 3) := by decide +kernel
theorem d55_155 : decode (ai_b 55) 155 = .ok (.aload_n 0, 1) := by decide +kernel
theorem d55_156 : decode (ai_b 55) 156 = .ok (.bipush (-5), 2) := by decide +kernel
theorem d55_158 : decode (ai_b 55) 158 = .ok (.invokevirtual 99, 3) := by decide +kernel
theorem d55_161 : decode (ai_b 55) 161 = .ok (.ireturn, 1) := by decide +kernel
theorem d55_162 : decode (ai_b 55) 162 = .ok (.aload 6, 2) := by decide +kernel
theorem d55_164 : decode (ai_b 55) 164 = .ok (.getfield 128, 3) := by decide +kernel
theorem d55_167 : decode (ai_b 55) 167 = .ok (.iload_n 3, 1) := by decide +kernel
theorem d55_168 : decode (ai_b 55) 168 = .ok (.aload 7, 2) := by decide +kernel
theorem d55_170 : decode (ai_b 55) 170 = .ok (.getfield 128, 3) := by decide +kernel
theorem d55_173 : decode (ai_b 55) 173 = .ok (.iload 4, 2) := by decide +kernel
theorem d55_175 : decode (ai_b 55) 175 = .ok (.iload 5, 2) := by decide +kernel
theorem d55_177 : decode (ai_b 55) 177 = .ok (.invokestatic 132, 3) := by decide +kernel
theorem d55_180 : decode (ai_b 55) 180 = .ok (.iconst 1, 1) := by decide +kernel
theorem d55_181 : decode (ai_b 55) 181 = .ok (.ireturn, 1) := by decide +kernel
theorem d56_0 : decode (ai_b 56) 0 = .ok (.aload_n 0, 1) := by decide +kernel
theorem d56_1 : decode (ai_b 56) 1 = .ok (.iload_n 1, 1) := by decide +kernel
theorem d56_2 : decode (ai_b 56) 2 = .ok (.invokevirtual 95, 3) := by decide +kernel
theorem d56_5 : decode (ai_b 56) 5 = .ok (.ifCond .eq 29, 3) := by decide +kernel
theorem d56_8 : decode (ai_b 56) 8 = .ok (.aload_n 0, 1) := by decide +kernel
theorem d56_9 : decode (ai_b 56) 9 = .ok (.getfield 11, 3) := by decide +kernel
theorem d56_12 : decode (ai_b 56) 12 = .ok (.iload_n 1, 1) := by decide +kernel
theorem d56_13 : decode (ai_b 56) 13 = .ok (.aaload, 1) := by decide +kernel
theorem d56_14 : decode (ai_b 56) 14 = .ok (.invokevirtual 122, 3) := by decide +kernel
theorem d56_17 : decode (ai_b 56) 17 = .ok (.ifCond .eq 17, 3) := by decide +kernel
theorem d56_20 : decode (ai_b 56) 20 = .ok (.aload_n 0, 1) := by decide +kernel
theorem d56_21 : decode (ai_b 56) 21 = .ok (.getfield 11, 3) := by decide +kernel
theorem d56_24 : decode (ai_b 56) 24 = .ok (.iload_n 1, 1) := by decide +kernel
theorem d56_25 : decode (ai_b 56) 25 = .ok (.aaload, 1) := by decide +kernel
theorem d56_26 : decode (ai_b 56) 26 = .ok (.iload_n 2, 1) := by decide +kernel
theorem d56_27 : decode (ai_b 56) 27 = .ok (.iconst 1, 1) := by decide +kernel
theorem d56_28 : decode (ai_b 56) 28 = .ok (.invokevirtual 110, 3) := by decide +kernel
theorem d56_31 : decode (ai_b 56) 31 = .ok (.ifCond .ne 5, 3) := by decide +kernel
theorem d56_34 : decode (ai_b 56) 34 = .ok (.lconst 0, 1) := by decide +kernel
theorem d56_35 : decode (ai_b 56) 35 = .ok (.lreturn, 1) := by decide +kernel
theorem d56_36 : decode (ai_b 56) 36 = .ok (.aload_n 0, 1) := by decide +kernel
theorem d56_37 : decode (ai_b 56) 37 = .ok (.getfield 11, 3) := by decide +kernel
theorem d56_40 : decode (ai_b 56) 40 = .ok (.iload_n 1, 1) := by decide +kernel
theorem d56_41 : decode (ai_b 56) 41 = .ok (.aaload, 1) := by decide +kernel
theorem d56_42 : decode (ai_b 56) 42 = .ok (.getfield 128, 3) := by decide +kernel
theorem d56_45 : decode (ai_b 56) 45 = .ok (.iload_n 2, 1) := by decide +kernel
theorem d56_46 : decode (ai_b 56) 46 = .ok (.laload, 1) := by decide +kernel
theorem d56_47 : decode (ai_b 56) 47 = .ok (.lreturn, 1) := by decide +kernel
theorem d57_0 : decode (ai_b 57) 0 = .ok (.aload_n 0, 1) := by decide +kernel
theorem d57_1 : decode (ai_b 57) 1 = .ok (.iload_n 1, 1) := by decide +kernel
theorem d57_2 : decode (ai_b 57) 2 = .ok (.invokevirtual 95, 3) := by decide +kernel
theorem d57_5 : decode (ai_b 57) 5 = .ok (.ifCond .eq 16, 3) := by decide +kernel
theorem d57_8 : decode (ai_b 57) 8 = .ok (.iload_n 2, 1) := by decide +kernel
theorem d57_9 : decode (ai_b 57) 9 = .ok (.iconst (-1), 1) := by decide +kernel
theorem d57_10 : decode (ai_b 57) 10 = .ok (.if_icmp .lt 11, 3) := by decide +kernel
theorem d57_13 : decode (ai_b 57) 13 = .ok (.iload_n 2, 1) := by decide +kernel
theorem d57_14 : decode (ai_b 57) 14 = .ok (.aload_n 0, 1) := by decide +kernel
theorem d57_15 : decode (ai_b 57) 15 = .ok (.getfield 40, 3) := by decide +kernel
theorem d57_18 : decode (ai_b 57) 18 = .ok (.if_icmp .lt 9, 3) := by decide +kernel
theorem d57_21 : decode (ai_b 57) 21 = .ok (.aload_n 0, 1) := by decide +kernel
theorem d57_22 : decode (ai_b 57) 22 = .ok (.iconst (-1), 1) := by decide +kernel
theorem d57_23 : decode (ai_b 57) 23 = .ok (.invokevirtual 99, 3) := by decide +kernel
theorem d57_26 : decode (ai_b 57) 26 = .ok (.ireturn, 1) := by decide +kernel
theorem d57_27 : decode (ai_b 57) 27 = .ok (.iload_n 2, 1) := by decide +kernel
theorem d57_28 : decode (ai_b 57) 28 = .ok (.iconst (-1), 1) := by decide +kernel
theorem d57_29 : decode (ai_b 57) 29 = .ok (.if_icmp .ne 14, 3) := by decide +kernel
theorem d57_32 : decode (ai_b 57) 32 = .ok (.aload_n 0, 1) := by decide +kernel
theorem d57_33 : decode (ai_b 57) 33 = .ok (.getfield 11, 3) := by decide +kernel
theorem d57_36 : decode (ai_b 57) 36 = .ok (.iload_n 1, 1) := by decide +kernel
theorem d57_37 : decode (ai_b 57) 37 = .ok (.aaload, 1) := by decide +kernel
theorem d57_38 : decode (ai_b 57) 38 = .ok (.invokevirtual 138, 3) := by decide +kernel
theorem d57_41 : decode (ai_b 57) 41 = .ok (.iconst 0, 1) := by decide +kernel
theorem d57_42 : decode (ai_b 57) 42 = .ok (.ireturn, 1) := by decide +kernel
theorem d57_43 : decode (ai_b 57) 43 = .ok (.aload_n 0, 1) := by decide +kernel
theorem d57_44 : decode (ai_b 57) 44 = .ok (.getfield 11, 3) := by decide +kernel
theorem d57_47 : decode (ai_b 57) 47 = .ok (.iload_n 1, 1) := by decide +kernel
theorem d57_48 : decode (ai_b 57) 48 = .ok (.aaload, 1) := by decide +kernel
theorem d57_49 : decode (ai_b 57) 49 = .ok (.iload_n 2, 1) := by decide +kernel
theorem d57_50 : decode (ai_b 57) 50 = .ok (.invokevirtual 141, 3) := by decide +kernel
theorem d57_53 : decode (ai_b 57) 53 = .ok (.iconst 1, 1) := by decide +kernel
theorem d57_54 : decode (ai_b 57) 54 = .ok (.ireturn, 1) := by decide +kernel
theorem d58_0 : decode (ai_b 58) 0 = .ok (.aload_n 0, 1) := by decide +kernel
theorem d58_1 : decode (ai_b 58) 1 = .ok (.iload_n 1, 1) := by decide +kernel
theorem d58_2 : decode (ai_b 58) 2 = .ok (.invokevirtual 95, 3) := by decide +kernel
theorem d58_5 : decode (ai_b 58) 5 = .ok (.ifCond .ne 5, 3) := by decide +kernel
theorem d58_8 : decode (ai_b 58) 8 = .ok (.iconst (-1), 1) := by decide +kernel
theorem d58_9 : decode (ai_b 58) 9 = .ok (.ireturn, 1) := by decide +kernel
theorem d58_10 : decode (ai_b 58) 10 = .ok (.aload_n 0, 1) := by decide +kernel
theorem d58_11 : decode (ai_b 58) 11 = .ok (.getfield 11, 3) := by decide +kernel
theorem d58_14 : decode (ai_b 58) 14 = .ok (.iload_n 1, 1) := by decide +kernel
theorem d58_15 : decode (ai_b 58) 15 = .ok (.aaload, 1) := by decide +kernel
theorem d58_16 : decode (ai_b 58) 16 = .ok (.astore_n 2, 1) := by decide +kernel
theorem d58_17 : decode (ai_b 58) 17 = .ok (.aload_n 2, 1) := by decide +kernel
theorem d58_18 : decode (ai_b 58) 18 = .ok (.invokevirtual 122, 3) := by decide +kernel
theorem d58_21 : decode (ai_b 58) 21 = .ok (.ifCond .eq 11, 3) := by decide +kernel
theorem d58_24 : decode (ai_b 58) 24 = .ok (.bipush 100, 2) := by decide +kernel
theorem d58_26 : decode (ai_b 58) 26 = .ok (.aload_n 2, 1) := by decide +kernel
theorem d58_27 : decode (ai_b 58) 27 = .ok (.getfield 125, 3) := by decide +kernel
theorem d58_30 : decode (ai_b 58) 30 = .ok (.iadd, 1) := by decide +kernel
theorem d58_31 : decode (ai_b 58) 31 = .ok (.ireturn, 1) := by decide +kernel
theorem d58_32 : decode (ai_b 58) 32 = .ok (.aload_n 2, 1) := by decide +kernel
theorem d58_33 : decode (ai_b 58) 33 = .ok (.getfield 144, 3) := by decide +kernel
theorem d58_36 : decode (ai_b 58) 36 = .ok (.ireturn, 1) := by decide +kernel
theorem d59_0 : decode (ai_b 59) 0 = .ok (.aload_n 0, 1) := by decide +kernel
theorem d59_1 : decode (ai_b 59) 1 = .ok (.iload_n 1, 1) := by decide +kernel
theorem d59_2 : decode (ai_b 59) 2 = .ok (.invokevirtual 95, 3) := by decide +kernel
theorem d59_5 : decode (ai_b 59) 5 = .ok (.ifCond .ne 9, 3) := by decide +kernel
theorem d59_8 : decode (ai_b 59) 8 = .ok (.aload_n 0, 1) := by decide +kernel
theorem d59_9 : decode (ai_b 59) 9 = .ok (.iconst (-1), 1) := by decide +kernel
theorem d59_10 : decode (ai_b 59) 10 = .ok (.invokevirtual 99, 3) := by decide +kernel
theorem d59_13 : decode (ai_b 59) 13 = .ok (.ireturn, 1) := by decide +kernel
theorem d59_14 : decode (ai_b 59) 14 = .ok (.aload_n 0, 1) := by decide +kernel
theorem d59_15 : decode (ai_b 59) 15 = .ok (.getfield 11, 3) := by decide +kernel
theorem d59_18 : decode (ai_b 59) 18 = .ok (.iload_n 1, 1) := by decide +kernel
theorem d59_19 : decode (ai_b 59) 19 = .ok (.aaload, 1) := by decide +kernel
theorem d59_20 : decode (ai_b 59) 20 = .ok (.invokevirtual 122, 3) := by decide +kernel
theorem d59_23 : decode (ai_b 59) 23 = .ok (.ifCond .eq 10, 3) := by decide +kernel
theorem d59_26 : decode (ai_b 59) 26 = .ok (.aload_n 0, 1) := by decide +kernel
theorem d59_27 : decode (ai_b 59) 27 = .ok (.bipush (-2), 2) := by decide +kernel
theorem d59_29 : decode (ai_b 59) 29 = .ok (.invokevirtual 99, 3) := by decide +kernel
theorem d59_32 : decode (ai_b 59) 32 = .ok (.ireturn, 1) := by decide +kernel
theorem d59_33 : decode (ai_b 59) 33 = .ok (.aload_n 0, 1) := by decide +kernel
theorem d59_34 : decode (ai_b 59) 34 = .ok (.getfield 11, 3) := by decide +kernel
theorem d59_37 : decode (ai_b 59) 37 = .ok (.iload_n 1, 1) := by decide +kernel
theorem d59_38 : decode (ai_b 59) 38 = .ok (.aaload, 1) := by decide +kernel
theorem d59_39 : decode (ai_b 59) 39 = .ok (.invokevirtual 118, 3) := by decide +kernel
theorem d59_42 : decode (ai_b 59) 42 = .ok (.ifCond .ne 10, 3) := by decide +kernel
theorem d59_45 : decode (ai_b 59) 45 = .ok (.aload_n 0, 1) := by decide +kernel
theorem d59_46 : decode (ai_b 59) 46 = .ok (.bipush (-3), 2) := by decide +kernel
theorem d59_48 : decode (ai_b 59) 48 = .ok (.invokevirtual 99, 3) := by decide +kernel
theorem d59_51 : decode (ai_b 59) 51 = .ok (.ireturn, 1) := by decide +kernel
theorem d59_52 : decode (ai_b 59) 52 = .ok (.aload_n 0, 1) := by decide +kernel
theorem d59_53 : decode (ai_b 59) 53 = .ok (.aload_n 0, 1) := by decide +kernel
theorem d59_54 : decode (ai_b 59) 54 = .ok (.getfield 11, 3) := by decide +kernel
theorem d59_57 : decode (ai_b 59) 57 = .ok (.iload_n 1, 1) := by decide +kernel
theorem d59_58 : decode (ai_b 59) 58 = .ok (.aaload, 1) := by decide +kernel
theorem d59_59 : decode (ai_b 59) 59 = .ok (.getfield 144, 3) := by decide +kernel
theorem d59_62 : decode (ai_b 59) 62 = .ok (.invokevirtual 147, 3) := by decide +kernel
theorem d59_65 : decode (ai_b 59) 65 = .ok (.ireturn, 1) := by decide +kernel
theorem d60_0 : decode (ai_b 60) 0 = .ok (.aload_n 0, 1) := by decide +kernel
theorem d60_1 : decode (ai_b 60) 1 = .ok (.getfield 37, 3) := by decide +kernel
theorem d60_4 : decode (ai_b 60) 4 = .ok (.ifCond .ne 7, 3) := by decide +kernel
theorem d60_7 : decode (ai_b 60) 7 = .ok (.iconst 1, 1) := by decide +kernel
theorem d60_8 : decode (ai_b 60) 8 = .ok (.goto 4, 3) := by decide +kernel
theorem d60_11 : decode (ai_b 60) 11 = .ok (.iconst 0, 1) := by decide +kernel
theorem d60_12 : decode (ai_b 60) 12 = .ok (.istore 4, 2) := by decide +kernel
theorem d60_14 : decode (ai_b 60) 14 = .ok (.iload 4, 2) := by decide +kernel
theorem d60_16 : decode (ai_b 60) 16 = .ok (.ifCond .ne 17, 3) := by decide +kernel
theorem d60_19 : decode (ai_b 60) 19 = .ok (.aload_n 0, 1) := by decide +kernel
theorem d60_20 : decode (ai_b 60) 20 = .ok (.iload_n 2, 1) := by decide +kernel
theorem d60_21 : decode (ai_b 60) 21 = .ok (.invokevirtual 150, 3) := by decide +kernel
theorem d60_24 : decode (ai_b 60) 24 = .ok (.ifCond .ne 9, 3) := by decide +kernel
theorem d60_27 : decode (ai_b 60) 27 = .ok (.aload_n 0, 1) := by decide +kernel
theorem d60_28 : decode (ai_b 60) 28 = .ok (.iconst (-1), 1) := by decide +kernel
theorem d60_29 : decode (ai_b 60) 29 = .ok (.invokevirtual 99, 3) := by decide +kernel
theorem d60_32 : decode (ai_b 60) 32 = .ok (.ireturn, 1) := by decide +kernel
theorem d60_33 : decode (ai_b 60) 33 = .ok (.iload_n 1, 1) := by decide +kernel
theorem d60_34 : decode (ai_b 60) 34 = .ok (.iconst 2, 1) := by decide +kernel
theorem d60_35 : decode (ai_b 60) 35 = .ok (.if_icmp .lt 8, 3) := by decide +kernel
theorem d60_38 : decode (ai_b 60) 38 = .ok (.iload_n 1, 1) := by decide +kernel
theorem d60_39 : decode (ai_b 60) 39 = .ok (.iconst 4, 1) := by decide +kernel
theorem d60_40 : decode (ai_b 60) 40 = .ok (.if_icmp .le 10, 3) := by decide +kernel
theorem d60_43 : decode (ai_b 60) 43 = .ok (.aload_n 0, 1) := by decide +kernel
theorem d60_44 : decode (ai_b 60) 44 = .ok (.bipush (-6), 2) := by decide +kernel
theorem d60_46 : decode (ai_b 60) 46 = .ok (.invokevirtual 99, 3) := by decide +kernel
theorem d60_49 : decode (ai_b 60) 49 = .ok (.ireturn, 1) := by decide +kernel
theorem d60_50 : decode (ai_b 60) 50 = .ok (.iload 4, 2) := by decide +kernel
theorem d60_52 : decode (ai_b 60) 52 = .ok (.ifCond .eq 11, 3) := by decide +kernel
theorem d60_55 : decode (ai_b 60) 55 = .ok (.iload_n 2, 1) := by decide +kernel
theorem d60_56 : decode (ai_b 60) 56 = .ok (.iconst (-1), 1) := by decide +kernel
theorem d60_57 : decode (ai_b 60) 57 = .ok (.if_icmp .eq 22, 3) := by decide +kernel
theorem d60_60 : decode (ai_b 60) 60 = .ok (.goto 12, 3) := by decide +kernel
theorem d60_63 : decode (ai_b 60) 63 = .ok (.aload_n 0, 1) := by decide +kernel
theorem d60_64 : decode (ai_b 60) 64 = .ok (.iload_n 2, 1) := by decide +kernel
theorem d60_65 : decode (ai_b 60) 65 = .ok (.iload_n 3, 1) := by decide +kernel
theorem d60_66 : decode (ai_b 60) 66 = .ok (.invokevirtual 153, 3) := by decide +kernel
theorem d60_69 : decode (ai_b 60) 69 = .ok (.ifCond .ne 10, 3) := by decide +kernel
theorem d60_72 : decode (ai_b 60) 72 = .ok (.aload_n 0, 1) := by decide +kernel
theorem d60_73 : decode (ai_b 60) 73 = .ok (.bipush (-6), 2) := by decide +kernel
theorem d60_75 : decode (ai_b 60) 75 = .ok (.invokevirtual 99, 3) := by decide +kernel
theorem d60_78 : decode (ai_b 60) 78 = .ok (.ireturn, 1) := by decide +kernel
theorem d60_79 : decode (ai_b 60) 79 = .ok (.aload_n 0, 1) := by decide +kernel
theorem d60_80 : decode (ai_b 60) 80 = .ok (.getfield 37, 3) := by decide +kernel
theorem d60_83 : decode (ai_b 60) 83 = .ok (.iconst 5, 1) := by decide +kernel
theorem d60_84 : decode (ai_b 60) 84 = .ok (.if_icmp .lt 10, 3) := by decide +kernel
theorem d60_87 : decode (ai_b 60) 87 = .ok (.aload_n 0, 1) := by decide +kernel
theorem d60_88 : decode (ai_b 60) 88 = .ok (.bipush (-7), 2) := by decide +kernel
theorem d60_90 : decode (ai_b 60) 90 = .ok (.invokevirtual 99, 3) := by decide +kernel
theorem d60_93 : decode (ai_b 60) 93 = .ok (.ireturn, 1) := by decide +kernel
theorem d60_94 : decode (ai_b 60) 94 = .ok (.aload_n 0, 1) := by decide +kernel
theorem d60_95 : decode (ai_b 60) 95 = .ok (.getfield 17, 3) := by decide +kernel
theorem d60_98 : decode (ai_b 60) 98 = .ok (.aload_n 0, 1) := by decide +kernel
theorem d60_99 : decode (ai_b 60) 99 = .ok (.getfield 37, 3) := by decide +kernel
theorem d60_102 : decode (ai_b 60) 102 = .ok (.aaload, 1) := by decide +kernel
theorem d60_103 : decode (ai_b 60) 103 = .ok (.astore 5, 2) := by decide +kernel
theorem d60_105 : decode (ai_b 60) 105 = .ok (.aload 5, 2) := by decide +kernel
theorem d60_107 : decode (ai_b 60) 107 = .ok (.iload_n 1, 1) := by decide +kernel
theorem d60_108 : decode (ai_b 60) 108 = .ok (.putfield 156, 3) := by decide +kernel
theorem d60_111 : decode (ai_b 60) 111 = .ok (.aload 5, 2) := by decide +kernel
theorem d60_113 : decode (ai_b 60) 113 = .ok (.iload_n 2, 1) := by decide +kernel
theorem d60_114 : decode (ai_b 60) 114 = .ok (.putfield 159, 3) := by decide +kernel
theorem d60_117 : decode (ai_b 60) 117 = .ok (.aload 5, 2) := by decide +kernel
theorem d60_119 : decode (ai_b 60) 119 = .ok (.iload_n 3, 1) := by decide +kernel
theorem d60_120 : decode (ai_b 60) 120 = .ok (.putfield 162, 3) := by decide +kernel
theorem d60_123 : decode (ai_b 60) 123 = .ok (.aload_n 0, 1) := by decide +kernel
theorem d60_124 : decode (ai_b 60) 124 = .ok (.dup, 1) := by decide +kernel
theorem d60_125 : decode (ai_b 60) 125 = .ok (.getfield 37, 3) := by decide +kernel
theorem d60_128 : decode (ai_b 60) 128 = .ok (.iconst 1, 1) := by decide +kernel
theorem d60_129 : decode (ai_b 60) 129 = .ok (.iadd, 1) := by decide +kernel
theorem d60_130 : decode (ai_b 60) 130 = .ok (.putfield 37, 3) := by decide +kernel
theorem d60_133 : decode (ai_b 60) 133 = .ok (.aload_n 0, 1) := by decide +kernel
theorem d60_134 : decode (ai_b 60) 134 = .ok (.getfield 37, 3) := by decide +kernel
theorem d60_137 : decode (ai_b 60) 137 = .ok (.iconst 1, 1) := by decide +kernel
theorem d60_138 : decode (ai_b 60) 138 = .ok (.isub, 1) := by decide +kernel
theorem d60_139 : decode (ai_b 60) 139 = .ok (.ireturn, 1) := by decide +kernel
theorem d61_0 : decode (ai_b 61) 0 = .ok (.iload_n 1, 1) := by decide +kernel
theorem d61_1 : decode (ai_b 61) 1 = .ok (.ifCond .ge 10, 3) := by decide +kernel
theorem d61_4 : decode (ai_b 61) 4 = .ok (.aload_n 0, 1) := by decide +kernel
theorem d61_5 : decode (ai_b 61) 5 = .ok (.bipush (-4), 2) := by decide +kernel
theorem d61_7 : decode (ai_b 61) 7 = .ok (.invokevirtual 99, 3) := by decide +kernel
theorem d61_10 : decode (ai_b 61) 10 = .ok (.ireturn, 1) := by decide +kernel
theorem d61_11 : decode (ai_b 61) 11 = .ok (.iload_n 1, 1) := by decide +kernel
theorem d61_12 : decode (ai_b 61) 12 = .ok (.bipush 40, 2) := by decide +kernel
theorem d61_14 : decode (ai_b 61) 14 = .ok (.aload_n 0, 1) := by decide +kernel
theorem d61_15 : decode (ai_b 61) 15 = .ok (.getfield 33, 3) := by decide +kernel
theorem d61_18 : decode (ai_b 61) 18 = .ok (.isub, 1) := by decide +kernel
theorem d61_19 : decode (ai_b 61) 19 = .ok (.if_icmp .le 10, 3) := by decide +kernel
theorem d61_22 : decode (ai_b 61) 22 = .ok (.aload_n 0, 1) := by decide +kernel
theorem d61_23 : decode (ai_b 61) 23 = .ok (.bipush (-7), 2) := by decide +kernel
theorem d61_25 : decode (ai_b 61) 25 = .ok (.invokevirtual 99, 3) := by decide +kernel
theorem d61_28 : decode (ai_b 61) 28 = .ok (.ireturn, 1) := by decide +kernel
theorem d61_29 : decode (ai_b 61) 29 = .ok (.aload_n 0, 1) := by decide +kernel
theorem d61_30 : decode (ai_b 61) 30 = .ok (.dup, 1) := by decide +kernel
theorem d61_31 : decode (ai_b 61) 31 = .ok (.getfield 33, 3) := by decide +kernel
theorem d61_34 : decode (ai_b 61) 34 = .ok (.iload_n 1, 1) := by decide +kernel
theorem d61_35 : decode (ai_b 61) 35 = .ok (.iadd, 1) := by decide +kernel
theorem d61_36 : decode (ai_b 61) 36 = .ok (.putfield 33, 3) := by decide +kernel
theorem d61_39 : decode (ai_b 61) 39 = .ok (.aload_n 0, 1) := by decide +kernel
theorem d61_40 : decode (ai_b 61) 40 = .ok (.getfield 33, 3) := by decide +kernel
theorem d61_43 : decode (ai_b 61) 43 = .ok (.ireturn, 1) := by decide +kernel
theorem d62_0 : decode (ai_b 62) 0 = .ok (.aload_n 0, 1) := by decide +kernel
theorem d62_1 : decode (ai_b 62) 1 = .ok (.getfield 40, 3) := by decide +kernel
theorem d62_4 : decode (ai_b 62) 4 = .ok (.bipush 24, 2) := by decide +kernel
theorem d62_6 : decode (ai_b 62) 6 = .ok (.if_icmp .lt 10, 3) := by decide +kernel
theorem d62_9 : decode (ai_b 62) 9 = .ok (.aload_n 0, 1) := by decide +kernel
theorem d62_10 : decode (ai_b 62) 10 = .ok (.bipush (-7), 2) := by decide +kernel
theorem d62_12 : decode (ai_b 62) 12 = .ok (.invokevirtual 99, 3) := by decide +kernel
theorem d62_15 : decode (ai_b 62) 15 = .ok (.ireturn, 1) := by decide +kernel
theorem d62_16 : decode (ai_b 62) 16 = .ok (.aload_n 0, 1) := by decide +kernel
theorem d62_17 : decode (ai_b 62) 17 = .ok (.dup, 1) := by decide +kernel
theorem d62_18 : decode (ai_b 62) 18 = .ok (.getfield 40, 3) := by decide +kernel
theorem d62_21 : decode (ai_b 62) 21 = .ok (.iconst 1, 1) := by decide +kernel
theorem d62_22 : decode (ai_b 62) 22 = .ok (.iadd, 1) := by decide +kernel
theorem d62_23 : decode (ai_b 62) 23 = .ok (.putfield 40, 3) := by decide +kernel
theorem d62_26 : decode (ai_b 62) 26 = .ok (.aload_n 0, 1) := by decide +kernel
theorem d62_27 : decode (ai_b 62) 27 = .ok (.getfield 40, 3) := by decide +kernel
theorem d62_30 : decode (ai_b 62) 30 = .ok (.iconst 1, 1) := by decide +kernel
theorem d62_31 : decode (ai_b 62) 31 = .ok (.isub, 1) := by decide +kernel
theorem d62_32 : decode (ai_b 62) 32 = .ok (.ireturn, 1) := by decide +kernel
theorem d63_0 : decode (ai_b 63) 0 = .ok (.aload_n 0, 1) := by decide +kernel
theorem d63_1 : decode (ai_b 63) 1 = .ok (.iload_n 1, 1) := by decide +kernel
theorem d63_2 : decode (ai_b 63) 2 = .ok (.iload_n 2, 1) := by decide +kernel
theorem d63_3 : decode (ai_b 63) 3 = .ok (.invokevirtual 165, 3) := by decide +kernel
theorem d63_6 : decode (ai_b 63) 6 = .ok (.ifCond .ne 9, 3) := by decide +kernel
theorem d63_9 : decode (ai_b 63) 9 = .ok (.aload_n 0, 1) := by decide +kernel
theorem d63_10 : decode (ai_b 63) 10 = .ok (.iconst (-1), 1) := by decide +kernel
theorem d63_11 : decode (ai_b 63) 11 = .ok (.invokevirtual 99, 3) := by decide +kernel
theorem d63_14 : decode (ai_b 63) 14 = .ok (.ireturn, 1) := by decide +kernel
theorem d63_15 : decode (ai_b 63) 15 = .ok (.iload_n 3, 1) := by decide +kernel
theorem d63_16 : decode (ai_b 63) 16 = .ok (.iconst (-1), 1) := by decide +kernel
theorem d63_17 : decode (ai_b 63) 17 = .ok (.if_icmp .eq 19, 3) := by decide +kernel
theorem d63_20 : decode (ai_b 63) 20 = .ok (.aload_n 0, 1) := by decide +kernel
theorem d63_21 : decode (ai_b 63) 21 = .ok (.iload_n 2, 1) := by decide +kernel
theorem d63_22 : decode (ai_b 63) 22 = .ok (.iload_n 3, 1) := by decide +kernel
theorem d63_23 : decode (ai_b 63) 23 = .ok (.invokevirtual 153, 3) := by decide +kernel
theorem d63_26 : decode (ai_b 63) 26 = .ok (.ifCond .ne 10, 3) := by decide +kernel
theorem d63_29 : decode (ai_b 63) 29 = .ok (.aload_n 0, 1) := by decide +kernel
theorem d63_30 : decode (ai_b 63) 30 = .ok (.bipush (-6), 2) := by decide +kernel
theorem d63_32 : decode (ai_b 63) 32 = .ok (.invokevirtual 99, 3) := by decide +kernel
theorem d63_35 : decode (ai_b 63) 35 = .ok (.ireturn, 1) := by decide +kernel
theorem d63_36 : decode (ai_b 63) 36 = .ok (.aload_n 0, 1) := by decide +kernel
theorem d63_37 : decode (ai_b 63) 37 = .ok (.iload_n 1, 1) := by decide +kernel
theorem d63_38 : decode (ai_b 63) 38 = .ok (.iload_n 2, 1) := by decide +kernel
theorem d63_39 : decode (ai_b 63) 39 = .ok (.invokevirtual 168, 3) := by decide +kernel
theorem d63_42 : decode (ai_b 63) 42 = .ok (.iload_n 3, 1) := by decide +kernel
theorem d63_43 : decode (ai_b 63) 43 = .ok (.putfield 172, 3) := by decide +kernel
theorem d63_46 : decode (ai_b 63) 46 = .ok (.iconst 1, 1) := by decide +kernel
theorem d63_47 : decode (ai_b 63) 47 = .ok (.ireturn, 1) := by decide +kernel
theorem d64_0 : decode (ai_b 64) 0 = .ok (.aload_n 0, 1) := by decide +kernel
theorem d64_1 : decode (ai_b 64) 1 = .ok (.iload_n 1, 1) := by decide +kernel
theorem d64_2 : decode (ai_b 64) 2 = .ok (.iload_n 2, 1) := by decide +kernel
theorem d64_3 : decode (ai_b 64) 3 = .ok (.iload_n 3, 1) := by decide +kernel
theorem d64_4 : decode (ai_b 64) 4 = .ok (.iload 4, 2) := by decide +kernel
theorem d64_6 : decode (ai_b 64) 6 = .ok (.iload 5, 2) := by decide +kernel
theorem d64_8 : decode (ai_b 64) 8 = .ok (.invokevirtual 175, 3) := by decide +kernel
theorem d64_11 : decode (ai_b 64) 11 = .ok (.istore 6, 2) := by decide +kernel
theorem d64_13 : decode (ai_b 64) 13 = .ok (.iload 6, 2) := by decide +kernel
theorem d64_15 : decode (ai_b 64) 15 = .ok (.ifCond .eq 10, 3) := by decide +kernel
theorem d64_18 : decode (ai_b 64) 18 = .ok (.aload_n 0, 1) := by decide +kernel
theorem d64_19 : decode (ai_b 64) 19 = .ok (.iload 6, 2) := by decide +kernel
theorem d64_21 : decode (ai_b 64) 21 = .ok (.invokevirtual 99, 3) := by decide +kernel
theorem d64_24 : decode (ai_b 64) 24 = .ok (.ireturn, 1) := by decide +kernel
theorem d64_25 : decode (ai_b 64) 25 = .ok (.aload_n 0, 1) := by decide +kernel
theorem d64_26 : decode (ai_b 64) 26 = .ok (.iload_n 1, 1) := by decide +kernel
theorem d64_27 : decode (ai_b 64) 27 = .ok (.iload_n 2, 1) := by decide +kernel
theorem d64_28 : decode (ai_b 64) 28 = .ok (.iload_n 3, 1) := by decide +kernel
theorem d64_29 : decode (ai_b 64) 29 = .ok (.iload 4, 2) := by decide +kernel
theorem d64_31 : decode (ai_b 64) 31 = .ok (.iload 5, 2) := by decide +kernel
theorem d64_33 : decode (ai_b 64) 33 = .ok (.invokevirtual 179, 3) := by decide +kernel
theorem d64_36 : decode (ai_b 64) 36 = .ok (.ireturn, 1) := by decide +kernel
theorem d65_0 : decode (ai_b 65) 0 = .ok (.aload_n 0, 1) := by decide +kernel
theorem d65_1 : decode (ai_b 65) 1 = .ok (.iload_n 1, 1) := by decide +kernel
theorem d65_2 : decode (ai_b 65) 2 = .ok (.invokevirtual 107, 3) := by decide +kernel
theorem d65_5 : decode (ai_b 65) 5 = .ok (.istore_n 2, 1) := by decide +kernel
theorem d65_6 : decode (ai_b 65) 6 = .ok (.iload_n 2, 1) := by decide +kernel
theorem d65_7 : decode (ai_b 65) 7 = .ok (.ifCond .eq 9, 3) := by decide +kernel
theorem d65_10 : decode (ai_b 65) 10 = .ok (.aload_n 0, 1) := by decide +kernel
theorem d65_11 : decode (ai_b 65) 11 = .ok (.iload_n 2, 1) := by decide +kernel
theorem d65_12 : decode (ai_b 65) 12 = .ok (.invokevirtual 99, 3) := by decide +kernel
theorem d65_15 : decode (ai_b 65) 15 = .ok (.ireturn, 1) := by decide +kernel
theorem d65_16 : decode (ai_b 65) 16 = .ok (.aload_n 0, 1) := by decide +kernel
theorem d65_17 : decode (ai_b 65) 17 = .ok (.getfield 11, 3) := by decide +kernel
theorem d65_20 : decode (ai_b 65) 20 = .ok (.iload_n 1, 1) := by decide +kernel
theorem d65_21 : decode (ai_b 65) 21 = .ok (.aaload, 1) := by decide +kernel
theorem d65_22 : decode (ai_b 65) 22 = .ok (.astore_n 3, 1) := by decide +kernel
theorem d65_23 : decode (ai_b 65) 23 = .ok (.iconst 0, 1) := by decide +kernel
theorem d65_24 : decode (ai_b 65) 24 = .ok (.istore 4, 2) := by decide +kernel
theorem d65_26 : decode (ai_b 65) 26 = .ok (.iconst 0, 1) := by decide +kernel
theorem d65_27 : decode (ai_b 65) 27 = .ok (.istore 5, 2) := by decide +kernel
theorem d65_29 : decode (ai_b 65) 29 = .ok (.aload_n 3, 1) := by decide +kernel
theorem d65_30 : decode (ai_b 65) 30 = .ok (.iload 5, 2) := by decide +kernel
theorem d65_32 : decode (ai_b 65) 32 = .ok (.iconst 5, 1) := by decide +kernel
theorem d65_33 : decode (ai_b 65) 33 = .ok (.invokevirtual 110, 3) := by decide +kernel
theorem d65_36 : decode (ai_b 65) 36 = .ok (.ifCond .eq 105, 3) := by decide +kernel
theorem d65_39 : decode (ai_b 65) 39 = .ok (.aload_n 3, 1) := by decide +kernel
theorem d65_40 : decode (ai_b 65) 40 = .ok (.getfield 128, 3) := by decide +kernel
theorem d65_43 : decode (ai_b 65) 43 = .ok (.iload 5, 2) := by decide +kernel
theorem d65_45 : decode (ai_b 65) 45 = .ok (.laload, 1) := by decide +kernel
theorem d65_46 : decode (ai_b 65) 46 = .ok (.l2i, 1) := by decide +kernel
theorem d65_47 : decode (ai_b 65) 47 = .ok (.istore 6, 2) := by decide +kernel
theorem d65_49 : decode (ai_b 65) 49 = .ok (.aload_n 3, 1) := by decide +kernel
theorem d65_50 : decode (ai_b 65) 50 = .ok (.getfield 128, 3) := by decide +kernel
theorem d65_53 : decode (ai_b 65) 53 = .ok (.iload 5, 2) := by decide +kernel
theorem d65_55 : decode (ai_b 65) 55 = .ok (.iconst 1, 1) := by decide +kernel
theorem d65_56 : decode (ai_b 65) 56 = .ok (.iadd, 1) := by decide +kernel
theorem d65_57 : decode (ai_b 65) 57 = .ok (.laload, 1) := by decide +kernel
theorem d65_58 : decode (ai_b 65) 58 = .ok (.l2i, 1) := by decide +kernel
theorem d65_59 : decode (ai_b 65) 59 = .ok (.istore 7, 2) := by decide +kernel
theorem d65_61 : decode (ai_b 65) 61 = .ok (.aload_n 3, 1) := by decide +kernel
theorem d65_62 : decode (ai_b 65) 62 = .ok (.getfield 128, 3) := by decide +kernel
theorem d65_65 : decode (ai_b 65) 65 = .ok (.iload 5, 2) := by decide +kernel
theorem d65_67 : decode (ai_b 65) 67 = .ok (.iconst 2, 1) := by decide +kernel
theorem d65_68 : decode (ai_b 65) 68 = .ok (.iadd, 1) := by decide +kernel
theorem d65_69 : decode (ai_b 65) 69 = .ok (.laload, 1) := by decide +kernel
theorem d65_70 : decode (ai_b 65) 70 = .ok (.l2i, 1) := by decide +kernel
theorem d65_71 : decode (ai_b 65) 71 = .ok (.istore 8, 2) := by decide +kernel
theorem d65_73 : decode (ai_b 65) 73 = .ok (.aload_n 3, 1) := by decide +kernel
theorem d65_74 : decode (ai_b 65) 74 = .ok (.getfield 128, 3) := by decide +kernel
theorem d65_77 : decode (ai_b 65) 77 = .ok (.iload 5, 2) := by decide +kernel
theorem d65_79 : decode (ai_b 65) 79 = .ok (.iconst 3, 1) := by decide +kernel
theorem d65_80 : decode (ai_b 65) 80 = .ok (.iadd, 1) := by decide +kernel
theorem d65_81 : decode (ai_b 65) 81 = .ok (.laload, 1) := by decide +kernel
theorem d65_82 : decode (ai_b 65) 82 = .ok (.l2i, 1) := by decide +kernel
theorem d65_83 : decode (ai_b 65) 83 = .ok (.istore 9, 2) := by decide +kernel
theorem d65_85 : decode (ai_b 65) 85 = .ok (.aload_n 3, 1) := by decide +kernel
theorem d65_86 : decode (ai_b 65) 86 = .ok (.getfield 128, 3) := by decide +kernel
theorem d65_89 : decode (ai_b 65) 89 = .ok (.iload 5, 2) := by decide +kernel
theorem d65_91 : decode (ai_b 65) 91 = .ok (.iconst 4, 1) := by decide +kernel
theorem d65_92 : decode (ai_b 65) 92 = .ok (.iadd, 1) := by decide +kernel
theorem d65_93 : decode (ai_b 65) 93 = .ok (.laload, 1) := by decide +kernel
theorem d65_94 : decode (ai_b 65) 94 = .ok (.l2i, 1) := by decide +kernel
theorem d65_95 : decode (ai_b 65) 95 = .ok (.istore 10, 2) := by decide +kernel
theorem d65_97 : decode (ai_b 65) 97 = .ok (.aload_n 0, 1) := by decide +kernel
theorem d65_98 : decode (ai_b 65) 98 = .ok (.iload 6, 2) := by decide +kernel
theorem d65_100 : decode (ai_b 65) 100 = .ok (.iload 7, 2) := by decide +kernel
theorem d65_102 : decode (ai_b 65) 102 = .ok (.iload 8, 2) := by decide +kernel
theorem d65_104 : decode (ai_b 65) 104 = .ok (.iload 9, 2) := by decide +kernel
theorem d65_106 : decode (ai_b 65) 106 = .ok (.iload 10, 2) := by decide +kernel
theorem d65_108 : decode (ai_b 65) 108 = .ok (.invokevirtual 175, 3) := by decide +kernel
theorem d65_111 : decode (ai_b 65) 111 = .ok (.ifCond .eq 6, 3) := by decide +kernel
theorem d65_114 : decode (ai_b 65) 114 = .ok (.goto 27, 3) := by decide +kernel
theorem d65_117 : decode (ai_b 65) 117 = .ok (.aload_n 0, 1) := by decide +kernel
theorem d65_118 : decode (ai_b 65) 118 = .ok (.iload 6, 2) := by decide +kernel
theorem d65_120 : decode (ai_b 65) 120 = .ok (.iload 7, 2) := by decide +kernel
theorem d65_122 : decode (ai_b 65) 122 = .ok (.iload 8, 2) := by decide +kernel
theorem d65_124 : decode (ai_b 65) 124 = .ok (.iload 9, 2) := by decide +kernel
theorem d65_126 : decode (ai_b 65) 126 = .ok (.iload 10, 2) := by decide +kernel
theorem d65_128 : decode (ai_b 65) 128 = .ok (.invokevirtual 179, 3) := by decide +kernel
theorem d65_131 : decode (ai_b 65) 131 = .ok (.pop, 1) := by decide +kernel
theorem d65_132 : decode (ai_b 65) 132 = .ok (.iinc 4 1, 3) := by decide +kernel
theorem d65_135 : decode (ai_b 65) 135 = .ok (.iinc 5 5, 3) := by decide +kernel
theorem d65_138 : decode (ai_b 65) 138 = .ok (.goto (-109), 3) := by decide +kernel
theorem d65_141 : decode (ai_b 65) 141 = .ok (.iload 4, 2) := by decide +kernel
theorem d65_143 : decode (ai_b 65) 143 = .ok (.ireturn, 1) := by decide +kernel
theorem d66_0 : decode (ai_b 66) 0 = .ok (.aload_n 0, 1) := by decide +kernel
theorem d66_1 : decode (ai_b 66) 1 = .ok (.iload_n 1, 1) := by decide +kernel
theorem d66_2 : decode (ai_b 66) 2 = .ok (.invokevirtual 182, 3) := by decide +kernel
theorem d66_5 : decode (ai_b 66) 5 = .ok (.ifCond .ne 9, 3) := by decide +kernel
theorem d66_8 : decode (ai_b 66) 8 = .ok (.aload_n 0, 1) := by decide +kernel
theorem d66_9 : decode (ai_b 66) 9 = .ok (.iconst (-1), 1) := by decide +kernel
theorem d66_10 : decode (ai_b 66) 10 = .ok (.invokevirtual 99, 3) := by decide +kernel
theorem d66_13 : decode (ai_b 66) 13 = .ok (.ireturn, 1) := by decide +kernel
theorem d66_14 : decode (ai_b 66) 14 = .ok (.aload_n 0, 1) := by decide +kernel
theorem d66_15 : decode (ai_b 66) 15 = .ok (.getfield 23, 3) := by decide +kernel
theorem d66_18 : decode (ai_b 66) 18 = .ok (.iload_n 1, 1) := by decide +kernel
theorem d66_19 : decode (ai_b 66) 19 = .ok (.aaload, 1) := by decide +kernel
theorem d66_20 : decode (ai_b 66) 20 = .ok (.iconst 0, 1) := by decide +kernel
theorem d66_21 : decode (ai_b 66) 21 = .ok (.putfield 185, 3) := by decide +kernel
theorem d66_24 : decode (ai_b 66) 24 = .ok (.iconst 1, 1) := by decide +kernel
theorem d66_25 : decode (ai_b 66) 25 = .ok (.ireturn, 1) := by decide +kernel
theorem d67_0 : decode (ai_b 67) 0 = .ok (.aload_n 0, 1) := by decide +kernel
theorem d67_1 : decode (ai_b 67) 1 = .ok (.iload_n 1, 1) := by decide +kernel
theorem d67_2 : decode (ai_b 67) 2 = .ok (.invokevirtual 182, 3) := by decide +kernel
theorem d67_5 : decode (ai_b 67) 5 = .ok (.ifCond .ne 9, 3) := by decide +kernel
theorem d67_8 : decode (ai_b 67) 8 = .ok (.aload_n 0, 1) := by decide +kernel
theorem d67_9 : decode (ai_b 67) 9 = .ok (.iconst (-1), 1) := by decide +kernel
theorem d67_10 : decode (ai_b 67) 10 = .ok (.invokevirtual 99, 3) := by decide +kernel
theorem d67_13 : decode (ai_b 67) 13 = .ok (.ireturn, 1) := by decide +kernel
theorem d67_14 : decode (ai_b 67) 14 = .ok (.aload_n 0, 1) := by decide +kernel
theorem d67_15 : decode (ai_b 67) 15 = .ok (.getfield 23, 3) := by decide +kernel
theorem d67_18 : decode (ai_b 67) 18 = .ok (.iload_n 1, 1) := by decide +kernel
theorem d67_19 : decode (ai_b 67) 19 = .ok (.aaload, 1) := by decide +kernel
theorem d67_20 : decode (ai_b 67) 20 = .ok (.getfield 188, 3) := by decide +kernel
theorem d67_23 : decode (ai_b 67) 23 = .ok (.istore_n 2, 1) := by decide +kernel
theorem d67_24 : decode (ai_b 67) 24 = .ok (.aload_n 0, 1) := by decide +kernel
theorem d67_25 : decode (ai_b 67) 25 = .ok (.getfield 23, 3) := by decide +kernel
theorem d67_28 : decode (ai_b 67) 28 = .ok (.iload_n 1, 1) := by decide +kernel
theorem d67_29 : decode (ai_b 67) 29 = .ok (.aaload, 1) := by decide +kernel
theorem d67_30 : decode (ai_b 67) 30 = .ok (.iconst 1, 1) := by decide +kernel
theorem d67_31 : decode (ai_b 67) 31 = .ok (.putfield 191, 3) := by decide +kernel
theorem d67_34 : decode (ai_b 67) 34 = .ok (.aload_n 0, 1) := by decide +kernel
theorem d67_35 : decode (ai_b 67) 35 = .ok (.getfield 23, 3) := by decide +kernel
theorem d67_38 : decode (ai_b 67) 38 = .ok (.iload_n 1, 1) := by decide +kernel
theorem d67_39 : decode (ai_b 67) 39 = .ok (.aaload, 1) := by decide +kernel
theorem d67_40 : decode (ai_b 67) 40 = .ok (.iconst 0, 1) := by decide +kernel
theorem d67_41 : decode (ai_b 67) 41 = .ok (.putfield 188, 3) := by decide +kernel
theorem d67_44 : decode (ai_b 67) 44 = .ok (.iconst 0, 1) := by decide +kernel
theorem d67_45 : decode (ai_b 67) 45 = .ok (.istore_n 3, 1) := by decide +kernel
theorem d67_46 : decode (ai_b 67) 46 = .ok (.iload_n 3, 1) := by decide +kernel
theorem d67_47 : decode (ai_b 67) 47 = .ok (.aload_n 0, 1) := by decide +kernel
theorem d67_48 : decode (ai_b 67) 48 = .ok (.getfield 29, 3) := by decide +kernel
theorem d67_51 : decode (ai_b 67) 51 = .ok (.arraylength, 1) := by decide +kernel
theorem d67_52 : decode (ai_b 67) 52 = .ok (.if_icmp .ge 19, 3) := by decide +kernel
theorem d67_55 : decode (ai_b 67) 55 = .ok (.aload_n 0, 1) := by decide +kernel
theorem d67_56 : decode (ai_b 67) 56 = .ok (.getfield 29, 3) := by decide +kernel
theorem d67_59 : decode (ai_b 67) 59 = .ok (.iload_n 3, 1) := by decide +kernel
theorem d67_60 : decode (ai_b 67) 60 = .ok (.aaload, 1) := by decide +kernel
theorem d67_61 : decode (ai_b 67) 61 = .ok (.iload_n 1, 1) := by decide +kernel
theorem d67_62 : decode (ai_b 67) 62 = .ok (.invokevirtual 195, 3) := by decide +kernel
theorem d67_65 : decode (ai_b 67) 65 = .ok (.iinc 3 1, 3) := by decide +kernel
theorem d67_68 : decode (ai_b 67) 68 = .ok (.goto (-22), 3) := by decide +kernel
theorem d67_71 : decode (ai_b 67) 71 = .ok (.aload_n 0, 1) := by decide +kernel
theorem d67_72 : decode (ai_b 67) 72 = .ok (.invokevirtual 198, 3) := by decide +kernel
theorem d67_75 : decode (ai_b 67) 75 = .ok (.iload_n 2, 1) := by decide +kernel
theorem d67_76 : decode (ai_b 67) 76 = .ok (.ireturn, 1) := by decide +kernel
theorem d68_0 : decode (ai_b 68) 0 = .ok (.iload_n 1, 1) := by decide +kernel
theorem d68_1 : decode (ai_b 68) 1 = .ok (.ifCond .ne 22, 3) := by decide +kernel
theorem d68_4 : decode (ai_b 68) 4 = .ok (.iload_n 2, 1) := by decide +kernel
theorem d68_5 : decode (ai_b 68) 5 = .ok (.iconst 1, 1) := by decide +kernel
theorem d68_6 : decode (ai_b 68) 6 = .ok (.if_icmp .lt 17, 3) := by decide +kernel
theorem d68_9 : decode (ai_b 68) 9 = .ok (.iload_n 2, 1) := by decide +kernel
theorem d68_10 : decode (ai_b 68) 10 = .ok (.sipush 1000, 3) := by decide +kernel
theorem d68_13 : decode (ai_b 68) 13 = .ok (.if_icmp .gt 10, 3) := by decide +kernel
theorem d68_16 : decode (ai_b 68) 16 = .ok (.aload_n 0, 1) := by decide +kernel
theorem d68_17 : decode (ai_b 68) 17 = .ok (.iload_n 2, 1) := by decide +kernel
theorem d68_18 : decode (ai_b 68) 18 = .ok (.putfield 43, 3) := by decide +kernel
theorem d68_21 : decode (ai_b 68) 21 = .ok (.iconst 1, 1) := by decide +kernel
theorem d68_22 : decode (ai_b 68) 22 = .ok (.ireturn, 1) := by decide +kernel
theorem d68_23 : decode (ai_b 68) 23 = .ok (.iload_n 1, 1) := by decide +kernel
theorem d68_24 : decode (ai_b 68) 24 = .ok (.iconst 1, 1) := by decide +kernel
theorem d68_25 : decode (ai_b 68) 25 = .ok (.if_icmp .ne 21, 3) := by decide +kernel
theorem d68_28 : decode (ai_b 68) 28 = .ok (.iload_n 2, 1) := by decide +kernel
theorem d68_29 : decode (ai_b 68) 29 = .ok (.iconst 1, 1) := by decide +kernel
theorem d68_30 : decode (ai_b 68) 30 = .ok (.if_icmp .lt 16, 3) := by decide +kernel
theorem d68_33 : decode (ai_b 68) 33 = .ok (.iload_n 2, 1) := by decide +kernel
theorem d68_34 : decode (ai_b 68) 34 = .ok (.bipush 24, 2) := by decide +kernel
theorem d68_36 : decode (ai_b 68) 36 = .ok (.if_icmp .gt 10, 3) := by decide +kernel
theorem d68_39 : decode (ai_b 68) 39 = .ok (.aload_n 0, 1) := by decide +kernel
theorem d68_40 : decode (ai_b 68) 40 = .ok (.iload_n 2, 1) := by decide +kernel
theorem d68_41 : decode (ai_b 68) 41 = .ok (.putfield 46, 3) := by decide +kernel
theorem d68_44 : decode (ai_b 68) 44 = .ok (.iconst 1, 1) := by decide +kernel
theorem d68_45 : decode (ai_b 68) 45 = .ok (.ireturn, 1) := by decide +kernel
theorem d68_46 : decode (ai_b 68) 46 = .ok (.iload_n 1, 1) := by decide +kernel
theorem d68_47 : decode (ai_b 68) 47 = .ok (.iconst 2, 1) := by decide +kernel
theorem d68_48 : decode (ai_b 68) 48 = .ok (.if_icmp .ne 20, 3) := by decide +kernel
theorem d68_51 : decode (ai_b 68) 51 = .ok (.iload_n 2, 1) := by decide +kernel
theorem d68_52 : decode (ai_b 68) 52 = .ok (.ifCond .lt 16, 3) := by decide +kernel
theorem d68_55 : decode (ai_b 68) 55 = .ok (.iload_n 2, 1) := by decide +kernel
theorem d68_56 : decode (ai_b 68) 56 = .ok (.bipush 100, 2) := by decide +kernel
theorem d68_58 : decode (ai_b 68) 58 = .ok (.if_icmp .gt 10, 3) := by decide +kernel
theorem d68_61 : decode (ai_b 68) 61 = .ok (.aload_n 0, 1) := by decide +kernel
theorem d68_62 : decode (ai_b 68) 62 = .ok (.iload_n 2, 1) := by decide +kernel
theorem d68_63 : decode (ai_b 68) 63 = .ok (.putfield 49, 3) := by decide +kernel
theorem d68_66 : decode (ai_b 68) 66 = .ok (.iconst 1, 1) := by decide +kernel
theorem d68_67 : decode (ai_b 68) 67 = .ok (.ireturn, 1) := by decide +kernel
theorem d68_68 : decode (ai_b 68) 68 = .ok (.aload_n 0, 1) := by decide +kernel
theorem d68_69 : decode (ai_b 68) 69 = .ok (.bipush (-6), 2) := by decide +kernel
theorem d68_71 : decode (ai_b 68) 71 = .ok (.invokevirtual 99, 3) := by decide +kernel
theorem d68_74 : decode (ai_b 68) 74 = .ok (.ireturn, 1) := by decide +kernel
theorem d69_0 : decode (ai_b 69) 0 = .ok (.aload_n 0, 1) := by decide +kernel
theorem d69_1 : decode (ai_b 69) 1 = .ok (.iload_n 1, 1) := by decide +kernel
theorem d69_2 : decode (ai_b 69) 2 = .ok (.invokevirtual 182, 3) := by decide +kernel
theorem d69_5 : decode (ai_b 69) 5 = .ok (.ifCond .eq 12, 3) := by decide +kernel
theorem d69_8 : decode (ai_b 69) 8 = .ok (.aload_n 0, 1) := by decide +kernel
theorem d69_9 : decode (ai_b 69) 9 = .ok (.iload_n 2, 1) := by decide +kernel
theorem d69_10 : decode (ai_b 69) 10 = .ok (.iload_n 3, 1) := by decide +kernel
theorem d69_11 : decode (ai_b 69) 11 = .ok (.invokevirtual 165, 3) := by decide +kernel
theorem d69_14 : decode (ai_b 69) 14 = .ok (.ifCond .ne 5, 3) := by decide +kernel
theorem d69_17 : decode (ai_b 69) 17 = .ok (.iconst (-1), 1) := by decide +kernel
theorem d69_18 : decode (ai_b 69) 18 = .ok (.ireturn, 1) := by decide +kernel
theorem d69_19 : decode (ai_b 69) 19 = .ok (.aload_n 0, 1) := by decide +kernel
theorem d69_20 : decode (ai_b 69) 20 = .ok (.iload_n 2, 1) := by decide +kernel
theorem d69_21 : decode (ai_b 69) 21 = .ok (.iload_n 3, 1) := by decide +kernel
theorem d69_22 : decode (ai_b 69) 22 = .ok (.invokevirtual 168, 3) := by decide +kernel
theorem d69_25 : decode (ai_b 69) 25 = .ok (.astore 4, 2) := by decide +kernel
theorem d69_27 : decode (ai_b 69) 27 = .ok (.aload 4, 2) := by decide +kernel
theorem d69_29 : decode (ai_b 69) 29 = .ok (.iload_n 1, 1) := by decide +kernel
theorem d69_30 : decode (ai_b 69) 30 = .ok (.invokevirtual 201, 3) := by decide +kernel
theorem d69_33 : decode (ai_b 69) 33 = .ok (.istore 5, 2) := by decide +kernel
theorem d69_35 : decode (ai_b 69) 35 = .ok (.iload 5, 2) := by decide +kernel
theorem d69_37 : decode (ai_b 69) 37 = .ok (.ifCond .ne 15, 3) := by decide +kernel
theorem d69_40 : decode (ai_b 69) 40 = .ok (.aload_n 0, 1) := by decide +kernel
theorem d69_41 : decode (ai_b 69) 41 = .ok (.aload 4, 2) := by decide +kernel
theorem d69_43 : decode (ai_b 69) 43 = .ok (.iload_n 1, 1) := by decide +kernel
theorem d69_44 : decode (ai_b 69) 44 = .ok (.invokevirtual 204, 3) := by decide +kernel
theorem d69_47 : decode (ai_b 69) 47 = .ok (.ifCond .ne 5, 3) := by decide +kernel
theorem d69_50 : decode (ai_b 69) 50 = .ok (.iconst 3, 1) := by decide +kernel
theorem d69_51 : decode (ai_b 69) 51 = .ok (.ireturn, 1) := by decide +kernel
theorem d69_52 : decode (ai_b 69) 52 = .ok (.iload 5, 2) := by decide +kernel
theorem d69_54 : decode (ai_b 69) 54 = .ok (.ireturn, 1) := by decide +kernel
theorem d70_0 : decode (ai_b 70) 0 = .ok (.aload_n 0, 1) := by decide +kernel
theorem d70_1 : decode (ai_b 70) 1 = .ok (.iload_n 1, 1) := by decide +kernel
theorem d70_2 : decode (ai_b 70) 2 = .ok (.invokevirtual 182, 3) := by decide +kernel
theorem d70_5 : decode (ai_b 70) 5 = .ok (.ifCond .eq 15, 3) := by decide +kernel
theorem d70_8 : decode (ai_b 70) 8 = .ok (.aload_n 0, 1) := by decide +kernel
theorem d70_9 : decode (ai_b 70) 9 = .ok (.getfield 23, 3) := by decide +kernel
theorem d70_12 : decode (ai_b 70) 12 = .ok (.iload_n 1, 1) := by decide +kernel
theorem d70_13 : decode (ai_b 70) 13 = .ok (.aaload, 1) := by decide +kernel
theorem d70_14 : decode (ai_b 70) 14 = .ok (.getfield 208, 3) := by decide +kernel
theorem d70_17 : decode (ai_b 70) 17 = .ok (.goto 4, 3) := by decide +kernel
theorem d70_20 : decode (ai_b 70) 20 = .ok (.iconst (-1), 1) := by decide +kernel
theorem d70_21 : decode (ai_b 70) 21 = .ok (.ireturn, 1) := by decide +kernel
theorem d71_0 : decode (ai_b 71) 0 = .ok (.aload_n 0, 1) := by decide +kernel
theorem d71_1 : decode (ai_b 71) 1 = .ok (.iload_n 1, 1) := by decide +kernel
theorem d71_2 : decode (ai_b 71) 2 = .ok (.iload_n 2, 1) := by decide +kernel
theorem d71_3 : decode (ai_b 71) 3 = .ok (.invokevirtual 165, 3) := by decide +kernel
theorem d71_6 : decode (ai_b 71) 6 = .ok (.ifCond .eq 16, 3) := by decide +kernel
theorem d71_9 : decode (ai_b 71) 9 = .ok (.aload_n 0, 1) := by decide +kernel
theorem d71_10 : decode (ai_b 71) 10 = .ok (.aload_n 0, 1) := by decide +kernel
theorem d71_11 : decode (ai_b 71) 11 = .ok (.iload_n 1, 1) := by decide +kernel
theorem d71_12 : decode (ai_b 71) 12 = .ok (.iload_n 2, 1) := by decide +kernel
theorem d71_13 : decode (ai_b 71) 13 = .ok (.invokevirtual 168, 3) := by decide +kernel
theorem d71_16 : decode (ai_b 71) 16 = .ok (.invokevirtual 211, 3) := by decide +kernel
theorem d71_19 : decode (ai_b 71) 19 = .ok (.goto 4, 3) := by decide +kernel
theorem d71_22 : decode (ai_b 71) 22 = .ok (.iconst (-1), 1) := by decide +kernel
theorem d71_23 : decode (ai_b 71) 23 = .ok (.ireturn, 1) := by decide +kernel
theorem d72_0 : decode (ai_b 72) 0 = .ok (.iconst 0, 1) := by decide +kernel
theorem d72_1 : decode (ai_b 72) 1 = .ok (.istore_n 2, 1) := by decide +kernel
theorem d72_2 : decode (ai_b 72) 2 = .ok (.iload_n 2, 1) := by decide +kernel
theorem d72_3 : decode (ai_b 72) 3 = .ok (.aload_n 0, 1) := by decide +kernel
theorem d72_4 : decode (ai_b 72) 4 = .ok (.getfield 29, 3) := by decide +kernel
theorem d72_7 : decode (ai_b 72) 7 = .ok (.arraylength, 1) := by decide +kernel
theorem d72_8 : decode (ai_b 72) 8 = .ok (.if_icmp .ge 19, 3) := by decide +kernel
theorem d72_11 : decode (ai_b 72) 11 = .ok (.aload_n 0, 1) := by decide +kernel
theorem d72_12 : decode (ai_b 72) 12 = .ok (.getfield 29, 3) := by decide +kernel
theorem d72_15 : decode (ai_b 72) 15 = .ok (.iload_n 2, 1) := by decide +kernel
theorem d72_16 : decode (ai_b 72) 16 = .ok (.aaload, 1) := by decide +kernel
theorem d72_17 : decode (ai_b 72) 17 = .ok (.iconst (-1), 1) := by decide +kernel
theorem d72_18 : decode (ai_b 72) 18 = .ok (.putfield 215, 3) := by decide +kernel
theorem d72_21 : decode (ai_b 72) 21 = .ok (.iinc 2 1, 3) := by decide +kernel
theorem d72_24 : decode (ai_b 72) 24 = .ok (.goto (-22), 3) := by decide +kernel
theorem d72_27 : decode (ai_b 72) 27 = .ok (.aload_n 0, 1) := by decide +kernel
theorem d72_28 : decode (ai_b 72) 28 = .ok (.invokevirtual 218, 3) := by decide +kernel
theorem d72_31 : decode (ai_b 72) 31 = .ok (.aload_n 0, 1) := by decide +kernel
theorem d72_32 : decode (ai_b 72) 32 = .ok (.iconst 0, 1) := by decide +kernel
theorem d72_33 : decode (ai_b 72) 33 = .ok (.putfield 56, 3) := by decide +kernel
theorem d72_36 : decode (ai_b 72) 36 = .ok (.iload_n 1, 1) := by decide +kernel
theorem d72_37 : decode (ai_b 72) 37 = .ok (.ifCond .ne 7, 3) := by decide +kernel
theorem d72_40 : decode (ai_b 72) 40 = .ok (.iconst 1, 1) := by decide +kernel
theorem d72_41 : decode (ai_b 72) 41 = .ok (.goto 4, 3) := by decide +kernel
theorem d72_44 : decode (ai_b 72) 44 = .ok (.iconst 0, 1) := by decide +kernel
theorem d72_45 : decode (ai_b 72) 45 = .ok (.istore_n 2, 1) := by decide +kernel
theorem d72_46 : decode (ai_b 72) 46 = .ok (.iconst 0, 1) := by decide +kernel
theorem d72_47 : decode (ai_b 72) 47 = .ok (.istore_n 3, 1) := by decide +kernel
theorem d72_48 : decode (ai_b 72) 48 = .ok (.iload_n 3, 1) := by decide +kernel
theorem d72_49 : decode (ai_b 72) 49 = .ok (.bipush 30, 2) := by decide +kernel
theorem d72_51 : decode (ai_b 72) 51 = .ok (.if_icmp .ge 45, 3) := by decide +kernel
theorem d72_54 : decode (ai_b 72) 54 = .ok (.iload_n 2, 1) := by decide +kernel
theorem d72_55 : decode (ai_b 72) 55 = .ok (.ifCond .eq 41, 3) := by decide +kernel
theorem d72_58 : decode (ai_b 72) 58 = .ok (.aload_n 0, 1) := by decide +kernel
theorem d72_59 : decode (ai_b 72) 59 = .ok (.getfield 52, 3) := by decide +kernel
theorem d72_62 : decode (ai_b 72) 62 = .ok (.iload_n 3, 1) := by decide +kernel
theorem d72_63 : decode (ai_b 72) 63 = .ok (.aload_n 0, 1) := by decide +kernel
theorem d72_64 : decode (ai_b 72) 64 = .ok (.invokevirtual 221, 3) := by decide +kernel
theorem d72_67 : decode (ai_b 72) 67 = .ok (.iastore, 1) := by decide +kernel
theorem d72_68 : decode (ai_b 72) 68 = .ok (.aload_n 0, 1) := by decide +kernel
theorem d72_69 : decode (ai_b 72) 69 = .ok (.iload_n 3, 1) := by decide +kernel
theorem d72_70 : decode (ai_b 72) 70 = .ok (.iconst 1, 1) := by decide +kernel
theorem d72_71 : decode (ai_b 72) 71 = .ok (.iadd, 1) := by decide +kernel
theorem d72_72 : decode (ai_b 72) 72 = .ok (.putfield 56, 3) := by decide +kernel
theorem d72_75 : decode (ai_b 72) 75 = .ok (.aload_n 0, 1) := by decide +kernel
theorem d72_76 : decode (ai_b 72) 76 = .ok (.getfield 52, 3) := by decide +kernel
theorem d72_79 : decode (ai_b 72) 79 = .ok (.iload_n 3, 1) := by decide +kernel
theorem d72_80 : decode (ai_b 72) 80 = .ok (.iaload, 1) := by decide +kernel
theorem d72_81 : decode (ai_b 72) 81 = .ok (.ifCond .le 7, 3) := by decide +kernel
theorem d72_84 : decode (ai_b 72) 84 = .ok (.iconst 1, 1) := by decide +kernel
theorem d72_85 : decode (ai_b 72) 85 = .ok (.goto 4, 3) := by decide +kernel
theorem d72_88 : decode (ai_b 72) 88 = .ok (.iconst 0, 1) := by decide +kernel
theorem d72_89 : decode (ai_b 72) 89 = .ok (.istore_n 2, 1) := by decide +kernel
theorem d72_90 : decode (ai_b 72) 90 = .ok (.iinc 3 1, 3) := by decide +kernel
theorem d72_93 : decode (ai_b 72) 93 = .ok (.goto (-45), 3) := by decide +kernel
theorem d72_96 : decode (ai_b 72) 96 = .ok (.aload_n 0, 1) := by decide +kernel
theorem d72_97 : decode (ai_b 72) 97 = .ok (.getfield 56, 3) := by decide +kernel
theorem d72_100 : decode (ai_b 72) 100 = .ok (.ireturn, 1) := by decide +kernel
theorem d73_0 : decode (ai_b 73) 0 = .ok (.iload_n 1, 1) := by decide +kernel
theorem d73_1 : decode (ai_b 73) 1 = .ok (.ifCond .lt 29, 3) := by decide +kernel
theorem d73_4 : decode (ai_b 73) 4 = .ok (.iload_n 1, 1) := by decide +kernel
theorem d73_5 : decode (ai_b 73) 5 = .ok (.aload_n 0, 1) := by decide +kernel
theorem d73_6 : decode (ai_b 73) 6 = .ok (.getfield 56, 3) := by decide +kernel
theorem d73_9 : decode (ai_b 73) 9 = .ok (.if_icmp .ge 21, 3) := by decide +kernel
theorem d73_12 : decode (ai_b 73) 12 = .ok (.iload_n 1, 1) := by decide +kernel
theorem d73_13 : decode (ai_b 73) 13 = .ok (.aload_n 0, 1) := by decide +kernel
theorem d73_14 : decode (ai_b 73) 14 = .ok (.getfield 52, 3) := by decide +kernel
theorem d73_17 : decode (ai_b 73) 17 = .ok (.arraylength, 1) := by decide +kernel
theorem d73_18 : decode (ai_b 73) 18 = .ok (.if_icmp .ge 12, 3) := by decide +kernel
theorem d73_21 : decode (ai_b 73) 21 = .ok (.aload_n 0, 1) := by decide +kernel
theorem d73_22 : decode (ai_b 73) 22 = .ok (.getfield 52, 3) := by decide +kernel
theorem d73_25 : decode (ai_b 73) 25 = .ok (.iload_n 1, 1) := by decide +kernel
theorem d73_26 : decode (ai_b 73) 26 = .ok (.iaload, 1) := by decide +kernel
theorem d73_27 : decode (ai_b 73) 27 = .ok (.goto 4, 3) := by decide +kernel
theorem d73_30 : decode (ai_b 73) 30 = .ok (.iconst (-1), 1) := by decide +kernel
theorem d73_31 : decode (ai_b 73) 31 = .ok (.ireturn, 1) := by decide +kernel
theorem d74_0 : decode (ai_b 74) 0 = .ok (.aload_n 0, 1) := by decide +kernel
theorem d74_1 : decode (ai_b 74) 1 = .ok (.iload_n 1, 1) := by decide +kernel
theorem d74_2 : decode (ai_b 74) 2 = .ok (.iload_n 2, 1) := by decide +kernel
theorem d74_3 : decode (ai_b 74) 3 = .ok (.invokevirtual 165, 3) := by decide +kernel
theorem d74_6 : decode (ai_b 74) 6 = .ok (.ifCond .eq 15, 3) := by decide +kernel
theorem d74_9 : decode (ai_b 74) 9 = .ok (.aload_n 0, 1) := by decide +kernel
theorem d74_10 : decode (ai_b 74) 10 = .ok (.iload_n 1, 1) := by decide +kernel
theorem d74_11 : decode (ai_b 74) 11 = .ok (.iload_n 2, 1) := by decide +kernel
theorem d74_12 : decode (ai_b 74) 12 = .ok (.invokevirtual 168, 3) := by decide +kernel
theorem d74_15 : decode (ai_b 74) 15 = .ok (.getfield 215, 3) := by decide +kernel
theorem d74_18 : decode (ai_b 74) 18 = .ok (.goto 4, 3) := by decide +kernel
theorem d74_21 : decode (ai_b 74) 21 = .ok (.iconst (-1), 1) := by decide +kernel
theorem d74_22 : decode (ai_b 74) 22 = .ok (.ireturn, 1) := by decide +kernel
theorem d75_0 : decode (ai_b 75) 0 = .ok (.aload_n 0, 1) := by decide +kernel
theorem d75_1 : decode (ai_b 75) 1 = .ok (.iload_n 1, 1) := by decide +kernel
theorem d75_2 : decode (ai_b 75) 2 = .ok (.invokevirtual 182, 3) := by decide +kernel
theorem d75_5 : decode (ai_b 75) 5 = .ok (.ifCond .eq 22, 3) := by decide +kernel
theorem d75_8 : decode (ai_b 75) 8 = .ok (.aload_n 0, 1) := by decide +kernel
theorem d75_9 : decode (ai_b 75) 9 = .ok (.iload_n 2, 1) := by decide +kernel
theorem d75_10 : decode (ai_b 75) 10 = .ok (.iload_n 3, 1) := by decide +kernel
theorem d75_11 : decode (ai_b 75) 11 = .ok (.invokevirtual 153, 3) := by decide +kernel
theorem d75_14 : decode (ai_b 75) 14 = .ok (.ifCond .eq 13, 3) := by decide +kernel
theorem d75_17 : decode (ai_b 75) 17 = .ok (.aload_n 0, 1) := by decide +kernel
theorem d75_18 : decode (ai_b 75) 18 = .ok (.iload_n 2, 1) := by decide +kernel
theorem d75_19 : decode (ai_b 75) 19 = .ok (.iload 4, 2) := by decide +kernel
theorem d75_21 : decode (ai_b 75) 21 = .ok (.invokevirtual 153, 3) := by decide +kernel
theorem d75_24 : decode (ai_b 75) 24 = .ok (.ifCond .ne 5, 3) := by decide +kernel
theorem d75_27 : decode (ai_b 75) 27 = .ok (.iconst 0, 1) := by decide +kernel
theorem d75_28 : decode (ai_b 75) 28 = .ok (.ireturn, 1) := by decide +kernel
theorem d75_29 : decode (ai_b 75) 29 = .ok (.aload_n 0, 1) := by decide +kernel
theorem d75_30 : decode (ai_b 75) 30 = .ok (.getfield 23, 3) := by decide +kernel
theorem d75_33 : decode (ai_b 75) 33 = .ok (.iload_n 1, 1) := by decide +kernel
theorem d75_34 : decode (ai_b 75) 34 = .ok (.aaload, 1) := by decide +kernel
theorem d75_35 : decode (ai_b 75) 35 = .ok (.iload_n 2, 1) := by decide +kernel
theorem d75_36 : decode (ai_b 75) 36 = .ok (.iload_n 3, 1) := by decide +kernel
theorem d75_37 : decode (ai_b 75) 37 = .ok (.iload 4, 2) := by decide +kernel
theorem d75_39 : decode (ai_b 75) 39 = .ok (.invokevirtual 225, 3) := by decide +kernel
theorem d75_42 : decode (ai_b 75) 42 = .ok (.ireturn, 1) := by decide +kernel
theorem d76_0 : decode (ai_b 76) 0 = .ok (.aload_n 0, 1) := by decide +kernel
theorem d76_1 : decode (ai_b 76) 1 = .ok (.iload_n 1, 1) := by decide +kernel
theorem d76_2 : decode (ai_b 76) 2 = .ok (.invokevirtual 182, 3) := by decide +kernel
theorem d76_5 : decode (ai_b 76) 5 = .ok (.ifCond .eq 12, 3) := by decide +kernel
theorem d76_8 : decode (ai_b 76) 8 = .ok (.aload_n 0, 1) := by decide +kernel
theorem d76_9 : decode (ai_b 76) 9 = .ok (.iload_n 2, 1) := by decide +kernel
theorem d76_10 : decode (ai_b 76) 10 = .ok (.iload_n 3, 1) := by decide +kernel
theorem d76_11 : decode (ai_b 76) 11 = .ok (.invokevirtual 153, 3) := by decide +kernel
theorem d76_14 : decode (ai_b 76) 14 = .ok (.ifCond .ne 5, 3) := by decide +kernel
theorem d76_17 : decode (ai_b 76) 17 = .ok (.iconst 0, 1) := by decide +kernel
theorem d76_18 : decode (ai_b 76) 18 = .ok (.ireturn, 1) := by decide +kernel
theorem d76_19 : decode (ai_b 76) 19 = .ok (.aload_n 0, 1) := by decide +kernel
theorem d76_20 : decode (ai_b 76) 20 = .ok (.getfield 23, 3) := by decide +kernel
theorem d76_23 : decode (ai_b 76) 23 = .ok (.iload_n 1, 1) := by decide +kernel
theorem d76_24 : decode (ai_b 76) 24 = .ok (.aaload, 1) := by decide +kernel
theorem d76_25 : decode (ai_b 76) 25 = .ok (.iload_n 2, 1) := by decide +kernel
theorem d76_26 : decode (ai_b 76) 26 = .ok (.iload_n 3, 1) := by decide +kernel
theorem d76_27 : decode (ai_b 76) 27 = .ok (.aload_n 0, 1) := by decide +kernel
theorem d76_28 : decode (ai_b 76) 28 = .ok (.getfield 17, 3) := by decide +kernel
theorem d76_31 : decode (ai_b 76) 31 = .ok (.iload_n 2, 1) := by decide +kernel
theorem d76_32 : decode (ai_b 76) 32 = .ok (.aaload, 1) := by decide +kernel
theorem d76_33 : decode (ai_b 76) 33 = .ok (.getfield 156, 3) := by decide +kernel
theorem d76_36 : decode (ai_b 76) 36 = .ok (.invokevirtual 229, 3) := by decide +kernel
theorem d76_39 : decode (ai_b 76) 39 = .ok (.ireturn, 1) := by decide +kernel
theorem d77_0 : decode (ai_b 77) 0 = .ok (.aload_n 0, 1) := by decide +kernel
theorem d77_1 : decode (ai_b 77) 1 = .ok (.iload_n 1, 1) := by decide +kernel
theorem d77_2 : decode (ai_b 77) 2 = .ok (.iload_n 2, 1) := by decide +kernel
theorem d77_3 : decode (ai_b 77) 3 = .ok (.invokevirtual 165, 3) := by decide +kernel
theorem d77_6 : decode (ai_b 77) 6 = .ok (.ifCond .eq 12, 3) := by decide +kernel
theorem d77_9 : decode (ai_b 77) 9 = .ok (.aload_n 0, 1) := by decide +kernel
theorem d77_10 : decode (ai_b 77) 10 = .ok (.iload_n 2, 1) := by decide +kernel
theorem d77_11 : decode (ai_b 77) 11 = .ok (.iload_n 3, 1) := by decide +kernel
theorem d77_12 : decode (ai_b 77) 12 = .ok (.invokevirtual 153, 3) := by decide +kernel
theorem d77_15 : decode (ai_b 77) 15 = .ok (.ifCond .ne 5, 3) := by decide +kernel
theorem d77_18 : decode (ai_b 77) 18 = .ok (.iconst (-1), 1) := by decide +kernel
theorem d77_19 : decode (ai_b 77) 19 = .ok (.ireturn, 1) := by decide +kernel
theorem d77_20 : decode (ai_b 77) 20 = .ok (.aload_n 0, 1) := by decide +kernel
theorem d77_21 : decode (ai_b 77) 21 = .ok (.iload_n 1, 1) := by decide +kernel
theorem d77_22 : decode (ai_b 77) 22 = .ok (.iload_n 2, 1) := by decide +kernel
theorem d77_23 : decode (ai_b 77) 23 = .ok (.invokevirtual 232, 3) := by decide +kernel
theorem d77_26 : decode (ai_b 77) 26 = .ok (.aload_n 0, 1) := by decide +kernel
theorem d77_27 : decode (ai_b 77) 27 = .ok (.getfield 81, 3) := by decide +kernel
theorem d77_30 : decode (ai_b 77) 30 = .ok (.aload_n 0, 1) := by decide +kernel
theorem d77_31 : decode (ai_b 77) 31 = .ok (.getfield 65, 3) := by decide +kernel
theorem d77_34 : decode (ai_b 77) 34 = .ok (.getfield 235, 3) := by decide +kernel
theorem d77_37 : decode (ai_b 77) 37 = .ok (.iload_n 3, 1) := by decide +kernel
theorem d77_38 : decode (ai_b 77) 38 = .ok (.aaload, 1) := by decide +kernel
theorem d77_39 : decode (ai_b 77) 39 = .ok (.aload_n 0, 1) := by decide +kernel
theorem d77_40 : decode (ai_b 77) 40 = .ok (.getfield 65, 3) := by decide +kernel
theorem d77_43 : decode (ai_b 77) 43 = .ok (.getfield 239, 3) := by decide +kernel
theorem d77_46 : decode (ai_b 77) 46 = .ok (.invokevirtual 242, 3) := by decide +kernel
theorem d77_49 : decode (ai_b 77) 49 = .ok (.aload_n 0, 1) := by decide +kernel
theorem d77_50 : decode (ai_b 77) 50 = .ok (.getfield 81, 3) := by decide +kernel
theorem d77_53 : decode (ai_b 77) 53 = .ok (.ldc 246, 2) := by decide +kernel
theorem d77_55 : decode (ai_b 77) 55 = .ok (.invokevirtual 247, 3) := by decide +kernel
theorem d77_58 : decode (ai_b 77) 58 = .ok (.ireturn, 1) := by decide +kernel
theorem d78_0 : decode (ai_b 78) 0 = .ok (.aload_n 0, 1) := by decide +kernel
theorem d78_1 : decode (ai_b 78) 1 = .ok (.iload_n 1, 1) := by decide +kernel
theorem d78_2 : decode (ai_b 78) 2 = .ok (.iload_n 2, 1) := by decide +kernel
theorem d78_3 : decode (ai_b 78) 3 = .ok (.invokevirtual 165, 3) := by decide +kernel
theorem d78_6 : decode (ai_b 78) 6 = .ok (.ifCond .ne 5, 3) := by decide +kernel
theorem d78_9 : decode (ai_b 78) 9 = .ok (.iconst (-1), 1) := by decide +kernel
theorem d78_10 : decode (ai_b 78) 10 = .ok (.ireturn, 1) := by decide +kernel
theorem d78_11 : decode (ai_b 78) 11 = .ok (.aload_n 0, 1) := by decide +kernel
theorem d78_12 : decode (ai_b 78) 12 = .ok (.iload_n 1, 1) := by decide +kernel
theorem d78_13 : decode (ai_b 78) 13 = .ok (.iload_n 2, 1) := by decide +kernel
theorem d78_14 : decode (ai_b 78) 14 = .ok (.invokevirtual 232, 3) := by decide +kernel
theorem d78_17 : decode (ai_b 78) 17 = .ok (.aload_n 0, 1) := by decide +kernel
theorem d78_18 : decode (ai_b 78) 18 = .ok (.getfield 65, 3) := by decide +kernel
theorem d78_21 : decode (ai_b 78) 21 = .ok (.getfield 250, 3) := by decide +kernel
theorem d78_24 : decode (ai_b 78) 24 = .ok (.ireturn, 1) := by decide +kernel
theorem d79_0 : decode (ai_b 79) 0 = .ok (.aload_n 0, 1) := by decide +kernel
theorem d79_1 : decode (ai_b 79) 1 = .ok (.iload_n 2, 1) := by decide +kernel
theorem d79_2 : decode (ai_b 79) 2 = .ok (.iload_n 3, 1) := by decide +kernel
theorem d79_3 : decode (ai_b 79) 3 = .ok (.invokevirtual 165, 3) := by decide +kernel
theorem d79_6 : decode (ai_b 79) 6 = .ok (.ifCond .ne 5, 3) := by decide +kernel
theorem d79_9 : decode (ai_b 79) 9 = .ok (.iconst 0, 1) := by decide +kernel
theorem d79_10 : decode (ai_b 79) 10 = .ok (.ireturn, 1) := by decide +kernel
theorem d79_11 : decode (ai_b 79) 11 = .ok (.iload_n 1, 1) := by decide +kernel
theorem d79_12 : decode (ai_b 79) 12 = .ok (.ifCond .ne 18, 3) := by decide +kernel
theorem d79_15 : decode (ai_b 79) 15 = .ok (.aload_n 0, 1) := by decide +kernel
theorem d79_16 : decode (ai_b 79) 16 = .ok (.iload_n 2, 1) := by decide +kernel
theorem d79_17 : decode (ai_b 79) 17 = .ok (.invokevirtual 253, 3) := by decide +kernel
theorem d79_20 : decode (ai_b 79) 20 = .ok (.aload_n 0, 1) := by decide +kernel
theorem d79_21 : decode (ai_b 79) 21 = .ok (.getfield 72, 3) := by decide +kernel
theorem d79_24 : decode (ai_b 79) 24 = .ok (.getfield 256, 3) := by decide +kernel
theorem d79_27 : decode (ai_b 79) 27 = .ok (.iload_n 3, 1) := by decide +kernel
theorem d79_28 : decode (ai_b 79) 28 = .ok (.baload, 1) := by decide +kernel
theorem d79_29 : decode (ai_b 79) 29 = .ok (.ireturn, 1) := by decide +kernel
theorem d79_30 : decode (ai_b 79) 30 = .ok (.iload_n 1, 1) := by decide +kernel
theorem d79_31 : decode (ai_b 79) 31 = .ok (.iconst 1, 1) := by decide +kernel
theorem d79_32 : decode (ai_b 79) 32 = .ok (.if_icmp .ne 20, 3) := by decide +kernel
theorem d79_35 : decode (ai_b 79) 35 = .ok (.aload_n 0, 1) := by decide +kernel
theorem d79_36 : decode (ai_b 79) 36 = .ok (.iload_n 2, 1) := by decide +kernel
theorem d79_37 : decode (ai_b 79) 37 = .ok (.iload_n 3, 1) := by decide +kernel
theorem d79_38 : decode (ai_b 79) 38 = .ok (.invokevirtual 232, 3) := by decide +kernel
theorem d79_41 : decode (ai_b 79) 41 = .ok (.aload_n 0, 1) := by decide +kernel
theorem d79_42 : decode (ai_b 79) 42 = .ok (.aload_n 0, 1) := by decide +kernel
theorem d79_43 : decode (ai_b 79) 43 = .ok (.iload_n 2, 1) := by decide +kernel
theorem d79_44 : decode (ai_b 79) 44 = .ok (.iload_n 3, 1) := by decide +kernel
theorem d79_45 : decode (ai_b 79) 45 = .ok (.invokevirtual 168, 3) := by decide +kernel
theorem d79_48 : decode (ai_b 79) 48 = .ok (.invokevirtual 260, 3) := by decide +kernel
theorem d79_51 : decode (ai_b 79) 51 = .ok (.ireturn, 1) := by decide +kernel
theorem d79_52 : decode (ai_b 79) 52 = .ok (.iload_n 1, 1) := by decide +kernel
theorem d79_53 : decode (ai_b 79) 53 = .ok (.iconst 2, 1) := by decide +kernel
theorem d79_54 : decode (ai_b 79) 54 = .ok (.if_icmp .ne 19, 3) := by decide +kernel
theorem d79_57 : decode (ai_b 79) 57 = .ok (.aload_n 0, 1) := by decide +kernel
theorem d79_58 : decode (ai_b 79) 58 = .ok (.iload_n 2, 1) := by decide +kernel
theorem d79_59 : decode (ai_b 79) 59 = .ok (.iload_n 3, 1) := by decide +kernel
theorem d79_60 : decode (ai_b 79) 60 = .ok (.invokevirtual 168, 3) := by decide +kernel
theorem d79_63 : decode (ai_b 79) 63 = .ok (.invokevirtual 264, 3) := by decide +kernel
theorem d79_66 : decode (ai_b 79) 66 = .ok (.ifCond .eq 7, 3) := by decide +kernel
theorem d79_69 : decode (ai_b 79) 69 = .ok (.iconst 1, 1) := by decide +kernel
theorem d79_70 : decode (ai_b 79) 70 = .ok (.goto 4, 3) := by decide +kernel
theorem d79_73 : decode (ai_b 79) 73 = .ok (.iconst 0, 1) := by decide +kernel
theorem d79_74 : decode (ai_b 79) 74 = .ok (.ireturn, 1) := by decide +kernel
theorem d80_0 : decode (ai_b 80) 0 = .ok (.aload_n 0, 1) := by decide +kernel
theorem d80_1 : decode (ai_b 80) 1 = .ok (.iload_n 1, 1) := by decide +kernel
theorem d80_2 : decode (ai_b 80) 2 = .ok (.invokevirtual 182, 3) := by decide +kernel
theorem d80_5 : decode (ai_b 80) 5 = .ok (.ifCond .ne 9, 3) := by decide +kernel
theorem d80_8 : decode (ai_b 80) 8 = .ok (.aload_n 0, 1) := by decide +kernel
theorem d80_9 : decode (ai_b 80) 9 = .ok (.iconst (-1), 1) := by decide +kernel
theorem d80_10 : decode (ai_b 80) 10 = .ok (.invokevirtual 99, 3) := by decide +kernel
theorem d80_13 : decode (ai_b 80) 13 = .ok (.ireturn, 1) := by decide +kernel
theorem d80_14 : decode (ai_b 80) 14 = .ok (.iconst (-1), 1) := by decide +kernel
theorem d80_15 : decode (ai_b 80) 15 = .ok (.istore_n 2, 1) := by decide +kernel
theorem d80_16 : decode (ai_b 80) 16 = .ok (.iconst 0, 1) := by decide +kernel
theorem d80_17 : decode (ai_b 80) 17 = .ok (.istore_n 3, 1) := by decide +kernel
theorem d80_18 : decode (ai_b 80) 18 = .ok (.iload_n 3, 1) := by decide +kernel
theorem d80_19 : decode (ai_b 80) 19 = .ok (.aload_n 0, 1) := by decide +kernel
theorem d80_20 : decode (ai_b 80) 20 = .ok (.getfield 33, 3) := by decide +kernel
theorem d80_23 : decode (ai_b 80) 23 = .ok (.if_icmp .ge 149, 3) := by decide +kernel
theorem d80_26 : decode (ai_b 80) 26 = .ok (.aload_n 0, 1) := by decide +kernel
theorem d80_27 : decode (ai_b 80) 27 = .ok (.iload_n 3, 1) := by decide +kernel
theorem d80_28 : decode (ai_b 80) 28 = .ok (.invokevirtual 253, 3) := by decide +kernel
theorem d80_31 : decode (ai_b 80) 31 = .ok (.iconst 0, 1) := by decide +kernel
theorem d80_32 : decode (ai_b 80) 32 = .ok (.istore 4, 2) := by decide +kernel
theorem d80_34 : decode (ai_b 80) 34 = .ok (.iload 4, 2) := by decide +kernel
theorem d80_36 : decode (ai_b 80) 36 = .ok (.aload_n 0, 1) := by decide +kernel
theorem d80_37 : decode (ai_b 80) 37 = .ok (.getfield 37, 3) := by decide +kernel
theorem d80_40 : decode (ai_b 80) 40 = .ok (.if_icmp .ge 126, 3) := by decide +kernel
theorem d80_43 : decode (ai_b 80) 43 = .ok (.aload_n 0, 1) := by decide +kernel
theorem d80_44 : decode (ai_b 80) 44 = .ok (.getfield 72, 3) := by decide +kernel
theorem d80_47 : decode (ai_b 80) 47 = .ok (.getfield 256, 3) := by decide +kernel
theorem d80_50 : decode (ai_b 80) 50 = .ok (.iload 4, 2) := by decide +kernel
theorem d80_52 : decode (ai_b 80) 52 = .ok (.baload, 1) := by decide +kernel
theorem d80_53 : decode (ai_b 80) 53 = .ok (.ifCond .eq 107, 3) := by decide +kernel
theorem d80_56 : decode (ai_b 80) 56 = .ok (.aload_n 0, 1) := by decide +kernel
theorem d80_57 : decode (ai_b 80) 57 = .ok (.getfield 72, 3) := by decide +kernel
theorem d80_60 : decode (ai_b 80) 60 = .ok (.getfield 267, 3) := by decide +kernel
theorem d80_63 : decode (ai_b 80) 63 = .ok (.iload 4, 2) := by decide +kernel
theorem d80_65 : decode (ai_b 80) 65 = .ok (.baload, 1) := by decide +kernel
theorem d80_66 : decode (ai_b 80) 66 = .ok (.ifCond .ne 94, 3) := by decide +kernel
theorem d80_69 : decode (ai_b 80) 69 = .ok (.aload_n 0, 1) := by decide +kernel
theorem d80_70 : decode (ai_b 80) 70 = .ok (.iload_n 3, 1) := by decide +kernel
theorem d80_71 : decode (ai_b 80) 71 = .ok (.iload 4, 2) := by decide +kernel
theorem d80_73 : decode (ai_b 80) 73 = .ok (.invokevirtual 168, 3) := by decide +kernel
theorem d80_76 : decode (ai_b 80) 76 = .ok (.iload_n 1, 1) := by decide +kernel
theorem d80_77 : decode (ai_b 80) 77 = .ok (.invokevirtual 270, 3) := by decide +kernel
theorem d80_80 : decode (ai_b 80) 80 = .ok (.ifCond .eq 6, 3) := by decide +kernel
theorem d80_83 : decode (ai_b 80) 83 = .ok (.goto 77, 3) := by decide +kernel
theorem d80_86 : decode (ai_b 80) 86 = .ok (.aload_n 0, 1) := by decide +kernel
theorem d80_87 : decode (ai_b 80) 87 = .ok (.iload_n 3, 1) := by decide +kernel
theorem d80_88 : decode (ai_b 80) 88 = .ok (.iload 4, 2) := by decide +kernel
theorem d80_90 : decode (ai_b 80) 90 = .ok (.invokevirtual 232, 3) := by decide +kernel
theorem d80_93 : decode (ai_b 80) 93 = .ok (.aload_n 0, 1) := by decide +kernel
theorem d80_94 : decode (ai_b 80) 94 = .ok (.getfield 65, 3) := by decide +kernel
theorem d80_97 : decode (ai_b 80) 97 = .ok (.aload_n 0, 1) := by decide +kernel
theorem d80_98 : decode (ai_b 80) 98 = .ok (.getfield 23, 3) := by decide +kernel
theorem d80_101 : decode (ai_b 80) 101 = .ok (.iload_n 1, 1) := by decide +kernel
theorem d80_102 : decode (ai_b 80) 102 = .ok (.aaload, 1) := by decide +kernel
theorem d80_103 : decode (ai_b 80) 103 = .ok (.iload 4, 2) := by decide +kernel
theorem d80_105 : decode (ai_b 80) 105 = .ok (.aload_n 0, 1) := by decide +kernel
theorem d80_106 : decode (ai_b 80) 106 = .ok (.getfield 81, 3) := by decide +kernel
theorem d80_109 : decode (ai_b 80) 109 = .ok (.invokevirtual 273, 3) := by decide +kernel
theorem d80_112 : decode (ai_b 80) 112 = .ok (.iload_n 2, 1) := by decide +kernel
theorem d80_113 : decode (ai_b 80) 113 = .ok (.iconst (-1), 1) := by decide +kernel
theorem d80_114 : decode (ai_b 80) 114 = .ok (.if_icmp .eq 17, 3) := by decide +kernel
theorem d80_117 : decode (ai_b 80) 117 = .ok (.aload_n 0, 1) := by decide +kernel
theorem d80_118 : decode (ai_b 80) 118 = .ok (.getfield 81, 3) := by decide +kernel
theorem d80_121 : decode (ai_b 80) 121 = .ok (.aload_n 0, 1) := by decide +kernel
theorem d80_122 : decode (ai_b 80) 122 = .ok (.getfield 85, 3) := by decide +kernel
theorem d80_125 : decode (ai_b 80) 125 = .ok (.invokevirtual 277, 3) := by decide +kernel
theorem d80_128 : decode (ai_b 80) 128 = .ok (.ifCond .eq 32, 3) := by decide +kernel
theorem d80_131 : decode (ai_b 80) 131 = .ok (.bipush 10, 2) := by decide +kernel
theorem d80_133 : decode (ai_b 80) 133 = .ok (.iload_n 3, 1) := by decide +kernel
theorem d80_134 : decode (ai_b 80) 134 = .ok (.imul, 1) := by decide +kernel
theorem d80_135 : decode (ai_b 80) 135 = .ok (.iload 4, 2) := by decide +kernel
theorem d80_137 : decode (ai_b 80) 137 = .ok (.iadd, 1) := by decide +kernel
theorem d80_138 : decode (ai_b 80) 138 = .ok (.istore_n 2, 1) := by decide +kernel
theorem d80_139 : decode (ai_b 80) 139 = .ok (.aload_n 0, 1) := by decide +kernel
theorem d80_140 : decode (ai_b 80) 140 = .ok (.getfield 85, 3) := by decide +kernel
theorem d80_143 : decode (ai_b 80) 143 = .ok (.aload_n 0, 1) := by decide +kernel
theorem d80_144 : decode (ai_b 80) 144 = .ok (.getfield 81, 3) := by decide +kernel
theorem d80_147 : decode (ai_b 80) 147 = .ok (.getfield 281, 3) := by decide +kernel
theorem d80_150 : decode (ai_b 80) 150 = .ok (.aload_n 0, 1) := by decide +kernel
theorem d80_151 : decode (ai_b 80) 151 = .ok (.getfield 81, 3) := by decide +kernel
theorem d80_154 : decode (ai_b 80) 154 = .ok (.getfield 284, 3) := by decide +kernel
theorem d80_157 : decode (ai_b 80) 157 = .ok (.invokevirtual 242, 3) := by decide +kernel
theorem d80_160 : decode (ai_b 80) 160 = .ok (.iinc 4 1, 3) := by decide +kernel
theorem d80_163 : decode (ai_b 80) 163 = .ok (.goto (-129), 3) := by decide +kernel
theorem d80_166 : decode (ai_b 80) 166 = .ok (.iinc 3 1, 3) := by decide +kernel
theorem d80_169 : decode (ai_b 80) 169 = .ok (.goto (-151), 3) := by decide +kernel
theorem d80_172 : decode (ai_b 80) 172 = .ok (.iload_n 2, 1) := by decide +kernel
theorem d80_173 : decode (ai_b 80) 173 = .ok (.ireturn, 1) := by decide +kernel
theorem d81_0 : decode (ai_b 81) 0 = .ok (.aload_n 0, 1) := by decide +kernel
theorem d81_1 : decode (ai_b 81) 1 = .ok (.iload_n 1, 1) := by decide +kernel
theorem d81_2 : decode (ai_b 81) 2 = .ok (.invokevirtual 182, 3) := by decide +kernel
theorem d81_5 : decode (ai_b 81) 5 = .ok (.ifCond .eq 12, 3) := by decide +kernel
theorem d81_8 : decode (ai_b 81) 8 = .ok (.aload_n 0, 1) := by decide +kernel
theorem d81_9 : decode (ai_b 81) 9 = .ok (.iload_n 2, 1) := by decide +kernel
theorem d81_10 : decode (ai_b 81) 10 = .ok (.iload_n 3, 1) := by decide +kernel
theorem d81_11 : decode (ai_b 81) 11 = .ok (.invokevirtual 165, 3) := by decide +kernel
theorem d81_14 : decode (ai_b 81) 14 = .ok (.ifCond .ne 5, 3) := by decide +kernel
theorem d81_17 : decode (ai_b 81) 17 = .ok (.iconst (-1), 1) := by decide +kernel
theorem d81_18 : decode (ai_b 81) 18 = .ok (.ireturn, 1) := by decide +kernel
theorem d81_19 : decode (ai_b 81) 19 = .ok (.aload_n 0, 1) := by decide +kernel
theorem d81_20 : decode (ai_b 81) 20 = .ok (.iload_n 2, 1) := by decide +kernel
theorem d81_21 : decode (ai_b 81) 21 = .ok (.iload_n 3, 1) := by decide +kernel
theorem d81_22 : decode (ai_b 81) 22 = .ok (.invokevirtual 232, 3) := by decide +kernel
theorem d81_25 : decode (ai_b 81) 25 = .ok (.aload_n 0, 1) := by decide +kernel
theorem d81_26 : decode (ai_b 81) 26 = .ok (.getfield 65, 3) := by decide +kernel
theorem d81_29 : decode (ai_b 81) 29 = .ok (.aload_n 0, 1) := by decide +kernel
theorem d81_30 : decode (ai_b 81) 30 = .ok (.getfield 23, 3) := by decide +kernel
theorem d81_33 : decode (ai_b 81) 33 = .ok (.iload_n 1, 1) := by decide +kernel
theorem d81_34 : decode (ai_b 81) 34 = .ok (.aaload, 1) := by decide +kernel
theorem d81_35 : decode (ai_b 81) 35 = .ok (.iload_n 3, 1) := by decide +kernel
theorem d81_36 : decode (ai_b 81) 36 = .ok (.aload_n 0, 1) := by decide +kernel
theorem d81_37 : decode (ai_b 81) 37 = .ok (.getfield 81, 3) := by decide +kernel
theorem d81_40 : decode (ai_b 81) 40 = .ok (.invokevirtual 273, 3) := by decide +kernel
theorem d81_43 : decode (ai_b 81) 43 = .ok (.aload_n 0, 1) := by decide +kernel
theorem d81_44 : decode (ai_b 81) 44 = .ok (.getfield 81, 3) := by decide +kernel
theorem d81_47 : decode (ai_b 81) 47 = .ok (.ldc 246, 2) := by decide +kernel
theorem d81_49 : decode (ai_b 81) 49 = .ok (.invokevirtual 247, 3) := by decide +kernel
theorem d81_52 : decode (ai_b 81) 52 = .ok (.ireturn, 1) := by decide +kernel
theorem d82_0 : decode (ai_b 82) 0 = .ok (.aload_n 0, 1) := by decide +kernel
theorem d82_1 : decode (ai_b 82) 1 = .ok (.iload_n 1, 1) := by decide +kernel
theorem d82_2 : decode (ai_b 82) 2 = .ok (.iload_n 2, 1) := by decide +kernel
theorem d82_3 : decode (ai_b 82) 3 = .ok (.invokevirtual 153, 3) := by decide +kernel
theorem d82_6 : decode (ai_b 82) 6 = .ok (.ifCond .ne 5, 3) := by decide +kernel
theorem d82_9 : decode (ai_b 82) 9 = .ok (.iconst (-1), 1) := by decide +kernel
theorem d82_10 : decode (ai_b 82) 10 = .ok (.ireturn, 1) := by decide +kernel
theorem d82_11 : decode (ai_b 82) 11 = .ok (.aload_n 0, 1) := by decide +kernel
theorem d82_12 : decode (ai_b 82) 12 = .ok (.getfield 88, 3) := by decide +kernel
theorem d82_15 : decode (ai_b 82) 15 = .ok (.invokevirtual 287, 3) := by decide +kernel
theorem d82_18 : decode (ai_b 82) 18 = .ok (.iconst 0, 1) := by decide +kernel
theorem d82_19 : decode (ai_b 82) 19 = .ok (.istore_n 3, 1) := by decide +kernel
theorem d82_20 : decode (ai_b 82) 20 = .ok (.iload_n 3, 1) := by decide +kernel
theorem d82_21 : decode (ai_b 82) 21 = .ok (.aload_n 0, 1) := by decide +kernel
theorem d82_22 : decode (ai_b 82) 22 = .ok (.getfield 33, 3) := by decide +kernel
theorem d82_25 : decode (ai_b 82) 25 = .ok (.if_icmp .ge 55, 3) := by decide +kernel
theorem d82_28 : decode (ai_b 82) 28 = .ok (.aload_n 0, 1) := by decide +kernel
theorem d82_29 : decode (ai_b 82) 29 = .ok (.iload_n 3, 1) := by decide +kernel
theorem d82_30 : decode (ai_b 82) 30 = .ok (.invokevirtual 253, 3) := by decide +kernel
theorem d82_33 : decode (ai_b 82) 33 = .ok (.aload_n 0, 1) := by decide +kernel
theorem d82_34 : decode (ai_b 82) 34 = .ok (.getfield 72, 3) := by decide +kernel
theorem d82_37 : decode (ai_b 82) 37 = .ok (.getfield 256, 3) := by decide +kernel
theorem d82_40 : decode (ai_b 82) 40 = .ok (.iload_n 1, 1) := by decide +kernel
theorem d82_41 : decode (ai_b 82) 41 = .ok (.baload, 1) := by decide +kernel
theorem d82_42 : decode (ai_b 82) 42 = .ok (.ifCond .eq 32, 3) := by decide +kernel
theorem d82_45 : decode (ai_b 82) 45 = .ok (.aload_n 0, 1) := by decide +kernel
theorem d82_46 : decode (ai_b 82) 46 = .ok (.iload_n 3, 1) := by decide +kernel
theorem d82_47 : decode (ai_b 82) 47 = .ok (.iload_n 1, 1) := by decide +kernel
theorem d82_48 : decode (ai_b 82) 48 = .ok (.invokevirtual 232, 3) := by decide +kernel
theorem d82_51 : decode (ai_b 82) 51 = .ok (.aload_n 0, 1) := by decide +kernel
theorem d82_52 : decode (ai_b 82) 52 = .ok (.getfield 88, 3) := by decide +kernel
theorem d82_55 : decode (ai_b 82) 55 = .ok (.aload_n 0, 1) := by decide +kernel
theorem d82_56 : decode (ai_b 82) 56 = .ok (.getfield 65, 3) := by decide +kernel
theorem d82_59 : decode (ai_b 82) 59 = .ok (.getfield 235, 3) := by decide +kernel
theorem d82_62 : decode (ai_b 82) 62 = .ok (.iload_n 2, 1) := by decide +kernel
theorem d82_63 : decode (ai_b 82) 63 = .ok (.aaload, 1) := by decide +kernel
theorem d82_64 : decode (ai_b 82) 64 = .ok (.aload_n 0, 1) := by decide +kernel
theorem d82_65 : decode (ai_b 82) 65 = .ok (.getfield 65, 3) := by decide +kernel
theorem d82_68 : decode (ai_b 82) 68 = .ok (.getfield 239, 3) := by decide +kernel
theorem d82_71 : decode (ai_b 82) 71 = .ok (.invokevirtual 290, 3) := by decide +kernel
theorem d82_74 : decode (ai_b 82) 74 = .ok (.iinc 3 1, 3) := by decide +kernel
theorem d82_77 : decode (ai_b 82) 77 = .ok (.goto (-57), 3) := by decide +kernel
theorem d82_80 : decode (ai_b 82) 80 = .ok (.aload_n 0, 1) := by decide +kernel
theorem d82_81 : decode (ai_b 82) 81 = .ok (.getfield 88, 3) := by decide +kernel
theorem d82_84 : decode (ai_b 82) 84 = .ok (.sipush 1000, 3) := by decide +kernel
theorem d82_87 : decode (ai_b 82) 87 = .ok (.invokevirtual 247, 3) := by decide +kernel
theorem d82_90 : decode (ai_b 82) 90 = .ok (.ireturn, 1) := by decide +kernel
theorem d83_0 : decode (ai_b 83) 0 = .ok (.iload_n 1, 1) := by decide +kernel
theorem d83_1 : decode (ai_b 83) 1 = .ok (.tableswitch 151 0 18 #[91, 96, 101, 106, 111, 116, 121, 126, 131, 136, 141, 151, 151, 151, 151, 151, 151, 151, 146], 91) := by decide +kernel
theorem d83_92 : decode (ai_b 83) 92 = .ok (.aload_n 0, 1) := by decide +kernel
theorem d83_93 : decode (ai_b 83) 93 = .ok (.getfield 33, 3) := by decide +kernel
theorem d83_96 : decode (ai_b 83) 96 = .ok (.ireturn, 1) := by decide +kernel
theorem d83_97 : decode (ai_b 83) 97 = .ok (.aload_n 0, 1) := by decide +kernel
theorem d83_98 : decode (ai_b 83) 98 = .ok (.getfield 37, 3) := by decide +kernel
theorem d83_101 : decode (ai_b 83) 101 = .ok (.ireturn, 1) := by decide +kernel
theorem d83_102 : decode (ai_b 83) 102 = .ok (.aload_n 0, 1) := by decide +kernel
theorem d83_103 : decode (ai_b 83) 103 = .ok (.getfield 40, 3) := by decide +kernel
theorem d83_106 : decode (ai_b 83) 106 = .ok (.ireturn, 1) := by decide +kernel
theorem d83_107 : decode (ai_b 83) 107 = .ok (.aload_n 0, 1) := by decide +kernel
theorem d83_108 : decode (ai_b 83) 108 = .ok (.invokevirtual 293, 3) := by decide +kernel
theorem d83_111 : decode (ai_b 83) 111 = .ok (.ireturn, 1) := by decide +kernel
theorem d83_112 : decode (ai_b 83) 112 = .ok (.aload_n 0, 1) := by decide +kernel
theorem d83_113 : decode (ai_b 83) 113 = .ok (.invokevirtual 296, 3) := by decide +kernel
theorem d83_116 : decode (ai_b 83) 116 = .ok (.ireturn, 1) := by decide +kernel
theorem d83_117 : decode (ai_b 83) 117 = .ok (.aload_n 0, 1) := by decide +kernel
theorem d83_118 : decode (ai_b 83) 118 = .ok (.invokevirtual 299, 3) := by decide +kernel
theorem d83_121 : decode (ai_b 83) 121 = .ok (.ireturn, 1) := by decide +kernel
theorem d83_122 : decode (ai_b 83) 122 = .ok (.aload_n 0, 1) := by decide +kernel
theorem d83_123 : decode (ai_b 83) 123 = .ok (.invokevirtual 302, 3) := by decide +kernel
theorem d83_126 : decode (ai_b 83) 126 = .ok (.ireturn, 1) := by decide +kernel
theorem d83_127 : decode (ai_b 83) 127 = .ok (.aload_n 0, 1) := by decide +kernel
theorem d83_128 : decode (ai_b 83) 128 = .ok (.invokevirtual 305, 3) := by decide +kernel
theorem d83_131 : decode (ai_b 83) 131 = .ok (.ireturn, 1) := by decide +kernel
theorem d83_132 : decode (ai_b 83) 132 = .ok (.aload_n 0, 1) := by decide +kernel
theorem d83_133 : decode (ai_b 83) 133 = .ok (.invokevirtual 308, 3) := by decide +kernel
theorem d83_136 : decode (ai_b 83) 136 = .ok (.ireturn, 1) := by decide +kernel
theorem d83_137 : decode (ai_b 83) 137 = .ok (.aload_n 0, 1) := by decide +kernel
theorem d83_138 : decode (ai_b 83) 138 = .ok (.getfield 43, 3) := by decide +kernel
theorem d83_141 : decode (ai_b 83) 141 = .ok (.ireturn, 1) := by decide +kernel
theorem d83_142 : decode (ai_b 83) 142 = .ok (.aload_n 0, 1) := by decide +kernel
theorem d83_143 : decode (ai_b 83) 143 = .ok (.getfield 46, 3) := by decide +kernel
theorem d83_146 : decode (ai_b 83) 146 = .ok (.ireturn, 1) := by decide +kernel
theorem d83_147 : decode (ai_b 83) 147 = .ok (.aload_n 0, 1) := by decide +kernel
theorem d83_148 : decode (ai_b 83) 148 = .ok (.getfield 49, 3) := by decide +kernel
theorem d83_151 : decode (ai_b 83) 151 = .ok (.ireturn, 1) := by decide +kernel
theorem d83_152 : decode (ai_b 83) 152 = .ok (.iload_n 1, 1) := by decide +kernel
theorem d83_153 : decode (ai_b 83) 153 = .ok (.bipush 10, 2) := by decide +kernel
theorem d83_155 : decode (ai_b 83) 155 = .ok (.if_icmp .le 24, 3) := by decide +kernel
theorem d83_158 : decode (ai_b 83) 158 = .ok (.iload_n 1, 1) := by decide +kernel
theorem d83_159 : decode (ai_b 83) 159 = .ok (.bipush 11, 2) := by decide +kernel
theorem d83_161 : decode (ai_b 83) 161 = .ok (.isub, 1) := by decide +kernel
theorem d83_162 : decode (ai_b 83) 162 = .ok (.bipush 7, 2) := by decide +kernel
theorem d83_164 : decode (ai_b 83) 164 = .ok (.if_icmp .ge 15, 3) := by decide +kernel
theorem d83_167 : decode (ai_b 83) 167 = .ok (.aload_n 0, 1) := by decide +kernel
theorem d83_168 : decode (ai_b 83) 168 = .ok (.getfield 59, 3) := by decide +kernel
theorem d83_171 : decode (ai_b 83) 171 = .ok (.iload_n 1, 1) := by decide +kernel
theorem d83_172 : decode (ai_b 83) 172 = .ok (.bipush 11, 2) := by decide +kernel
theorem d83_174 : decode (ai_b 83) 174 = .ok (.isub, 1) := by decide +kernel
theorem d83_175 : decode (ai_b 83) 175 = .ok (.iaload, 1) := by decide +kernel
theorem d83_176 : decode (ai_b 83) 176 = .ok (.goto 4, 3) := by decide +kernel
theorem d83_179 : decode (ai_b 83) 179 = .ok (.iconst (-1), 1) := by decide +kernel
theorem d83_180 : decode (ai_b 83) 180 = .ok (.ireturn, 1) := by decide +kernel
theorem d84_0 : decode (ai_b 84) 0 = .ok (.iload_n 1, 1) := by decide +kernel
theorem d84_1 : decode (ai_b 84) 1 = .ok (.ifCond .lt 13, 3) := by decide +kernel
theorem d84_4 : decode (ai_b 84) 4 = .ok (.iload_n 1, 1) := by decide +kernel
theorem d84_5 : decode (ai_b 84) 5 = .ok (.bipush 8, 2) := by decide +kernel
theorem d84_7 : decode (ai_b 84) 7 = .ok (.if_icmp .ge 7, 3) := by decide +kernel
theorem d84_10 : decode (ai_b 84) 10 = .ok (.iconst 1, 1) := by decide +kernel
theorem d84_11 : decode (ai_b 84) 11 = .ok (.goto 4, 3) := by decide +kernel
theorem d84_14 : decode (ai_b 84) 14 = .ok (.iconst 0, 1) := by decide +kernel
theorem d84_15 : decode (ai_b 84) 15 = .ok (.ireturn, 1) := by decide +kernel
theorem d85_0 : decode (ai_b 85) 0 = .ok (.iload_n 1, 1) := by decide +kernel
theorem d85_1 : decode (ai_b 85) 1 = .ok (.ifCond .lt 27, 3) := by decide +kernel
theorem d85_4 : decode (ai_b 85) 4 = .ok (.iload_n 1, 1) := by decide +kernel
theorem d85_5 : decode (ai_b 85) 5 = .ok (.aload_n 0, 1) := by decide +kernel
theorem d85_6 : decode (ai_b 85) 6 = .ok (.getfield 40, 3) := by decide +kernel
theorem d85_9 : decode (ai_b 85) 9 = .ok (.if_icmp .ge 19, 3) := by decide +kernel
theorem d85_12 : decode (ai_b 85) 12 = .ok (.aload_n 0, 1) := by decide +kernel
theorem d85_13 : decode (ai_b 85) 13 = .ok (.getfield 23, 3) := by decide +kernel
theorem d85_16 : decode (ai_b 85) 16 = .ok (.iload_n 1, 1) := by decide +kernel
theorem d85_17 : decode (ai_b 85) 17 = .ok (.aaload, 1) := by decide +kernel
theorem d85_18 : decode (ai_b 85) 18 = .ok (.getfield 191, 3) := by decide +kernel
theorem d85_21 : decode (ai_b 85) 21 = .ok (.ifCond .ne 7, 3) := by decide +kernel
theorem d85_24 : decode (ai_b 85) 24 = .ok (.iconst 1, 1) := by decide +kernel
theorem d85_25 : decode (ai_b 85) 25 = .ok (.goto 4, 3) := by decide +kernel
theorem d85_28 : decode (ai_b 85) 28 = .ok (.iconst 0, 1) := by decide +kernel
theorem d85_29 : decode (ai_b 85) 29 = .ok (.ireturn, 1) := by decide +kernel
theorem d86_0 : decode (ai_b 86) 0 = .ok (.iload_n 1, 1) := by decide +kernel
theorem d86_1 : decode (ai_b 86) 1 = .ok (.ifCond .lt 15, 3) := by decide +kernel
theorem d86_4 : decode (ai_b 86) 4 = .ok (.iload_n 1, 1) := by decide +kernel
theorem d86_5 : decode (ai_b 86) 5 = .ok (.aload_n 0, 1) := by decide +kernel
theorem d86_6 : decode (ai_b 86) 6 = .ok (.getfield 37, 3) := by decide +kernel
theorem d86_9 : decode (ai_b 86) 9 = .ok (.if_icmp .ge 7, 3) := by decide +kernel
theorem d86_12 : decode (ai_b 86) 12 = .ok (.iconst 1, 1) := by decide +kernel
theorem d86_13 : decode (ai_b 86) 13 = .ok (.goto 4, 3) := by decide +kernel
theorem d86_16 : decode (ai_b 86) 16 = .ok (.iconst 0, 1) := by decide +kernel
theorem d86_17 : decode (ai_b 86) 17 = .ok (.ireturn, 1) := by decide +kernel
theorem d87_0 : decode (ai_b 87) 0 = .ok (.aload_n 0, 1) := by decide +kernel
theorem d87_1 : decode (ai_b 87) 1 = .ok (.iload_n 1, 1) := by decide +kernel
theorem d87_2 : decode (ai_b 87) 2 = .ok (.invokevirtual 150, 3) := by decide +kernel
theorem d87_5 : decode (ai_b 87) 5 = .ok (.ifCond .eq 24, 3) := by decide +kernel
theorem d87_8 : decode (ai_b 87) 8 = .ok (.iload_n 2, 1) := by decide +kernel
theorem d87_9 : decode (ai_b 87) 9 = .ok (.ifCond .lt 20, 3) := by decide +kernel
theorem d87_12 : decode (ai_b 87) 12 = .ok (.iload_n 2, 1) := by decide +kernel
theorem d87_13 : decode (ai_b 87) 13 = .ok (.aload_n 0, 1) := by decide +kernel
theorem d87_14 : decode (ai_b 87) 14 = .ok (.getfield 17, 3) := by decide +kernel
theorem d87_17 : decode (ai_b 87) 17 = .ok (.iload_n 1, 1) := by decide +kernel
theorem d87_18 : decode (ai_b 87) 18 = .ok (.aaload, 1) := by decide +kernel
theorem d87_19 : decode (ai_b 87) 19 = .ok (.getfield 156, 3) := by decide +kernel
theorem d87_22 : decode (ai_b 87) 22 = .ok (.if_icmp .ge 7, 3) := by decide +kernel
theorem d87_25 : decode (ai_b 87) 25 = .ok (.iconst 1, 1) := by decide +kernel
theorem d87_26 : decode (ai_b 87) 26 = .ok (.goto 4, 3) := by decide +kernel
theorem d87_29 : decode (ai_b 87) 29 = .ok (.iconst 0, 1) := by decide +kernel
theorem d87_30 : decode (ai_b 87) 30 = .ok (.ireturn, 1) := by decide +kernel
theorem d88_0 : decode (ai_b 88) 0 = .ok (.iload_n 1, 1) := by decide +kernel
theorem d88_1 : decode (ai_b 88) 1 = .ok (.ifCond .lt 23, 3) := by decide +kernel
theorem d88_4 : decode (ai_b 88) 4 = .ok (.iload_n 1, 1) := by decide +kernel
theorem d88_5 : decode (ai_b 88) 5 = .ok (.aload_n 0, 1) := by decide +kernel
theorem d88_6 : decode (ai_b 88) 6 = .ok (.getfield 33, 3) := by decide +kernel
theorem d88_9 : decode (ai_b 88) 9 = .ok (.if_icmp .ge 15, 3) := by decide +kernel
theorem d88_12 : decode (ai_b 88) 12 = .ok (.aload_n 0, 1) := by decide +kernel
theorem d88_13 : decode (ai_b 88) 13 = .ok (.iload_n 2, 1) := by decide +kernel
theorem d88_14 : decode (ai_b 88) 14 = .ok (.invokevirtual 150, 3) := by decide +kernel
theorem d88_17 : decode (ai_b 88) 17 = .ok (.ifCond .eq 7, 3) := by decide +kernel
theorem d88_20 : decode (ai_b 88) 20 = .ok (.iconst 1, 1) := by decide +kernel
theorem d88_21 : decode (ai_b 88) 21 = .ok (.goto 4, 3) := by decide +kernel
theorem d88_24 : decode (ai_b 88) 24 = .ok (.iconst 0, 1) := by decide +kernel
theorem d88_25 : decode (ai_b 88) 25 = .ok (.ireturn, 1) := by decide +kernel
theorem d89_0 : decode (ai_b 89) 0 = .ok (.aload_n 0, 1) := by decide +kernel
theorem d89_1 : decode (ai_b 89) 1 = .ok (.getfield 29, 3) := by decide +kernel
theorem d89_4 : decode (ai_b 89) 4 = .ok (.iload_n 1, 1) := by decide +kernel
theorem d89_5 : decode (ai_b 89) 5 = .ok (.iconst 5, 1) := by decide +kernel
theorem d89_6 : decode (ai_b 89) 6 = .ok (.imul, 1) := by decide +kernel
theorem d89_7 : decode (ai_b 89) 7 = .ok (.iload_n 2, 1) := by decide +kernel
theorem d89_8 : decode (ai_b 89) 8 = .ok (.iadd, 1) := by decide +kernel
theorem d89_9 : decode (ai_b 89) 9 = .ok (.aaload, 1) := by decide +kernel
theorem d89_10 : decode (ai_b 89) 10 = .ok (.areturn, 1) := by decide +kernel
theorem d90_0 : decode (ai_b 90) 0 = .ok (.iconst (-1), 1) := by decide +kernel
theorem d90_1 : decode (ai_b 90) 1 = .ok (.iload_n 1, 1) := by decide +kernel
theorem d90_2 : decode (ai_b 90) 2 = .ok (.isub, 1) := by decide +kernel
theorem d90_3 : decode (ai_b 90) 3 = .ok (.istore_n 2, 1) := by decide +kernel
theorem d90_4 : decode (ai_b 90) 4 = .ok (.iload_n 2, 1) := by decide +kernel
theorem d90_5 : decode (ai_b 90) 5 = .ok (.ifCond .lt 22, 3) := by decide +kernel
theorem d90_8 : decode (ai_b 90) 8 = .ok (.iload_n 2, 1) := by decide +kernel
theorem d90_9 : decode (ai_b 90) 9 = .ok (.aload_n 0, 1) := by decide +kernel
theorem d90_10 : decode (ai_b 90) 10 = .ok (.getfield 59, 3) := by decide +kernel
theorem d90_13 : decode (ai_b 90) 13 = .ok (.arraylength, 1) := by decide +kernel
theorem d90_14 : decode (ai_b 90) 14 = .ok (.if_icmp .ge 13, 3) := by decide +kernel
theorem d90_17 : decode (ai_b 90) 17 = .ok (.aload_n 0, 1) := by decide +kernel
theorem d90_18 : decode (ai_b 90) 18 = .ok (.getfield 59, 3) := by decide +kernel
theorem d90_21 : decode (ai_b 90) 21 = .ok (.iload_n 2, 1) := by decide +kernel
theorem d90_22 : decode (ai_b 90) 22 = .ok (.dup2, 1) := by decide +kernel
theorem d90_23 : decode (ai_b 90) 23 = .ok (.iaload, 1) := by decide +kernel
theorem d90_24 : decode (ai_b 90) 24 = .ok (.iconst 1, 1) := by decide +kernel
theorem d90_25 : decode (ai_b 90) 25 = .ok (.iadd, 1) := by decide +kernel
theorem d90_26 : decode (ai_b 90) 26 = .ok (.iastore, 1) := by decide +kernel
theorem d90_27 : decode (ai_b 90) 27 = .ok (.iload_n 1, 1) := by decide +kernel
theorem d90_28 : decode (ai_b 90) 28 = .ok (.ireturn, 1) := by decide +kernel
theorem d91_0 : decode (ai_b 91) 0 = .ok (.aload_n 0, 1) := by decide +kernel
theorem d91_1 : decode (ai_b 91) 1 = .ok (.iload_n 1, 1) := by decide +kernel
theorem d91_2 : decode (ai_b 91) 2 = .ok (.invokevirtual 95, 3) := by decide +kernel
theorem d91_5 : decode (ai_b 91) 5 = .ok (.ifCond .ne 5, 3) := by decide +kernel
theorem d91_8 : decode (ai_b 91) 8 = .ok (.iconst (-1), 1) := by decide +kernel
theorem d91_9 : decode (ai_b 91) 9 = .ok (.ireturn, 1) := by decide +kernel
theorem d91_10 : decode (ai_b 91) 10 = .ok (.aload_n 0, 1) := by decide +kernel
theorem d91_11 : decode (ai_b 91) 11 = .ok (.getfield 11, 3) := by decide +kernel
theorem d91_14 : decode (ai_b 91) 14 = .ok (.iload_n 1, 1) := by decide +kernel
theorem d91_15 : decode (ai_b 91) 15 = .ok (.aaload, 1) := by decide +kernel
theorem d91_16 : decode (ai_b 91) 16 = .ok (.invokevirtual 118, 3) := by decide +kernel
theorem d91_19 : decode (ai_b 91) 19 = .ok (.ifCond .eq 6, 3) := by decide +kernel
theorem d91_22 : decode (ai_b 91) 22 = .ok (.bipush (-2), 2) := by decide +kernel
theorem d91_24 : decode (ai_b 91) 24 = .ok (.ireturn, 1) := by decide +kernel
theorem d91_25 : decode (ai_b 91) 25 = .ok (.aload_n 0, 1) := by decide +kernel
theorem d91_26 : decode (ai_b 91) 26 = .ok (.getfield 11, 3) := by decide +kernel
theorem d91_29 : decode (ai_b 91) 29 = .ok (.iload_n 1, 1) := by decide +kernel
theorem d91_30 : decode (ai_b 91) 30 = .ok (.aaload, 1) := by decide +kernel
theorem d91_31 : decode (ai_b 91) 31 = .ok (.invokevirtual 122, 3) := by decide +kernel
theorem d91_34 : decode (ai_b 91) 34 = .ok (.ifCond .eq 7, 3) := by decide +kernel
theorem d91_37 : decode (ai_b 91) 37 = .ok (.iconst 0, 1) := by decide +kernel
theorem d91_38 : decode (ai_b 91) 38 = .ok (.goto 5, 3) := by decide +kernel
theorem d91_41 : decode (ai_b 91) 41 = .ok (.bipush (-3), 2) := by decide +kernel
theorem d91_43 : decode (ai_b 91) 43 = .ok (.ireturn, 1) := by decide +kernel
theorem d92_0 : decode (ai_b 92) 0 = .ok (.aload_n 0, 1) := by decide +kernel
theorem d92_1 : decode (ai_b 92) 1 = .ok (.iload_n 1, 1) := by decide +kernel
theorem d92_2 : decode (ai_b 92) 2 = .ok (.invokevirtual 182, 3) := by decide +kernel
theorem d92_5 : decode (ai_b 92) 5 = .ok (.ifCond .eq 12, 3) := by decide +kernel
theorem d92_8 : decode (ai_b 92) 8 = .ok (.aload_n 0, 1) := by decide +kernel
theorem d92_9 : decode (ai_b 92) 9 = .ok (.iload_n 2, 1) := by decide +kernel
theorem d92_10 : decode (ai_b 92) 10 = .ok (.iload_n 3, 1) := by decide +kernel
theorem d92_11 : decode (ai_b 92) 11 = .ok (.invokevirtual 165, 3) := by decide +kernel
theorem d92_14 : decode (ai_b 92) 14 = .ok (.ifCond .ne 5, 3) := by decide +kernel
theorem d92_17 : decode (ai_b 92) 17 = .ok (.iconst (-1), 1) := by decide +kernel
theorem d92_18 : decode (ai_b 92) 18 = .ok (.ireturn, 1) := by decide +kernel
theorem d92_19 : decode (ai_b 92) 19 = .ok (.aload_n 0, 1) := by decide +kernel
theorem d92_20 : decode (ai_b 92) 20 = .ok (.iload_n 3, 1) := by decide +kernel
theorem d92_21 : decode (ai_b 92) 21 = .ok (.iload 4, 2) := by decide +kernel
theorem d92_23 : decode (ai_b 92) 23 = .ok (.invokevirtual 153, 3) := by decide +kernel
theorem d92_26 : decode (ai_b 92) 26 = .ok (.ifCond .eq 21, 3) := by decide +kernel
theorem d92_29 : decode (ai_b 92) 29 = .ok (.iload 5, 2) := by decide +kernel
theorem d92_31 : decode (ai_b 92) 31 = .ok (.ifCond .lt 16, 3) := by decide +kernel
theorem d92_34 : decode (ai_b 92) 34 = .ok (.aload_n 0, 1) := by decide +kernel
theorem d92_35 : decode (ai_b 92) 35 = .ok (.iload_n 2, 1) := by decide +kernel
theorem d92_36 : decode (ai_b 92) 36 = .ok (.iload_n 3, 1) := by decide +kernel
theorem d92_37 : decode (ai_b 92) 37 = .ok (.invokevirtual 168, 3) := by decide +kernel
theorem d92_40 : decode (ai_b 92) 40 = .ok (.iload_n 1, 1) := by decide +kernel
theorem d92_41 : decode (ai_b 92) 41 = .ok (.invokevirtual 270, 3) := by decide +kernel
theorem d92_44 : decode (ai_b 92) 44 = .ok (.ifCond .eq 6, 3) := by decide +kernel
theorem d92_47 : decode (ai_b 92) 47 = .ok (.bipush (-6), 2) := by decide +kernel
theorem d92_49 : decode (ai_b 92) 49 = .ok (.ireturn, 1) := by decide +kernel
theorem d92_50 : decode (ai_b 92) 50 = .ok (.iconst 0, 1) := by decide +kernel
theorem d92_51 : decode (ai_b 92) 51 = .ok (.ireturn, 1) := by decide +kernel
theorem d93_0 : decode (ai_b 93) 0 = .ok (.aload_n 0, 1) := by decide +kernel
theorem d93_1 : decode (ai_b 93) 1 = .ok (.getfield 23, 3) := by decide +kernel
theorem d93_4 : decode (ai_b 93) 4 = .ok (.iload_n 1, 1) := by decide +kernel
theorem d93_5 : decode (ai_b 93) 5 = .ok (.aaload, 1) := by decide +kernel
theorem d93_6 : decode (ai_b 93) 6 = .ok (.astore 6, 2) := by decide +kernel
theorem d93_8 : decode (ai_b 93) 8 = .ok (.iconst 0, 1) := by decide +kernel
theorem d93_9 : decode (ai_b 93) 9 = .ok (.istore 7, 2) := by decide +kernel
theorem d93_11 : decode (ai_b 93) 11 = .ok (.iload 5, 2) := by decide +kernel
theorem d93_13 : decode (ai_b 93) 13 = .ok (.aload_n 0, 1) := by decide +kernel
theorem d93_14 : decode (ai_b 93) 14 = .ok (.getfield 49, 3) := by decide +kernel
theorem d93_17 : decode (ai_b 93) 17 = .ok (.if_icmp .ge 9, 3) := by decide +kernel
theorem d93_20 : decode (ai_b 93) 20 = .ok (.iconst 1, 1) := by decide +kernel
theorem d93_21 : decode (ai_b 93) 21 = .ok (.istore 7, 2) := by decide +kernel
theorem d93_23 : decode (ai_b 93) 23 = .ok (.goto 16, 3) := by decide +kernel
theorem d93_26 : decode (ai_b 93) 26 = .ok (.aload 6, 2) := by decide +kernel
theorem d93_28 : decode (ai_b 93) 28 = .ok (.getfield 185, 3) := by decide +kernel
theorem d93_31 : decode (ai_b 93) 31 = .ok (.bipush 20, 2) := by decide +kernel
theorem d93_33 : decode (ai_b 93) 33 = .ok (.if_icmp .lt 6, 3) := by decide +kernel
theorem d93_36 : decode (ai_b 93) 36 = .ok (.iconst 2, 1) := by decide +kernel
theorem d93_37 : decode (ai_b 93) 37 = .ok (.istore 7, 2) := by decide +kernel
theorem d93_39 : decode (ai_b 93) 39 = .ok (.aload 6, 2) := by decide +kernel
theorem d93_41 : decode (ai_b 93) 41 = .ok (.dup, 1) := by decide +kernel
theorem d93_42 : decode (ai_b 93) 42 = .ok (.getfield 188, 3) := by decide +kernel
theorem d93_45 : decode (ai_b 93) 45 = .ok (.iconst 1, 1) := by decide +kernel
theorem d93_46 : decode (ai_b 93) 46 = .ok (.iadd, 1) := by decide +kernel
theorem d93_47 : decode (ai_b 93) 47 = .ok (.putfield 188, 3) := by decide +kernel
theorem d93_50 : decode (ai_b 93) 50 = .ok (.aload 6, 2) := by decide +kernel
theorem d93_52 : decode (ai_b 93) 52 = .ok (.dup, 1) := by decide +kernel
theorem d93_53 : decode (ai_b 93) 53 = .ok (.getfield 185, 3) := by decide +kernel
theorem d93_56 : decode (ai_b 93) 56 = .ok (.iconst 1, 1) := by decide +kernel
theorem d93_57 : decode (ai_b 93) 57 = .ok (.iadd, 1) := by decide +kernel
theorem d93_58 : decode (ai_b 93) 58 = .ok (.putfield 185, 3) := by decide +kernel
theorem d93_61 : decode (ai_b 93) 61 = .ok (.aload_n 0, 1) := by decide +kernel
theorem d93_62 : decode (ai_b 93) 62 = .ok (.iload_n 2, 1) := by decide +kernel
theorem d93_63 : decode (ai_b 93) 63 = .ok (.iload_n 3, 1) := by decide +kernel
theorem d93_64 : decode (ai_b 93) 64 = .ok (.invokevirtual 168, 3) := by decide +kernel
theorem d93_67 : decode (ai_b 93) 67 = .ok (.astore 8, 2) := by decide +kernel
theorem d93_69 : decode (ai_b 93) 69 = .ok (.aload 8, 2) := by decide +kernel
theorem d93_71 : decode (ai_b 93) 71 = .ok (.iload_n 1, 1) := by decide +kernel
theorem d93_72 : decode (ai_b 93) 72 = .ok (.iload 7, 2) := by decide +kernel
theorem d93_74 : decode (ai_b 93) 74 = .ok (.iload 4, 2) := by decide +kernel
theorem d93_76 : decode (ai_b 93) 76 = .ok (.invokevirtual 311, 3) := by decide +kernel
theorem d93_79 : decode (ai_b 93) 79 = .ok (.iload 7, 2) := by decide +kernel
theorem d93_81 : decode (ai_b 93) 81 = .ok (.ifCond .ne 14, 3) := by decide +kernel
theorem d93_84 : decode (ai_b 93) 84 = .ok (.aload_n 0, 1) := by decide +kernel
theorem d93_85 : decode (ai_b 93) 85 = .ok (.aload 8, 2) := by decide +kernel
theorem d93_87 : decode (ai_b 93) 87 = .ok (.iload_n 1, 1) := by decide +kernel
theorem d93_88 : decode (ai_b 93) 88 = .ok (.invokevirtual 315, 3) := by decide +kernel
theorem d93_91 : decode (ai_b 93) 91 = .ok (.aload_n 0, 1) := by decide +kernel
theorem d93_92 : decode (ai_b 93) 92 = .ok (.invokevirtual 198, 3) := by decide +kernel
theorem d93_95 : decode (ai_b 93) 95 = .ok (.iload 7, 2) := by decide +kernel
theorem d93_97 : decode (ai_b 93) 97 = .ok (.ireturn, 1) := by decide +kernel
theorem d94_0 : decode (ai_b 94) 0 = .ok (.iconst 0, 1) := by decide +kernel
theorem d94_1 : decode (ai_b 94) 1 = .ok (.istore_n 3, 1) := by decide +kernel
theorem d94_2 : decode (ai_b 94) 2 = .ok (.iload_n 3, 1) := by decide +kernel
theorem d94_3 : decode (ai_b 94) 3 = .ok (.aload_n 0, 1) := by decide +kernel
theorem d94_4 : decode (ai_b 94) 4 = .ok (.getfield 40, 3) := by decide +kernel
theorem d94_7 : decode (ai_b 94) 7 = .ok (.if_icmp .ge 62, 3) := by decide +kernel
theorem d94_10 : decode (ai_b 94) 10 = .ok (.iload_n 3, 1) := by decide +kernel
theorem d94_11 : decode (ai_b 94) 11 = .ok (.iload_n 2, 1) := by decide +kernel
theorem d94_12 : decode (ai_b 94) 12 = .ok (.if_icmp .eq 51, 3) := by decide +kernel
theorem d94_15 : decode (ai_b 94) 15 = .ok (.aload_n 1, 1) := by decide +kernel
theorem d94_16 : decode (ai_b 94) 16 = .ok (.iload_n 3, 1) := by decide +kernel
theorem d94_17 : decode (ai_b 94) 17 = .ok (.invokevirtual 201, 3) := by decide +kernel
theorem d94_20 : decode (ai_b 94) 20 = .ok (.ifCond .ne 43, 3) := by decide +kernel
theorem d94_23 : decode (ai_b 94) 23 = .ok (.aload_n 1, 1) := by decide +kernel
theorem d94_24 : decode (ai_b 94) 24 = .ok (.iload_n 3, 1) := by decide +kernel
theorem d94_25 : decode (ai_b 94) 25 = .ok (.invokevirtual 319, 3) := by decide +kernel
theorem d94_28 : decode (ai_b 94) 28 = .ok (.aload_n 1, 1) := by decide +kernel
theorem d94_29 : decode (ai_b 94) 29 = .ok (.iload_n 2, 1) := by decide +kernel
theorem d94_30 : decode (ai_b 94) 30 = .ok (.invokevirtual 319, 3) := by decide +kernel
theorem d94_33 : decode (ai_b 94) 33 = .ok (.if_icmp .ne 7, 3) := by decide +kernel
theorem d94_36 : decode (ai_b 94) 36 = .ok (.iconst 1, 1) := by decide +kernel
theorem d94_37 : decode (ai_b 94) 37 = .ok (.goto 4, 3) := by decide +kernel
theorem d94_40 : decode (ai_b 94) 40 = .ok (.iconst 0, 1) := by decide +kernel
theorem d94_41 : decode (ai_b 94) 41 = .ok (.istore 4, 2) := by decide +kernel
theorem d94_43 : decode (ai_b 94) 43 = .ok (.aload_n 0, 1) := by decide +kernel
theorem d94_44 : decode (ai_b 94) 44 = .ok (.getfield 23, 3) := by decide +kernel
theorem d94_47 : decode (ai_b 94) 47 = .ok (.iload_n 2, 1) := by decide +kernel
theorem d94_48 : decode (ai_b 94) 48 = .ok (.iload_n 3, 1) := by decide +kernel
theorem d94_49 : decode (ai_b 94) 49 = .ok (.invokestatic 322, 3) := by decide +kernel
theorem d94_52 : decode (ai_b 94) 52 = .ok (.aaload, 1) := by decide +kernel
theorem d94_53 : decode (ai_b 94) 53 = .ok (.iload_n 2, 1) := by decide +kernel
theorem d94_54 : decode (ai_b 94) 54 = .ok (.iload_n 3, 1) := by decide +kernel
theorem d94_55 : decode (ai_b 94) 55 = .ok (.invokestatic 328, 3) := by decide +kernel
theorem d94_58 : decode (ai_b 94) 58 = .ok (.iload 4, 2) := by decide +kernel
theorem d94_60 : decode (ai_b 94) 60 = .ok (.invokevirtual 331, 3) := by decide +kernel
theorem d94_63 : decode (ai_b 94) 63 = .ok (.iinc 3 1, 3) := by decide +kernel
theorem d94_66 : decode (ai_b 94) 66 = .ok (.goto (-64), 3) := by decide +kernel
theorem d94_69 : decode (ai_b 94) 69 = .ok (.return_, 1) := by decide +kernel
theorem d95_0 : decode (ai_b 95) 0 = .ok (.iconst 0, 1) := by decide +kernel
theorem d95_1 : decode (ai_b 95) 1 = .ok (.istore_n 1, 1) := by decide +kernel
theorem d95_2 : decode (ai_b 95) 2 = .ok (.iload_n 1, 1) := by decide +kernel
theorem d95_3 : decode (ai_b 95) 3 = .ok (.aload_n 0, 1) := by decide +kernel
theorem d95_4 : decode (ai_b 95) 4 = .ok (.getfield 40, 3) := by decide +kernel
theorem d95_7 : decode (ai_b 95) 7 = .ok (.if_icmp .ge 39, 3) := by decide +kernel
theorem d95_10 : decode (ai_b 95) 10 = .ok (.aload_n 0, 1) := by decide +kernel
theorem d95_11 : decode (ai_b 95) 11 = .ok (.getfield 23, 3) := by decide +kernel
theorem d95_14 : decode (ai_b 95) 14 = .ok (.iload_n 1, 1) := by decide +kernel
theorem d95_15 : decode (ai_b 95) 15 = .ok (.aaload, 1) := by decide +kernel
theorem d95_16 : decode (ai_b 95) 16 = .ok (.aload_n 0, 1) := by decide +kernel
theorem d95_17 : decode (ai_b 95) 17 = .ok (.getfield 23, 3) := by decide +kernel
theorem d95_20 : decode (ai_b 95) 20 = .ok (.iload_n 1, 1) := by decide +kernel
theorem d95_21 : decode (ai_b 95) 21 = .ok (.aaload, 1) := by decide +kernel
theorem d95_22 : decode (ai_b 95) 22 = .ok (.getfield 191, 3) := by decide +kernel
theorem d95_25 : decode (ai_b 95) 25 = .ok (.ifCond .eq 7, 3) := by decide +kernel
theorem d95_28 : decode (ai_b 95) 28 = .ok (.iconst (-1), 1) := by decide +kernel
theorem d95_29 : decode (ai_b 95) 29 = .ok (.goto 8, 3) := by decide +kernel
theorem d95_32 : decode (ai_b 95) 32 = .ok (.aload_n 0, 1) := by decide +kernel
theorem d95_33 : decode (ai_b 95) 33 = .ok (.iload_n 1, 1) := by decide +kernel
theorem d95_34 : decode (ai_b 95) 34 = .ok (.invokevirtual 335, 3) := by decide +kernel
theorem d95_37 : decode (ai_b 95) 37 = .ok (.putfield 208, 3) := by decide +kernel
theorem d95_40 : decode (ai_b 95) 40 = .ok (.iinc 1 1, 3) := by decide +kernel
theorem d95_43 : decode (ai_b 95) 43 = .ok (.goto (-41), 3) := by decide +kernel
theorem d95_46 : decode (ai_b 95) 46 = .ok (.return_, 1) := by decide +kernel
theorem d96_0 : decode (ai_b 96) 0 = .ok (.iconst 0, 1) := by decide +kernel
theorem d96_1 : decode (ai_b 96) 1 = .ok (.istore_n 2, 1) := by decide +kernel
theorem d96_2 : decode (ai_b 96) 2 = .ok (.iload_n 2, 1) := by decide +kernel
theorem d96_3 : decode (ai_b 96) 3 = .ok (.iload_n 1, 1) := by decide +kernel
theorem d96_4 : decode (ai_b 96) 4 = .ok (.if_icmp .ge 38, 3) := by decide +kernel
theorem d96_7 : decode (ai_b 96) 7 = .ok (.aload_n 0, 1) := by decide +kernel
theorem d96_8 : decode (ai_b 96) 8 = .ok (.getfield 23, 3) := by decide +kernel
theorem d96_11 : decode (ai_b 96) 11 = .ok (.iload_n 2, 1) := by decide +kernel
theorem d96_12 : decode (ai_b 96) 12 = .ok (.aaload, 1) := by decide +kernel
theorem d96_13 : decode (ai_b 96) 13 = .ok (.getfield 191, 3) := by decide +kernel
theorem d96_16 : decode (ai_b 96) 16 = .ok (.ifCond .ne 20, 3) := by decide +kernel
theorem d96_19 : decode (ai_b 96) 19 = .ok (.aload_n 0, 1) := by decide +kernel
theorem d96_20 : decode (ai_b 96) 20 = .ok (.getfield 23, 3) := by decide +kernel
theorem d96_23 : decode (ai_b 96) 23 = .ok (.iload_n 1, 1) := by decide +kernel
theorem d96_24 : decode (ai_b 96) 24 = .ok (.aaload, 1) := by decide +kernel
theorem d96_25 : decode (ai_b 96) 25 = .ok (.iload_n 2, 1) := by decide +kernel
theorem d96_26 : decode (ai_b 96) 26 = .ok (.invokevirtual 338, 3) := by decide +kernel
theorem d96_29 : decode (ai_b 96) 29 = .ok (.bipush 6, 2) := by decide +kernel
theorem d96_31 : decode (ai_b 96) 31 = .ok (.if_icmp .lt 5, 3) := by decide +kernel
theorem d96_34 : decode (ai_b 96) 34 = .ok (.iload_n 2, 1) := by decide +kernel
theorem d96_35 : decode (ai_b 96) 35 = .ok (.ireturn, 1) := by decide +kernel
theorem d96_36 : decode (ai_b 96) 36 = .ok (.iinc 2 1, 3) := by decide +kernel
theorem d96_39 : decode (ai_b 96) 39 = .ok (.goto (-37), 3) := by decide +kernel
theorem d96_42 : decode (ai_b 96) 42 = .ok (.iconst (-1), 1) := by decide +kernel
theorem d96_43 : decode (ai_b 96) 43 = .ok (.ireturn, 1) := by decide +kernel
theorem d97_0 : decode (ai_b 97) 0 = .ok (.aload_n 1, 1) := by decide +kernel
theorem d97_1 : decode (ai_b 97) 1 = .ok (.iload_n 2, 1) := by decide +kernel
theorem d97_2 : decode (ai_b 97) 2 = .ok (.invokevirtual 201, 3) := by decide +kernel
theorem d97_5 : decode (ai_b 97) 5 = .ok (.ifCond .eq 5, 3) := by decide +kernel
theorem d97_8 : decode (ai_b 97) 8 = .ok (.iconst 0, 1) := by decide +kernel
theorem d97_9 : decode (ai_b 97) 9 = .ok (.ireturn, 1) := by decide +kernel
theorem d97_10 : decode (ai_b 97) 10 = .ok (.aload_n 0, 1) := by decide +kernel
theorem d97_11 : decode (ai_b 97) 11 = .ok (.getfield 23, 3) := by decide +kernel
theorem d97_14 : decode (ai_b 97) 14 = .ok (.iload_n 2, 1) := by decide +kernel
theorem d97_15 : decode (ai_b 97) 15 = .ok (.aaload, 1) := by decide +kernel
theorem d97_16 : decode (ai_b 97) 16 = .ok (.getfield 208, 3) := by decide +kernel
theorem d97_19 : decode (ai_b 97) 19 = .ok (.istore_n 3, 1) := by decide +kernel
theorem d97_20 : decode (ai_b 97) 20 = .ok (.iload_n 3, 1) := by decide +kernel
theorem d97_21 : decode (ai_b 97) 21 = .ok (.iconst (-1), 1) := by decide +kernel
theorem d97_22 : decode (ai_b 97) 22 = .ok (.if_icmp .eq 11, 3) := by decide +kernel
theorem d97_25 : decode (ai_b 97) 25 = .ok (.aload_n 1, 1) := by decide +kernel
theorem d97_26 : decode (ai_b 97) 26 = .ok (.iload_n 3, 1) := by decide +kernel
theorem d97_27 : decode (ai_b 97) 27 = .ok (.invokevirtual 201, 3) := by decide +kernel
theorem d97_30 : decode (ai_b 97) 30 = .ok (.ifCond .eq 7, 3) := by decide +kernel
theorem d97_33 : decode (ai_b 97) 33 = .ok (.iconst 1, 1) := by decide +kernel
theorem d97_34 : decode (ai_b 97) 34 = .ok (.goto 4, 3) := by decide +kernel
theorem d97_37 : decode (ai_b 97) 37 = .ok (.iconst 0, 1) := by decide +kernel
theorem d97_38 : decode (ai_b 97) 38 = .ok (.ireturn, 1) := by decide +kernel
theorem d98_0 : decode (ai_b 98) 0 = .ok (.iconst 0, 1) := by decide +kernel
theorem d98_1 : decode (ai_b 98) 1 = .ok (.istore_n 2, 1) := by decide +kernel
theorem d98_2 : decode (ai_b 98) 2 = .ok (.iconst 0, 1) := by decide +kernel
theorem d98_3 : decode (ai_b 98) 3 = .ok (.istore_n 3, 1) := by decide +kernel
theorem d98_4 : decode (ai_b 98) 4 = .ok (.iload_n 3, 1) := by decide +kernel
theorem d98_5 : decode (ai_b 98) 5 = .ok (.aload_n 0, 1) := by decide +kernel
theorem d98_6 : decode (ai_b 98) 6 = .ok (.getfield 40, 3) := by decide +kernel
theorem d98_9 : decode (ai_b 98) 9 = .ok (.if_icmp .ge 21, 3) := by decide +kernel
theorem d98_12 : decode (ai_b 98) 12 = .ok (.aload_n 0, 1) := by decide +kernel
theorem d98_13 : decode (ai_b 98) 13 = .ok (.aload_n 1, 1) := by decide +kernel
theorem d98_14 : decode (ai_b 98) 14 = .ok (.iload_n 3, 1) := by decide +kernel
theorem d98_15 : decode (ai_b 98) 15 = .ok (.invokevirtual 204, 3) := by decide +kernel
theorem d98_18 : decode (ai_b 98) 18 = .ok (.ifCond .eq 6, 3) := by decide +kernel
theorem d98_21 : decode (ai_b 98) 21 = .ok (.iinc 2 1, 3) := by decide +kernel
theorem d98_24 : decode (ai_b 98) 24 = .ok (.iinc 3 1, 3) := by decide +kernel
theorem d98_27 : decode (ai_b 98) 27 = .ok (.goto (-23), 3) := by decide +kernel
theorem d98_30 : decode (ai_b 98) 30 = .ok (.iload_n 2, 1) := by decide +kernel
theorem d98_31 : decode (ai_b 98) 31 = .ok (.ireturn, 1) := by decide +kernel
theorem d99_0 : decode (ai_b 99) 0 = .ok (.iconst 0, 1) := by decide +kernel
theorem d99_1 : decode (ai_b 99) 1 = .ok (.istore_n 2, 1) := by decide +kernel
theorem d99_2 : decode (ai_b 99) 2 = .ok (.iconst 0, 1) := by decide +kernel
theorem d99_3 : decode (ai_b 99) 3 = .ok (.istore_n 3, 1) := by decide +kernel
theorem d99_4 : decode (ai_b 99) 4 = .ok (.iload_n 3, 1) := by decide +kernel
theorem d99_5 : decode (ai_b 99) 5 = .ok (.aload_n 0, 1) := by decide +kernel
theorem d99_6 : decode (ai_b 99) 6 = .ok (.getfield 29, 3) := by decide +kernel
theorem d99_9 : decode (ai_b 99) 9 = .ok (.arraylength, 1) := by decide +kernel
theorem d99_10 : decode (ai_b 99) 10 = .ok (.if_icmp .ge 26, 3) := by decide +kernel
theorem d99_13 : decode (ai_b 99) 13 = .ok (.aload_n 0, 1) := by decide +kernel
theorem d99_14 : decode (ai_b 99) 14 = .ok (.aload_n 0, 1) := by decide +kernel
theorem d99_15 : decode (ai_b 99) 15 = .ok (.getfield 29, 3) := by decide +kernel
theorem d99_18 : decode (ai_b 99) 18 = .ok (.iload_n 3, 1) := by decide +kernel
theorem d99_19 : decode (ai_b 99) 19 = .ok (.aaload, 1) := by decide +kernel
theorem d99_20 : decode (ai_b 99) 20 = .ok (.iload_n 1, 1) := by decide +kernel
theorem d99_21 : decode (ai_b 99) 21 = .ok (.invokevirtual 204, 3) := by decide +kernel
theorem d99_24 : decode (ai_b 99) 24 = .ok (.ifCond .eq 6, 3) := by decide +kernel
theorem d99_27 : decode (ai_b 99) 27 = .ok (.iinc 2 1, 3) := by decide +kernel
theorem d99_30 : decode (ai_b 99) 30 = .ok (.iinc 3 1, 3) := by decide +kernel
theorem d99_33 : decode (ai_b 99) 33 = .ok (.goto (-29), 3) := by decide +kernel
theorem d99_36 : decode (ai_b 99) 36 = .ok (.iload_n 2, 1) := by decide +kernel
theorem d99_37 : decode (ai_b 99) 37 = .ok (.ireturn, 1) := by decide +kernel
theorem d100_0 : decode (ai_b 100) 0 = .ok (.iconst 0, 1) := by decide +kernel
theorem d100_1 : decode (ai_b 100) 1 = .ok (.istore_n 1, 1) := by decide +kernel
theorem d100_2 : decode (ai_b 100) 2 = .ok (.iload_n 1, 1) := by decide +kernel
theorem d100_3 : decode (ai_b 100) 3 = .ok (.aload_n 0, 1) := by decide +kernel
theorem d100_4 : decode (ai_b 100) 4 = .ok (.getfield 40, 3) := by decide +kernel
theorem d100_7 : decode (ai_b 100) 7 = .ok (.if_icmp .ge 18, 3) := by decide +kernel
theorem d100_10 : decode (ai_b 100) 10 = .ok (.aload_n 0, 1) := by decide +kernel
theorem d100_11 : decode (ai_b 100) 11 = .ok (.getfield 23, 3) := by decide +kernel
theorem d100_14 : decode (ai_b 100) 14 = .ok (.iload_n 1, 1) := by decide +kernel
theorem d100_15 : decode (ai_b 100) 15 = .ok (.aaload, 1) := by decide +kernel
theorem d100_16 : decode (ai_b 100) 16 = .ok (.invokevirtual 341, 3) := by decide +kernel
theorem d100_19 : decode (ai_b 100) 19 = .ok (.iinc 1 1, 3) := by decide +kernel
theorem d100_22 : decode (ai_b 100) 22 = .ok (.goto (-20), 3) := by decide +kernel
theorem d100_25 : decode (ai_b 100) 25 = .ok (.iconst 0, 1) := by decide +kernel
theorem d100_26 : decode (ai_b 100) 26 = .ok (.istore_n 1, 1) := by decide +kernel
theorem d100_27 : decode (ai_b 100) 27 = .ok (.iload_n 1, 1) := by decide +kernel
theorem d100_28 : decode (ai_b 100) 28 = .ok (.aload_n 0, 1) := by decide +kernel
theorem d100_29 : decode (ai_b 100) 29 = .ok (.getfield 33, 3) := by decide +kernel
theorem d100_32 : decode (ai_b 100) 32 = .ok (.if_icmp .ge 66, 3) := by decide +kernel
theorem d100_35 : decode (ai_b 100) 35 = .ok (.iconst 0, 1) := by decide +kernel
theorem d100_36 : decode (ai_b 100) 36 = .ok (.istore_n 2, 1) := by decide +kernel
theorem d100_37 : decode (ai_b 100) 37 = .ok (.iload_n 2, 1) := by decide +kernel
theorem d100_38 : decode (ai_b 100) 38 = .ok (.aload_n 0, 1) := by decide +kernel
theorem d100_39 : decode (ai_b 100) 39 = .ok (.getfield 37, 3) := by decide +kernel
theorem d100_42 : decode (ai_b 100) 42 = .ok (.if_icmp .ge 50, 3) := by decide +kernel
theorem d100_45 : decode (ai_b 100) 45 = .ok (.aload_n 0, 1) := by decide +kernel
theorem d100_46 : decode (ai_b 100) 46 = .ok (.iload_n 1, 1) := by decide +kernel
theorem d100_47 : decode (ai_b 100) 47 = .ok (.iload_n 2, 1) := by decide +kernel
theorem d100_48 : decode (ai_b 100) 48 = .ok (.invokevirtual 168, 3) := by decide +kernel
theorem d100_51 : decode (ai_b 100) 51 = .ok (.astore_n 3, 1) := by decide +kernel
theorem d100_52 : decode (ai_b 100) 52 = .ok (.aload_n 3, 1) := by decide +kernel
theorem d100_53 : decode (ai_b 100) 53 = .ok (.invokevirtual 264, 3) := by decide +kernel
theorem d100_56 : decode (ai_b 100) 56 = .ok (.ifCond .eq 10, 3) := by decide +kernel
theorem d100_59 : decode (ai_b 100) 59 = .ok (.aload_n 3, 1) := by decide +kernel
theorem d100_60 : decode (ai_b 100) 60 = .ok (.getfield 172, 3) := by decide +kernel
theorem d100_63 : decode (ai_b 100) 63 = .ok (.goto 7, 3) := by decide +kernel
theorem d100_66 : decode (ai_b 100) 66 = .ok (.aload_n 3, 1) := by decide +kernel
theorem d100_67 : decode (ai_b 100) 67 = .ok (.getfield 215, 3) := by decide +kernel
theorem d100_70 : decode (ai_b 100) 70 = .ok (.istore 4, 2) := by decide +kernel
theorem d100_72 : decode (ai_b 100) 72 = .ok (.iload 4, 2) := by decide +kernel
theorem d100_74 : decode (ai_b 100) 74 = .ok (.iconst (-1), 1) := by decide +kernel
theorem d100_75 : decode (ai_b 100) 75 = .ok (.if_icmp .eq 11, 3) := by decide +kernel
theorem d100_78 : decode (ai_b 100) 78 = .ok (.aload_n 0, 1) := by decide +kernel
theorem d100_79 : decode (ai_b 100) 79 = .ok (.aload_n 3, 1) := by decide +kernel
theorem d100_80 : decode (ai_b 100) 80 = .ok (.iload_n 2, 1) := by decide +kernel
theorem d100_81 : decode (ai_b 100) 81 = .ok (.iload 4, 2) := by decide +kernel
theorem d100_83 : decode (ai_b 100) 83 = .ok (.invokevirtual 344, 3) := by decide +kernel
theorem d100_86 : decode (ai_b 100) 86 = .ok (.iinc 2 1, 3) := by decide +kernel
theorem d100_89 : decode (ai_b 100) 89 = .ok (.goto (-52), 3) := by decide +kernel
theorem d100_92 : decode (ai_b 100) 92 = .ok (.iinc 1 1, 3) := by decide +kernel
theorem d100_95 : decode (ai_b 100) 95 = .ok (.goto (-68), 3) := by decide +kernel
theorem d100_98 : decode (ai_b 100) 98 = .ok (.return_, 1) := by decide +kernel
theorem d101_0 : decode (ai_b 101) 0 = .ok (.iconst 0, 1) := by decide +kernel
theorem d101_1 : decode (ai_b 101) 1 = .ok (.istore 4, 2) := by decide +kernel
theorem d101_3 : decode (ai_b 101) 3 = .ok (.iload 4, 2) := by decide +kernel
theorem d101_5 : decode (ai_b 101) 5 = .ok (.aload_n 0, 1) := by decide +kernel
theorem d101_6 : decode (ai_b 101) 6 = .ok (.getfield 40, 3) := by decide +kernel
theorem d101_9 : decode (ai_b 101) 9 = .ok (.if_icmp .ge 37, 3) := by decide +kernel
theorem d101_12 : decode (ai_b 101) 12 = .ok (.aload_n 0, 1) := by decide +kernel
theorem d101_13 : decode (ai_b 101) 13 = .ok (.aload_n 1, 1) := by decide +kernel
theorem d101_14 : decode (ai_b 101) 14 = .ok (.iload 4, 2) := by decide +kernel
theorem d101_16 : decode (ai_b 101) 16 = .ok (.invokevirtual 204, 3) := by decide +kernel
theorem d101_19 : decode (ai_b 101) 19 = .ok (.ifCond .eq 21, 3) := by decide +kernel
theorem d101_22 : decode (ai_b 101) 22 = .ok (.aload_n 0, 1) := by decide +kernel
theorem d101_23 : decode (ai_b 101) 23 = .ok (.getfield 23, 3) := by decide +kernel
theorem d101_26 : decode (ai_b 101) 26 = .ok (.iload 4, 2) := by decide +kernel
theorem d101_28 : decode (ai_b 101) 28 = .ok (.aaload, 1) := by decide +kernel
theorem d101_29 : decode (ai_b 101) 29 = .ok (.iload_n 2, 1) := by decide +kernel
theorem d101_30 : decode (ai_b 101) 30 = .ok (.aload_n 1, 1) := by decide +kernel
theorem d101_31 : decode (ai_b 101) 31 = .ok (.iload 4, 2) := by decide +kernel
theorem d101_33 : decode (ai_b 101) 33 = .ok (.invokevirtual 319, 3) := by decide +kernel
theorem d101_36 : decode (ai_b 101) 36 = .ok (.iload_n 3, 1) := by decide +kernel
theorem d101_37 : decode (ai_b 101) 37 = .ok (.invokevirtual 348, 3) := by decide +kernel
theorem d101_40 : decode (ai_b 101) 40 = .ok (.iinc 4 1, 3) := by decide +kernel
theorem d101_43 : decode (ai_b 101) 43 = .ok (.goto (-40), 3) := by decide +kernel
theorem d101_46 : decode (ai_b 101) 46 = .ok (.return_, 1) := by decide +kernel
theorem d102_0 : decode (ai_b 102) 0 = .ok (.iconst 0, 1) := by decide +kernel
theorem d102_1 : decode (ai_b 102) 1 = .ok (.istore_n 1, 1) := by decide +kernel
theorem d102_2 : decode (ai_b 102) 2 = .ok (.iconst 0, 1) := by decide +kernel
theorem d102_3 : decode (ai_b 102) 3 = .ok (.istore_n 2, 1) := by decide +kernel
theorem d102_4 : decode (ai_b 102) 4 = .ok (.iload_n 2, 1) := by decide +kernel
theorem d102_5 : decode (ai_b 102) 5 = .ok (.aload_n 0, 1) := by decide +kernel
theorem d102_6 : decode (ai_b 102) 6 = .ok (.getfield 33, 3) := by decide +kernel
theorem d102_9 : decode (ai_b 102) 9 = .ok (.if_icmp .ge 37, 3) := by decide +kernel
theorem d102_12 : decode (ai_b 102) 12 = .ok (.iconst 0, 1) := by decide +kernel
theorem d102_13 : decode (ai_b 102) 13 = .ok (.istore_n 3, 1) := by decide +kernel
theorem d102_14 : decode (ai_b 102) 14 = .ok (.iload_n 3, 1) := by decide +kernel
theorem d102_15 : decode (ai_b 102) 15 = .ok (.aload_n 0, 1) := by decide +kernel
theorem d102_16 : decode (ai_b 102) 16 = .ok (.getfield 37, 3) := by decide +kernel
theorem d102_19 : decode (ai_b 102) 19 = .ok (.if_icmp .ge 21, 3) := by decide +kernel
theorem d102_22 : decode (ai_b 102) 22 = .ok (.aload_n 0, 1) := by decide +kernel
theorem d102_23 : decode (ai_b 102) 23 = .ok (.iload_n 2, 1) := by decide +kernel
theorem d102_24 : decode (ai_b 102) 24 = .ok (.iload_n 3, 1) := by decide +kernel
theorem d102_25 : decode (ai_b 102) 25 = .ok (.invokevirtual 351, 3) := by decide +kernel
theorem d102_28 : decode (ai_b 102) 28 = .ok (.ifCond .eq 6, 3) := by decide +kernel
theorem d102_31 : decode (ai_b 102) 31 = .ok (.iinc 1 1, 3) := by decide +kernel
theorem d102_34 : decode (ai_b 102) 34 = .ok (.iinc 3 1, 3) := by decide +kernel
theorem d102_37 : decode (ai_b 102) 37 = .ok (.goto (-23), 3) := by decide +kernel
theorem d102_40 : decode (ai_b 102) 40 = .ok (.iinc 2 1, 3) := by decide +kernel
theorem d102_43 : decode (ai_b 102) 43 = .ok (.goto (-39), 3) := by decide +kernel
theorem d102_46 : decode (ai_b 102) 46 = .ok (.aload_n 0, 1) := by decide +kernel
theorem d102_47 : decode (ai_b 102) 47 = .ok (.invokevirtual 218, 3) := by decide +kernel
theorem d102_50 : decode (ai_b 102) 50 = .ok (.iload_n 1, 1) := by decide +kernel
theorem d102_51 : decode (ai_b 102) 51 = .ok (.ireturn, 1) := by decide +kernel
theorem d103_0 : decode (ai_b 103) 0 = .ok (.aload_n 0, 1) := by decide +kernel
theorem d103_1 : decode (ai_b 103) 1 = .ok (.iload_n 1, 1) := by decide +kernel
theorem d103_2 : decode (ai_b 103) 2 = .ok (.iload_n 2, 1) := by decide +kernel
theorem d103_3 : decode (ai_b 103) 3 = .ok (.invokevirtual 168, 3) := by decide +kernel
theorem d103_6 : decode (ai_b 103) 6 = .ok (.astore_n 3, 1) := by decide +kernel
theorem d103_7 : decode (ai_b 103) 7 = .ok (.aload_n 3, 1) := by decide +kernel
theorem d103_8 : decode (ai_b 103) 8 = .ok (.invokevirtual 264, 3) := by decide +kernel
theorem d103_11 : decode (ai_b 103) 11 = .ok (.ifCond .eq 5, 3) := by decide +kernel
theorem d103_14 : decode (ai_b 103) 14 = .ok (.iconst 0, 1) := by decide +kernel
theorem d103_15 : decode (ai_b 103) 15 = .ok (.ireturn, 1) := by decide +kernel
theorem d103_16 : decode (ai_b 103) 16 = .ok (.aload_n 0, 1) := by decide +kernel
theorem d103_17 : decode (ai_b 103) 17 = .ok (.iload_n 1, 1) := by decide +kernel
theorem d103_18 : decode (ai_b 103) 18 = .ok (.iload_n 2, 1) := by decide +kernel
theorem d103_19 : decode (ai_b 103) 19 = .ok (.invokevirtual 232, 3) := by decide +kernel
theorem d103_22 : decode (ai_b 103) 22 = .ok (.aload_n 0, 1) := by decide +kernel
theorem d103_23 : decode (ai_b 103) 23 = .ok (.getfield 65, 3) := by decide +kernel
theorem d103_26 : decode (ai_b 103) 26 = .ok (.getfield 354, 3) := by decide +kernel
theorem d103_29 : decode (ai_b 103) 29 = .ok (.ifCond .ne 5, 3) := by decide +kernel
theorem d103_32 : decode (ai_b 103) 32 = .ok (.iconst 0, 1) := by decide +kernel
theorem d103_33 : decode (ai_b 103) 33 = .ok (.ireturn, 1) := by decide +kernel
theorem d103_34 : decode (ai_b 103) 34 = .ok (.aload_n 3, 1) := by decide +kernel
theorem d103_35 : decode (ai_b 103) 35 = .ok (.getfield 215, 3) := by decide +kernel
theorem d103_38 : decode (ai_b 103) 38 = .ok (.iconst (-1), 1) := by decide +kernel
theorem d103_39 : decode (ai_b 103) 39 = .ok (.if_icmp .eq 26, 3) := by decide +kernel
theorem d103_42 : decode (ai_b 103) 42 = .ok (.aload_n 0, 1) := by decide +kernel
theorem d103_43 : decode (ai_b 103) 43 = .ok (.getfield 65, 3) := by decide +kernel
theorem d103_46 : decode (ai_b 103) 46 = .ok (.aload_n 0, 1) := by decide +kernel
theorem d103_47 : decode (ai_b 103) 47 = .ok (.getfield 65, 3) := by decide +kernel
theorem d103_50 : decode (ai_b 103) 50 = .ok (.getfield 250, 3) := by decide +kernel
theorem d103_53 : decode (ai_b 103) 53 = .ok (.aload_n 3, 1) := by decide +kernel
theorem d103_54 : decode (ai_b 103) 54 = .ok (.getfield 215, 3) := by decide +kernel
theorem d103_57 : decode (ai_b 103) 57 = .ok (.invokevirtual 357, 3) := by decide +kernel
theorem d103_60 : decode (ai_b 103) 60 = .ok (.ifCond .ne 5, 3) := by decide +kernel
theorem d103_63 : decode (ai_b 103) 63 = .ok (.iconst 0, 1) := by decide +kernel
theorem d103_64 : decode (ai_b 103) 64 = .ok (.ireturn, 1) := by decide +kernel
theorem d103_65 : decode (ai_b 103) 65 = .ok (.aload_n 3, 1) := by decide +kernel
theorem d103_66 : decode (ai_b 103) 66 = .ok (.aload_n 0, 1) := by decide +kernel
theorem d103_67 : decode (ai_b 103) 67 = .ok (.getfield 65, 3) := by decide +kernel
theorem d103_70 : decode (ai_b 103) 70 = .ok (.getfield 250, 3) := by decide +kernel
theorem d103_73 : decode (ai_b 103) 73 = .ok (.putfield 215, 3) := by decide +kernel
theorem d103_76 : decode (ai_b 103) 76 = .ok (.iconst 1, 1) := by decide +kernel
theorem d103_77 : decode (ai_b 103) 77 = .ok (.ireturn, 1) := by decide +kernel
theorem d104_0 : decode (ai_b 104) 0 = .ok (.aload_n 0, 1) := by decide +kernel
theorem d104_1 : decode (ai_b 104) 1 = .ok (.iload_n 1, 1) := by decide +kernel
theorem d104_2 : decode (ai_b 104) 2 = .ok (.iload_n 2, 1) := by decide +kernel
theorem d104_3 : decode (ai_b 104) 3 = .ok (.invokevirtual 168, 3) := by decide +kernel
theorem d104_6 : decode (ai_b 104) 6 = .ok (.astore_n 3, 1) := by decide +kernel
theorem d104_7 : decode (ai_b 104) 7 = .ok (.aload_n 0, 1) := by decide +kernel
theorem d104_8 : decode (ai_b 104) 8 = .ok (.getfield 65, 3) := by decide +kernel
theorem d104_11 : decode (ai_b 104) 11 = .ok (.aload_n 0, 1) := by decide +kernel
theorem d104_12 : decode (ai_b 104) 12 = .ok (.getfield 17, 3) := by decide +kernel
theorem d104_15 : decode (ai_b 104) 15 = .ok (.iload_n 2, 1) := by decide +kernel
theorem d104_16 : decode (ai_b 104) 16 = .ok (.aaload, 1) := by decide +kernel
theorem d104_17 : decode (ai_b 104) 17 = .ok (.getfield 156, 3) := by decide +kernel
theorem d104_20 : decode (ai_b 104) 20 = .ok (.aload_n 3, 1) := by decide +kernel
theorem d104_21 : decode (ai_b 104) 21 = .ok (.getfield 172, 3) := by decide +kernel
theorem d104_24 : decode (ai_b 104) 24 = .ok (.invokevirtual 359, 3) := by decide +kernel
theorem d104_27 : decode (ai_b 104) 27 = .ok (.iconst 0, 1) := by decide +kernel
theorem d104_28 : decode (ai_b 104) 28 = .ok (.istore 4, 2) := by decide +kernel
theorem d104_30 : decode (ai_b 104) 30 = .ok (.iload 4, 2) := by decide +kernel
theorem d104_32 : decode (ai_b 104) 32 = .ok (.aload_n 0, 1) := by decide +kernel
theorem d104_33 : decode (ai_b 104) 33 = .ok (.getfield 40, 3) := by decide +kernel
theorem d104_36 : decode (ai_b 104) 36 = .ok (.if_icmp .ge 40, 3) := by decide +kernel
theorem d104_39 : decode (ai_b 104) 39 = .ok (.aload_n 0, 1) := by decide +kernel
theorem d104_40 : decode (ai_b 104) 40 = .ok (.aload_n 3, 1) := by decide +kernel
theorem d104_41 : decode (ai_b 104) 41 = .ok (.iload 4, 2) := by decide +kernel
theorem d104_43 : decode (ai_b 104) 43 = .ok (.invokevirtual 204, 3) := by decide +kernel
theorem d104_46 : decode (ai_b 104) 46 = .ok (.ifCond .eq 24, 3) := by decide +kernel
theorem d104_49 : decode (ai_b 104) 49 = .ok (.aload_n 0, 1) := by decide +kernel
theorem d104_50 : decode (ai_b 104) 50 = .ok (.getfield 65, 3) := by decide +kernel
theorem d104_53 : decode (ai_b 104) 53 = .ok (.aload_n 0, 1) := by decide +kernel
theorem d104_54 : decode (ai_b 104) 54 = .ok (.getfield 23, 3) := by decide +kernel
theorem d104_57 : decode (ai_b 104) 57 = .ok (.iload 4, 2) := by decide +kernel
theorem d104_59 : decode (ai_b 104) 59 = .ok (.aaload, 1) := by decide +kernel
theorem d104_60 : decode (ai_b 104) 60 = .ok (.iload_n 2, 1) := by decide +kernel
theorem d104_61 : decode (ai_b 104) 61 = .ok (.aload_n 3, 1) := by decide +kernel
theorem d104_62 : decode (ai_b 104) 62 = .ok (.iload 4, 2) := by decide +kernel
theorem d104_64 : decode (ai_b 104) 64 = .ok (.invokevirtual 319, 3) := by decide +kernel
theorem d104_67 : decode (ai_b 104) 67 = .ok (.invokevirtual 362, 3) := by decide +kernel
theorem d104_70 : decode (ai_b 104) 70 = .ok (.iinc 4 1, 3) := by decide +kernel
theorem d104_73 : decode (ai_b 104) 73 = .ok (.goto (-43), 3) := by decide +kernel
theorem d104_76 : decode (ai_b 104) 76 = .ok (.aload_n 0, 1) := by decide +kernel
theorem d104_77 : decode (ai_b 104) 77 = .ok (.getfield 65, 3) := by decide +kernel
theorem d104_80 : decode (ai_b 104) 80 = .ok (.invokevirtual 366, 3) := by decide +kernel
theorem d104_83 : decode (ai_b 104) 83 = .ok (.return_, 1) := by decide +kernel
theorem d105_0 : decode (ai_b 105) 0 = .ok (.aload_n 1, 1) := by decide +kernel
theorem d105_1 : decode (ai_b 105) 1 = .ok (.invokevirtual 264, 3) := by decide +kernel
theorem d105_4 : decode (ai_b 105) 4 = .ok (.ifCond .eq 5, 3) := by decide +kernel
theorem d105_7 : decode (ai_b 105) 7 = .ok (.iconst 1, 1) := by decide +kernel
theorem d105_8 : decode (ai_b 105) 8 = .ok (.ireturn, 1) := by decide +kernel
theorem d105_9 : decode (ai_b 105) 9 = .ok (.aload_n 0, 1) := by decide +kernel
theorem d105_10 : decode (ai_b 105) 10 = .ok (.getfield 65, 3) := by decide +kernel
theorem d105_13 : decode (ai_b 105) 13 = .ok (.getfield 354, 3) := by decide +kernel
theorem d105_16 : decode (ai_b 105) 16 = .ok (.ifCond .le 35, 3) := by decide +kernel
theorem d105_19 : decode (ai_b 105) 19 = .ok (.aload_n 0, 1) := by decide +kernel
theorem d105_20 : decode (ai_b 105) 20 = .ok (.getfield 65, 3) := by decide +kernel
theorem d105_23 : decode (ai_b 105) 23 = .ok (.getfield 354, 3) := by decide +kernel
theorem d105_26 : decode (ai_b 105) 26 = .ok (.aload_n 0, 1) := by decide +kernel
theorem d105_27 : decode (ai_b 105) 27 = .ok (.getfield 46, 3) := by decide +kernel
theorem d105_30 : decode (ai_b 105) 30 = .ok (.if_icmp .ge 17, 3) := by decide +kernel
theorem d105_33 : decode (ai_b 105) 33 = .ok (.aload_n 0, 1) := by decide +kernel
theorem d105_34 : decode (ai_b 105) 34 = .ok (.getfield 65, 3) := by decide +kernel
theorem d105_37 : decode (ai_b 105) 37 = .ok (.aload_n 0, 1) := by decide +kernel
theorem d105_38 : decode (ai_b 105) 38 = .ok (.getfield 43, 3) := by decide +kernel
theorem d105_41 : decode (ai_b 105) 41 = .ok (.invokevirtual 369, 3) := by decide +kernel
theorem d105_44 : decode (ai_b 105) 44 = .ok (.ifCond .eq 7, 3) := by decide +kernel
theorem d105_47 : decode (ai_b 105) 47 = .ok (.iconst 1, 1) := by decide +kernel
theorem d105_48 : decode (ai_b 105) 48 = .ok (.goto 4, 3) := by decide +kernel
theorem d105_51 : decode (ai_b 105) 51 = .ok (.iconst 0, 1) := by decide +kernel
theorem d105_52 : decode (ai_b 105) 52 = .ok (.ireturn, 1) := by decide +kernel
theorem d106_0 : decode (ai_b 106) 0 = .ok (.iconst 0, 1) := by decide +kernel
theorem d106_1 : decode (ai_b 106) 1 = .ok (.istore_n 2, 1) := by decide +kernel
theorem d106_2 : decode (ai_b 106) 2 = .ok (.iload_n 2, 1) := by decide +kernel
theorem d106_3 : decode (ai_b 106) 3 = .ok (.aload_n 0, 1) := by decide +kernel
theorem d106_4 : decode (ai_b 106) 4 = .ok (.getfield 37, 3) := by decide +kernel
theorem d106_7 : decode (ai_b 106) 7 = .ok (.if_icmp .ge 108, 3) := by decide +kernel
theorem d106_10 : decode (ai_b 106) 10 = .ok (.aload_n 0, 1) := by decide +kernel
theorem d106_11 : decode (ai_b 106) 11 = .ok (.getfield 72, 3) := by decide +kernel
theorem d106_14 : decode (ai_b 106) 14 = .ok (.getfield 256, 3) := by decide +kernel
theorem d106_17 : decode (ai_b 106) 17 = .ok (.iload_n 2, 1) := by decide +kernel
theorem d106_18 : decode (ai_b 106) 18 = .ok (.iload_n 2, 1) := by decide +kernel
theorem d106_19 : decode (ai_b 106) 19 = .ok (.ifCond .eq 31, 3) := by decide +kernel
theorem d106_22 : decode (ai_b 106) 22 = .ok (.aload_n 0, 1) := by decide +kernel
theorem d106_23 : decode (ai_b 106) 23 = .ok (.getfield 72, 3) := by decide +kernel
theorem d106_26 : decode (ai_b 106) 26 = .ok (.aload_n 0, 1) := by decide +kernel
theorem d106_27 : decode (ai_b 106) 27 = .ok (.getfield 17, 3) := by decide +kernel
theorem d106_30 : decode (ai_b 106) 30 = .ok (.iload_n 2, 1) := by decide +kernel
theorem d106_31 : decode (ai_b 106) 31 = .ok (.aaload, 1) := by decide +kernel
theorem d106_32 : decode (ai_b 106) 32 = .ok (.getfield 159, 3) := by decide +kernel
theorem d106_35 : decode (ai_b 106) 35 = .ok (.aload_n 0, 1) := by decide +kernel
theorem d106_36 : decode (ai_b 106) 36 = .ok (.getfield 17, 3) := by decide +kernel
theorem d106_39 : decode (ai_b 106) 39 = .ok (.iload_n 2, 1) := by decide +kernel
theorem d106_40 : decode (ai_b 106) 40 = .ok (.aaload, 1) := by decide +kernel
theorem d106_41 : decode (ai_b 106) 41 = .ok (.getfield 162, 3) := by decide +kernel
theorem d106_44 : decode (ai_b 106) 44 = .ok (.invokevirtual 372, 3) := by decide +kernel
theorem d106_47 : decode (ai_b 106) 47 = .ok (.ifCond .eq 7, 3) := by decide +kernel
theorem d106_50 : decode (ai_b 106) 50 = .ok (.iconst 1, 1) := by decide +kernel
theorem d106_51 : decode (ai_b 106) 51 = .ok (.goto 4, 3) := by decide +kernel
theorem d106_54 : decode (ai_b 106) 54 = .ok (.iconst 0, 1) := by decide +kernel
theorem d106_55 : decode (ai_b 106) 55 = .ok (.bastore, 1) := by decide +kernel
theorem d106_56 : decode (ai_b 106) 56 = .ok (.aload_n 0, 1) := by decide +kernel
theorem d106_57 : decode (ai_b 106) 57 = .ok (.getfield 72, 3) := by decide +kernel
theorem d106_60 : decode (ai_b 106) 60 = .ok (.getfield 256, 3) := by decide +kernel
theorem d106_63 : decode (ai_b 106) 63 = .ok (.iload_n 2, 1) := by decide +kernel
theorem d106_64 : decode (ai_b 106) 64 = .ok (.baload, 1) := by decide +kernel
theorem d106_65 : decode (ai_b 106) 65 = .ok (.ifCond .eq 44, 3) := by decide +kernel
theorem d106_68 : decode (ai_b 106) 68 = .ok (.aload_n 0, 1) := by decide +kernel
theorem d106_69 : decode (ai_b 106) 69 = .ok (.iload_n 1, 1) := by decide +kernel
theorem d106_70 : decode (ai_b 106) 70 = .ok (.iload_n 2, 1) := by decide +kernel
theorem d106_71 : decode (ai_b 106) 71 = .ok (.invokevirtual 232, 3) := by decide +kernel
theorem d106_74 : decode (ai_b 106) 74 = .ok (.aload_n 0, 1) := by decide +kernel
theorem d106_75 : decode (ai_b 106) 75 = .ok (.getfield 72, 3) := by decide +kernel
theorem d106_78 : decode (ai_b 106) 78 = .ok (.getfield 267, 3) := by decide +kernel
theorem d106_81 : decode (ai_b 106) 81 = .ok (.iload_n 2, 1) := by decide +kernel
theorem d106_82 : decode (ai_b 106) 82 = .ok (.aload_n 0, 1) := by decide +kernel
theorem d106_83 : decode (ai_b 106) 83 = .ok (.aload_n 0, 1) := by decide +kernel
theorem d106_84 : decode (ai_b 106) 84 = .ok (.iload_n 1, 1) := by decide +kernel
theorem d106_85 : decode (ai_b 106) 85 = .ok (.iload_n 2, 1) := by decide +kernel
theorem d106_86 : decode (ai_b 106) 86 = .ok (.invokevirtual 168, 3) := by decide +kernel
theorem d106_89 : decode (ai_b 106) 89 = .ok (.invokevirtual 260, 3) := by decide +kernel
theorem d106_92 : decode (ai_b 106) 92 = .ok (.bastore, 1) := by decide +kernel
theorem d106_93 : decode (ai_b 106) 93 = .ok (.aload_n 0, 1) := by decide +kernel
theorem d106_94 : decode (ai_b 106) 94 = .ok (.getfield 72, 3) := by decide +kernel
theorem d106_97 : decode (ai_b 106) 97 = .ok (.getfield 375, 3) := by decide +kernel
theorem d106_100 : decode (ai_b 106) 100 = .ok (.iload_n 2, 1) := by decide +kernel
theorem d106_101 : decode (ai_b 106) 101 = .ok (.aload_n 0, 1) := by decide +kernel
theorem d106_102 : decode (ai_b 106) 102 = .ok (.getfield 65, 3) := by decide +kernel
theorem d106_105 : decode (ai_b 106) 105 = .ok (.getfield 250, 3) := by decide +kernel
theorem d106_108 : decode (ai_b 106) 108 = .ok (.iastore, 1) := by decide +kernel
theorem d106_109 : decode (ai_b 106) 109 = .ok (.iinc 2 1, 3) := by decide +kernel
theorem d106_112 : decode (ai_b 106) 112 = .ok (.goto (-110), 3) := by decide +kernel
theorem d106_115 : decode (ai_b 106) 115 = .ok (.return_, 1) := by decide +kernel
theorem d107_0 : decode (ai_b 107) 0 = .ok (.iconst 0, 1) := by decide +kernel
theorem d107_1 : decode (ai_b 107) 1 = .ok (.istore_n 1, 1) := by decide +kernel
theorem d107_2 : decode (ai_b 107) 2 = .ok (.iconst 0, 1) := by decide +kernel
theorem d107_3 : decode (ai_b 107) 3 = .ok (.istore_n 2, 1) := by decide +kernel
theorem d107_4 : decode (ai_b 107) 4 = .ok (.iload_n 2, 1) := by decide +kernel
theorem d107_5 : decode (ai_b 107) 5 = .ok (.aload_n 0, 1) := by decide +kernel
theorem d107_6 : decode (ai_b 107) 6 = .ok (.getfield 40, 3) := by decide +kernel
theorem d107_9 : decode (ai_b 107) 9 = .ok (.if_icmp .ge 24, 3) := by decide +kernel
theorem d107_12 : decode (ai_b 107) 12 = .ok (.aload_n 0, 1) := by decide +kernel
theorem d107_13 : decode (ai_b 107) 13 = .ok (.getfield 23, 3) := by decide +kernel
theorem d107_16 : decode (ai_b 107) 16 = .ok (.iload_n 2, 1) := by decide +kernel
theorem d107_17 : decode (ai_b 107) 17 = .ok (.aaload, 1) := by decide +kernel
theorem d107_18 : decode (ai_b 107) 18 = .ok (.getfield 191, 3) := by decide +kernel
theorem d107_21 : decode (ai_b 107) 21 = .ok (.ifCond .eq 6, 3) := by decide +kernel
theorem d107_24 : decode (ai_b 107) 24 = .ok (.iinc 1 1, 3) := by decide +kernel
theorem d107_27 : decode (ai_b 107) 27 = .ok (.iinc 2 1, 3) := by decide +kernel
theorem d107_30 : decode (ai_b 107) 30 = .ok (.goto (-26), 3) := by decide +kernel
theorem d107_33 : decode (ai_b 107) 33 = .ok (.iload_n 1, 1) := by decide +kernel
theorem d107_34 : decode (ai_b 107) 34 = .ok (.ireturn, 1) := by decide +kernel
theorem d108_0 : decode (ai_b 108) 0 = .ok (.iconst 0, 1) := by decide +kernel
theorem d108_1 : decode (ai_b 108) 1 = .ok (.istore_n 1, 1) := by decide +kernel
theorem d108_2 : decode (ai_b 108) 2 = .ok (.iconst 0, 1) := by decide +kernel
theorem d108_3 : decode (ai_b 108) 3 = .ok (.istore_n 2, 1) := by decide +kernel
theorem d108_4 : decode (ai_b 108) 4 = .ok (.iload_n 2, 1) := by decide +kernel
theorem d108_5 : decode (ai_b 108) 5 = .ok (.aload_n 0, 1) := by decide +kernel
theorem d108_6 : decode (ai_b 108) 6 = .ok (.getfield 40, 3) := by decide +kernel
theorem d108_9 : decode (ai_b 108) 9 = .ok (.if_icmp .ge 21, 3) := by decide +kernel
theorem d108_12 : decode (ai_b 108) 12 = .ok (.iload_n 1, 1) := by decide +kernel
theorem d108_13 : decode (ai_b 108) 13 = .ok (.aload_n 0, 1) := by decide +kernel
theorem d108_14 : decode (ai_b 108) 14 = .ok (.getfield 23, 3) := by decide +kernel
theorem d108_17 : decode (ai_b 108) 17 = .ok (.iload_n 2, 1) := by decide +kernel
theorem d108_18 : decode (ai_b 108) 18 = .ok (.aaload, 1) := by decide +kernel
theorem d108_19 : decode (ai_b 108) 19 = .ok (.getfield 188, 3) := by decide +kernel
theorem d108_22 : decode (ai_b 108) 22 = .ok (.iadd, 1) := by decide +kernel
theorem d108_23 : decode (ai_b 108) 23 = .ok (.istore_n 1, 1) := by decide +kernel
theorem d108_24 : decode (ai_b 108) 24 = .ok (.iinc 2 1, 3) := by decide +kernel
theorem d108_27 : decode (ai_b 108) 27 = .ok (.goto (-23), 3) := by decide +kernel
theorem d108_30 : decode (ai_b 108) 30 = .ok (.iload_n 1, 1) := by decide +kernel
theorem d108_31 : decode (ai_b 108) 31 = .ok (.ireturn, 1) := by decide +kernel
theorem d109_0 : decode (ai_b 109) 0 = .ok (.iconst 0, 1) := by decide +kernel
theorem d109_1 : decode (ai_b 109) 1 = .ok (.istore_n 1, 1) := by decide +kernel
theorem d109_2 : decode (ai_b 109) 2 = .ok (.iconst 0, 1) := by decide +kernel
theorem d109_3 : decode (ai_b 109) 3 = .ok (.istore_n 2, 1) := by decide +kernel
theorem d109_4 : decode (ai_b 109) 4 = .ok (.iload_n 2, 1) := by decide +kernel
theorem d109_5 : decode (ai_b 109) 5 = .ok (.aload_n 0, 1) := by decide +kernel
theorem d109_6 : decode (ai_b 109) 6 = .ok (.getfield 40, 3) := by decide +kernel
theorem d109_9 : decode (ai_b 109) 9 = .ok (.if_icmp .ge 17, 3) := by decide +kernel
theorem d109_12 : decode (ai_b 109) 12 = .ok (.iload_n 1, 1) := by decide +kernel
theorem d109_13 : decode (ai_b 109) 13 = .ok (.aload_n 0, 1) := by decide +kernel
theorem d109_14 : decode (ai_b 109) 14 = .ok (.iload_n 2, 1) := by decide +kernel
theorem d109_15 : decode (ai_b 109) 15 = .ok (.invokevirtual 147, 3) := by decide +kernel
theorem d109_18 : decode (ai_b 109) 18 = .ok (.iadd, 1) := by decide +kernel
theorem d109_19 : decode (ai_b 109) 19 = .ok (.istore_n 1, 1) := by decide +kernel
theorem d109_20 : decode (ai_b 109) 20 = .ok (.iinc 2 1, 3) := by decide +kernel
theorem d109_23 : decode (ai_b 109) 23 = .ok (.goto (-19), 3) := by decide +kernel
theorem d109_26 : decode (ai_b 109) 26 = .ok (.iload_n 1, 1) := by decide +kernel
theorem d109_27 : decode (ai_b 109) 27 = .ok (.ireturn, 1) := by decide +kernel
theorem d110_0 : decode (ai_b 110) 0 = .ok (.iconst 0, 1) := by decide +kernel
theorem d110_1 : decode (ai_b 110) 1 = .ok (.istore_n 1, 1) := by decide +kernel
theorem d110_2 : decode (ai_b 110) 2 = .ok (.iconst 0, 1) := by decide +kernel
theorem d110_3 : decode (ai_b 110) 3 = .ok (.istore_n 2, 1) := by decide +kernel
theorem d110_4 : decode (ai_b 110) 4 = .ok (.iload_n 2, 1) := by decide +kernel
theorem d110_5 : decode (ai_b 110) 5 = .ok (.aload_n 0, 1) := by decide +kernel
theorem d110_6 : decode (ai_b 110) 6 = .ok (.getfield 29, 3) := by decide +kernel
theorem d110_9 : decode (ai_b 110) 9 = .ok (.arraylength, 1) := by decide +kernel
theorem d110_10 : decode (ai_b 110) 10 = .ok (.if_icmp .ge 24, 3) := by decide +kernel
theorem d110_13 : decode (ai_b 110) 13 = .ok (.aload_n 0, 1) := by decide +kernel
theorem d110_14 : decode (ai_b 110) 14 = .ok (.getfield 29, 3) := by decide +kernel
theorem d110_17 : decode (ai_b 110) 17 = .ok (.iload_n 2, 1) := by decide +kernel
theorem d110_18 : decode (ai_b 110) 18 = .ok (.aaload, 1) := by decide +kernel
theorem d110_19 : decode (ai_b 110) 19 = .ok (.invokevirtual 264, 3) := by decide +kernel
theorem d110_22 : decode (ai_b 110) 22 = .ok (.ifCond .eq 6, 3) := by decide +kernel
theorem d110_25 : decode (ai_b 110) 25 = .ok (.iinc 1 1, 3) := by decide +kernel
theorem d110_28 : decode (ai_b 110) 28 = .ok (.iinc 2 1, 3) := by decide +kernel
theorem d110_31 : decode (ai_b 110) 31 = .ok (.goto (-27), 3) := by decide +kernel
theorem d110_34 : decode (ai_b 110) 34 = .ok (.iload_n 1, 1) := by decide +kernel
theorem d110_35 : decode (ai_b 110) 35 = .ok (.ireturn, 1) := by decide +kernel
theorem d111_0 : decode (ai_b 111) 0 = .ok (.iconst 0, 1) := by decide +kernel
theorem d111_1 : decode (ai_b 111) 1 = .ok (.istore_n 1, 1) := by decide +kernel
theorem d111_2 : decode (ai_b 111) 2 = .ok (.iconst 0, 1) := by decide +kernel
theorem d111_3 : decode (ai_b 111) 3 = .ok (.istore_n 2, 1) := by decide +kernel
theorem d111_4 : decode (ai_b 111) 4 = .ok (.iload_n 2, 1) := by decide +kernel
theorem d111_5 : decode (ai_b 111) 5 = .ok (.aload_n 0, 1) := by decide +kernel
theorem d111_6 : decode (ai_b 111) 6 = .ok (.getfield 29, 3) := by decide +kernel
theorem d111_9 : decode (ai_b 111) 9 = .ok (.arraylength, 1) := by decide +kernel
theorem d111_10 : decode (ai_b 111) 10 = .ok (.if_icmp .ge 25, 3) := by decide +kernel
theorem d111_13 : decode (ai_b 111) 13 = .ok (.aload_n 0, 1) := by decide +kernel
theorem d111_14 : decode (ai_b 111) 14 = .ok (.getfield 29, 3) := by decide +kernel
theorem d111_17 : decode (ai_b 111) 17 = .ok (.iload_n 2, 1) := by decide +kernel
theorem d111_18 : decode (ai_b 111) 18 = .ok (.aaload, 1) := by decide +kernel
theorem d111_19 : decode (ai_b 111) 19 = .ok (.getfield 215, 3) := by decide +kernel
theorem d111_22 : decode (ai_b 111) 22 = .ok (.iconst (-1), 1) := by decide +kernel
theorem d111_23 : decode (ai_b 111) 23 = .ok (.if_icmp .eq 6, 3) := by decide +kernel
theorem d111_26 : decode (ai_b 111) 26 = .ok (.iinc 1 1, 3) := by decide +kernel
theorem d111_29 : decode (ai_b 111) 29 = .ok (.iinc 2 1, 3) := by decide +kernel
theorem d111_32 : decode (ai_b 111) 32 = .ok (.goto (-28), 3) := by decide +kernel
theorem d111_35 : decode (ai_b 111) 35 = .ok (.iload_n 1, 1) := by decide +kernel
theorem d111_36 : decode (ai_b 111) 36 = .ok (.ireturn, 1) := by decide +kernel
theorem d112_0 : decode (ai_b 112) 0 = .ok (.iconst 0, 1) := by decide +kernel
theorem d112_1 : decode (ai_b 112) 1 = .ok (.istore_n 1, 1) := by decide +kernel
theorem d112_2 : decode (ai_b 112) 2 = .ok (.iconst 0, 1) := by decide +kernel
theorem d112_3 : decode (ai_b 112) 3 = .ok (.istore_n 2, 1) := by decide +kernel
theorem d112_4 : decode (ai_b 112) 4 = .ok (.iload_n 2, 1) := by decide +kernel
theorem d112_5 : decode (ai_b 112) 5 = .ok (.aload_n 0, 1) := by decide +kernel
theorem d112_6 : decode (ai_b 112) 6 = .ok (.getfield 33, 3) := by decide +kernel
theorem d112_9 : decode (ai_b 112) 9 = .ok (.if_icmp .ge 57, 3) := by decide +kernel
theorem d112_12 : decode (ai_b 112) 12 = .ok (.aload_n 0, 1) := by decide +kernel
theorem d112_13 : decode (ai_b 112) 13 = .ok (.iload_n 2, 1) := by decide +kernel
theorem d112_14 : decode (ai_b 112) 14 = .ok (.invokevirtual 253, 3) := by decide +kernel
theorem d112_17 : decode (ai_b 112) 17 = .ok (.iconst 0, 1) := by decide +kernel
theorem d112_18 : decode (ai_b 112) 18 = .ok (.istore_n 3, 1) := by decide +kernel
theorem d112_19 : decode (ai_b 112) 19 = .ok (.iload_n 3, 1) := by decide +kernel
theorem d112_20 : decode (ai_b 112) 20 = .ok (.aload_n 0, 1) := by decide +kernel
theorem d112_21 : decode (ai_b 112) 21 = .ok (.getfield 37, 3) := by decide +kernel
theorem d112_24 : decode (ai_b 112) 24 = .ok (.if_icmp .ge 36, 3) := by decide +kernel
theorem d112_27 : decode (ai_b 112) 27 = .ok (.aload_n 0, 1) := by decide +kernel
theorem d112_28 : decode (ai_b 112) 28 = .ok (.getfield 72, 3) := by decide +kernel
theorem d112_31 : decode (ai_b 112) 31 = .ok (.getfield 256, 3) := by decide +kernel
theorem d112_34 : decode (ai_b 112) 34 = .ok (.iload_n 3, 1) := by decide +kernel
theorem d112_35 : decode (ai_b 112) 35 = .ok (.baload, 1) := by decide +kernel
theorem d112_36 : decode (ai_b 112) 36 = .ok (.ifCond .eq 18, 3) := by decide +kernel
theorem d112_39 : decode (ai_b 112) 39 = .ok (.aload_n 0, 1) := by decide +kernel
theorem d112_40 : decode (ai_b 112) 40 = .ok (.getfield 72, 3) := by decide +kernel
theorem d112_43 : decode (ai_b 112) 43 = .ok (.getfield 267, 3) := by decide +kernel
theorem d112_46 : decode (ai_b 112) 46 = .ok (.iload_n 3, 1) := by decide +kernel
theorem d112_47 : decode (ai_b 112) 47 = .ok (.baload, 1) := by decide +kernel
theorem d112_48 : decode (ai_b 112) 48 = .ok (.ifCond .eq 6, 3) := by decide +kernel
theorem d112_51 : decode (ai_b 112) 51 = .ok (.iinc 1 1, 3) := by decide +kernel
theorem d112_54 : decode (ai_b 112) 54 = .ok (.iinc 3 1, 3) := by decide +kernel
theorem d112_57 : decode (ai_b 112) 57 = .ok (.goto (-38), 3) := by decide +kernel
theorem d112_60 : decode (ai_b 112) 60 = .ok (.iinc 2 1, 3) := by decide +kernel
theorem d112_63 : decode (ai_b 112) 63 = .ok (.goto (-59), 3) := by decide +kernel
theorem d112_66 : decode (ai_b 112) 66 = .ok (.iload_n 1, 1) := by decide +kernel
theorem d112_67 : decode (ai_b 112) 67 = .ok (.ireturn, 1) := by decide +kernel
