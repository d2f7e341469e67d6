theorem d150_0 : decode (ai_b 150) 0 = .ok (.lconst 0, 1) := by decide +kernel
theorem d150_1 : decode (ai_b 150) 1 = .ok (.lstore_n 3, 1) := by decide +kernel
theorem d150_2 : decode (ai_b 150) 2 = .ok (.iconst 0, 1) := by decide +kernel
theorem d150_3 : decode (ai_b 150) 3 = .ok (.istore 5, 2) := by decide +kernel
theorem d150_5 : decode (ai_b 150) 5 = .ok (.iload 5, 2) := by decide +kernel
theorem d150_7 : decode (ai_b 150) 7 = .ok (.aload_n 0, 1) := by decide +kernel
theorem d150_8 : decode (ai_b 150) 8 = .ok (.getfield 95, 3) := by decide +kernel
theorem d150_11 : decode (ai_b 150) 11 = .ok (.iload_n 1, 1) := by decide +kernel
theorem d150_12 : decode (ai_b 150) 12 = .ok (.iaload, 1) := by decide +kernel
theorem d150_13 : decode (ai_b 150) 13 = .ok (.if_icmp .ge 53, 3) := by decide +kernel
theorem d150_16 : decode (ai_b 150) 16 = .ok (.lload_n 3, 1) := by decide +kernel
theorem d150_17 : decode (ai_b 150) 17 = .ok (.aload_n 0, 1) := by decide +kernel
theorem d150_18 : decode (ai_b 150) 18 = .ok (.getfield 92, 3) := by decide +kernel
theorem d150_21 : decode (ai_b 150) 21 = .ok (.sipush 1700, 3) := by decide +kernel
theorem d150_24 : decode (ai_b 150) 24 = .ok (.iload_n 1, 1) := by decide +kernel
theorem d150_25 : decode (ai_b 150) 25 = .ok (.imul, 1) := by decide +kernel
theorem d150_26 : decode (ai_b 150) 26 = .ok (.iload 5, 2) := by decide +kernel
theorem d150_28 : decode (ai_b 150) 28 = .ok (.iadd, 1) := by decide +kernel
theorem d150_29 : decode (ai_b 150) 29 = .ok (.iaload, 1) := by decide +kernel
theorem d150_30 : decode (ai_b 150) 30 = .ok (.i2l, 1) := by decide +kernel
theorem d150_31 : decode (ai_b 150) 31 = .ok (.iload_n 2, 1) := by decide +kernel
theorem d150_32 : decode (ai_b 150) 32 = .ok (.i2l, 1) := by decide +kernel
theorem d150_33 : decode (ai_b 150) 33 = .ok (.lmul, 1) := by decide +kernel
theorem d150_34 : decode (ai_b 150) 34 = .ok (.ladd, 1) := by decide +kernel
theorem d150_35 : decode (ai_b 150) 35 = .ok (.lstore_n 3, 1) := by decide +kernel
theorem d150_36 : decode (ai_b 150) 36 = .ok (.aload_n 0, 1) := by decide +kernel
theorem d150_37 : decode (ai_b 150) 37 = .ok (.getfield 92, 3) := by decide +kernel
theorem d150_40 : decode (ai_b 150) 40 = .ok (.sipush 1700, 3) := by decide +kernel
theorem d150_43 : decode (ai_b 150) 43 = .ok (.iload_n 1, 1) := by decide +kernel
theorem d150_44 : decode (ai_b 150) 44 = .ok (.imul, 1) := by decide +kernel
theorem d150_45 : decode (ai_b 150) 45 = .ok (.iload 5, 2) := by decide +kernel
theorem d150_47 : decode (ai_b 150) 47 = .ok (.iadd, 1) := by decide +kernel
theorem d150_48 : decode (ai_b 150) 48 = .ok (.lload_n 3, 1) := by decide +kernel
theorem d150_49 : decode (ai_b 150) 49 = .ok (.ldc2_w 175, 3) := by decide +kernel
theorem d150_52 : decode (ai_b 150) 52 = .ok (.land, 1) := by decide +kernel
theorem d150_53 : decode (ai_b 150) 53 = .ok (.l2i, 1) := by decide +kernel
theorem d150_54 : decode (ai_b 150) 54 = .ok (.iastore, 1) := by decide +kernel
theorem d150_55 : decode (ai_b 150) 55 = .ok (.lload_n 3, 1) := by decide +kernel
theorem d150_56 : decode (ai_b 150) 56 = .ok (.bipush 16, 2) := by decide +kernel
theorem d150_58 : decode (ai_b 150) 58 = .ok (.lshr, 1) := by decide +kernel
theorem d150_59 : decode (ai_b 150) 59 = .ok (.lstore_n 3, 1) := by decide +kernel
theorem d150_60 : decode (ai_b 150) 60 = .ok (.iinc 5 1, 3) := by decide +kernel
theorem d150_63 : decode (ai_b 150) 63 = .ok (.goto (-58), 3) := by decide +kernel
theorem d150_66 : decode (ai_b 150) 66 = .ok (.lload_n 3, 1) := by decide +kernel
theorem d150_67 : decode (ai_b 150) 67 = .ok (.lconst 0, 1) := by decide +kernel
theorem d150_68 : decode (ai_b 150) 68 = .ok (.lcmp, 1) := by decide +kernel
theorem d150_69 : decode (ai_b 150) 69 = .ok (.ifCond .le 44, 3) := by decide +kernel
theorem d150_72 : decode (ai_b 150) 72 = .ok (.aload_n 0, 1) := by decide +kernel
theorem d150_73 : decode (ai_b 150) 73 = .ok (.getfield 92, 3) := by decide +kernel
theorem d150_76 : decode (ai_b 150) 76 = .ok (.sipush 1700, 3) := by decide +kernel
theorem d150_79 : decode (ai_b 150) 79 = .ok (.iload_n 1, 1) := by decide +kernel
theorem d150_80 : decode (ai_b 150) 80 = .ok (.imul, 1) := by decide +kernel
theorem d150_81 : decode (ai_b 150) 81 = .ok (.aload_n 0, 1) := by decide +kernel
theorem d150_82 : decode (ai_b 150) 82 = .ok (.getfield 95, 3) := by decide +kernel
theorem d150_85 : decode (ai_b 150) 85 = .ok (.iload_n 1, 1) := by decide +kernel
theorem d150_86 : decode (ai_b 150) 86 = .ok (.iaload, 1) := by decide +kernel
theorem d150_87 : decode (ai_b 150) 87 = .ok (.iadd, 1) := by decide +kernel
theorem d150_88 : decode (ai_b 150) 88 = .ok (.lload_n 3, 1) := by decide +kernel
theorem d150_89 : decode (ai_b 150) 89 = .ok (.ldc2_w 175, 3) := by decide +kernel
theorem d150_92 : decode (ai_b 150) 92 = .ok (.land, 1) := by decide +kernel
theorem d150_93 : decode (ai_b 150) 93 = .ok (.l2i, 1) := by decide +kernel
theorem d150_94 : decode (ai_b 150) 94 = .ok (.iastore, 1) := by decide +kernel
theorem d150_95 : decode (ai_b 150) 95 = .ok (.aload_n 0, 1) := by decide +kernel
theorem d150_96 : decode (ai_b 150) 96 = .ok (.getfield 95, 3) := by decide +kernel
theorem d150_99 : decode (ai_b 150) 99 = .ok (.iload_n 1, 1) := by decide +kernel
theorem d150_100 : decode (ai_b 150) 100 = .ok (.dup2, 1) := by decide +kernel
theorem d150_101 : decode (ai_b 150) 101 = .ok (.iaload, 1) := by decide +kernel
theorem d150_102 : decode (ai_b 150) 102 = .ok (.iconst 1, 1) := by decide +kernel
theorem d150_103 : decode (ai_b 150) 103 = .ok (.iadd, 1) := by decide +kernel
theorem d150_104 : decode (ai_b 150) 104 = .ok (.iastore, 1) := by decide +kernel
theorem d150_105 : decode (ai_b 150) 105 = .ok (.lload_n 3, 1) := by decide +kernel
theorem d150_106 : decode (ai_b 150) 106 = .ok (.bipush 16, 2) := by decide +kernel
theorem d150_108 : decode (ai_b 150) 108 = .ok (.lshr, 1) := by decide +kernel
theorem d150_109 : decode (ai_b 150) 109 = .ok (.lstore_n 3, 1) := by decide +kernel
theorem d150_110 : decode (ai_b 150) 110 = .ok (.goto (-44), 3) := by decide +kernel
theorem d150_113 : decode (ai_b 150) 113 = .ok (.iload_n 2, 1) := by decide +kernel
theorem d150_114 : decode (ai_b 150) 114 = .ok (.ifCond .ne 10, 3) := by decide +kernel
theorem d150_117 : decode (ai_b 150) 117 = .ok (.aload_n 0, 1) := by decide +kernel
theorem d150_118 : decode (ai_b 150) 118 = .ok (.getfield 95, 3) := by decide +kernel
theorem d150_121 : decode (ai_b 150) 121 = .ok (.iload_n 1, 1) := by decide +kernel
theorem d150_122 : decode (ai_b 150) 122 = .ok (.iconst 0, 1) := by decide +kernel
theorem d150_123 : decode (ai_b 150) 123 = .ok (.iastore, 1) := by decide +kernel
theorem d150_124 : decode (ai_b 150) 124 = .ok (.return_, 1) := by decide +kernel
theorem d151_0 : decode (ai_b 151) 0 = .ok (.iconst 0, 1) := by decide +kernel
theorem d151_1 : decode (ai_b 151) 1 = .ok (.istore_n 3, 1) := by decide +kernel
theorem d151_2 : decode (ai_b 151) 2 = .ok (.iconst 0, 1) := by decide +kernel
theorem d151_3 : decode (ai_b 151) 3 = .ok (.istore 4, 2) := by decide +kernel
theorem d151_5 : decode (ai_b 151) 5 = .ok (.iload 4, 2) := by decide +kernel
theorem d151_7 : decode (ai_b 151) 7 = .ok (.aload_n 0, 1) := by decide +kernel
theorem d151_8 : decode (ai_b 151) 8 = .ok (.getfield 95, 3) := by decide +kernel
theorem d151_11 : decode (ai_b 151) 11 = .ok (.iload_n 2, 1) := by decide +kernel
theorem d151_12 : decode (ai_b 151) 12 = .ok (.iaload, 1) := by decide +kernel
theorem d151_13 : decode (ai_b 151) 13 = .ok (.if_icmp .lt 7, 3) := by decide +kernel
theorem d151_16 : decode (ai_b 151) 16 = .ok (.iload_n 3, 1) := by decide +kernel
theorem d151_17 : decode (ai_b 151) 17 = .ok (.ifCond .le 111, 3) := by decide +kernel
theorem d151_20 : decode (ai_b 151) 20 = .ok (.iload 4, 2) := by decide +kernel
theorem d151_22 : decode (ai_b 151) 22 = .ok (.aload_n 0, 1) := by decide +kernel
theorem d151_23 : decode (ai_b 151) 23 = .ok (.getfield 95, 3) := by decide +kernel
theorem d151_26 : decode (ai_b 151) 26 = .ok (.iload_n 1, 1) := by decide +kernel
theorem d151_27 : decode (ai_b 151) 27 = .ok (.iaload, 1) := by decide +kernel
theorem d151_28 : decode (ai_b 151) 28 = .ok (.if_icmp .ne 27, 3) := by decide +kernel
theorem d151_31 : decode (ai_b 151) 31 = .ok (.aload_n 0, 1) := by decide +kernel
theorem d151_32 : decode (ai_b 151) 32 = .ok (.getfield 92, 3) := by decide +kernel
theorem d151_35 : decode (ai_b 151) 35 = .ok (.sipush 1700, 3) := by decide +kernel
theorem d151_38 : decode (ai_b 151) 38 = .ok (.iload_n 1, 1) := by decide +kernel
theorem d151_39 : decode (ai_b 151) 39 = .ok (.imul, 1) := by decide +kernel
theorem d151_40 : decode (ai_b 151) 40 = .ok (.iload 4, 2) := by decide +kernel
theorem d151_42 : decode (ai_b 151) 42 = .ok (.iadd, 1) := by decide +kernel
theorem d151_43 : decode (ai_b 151) 43 = .ok (.iconst 0, 1) := by decide +kernel
theorem d151_44 : decode (ai_b 151) 44 = .ok (.iastore, 1) := by decide +kernel
theorem d151_45 : decode (ai_b 151) 45 = .ok (.aload_n 0, 1) := by decide +kernel
theorem d151_46 : decode (ai_b 151) 46 = .ok (.getfield 95, 3) := by decide +kernel
theorem d151_49 : decode (ai_b 151) 49 = .ok (.iload_n 1, 1) := by decide +kernel
theorem d151_50 : decode (ai_b 151) 50 = .ok (.dup2, 1) := by decide +kernel
theorem d151_51 : decode (ai_b 151) 51 = .ok (.iaload, 1) := by decide +kernel
theorem d151_52 : decode (ai_b 151) 52 = .ok (.iconst 1, 1) := by decide +kernel
theorem d151_53 : decode (ai_b 151) 53 = .ok (.iadd, 1) := by decide +kernel
theorem d151_54 : decode (ai_b 151) 54 = .ok (.iastore, 1) := by decide +kernel
theorem d151_55 : decode (ai_b 151) 55 = .ok (.iload_n 3, 1) := by decide +kernel
theorem d151_56 : decode (ai_b 151) 56 = .ok (.aload_n 0, 1) := by decide +kernel
theorem d151_57 : decode (ai_b 151) 57 = .ok (.getfield 92, 3) := by decide +kernel
theorem d151_60 : decode (ai_b 151) 60 = .ok (.sipush 1700, 3) := by decide +kernel
theorem d151_63 : decode (ai_b 151) 63 = .ok (.iload_n 1, 1) := by decide +kernel
theorem d151_64 : decode (ai_b 151) 64 = .ok (.imul, 1) := by decide +kernel
theorem d151_65 : decode (ai_b 151) 65 = .ok (.iload 4, 2) := by decide +kernel
theorem d151_67 : decode (ai_b 151) 67 = .ok (.iadd, 1) := by decide +kernel
theorem d151_68 : decode (ai_b 151) 68 = .ok (.iaload, 1) := by decide +kernel
theorem d151_69 : decode (ai_b 151) 69 = .ok (.iload 4, 2) := by decide +kernel
theorem d151_71 : decode (ai_b 151) 71 = .ok (.aload_n 0, 1) := by decide +kernel
theorem d151_72 : decode (ai_b 151) 72 = .ok (.getfield 95, 3) := by decide +kernel
theorem d151_75 : decode (ai_b 151) 75 = .ok (.iload_n 2, 1) := by decide +kernel
theorem d151_76 : decode (ai_b 151) 76 = .ok (.iaload, 1) := by decide +kernel
theorem d151_77 : decode (ai_b 151) 77 = .ok (.if_icmp .ge 19, 3) := by decide +kernel
theorem d151_80 : decode (ai_b 151) 80 = .ok (.aload_n 0, 1) := by decide +kernel
theorem d151_81 : decode (ai_b 151) 81 = .ok (.getfield 92, 3) := by decide +kernel
theorem d151_84 : decode (ai_b 151) 84 = .ok (.sipush 1700, 3) := by decide +kernel
theorem d151_87 : decode (ai_b 151) 87 = .ok (.iload_n 2, 1) := by decide +kernel
theorem d151_88 : decode (ai_b 151) 88 = .ok (.imul, 1) := by decide +kernel
theorem d151_89 : decode (ai_b 151) 89 = .ok (.iload 4, 2) := by decide +kernel
theorem d151_91 : decode (ai_b 151) 91 = .ok (.iadd, 1) := by decide +kernel
theorem d151_92 : decode (ai_b 151) 92 = .ok (.iaload, 1) := by decide +kernel
theorem d151_93 : decode (ai_b 151) 93 = .ok (.goto 4, 3) := by decide +kernel
theorem d151_96 : decode (ai_b 151) 96 = .ok (.iconst 0, 1) := by decide +kernel
theorem d151_97 : decode (ai_b 151) 97 = .ok (.iadd, 1) := by decide +kernel
theorem d151_98 : decode (ai_b 151) 98 = .ok (.iadd, 1) := by decide +kernel
theorem d151_99 : decode (ai_b 151) 99 = .ok (.istore_n 3, 1) := by decide +kernel
theorem d151_100 : decode (ai_b 151) 100 = .ok (.aload_n 0, 1) := by decide +kernel
theorem d151_101 : decode (ai_b 151) 101 = .ok (.getfield 92, 3) := by decide +kernel
theorem d151_104 : decode (ai_b 151) 104 = .ok (.sipush 1700, 3) := by decide +kernel
theorem d151_107 : decode (ai_b 151) 107 = .ok (.iload_n 1, 1) := by decide +kernel
theorem d151_108 : decode (ai_b 151) 108 = .ok (.imul, 1) := by decide +kernel
theorem d151_109 : decode (ai_b 151) 109 = .ok (.iload 4, 2) := by decide +kernel
theorem d151_111 : decode (ai_b 151) 111 = .ok (.iadd, 1) := by decide +kernel
theorem d151_112 : decode (ai_b 151) 112 = .ok (.iload_n 3, 1) := by decide +kernel
theorem d151_113 : decode (ai_b 151) 113 = .ok (.ldc 174, 2) := by decide +kernel
theorem d151_115 : decode (ai_b 151) 115 = .ok (.iand, 1) := by decide +kernel
theorem d151_116 : decode (ai_b 151) 116 = .ok (.iastore, 1) := by decide +kernel
theorem d151_117 : decode (ai_b 151) 117 = .ok (.iload_n 3, 1) := by decide +kernel
theorem d151_118 : decode (ai_b 151) 118 = .ok (.bipush 16, 2) := by decide +kernel
theorem d151_120 : decode (ai_b 151) 120 = .ok (.ishr, 1) := by decide +kernel
theorem d151_121 : decode (ai_b 151) 121 = .ok (.istore_n 3, 1) := by decide +kernel
theorem d151_122 : decode (ai_b 151) 122 = .ok (.iinc 4 1, 3) := by decide +kernel
theorem d151_125 : decode (ai_b 151) 125 = .ok (.goto (-120), 3) := by decide +kernel
theorem d151_128 : decode (ai_b 151) 128 = .ok (.return_, 1) := by decide +kernel
theorem d152_0 : decode (ai_b 152) 0 = .ok (.iconst 0, 1) := by decide +kernel
theorem d152_1 : decode (ai_b 152) 1 = .ok (.istore_n 3, 1) := by decide +kernel
theorem d152_2 : decode (ai_b 152) 2 = .ok (.iconst 0, 1) := by decide +kernel
theorem d152_3 : decode (ai_b 152) 3 = .ok (.istore 4, 2) := by decide +kernel
theorem d152_5 : decode (ai_b 152) 5 = .ok (.iload 4, 2) := by decide +kernel
theorem d152_7 : decode (ai_b 152) 7 = .ok (.aload_n 0, 1) := by decide +kernel
theorem d152_8 : decode (ai_b 152) 8 = .ok (.getfield 95, 3) := by decide +kernel
theorem d152_11 : decode (ai_b 152) 11 = .ok (.iload_n 1, 1) := by decide +kernel
theorem d152_12 : decode (ai_b 152) 12 = .ok (.iaload, 1) := by decide +kernel
theorem d152_13 : decode (ai_b 152) 13 = .ok (.if_icmp .ge 76, 3) := by decide +kernel
theorem d152_16 : decode (ai_b 152) 16 = .ok (.iload_n 3, 1) := by decide +kernel
theorem d152_17 : decode (ai_b 152) 17 = .ok (.aload_n 0, 1) := by decide +kernel
theorem d152_18 : decode (ai_b 152) 18 = .ok (.getfield 92, 3) := by decide +kernel
theorem d152_21 : decode (ai_b 152) 21 = .ok (.sipush 1700, 3) := by decide +kernel
theorem d152_24 : decode (ai_b 152) 24 = .ok (.iload_n 1, 1) := by decide +kernel
theorem d152_25 : decode (ai_b 152) 25 = .ok (.imul, 1) := by decide +kernel
theorem d152_26 : decode (ai_b 152) 26 = .ok (.iload 4, 2) := by decide +kernel
theorem d152_28 : decode (ai_b 152) 28 = .ok (.iadd, 1) := by decide +kernel
theorem d152_29 : decode (ai_b 152) 29 = .ok (.iaload, 1) := by decide +kernel
theorem d152_30 : decode (ai_b 152) 30 = .ok (.iload 4, 2) := by decide +kernel
theorem d152_32 : decode (ai_b 152) 32 = .ok (.aload_n 0, 1) := by decide +kernel
theorem d152_33 : decode (ai_b 152) 33 = .ok (.getfield 95, 3) := by decide +kernel
theorem d152_36 : decode (ai_b 152) 36 = .ok (.iload_n 2, 1) := by decide +kernel
theorem d152_37 : decode (ai_b 152) 37 = .ok (.iaload, 1) := by decide +kernel
theorem d152_38 : decode (ai_b 152) 38 = .ok (.if_icmp .ge 19, 3) := by decide +kernel
theorem d152_41 : decode (ai_b 152) 41 = .ok (.aload_n 0, 1) := by decide +kernel
theorem d152_42 : decode (ai_b 152) 42 = .ok (.getfield 92, 3) := by decide +kernel
theorem d152_45 : decode (ai_b 152) 45 = .ok (.sipush 1700, 3) := by decide +kernel
theorem d152_48 : decode (ai_b 152) 48 = .ok (.iload_n 2, 1) := by decide +kernel
theorem d152_49 : decode (ai_b 152) 49 = .ok (.imul, 1) := by decide +kernel
theorem d152_50 : decode (ai_b 152) 50 = .ok (.iload 4, 2) := by decide +kernel
theorem d152_52 : decode (ai_b 152) 52 = .ok (.iadd, 1) := by decide +kernel
theorem d152_53 : decode (ai_b 152) 53 = .ok (.iaload, 1) := by decide +kernel
theorem d152_54 : decode (ai_b 152) 54 = .ok (.goto 4, 3) := by decide +kernel
theorem d152_57 : decode (ai_b 152) 57 = .ok (.iconst 0, 1) := by decide +kernel
theorem d152_58 : decode (ai_b 152) 58 = .ok (.isub, 1) := by decide +kernel
theorem d152_59 : decode (ai_b 152) 59 = .ok (.iadd, 1) := by decide +kernel
theorem d152_60 : decode (ai_b 152) 60 = .ok (.istore_n 3, 1) := by decide +kernel
theorem d152_61 : decode (ai_b 152) 61 = .ok (.aload_n 0, 1) := by decide +kernel
theorem d152_62 : decode (ai_b 152) 62 = .ok (.getfield 92, 3) := by decide +kernel
theorem d152_65 : decode (ai_b 152) 65 = .ok (.sipush 1700, 3) := by decide +kernel
theorem d152_68 : decode (ai_b 152) 68 = .ok (.iload_n 1, 1) := by decide +kernel
theorem d152_69 : decode (ai_b 152) 69 = .ok (.imul, 1) := by decide +kernel
theorem d152_70 : decode (ai_b 152) 70 = .ok (.iload 4, 2) := by decide +kernel
theorem d152_72 : decode (ai_b 152) 72 = .ok (.iadd, 1) := by decide +kernel
theorem d152_73 : decode (ai_b 152) 73 = .ok (.iload_n 3, 1) := by decide +kernel
theorem d152_74 : decode (ai_b 152) 74 = .ok (.ldc 174, 2) := by decide +kernel
theorem d152_76 : decode (ai_b 152) 76 = .ok (.iand, 1) := by decide +kernel
theorem d152_77 : decode (ai_b 152) 77 = .ok (.iastore, 1) := by decide +kernel
theorem d152_78 : decode (ai_b 152) 78 = .ok (.iload_n 3, 1) := by decide +kernel
theorem d152_79 : decode (ai_b 152) 79 = .ok (.bipush 16, 2) := by decide +kernel
theorem d152_81 : decode (ai_b 152) 81 = .ok (.ishr, 1) := by decide +kernel
theorem d152_82 : decode (ai_b 152) 82 = .ok (.istore_n 3, 1) := by decide +kernel
theorem d152_83 : decode (ai_b 152) 83 = .ok (.iinc 4 1, 3) := by decide +kernel
theorem d152_86 : decode (ai_b 152) 86 = .ok (.goto (-81), 3) := by decide +kernel
theorem d152_89 : decode (ai_b 152) 89 = .ok (.aload_n 0, 1) := by decide +kernel
theorem d152_90 : decode (ai_b 152) 90 = .ok (.getfield 95, 3) := by decide +kernel
theorem d152_93 : decode (ai_b 152) 93 = .ok (.iload_n 1, 1) := by decide +kernel
theorem d152_94 : decode (ai_b 152) 94 = .ok (.iaload, 1) := by decide +kernel
theorem d152_95 : decode (ai_b 152) 95 = .ok (.ifCond .le 38, 3) := by decide +kernel
theorem d152_98 : decode (ai_b 152) 98 = .ok (.aload_n 0, 1) := by decide +kernel
theorem d152_99 : decode (ai_b 152) 99 = .ok (.getfield 92, 3) := by decide +kernel
theorem d152_102 : decode (ai_b 152) 102 = .ok (.sipush 1700, 3) := by decide +kernel
theorem d152_105 : decode (ai_b 152) 105 = .ok (.iload_n 1, 1) := by decide +kernel
theorem d152_106 : decode (ai_b 152) 106 = .ok (.imul, 1) := by decide +kernel
theorem d152_107 : decode (ai_b 152) 107 = .ok (.aload_n 0, 1) := by decide +kernel
theorem d152_108 : decode (ai_b 152) 108 = .ok (.getfield 95, 3) := by decide +kernel
theorem d152_111 : decode (ai_b 152) 111 = .ok (.iload_n 1, 1) := by decide +kernel
theorem d152_112 : decode (ai_b 152) 112 = .ok (.iaload, 1) := by decide +kernel
theorem d152_113 : decode (ai_b 152) 113 = .ok (.iadd, 1) := by decide +kernel
theorem d152_114 : decode (ai_b 152) 114 = .ok (.iconst 1, 1) := by decide +kernel
theorem d152_115 : decode (ai_b 152) 115 = .ok (.isub, 1) := by decide +kernel
theorem d152_116 : decode (ai_b 152) 116 = .ok (.iaload, 1) := by decide +kernel
theorem d152_117 : decode (ai_b 152) 117 = .ok (.ifCond .ne 16, 3) := by decide +kernel
theorem d152_120 : decode (ai_b 152) 120 = .ok (.aload_n 0, 1) := by decide +kernel
theorem d152_121 : decode (ai_b 152) 121 = .ok (.getfield 95, 3) := by decide +kernel
theorem d152_124 : decode (ai_b 152) 124 = .ok (.iload_n 1, 1) := by decide +kernel
theorem d152_125 : decode (ai_b 152) 125 = .ok (.dup2, 1) := by decide +kernel
theorem d152_126 : decode (ai_b 152) 126 = .ok (.iaload, 1) := by decide +kernel
theorem d152_127 : decode (ai_b 152) 127 = .ok (.iconst 1, 1) := by decide +kernel
theorem d152_128 : decode (ai_b 152) 128 = .ok (.isub, 1) := by decide +kernel
theorem d152_129 : decode (ai_b 152) 129 = .ok (.iastore, 1) := by decide +kernel
theorem d152_130 : decode (ai_b 152) 130 = .ok (.goto (-41), 3) := by decide +kernel
theorem d152_133 : decode (ai_b 152) 133 = .ok (.return_, 1) := by decide +kernel
theorem d153_0 : decode (ai_b 153) 0 = .ok (.aload_n 0, 1) := by decide +kernel
theorem d153_1 : decode (ai_b 153) 1 = .ok (.getfield 95, 3) := by decide +kernel
theorem d153_4 : decode (ai_b 153) 4 = .ok (.iload_n 1, 1) := by decide +kernel
theorem d153_5 : decode (ai_b 153) 5 = .ok (.iaload, 1) := by decide +kernel
theorem d153_6 : decode (ai_b 153) 6 = .ok (.aload_n 0, 1) := by decide +kernel
theorem d153_7 : decode (ai_b 153) 7 = .ok (.getfield 95, 3) := by decide +kernel
theorem d153_10 : decode (ai_b 153) 10 = .ok (.iload_n 2, 1) := by decide +kernel
theorem d153_11 : decode (ai_b 153) 11 = .ok (.iaload, 1) := by decide +kernel
theorem d153_12 : decode (ai_b 153) 12 = .ok (.if_icmp .eq 24, 3) := by decide +kernel
theorem d153_15 : decode (ai_b 153) 15 = .ok (.aload_n 0, 1) := by decide +kernel
theorem d153_16 : decode (ai_b 153) 16 = .ok (.getfield 95, 3) := by decide +kernel
theorem d153_19 : decode (ai_b 153) 19 = .ok (.iload_n 1, 1) := by decide +kernel
theorem d153_20 : decode (ai_b 153) 20 = .ok (.iaload, 1) := by decide +kernel
theorem d153_21 : decode (ai_b 153) 21 = .ok (.aload_n 0, 1) := by decide +kernel
theorem d153_22 : decode (ai_b 153) 22 = .ok (.getfield 95, 3) := by decide +kernel
theorem d153_25 : decode (ai_b 153) 25 = .ok (.iload_n 2, 1) := by decide +kernel
theorem d153_26 : decode (ai_b 153) 26 = .ok (.iaload, 1) := by decide +kernel
theorem d153_27 : decode (ai_b 153) 27 = .ok (.if_icmp .ge 7, 3) := by decide +kernel
theorem d153_30 : decode (ai_b 153) 30 = .ok (.iconst (-1), 1) := by decide +kernel
theorem d153_31 : decode (ai_b 153) 31 = .ok (.goto 4, 3) := by decide +kernel
theorem d153_34 : decode (ai_b 153) 34 = .ok (.iconst 1, 1) := by decide +kernel
theorem d153_35 : decode (ai_b 153) 35 = .ok (.ireturn, 1) := by decide +kernel
theorem d153_36 : decode (ai_b 153) 36 = .ok (.aload_n 0, 1) := by decide +kernel
theorem d153_37 : decode (ai_b 153) 37 = .ok (.getfield 95, 3) := by decide +kernel
theorem d153_40 : decode (ai_b 153) 40 = .ok (.iload_n 1, 1) := by decide +kernel
theorem d153_41 : decode (ai_b 153) 41 = .ok (.iaload, 1) := by decide +kernel
theorem d153_42 : decode (ai_b 153) 42 = .ok (.iconst 1, 1) := by decide +kernel
theorem d153_43 : decode (ai_b 153) 43 = .ok (.isub, 1) := by decide +kernel
theorem d153_44 : decode (ai_b 153) 44 = .ok (.istore_n 3, 1) := by decide +kernel
theorem d153_45 : decode (ai_b 153) 45 = .ok (.iload_n 3, 1) := by decide +kernel
theorem d153_46 : decode (ai_b 153) 46 = .ok (.ifCond .lt 52, 3) := by decide +kernel
theorem d153_49 : decode (ai_b 153) 49 = .ok (.aload_n 0, 1) := by decide +kernel
theorem d153_50 : decode (ai_b 153) 50 = .ok (.getfield 92, 3) := by decide +kernel
theorem d153_53 : decode (ai_b 153) 53 = .ok (.sipush 1700, 3) := by decide +kernel
theorem d153_56 : decode (ai_b 153) 56 = .ok (.iload_n 1, 1) := by decide +kernel
theorem d153_57 : decode (ai_b 153) 57 = .ok (.imul, 1) := by decide +kernel
theorem d153_58 : decode (ai_b 153) 58 = .ok (.iload_n 3, 1) := by decide +kernel
theorem d153_59 : decode (ai_b 153) 59 = .ok (.iadd, 1) := by decide +kernel
theorem d153_60 : decode (ai_b 153) 60 = .ok (.iaload, 1) := by decide +kernel
theorem d153_61 : decode (ai_b 153) 61 = .ok (.aload_n 0, 1) := by decide +kernel
theorem d153_62 : decode (ai_b 153) 62 = .ok (.getfield 92, 3) := by decide +kernel
theorem d153_65 : decode (ai_b 153) 65 = .ok (.sipush 1700, 3) := by decide +kernel
theorem d153_68 : decode (ai_b 153) 68 = .ok (.iload_n 2, 1) := by decide +kernel
theorem d153_69 : decode (ai_b 153) 69 = .ok (.imul, 1) := by decide +kernel
theorem d153_70 : decode (ai_b 153) 70 = .ok (.iload_n 3, 1) := by decide +kernel
theorem d153_71 : decode (ai_b 153) 71 = .ok (.iadd, 1) := by decide +kernel
theorem d153_72 : decode (ai_b 153) 72 = .ok (.iaload, 1) := by decide +kernel
theorem d153_73 : decode (ai_b 153) 73 = .ok (.isub, 1) := by decide +kernel
theorem d153_74 : decode (ai_b 153) 74 = .ok (.istore 4, 2) := by decide +kernel
theorem d153_76 : decode (ai_b 153) 76 = .ok (.iload 4, 2) := by decide +kernel
theorem d153_78 : decode (ai_b 153) 78 = .ok (.ifCond .eq 14, 3) := by decide +kernel
theorem d153_81 : decode (ai_b 153) 81 = .ok (.iload 4, 2) := by decide +kernel
theorem d153_83 : decode (ai_b 153) 83 = .ok (.ifCond .ge 7, 3) := by decide +kernel
theorem d153_86 : decode (ai_b 153) 86 = .ok (.iconst (-1), 1) := by decide +kernel
theorem d153_87 : decode (ai_b 153) 87 = .ok (.goto 4, 3) := by decide +kernel
theorem d153_90 : decode (ai_b 153) 90 = .ok (.iconst 1, 1) := by decide +kernel
theorem d153_91 : decode (ai_b 153) 91 = .ok (.ireturn, 1) := by decide +kernel
theorem d153_92 : decode (ai_b 153) 92 = .ok (.iinc 3 (-1), 3) := by decide +kernel
theorem d153_95 : decode (ai_b 153) 95 = .ok (.goto (-50), 3) := by decide +kernel
theorem d153_98 : decode (ai_b 153) 98 = .ok (.iconst 0, 1) := by decide +kernel
theorem d153_99 : decode (ai_b 153) 99 = .ok (.ireturn, 1) := by decide +kernel
theorem d154_0 : decode (ai_b 154) 0 = .ok (.aload_n 0, 1) := by decide +kernel
theorem d154_1 : decode (ai_b 154) 1 = .ok (.getfield 95, 3) := by decide +kernel
theorem d154_4 : decode (ai_b 154) 4 = .ok (.iload_n 3, 1) := by decide +kernel
theorem d154_5 : decode (ai_b 154) 5 = .ok (.aload_n 0, 1) := by decide +kernel
theorem d154_6 : decode (ai_b 154) 6 = .ok (.getfield 95, 3) := by decide +kernel
theorem d154_9 : decode (ai_b 154) 9 = .ok (.iload_n 1, 1) := by decide +kernel
theorem d154_10 : decode (ai_b 154) 10 = .ok (.iaload, 1) := by decide +kernel
theorem d154_11 : decode (ai_b 154) 11 = .ok (.ifCond .eq 12, 3) := by decide +kernel
theorem d154_14 : decode (ai_b 154) 14 = .ok (.aload_n 0, 1) := by decide +kernel
theorem d154_15 : decode (ai_b 154) 15 = .ok (.getfield 95, 3) := by decide +kernel
theorem d154_18 : decode (ai_b 154) 18 = .ok (.iload_n 2, 1) := by decide +kernel
theorem d154_19 : decode (ai_b 154) 19 = .ok (.iaload, 1) := by decide +kernel
theorem d154_20 : decode (ai_b 154) 20 = .ok (.ifCond .ne 7, 3) := by decide +kernel
theorem d154_23 : decode (ai_b 154) 23 = .ok (.iconst 0, 1) := by decide +kernel
theorem d154_24 : decode (ai_b 154) 24 = .ok (.goto 16, 3) := by decide +kernel
theorem d154_27 : decode (ai_b 154) 27 = .ok (.aload_n 0, 1) := by decide +kernel
theorem d154_28 : decode (ai_b 154) 28 = .ok (.getfield 95, 3) := by decide +kernel
theorem d154_31 : decode (ai_b 154) 31 = .ok (.iload_n 1, 1) := by decide +kernel
theorem d154_32 : decode (ai_b 154) 32 = .ok (.iaload, 1) := by decide +kernel
theorem d154_33 : decode (ai_b 154) 33 = .ok (.aload_n 0, 1) := by decide +kernel
theorem d154_34 : decode (ai_b 154) 34 = .ok (.getfield 95, 3) := by decide +kernel
theorem d154_37 : decode (ai_b 154) 37 = .ok (.iload_n 2, 1) := by decide +kernel
theorem d154_38 : decode (ai_b 154) 38 = .ok (.iaload, 1) := by decide +kernel
theorem d154_39 : decode (ai_b 154) 39 = .ok (.iadd, 1) := by decide +kernel
theorem d154_40 : decode (ai_b 154) 40 = .ok (.iastore, 1) := by decide +kernel
theorem d154_41 : decode (ai_b 154) 41 = .ok (.iconst 0, 1) := by decide +kernel
theorem d154_42 : decode (ai_b 154) 42 = .ok (.istore 4, 2) := by decide +kernel
theorem d154_44 : decode (ai_b 154) 44 = .ok (.iload 4, 2) := by decide +kernel
theorem d154_46 : decode (ai_b 154) 46 = .ok (.aload_n 0, 1) := by decide +kernel
theorem d154_47 : decode (ai_b 154) 47 = .ok (.getfield 95, 3) := by decide +kernel
theorem d154_50 : decode (ai_b 154) 50 = .ok (.iload_n 3, 1) := by decide +kernel
theorem d154_51 : decode (ai_b 154) 51 = .ok (.iaload, 1) := by decide +kernel
theorem d154_52 : decode (ai_b 154) 52 = .ok (.if_icmp .ge 23, 3) := by decide +kernel
theorem d154_55 : decode (ai_b 154) 55 = .ok (.aload_n 0, 1) := by decide +kernel
theorem d154_56 : decode (ai_b 154) 56 = .ok (.getfield 92, 3) := by decide +kernel
theorem d154_59 : decode (ai_b 154) 59 = .ok (.sipush 1700, 3) := by decide +kernel
theorem d154_62 : decode (ai_b 154) 62 = .ok (.iload_n 3, 1) := by decide +kernel
theorem d154_63 : decode (ai_b 154) 63 = .ok (.imul, 1) := by decide +kernel
theorem d154_64 : decode (ai_b 154) 64 = .ok (.iload 4, 2) := by decide +kernel
theorem d154_66 : decode (ai_b 154) 66 = .ok (.iadd, 1) := by decide +kernel
theorem d154_67 : decode (ai_b 154) 67 = .ok (.iconst 0, 1) := by decide +kernel
theorem d154_68 : decode (ai_b 154) 68 = .ok (.iastore, 1) := by decide +kernel
theorem d154_69 : decode (ai_b 154) 69 = .ok (.iinc 4 1, 3) := by decide +kernel
theorem d154_72 : decode (ai_b 154) 72 = .ok (.goto (-28), 3) := by decide +kernel
theorem d154_75 : decode (ai_b 154) 75 = .ok (.iconst 0, 1) := by decide +kernel
theorem d154_76 : decode (ai_b 154) 76 = .ok (.istore 4, 2) := by decide +kernel
theorem d154_78 : decode (ai_b 154) 78 = .ok (.iload 4, 2) := by decide +kernel
theorem d154_80 : decode (ai_b 154) 80 = .ok (.aload_n 0, 1) := by decide +kernel
theorem d154_81 : decode (ai_b 154) 81 = .ok (.getfield 95, 3) := by decide +kernel
theorem d154_84 : decode (ai_b 154) 84 = .ok (.iload_n 1, 1) := by decide +kernel
theorem d154_85 : decode (ai_b 154) 85 = .ok (.iaload, 1) := by decide +kernel
theorem d154_86 : decode (ai_b 154) 86 = .ok (.if_icmp .ge 145, 3) := by decide +kernel
theorem d154_89 : decode (ai_b 154) 89 = .ok (.aload_n 0, 1) := by decide +kernel
theorem d154_90 : decode (ai_b 154) 90 = .ok (.getfield 95, 3) := by decide +kernel
theorem d154_93 : decode (ai_b 154) 93 = .ok (.iload_n 3, 1) := by decide +kernel
theorem d154_94 : decode (ai_b 154) 94 = .ok (.iaload, 1) := by decide +kernel
theorem d154_95 : decode (ai_b 154) 95 = .ok (.ifCond .le 136, 3) := by decide +kernel
theorem d154_98 : decode (ai_b 154) 98 = .ok (.lconst 0, 1) := by decide +kernel
theorem d154_99 : decode (ai_b 154) 99 = .ok (.lstore 5, 2) := by decide +kernel
theorem d154_101 : decode (ai_b 154) 101 = .ok (.iconst 0, 1) := by decide +kernel
theorem d154_102 : decode (ai_b 154) 102 = .ok (.istore 7, 2) := by decide +kernel
theorem d154_104 : decode (ai_b 154) 104 = .ok (.iload 7, 2) := by decide +kernel
theorem d154_106 : decode (ai_b 154) 106 = .ok (.aload_n 0, 1) := by decide +kernel
theorem d154_107 : decode (ai_b 154) 107 = .ok (.getfield 95, 3) := by decide +kernel
theorem d154_110 : decode (ai_b 154) 110 = .ok (.iload_n 2, 1) := by decide +kernel
theorem d154_111 : decode (ai_b 154) 111 = .ok (.iaload, 1) := by decide +kernel
theorem d154_112 : decode (ai_b 154) 112 = .ok (.if_icmp .lt 10, 3) := by decide +kernel
theorem d154_115 : decode (ai_b 154) 115 = .ok (.lload 5, 2) := by decide +kernel
theorem d154_117 : decode (ai_b 154) 117 = .ok (.lconst 0, 1) := by decide +kernel
theorem d154_118 : decode (ai_b 154) 118 = .ok (.lcmp, 1) := by decide +kernel
theorem d154_119 : decode (ai_b 154) 119 = .ok (.ifCond .le 106, 3) := by decide +kernel
theorem d154_122 : decode (ai_b 154) 122 = .ok (.lload 5, 2) := by decide +kernel
theorem d154_124 : decode (ai_b 154) 124 = .ok (.aload_n 0, 1) := by decide +kernel
theorem d154_125 : decode (ai_b 154) 125 = .ok (.getfield 92, 3) := by decide +kernel
theorem d154_128 : decode (ai_b 154) 128 = .ok (.sipush 1700, 3) := by decide +kernel
theorem d154_131 : decode (ai_b 154) 131 = .ok (.iload_n 3, 1) := by decide +kernel
theorem d154_132 : decode (ai_b 154) 132 = .ok (.imul, 1) := by decide +kernel
theorem d154_133 : decode (ai_b 154) 133 = .ok (.iload 4, 2) := by decide +kernel
theorem d154_135 : decode (ai_b 154) 135 = .ok (.iadd, 1) := by decide +kernel
theorem d154_136 : decode (ai_b 154) 136 = .ok (.iload 7, 2) := by decide +kernel
theorem d154_138 : decode (ai_b 154) 138 = .ok (.iadd, 1) := by decide +kernel
theorem d154_139 : decode (ai_b 154) 139 = .ok (.iaload, 1) := by decide +kernel
theorem d154_140 : decode (ai_b 154) 140 = .ok (.i2l, 1) := by decide +kernel
theorem d154_141 : decode (ai_b 154) 141 = .ok (.iload 7, 2) := by decide +kernel
theorem d154_143 : decode (ai_b 154) 143 = .ok (.aload_n 0, 1) := by decide +kernel
theorem d154_144 : decode (ai_b 154) 144 = .ok (.getfield 95, 3) := by decide +kernel
theorem d154_147 : decode (ai_b 154) 147 = .ok (.iload_n 2, 1) := by decide +kernel
theorem d154_148 : decode (ai_b 154) 148 = .ok (.iaload, 1) := by decide +kernel
theorem d154_149 : decode (ai_b 154) 149 = .ok (.if_icmp .ge 35, 3) := by decide +kernel
theorem d154_152 : decode (ai_b 154) 152 = .ok (.aload_n 0, 1) := by decide +kernel
theorem d154_153 : decode (ai_b 154) 153 = .ok (.getfield 92, 3) := by decide +kernel
theorem d154_156 : decode (ai_b 154) 156 = .ok (.sipush 1700, 3) := by decide +kernel
theorem d154_159 : decode (ai_b 154) 159 = .ok (.iload_n 1, 1) := by decide +kernel
theorem d154_160 : decode (ai_b 154) 160 = .ok (.imul, 1) := by decide +kernel
theorem d154_161 : decode (ai_b 154) 161 = .ok (.iload 4, 2) := by decide +kernel
theorem d154_163 : decode (ai_b 154) 163 = .ok (.iadd, 1) := by decide +kernel
theorem d154_164 : decode (ai_b 154) 164 = .ok (.iaload, 1) := by decide +kernel
theorem d154_165 : decode (ai_b 154) 165 = .ok (.i2l, 1) := by decide +kernel
theorem d154_166 : decode (ai_b 154) 166 = .ok (.aload_n 0, 1) := by decide +kernel
theorem d154_167 : decode (ai_b 154) 167 = .ok (.getfield 92, 3) := by decide +kernel
theorem d154_170 : decode (ai_b 154) 170 = .ok (.sipush 1700, 3) := by decide +kernel
theorem d154_173 : decode (ai_b 154) 173 = .ok (.iload_n 2, 1) := by decide +kernel
theorem d154_174 : decode (ai_b 154) 174 = .ok (.imul, 1) := by decide +kernel
theorem d154_175 : decode (ai_b 154) 175 = .ok (.iload 7, 2) := by decide +kernel
theorem d154_177 : decode (ai_b 154) 177 = .ok (.iadd, 1) := by decide +kernel
theorem d154_178 : decode (ai_b 154) 178 = .ok (.iaload, 1) := by decide +kernel
theorem d154_179 : decode (ai_b 154) 179 = .ok (.i2l, 1) := by decide +kernel
theorem d154_180 : decode (ai_b 154) 180 = .ok (.lmul, 1) := by decide +kernel
theorem d154_181 : decode (ai_b 154) 181 = .ok (.goto 4, 3) := by decide +kernel
theorem d154_184 : decode (ai_b 154) 184 = .ok (.lconst 0, 1) := by decide +kernel
theorem d154_185 : decode (ai_b 154) 185 = .ok (.ladd, 1) := by decide +kernel
theorem d154_186 : decode (ai_b 154) 186 = .ok (.ladd, 1) := by decide +kernel
theorem d154_187 : decode (ai_b 154) 187 = .ok (.lstore 5, 2) := by decide +kernel
theorem d154_189 : decode (ai_b 154) 189 = .ok (.aload_n 0, 1) := by decide +kernel
theorem d154_190 : decode (ai_b 154) 190 = .ok (.getfield 92, 3) := by decide +kernel
theorem d154_193 : decode (ai_b 154) 193 = .ok (.sipush 1700, 3) := by decide +kernel
theorem d154_196 : decode (ai_b 154) 196 = .ok (.iload_n 3, 1) := by decide +kernel
theorem d154_197 : decode (ai_b 154) 197 = .ok (.imul, 1) := by decide +kernel
theorem d154_198 : decode (ai_b 154) 198 = .ok (.iload 4, 2) := by decide +kernel
theorem d154_200 : decode (ai_b 154) 200 = .ok (.iadd, 1) := by decide +kernel
theorem d154_201 : decode (ai_b 154) 201 = .ok (.iload 7, 2) := by decide +kernel
theorem d154_203 : decode (ai_b 154) 203 = .ok (.iadd, 1) := by decide +kernel
theorem d154_204 : decode (ai_b 154) 204 = .ok (.lload 5, 2) := by decide +kernel
theorem d154_206 : decode (ai_b 154) 206 = .ok (.ldc2_w 175, 3) := by decide +kernel
theorem d154_209 : decode (ai_b 154) 209 = .ok (.land, 1) := by decide +kernel
theorem d154_210 : decode (ai_b 154) 210 = .ok (.l2i, 1) := by decide +kernel
theorem d154_211 : decode (ai_b 154) 211 = .ok (.iastore, 1) := by decide +kernel
theorem d154_212 : decode (ai_b 154) 212 = .ok (.lload 5, 2) := by decide +kernel
theorem d154_214 : decode (ai_b 154) 214 = .ok (.bipush 16, 2) := by decide +kernel
theorem d154_216 : decode (ai_b 154) 216 = .ok (.lshr, 1) := by decide +kernel
theorem d154_217 : decode (ai_b 154) 217 = .ok (.lstore 5, 2) := by decide +kernel
theorem d154_219 : decode (ai_b 154) 219 = .ok (.iinc 7 1, 3) := by decide +kernel
theorem d154_222 : decode (ai_b 154) 222 = .ok (.goto (-118), 3) := by decide +kernel
theorem d154_225 : decode (ai_b 154) 225 = .ok (.iinc 4 1, 3) := by decide +kernel
theorem d154_228 : decode (ai_b 154) 228 = .ok (.goto (-150), 3) := by decide +kernel
theorem d154_231 : decode (ai_b 154) 231 = .ok (.aload_n 0, 1) := by decide +kernel
theorem d154_232 : decode (ai_b 154) 232 = .ok (.getfield 95, 3) := by decide +kernel
theorem d154_235 : decode (ai_b 154) 235 = .ok (.iload_n 3, 1) := by decide +kernel
theorem d154_236 : decode (ai_b 154) 236 = .ok (.iaload, 1) := by decide +kernel
theorem d154_237 : decode (ai_b 154) 237 = .ok (.ifCond .le 38, 3) := by decide +kernel
theorem d154_240 : decode (ai_b 154) 240 = .ok (.aload_n 0, 1) := by decide +kernel
theorem d154_241 : decode (ai_b 154) 241 = .ok (.getfield 92, 3) := by decide +kernel
theorem d154_244 : decode (ai_b 154) 244 = .ok (.sipush 1700, 3) := by decide +kernel
theorem d154_247 : decode (ai_b 154) 247 = .ok (.iload_n 3, 1) := by decide +kernel
theorem d154_248 : decode (ai_b 154) 248 = .ok (.imul, 1) := by decide +kernel
theorem d154_249 : decode (ai_b 154) 249 = .ok (.aload_n 0, 1) := by decide +kernel
theorem d154_250 : decode (ai_b 154) 250 = .ok (.getfield 95, 3) := by decide +kernel
theorem d154_253 : decode (ai_b 154) 253 = .ok (.iload_n 3, 1) := by decide +kernel
theorem d154_254 : decode (ai_b 154) 254 = .ok (.iaload, 1) := by decide +kernel
theorem d154_255 : decode (ai_b 154) 255 = .ok (.iadd, 1) := by decide +kernel
theorem d154_256 : decode (ai_b 154) 256 = .ok (.iconst 1, 1) := by decide +kernel
theorem d154_257 : decode (ai_b 154) 257 = .ok (.isub, 1) := by decide +kernel
theorem d154_258 : decode (ai_b 154) 258 = .ok (.iaload, 1) := by decide +kernel
theorem d154_259 : decode (ai_b 154) 259 = .ok (.ifCond .ne 16, 3) := by decide +kernel
theorem d154_262 : decode (ai_b 154) 262 = .ok (.aload_n 0, 1) := by decide +kernel
theorem d154_263 : decode (ai_b 154) 263 = .ok (.getfield 95, 3) := by decide +kernel
theorem d154_266 : decode (ai_b 154) 266 = .ok (.iload_n 3, 1) := by decide +kernel
theorem d154_267 : decode (ai_b 154) 267 = .ok (.dup2, 1) := by decide +kernel
theorem d154_268 : decode (ai_b 154) 268 = .ok (.iaload, 1) := by decide +kernel
theorem d154_269 : decode (ai_b 154) 269 = .ok (.iconst 1, 1) := by decide +kernel
theorem d154_270 : decode (ai_b 154) 270 = .ok (.isub, 1) := by decide +kernel
theorem d154_271 : decode (ai_b 154) 271 = .ok (.iastore, 1) := by decide +kernel
theorem d154_272 : decode (ai_b 154) 272 = .ok (.goto (-41), 3) := by decide +kernel
theorem d154_275 : decode (ai_b 154) 275 = .ok (.return_, 1) := by decide +kernel
theorem d155_0 : decode (ai_b 155) 0 = .ok (.iconst 0, 1) := by decide +kernel
theorem d155_1 : decode (ai_b 155) 1 = .ok (.istore 4, 2) := by decide +kernel
theorem d155_3 : decode (ai_b 155) 3 = .ok (.iload_n 3, 1) := by decide +kernel
theorem d155_4 : decode (ai_b 155) 4 = .ok (.istore 5, 2) := by decide +kernel
theorem d155_6 : decode (ai_b 155) 6 = .ok (.iload 4, 2) := by decide +kernel
theorem d155_8 : decode (ai_b 155) 8 = .ok (.iload 5, 2) := by decide +kernel
theorem d155_10 : decode (ai_b 155) 10 = .ok (.if_icmp .ge 58, 3) := by decide +kernel
theorem d155_13 : decode (ai_b 155) 13 = .ok (.iload 4, 2) := by decide +kernel
theorem d155_15 : decode (ai_b 155) 15 = .ok (.iload 5, 2) := by decide +kernel
theorem d155_17 : decode (ai_b 155) 17 = .ok (.iload 4, 2) := by decide +kernel
theorem d155_19 : decode (ai_b 155) 19 = .ok (.isub, 1) := by decide +kernel
theorem d155_20 : decode (ai_b 155) 20 = .ok (.iconst 1, 1) := by decide +kernel
theorem d155_21 : decode (ai_b 155) 21 = .ok (.iadd, 1) := by decide +kernel
theorem d155_22 : decode (ai_b 155) 22 = .ok (.iconst 2, 1) := by decide +kernel
theorem d155_23 : decode (ai_b 155) 23 = .ok (.idiv, 1) := by decide +kernel
theorem d155_24 : decode (ai_b 155) 24 = .ok (.iadd, 1) := by decide +kernel
theorem d155_25 : decode (ai_b 155) 25 = .ok (.istore 6, 2) := by decide +kernel
theorem d155_27 : decode (ai_b 155) 27 = .ok (.aload_n 0, 1) := by decide +kernel
theorem d155_28 : decode (ai_b 155) 28 = .ok (.iload_n 2, 1) := by decide +kernel
theorem d155_29 : decode (ai_b 155) 29 = .ok (.bipush 15, 2) := by decide +kernel
theorem d155_31 : decode (ai_b 155) 31 = .ok (.invokevirtual 177, 3) := by decide +kernel
theorem d155_34 : decode (ai_b 155) 34 = .ok (.aload_n 0, 1) := by decide +kernel
theorem d155_35 : decode (ai_b 155) 35 = .ok (.bipush 15, 2) := by decide +kernel
theorem d155_37 : decode (ai_b 155) 37 = .ok (.iload 6, 2) := by decide +kernel
theorem d155_39 : decode (ai_b 155) 39 = .ok (.invokevirtual 180, 3) := by decide +kernel
theorem d155_42 : decode (ai_b 155) 42 = .ok (.aload_n 0, 1) := by decide +kernel
theorem d155_43 : decode (ai_b 155) 43 = .ok (.bipush 15, 2) := by decide +kernel
theorem d155_45 : decode (ai_b 155) 45 = .ok (.iload_n 1, 1) := by decide +kernel
theorem d155_46 : decode (ai_b 155) 46 = .ok (.invokevirtual 183, 3) := by decide +kernel
theorem d155_49 : decode (ai_b 155) 49 = .ok (.ifCond .gt 10, 3) := by decide +kernel
theorem d155_52 : decode (ai_b 155) 52 = .ok (.iload 6, 2) := by decide +kernel
theorem d155_54 : decode (ai_b 155) 54 = .ok (.istore 4, 2) := by decide +kernel
theorem d155_56 : decode (ai_b 155) 56 = .ok (.goto 9, 3) := by decide +kernel
theorem d155_59 : decode (ai_b 155) 59 = .ok (.iload 6, 2) := by decide +kernel
theorem d155_61 : decode (ai_b 155) 61 = .ok (.iconst 1, 1) := by decide +kernel
theorem d155_62 : decode (ai_b 155) 62 = .ok (.isub, 1) := by decide +kernel
theorem d155_63 : decode (ai_b 155) 63 = .ok (.istore 5, 2) := by decide +kernel
theorem d155_65 : decode (ai_b 155) 65 = .ok (.goto (-59), 3) := by decide +kernel
theorem d155_68 : decode (ai_b 155) 68 = .ok (.iload 4, 2) := by decide +kernel
theorem d155_70 : decode (ai_b 155) 70 = .ok (.ireturn, 1) := by decide +kernel
theorem d156_0 : decode (ai_b 156) 0 = .ok (.iload_n 1, 1) := by decide +kernel
theorem d156_1 : decode (ai_b 156) 1 = .ok (.iconst 5, 1) := by decide +kernel
theorem d156_2 : decode (ai_b 156) 2 = .ok (.irem, 1) := by decide +kernel
theorem d156_3 : decode (ai_b 156) 3 = .ok (.istore_n 2, 1) := by decide +kernel
theorem d156_4 : decode (ai_b 156) 4 = .ok (.aload_n 0, 1) := by decide +kernel
theorem d156_5 : decode (ai_b 156) 5 = .ok (.getfield 36, 3) := by decide +kernel
theorem d156_8 : decode (ai_b 156) 8 = .ok (.iload_n 2, 1) := by decide +kernel
theorem d156_9 : decode (ai_b 156) 9 = .ok (.iaload, 1) := by decide +kernel
theorem d156_10 : decode (ai_b 156) 10 = .ok (.istore_n 3, 1) := by decide +kernel
theorem d156_11 : decode (ai_b 156) 11 = .ok (.iconst 0, 1) := by decide +kernel
theorem d156_12 : decode (ai_b 156) 12 = .ok (.istore 4, 2) := by decide +kernel
theorem d156_14 : decode (ai_b 156) 14 = .ok (.iload 4, 2) := by decide +kernel
theorem d156_16 : decode (ai_b 156) 16 = .ok (.iload_n 3, 1) := by decide +kernel
theorem d156_17 : decode (ai_b 156) 17 = .ok (.if_icmp .ge 163, 3) := by decide +kernel
theorem d156_20 : decode (ai_b 156) 20 = .ok (.aload_n 0, 1) := by decide +kernel
theorem d156_21 : decode (ai_b 156) 21 = .ok (.getfield 45, 3) := by decide +kernel
theorem d156_24 : decode (ai_b 156) 24 = .ok (.iload_n 1, 1) := by decide +kernel
theorem d156_25 : decode (ai_b 156) 25 = .ok (.iaload, 1) := by decide +kernel
theorem d156_26 : decode (ai_b 156) 26 = .ok (.iconst (-1), 1) := by decide +kernel
theorem d156_27 : decode (ai_b 156) 27 = .ok (.if_icmp .eq 28, 3) := by decide +kernel
theorem d156_30 : decode (ai_b 156) 30 = .ok (.aload_n 0, 1) := by decide +kernel
theorem d156_31 : decode (ai_b 156) 31 = .ok (.iload 4, 2) := by decide +kernel
theorem d156_33 : decode (ai_b 156) 33 = .ok (.aload_n 0, 1) := by decide +kernel
theorem d156_34 : decode (ai_b 156) 34 = .ok (.getfield 45, 3) := by decide +kernel
theorem d156_37 : decode (ai_b 156) 37 = .ok (.iload_n 1, 1) := by decide +kernel
theorem d156_38 : decode (ai_b 156) 38 = .ok (.iaload, 1) := by decide +kernel
theorem d156_39 : decode (ai_b 156) 39 = .ok (.iload 4, 2) := by decide +kernel
theorem d156_41 : decode (ai_b 156) 41 = .ok (.if_icmp .ne 7, 3) := by decide +kernel
theorem d156_44 : decode (ai_b 156) 44 = .ok (.iconst 1, 1) := by decide +kernel
theorem d156_45 : decode (ai_b 156) 45 = .ok (.goto 4, 3) := by decide +kernel
theorem d156_48 : decode (ai_b 156) 48 = .ok (.iconst 0, 1) := by decide +kernel
theorem d156_49 : decode (ai_b 156) 49 = .ok (.invokevirtual 187, 3) := by decide +kernel
theorem d156_52 : decode (ai_b 156) 52 = .ok (.goto 122, 3) := by decide +kernel
theorem d156_55 : decode (ai_b 156) 55 = .ok (.aload_n 0, 1) := by decide +kernel
theorem d156_56 : decode (ai_b 156) 56 = .ok (.iload 4, 2) := by decide +kernel
theorem d156_58 : decode (ai_b 156) 58 = .ok (.iconst 1, 1) := by decide +kernel
theorem d156_59 : decode (ai_b 156) 59 = .ok (.invokevirtual 187, 3) := by decide +kernel
theorem d156_62 : decode (ai_b 156) 62 = .ok (.iconst 0, 1) := by decide +kernel
theorem d156_63 : decode (ai_b 156) 63 = .ok (.istore 5, 2) := by decide +kernel
theorem d156_65 : decode (ai_b 156) 65 = .ok (.iload 5, 2) := by decide +kernel
theorem d156_67 : decode (ai_b 156) 67 = .ok (.aload_n 0, 1) := by decide +kernel
theorem d156_68 : decode (ai_b 156) 68 = .ok (.getfield 33, 3) := by decide +kernel
theorem d156_71 : decode (ai_b 156) 71 = .ok (.if_icmp .ge 103, 3) := by decide +kernel
theorem d156_74 : decode (ai_b 156) 74 = .ok (.aload_n 0, 1) := by decide +kernel
theorem d156_75 : decode (ai_b 156) 75 = .ok (.getfield 67, 3) := by decide +kernel
theorem d156_78 : decode (ai_b 156) 78 = .ok (.sipush 200, 3) := by decide +kernel
theorem d156_81 : decode (ai_b 156) 81 = .ok (.iload 5, 2) := by decide +kernel
theorem d156_83 : decode (ai_b 156) 83 = .ok (.imul, 1) := by decide +kernel
theorem d156_84 : decode (ai_b 156) 84 = .ok (.iload_n 1, 1) := by decide +kernel
theorem d156_85 : decode (ai_b 156) 85 = .ok (.iadd, 1) := by decide +kernel
theorem d156_86 : decode (ai_b 156) 86 = .ok (.baload, 1) := by decide +kernel
theorem d156_87 : decode (ai_b 156) 87 = .ok (.ifCond .ne 6, 3) := by decide +kernel
theorem d156_90 : decode (ai_b 156) 90 = .ok (.goto 78, 3) := by decide +kernel
theorem d156_93 : decode (ai_b 156) 93 = .ok (.aload_n 0, 1) := by decide +kernel
theorem d156_94 : decode (ai_b 156) 94 = .ok (.iload 4, 2) := by decide +kernel
theorem d156_96 : decode (ai_b 156) 96 = .ok (.aload_n 0, 1) := by decide +kernel
theorem d156_97 : decode (ai_b 156) 97 = .ok (.getfield 86, 3) := by decide +kernel
theorem d156_100 : decode (ai_b 156) 100 = .ok (.aload_n 0, 1) := by decide +kernel
theorem d156_101 : decode (ai_b 156) 101 = .ok (.iload 5, 2) := by decide +kernel
theorem d156_103 : decode (ai_b 156) 103 = .ok (.iload_n 2, 1) := by decide +kernel
theorem d156_104 : decode (ai_b 156) 104 = .ok (.aload_n 0, 1) := by decide +kernel
theorem d156_105 : decode (ai_b 156) 105 = .ok (.getfield 61, 3) := by decide +kernel
theorem d156_108 : decode (ai_b 156) 108 = .ok (.sipush 200, 3) := by decide +kernel
theorem d156_111 : decode (ai_b 156) 111 = .ok (.iload 5, 2) := by decide +kernel
theorem d156_113 : decode (ai_b 156) 113 = .ok (.imul, 1) := by decide +kernel
theorem d156_114 : decode (ai_b 156) 114 = .ok (.iload_n 1, 1) := by decide +kernel
theorem d156_115 : decode (ai_b 156) 115 = .ok (.iadd, 1) := by decide +kernel
theorem d156_116 : decode (ai_b 156) 116 = .ok (.iaload, 1) := by decide +kernel
theorem d156_117 : decode (ai_b 156) 117 = .ok (.iload 4, 2) := by decide +kernel
theorem d156_119 : decode (ai_b 156) 119 = .ok (.invokevirtual 136, 3) := by decide +kernel
theorem d156_122 : decode (ai_b 156) 122 = .ok (.iaload, 1) := by decide +kernel
theorem d156_123 : decode (ai_b 156) 123 = .ok (.invokevirtual 180, 3) := by decide +kernel
theorem d156_126 : decode (ai_b 156) 126 = .ok (.iconst 0, 1) := by decide +kernel
theorem d156_127 : decode (ai_b 156) 127 = .ok (.istore 6, 2) := by decide +kernel
theorem d156_129 : decode (ai_b 156) 129 = .ok (.iload 6, 2) := by decide +kernel
theorem d156_131 : decode (ai_b 156) 131 = .ok (.iload_n 3, 1) := by decide +kernel
theorem d156_132 : decode (ai_b 156) 132 = .ok (.if_icmp .ge 36, 3) := by decide +kernel
theorem d156_135 : decode (ai_b 156) 135 = .ok (.iload 6, 2) := by decide +kernel
theorem d156_137 : decode (ai_b 156) 137 = .ok (.iload 4, 2) := by decide +kernel
theorem d156_139 : decode (ai_b 156) 139 = .ok (.if_icmp .eq 23, 3) := by decide +kernel
theorem d156_142 : decode (ai_b 156) 142 = .ok (.aload_n 0, 1) := by decide +kernel
theorem d156_143 : decode (ai_b 156) 143 = .ok (.iload 4, 2) := by decide +kernel
theorem d156_145 : decode (ai_b 156) 145 = .ok (.aload_n 0, 1) := by decide +kernel
theorem d156_146 : decode (ai_b 156) 146 = .ok (.getfield 89, 3) := by decide +kernel
theorem d156_149 : decode (ai_b 156) 149 = .ok (.aload_n 0, 1) := by decide +kernel
theorem d156_150 : decode (ai_b 156) 150 = .ok (.iload 5, 2) := by decide +kernel
theorem d156_152 : decode (ai_b 156) 152 = .ok (.iload_n 2, 1) := by decide +kernel
theorem d156_153 : decode (ai_b 156) 153 = .ok (.iload 6, 2) := by decide +kernel
theorem d156_155 : decode (ai_b 156) 155 = .ok (.invokevirtual 132, 3) := by decide +kernel
theorem d156_158 : decode (ai_b 156) 158 = .ok (.iaload, 1) := by decide +kernel
theorem d156_159 : decode (ai_b 156) 159 = .ok (.invokevirtual 180, 3) := by decide +kernel
theorem d156_162 : decode (ai_b 156) 162 = .ok (.iinc 6 1, 3) := by decide +kernel
theorem d156_165 : decode (ai_b 156) 165 = .ok (.goto (-36), 3) := by decide +kernel
theorem d156_168 : decode (ai_b 156) 168 = .ok (.iinc 5 1, 3) := by decide +kernel
theorem d156_171 : decode (ai_b 156) 171 = .ok (.goto (-106), 3) := by decide +kernel
theorem d156_174 : decode (ai_b 156) 174 = .ok (.iinc 4 1, 3) := by decide +kernel
theorem d156_177 : decode (ai_b 156) 177 = .ok (.goto (-163), 3) := by decide +kernel
theorem d156_180 : decode (ai_b 156) 180 = .ok (.aload_n 0, 1) := by decide +kernel
theorem d156_181 : decode (ai_b 156) 181 = .ok (.iconst 4, 1) := by decide +kernel
theorem d156_182 : decode (ai_b 156) 182 = .ok (.iconst 0, 1) := by decide +kernel
theorem d156_183 : decode (ai_b 156) 183 = .ok (.invokevirtual 187, 3) := by decide +kernel
theorem d156_186 : decode (ai_b 156) 186 = .ok (.iconst 0, 1) := by decide +kernel
theorem d156_187 : decode (ai_b 156) 187 = .ok (.istore 4, 2) := by decide +kernel
theorem d156_189 : decode (ai_b 156) 189 = .ok (.iload 4, 2) := by decide +kernel
theorem d156_191 : decode (ai_b 156) 191 = .ok (.iload_n 3, 1) := by decide +kernel
theorem d156_192 : decode (ai_b 156) 192 = .ok (.if_icmp .ge 16, 3) := by decide +kernel
theorem d156_195 : decode (ai_b 156) 195 = .ok (.aload_n 0, 1) := by decide +kernel
theorem d156_196 : decode (ai_b 156) 196 = .ok (.iconst 4, 1) := by decide +kernel
theorem d156_197 : decode (ai_b 156) 197 = .ok (.iload 4, 2) := by decide +kernel
theorem d156_199 : decode (ai_b 156) 199 = .ok (.invokevirtual 190, 3) := by decide +kernel
theorem d156_202 : decode (ai_b 156) 202 = .ok (.iinc 4 1, 3) := by decide +kernel
theorem d156_205 : decode (ai_b 156) 205 = .ok (.goto (-16), 3) := by decide +kernel
theorem d156_208 : decode (ai_b 156) 208 = .ok (.return_, 1) := by decide +kernel
theorem d157_0 : decode (ai_b 157) 0 = .ok (.iconst 0, 1) := by decide +kernel
theorem d157_1 : decode (ai_b 157) 1 = .ok (.istore_n 2, 1) := by decide +kernel
theorem d157_2 : decode (ai_b 157) 2 = .ok (.iconst 1, 1) := by decide +kernel
theorem d157_3 : decode (ai_b 157) 3 = .ok (.istore_n 3, 1) := by decide +kernel
theorem d157_4 : decode (ai_b 157) 4 = .ok (.iload_n 3, 1) := by decide +kernel
theorem d157_5 : decode (ai_b 157) 5 = .ok (.aload_n 0, 1) := by decide +kernel
theorem d157_6 : decode (ai_b 157) 6 = .ok (.getfield 36, 3) := by decide +kernel
theorem d157_9 : decode (ai_b 157) 9 = .ok (.iload_n 1, 1) := by decide +kernel
theorem d157_10 : decode (ai_b 157) 10 = .ok (.iconst 5, 1) := by decide +kernel
theorem d157_11 : decode (ai_b 157) 11 = .ok (.irem, 1) := by decide +kernel
theorem d157_12 : decode (ai_b 157) 12 = .ok (.iaload, 1) := by decide +kernel
theorem d157_13 : decode (ai_b 157) 13 = .ok (.if_icmp .ge 20, 3) := by decide +kernel
theorem d157_16 : decode (ai_b 157) 16 = .ok (.aload_n 0, 1) := by decide +kernel
theorem d157_17 : decode (ai_b 157) 17 = .ok (.iload_n 3, 1) := by decide +kernel
theorem d157_18 : decode (ai_b 157) 18 = .ok (.iload_n 2, 1) := by decide +kernel
theorem d157_19 : decode (ai_b 157) 19 = .ok (.invokevirtual 183, 3) := by decide +kernel
theorem d157_22 : decode (ai_b 157) 22 = .ok (.ifCond .le 5, 3) := by decide +kernel
theorem d157_25 : decode (ai_b 157) 25 = .ok (.iload_n 3, 1) := by decide +kernel
theorem d157_26 : decode (ai_b 157) 26 = .ok (.istore_n 2, 1) := by decide +kernel
theorem d157_27 : decode (ai_b 157) 27 = .ok (.iinc 3 1, 3) := by decide +kernel
theorem d157_30 : decode (ai_b 157) 30 = .ok (.goto (-26), 3) := by decide +kernel
theorem d157_33 : decode (ai_b 157) 33 = .ok (.iload_n 2, 1) := by decide +kernel
theorem d157_34 : decode (ai_b 157) 34 = .ok (.ireturn, 1) := by decide +kernel
theorem d158_0 : decode (ai_b 158) 0 = .ok (.iconst 0, 1) := by decide +kernel
theorem d158_1 : decode (ai_b 158) 1 = .ok (.istore_n 2, 1) := by decide +kernel
theorem d158_2 : decode (ai_b 158) 2 = .ok (.iload_n 2, 1) := by decide +kernel
theorem d158_3 : decode (ai_b 158) 3 = .ok (.aload_n 0, 1) := by decide +kernel
theorem d158_4 : decode (ai_b 158) 4 = .ok (.getfield 33, 3) := by decide +kernel
theorem d158_7 : decode (ai_b 158) 7 = .ok (.if_icmp .ge 167, 3) := by decide +kernel
theorem d158_10 : decode (ai_b 158) 10 = .ok (.iconst 0, 1) := by decide +kernel
theorem d158_11 : decode (ai_b 158) 11 = .ok (.istore_n 3, 1) := by decide +kernel
theorem d158_12 : decode (ai_b 158) 12 = .ok (.iload_n 3, 1) := by decide +kernel
theorem d158_13 : decode (ai_b 158) 13 = .ok (.aload_n 0, 1) := by decide +kernel
theorem d158_14 : decode (ai_b 158) 14 = .ok (.getfield 30, 3) := by decide +kernel
theorem d158_17 : decode (ai_b 158) 17 = .ok (.if_icmp .ge 151, 3) := by decide +kernel
theorem d158_20 : decode (ai_b 158) 20 = .ok (.aload_n 0, 1) := by decide +kernel
theorem d158_21 : decode (ai_b 158) 21 = .ok (.iload_n 2, 1) := by decide +kernel
theorem d158_22 : decode (ai_b 158) 22 = .ok (.iload_n 3, 1) := by decide +kernel
theorem d158_23 : decode (ai_b 158) 23 = .ok (.invokevirtual 140, 3) := by decide +kernel
theorem d158_26 : decode (ai_b 158) 26 = .ok (.iconst 0, 1) := by decide +kernel
theorem d158_27 : decode (ai_b 158) 27 = .ok (.istore 4, 2) := by decide +kernel
theorem d158_29 : decode (ai_b 158) 29 = .ok (.iload 4, 2) := by decide +kernel
theorem d158_31 : decode (ai_b 158) 31 = .ok (.aload_n 0, 1) := by decide +kernel
theorem d158_32 : decode (ai_b 158) 32 = .ok (.getfield 26, 3) := by decide +kernel
theorem d158_35 : decode (ai_b 158) 35 = .ok (.if_icmp .ge 127, 3) := by decide +kernel
theorem d158_38 : decode (ai_b 158) 38 = .ok (.iconst 5, 1) := by decide +kernel
theorem d158_39 : decode (ai_b 158) 39 = .ok (.iload 4, 2) := by decide +kernel
theorem d158_41 : decode (ai_b 158) 41 = .ok (.imul, 1) := by decide +kernel
theorem d158_42 : decode (ai_b 158) 42 = .ok (.iload_n 3, 1) := by decide +kernel
theorem d158_43 : decode (ai_b 158) 43 = .ok (.iadd, 1) := by decide +kernel
theorem d158_44 : decode (ai_b 158) 44 = .ok (.istore 5, 2) := by decide +kernel
theorem d158_46 : decode (ai_b 158) 46 = .ok (.aload_n 0, 1) := by decide +kernel
theorem d158_47 : decode (ai_b 158) 47 = .ok (.getfield 45, 3) := by decide +kernel
theorem d158_50 : decode (ai_b 158) 50 = .ok (.iload 5, 2) := by decide +kernel
theorem d158_52 : decode (ai_b 158) 52 = .ok (.iaload, 1) := by decide +kernel
theorem d158_53 : decode (ai_b 158) 53 = .ok (.iconst (-1), 1) := by decide +kernel
theorem d158_54 : decode (ai_b 158) 54 = .ok (.if_icmp .eq 13, 3) := by decide +kernel
theorem d158_57 : decode (ai_b 158) 57 = .ok (.aload_n 0, 1) := by decide +kernel
theorem d158_58 : decode (ai_b 158) 58 = .ok (.getfield 45, 3) := by decide +kernel
theorem d158_61 : decode (ai_b 158) 61 = .ok (.iload 5, 2) := by decide +kernel
theorem d158_63 : decode (ai_b 158) 63 = .ok (.iaload, 1) := by decide +kernel
theorem d158_64 : decode (ai_b 158) 64 = .ok (.goto 18, 3) := by decide +kernel
theorem d158_67 : decode (ai_b 158) 67 = .ok (.iload_n 1, 1) := by decide +kernel
theorem d158_68 : decode (ai_b 158) 68 = .ok (.ifCond .eq 13, 3) := by decide +kernel
theorem d158_71 : decode (ai_b 158) 71 = .ok (.aload_n 0, 1) := by decide +kernel
theorem d158_72 : decode (ai_b 158) 72 = .ok (.getfield 48, 3) := by decide +kernel
theorem d158_75 : decode (ai_b 158) 75 = .ok (.iload 5, 2) := by decide +kernel
theorem d158_77 : decode (ai_b 158) 77 = .ok (.iaload, 1) := by decide +kernel
theorem d158_78 : decode (ai_b 158) 78 = .ok (.goto 4, 3) := by decide +kernel
theorem d158_81 : decode (ai_b 158) 81 = .ok (.iconst (-1), 1) := by decide +kernel
theorem d158_82 : decode (ai_b 158) 82 = .ok (.istore 6, 2) := by decide +kernel
theorem d158_84 : decode (ai_b 158) 84 = .ok (.iload 6, 2) := by decide +kernel
theorem d158_86 : decode (ai_b 158) 86 = .ok (.iconst (-1), 1) := by decide +kernel
theorem d158_87 : decode (ai_b 158) 87 = .ok (.if_icmp .eq 69, 3) := by decide +kernel
theorem d158_90 : decode (ai_b 158) 90 = .ok (.aload_n 0, 1) := by decide +kernel
theorem d158_91 : decode (ai_b 158) 91 = .ok (.getfield 67, 3) := by decide +kernel
theorem d158_94 : decode (ai_b 158) 94 = .ok (.sipush 200, 3) := by decide +kernel
theorem d158_97 : decode (ai_b 158) 97 = .ok (.iload_n 2, 1) := by decide +kernel
theorem d158_98 : decode (ai_b 158) 98 = .ok (.imul, 1) := by decide +kernel
theorem d158_99 : decode (ai_b 158) 99 = .ok (.iload 5, 2) := by decide +kernel
theorem d158_101 : decode (ai_b 158) 101 = .ok (.iadd, 1) := by decide +kernel
theorem d158_102 : decode (ai_b 158) 102 = .ok (.baload, 1) := by decide +kernel
theorem d158_103 : decode (ai_b 158) 103 = .ok (.ifCond .ne 6, 3) := by decide +kernel
theorem d158_106 : decode (ai_b 158) 106 = .ok (.goto 50, 3) := by decide +kernel
theorem d158_109 : decode (ai_b 158) 109 = .ok (.aload_n 0, 1) := by decide +kernel
theorem d158_110 : decode (ai_b 158) 110 = .ok (.getfield 86, 3) := by decide +kernel
theorem d158_113 : decode (ai_b 158) 113 = .ok (.aload_n 0, 1) := by decide +kernel
theorem d158_114 : decode (ai_b 158) 114 = .ok (.iload_n 2, 1) := by decide +kernel
theorem d158_115 : decode (ai_b 158) 115 = .ok (.iload_n 3, 1) := by decide +kernel
theorem d158_116 : decode (ai_b 158) 116 = .ok (.aload_n 0, 1) := by decide +kernel
theorem d158_117 : decode (ai_b 158) 117 = .ok (.getfield 61, 3) := by decide +kernel
theorem d158_120 : decode (ai_b 158) 120 = .ok (.sipush 200, 3) := by decide +kernel
theorem d158_123 : decode (ai_b 158) 123 = .ok (.iload_n 2, 1) := by decide +kernel
theorem d158_124 : decode (ai_b 158) 124 = .ok (.imul, 1) := by decide +kernel
theorem d158_125 : decode (ai_b 158) 125 = .ok (.iload 5, 2) := by decide +kernel
theorem d158_127 : decode (ai_b 158) 127 = .ok (.iadd, 1) := by decide +kernel
theorem d158_128 : decode (ai_b 158) 128 = .ok (.iaload, 1) := by decide +kernel
theorem d158_129 : decode (ai_b 158) 129 = .ok (.iload 6, 2) := by decide +kernel
theorem d158_131 : decode (ai_b 158) 131 = .ok (.invokevirtual 136, 3) := by decide +kernel
theorem d158_134 : decode (ai_b 158) 134 = .ok (.dup2, 1) := by decide +kernel
theorem d158_135 : decode (ai_b 158) 135 = .ok (.iaload, 1) := by decide +kernel
theorem d158_136 : decode (ai_b 158) 136 = .ok (.iconst 1, 1) := by decide +kernel
theorem d158_137 : decode (ai_b 158) 137 = .ok (.iadd, 1) := by decide +kernel
theorem d158_138 : decode (ai_b 158) 138 = .ok (.iastore, 1) := by decide +kernel
theorem d158_139 : decode (ai_b 158) 139 = .ok (.aload_n 0, 1) := by decide +kernel
theorem d158_140 : decode (ai_b 158) 140 = .ok (.getfield 89, 3) := by decide +kernel
theorem d158_143 : decode (ai_b 158) 143 = .ok (.aload_n 0, 1) := by decide +kernel
theorem d158_144 : decode (ai_b 158) 144 = .ok (.iload_n 2, 1) := by decide +kernel
theorem d158_145 : decode (ai_b 158) 145 = .ok (.iload_n 3, 1) := by decide +kernel
theorem d158_146 : decode (ai_b 158) 146 = .ok (.iload 6, 2) := by decide +kernel
theorem d158_148 : decode (ai_b 158) 148 = .ok (.invokevirtual 132, 3) := by decide +kernel
theorem d158_151 : decode (ai_b 158) 151 = .ok (.dup2, 1) := by decide +kernel
theorem d158_152 : decode (ai_b 158) 152 = .ok (.iaload, 1) := by decide +kernel
theorem d158_153 : decode (ai_b 158) 153 = .ok (.iconst 1, 1) := by decide +kernel
theorem d158_154 : decode (ai_b 158) 154 = .ok (.iadd, 1) := by decide +kernel
theorem d158_155 : decode (ai_b 158) 155 = .ok (.iastore, 1) := by decide +kernel
theorem d158_156 : decode (ai_b 158) 156 = .ok (.iinc 4 1, 3) := by decide +kernel
theorem d158_159 : decode (ai_b 158) 159 = .ok (.goto (-130), 3) := by decide +kernel
theorem d158_162 : decode (ai_b 158) 162 = .ok (.iinc 3 1, 3) := by decide +kernel
theorem d158_165 : decode (ai_b 158) 165 = .ok (.goto (-153), 3) := by decide +kernel
theorem d158_168 : decode (ai_b 158) 168 = .ok (.iinc 2 1, 3) := by decide +kernel
theorem d158_171 : decode (ai_b 158) 171 = .ok (.goto (-169), 3) := by decide +kernel
theorem d158_174 : decode (ai_b 158) 174 = .ok (.return_, 1) := by decide +kernel
theorem d159_0 : decode (ai_b 159) 0 = .ok (.iconst 0, 1) := by decide +kernel
theorem d159_1 : decode (ai_b 159) 1 = .ok (.istore_n 1, 1) := by decide +kernel
theorem d159_2 : decode (ai_b 159) 2 = .ok (.iconst 0, 1) := by decide +kernel
theorem d159_3 : decode (ai_b 159) 3 = .ok (.istore_n 2, 1) := by decide +kernel
theorem d159_4 : decode (ai_b 159) 4 = .ok (.iload_n 2, 1) := by decide +kernel
theorem d159_5 : decode (ai_b 159) 5 = .ok (.aload_n 0, 1) := by decide +kernel
theorem d159_6 : decode (ai_b 159) 6 = .ok (.getfield 26, 3) := by decide +kernel
theorem d159_9 : decode (ai_b 159) 9 = .ok (.if_icmp .ge 111, 3) := by decide +kernel
theorem d159_12 : decode (ai_b 159) 12 = .ok (.iconst 0, 1) := by decide +kernel
theorem d159_13 : decode (ai_b 159) 13 = .ok (.istore_n 3, 1) := by decide +kernel
theorem d159_14 : decode (ai_b 159) 14 = .ok (.iload_n 3, 1) := by decide +kernel
theorem d159_15 : decode (ai_b 159) 15 = .ok (.aload_n 0, 1) := by decide +kernel
theorem d159_16 : decode (ai_b 159) 16 = .ok (.getfield 30, 3) := by decide +kernel
theorem d159_19 : decode (ai_b 159) 19 = .ok (.if_icmp .ge 95, 3) := by decide +kernel
theorem d159_22 : decode (ai_b 159) 22 = .ok (.iconst 5, 1) := by decide +kernel
theorem d159_23 : decode (ai_b 159) 23 = .ok (.iload_n 2, 1) := by decide +kernel
theorem d159_24 : decode (ai_b 159) 24 = .ok (.imul, 1) := by decide +kernel
theorem d159_25 : decode (ai_b 159) 25 = .ok (.iload_n 3, 1) := by decide +kernel
theorem d159_26 : decode (ai_b 159) 26 = .ok (.iadd, 1) := by decide +kernel
theorem d159_27 : decode (ai_b 159) 27 = .ok (.istore 4, 2) := by decide +kernel
theorem d159_29 : decode (ai_b 159) 29 = .ok (.aload_n 0, 1) := by decide +kernel
theorem d159_30 : decode (ai_b 159) 30 = .ok (.getfield 45, 3) := by decide +kernel
theorem d159_33 : decode (ai_b 159) 33 = .ok (.iload 4, 2) := by decide +kernel
theorem d159_35 : decode (ai_b 159) 35 = .ok (.iaload, 1) := by decide +kernel
theorem d159_36 : decode (ai_b 159) 36 = .ok (.iconst (-1), 1) := by decide +kernel
theorem d159_37 : decode (ai_b 159) 37 = .ok (.if_icmp .ne 71, 3) := by decide +kernel
theorem d159_40 : decode (ai_b 159) 40 = .ok (.aload_n 0, 1) := by decide +kernel
theorem d159_41 : decode (ai_b 159) 41 = .ok (.iload 4, 2) := by decide +kernel
theorem d159_43 : decode (ai_b 159) 43 = .ok (.invokevirtual 193, 3) := by decide +kernel
theorem d159_46 : decode (ai_b 159) 46 = .ok (.ifCond .ne 6, 3) := by decide +kernel
theorem d159_49 : decode (ai_b 159) 49 = .ok (.goto 59, 3) := by decide +kernel
theorem d159_52 : decode (ai_b 159) 52 = .ok (.aload_n 0, 1) := by decide +kernel
theorem d159_53 : decode (ai_b 159) 53 = .ok (.iload 4, 2) := by decide +kernel
theorem d159_55 : decode (ai_b 159) 55 = .ok (.invokevirtual 196, 3) := by decide +kernel
theorem d159_58 : decode (ai_b 159) 58 = .ok (.aload_n 0, 1) := by decide +kernel
theorem d159_59 : decode (ai_b 159) 59 = .ok (.iload 4, 2) := by decide +kernel
theorem d159_61 : decode (ai_b 159) 61 = .ok (.invokevirtual 200, 3) := by decide +kernel
theorem d159_64 : decode (ai_b 159) 64 = .ok (.istore 5, 2) := by decide +kernel
theorem d159_66 : decode (ai_b 159) 66 = .ok (.aload_n 0, 1) := by decide +kernel
theorem d159_67 : decode (ai_b 159) 67 = .ok (.getfield 48, 3) := by decide +kernel
theorem d159_70 : decode (ai_b 159) 70 = .ok (.iload 4, 2) := by decide +kernel
theorem d159_72 : decode (ai_b 159) 72 = .ok (.iaload, 1) := by decide +kernel
theorem d159_73 : decode (ai_b 159) 73 = .ok (.iconst (-1), 1) := by decide +kernel
theorem d159_74 : decode (ai_b 159) 74 = .ok (.if_icmp .eq 22, 3) := by decide +kernel
theorem d159_77 : decode (ai_b 159) 77 = .ok (.aload_n 0, 1) := by decide +kernel
theorem d159_78 : decode (ai_b 159) 78 = .ok (.iload 5, 2) := by decide +kernel
theorem d159_80 : decode (ai_b 159) 80 = .ok (.aload_n 0, 1) := by decide +kernel
theorem d159_81 : decode (ai_b 159) 81 = .ok (.getfield 48, 3) := by decide +kernel
theorem d159_84 : decode (ai_b 159) 84 = .ok (.iload 4, 2) := by decide +kernel
theorem d159_86 : decode (ai_b 159) 86 = .ok (.iaload, 1) := by decide +kernel
theorem d159_87 : decode (ai_b 159) 87 = .ok (.invokevirtual 183, 3) := by decide +kernel
theorem d159_90 : decode (ai_b 159) 90 = .ok (.ifCond .gt 6, 3) := by decide +kernel
theorem d159_93 : decode (ai_b 159) 93 = .ok (.goto 15, 3) := by decide +kernel
theorem d159_96 : decode (ai_b 159) 96 = .ok (.aload_n 0, 1) := by decide +kernel
theorem d159_97 : decode (ai_b 159) 97 = .ok (.getfield 48, 3) := by decide +kernel
theorem d159_100 : decode (ai_b 159) 100 = .ok (.iload 4, 2) := by decide +kernel
theorem d159_102 : decode (ai_b 159) 102 = .ok (.iload 5, 2) := by decide +kernel
theorem d159_104 : decode (ai_b 159) 104 = .ok (.iastore, 1) := by decide +kernel
theorem d159_105 : decode (ai_b 159) 105 = .ok (.iinc 1 1, 3) := by decide +kernel
theorem d159_108 : decode (ai_b 159) 108 = .ok (.iinc 3 1, 3) := by decide +kernel
theorem d159_111 : decode (ai_b 159) 111 = .ok (.goto (-97), 3) := by decide +kernel
theorem d159_114 : decode (ai_b 159) 114 = .ok (.iinc 2 1, 3) := by decide +kernel
theorem d159_117 : decode (ai_b 159) 117 = .ok (.goto (-113), 3) := by decide +kernel
theorem d159_120 : decode (ai_b 159) 120 = .ok (.aload_n 0, 1) := by decide +kernel
theorem d159_121 : decode (ai_b 159) 121 = .ok (.iconst 1, 1) := by decide +kernel
theorem d159_122 : decode (ai_b 159) 122 = .ok (.invokevirtual 203, 3) := by decide +kernel
theorem d159_125 : decode (ai_b 159) 125 = .ok (.iload_n 1, 1) := by decide +kernel
theorem d159_126 : decode (ai_b 159) 126 = .ok (.ireturn, 1) := by decide +kernel
theorem d160_0 : decode (ai_b 160) 0 = .ok (.aload_n 0, 1) := by decide +kernel
theorem d160_1 : decode (ai_b 160) 1 = .ok (.invokevirtual 171, 3) := by decide +kernel
theorem d160_4 : decode (ai_b 160) 4 = .ok (.iconst 0, 1) := by decide +kernel
theorem d160_5 : decode (ai_b 160) 5 = .ok (.istore_n 2, 1) := by decide +kernel
theorem d160_6 : decode (ai_b 160) 6 = .ok (.iload_n 2, 1) := by decide +kernel
theorem d160_7 : decode (ai_b 160) 7 = .ok (.sipush 200, 3) := by decide +kernel
theorem d160_10 : decode (ai_b 160) 10 = .ok (.if_icmp .ge 16, 3) := by decide +kernel
theorem d160_13 : decode (ai_b 160) 13 = .ok (.aload_n 0, 1) := by decide +kernel
theorem d160_14 : decode (ai_b 160) 14 = .ok (.getfield 48, 3) := by decide +kernel
theorem d160_17 : decode (ai_b 160) 17 = .ok (.iload_n 2, 1) := by decide +kernel
theorem d160_18 : decode (ai_b 160) 18 = .ok (.iconst (-1), 1) := by decide +kernel
theorem d160_19 : decode (ai_b 160) 19 = .ok (.iastore, 1) := by decide +kernel
theorem d160_20 : decode (ai_b 160) 20 = .ok (.iinc 2 1, 3) := by decide +kernel
theorem d160_23 : decode (ai_b 160) 23 = .ok (.goto (-17), 3) := by decide +kernel
theorem d160_26 : decode (ai_b 160) 26 = .ok (.aload_n 0, 1) := by decide +kernel
theorem d160_27 : decode (ai_b 160) 27 = .ok (.iconst 0, 1) := by decide +kernel
theorem d160_28 : decode (ai_b 160) 28 = .ok (.putfield 101, 3) := by decide +kernel
theorem d160_31 : decode (ai_b 160) 31 = .ok (.aload_n 0, 1) := by decide +kernel
theorem d160_32 : decode (ai_b 160) 32 = .ok (.iconst 0, 1) := by decide +kernel
theorem d160_33 : decode (ai_b 160) 33 = .ok (.invokevirtual 203, 3) := by decide +kernel
theorem d160_36 : decode (ai_b 160) 36 = .ok (.iload_n 1, 1) := by decide +kernel
theorem d160_37 : decode (ai_b 160) 37 = .ok (.ifCond .ne 7, 3) := by decide +kernel
theorem d160_40 : decode (ai_b 160) 40 = .ok (.iconst 1, 1) := by decide +kernel
theorem d160_41 : decode (ai_b 160) 41 = .ok (.goto 4, 3) := by decide +kernel
theorem d160_44 : decode (ai_b 160) 44 = .ok (.iconst 0, 1) := by decide +kernel
theorem d160_45 : decode (ai_b 160) 45 = .ok (.istore_n 2, 1) := by decide +kernel
theorem d160_46 : decode (ai_b 160) 46 = .ok (.iload_n 2, 1) := by decide +kernel
theorem d160_47 : decode (ai_b 160) 47 = .ok (.ifCond .eq 56, 3) := by decide +kernel
theorem d160_50 : decode (ai_b 160) 50 = .ok (.aload_n 0, 1) := by decide +kernel
theorem d160_51 : decode (ai_b 160) 51 = .ok (.getfield 98, 3) := by decide +kernel
theorem d160_54 : decode (ai_b 160) 54 = .ok (.aload_n 0, 1) := by decide +kernel
theorem d160_55 : decode (ai_b 160) 55 = .ok (.getfield 101, 3) := by decide +kernel
theorem d160_58 : decode (ai_b 160) 58 = .ok (.aload_n 0, 1) := by decide +kernel
theorem d160_59 : decode (ai_b 160) 59 = .ok (.invokevirtual 207, 3) := by decide +kernel
theorem d160_62 : decode (ai_b 160) 62 = .ok (.iastore, 1) := by decide +kernel
theorem d160_63 : decode (ai_b 160) 63 = .ok (.aload_n 0, 1) := by decide +kernel
theorem d160_64 : decode (ai_b 160) 64 = .ok (.getfield 98, 3) := by decide +kernel
theorem d160_67 : decode (ai_b 160) 67 = .ok (.aload_n 0, 1) := by decide +kernel
theorem d160_68 : decode (ai_b 160) 68 = .ok (.getfield 101, 3) := by decide +kernel
theorem d160_71 : decode (ai_b 160) 71 = .ok (.iaload, 1) := by decide +kernel
theorem d160_72 : decode (ai_b 160) 72 = .ok (.ifCond .le 16, 3) := by decide +kernel
theorem d160_75 : decode (ai_b 160) 75 = .ok (.aload_n 0, 1) := by decide +kernel
theorem d160_76 : decode (ai_b 160) 76 = .ok (.getfield 101, 3) := by decide +kernel
theorem d160_79 : decode (ai_b 160) 79 = .ok (.bipush 29, 2) := by decide +kernel
theorem d160_81 : decode (ai_b 160) 81 = .ok (.if_icmp .ge 7, 3) := by decide +kernel
theorem d160_84 : decode (ai_b 160) 84 = .ok (.iconst 1, 1) := by decide +kernel
theorem d160_85 : decode (ai_b 160) 85 = .ok (.goto 4, 3) := by decide +kernel
theorem d160_88 : decode (ai_b 160) 88 = .ok (.iconst 0, 1) := by decide +kernel
theorem d160_89 : decode (ai_b 160) 89 = .ok (.istore_n 2, 1) := by decide +kernel
theorem d160_90 : decode (ai_b 160) 90 = .ok (.aload_n 0, 1) := by decide +kernel
theorem d160_91 : decode (ai_b 160) 91 = .ok (.dup, 1) := by decide +kernel
theorem d160_92 : decode (ai_b 160) 92 = .ok (.getfield 101, 3) := by decide +kernel
theorem d160_95 : decode (ai_b 160) 95 = .ok (.iconst 1, 1) := by decide +kernel
theorem d160_96 : decode (ai_b 160) 96 = .ok (.iadd, 1) := by decide +kernel
theorem d160_97 : decode (ai_b 160) 97 = .ok (.putfield 101, 3) := by decide +kernel
theorem d160_100 : decode (ai_b 160) 100 = .ok (.goto (-54), 3) := by decide +kernel
theorem d160_103 : decode (ai_b 160) 103 = .ok (.aload_n 0, 1) := by decide +kernel
theorem d160_104 : decode (ai_b 160) 104 = .ok (.getfield 101, 3) := by decide +kernel
theorem d160_107 : decode (ai_b 160) 107 = .ok (.ireturn, 1) := by decide +kernel
theorem d161_0 : decode (ai_b 161) 0 = .ok (.aload_n 0, 1) := by decide +kernel
theorem d161_1 : decode (ai_b 161) 1 = .ok (.iload_n 1, 1) := by decide +kernel
theorem d161_2 : decode (ai_b 161) 2 = .ok (.iconst 0, 1) := by decide +kernel
theorem d161_3 : decode (ai_b 161) 3 = .ok (.aload_n 0, 1) := by decide +kernel
theorem d161_4 : decode (ai_b 161) 4 = .ok (.getfield 101, 3) := by decide +kernel
theorem d161_7 : decode (ai_b 161) 7 = .ok (.iconst 1, 1) := by decide +kernel
theorem d161_8 : decode (ai_b 161) 8 = .ok (.isub, 1) := by decide +kernel
theorem d161_9 : decode (ai_b 161) 9 = .ok (.invokevirtual 113, 3) := by decide +kernel
theorem d161_12 : decode (ai_b 161) 12 = .ok (.ifCond .eq 12, 3) := by decide +kernel
theorem d161_15 : decode (ai_b 161) 15 = .ok (.aload_n 0, 1) := by decide +kernel
theorem d161_16 : decode (ai_b 161) 16 = .ok (.getfield 98, 3) := by decide +kernel
theorem d161_19 : decode (ai_b 161) 19 = .ok (.iload_n 1, 1) := by decide +kernel
theorem d161_20 : decode (ai_b 161) 20 = .ok (.iaload, 1) := by decide +kernel
theorem d161_21 : decode (ai_b 161) 21 = .ok (.goto 4, 3) := by decide +kernel
theorem d161_24 : decode (ai_b 161) 24 = .ok (.iconst (-1), 1) := by decide +kernel
theorem d161_25 : decode (ai_b 161) 25 = .ok (.ireturn, 1) := by decide +kernel
theorem d162_0 : decode (ai_b 162) 0 = .ok (.aload_n 0, 1) := by decide +kernel
theorem d162_1 : decode (ai_b 162) 1 = .ok (.iload_n 1, 1) := by decide +kernel
theorem d162_2 : decode (ai_b 162) 2 = .ok (.iload_n 2, 1) := by decide +kernel
theorem d162_3 : decode (ai_b 162) 3 = .ok (.invokevirtual 144, 3) := by decide +kernel
theorem d162_6 : decode (ai_b 162) 6 = .ok (.ifCond .eq 16, 3) := by decide +kernel
theorem d162_9 : decode (ai_b 162) 9 = .ok (.aload_n 0, 1) := by decide +kernel
theorem d162_10 : decode (ai_b 162) 10 = .ok (.getfield 48, 3) := by decide +kernel
theorem d162_13 : decode (ai_b 162) 13 = .ok (.iconst 5, 1) := by decide +kernel
theorem d162_14 : decode (ai_b 162) 14 = .ok (.iload_n 1, 1) := by decide +kernel
theorem d162_15 : decode (ai_b 162) 15 = .ok (.imul, 1) := by decide +kernel
theorem d162_16 : decode (ai_b 162) 16 = .ok (.iload_n 2, 1) := by decide +kernel
theorem d162_17 : decode (ai_b 162) 17 = .ok (.iadd, 1) := by decide +kernel
theorem d162_18 : decode (ai_b 162) 18 = .ok (.iaload, 1) := by decide +kernel
theorem d162_19 : decode (ai_b 162) 19 = .ok (.goto 4, 3) := by decide +kernel
theorem d162_22 : decode (ai_b 162) 22 = .ok (.iconst (-1), 1) := by decide +kernel
theorem d162_23 : decode (ai_b 162) 23 = .ok (.ireturn, 1) := by decide +kernel
theorem d163_0 : decode (ai_b 163) 0 = .ok (.aload_n 0, 1) := by decide +kernel
theorem d163_1 : decode (ai_b 163) 1 = .ok (.iload_n 2, 1) := by decide +kernel
theorem d163_2 : decode (ai_b 163) 2 = .ok (.iconst 0, 1) := by decide +kernel
theorem d163_3 : decode (ai_b 163) 3 = .ok (.aload_n 0, 1) := by decide +kernel
theorem d163_4 : decode (ai_b 163) 4 = .ok (.getfield 36, 3) := by decide +kernel
theorem d163_7 : decode (ai_b 163) 7 = .ok (.iload_n 1, 1) := by decide +kernel
theorem d163_8 : decode (ai_b 163) 8 = .ok (.iaload, 1) := by decide +kernel
theorem d163_9 : decode (ai_b 163) 9 = .ok (.iconst 1, 1) := by decide +kernel
theorem d163_10 : decode (ai_b 163) 10 = .ok (.isub, 1) := by decide +kernel
theorem d163_11 : decode (ai_b 163) 11 = .ok (.invokevirtual 113, 3) := by decide +kernel
theorem d163_14 : decode (ai_b 163) 14 = .ok (.ireturn, 1) := by decide +kernel
theorem d164_0 : decode (ai_b 164) 0 = .ok (.aload_n 0, 1) := by decide +kernel
theorem d164_1 : decode (ai_b 164) 1 = .ok (.iload_n 1, 1) := by decide +kernel
theorem d164_2 : decode (ai_b 164) 2 = .ok (.invokevirtual 148, 3) := by decide +kernel
theorem d164_5 : decode (ai_b 164) 5 = .ok (.ifCond .eq 37, 3) := by decide +kernel
theorem d164_8 : decode (ai_b 164) 8 = .ok (.aload_n 0, 1) := by decide +kernel
theorem d164_9 : decode (ai_b 164) 9 = .ok (.iload_n 2, 1) := by decide +kernel
theorem d164_10 : decode (ai_b 164) 10 = .ok (.iconst 0, 1) := by decide +kernel
theorem d164_11 : decode (ai_b 164) 11 = .ok (.aload_n 0, 1) := by decide +kernel
theorem d164_12 : decode (ai_b 164) 12 = .ok (.getfield 30, 3) := by decide +kernel
theorem d164_15 : decode (ai_b 164) 15 = .ok (.iconst 1, 1) := by decide +kernel
theorem d164_16 : decode (ai_b 164) 16 = .ok (.isub, 1) := by decide +kernel
theorem d164_17 : decode (ai_b 164) 17 = .ok (.invokevirtual 113, 3) := by decide +kernel
theorem d164_20 : decode (ai_b 164) 20 = .ok (.ifCond .eq 22, 3) := by decide +kernel
theorem d164_23 : decode (ai_b 164) 23 = .ok (.aload_n 0, 1) := by decide +kernel
theorem d164_24 : decode (ai_b 164) 24 = .ok (.iload_n 2, 1) := by decide +kernel
theorem d164_25 : decode (ai_b 164) 25 = .ok (.iload_n 3, 1) := by decide +kernel
theorem d164_26 : decode (ai_b 164) 26 = .ok (.invokevirtual 211, 3) := by decide +kernel
theorem d164_29 : decode (ai_b 164) 29 = .ok (.ifCond .eq 13, 3) := by decide +kernel
theorem d164_32 : decode (ai_b 164) 32 = .ok (.aload_n 0, 1) := by decide +kernel
theorem d164_33 : decode (ai_b 164) 33 = .ok (.iload_n 2, 1) := by decide +kernel
theorem d164_34 : decode (ai_b 164) 34 = .ok (.iload 4, 2) := by decide +kernel
theorem d164_36 : decode (ai_b 164) 36 = .ok (.invokevirtual 211, 3) := by decide +kernel
theorem d164_39 : decode (ai_b 164) 39 = .ok (.ifCond .ne 5, 3) := by decide +kernel
theorem d164_42 : decode (ai_b 164) 42 = .ok (.iconst 0, 1) := by decide +kernel
theorem d164_43 : decode (ai_b 164) 43 = .ok (.ireturn, 1) := by decide +kernel
theorem d164_44 : decode (ai_b 164) 44 = .ok (.aload_n 0, 1) := by decide +kernel
theorem d164_45 : decode (ai_b 164) 45 = .ok (.getfield 86, 3) := by decide +kernel
theorem d164_48 : decode (ai_b 164) 48 = .ok (.aload_n 0, 1) := by decide +kernel
theorem d164_49 : decode (ai_b 164) 49 = .ok (.iload_n 1, 1) := by decide +kernel
theorem d164_50 : decode (ai_b 164) 50 = .ok (.iload_n 2, 1) := by decide +kernel
theorem d164_51 : decode (ai_b 164) 51 = .ok (.iload_n 3, 1) := by decide +kernel
theorem d164_52 : decode (ai_b 164) 52 = .ok (.iload 4, 2) := by decide +kernel
theorem d164_54 : decode (ai_b 164) 54 = .ok (.invokevirtual 136, 3) := by decide +kernel
theorem d164_57 : decode (ai_b 164) 57 = .ok (.iaload, 1) := by decide +kernel
theorem d164_58 : decode (ai_b 164) 58 = .ok (.ireturn, 1) := by decide +kernel
theorem d165_0 : decode (ai_b 165) 0 = .ok (.aload_n 0, 1) := by decide +kernel
theorem d165_1 : decode (ai_b 165) 1 = .ok (.iload_n 1, 1) := by decide +kernel
theorem d165_2 : decode (ai_b 165) 2 = .ok (.invokevirtual 148, 3) := by decide +kernel
theorem d165_5 : decode (ai_b 165) 5 = .ok (.ifCond .eq 42, 3) := by decide +kernel
theorem d165_8 : decode (ai_b 165) 8 = .ok (.aload_n 0, 1) := by decide +kernel
theorem d165_9 : decode (ai_b 165) 9 = .ok (.iload_n 2, 1) := by decide +kernel
theorem d165_10 : decode (ai_b 165) 10 = .ok (.iconst 0, 1) := by decide +kernel
theorem d165_11 : decode (ai_b 165) 11 = .ok (.aload_n 0, 1) := by decide +kernel
theorem d165_12 : decode (ai_b 165) 12 = .ok (.getfield 30, 3) := by decide +kernel
theorem d165_15 : decode (ai_b 165) 15 = .ok (.iconst 1, 1) := by decide +kernel
theorem d165_16 : decode (ai_b 165) 16 = .ok (.isub, 1) := by decide +kernel
theorem d165_17 : decode (ai_b 165) 17 = .ok (.invokevirtual 113, 3) := by decide +kernel
theorem d165_20 : decode (ai_b 165) 20 = .ok (.ifCond .eq 27, 3) := by decide +kernel
theorem d165_23 : decode (ai_b 165) 23 = .ok (.aload_n 0, 1) := by decide +kernel
theorem d165_24 : decode (ai_b 165) 24 = .ok (.iload_n 2, 1) := by decide +kernel
theorem d165_25 : decode (ai_b 165) 25 = .ok (.iload_n 3, 1) := by decide +kernel
theorem d165_26 : decode (ai_b 165) 26 = .ok (.invokevirtual 211, 3) := by decide +kernel
theorem d165_29 : decode (ai_b 165) 29 = .ok (.ifCond .eq 18, 3) := by decide +kernel
theorem d165_32 : decode (ai_b 165) 32 = .ok (.aload_n 0, 1) := by decide +kernel
theorem d165_33 : decode (ai_b 165) 33 = .ok (.getfield 89, 3) := by decide +kernel
theorem d165_36 : decode (ai_b 165) 36 = .ok (.aload_n 0, 1) := by decide +kernel
theorem d165_37 : decode (ai_b 165) 37 = .ok (.iload_n 1, 1) := by decide +kernel
theorem d165_38 : decode (ai_b 165) 38 = .ok (.iload_n 2, 1) := by decide +kernel
theorem d165_39 : decode (ai_b 165) 39 = .ok (.iload_n 3, 1) := by decide +kernel
theorem d165_40 : decode (ai_b 165) 40 = .ok (.invokevirtual 132, 3) := by decide +kernel
theorem d165_43 : decode (ai_b 165) 43 = .ok (.iaload, 1) := by decide +kernel
theorem d165_44 : decode (ai_b 165) 44 = .ok (.goto 4, 3) := by decide +kernel
theorem d165_47 : decode (ai_b 165) 47 = .ok (.iconst 0, 1) := by decide +kernel
theorem d165_48 : decode (ai_b 165) 48 = .ok (.ireturn, 1) := by decide +kernel
theorem d166_0 : decode (ai_b 166) 0 = .ok (.aload_n 0, 1) := by decide +kernel
theorem d166_1 : decode (ai_b 166) 1 = .ok (.iload_n 1, 1) := by decide +kernel
theorem d166_2 : decode (ai_b 166) 2 = .ok (.iload_n 2, 1) := by decide +kernel
theorem d166_3 : decode (ai_b 166) 3 = .ok (.invokevirtual 144, 3) := by decide +kernel
theorem d166_6 : decode (ai_b 166) 6 = .ok (.ifCond .eq 12, 3) := by decide +kernel
theorem d166_9 : decode (ai_b 166) 9 = .ok (.aload_n 0, 1) := by decide +kernel
theorem d166_10 : decode (ai_b 166) 10 = .ok (.iload_n 2, 1) := by decide +kernel
theorem d166_11 : decode (ai_b 166) 11 = .ok (.iload_n 3, 1) := by decide +kernel
theorem d166_12 : decode (ai_b 166) 12 = .ok (.invokevirtual 211, 3) := by decide +kernel
theorem d166_15 : decode (ai_b 166) 15 = .ok (.ifCond .ne 5, 3) := by decide +kernel
theorem d166_18 : decode (ai_b 166) 18 = .ok (.iconst (-1), 1) := by decide +kernel
theorem d166_19 : decode (ai_b 166) 19 = .ok (.ireturn, 1) := by decide +kernel
theorem d166_20 : decode (ai_b 166) 20 = .ok (.aload_n 0, 1) := by decide +kernel
theorem d166_21 : decode (ai_b 166) 21 = .ok (.invokevirtual 171, 3) := by decide +kernel
theorem d166_24 : decode (ai_b 166) 24 = .ok (.aload_n 0, 1) := by decide +kernel
theorem d166_25 : decode (ai_b 166) 25 = .ok (.iconst 5, 1) := by decide +kernel
theorem d166_26 : decode (ai_b 166) 26 = .ok (.iload_n 1, 1) := by decide +kernel
theorem d166_27 : decode (ai_b 166) 27 = .ok (.imul, 1) := by decide +kernel
theorem d166_28 : decode (ai_b 166) 28 = .ok (.iload_n 2, 1) := by decide +kernel
theorem d166_29 : decode (ai_b 166) 29 = .ok (.iadd, 1) := by decide +kernel
theorem d166_30 : decode (ai_b 166) 30 = .ok (.invokevirtual 196, 3) := by decide +kernel
theorem d166_33 : decode (ai_b 166) 33 = .ok (.aload_n 0, 1) := by decide +kernel
theorem d166_34 : decode (ai_b 166) 34 = .ok (.iload_n 3, 1) := by decide +kernel
theorem d166_35 : decode (ai_b 166) 35 = .ok (.ldc 214, 2) := by decide +kernel
theorem d166_37 : decode (ai_b 166) 37 = .ok (.invokevirtual 180, 3) := by decide +kernel
theorem d166_40 : decode (ai_b 166) 40 = .ok (.aload_n 0, 1) := by decide +kernel
theorem d166_41 : decode (ai_b 166) 41 = .ok (.iload_n 3, 1) := by decide +kernel
theorem d166_42 : decode (ai_b 166) 42 = .ok (.iconst 4, 1) := by decide +kernel
theorem d166_43 : decode (ai_b 166) 43 = .ok (.ldc 214, 2) := by decide +kernel
theorem d166_45 : decode (ai_b 166) 45 = .ok (.invokevirtual 215, 3) := by decide +kernel
theorem d166_48 : decode (ai_b 166) 48 = .ok (.ireturn, 1) := by decide +kernel
theorem d167_0 : decode (ai_b 167) 0 = .ok (.aload_n 0, 1) := by decide +kernel
theorem d167_1 : decode (ai_b 167) 1 = .ok (.iload_n 1, 1) := by decide +kernel
theorem d167_2 : decode (ai_b 167) 2 = .ok (.iload_n 2, 1) := by decide +kernel
theorem d167_3 : decode (ai_b 167) 3 = .ok (.invokevirtual 144, 3) := by decide +kernel
theorem d167_6 : decode (ai_b 167) 6 = .ok (.ifCond .ne 5, 3) := by decide +kernel
theorem d167_9 : decode (ai_b 167) 9 = .ok (.iconst (-1), 1) := by decide +kernel
theorem d167_10 : decode (ai_b 167) 10 = .ok (.ireturn, 1) := by decide +kernel
theorem d167_11 : decode (ai_b 167) 11 = .ok (.aload_n 0, 1) := by decide +kernel
theorem d167_12 : decode (ai_b 167) 12 = .ok (.invokevirtual 171, 3) := by decide +kernel
theorem d167_15 : decode (ai_b 167) 15 = .ok (.aload_n 0, 1) := by decide +kernel
theorem d167_16 : decode (ai_b 167) 16 = .ok (.iconst 5, 1) := by decide +kernel
theorem d167_17 : decode (ai_b 167) 17 = .ok (.iload_n 1, 1) := by decide +kernel
theorem d167_18 : decode (ai_b 167) 18 = .ok (.imul, 1) := by decide +kernel
theorem d167_19 : decode (ai_b 167) 19 = .ok (.iload_n 2, 1) := by decide +kernel
theorem d167_20 : decode (ai_b 167) 20 = .ok (.iadd, 1) := by decide +kernel
theorem d167_21 : decode (ai_b 167) 21 = .ok (.invokevirtual 196, 3) := by decide +kernel
theorem d167_24 : decode (ai_b 167) 24 = .ok (.aload_n 0, 1) := by decide +kernel
theorem d167_25 : decode (ai_b 167) 25 = .ok (.iconst 5, 1) := by decide +kernel
theorem d167_26 : decode (ai_b 167) 26 = .ok (.iload_n 1, 1) := by decide +kernel
theorem d167_27 : decode (ai_b 167) 27 = .ok (.imul, 1) := by decide +kernel
theorem d167_28 : decode (ai_b 167) 28 = .ok (.iload_n 2, 1) := by decide +kernel
theorem d167_29 : decode (ai_b 167) 29 = .ok (.iadd, 1) := by decide +kernel
theorem d167_30 : decode (ai_b 167) 30 = .ok (.invokevirtual 200, 3) := by decide +kernel
theorem d167_33 : decode (ai_b 167) 33 = .ok (.ireturn, 1) := by decide +kernel
theorem d168_0 : decode (ai_b 168) 0 = .ok (.aload_n 0, 1) := by decide +kernel
theorem d168_1 : decode (ai_b 168) 1 = .ok (.iload_n 1, 1) := by decide +kernel
theorem d168_2 : decode (ai_b 168) 2 = .ok (.invokevirtual 196, 3) := by decide +kernel
theorem d168_5 : decode (ai_b 168) 5 = .ok (.aload_n 0, 1) := by decide +kernel
theorem d168_6 : decode (ai_b 168) 6 = .ok (.getfield 104, 3) := by decide +kernel
theorem d168_9 : decode (ai_b 168) 9 = .ok (.iload_n 1, 1) := by decide +kernel
theorem d168_10 : decode (ai_b 168) 10 = .ok (.aload_n 0, 1) := by decide +kernel
theorem d168_11 : decode (ai_b 168) 11 = .ok (.iload_n 1, 1) := by decide +kernel
theorem d168_12 : decode (ai_b 168) 12 = .ok (.invokevirtual 200, 3) := by decide +kernel
theorem d168_15 : decode (ai_b 168) 15 = .ok (.iastore, 1) := by decide +kernel
theorem d168_16 : decode (ai_b 168) 16 = .ok (.aload_n 0, 1) := by decide +kernel
theorem d168_17 : decode (ai_b 168) 17 = .ok (.getfield 107, 3) := by decide +kernel
theorem d168_20 : decode (ai_b 168) 20 = .ok (.iload_n 1, 1) := by decide +kernel
theorem d168_21 : decode (ai_b 168) 21 = .ok (.aload_n 0, 1) := by decide +kernel
theorem d168_22 : decode (ai_b 168) 22 = .ok (.getfield 45, 3) := by decide +kernel
theorem d168_25 : decode (ai_b 168) 25 = .ok (.iload_n 1, 1) := by decide +kernel
theorem d168_26 : decode (ai_b 168) 26 = .ok (.iaload, 1) := by decide +kernel
theorem d168_27 : decode (ai_b 168) 27 = .ok (.iconst (-1), 1) := by decide +kernel
theorem d168_28 : decode (ai_b 168) 28 = .ok (.if_icmp .eq 7, 3) := by decide +kernel
theorem d168_31 : decode (ai_b 168) 31 = .ok (.iconst 1, 1) := by decide +kernel
theorem d168_32 : decode (ai_b 168) 32 = .ok (.goto 4, 3) := by decide +kernel
theorem d168_35 : decode (ai_b 168) 35 = .ok (.iconst 0, 1) := by decide +kernel
theorem d168_36 : decode (ai_b 168) 36 = .ok (.bastore, 1) := by decide +kernel
theorem d168_37 : decode (ai_b 168) 37 = .ok (.aload_n 0, 1) := by decide +kernel
theorem d168_38 : decode (ai_b 168) 38 = .ok (.getfield 107, 3) := by decide +kernel
theorem d168_41 : decode (ai_b 168) 41 = .ok (.iload_n 1, 1) := by decide +kernel
theorem d168_42 : decode (ai_b 168) 42 = .ok (.baload, 1) := by decide +kernel
theorem d168_43 : decode (ai_b 168) 43 = .ok (.ifCond .ne 11, 3) := by decide +kernel
theorem d168_46 : decode (ai_b 168) 46 = .ok (.aload_n 0, 1) := by decide +kernel
theorem d168_47 : decode (ai_b 168) 47 = .ok (.iload_n 1, 1) := by decide +kernel
theorem d168_48 : decode (ai_b 168) 48 = .ok (.invokevirtual 193, 3) := by decide +kernel
theorem d168_51 : decode (ai_b 168) 51 = .ok (.ifCond .ne 4, 3) := by decide +kernel
theorem d168_54 : decode (ai_b 168) 54 = .ok (.return_, 1) := by decide +kernel
theorem d168_55 : decode (ai_b 168) 55 = .ok (.aload_n 0, 1) := by decide +kernel
theorem d168_56 : decode (ai_b 168) 56 = .ok (.aload_n 0, 1) := by decide +kernel
theorem d168_57 : decode (ai_b 168) 57 = .ok (.getfield 104, 3) := by decide +kernel
theorem d168_60 : decode (ai_b 168) 60 = .ok (.iload_n 1, 1) := by decide +kernel
theorem d168_61 : decode (ai_b 168) 61 = .ok (.iaload, 1) := by decide +kernel
theorem d168_62 : decode (ai_b 168) 62 = .ok (.iconst 5, 1) := by decide +kernel
theorem d168_63 : decode (ai_b 168) 63 = .ok (.invokevirtual 177, 3) := by decide +kernel
theorem d168_66 : decode (ai_b 168) 66 = .ok (.aload_n 0, 1) := by decide +kernel
theorem d168_67 : decode (ai_b 168) 67 = .ok (.iconst 4, 1) := by decide +kernel
theorem d168_68 : decode (ai_b 168) 68 = .ok (.bipush 6, 2) := by decide +kernel
theorem d168_70 : decode (ai_b 168) 70 = .ok (.invokevirtual 177, 3) := by decide +kernel
theorem d168_73 : decode (ai_b 168) 73 = .ok (.aload_n 0, 1) := by decide +kernel
theorem d168_74 : decode (ai_b 168) 74 = .ok (.iconst 5, 1) := by decide +kernel
theorem d168_75 : decode (ai_b 168) 75 = .ok (.sipush 1000, 3) := by decide +kernel
theorem d168_78 : decode (ai_b 168) 78 = .ok (.invokevirtual 180, 3) := by decide +kernel
theorem d168_81 : decode (ai_b 168) 81 = .ok (.aload_n 0, 1) := by decide +kernel
theorem d168_82 : decode (ai_b 168) 82 = .ok (.bipush 6, 2) := by decide +kernel
theorem d168_84 : decode (ai_b 168) 84 = .ok (.aload_n 0, 1) := by decide +kernel
theorem d168_85 : decode (ai_b 168) 85 = .ok (.getfield 77, 3) := by decide +kernel
theorem d168_88 : decode (ai_b 168) 88 = .ok (.invokevirtual 180, 3) := by decide +kernel
theorem d168_91 : decode (ai_b 168) 91 = .ok (.aload_n 0, 1) := by decide +kernel
theorem d168_92 : decode (ai_b 168) 92 = .ok (.getfield 107, 3) := by decide +kernel
theorem d168_95 : decode (ai_b 168) 95 = .ok (.iload_n 1, 1) := by decide +kernel
theorem d168_96 : decode (ai_b 168) 96 = .ok (.aload_n 0, 1) := by decide +kernel
theorem d168_97 : decode (ai_b 168) 97 = .ok (.iconst 5, 1) := by decide +kernel
theorem d168_98 : decode (ai_b 168) 98 = .ok (.bipush 6, 2) := by decide +kernel
theorem d168_100 : decode (ai_b 168) 100 = .ok (.invokevirtual 183, 3) := by decide +kernel
theorem d168_103 : decode (ai_b 168) 103 = .ok (.ifCond .ge 15, 3) := by decide +kernel
theorem d168_106 : decode (ai_b 168) 106 = .ok (.aload_n 0, 1) := by decide +kernel
theorem d168_107 : decode (ai_b 168) 107 = .ok (.iload_n 1, 1) := by decide +kernel
theorem d168_108 : decode (ai_b 168) 108 = .ok (.invokevirtual 193, 3) := by decide +kernel
theorem d168_111 : decode (ai_b 168) 111 = .ok (.aload_n 0, 1) := by decide +kernel
theorem d168_112 : decode (ai_b 168) 112 = .ok (.getfield 80, 3) := by decide +kernel
theorem d168_115 : decode (ai_b 168) 115 = .ok (.if_icmp .lt 7, 3) := by decide +kernel
theorem d168_118 : decode (ai_b 168) 118 = .ok (.iconst 1, 1) := by decide +kernel
theorem d168_119 : decode (ai_b 168) 119 = .ok (.goto 4, 3) := by decide +kernel
theorem d168_122 : decode (ai_b 168) 122 = .ok (.iconst 0, 1) := by decide +kernel
theorem d168_123 : decode (ai_b 168) 123 = .ok (.bastore, 1) := by decide +kernel
theorem d168_124 : decode (ai_b 168) 124 = .ok (.return_, 1) := by decide +kernel
theorem d169_0 : decode (ai_b 169) 0 = .ok (.aload_n 0, 1) := by decide +kernel
theorem d169_1 : decode (ai_b 169) 1 = .ok (.invokevirtual 171, 3) := by decide +kernel
theorem d169_4 : decode (ai_b 169) 4 = .ok (.iconst 0, 1) := by decide +kernel
theorem d169_5 : decode (ai_b 169) 5 = .ok (.istore_n 1, 1) := by decide +kernel
theorem d169_6 : decode (ai_b 169) 6 = .ok (.iload_n 1, 1) := by decide +kernel
theorem d169_7 : decode (ai_b 169) 7 = .ok (.aload_n 0, 1) := by decide +kernel
theorem d169_8 : decode (ai_b 169) 8 = .ok (.getfield 26, 3) := by decide +kernel
theorem d169_11 : decode (ai_b 169) 11 = .ok (.if_icmp .ge 107, 3) := by decide +kernel
theorem d169_14 : decode (ai_b 169) 14 = .ok (.iconst 0, 1) := by decide +kernel
theorem d169_15 : decode (ai_b 169) 15 = .ok (.istore_n 2, 1) := by decide +kernel
theorem d169_16 : decode (ai_b 169) 16 = .ok (.iload_n 2, 1) := by decide +kernel
theorem d169_17 : decode (ai_b 169) 17 = .ok (.aload_n 0, 1) := by decide +kernel
theorem d169_18 : decode (ai_b 169) 18 = .ok (.getfield 30, 3) := by decide +kernel
theorem d169_21 : decode (ai_b 169) 21 = .ok (.if_icmp .ge 91, 3) := by decide +kernel
theorem d169_24 : decode (ai_b 169) 24 = .ok (.iconst 5, 1) := by decide +kernel
theorem d169_25 : decode (ai_b 169) 25 = .ok (.iload_n 1, 1) := by decide +kernel
theorem d169_26 : decode (ai_b 169) 26 = .ok (.imul, 1) := by decide +kernel
theorem d169_27 : decode (ai_b 169) 27 = .ok (.iload_n 2, 1) := by decide +kernel
theorem d169_28 : decode (ai_b 169) 28 = .ok (.iadd, 1) := by decide +kernel
theorem d169_29 : decode (ai_b 169) 29 = .ok (.istore_n 3, 1) := by decide +kernel
theorem d169_30 : decode (ai_b 169) 30 = .ok (.aload_n 0, 1) := by decide +kernel
theorem d169_31 : decode (ai_b 169) 31 = .ok (.iload_n 3, 1) := by decide +kernel
theorem d169_32 : decode (ai_b 169) 32 = .ok (.invokevirtual 218, 3) := by decide +kernel
theorem d169_35 : decode (ai_b 169) 35 = .ok (.iconst 5, 1) := by decide +kernel
theorem d169_36 : decode (ai_b 169) 36 = .ok (.iload_n 1, 1) := by decide +kernel
theorem d169_37 : decode (ai_b 169) 37 = .ok (.imul, 1) := by decide +kernel
theorem d169_38 : decode (ai_b 169) 38 = .ok (.iload_n 2, 1) := by decide +kernel
theorem d169_39 : decode (ai_b 169) 39 = .ok (.ifCond .ne 7, 3) := by decide +kernel
theorem d169_42 : decode (ai_b 169) 42 = .ok (.iconst 0, 1) := by decide +kernel
theorem d169_43 : decode (ai_b 169) 43 = .ok (.goto 9, 3) := by decide +kernel
theorem d169_46 : decode (ai_b 169) 46 = .ok (.aload_n 0, 1) := by decide +kernel
theorem d169_47 : decode (ai_b 169) 47 = .ok (.getfield 39, 3) := by decide +kernel
theorem d169_50 : decode (ai_b 169) 50 = .ok (.iload_n 2, 1) := by decide +kernel
theorem d169_51 : decode (ai_b 169) 51 = .ok (.iaload, 1) := by decide +kernel
theorem d169_52 : decode (ai_b 169) 52 = .ok (.iadd, 1) := by decide +kernel
theorem d169_53 : decode (ai_b 169) 53 = .ok (.istore 4, 2) := by decide +kernel
theorem d169_55 : decode (ai_b 169) 55 = .ok (.aload_n 0, 1) := by decide +kernel
theorem d169_56 : decode (ai_b 169) 56 = .ok (.getfield 110, 3) := by decide +kernel
theorem d169_59 : decode (ai_b 169) 59 = .ok (.iload_n 3, 1) := by decide +kernel
theorem d169_60 : decode (ai_b 169) 60 = .ok (.iload_n 2, 1) := by decide +kernel
theorem d169_61 : decode (ai_b 169) 61 = .ok (.ifCond .eq 39, 3) := by decide +kernel
theorem d169_64 : decode (ai_b 169) 64 = .ok (.aload_n 0, 1) := by decide +kernel
theorem d169_65 : decode (ai_b 169) 65 = .ok (.getfield 110, 3) := by decide +kernel
theorem d169_68 : decode (ai_b 169) 68 = .ok (.iload 4, 2) := by decide +kernel
theorem d169_70 : decode (ai_b 169) 70 = .ok (.baload, 1) := by decide +kernel
theorem d169_71 : decode (ai_b 169) 71 = .ok (.ifCond .eq 33, 3) := by decide +kernel
theorem d169_74 : decode (ai_b 169) 74 = .ok (.aload_n 0, 1) := by decide +kernel
theorem d169_75 : decode (ai_b 169) 75 = .ok (.getfield 107, 3) := by decide +kernel
theorem d169_78 : decode (ai_b 169) 78 = .ok (.iload 4, 2) := by decide +kernel
theorem d169_80 : decode (ai_b 169) 80 = .ok (.baload, 1) := by decide +kernel
theorem d169_81 : decode (ai_b 169) 81 = .ok (.ifCond .eq 23, 3) := by decide +kernel
theorem d169_84 : decode (ai_b 169) 84 = .ok (.aload_n 0, 1) := by decide +kernel
theorem d169_85 : decode (ai_b 169) 85 = .ok (.getfield 104, 3) := by decide +kernel
theorem d169_88 : decode (ai_b 169) 88 = .ok (.iload 4, 2) := by decide +kernel
theorem d169_90 : decode (ai_b 169) 90 = .ok (.iaload, 1) := by decide +kernel
theorem d169_91 : decode (ai_b 169) 91 = .ok (.aload_n 0, 1) := by decide +kernel
theorem d169_92 : decode (ai_b 169) 92 = .ok (.getfield 42, 3) := by decide +kernel
theorem d169_95 : decode (ai_b 169) 95 = .ok (.iload_n 2, 1) := by decide +kernel
theorem d169_96 : decode (ai_b 169) 96 = .ok (.iaload, 1) := by decide +kernel
theorem d169_97 : decode (ai_b 169) 97 = .ok (.if_icmp .ne 7, 3) := by decide +kernel
theorem d169_100 : decode (ai_b 169) 100 = .ok (.iconst 1, 1) := by decide +kernel
theorem d169_101 : decode (ai_b 169) 101 = .ok (.goto 4, 3) := by decide +kernel
theorem d169_104 : decode (ai_b 169) 104 = .ok (.iconst 0, 1) := by decide +kernel
theorem d169_105 : decode (ai_b 169) 105 = .ok (.bastore, 1) := by decide +kernel
theorem d169_106 : decode (ai_b 169) 106 = .ok (.iinc 2 1, 3) := by decide +kernel
theorem d169_109 : decode (ai_b 169) 109 = .ok (.goto (-93), 3) := by decide +kernel
theorem d169_112 : decode (ai_b 169) 112 = .ok (.iinc 1 1, 3) := by decide +kernel
theorem d169_115 : decode (ai_b 169) 115 = .ok (.goto (-109), 3) := by decide +kernel
theorem d169_118 : decode (ai_b 169) 118 = .ok (.return_, 1) := by decide +kernel
theorem d170_0 : decode (ai_b 170) 0 = .ok (.aload_n 0, 1) := by decide +kernel
theorem d170_1 : decode (ai_b 170) 1 = .ok (.iload_n 2, 1) := by decide +kernel
theorem d170_2 : decode (ai_b 170) 2 = .ok (.iload_n 3, 1) := by decide +kernel
theorem d170_3 : decode (ai_b 170) 3 = .ok (.invokevirtual 144, 3) := by decide +kernel
theorem d170_6 : decode (ai_b 170) 6 = .ok (.ifCond .eq 13, 3) := by decide +kernel
theorem d170_9 : decode (ai_b 170) 9 = .ok (.aload_n 0, 1) := by decide +kernel
theorem d170_10 : decode (ai_b 170) 10 = .ok (.iload_n 1, 1) := by decide +kernel
theorem d170_11 : decode (ai_b 170) 11 = .ok (.iconst 0, 1) := by decide +kernel
theorem d170_12 : decode (ai_b 170) 12 = .ok (.iconst 2, 1) := by decide +kernel
theorem d170_13 : decode (ai_b 170) 13 = .ok (.invokevirtual 113, 3) := by decide +kernel
theorem d170_16 : decode (ai_b 170) 16 = .ok (.ifCond .ne 5, 3) := by decide +kernel
theorem d170_19 : decode (ai_b 170) 19 = .ok (.iconst 0, 1) := by decide +kernel
theorem d170_20 : decode (ai_b 170) 20 = .ok (.ireturn, 1) := by decide +kernel
theorem d170_21 : decode (ai_b 170) 21 = .ok (.aload_n 0, 1) := by decide +kernel
theorem d170_22 : decode (ai_b 170) 22 = .ok (.invokevirtual 221, 3) := by decide +kernel
theorem d170_25 : decode (ai_b 170) 25 = .ok (.iload_n 1, 1) := by decide +kernel
theorem d170_26 : decode (ai_b 170) 26 = .ok (.ifCond .ne 16, 3) := by decide +kernel
theorem d170_29 : decode (ai_b 170) 29 = .ok (.aload_n 0, 1) := by decide +kernel
theorem d170_30 : decode (ai_b 170) 30 = .ok (.getfield 110, 3) := by decide +kernel
theorem d170_33 : decode (ai_b 170) 33 = .ok (.iconst 5, 1) := by decide +kernel
theorem d170_34 : decode (ai_b 170) 34 = .ok (.iload_n 2, 1) := by decide +kernel
theorem d170_35 : decode (ai_b 170) 35 = .ok (.imul, 1) := by decide +kernel
theorem d170_36 : decode (ai_b 170) 36 = .ok (.iload_n 3, 1) := by decide +kernel
theorem d170_37 : decode (ai_b 170) 37 = .ok (.iadd, 1) := by decide +kernel
theorem d170_38 : decode (ai_b 170) 38 = .ok (.baload, 1) := by decide +kernel
theorem d170_39 : decode (ai_b 170) 39 = .ok (.goto 40, 3) := by decide +kernel
theorem d170_42 : decode (ai_b 170) 42 = .ok (.iload_n 1, 1) := by decide +kernel
theorem d170_43 : decode (ai_b 170) 43 = .ok (.iconst 1, 1) := by decide +kernel
theorem d170_44 : decode (ai_b 170) 44 = .ok (.if_icmp .ne 16, 3) := by decide +kernel
theorem d170_47 : decode (ai_b 170) 47 = .ok (.aload_n 0, 1) := by decide +kernel
theorem d170_48 : decode (ai_b 170) 48 = .ok (.getfield 107, 3) := by decide +kernel
theorem d170_51 : decode (ai_b 170) 51 = .ok (.iconst 5, 1) := by decide +kernel
theorem d170_52 : decode (ai_b 170) 52 = .ok (.iload_n 2, 1) := by decide +kernel
theorem d170_53 : decode (ai_b 170) 53 = .ok (.imul, 1) := by decide +kernel
theorem d170_54 : decode (ai_b 170) 54 = .ok (.iload_n 3, 1) := by decide +kernel
theorem d170_55 : decode (ai_b 170) 55 = .ok (.iadd, 1) := by decide +kernel
theorem d170_56 : decode (ai_b 170) 56 = .ok (.baload, 1) := by decide +kernel
theorem d170_57 : decode (ai_b 170) 57 = .ok (.goto 22, 3) := by decide +kernel
theorem d170_60 : decode (ai_b 170) 60 = .ok (.aload_n 0, 1) := by decide +kernel
theorem d170_61 : decode (ai_b 170) 61 = .ok (.getfield 45, 3) := by decide +kernel
theorem d170_64 : decode (ai_b 170) 64 = .ok (.iconst 5, 1) := by decide +kernel
theorem d170_65 : decode (ai_b 170) 65 = .ok (.iload_n 2, 1) := by decide +kernel
theorem d170_66 : decode (ai_b 170) 66 = .ok (.imul, 1) := by decide +kernel
theorem d170_67 : decode (ai_b 170) 67 = .ok (.iload_n 3, 1) := by decide +kernel
theorem d170_68 : decode (ai_b 170) 68 = .ok (.iadd, 1) := by decide +kernel
theorem d170_69 : decode (ai_b 170) 69 = .ok (.iaload, 1) := by decide +kernel
theorem d170_70 : decode (ai_b 170) 70 = .ok (.iconst (-1), 1) := by decide +kernel
theorem d170_71 : decode (ai_b 170) 71 = .ok (.if_icmp .eq 7, 3) := by decide +kernel
theorem d170_74 : decode (ai_b 170) 74 = .ok (.iconst 1, 1) := by decide +kernel
theorem d170_75 : decode (ai_b 170) 75 = .ok (.goto 4, 3) := by decide +kernel
theorem d170_78 : decode (ai_b 170) 78 = .ok (.iconst 0, 1) := by decide +kernel
theorem d170_79 : decode (ai_b 170) 79 = .ok (.ireturn, 1) := by decide +kernel
theorem d171_0 : decode (ai_b 171) 0 = .ok (.aload_n 0, 1) := by decide +kernel
theorem d171_1 : decode (ai_b 171) 1 = .ok (.iload_n 1, 1) := by decide +kernel
theorem d171_2 : decode (ai_b 171) 2 = .ok (.iload_n 2, 1) := by decide +kernel
theorem d171_3 : decode (ai_b 171) 3 = .ok (.invokevirtual 144, 3) := by decide +kernel
theorem d171_6 : decode (ai_b 171) 6 = .ok (.ifCond .ne 5, 3) := by decide +kernel
theorem d171_9 : decode (ai_b 171) 9 = .ok (.iconst (-1), 1) := by decide +kernel
theorem d171_10 : decode (ai_b 171) 10 = .ok (.ireturn, 1) := by decide +kernel
theorem d171_11 : decode (ai_b 171) 11 = .ok (.aload_n 0, 1) := by decide +kernel
theorem d171_12 : decode (ai_b 171) 12 = .ok (.invokevirtual 171, 3) := by decide +kernel
theorem d171_15 : decode (ai_b 171) 15 = .ok (.aload_n 0, 1) := by decide +kernel
theorem d171_16 : decode (ai_b 171) 16 = .ok (.iconst 5, 1) := by decide +kernel
theorem d171_17 : decode (ai_b 171) 17 = .ok (.iload_n 1, 1) := by decide +kernel
theorem d171_18 : decode (ai_b 171) 18 = .ok (.imul, 1) := by decide +kernel
theorem d171_19 : decode (ai_b 171) 19 = .ok (.iload_n 2, 1) := by decide +kernel
theorem d171_20 : decode (ai_b 171) 20 = .ok (.iadd, 1) := by decide +kernel
theorem d171_21 : decode (ai_b 171) 21 = .ok (.invokevirtual 193, 3) := by decide +kernel
theorem d171_24 : decode (ai_b 171) 24 = .ok (.ireturn, 1) := by decide +kernel
theorem d172_0 : decode (ai_b 172) 0 = .ok (.aload_n 0, 1) := by decide +kernel
theorem d172_1 : decode (ai_b 172) 1 = .ok (.iload_n 1, 1) := by decide +kernel
theorem d172_2 : decode (ai_b 172) 2 = .ok (.invokevirtual 148, 3) := by decide +kernel
theorem d172_5 : decode (ai_b 172) 5 = .ok (.ifCond .eq 32, 3) := by decide +kernel
theorem d172_8 : decode (ai_b 172) 8 = .ok (.aload_n 0, 1) := by decide +kernel
theorem d172_9 : decode (ai_b 172) 9 = .ok (.iload_n 2, 1) := by decide +kernel
theorem d172_10 : decode (ai_b 172) 10 = .ok (.iload_n 3, 1) := by decide +kernel
theorem d172_11 : decode (ai_b 172) 11 = .ok (.invokevirtual 144, 3) := by decide +kernel
theorem d172_14 : decode (ai_b 172) 14 = .ok (.ifCond .eq 23, 3) := by decide +kernel
theorem d172_17 : decode (ai_b 172) 17 = .ok (.aload_n 0, 1) := by decide +kernel
theorem d172_18 : decode (ai_b 172) 18 = .ok (.getfield 61, 3) := by decide +kernel
theorem d172_21 : decode (ai_b 172) 21 = .ok (.sipush 200, 3) := by decide +kernel
theorem d172_24 : decode (ai_b 172) 24 = .ok (.iload_n 1, 1) := by decide +kernel
theorem d172_25 : decode (ai_b 172) 25 = .ok (.imul, 1) := by decide +kernel
theorem d172_26 : decode (ai_b 172) 26 = .ok (.iconst 5, 1) := by decide +kernel
theorem d172_27 : decode (ai_b 172) 27 = .ok (.iload_n 2, 1) := by decide +kernel
theorem d172_28 : decode (ai_b 172) 28 = .ok (.imul, 1) := by decide +kernel
theorem d172_29 : decode (ai_b 172) 29 = .ok (.iadd, 1) := by decide +kernel
theorem d172_30 : decode (ai_b 172) 30 = .ok (.iload_n 3, 1) := by decide +kernel
theorem d172_31 : decode (ai_b 172) 31 = .ok (.iadd, 1) := by decide +kernel
theorem d172_32 : decode (ai_b 172) 32 = .ok (.iaload, 1) := by decide +kernel
theorem d172_33 : decode (ai_b 172) 33 = .ok (.iconst (-1), 1) := by decide +kernel
theorem d172_34 : decode (ai_b 172) 34 = .ok (.if_icmp .ne 5, 3) := by decide +kernel
theorem d172_37 : decode (ai_b 172) 37 = .ok (.iconst (-1), 1) := by decide +kernel
theorem d172_38 : decode (ai_b 172) 38 = .ok (.ireturn, 1) := by decide +kernel
theorem d172_39 : decode (ai_b 172) 39 = .ok (.aload_n 0, 1) := by decide +kernel
theorem d172_40 : decode (ai_b 172) 40 = .ok (.invokevirtual 171, 3) := by decide +kernel
theorem d172_43 : decode (ai_b 172) 43 = .ok (.sipush 200, 3) := by decide +kernel
theorem d172_46 : decode (ai_b 172) 46 = .ok (.iload_n 1, 1) := by decide +kernel
theorem d172_47 : decode (ai_b 172) 47 = .ok (.imul, 1) := by decide +kernel
theorem d172_48 : decode (ai_b 172) 48 = .ok (.iconst 5, 1) := by decide +kernel
theorem d172_49 : decode (ai_b 172) 49 = .ok (.iload_n 2, 1) := by decide +kernel
theorem d172_50 : decode (ai_b 172) 50 = .ok (.imul, 1) := by decide +kernel
theorem d172_51 : decode (ai_b 172) 51 = .ok (.iadd, 1) := by decide +kernel
theorem d172_52 : decode (ai_b 172) 52 = .ok (.iload_n 3, 1) := by decide +kernel
theorem d172_53 : decode (ai_b 172) 53 = .ok (.iadd, 1) := by decide +kernel
theorem d172_54 : decode (ai_b 172) 54 = .ok (.istore 4, 2) := by decide +kernel
theorem d172_56 : decode (ai_b 172) 56 = .ok (.aload_n 0, 1) := by decide +kernel
theorem d172_57 : decode (ai_b 172) 57 = .ok (.getfield 64, 3) := by decide +kernel
theorem d172_60 : decode (ai_b 172) 60 = .ok (.iload 4, 2) := by decide +kernel
theorem d172_62 : decode (ai_b 172) 62 = .ok (.iaload, 1) := by decide +kernel
theorem d172_63 : decode (ai_b 172) 63 = .ok (.ifCond .eq 13, 3) := by decide +kernel
theorem d172_66 : decode (ai_b 172) 66 = .ok (.aload_n 0, 1) := by decide +kernel
theorem d172_67 : decode (ai_b 172) 67 = .ok (.getfield 64, 3) := by decide +kernel
theorem d172_70 : decode (ai_b 172) 70 = .ok (.iload 4, 2) := by decide +kernel
theorem d172_72 : decode (ai_b 172) 72 = .ok (.iaload, 1) := by decide +kernel
theorem d172_73 : decode (ai_b 172) 73 = .ok (.goto 18, 3) := by decide +kernel
theorem d172_76 : decode (ai_b 172) 76 = .ok (.aload_n 0, 1) := by decide +kernel
theorem d172_77 : decode (ai_b 172) 77 = .ok (.getfield 67, 3) := by decide +kernel
theorem d172_80 : decode (ai_b 172) 80 = .ok (.iload 4, 2) := by decide +kernel
theorem d172_82 : decode (ai_b 172) 82 = .ok (.baload, 1) := by decide +kernel
theorem d172_83 : decode (ai_b 172) 83 = .ok (.ifCond .eq 7, 3) := by decide +kernel
theorem d172_86 : decode (ai_b 172) 86 = .ok (.iconst 0, 1) := by decide +kernel
theorem d172_87 : decode (ai_b 172) 87 = .ok (.goto 4, 3) := by decide +kernel
theorem d172_90 : decode (ai_b 172) 90 = .ok (.iconst 3, 1) := by decide +kernel
theorem d172_91 : decode (ai_b 172) 91 = .ok (.ireturn, 1) := by decide +kernel
theorem d173_0 : decode (ai_b 173) 0 = .ok (.aload_n 0, 1) := by decide +kernel
theorem d173_1 : decode (ai_b 173) 1 = .ok (.iload_n 1, 1) := by decide +kernel
theorem d173_2 : decode (ai_b 173) 2 = .ok (.invokevirtual 148, 3) := by decide +kernel
theorem d173_5 : decode (ai_b 173) 5 = .ok (.ifCond .ne 5, 3) := by decide +kernel
theorem d173_8 : decode (ai_b 173) 8 = .ok (.iconst (-1), 1) := by decide +kernel
theorem d173_9 : decode (ai_b 173) 9 = .ok (.ireturn, 1) := by decide +kernel
theorem d173_10 : decode (ai_b 173) 10 = .ok (.aload_n 0, 1) := by decide +kernel
theorem d173_11 : decode (ai_b 173) 11 = .ok (.invokevirtual 171, 3) := by decide +kernel
theorem d173_14 : decode (ai_b 173) 14 = .ok (.aload_n 0, 1) := by decide +kernel
theorem d173_15 : decode (ai_b 173) 15 = .ok (.getfield 70, 3) := by decide +kernel
theorem d173_18 : decode (ai_b 173) 18 = .ok (.iload_n 1, 1) := by decide +kernel
theorem d173_19 : decode (ai_b 173) 19 = .ok (.iaload, 1) := by decide +kernel
theorem d173_20 : decode (ai_b 173) 20 = .ok (.ireturn, 1) := by decide +kernel
theorem d174_0 : decode (ai_b 174) 0 = .ok (.iload_n 2, 1) := by decide +kernel
theorem d174_1 : decode (ai_b 174) 1 = .ok (.iconst 5, 1) := by decide +kernel
theorem d174_2 : decode (ai_b 174) 2 = .ok (.irem, 1) := by decide +kernel
theorem d174_3 : decode (ai_b 174) 3 = .ok (.istore_n 3, 1) := by decide +kernel
theorem d174_4 : decode (ai_b 174) 4 = .ok (.aload_n 0, 1) := by decide +kernel
theorem d174_5 : decode (ai_b 174) 5 = .ok (.getfield 36, 3) := by decide +kernel
theorem d174_8 : decode (ai_b 174) 8 = .ok (.iload_n 3, 1) := by decide +kernel
theorem d174_9 : decode (ai_b 174) 9 = .ok (.iaload, 1) := by decide +kernel
theorem d174_10 : decode (ai_b 174) 10 = .ok (.istore 4, 2) := by decide +kernel
theorem d174_12 : decode (ai_b 174) 12 = .ok (.aload_n 0, 1) := by decide +kernel
theorem d174_13 : decode (ai_b 174) 13 = .ok (.iload_n 2, 1) := by decide +kernel
theorem d174_14 : decode (ai_b 174) 14 = .ok (.invokevirtual 196, 3) := by decide +kernel
theorem d174_17 : decode (ai_b 174) 17 = .ok (.aload_n 0, 1) := by decide +kernel
theorem d174_18 : decode (ai_b 174) 18 = .ok (.iload_n 2, 1) := by decide +kernel
theorem d174_19 : decode (ai_b 174) 19 = .ok (.invokevirtual 200, 3) := by decide +kernel
theorem d174_22 : decode (ai_b 174) 22 = .ok (.istore 5, 2) := by decide +kernel
theorem d174_24 : decode (ai_b 174) 24 = .ok (.iconst 1, 1) := by decide +kernel
theorem d174_25 : decode (ai_b 174) 25 = .ok (.istore 6, 2) := by decide +kernel
theorem d174_27 : decode (ai_b 174) 27 = .ok (.iconst 0, 1) := by decide +kernel
theorem d174_28 : decode (ai_b 174) 28 = .ok (.istore 7, 2) := by decide +kernel
theorem d174_30 : decode (ai_b 174) 30 = .ok (.iload 7, 2) := by decide +kernel
theorem d174_32 : decode (ai_b 174) 32 = .ok (.iload 4, 2) := by decide +kernel
theorem d174_34 : decode (ai_b 174) 34 = .ok (.if_icmp .ge 27, 3) := by decide +kernel
theorem d174_37 : decode (ai_b 174) 37 = .ok (.iload 6, 2) := by decide +kernel
theorem d174_39 : decode (ai_b 174) 39 = .ok (.aload_n 0, 1) := by decide +kernel
theorem d174_40 : decode (ai_b 174) 40 = .ok (.getfield 89, 3) := by decide +kernel
theorem d174_43 : decode (ai_b 174) 43 = .ok (.aload_n 0, 1) := by decide +kernel
theorem d174_44 : decode (ai_b 174) 44 = .ok (.iload_n 1, 1) := by decide +kernel
theorem d174_45 : decode (ai_b 174) 45 = .ok (.iload_n 3, 1) := by decide +kernel
theorem d174_46 : decode (ai_b 174) 46 = .ok (.iload 7, 2) := by decide +kernel
theorem d174_48 : decode (ai_b 174) 48 = .ok (.invokevirtual 132, 3) := by decide +kernel
theorem d174_51 : decode (ai_b 174) 51 = .ok (.iaload, 1) := by decide +kernel
theorem d174_52 : decode (ai_b 174) 52 = .ok (.imul, 1) := by decide +kernel
theorem d174_53 : decode (ai_b 174) 53 = .ok (.istore 6, 2) := by decide +kernel
theorem d174_55 : decode (ai_b 174) 55 = .ok (.iinc 7 1, 3) := by decide +kernel
theorem d174_58 : decode (ai_b 174) 58 = .ok (.goto (-28), 3) := by decide +kernel
theorem d174_61 : decode (ai_b 174) 61 = .ok (.aload_n 0, 1) := by decide +kernel
theorem d174_62 : decode (ai_b 174) 62 = .ok (.bipush 7, 2) := by decide +kernel
theorem d174_64 : decode (ai_b 174) 64 = .ok (.iconst 0, 1) := by decide +kernel
theorem d174_65 : decode (ai_b 174) 65 = .ok (.invokevirtual 187, 3) := by decide +kernel
theorem d174_68 : decode (ai_b 174) 68 = .ok (.iconst 0, 1) := by decide +kernel
theorem d174_69 : decode (ai_b 174) 69 = .ok (.istore 7, 2) := by decide +kernel
theorem d174_71 : decode (ai_b 174) 71 = .ok (.iload 7, 2) := by decide +kernel
theorem d174_73 : decode (ai_b 174) 73 = .ok (.iload 4, 2) := by decide +kernel
theorem d174_75 : decode (ai_b 174) 75 = .ok (.if_icmp .ge 110, 3) := by decide +kernel
theorem d174_78 : decode (ai_b 174) 78 = .ok (.aload_n 0, 1) := by decide +kernel
theorem d174_79 : decode (ai_b 174) 79 = .ok (.bipush 9, 2) := by decide +kernel
theorem d174_81 : decode (ai_b 174) 81 = .ok (.iconst 0, 1) := by decide +kernel
theorem d174_82 : decode (ai_b 174) 82 = .ok (.invokevirtual 187, 3) := by decide +kernel
theorem d174_85 : decode (ai_b 174) 85 = .ok (.iconst 0, 1) := by decide +kernel
theorem d174_86 : decode (ai_b 174) 86 = .ok (.istore 8, 2) := by decide +kernel
theorem d174_88 : decode (ai_b 174) 88 = .ok (.iload 8, 2) := by decide +kernel
theorem d174_90 : decode (ai_b 174) 90 = .ok (.iload 4, 2) := by decide +kernel
theorem d174_92 : decode (ai_b 174) 92 = .ok (.if_icmp .ge 79, 3) := by decide +kernel
theorem d174_95 : decode (ai_b 174) 95 = .ok (.aload_n 0, 1) := by decide +kernel
theorem d174_96 : decode (ai_b 174) 96 = .ok (.iload 8, 2) := by decide +kernel
theorem d174_98 : decode (ai_b 174) 98 = .ok (.bipush 10, 2) := by decide +kernel
theorem d174_100 : decode (ai_b 174) 100 = .ok (.invokevirtual 177, 3) := by decide +kernel
theorem d174_103 : decode (ai_b 174) 103 = .ok (.aload_n 0, 1) := by decide +kernel
theorem d174_104 : decode (ai_b 174) 104 = .ok (.bipush 10, 2) := by decide +kernel
theorem d174_106 : decode (ai_b 174) 106 = .ok (.aload_n 0, 1) := by decide +kernel
theorem d174_107 : decode (ai_b 174) 107 = .ok (.getfield 86, 3) := by decide +kernel
theorem d174_110 : decode (ai_b 174) 110 = .ok (.aload_n 0, 1) := by decide +kernel
theorem d174_111 : decode (ai_b 174) 111 = .ok (.iload_n 1, 1) := by decide +kernel
theorem d174_112 : decode (ai_b 174) 112 = .ok (.iload_n 3, 1) := by decide +kernel
theorem d174_113 : decode (ai_b 174) 113 = .ok (.iload 7, 2) := by decide +kernel
theorem d174_115 : decode (ai_b 174) 115 = .ok (.iload 8, 2) := by decide +kernel
theorem d174_117 : decode (ai_b 174) 117 = .ok (.invokevirtual 136, 3) := by decide +kernel
theorem d174_120 : decode (ai_b 174) 120 = .ok (.iaload, 1) := by decide +kernel
theorem d174_121 : decode (ai_b 174) 121 = .ok (.invokevirtual 180, 3) := by decide +kernel
theorem d174_124 : decode (ai_b 174) 124 = .ok (.aload_n 0, 1) := by decide +kernel
theorem d174_125 : decode (ai_b 174) 125 = .ok (.bipush 10, 2) := by decide +kernel
theorem d174_127 : decode (ai_b 174) 127 = .ok (.iload 6, 2) := by decide +kernel
theorem d174_129 : decode (ai_b 174) 129 = .ok (.aload_n 0, 1) := by decide +kernel
theorem d174_130 : decode (ai_b 174) 130 = .ok (.getfield 89, 3) := by decide +kernel
theorem d174_133 : decode (ai_b 174) 133 = .ok (.aload_n 0, 1) := by decide +kernel
theorem d174_134 : decode (ai_b 174) 134 = .ok (.iload_n 1, 1) := by decide +kernel
theorem d174_135 : decode (ai_b 174) 135 = .ok (.iload_n 3, 1) := by decide +kernel
theorem d174_136 : decode (ai_b 174) 136 = .ok (.iload 8, 2) := by decide +kernel
theorem d174_138 : decode (ai_b 174) 138 = .ok (.invokevirtual 132, 3) := by decide +kernel
theorem d174_141 : decode (ai_b 174) 141 = .ok (.iaload, 1) := by decide +kernel
theorem d174_142 : decode (ai_b 174) 142 = .ok (.idiv, 1) := by decide +kernel
theorem d174_143 : decode (ai_b 174) 143 = .ok (.invokevirtual 180, 3) := by decide +kernel
theorem d174_146 : decode (ai_b 174) 146 = .ok (.aload_n 0, 1) := by decide +kernel
theorem d174_147 : decode (ai_b 174) 147 = .ok (.bipush 10, 2) := by decide +kernel
theorem d174_149 : decode (ai_b 174) 149 = .ok (.bipush 9, 2) := by decide +kernel
theorem d174_151 : decode (ai_b 174) 151 = .ok (.invokevirtual 183, 3) := by decide +kernel
theorem d174_154 : decode (ai_b 174) 154 = .ok (.ifCond .le 11, 3) := by decide +kernel
theorem d174_157 : decode (ai_b 174) 157 = .ok (.aload_n 0, 1) := by decide +kernel
theorem d174_158 : decode (ai_b 174) 158 = .ok (.bipush 10, 2) := by decide +kernel
theorem d174_160 : decode (ai_b 174) 160 = .ok (.bipush 9, 2) := by decide +kernel
theorem d174_162 : decode (ai_b 174) 162 = .ok (.invokevirtual 177, 3) := by decide +kernel
theorem d174_165 : decode (ai_b 174) 165 = .ok (.iinc 8 1, 3) := by decide +kernel
theorem d174_168 : decode (ai_b 174) 168 = .ok (.goto (-80), 3) := by decide +kernel
theorem d174_171 : decode (ai_b 174) 171 = .ok (.aload_n 0, 1) := by decide +kernel
theorem d174_172 : decode (ai_b 174) 172 = .ok (.bipush 7, 2) := by decide +kernel
theorem d174_174 : decode (ai_b 174) 174 = .ok (.bipush 9, 2) := by decide +kernel
theorem d174_176 : decode (ai_b 174) 176 = .ok (.invokevirtual 190, 3) := by decide +kernel
theorem d174_179 : decode (ai_b 174) 179 = .ok (.iinc 7 1, 3) := by decide +kernel
theorem d174_182 : decode (ai_b 174) 182 = .ok (.goto (-111), 3) := by decide +kernel
theorem d174_185 : decode (ai_b 174) 185 = .ok (.aload_n 0, 1) := by decide +kernel
theorem d174_186 : decode (ai_b 174) 186 = .ok (.iload 5, 2) := by decide +kernel
theorem d174_188 : decode (ai_b 174) 188 = .ok (.bipush 9, 2) := by decide +kernel
theorem d174_190 : decode (ai_b 174) 190 = .ok (.invokevirtual 177, 3) := by decide +kernel
theorem d174_193 : decode (ai_b 174) 193 = .ok (.aload_n 0, 1) := by decide +kernel
theorem d174_194 : decode (ai_b 174) 194 = .ok (.bipush 9, 2) := by decide +kernel
theorem d174_196 : decode (ai_b 174) 196 = .ok (.iload 6, 2) := by decide +kernel
theorem d174_198 : decode (ai_b 174) 198 = .ok (.invokevirtual 180, 3) := by decide +kernel
theorem d174_201 : decode (ai_b 174) 201 = .ok (.aload_n 0, 1) := by decide +kernel
theorem d174_202 : decode (ai_b 174) 202 = .ok (.bipush 7, 2) := by decide +kernel
theorem d174_204 : decode (ai_b 174) 204 = .ok (.bipush 9, 2) := by decide +kernel
theorem d174_206 : decode (ai_b 174) 206 = .ok (.invokevirtual 224, 3) := by decide +kernel
theorem d174_209 : decode (ai_b 174) 209 = .ok (.aload_n 0, 1) := by decide +kernel
theorem d174_210 : decode (ai_b 174) 210 = .ok (.iconst 4, 1) := by decide +kernel
theorem d174_211 : decode (ai_b 174) 211 = .ok (.bipush 8, 2) := by decide +kernel
theorem d174_213 : decode (ai_b 174) 213 = .ok (.invokevirtual 177, 3) := by decide +kernel
theorem d174_216 : decode (ai_b 174) 216 = .ok (.aload_n 0, 1) := by decide +kernel
theorem d174_217 : decode (ai_b 174) 217 = .ok (.bipush 8, 2) := by decide +kernel
theorem d174_219 : decode (ai_b 174) 219 = .ok (.iload 6, 2) := by decide +kernel
theorem d174_221 : decode (ai_b 174) 221 = .ok (.invokevirtual 180, 3) := by decide +kernel
theorem d174_224 : decode (ai_b 174) 224 = .ok (.return_, 1) := by decide +kernel
theorem d175_0 : decode (ai_b 175) 0 = .ok (.aload_n 0, 1) := by decide +kernel
theorem d175_1 : decode (ai_b 175) 1 = .ok (.iload_n 1, 1) := by decide +kernel
theorem d175_2 : decode (ai_b 175) 2 = .ok (.invokevirtual 148, 3) := by decide +kernel
theorem d175_5 : decode (ai_b 175) 5 = .ok (.ifCond .eq 12, 3) := by decide +kernel
theorem d175_8 : decode (ai_b 175) 8 = .ok (.aload_n 0, 1) := by decide +kernel
theorem d175_9 : decode (ai_b 175) 9 = .ok (.iload_n 2, 1) := by decide +kernel
theorem d175_10 : decode (ai_b 175) 10 = .ok (.iload_n 3, 1) := by decide +kernel
theorem d175_11 : decode (ai_b 175) 11 = .ok (.invokevirtual 144, 3) := by decide +kernel
theorem d175_14 : decode (ai_b 175) 14 = .ok (.ifCond .ne 5, 3) := by decide +kernel
theorem d175_17 : decode (ai_b 175) 17 = .ok (.iconst (-1), 1) := by decide +kernel
theorem d175_18 : decode (ai_b 175) 18 = .ok (.ireturn, 1) := by decide +kernel
theorem d175_19 : decode (ai_b 175) 19 = .ok (.aload_n 0, 1) := by decide +kernel
theorem d175_20 : decode (ai_b 175) 20 = .ok (.invokevirtual 171, 3) := by decide +kernel
theorem d175_23 : decode (ai_b 175) 23 = .ok (.aload_n 0, 1) := by decide +kernel
theorem d175_24 : decode (ai_b 175) 24 = .ok (.iload_n 1, 1) := by decide +kernel
theorem d175_25 : decode (ai_b 175) 25 = .ok (.iconst 5, 1) := by decide +kernel
theorem d175_26 : decode (ai_b 175) 26 = .ok (.iload_n 2, 1) := by decide +kernel
theorem d175_27 : decode (ai_b 175) 27 = .ok (.imul, 1) := by decide +kernel
theorem d175_28 : decode (ai_b 175) 28 = .ok (.iload_n 3, 1) := by decide +kernel
theorem d175_29 : decode (ai_b 175) 29 = .ok (.iadd, 1) := by decide +kernel
theorem d175_30 : decode (ai_b 175) 30 = .ok (.invokevirtual 227, 3) := by decide +kernel
theorem d175_33 : decode (ai_b 175) 33 = .ok (.aload_n 0, 1) := by decide +kernel
theorem d175_34 : decode (ai_b 175) 34 = .ok (.bipush 7, 2) := by decide +kernel
theorem d175_36 : decode (ai_b 175) 36 = .ok (.ldc 214, 2) := by decide +kernel
theorem d175_38 : decode (ai_b 175) 38 = .ok (.invokevirtual 180, 3) := by decide +kernel
theorem d175_41 : decode (ai_b 175) 41 = .ok (.aload_n 0, 1) := by decide +kernel
theorem d175_42 : decode (ai_b 175) 42 = .ok (.bipush 7, 2) := by decide +kernel
theorem d175_44 : decode (ai_b 175) 44 = .ok (.bipush 8, 2) := by decide +kernel
theorem d175_46 : decode (ai_b 175) 46 = .ok (.ldc 230, 2) := by decide +kernel
theorem d175_48 : decode (ai_b 175) 48 = .ok (.invokevirtual 215, 3) := by decide +kernel
theorem d175_51 : decode (ai_b 175) 51 = .ok (.ireturn, 1) := by decide +kernel
theorem d176_0 : decode (ai_b 176) 0 = .ok (.aload_n 0, 1) := by decide +kernel
theorem d176_1 : decode (ai_b 176) 1 = .ok (.iload_n 1, 1) := by decide +kernel
theorem d176_2 : decode (ai_b 176) 2 = .ok (.invokevirtual 148, 3) := by decide +kernel
theorem d176_5 : decode (ai_b 176) 5 = .ok (.ifCond .ne 9, 3) := by decide +kernel
theorem d176_8 : decode (ai_b 176) 8 = .ok (.aload_n 0, 1) := by decide +kernel
theorem d176_9 : decode (ai_b 176) 9 = .ok (.iconst (-1), 1) := by decide +kernel
theorem d176_10 : decode (ai_b 176) 10 = .ok (.invokevirtual 121, 3) := by decide +kernel
theorem d176_13 : decode (ai_b 176) 13 = .ok (.ireturn, 1) := by decide +kernel
theorem d176_14 : decode (ai_b 176) 14 = .ok (.aload_n 0, 1) := by decide +kernel
theorem d176_15 : decode (ai_b 176) 15 = .ok (.invokevirtual 221, 3) := by decide +kernel
theorem d176_18 : decode (ai_b 176) 18 = .ok (.iconst (-1), 1) := by decide +kernel
theorem d176_19 : decode (ai_b 176) 19 = .ok (.istore_n 2, 1) := by decide +kernel
theorem d176_20 : decode (ai_b 176) 20 = .ok (.iconst 0, 1) := by decide +kernel
theorem d176_21 : decode (ai_b 176) 21 = .ok (.istore_n 3, 1) := by decide +kernel
theorem d176_22 : decode (ai_b 176) 22 = .ok (.iload_n 3, 1) := by decide +kernel
theorem d176_23 : decode (ai_b 176) 23 = .ok (.sipush 200, 3) := by decide +kernel
theorem d176_26 : decode (ai_b 176) 26 = .ok (.if_icmp .ge 117, 3) := by decide +kernel
theorem d176_29 : decode (ai_b 176) 29 = .ok (.aload_n 0, 1) := by decide +kernel
theorem d176_30 : decode (ai_b 176) 30 = .ok (.iload_n 3, 1) := by decide +kernel
theorem d176_31 : decode (ai_b 176) 31 = .ok (.invokevirtual 162, 3) := by decide +kernel
theorem d176_34 : decode (ai_b 176) 34 = .ok (.ifCond .eq 103, 3) := by decide +kernel
theorem d176_37 : decode (ai_b 176) 37 = .ok (.aload_n 0, 1) := by decide +kernel
theorem d176_38 : decode (ai_b 176) 38 = .ok (.getfield 110, 3) := by decide +kernel
theorem d176_41 : decode (ai_b 176) 41 = .ok (.iload_n 3, 1) := by decide +kernel
theorem d176_42 : decode (ai_b 176) 42 = .ok (.baload, 1) := by decide +kernel
theorem d176_43 : decode (ai_b 176) 43 = .ok (.ifCond .eq 94, 3) := by decide +kernel
theorem d176_46 : decode (ai_b 176) 46 = .ok (.aload_n 0, 1) := by decide +kernel
theorem d176_47 : decode (ai_b 176) 47 = .ok (.getfield 107, 3) := by decide +kernel
theorem d176_50 : decode (ai_b 176) 50 = .ok (.iload_n 3, 1) := by decide +kernel
theorem d176_51 : decode (ai_b 176) 51 = .ok (.baload, 1) := by decide +kernel
theorem d176_52 : decode (ai_b 176) 52 = .ok (.ifCond .ne 85, 3) := by decide +kernel
theorem d176_55 : decode (ai_b 176) 55 = .ok (.aload_n 0, 1) := by decide +kernel
theorem d176_56 : decode (ai_b 176) 56 = .ok (.getfield 61, 3) := by decide +kernel
theorem d176_59 : decode (ai_b 176) 59 = .ok (.sipush 200, 3) := by decide +kernel
theorem d176_62 : decode (ai_b 176) 62 = .ok (.iload_n 1, 1) := by decide +kernel
theorem d176_63 : decode (ai_b 176) 63 = .ok (.imul, 1) := by decide +kernel
theorem d176_64 : decode (ai_b 176) 64 = .ok (.iload_n 3, 1) := by decide +kernel
theorem d176_65 : decode (ai_b 176) 65 = .ok (.iadd, 1) := by decide +kernel
theorem d176_66 : decode (ai_b 176) 66 = .ok (.iaload, 1) := by decide +kernel
theorem d176_67 : decode (ai_b 176) 67 = .ok (.iconst (-1), 1) := by decide +kernel
theorem d176_68 : decode (ai_b 176) 68 = .ok (.if_icmp .eq 6, 3) := by decide +kernel
theorem d176_71 : decode (ai_b 176) 71 = .ok (.goto 66, 3) := by decide +kernel
theorem d176_74 : decode (ai_b 176) 74 = .ok (.aload_n 0, 1) := by decide +kernel
theorem d176_75 : decode (ai_b 176) 75 = .ok (.iload_n 1, 1) := by decide +kernel
theorem d176_76 : decode (ai_b 176) 76 = .ok (.iload_n 3, 1) := by decide +kernel
theorem d176_77 : decode (ai_b 176) 77 = .ok (.invokevirtual 227, 3) := by decide +kernel
theorem d176_80 : decode (ai_b 176) 80 = .ok (.iload_n 2, 1) := by decide +kernel
theorem d176_81 : decode (ai_b 176) 81 = .ok (.iconst (-1), 1) := by decide +kernel
theorem d176_82 : decode (ai_b 176) 82 = .ok (.if_icmp .eq 37, 3) := by decide +kernel
theorem d176_85 : decode (ai_b 176) 85 = .ok (.aload_n 0, 1) := by decide +kernel
theorem d176_86 : decode (ai_b 176) 86 = .ok (.bipush 7, 2) := by decide +kernel
theorem d176_88 : decode (ai_b 176) 88 = .ok (.bipush 12, 2) := by decide +kernel
theorem d176_90 : decode (ai_b 176) 90 = .ok (.bipush 13, 2) := by decide +kernel
theorem d176_92 : decode (ai_b 176) 92 = .ok (.invokevirtual 231, 3) := by decide +kernel
theorem d176_95 : decode (ai_b 176) 95 = .ok (.aload_n 0, 1) := by decide +kernel
theorem d176_96 : decode (ai_b 176) 96 = .ok (.bipush 11, 2) := by decide +kernel
theorem d176_98 : decode (ai_b 176) 98 = .ok (.bipush 8, 2) := by decide +kernel
theorem d176_100 : decode (ai_b 176) 100 = .ok (.bipush 14, 2) := by decide +kernel
theorem d176_102 : decode (ai_b 176) 102 = .ok (.invokevirtual 231, 3) := by decide +kernel
theorem d176_105 : decode (ai_b 176) 105 = .ok (.aload_n 0, 1) := by decide +kernel
theorem d176_106 : decode (ai_b 176) 106 = .ok (.bipush 13, 2) := by decide +kernel
theorem d176_108 : decode (ai_b 176) 108 = .ok (.bipush 14, 2) := by decide +kernel
theorem d176_110 : decode (ai_b 176) 110 = .ok (.invokevirtual 183, 3) := by decide +kernel
theorem d176_113 : decode (ai_b 176) 113 = .ok (.ifCond .gt 6, 3) := by decide +kernel
theorem d176_116 : decode (ai_b 176) 116 = .ok (.goto 21, 3) := by decide +kernel
theorem d176_119 : decode (ai_b 176) 119 = .ok (.iload_n 3, 1) := by decide +kernel
theorem d176_120 : decode (ai_b 176) 120 = .ok (.istore_n 2, 1) := by decide +kernel
theorem d176_121 : decode (ai_b 176) 121 = .ok (.aload_n 0, 1) := by decide +kernel
theorem d176_122 : decode (ai_b 176) 122 = .ok (.bipush 7, 2) := by decide +kernel
theorem d176_124 : decode (ai_b 176) 124 = .ok (.bipush 11, 2) := by decide +kernel
theorem d176_126 : decode (ai_b 176) 126 = .ok (.invokevirtual 177, 3) := by decide +kernel
theorem d176_129 : decode (ai_b 176) 129 = .ok (.aload_n 0, 1) := by decide +kernel
theorem d176_130 : decode (ai_b 176) 130 = .ok (.bipush 8, 2) := by decide +kernel
theorem d176_132 : decode (ai_b 176) 132 = .ok (.bipush 12, 2) := by decide +kernel
theorem d176_134 : decode (ai_b 176) 134 = .ok (.invokevirtual 177, 3) := by decide +kernel
theorem d176_137 : decode (ai_b 176) 137 = .ok (.iinc 3 1, 3) := by decide +kernel
theorem d176_140 : decode (ai_b 176) 140 = .ok (.goto (-118), 3) := by decide +kernel
theorem d176_143 : decode (ai_b 176) 143 = .ok (.iload_n 2, 1) := by decide +kernel
theorem d176_144 : decode (ai_b 176) 144 = .ok (.iconst (-1), 1) := by decide +kernel
theorem d176_145 : decode (ai_b 176) 145 = .ok (.if_icmp .ne 7, 3) := by decide +kernel
theorem d176_148 : decode (ai_b 176) 148 = .ok (.iconst (-1), 1) := by decide +kernel
theorem d176_149 : decode (ai_b 176) 149 = .ok (.goto 13, 3) := by decide +kernel
theorem d176_152 : decode (ai_b 176) 152 = .ok (.bipush 10, 2) := by decide +kernel
theorem d176_154 : decode (ai_b 176) 154 = .ok (.iload_n 2, 1) := by decide +kernel
theorem d176_155 : decode (ai_b 176) 155 = .ok (.iconst 5, 1) := by decide +kernel
theorem d176_156 : decode (ai_b 176) 156 = .ok (.idiv, 1) := by decide +kernel
theorem d176_157 : decode (ai_b 176) 157 = .ok (.imul, 1) := by decide +kernel
theorem d176_158 : decode (ai_b 176) 158 = .ok (.iload_n 2, 1) := by decide +kernel
theorem d176_159 : decode (ai_b 176) 159 = .ok (.iconst 5, 1) := by decide +kernel
theorem d176_160 : decode (ai_b 176) 160 = .ok (.irem, 1) := by decide +kernel
theorem d176_161 : decode (ai_b 176) 161 = .ok (.iadd, 1) := by decide +kernel
theorem d176_162 : decode (ai_b 176) 162 = .ok (.ireturn, 1) := by decide +kernel
theorem d177_0 : decode (ai_b 177) 0 = .ok (.aload_n 0, 1) := by decide +kernel
theorem d177_1 : decode (ai_b 177) 1 = .ok (.iload_n 1, 1) := by decide +kernel
theorem d177_2 : decode (ai_b 177) 2 = .ok (.iconst 0, 1) := by decide +kernel
theorem d177_3 : decode (ai_b 177) 3 = .ok (.aload_n 0, 1) := by decide +kernel
theorem d177_4 : decode (ai_b 177) 4 = .ok (.getfield 30, 3) := by decide +kernel
theorem d177_7 : decode (ai_b 177) 7 = .ok (.iconst 1, 1) := by decide +kernel
theorem d177_8 : decode (ai_b 177) 8 = .ok (.isub, 1) := by decide +kernel
theorem d177_9 : decode (ai_b 177) 9 = .ok (.invokevirtual 113, 3) := by decide +kernel
theorem d177_12 : decode (ai_b 177) 12 = .ok (.ifCond .eq 12, 3) := by decide +kernel
theorem d177_15 : decode (ai_b 177) 15 = .ok (.aload_n 0, 1) := by decide +kernel
theorem d177_16 : decode (ai_b 177) 16 = .ok (.iload_n 1, 1) := by decide +kernel
theorem d177_17 : decode (ai_b 177) 17 = .ok (.iload_n 2, 1) := by decide +kernel
theorem d177_18 : decode (ai_b 177) 18 = .ok (.invokevirtual 211, 3) := by decide +kernel
theorem d177_21 : decode (ai_b 177) 21 = .ok (.ifCond .ne 5, 3) := by decide +kernel
theorem d177_24 : decode (ai_b 177) 24 = .ok (.iconst (-1), 1) := by decide +kernel
theorem d177_25 : decode (ai_b 177) 25 = .ok (.ireturn, 1) := by decide +kernel
theorem d177_26 : decode (ai_b 177) 26 = .ok (.aload_n 0, 1) := by decide +kernel
theorem d177_27 : decode (ai_b 177) 27 = .ok (.invokevirtual 221, 3) := by decide +kernel
theorem d177_30 : decode (ai_b 177) 30 = .ok (.aload_n 0, 1) := by decide +kernel
theorem d177_31 : decode (ai_b 177) 31 = .ok (.bipush 11, 2) := by decide +kernel
theorem d177_33 : decode (ai_b 177) 33 = .ok (.iconst 0, 1) := by decide +kernel
theorem d177_34 : decode (ai_b 177) 34 = .ok (.invokevirtual 187, 3) := by decide +kernel
theorem d177_37 : decode (ai_b 177) 37 = .ok (.aload_n 0, 1) := by decide +kernel
theorem d177_38 : decode (ai_b 177) 38 = .ok (.bipush 12, 2) := by decide +kernel
theorem d177_40 : decode (ai_b 177) 40 = .ok (.iconst 1, 1) := by decide +kernel
theorem d177_41 : decode (ai_b 177) 41 = .ok (.invokevirtual 187, 3) := by decide +kernel
theorem d177_44 : decode (ai_b 177) 44 = .ok (.iconst 0, 1) := by decide +kernel
theorem d177_45 : decode (ai_b 177) 45 = .ok (.istore_n 3, 1) := by decide +kernel
theorem d177_46 : decode (ai_b 177) 46 = .ok (.iload_n 3, 1) := by decide +kernel
theorem d177_47 : decode (ai_b 177) 47 = .ok (.aload_n 0, 1) := by decide +kernel
theorem d177_48 : decode (ai_b 177) 48 = .ok (.getfield 26, 3) := by decide +kernel
theorem d177_51 : decode (ai_b 177) 51 = .ok (.if_icmp .ge 85, 3) := by decide +kernel
theorem d177_54 : decode (ai_b 177) 54 = .ok (.aload_n 0, 1) := by decide +kernel
theorem d177_55 : decode (ai_b 177) 55 = .ok (.getfield 110, 3) := by decide +kernel
theorem d177_58 : decode (ai_b 177) 58 = .ok (.iconst 5, 1) := by decide +kernel
theorem d177_59 : decode (ai_b 177) 59 = .ok (.iload_n 3, 1) := by decide +kernel
theorem d177_60 : decode (ai_b 177) 60 = .ok (.imul, 1) := by decide +kernel
theorem d177_61 : decode (ai_b 177) 61 = .ok (.iload_n 1, 1) := by decide +kernel
theorem d177_62 : decode (ai_b 177) 62 = .ok (.iadd, 1) := by decide +kernel
theorem d177_63 : decode (ai_b 177) 63 = .ok (.baload, 1) := by decide +kernel
theorem d177_64 : decode (ai_b 177) 64 = .ok (.ifCond .ne 6, 3) := by decide +kernel
theorem d177_67 : decode (ai_b 177) 67 = .ok (.goto 63, 3) := by decide +kernel
theorem d177_70 : decode (ai_b 177) 70 = .ok (.aload_n 0, 1) := by decide +kernel
theorem d177_71 : decode (ai_b 177) 71 = .ok (.iconst 5, 1) := by decide +kernel
theorem d177_72 : decode (ai_b 177) 72 = .ok (.iload_n 3, 1) := by decide +kernel
theorem d177_73 : decode (ai_b 177) 73 = .ok (.imul, 1) := by decide +kernel
theorem d177_74 : decode (ai_b 177) 74 = .ok (.iload_n 1, 1) := by decide +kernel
theorem d177_75 : decode (ai_b 177) 75 = .ok (.iadd, 1) := by decide +kernel
theorem d177_76 : decode (ai_b 177) 76 = .ok (.invokevirtual 196, 3) := by decide +kernel
theorem d177_79 : decode (ai_b 177) 79 = .ok (.aload_n 0, 1) := by decide +kernel
theorem d177_80 : decode (ai_b 177) 80 = .ok (.bipush 11, 2) := by decide +kernel
theorem d177_82 : decode (ai_b 177) 82 = .ok (.iconst 4, 1) := by decide +kernel
theorem d177_83 : decode (ai_b 177) 83 = .ok (.bipush 13, 2) := by decide +kernel
theorem d177_85 : decode (ai_b 177) 85 = .ok (.invokevirtual 231, 3) := by decide +kernel
theorem d177_88 : decode (ai_b 177) 88 = .ok (.aload_n 0, 1) := by decide +kernel
theorem d177_89 : decode (ai_b 177) 89 = .ok (.bipush 12, 2) := by decide +kernel
theorem d177_91 : decode (ai_b 177) 91 = .ok (.iload_n 2, 1) := by decide +kernel
theorem d177_92 : decode (ai_b 177) 92 = .ok (.bipush 14, 2) := by decide +kernel
theorem d177_94 : decode (ai_b 177) 94 = .ok (.invokevirtual 231, 3) := by decide +kernel
theorem d177_97 : decode (ai_b 177) 97 = .ok (.aload_n 0, 1) := by decide +kernel
theorem d177_98 : decode (ai_b 177) 98 = .ok (.bipush 13, 2) := by decide +kernel
theorem d177_100 : decode (ai_b 177) 100 = .ok (.bipush 14, 2) := by decide +kernel
theorem d177_102 : decode (ai_b 177) 102 = .ok (.invokevirtual 190, 3) := by decide +kernel
theorem d177_105 : decode (ai_b 177) 105 = .ok (.aload_n 0, 1) := by decide +kernel
theorem d177_106 : decode (ai_b 177) 106 = .ok (.bipush 13, 2) := by decide +kernel
theorem d177_108 : decode (ai_b 177) 108 = .ok (.bipush 11, 2) := by decide +kernel
theorem d177_110 : decode (ai_b 177) 110 = .ok (.invokevirtual 177, 3) := by decide +kernel
theorem d177_113 : decode (ai_b 177) 113 = .ok (.aload_n 0, 1) := by decide +kernel
theorem d177_114 : decode (ai_b 177) 114 = .ok (.bipush 12, 2) := by decide +kernel
theorem d177_116 : decode (ai_b 177) 116 = .ok (.iconst 4, 1) := by decide +kernel
theorem d177_117 : decode (ai_b 177) 117 = .ok (.bipush 13, 2) := by decide +kernel
theorem d177_119 : decode (ai_b 177) 119 = .ok (.invokevirtual 231, 3) := by decide +kernel
theorem d177_122 : decode (ai_b 177) 122 = .ok (.aload_n 0, 1) := by decide +kernel
theorem d177_123 : decode (ai_b 177) 123 = .ok (.bipush 13, 2) := by decide +kernel
theorem d177_125 : decode (ai_b 177) 125 = .ok (.bipush 12, 2) := by decide +kernel
theorem d177_127 : decode (ai_b 177) 127 = .ok (.invokevirtual 177, 3) := by decide +kernel
theorem d177_130 : decode (ai_b 177) 130 = .ok (.iinc 3 1, 3) := by decide +kernel
theorem d177_133 : decode (ai_b 177) 133 = .ok (.goto (-87), 3) := by decide +kernel
theorem d177_136 : decode (ai_b 177) 136 = .ok (.aload_n 0, 1) := by decide +kernel
theorem d177_137 : decode (ai_b 177) 137 = .ok (.bipush 11, 2) := by decide +kernel
theorem d177_139 : decode (ai_b 177) 139 = .ok (.sipush 1000, 3) := by decide +kernel
theorem d177_142 : decode (ai_b 177) 142 = .ok (.invokevirtual 180, 3) := by decide +kernel
theorem d177_145 : decode (ai_b 177) 145 = .ok (.aload_n 0, 1) := by decide +kernel
theorem d177_146 : decode (ai_b 177) 146 = .ok (.bipush 11, 2) := by decide +kernel
theorem d177_148 : decode (ai_b 177) 148 = .ok (.bipush 12, 2) := by decide +kernel
theorem d177_150 : decode (ai_b 177) 150 = .ok (.ldc 235, 2) := by decide +kernel
theorem d177_152 : decode (ai_b 177) 152 = .ok (.invokevirtual 215, 3) := by decide +kernel
theorem d177_155 : decode (ai_b 177) 155 = .ok (.ireturn, 1) := by decide +kernel
theorem d178_0 : decode (ai_b 178) 0 = .ok (.aload_n 0, 1) := by decide +kernel
theorem d178_1 : decode (ai_b 178) 1 = .ok (.invokevirtual 171, 3) := by decide +kernel
theorem d178_4 : decode (ai_b 178) 4 = .ok (.iconst 0, 1) := by decide +kernel
theorem d178_5 : decode (ai_b 178) 5 = .ok (.istore_n 2, 1) := by decide +kernel
theorem d178_6 : decode (ai_b 178) 6 = .ok (.iload_n 1, 1) := by decide +kernel
theorem d178_7 : decode (ai_b 178) 7 = .ok (.tableswitch 369 0 18 #[89, 94, 99, 104, 139, 139, 196, 251, 251, 354, 359, 369, 369, 369, 369, 369, 369, 369, 364], 89) := by decide +kernel
theorem d178_96 : decode (ai_b 178) 96 = .ok (.aload_n 0, 1) := by decide +kernel
theorem d178_97 : decode (ai_b 178) 97 = .ok (.getfield 26, 3) := by decide +kernel
theorem d178_100 : decode (ai_b 178) 100 = .ok (.ireturn, 1) := by decide +kernel
theorem d178_101 : decode (ai_b 178) 101 = .ok (.aload_n 0, 1) := by decide +kernel
theorem d178_102 : decode (ai_b 178) 102 = .ok (.getfield 30, 3) := by decide +kernel
theorem d178_105 : decode (ai_b 178) 105 = .ok (.ireturn, 1) := by decide +kernel
theorem d178_106 : decode (ai_b 178) 106 = .ok (.aload_n 0, 1) := by decide +kernel
theorem d178_107 : decode (ai_b 178) 107 = .ok (.getfield 33, 3) := by decide +kernel
theorem d178_110 : decode (ai_b 178) 110 = .ok (.ireturn, 1) := by decide +kernel
theorem d178_111 : decode (ai_b 178) 111 = .ok (.iconst 0, 1) := by decide +kernel
theorem d178_112 : decode (ai_b 178) 112 = .ok (.istore_n 3, 1) := by decide +kernel
theorem d178_113 : decode (ai_b 178) 113 = .ok (.iload_n 3, 1) := by decide +kernel
theorem d178_114 : decode (ai_b 178) 114 = .ok (.aload_n 0, 1) := by decide +kernel
theorem d178_115 : decode (ai_b 178) 115 = .ok (.getfield 33, 3) := by decide +kernel
theorem d178_118 : decode (ai_b 178) 118 = .ok (.if_icmp .ge 26, 3) := by decide +kernel
theorem d178_121 : decode (ai_b 178) 121 = .ok (.iload_n 2, 1) := by decide +kernel
theorem d178_122 : decode (ai_b 178) 122 = .ok (.aload_n 0, 1) := by decide +kernel
theorem d178_123 : decode (ai_b 178) 123 = .ok (.getfield 51, 3) := by decide +kernel
theorem d178_126 : decode (ai_b 178) 126 = .ok (.iload_n 3, 1) := by decide +kernel
theorem d178_127 : decode (ai_b 178) 127 = .ok (.baload, 1) := by decide +kernel
theorem d178_128 : decode (ai_b 178) 128 = .ok (.ifCond .eq 7, 3) := by decide +kernel
theorem d178_131 : decode (ai_b 178) 131 = .ok (.iconst 1, 1) := by decide +kernel
theorem d178_132 : decode (ai_b 178) 132 = .ok (.goto 4, 3) := by decide +kernel
theorem d178_135 : decode (ai_b 178) 135 = .ok (.iconst 0, 1) := by decide +kernel
theorem d178_136 : decode (ai_b 178) 136 = .ok (.iadd, 1) := by decide +kernel
theorem d178_137 : decode (ai_b 178) 137 = .ok (.istore_n 2, 1) := by decide +kernel
theorem d178_138 : decode (ai_b 178) 138 = .ok (.iinc 3 1, 3) := by decide +kernel
theorem d178_141 : decode (ai_b 178) 141 = .ok (.goto (-28), 3) := by decide +kernel
theorem d178_144 : decode (ai_b 178) 144 = .ok (.iload_n 2, 1) := by decide +kernel
theorem d178_145 : decode (ai_b 178) 145 = .ok (.ireturn, 1) := by decide +kernel
theorem d178_146 : decode (ai_b 178) 146 = .ok (.iconst 0, 1) := by decide +kernel
theorem d178_147 : decode (ai_b 178) 147 = .ok (.istore_n 3, 1) := by decide +kernel
theorem d178_148 : decode (ai_b 178) 148 = .ok (.iload_n 3, 1) := by decide +kernel
theorem d178_149 : decode (ai_b 178) 149 = .ok (.sipush 200, 3) := by decide +kernel
theorem d178_152 : decode (ai_b 178) 152 = .ok (.if_icmp .ge 49, 3) := by decide +kernel
theorem d178_155 : decode (ai_b 178) 155 = .ok (.iload_n 2, 1) := by decide +kernel
theorem d178_156 : decode (ai_b 178) 156 = .ok (.aload_n 0, 1) := by decide +kernel
theorem d178_157 : decode (ai_b 178) 157 = .ok (.iload_n 3, 1) := by decide +kernel
theorem d178_158 : decode (ai_b 178) 158 = .ok (.invokevirtual 162, 3) := by decide +kernel
theorem d178_161 : decode (ai_b 178) 161 = .ok (.ifCond .eq 31, 3) := by decide +kernel
theorem d178_164 : decode (ai_b 178) 164 = .ok (.iload_n 1, 1) := by decide +kernel
theorem d178_165 : decode (ai_b 178) 165 = .ok (.iconst 4, 1) := by decide +kernel
theorem d178_166 : decode (ai_b 178) 166 = .ok (.if_icmp .ne 12, 3) := by decide +kernel
theorem d178_169 : decode (ai_b 178) 169 = .ok (.aload_n 0, 1) := by decide +kernel
theorem d178_170 : decode (ai_b 178) 170 = .ok (.getfield 45, 3) := by decide +kernel
theorem d178_173 : decode (ai_b 178) 173 = .ok (.iload_n 3, 1) := by decide +kernel
theorem d178_174 : decode (ai_b 178) 174 = .ok (.iaload, 1) := by decide +kernel
theorem d178_175 : decode (ai_b 178) 175 = .ok (.goto 9, 3) := by decide +kernel
theorem d178_178 : decode (ai_b 178) 178 = .ok (.aload_n 0, 1) := by decide +kernel
theorem d178_179 : decode (ai_b 178) 179 = .ok (.getfield 48, 3) := by decide +kernel
theorem d178_182 : decode (ai_b 178) 182 = .ok (.iload_n 3, 1) := by decide +kernel
theorem d178_183 : decode (ai_b 178) 183 = .ok (.iaload, 1) := by decide +kernel
theorem d178_184 : decode (ai_b 178) 184 = .ok (.iconst (-1), 1) := by decide +kernel
theorem d178_185 : decode (ai_b 178) 185 = .ok (.if_icmp .eq 7, 3) := by decide +kernel
theorem d178_188 : decode (ai_b 178) 188 = .ok (.iconst 1, 1) := by decide +kernel
theorem d178_189 : decode (ai_b 178) 189 = .ok (.goto 4, 3) := by decide +kernel
theorem d178_192 : decode (ai_b 178) 192 = .ok (.iconst 0, 1) := by decide +kernel
theorem d178_193 : decode (ai_b 178) 193 = .ok (.iadd, 1) := by decide +kernel
theorem d178_194 : decode (ai_b 178) 194 = .ok (.istore_n 2, 1) := by decide +kernel
theorem d178_195 : decode (ai_b 178) 195 = .ok (.iinc 3 1, 3) := by decide +kernel
theorem d178_198 : decode (ai_b 178) 198 = .ok (.goto (-50), 3) := by decide +kernel
theorem d178_201 : decode (ai_b 178) 201 = .ok (.iload_n 2, 1) := by decide +kernel
theorem d178_202 : decode (ai_b 178) 202 = .ok (.ireturn, 1) := by decide +kernel
theorem d178_203 : decode (ai_b 178) 203 = .ok (.aload_n 0, 1) := by decide +kernel
theorem d178_204 : decode (ai_b 178) 204 = .ok (.invokevirtual 221, 3) := by decide +kernel
theorem d178_207 : decode (ai_b 178) 207 = .ok (.iconst 0, 1) := by decide +kernel
theorem d178_208 : decode (ai_b 178) 208 = .ok (.istore_n 3, 1) := by decide +kernel
theorem d178_209 : decode (ai_b 178) 209 = .ok (.iload_n 3, 1) := by decide +kernel
theorem d178_210 : decode (ai_b 178) 210 = .ok (.sipush 200, 3) := by decide +kernel
theorem d178_213 : decode (ai_b 178) 213 = .ok (.if_icmp .ge 43, 3) := by decide +kernel
theorem d178_216 : decode (ai_b 178) 216 = .ok (.iload_n 2, 1) := by decide +kernel
theorem d178_217 : decode (ai_b 178) 217 = .ok (.aload_n 0, 1) := by decide +kernel
theorem d178_218 : decode (ai_b 178) 218 = .ok (.iload_n 3, 1) := by decide +kernel
theorem d178_219 : decode (ai_b 178) 219 = .ok (.invokevirtual 162, 3) := by decide +kernel
theorem d178_222 : decode (ai_b 178) 222 = .ok (.ifCond .eq 25, 3) := by decide +kernel
theorem d178_225 : decode (ai_b 178) 225 = .ok (.aload_n 0, 1) := by decide +kernel
theorem d178_226 : decode (ai_b 178) 226 = .ok (.getfield 110, 3) := by decide +kernel
theorem d178_229 : decode (ai_b 178) 229 = .ok (.iload_n 3, 1) := by decide +kernel
theorem d178_230 : decode (ai_b 178) 230 = .ok (.baload, 1) := by decide +kernel
theorem d178_231 : decode (ai_b 178) 231 = .ok (.ifCond .eq 16, 3) := by decide +kernel
theorem d178_234 : decode (ai_b 178) 234 = .ok (.aload_n 0, 1) := by decide +kernel
theorem d178_235 : decode (ai_b 178) 235 = .ok (.getfield 107, 3) := by decide +kernel
theorem d178_238 : decode (ai_b 178) 238 = .ok (.iload_n 3, 1) := by decide +kernel
theorem d178_239 : decode (ai_b 178) 239 = .ok (.baload, 1) := by decide +kernel
theorem d178_240 : decode (ai_b 178) 240 = .ok (.ifCond .eq 7, 3) := by decide +kernel
theorem d178_243 : decode (ai_b 178) 243 = .ok (.iconst 1, 1) := by decide +kernel
theorem d178_244 : decode (ai_b 178) 244 = .ok (.goto 4, 3) := by decide +kernel
theorem d178_247 : decode (ai_b 178) 247 = .ok (.iconst 0, 1) := by decide +kernel
theorem d178_248 : decode (ai_b 178) 248 = .ok (.iadd, 1) := by decide +kernel
theorem d178_249 : decode (ai_b 178) 249 = .ok (.istore_n 2, 1) := by decide +kernel
theorem d178_250 : decode (ai_b 178) 250 = .ok (.iinc 3 1, 3) := by decide +kernel
theorem d178_253 : decode (ai_b 178) 253 = .ok (.goto (-44), 3) := by decide +kernel
theorem d178_256 : decode (ai_b 178) 256 = .ok (.iload_n 2, 1) := by decide +kernel
theorem d178_257 : decode (ai_b 178) 257 = .ok (.ireturn, 1) := by decide +kernel
theorem d178_258 : decode (ai_b 178) 258 = .ok (.iconst 0, 1) := by decide +kernel
theorem d178_259 : decode (ai_b 178) 259 = .ok (.istore_n 3, 1) := by decide +kernel
theorem d178_260 : decode (ai_b 178) 260 = .ok (.iload_n 3, 1) := by decide +kernel
theorem d178_261 : decode (ai_b 178) 261 = .ok (.aload_n 0, 1) := by decide +kernel
theorem d178_262 : decode (ai_b 178) 262 = .ok (.getfield 33, 3) := by decide +kernel
theorem d178_265 : decode (ai_b 178) 265 = .ok (.if_icmp .ge 94, 3) := by decide +kernel
theorem d178_268 : decode (ai_b 178) 268 = .ok (.iconst 0, 1) := by decide +kernel
theorem d178_269 : decode (ai_b 178) 269 = .ok (.istore 4, 2) := by decide +kernel
theorem d178_271 : decode (ai_b 178) 271 = .ok (.iload 4, 2) := by decide +kernel
theorem d178_273 : decode (ai_b 178) 273 = .ok (.sipush 200, 3) := by decide +kernel
theorem d178_276 : decode (ai_b 178) 276 = .ok (.if_icmp .ge 77, 3) := by decide +kernel
theorem d178_279 : decode (ai_b 178) 279 = .ok (.iload_n 2, 1) := by decide +kernel
theorem d178_280 : decode (ai_b 178) 280 = .ok (.aload_n 0, 1) := by decide +kernel
theorem d178_281 : decode (ai_b 178) 281 = .ok (.getfield 51, 3) := by decide +kernel
theorem d178_284 : decode (ai_b 178) 284 = .ok (.iload_n 3, 1) := by decide +kernel
theorem d178_285 : decode (ai_b 178) 285 = .ok (.baload, 1) := by decide +kernel
theorem d178_286 : decode (ai_b 178) 286 = .ok (.ifCond .ne 58, 3) := by decide +kernel
theorem d178_289 : decode (ai_b 178) 289 = .ok (.aload_n 0, 1) := by decide +kernel
theorem d178_290 : decode (ai_b 178) 290 = .ok (.iload 4, 2) := by decide +kernel
theorem d178_292 : decode (ai_b 178) 292 = .ok (.invokevirtual 162, 3) := by decide +kernel
theorem d178_295 : decode (ai_b 178) 295 = .ok (.ifCond .eq 49, 3) := by decide +kernel
theorem d178_298 : decode (ai_b 178) 298 = .ok (.iload_n 1, 1) := by decide +kernel
theorem d178_299 : decode (ai_b 178) 299 = .ok (.bipush 8, 2) := by decide +kernel
theorem d178_301 : decode (ai_b 178) 301 = .ok (.if_icmp .ne 22, 3) := by decide +kernel
theorem d178_304 : decode (ai_b 178) 304 = .ok (.aload_n 0, 1) := by decide +kernel
theorem d178_305 : decode (ai_b 178) 305 = .ok (.getfield 67, 3) := by decide +kernel
theorem d178_308 : decode (ai_b 178) 308 = .ok (.sipush 200, 3) := by decide +kernel
theorem d178_311 : decode (ai_b 178) 311 = .ok (.iload_n 3, 1) := by decide +kernel
theorem d178_312 : decode (ai_b 178) 312 = .ok (.imul, 1) := by decide +kernel
theorem d178_313 : decode (ai_b 178) 313 = .ok (.iload 4, 2) := by decide +kernel
theorem d178_315 : decode (ai_b 178) 315 = .ok (.iadd, 1) := by decide +kernel
theorem d178_316 : decode (ai_b 178) 316 = .ok (.baload, 1) := by decide +kernel
theorem d178_317 : decode (ai_b 178) 317 = .ok (.ifCond .eq 27, 3) := by decide +kernel
theorem d178_320 : decode (ai_b 178) 320 = .ok (.goto 20, 3) := by decide +kernel
theorem d178_323 : decode (ai_b 178) 323 = .ok (.aload_n 0, 1) := by decide +kernel
theorem d178_324 : decode (ai_b 178) 324 = .ok (.getfield 61, 3) := by decide +kernel
theorem d178_327 : decode (ai_b 178) 327 = .ok (.sipush 200, 3) := by decide +kernel
theorem d178_330 : decode (ai_b 178) 330 = .ok (.iload_n 3, 1) := by decide +kernel
theorem d178_331 : decode (ai_b 178) 331 = .ok (.imul, 1) := by decide +kernel
theorem d178_332 : decode (ai_b 178) 332 = .ok (.iload 4, 2) := by decide +kernel
theorem d178_334 : decode (ai_b 178) 334 = .ok (.iadd, 1) := by decide +kernel
theorem d178_335 : decode (ai_b 178) 335 = .ok (.iaload, 1) := by decide +kernel
theorem d178_336 : decode (ai_b 178) 336 = .ok (.iconst (-1), 1) := by decide +kernel
theorem d178_337 : decode (ai_b 178) 337 = .ok (.if_icmp .eq 7, 3) := by decide +kernel
theorem d178_340 : decode (ai_b 178) 340 = .ok (.iconst 1, 1) := by decide +kernel
theorem d178_341 : decode (ai_b 178) 341 = .ok (.goto 4, 3) := by decide +kernel
theorem d178_344 : decode (ai_b 178) 344 = .ok (.iconst 0, 1) := by decide +kernel
theorem d178_345 : decode (ai_b 178) 345 = .ok (.iadd, 1) := by decide +kernel
theorem d178_346 : decode (ai_b 178) 346 = .ok (.istore_n 2, 1) := by decide +kernel
theorem d178_347 : decode (ai_b 178) 347 = .ok (.iinc 4 1, 3) := by decide +kernel
theorem d178_350 : decode (ai_b 178) 350 = .ok (.goto (-79), 3) := by decide +kernel
theorem d178_353 : decode (ai_b 178) 353 = .ok (.iinc 3 1, 3) := by decide +kernel
theorem d178_356 : decode (ai_b 178) 356 = .ok (.goto (-96), 3) := by decide +kernel
theorem d178_359 : decode (ai_b 178) 359 = .ok (.iload_n 2, 1) := by decide +kernel
theorem d178_360 : decode (ai_b 178) 360 = .ok (.ireturn, 1) := by decide +kernel
theorem d178_361 : decode (ai_b 178) 361 = .ok (.aload_n 0, 1) := by decide +kernel
theorem d178_362 : decode (ai_b 178) 362 = .ok (.getfield 77, 3) := by decide +kernel
theorem d178_365 : decode (ai_b 178) 365 = .ok (.ireturn, 1) := by decide +kernel
theorem d178_366 : decode (ai_b 178) 366 = .ok (.aload_n 0, 1) := by decide +kernel
theorem d178_367 : decode (ai_b 178) 367 = .ok (.getfield 80, 3) := by decide +kernel
theorem d178_370 : decode (ai_b 178) 370 = .ok (.ireturn, 1) := by decide +kernel
theorem d178_371 : decode (ai_b 178) 371 = .ok (.aload_n 0, 1) := by decide +kernel
theorem d178_372 : decode (ai_b 178) 372 = .ok (.getfield 83, 3) := by decide +kernel
theorem d178_375 : decode (ai_b 178) 375 = .ok (.ireturn, 1) := by decide +kernel
theorem d178_376 : decode (ai_b 178) 376 = .ok (.aload_n 0, 1) := by decide +kernel
theorem d178_377 : decode (ai_b 178) 377 = .ok (.iload_n 1, 1) := by decide +kernel
theorem d178_378 : decode (ai_b 178) 378 = .ok (.bipush 11, 2) := by decide +kernel
theorem d178_380 : decode (ai_b 178) 380 = .ok (.bipush 17, 2) := by decide +kernel
theorem d178_382 : decode (ai_b 178) 382 = .ok (.invokevirtual 113, 3) := by decide +kernel
theorem d178_385 : decode (ai_b 178) 385 = .ok (.ifCond .eq 15, 3) := by decide +kernel
theorem d178_388 : decode (ai_b 178) 388 = .ok (.aload_n 0, 1) := by decide +kernel
theorem d178_389 : decode (ai_b 178) 389 = .ok (.getfield 7, 3) := by decide +kernel
theorem d178_392 : decode (ai_b 178) 392 = .ok (.iload_n 1, 1) := by decide +kernel
theorem d178_393 : decode (ai_b 178) 393 = .ok (.bipush 10, 2) := by decide +kernel
theorem d178_395 : decode (ai_b 178) 395 = .ok (.isub, 1) := by decide +kernel
theorem d178_396 : decode (ai_b 178) 396 = .ok (.iaload, 1) := by decide +kernel
theorem d178_397 : decode (ai_b 178) 397 = .ok (.goto 4, 3) := by decide +kernel
theorem d178_400 : decode (ai_b 178) 400 = .ok (.iconst (-1), 1) := by decide +kernel
theorem d178_401 : decode (ai_b 178) 401 = .ok (.ireturn, 1) := by decide +kernel
