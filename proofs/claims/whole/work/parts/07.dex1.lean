theorem dX0_init_0 : decode cX0_init 0 = .ok (.aload_n 0, 1) := by decide +kernel
theorem dX0_init_1 : decode cX0_init 1 = .ok (.invokespecial 3, 3) := by decide +kernel
theorem dX0_init_4 : decode cX0_init 4 = .ok (.aload_n 0, 1) := by decide +kernel
theorem dX0_init_5 : decode cX0_init 5 = .ok (.bipush 61, 2) := by decide +kernel
theorem dX0_init_7 : decode cX0_init 7 = .ok (.newarray .int, 2) := by decide +kernel
theorem dX0_init_9 : decode cX0_init 9 = .ok (.putfield 9, 3) := by decide +kernel
theorem dX0_init_12 : decode cX0_init 12 = .ok (.return_, 1) := by decide +kernel
theorem dX0_translate_0 : decode cX0_translate 0 = .ok (.aload_n 3, 1) := by decide +kernel
theorem dX0_translate_1 : decode cX0_translate 1 = .ok (.iconst 0, 1) := by decide +kernel
theorem dX0_translate_2 : decode cX0_translate 2 = .ok (.putfield 15, 3) := by decide +kernel
theorem dX0_translate_5 : decode cX0_translate 5 = .ok (.iconst 0, 1) := by decide +kernel
theorem dX0_translate_6 : decode cX0_translate 6 = .ok (.istore 4, 2) := by decide +kernel
theorem dX0_translate_8 : decode cX0_translate 8 = .ok (.iload 4, 2) := by decide +kernel
theorem dX0_translate_10 : decode cX0_translate 10 = .ok (.aload_n 1, 1) := by decide +kernel
theorem dX0_translate_11 : decode cX0_translate 11 = .ok (.getfield 21, 3) := by decide +kernel
theorem dX0_translate_14 : decode cX0_translate 14 = .ok (.getfield 15, 3) := by decide +kernel
theorem dX0_translate_17 : decode cX0_translate 17 = .ok (.if_icmp .ge 38, 3) := by decide +kernel
theorem dX0_translate_20 : decode cX0_translate 20 = .ok (.aload_n 0, 1) := by decide +kernel
theorem dX0_translate_21 : decode cX0_translate 21 = .ok (.getfield 9, 3) := by decide +kernel
theorem dX0_translate_24 : decode cX0_translate 24 = .ok (.iload 4, 2) := by decide +kernel
theorem dX0_translate_26 : decode cX0_translate 26 = .ok (.aload_n 3, 1) := by decide +kernel
theorem dX0_translate_27 : decode cX0_translate 27 = .ok (.getfield 15, 3) := by decide +kernel
theorem dX0_translate_30 : decode cX0_translate 30 = .ok (.iastore, 1) := by decide +kernel
theorem dX0_translate_31 : decode cX0_translate 31 = .ok (.aload_n 1, 1) := by decide +kernel
theorem dX0_translate_32 : decode cX0_translate 32 = .ok (.aload_n 2, 1) := by decide +kernel
theorem dX0_translate_33 : decode cX0_translate 33 = .ok (.iload 4, 2) := by decide +kernel
theorem dX0_translate_35 : decode cX0_translate 35 = .ok (.invokestatic 27, 3) := by decide +kernel
theorem dX0_translate_38 : decode cX0_translate 38 = .ok (.ifCond .ne 11, 3) := by decide +kernel
theorem dX0_translate_41 : decode cX0_translate 41 = .ok (.aload_n 1, 1) := by decide +kernel
theorem dX0_translate_42 : decode cX0_translate 42 = .ok (.aload_n 2, 1) := by decide +kernel
theorem dX0_translate_43 : decode cX0_translate 43 = .ok (.aload_n 3, 1) := by decide +kernel
theorem dX0_translate_44 : decode cX0_translate 44 = .ok (.iload 4, 2) := by decide +kernel
theorem dX0_translate_46 : decode cX0_translate 46 = .ok (.invokestatic 31, 3) := by decide +kernel
theorem dX0_translate_49 : decode cX0_translate 49 = .ok (.iinc 4 1, 3) := by decide +kernel
theorem dX0_translate_52 : decode cX0_translate 52 = .ok (.goto (-44), 3) := by decide +kernel
theorem dX0_translate_55 : decode cX0_translate 55 = .ok (.aload_n 1, 1) := by decide +kernel
theorem dX0_translate_56 : decode cX0_translate 56 = .ok (.getfield 21, 3) := by decide +kernel
theorem dX0_translate_59 : decode cX0_translate 59 = .ok (.getfield 15, 3) := by decide +kernel
theorem dX0_translate_62 : decode cX0_translate 62 = .ok (.istore 4, 2) := by decide +kernel
theorem dX0_translate_64 : decode cX0_translate 64 = .ok (.iload 4, 2) := by decide +kernel
theorem dX0_translate_66 : decode cX0_translate 66 = .ok (.bipush 60, 2) := by decide +kernel
theorem dX0_translate_68 : decode cX0_translate 68 = .ok (.if_icmp .gt 20, 3) := by decide +kernel
theorem dX0_translate_71 : decode cX0_translate 71 = .ok (.aload_n 0, 1) := by decide +kernel
theorem dX0_translate_72 : decode cX0_translate 72 = .ok (.getfield 9, 3) := by decide +kernel
theorem dX0_translate_75 : decode cX0_translate 75 = .ok (.iload 4, 2) := by decide +kernel
theorem dX0_translate_77 : decode cX0_translate 77 = .ok (.aload_n 3, 1) := by decide +kernel
theorem dX0_translate_78 : decode cX0_translate 78 = .ok (.getfield 15, 3) := by decide +kernel
theorem dX0_translate_81 : decode cX0_translate 81 = .ok (.iastore, 1) := by decide +kernel
theorem dX0_translate_82 : decode cX0_translate 82 = .ok (.iinc 4 1, 3) := by decide +kernel
theorem dX0_translate_85 : decode cX0_translate 85 = .ok (.goto (-21), 3) := by decide +kernel
theorem dX0_translate_88 : decode cX0_translate 88 = .ok (.iconst 0, 1) := by decide +kernel
theorem dX0_translate_89 : decode cX0_translate 89 = .ok (.istore 4, 2) := by decide +kernel
theorem dX0_translate_91 : decode cX0_translate 91 = .ok (.iload 4, 2) := by decide +kernel
theorem dX0_translate_93 : decode cX0_translate 93 = .ok (.aload_n 3, 1) := by decide +kernel
theorem dX0_translate_94 : decode cX0_translate 94 = .ok (.getfield 15, 3) := by decide +kernel
theorem dX0_translate_97 : decode cX0_translate 97 = .ok (.if_icmp .ge 36, 3) := by decide +kernel
theorem dX0_translate_100 : decode cX0_translate 100 = .ok (.aload_n 3, 1) := by decide +kernel
theorem dX0_translate_101 : decode cX0_translate 101 = .ok (.iload 4, 2) := by decide +kernel
theorem dX0_translate_103 : decode cX0_translate 103 = .ok (.invokevirtual 35, 3) := by decide +kernel
theorem dX0_translate_106 : decode cX0_translate 106 = .ok (.iconst (-1), 1) := by decide +kernel
theorem dX0_translate_107 : decode cX0_translate 107 = .ok (.if_icmp .eq 20, 3) := by decide +kernel
theorem dX0_translate_110 : decode cX0_translate 110 = .ok (.aload_n 3, 1) := by decide +kernel
theorem dX0_translate_111 : decode cX0_translate 111 = .ok (.iload 4, 2) := by decide +kernel
theorem dX0_translate_113 : decode cX0_translate 113 = .ok (.aload_n 0, 1) := by decide +kernel
theorem dX0_translate_114 : decode cX0_translate 114 = .ok (.getfield 9, 3) := by decide +kernel
theorem dX0_translate_117 : decode cX0_translate 117 = .ok (.aload_n 3, 1) := by decide +kernel
theorem dX0_translate_118 : decode cX0_translate 118 = .ok (.iload 4, 2) := by decide +kernel
theorem dX0_translate_120 : decode cX0_translate 120 = .ok (.invokevirtual 35, 3) := by decide +kernel
theorem dX0_translate_123 : decode cX0_translate 123 = .ok (.iaload, 1) := by decide +kernel
theorem dX0_translate_124 : decode cX0_translate 124 = .ok (.invokevirtual 39, 3) := by decide +kernel
theorem dX0_translate_127 : decode cX0_translate 127 = .ok (.iinc 4 1, 3) := by decide +kernel
theorem dX0_translate_130 : decode cX0_translate 130 = .ok (.goto (-39), 3) := by decide +kernel
theorem dX0_translate_133 : decode cX0_translate 133 = .ok (.return_, 1) := by decide +kernel
theorem dX0_isNeedless_0 : decode cX0_isNeedless 0 = .ok (.aload_n 0, 1) := by decide +kernel
theorem dX0_isNeedless_1 : decode cX0_isNeedless 1 = .ok (.getfield 21, 3) := by decide +kernel
theorem dX0_isNeedless_4 : decode cX0_isNeedless 4 = .ok (.getfield 43, 3) := by decide +kernel
theorem dX0_isNeedless_7 : decode cX0_isNeedless 7 = .ok (.iload_n 2, 1) := by decide +kernel
theorem dX0_isNeedless_8 : decode cX0_isNeedless 8 = .ok (.iaload, 1) := by decide +kernel
theorem dX0_isNeedless_9 : decode cX0_isNeedless 9 = .ok (.istore_n 3, 1) := by decide +kernel
theorem dX0_isNeedless_10 : decode cX0_isNeedless 10 = .ok (.aload_n 0, 1) := by decide +kernel
theorem dX0_isNeedless_11 : decode cX0_isNeedless 11 = .ok (.getfield 21, 3) := by decide +kernel
theorem dX0_isNeedless_14 : decode cX0_isNeedless 14 = .ok (.getfield 46, 3) := by decide +kernel
theorem dX0_isNeedless_17 : decode cX0_isNeedless 17 = .ok (.iload_n 2, 1) := by decide +kernel
theorem dX0_isNeedless_18 : decode cX0_isNeedless 18 = .ok (.iaload, 1) := by decide +kernel
theorem dX0_isNeedless_19 : decode cX0_isNeedless 19 = .ok (.istore 4, 2) := by decide +kernel
theorem dX0_isNeedless_21 : decode cX0_isNeedless 21 = .ok (.aload_n 0, 1) := by decide +kernel
theorem dX0_isNeedless_22 : decode cX0_isNeedless 22 = .ok (.getfield 21, 3) := by decide +kernel
theorem dX0_isNeedless_25 : decode cX0_isNeedless 25 = .ok (.getfield 49, 3) := by decide +kernel
theorem dX0_isNeedless_28 : decode cX0_isNeedless 28 = .ok (.iload_n 2, 1) := by decide +kernel
theorem dX0_isNeedless_29 : decode cX0_isNeedless 29 = .ok (.iaload, 1) := by decide +kernel
theorem dX0_isNeedless_30 : decode cX0_isNeedless 30 = .ok (.iconst 1, 1) := by decide +kernel
theorem dX0_isNeedless_31 : decode cX0_isNeedless 31 = .ok (.if_icmp .ne 39, 3) := by decide +kernel
theorem dX0_isNeedless_34 : decode cX0_isNeedless 34 = .ok (.aload_n 1, 1) := by decide +kernel
theorem dX0_isNeedless_35 : decode cX0_isNeedless 35 = .ok (.getfield 52, 3) := by decide +kernel
theorem dX0_isNeedless_38 : decode cX0_isNeedless 38 = .ok (.iload_n 3, 1) := by decide +kernel
theorem dX0_isNeedless_39 : decode cX0_isNeedless 39 = .ok (.iaload, 1) := by decide +kernel
theorem dX0_isNeedless_40 : decode cX0_isNeedless 40 = .ok (.aload_n 1, 1) := by decide +kernel
theorem dX0_isNeedless_41 : decode cX0_isNeedless 41 = .ok (.getfield 52, 3) := by decide +kernel
theorem dX0_isNeedless_44 : decode cX0_isNeedless 44 = .ok (.iload 4, 2) := by decide +kernel
theorem dX0_isNeedless_46 : decode cX0_isNeedless 46 = .ok (.iaload, 1) := by decide +kernel
theorem dX0_isNeedless_47 : decode cX0_isNeedless 47 = .ok (.if_icmp .ne 23, 3) := by decide +kernel
theorem dX0_isNeedless_50 : decode cX0_isNeedless 50 = .ok (.aload_n 0, 1) := by decide +kernel
theorem dX0_isNeedless_51 : decode cX0_isNeedless 51 = .ok (.getfield 57, 3) := by decide +kernel
theorem dX0_isNeedless_54 : decode cX0_isNeedless 54 = .ok (.iload_n 3, 1) := by decide +kernel
theorem dX0_isNeedless_55 : decode cX0_isNeedless 55 = .ok (.iaload, 1) := by decide +kernel
theorem dX0_isNeedless_56 : decode cX0_isNeedless 56 = .ok (.aload_n 0, 1) := by decide +kernel
theorem dX0_isNeedless_57 : decode cX0_isNeedless 57 = .ok (.getfield 57, 3) := by decide +kernel
theorem dX0_isNeedless_60 : decode cX0_isNeedless 60 = .ok (.iload 4, 2) := by decide +kernel
theorem dX0_isNeedless_62 : decode cX0_isNeedless 62 = .ok (.iaload, 1) := by decide +kernel
theorem dX0_isNeedless_63 : decode cX0_isNeedless 63 = .ok (.if_icmp .ne 7, 3) := by decide +kernel
theorem dX0_isNeedless_66 : decode cX0_isNeedless 66 = .ok (.iconst 1, 1) := by decide +kernel
theorem dX0_isNeedless_67 : decode cX0_isNeedless 67 = .ok (.goto 4, 3) := by decide +kernel
theorem dX0_isNeedless_70 : decode cX0_isNeedless 70 = .ok (.iconst 0, 1) := by decide +kernel
theorem dX0_isNeedless_71 : decode cX0_isNeedless 71 = .ok (.ireturn, 1) := by decide +kernel
theorem dX0_translateStep_0 : decode cX0_translateStep 0 = .ok (.aload_n 0, 1) := by decide +kernel
theorem dX0_translateStep_1 : decode cX0_translateStep 1 = .ok (.getfield 60, 3) := by decide +kernel
theorem dX0_translateStep_4 : decode cX0_translateStep 4 = .ok (.iload_n 3, 1) := by decide +kernel
theorem dX0_translateStep_5 : decode cX0_translateStep 5 = .ok (.iaload, 1) := by decide +kernel
theorem dX0_translateStep_6 : decode cX0_translateStep 6 = .ok (.istore 4, 2) := by decide +kernel
theorem dX0_translateStep_8 : decode cX0_translateStep 8 = .ok (.aload_n 0, 1) := by decide +kernel
theorem dX0_translateStep_9 : decode cX0_translateStep 9 = .ok (.getfield 63, 3) := by decide +kernel
theorem dX0_translateStep_12 : decode cX0_translateStep 12 = .ok (.iload_n 3, 1) := by decide +kernel
theorem dX0_translateStep_13 : decode cX0_translateStep 13 = .ok (.iaload, 1) := by decide +kernel
theorem dX0_translateStep_14 : decode cX0_translateStep 14 = .ok (.istore 5, 2) := by decide +kernel
theorem dX0_translateStep_16 : decode cX0_translateStep 16 = .ok (.aload_n 0, 1) := by decide +kernel
theorem dX0_translateStep_17 : decode cX0_translateStep 17 = .ok (.aload_n 1, 1) := by decide +kernel
theorem dX0_translateStep_18 : decode cX0_translateStep 18 = .ok (.aload_n 2, 1) := by decide +kernel
theorem dX0_translateStep_19 : decode cX0_translateStep 19 = .ok (.iload 4, 2) := by decide +kernel
theorem dX0_translateStep_21 : decode cX0_translateStep 21 = .ok (.bipush 8, 2) := by decide +kernel
theorem dX0_translateStep_23 : decode cX0_translateStep 23 = .ok (.invokestatic 66, 3) := by decide +kernel
theorem dX0_translateStep_26 : decode cX0_translateStep 26 = .ok (.istore 6, 2) := by decide +kernel
theorem dX0_translateStep_28 : decode cX0_translateStep 28 = .ok (.iload 6, 2) := by decide +kernel
theorem dX0_translateStep_30 : decode cX0_translateStep 30 = .ok (.istore 7, 2) := by decide +kernel
theorem dX0_translateStep_32 : decode cX0_translateStep 32 = .ok (.iload 5, 2) := by decide +kernel
theorem dX0_translateStep_34 : decode cX0_translateStep 34 = .ok (.iload 4, 2) := by decide +kernel
theorem dX0_translateStep_36 : decode cX0_translateStep 36 = .ok (.if_icmp .eq 36, 3) := by decide +kernel
theorem dX0_translateStep_39 : decode cX0_translateStep 39 = .ok (.aload_n 0, 1) := by decide +kernel
theorem dX0_translateStep_40 : decode cX0_translateStep 40 = .ok (.aload_n 1, 1) := by decide +kernel
theorem dX0_translateStep_41 : decode cX0_translateStep 41 = .ok (.iload 4, 2) := by decide +kernel
theorem dX0_translateStep_43 : decode cX0_translateStep 43 = .ok (.iload 5, 2) := by decide +kernel
theorem dX0_translateStep_45 : decode cX0_translateStep 45 = .ok (.invokestatic 70, 3) := by decide +kernel
theorem dX0_translateStep_48 : decode cX0_translateStep 48 = .ok (.istore 8, 2) := by decide +kernel
theorem dX0_translateStep_50 : decode cX0_translateStep 50 = .ok (.aload_n 0, 1) := by decide +kernel
theorem dX0_translateStep_51 : decode cX0_translateStep 51 = .ok (.aload_n 1, 1) := by decide +kernel
theorem dX0_translateStep_52 : decode cX0_translateStep 52 = .ok (.aload_n 2, 1) := by decide +kernel
theorem dX0_translateStep_53 : decode cX0_translateStep 53 = .ok (.iload 5, 2) := by decide +kernel
theorem dX0_translateStep_55 : decode cX0_translateStep 55 = .ok (.iload 8, 2) := by decide +kernel
theorem dX0_translateStep_57 : decode cX0_translateStep 57 = .ok (.ifCond .eq 8, 3) := by decide +kernel
theorem dX0_translateStep_60 : decode cX0_translateStep 60 = .ok (.bipush 9, 2) := by decide +kernel
theorem dX0_translateStep_62 : decode cX0_translateStep 62 = .ok (.goto 5, 3) := by decide +kernel
theorem dX0_translateStep_65 : decode cX0_translateStep 65 = .ok (.bipush 8, 2) := by decide +kernel
theorem dX0_translateStep_67 : decode cX0_translateStep 67 = .ok (.invokestatic 66, 3) := by decide +kernel
theorem dX0_translateStep_70 : decode cX0_translateStep 70 = .ok (.istore 7, 2) := by decide +kernel
theorem dX0_translateStep_72 : decode cX0_translateStep 72 = .ok (.aload_n 0, 1) := by decide +kernel
theorem dX0_translateStep_73 : decode cX0_translateStep 73 = .ok (.getfield 74, 3) := by decide +kernel
theorem dX0_translateStep_76 : decode cX0_translateStep 76 = .ok (.iload_n 3, 1) := by decide +kernel
theorem dX0_translateStep_77 : decode cX0_translateStep 77 = .ok (.iaload, 1) := by decide +kernel
theorem dX0_translateStep_78 : decode cX0_translateStep 78 = .ok (.istore 8, 2) := by decide +kernel
theorem dX0_translateStep_80 : decode cX0_translateStep 80 = .ok (.iload 8, 2) := by decide +kernel
theorem dX0_translateStep_82 : decode cX0_translateStep 82 = .ok (.iconst (-1), 1) := by decide +kernel
theorem dX0_translateStep_83 : decode cX0_translateStep 83 = .ok (.if_icmp .ne 17, 3) := by decide +kernel
theorem dX0_translateStep_86 : decode cX0_translateStep 86 = .ok (.aload_n 0, 1) := by decide +kernel
theorem dX0_translateStep_87 : decode cX0_translateStep 87 = .ok (.getfield 21, 3) := by decide +kernel
theorem dX0_translateStep_90 : decode cX0_translateStep 90 = .ok (.aload_n 2, 1) := by decide +kernel
theorem dX0_translateStep_91 : decode cX0_translateStep 91 = .ok (.iload_n 3, 1) := by decide +kernel
theorem dX0_translateStep_92 : decode cX0_translateStep 92 = .ok (.iload 6, 2) := by decide +kernel
theorem dX0_translateStep_94 : decode cX0_translateStep 94 = .ok (.iload 7, 2) := by decide +kernel
theorem dX0_translateStep_96 : decode cX0_translateStep 96 = .ok (.invokestatic 77, 3) := by decide +kernel
theorem dX0_translateStep_99 : decode cX0_translateStep 99 = .ok (.return_, 1) := by decide +kernel
theorem dX0_translateStep_100 : decode cX0_translateStep 100 = .ok (.aload_n 0, 1) := by decide +kernel
theorem dX0_translateStep_101 : decode cX0_translateStep 101 = .ok (.aload_n 1, 1) := by decide +kernel
theorem dX0_translateStep_102 : decode cX0_translateStep 102 = .ok (.iload 8, 2) := by decide +kernel
theorem dX0_translateStep_104 : decode cX0_translateStep 104 = .ok (.bipush 8, 2) := by decide +kernel
theorem dX0_translateStep_106 : decode cX0_translateStep 106 = .ok (.invokestatic 81, 3) := by decide +kernel
theorem dX0_translateStep_109 : decode cX0_translateStep 109 = .ok (.istore 9, 2) := by decide +kernel
theorem dX0_translateStep_111 : decode cX0_translateStep 111 = .ok (.aload_n 0, 1) := by decide +kernel
theorem dX0_translateStep_112 : decode cX0_translateStep 112 = .ok (.getfield 21, 3) := by decide +kernel
theorem dX0_translateStep_115 : decode cX0_translateStep 115 = .ok (.aload_n 2, 1) := by decide +kernel
theorem dX0_translateStep_116 : decode cX0_translateStep 116 = .ok (.iload_n 3, 1) := by decide +kernel
theorem dX0_translateStep_117 : decode cX0_translateStep 117 = .ok (.iload 9, 2) := by decide +kernel
theorem dX0_translateStep_119 : decode cX0_translateStep 119 = .ok (.iload 6, 2) := by decide +kernel
theorem dX0_translateStep_121 : decode cX0_translateStep 121 = .ok (.iload 7, 2) := by decide +kernel
theorem dX0_translateStep_123 : decode cX0_translateStep 123 = .ok (.invokestatic 85, 3) := by decide +kernel
theorem dX0_translateStep_126 : decode cX0_translateStep 126 = .ok (.aload_n 1, 1) := by decide +kernel
theorem dX0_translateStep_127 : decode cX0_translateStep 127 = .ok (.iload 8, 2) := by decide +kernel
theorem dX0_translateStep_129 : decode cX0_translateStep 129 = .ok (.invokevirtual 89, 3) := by decide +kernel
theorem dX0_translateStep_132 : decode cX0_translateStep 132 = .ok (.ifCond .eq 22, 3) := by decide +kernel
theorem dX0_translateStep_135 : decode cX0_translateStep 135 = .ok (.aload_n 2, 1) := by decide +kernel
theorem dX0_translateStep_136 : decode cX0_translateStep 136 = .ok (.bipush 12, 2) := by decide +kernel
theorem dX0_translateStep_138 : decode cX0_translateStep 138 = .ok (.iload 9, 2) := by decide +kernel
theorem dX0_translateStep_140 : decode cX0_translateStep 140 = .ok (.aload_n 1, 1) := by decide +kernel
theorem dX0_translateStep_141 : decode cX0_translateStep 141 = .ok (.getfield 52, 3) := by decide +kernel
theorem dX0_translateStep_144 : decode cX0_translateStep 144 = .ok (.iload 8, 2) := by decide +kernel
theorem dX0_translateStep_146 : decode cX0_translateStep 146 = .ok (.iaload, 1) := by decide +kernel
theorem dX0_translateStep_147 : decode cX0_translateStep 147 = .ok (.bipush 100, 2) := by decide +kernel
theorem dX0_translateStep_149 : decode cX0_translateStep 149 = .ok (.isub, 1) := by decide +kernel
theorem dX0_translateStep_150 : decode cX0_translateStep 150 = .ok (.iconst 0, 1) := by decide +kernel
theorem dX0_translateStep_151 : decode cX0_translateStep 151 = .ok (.invokevirtual 93, 3) := by decide +kernel
theorem dX0_translateStep_154 : decode cX0_translateStep 154 = .ok (.return_, 1) := by decide +kernel
theorem dX0_bring_0 : decode cX0_bring 0 = .ok (.iload_n 3, 1) := by decide +kernel
theorem dX0_bring_1 : decode cX0_bring 1 = .ok (.iconst (-1), 1) := by decide +kernel
theorem dX0_bring_2 : decode cX0_bring 2 = .ok (.if_icmp .ne 5, 3) := by decide +kernel
theorem dX0_bring_5 : decode cX0_bring 5 = .ok (.iconst (-1), 1) := by decide +kernel
theorem dX0_bring_6 : decode cX0_bring 6 = .ok (.ireturn, 1) := by decide +kernel
theorem dX0_bring_7 : decode cX0_bring 7 = .ok (.aload_n 0, 1) := by decide +kernel
theorem dX0_bring_8 : decode cX0_bring 8 = .ok (.aload_n 1, 1) := by decide +kernel
theorem dX0_bring_9 : decode cX0_bring 9 = .ok (.iload_n 3, 1) := by decide +kernel
theorem dX0_bring_10 : decode cX0_bring 10 = .ok (.iload 4, 2) := by decide +kernel
theorem dX0_bring_12 : decode cX0_bring 12 = .ok (.invokestatic 81, 3) := by decide +kernel
theorem dX0_bring_15 : decode cX0_bring 15 = .ok (.istore 5, 2) := by decide +kernel
theorem dX0_bring_17 : decode cX0_bring 17 = .ok (.aload_n 1, 1) := by decide +kernel
theorem dX0_bring_18 : decode cX0_bring 18 = .ok (.iload_n 3, 1) := by decide +kernel
theorem dX0_bring_19 : decode cX0_bring 19 = .ok (.invokevirtual 89, 3) := by decide +kernel
theorem dX0_bring_22 : decode cX0_bring 22 = .ok (.ifCond .eq 21, 3) := by decide +kernel
theorem dX0_bring_25 : decode cX0_bring 25 = .ok (.aload_n 2, 1) := by decide +kernel
theorem dX0_bring_26 : decode cX0_bring 26 = .ok (.bipush 11, 2) := by decide +kernel
theorem dX0_bring_28 : decode cX0_bring 28 = .ok (.iload 5, 2) := by decide +kernel
theorem dX0_bring_30 : decode cX0_bring 30 = .ok (.aload_n 1, 1) := by decide +kernel
theorem dX0_bring_31 : decode cX0_bring 31 = .ok (.getfield 52, 3) := by decide +kernel
theorem dX0_bring_34 : decode cX0_bring 34 = .ok (.iload_n 3, 1) := by decide +kernel
theorem dX0_bring_35 : decode cX0_bring 35 = .ok (.iaload, 1) := by decide +kernel
theorem dX0_bring_36 : decode cX0_bring 36 = .ok (.bipush 100, 2) := by decide +kernel
theorem dX0_bring_38 : decode cX0_bring 38 = .ok (.isub, 1) := by decide +kernel
theorem dX0_bring_39 : decode cX0_bring 39 = .ok (.iconst 0, 1) := by decide +kernel
theorem dX0_bring_40 : decode cX0_bring 40 = .ok (.invokevirtual 93, 3) := by decide +kernel
theorem dX0_bring_43 : decode cX0_bring 43 = .ok (.iload 5, 2) := by decide +kernel
theorem dX0_bring_45 : decode cX0_bring 45 = .ok (.ireturn, 1) := by decide +kernel
theorem dX0_firstHolds8_0 : decode cX0_firstHolds8 0 = .ok (.iload_n 3, 1) := by decide +kernel
theorem dX0_firstHolds8_1 : decode cX0_firstHolds8 1 = .ok (.iconst (-1), 1) := by decide +kernel
theorem dX0_firstHolds8_2 : decode cX0_firstHolds8 2 = .ok (.if_icmp .eq 30, 3) := by decide +kernel
theorem dX0_firstHolds8_5 : decode cX0_firstHolds8 5 = .ok (.aload_n 1, 1) := by decide +kernel
theorem dX0_firstHolds8_6 : decode cX0_firstHolds8 6 = .ok (.iload_n 2, 1) := by decide +kernel
theorem dX0_firstHolds8_7 : decode cX0_firstHolds8 7 = .ok (.invokevirtual 89, 3) := by decide +kernel
theorem dX0_firstHolds8_10 : decode cX0_firstHolds8 10 = .ok (.ifCond .eq 22, 3) := by decide +kernel
theorem dX0_firstHolds8_13 : decode cX0_firstHolds8 13 = .ok (.aload_n 0, 1) := by decide +kernel
theorem dX0_firstHolds8_14 : decode cX0_firstHolds8 14 = .ok (.getfield 57, 3) := by decide +kernel
theorem dX0_firstHolds8_17 : decode cX0_firstHolds8 17 = .ok (.iload_n 2, 1) := by decide +kernel
theorem dX0_firstHolds8_18 : decode cX0_firstHolds8 18 = .ok (.iaload, 1) := by decide +kernel
theorem dX0_firstHolds8_19 : decode cX0_firstHolds8 19 = .ok (.aload_n 0, 1) := by decide +kernel
theorem dX0_firstHolds8_20 : decode cX0_firstHolds8 20 = .ok (.getfield 57, 3) := by decide +kernel
theorem dX0_firstHolds8_23 : decode cX0_firstHolds8 23 = .ok (.iload_n 3, 1) := by decide +kernel
theorem dX0_firstHolds8_24 : decode cX0_firstHolds8 24 = .ok (.iaload, 1) := by decide +kernel
theorem dX0_firstHolds8_25 : decode cX0_firstHolds8 25 = .ok (.if_icmp .ne 7, 3) := by decide +kernel
theorem dX0_firstHolds8_28 : decode cX0_firstHolds8 28 = .ok (.iconst 1, 1) := by decide +kernel
theorem dX0_firstHolds8_29 : decode cX0_firstHolds8 29 = .ok (.goto 4, 3) := by decide +kernel
theorem dX0_firstHolds8_32 : decode cX0_firstHolds8 32 = .ok (.iconst 0, 1) := by decide +kernel
theorem dX0_firstHolds8_33 : decode cX0_firstHolds8 33 = .ok (.ireturn, 1) := by decide +kernel
theorem dX0_registerOf_0 : decode cX0_registerOf 0 = .ok (.aload_n 1, 1) := by decide +kernel
theorem dX0_registerOf_1 : decode cX0_registerOf 1 = .ok (.iload_n 2, 1) := by decide +kernel
theorem dX0_registerOf_2 : decode cX0_registerOf 2 = .ok (.invokevirtual 89, 3) := by decide +kernel
theorem dX0_registerOf_5 : decode cX0_registerOf 5 = .ok (.ifCond .eq 7, 3) := by decide +kernel
theorem dX0_registerOf_8 : decode cX0_registerOf 8 = .ok (.iload_n 3, 1) := by decide +kernel
theorem dX0_registerOf_9 : decode cX0_registerOf 9 = .ok (.goto 9, 3) := by decide +kernel
theorem dX0_registerOf_12 : decode cX0_registerOf 12 = .ok (.aload_n 1, 1) := by decide +kernel
theorem dX0_registerOf_13 : decode cX0_registerOf 13 = .ok (.getfield 52, 3) := by decide +kernel
theorem dX0_registerOf_16 : decode cX0_registerOf 16 = .ok (.iload_n 2, 1) := by decide +kernel
theorem dX0_registerOf_17 : decode cX0_registerOf 17 = .ok (.iaload, 1) := by decide +kernel
theorem dX0_registerOf_18 : decode cX0_registerOf 18 = .ok (.istore 4, 2) := by decide +kernel
theorem dX0_registerOf_20 : decode cX0_registerOf 20 = .ok (.bipush 16, 2) := by decide +kernel
theorem dX0_registerOf_22 : decode cX0_registerOf 22 = .ok (.aload_n 0, 1) := by decide +kernel
theorem dX0_registerOf_23 : decode cX0_registerOf 23 = .ok (.getfield 57, 3) := by decide +kernel
theorem dX0_registerOf_26 : decode cX0_registerOf 26 = .ok (.iload_n 2, 1) := by decide +kernel
theorem dX0_registerOf_27 : decode cX0_registerOf 27 = .ok (.iaload, 1) := by decide +kernel
theorem dX0_registerOf_28 : decode cX0_registerOf 28 = .ok (.imul, 1) := by decide +kernel
theorem dX0_registerOf_29 : decode cX0_registerOf 29 = .ok (.iload 4, 2) := by decide +kernel
theorem dX0_registerOf_31 : decode cX0_registerOf 31 = .ok (.iadd, 1) := by decide +kernel
theorem dX0_registerOf_32 : decode cX0_registerOf 32 = .ok (.ireturn, 1) := by decide +kernel
theorem dX0_addMaker_0 : decode cX0_addMaker 0 = .ok (.aload_n 0, 1) := by decide +kernel
theorem dX0_addMaker_1 : decode cX0_addMaker 1 = .ok (.getfield 49, 3) := by decide +kernel
theorem dX0_addMaker_4 : decode cX0_addMaker 4 = .ok (.iload_n 2, 1) := by decide +kernel
theorem dX0_addMaker_5 : decode cX0_addMaker 5 = .ok (.iaload, 1) := by decide +kernel
theorem dX0_addMaker_6 : decode cX0_addMaker 6 = .ok (.istore 6, 2) := by decide +kernel
theorem dX0_addMaker_8 : decode cX0_addMaker 8 = .ok (.iload 6, 2) := by decide +kernel
theorem dX0_addMaker_10 : decode cX0_addMaker 10 = .ok (.lookupswitch 82 #[(0, 34), (1, 51), (5, 64)], 34) := by decide +kernel
theorem dX0_addMaker_44 : decode cX0_addMaker 44 = .ok (.aload_n 1, 1) := by decide +kernel
theorem dX0_addMaker_45 : decode cX0_addMaker 45 = .ok (.iload 6, 2) := by decide +kernel
theorem dX0_addMaker_47 : decode cX0_addMaker 47 = .ok (.iload_n 3, 1) := by decide +kernel
theorem dX0_addMaker_48 : decode cX0_addMaker 48 = .ok (.aload_n 0, 1) := by decide +kernel
theorem dX0_addMaker_49 : decode cX0_addMaker 49 = .ok (.getfield 46, 3) := by decide +kernel
theorem dX0_addMaker_52 : decode cX0_addMaker 52 = .ok (.iload_n 2, 1) := by decide +kernel
theorem dX0_addMaker_53 : decode cX0_addMaker 53 = .ok (.iaload, 1) := by decide +kernel
theorem dX0_addMaker_54 : decode cX0_addMaker 54 = .ok (.iconst 0, 1) := by decide +kernel
theorem dX0_addMaker_55 : decode cX0_addMaker 55 = .ok (.invokevirtual 93, 3) := by decide +kernel
theorem dX0_addMaker_58 : decode cX0_addMaker 58 = .ok (.goto 45, 3) := by decide +kernel
theorem dX0_addMaker_61 : decode cX0_addMaker 61 = .ok (.aload_n 1, 1) := by decide +kernel
theorem dX0_addMaker_62 : decode cX0_addMaker 62 = .ok (.iload 6, 2) := by decide +kernel
theorem dX0_addMaker_64 : decode cX0_addMaker 64 = .ok (.iload_n 3, 1) := by decide +kernel
theorem dX0_addMaker_65 : decode cX0_addMaker 65 = .ok (.iload 4, 2) := by decide +kernel
theorem dX0_addMaker_67 : decode cX0_addMaker 67 = .ok (.iconst 0, 1) := by decide +kernel
theorem dX0_addMaker_68 : decode cX0_addMaker 68 = .ok (.invokevirtual 93, 3) := by decide +kernel
theorem dX0_addMaker_71 : decode cX0_addMaker 71 = .ok (.goto 32, 3) := by decide +kernel
theorem dX0_addMaker_74 : decode cX0_addMaker 74 = .ok (.aload_n 1, 1) := by decide +kernel
theorem dX0_addMaker_75 : decode cX0_addMaker 75 = .ok (.iload 6, 2) := by decide +kernel
theorem dX0_addMaker_77 : decode cX0_addMaker 77 = .ok (.iload_n 3, 1) := by decide +kernel
theorem dX0_addMaker_78 : decode cX0_addMaker 78 = .ok (.iload 4, 2) := by decide +kernel
theorem dX0_addMaker_80 : decode cX0_addMaker 80 = .ok (.aload_n 0, 1) := by decide +kernel
theorem dX0_addMaker_81 : decode cX0_addMaker 81 = .ok (.getfield 97, 3) := by decide +kernel
theorem dX0_addMaker_84 : decode cX0_addMaker 84 = .ok (.iload_n 2, 1) := by decide +kernel
theorem dX0_addMaker_85 : decode cX0_addMaker 85 = .ok (.iaload, 1) := by decide +kernel
theorem dX0_addMaker_86 : decode cX0_addMaker 86 = .ok (.invokevirtual 93, 3) := by decide +kernel
theorem dX0_addMaker_89 : decode cX0_addMaker 89 = .ok (.goto 14, 3) := by decide +kernel
theorem dX0_addMaker_92 : decode cX0_addMaker 92 = .ok (.aload_n 1, 1) := by decide +kernel
theorem dX0_addMaker_93 : decode cX0_addMaker 93 = .ok (.iload 6, 2) := by decide +kernel
theorem dX0_addMaker_95 : decode cX0_addMaker 95 = .ok (.iload_n 3, 1) := by decide +kernel
theorem dX0_addMaker_96 : decode cX0_addMaker 96 = .ok (.iload 4, 2) := by decide +kernel
theorem dX0_addMaker_98 : decode cX0_addMaker 98 = .ok (.iload 5, 2) := by decide +kernel
theorem dX0_addMaker_100 : decode cX0_addMaker 100 = .ok (.invokevirtual 93, 3) := by decide +kernel
theorem dX0_addMaker_103 : decode cX0_addMaker 103 = .ok (.return_, 1) := by decide +kernel
theorem dX0_addUser_0 : decode cX0_addUser 0 = .ok (.aload_n 0, 1) := by decide +kernel
theorem dX0_addUser_1 : decode cX0_addUser 1 = .ok (.getfield 49, 3) := by decide +kernel
theorem dX0_addUser_4 : decode cX0_addUser 4 = .ok (.iload_n 2, 1) := by decide +kernel
theorem dX0_addUser_5 : decode cX0_addUser 5 = .ok (.iaload, 1) := by decide +kernel
theorem dX0_addUser_6 : decode cX0_addUser 6 = .ok (.istore 5, 2) := by decide +kernel
theorem dX0_addUser_8 : decode cX0_addUser 8 = .ok (.iload 5, 2) := by decide +kernel
theorem dX0_addUser_10 : decode cX0_addUser 10 = .ok (.tableswitch 77 6 9 #[30, 30, 48, 65], 30) := by decide +kernel
theorem dX0_addUser_40 : decode cX0_addUser 40 = .ok (.aload_n 1, 1) := by decide +kernel
theorem dX0_addUser_41 : decode cX0_addUser 41 = .ok (.iload 5, 2) := by decide +kernel
theorem dX0_addUser_43 : decode cX0_addUser 43 = .ok (.iload_n 3, 1) := by decide +kernel
theorem dX0_addUser_44 : decode cX0_addUser 44 = .ok (.iload 4, 2) := by decide +kernel
theorem dX0_addUser_46 : decode cX0_addUser 46 = .ok (.aload_n 0, 1) := by decide +kernel
theorem dX0_addUser_47 : decode cX0_addUser 47 = .ok (.getfield 97, 3) := by decide +kernel
theorem dX0_addUser_50 : decode cX0_addUser 50 = .ok (.iload_n 2, 1) := by decide +kernel
theorem dX0_addUser_51 : decode cX0_addUser 51 = .ok (.iaload, 1) := by decide +kernel
theorem dX0_addUser_52 : decode cX0_addUser 52 = .ok (.invokevirtual 93, 3) := by decide +kernel
theorem dX0_addUser_55 : decode cX0_addUser 55 = .ok (.goto 41, 3) := by decide +kernel
theorem dX0_addUser_58 : decode cX0_addUser 58 = .ok (.aload_n 1, 1) := by decide +kernel
theorem dX0_addUser_59 : decode cX0_addUser 59 = .ok (.iload 5, 2) := by decide +kernel
theorem dX0_addUser_61 : decode cX0_addUser 61 = .ok (.aload_n 0, 1) := by decide +kernel
theorem dX0_addUser_62 : decode cX0_addUser 62 = .ok (.getfield 43, 3) := by decide +kernel
theorem dX0_addUser_65 : decode cX0_addUser 65 = .ok (.iload_n 2, 1) := by decide +kernel
theorem dX0_addUser_66 : decode cX0_addUser 66 = .ok (.iaload, 1) := by decide +kernel
theorem dX0_addUser_67 : decode cX0_addUser 67 = .ok (.iconst 0, 1) := by decide +kernel
theorem dX0_addUser_68 : decode cX0_addUser 68 = .ok (.iconst 0, 1) := by decide +kernel
theorem dX0_addUser_69 : decode cX0_addUser 69 = .ok (.invokevirtual 93, 3) := by decide +kernel
theorem dX0_addUser_72 : decode cX0_addUser 72 = .ok (.goto 24, 3) := by decide +kernel
theorem dX0_addUser_75 : decode cX0_addUser 75 = .ok (.aload_n 1, 1) := by decide +kernel
theorem dX0_addUser_76 : decode cX0_addUser 76 = .ok (.iload 5, 2) := by decide +kernel
theorem dX0_addUser_78 : decode cX0_addUser 78 = .ok (.iload_n 3, 1) := by decide +kernel
theorem dX0_addUser_79 : decode cX0_addUser 79 = .ok (.iconst 0, 1) := by decide +kernel
theorem dX0_addUser_80 : decode cX0_addUser 80 = .ok (.iconst 0, 1) := by decide +kernel
theorem dX0_addUser_81 : decode cX0_addUser 81 = .ok (.invokevirtual 93, 3) := by decide +kernel
theorem dX0_addUser_84 : decode cX0_addUser 84 = .ok (.goto 12, 3) := by decide +kernel
theorem dX0_addUser_87 : decode cX0_addUser 87 = .ok (.aload_n 1, 1) := by decide +kernel
theorem dX0_addUser_88 : decode cX0_addUser 88 = .ok (.iload 5, 2) := by decide +kernel
theorem dX0_addUser_90 : decode cX0_addUser 90 = .ok (.iconst 0, 1) := by decide +kernel
theorem dX0_addUser_91 : decode cX0_addUser 91 = .ok (.iconst 0, 1) := by decide +kernel
theorem dX0_addUser_92 : decode cX0_addUser 92 = .ok (.iconst 0, 1) := by decide +kernel
theorem dX0_addUser_93 : decode cX0_addUser 93 = .ok (.invokevirtual 93, 3) := by decide +kernel
theorem dX0_addUser_96 : decode cX0_addUser 96 = .ok (.return_, 1) := by decide +kernel
theorem dX1_init_0 : decode cX1_init 0 = .ok (.aload_n 0, 1) := by decide +kernel
theorem dX1_init_1 : decode cX1_init 1 = .ok (.invokespecial 3, 3) := by decide +kernel
theorem dX1_init_4 : decode cX1_init 4 = .ok (.aload_n 0, 1) := by decide +kernel
theorem dX1_init_5 : decode cX1_init 5 = .ok (.bipush 60, 2) := by decide +kernel
theorem dX1_init_7 : decode cX1_init 7 = .ok (.newarray .int, 2) := by decide +kernel
theorem dX1_init_9 : decode cX1_init 9 = .ok (.putfield 9, 3) := by decide +kernel
theorem dX1_init_12 : decode cX1_init 12 = .ok (.aload_n 0, 1) := by decide +kernel
theorem dX1_init_13 : decode cX1_init 13 = .ok (.bipush 24, 2) := by decide +kernel
theorem dX1_init_15 : decode cX1_init 15 = .ok (.newarray .int, 2) := by decide +kernel
theorem dX1_init_17 : decode cX1_init 17 = .ok (.putfield 15, 3) := by decide +kernel
theorem dX1_init_20 : decode cX1_init 20 = .ok (.return_, 1) := by decide +kernel
theorem dX1_spread_0 : decode cX1_spread 0 = .ok (.aload_n 1, 1) := by decide +kernel
theorem dX1_spread_1 : decode cX1_spread 1 = .ok (.getfield 18, 3) := by decide +kernel
theorem dX1_spread_4 : decode cX1_spread 4 = .ok (.getfield 24, 3) := by decide +kernel
theorem dX1_spread_7 : decode cX1_spread 7 = .ok (.istore_n 2, 1) := by decide +kernel
theorem dX1_spread_8 : decode cX1_spread 8 = .ok (.iconst 0, 1) := by decide +kernel
theorem dX1_spread_9 : decode cX1_spread 9 = .ok (.istore_n 3, 1) := by decide +kernel
theorem dX1_spread_10 : decode cX1_spread 10 = .ok (.iload_n 3, 1) := by decide +kernel
theorem dX1_spread_11 : decode cX1_spread 11 = .ok (.iload_n 2, 1) := by decide +kernel
theorem dX1_spread_12 : decode cX1_spread 12 = .ok (.if_icmp .ge 16, 3) := by decide +kernel
theorem dX1_spread_15 : decode cX1_spread 15 = .ok (.aload_n 0, 1) := by decide +kernel
theorem dX1_spread_16 : decode cX1_spread 16 = .ok (.getfield 9, 3) := by decide +kernel
theorem dX1_spread_19 : decode cX1_spread 19 = .ok (.iload_n 3, 1) := by decide +kernel
theorem dX1_spread_20 : decode cX1_spread 20 = .ok (.iconst 0, 1) := by decide +kernel
theorem dX1_spread_21 : decode cX1_spread 21 = .ok (.iastore, 1) := by decide +kernel
theorem dX1_spread_22 : decode cX1_spread 22 = .ok (.iinc 3 1, 3) := by decide +kernel
theorem dX1_spread_25 : decode cX1_spread 25 = .ok (.goto (-15), 3) := by decide +kernel
theorem dX1_spread_28 : decode cX1_spread 28 = .ok (.iconst 1, 1) := by decide +kernel
theorem dX1_spread_29 : decode cX1_spread 29 = .ok (.istore_n 3, 1) := by decide +kernel
theorem dX1_spread_30 : decode cX1_spread 30 = .ok (.iconst 0, 1) := by decide +kernel
theorem dX1_spread_31 : decode cX1_spread 31 = .ok (.istore 4, 2) := by decide +kernel
theorem dX1_spread_33 : decode cX1_spread 33 = .ok (.iload_n 3, 1) := by decide +kernel
theorem dX1_spread_34 : decode cX1_spread 34 = .ok (.ifCond .eq 75, 3) := by decide +kernel
theorem dX1_spread_37 : decode cX1_spread 37 = .ok (.iload 4, 2) := by decide +kernel
theorem dX1_spread_39 : decode cX1_spread 39 = .ok (.sipush 1440, 3) := by decide +kernel
theorem dX1_spread_42 : decode cX1_spread 42 = .ok (.if_icmp .gt 67, 3) := by decide +kernel
theorem dX1_spread_45 : decode cX1_spread 45 = .ok (.iconst 0, 1) := by decide +kernel
theorem dX1_spread_46 : decode cX1_spread 46 = .ok (.istore_n 3, 1) := by decide +kernel
theorem dX1_spread_47 : decode cX1_spread 47 = .ok (.iload_n 2, 1) := by decide +kernel
theorem dX1_spread_48 : decode cX1_spread 48 = .ok (.iconst 1, 1) := by decide +kernel
theorem dX1_spread_49 : decode cX1_spread 49 = .ok (.isub, 1) := by decide +kernel
theorem dX1_spread_50 : decode cX1_spread 50 = .ok (.istore 5, 2) := by decide +kernel
theorem dX1_spread_52 : decode cX1_spread 52 = .ok (.iload 5, 2) := by decide +kernel
theorem dX1_spread_54 : decode cX1_spread 54 = .ok (.ifCond .lt 49, 3) := by decide +kernel
theorem dX1_spread_57 : decode cX1_spread 57 = .ok (.aload_n 0, 1) := by decide +kernel
theorem dX1_spread_58 : decode cX1_spread 58 = .ok (.aload_n 1, 1) := by decide +kernel
theorem dX1_spread_59 : decode cX1_spread 59 = .ok (.iload 5, 2) := by decide +kernel
theorem dX1_spread_61 : decode cX1_spread 61 = .ok (.invokevirtual 30, 3) := by decide +kernel
theorem dX1_spread_64 : decode cX1_spread 64 = .ok (.istore 6, 2) := by decide +kernel
theorem dX1_spread_66 : decode cX1_spread 66 = .ok (.iload_n 3, 1) := by decide +kernel
theorem dX1_spread_67 : decode cX1_spread 67 = .ok (.ifCond .ne 15, 3) := by decide +kernel
theorem dX1_spread_70 : decode cX1_spread 70 = .ok (.iload 6, 2) := by decide +kernel
theorem dX1_spread_72 : decode cX1_spread 72 = .ok (.aload_n 0, 1) := by decide +kernel
theorem dX1_spread_73 : decode cX1_spread 73 = .ok (.getfield 9, 3) := by decide +kernel
theorem dX1_spread_76 : decode cX1_spread 76 = .ok (.iload 5, 2) := by decide +kernel
theorem dX1_spread_78 : decode cX1_spread 78 = .ok (.iaload, 1) := by decide +kernel
theorem dX1_spread_79 : decode cX1_spread 79 = .ok (.if_icmp .eq 7, 3) := by decide +kernel
theorem dX1_spread_82 : decode cX1_spread 82 = .ok (.iconst 1, 1) := by decide +kernel
theorem dX1_spread_83 : decode cX1_spread 83 = .ok (.goto 4, 3) := by decide +kernel
theorem dX1_spread_86 : decode cX1_spread 86 = .ok (.iconst 0, 1) := by decide +kernel
theorem dX1_spread_87 : decode cX1_spread 87 = .ok (.istore_n 3, 1) := by decide +kernel
theorem dX1_spread_88 : decode cX1_spread 88 = .ok (.aload_n 0, 1) := by decide +kernel
theorem dX1_spread_89 : decode cX1_spread 89 = .ok (.getfield 9, 3) := by decide +kernel
theorem dX1_spread_92 : decode cX1_spread 92 = .ok (.iload 5, 2) := by decide +kernel
theorem dX1_spread_94 : decode cX1_spread 94 = .ok (.iload 6, 2) := by decide +kernel
theorem dX1_spread_96 : decode cX1_spread 96 = .ok (.iastore, 1) := by decide +kernel
theorem dX1_spread_97 : decode cX1_spread 97 = .ok (.iinc 5 (-1), 3) := by decide +kernel
theorem dX1_spread_100 : decode cX1_spread 100 = .ok (.goto (-48), 3) := by decide +kernel
theorem dX1_spread_103 : decode cX1_spread 103 = .ok (.iinc 4 1, 3) := by decide +kernel
theorem dX1_spread_106 : decode cX1_spread 106 = .ok (.goto (-73), 3) := by decide +kernel
theorem dX1_spread_109 : decode cX1_spread 109 = .ok (.return_, 1) := by decide +kernel
theorem dX1_liveBefore_0 : decode cX1_liveBefore 0 = .ok (.aload_n 0, 1) := by decide +kernel
theorem dX1_liveBefore_1 : decode cX1_liveBefore 1 = .ok (.aload_n 1, 1) := by decide +kernel
theorem dX1_liveBefore_2 : decode cX1_liveBefore 2 = .ok (.getfield 18, 3) := by decide +kernel
theorem dX1_liveBefore_5 : decode cX1_liveBefore 5 = .ok (.iload_n 2, 1) := by decide +kernel
theorem dX1_liveBefore_6 : decode cX1_liveBefore 6 = .ok (.invokevirtual 34, 3) := by decide +kernel
theorem dX1_liveBefore_9 : decode cX1_liveBefore 9 = .ok (.aload_n 1, 1) := by decide +kernel
theorem dX1_liveBefore_10 : decode cX1_liveBefore 10 = .ok (.getfield 38, 3) := by decide +kernel
theorem dX1_liveBefore_13 : decode cX1_liveBefore 13 = .ok (.iload_n 2, 1) := by decide +kernel
theorem dX1_liveBefore_14 : decode cX1_liveBefore 14 = .ok (.iaload, 1) := by decide +kernel
theorem dX1_liveBefore_15 : decode cX1_liveBefore 15 = .ok (.invokestatic 41, 3) := by decide +kernel
theorem dX1_liveBefore_18 : decode cX1_liveBefore 18 = .ok (.iconst (-1), 1) := by decide +kernel
theorem dX1_liveBefore_19 : decode cX1_liveBefore 19 = .ok (.ixor, 1) := by decide +kernel
theorem dX1_liveBefore_20 : decode cX1_liveBefore 20 = .ok (.iand, 1) := by decide +kernel
theorem dX1_liveBefore_21 : decode cX1_liveBefore 21 = .ok (.istore_n 3, 1) := by decide +kernel
theorem dX1_liveBefore_22 : decode cX1_liveBefore 22 = .ok (.iload_n 3, 1) := by decide +kernel
theorem dX1_liveBefore_23 : decode cX1_liveBefore 23 = .ok (.aload_n 1, 1) := by decide +kernel
theorem dX1_liveBefore_24 : decode cX1_liveBefore 24 = .ok (.getfield 45, 3) := by decide +kernel
theorem dX1_liveBefore_27 : decode cX1_liveBefore 27 = .ok (.iload_n 2, 1) := by decide +kernel
theorem dX1_liveBefore_28 : decode cX1_liveBefore 28 = .ok (.iaload, 1) := by decide +kernel
theorem dX1_liveBefore_29 : decode cX1_liveBefore 29 = .ok (.invokestatic 41, 3) := by decide +kernel
theorem dX1_liveBefore_32 : decode cX1_liveBefore 32 = .ok (.ior, 1) := by decide +kernel
theorem dX1_liveBefore_33 : decode cX1_liveBefore 33 = .ok (.aload_n 1, 1) := by decide +kernel
theorem dX1_liveBefore_34 : decode cX1_liveBefore 34 = .ok (.getfield 48, 3) := by decide +kernel
theorem dX1_liveBefore_37 : decode cX1_liveBefore 37 = .ok (.iload_n 2, 1) := by decide +kernel
theorem dX1_liveBefore_38 : decode cX1_liveBefore 38 = .ok (.iaload, 1) := by decide +kernel
theorem dX1_liveBefore_39 : decode cX1_liveBefore 39 = .ok (.invokestatic 41, 3) := by decide +kernel
theorem dX1_liveBefore_42 : decode cX1_liveBefore 42 = .ok (.ior, 1) := by decide +kernel
theorem dX1_liveBefore_43 : decode cX1_liveBefore 43 = .ok (.ireturn, 1) := by decide +kernel
theorem dX1_behind_0 : decode cX1_behind 0 = .ok (.aload_n 0, 1) := by decide +kernel
theorem dX1_behind_1 : decode cX1_behind 1 = .ok (.aload_n 1, 1) := by decide +kernel
theorem dX1_behind_2 : decode cX1_behind 2 = .ok (.aload_n 1, 1) := by decide +kernel
theorem dX1_behind_3 : decode cX1_behind 3 = .ok (.iload_n 2, 1) := by decide +kernel
theorem dX1_behind_4 : decode cX1_behind 4 = .ok (.invokevirtual 51, 3) := by decide +kernel
theorem dX1_behind_7 : decode cX1_behind 7 = .ok (.invokevirtual 54, 3) := by decide +kernel
theorem dX1_behind_10 : decode cX1_behind 10 = .ok (.istore_n 3, 1) := by decide +kernel
theorem dX1_behind_11 : decode cX1_behind 11 = .ok (.aload_n 1, 1) := by decide +kernel
theorem dX1_behind_12 : decode cX1_behind 12 = .ok (.iload_n 2, 1) := by decide +kernel
theorem dX1_behind_13 : decode cX1_behind 13 = .ok (.invokevirtual 57, 3) := by decide +kernel
theorem dX1_behind_16 : decode cX1_behind 16 = .ok (.ifCond .eq 14, 3) := by decide +kernel
theorem dX1_behind_19 : decode cX1_behind 19 = .ok (.iload_n 3, 1) := by decide +kernel
theorem dX1_behind_20 : decode cX1_behind 20 = .ok (.aload_n 0, 1) := by decide +kernel
theorem dX1_behind_21 : decode cX1_behind 21 = .ok (.aload_n 1, 1) := by decide +kernel
theorem dX1_behind_22 : decode cX1_behind 22 = .ok (.iload_n 2, 1) := by decide +kernel
theorem dX1_behind_23 : decode cX1_behind 23 = .ok (.iconst 1, 1) := by decide +kernel
theorem dX1_behind_24 : decode cX1_behind 24 = .ok (.iadd, 1) := by decide +kernel
theorem dX1_behind_25 : decode cX1_behind 25 = .ok (.invokevirtual 54, 3) := by decide +kernel
theorem dX1_behind_28 : decode cX1_behind 28 = .ok (.ior, 1) := by decide +kernel
theorem dX1_behind_29 : decode cX1_behind 29 = .ok (.istore_n 3, 1) := by decide +kernel
theorem dX1_behind_30 : decode cX1_behind 30 = .ok (.iload_n 3, 1) := by decide +kernel
theorem dX1_behind_31 : decode cX1_behind 31 = .ok (.ireturn, 1) := by decide +kernel
theorem dX1_beforeIfThere_0 : decode cX1_beforeIfThere 0 = .ok (.iload_n 2, 1) := by decide +kernel
theorem dX1_beforeIfThere_1 : decode cX1_beforeIfThere 1 = .ok (.ifCond .lt 20, 3) := by decide +kernel
theorem dX1_beforeIfThere_4 : decode cX1_beforeIfThere 4 = .ok (.iload_n 2, 1) := by decide +kernel
theorem dX1_beforeIfThere_5 : decode cX1_beforeIfThere 5 = .ok (.aload_n 1, 1) := by decide +kernel
theorem dX1_beforeIfThere_6 : decode cX1_beforeIfThere 6 = .ok (.getfield 24, 3) := by decide +kernel
theorem dX1_beforeIfThere_9 : decode cX1_beforeIfThere 9 = .ok (.if_icmp .ge 12, 3) := by decide +kernel
theorem dX1_beforeIfThere_12 : decode cX1_beforeIfThere 12 = .ok (.aload_n 0, 1) := by decide +kernel
theorem dX1_beforeIfThere_13 : decode cX1_beforeIfThere 13 = .ok (.getfield 9, 3) := by decide +kernel
theorem dX1_beforeIfThere_16 : decode cX1_beforeIfThere 16 = .ok (.iload_n 2, 1) := by decide +kernel
theorem dX1_beforeIfThere_17 : decode cX1_beforeIfThere 17 = .ok (.iaload, 1) := by decide +kernel
theorem dX1_beforeIfThere_18 : decode cX1_beforeIfThere 18 = .ok (.goto 4, 3) := by decide +kernel
theorem dX1_beforeIfThere_21 : decode cX1_beforeIfThere 21 = .ok (.iconst 0, 1) := by decide +kernel
theorem dX1_beforeIfThere_22 : decode cX1_beforeIfThere 22 = .ok (.ireturn, 1) := by decide +kernel
theorem dX1_collide_0 : decode cX1_collide 0 = .ok (.iconst 0, 1) := by decide +kernel
theorem dX1_collide_1 : decode cX1_collide 1 = .ok (.istore_n 2, 1) := by decide +kernel
theorem dX1_collide_2 : decode cX1_collide 2 = .ok (.iload_n 2, 1) := by decide +kernel
theorem dX1_collide_3 : decode cX1_collide 3 = .ok (.aload_n 1, 1) := by decide +kernel
theorem dX1_collide_4 : decode cX1_collide 4 = .ok (.getfield 61, 3) := by decide +kernel
theorem dX1_collide_7 : decode cX1_collide 7 = .ok (.if_icmp .ge 16, 3) := by decide +kernel
theorem dX1_collide_10 : decode cX1_collide 10 = .ok (.aload_n 0, 1) := by decide +kernel
theorem dX1_collide_11 : decode cX1_collide 11 = .ok (.getfield 15, 3) := by decide +kernel
theorem dX1_collide_14 : decode cX1_collide 14 = .ok (.iload_n 2, 1) := by decide +kernel
theorem dX1_collide_15 : decode cX1_collide 15 = .ok (.iconst 0, 1) := by decide +kernel
theorem dX1_collide_16 : decode cX1_collide 16 = .ok (.iastore, 1) := by decide +kernel
theorem dX1_collide_17 : decode cX1_collide 17 = .ok (.iinc 2 1, 3) := by decide +kernel
theorem dX1_collide_20 : decode cX1_collide 20 = .ok (.goto (-18), 3) := by decide +kernel
theorem dX1_collide_23 : decode cX1_collide 23 = .ok (.iconst 0, 1) := by decide +kernel
theorem dX1_collide_24 : decode cX1_collide 24 = .ok (.istore_n 2, 1) := by decide +kernel
theorem dX1_collide_25 : decode cX1_collide 25 = .ok (.iload_n 2, 1) := by decide +kernel
theorem dX1_collide_26 : decode cX1_collide 26 = .ok (.aload_n 1, 1) := by decide +kernel
theorem dX1_collide_27 : decode cX1_collide 27 = .ok (.getfield 18, 3) := by decide +kernel
theorem dX1_collide_30 : decode cX1_collide 30 = .ok (.getfield 24, 3) := by decide +kernel
theorem dX1_collide_33 : decode cX1_collide 33 = .ok (.if_icmp .ge 33, 3) := by decide +kernel
theorem dX1_collide_36 : decode cX1_collide 36 = .ok (.aload_n 1, 1) := by decide +kernel
theorem dX1_collide_37 : decode cX1_collide 37 = .ok (.getfield 38, 3) := by decide +kernel
theorem dX1_collide_40 : decode cX1_collide 40 = .ok (.iload_n 2, 1) := by decide +kernel
theorem dX1_collide_41 : decode cX1_collide 41 = .ok (.iaload, 1) := by decide +kernel
theorem dX1_collide_42 : decode cX1_collide 42 = .ok (.istore_n 3, 1) := by decide +kernel
theorem dX1_collide_43 : decode cX1_collide 43 = .ok (.iload_n 3, 1) := by decide +kernel
theorem dX1_collide_44 : decode cX1_collide 44 = .ok (.iconst (-1), 1) := by decide +kernel
theorem dX1_collide_45 : decode cX1_collide 45 = .ok (.if_icmp .eq 15, 3) := by decide +kernel
theorem dX1_collide_48 : decode cX1_collide 48 = .ok (.aload_n 0, 1) := by decide +kernel
theorem dX1_collide_49 : decode cX1_collide 49 = .ok (.iload_n 3, 1) := by decide +kernel
theorem dX1_collide_50 : decode cX1_collide 50 = .ok (.aload_n 0, 1) := by decide +kernel
theorem dX1_collide_51 : decode cX1_collide 51 = .ok (.aload_n 1, 1) := by decide +kernel
theorem dX1_collide_52 : decode cX1_collide 52 = .ok (.iload_n 2, 1) := by decide +kernel
theorem dX1_collide_53 : decode cX1_collide 53 = .ok (.iload_n 3, 1) := by decide +kernel
theorem dX1_collide_54 : decode cX1_collide 54 = .ok (.invokevirtual 64, 3) := by decide +kernel
theorem dX1_collide_57 : decode cX1_collide 57 = .ok (.invokevirtual 68, 3) := by decide +kernel
theorem dX1_collide_60 : decode cX1_collide 60 = .ok (.iinc 2 1, 3) := by decide +kernel
theorem dX1_collide_63 : decode cX1_collide 63 = .ok (.goto (-38), 3) := by decide +kernel
theorem dX1_collide_66 : decode cX1_collide 66 = .ok (.return_, 1) := by decide +kernel
theorem dX1_blockedIn_0 : decode cX1_blockedIn 0 = .ok (.aload_n 0, 1) := by decide +kernel
theorem dX1_blockedIn_1 : decode cX1_blockedIn 1 = .ok (.aload_n 1, 1) := by decide +kernel
theorem dX1_blockedIn_2 : decode cX1_blockedIn 2 = .ok (.getfield 18, 3) := by decide +kernel
theorem dX1_blockedIn_5 : decode cX1_blockedIn 5 = .ok (.iload_n 2, 1) := by decide +kernel
theorem dX1_blockedIn_6 : decode cX1_blockedIn 6 = .ok (.invokevirtual 34, 3) := by decide +kernel
theorem dX1_blockedIn_9 : decode cX1_blockedIn 9 = .ok (.aload_n 1, 1) := by decide +kernel
theorem dX1_blockedIn_10 : decode cX1_blockedIn 10 = .ok (.getfield 72, 3) := by decide +kernel
theorem dX1_blockedIn_13 : decode cX1_blockedIn 13 = .ok (.aload_n 1, 1) := by decide +kernel
theorem dX1_blockedIn_14 : decode cX1_blockedIn 14 = .ok (.getfield 75, 3) := by decide +kernel
theorem dX1_blockedIn_17 : decode cX1_blockedIn 17 = .ok (.iload_n 3, 1) := by decide +kernel
theorem dX1_blockedIn_18 : decode cX1_blockedIn 18 = .ok (.iaload, 1) := by decide +kernel
theorem dX1_blockedIn_19 : decode cX1_blockedIn 19 = .ok (.iaload, 1) := by decide +kernel
theorem dX1_blockedIn_20 : decode cX1_blockedIn 20 = .ok (.iand, 1) := by decide +kernel
theorem dX1_blockedIn_21 : decode cX1_blockedIn 21 = .ok (.istore 4, 2) := by decide +kernel
theorem dX1_blockedIn_23 : decode cX1_blockedIn 23 = .ok (.aload_n 1, 1) := by decide +kernel
theorem dX1_blockedIn_24 : decode cX1_blockedIn 24 = .ok (.getfield 18, 3) := by decide +kernel
theorem dX1_blockedIn_27 : decode cX1_blockedIn 27 = .ok (.getfield 78, 3) := by decide +kernel
theorem dX1_blockedIn_30 : decode cX1_blockedIn 30 = .ok (.iload_n 2, 1) := by decide +kernel
theorem dX1_blockedIn_31 : decode cX1_blockedIn 31 = .ok (.iaload, 1) := by decide +kernel
theorem dX1_blockedIn_32 : decode cX1_blockedIn 32 = .ok (.iconst 1, 1) := by decide +kernel
theorem dX1_blockedIn_33 : decode cX1_blockedIn 33 = .ok (.if_icmp .ne 22, 3) := by decide +kernel
theorem dX1_blockedIn_36 : decode cX1_blockedIn 36 = .ok (.iload 4, 2) := by decide +kernel
theorem dX1_blockedIn_38 : decode cX1_blockedIn 38 = .ok (.aload_n 1, 1) := by decide +kernel
theorem dX1_blockedIn_39 : decode cX1_blockedIn 39 = .ok (.getfield 18, 3) := by decide +kernel
theorem dX1_blockedIn_42 : decode cX1_blockedIn 42 = .ok (.getfield 81, 3) := by decide +kernel
theorem dX1_blockedIn_45 : decode cX1_blockedIn 45 = .ok (.iload_n 2, 1) := by decide +kernel
theorem dX1_blockedIn_46 : decode cX1_blockedIn 46 = .ok (.iaload, 1) := by decide +kernel
theorem dX1_blockedIn_47 : decode cX1_blockedIn 47 = .ok (.invokestatic 84, 3) := by decide +kernel
theorem dX1_blockedIn_50 : decode cX1_blockedIn 50 = .ok (.iconst (-1), 1) := by decide +kernel
theorem dX1_blockedIn_51 : decode cX1_blockedIn 51 = .ok (.ixor, 1) := by decide +kernel
theorem dX1_blockedIn_52 : decode cX1_blockedIn 52 = .ok (.iand, 1) := by decide +kernel
theorem dX1_blockedIn_53 : decode cX1_blockedIn 53 = .ok (.istore 4, 2) := by decide +kernel
theorem dX1_blockedIn_55 : decode cX1_blockedIn 55 = .ok (.iload 4, 2) := by decide +kernel
theorem dX1_blockedIn_57 : decode cX1_blockedIn 57 = .ok (.iload_n 3, 1) := by decide +kernel
theorem dX1_blockedIn_58 : decode cX1_blockedIn 58 = .ok (.invokestatic 84, 3) := by decide +kernel
theorem dX1_blockedIn_61 : decode cX1_blockedIn 61 = .ok (.iconst (-1), 1) := by decide +kernel
theorem dX1_blockedIn_62 : decode cX1_blockedIn 62 = .ok (.ixor, 1) := by decide +kernel
theorem dX1_blockedIn_63 : decode cX1_blockedIn 63 = .ok (.iand, 1) := by decide +kernel
theorem dX1_blockedIn_64 : decode cX1_blockedIn 64 = .ok (.ireturn, 1) := by decide +kernel
theorem dX1_blockAll_0 : decode cX1_blockAll 0 = .ok (.aload_n 0, 1) := by decide +kernel
theorem dX1_blockAll_1 : decode cX1_blockAll 1 = .ok (.getfield 15, 3) := by decide +kernel
theorem dX1_blockAll_4 : decode cX1_blockAll 4 = .ok (.iload_n 1, 1) := by decide +kernel
theorem dX1_blockAll_5 : decode cX1_blockAll 5 = .ok (.dup2, 1) := by decide +kernel
theorem dX1_blockAll_6 : decode cX1_blockAll 6 = .ok (.iaload, 1) := by decide +kernel
theorem dX1_blockAll_7 : decode cX1_blockAll 7 = .ok (.iload_n 2, 1) := by decide +kernel
theorem dX1_blockAll_8 : decode cX1_blockAll 8 = .ok (.ior, 1) := by decide +kernel
theorem dX1_blockAll_9 : decode cX1_blockAll 9 = .ok (.iastore, 1) := by decide +kernel
theorem dX1_blockAll_10 : decode cX1_blockAll 10 = .ok (.iconst 0, 1) := by decide +kernel
theorem dX1_blockAll_11 : decode cX1_blockAll 11 = .ok (.istore_n 3, 1) := by decide +kernel
theorem dX1_blockAll_12 : decode cX1_blockAll 12 = .ok (.iload_n 3, 1) := by decide +kernel
theorem dX1_blockAll_13 : decode cX1_blockAll 13 = .ok (.bipush 24, 2) := by decide +kernel
theorem dX1_blockAll_15 : decode cX1_blockAll 15 = .ok (.if_icmp .ge 30, 3) := by decide +kernel
theorem dX1_blockAll_18 : decode cX1_blockAll 18 = .ok (.iload_n 2, 1) := by decide +kernel
theorem dX1_blockAll_19 : decode cX1_blockAll 19 = .ok (.iload_n 3, 1) := by decide +kernel
theorem dX1_blockAll_20 : decode cX1_blockAll 20 = .ok (.invokestatic 87, 3) := by decide +kernel
theorem dX1_blockAll_23 : decode cX1_blockAll 23 = .ok (.ifCond .eq 16, 3) := by decide +kernel
theorem dX1_blockAll_26 : decode cX1_blockAll 26 = .ok (.aload_n 0, 1) := by decide +kernel
theorem dX1_blockAll_27 : decode cX1_blockAll 27 = .ok (.getfield 15, 3) := by decide +kernel
theorem dX1_blockAll_30 : decode cX1_blockAll 30 = .ok (.iload_n 3, 1) := by decide +kernel
theorem dX1_blockAll_31 : decode cX1_blockAll 31 = .ok (.dup2, 1) := by decide +kernel
theorem dX1_blockAll_32 : decode cX1_blockAll 32 = .ok (.iaload, 1) := by decide +kernel
theorem dX1_blockAll_33 : decode cX1_blockAll 33 = .ok (.iload_n 1, 1) := by decide +kernel
theorem dX1_blockAll_34 : decode cX1_blockAll 34 = .ok (.invokestatic 84, 3) := by decide +kernel
theorem dX1_blockAll_37 : decode cX1_blockAll 37 = .ok (.ior, 1) := by decide +kernel
theorem dX1_blockAll_38 : decode cX1_blockAll 38 = .ok (.iastore, 1) := by decide +kernel
theorem dX1_blockAll_39 : decode cX1_blockAll 39 = .ok (.iinc 3 1, 3) := by decide +kernel
theorem dX1_blockAll_42 : decode cX1_blockAll 42 = .ok (.goto (-30), 3) := by decide +kernel
theorem dX1_blockAll_45 : decode cX1_blockAll 45 = .ok (.return_, 1) := by decide +kernel
theorem dX2_init_0 : decode cX2_init 0 = .ok (.aload_n 0, 1) := by decide +kernel
theorem dX2_init_1 : decode cX2_init 1 = .ok (.invokespecial 3, 3) := by decide +kernel
theorem dX2_init_4 : decode cX2_init 4 = .ok (.aload_n 0, 1) := by decide +kernel
theorem dX2_init_5 : decode cX2_init 5 = .ok (.iconst 2, 1) := by decide +kernel
theorem dX2_init_6 : decode cX2_init 6 = .ok (.newarray .int, 2) := by decide +kernel
theorem dX2_init_8 : decode cX2_init 8 = .ok (.putfield 9, 3) := by decide +kernel
theorem dX2_init_11 : decode cX2_init 11 = .ok (.aload_n 0, 1) := by decide +kernel
theorem dX2_init_12 : decode cX2_init 12 = .ok (.bipush 24, 2) := by decide +kernel
theorem dX2_init_14 : decode cX2_init 14 = .ok (.newarray .int, 2) := by decide +kernel
theorem dX2_init_16 : decode cX2_init 16 = .ok (.putfield 15, 3) := by decide +kernel
