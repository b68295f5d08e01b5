theorem dX8_init_0 : decode cX8_init 0 = .ok (.aload_n 0, 1) := by decide +kernel
theorem dX8_init_1 : decode cX8_init 1 = .ok (.invokespecial 1, 3) := by decide +kernel
theorem dX8_init_4 : decode cX8_init 4 = .ok (.aload_n 0, 1) := by decide +kernel
theorem dX8_init_5 : decode cX8_init 5 = .ok (.bipush 24, 2) := by decide +kernel
theorem dX8_init_7 : decode cX8_init 7 = .ok (.newarray .int, 2) := by decide +kernel
theorem dX8_init_9 : decode cX8_init 9 = .ok (.putfield 7, 3) := by decide +kernel
theorem dX8_init_12 : decode cX8_init 12 = .ok (.aload_n 0, 1) := by decide +kernel
theorem dX8_init_13 : decode cX8_init 13 = .ok (.bipush 60, 2) := by decide +kernel
theorem dX8_init_15 : decode cX8_init 15 = .ok (.newarray .int, 2) := by decide +kernel
theorem dX8_init_17 : decode cX8_init 17 = .ok (.putfield 13, 3) := by decide +kernel
theorem dX8_init_20 : decode cX8_init 20 = .ok (.aload_n 0, 1) := by decide +kernel
theorem dX8_init_21 : decode cX8_init 21 = .ok (.bipush 60, 2) := by decide +kernel
theorem dX8_init_23 : decode cX8_init 23 = .ok (.newarray .int, 2) := by decide +kernel
theorem dX8_init_25 : decode cX8_init 25 = .ok (.putfield 16, 3) := by decide +kernel
theorem dX8_init_28 : decode cX8_init 28 = .ok (.aload_n 0, 1) := by decide +kernel
theorem dX8_init_29 : decode cX8_init 29 = .ok (.bipush 60, 2) := by decide +kernel
theorem dX8_init_31 : decode cX8_init 31 = .ok (.newarray .int, 2) := by decide +kernel
theorem dX8_init_33 : decode cX8_init 33 = .ok (.putfield 19, 3) := by decide +kernel
theorem dX8_init_36 : decode cX8_init 36 = .ok (.aload_n 0, 1) := by decide +kernel
theorem dX8_init_37 : decode cX8_init 37 = .ok (.bipush 60, 2) := by decide +kernel
theorem dX8_init_39 : decode cX8_init 39 = .ok (.newarray .int, 2) := by decide +kernel
theorem dX8_init_41 : decode cX8_init 41 = .ok (.putfield 22, 3) := by decide +kernel
theorem dX8_init_44 : decode cX8_init 44 = .ok (.aload_n 0, 1) := by decide +kernel
theorem dX8_init_45 : decode cX8_init 45 = .ok (.iconst 2, 1) := by decide +kernel
theorem dX8_init_46 : decode cX8_init 46 = .ok (.newarray .int, 2) := by decide +kernel
theorem dX8_init_48 : decode cX8_init 48 = .ok (.putfield 25, 3) := by decide +kernel
theorem dX8_init_51 : decode cX8_init 51 = .ok (.aload_n 0, 1) := by decide +kernel
theorem dX8_init_52 : decode cX8_init 52 = .ok (.bipush 64, 2) := by decide +kernel
theorem dX8_init_54 : decode cX8_init 54 = .ok (.newarray .int, 2) := by decide +kernel
theorem dX8_init_56 : decode cX8_init 56 = .ok (.putfield 28, 3) := by decide +kernel
theorem dX8_init_59 : decode cX8_init 59 = .ok (.aload_n 0, 1) := by decide +kernel
theorem dX8_init_60 : decode cX8_init 60 = .ok (.bipush 60, 2) := by decide +kernel
theorem dX8_init_62 : decode cX8_init 62 = .ok (.newarray .int, 2) := by decide +kernel
theorem dX8_init_64 : decode cX8_init 64 = .ok (.putfield 31, 3) := by decide +kernel
theorem dX8_init_67 : decode cX8_init 67 = .ok (.aload_n 0, 1) := by decide +kernel
theorem dX8_init_68 : decode cX8_init 68 = .ok (.bipush 60, 2) := by decide +kernel
theorem dX8_init_70 : decode cX8_init 70 = .ok (.newarray .int, 2) := by decide +kernel
theorem dX8_init_72 : decode cX8_init 72 = .ok (.putfield 34, 3) := by decide +kernel
theorem dX8_init_75 : decode cX8_init 75 = .ok (.aload_n 0, 1) := by decide +kernel
theorem dX8_init_76 : decode cX8_init 76 = .ok (.bipush 24, 2) := by decide +kernel
theorem dX8_init_78 : decode cX8_init 78 = .ok (.newarray .int, 2) := by decide +kernel
theorem dX8_init_80 : decode cX8_init 80 = .ok (.putfield 37, 3) := by decide +kernel
theorem dX8_init_83 : decode cX8_init 83 = .ok (.aload_n 0, 1) := by decide +kernel
theorem dX8_init_84 : decode cX8_init 84 = .ok (.bipush 24, 2) := by decide +kernel
theorem dX8_init_86 : decode cX8_init 86 = .ok (.newarray .int, 2) := by decide +kernel
theorem dX8_init_88 : decode cX8_init 88 = .ok (.putfield 40, 3) := by decide +kernel
theorem dX8_init_91 : decode cX8_init 91 = .ok (.aload_n 0, 1) := by decide +kernel
theorem dX8_init_92 : decode cX8_init 92 = .ok (.bipush 24, 2) := by decide +kernel
theorem dX8_init_94 : decode cX8_init 94 = .ok (.newarray .int, 2) := by decide +kernel
theorem dX8_init_96 : decode cX8_init 96 = .ok (.putfield 43, 3) := by decide +kernel
theorem dX8_init_99 : decode cX8_init 99 = .ok (.aload_n 0, 1) := by decide +kernel
theorem dX8_init_100 : decode cX8_init 100 = .ok (.bipush 24, 2) := by decide +kernel
theorem dX8_init_102 : decode cX8_init 102 = .ok (.newarray .int, 2) := by decide +kernel
theorem dX8_init_104 : decode cX8_init 104 = .ok (.putfield 46, 3) := by decide +kernel
theorem dX8_init_107 : decode cX8_init 107 = .ok (.aload_n 0, 1) := by decide +kernel
theorem dX8_init_108 : decode cX8_init 108 = .ok (.sipush 3200, 3) := by decide +kernel
theorem dX8_init_111 : decode cX8_init 111 = .ok (.newarray .int, 2) := by decide +kernel
theorem dX8_init_113 : decode cX8_init 113 = .ok (.putfield 49, 3) := by decide +kernel
theorem dX8_init_116 : decode cX8_init 116 = .ok (.aload_n 0, 1) := by decide +kernel
theorem dX8_init_117 : decode cX8_init 117 = .ok (.iconst 2, 1) := by decide +kernel
theorem dX8_init_118 : decode cX8_init 118 = .ok (.newarray .int, 2) := by decide +kernel
theorem dX8_init_120 : decode cX8_init 120 = .ok (.putfield 52, 3) := by decide +kernel
theorem dX8_init_123 : decode cX8_init 123 = .ok (.aload_n 0, 1) := by decide +kernel
theorem dX8_init_124 : decode cX8_init 124 = .ok (.bipush 62, 2) := by decide +kernel
theorem dX8_init_126 : decode cX8_init 126 = .ok (.newarray .int, 2) := by decide +kernel
theorem dX8_init_128 : decode cX8_init 128 = .ok (.putfield 55, 3) := by decide +kernel
theorem dX8_init_131 : decode cX8_init 131 = .ok (.aload_n 0, 1) := by decide +kernel
theorem dX8_init_132 : decode cX8_init 132 = .ok (.bipush 50, 2) := by decide +kernel
theorem dX8_init_134 : decode cX8_init 134 = .ok (.newarray .int, 2) := by decide +kernel
theorem dX8_init_136 : decode cX8_init 136 = .ok (.putfield 58, 3) := by decide +kernel
theorem dX8_init_139 : decode cX8_init 139 = .ok (.aload_n 0, 1) := by decide +kernel
theorem dX8_init_140 : decode cX8_init 140 = .ok (.bipush 64, 2) := by decide +kernel
theorem dX8_init_142 : decode cX8_init 142 = .ok (.newarray .int, 2) := by decide +kernel
theorem dX8_init_144 : decode cX8_init 144 = .ok (.putfield 61, 3) := by decide +kernel
theorem dX8_init_147 : decode cX8_init 147 = .ok (.aload_n 0, 1) := by decide +kernel
theorem dX8_init_148 : decode cX8_init 148 = .ok (.bipush 32, 2) := by decide +kernel
theorem dX8_init_150 : decode cX8_init 150 = .ok (.newarray .int, 2) := by decide +kernel
theorem dX8_init_152 : decode cX8_init 152 = .ok (.putfield 64, 3) := by decide +kernel
theorem dX8_init_155 : decode cX8_init 155 = .ok (.aload_n 0, 1) := by decide +kernel
theorem dX8_init_156 : decode cX8_init 156 = .ok (.bipush 64, 2) := by decide +kernel
theorem dX8_init_158 : decode cX8_init 158 = .ok (.newarray .int, 2) := by decide +kernel
theorem dX8_init_160 : decode cX8_init 160 = .ok (.putfield 67, 3) := by decide +kernel
theorem dX8_init_163 : decode cX8_init 163 = .ok (.aload_n 0, 1) := by decide +kernel
theorem dX8_init_164 : decode cX8_init 164 = .ok (.bipush 24, 2) := by decide +kernel
theorem dX8_init_166 : decode cX8_init 166 = .ok (.newarray .int, 2) := by decide +kernel
theorem dX8_init_168 : decode cX8_init 168 = .ok (.putfield 70, 3) := by decide +kernel
theorem dX8_init_171 : decode cX8_init 171 = .ok (.aload_n 0, 1) := by decide +kernel
theorem dX8_init_172 : decode cX8_init 172 = .ok (.iconst 2, 1) := by decide +kernel
theorem dX8_init_173 : decode cX8_init 173 = .ok (.newarray .int, 2) := by decide +kernel
theorem dX8_init_175 : decode cX8_init 175 = .ok (.putfield 73, 3) := by decide +kernel
theorem dX8_init_178 : decode cX8_init 178 = .ok (.aload_n 0, 1) := by decide +kernel
theorem dX8_init_179 : decode cX8_init 179 = .ok (.iconst 2, 1) := by decide +kernel
theorem dX8_init_180 : decode cX8_init 180 = .ok (.newarray .int, 2) := by decide +kernel
theorem dX8_init_182 : decode cX8_init 182 = .ok (.putfield 76, 3) := by decide +kernel
theorem dX8_init_185 : decode cX8_init 185 = .ok (.return_, 1) := by decide +kernel
theorem dX8_value_0 : decode cX8_value 0 = .ok (.iload_n 1, 1) := by decide +kernel
theorem dX8_value_1 : decode cX8_value 1 = .ok (.ifCond .lt 17, 3) := by decide +kernel
theorem dX8_value_4 : decode cX8_value 4 = .ok (.iload_n 1, 1) := by decide +kernel
theorem dX8_value_5 : decode cX8_value 5 = .ok (.iconst 1, 1) := by decide +kernel
theorem dX8_value_6 : decode cX8_value 6 = .ok (.if_icmp .gt 12, 3) := by decide +kernel
theorem dX8_value_9 : decode cX8_value 9 = .ok (.aload_n 0, 1) := by decide +kernel
theorem dX8_value_10 : decode cX8_value 10 = .ok (.getfield 79, 3) := by decide +kernel
theorem dX8_value_13 : decode cX8_value 13 = .ok (.bipush 24, 2) := by decide +kernel
theorem dX8_value_15 : decode cX8_value 15 = .ok (.if_icmp .ne 5, 3) := by decide +kernel
theorem dX8_value_18 : decode cX8_value 18 = .ok (.iconst (-1), 1) := by decide +kernel
theorem dX8_value_19 : decode cX8_value 19 = .ok (.ireturn, 1) := by decide +kernel
theorem dX8_value_20 : decode cX8_value 20 = .ok (.aload_n 0, 1) := by decide +kernel
theorem dX8_value_21 : decode cX8_value 21 = .ok (.getfield 7, 3) := by decide +kernel
theorem dX8_value_24 : decode cX8_value 24 = .ok (.aload_n 0, 1) := by decide +kernel
theorem dX8_value_25 : decode cX8_value 25 = .ok (.getfield 79, 3) := by decide +kernel
theorem dX8_value_28 : decode cX8_value 28 = .ok (.iload_n 1, 1) := by decide +kernel
theorem dX8_value_29 : decode cX8_value 29 = .ok (.iastore, 1) := by decide +kernel
theorem dX8_value_30 : decode cX8_value 30 = .ok (.aload_n 0, 1) := by decide +kernel
theorem dX8_value_31 : decode cX8_value 31 = .ok (.dup, 1) := by decide +kernel
theorem dX8_value_32 : decode cX8_value 32 = .ok (.getfield 79, 3) := by decide +kernel
theorem dX8_value_35 : decode cX8_value 35 = .ok (.iconst 1, 1) := by decide +kernel
theorem dX8_value_36 : decode cX8_value 36 = .ok (.iadd, 1) := by decide +kernel
theorem dX8_value_37 : decode cX8_value 37 = .ok (.putfield 79, 3) := by decide +kernel
theorem dX8_value_40 : decode cX8_value 40 = .ok (.aload_n 0, 1) := by decide +kernel
theorem dX8_value_41 : decode cX8_value 41 = .ok (.getfield 79, 3) := by decide +kernel
theorem dX8_value_44 : decode cX8_value 44 = .ok (.iconst 1, 1) := by decide +kernel
theorem dX8_value_45 : decode cX8_value 45 = .ok (.isub, 1) := by decide +kernel
theorem dX8_value_46 : decode cX8_value 46 = .ok (.ireturn, 1) := by decide +kernel
theorem dX8_isValue_0 : decode cX8_isValue 0 = .ok (.iload_n 1, 1) := by decide +kernel
theorem dX8_isValue_1 : decode cX8_isValue 1 = .ok (.ifCond .lt 15, 3) := by decide +kernel
theorem dX8_isValue_4 : decode cX8_isValue 4 = .ok (.iload_n 1, 1) := by decide +kernel
theorem dX8_isValue_5 : decode cX8_isValue 5 = .ok (.aload_n 0, 1) := by decide +kernel
theorem dX8_isValue_6 : decode cX8_isValue 6 = .ok (.getfield 79, 3) := by decide +kernel
theorem dX8_isValue_9 : decode cX8_isValue 9 = .ok (.if_icmp .ge 7, 3) := by decide +kernel
theorem dX8_isValue_12 : decode cX8_isValue 12 = .ok (.iconst 1, 1) := by decide +kernel
theorem dX8_isValue_13 : decode cX8_isValue 13 = .ok (.goto 4, 3) := by decide +kernel
theorem dX8_isValue_16 : decode cX8_isValue 16 = .ok (.iconst 0, 1) := by decide +kernel
theorem dX8_isValue_17 : decode cX8_isValue 17 = .ok (.ireturn, 1) := by decide +kernel
theorem dX8_isOf_0 : decode cX8_isOf 0 = .ok (.aload_n 0, 1) := by decide +kernel
theorem dX8_isOf_1 : decode cX8_isOf 1 = .ok (.iload_n 1, 1) := by decide +kernel
theorem dX8_isOf_2 : decode cX8_isOf 2 = .ok (.invokevirtual 83, 3) := by decide +kernel
theorem dX8_isOf_5 : decode cX8_isOf 5 = .ok (.ifCond .eq 17, 3) := by decide +kernel
theorem dX8_isOf_8 : decode cX8_isOf 8 = .ok (.aload_n 0, 1) := by decide +kernel
theorem dX8_isOf_9 : decode cX8_isOf 9 = .ok (.getfield 7, 3) := by decide +kernel
theorem dX8_isOf_12 : decode cX8_isOf 12 = .ok (.iload_n 1, 1) := by decide +kernel
theorem dX8_isOf_13 : decode cX8_isOf 13 = .ok (.iaload, 1) := by decide +kernel
theorem dX8_isOf_14 : decode cX8_isOf 14 = .ok (.iload_n 2, 1) := by decide +kernel
theorem dX8_isOf_15 : decode cX8_isOf 15 = .ok (.if_icmp .ne 7, 3) := by decide +kernel
theorem dX8_isOf_18 : decode cX8_isOf 18 = .ok (.iconst 1, 1) := by decide +kernel
theorem dX8_isOf_19 : decode cX8_isOf 19 = .ok (.goto 4, 3) := by decide +kernel
theorem dX8_isOf_22 : decode cX8_isOf 22 = .ok (.iconst 0, 1) := by decide +kernel
theorem dX8_isOf_23 : decode cX8_isOf 23 = .ok (.ireturn, 1) := by decide +kernel
theorem dX8_mayBe_0 : decode cX8_mayBe 0 = .ok (.iload_n 1, 1) := by decide +kernel
theorem dX8_mayBe_1 : decode cX8_mayBe 1 = .ok (.tableswitch 233 0 9 #[55, 61, 83, 83, 114, 148, 148, 183, 217, 55], 55) := by decide +kernel
theorem dX8_mayBe_56 : decode cX8_mayBe 56 = .ok (.aload_n 0, 1) := by decide +kernel
theorem dX8_mayBe_57 : decode cX8_mayBe 57 = .ok (.iload_n 2, 1) := by decide +kernel
theorem dX8_mayBe_58 : decode cX8_mayBe 58 = .ok (.invokevirtual 83, 3) := by decide +kernel
theorem dX8_mayBe_61 : decode cX8_mayBe 61 = .ok (.ireturn, 1) := by decide +kernel
theorem dX8_mayBe_62 : decode cX8_mayBe 62 = .ok (.aload_n 0, 1) := by decide +kernel
theorem dX8_mayBe_63 : decode cX8_mayBe 63 = .ok (.iload_n 2, 1) := by decide +kernel
theorem dX8_mayBe_64 : decode cX8_mayBe 64 = .ok (.invokevirtual 83, 3) := by decide +kernel
theorem dX8_mayBe_67 : decode cX8_mayBe 67 = .ok (.ifCond .eq 15, 3) := by decide +kernel
theorem dX8_mayBe_70 : decode cX8_mayBe 70 = .ok (.aload_n 0, 1) := by decide +kernel
theorem dX8_mayBe_71 : decode cX8_mayBe 71 = .ok (.iload_n 3, 1) := by decide +kernel
theorem dX8_mayBe_72 : decode cX8_mayBe 72 = .ok (.invokevirtual 83, 3) := by decide +kernel
theorem dX8_mayBe_75 : decode cX8_mayBe 75 = .ok (.ifCond .eq 7, 3) := by decide +kernel
theorem dX8_mayBe_78 : decode cX8_mayBe 78 = .ok (.iconst 1, 1) := by decide +kernel
theorem dX8_mayBe_79 : decode cX8_mayBe 79 = .ok (.goto 4, 3) := by decide +kernel
theorem dX8_mayBe_82 : decode cX8_mayBe 82 = .ok (.iconst 0, 1) := by decide +kernel
theorem dX8_mayBe_83 : decode cX8_mayBe 83 = .ok (.ireturn, 1) := by decide +kernel
theorem dX8_mayBe_84 : decode cX8_mayBe 84 = .ok (.aload_n 0, 1) := by decide +kernel
theorem dX8_mayBe_85 : decode cX8_mayBe 85 = .ok (.iload_n 2, 1) := by decide +kernel
theorem dX8_mayBe_86 : decode cX8_mayBe 86 = .ok (.invokevirtual 83, 3) := by decide +kernel
theorem dX8_mayBe_89 : decode cX8_mayBe 89 = .ok (.ifCond .eq 24, 3) := by decide +kernel
theorem dX8_mayBe_92 : decode cX8_mayBe 92 = .ok (.aload_n 0, 1) := by decide +kernel
theorem dX8_mayBe_93 : decode cX8_mayBe 93 = .ok (.iload_n 3, 1) := by decide +kernel
theorem dX8_mayBe_94 : decode cX8_mayBe 94 = .ok (.invokevirtual 83, 3) := by decide +kernel
theorem dX8_mayBe_97 : decode cX8_mayBe 97 = .ok (.ifCond .eq 16, 3) := by decide +kernel
theorem dX8_mayBe_100 : decode cX8_mayBe 100 = .ok (.aload_n 0, 1) := by decide +kernel
theorem dX8_mayBe_101 : decode cX8_mayBe 101 = .ok (.iload 4, 2) := by decide +kernel
theorem dX8_mayBe_103 : decode cX8_mayBe 103 = .ok (.invokevirtual 83, 3) := by decide +kernel
theorem dX8_mayBe_106 : decode cX8_mayBe 106 = .ok (.ifCond .eq 7, 3) := by decide +kernel
theorem dX8_mayBe_109 : decode cX8_mayBe 109 = .ok (.iconst 1, 1) := by decide +kernel
theorem dX8_mayBe_110 : decode cX8_mayBe 110 = .ok (.goto 4, 3) := by decide +kernel
theorem dX8_mayBe_113 : decode cX8_mayBe 113 = .ok (.iconst 0, 1) := by decide +kernel
theorem dX8_mayBe_114 : decode cX8_mayBe 114 = .ok (.ireturn, 1) := by decide +kernel
theorem dX8_mayBe_115 : decode cX8_mayBe 115 = .ok (.aload_n 0, 1) := by decide +kernel
theorem dX8_mayBe_116 : decode cX8_mayBe 116 = .ok (.iload_n 2, 1) := by decide +kernel
theorem dX8_mayBe_117 : decode cX8_mayBe 117 = .ok (.iconst 0, 1) := by decide +kernel
theorem dX8_mayBe_118 : decode cX8_mayBe 118 = .ok (.invokevirtual 87, 3) := by decide +kernel
theorem dX8_mayBe_121 : decode cX8_mayBe 121 = .ok (.ifCond .eq 26, 3) := by decide +kernel
theorem dX8_mayBe_124 : decode cX8_mayBe 124 = .ok (.aload_n 0, 1) := by decide +kernel
theorem dX8_mayBe_125 : decode cX8_mayBe 125 = .ok (.iload_n 3, 1) := by decide +kernel
theorem dX8_mayBe_126 : decode cX8_mayBe 126 = .ok (.iconst 0, 1) := by decide +kernel
theorem dX8_mayBe_127 : decode cX8_mayBe 127 = .ok (.invokevirtual 87, 3) := by decide +kernel
theorem dX8_mayBe_130 : decode cX8_mayBe 130 = .ok (.ifCond .eq 17, 3) := by decide +kernel
theorem dX8_mayBe_133 : decode cX8_mayBe 133 = .ok (.aload_n 0, 1) := by decide +kernel
theorem dX8_mayBe_134 : decode cX8_mayBe 134 = .ok (.iload 4, 2) := by decide +kernel
theorem dX8_mayBe_136 : decode cX8_mayBe 136 = .ok (.iconst 0, 1) := by decide +kernel
theorem dX8_mayBe_137 : decode cX8_mayBe 137 = .ok (.invokevirtual 87, 3) := by decide +kernel
theorem dX8_mayBe_140 : decode cX8_mayBe 140 = .ok (.ifCond .eq 7, 3) := by decide +kernel
theorem dX8_mayBe_143 : decode cX8_mayBe 143 = .ok (.iconst 1, 1) := by decide +kernel
theorem dX8_mayBe_144 : decode cX8_mayBe 144 = .ok (.goto 4, 3) := by decide +kernel
theorem dX8_mayBe_147 : decode cX8_mayBe 147 = .ok (.iconst 0, 1) := by decide +kernel
theorem dX8_mayBe_148 : decode cX8_mayBe 148 = .ok (.ireturn, 1) := by decide +kernel
theorem dX8_mayBe_149 : decode cX8_mayBe 149 = .ok (.aload_n 0, 1) := by decide +kernel
theorem dX8_mayBe_150 : decode cX8_mayBe 150 = .ok (.iload_n 2, 1) := by decide +kernel
theorem dX8_mayBe_151 : decode cX8_mayBe 151 = .ok (.invokevirtual 83, 3) := by decide +kernel
theorem dX8_mayBe_154 : decode cX8_mayBe 154 = .ok (.ifCond .eq 28, 3) := by decide +kernel
theorem dX8_mayBe_157 : decode cX8_mayBe 157 = .ok (.aload_n 0, 1) := by decide +kernel
theorem dX8_mayBe_158 : decode cX8_mayBe 158 = .ok (.iload_n 3, 1) := by decide +kernel
theorem dX8_mayBe_159 : decode cX8_mayBe 159 = .ok (.iconst 1, 1) := by decide +kernel
theorem dX8_mayBe_160 : decode cX8_mayBe 160 = .ok (.invokevirtual 87, 3) := by decide +kernel
theorem dX8_mayBe_163 : decode cX8_mayBe 163 = .ok (.ifCond .eq 19, 3) := by decide +kernel
theorem dX8_mayBe_166 : decode cX8_mayBe 166 = .ok (.iload 4, 2) := by decide +kernel
theorem dX8_mayBe_168 : decode cX8_mayBe 168 = .ok (.ifCond .lt 14, 3) := by decide +kernel
theorem dX8_mayBe_171 : decode cX8_mayBe 171 = .ok (.iload 4, 2) := by decide +kernel
theorem dX8_mayBe_173 : decode cX8_mayBe 173 = .ok (.bipush 64, 2) := by decide +kernel
theorem dX8_mayBe_175 : decode cX8_mayBe 175 = .ok (.if_icmp .ge 7, 3) := by decide +kernel
theorem dX8_mayBe_178 : decode cX8_mayBe 178 = .ok (.iconst 1, 1) := by decide +kernel
theorem dX8_mayBe_179 : decode cX8_mayBe 179 = .ok (.goto 4, 3) := by decide +kernel
theorem dX8_mayBe_182 : decode cX8_mayBe 182 = .ok (.iconst 0, 1) := by decide +kernel
theorem dX8_mayBe_183 : decode cX8_mayBe 183 = .ok (.ireturn, 1) := by decide +kernel
theorem dX8_mayBe_184 : decode cX8_mayBe 184 = .ok (.aload_n 0, 1) := by decide +kernel
theorem dX8_mayBe_185 : decode cX8_mayBe 185 = .ok (.iload_n 2, 1) := by decide +kernel
theorem dX8_mayBe_186 : decode cX8_mayBe 186 = .ok (.invokevirtual 83, 3) := by decide +kernel
theorem dX8_mayBe_189 : decode cX8_mayBe 189 = .ok (.ifCond .eq 27, 3) := by decide +kernel
theorem dX8_mayBe_192 : decode cX8_mayBe 192 = .ok (.aload_n 0, 1) := by decide +kernel
theorem dX8_mayBe_193 : decode cX8_mayBe 193 = .ok (.iload_n 3, 1) := by decide +kernel
theorem dX8_mayBe_194 : decode cX8_mayBe 194 = .ok (.invokevirtual 83, 3) := by decide +kernel
theorem dX8_mayBe_197 : decode cX8_mayBe 197 = .ok (.ifCond .eq 19, 3) := by decide +kernel
theorem dX8_mayBe_200 : decode cX8_mayBe 200 = .ok (.iload 4, 2) := by decide +kernel
theorem dX8_mayBe_202 : decode cX8_mayBe 202 = .ok (.ifCond .lt 14, 3) := by decide +kernel
theorem dX8_mayBe_205 : decode cX8_mayBe 205 = .ok (.iload 4, 2) := by decide +kernel
theorem dX8_mayBe_207 : decode cX8_mayBe 207 = .ok (.bipush 60, 2) := by decide +kernel
theorem dX8_mayBe_209 : decode cX8_mayBe 209 = .ok (.if_icmp .gt 7, 3) := by decide +kernel
theorem dX8_mayBe_212 : decode cX8_mayBe 212 = .ok (.iconst 1, 1) := by decide +kernel
theorem dX8_mayBe_213 : decode cX8_mayBe 213 = .ok (.goto 4, 3) := by decide +kernel
theorem dX8_mayBe_216 : decode cX8_mayBe 216 = .ok (.iconst 0, 1) := by decide +kernel
theorem dX8_mayBe_217 : decode cX8_mayBe 217 = .ok (.ireturn, 1) := by decide +kernel
theorem dX8_mayBe_218 : decode cX8_mayBe 218 = .ok (.iload_n 2, 1) := by decide +kernel
theorem dX8_mayBe_219 : decode cX8_mayBe 219 = .ok (.ifCond .lt 13, 3) := by decide +kernel
theorem dX8_mayBe_222 : decode cX8_mayBe 222 = .ok (.iload_n 2, 1) := by decide +kernel
theorem dX8_mayBe_223 : decode cX8_mayBe 223 = .ok (.bipush 60, 2) := by decide +kernel
theorem dX8_mayBe_225 : decode cX8_mayBe 225 = .ok (.if_icmp .gt 7, 3) := by decide +kernel
theorem dX8_mayBe_228 : decode cX8_mayBe 228 = .ok (.iconst 1, 1) := by decide +kernel
theorem dX8_mayBe_229 : decode cX8_mayBe 229 = .ok (.goto 4, 3) := by decide +kernel
theorem dX8_mayBe_232 : decode cX8_mayBe 232 = .ok (.iconst 0, 1) := by decide +kernel
theorem dX8_mayBe_233 : decode cX8_mayBe 233 = .ok (.ireturn, 1) := by decide +kernel
theorem dX8_mayBe_234 : decode cX8_mayBe 234 = .ok (.iload_n 1, 1) := by decide +kernel
theorem dX8_mayBe_235 : decode cX8_mayBe 235 = .ok (.bipush 10, 2) := by decide +kernel
theorem dX8_mayBe_237 : decode cX8_mayBe 237 = .ok (.if_icmp .ne 7, 3) := by decide +kernel
theorem dX8_mayBe_240 : decode cX8_mayBe 240 = .ok (.iconst 1, 1) := by decide +kernel
theorem dX8_mayBe_241 : decode cX8_mayBe 241 = .ok (.goto 4, 3) := by decide +kernel
theorem dX8_mayBe_244 : decode cX8_mayBe 244 = .ok (.iconst 0, 1) := by decide +kernel
theorem dX8_mayBe_245 : decode cX8_mayBe 245 = .ok (.ireturn, 1) := by decide +kernel
theorem dX8_put_0 : decode cX8_put 0 = .ok (.aload_n 0, 1) := by decide +kernel
theorem dX8_put_1 : decode cX8_put 1 = .ok (.iload_n 1, 1) := by decide +kernel
theorem dX8_put_2 : decode cX8_put 2 = .ok (.iload_n 2, 1) := by decide +kernel
theorem dX8_put_3 : decode cX8_put 3 = .ok (.iload_n 3, 1) := by decide +kernel
theorem dX8_put_4 : decode cX8_put 4 = .ok (.iload 4, 2) := by decide +kernel
theorem dX8_put_6 : decode cX8_put 6 = .ok (.invokevirtual 91, 3) := by decide +kernel
theorem dX8_put_9 : decode cX8_put 9 = .ok (.ifCond .eq 12, 3) := by decide +kernel
theorem dX8_put_12 : decode cX8_put 12 = .ok (.aload_n 0, 1) := by decide +kernel
theorem dX8_put_13 : decode cX8_put 13 = .ok (.getfield 95, 3) := by decide +kernel
theorem dX8_put_16 : decode cX8_put 16 = .ok (.bipush 60, 2) := by decide +kernel
theorem dX8_put_18 : decode cX8_put 18 = .ok (.if_icmp .ne 5, 3) := by decide +kernel
theorem dX8_put_21 : decode cX8_put 21 = .ok (.iconst (-1), 1) := by decide +kernel
theorem dX8_put_22 : decode cX8_put 22 = .ok (.ireturn, 1) := by decide +kernel
theorem dX8_put_23 : decode cX8_put 23 = .ok (.aload_n 0, 1) := by decide +kernel
theorem dX8_put_24 : decode cX8_put 24 = .ok (.getfield 13, 3) := by decide +kernel
theorem dX8_put_27 : decode cX8_put 27 = .ok (.aload_n 0, 1) := by decide +kernel
theorem dX8_put_28 : decode cX8_put 28 = .ok (.getfield 95, 3) := by decide +kernel
theorem dX8_put_31 : decode cX8_put 31 = .ok (.iload_n 1, 1) := by decide +kernel
theorem dX8_put_32 : decode cX8_put 32 = .ok (.iastore, 1) := by decide +kernel
theorem dX8_put_33 : decode cX8_put 33 = .ok (.aload_n 0, 1) := by decide +kernel
theorem dX8_put_34 : decode cX8_put 34 = .ok (.getfield 16, 3) := by decide +kernel
theorem dX8_put_37 : decode cX8_put 37 = .ok (.aload_n 0, 1) := by decide +kernel
theorem dX8_put_38 : decode cX8_put 38 = .ok (.getfield 95, 3) := by decide +kernel
theorem dX8_put_41 : decode cX8_put 41 = .ok (.iload_n 2, 1) := by decide +kernel
theorem dX8_put_42 : decode cX8_put 42 = .ok (.iastore, 1) := by decide +kernel
theorem dX8_put_43 : decode cX8_put 43 = .ok (.aload_n 0, 1) := by decide +kernel
theorem dX8_put_44 : decode cX8_put 44 = .ok (.getfield 19, 3) := by decide +kernel
theorem dX8_put_47 : decode cX8_put 47 = .ok (.aload_n 0, 1) := by decide +kernel
theorem dX8_put_48 : decode cX8_put 48 = .ok (.getfield 95, 3) := by decide +kernel
theorem dX8_put_51 : decode cX8_put 51 = .ok (.iload_n 3, 1) := by decide +kernel
theorem dX8_put_52 : decode cX8_put 52 = .ok (.iastore, 1) := by decide +kernel
theorem dX8_put_53 : decode cX8_put 53 = .ok (.aload_n 0, 1) := by decide +kernel
theorem dX8_put_54 : decode cX8_put 54 = .ok (.getfield 22, 3) := by decide +kernel
theorem dX8_put_57 : decode cX8_put 57 = .ok (.aload_n 0, 1) := by decide +kernel
theorem dX8_put_58 : decode cX8_put 58 = .ok (.getfield 95, 3) := by decide +kernel
theorem dX8_put_61 : decode cX8_put 61 = .ok (.iload 4, 2) := by decide +kernel
theorem dX8_put_63 : decode cX8_put 63 = .ok (.iastore, 1) := by decide +kernel
theorem dX8_put_64 : decode cX8_put 64 = .ok (.aload_n 0, 1) := by decide +kernel
theorem dX8_put_65 : decode cX8_put 65 = .ok (.dup, 1) := by decide +kernel
theorem dX8_put_66 : decode cX8_put 66 = .ok (.getfield 95, 3) := by decide +kernel
theorem dX8_put_69 : decode cX8_put 69 = .ok (.iconst 1, 1) := by decide +kernel
theorem dX8_put_70 : decode cX8_put 70 = .ok (.iadd, 1) := by decide +kernel
theorem dX8_put_71 : decode cX8_put 71 = .ok (.putfield 95, 3) := by decide +kernel
theorem dX8_put_74 : decode cX8_put 74 = .ok (.aload_n 0, 1) := by decide +kernel
theorem dX8_put_75 : decode cX8_put 75 = .ok (.getfield 95, 3) := by decide +kernel
theorem dX8_put_78 : decode cX8_put 78 = .ok (.iconst 1, 1) := by decide +kernel
theorem dX8_put_79 : decode cX8_put 79 = .ok (.isub, 1) := by decide +kernel
theorem dX8_put_80 : decode cX8_put 80 = .ok (.ireturn, 1) := by decide +kernel
theorem dX8_clear_0 : decode cX8_clear 0 = .ok (.aload_n 0, 1) := by decide +kernel
theorem dX8_clear_1 : decode cX8_clear 1 = .ok (.getfield 95, 3) := by decide +kernel
theorem dX8_clear_4 : decode cX8_clear 4 = .ok (.istore_n 1, 1) := by decide +kernel
theorem dX8_clear_5 : decode cX8_clear 5 = .ok (.aload_n 0, 1) := by decide +kernel
theorem dX8_clear_6 : decode cX8_clear 6 = .ok (.iconst 0, 1) := by decide +kernel
theorem dX8_clear_7 : decode cX8_clear 7 = .ok (.putfield 95, 3) := by decide +kernel
theorem dX8_clear_10 : decode cX8_clear 10 = .ok (.iload_n 1, 1) := by decide +kernel
theorem dX8_clear_11 : decode cX8_clear 11 = .ok (.ireturn, 1) := by decide +kernel
theorem dX8_registers_0 : decode cX8_registers 0 = .ok (.iload_n 1, 1) := by decide +kernel
theorem dX8_registers_1 : decode cX8_registers 1 = .ok (.ifCond .lt 18, 3) := by decide +kernel
theorem dX8_registers_4 : decode cX8_registers 4 = .ok (.iload_n 1, 1) := by decide +kernel
theorem dX8_registers_5 : decode cX8_registers 5 = .ok (.iconst 1, 1) := by decide +kernel
theorem dX8_registers_6 : decode cX8_registers 6 = .ok (.if_icmp .gt 13, 3) := by decide +kernel
theorem dX8_registers_9 : decode cX8_registers 9 = .ok (.iload_n 2, 1) := by decide +kernel
theorem dX8_registers_10 : decode cX8_registers 10 = .ok (.ifCond .lt 9, 3) := by decide +kernel
theorem dX8_registers_13 : decode cX8_registers 13 = .ok (.iload_n 2, 1) := by decide +kernel
theorem dX8_registers_14 : decode cX8_registers 14 = .ok (.bipush 8, 2) := by decide +kernel
theorem dX8_registers_16 : decode cX8_registers 16 = .ok (.if_icmp .le 5, 3) := by decide +kernel
theorem dX8_registers_19 : decode cX8_registers 19 = .ok (.iconst 0, 1) := by decide +kernel
theorem dX8_registers_20 : decode cX8_registers 20 = .ok (.ireturn, 1) := by decide +kernel
theorem dX8_registers_21 : decode cX8_registers 21 = .ok (.aload_n 0, 1) := by decide +kernel
theorem dX8_registers_22 : decode cX8_registers 22 = .ok (.getfield 25, 3) := by decide +kernel
theorem dX8_registers_25 : decode cX8_registers 25 = .ok (.iload_n 1, 1) := by decide +kernel
theorem dX8_registers_26 : decode cX8_registers 26 = .ok (.iload_n 2, 1) := by decide +kernel
theorem dX8_registers_27 : decode cX8_registers 27 = .ok (.iastore, 1) := by decide +kernel
theorem dX8_registers_28 : decode cX8_registers 28 = .ok (.iconst 1, 1) := by decide +kernel
theorem dX8_registers_29 : decode cX8_registers 29 = .ok (.ireturn, 1) := by decide +kernel
theorem dX8_memory_0 : decode cX8_memory 0 = .ok (.iload_n 1, 1) := by decide +kernel
theorem dX8_memory_1 : decode cX8_memory 1 = .ok (.ifCond .lt 9, 3) := by decide +kernel
theorem dX8_memory_4 : decode cX8_memory 4 = .ok (.iload_n 1, 1) := by decide +kernel
theorem dX8_memory_5 : decode cX8_memory 5 = .ok (.bipush 64, 2) := by decide +kernel
theorem dX8_memory_7 : decode cX8_memory 7 = .ok (.if_icmp .lt 5, 3) := by decide +kernel
theorem dX8_memory_10 : decode cX8_memory 10 = .ok (.iconst 0, 1) := by decide +kernel
theorem dX8_memory_11 : decode cX8_memory 11 = .ok (.ireturn, 1) := by decide +kernel
theorem dX8_memory_12 : decode cX8_memory 12 = .ok (.aload_n 0, 1) := by decide +kernel
theorem dX8_memory_13 : decode cX8_memory 13 = .ok (.getfield 28, 3) := by decide +kernel
theorem dX8_memory_16 : decode cX8_memory 16 = .ok (.iload_n 1, 1) := by decide +kernel
theorem dX8_memory_17 : decode cX8_memory 17 = .ok (.iload_n 2, 1) := by decide +kernel
theorem dX8_memory_18 : decode cX8_memory 18 = .ok (.iastore, 1) := by decide +kernel
theorem dX8_memory_19 : decode cX8_memory 19 = .ok (.iconst 1, 1) := by decide +kernel
theorem dX8_memory_20 : decode cX8_memory 20 = .ok (.ireturn, 1) := by decide +kernel
theorem dX8_taken_0 : decode cX8_taken 0 = .ok (.aload_n 0, 1) := by decide +kernel
theorem dX8_taken_1 : decode cX8_taken 1 = .ok (.getfield 13, 3) := by decide +kernel
theorem dX8_taken_4 : decode cX8_taken 4 = .ok (.iload_n 1, 1) := by decide +kernel
theorem dX8_taken_5 : decode cX8_taken 5 = .ok (.iaload, 1) := by decide +kernel
theorem dX8_taken_6 : decode cX8_taken 6 = .ok (.istore_n 3, 1) := by decide +kernel
theorem dX8_taken_7 : decode cX8_taken 7 = .ok (.iload_n 3, 1) := by decide +kernel
theorem dX8_taken_8 : decode cX8_taken 8 = .ok (.iconst 1, 1) := by decide +kernel
theorem dX8_taken_9 : decode cX8_taken 9 = .ok (.if_icmp .eq 8, 3) := by decide +kernel
theorem dX8_taken_12 : decode cX8_taken 12 = .ok (.iload_n 3, 1) := by decide +kernel
theorem dX8_taken_13 : decode cX8_taken 13 = .ok (.iconst 5, 1) := by decide +kernel
theorem dX8_taken_14 : decode cX8_taken 14 = .ok (.if_icmp .ne 18, 3) := by decide +kernel
theorem dX8_taken_17 : decode cX8_taken 17 = .ok (.iload_n 2, 1) := by decide +kernel
theorem dX8_taken_18 : decode cX8_taken 18 = .ok (.ifCond .ne 12, 3) := by decide +kernel
theorem dX8_taken_21 : decode cX8_taken 21 = .ok (.aload_n 0, 1) := by decide +kernel
theorem dX8_taken_22 : decode cX8_taken 22 = .ok (.getfield 19, 3) := by decide +kernel
theorem dX8_taken_25 : decode cX8_taken 25 = .ok (.iload_n 1, 1) := by decide +kernel
theorem dX8_taken_26 : decode cX8_taken 26 = .ok (.iaload, 1) := by decide +kernel
theorem dX8_taken_27 : decode cX8_taken 27 = .ok (.goto 4, 3) := by decide +kernel
theorem dX8_taken_30 : decode cX8_taken 30 = .ok (.iconst (-1), 1) := by decide +kernel
theorem dX8_taken_31 : decode cX8_taken 31 = .ok (.ireturn, 1) := by decide +kernel
theorem dX8_taken_32 : decode cX8_taken 32 = .ok (.iload_n 3, 1) := by decide +kernel
theorem dX8_taken_33 : decode cX8_taken 33 = .ok (.iconst 1, 1) := by decide +kernel
theorem dX8_taken_34 : decode cX8_taken 34 = .ok (.if_icmp .le 37, 3) := by decide +kernel
theorem dX8_taken_37 : decode cX8_taken 37 = .ok (.iload_n 3, 1) := by decide +kernel
theorem dX8_taken_38 : decode cX8_taken 38 = .ok (.iconst 5, 1) := by decide +kernel
theorem dX8_taken_39 : decode cX8_taken 39 = .ok (.if_icmp .ge 32, 3) := by decide +kernel
theorem dX8_taken_42 : decode cX8_taken 42 = .ok (.iload_n 2, 1) := by decide +kernel
theorem dX8_taken_43 : decode cX8_taken 43 = .ok (.ifCond .ne 12, 3) := by decide +kernel
theorem dX8_taken_46 : decode cX8_taken 46 = .ok (.aload_n 0, 1) := by decide +kernel
theorem dX8_taken_47 : decode cX8_taken 47 = .ok (.getfield 19, 3) := by decide +kernel
theorem dX8_taken_50 : decode cX8_taken 50 = .ok (.iload_n 1, 1) := by decide +kernel
theorem dX8_taken_51 : decode cX8_taken 51 = .ok (.iaload, 1) := by decide +kernel
theorem dX8_taken_52 : decode cX8_taken 52 = .ok (.goto 18, 3) := by decide +kernel
theorem dX8_taken_55 : decode cX8_taken 55 = .ok (.iload_n 2, 1) := by decide +kernel
theorem dX8_taken_56 : decode cX8_taken 56 = .ok (.iconst 1, 1) := by decide +kernel
theorem dX8_taken_57 : decode cX8_taken 57 = .ok (.if_icmp .ne 12, 3) := by decide +kernel
theorem dX8_taken_60 : decode cX8_taken 60 = .ok (.aload_n 0, 1) := by decide +kernel
theorem dX8_taken_61 : decode cX8_taken 61 = .ok (.getfield 22, 3) := by decide +kernel
theorem dX8_taken_64 : decode cX8_taken 64 = .ok (.iload_n 1, 1) := by decide +kernel
theorem dX8_taken_65 : decode cX8_taken 65 = .ok (.iaload, 1) := by decide +kernel
theorem dX8_taken_66 : decode cX8_taken 66 = .ok (.goto 4, 3) := by decide +kernel
theorem dX8_taken_69 : decode cX8_taken 69 = .ok (.iconst (-1), 1) := by decide +kernel
theorem dX8_taken_70 : decode cX8_taken 70 = .ok (.ireturn, 1) := by decide +kernel
theorem dX8_taken_71 : decode cX8_taken 71 = .ok (.iload_n 3, 1) := by decide +kernel
theorem dX8_taken_72 : decode cX8_taken 72 = .ok (.bipush 6, 2) := by decide +kernel
theorem dX8_taken_74 : decode cX8_taken 74 = .ok (.if_icmp .eq 9, 3) := by decide +kernel
theorem dX8_taken_77 : decode cX8_taken 77 = .ok (.iload_n 3, 1) := by decide +kernel
theorem dX8_taken_78 : decode cX8_taken 78 = .ok (.bipush 7, 2) := by decide +kernel
theorem dX8_taken_80 : decode cX8_taken 80 = .ok (.if_icmp .ne 32, 3) := by decide +kernel
theorem dX8_taken_83 : decode cX8_taken 83 = .ok (.iload_n 2, 1) := by decide +kernel
theorem dX8_taken_84 : decode cX8_taken 84 = .ok (.ifCond .ne 12, 3) := by decide +kernel
theorem dX8_taken_87 : decode cX8_taken 87 = .ok (.aload_n 0, 1) := by decide +kernel
theorem dX8_taken_88 : decode cX8_taken 88 = .ok (.getfield 16, 3) := by decide +kernel
theorem dX8_taken_91 : decode cX8_taken 91 = .ok (.iload_n 1, 1) := by decide +kernel
theorem dX8_taken_92 : decode cX8_taken 92 = .ok (.iaload, 1) := by decide +kernel
theorem dX8_taken_93 : decode cX8_taken 93 = .ok (.goto 18, 3) := by decide +kernel
theorem dX8_taken_96 : decode cX8_taken 96 = .ok (.iload_n 2, 1) := by decide +kernel
theorem dX8_taken_97 : decode cX8_taken 97 = .ok (.iconst 1, 1) := by decide +kernel
theorem dX8_taken_98 : decode cX8_taken 98 = .ok (.if_icmp .ne 12, 3) := by decide +kernel
theorem dX8_taken_101 : decode cX8_taken 101 = .ok (.aload_n 0, 1) := by decide +kernel
theorem dX8_taken_102 : decode cX8_taken 102 = .ok (.getfield 19, 3) := by decide +kernel
theorem dX8_taken_105 : decode cX8_taken 105 = .ok (.iload_n 1, 1) := by decide +kernel
theorem dX8_taken_106 : decode cX8_taken 106 = .ok (.iaload, 1) := by decide +kernel
theorem dX8_taken_107 : decode cX8_taken 107 = .ok (.goto 4, 3) := by decide +kernel
theorem dX8_taken_110 : decode cX8_taken 110 = .ok (.iconst (-1), 1) := by decide +kernel
theorem dX8_taken_111 : decode cX8_taken 111 = .ok (.ireturn, 1) := by decide +kernel
theorem dX8_taken_112 : decode cX8_taken 112 = .ok (.iload_n 3, 1) := by decide +kernel
theorem dX8_taken_113 : decode cX8_taken 113 = .ok (.bipush 9, 2) := by decide +kernel
theorem dX8_taken_115 : decode cX8_taken 115 = .ok (.if_icmp .ne 16, 3) := by decide +kernel
theorem dX8_taken_118 : decode cX8_taken 118 = .ok (.iload_n 2, 1) := by decide +kernel
theorem dX8_taken_119 : decode cX8_taken 119 = .ok (.ifCond .ne 12, 3) := by decide +kernel
theorem dX8_taken_122 : decode cX8_taken 122 = .ok (.aload_n 0, 1) := by decide +kernel
theorem dX8_taken_123 : decode cX8_taken 123 = .ok (.getfield 16, 3) := by decide +kernel
theorem dX8_taken_126 : decode cX8_taken 126 = .ok (.iload_n 1, 1) := by decide +kernel
theorem dX8_taken_127 : decode cX8_taken 127 = .ok (.iaload, 1) := by decide +kernel
theorem dX8_taken_128 : decode cX8_taken 128 = .ok (.goto 4, 3) := by decide +kernel
theorem dX8_taken_131 : decode cX8_taken 131 = .ok (.iconst (-1), 1) := by decide +kernel
theorem dX8_taken_132 : decode cX8_taken 132 = .ok (.ireturn, 1) := by decide +kernel
theorem dX8_anew_0 : decode cX8_anew 0 = .ok (.aload_n 0, 1) := by decide +kernel
theorem dX8_anew_1 : decode cX8_anew 1 = .ok (.getfield 13, 3) := by decide +kernel
theorem dX8_anew_4 : decode cX8_anew 4 = .ok (.iload_n 1, 1) := by decide +kernel
theorem dX8_anew_5 : decode cX8_anew 5 = .ok (.iaload, 1) := by decide +kernel
theorem dX8_anew_6 : decode cX8_anew 6 = .ok (.bipush 6, 2) := by decide +kernel
theorem dX8_anew_8 : decode cX8_anew 8 = .ok (.if_icmp .ge 12, 3) := by decide +kernel
theorem dX8_anew_11 : decode cX8_anew 11 = .ok (.aload_n 0, 1) := by decide +kernel
theorem dX8_anew_12 : decode cX8_anew 12 = .ok (.getfield 16, 3) := by decide +kernel
theorem dX8_anew_15 : decode cX8_anew 15 = .ok (.iload_n 1, 1) := by decide +kernel
theorem dX8_anew_16 : decode cX8_anew 16 = .ok (.iaload, 1) := by decide +kernel
theorem dX8_anew_17 : decode cX8_anew 17 = .ok (.goto 4, 3) := by decide +kernel
theorem dX8_anew_20 : decode cX8_anew 20 = .ok (.iconst (-1), 1) := by decide +kernel
theorem dX8_anew_21 : decode cX8_anew 21 = .ok (.ireturn, 1) := by decide +kernel
theorem dX8_taking_0 : decode cX8_taking 0 = .ok (.iconst 0, 1) := by decide +kernel
theorem dX8_taking_1 : decode cX8_taking 1 = .ok (.istore_n 2, 1) := by decide +kernel
theorem dX8_taking_2 : decode cX8_taking 2 = .ok (.iconst 0, 1) := by decide +kernel
theorem dX8_taking_3 : decode cX8_taking 3 = .ok (.istore_n 3, 1) := by decide +kernel
theorem dX8_taking_4 : decode cX8_taking 4 = .ok (.iload_n 3, 1) := by decide +kernel
theorem dX8_taking_5 : decode cX8_taking 5 = .ok (.iconst 2, 1) := by decide +kernel
theorem dX8_taking_6 : decode cX8_taking 6 = .ok (.if_icmp .ge 34, 3) := by decide +kernel
theorem dX8_taking_9 : decode cX8_taking 9 = .ok (.aload_n 0, 1) := by decide +kernel
theorem dX8_taking_10 : decode cX8_taking 10 = .ok (.iload_n 1, 1) := by decide +kernel
theorem dX8_taking_11 : decode cX8_taking 11 = .ok (.iload_n 3, 1) := by decide +kernel
theorem dX8_taking_12 : decode cX8_taking 12 = .ok (.invokevirtual 98, 3) := by decide +kernel
theorem dX8_taking_15 : decode cX8_taking 15 = .ok (.istore 4, 2) := by decide +kernel
theorem dX8_taking_17 : decode cX8_taking 17 = .ok (.iload_n 2, 1) := by decide +kernel
theorem dX8_taking_18 : decode cX8_taking 18 = .ok (.iload 4, 2) := by decide +kernel
theorem dX8_taking_20 : decode cX8_taking 20 = .ok (.iconst (-1), 1) := by decide +kernel
theorem dX8_taking_21 : decode cX8_taking 21 = .ok (.if_icmp .ne 7, 3) := by decide +kernel
theorem dX8_taking_24 : decode cX8_taking 24 = .ok (.iconst 0, 1) := by decide +kernel
theorem dX8_taking_25 : decode cX8_taking 25 = .ok (.goto 7, 3) := by decide +kernel
theorem dX8_taking_28 : decode cX8_taking 28 = .ok (.iconst 1, 1) := by decide +kernel
theorem dX8_taking_29 : decode cX8_taking 29 = .ok (.iload 4, 2) := by decide +kernel
theorem dX8_taking_31 : decode cX8_taking 31 = .ok (.ishl, 1) := by decide +kernel
theorem dX8_taking_32 : decode cX8_taking 32 = .ok (.ior, 1) := by decide +kernel
theorem dX8_taking_33 : decode cX8_taking 33 = .ok (.istore_n 2, 1) := by decide +kernel
theorem dX8_taking_34 : decode cX8_taking 34 = .ok (.iinc 3 1, 3) := by decide +kernel
theorem dX8_taking_37 : decode cX8_taking 37 = .ok (.goto (-33), 3) := by decide +kernel
theorem dX8_taking_40 : decode cX8_taking 40 = .ok (.iload_n 2, 1) := by decide +kernel
theorem dX8_taking_41 : decode cX8_taking 41 = .ok (.ireturn, 1) := by decide +kernel
theorem dX8_liveAt_0 : decode cX8_liveAt 0 = .ok (.iload_n 1, 1) := by decide +kernel
theorem dX8_liveAt_1 : decode cX8_liveAt 1 = .ok (.aload_n 0, 1) := by decide +kernel
theorem dX8_liveAt_2 : decode cX8_liveAt 2 = .ok (.getfield 95, 3) := by decide +kernel
theorem dX8_liveAt_5 : decode cX8_liveAt 5 = .ok (.if_icmp .ge 12, 3) := by decide +kernel
theorem dX8_liveAt_8 : decode cX8_liveAt 8 = .ok (.aload_n 0, 1) := by decide +kernel
theorem dX8_liveAt_9 : decode cX8_liveAt 9 = .ok (.getfield 31, 3) := by decide +kernel
theorem dX8_liveAt_12 : decode cX8_liveAt 12 = .ok (.iload_n 1, 1) := by decide +kernel
theorem dX8_liveAt_13 : decode cX8_liveAt 13 = .ok (.iaload, 1) := by decide +kernel
theorem dX8_liveAt_14 : decode cX8_liveAt 14 = .ok (.goto 4, 3) := by decide +kernel
theorem dX8_liveAt_17 : decode cX8_liveAt 17 = .ok (.iconst 0, 1) := by decide +kernel
theorem dX8_liveAt_18 : decode cX8_liveAt 18 = .ok (.ireturn, 1) := by decide +kernel
theorem dX8_flow_0 : decode cX8_flow 0 = .ok (.iconst 0, 1) := by decide +kernel
theorem dX8_flow_1 : decode cX8_flow 1 = .ok (.istore_n 1, 1) := by decide +kernel
theorem dX8_flow_2 : decode cX8_flow 2 = .ok (.iload_n 1, 1) := by decide +kernel
theorem dX8_flow_3 : decode cX8_flow 3 = .ok (.aload_n 0, 1) := by decide +kernel
theorem dX8_flow_4 : decode cX8_flow 4 = .ok (.getfield 95, 3) := by decide +kernel
theorem dX8_flow_7 : decode cX8_flow 7 = .ok (.if_icmp .ge 23, 3) := by decide +kernel
theorem dX8_flow_10 : decode cX8_flow 10 = .ok (.aload_n 0, 1) := by decide +kernel
theorem dX8_flow_11 : decode cX8_flow 11 = .ok (.getfield 31, 3) := by decide +kernel
theorem dX8_flow_14 : decode cX8_flow 14 = .ok (.iload_n 1, 1) := by decide +kernel
theorem dX8_flow_15 : decode cX8_flow 15 = .ok (.iconst 0, 1) := by decide +kernel
theorem dX8_flow_16 : decode cX8_flow 16 = .ok (.iastore, 1) := by decide +kernel
theorem dX8_flow_17 : decode cX8_flow 17 = .ok (.aload_n 0, 1) := by decide +kernel
theorem dX8_flow_18 : decode cX8_flow 18 = .ok (.getfield 34, 3) := by decide +kernel
theorem dX8_flow_21 : decode cX8_flow 21 = .ok (.iload_n 1, 1) := by decide +kernel
theorem dX8_flow_22 : decode cX8_flow 22 = .ok (.iconst 0, 1) := by decide +kernel
theorem dX8_flow_23 : decode cX8_flow 23 = .ok (.iastore, 1) := by decide +kernel
theorem dX8_flow_24 : decode cX8_flow 24 = .ok (.iinc 1 1, 3) := by decide +kernel
theorem dX8_flow_27 : decode cX8_flow 27 = .ok (.goto (-25), 3) := by decide +kernel
theorem dX8_flow_30 : decode cX8_flow 30 = .ok (.iconst 1, 1) := by decide +kernel
theorem dX8_flow_31 : decode cX8_flow 31 = .ok (.istore_n 1, 1) := by decide +kernel
theorem dX8_flow_32 : decode cX8_flow 32 = .ok (.iload_n 1, 1) := by decide +kernel
theorem dX8_flow_33 : decode cX8_flow 33 = .ok (.ifCond .eq 178, 3) := by decide +kernel
theorem dX8_flow_36 : decode cX8_flow 36 = .ok (.iconst 0, 1) := by decide +kernel
theorem dX8_flow_37 : decode cX8_flow 37 = .ok (.istore_n 1, 1) := by decide +kernel
theorem dX8_flow_38 : decode cX8_flow 38 = .ok (.aload_n 0, 1) := by decide +kernel
theorem dX8_flow_39 : decode cX8_flow 39 = .ok (.getfield 95, 3) := by decide +kernel
theorem dX8_flow_42 : decode cX8_flow 42 = .ok (.iconst 1, 1) := by decide +kernel
theorem dX8_flow_43 : decode cX8_flow 43 = .ok (.isub, 1) := by decide +kernel
theorem dX8_flow_44 : decode cX8_flow 44 = .ok (.istore_n 2, 1) := by decide +kernel
theorem dX8_flow_45 : decode cX8_flow 45 = .ok (.iload_n 2, 1) := by decide +kernel
theorem dX8_flow_46 : decode cX8_flow 46 = .ok (.ifCond .lt 162, 3) := by decide +kernel
theorem dX8_flow_49 : decode cX8_flow 49 = .ok (.aload_n 0, 1) := by decide +kernel
theorem dX8_flow_50 : decode cX8_flow 50 = .ok (.getfield 13, 3) := by decide +kernel
theorem dX8_flow_53 : decode cX8_flow 53 = .ok (.iload_n 2, 1) := by decide +kernel
theorem dX8_flow_54 : decode cX8_flow 54 = .ok (.iaload, 1) := by decide +kernel
theorem dX8_flow_55 : decode cX8_flow 55 = .ok (.istore_n 3, 1) := by decide +kernel
theorem dX8_flow_56 : decode cX8_flow 56 = .ok (.iload_n 3, 1) := by decide +kernel
theorem dX8_flow_57 : decode cX8_flow 57 = .ok (.bipush 8, 2) := by decide +kernel
theorem dX8_flow_59 : decode cX8_flow 59 = .ok (.if_icmp .ne 16, 3) := by decide +kernel
theorem dX8_flow_62 : decode cX8_flow 62 = .ok (.aload_n 0, 1) := by decide +kernel
theorem dX8_flow_63 : decode cX8_flow 63 = .ok (.aload_n 0, 1) := by decide +kernel
theorem dX8_flow_64 : decode cX8_flow 64 = .ok (.getfield 16, 3) := by decide +kernel
theorem dX8_flow_67 : decode cX8_flow 67 = .ok (.iload_n 2, 1) := by decide +kernel
theorem dX8_flow_68 : decode cX8_flow 68 = .ok (.iaload, 1) := by decide +kernel
theorem dX8_flow_69 : decode cX8_flow 69 = .ok (.invokevirtual 102, 3) := by decide +kernel
theorem dX8_flow_72 : decode cX8_flow 72 = .ok (.goto 20, 3) := by decide +kernel
theorem dX8_flow_75 : decode cX8_flow 75 = .ok (.iload_n 3, 1) := by decide +kernel
theorem dX8_flow_76 : decode cX8_flow 76 = .ok (.bipush 10, 2) := by decide +kernel
theorem dX8_flow_78 : decode cX8_flow 78 = .ok (.if_icmp .ne 7, 3) := by decide +kernel
theorem dX8_flow_81 : decode cX8_flow 81 = .ok (.iconst 0, 1) := by decide +kernel
theorem dX8_flow_82 : decode cX8_flow 82 = .ok (.goto 10, 3) := by decide +kernel
theorem dX8_flow_85 : decode cX8_flow 85 = .ok (.aload_n 0, 1) := by decide +kernel
theorem dX8_flow_86 : decode cX8_flow 86 = .ok (.iload_n 2, 1) := by decide +kernel
theorem dX8_flow_87 : decode cX8_flow 87 = .ok (.iconst 1, 1) := by decide +kernel
theorem dX8_flow_88 : decode cX8_flow 88 = .ok (.iadd, 1) := by decide +kernel
theorem dX8_flow_89 : decode cX8_flow 89 = .ok (.invokevirtual 102, 3) := by decide +kernel
theorem dX8_flow_92 : decode cX8_flow 92 = .ok (.istore 4, 2) := by decide +kernel
theorem dX8_flow_94 : decode cX8_flow 94 = .ok (.iload 4, 2) := by decide +kernel
theorem dX8_flow_96 : decode cX8_flow 96 = .ok (.iload_n 3, 1) := by decide +kernel
theorem dX8_flow_97 : decode cX8_flow 97 = .ok (.bipush 7, 2) := by decide +kernel
theorem dX8_flow_99 : decode cX8_flow 99 = .ok (.if_icmp .ne 16, 3) := by decide +kernel
theorem dX8_flow_102 : decode cX8_flow 102 = .ok (.aload_n 0, 1) := by decide +kernel
theorem dX8_flow_103 : decode cX8_flow 103 = .ok (.aload_n 0, 1) := by decide +kernel
theorem dX8_flow_104 : decode cX8_flow 104 = .ok (.getfield 22, 3) := by decide +kernel
theorem dX8_flow_107 : decode cX8_flow 107 = .ok (.iload_n 2, 1) := by decide +kernel
theorem dX8_flow_108 : decode cX8_flow 108 = .ok (.iaload, 1) := by decide +kernel
theorem dX8_flow_109 : decode cX8_flow 109 = .ok (.invokevirtual 102, 3) := by decide +kernel
theorem dX8_flow_112 : decode cX8_flow 112 = .ok (.goto 4, 3) := by decide +kernel
theorem dX8_flow_115 : decode cX8_flow 115 = .ok (.iconst 0, 1) := by decide +kernel
theorem dX8_flow_116 : decode cX8_flow 116 = .ok (.ior, 1) := by decide +kernel
theorem dX8_flow_117 : decode cX8_flow 117 = .ok (.istore 4, 2) := by decide +kernel
theorem dX8_flow_119 : decode cX8_flow 119 = .ok (.aload_n 0, 1) := by decide +kernel
theorem dX8_flow_120 : decode cX8_flow 120 = .ok (.iload_n 2, 1) := by decide +kernel
theorem dX8_flow_121 : decode cX8_flow 121 = .ok (.invokevirtual 106, 3) := by decide +kernel
theorem dX8_flow_124 : decode cX8_flow 124 = .ok (.istore 5, 2) := by decide +kernel
theorem dX8_flow_126 : decode cX8_flow 126 = .ok (.aload_n 0, 1) := by decide +kernel
theorem dX8_flow_127 : decode cX8_flow 127 = .ok (.iload_n 2, 1) := by decide +kernel
theorem dX8_flow_128 : decode cX8_flow 128 = .ok (.invokevirtual 109, 3) := by decide +kernel
theorem dX8_flow_131 : decode cX8_flow 131 = .ok (.iload 5, 2) := by decide +kernel
theorem dX8_flow_133 : decode cX8_flow 133 = .ok (.iconst (-1), 1) := by decide +kernel
theorem dX8_flow_134 : decode cX8_flow 134 = .ok (.if_icmp .ne 8, 3) := by decide +kernel
theorem dX8_flow_137 : decode cX8_flow 137 = .ok (.iload 4, 2) := by decide +kernel
theorem dX8_flow_139 : decode cX8_flow 139 = .ok (.goto 12, 3) := by decide +kernel
theorem dX8_flow_142 : decode cX8_flow 142 = .ok (.iload 4, 2) := by decide +kernel
theorem dX8_flow_144 : decode cX8_flow 144 = .ok (.iconst 1, 1) := by decide +kernel
theorem dX8_flow_145 : decode cX8_flow 145 = .ok (.iload 5, 2) := by decide +kernel
theorem dX8_flow_147 : decode cX8_flow 147 = .ok (.ishl, 1) := by decide +kernel
theorem dX8_flow_148 : decode cX8_flow 148 = .ok (.iconst (-1), 1) := by decide +kernel
theorem dX8_flow_149 : decode cX8_flow 149 = .ok (.ixor, 1) := by decide +kernel
theorem dX8_flow_150 : decode cX8_flow 150 = .ok (.iand, 1) := by decide +kernel
theorem dX8_flow_151 : decode cX8_flow 151 = .ok (.ior, 1) := by decide +kernel
theorem dX8_flow_152 : decode cX8_flow 152 = .ok (.istore 6, 2) := by decide +kernel
theorem dX8_flow_154 : decode cX8_flow 154 = .ok (.iload_n 1, 1) := by decide +kernel
theorem dX8_flow_155 : decode cX8_flow 155 = .ok (.ifCond .ne 25, 3) := by decide +kernel
theorem dX8_flow_158 : decode cX8_flow 158 = .ok (.iload 6, 2) := by decide +kernel
theorem dX8_flow_160 : decode cX8_flow 160 = .ok (.aload_n 0, 1) := by decide +kernel
theorem dX8_flow_161 : decode cX8_flow 161 = .ok (.getfield 31, 3) := by decide +kernel
theorem dX8_flow_164 : decode cX8_flow 164 = .ok (.iload_n 2, 1) := by decide +kernel
theorem dX8_flow_165 : decode cX8_flow 165 = .ok (.iaload, 1) := by decide +kernel
theorem dX8_flow_166 : decode cX8_flow 166 = .ok (.if_icmp .ne 14, 3) := by decide +kernel
theorem dX8_flow_169 : decode cX8_flow 169 = .ok (.iload 4, 2) := by decide +kernel
theorem dX8_flow_171 : decode cX8_flow 171 = .ok (.aload_n 0, 1) := by decide +kernel
theorem dX8_flow_172 : decode cX8_flow 172 = .ok (.getfield 34, 3) := by decide +kernel
theorem dX8_flow_175 : decode cX8_flow 175 = .ok (.iload_n 2, 1) := by decide +kernel
theorem dX8_flow_176 : decode cX8_flow 176 = .ok (.iaload, 1) := by decide +kernel
theorem dX8_flow_177 : decode cX8_flow 177 = .ok (.if_icmp .eq 7, 3) := by decide +kernel
theorem dX8_flow_180 : decode cX8_flow 180 = .ok (.iconst 1, 1) := by decide +kernel
theorem dX8_flow_181 : decode cX8_flow 181 = .ok (.goto 4, 3) := by decide +kernel
theorem dX8_flow_184 : decode cX8_flow 184 = .ok (.iconst 0, 1) := by decide +kernel
theorem dX8_flow_185 : decode cX8_flow 185 = .ok (.istore_n 1, 1) := by decide +kernel
theorem dX8_flow_186 : decode cX8_flow 186 = .ok (.aload_n 0, 1) := by decide +kernel
theorem dX8_flow_187 : decode cX8_flow 187 = .ok (.getfield 31, 3) := by decide +kernel
theorem dX8_flow_190 : decode cX8_flow 190 = .ok (.iload_n 2, 1) := by decide +kernel
theorem dX8_flow_191 : decode cX8_flow 191 = .ok (.iload 6, 2) := by decide +kernel
theorem dX8_flow_193 : decode cX8_flow 193 = .ok (.iastore, 1) := by decide +kernel
theorem dX8_flow_194 : decode cX8_flow 194 = .ok (.aload_n 0, 1) := by decide +kernel
theorem dX8_flow_195 : decode cX8_flow 195 = .ok (.getfield 34, 3) := by decide +kernel
theorem dX8_flow_198 : decode cX8_flow 198 = .ok (.iload_n 2, 1) := by decide +kernel
theorem dX8_flow_199 : decode cX8_flow 199 = .ok (.iload 4, 2) := by decide +kernel
theorem dX8_flow_201 : decode cX8_flow 201 = .ok (.iastore, 1) := by decide +kernel
theorem dX8_flow_202 : decode cX8_flow 202 = .ok (.iinc 2 (-1), 3) := by decide +kernel
theorem dX8_flow_205 : decode cX8_flow 205 = .ok (.goto (-160), 3) := by decide +kernel
theorem dX8_flow_208 : decode cX8_flow 208 = .ok (.goto (-176), 3) := by decide +kernel
theorem dX8_flow_211 : decode cX8_flow 211 = .ok (.return_, 1) := by decide +kernel
theorem dX8_meet_0 : decode cX8_meet 0 = .ok (.iconst 0, 1) := by decide +kernel
theorem dX8_meet_1 : decode cX8_meet 1 = .ok (.istore_n 1, 1) := by decide +kernel
theorem dX8_meet_2 : decode cX8_meet 2 = .ok (.iload_n 1, 1) := by decide +kernel
theorem dX8_meet_3 : decode cX8_meet 3 = .ok (.aload_n 0, 1) := by decide +kernel
theorem dX8_meet_4 : decode cX8_meet 4 = .ok (.getfield 79, 3) := by decide +kernel
theorem dX8_meet_7 : decode cX8_meet 7 = .ok (.if_icmp .ge 23, 3) := by decide +kernel
theorem dX8_meet_10 : decode cX8_meet 10 = .ok (.aload_n 0, 1) := by decide +kernel
