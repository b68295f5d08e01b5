theorem dX8_meet_11 : decode cX8_meet 11 = .ok (.getfield 37, 3) := by decide +kernel
theorem dX8_meet_14 : decode cX8_meet 14 = .ok (.iload_n 1, 1) := by decide +kernel
theorem dX8_meet_15 : decode cX8_meet 15 = .ok (.iconst 0, 1) := by decide +kernel
theorem dX8_meet_16 : decode cX8_meet 16 = .ok (.iastore, 1) := by decide +kernel
theorem dX8_meet_17 : decode cX8_meet 17 = .ok (.aload_n 0, 1) := by decide +kernel
theorem dX8_meet_18 : decode cX8_meet 18 = .ok (.getfield 40, 3) := by decide +kernel
theorem dX8_meet_21 : decode cX8_meet 21 = .ok (.iload_n 1, 1) := by decide +kernel
theorem dX8_meet_22 : decode cX8_meet 22 = .ok (.iconst 0, 1) := by decide +kernel
theorem dX8_meet_23 : decode cX8_meet 23 = .ok (.iastore, 1) := by decide +kernel
theorem dX8_meet_24 : decode cX8_meet 24 = .ok (.iinc 1 1, 3) := by decide +kernel
theorem dX8_meet_27 : decode cX8_meet 27 = .ok (.goto (-25), 3) := by decide +kernel
theorem dX8_meet_30 : decode cX8_meet 30 = .ok (.iconst 0, 1) := by decide +kernel
theorem dX8_meet_31 : decode cX8_meet 31 = .ok (.istore_n 1, 1) := by decide +kernel
theorem dX8_meet_32 : decode cX8_meet 32 = .ok (.iload_n 1, 1) := by decide +kernel
theorem dX8_meet_33 : decode cX8_meet 33 = .ok (.aload_n 0, 1) := by decide +kernel
theorem dX8_meet_34 : decode cX8_meet 34 = .ok (.getfield 95, 3) := by decide +kernel
theorem dX8_meet_37 : decode cX8_meet 37 = .ok (.if_icmp .ge 179, 3) := by decide +kernel
theorem dX8_meet_40 : decode cX8_meet 40 = .ok (.aload_n 0, 1) := by decide +kernel
theorem dX8_meet_41 : decode cX8_meet 41 = .ok (.iload_n 1, 1) := by decide +kernel
theorem dX8_meet_42 : decode cX8_meet 42 = .ok (.invokevirtual 106, 3) := by decide +kernel
theorem dX8_meet_45 : decode cX8_meet 45 = .ok (.istore_n 2, 1) := by decide +kernel
theorem dX8_meet_46 : decode cX8_meet 46 = .ok (.iconst 0, 1) := by decide +kernel
theorem dX8_meet_47 : decode cX8_meet 47 = .ok (.istore_n 3, 1) := by decide +kernel
theorem dX8_meet_48 : decode cX8_meet 48 = .ok (.iload_n 3, 1) := by decide +kernel
theorem dX8_meet_49 : decode cX8_meet 49 = .ok (.aload_n 0, 1) := by decide +kernel
theorem dX8_meet_50 : decode cX8_meet 50 = .ok (.getfield 79, 3) := by decide +kernel
theorem dX8_meet_53 : decode cX8_meet 53 = .ok (.if_icmp .ge 104, 3) := by decide +kernel
theorem dX8_meet_56 : decode cX8_meet 56 = .ok (.iload_n 2, 1) := by decide +kernel
theorem dX8_meet_57 : decode cX8_meet 57 = .ok (.iconst (-1), 1) := by decide +kernel
theorem dX8_meet_58 : decode cX8_meet 58 = .ok (.if_icmp .eq 99, 3) := by decide +kernel
theorem dX8_meet_61 : decode cX8_meet 61 = .ok (.aload_n 0, 1) := by decide +kernel
theorem dX8_meet_62 : decode cX8_meet 62 = .ok (.getfield 13, 3) := by decide +kernel
theorem dX8_meet_65 : decode cX8_meet 65 = .ok (.iload_n 1, 1) := by decide +kernel
theorem dX8_meet_66 : decode cX8_meet 66 = .ok (.iaload, 1) := by decide +kernel
theorem dX8_meet_67 : decode cX8_meet 67 = .ok (.iconst 1, 1) := by decide +kernel
theorem dX8_meet_68 : decode cX8_meet 68 = .ok (.if_icmp .ne 17, 3) := by decide +kernel
theorem dX8_meet_71 : decode cX8_meet 71 = .ok (.iload_n 3, 1) := by decide +kernel
theorem dX8_meet_72 : decode cX8_meet 72 = .ok (.aload_n 0, 1) := by decide +kernel
theorem dX8_meet_73 : decode cX8_meet 73 = .ok (.getfield 19, 3) := by decide +kernel
theorem dX8_meet_76 : decode cX8_meet 76 = .ok (.iload_n 1, 1) := by decide +kernel
theorem dX8_meet_77 : decode cX8_meet 77 = .ok (.iaload, 1) := by decide +kernel
theorem dX8_meet_78 : decode cX8_meet 78 = .ok (.if_icmp .ne 7, 3) := by decide +kernel
theorem dX8_meet_81 : decode cX8_meet 81 = .ok (.iconst 1, 1) := by decide +kernel
theorem dX8_meet_82 : decode cX8_meet 82 = .ok (.goto 4, 3) := by decide +kernel
theorem dX8_meet_85 : decode cX8_meet 85 = .ok (.iconst 0, 1) := by decide +kernel
theorem dX8_meet_86 : decode cX8_meet 86 = .ok (.istore 4, 2) := by decide +kernel
theorem dX8_meet_88 : decode cX8_meet 88 = .ok (.iload_n 3, 1) := by decide +kernel
theorem dX8_meet_89 : decode cX8_meet 89 = .ok (.iload_n 2, 1) := by decide +kernel
theorem dX8_meet_90 : decode cX8_meet 90 = .ok (.if_icmp .eq 61, 3) := by decide +kernel
theorem dX8_meet_93 : decode cX8_meet 93 = .ok (.aload_n 0, 1) := by decide +kernel
theorem dX8_meet_94 : decode cX8_meet 94 = .ok (.getfield 7, 3) := by decide +kernel
theorem dX8_meet_97 : decode cX8_meet 97 = .ok (.iload_n 3, 1) := by decide +kernel
theorem dX8_meet_98 : decode cX8_meet 98 = .ok (.iaload, 1) := by decide +kernel
theorem dX8_meet_99 : decode cX8_meet 99 = .ok (.aload_n 0, 1) := by decide +kernel
theorem dX8_meet_100 : decode cX8_meet 100 = .ok (.getfield 7, 3) := by decide +kernel
theorem dX8_meet_103 : decode cX8_meet 103 = .ok (.iload_n 2, 1) := by decide +kernel
theorem dX8_meet_104 : decode cX8_meet 104 = .ok (.iaload, 1) := by decide +kernel
theorem dX8_meet_105 : decode cX8_meet 105 = .ok (.if_icmp .ne 46, 3) := by decide +kernel
theorem dX8_meet_108 : decode cX8_meet 108 = .ok (.aload_n 0, 1) := by decide +kernel
theorem dX8_meet_109 : decode cX8_meet 109 = .ok (.getfield 34, 3) := by decide +kernel
theorem dX8_meet_112 : decode cX8_meet 112 = .ok (.iload_n 1, 1) := by decide +kernel
theorem dX8_meet_113 : decode cX8_meet 113 = .ok (.iaload, 1) := by decide +kernel
theorem dX8_meet_114 : decode cX8_meet 114 = .ok (.iload_n 3, 1) := by decide +kernel
theorem dX8_meet_115 : decode cX8_meet 115 = .ok (.ishr, 1) := by decide +kernel
theorem dX8_meet_116 : decode cX8_meet 116 = .ok (.iconst 1, 1) := by decide +kernel
theorem dX8_meet_117 : decode cX8_meet 117 = .ok (.iand, 1) := by decide +kernel
theorem dX8_meet_118 : decode cX8_meet 118 = .ok (.iconst 1, 1) := by decide +kernel
theorem dX8_meet_119 : decode cX8_meet 119 = .ok (.if_icmp .ne 32, 3) := by decide +kernel
theorem dX8_meet_122 : decode cX8_meet 122 = .ok (.iload 4, 2) := by decide +kernel
theorem dX8_meet_124 : decode cX8_meet 124 = .ok (.ifCond .ne 27, 3) := by decide +kernel
theorem dX8_meet_127 : decode cX8_meet 127 = .ok (.aload_n 0, 1) := by decide +kernel
theorem dX8_meet_128 : decode cX8_meet 128 = .ok (.getfield 37, 3) := by decide +kernel
theorem dX8_meet_131 : decode cX8_meet 131 = .ok (.iload_n 2, 1) := by decide +kernel
theorem dX8_meet_132 : decode cX8_meet 132 = .ok (.dup2, 1) := by decide +kernel
theorem dX8_meet_133 : decode cX8_meet 133 = .ok (.iaload, 1) := by decide +kernel
theorem dX8_meet_134 : decode cX8_meet 134 = .ok (.iconst 1, 1) := by decide +kernel
theorem dX8_meet_135 : decode cX8_meet 135 = .ok (.iload_n 3, 1) := by decide +kernel
theorem dX8_meet_136 : decode cX8_meet 136 = .ok (.ishl, 1) := by decide +kernel
theorem dX8_meet_137 : decode cX8_meet 137 = .ok (.ior, 1) := by decide +kernel
theorem dX8_meet_138 : decode cX8_meet 138 = .ok (.iastore, 1) := by decide +kernel
theorem dX8_meet_139 : decode cX8_meet 139 = .ok (.aload_n 0, 1) := by decide +kernel
theorem dX8_meet_140 : decode cX8_meet 140 = .ok (.getfield 37, 3) := by decide +kernel
theorem dX8_meet_143 : decode cX8_meet 143 = .ok (.iload_n 3, 1) := by decide +kernel
theorem dX8_meet_144 : decode cX8_meet 144 = .ok (.dup2, 1) := by decide +kernel
theorem dX8_meet_145 : decode cX8_meet 145 = .ok (.iaload, 1) := by decide +kernel
theorem dX8_meet_146 : decode cX8_meet 146 = .ok (.iconst 1, 1) := by decide +kernel
theorem dX8_meet_147 : decode cX8_meet 147 = .ok (.iload_n 2, 1) := by decide +kernel
theorem dX8_meet_148 : decode cX8_meet 148 = .ok (.ishl, 1) := by decide +kernel
theorem dX8_meet_149 : decode cX8_meet 149 = .ok (.ior, 1) := by decide +kernel
theorem dX8_meet_150 : decode cX8_meet 150 = .ok (.iastore, 1) := by decide +kernel
theorem dX8_meet_151 : decode cX8_meet 151 = .ok (.iinc 3 1, 3) := by decide +kernel
theorem dX8_meet_154 : decode cX8_meet 154 = .ok (.goto (-106), 3) := by decide +kernel
theorem dX8_meet_157 : decode cX8_meet 157 = .ok (.iload_n 2, 1) := by decide +kernel
theorem dX8_meet_158 : decode cX8_meet 158 = .ok (.iconst (-1), 1) := by decide +kernel
theorem dX8_meet_159 : decode cX8_meet 159 = .ok (.if_icmp .eq 13, 3) := by decide +kernel
theorem dX8_meet_162 : decode cX8_meet 162 = .ok (.aload_n 0, 1) := by decide +kernel
theorem dX8_meet_163 : decode cX8_meet 163 = .ok (.getfield 40, 3) := by decide +kernel
theorem dX8_meet_166 : decode cX8_meet 166 = .ok (.iload_n 2, 1) := by decide +kernel
theorem dX8_meet_167 : decode cX8_meet 167 = .ok (.dup2, 1) := by decide +kernel
theorem dX8_meet_168 : decode cX8_meet 168 = .ok (.iaload, 1) := by decide +kernel
theorem dX8_meet_169 : decode cX8_meet 169 = .ok (.iconst 1, 1) := by decide +kernel
theorem dX8_meet_170 : decode cX8_meet 170 = .ok (.iadd, 1) := by decide +kernel
theorem dX8_meet_171 : decode cX8_meet 171 = .ok (.iastore, 1) := by decide +kernel
theorem dX8_meet_172 : decode cX8_meet 172 = .ok (.iconst 0, 1) := by decide +kernel
theorem dX8_meet_173 : decode cX8_meet 173 = .ok (.istore_n 3, 1) := by decide +kernel
theorem dX8_meet_174 : decode cX8_meet 174 = .ok (.iload_n 3, 1) := by decide +kernel
theorem dX8_meet_175 : decode cX8_meet 175 = .ok (.iconst 2, 1) := by decide +kernel
theorem dX8_meet_176 : decode cX8_meet 176 = .ok (.if_icmp .ge 34, 3) := by decide +kernel
theorem dX8_meet_179 : decode cX8_meet 179 = .ok (.aload_n 0, 1) := by decide +kernel
theorem dX8_meet_180 : decode cX8_meet 180 = .ok (.iload_n 1, 1) := by decide +kernel
theorem dX8_meet_181 : decode cX8_meet 181 = .ok (.iload_n 3, 1) := by decide +kernel
theorem dX8_meet_182 : decode cX8_meet 182 = .ok (.invokevirtual 98, 3) := by decide +kernel
theorem dX8_meet_185 : decode cX8_meet 185 = .ok (.istore 4, 2) := by decide +kernel
theorem dX8_meet_187 : decode cX8_meet 187 = .ok (.iload 4, 2) := by decide +kernel
theorem dX8_meet_189 : decode cX8_meet 189 = .ok (.iconst (-1), 1) := by decide +kernel
theorem dX8_meet_190 : decode cX8_meet 190 = .ok (.if_icmp .eq 14, 3) := by decide +kernel
theorem dX8_meet_193 : decode cX8_meet 193 = .ok (.aload_n 0, 1) := by decide +kernel
theorem dX8_meet_194 : decode cX8_meet 194 = .ok (.getfield 40, 3) := by decide +kernel
theorem dX8_meet_197 : decode cX8_meet 197 = .ok (.iload 4, 2) := by decide +kernel
theorem dX8_meet_199 : decode cX8_meet 199 = .ok (.dup2, 1) := by decide +kernel
theorem dX8_meet_200 : decode cX8_meet 200 = .ok (.iaload, 1) := by decide +kernel
theorem dX8_meet_201 : decode cX8_meet 201 = .ok (.iconst 1, 1) := by decide +kernel
theorem dX8_meet_202 : decode cX8_meet 202 = .ok (.iadd, 1) := by decide +kernel
theorem dX8_meet_203 : decode cX8_meet 203 = .ok (.iastore, 1) := by decide +kernel
theorem dX8_meet_204 : decode cX8_meet 204 = .ok (.iinc 3 1, 3) := by decide +kernel
theorem dX8_meet_207 : decode cX8_meet 207 = .ok (.goto (-33), 3) := by decide +kernel
theorem dX8_meet_210 : decode cX8_meet 210 = .ok (.iinc 1 1, 3) := by decide +kernel
theorem dX8_meet_213 : decode cX8_meet 213 = .ok (.goto (-181), 3) := by decide +kernel
theorem dX8_meet_216 : decode cX8_meet 216 = .ok (.return_, 1) := by decide +kernel
theorem dX8_isJoined_0 : decode cX8_isJoined 0 = .ok (.iconst 0, 1) := by decide +kernel
theorem dX8_isJoined_1 : decode cX8_isJoined 1 = .ok (.istore_n 3, 1) := by decide +kernel
theorem dX8_isJoined_2 : decode cX8_isJoined 2 = .ok (.iconst 0, 1) := by decide +kernel
theorem dX8_isJoined_3 : decode cX8_isJoined 3 = .ok (.istore 4, 2) := by decide +kernel
theorem dX8_isJoined_5 : decode cX8_isJoined 5 = .ok (.iload 4, 2) := by decide +kernel
theorem dX8_isJoined_7 : decode cX8_isJoined 7 = .ok (.aload_n 0, 1) := by decide +kernel
theorem dX8_isJoined_8 : decode cX8_isJoined 8 = .ok (.getfield 95, 3) := by decide +kernel
theorem dX8_isJoined_11 : decode cX8_isJoined 11 = .ok (.if_icmp .ge 74, 3) := by decide +kernel
theorem dX8_isJoined_14 : decode cX8_isJoined 14 = .ok (.iload_n 3, 1) := by decide +kernel
theorem dX8_isJoined_15 : decode cX8_isJoined 15 = .ok (.ifCond .ne 58, 3) := by decide +kernel
theorem dX8_isJoined_18 : decode cX8_isJoined 18 = .ok (.aload_n 0, 1) := by decide +kernel
theorem dX8_isJoined_19 : decode cX8_isJoined 19 = .ok (.getfield 13, 3) := by decide +kernel
theorem dX8_isJoined_22 : decode cX8_isJoined 22 = .ok (.iload 4, 2) := by decide +kernel
theorem dX8_isJoined_24 : decode cX8_isJoined 24 = .ok (.iaload, 1) := by decide +kernel
theorem dX8_isJoined_25 : decode cX8_isJoined 25 = .ok (.iconst 1, 1) := by decide +kernel
theorem dX8_isJoined_26 : decode cX8_isJoined 26 = .ok (.if_icmp .ne 51, 3) := by decide +kernel
theorem dX8_isJoined_29 : decode cX8_isJoined 29 = .ok (.aload_n 0, 1) := by decide +kernel
theorem dX8_isJoined_30 : decode cX8_isJoined 30 = .ok (.getfield 16, 3) := by decide +kernel
theorem dX8_isJoined_33 : decode cX8_isJoined 33 = .ok (.iload 4, 2) := by decide +kernel
theorem dX8_isJoined_35 : decode cX8_isJoined 35 = .ok (.iaload, 1) := by decide +kernel
theorem dX8_isJoined_36 : decode cX8_isJoined 36 = .ok (.iload_n 1, 1) := by decide +kernel
theorem dX8_isJoined_37 : decode cX8_isJoined 37 = .ok (.if_icmp .ne 14, 3) := by decide +kernel
theorem dX8_isJoined_40 : decode cX8_isJoined 40 = .ok (.aload_n 0, 1) := by decide +kernel
theorem dX8_isJoined_41 : decode cX8_isJoined 41 = .ok (.getfield 19, 3) := by decide +kernel
theorem dX8_isJoined_44 : decode cX8_isJoined 44 = .ok (.iload 4, 2) := by decide +kernel
theorem dX8_isJoined_46 : decode cX8_isJoined 46 = .ok (.iaload, 1) := by decide +kernel
theorem dX8_isJoined_47 : decode cX8_isJoined 47 = .ok (.iload_n 2, 1) := by decide +kernel
theorem dX8_isJoined_48 : decode cX8_isJoined 48 = .ok (.if_icmp .eq 25, 3) := by decide +kernel
theorem dX8_isJoined_51 : decode cX8_isJoined 51 = .ok (.aload_n 0, 1) := by decide +kernel
theorem dX8_isJoined_52 : decode cX8_isJoined 52 = .ok (.getfield 16, 3) := by decide +kernel
theorem dX8_isJoined_55 : decode cX8_isJoined 55 = .ok (.iload 4, 2) := by decide +kernel
theorem dX8_isJoined_57 : decode cX8_isJoined 57 = .ok (.iaload, 1) := by decide +kernel
theorem dX8_isJoined_58 : decode cX8_isJoined 58 = .ok (.iload_n 2, 1) := by decide +kernel
theorem dX8_isJoined_59 : decode cX8_isJoined 59 = .ok (.if_icmp .ne 18, 3) := by decide +kernel
theorem dX8_isJoined_62 : decode cX8_isJoined 62 = .ok (.aload_n 0, 1) := by decide +kernel
theorem dX8_isJoined_63 : decode cX8_isJoined 63 = .ok (.getfield 19, 3) := by decide +kernel
theorem dX8_isJoined_66 : decode cX8_isJoined 66 = .ok (.iload 4, 2) := by decide +kernel
theorem dX8_isJoined_68 : decode cX8_isJoined 68 = .ok (.iaload, 1) := by decide +kernel
theorem dX8_isJoined_69 : decode cX8_isJoined 69 = .ok (.iload_n 1, 1) := by decide +kernel
theorem dX8_isJoined_70 : decode cX8_isJoined 70 = .ok (.if_icmp .ne 7, 3) := by decide +kernel
theorem dX8_isJoined_73 : decode cX8_isJoined 73 = .ok (.iconst 1, 1) := by decide +kernel
theorem dX8_isJoined_74 : decode cX8_isJoined 74 = .ok (.goto 4, 3) := by decide +kernel
theorem dX8_isJoined_77 : decode cX8_isJoined 77 = .ok (.iconst 0, 1) := by decide +kernel
theorem dX8_isJoined_78 : decode cX8_isJoined 78 = .ok (.istore_n 3, 1) := by decide +kernel
theorem dX8_isJoined_79 : decode cX8_isJoined 79 = .ok (.iinc 4 1, 3) := by decide +kernel
theorem dX8_isJoined_82 : decode cX8_isJoined 82 = .ok (.goto (-77), 3) := by decide +kernel
theorem dX8_isJoined_85 : decode cX8_isJoined 85 = .ok (.iload_n 3, 1) := by decide +kernel
theorem dX8_isJoined_86 : decode cX8_isJoined 86 = .ok (.ireturn, 1) := by decide +kernel
theorem dX8_isFree_0 : decode cX8_isFree 0 = .ok (.iconst 1, 1) := by decide +kernel
theorem dX8_isFree_1 : decode cX8_isFree 1 = .ok (.istore_n 3, 1) := by decide +kernel
theorem dX8_isFree_2 : decode cX8_isFree 2 = .ok (.iconst 0, 1) := by decide +kernel
theorem dX8_isFree_3 : decode cX8_isFree 3 = .ok (.istore 4, 2) := by decide +kernel
theorem dX8_isFree_5 : decode cX8_isFree 5 = .ok (.iload 4, 2) := by decide +kernel
theorem dX8_isFree_7 : decode cX8_isFree 7 = .ok (.aload_n 0, 1) := by decide +kernel
theorem dX8_isFree_8 : decode cX8_isFree 8 = .ok (.getfield 79, 3) := by decide +kernel
theorem dX8_isFree_11 : decode cX8_isFree 11 = .ok (.if_icmp .ge 44, 3) := by decide +kernel
theorem dX8_isFree_14 : decode cX8_isFree 14 = .ok (.iload_n 3, 1) := by decide +kernel
theorem dX8_isFree_15 : decode cX8_isFree 15 = .ok (.ifCond .eq 32, 3) := by decide +kernel
theorem dX8_isFree_18 : decode cX8_isFree 18 = .ok (.aload_n 0, 1) := by decide +kernel
theorem dX8_isFree_19 : decode cX8_isFree 19 = .ok (.getfield 37, 3) := by decide +kernel
theorem dX8_isFree_22 : decode cX8_isFree 22 = .ok (.iload_n 1, 1) := by decide +kernel
theorem dX8_isFree_23 : decode cX8_isFree 23 = .ok (.iaload, 1) := by decide +kernel
theorem dX8_isFree_24 : decode cX8_isFree 24 = .ok (.iload 4, 2) := by decide +kernel
theorem dX8_isFree_26 : decode cX8_isFree 26 = .ok (.ishr, 1) := by decide +kernel
theorem dX8_isFree_27 : decode cX8_isFree 27 = .ok (.iconst 1, 1) := by decide +kernel
theorem dX8_isFree_28 : decode cX8_isFree 28 = .ok (.iand, 1) := by decide +kernel
theorem dX8_isFree_29 : decode cX8_isFree 29 = .ok (.ifCond .eq 14, 3) := by decide +kernel
theorem dX8_isFree_32 : decode cX8_isFree 32 = .ok (.aload_n 0, 1) := by decide +kernel
theorem dX8_isFree_33 : decode cX8_isFree 33 = .ok (.getfield 46, 3) := by decide +kernel
theorem dX8_isFree_36 : decode cX8_isFree 36 = .ok (.iload 4, 2) := by decide +kernel
theorem dX8_isFree_38 : decode cX8_isFree 38 = .ok (.iaload, 1) := by decide +kernel
theorem dX8_isFree_39 : decode cX8_isFree 39 = .ok (.iload_n 2, 1) := by decide +kernel
theorem dX8_isFree_40 : decode cX8_isFree 40 = .ok (.if_icmp .eq 7, 3) := by decide +kernel
theorem dX8_isFree_43 : decode cX8_isFree 43 = .ok (.iconst 1, 1) := by decide +kernel
theorem dX8_isFree_44 : decode cX8_isFree 44 = .ok (.goto 4, 3) := by decide +kernel
theorem dX8_isFree_47 : decode cX8_isFree 47 = .ok (.iconst 0, 1) := by decide +kernel
theorem dX8_isFree_48 : decode cX8_isFree 48 = .ok (.istore_n 3, 1) := by decide +kernel
theorem dX8_isFree_49 : decode cX8_isFree 49 = .ok (.iinc 4 1, 3) := by decide +kernel
theorem dX8_isFree_52 : decode cX8_isFree 52 = .ok (.goto (-47), 3) := by decide +kernel
theorem dX8_isFree_55 : decode cX8_isFree 55 = .ok (.iload_n 3, 1) := by decide +kernel
theorem dX8_isFree_56 : decode cX8_isFree 56 = .ok (.ireturn, 1) := by decide +kernel
theorem dX8_homeFor_0 : decode cX8_homeFor 0 = .ok (.aload_n 0, 1) := by decide +kernel
theorem dX8_homeFor_1 : decode cX8_homeFor 1 = .ok (.getfield 7, 3) := by decide +kernel
theorem dX8_homeFor_4 : decode cX8_homeFor 4 = .ok (.iload_n 1, 1) := by decide +kernel
theorem dX8_homeFor_5 : decode cX8_homeFor 5 = .ok (.iaload, 1) := by decide +kernel
theorem dX8_homeFor_6 : decode cX8_homeFor 6 = .ok (.istore_n 2, 1) := by decide +kernel
theorem dX8_homeFor_7 : decode cX8_homeFor 7 = .ok (.iconst 0, 1) := by decide +kernel
theorem dX8_homeFor_8 : decode cX8_homeFor 8 = .ok (.istore_n 3, 1) := by decide +kernel
theorem dX8_homeFor_9 : decode cX8_homeFor 9 = .ok (.iload_n 3, 1) := by decide +kernel
theorem dX8_homeFor_10 : decode cX8_homeFor 10 = .ok (.aload_n 0, 1) := by decide +kernel
theorem dX8_homeFor_11 : decode cX8_homeFor 11 = .ok (.getfield 25, 3) := by decide +kernel
theorem dX8_homeFor_14 : decode cX8_homeFor 14 = .ok (.iload_n 2, 1) := by decide +kernel
theorem dX8_homeFor_15 : decode cX8_homeFor 15 = .ok (.iaload, 1) := by decide +kernel
theorem dX8_homeFor_16 : decode cX8_homeFor 16 = .ok (.if_icmp .ge 96, 3) := by decide +kernel
theorem dX8_homeFor_19 : decode cX8_homeFor 19 = .ok (.iconst 0, 1) := by decide +kernel
theorem dX8_homeFor_20 : decode cX8_homeFor 20 = .ok (.istore 4, 2) := by decide +kernel
theorem dX8_homeFor_22 : decode cX8_homeFor 22 = .ok (.iconst 0, 1) := by decide +kernel
theorem dX8_homeFor_23 : decode cX8_homeFor 23 = .ok (.istore 5, 2) := by decide +kernel
theorem dX8_homeFor_25 : decode cX8_homeFor 25 = .ok (.iload 5, 2) := by decide +kernel
theorem dX8_homeFor_27 : decode cX8_homeFor 27 = .ok (.aload_n 0, 1) := by decide +kernel
theorem dX8_homeFor_28 : decode cX8_homeFor 28 = .ok (.getfield 79, 3) := by decide +kernel
theorem dX8_homeFor_31 : decode cX8_homeFor 31 = .ok (.if_icmp .ge 59, 3) := by decide +kernel
theorem dX8_homeFor_34 : decode cX8_homeFor 34 = .ok (.iload 4, 2) := by decide +kernel
theorem dX8_homeFor_36 : decode cX8_homeFor 36 = .ok (.ifCond .ne 41, 3) := by decide +kernel
theorem dX8_homeFor_39 : decode cX8_homeFor 39 = .ok (.iload 5, 2) := by decide +kernel
theorem dX8_homeFor_41 : decode cX8_homeFor 41 = .ok (.iload_n 1, 1) := by decide +kernel
theorem dX8_homeFor_42 : decode cX8_homeFor 42 = .ok (.if_icmp .eq 39, 3) := by decide +kernel
theorem dX8_homeFor_45 : decode cX8_homeFor 45 = .ok (.aload_n 0, 1) := by decide +kernel
theorem dX8_homeFor_46 : decode cX8_homeFor 46 = .ok (.getfield 7, 3) := by decide +kernel
theorem dX8_homeFor_49 : decode cX8_homeFor 49 = .ok (.iload 5, 2) := by decide +kernel
theorem dX8_homeFor_51 : decode cX8_homeFor 51 = .ok (.iaload, 1) := by decide +kernel
theorem dX8_homeFor_52 : decode cX8_homeFor 52 = .ok (.iload_n 2, 1) := by decide +kernel
theorem dX8_homeFor_53 : decode cX8_homeFor 53 = .ok (.if_icmp .ne 28, 3) := by decide +kernel
theorem dX8_homeFor_56 : decode cX8_homeFor 56 = .ok (.aload_n 0, 1) := by decide +kernel
theorem dX8_homeFor_57 : decode cX8_homeFor 57 = .ok (.getfield 46, 3) := by decide +kernel
theorem dX8_homeFor_60 : decode cX8_homeFor 60 = .ok (.iload 5, 2) := by decide +kernel
theorem dX8_homeFor_62 : decode cX8_homeFor 62 = .ok (.iaload, 1) := by decide +kernel
theorem dX8_homeFor_63 : decode cX8_homeFor 63 = .ok (.iload_n 3, 1) := by decide +kernel
theorem dX8_homeFor_64 : decode cX8_homeFor 64 = .ok (.if_icmp .ne 17, 3) := by decide +kernel
theorem dX8_homeFor_67 : decode cX8_homeFor 67 = .ok (.aload_n 0, 1) := by decide +kernel
theorem dX8_homeFor_68 : decode cX8_homeFor 68 = .ok (.iload_n 1, 1) := by decide +kernel
theorem dX8_homeFor_69 : decode cX8_homeFor 69 = .ok (.iload 5, 2) := by decide +kernel
theorem dX8_homeFor_71 : decode cX8_homeFor 71 = .ok (.invokevirtual 112, 3) := by decide +kernel
theorem dX8_homeFor_74 : decode cX8_homeFor 74 = .ok (.ifCond .eq 7, 3) := by decide +kernel
theorem dX8_homeFor_77 : decode cX8_homeFor 77 = .ok (.iconst 1, 1) := by decide +kernel
theorem dX8_homeFor_78 : decode cX8_homeFor 78 = .ok (.goto 4, 3) := by decide +kernel
theorem dX8_homeFor_81 : decode cX8_homeFor 81 = .ok (.iconst 0, 1) := by decide +kernel
theorem dX8_homeFor_82 : decode cX8_homeFor 82 = .ok (.istore 4, 2) := by decide +kernel
theorem dX8_homeFor_84 : decode cX8_homeFor 84 = .ok (.iinc 5 1, 3) := by decide +kernel
theorem dX8_homeFor_87 : decode cX8_homeFor 87 = .ok (.goto (-62), 3) := by decide +kernel
theorem dX8_homeFor_90 : decode cX8_homeFor 90 = .ok (.iload 4, 2) := by decide +kernel
theorem dX8_homeFor_92 : decode cX8_homeFor 92 = .ok (.ifCond .eq 14, 3) := by decide +kernel
theorem dX8_homeFor_95 : decode cX8_homeFor 95 = .ok (.aload_n 0, 1) := by decide +kernel
theorem dX8_homeFor_96 : decode cX8_homeFor 96 = .ok (.iload_n 1, 1) := by decide +kernel
theorem dX8_homeFor_97 : decode cX8_homeFor 97 = .ok (.iload_n 3, 1) := by decide +kernel
theorem dX8_homeFor_98 : decode cX8_homeFor 98 = .ok (.invokevirtual 115, 3) := by decide +kernel
theorem dX8_homeFor_101 : decode cX8_homeFor 101 = .ok (.ifCond .eq 5, 3) := by decide +kernel
theorem dX8_homeFor_104 : decode cX8_homeFor 104 = .ok (.iload_n 3, 1) := by decide +kernel
theorem dX8_homeFor_105 : decode cX8_homeFor 105 = .ok (.ireturn, 1) := by decide +kernel
theorem dX8_homeFor_106 : decode cX8_homeFor 106 = .ok (.iinc 3 1, 3) := by decide +kernel
theorem dX8_homeFor_109 : decode cX8_homeFor 109 = .ok (.goto (-100), 3) := by decide +kernel
theorem dX8_homeFor_112 : decode cX8_homeFor 112 = .ok (.iconst 0, 1) := by decide +kernel
theorem dX8_homeFor_113 : decode cX8_homeFor 113 = .ok (.istore_n 3, 1) := by decide +kernel
theorem dX8_homeFor_114 : decode cX8_homeFor 114 = .ok (.iload_n 3, 1) := by decide +kernel
theorem dX8_homeFor_115 : decode cX8_homeFor 115 = .ok (.aload_n 0, 1) := by decide +kernel
theorem dX8_homeFor_116 : decode cX8_homeFor 116 = .ok (.getfield 25, 3) := by decide +kernel
theorem dX8_homeFor_119 : decode cX8_homeFor 119 = .ok (.iload_n 2, 1) := by decide +kernel
theorem dX8_homeFor_120 : decode cX8_homeFor 120 = .ok (.iaload, 1) := by decide +kernel
theorem dX8_homeFor_121 : decode cX8_homeFor 121 = .ok (.if_icmp .ge 20, 3) := by decide +kernel
theorem dX8_homeFor_124 : decode cX8_homeFor 124 = .ok (.aload_n 0, 1) := by decide +kernel
theorem dX8_homeFor_125 : decode cX8_homeFor 125 = .ok (.iload_n 1, 1) := by decide +kernel
theorem dX8_homeFor_126 : decode cX8_homeFor 126 = .ok (.iload_n 3, 1) := by decide +kernel
theorem dX8_homeFor_127 : decode cX8_homeFor 127 = .ok (.invokevirtual 115, 3) := by decide +kernel
theorem dX8_homeFor_130 : decode cX8_homeFor 130 = .ok (.ifCond .eq 5, 3) := by decide +kernel
theorem dX8_homeFor_133 : decode cX8_homeFor 133 = .ok (.iload_n 3, 1) := by decide +kernel
theorem dX8_homeFor_134 : decode cX8_homeFor 134 = .ok (.ireturn, 1) := by decide +kernel
theorem dX8_homeFor_135 : decode cX8_homeFor 135 = .ok (.iinc 3 1, 3) := by decide +kernel
theorem dX8_homeFor_138 : decode cX8_homeFor 138 = .ok (.goto (-24), 3) := by decide +kernel
theorem dX8_homeFor_141 : decode cX8_homeFor 141 = .ok (.bipush 100, 2) := by decide +kernel
theorem dX8_homeFor_143 : decode cX8_homeFor 143 = .ok (.istore_n 3, 1) := by decide +kernel
theorem dX8_homeFor_144 : decode cX8_homeFor 144 = .ok (.aload_n 0, 1) := by decide +kernel
theorem dX8_homeFor_145 : decode cX8_homeFor 145 = .ok (.iload_n 1, 1) := by decide +kernel
theorem dX8_homeFor_146 : decode cX8_homeFor 146 = .ok (.iload_n 3, 1) := by decide +kernel
theorem dX8_homeFor_147 : decode cX8_homeFor 147 = .ok (.invokevirtual 115, 3) := by decide +kernel
theorem dX8_homeFor_150 : decode cX8_homeFor 150 = .ok (.ifCond .ne 9, 3) := by decide +kernel
theorem dX8_homeFor_153 : decode cX8_homeFor 153 = .ok (.iinc 3 1, 3) := by decide +kernel
theorem dX8_homeFor_156 : decode cX8_homeFor 156 = .ok (.goto (-12), 3) := by decide +kernel
theorem dX8_homeFor_159 : decode cX8_homeFor 159 = .ok (.iload_n 3, 1) := by decide +kernel
theorem dX8_homeFor_160 : decode cX8_homeFor 160 = .ok (.ireturn, 1) := by decide +kernel
theorem dX8_settle_0 : decode cX8_settle 0 = .ok (.aload_n 0, 1) := by decide +kernel
theorem dX8_settle_1 : decode cX8_settle 1 = .ok (.invokevirtual 118, 3) := by decide +kernel
theorem dX8_settle_4 : decode cX8_settle 4 = .ok (.aload_n 0, 1) := by decide +kernel
theorem dX8_settle_5 : decode cX8_settle 5 = .ok (.invokevirtual 121, 3) := by decide +kernel
theorem dX8_settle_8 : decode cX8_settle 8 = .ok (.iconst 0, 1) := by decide +kernel
theorem dX8_settle_9 : decode cX8_settle 9 = .ok (.istore_n 1, 1) := by decide +kernel
theorem dX8_settle_10 : decode cX8_settle 10 = .ok (.iload_n 1, 1) := by decide +kernel
theorem dX8_settle_11 : decode cX8_settle 11 = .ok (.aload_n 0, 1) := by decide +kernel
theorem dX8_settle_12 : decode cX8_settle 12 = .ok (.getfield 79, 3) := by decide +kernel
theorem dX8_settle_15 : decode cX8_settle 15 = .ok (.if_icmp .ge 71, 3) := by decide +kernel
theorem dX8_settle_18 : decode cX8_settle 18 = .ok (.iload_n 1, 1) := by decide +kernel
theorem dX8_settle_19 : decode cX8_settle 19 = .ok (.istore_n 2, 1) := by decide +kernel
theorem dX8_settle_20 : decode cX8_settle 20 = .ok (.iload_n 2, 1) := by decide +kernel
theorem dX8_settle_21 : decode cX8_settle 21 = .ok (.ifCond .le 45, 3) := by decide +kernel
theorem dX8_settle_24 : decode cX8_settle 24 = .ok (.aload_n 0, 1) := by decide +kernel
theorem dX8_settle_25 : decode cX8_settle 25 = .ok (.getfield 40, 3) := by decide +kernel
theorem dX8_settle_28 : decode cX8_settle 28 = .ok (.aload_n 0, 1) := by decide +kernel
theorem dX8_settle_29 : decode cX8_settle 29 = .ok (.getfield 43, 3) := by decide +kernel
theorem dX8_settle_32 : decode cX8_settle 32 = .ok (.iload_n 2, 1) := by decide +kernel
theorem dX8_settle_33 : decode cX8_settle 33 = .ok (.iconst 1, 1) := by decide +kernel
theorem dX8_settle_34 : decode cX8_settle 34 = .ok (.isub, 1) := by decide +kernel
theorem dX8_settle_35 : decode cX8_settle 35 = .ok (.iaload, 1) := by decide +kernel
theorem dX8_settle_36 : decode cX8_settle 36 = .ok (.iaload, 1) := by decide +kernel
theorem dX8_settle_37 : decode cX8_settle 37 = .ok (.aload_n 0, 1) := by decide +kernel
theorem dX8_settle_38 : decode cX8_settle 38 = .ok (.getfield 40, 3) := by decide +kernel
theorem dX8_settle_41 : decode cX8_settle 41 = .ok (.iload_n 1, 1) := by decide +kernel
theorem dX8_settle_42 : decode cX8_settle 42 = .ok (.iaload, 1) := by decide +kernel
theorem dX8_settle_43 : decode cX8_settle 43 = .ok (.if_icmp .ge 23, 3) := by decide +kernel
theorem dX8_settle_46 : decode cX8_settle 46 = .ok (.aload_n 0, 1) := by decide +kernel
theorem dX8_settle_47 : decode cX8_settle 47 = .ok (.getfield 43, 3) := by decide +kernel
theorem dX8_settle_50 : decode cX8_settle 50 = .ok (.iload_n 2, 1) := by decide +kernel
theorem dX8_settle_51 : decode cX8_settle 51 = .ok (.aload_n 0, 1) := by decide +kernel
theorem dX8_settle_52 : decode cX8_settle 52 = .ok (.getfield 43, 3) := by decide +kernel
theorem dX8_settle_55 : decode cX8_settle 55 = .ok (.iload_n 2, 1) := by decide +kernel
theorem dX8_settle_56 : decode cX8_settle 56 = .ok (.iconst 1, 1) := by decide +kernel
theorem dX8_settle_57 : decode cX8_settle 57 = .ok (.isub, 1) := by decide +kernel
theorem dX8_settle_58 : decode cX8_settle 58 = .ok (.iaload, 1) := by decide +kernel
theorem dX8_settle_59 : decode cX8_settle 59 = .ok (.iastore, 1) := by decide +kernel
theorem dX8_settle_60 : decode cX8_settle 60 = .ok (.iinc 2 (-1), 3) := by decide +kernel
theorem dX8_settle_63 : decode cX8_settle 63 = .ok (.goto (-43), 3) := by decide +kernel
theorem dX8_settle_66 : decode cX8_settle 66 = .ok (.aload_n 0, 1) := by decide +kernel
theorem dX8_settle_67 : decode cX8_settle 67 = .ok (.getfield 43, 3) := by decide +kernel
theorem dX8_settle_70 : decode cX8_settle 70 = .ok (.iload_n 2, 1) := by decide +kernel
theorem dX8_settle_71 : decode cX8_settle 71 = .ok (.iload_n 1, 1) := by decide +kernel
theorem dX8_settle_72 : decode cX8_settle 72 = .ok (.iastore, 1) := by decide +kernel
theorem dX8_settle_73 : decode cX8_settle 73 = .ok (.aload_n 0, 1) := by decide +kernel
theorem dX8_settle_74 : decode cX8_settle 74 = .ok (.getfield 46, 3) := by decide +kernel
theorem dX8_settle_77 : decode cX8_settle 77 = .ok (.iload_n 1, 1) := by decide +kernel
theorem dX8_settle_78 : decode cX8_settle 78 = .ok (.iconst (-1), 1) := by decide +kernel
theorem dX8_settle_79 : decode cX8_settle 79 = .ok (.iastore, 1) := by decide +kernel
theorem dX8_settle_80 : decode cX8_settle 80 = .ok (.iinc 1 1, 3) := by decide +kernel
theorem dX8_settle_83 : decode cX8_settle 83 = .ok (.goto (-73), 3) := by decide +kernel
theorem dX8_settle_86 : decode cX8_settle 86 = .ok (.iconst 0, 1) := by decide +kernel
theorem dX8_settle_87 : decode cX8_settle 87 = .ok (.istore_n 1, 1) := by decide +kernel
theorem dX8_settle_88 : decode cX8_settle 88 = .ok (.iload_n 1, 1) := by decide +kernel
theorem dX8_settle_89 : decode cX8_settle 89 = .ok (.aload_n 0, 1) := by decide +kernel
theorem dX8_settle_90 : decode cX8_settle 90 = .ok (.getfield 79, 3) := by decide +kernel
theorem dX8_settle_93 : decode cX8_settle 93 = .ok (.if_icmp .ge 30, 3) := by decide +kernel
theorem dX8_settle_96 : decode cX8_settle 96 = .ok (.aload_n 0, 1) := by decide +kernel
theorem dX8_settle_97 : decode cX8_settle 97 = .ok (.getfield 46, 3) := by decide +kernel
theorem dX8_settle_100 : decode cX8_settle 100 = .ok (.aload_n 0, 1) := by decide +kernel
theorem dX8_settle_101 : decode cX8_settle 101 = .ok (.getfield 43, 3) := by decide +kernel
theorem dX8_settle_104 : decode cX8_settle 104 = .ok (.iload_n 1, 1) := by decide +kernel
theorem dX8_settle_105 : decode cX8_settle 105 = .ok (.iaload, 1) := by decide +kernel
theorem dX8_settle_106 : decode cX8_settle 106 = .ok (.aload_n 0, 1) := by decide +kernel
theorem dX8_settle_107 : decode cX8_settle 107 = .ok (.aload_n 0, 1) := by decide +kernel
theorem dX8_settle_108 : decode cX8_settle 108 = .ok (.getfield 43, 3) := by decide +kernel
theorem dX8_settle_111 : decode cX8_settle 111 = .ok (.iload_n 1, 1) := by decide +kernel
theorem dX8_settle_112 : decode cX8_settle 112 = .ok (.iaload, 1) := by decide +kernel
theorem dX8_settle_113 : decode cX8_settle 113 = .ok (.invokevirtual 124, 3) := by decide +kernel
theorem dX8_settle_116 : decode cX8_settle 116 = .ok (.iastore, 1) := by decide +kernel
theorem dX8_settle_117 : decode cX8_settle 117 = .ok (.iinc 1 1, 3) := by decide +kernel
theorem dX8_settle_120 : decode cX8_settle 120 = .ok (.goto (-32), 3) := by decide +kernel
theorem dX8_settle_123 : decode cX8_settle 123 = .ok (.return_, 1) := by decide +kernel
theorem dX8_lay_0 : decode cX8_lay 0 = .ok (.iconst 4, 1) := by decide +kernel
theorem dX8_lay_1 : decode cX8_lay 1 = .ok (.aload_n 0, 1) := by decide +kernel
theorem dX8_lay_2 : decode cX8_lay 2 = .ok (.getfield 52, 3) := by decide +kernel
theorem dX8_lay_5 : decode cX8_lay 5 = .ok (.iconst 0, 1) := by decide +kernel
theorem dX8_lay_6 : decode cX8_lay 6 = .ok (.iaload, 1) := by decide +kernel
theorem dX8_lay_7 : decode cX8_lay 7 = .ok (.imul, 1) := by decide +kernel
theorem dX8_lay_8 : decode cX8_lay 8 = .ok (.istore 5, 2) := by decide +kernel
theorem dX8_lay_10 : decode cX8_lay 10 = .ok (.aload_n 0, 1) := by decide +kernel
theorem dX8_lay_11 : decode cX8_lay 11 = .ok (.getfield 49, 3) := by decide +kernel
theorem dX8_lay_14 : decode cX8_lay 14 = .ok (.iload 5, 2) := by decide +kernel
theorem dX8_lay_16 : decode cX8_lay 16 = .ok (.iload_n 1, 1) := by decide +kernel
theorem dX8_lay_17 : decode cX8_lay 17 = .ok (.iastore, 1) := by decide +kernel
theorem dX8_lay_18 : decode cX8_lay 18 = .ok (.aload_n 0, 1) := by decide +kernel
theorem dX8_lay_19 : decode cX8_lay 19 = .ok (.getfield 49, 3) := by decide +kernel
theorem dX8_lay_22 : decode cX8_lay 22 = .ok (.iload 5, 2) := by decide +kernel
theorem dX8_lay_24 : decode cX8_lay 24 = .ok (.iconst 1, 1) := by decide +kernel
theorem dX8_lay_25 : decode cX8_lay 25 = .ok (.iadd, 1) := by decide +kernel
theorem dX8_lay_26 : decode cX8_lay 26 = .ok (.iload_n 2, 1) := by decide +kernel
theorem dX8_lay_27 : decode cX8_lay 27 = .ok (.iastore, 1) := by decide +kernel
theorem dX8_lay_28 : decode cX8_lay 28 = .ok (.aload_n 0, 1) := by decide +kernel
theorem dX8_lay_29 : decode cX8_lay 29 = .ok (.getfield 49, 3) := by decide +kernel
theorem dX8_lay_32 : decode cX8_lay 32 = .ok (.iload 5, 2) := by decide +kernel
theorem dX8_lay_34 : decode cX8_lay 34 = .ok (.iconst 2, 1) := by decide +kernel
theorem dX8_lay_35 : decode cX8_lay 35 = .ok (.iadd, 1) := by decide +kernel
theorem dX8_lay_36 : decode cX8_lay 36 = .ok (.iload_n 3, 1) := by decide +kernel
theorem dX8_lay_37 : decode cX8_lay 37 = .ok (.iastore, 1) := by decide +kernel
theorem dX8_lay_38 : decode cX8_lay 38 = .ok (.aload_n 0, 1) := by decide +kernel
theorem dX8_lay_39 : decode cX8_lay 39 = .ok (.getfield 49, 3) := by decide +kernel
theorem dX8_lay_42 : decode cX8_lay 42 = .ok (.iload 5, 2) := by decide +kernel
theorem dX8_lay_44 : decode cX8_lay 44 = .ok (.iconst 3, 1) := by decide +kernel
theorem dX8_lay_45 : decode cX8_lay 45 = .ok (.iadd, 1) := by decide +kernel
theorem dX8_lay_46 : decode cX8_lay 46 = .ok (.iload 4, 2) := by decide +kernel
theorem dX8_lay_48 : decode cX8_lay 48 = .ok (.iastore, 1) := by decide +kernel
theorem dX8_lay_49 : decode cX8_lay 49 = .ok (.aload_n 0, 1) := by decide +kernel
theorem dX8_lay_50 : decode cX8_lay 50 = .ok (.getfield 52, 3) := by decide +kernel
theorem dX8_lay_53 : decode cX8_lay 53 = .ok (.iconst 0, 1) := by decide +kernel
theorem dX8_lay_54 : decode cX8_lay 54 = .ok (.dup2, 1) := by decide +kernel
theorem dX8_lay_55 : decode cX8_lay 55 = .ok (.iaload, 1) := by decide +kernel
theorem dX8_lay_56 : decode cX8_lay 56 = .ok (.iconst 1, 1) := by decide +kernel
theorem dX8_lay_57 : decode cX8_lay 57 = .ok (.iadd, 1) := by decide +kernel
theorem dX8_lay_58 : decode cX8_lay 58 = .ok (.iastore, 1) := by decide +kernel
theorem dX8_lay_59 : decode cX8_lay 59 = .ok (.return_, 1) := by decide +kernel
theorem dX8_register_0 : decode cX8_register 0 = .ok (.bipush 16, 2) := by decide +kernel
theorem dX8_register_2 : decode cX8_register 2 = .ok (.iload_n 0, 1) := by decide +kernel
theorem dX8_register_3 : decode cX8_register 3 = .ok (.imul, 1) := by decide +kernel
theorem dX8_register_4 : decode cX8_register 4 = .ok (.iload_n 1, 1) := by decide +kernel
theorem dX8_register_5 : decode cX8_register 5 = .ok (.iadd, 1) := by decide +kernel
theorem dX8_register_6 : decode cX8_register 6 = .ok (.ireturn, 1) := by decide +kernel
theorem dX8_fetch_0 : decode cX8_fetch 0 = .ok (.bipush 8, 2) := by decide +kernel
theorem dX8_fetch_2 : decode cX8_fetch 2 = .ok (.istore_n 2, 1) := by decide +kernel
theorem dX8_fetch_3 : decode cX8_fetch 3 = .ok (.iconst 0, 1) := by decide +kernel
theorem dX8_fetch_4 : decode cX8_fetch 4 = .ok (.istore_n 3, 1) := by decide +kernel
theorem dX8_fetch_5 : decode cX8_fetch 5 = .ok (.iload_n 3, 1) := by decide +kernel
theorem dX8_fetch_6 : decode cX8_fetch 6 = .ok (.aload_n 0, 1) := by decide +kernel
theorem dX8_fetch_7 : decode cX8_fetch 7 = .ok (.getfield 127, 3) := by decide +kernel
theorem dX8_fetch_10 : decode cX8_fetch 10 = .ok (.if_icmp .ge 47, 3) := by decide +kernel
theorem dX8_fetch_13 : decode cX8_fetch 13 = .ok (.aload_n 0, 1) := by decide +kernel
theorem dX8_fetch_14 : decode cX8_fetch 14 = .ok (.getfield 73, 3) := by decide +kernel
theorem dX8_fetch_17 : decode cX8_fetch 17 = .ok (.iload_n 3, 1) := by decide +kernel
theorem dX8_fetch_18 : decode cX8_fetch 18 = .ok (.iaload, 1) := by decide +kernel
theorem dX8_fetch_19 : decode cX8_fetch 19 = .ok (.iload_n 1, 1) := by decide +kernel
theorem dX8_fetch_20 : decode cX8_fetch 20 = .ok (.if_icmp .ne 4, 3) := by decide +kernel
theorem dX8_fetch_23 : decode cX8_fetch 23 = .ok (.return_, 1) := by decide +kernel
theorem dX8_fetch_24 : decode cX8_fetch 24 = .ok (.aload_n 0, 1) := by decide +kernel
theorem dX8_fetch_25 : decode cX8_fetch 25 = .ok (.getfield 7, 3) := by decide +kernel
theorem dX8_fetch_28 : decode cX8_fetch 28 = .ok (.aload_n 0, 1) := by decide +kernel
theorem dX8_fetch_29 : decode cX8_fetch 29 = .ok (.getfield 73, 3) := by decide +kernel
theorem dX8_fetch_32 : decode cX8_fetch 32 = .ok (.iload_n 3, 1) := by decide +kernel
theorem dX8_fetch_33 : decode cX8_fetch 33 = .ok (.iaload, 1) := by decide +kernel
theorem dX8_fetch_34 : decode cX8_fetch 34 = .ok (.iaload, 1) := by decide +kernel
theorem dX8_fetch_35 : decode cX8_fetch 35 = .ok (.aload_n 0, 1) := by decide +kernel
theorem dX8_fetch_36 : decode cX8_fetch 36 = .ok (.getfield 7, 3) := by decide +kernel
theorem dX8_fetch_39 : decode cX8_fetch 39 = .ok (.iload_n 1, 1) := by decide +kernel
theorem dX8_fetch_40 : decode cX8_fetch 40 = .ok (.iaload, 1) := by decide +kernel
theorem dX8_fetch_41 : decode cX8_fetch 41 = .ok (.if_icmp .ne 8, 3) := by decide +kernel
theorem dX8_fetch_44 : decode cX8_fetch 44 = .ok (.bipush 9, 2) := by decide +kernel
theorem dX8_fetch_46 : decode cX8_fetch 46 = .ok (.goto 4, 3) := by decide +kernel
theorem dX8_fetch_49 : decode cX8_fetch 49 = .ok (.iload_n 2, 1) := by decide +kernel
theorem dX8_fetch_50 : decode cX8_fetch 50 = .ok (.istore_n 2, 1) := by decide +kernel
theorem dX8_fetch_51 : decode cX8_fetch 51 = .ok (.iinc 3 1, 3) := by decide +kernel
theorem dX8_fetch_54 : decode cX8_fetch 54 = .ok (.goto (-49), 3) := by decide +kernel
theorem dX8_fetch_57 : decode cX8_fetch 57 = .ok (.aload_n 0, 1) := by decide +kernel
theorem dX8_fetch_58 : decode cX8_fetch 58 = .ok (.getfield 73, 3) := by decide +kernel
theorem dX8_fetch_61 : decode cX8_fetch 61 = .ok (.aload_n 0, 1) := by decide +kernel
theorem dX8_fetch_62 : decode cX8_fetch 62 = .ok (.getfield 127, 3) := by decide +kernel
theorem dX8_fetch_65 : decode cX8_fetch 65 = .ok (.iload_n 1, 1) := by decide +kernel
theorem dX8_fetch_66 : decode cX8_fetch 66 = .ok (.iastore, 1) := by decide +kernel
theorem dX8_fetch_67 : decode cX8_fetch 67 = .ok (.aload_n 0, 1) := by decide +kernel
theorem dX8_fetch_68 : decode cX8_fetch 68 = .ok (.getfield 76, 3) := by decide +kernel
theorem dX8_fetch_71 : decode cX8_fetch 71 = .ok (.aload_n 0, 1) := by decide +kernel
theorem dX8_fetch_72 : decode cX8_fetch 72 = .ok (.getfield 127, 3) := by decide +kernel
theorem dX8_fetch_75 : decode cX8_fetch 75 = .ok (.aload_n 0, 1) := by decide +kernel
theorem dX8_fetch_76 : decode cX8_fetch 76 = .ok (.getfield 7, 3) := by decide +kernel
theorem dX8_fetch_79 : decode cX8_fetch 79 = .ok (.iload_n 1, 1) := by decide +kernel
theorem dX8_fetch_80 : decode cX8_fetch 80 = .ok (.iaload, 1) := by decide +kernel
theorem dX8_fetch_81 : decode cX8_fetch 81 = .ok (.iload_n 2, 1) := by decide +kernel
theorem dX8_fetch_82 : decode cX8_fetch 82 = .ok (.invokestatic 130, 3) := by decide +kernel
theorem dX8_fetch_85 : decode cX8_fetch 85 = .ok (.iastore, 1) := by decide +kernel
theorem dX8_fetch_86 : decode cX8_fetch 86 = .ok (.aload_n 0, 1) := by decide +kernel
theorem dX8_fetch_87 : decode cX8_fetch 87 = .ok (.dup, 1) := by decide +kernel
theorem dX8_fetch_88 : decode cX8_fetch 88 = .ok (.getfield 127, 3) := by decide +kernel
theorem dX8_fetch_91 : decode cX8_fetch 91 = .ok (.iconst 1, 1) := by decide +kernel
theorem dX8_fetch_92 : decode cX8_fetch 92 = .ok (.iadd, 1) := by decide +kernel
theorem dX8_fetch_93 : decode cX8_fetch 93 = .ok (.putfield 127, 3) := by decide +kernel
theorem dX8_fetch_96 : decode cX8_fetch 96 = .ok (.aload_n 0, 1) := by decide +kernel
theorem dX8_fetch_97 : decode cX8_fetch 97 = .ok (.bipush 11, 2) := by decide +kernel
theorem dX8_fetch_99 : decode cX8_fetch 99 = .ok (.aload_n 0, 1) := by decide +kernel
theorem dX8_fetch_100 : decode cX8_fetch 100 = .ok (.getfield 7, 3) := by decide +kernel
theorem dX8_fetch_103 : decode cX8_fetch 103 = .ok (.iload_n 1, 1) := by decide +kernel
theorem dX8_fetch_104 : decode cX8_fetch 104 = .ok (.iaload, 1) := by decide +kernel
theorem dX8_fetch_105 : decode cX8_fetch 105 = .ok (.iload_n 2, 1) := by decide +kernel
theorem dX8_fetch_106 : decode cX8_fetch 106 = .ok (.invokestatic 130, 3) := by decide +kernel
theorem dX8_fetch_109 : decode cX8_fetch 109 = .ok (.aload_n 0, 1) := by decide +kernel
theorem dX8_fetch_110 : decode cX8_fetch 110 = .ok (.getfield 46, 3) := by decide +kernel
theorem dX8_fetch_113 : decode cX8_fetch 113 = .ok (.iload_n 1, 1) := by decide +kernel
theorem dX8_fetch_114 : decode cX8_fetch 114 = .ok (.iaload, 1) := by decide +kernel
theorem dX8_fetch_115 : decode cX8_fetch 115 = .ok (.bipush 100, 2) := by decide +kernel
theorem dX8_fetch_117 : decode cX8_fetch 117 = .ok (.isub, 1) := by decide +kernel
theorem dX8_fetch_118 : decode cX8_fetch 118 = .ok (.iconst 0, 1) := by decide +kernel
theorem dX8_fetch_119 : decode cX8_fetch 119 = .ok (.invokevirtual 133, 3) := by decide +kernel
theorem dX8_fetch_122 : decode cX8_fetch 122 = .ok (.return_, 1) := by decide +kernel
theorem dX8_from_0 : decode cX8_from 0 = .ok (.aload_n 0, 1) := by decide +kernel
theorem dX8_from_1 : decode cX8_from 1 = .ok (.getfield 7, 3) := by decide +kernel
theorem dX8_from_4 : decode cX8_from 4 = .ok (.iload_n 1, 1) := by decide +kernel
theorem dX8_from_5 : decode cX8_from 5 = .ok (.iaload, 1) := by decide +kernel
theorem dX8_from_6 : decode cX8_from 6 = .ok (.aload_n 0, 1) := by decide +kernel
theorem dX8_from_7 : decode cX8_from 7 = .ok (.getfield 46, 3) := by decide +kernel
theorem dX8_from_10 : decode cX8_from 10 = .ok (.iload_n 1, 1) := by decide +kernel
theorem dX8_from_11 : decode cX8_from 11 = .ok (.iaload, 1) := by decide +kernel
theorem dX8_from_12 : decode cX8_from 12 = .ok (.invokestatic 130, 3) := by decide +kernel
theorem dX8_from_15 : decode cX8_from 15 = .ok (.istore_n 2, 1) := by decide +kernel
theorem dX8_from_16 : decode cX8_from 16 = .ok (.iconst 0, 1) := by decide +kernel
theorem dX8_from_17 : decode cX8_from 17 = .ok (.istore_n 3, 1) := by decide +kernel
theorem dX8_from_18 : decode cX8_from 18 = .ok (.iload_n 3, 1) := by decide +kernel
theorem dX8_from_19 : decode cX8_from 19 = .ok (.aload_n 0, 1) := by decide +kernel
theorem dX8_from_20 : decode cX8_from 20 = .ok (.getfield 127, 3) := by decide +kernel
theorem dX8_from_23 : decode cX8_from 23 = .ok (.if_icmp .ge 30, 3) := by decide +kernel
theorem dX8_from_26 : decode cX8_from 26 = .ok (.aload_n 0, 1) := by decide +kernel
theorem dX8_from_27 : decode cX8_from 27 = .ok (.getfield 73, 3) := by decide +kernel
theorem dX8_from_30 : decode cX8_from 30 = .ok (.iload_n 3, 1) := by decide +kernel
theorem dX8_from_31 : decode cX8_from 31 = .ok (.iaload, 1) := by decide +kernel
theorem dX8_from_32 : decode cX8_from 32 = .ok (.iload_n 1, 1) := by decide +kernel
theorem dX8_from_33 : decode cX8_from 33 = .ok (.if_icmp .ne 12, 3) := by decide +kernel
theorem dX8_from_36 : decode cX8_from 36 = .ok (.aload_n 0, 1) := by decide +kernel
theorem dX8_from_37 : decode cX8_from 37 = .ok (.getfield 76, 3) := by decide +kernel
theorem dX8_from_40 : decode cX8_from 40 = .ok (.iload_n 3, 1) := by decide +kernel
theorem dX8_from_41 : decode cX8_from 41 = .ok (.iaload, 1) := by decide +kernel
theorem dX8_from_42 : decode cX8_from 42 = .ok (.goto 4, 3) := by decide +kernel
theorem dX8_from_45 : decode cX8_from 45 = .ok (.iload_n 2, 1) := by decide +kernel
theorem dX8_from_46 : decode cX8_from 46 = .ok (.istore_n 2, 1) := by decide +kernel
theorem dX8_from_47 : decode cX8_from 47 = .ok (.iinc 3 1, 3) := by decide +kernel
theorem dX8_from_50 : decode cX8_from 50 = .ok (.goto (-32), 3) := by decide +kernel
theorem dX8_from_53 : decode cX8_from 53 = .ok (.iload_n 2, 1) := by decide +kernel
theorem dX8_from_54 : decode cX8_from 54 = .ok (.ireturn, 1) := by decide +kernel
theorem dX8_to_0 : decode cX8_to 0 = .ok (.aload_n 0, 1) := by decide +kernel
theorem dX8_to_1 : decode cX8_to 1 = .ok (.getfield 7, 3) := by decide +kernel
theorem dX8_to_4 : decode cX8_to 4 = .ok (.iload_n 1, 1) := by decide +kernel
theorem dX8_to_5 : decode cX8_to 5 = .ok (.iaload, 1) := by decide +kernel
theorem dX8_to_6 : decode cX8_to 6 = .ok (.aload_n 0, 1) := by decide +kernel
theorem dX8_to_7 : decode cX8_to 7 = .ok (.getfield 46, 3) := by decide +kernel
theorem dX8_to_10 : decode cX8_to 10 = .ok (.iload_n 1, 1) := by decide +kernel
theorem dX8_to_11 : decode cX8_to 11 = .ok (.iaload, 1) := by decide +kernel
theorem dX8_to_12 : decode cX8_to 12 = .ok (.bipush 100, 2) := by decide +kernel
theorem dX8_to_14 : decode cX8_to 14 = .ok (.if_icmp .lt 8, 3) := by decide +kernel
theorem dX8_to_17 : decode cX8_to 17 = .ok (.bipush 8, 2) := by decide +kernel
theorem dX8_to_19 : decode cX8_to 19 = .ok (.goto 9, 3) := by decide +kernel
theorem dX8_to_22 : decode cX8_to 22 = .ok (.aload_n 0, 1) := by decide +kernel
theorem dX8_to_23 : decode cX8_to 23 = .ok (.getfield 46, 3) := by decide +kernel
theorem dX8_to_26 : decode cX8_to 26 = .ok (.iload_n 1, 1) := by decide +kernel
theorem dX8_to_27 : decode cX8_to 27 = .ok (.iaload, 1) := by decide +kernel
theorem dX8_to_28 : decode cX8_to 28 = .ok (.invokestatic 130, 3) := by decide +kernel
theorem dX8_to_31 : decode cX8_to 31 = .ok (.ireturn, 1) := by decide +kernel
theorem dX8_makeStep_0 : decode cX8_makeStep 0 = .ok (.aload_n 0, 1) := by decide +kernel
theorem dX8_makeStep_1 : decode cX8_makeStep 1 = .ok (.getfield 13, 3) := by decide +kernel
theorem dX8_makeStep_4 : decode cX8_makeStep 4 = .ok (.iload_n 1, 1) := by decide +kernel
theorem dX8_makeStep_5 : decode cX8_makeStep 5 = .ok (.iaload, 1) := by decide +kernel
theorem dX8_makeStep_6 : decode cX8_makeStep 6 = .ok (.istore_n 2, 1) := by decide +kernel
theorem dX8_makeStep_7 : decode cX8_makeStep 7 = .ok (.aload_n 0, 1) := by decide +kernel
theorem dX8_makeStep_8 : decode cX8_makeStep 8 = .ok (.getfield 16, 3) := by decide +kernel
theorem dX8_makeStep_11 : decode cX8_makeStep 11 = .ok (.iload_n 1, 1) := by decide +kernel
theorem dX8_makeStep_12 : decode cX8_makeStep 12 = .ok (.iaload, 1) := by decide +kernel
theorem dX8_makeStep_13 : decode cX8_makeStep 13 = .ok (.istore_n 3, 1) := by decide +kernel
theorem dX8_makeStep_14 : decode cX8_makeStep 14 = .ok (.aload_n 0, 1) := by decide +kernel
theorem dX8_makeStep_15 : decode cX8_makeStep 15 = .ok (.getfield 19, 3) := by decide +kernel
theorem dX8_makeStep_18 : decode cX8_makeStep 18 = .ok (.iload_n 1, 1) := by decide +kernel
theorem dX8_makeStep_19 : decode cX8_makeStep 19 = .ok (.iaload, 1) := by decide +kernel
theorem dX8_makeStep_20 : decode cX8_makeStep 20 = .ok (.istore 4, 2) := by decide +kernel
theorem dX8_makeStep_22 : decode cX8_makeStep 22 = .ok (.aload_n 0, 1) := by decide +kernel
theorem dX8_makeStep_23 : decode cX8_makeStep 23 = .ok (.getfield 22, 3) := by decide +kernel
theorem dX8_makeStep_26 : decode cX8_makeStep 26 = .ok (.iload_n 1, 1) := by decide +kernel
theorem dX8_makeStep_27 : decode cX8_makeStep 27 = .ok (.iaload, 1) := by decide +kernel
theorem dX8_makeStep_28 : decode cX8_makeStep 28 = .ok (.istore 5, 2) := by decide +kernel
theorem dX8_makeStep_30 : decode cX8_makeStep 30 = .ok (.iload_n 2, 1) := by decide +kernel
theorem dX8_makeStep_31 : decode cX8_makeStep 31 = .ok (.iconst 1, 1) := by decide +kernel
theorem dX8_makeStep_32 : decode cX8_makeStep 32 = .ok (.if_icmp .ne 36, 3) := by decide +kernel
theorem dX8_makeStep_35 : decode cX8_makeStep 35 = .ok (.aload_n 0, 1) := by decide +kernel
theorem dX8_makeStep_36 : decode cX8_makeStep 36 = .ok (.getfield 7, 3) := by decide +kernel
theorem dX8_makeStep_39 : decode cX8_makeStep 39 = .ok (.iload_n 3, 1) := by decide +kernel
theorem dX8_makeStep_40 : decode cX8_makeStep 40 = .ok (.iaload, 1) := by decide +kernel
theorem dX8_makeStep_41 : decode cX8_makeStep 41 = .ok (.aload_n 0, 1) := by decide +kernel
theorem dX8_makeStep_42 : decode cX8_makeStep 42 = .ok (.getfield 7, 3) := by decide +kernel
theorem dX8_makeStep_45 : decode cX8_makeStep 45 = .ok (.iload 4, 2) := by decide +kernel
theorem dX8_makeStep_47 : decode cX8_makeStep 47 = .ok (.iaload, 1) := by decide +kernel
theorem dX8_makeStep_48 : decode cX8_makeStep 48 = .ok (.if_icmp .ne 20, 3) := by decide +kernel
theorem dX8_makeStep_51 : decode cX8_makeStep 51 = .ok (.aload_n 0, 1) := by decide +kernel
theorem dX8_makeStep_52 : decode cX8_makeStep 52 = .ok (.getfield 46, 3) := by decide +kernel
theorem dX8_makeStep_55 : decode cX8_makeStep 55 = .ok (.iload_n 3, 1) := by decide +kernel
theorem dX8_makeStep_56 : decode cX8_makeStep 56 = .ok (.iaload, 1) := by decide +kernel
theorem dX8_makeStep_57 : decode cX8_makeStep 57 = .ok (.aload_n 0, 1) := by decide +kernel
theorem dX8_makeStep_58 : decode cX8_makeStep 58 = .ok (.getfield 46, 3) := by decide +kernel
theorem dX8_makeStep_61 : decode cX8_makeStep 61 = .ok (.iload 4, 2) := by decide +kernel
theorem dX8_makeStep_63 : decode cX8_makeStep 63 = .ok (.iaload, 1) := by decide +kernel
theorem dX8_makeStep_64 : decode cX8_makeStep 64 = .ok (.if_icmp .ne 4, 3) := by decide +kernel
theorem dX8_makeStep_67 : decode cX8_makeStep 67 = .ok (.return_, 1) := by decide +kernel
theorem dX8_makeStep_68 : decode cX8_makeStep 68 = .ok (.aload_n 0, 1) := by decide +kernel
theorem dX8_makeStep_69 : decode cX8_makeStep 69 = .ok (.iconst 0, 1) := by decide +kernel
theorem dX8_makeStep_70 : decode cX8_makeStep 70 = .ok (.putfield 127, 3) := by decide +kernel
theorem dX8_makeStep_73 : decode cX8_makeStep 73 = .ok (.iconst 0, 1) := by decide +kernel
theorem dX8_makeStep_74 : decode cX8_makeStep 74 = .ok (.istore 6, 2) := by decide +kernel
theorem dX8_makeStep_76 : decode cX8_makeStep 76 = .ok (.iload 6, 2) := by decide +kernel
theorem dX8_makeStep_78 : decode cX8_makeStep 78 = .ok (.iconst 2, 1) := by decide +kernel
theorem dX8_makeStep_79 : decode cX8_makeStep 79 = .ok (.if_icmp .ge 42, 3) := by decide +kernel
theorem dX8_makeStep_82 : decode cX8_makeStep 82 = .ok (.aload_n 0, 1) := by decide +kernel
theorem dX8_makeStep_83 : decode cX8_makeStep 83 = .ok (.iload_n 1, 1) := by decide +kernel
theorem dX8_makeStep_84 : decode cX8_makeStep 84 = .ok (.iload 6, 2) := by decide +kernel
theorem dX8_makeStep_86 : decode cX8_makeStep 86 = .ok (.invokevirtual 98, 3) := by decide +kernel
theorem dX8_makeStep_89 : decode cX8_makeStep 89 = .ok (.istore 7, 2) := by decide +kernel
theorem dX8_makeStep_91 : decode cX8_makeStep 91 = .ok (.iload 7, 2) := by decide +kernel
