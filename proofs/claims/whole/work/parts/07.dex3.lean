theorem dX3_takeAway_110 : decode cX3_takeAway 110 = .ok (.invokevirtual 36, 3) := by decide +kernel
theorem dX3_takeAway_113 : decode cX3_takeAway 113 = .ok (.iinc 2 1, 3) := by decide +kernel
theorem dX3_takeAway_116 : decode cX3_takeAway 116 = .ok (.goto (-32), 3) := by decide +kernel
theorem dX3_takeAway_119 : decode cX3_takeAway 119 = .ok (.return_, 1) := by decide +kernel
theorem dX4_init_0 : decode cX4_init 0 = .ok (.aload_n 0, 1) := by decide +kernel
theorem dX4_init_1 : decode cX4_init 1 = .ok (.invokespecial 3, 3) := by decide +kernel
theorem dX4_init_4 : decode cX4_init 4 = .ok (.aload_n 0, 1) := by decide +kernel
theorem dX4_init_5 : decode cX4_init 5 = .ok (.bipush 32, 2) := by decide +kernel
theorem dX4_init_7 : decode cX4_init 7 = .ok (.newarray .int, 2) := by decide +kernel
theorem dX4_init_9 : decode cX4_init 9 = .ok (.putfield 9, 3) := by decide +kernel
theorem dX4_init_12 : decode cX4_init 12 = .ok (.aload_n 0, 1) := by decide +kernel
theorem dX4_init_13 : decode cX4_init 13 = .ok (.bipush 48, 2) := by decide +kernel
theorem dX4_init_15 : decode cX4_init 15 = .ok (.newarray .int, 2) := by decide +kernel
theorem dX4_init_17 : decode cX4_init 17 = .ok (.putfield 15, 3) := by decide +kernel
theorem dX4_init_20 : decode cX4_init 20 = .ok (.aload_n 0, 1) := by decide +kernel
theorem dX4_init_21 : decode cX4_init 21 = .ok (.bipush 64, 2) := by decide +kernel
theorem dX4_init_23 : decode cX4_init 23 = .ok (.newarray .int, 2) := by decide +kernel
theorem dX4_init_25 : decode cX4_init 25 = .ok (.putfield 18, 3) := by decide +kernel
theorem dX4_init_28 : decode cX4_init 28 = .ok (.aload_n 0, 1) := by decide +kernel
theorem dX4_init_29 : decode cX4_init 29 = .ok (.bipush 50, 2) := by decide +kernel
theorem dX4_init_31 : decode cX4_init 31 = .ok (.newarray .int, 2) := by decide +kernel
theorem dX4_init_33 : decode cX4_init 33 = .ok (.putfield 21, 3) := by decide +kernel
theorem dX4_init_36 : decode cX4_init 36 = .ok (.aload_n 0, 1) := by decide +kernel
theorem dX4_init_37 : decode cX4_init 37 = .ok (.iconst 0, 1) := by decide +kernel
theorem dX4_init_38 : decode cX4_init 38 = .ok (.putfield 24, 3) := by decide +kernel
theorem dX4_init_41 : decode cX4_init 41 = .ok (.aload_n 0, 1) := by decide +kernel
theorem dX4_init_42 : decode cX4_init 42 = .ok (.iconst 0, 1) := by decide +kernel
theorem dX4_init_43 : decode cX4_init 43 = .ok (.putfield 28, 3) := by decide +kernel
theorem dX4_init_46 : decode cX4_init 46 = .ok (.return_, 1) := by decide +kernel
theorem dX4_endsWithin_0 : decode cX4_endsWithin 0 = .ok (.aload_n 0, 1) := by decide +kernel
theorem dX4_endsWithin_1 : decode cX4_endsWithin 1 = .ok (.aload_n 3, 1) := by decide +kernel
theorem dX4_endsWithin_2 : decode cX4_endsWithin 2 = .ok (.invokevirtual 31, 3) := by decide +kernel
theorem dX4_endsWithin_5 : decode cX4_endsWithin 5 = .ok (.iconst 0, 1) := by decide +kernel
theorem dX4_endsWithin_6 : decode cX4_endsWithin 6 = .ok (.istore 4, 2) := by decide +kernel
theorem dX4_endsWithin_8 : decode cX4_endsWithin 8 = .ok (.iload 4, 2) := by decide +kernel
theorem dX4_endsWithin_10 : decode cX4_endsWithin 10 = .ok (.aload_n 2, 1) := by decide +kernel
theorem dX4_endsWithin_11 : decode cX4_endsWithin 11 = .ok (.getfield 35, 3) := by decide +kernel
theorem dX4_endsWithin_14 : decode cX4_endsWithin 14 = .ok (.if_icmp .ge 33, 3) := by decide +kernel
theorem dX4_endsWithin_17 : decode cX4_endsWithin 17 = .ok (.aload_n 0, 1) := by decide +kernel
theorem dX4_endsWithin_18 : decode cX4_endsWithin 18 = .ok (.getfield 28, 3) := by decide +kernel
theorem dX4_endsWithin_21 : decode cX4_endsWithin 21 = .ok (.iload_n 1, 1) := by decide +kernel
theorem dX4_endsWithin_22 : decode cX4_endsWithin 22 = .ok (.if_icmp .ge 25, 3) := by decide +kernel
theorem dX4_endsWithin_25 : decode cX4_endsWithin 25 = .ok (.aload_n 0, 1) := by decide +kernel
theorem dX4_endsWithin_26 : decode cX4_endsWithin 26 = .ok (.dup, 1) := by decide +kernel
theorem dX4_endsWithin_27 : decode cX4_endsWithin 27 = .ok (.getfield 28, 3) := by decide +kernel
theorem dX4_endsWithin_30 : decode cX4_endsWithin 30 = .ok (.iconst 1, 1) := by decide +kernel
theorem dX4_endsWithin_31 : decode cX4_endsWithin 31 = .ok (.iadd, 1) := by decide +kernel
theorem dX4_endsWithin_32 : decode cX4_endsWithin 32 = .ok (.putfield 28, 3) := by decide +kernel
theorem dX4_endsWithin_35 : decode cX4_endsWithin 35 = .ok (.aload_n 0, 1) := by decide +kernel
theorem dX4_endsWithin_36 : decode cX4_endsWithin 36 = .ok (.aload_n 2, 1) := by decide +kernel
theorem dX4_endsWithin_37 : decode cX4_endsWithin 37 = .ok (.iload 4, 2) := by decide +kernel
theorem dX4_endsWithin_39 : decode cX4_endsWithin 39 = .ok (.invokevirtual 40, 3) := by decide +kernel
theorem dX4_endsWithin_42 : decode cX4_endsWithin 42 = .ok (.istore 4, 2) := by decide +kernel
theorem dX4_endsWithin_44 : decode cX4_endsWithin 44 = .ok (.goto (-36), 3) := by decide +kernel
theorem dX4_endsWithin_47 : decode cX4_endsWithin 47 = .ok (.iload 4, 2) := by decide +kernel
theorem dX4_endsWithin_49 : decode cX4_endsWithin 49 = .ok (.aload_n 2, 1) := by decide +kernel
theorem dX4_endsWithin_50 : decode cX4_endsWithin 50 = .ok (.getfield 35, 3) := by decide +kernel
theorem dX4_endsWithin_53 : decode cX4_endsWithin 53 = .ok (.if_icmp .lt 7, 3) := by decide +kernel
theorem dX4_endsWithin_56 : decode cX4_endsWithin 56 = .ok (.iconst 1, 1) := by decide +kernel
theorem dX4_endsWithin_57 : decode cX4_endsWithin 57 = .ok (.goto 4, 3) := by decide +kernel
theorem dX4_endsWithin_60 : decode cX4_endsWithin 60 = .ok (.iconst 0, 1) := by decide +kernel
theorem dX4_endsWithin_61 : decode cX4_endsWithin 61 = .ok (.ireturn, 1) := by decide +kernel
theorem dX4_begin_0 : decode cX4_begin 0 = .ok (.iconst 0, 1) := by decide +kernel
theorem dX4_begin_1 : decode cX4_begin 1 = .ok (.istore_n 2, 1) := by decide +kernel
theorem dX4_begin_2 : decode cX4_begin 2 = .ok (.iload_n 2, 1) := by decide +kernel
theorem dX4_begin_3 : decode cX4_begin 3 = .ok (.aload_n 0, 1) := by decide +kernel
theorem dX4_begin_4 : decode cX4_begin 4 = .ok (.getfield 9, 3) := by decide +kernel
theorem dX4_begin_7 : decode cX4_begin 7 = .ok (.arraylength, 1) := by decide +kernel
theorem dX4_begin_8 : decode cX4_begin 8 = .ok (.if_icmp .ge 16, 3) := by decide +kernel
theorem dX4_begin_11 : decode cX4_begin 11 = .ok (.aload_n 0, 1) := by decide +kernel
theorem dX4_begin_12 : decode cX4_begin 12 = .ok (.getfield 9, 3) := by decide +kernel
theorem dX4_begin_15 : decode cX4_begin 15 = .ok (.iload_n 2, 1) := by decide +kernel
theorem dX4_begin_16 : decode cX4_begin 16 = .ok (.iconst 0, 1) := by decide +kernel
theorem dX4_begin_17 : decode cX4_begin 17 = .ok (.iastore, 1) := by decide +kernel
theorem dX4_begin_18 : decode cX4_begin 18 = .ok (.iinc 2 1, 3) := by decide +kernel
theorem dX4_begin_21 : decode cX4_begin 21 = .ok (.goto (-19), 3) := by decide +kernel
theorem dX4_begin_24 : decode cX4_begin 24 = .ok (.iconst 0, 1) := by decide +kernel
theorem dX4_begin_25 : decode cX4_begin 25 = .ok (.istore_n 2, 1) := by decide +kernel
theorem dX4_begin_26 : decode cX4_begin 26 = .ok (.iload_n 2, 1) := by decide +kernel
theorem dX4_begin_27 : decode cX4_begin 27 = .ok (.aload_n 0, 1) := by decide +kernel
theorem dX4_begin_28 : decode cX4_begin 28 = .ok (.getfield 15, 3) := by decide +kernel
theorem dX4_begin_31 : decode cX4_begin 31 = .ok (.arraylength, 1) := by decide +kernel
theorem dX4_begin_32 : decode cX4_begin 32 = .ok (.if_icmp .ge 16, 3) := by decide +kernel
theorem dX4_begin_35 : decode cX4_begin 35 = .ok (.aload_n 0, 1) := by decide +kernel
theorem dX4_begin_36 : decode cX4_begin 36 = .ok (.getfield 15, 3) := by decide +kernel
theorem dX4_begin_39 : decode cX4_begin 39 = .ok (.iload_n 2, 1) := by decide +kernel
theorem dX4_begin_40 : decode cX4_begin 40 = .ok (.iconst 0, 1) := by decide +kernel
theorem dX4_begin_41 : decode cX4_begin 41 = .ok (.iastore, 1) := by decide +kernel
theorem dX4_begin_42 : decode cX4_begin 42 = .ok (.iinc 2 1, 3) := by decide +kernel
theorem dX4_begin_45 : decode cX4_begin 45 = .ok (.goto (-19), 3) := by decide +kernel
theorem dX4_begin_48 : decode cX4_begin 48 = .ok (.iconst 0, 1) := by decide +kernel
theorem dX4_begin_49 : decode cX4_begin 49 = .ok (.istore_n 2, 1) := by decide +kernel
theorem dX4_begin_50 : decode cX4_begin 50 = .ok (.iload_n 2, 1) := by decide +kernel
theorem dX4_begin_51 : decode cX4_begin 51 = .ok (.bipush 64, 2) := by decide +kernel
theorem dX4_begin_53 : decode cX4_begin 53 = .ok (.if_icmp .ge 18, 3) := by decide +kernel
theorem dX4_begin_56 : decode cX4_begin 56 = .ok (.aload_n 0, 1) := by decide +kernel
theorem dX4_begin_57 : decode cX4_begin 57 = .ok (.getfield 18, 3) := by decide +kernel
theorem dX4_begin_60 : decode cX4_begin 60 = .ok (.iload_n 2, 1) := by decide +kernel
theorem dX4_begin_61 : decode cX4_begin 61 = .ok (.aload_n 1, 1) := by decide +kernel
theorem dX4_begin_62 : decode cX4_begin 62 = .ok (.iload_n 2, 1) := by decide +kernel
theorem dX4_begin_63 : decode cX4_begin 63 = .ok (.iaload, 1) := by decide +kernel
theorem dX4_begin_64 : decode cX4_begin 64 = .ok (.iastore, 1) := by decide +kernel
theorem dX4_begin_65 : decode cX4_begin 65 = .ok (.iinc 2 1, 3) := by decide +kernel
theorem dX4_begin_68 : decode cX4_begin 68 = .ok (.goto (-18), 3) := by decide +kernel
theorem dX4_begin_71 : decode cX4_begin 71 = .ok (.aload_n 0, 1) := by decide +kernel
theorem dX4_begin_72 : decode cX4_begin 72 = .ok (.iconst 0, 1) := by decide +kernel
theorem dX4_begin_73 : decode cX4_begin 73 = .ok (.putfield 24, 3) := by decide +kernel
theorem dX4_begin_76 : decode cX4_begin 76 = .ok (.aload_n 0, 1) := by decide +kernel
theorem dX4_begin_77 : decode cX4_begin 77 = .ok (.iconst 0, 1) := by decide +kernel
theorem dX4_begin_78 : decode cX4_begin 78 = .ok (.putfield 28, 3) := by decide +kernel
theorem dX4_begin_81 : decode cX4_begin 81 = .ok (.return_, 1) := by decide +kernel
theorem dX4_lineBehind_0 : decode cX4_lineBehind 0 = .ok (.aload_n 1, 1) := by decide +kernel
theorem dX4_lineBehind_1 : decode cX4_lineBehind 1 = .ok (.getfield 44, 3) := by decide +kernel
theorem dX4_lineBehind_4 : decode cX4_lineBehind 4 = .ok (.iload_n 2, 1) := by decide +kernel
theorem dX4_lineBehind_5 : decode cX4_lineBehind 5 = .ok (.iaload, 1) := by decide +kernel
theorem dX4_lineBehind_6 : decode cX4_lineBehind 6 = .ok (.istore_n 3, 1) := by decide +kernel
theorem dX4_lineBehind_7 : decode cX4_lineBehind 7 = .ok (.aload_n 1, 1) := by decide +kernel
theorem dX4_lineBehind_8 : decode cX4_lineBehind 8 = .ok (.getfield 47, 3) := by decide +kernel
theorem dX4_lineBehind_11 : decode cX4_lineBehind 11 = .ok (.iload_n 2, 1) := by decide +kernel
theorem dX4_lineBehind_12 : decode cX4_lineBehind 12 = .ok (.iaload, 1) := by decide +kernel
theorem dX4_lineBehind_13 : decode cX4_lineBehind 13 = .ok (.tableswitch 71 7 10 #[31, 64, 71, 66], 31) := by decide +kernel
theorem dX4_lineBehind_44 : decode cX4_lineBehind 44 = .ok (.aload_n 0, 1) := by decide +kernel
theorem dX4_lineBehind_45 : decode cX4_lineBehind 45 = .ok (.getfield 9, 3) := by decide +kernel
theorem dX4_lineBehind_48 : decode cX4_lineBehind 48 = .ok (.iload_n 3, 1) := by decide +kernel
theorem dX4_lineBehind_49 : decode cX4_lineBehind 49 = .ok (.iaload, 1) := by decide +kernel
theorem dX4_lineBehind_50 : decode cX4_lineBehind 50 = .ok (.aload_n 0, 1) := by decide +kernel
theorem dX4_lineBehind_51 : decode cX4_lineBehind 51 = .ok (.getfield 9, 3) := by decide +kernel
theorem dX4_lineBehind_54 : decode cX4_lineBehind 54 = .ok (.aload_n 1, 1) := by decide +kernel
theorem dX4_lineBehind_55 : decode cX4_lineBehind 55 = .ok (.getfield 50, 3) := by decide +kernel
theorem dX4_lineBehind_58 : decode cX4_lineBehind 58 = .ok (.iload_n 2, 1) := by decide +kernel
theorem dX4_lineBehind_59 : decode cX4_lineBehind 59 = .ok (.iaload, 1) := by decide +kernel
theorem dX4_lineBehind_60 : decode cX4_lineBehind 60 = .ok (.iaload, 1) := by decide +kernel
theorem dX4_lineBehind_61 : decode cX4_lineBehind 61 = .ok (.if_icmp .ge 12, 3) := by decide +kernel
theorem dX4_lineBehind_64 : decode cX4_lineBehind 64 = .ok (.aload_n 1, 1) := by decide +kernel
theorem dX4_lineBehind_65 : decode cX4_lineBehind 65 = .ok (.getfield 53, 3) := by decide +kernel
theorem dX4_lineBehind_68 : decode cX4_lineBehind 68 = .ok (.iload_n 2, 1) := by decide +kernel
theorem dX4_lineBehind_69 : decode cX4_lineBehind 69 = .ok (.iaload, 1) := by decide +kernel
theorem dX4_lineBehind_70 : decode cX4_lineBehind 70 = .ok (.goto 6, 3) := by decide +kernel
theorem dX4_lineBehind_73 : decode cX4_lineBehind 73 = .ok (.iload_n 2, 1) := by decide +kernel
theorem dX4_lineBehind_74 : decode cX4_lineBehind 74 = .ok (.iconst 1, 1) := by decide +kernel
theorem dX4_lineBehind_75 : decode cX4_lineBehind 75 = .ok (.iadd, 1) := by decide +kernel
theorem dX4_lineBehind_76 : decode cX4_lineBehind 76 = .ok (.ireturn, 1) := by decide +kernel
theorem dX4_lineBehind_77 : decode cX4_lineBehind 77 = .ok (.iload_n 3, 1) := by decide +kernel
theorem dX4_lineBehind_78 : decode cX4_lineBehind 78 = .ok (.ireturn, 1) := by decide +kernel
theorem dX4_lineBehind_79 : decode cX4_lineBehind 79 = .ok (.aload_n 1, 1) := by decide +kernel
theorem dX4_lineBehind_80 : decode cX4_lineBehind 80 = .ok (.getfield 35, 3) := by decide +kernel
theorem dX4_lineBehind_83 : decode cX4_lineBehind 83 = .ok (.ireturn, 1) := by decide +kernel
theorem dX4_lineBehind_84 : decode cX4_lineBehind 84 = .ok (.aload_n 0, 1) := by decide +kernel
theorem dX4_lineBehind_85 : decode cX4_lineBehind 85 = .ok (.aload_n 1, 1) := by decide +kernel
theorem dX4_lineBehind_86 : decode cX4_lineBehind 86 = .ok (.getfield 47, 3) := by decide +kernel
theorem dX4_lineBehind_89 : decode cX4_lineBehind 89 = .ok (.iload_n 2, 1) := by decide +kernel
theorem dX4_lineBehind_90 : decode cX4_lineBehind 90 = .ok (.iaload, 1) := by decide +kernel
theorem dX4_lineBehind_91 : decode cX4_lineBehind 91 = .ok (.iload_n 3, 1) := by decide +kernel
theorem dX4_lineBehind_92 : decode cX4_lineBehind 92 = .ok (.aload_n 1, 1) := by decide +kernel
theorem dX4_lineBehind_93 : decode cX4_lineBehind 93 = .ok (.getfield 50, 3) := by decide +kernel
theorem dX4_lineBehind_96 : decode cX4_lineBehind 96 = .ok (.iload_n 2, 1) := by decide +kernel
theorem dX4_lineBehind_97 : decode cX4_lineBehind 97 = .ok (.iaload, 1) := by decide +kernel
theorem dX4_lineBehind_98 : decode cX4_lineBehind 98 = .ok (.aload_n 1, 1) := by decide +kernel
theorem dX4_lineBehind_99 : decode cX4_lineBehind 99 = .ok (.getfield 53, 3) := by decide +kernel
theorem dX4_lineBehind_102 : decode cX4_lineBehind 102 = .ok (.iload_n 2, 1) := by decide +kernel
theorem dX4_lineBehind_103 : decode cX4_lineBehind 103 = .ok (.iaload, 1) := by decide +kernel
theorem dX4_lineBehind_104 : decode cX4_lineBehind 104 = .ok (.invokevirtual 56, 3) := by decide +kernel
theorem dX4_lineBehind_107 : decode cX4_lineBehind 107 = .ok (.iload_n 2, 1) := by decide +kernel
theorem dX4_lineBehind_108 : decode cX4_lineBehind 108 = .ok (.iconst 1, 1) := by decide +kernel
theorem dX4_lineBehind_109 : decode cX4_lineBehind 109 = .ok (.iadd, 1) := by decide +kernel
theorem dX4_lineBehind_110 : decode cX4_lineBehind 110 = .ok (.ireturn, 1) := by decide +kernel
theorem dX4_act_0 : decode cX4_act 0 = .ok (.iload_n 1, 1) := by decide +kernel
theorem dX4_act_1 : decode cX4_act 1 = .ok (.tableswitch 254 0 12 #[67, 77, 92, 115, 138, 161, 182, 254, 254, 203, 254, 216, 235], 67) := by decide +kernel
theorem dX4_act_68 : decode cX4_act 68 = .ok (.aload_n 0, 1) := by decide +kernel
theorem dX4_act_69 : decode cX4_act 69 = .ok (.getfield 9, 3) := by decide +kernel
theorem dX4_act_72 : decode cX4_act 72 = .ok (.iload_n 2, 1) := by decide +kernel
theorem dX4_act_73 : decode cX4_act 73 = .ok (.iload_n 3, 1) := by decide +kernel
theorem dX4_act_74 : decode cX4_act 74 = .ok (.iastore, 1) := by decide +kernel
theorem dX4_act_75 : decode cX4_act 75 = .ok (.goto 180, 3) := by decide +kernel
theorem dX4_act_78 : decode cX4_act 78 = .ok (.aload_n 0, 1) := by decide +kernel
theorem dX4_act_79 : decode cX4_act 79 = .ok (.getfield 9, 3) := by decide +kernel
theorem dX4_act_82 : decode cX4_act 82 = .ok (.iload_n 2, 1) := by decide +kernel
theorem dX4_act_83 : decode cX4_act 83 = .ok (.aload_n 0, 1) := by decide +kernel
theorem dX4_act_84 : decode cX4_act 84 = .ok (.getfield 9, 3) := by decide +kernel
theorem dX4_act_87 : decode cX4_act 87 = .ok (.iload_n 3, 1) := by decide +kernel
theorem dX4_act_88 : decode cX4_act 88 = .ok (.iaload, 1) := by decide +kernel
theorem dX4_act_89 : decode cX4_act 89 = .ok (.iastore, 1) := by decide +kernel
theorem dX4_act_90 : decode cX4_act 90 = .ok (.goto 165, 3) := by decide +kernel
theorem dX4_act_93 : decode cX4_act 93 = .ok (.aload_n 0, 1) := by decide +kernel
theorem dX4_act_94 : decode cX4_act 94 = .ok (.getfield 9, 3) := by decide +kernel
theorem dX4_act_97 : decode cX4_act 97 = .ok (.iload_n 2, 1) := by decide +kernel
theorem dX4_act_98 : decode cX4_act 98 = .ok (.aload_n 0, 1) := by decide +kernel
theorem dX4_act_99 : decode cX4_act 99 = .ok (.getfield 9, 3) := by decide +kernel
theorem dX4_act_102 : decode cX4_act 102 = .ok (.iload_n 3, 1) := by decide +kernel
theorem dX4_act_103 : decode cX4_act 103 = .ok (.iaload, 1) := by decide +kernel
theorem dX4_act_104 : decode cX4_act 104 = .ok (.aload_n 0, 1) := by decide +kernel
theorem dX4_act_105 : decode cX4_act 105 = .ok (.getfield 9, 3) := by decide +kernel
theorem dX4_act_108 : decode cX4_act 108 = .ok (.iload 4, 2) := by decide +kernel
theorem dX4_act_110 : decode cX4_act 110 = .ok (.iaload, 1) := by decide +kernel
theorem dX4_act_111 : decode cX4_act 111 = .ok (.iadd, 1) := by decide +kernel
theorem dX4_act_112 : decode cX4_act 112 = .ok (.iastore, 1) := by decide +kernel
theorem dX4_act_113 : decode cX4_act 113 = .ok (.goto 142, 3) := by decide +kernel
theorem dX4_act_116 : decode cX4_act 116 = .ok (.aload_n 0, 1) := by decide +kernel
theorem dX4_act_117 : decode cX4_act 117 = .ok (.getfield 9, 3) := by decide +kernel
theorem dX4_act_120 : decode cX4_act 120 = .ok (.iload_n 2, 1) := by decide +kernel
theorem dX4_act_121 : decode cX4_act 121 = .ok (.aload_n 0, 1) := by decide +kernel
theorem dX4_act_122 : decode cX4_act 122 = .ok (.getfield 9, 3) := by decide +kernel
theorem dX4_act_125 : decode cX4_act 125 = .ok (.iload_n 3, 1) := by decide +kernel
theorem dX4_act_126 : decode cX4_act 126 = .ok (.iaload, 1) := by decide +kernel
theorem dX4_act_127 : decode cX4_act 127 = .ok (.aload_n 0, 1) := by decide +kernel
theorem dX4_act_128 : decode cX4_act 128 = .ok (.getfield 9, 3) := by decide +kernel
theorem dX4_act_131 : decode cX4_act 131 = .ok (.iload 4, 2) := by decide +kernel
theorem dX4_act_133 : decode cX4_act 133 = .ok (.iaload, 1) := by decide +kernel
theorem dX4_act_134 : decode cX4_act 134 = .ok (.isub, 1) := by decide +kernel
theorem dX4_act_135 : decode cX4_act 135 = .ok (.iastore, 1) := by decide +kernel
theorem dX4_act_136 : decode cX4_act 136 = .ok (.goto 119, 3) := by decide +kernel
theorem dX4_act_139 : decode cX4_act 139 = .ok (.aload_n 0, 1) := by decide +kernel
theorem dX4_act_140 : decode cX4_act 140 = .ok (.getfield 9, 3) := by decide +kernel
theorem dX4_act_143 : decode cX4_act 143 = .ok (.iload_n 2, 1) := by decide +kernel
theorem dX4_act_144 : decode cX4_act 144 = .ok (.aload_n 0, 1) := by decide +kernel
theorem dX4_act_145 : decode cX4_act 145 = .ok (.getfield 9, 3) := by decide +kernel
theorem dX4_act_148 : decode cX4_act 148 = .ok (.iload_n 3, 1) := by decide +kernel
theorem dX4_act_149 : decode cX4_act 149 = .ok (.iaload, 1) := by decide +kernel
theorem dX4_act_150 : decode cX4_act 150 = .ok (.aload_n 0, 1) := by decide +kernel
theorem dX4_act_151 : decode cX4_act 151 = .ok (.getfield 9, 3) := by decide +kernel
theorem dX4_act_154 : decode cX4_act 154 = .ok (.iload 4, 2) := by decide +kernel
theorem dX4_act_156 : decode cX4_act 156 = .ok (.iaload, 1) := by decide +kernel
theorem dX4_act_157 : decode cX4_act 157 = .ok (.imul, 1) := by decide +kernel
theorem dX4_act_158 : decode cX4_act 158 = .ok (.iastore, 1) := by decide +kernel
theorem dX4_act_159 : decode cX4_act 159 = .ok (.goto 96, 3) := by decide +kernel
theorem dX4_act_162 : decode cX4_act 162 = .ok (.aload_n 0, 1) := by decide +kernel
theorem dX4_act_163 : decode cX4_act 163 = .ok (.getfield 9, 3) := by decide +kernel
theorem dX4_act_166 : decode cX4_act 166 = .ok (.iload_n 2, 1) := by decide +kernel
theorem dX4_act_167 : decode cX4_act 167 = .ok (.aload_n 0, 1) := by decide +kernel
theorem dX4_act_168 : decode cX4_act 168 = .ok (.getfield 18, 3) := by decide +kernel
theorem dX4_act_171 : decode cX4_act 171 = .ok (.aload_n 0, 1) := by decide +kernel
theorem dX4_act_172 : decode cX4_act 172 = .ok (.iload_n 3, 1) := by decide +kernel
theorem dX4_act_173 : decode cX4_act 173 = .ok (.iload 4, 2) := by decide +kernel
theorem dX4_act_175 : decode cX4_act 175 = .ok (.invokevirtual 60, 3) := by decide +kernel
theorem dX4_act_178 : decode cX4_act 178 = .ok (.iaload, 1) := by decide +kernel
theorem dX4_act_179 : decode cX4_act 179 = .ok (.iastore, 1) := by decide +kernel
theorem dX4_act_180 : decode cX4_act 180 = .ok (.goto 75, 3) := by decide +kernel
theorem dX4_act_183 : decode cX4_act 183 = .ok (.aload_n 0, 1) := by decide +kernel
theorem dX4_act_184 : decode cX4_act 184 = .ok (.getfield 18, 3) := by decide +kernel
theorem dX4_act_187 : decode cX4_act 187 = .ok (.aload_n 0, 1) := by decide +kernel
theorem dX4_act_188 : decode cX4_act 188 = .ok (.iload_n 3, 1) := by decide +kernel
theorem dX4_act_189 : decode cX4_act 189 = .ok (.iload 4, 2) := by decide +kernel
theorem dX4_act_191 : decode cX4_act 191 = .ok (.invokevirtual 60, 3) := by decide +kernel
theorem dX4_act_194 : decode cX4_act 194 = .ok (.aload_n 0, 1) := by decide +kernel
theorem dX4_act_195 : decode cX4_act 195 = .ok (.getfield 9, 3) := by decide +kernel
theorem dX4_act_198 : decode cX4_act 198 = .ok (.iload_n 2, 1) := by decide +kernel
theorem dX4_act_199 : decode cX4_act 199 = .ok (.iaload, 1) := by decide +kernel
theorem dX4_act_200 : decode cX4_act 200 = .ok (.iastore, 1) := by decide +kernel
theorem dX4_act_201 : decode cX4_act 201 = .ok (.goto 54, 3) := by decide +kernel
theorem dX4_act_204 : decode cX4_act 204 = .ok (.aload_n 0, 1) := by decide +kernel
theorem dX4_act_205 : decode cX4_act 205 = .ok (.aload_n 0, 1) := by decide +kernel
theorem dX4_act_206 : decode cX4_act 206 = .ok (.getfield 9, 3) := by decide +kernel
theorem dX4_act_209 : decode cX4_act 209 = .ok (.iload_n 2, 1) := by decide +kernel
theorem dX4_act_210 : decode cX4_act 210 = .ok (.iaload, 1) := by decide +kernel
theorem dX4_act_211 : decode cX4_act 211 = .ok (.invokevirtual 64, 3) := by decide +kernel
theorem dX4_act_214 : decode cX4_act 214 = .ok (.goto 41, 3) := by decide +kernel
theorem dX4_act_217 : decode cX4_act 217 = .ok (.aload_n 0, 1) := by decide +kernel
theorem dX4_act_218 : decode cX4_act 218 = .ok (.getfield 9, 3) := by decide +kernel
theorem dX4_act_221 : decode cX4_act 221 = .ok (.iload_n 2, 1) := by decide +kernel
theorem dX4_act_222 : decode cX4_act 222 = .ok (.aload_n 0, 1) := by decide +kernel
theorem dX4_act_223 : decode cX4_act 223 = .ok (.getfield 15, 3) := by decide +kernel
theorem dX4_act_226 : decode cX4_act 226 = .ok (.iload_n 2, 1) := by decide +kernel
theorem dX4_act_227 : decode cX4_act 227 = .ok (.iload_n 3, 1) := by decide +kernel
theorem dX4_act_228 : decode cX4_act 228 = .ok (.invokestatic 68, 3) := by decide +kernel
theorem dX4_act_231 : decode cX4_act 231 = .ok (.iaload, 1) := by decide +kernel
theorem dX4_act_232 : decode cX4_act 232 = .ok (.iastore, 1) := by decide +kernel
theorem dX4_act_233 : decode cX4_act 233 = .ok (.goto 22, 3) := by decide +kernel
theorem dX4_act_236 : decode cX4_act 236 = .ok (.aload_n 0, 1) := by decide +kernel
theorem dX4_act_237 : decode cX4_act 237 = .ok (.getfield 15, 3) := by decide +kernel
theorem dX4_act_240 : decode cX4_act 240 = .ok (.iload_n 2, 1) := by decide +kernel
theorem dX4_act_241 : decode cX4_act 241 = .ok (.iload_n 3, 1) := by decide +kernel
theorem dX4_act_242 : decode cX4_act 242 = .ok (.invokestatic 68, 3) := by decide +kernel
theorem dX4_act_245 : decode cX4_act 245 = .ok (.aload_n 0, 1) := by decide +kernel
theorem dX4_act_246 : decode cX4_act 246 = .ok (.getfield 9, 3) := by decide +kernel
theorem dX4_act_249 : decode cX4_act 249 = .ok (.iload_n 2, 1) := by decide +kernel
theorem dX4_act_250 : decode cX4_act 250 = .ok (.iaload, 1) := by decide +kernel
theorem dX4_act_251 : decode cX4_act 251 = .ok (.iastore, 1) := by decide +kernel
theorem dX4_act_252 : decode cX4_act 252 = .ok (.goto 3, 3) := by decide +kernel
theorem dX4_act_255 : decode cX4_act 255 = .ok (.return_, 1) := by decide +kernel
theorem dX4_cellAt_0 : decode cX4_cellAt 0 = .ok (.aload_n 0, 1) := by decide +kernel
theorem dX4_cellAt_1 : decode cX4_cellAt 1 = .ok (.getfield 9, 3) := by decide +kernel
theorem dX4_cellAt_4 : decode cX4_cellAt 4 = .ok (.iload_n 1, 1) := by decide +kernel
theorem dX4_cellAt_5 : decode cX4_cellAt 5 = .ok (.iaload, 1) := by decide +kernel
theorem dX4_cellAt_6 : decode cX4_cellAt 6 = .ok (.iload_n 2, 1) := by decide +kernel
theorem dX4_cellAt_7 : decode cX4_cellAt 7 = .ok (.iadd, 1) := by decide +kernel
theorem dX4_cellAt_8 : decode cX4_cellAt 8 = .ok (.bipush 64, 2) := by decide +kernel
theorem dX4_cellAt_10 : decode cX4_cellAt 10 = .ok (.invokestatic 71, 3) := by decide +kernel
theorem dX4_cellAt_13 : decode cX4_cellAt 13 = .ok (.ireturn, 1) := by decide +kernel
theorem dX4_slotAt_0 : decode cX4_slotAt 0 = .ok (.iload_n 0, 1) := by decide +kernel
theorem dX4_slotAt_1 : decode cX4_slotAt 1 = .ok (.bipush 16, 2) := by decide +kernel
theorem dX4_slotAt_3 : decode cX4_slotAt 3 = .ok (.idiv, 1) := by decide +kernel
theorem dX4_slotAt_4 : decode cX4_slotAt 4 = .ok (.bipush 24, 2) := by decide +kernel
theorem dX4_slotAt_6 : decode cX4_slotAt 6 = .ok (.imul, 1) := by decide +kernel
theorem dX4_slotAt_7 : decode cX4_slotAt 7 = .ok (.iload_n 1, 1) := by decide +kernel
theorem dX4_slotAt_8 : decode cX4_slotAt 8 = .ok (.iadd, 1) := by decide +kernel
theorem dX4_slotAt_9 : decode cX4_slotAt 9 = .ok (.ireturn, 1) := by decide +kernel
theorem dX4_speak_0 : decode cX4_speak 0 = .ok (.aload_n 0, 1) := by decide +kernel
theorem dX4_speak_1 : decode cX4_speak 1 = .ok (.getfield 24, 3) := by decide +kernel
theorem dX4_speak_4 : decode cX4_speak 4 = .ok (.bipush 50, 2) := by decide +kernel
theorem dX4_speak_6 : decode cX4_speak 6 = .ok (.if_icmp .ge 13, 3) := by decide +kernel
theorem dX4_speak_9 : decode cX4_speak 9 = .ok (.aload_n 0, 1) := by decide +kernel
theorem dX4_speak_10 : decode cX4_speak 10 = .ok (.getfield 21, 3) := by decide +kernel
theorem dX4_speak_13 : decode cX4_speak 13 = .ok (.aload_n 0, 1) := by decide +kernel
theorem dX4_speak_14 : decode cX4_speak 14 = .ok (.getfield 24, 3) := by decide +kernel
theorem dX4_speak_17 : decode cX4_speak 17 = .ok (.iload_n 1, 1) := by decide +kernel
theorem dX4_speak_18 : decode cX4_speak 18 = .ok (.iastore, 1) := by decide +kernel
theorem dX4_speak_19 : decode cX4_speak 19 = .ok (.aload_n 0, 1) := by decide +kernel
theorem dX4_speak_20 : decode cX4_speak 20 = .ok (.dup, 1) := by decide +kernel
theorem dX4_speak_21 : decode cX4_speak 21 = .ok (.getfield 24, 3) := by decide +kernel
theorem dX4_speak_24 : decode cX4_speak 24 = .ok (.iconst 1, 1) := by decide +kernel
theorem dX4_speak_25 : decode cX4_speak 25 = .ok (.iadd, 1) := by decide +kernel
theorem dX4_speak_26 : decode cX4_speak 26 = .ok (.putfield 24, 3) := by decide +kernel
theorem dX4_speak_29 : decode cX4_speak 29 = .ok (.return_, 1) := by decide +kernel
theorem dX4_wordsKept_0 : decode cX4_wordsKept 0 = .ok (.aload_n 0, 1) := by decide +kernel
theorem dX4_wordsKept_1 : decode cX4_wordsKept 1 = .ok (.getfield 24, 3) := by decide +kernel
theorem dX4_wordsKept_4 : decode cX4_wordsKept 4 = .ok (.bipush 50, 2) := by decide +kernel
theorem dX4_wordsKept_6 : decode cX4_wordsKept 6 = .ok (.invokestatic 76, 3) := by decide +kernel
theorem dX4_wordsKept_9 : decode cX4_wordsKept 9 = .ok (.ireturn, 1) := by decide +kernel
theorem dX4_agreesWith_0 : decode cX4_agreesWith 0 = .ok (.aload_n 0, 1) := by decide +kernel
theorem dX4_agreesWith_1 : decode cX4_agreesWith 1 = .ok (.getfield 24, 3) := by decide +kernel
theorem dX4_agreesWith_4 : decode cX4_agreesWith 4 = .ok (.aload_n 1, 1) := by decide +kernel
theorem dX4_agreesWith_5 : decode cX4_agreesWith 5 = .ok (.getfield 24, 3) := by decide +kernel
theorem dX4_agreesWith_8 : decode cX4_agreesWith 8 = .ok (.if_icmp .eq 5, 3) := by decide +kernel
theorem dX4_agreesWith_11 : decode cX4_agreesWith 11 = .ok (.iconst 0, 1) := by decide +kernel
theorem dX4_agreesWith_12 : decode cX4_agreesWith 12 = .ok (.ireturn, 1) := by decide +kernel
theorem dX4_agreesWith_13 : decode cX4_agreesWith 13 = .ok (.iconst 0, 1) := by decide +kernel
theorem dX4_agreesWith_14 : decode cX4_agreesWith 14 = .ok (.istore_n 2, 1) := by decide +kernel
theorem dX4_agreesWith_15 : decode cX4_agreesWith 15 = .ok (.iload_n 2, 1) := by decide +kernel
theorem dX4_agreesWith_16 : decode cX4_agreesWith 16 = .ok (.aload_n 0, 1) := by decide +kernel
theorem dX4_agreesWith_17 : decode cX4_agreesWith 17 = .ok (.invokevirtual 79, 3) := by decide +kernel
theorem dX4_agreesWith_20 : decode cX4_agreesWith 20 = .ok (.if_icmp .ge 26, 3) := by decide +kernel
theorem dX4_agreesWith_23 : decode cX4_agreesWith 23 = .ok (.aload_n 0, 1) := by decide +kernel
theorem dX4_agreesWith_24 : decode cX4_agreesWith 24 = .ok (.getfield 21, 3) := by decide +kernel
theorem dX4_agreesWith_27 : decode cX4_agreesWith 27 = .ok (.iload_n 2, 1) := by decide +kernel
theorem dX4_agreesWith_28 : decode cX4_agreesWith 28 = .ok (.iaload, 1) := by decide +kernel
theorem dX4_agreesWith_29 : decode cX4_agreesWith 29 = .ok (.aload_n 1, 1) := by decide +kernel
theorem dX4_agreesWith_30 : decode cX4_agreesWith 30 = .ok (.getfield 21, 3) := by decide +kernel
theorem dX4_agreesWith_33 : decode cX4_agreesWith 33 = .ok (.iload_n 2, 1) := by decide +kernel
theorem dX4_agreesWith_34 : decode cX4_agreesWith 34 = .ok (.iaload, 1) := by decide +kernel
theorem dX4_agreesWith_35 : decode cX4_agreesWith 35 = .ok (.if_icmp .eq 5, 3) := by decide +kernel
theorem dX4_agreesWith_38 : decode cX4_agreesWith 38 = .ok (.iconst 0, 1) := by decide +kernel
theorem dX4_agreesWith_39 : decode cX4_agreesWith 39 = .ok (.ireturn, 1) := by decide +kernel
theorem dX4_agreesWith_40 : decode cX4_agreesWith 40 = .ok (.iinc 2 1, 3) := by decide +kernel
theorem dX4_agreesWith_43 : decode cX4_agreesWith 43 = .ok (.goto (-28), 3) := by decide +kernel
theorem dX4_agreesWith_46 : decode cX4_agreesWith 46 = .ok (.iconst 0, 1) := by decide +kernel
theorem dX4_agreesWith_47 : decode cX4_agreesWith 47 = .ok (.istore_n 2, 1) := by decide +kernel
theorem dX4_agreesWith_48 : decode cX4_agreesWith 48 = .ok (.iload_n 2, 1) := by decide +kernel
theorem dX4_agreesWith_49 : decode cX4_agreesWith 49 = .ok (.bipush 64, 2) := by decide +kernel
theorem dX4_agreesWith_51 : decode cX4_agreesWith 51 = .ok (.if_icmp .ge 26, 3) := by decide +kernel
theorem dX4_agreesWith_54 : decode cX4_agreesWith 54 = .ok (.aload_n 0, 1) := by decide +kernel
theorem dX4_agreesWith_55 : decode cX4_agreesWith 55 = .ok (.getfield 18, 3) := by decide +kernel
theorem dX4_agreesWith_58 : decode cX4_agreesWith 58 = .ok (.iload_n 2, 1) := by decide +kernel
theorem dX4_agreesWith_59 : decode cX4_agreesWith 59 = .ok (.iaload, 1) := by decide +kernel
theorem dX4_agreesWith_60 : decode cX4_agreesWith 60 = .ok (.aload_n 1, 1) := by decide +kernel
theorem dX4_agreesWith_61 : decode cX4_agreesWith 61 = .ok (.getfield 18, 3) := by decide +kernel
theorem dX4_agreesWith_64 : decode cX4_agreesWith 64 = .ok (.iload_n 2, 1) := by decide +kernel
theorem dX4_agreesWith_65 : decode cX4_agreesWith 65 = .ok (.iaload, 1) := by decide +kernel
theorem dX4_agreesWith_66 : decode cX4_agreesWith 66 = .ok (.if_icmp .eq 5, 3) := by decide +kernel
theorem dX4_agreesWith_69 : decode cX4_agreesWith 69 = .ok (.iconst 0, 1) := by decide +kernel
theorem dX4_agreesWith_70 : decode cX4_agreesWith 70 = .ok (.ireturn, 1) := by decide +kernel
theorem dX4_agreesWith_71 : decode cX4_agreesWith 71 = .ok (.iinc 2 1, 3) := by decide +kernel
theorem dX4_agreesWith_74 : decode cX4_agreesWith 74 = .ok (.goto (-26), 3) := by decide +kernel
theorem dX4_agreesWith_77 : decode cX4_agreesWith 77 = .ok (.iconst 1, 1) := by decide +kernel
theorem dX4_agreesWith_78 : decode cX4_agreesWith 78 = .ok (.ireturn, 1) := by decide +kernel
theorem dX5_init_0 : decode cX5_init 0 = .ok (.aload_n 0, 1) := by decide +kernel
theorem dX5_init_1 : decode cX5_init 1 = .ok (.invokespecial 3, 3) := by decide +kernel
theorem dX5_init_4 : decode cX5_init 4 = .ok (.aload_n 0, 1) := by decide +kernel
theorem dX5_init_5 : decode cX5_init 5 = .ok (.bipush 24, 2) := by decide +kernel
theorem dX5_init_7 : decode cX5_init 7 = .ok (.newarray .int, 2) := by decide +kernel
theorem dX5_init_9 : decode cX5_init 9 = .ok (.putfield 9, 3) := by decide +kernel
theorem dX5_init_12 : decode cX5_init 12 = .ok (.aload_n 0, 1) := by decide +kernel
theorem dX5_init_13 : decode cX5_init 13 = .ok (.iconst 2, 1) := by decide +kernel
theorem dX5_init_14 : decode cX5_init 14 = .ok (.newarray .int, 2) := by decide +kernel
theorem dX5_init_16 : decode cX5_init 16 = .ok (.putfield 15, 3) := by decide +kernel
theorem dX5_init_19 : decode cX5_init 19 = .ok (.aload_n 0, 1) := by decide +kernel
theorem dX5_init_20 : decode cX5_init 20 = .ok (.new 18, 3) := by decide +kernel
theorem dX5_init_23 : decode cX5_init 23 = .ok (.dup, 1) := by decide +kernel
theorem dX5_init_24 : decode cX5_init 24 = .ok (.bipush 60, 2) := by decide +kernel
theorem dX5_init_26 : decode cX5_init 26 = .ok (.invokespecial 20, 3) := by decide +kernel
theorem dX5_init_29 : decode cX5_init 29 = .ok (.putfield 23, 3) := by decide +kernel
theorem dX5_init_32 : decode cX5_init 32 = .ok (.aload_n 0, 1) := by decide +kernel
theorem dX5_init_33 : decode cX5_init 33 = .ok (.bipush 60, 2) := by decide +kernel
theorem dX5_init_35 : decode cX5_init 35 = .ok (.newarray .int, 2) := by decide +kernel
theorem dX5_init_37 : decode cX5_init 37 = .ok (.putfield 27, 3) := by decide +kernel
theorem dX5_init_40 : decode cX5_init 40 = .ok (.aload_n 0, 1) := by decide +kernel
theorem dX5_init_41 : decode cX5_init 41 = .ok (.bipush 60, 2) := by decide +kernel
theorem dX5_init_43 : decode cX5_init 43 = .ok (.newarray .int, 2) := by decide +kernel
theorem dX5_init_45 : decode cX5_init 45 = .ok (.putfield 30, 3) := by decide +kernel
theorem dX5_init_48 : decode cX5_init 48 = .ok (.aload_n 0, 1) := by decide +kernel
theorem dX5_init_49 : decode cX5_init 49 = .ok (.bipush 60, 2) := by decide +kernel
theorem dX5_init_51 : decode cX5_init 51 = .ok (.newarray .int, 2) := by decide +kernel
theorem dX5_init_53 : decode cX5_init 53 = .ok (.putfield 33, 3) := by decide +kernel
theorem dX5_init_56 : decode cX5_init 56 = .ok (.aload_n 0, 1) := by decide +kernel
theorem dX5_init_57 : decode cX5_init 57 = .ok (.iconst 0, 1) := by decide +kernel
theorem dX5_init_58 : decode cX5_init 58 = .ok (.putfield 36, 3) := by decide +kernel
theorem dX5_init_61 : decode cX5_init 61 = .ok (.return_, 1) := by decide +kernel
theorem dX5_addValue_0 : decode cX5_addValue 0 = .ok (.aload_n 0, 1) := by decide +kernel
theorem dX5_addValue_1 : decode cX5_addValue 1 = .ok (.getfield 9, 3) := by decide +kernel
theorem dX5_addValue_4 : decode cX5_addValue 4 = .ok (.aload_n 0, 1) := by decide +kernel
theorem dX5_addValue_5 : decode cX5_addValue 5 = .ok (.getfield 36, 3) := by decide +kernel
theorem dX5_addValue_8 : decode cX5_addValue 8 = .ok (.iload_n 1, 1) := by decide +kernel
theorem dX5_addValue_9 : decode cX5_addValue 9 = .ok (.iastore, 1) := by decide +kernel
theorem dX5_addValue_10 : decode cX5_addValue 10 = .ok (.aload_n 0, 1) := by decide +kernel
theorem dX5_addValue_11 : decode cX5_addValue 11 = .ok (.getfield 15, 3) := by decide +kernel
theorem dX5_addValue_14 : decode cX5_addValue 14 = .ok (.iload_n 1, 1) := by decide +kernel
theorem dX5_addValue_15 : decode cX5_addValue 15 = .ok (.dup2, 1) := by decide +kernel
theorem dX5_addValue_16 : decode cX5_addValue 16 = .ok (.iaload, 1) := by decide +kernel
theorem dX5_addValue_17 : decode cX5_addValue 17 = .ok (.aload_n 0, 1) := by decide +kernel
theorem dX5_addValue_18 : decode cX5_addValue 18 = .ok (.getfield 36, 3) := by decide +kernel
theorem dX5_addValue_21 : decode cX5_addValue 21 = .ok (.invokestatic 40, 3) := by decide +kernel
theorem dX5_addValue_24 : decode cX5_addValue 24 = .ok (.ior, 1) := by decide +kernel
theorem dX5_addValue_25 : decode cX5_addValue 25 = .ok (.iastore, 1) := by decide +kernel
theorem dX5_addValue_26 : decode cX5_addValue 26 = .ok (.aload_n 0, 1) := by decide +kernel
theorem dX5_addValue_27 : decode cX5_addValue 27 = .ok (.dup, 1) := by decide +kernel
theorem dX5_addValue_28 : decode cX5_addValue 28 = .ok (.getfield 36, 3) := by decide +kernel
theorem dX5_addValue_31 : decode cX5_addValue 31 = .ok (.iconst 1, 1) := by decide +kernel
theorem dX5_addValue_32 : decode cX5_addValue 32 = .ok (.iadd, 1) := by decide +kernel
theorem dX5_addValue_33 : decode cX5_addValue 33 = .ok (.putfield 36, 3) := by decide +kernel
theorem dX5_addValue_36 : decode cX5_addValue 36 = .ok (.aload_n 0, 1) := by decide +kernel
theorem dX5_addValue_37 : decode cX5_addValue 37 = .ok (.getfield 36, 3) := by decide +kernel
theorem dX5_addValue_40 : decode cX5_addValue 40 = .ok (.iconst 1, 1) := by decide +kernel
theorem dX5_addValue_41 : decode cX5_addValue 41 = .ok (.isub, 1) := by decide +kernel
theorem dX5_addValue_42 : decode cX5_addValue 42 = .ok (.ireturn, 1) := by decide +kernel
theorem dX5_isValue_0 : decode cX5_isValue 0 = .ok (.iload_n 1, 1) := by decide +kernel
theorem dX5_isValue_1 : decode cX5_isValue 1 = .ok (.ifCond .lt 15, 3) := by decide +kernel
theorem dX5_isValue_4 : decode cX5_isValue 4 = .ok (.iload_n 1, 1) := by decide +kernel
theorem dX5_isValue_5 : decode cX5_isValue 5 = .ok (.aload_n 0, 1) := by decide +kernel
theorem dX5_isValue_6 : decode cX5_isValue 6 = .ok (.getfield 36, 3) := by decide +kernel
theorem dX5_isValue_9 : decode cX5_isValue 9 = .ok (.if_icmp .ge 7, 3) := by decide +kernel
theorem dX5_isValue_12 : decode cX5_isValue 12 = .ok (.iconst 1, 1) := by decide +kernel
theorem dX5_isValue_13 : decode cX5_isValue 13 = .ok (.goto 4, 3) := by decide +kernel
theorem dX5_isValue_16 : decode cX5_isValue 16 = .ok (.iconst 0, 1) := by decide +kernel
theorem dX5_isValue_17 : decode cX5_isValue 17 = .ok (.ireturn, 1) := by decide +kernel
theorem dX5_allows_0 : decode cX5_allows 0 = .ok (.iload_n 1, 1) := by decide +kernel
theorem dX5_allows_1 : decode cX5_allows 1 = .ok (.ifCond .lt 25, 3) := by decide +kernel
theorem dX5_allows_4 : decode cX5_allows 4 = .ok (.iload_n 1, 1) := by decide +kernel
theorem dX5_allows_5 : decode cX5_allows 5 = .ok (.bipush 10, 2) := by decide +kernel
theorem dX5_allows_7 : decode cX5_allows 7 = .ok (.if_icmp .gt 19, 3) := by decide +kernel
theorem dX5_allows_10 : decode cX5_allows 10 = .ok (.aload_n 0, 1) := by decide +kernel
theorem dX5_allows_11 : decode cX5_allows 11 = .ok (.getstatic 44, 3) := by decide +kernel
theorem dX5_allows_14 : decode cX5_allows 14 = .ok (.iload_n 1, 1) := by decide +kernel
theorem dX5_allows_15 : decode cX5_allows 15 = .ok (.iaload, 1) := by decide +kernel
theorem dX5_allows_16 : decode cX5_allows 16 = .ok (.iload_n 2, 1) := by decide +kernel
theorem dX5_allows_17 : decode cX5_allows 17 = .ok (.iload_n 3, 1) := by decide +kernel
theorem dX5_allows_18 : decode cX5_allows 18 = .ok (.iload 4, 2) := by decide +kernel
theorem dX5_allows_20 : decode cX5_allows 20 = .ok (.invokevirtual 47, 3) := by decide +kernel
theorem dX5_allows_23 : decode cX5_allows 23 = .ok (.ifCond .ne 5, 3) := by decide +kernel
theorem dX5_allows_26 : decode cX5_allows 26 = .ok (.iconst 0, 1) := by decide +kernel
theorem dX5_allows_27 : decode cX5_allows 27 = .ok (.ireturn, 1) := by decide +kernel
theorem dX5_allows_28 : decode cX5_allows 28 = .ok (.iload_n 1, 1) := by decide +kernel
theorem dX5_allows_29 : decode cX5_allows 29 = .ok (.tableswitch 104 4 8 #[35, 69, 69, 93, 99], 35) := by decide +kernel
theorem dX5_allows_64 : decode cX5_allows 64 = .ok (.aload_n 0, 1) := by decide +kernel
theorem dX5_allows_65 : decode cX5_allows 65 = .ok (.getfield 9, 3) := by decide +kernel
theorem dX5_allows_68 : decode cX5_allows 68 = .ok (.iload_n 2, 1) := by decide +kernel
theorem dX5_allows_69 : decode cX5_allows 69 = .ok (.iaload, 1) := by decide +kernel
theorem dX5_allows_70 : decode cX5_allows 70 = .ok (.ifCond .ne 26, 3) := by decide +kernel
theorem dX5_allows_73 : decode cX5_allows 73 = .ok (.aload_n 0, 1) := by decide +kernel
theorem dX5_allows_74 : decode cX5_allows 74 = .ok (.getfield 9, 3) := by decide +kernel
theorem dX5_allows_77 : decode cX5_allows 77 = .ok (.iload_n 3, 1) := by decide +kernel
theorem dX5_allows_78 : decode cX5_allows 78 = .ok (.iaload, 1) := by decide +kernel
theorem dX5_allows_79 : decode cX5_allows 79 = .ok (.ifCond .ne 17, 3) := by decide +kernel
theorem dX5_allows_82 : decode cX5_allows 82 = .ok (.aload_n 0, 1) := by decide +kernel
theorem dX5_allows_83 : decode cX5_allows 83 = .ok (.getfield 9, 3) := by decide +kernel
theorem dX5_allows_86 : decode cX5_allows 86 = .ok (.iload 4, 2) := by decide +kernel
theorem dX5_allows_88 : decode cX5_allows 88 = .ok (.iaload, 1) := by decide +kernel
theorem dX5_allows_89 : decode cX5_allows 89 = .ok (.ifCond .ne 7, 3) := by decide +kernel
theorem dX5_allows_92 : decode cX5_allows 92 = .ok (.iconst 1, 1) := by decide +kernel
theorem dX5_allows_93 : decode cX5_allows 93 = .ok (.goto 4, 3) := by decide +kernel
theorem dX5_allows_96 : decode cX5_allows 96 = .ok (.iconst 0, 1) := by decide +kernel
theorem dX5_allows_97 : decode cX5_allows 97 = .ok (.ireturn, 1) := by decide +kernel
theorem dX5_allows_98 : decode cX5_allows 98 = .ok (.aload_n 0, 1) := by decide +kernel
theorem dX5_allows_99 : decode cX5_allows 99 = .ok (.getfield 9, 3) := by decide +kernel
theorem dX5_allows_102 : decode cX5_allows 102 = .ok (.iload_n 3, 1) := by decide +kernel
theorem dX5_allows_103 : decode cX5_allows 103 = .ok (.iaload, 1) := by decide +kernel
theorem dX5_allows_104 : decode cX5_allows 104 = .ok (.iconst 1, 1) := by decide +kernel
theorem dX5_allows_105 : decode cX5_allows 105 = .ok (.if_icmp .ne 15, 3) := by decide +kernel
theorem dX5_allows_108 : decode cX5_allows 108 = .ok (.iload 4, 2) := by decide +kernel
theorem dX5_allows_110 : decode cX5_allows 110 = .ok (.invokestatic 51, 3) := by decide +kernel
theorem dX5_allows_113 : decode cX5_allows 113 = .ok (.ifCond .eq 7, 3) := by decide +kernel
theorem dX5_allows_116 : decode cX5_allows 116 = .ok (.iconst 1, 1) := by decide +kernel
theorem dX5_allows_117 : decode cX5_allows 117 = .ok (.goto 4, 3) := by decide +kernel
theorem dX5_allows_120 : decode cX5_allows 120 = .ok (.iconst 0, 1) := by decide +kernel
theorem dX5_allows_121 : decode cX5_allows 121 = .ok (.ireturn, 1) := by decide +kernel
theorem dX5_allows_122 : decode cX5_allows 122 = .ok (.iload 4, 2) := by decide +kernel
theorem dX5_allows_124 : decode cX5_allows 124 = .ok (.invokestatic 55, 3) := by decide +kernel
theorem dX5_allows_127 : decode cX5_allows 127 = .ok (.ireturn, 1) := by decide +kernel
theorem dX5_allows_128 : decode cX5_allows 128 = .ok (.iload_n 2, 1) := by decide +kernel
theorem dX5_allows_129 : decode cX5_allows 129 = .ok (.invokestatic 55, 3) := by decide +kernel
theorem dX5_allows_132 : decode cX5_allows 132 = .ok (.ireturn, 1) := by decide +kernel
theorem dX5_allows_133 : decode cX5_allows 133 = .ok (.iconst 1, 1) := by decide +kernel
theorem dX5_allows_134 : decode cX5_allows 134 = .ok (.ireturn, 1) := by decide +kernel
theorem dX5_namesValues_0 : decode cX5_namesValues 0 = .ok (.iload_n 1, 1) := by decide +kernel
theorem dX5_namesValues_1 : decode cX5_namesValues 1 = .ok (.iconst 0, 1) := by decide +kernel
theorem dX5_namesValues_2 : decode cX5_namesValues 2 = .ok (.invokestatic 58, 3) := by decide +kernel
theorem dX5_namesValues_5 : decode cX5_namesValues 5 = .ok (.ifCond .eq 11, 3) := by decide +kernel
theorem dX5_namesValues_8 : decode cX5_namesValues 8 = .ok (.aload_n 0, 1) := by decide +kernel
theorem dX5_namesValues_9 : decode cX5_namesValues 9 = .ok (.iload_n 2, 1) := by decide +kernel
theorem dX5_namesValues_10 : decode cX5_namesValues 10 = .ok (.invokevirtual 62, 3) := by decide +kernel
theorem dX5_namesValues_13 : decode cX5_namesValues 13 = .ok (.ifCond .eq 40, 3) := by decide +kernel
theorem dX5_namesValues_16 : decode cX5_namesValues 16 = .ok (.iload_n 1, 1) := by decide +kernel
theorem dX5_namesValues_17 : decode cX5_namesValues 17 = .ok (.iconst 1, 1) := by decide +kernel
theorem dX5_namesValues_18 : decode cX5_namesValues 18 = .ok (.invokestatic 58, 3) := by decide +kernel
theorem dX5_namesValues_21 : decode cX5_namesValues 21 = .ok (.ifCond .eq 11, 3) := by decide +kernel
theorem dX5_namesValues_24 : decode cX5_namesValues 24 = .ok (.aload_n 0, 1) := by decide +kernel
theorem dX5_namesValues_25 : decode cX5_namesValues 25 = .ok (.iload_n 3, 1) := by decide +kernel
theorem dX5_namesValues_26 : decode cX5_namesValues 26 = .ok (.invokevirtual 62, 3) := by decide +kernel
theorem dX5_namesValues_29 : decode cX5_namesValues 29 = .ok (.ifCond .eq 24, 3) := by decide +kernel
theorem dX5_namesValues_32 : decode cX5_namesValues 32 = .ok (.iload_n 1, 1) := by decide +kernel
theorem dX5_namesValues_33 : decode cX5_namesValues 33 = .ok (.iconst 2, 1) := by decide +kernel
theorem dX5_namesValues_34 : decode cX5_namesValues 34 = .ok (.invokestatic 58, 3) := by decide +kernel
theorem dX5_namesValues_37 : decode cX5_namesValues 37 = .ok (.ifCond .eq 12, 3) := by decide +kernel
theorem dX5_namesValues_40 : decode cX5_namesValues 40 = .ok (.aload_n 0, 1) := by decide +kernel
theorem dX5_namesValues_41 : decode cX5_namesValues 41 = .ok (.iload 4, 2) := by decide +kernel
theorem dX5_namesValues_43 : decode cX5_namesValues 43 = .ok (.invokevirtual 62, 3) := by decide +kernel
theorem dX5_namesValues_46 : decode cX5_namesValues 46 = .ok (.ifCond .eq 7, 3) := by decide +kernel
theorem dX5_namesValues_49 : decode cX5_namesValues 49 = .ok (.iconst 1, 1) := by decide +kernel
theorem dX5_namesValues_50 : decode cX5_namesValues 50 = .ok (.goto 4, 3) := by decide +kernel
theorem dX5_namesValues_53 : decode cX5_namesValues 53 = .ok (.iconst 0, 1) := by decide +kernel
theorem dX5_namesValues_54 : decode cX5_namesValues 54 = .ok (.ireturn, 1) := by decide +kernel
theorem dX5_mayComeNext_0 : decode cX5_mayComeNext 0 = .ok (.iload_n 0, 1) := by decide +kernel
theorem dX5_mayComeNext_1 : decode cX5_mayComeNext 1 = .ok (.ifCond .lt 13, 3) := by decide +kernel
theorem dX5_mayComeNext_4 : decode cX5_mayComeNext 4 = .ok (.iload_n 0, 1) := by decide +kernel
theorem dX5_mayComeNext_5 : decode cX5_mayComeNext 5 = .ok (.bipush 60, 2) := by decide +kernel
theorem dX5_mayComeNext_7 : decode cX5_mayComeNext 7 = .ok (.if_icmp .gt 7, 3) := by decide +kernel
theorem dX5_mayComeNext_10 : decode cX5_mayComeNext 10 = .ok (.iconst 1, 1) := by decide +kernel
theorem dX5_mayComeNext_11 : decode cX5_mayComeNext 11 = .ok (.goto 4, 3) := by decide +kernel
theorem dX5_mayComeNext_14 : decode cX5_mayComeNext 14 = .ok (.iconst 0, 1) := by decide +kernel
theorem dX5_mayComeNext_15 : decode cX5_mayComeNext 15 = .ok (.ireturn, 1) := by decide +kernel
theorem dX5_addStep_0 : decode cX5_addStep 0 = .ok (.aload_n 0, 1) := by decide +kernel
theorem dX5_addStep_1 : decode cX5_addStep 1 = .ok (.getfield 23, 3) := by decide +kernel
theorem dX5_addStep_4 : decode cX5_addStep 4 = .ok (.getfield 65, 3) := by decide +kernel
theorem dX5_addStep_7 : decode cX5_addStep 7 = .ok (.istore 5, 2) := by decide +kernel
theorem dX5_addStep_9 : decode cX5_addStep 9 = .ok (.aload_n 0, 1) := by decide +kernel
theorem dX5_addStep_10 : decode cX5_addStep 10 = .ok (.getfield 23, 3) := by decide +kernel
theorem dX5_addStep_13 : decode cX5_addStep 13 = .ok (.iload_n 1, 1) := by decide +kernel
theorem dX5_addStep_14 : decode cX5_addStep 14 = .ok (.iload_n 2, 1) := by decide +kernel
theorem dX5_addStep_15 : decode cX5_addStep 15 = .ok (.iload_n 3, 1) := by decide +kernel
theorem dX5_addStep_16 : decode cX5_addStep 16 = .ok (.iload 4, 2) := by decide +kernel
theorem dX5_addStep_18 : decode cX5_addStep 18 = .ok (.invokevirtual 68, 3) := by decide +kernel
theorem dX5_addStep_21 : decode cX5_addStep 21 = .ok (.aload_n 0, 1) := by decide +kernel
theorem dX5_addStep_22 : decode cX5_addStep 22 = .ok (.getfield 27, 3) := by decide +kernel
theorem dX5_addStep_25 : decode cX5_addStep 25 = .ok (.iload 5, 2) := by decide +kernel
theorem dX5_addStep_27 : decode cX5_addStep 27 = .ok (.iload_n 1, 1) := by decide +kernel
theorem dX5_addStep_28 : decode cX5_addStep 28 = .ok (.iconst 5, 1) := by decide +kernel
theorem dX5_addStep_29 : decode cX5_addStep 29 = .ok (.if_icmp .gt 7, 3) := by decide +kernel
theorem dX5_addStep_32 : decode cX5_addStep 32 = .ok (.iload_n 2, 1) := by decide +kernel
theorem dX5_addStep_33 : decode cX5_addStep 33 = .ok (.goto 4, 3) := by decide +kernel
theorem dX5_addStep_36 : decode cX5_addStep 36 = .ok (.iconst (-1), 1) := by decide +kernel
theorem dX5_addStep_37 : decode cX5_addStep 37 = .ok (.iastore, 1) := by decide +kernel
theorem dX5_addStep_38 : decode cX5_addStep 38 = .ok (.aload_n 0, 1) := by decide +kernel
theorem dX5_addStep_39 : decode cX5_addStep 39 = .ok (.getfield 30, 3) := by decide +kernel
theorem dX5_addStep_42 : decode cX5_addStep 42 = .ok (.iload 5, 2) := by decide +kernel
theorem dX5_addStep_44 : decode cX5_addStep 44 = .ok (.aload_n 0, 1) := by decide +kernel
theorem dX5_addStep_45 : decode cX5_addStep 45 = .ok (.iload 5, 2) := by decide +kernel
theorem dX5_addStep_47 : decode cX5_addStep 47 = .ok (.iconst 0, 1) := by decide +kernel
theorem dX5_addStep_48 : decode cX5_addStep 48 = .ok (.invokevirtual 72, 3) := by decide +kernel
theorem dX5_addStep_51 : decode cX5_addStep 51 = .ok (.iastore, 1) := by decide +kernel
theorem dX5_addStep_52 : decode cX5_addStep 52 = .ok (.aload_n 0, 1) := by decide +kernel
theorem dX5_addStep_53 : decode cX5_addStep 53 = .ok (.getfield 33, 3) := by decide +kernel
theorem dX5_addStep_56 : decode cX5_addStep 56 = .ok (.iload 5, 2) := by decide +kernel
theorem dX5_addStep_58 : decode cX5_addStep 58 = .ok (.aload_n 0, 1) := by decide +kernel
theorem dX5_addStep_59 : decode cX5_addStep 59 = .ok (.iload 5, 2) := by decide +kernel
theorem dX5_addStep_61 : decode cX5_addStep 61 = .ok (.iconst 1, 1) := by decide +kernel
theorem dX5_addStep_62 : decode cX5_addStep 62 = .ok (.invokevirtual 72, 3) := by decide +kernel
theorem dX5_addStep_65 : decode cX5_addStep 65 = .ok (.iastore, 1) := by decide +kernel
theorem dX5_addStep_66 : decode cX5_addStep 66 = .ok (.iload 5, 2) := by decide +kernel
theorem dX5_addStep_68 : decode cX5_addStep 68 = .ok (.ireturn, 1) := by decide +kernel
theorem dX5_takenOf_0 : decode cX5_takenOf 0 = .ok (.getstatic 76, 3) := by decide +kernel
theorem dX5_takenOf_3 : decode cX5_takenOf 3 = .ok (.aload_n 0, 1) := by decide +kernel
theorem dX5_takenOf_4 : decode cX5_takenOf 4 = .ok (.getfield 23, 3) := by decide +kernel
theorem dX5_takenOf_7 : decode cX5_takenOf 7 = .ok (.getfield 79, 3) := by decide +kernel
theorem dX5_takenOf_10 : decode cX5_takenOf 10 = .ok (.iload_n 1, 1) := by decide +kernel
theorem dX5_takenOf_11 : decode cX5_takenOf 11 = .ok (.iaload, 1) := by decide +kernel
theorem dX5_takenOf_12 : decode cX5_takenOf 12 = .ok (.iaload, 1) := by decide +kernel
theorem dX5_takenOf_13 : decode cX5_takenOf 13 = .ok (.istore_n 3, 1) := by decide +kernel
theorem dX5_takenOf_14 : decode cX5_takenOf 14 = .ok (.iconst 0, 1) := by decide +kernel
theorem dX5_takenOf_15 : decode cX5_takenOf 15 = .ok (.istore 4, 2) := by decide +kernel
theorem dX5_takenOf_17 : decode cX5_takenOf 17 = .ok (.iconst 0, 1) := by decide +kernel
theorem dX5_takenOf_18 : decode cX5_takenOf 18 = .ok (.istore 5, 2) := by decide +kernel
theorem dX5_takenOf_20 : decode cX5_takenOf 20 = .ok (.iload 5, 2) := by decide +kernel
theorem dX5_takenOf_22 : decode cX5_takenOf 22 = .ok (.iconst 3, 1) := by decide +kernel
theorem dX5_takenOf_23 : decode cX5_takenOf 23 = .ok (.if_icmp .ge 40, 3) := by decide +kernel
theorem dX5_takenOf_26 : decode cX5_takenOf 26 = .ok (.iload_n 3, 1) := by decide +kernel
theorem dX5_takenOf_27 : decode cX5_takenOf 27 = .ok (.iload 5, 2) := by decide +kernel
theorem dX5_takenOf_29 : decode cX5_takenOf 29 = .ok (.invokestatic 58, 3) := by decide +kernel
theorem dX5_takenOf_32 : decode cX5_takenOf 32 = .ok (.ifCond .eq 25, 3) := by decide +kernel
theorem dX5_takenOf_35 : decode cX5_takenOf 35 = .ok (.iload 4, 2) := by decide +kernel
theorem dX5_takenOf_37 : decode cX5_takenOf 37 = .ok (.iload_n 2, 1) := by decide +kernel
theorem dX5_takenOf_38 : decode cX5_takenOf 38 = .ok (.if_icmp .ne 16, 3) := by decide +kernel
theorem dX5_takenOf_41 : decode cX5_takenOf 41 = .ok (.aload_n 0, 1) := by decide +kernel
theorem dX5_takenOf_42 : decode cX5_takenOf 42 = .ok (.getfield 23, 3) := by decide +kernel
theorem dX5_takenOf_45 : decode cX5_takenOf 45 = .ok (.iload_n 1, 1) := by decide +kernel
theorem dX5_takenOf_46 : decode cX5_takenOf 46 = .ok (.iload 5, 2) := by decide +kernel
theorem dX5_takenOf_48 : decode cX5_takenOf 48 = .ok (.iconst 1, 1) := by decide +kernel
theorem dX5_takenOf_49 : decode cX5_takenOf 49 = .ok (.iadd, 1) := by decide +kernel
theorem dX5_takenOf_50 : decode cX5_takenOf 50 = .ok (.invokevirtual 82, 3) := by decide +kernel
theorem dX5_takenOf_53 : decode cX5_takenOf 53 = .ok (.ireturn, 1) := by decide +kernel
theorem dX5_takenOf_54 : decode cX5_takenOf 54 = .ok (.iinc 4 1, 3) := by decide +kernel
theorem dX5_takenOf_57 : decode cX5_takenOf 57 = .ok (.iinc 5 1, 3) := by decide +kernel
theorem dX5_takenOf_60 : decode cX5_takenOf 60 = .ok (.goto (-40), 3) := by decide +kernel
