theorem dX8_slotsOf_52 : decode cX8_slotsOf 52 = .ok (.iaload, 1) := by decide +kernel
theorem dX8_slotsOf_53 : decode cX8_slotsOf 53 = .ok (.iload_n 3, 1) := by decide +kernel
theorem dX8_slotsOf_54 : decode cX8_slotsOf 54 = .ok (.if_icmp .ne 7, 3) := by decide +kernel
theorem dX8_slotsOf_57 : decode cX8_slotsOf 57 = .ok (.iconst 1, 1) := by decide +kernel
theorem dX8_slotsOf_58 : decode cX8_slotsOf 58 = .ok (.goto 4, 3) := by decide +kernel
theorem dX8_slotsOf_61 : decode cX8_slotsOf 61 = .ok (.iconst 0, 1) := by decide +kernel
theorem dX8_slotsOf_62 : decode cX8_slotsOf 62 = .ok (.istore 4, 2) := by decide +kernel
theorem dX8_slotsOf_64 : decode cX8_slotsOf 64 = .ok (.iinc 5 1, 3) := by decide +kernel
theorem dX8_slotsOf_67 : decode cX8_slotsOf 67 = .ok (.goto (-46), 3) := by decide +kernel
theorem dX8_slotsOf_70 : decode cX8_slotsOf 70 = .ok (.iload_n 2, 1) := by decide +kernel
theorem dX8_slotsOf_71 : decode cX8_slotsOf 71 = .ok (.iload 4, 2) := by decide +kernel
theorem dX8_slotsOf_73 : decode cX8_slotsOf 73 = .ok (.ifCond .eq 7, 3) := by decide +kernel
theorem dX8_slotsOf_76 : decode cX8_slotsOf 76 = .ok (.iconst 1, 1) := by decide +kernel
theorem dX8_slotsOf_77 : decode cX8_slotsOf 77 = .ok (.goto 4, 3) := by decide +kernel
theorem dX8_slotsOf_80 : decode cX8_slotsOf 80 = .ok (.iconst 0, 1) := by decide +kernel
theorem dX8_slotsOf_81 : decode cX8_slotsOf 81 = .ok (.iadd, 1) := by decide +kernel
theorem dX8_slotsOf_82 : decode cX8_slotsOf 82 = .ok (.istore_n 2, 1) := by decide +kernel
theorem dX8_slotsOf_83 : decode cX8_slotsOf 83 = .ok (.iinc 3 1, 3) := by decide +kernel
theorem dX8_slotsOf_86 : decode cX8_slotsOf 86 = .ok (.goto (-77), 3) := by decide +kernel
theorem dX8_slotsOf_89 : decode cX8_slotsOf 89 = .ok (.iload_n 2, 1) := by decide +kernel
theorem dX8_slotsOf_90 : decode cX8_slotsOf 90 = .ok (.ireturn, 1) := by decide +kernel
theorem dX8_count_0 : decode cX8_count 0 = .ok (.iload_n 1, 1) := by decide +kernel
theorem dX8_count_1 : decode cX8_count 1 = .ok (.tableswitch 70 0 5 #[39, 44, 49, 49, 62, 62], 39) := by decide +kernel
theorem dX8_count_40 : decode cX8_count 40 = .ok (.aload_n 0, 1) := by decide +kernel
theorem dX8_count_41 : decode cX8_count 41 = .ok (.getfield 79, 3) := by decide +kernel
theorem dX8_count_44 : decode cX8_count 44 = .ok (.ireturn, 1) := by decide +kernel
theorem dX8_count_45 : decode cX8_count 45 = .ok (.aload_n 0, 1) := by decide +kernel
theorem dX8_count_46 : decode cX8_count 46 = .ok (.getfield 95, 3) := by decide +kernel
theorem dX8_count_49 : decode cX8_count 49 = .ok (.ireturn, 1) := by decide +kernel
theorem dX8_count_50 : decode cX8_count 50 = .ok (.aload_n 0, 1) := by decide +kernel
theorem dX8_count_51 : decode cX8_count 51 = .ok (.invokevirtual 166, 3) := by decide +kernel
theorem dX8_count_54 : decode cX8_count 54 = .ok (.aload_n 0, 1) := by decide +kernel
theorem dX8_count_55 : decode cX8_count 55 = .ok (.getfield 52, 3) := by decide +kernel
theorem dX8_count_58 : decode cX8_count 58 = .ok (.iload_n 1, 1) := by decide +kernel
theorem dX8_count_59 : decode cX8_count 59 = .ok (.iconst 2, 1) := by decide +kernel
theorem dX8_count_60 : decode cX8_count 60 = .ok (.isub, 1) := by decide +kernel
theorem dX8_count_61 : decode cX8_count 61 = .ok (.iaload, 1) := by decide +kernel
theorem dX8_count_62 : decode cX8_count 62 = .ok (.ireturn, 1) := by decide +kernel
theorem dX8_count_63 : decode cX8_count 63 = .ok (.aload_n 0, 1) := by decide +kernel
theorem dX8_count_64 : decode cX8_count 64 = .ok (.iload_n 1, 1) := by decide +kernel
theorem dX8_count_65 : decode cX8_count 65 = .ok (.iconst 4, 1) := by decide +kernel
theorem dX8_count_66 : decode cX8_count 66 = .ok (.isub, 1) := by decide +kernel
theorem dX8_count_67 : decode cX8_count 67 = .ok (.invokevirtual 169, 3) := by decide +kernel
theorem dX8_count_70 : decode cX8_count 70 = .ok (.ireturn, 1) := by decide +kernel
theorem dX8_count_71 : decode cX8_count 71 = .ok (.iconst (-1), 1) := by decide +kernel
theorem dX8_count_72 : decode cX8_count 72 = .ok (.ireturn, 1) := by decide +kernel
theorem dX8_item_0 : decode cX8_item 0 = .ok (.iload_n 1, 1) := by decide +kernel
theorem dX8_item_1 : decode cX8_item 1 = .ok (.iconst 1, 1) := by decide +kernel
theorem dX8_item_2 : decode cX8_item 2 = .ok (.if_icmp .lt 17, 3) := by decide +kernel
theorem dX8_item_5 : decode cX8_item 5 = .ok (.iload_n 1, 1) := by decide +kernel
theorem dX8_item_6 : decode cX8_item 6 = .ok (.iconst 2, 1) := by decide +kernel
theorem dX8_item_7 : decode cX8_item 7 = .ok (.if_icmp .gt 12, 3) := by decide +kernel
theorem dX8_item_10 : decode cX8_item 10 = .ok (.iload_n 3, 1) := by decide +kernel
theorem dX8_item_11 : decode cX8_item 11 = .ok (.ifCond .lt 8, 3) := by decide +kernel
theorem dX8_item_14 : decode cX8_item 14 = .ok (.iload_n 3, 1) := by decide +kernel
theorem dX8_item_15 : decode cX8_item 15 = .ok (.iconst 3, 1) := by decide +kernel
theorem dX8_item_16 : decode cX8_item 16 = .ok (.if_icmp .le 5, 3) := by decide +kernel
theorem dX8_item_19 : decode cX8_item 19 = .ok (.iconst (-1), 1) := by decide +kernel
theorem dX8_item_20 : decode cX8_item 20 = .ok (.ireturn, 1) := by decide +kernel
theorem dX8_item_21 : decode cX8_item 21 = .ok (.aload_n 0, 1) := by decide +kernel
theorem dX8_item_22 : decode cX8_item 22 = .ok (.invokevirtual 166, 3) := by decide +kernel
theorem dX8_item_25 : decode cX8_item 25 = .ok (.iload_n 2, 1) := by decide +kernel
theorem dX8_item_26 : decode cX8_item 26 = .ok (.ifCond .lt 15, 3) := by decide +kernel
theorem dX8_item_29 : decode cX8_item 29 = .ok (.iload_n 2, 1) := by decide +kernel
theorem dX8_item_30 : decode cX8_item 30 = .ok (.aload_n 0, 1) := by decide +kernel
theorem dX8_item_31 : decode cX8_item 31 = .ok (.getfield 52, 3) := by decide +kernel
theorem dX8_item_34 : decode cX8_item 34 = .ok (.iload_n 1, 1) := by decide +kernel
theorem dX8_item_35 : decode cX8_item 35 = .ok (.iconst 1, 1) := by decide +kernel
theorem dX8_item_36 : decode cX8_item 36 = .ok (.isub, 1) := by decide +kernel
theorem dX8_item_37 : decode cX8_item 37 = .ok (.iaload, 1) := by decide +kernel
theorem dX8_item_38 : decode cX8_item 38 = .ok (.if_icmp .lt 7, 3) := by decide +kernel
theorem dX8_item_41 : decode cX8_item 41 = .ok (.iconst (-1), 1) := by decide +kernel
theorem dX8_item_42 : decode cX8_item 42 = .ok (.goto 21, 3) := by decide +kernel
theorem dX8_item_45 : decode cX8_item 45 = .ok (.aload_n 0, 1) := by decide +kernel
theorem dX8_item_46 : decode cX8_item 46 = .ok (.getfield 49, 3) := by decide +kernel
theorem dX8_item_49 : decode cX8_item 49 = .ok (.sipush 1600, 3) := by decide +kernel
theorem dX8_item_52 : decode cX8_item 52 = .ok (.iload_n 1, 1) := by decide +kernel
theorem dX8_item_53 : decode cX8_item 53 = .ok (.iconst 1, 1) := by decide +kernel
theorem dX8_item_54 : decode cX8_item 54 = .ok (.isub, 1) := by decide +kernel
theorem dX8_item_55 : decode cX8_item 55 = .ok (.imul, 1) := by decide +kernel
theorem dX8_item_56 : decode cX8_item 56 = .ok (.iconst 4, 1) := by decide +kernel
theorem dX8_item_57 : decode cX8_item 57 = .ok (.iload_n 2, 1) := by decide +kernel
theorem dX8_item_58 : decode cX8_item 58 = .ok (.imul, 1) := by decide +kernel
theorem dX8_item_59 : decode cX8_item 59 = .ok (.iadd, 1) := by decide +kernel
theorem dX8_item_60 : decode cX8_item 60 = .ok (.iload_n 3, 1) := by decide +kernel
theorem dX8_item_61 : decode cX8_item 61 = .ok (.iadd, 1) := by decide +kernel
theorem dX8_item_62 : decode cX8_item 62 = .ok (.iaload, 1) := by decide +kernel
theorem dX8_item_63 : decode cX8_item 63 = .ok (.ireturn, 1) := by decide +kernel
theorem dX8_begin_0 : decode cX8_begin 0 = .ok (.aload_n 0, 1) := by decide +kernel
theorem dX8_begin_1 : decode cX8_begin 1 = .ok (.iconst 0, 1) := by decide +kernel
theorem dX8_begin_2 : decode cX8_begin 2 = .ok (.putfield 172, 3) := by decide +kernel
theorem dX8_begin_5 : decode cX8_begin 5 = .ok (.aload_n 0, 1) := by decide +kernel
theorem dX8_begin_6 : decode cX8_begin 6 = .ok (.iconst 0, 1) := by decide +kernel
theorem dX8_begin_7 : decode cX8_begin 7 = .ok (.putfield 175, 3) := by decide +kernel
theorem dX8_begin_10 : decode cX8_begin 10 = .ok (.iconst 0, 1) := by decide +kernel
theorem dX8_begin_11 : decode cX8_begin 11 = .ok (.istore_n 1, 1) := by decide +kernel
theorem dX8_begin_12 : decode cX8_begin 12 = .ok (.iload_n 1, 1) := by decide +kernel
theorem dX8_begin_13 : decode cX8_begin 13 = .ok (.bipush 64, 2) := by decide +kernel
theorem dX8_begin_15 : decode cX8_begin 15 = .ok (.if_icmp .ge 28, 3) := by decide +kernel
theorem dX8_begin_18 : decode cX8_begin 18 = .ok (.aload_n 0, 1) := by decide +kernel
theorem dX8_begin_19 : decode cX8_begin 19 = .ok (.getfield 61, 3) := by decide +kernel
theorem dX8_begin_22 : decode cX8_begin 22 = .ok (.iload_n 1, 1) := by decide +kernel
theorem dX8_begin_23 : decode cX8_begin 23 = .ok (.aload_n 0, 1) := by decide +kernel
theorem dX8_begin_24 : decode cX8_begin 24 = .ok (.getfield 28, 3) := by decide +kernel
theorem dX8_begin_27 : decode cX8_begin 27 = .ok (.iload_n 1, 1) := by decide +kernel
theorem dX8_begin_28 : decode cX8_begin 28 = .ok (.iaload, 1) := by decide +kernel
theorem dX8_begin_29 : decode cX8_begin 29 = .ok (.iastore, 1) := by decide +kernel
theorem dX8_begin_30 : decode cX8_begin 30 = .ok (.aload_n 0, 1) := by decide +kernel
theorem dX8_begin_31 : decode cX8_begin 31 = .ok (.getfield 67, 3) := by decide +kernel
theorem dX8_begin_34 : decode cX8_begin 34 = .ok (.iload_n 1, 1) := by decide +kernel
theorem dX8_begin_35 : decode cX8_begin 35 = .ok (.iconst 0, 1) := by decide +kernel
theorem dX8_begin_36 : decode cX8_begin 36 = .ok (.iastore, 1) := by decide +kernel
theorem dX8_begin_37 : decode cX8_begin 37 = .ok (.iinc 1 1, 3) := by decide +kernel
theorem dX8_begin_40 : decode cX8_begin 40 = .ok (.goto (-28), 3) := by decide +kernel
theorem dX8_begin_43 : decode cX8_begin 43 = .ok (.iconst 0, 1) := by decide +kernel
theorem dX8_begin_44 : decode cX8_begin 44 = .ok (.istore_n 1, 1) := by decide +kernel
theorem dX8_begin_45 : decode cX8_begin 45 = .ok (.iload_n 1, 1) := by decide +kernel
theorem dX8_begin_46 : decode cX8_begin 46 = .ok (.bipush 32, 2) := by decide +kernel
theorem dX8_begin_48 : decode cX8_begin 48 = .ok (.if_icmp .ge 16, 3) := by decide +kernel
theorem dX8_begin_51 : decode cX8_begin 51 = .ok (.aload_n 0, 1) := by decide +kernel
theorem dX8_begin_52 : decode cX8_begin 52 = .ok (.getfield 64, 3) := by decide +kernel
theorem dX8_begin_55 : decode cX8_begin 55 = .ok (.iload_n 1, 1) := by decide +kernel
theorem dX8_begin_56 : decode cX8_begin 56 = .ok (.iconst 0, 1) := by decide +kernel
theorem dX8_begin_57 : decode cX8_begin 57 = .ok (.iastore, 1) := by decide +kernel
theorem dX8_begin_58 : decode cX8_begin 58 = .ok (.iinc 1 1, 3) := by decide +kernel
theorem dX8_begin_61 : decode cX8_begin 61 = .ok (.goto (-16), 3) := by decide +kernel
theorem dX8_begin_64 : decode cX8_begin 64 = .ok (.iconst 0, 1) := by decide +kernel
theorem dX8_begin_65 : decode cX8_begin 65 = .ok (.istore_n 1, 1) := by decide +kernel
theorem dX8_begin_66 : decode cX8_begin 66 = .ok (.iload_n 1, 1) := by decide +kernel
theorem dX8_begin_67 : decode cX8_begin 67 = .ok (.bipush 24, 2) := by decide +kernel
theorem dX8_begin_69 : decode cX8_begin 69 = .ok (.if_icmp .ge 16, 3) := by decide +kernel
theorem dX8_begin_72 : decode cX8_begin 72 = .ok (.aload_n 0, 1) := by decide +kernel
theorem dX8_begin_73 : decode cX8_begin 73 = .ok (.getfield 70, 3) := by decide +kernel
theorem dX8_begin_76 : decode cX8_begin 76 = .ok (.iload_n 1, 1) := by decide +kernel
theorem dX8_begin_77 : decode cX8_begin 77 = .ok (.iconst 0, 1) := by decide +kernel
theorem dX8_begin_78 : decode cX8_begin 78 = .ok (.iastore, 1) := by decide +kernel
theorem dX8_begin_79 : decode cX8_begin 79 = .ok (.iinc 1 1, 3) := by decide +kernel
theorem dX8_begin_82 : decode cX8_begin 82 = .ok (.goto (-16), 3) := by decide +kernel
theorem dX8_begin_85 : decode cX8_begin 85 = .ok (.return_, 1) := by decide +kernel
theorem dX8_say_0 : decode cX8_say 0 = .ok (.aload_n 0, 1) := by decide +kernel
theorem dX8_say_1 : decode cX8_say 1 = .ok (.getfield 175, 3) := by decide +kernel
theorem dX8_say_4 : decode cX8_say 4 = .ok (.bipush 50, 2) := by decide +kernel
theorem dX8_say_6 : decode cX8_say 6 = .ok (.if_icmp .ge 13, 3) := by decide +kernel
theorem dX8_say_9 : decode cX8_say 9 = .ok (.aload_n 0, 1) := by decide +kernel
theorem dX8_say_10 : decode cX8_say 10 = .ok (.getfield 58, 3) := by decide +kernel
theorem dX8_say_13 : decode cX8_say 13 = .ok (.aload_n 0, 1) := by decide +kernel
theorem dX8_say_14 : decode cX8_say 14 = .ok (.getfield 175, 3) := by decide +kernel
theorem dX8_say_17 : decode cX8_say 17 = .ok (.iload_n 1, 1) := by decide +kernel
theorem dX8_say_18 : decode cX8_say 18 = .ok (.iastore, 1) := by decide +kernel
theorem dX8_say_19 : decode cX8_say 19 = .ok (.aload_n 0, 1) := by decide +kernel
theorem dX8_say_20 : decode cX8_say 20 = .ok (.dup, 1) := by decide +kernel
theorem dX8_say_21 : decode cX8_say 21 = .ok (.getfield 175, 3) := by decide +kernel
theorem dX8_say_24 : decode cX8_say 24 = .ok (.iconst 1, 1) := by decide +kernel
theorem dX8_say_25 : decode cX8_say 25 = .ok (.iadd, 1) := by decide +kernel
theorem dX8_say_26 : decode cX8_say 26 = .ok (.putfield 175, 3) := by decide +kernel
theorem dX8_say_29 : decode cX8_say 29 = .ok (.return_, 1) := by decide +kernel
theorem dX8_reckoned_0 : decode cX8_reckoned 0 = .ok (.iload_n 0, 1) := by decide +kernel
theorem dX8_reckoned_1 : decode cX8_reckoned 1 = .ok (.iconst 2, 1) := by decide +kernel
theorem dX8_reckoned_2 : decode cX8_reckoned 2 = .ok (.if_icmp .ne 9, 3) := by decide +kernel
theorem dX8_reckoned_5 : decode cX8_reckoned 5 = .ok (.iload_n 1, 1) := by decide +kernel
theorem dX8_reckoned_6 : decode cX8_reckoned 6 = .ok (.iload_n 2, 1) := by decide +kernel
theorem dX8_reckoned_7 : decode cX8_reckoned 7 = .ok (.iadd, 1) := by decide +kernel
theorem dX8_reckoned_8 : decode cX8_reckoned 8 = .ok (.goto 17, 3) := by decide +kernel
theorem dX8_reckoned_11 : decode cX8_reckoned 11 = .ok (.iload_n 0, 1) := by decide +kernel
theorem dX8_reckoned_12 : decode cX8_reckoned 12 = .ok (.iconst 3, 1) := by decide +kernel
theorem dX8_reckoned_13 : decode cX8_reckoned 13 = .ok (.if_icmp .ne 9, 3) := by decide +kernel
theorem dX8_reckoned_16 : decode cX8_reckoned 16 = .ok (.iload_n 1, 1) := by decide +kernel
theorem dX8_reckoned_17 : decode cX8_reckoned 17 = .ok (.iload_n 2, 1) := by decide +kernel
theorem dX8_reckoned_18 : decode cX8_reckoned 18 = .ok (.isub, 1) := by decide +kernel
theorem dX8_reckoned_19 : decode cX8_reckoned 19 = .ok (.goto 6, 3) := by decide +kernel
theorem dX8_reckoned_22 : decode cX8_reckoned 22 = .ok (.iload_n 1, 1) := by decide +kernel
theorem dX8_reckoned_23 : decode cX8_reckoned 23 = .ok (.iload_n 2, 1) := by decide +kernel
theorem dX8_reckoned_24 : decode cX8_reckoned 24 = .ok (.imul, 1) := by decide +kernel
theorem dX8_reckoned_25 : decode cX8_reckoned 25 = .ok (.ireturn, 1) := by decide +kernel
theorem dX8_doStep_0 : decode cX8_doStep 0 = .ok (.aload_n 0, 1) := by decide +kernel
theorem dX8_doStep_1 : decode cX8_doStep 1 = .ok (.getfield 16, 3) := by decide +kernel
theorem dX8_doStep_4 : decode cX8_doStep 4 = .ok (.iload_n 1, 1) := by decide +kernel
theorem dX8_doStep_5 : decode cX8_doStep 5 = .ok (.iaload, 1) := by decide +kernel
theorem dX8_doStep_6 : decode cX8_doStep 6 = .ok (.istore_n 2, 1) := by decide +kernel
theorem dX8_doStep_7 : decode cX8_doStep 7 = .ok (.aload_n 0, 1) := by decide +kernel
theorem dX8_doStep_8 : decode cX8_doStep 8 = .ok (.getfield 19, 3) := by decide +kernel
theorem dX8_doStep_11 : decode cX8_doStep 11 = .ok (.iload_n 1, 1) := by decide +kernel
theorem dX8_doStep_12 : decode cX8_doStep 12 = .ok (.iaload, 1) := by decide +kernel
theorem dX8_doStep_13 : decode cX8_doStep 13 = .ok (.istore_n 3, 1) := by decide +kernel
theorem dX8_doStep_14 : decode cX8_doStep 14 = .ok (.aload_n 0, 1) := by decide +kernel
theorem dX8_doStep_15 : decode cX8_doStep 15 = .ok (.getfield 22, 3) := by decide +kernel
theorem dX8_doStep_18 : decode cX8_doStep 18 = .ok (.iload_n 1, 1) := by decide +kernel
theorem dX8_doStep_19 : decode cX8_doStep 19 = .ok (.iaload, 1) := by decide +kernel
theorem dX8_doStep_20 : decode cX8_doStep 20 = .ok (.istore 4, 2) := by decide +kernel
theorem dX8_doStep_22 : decode cX8_doStep 22 = .ok (.aload_n 0, 1) := by decide +kernel
theorem dX8_doStep_23 : decode cX8_doStep 23 = .ok (.getfield 13, 3) := by decide +kernel
theorem dX8_doStep_26 : decode cX8_doStep 26 = .ok (.iload_n 1, 1) := by decide +kernel
theorem dX8_doStep_27 : decode cX8_doStep 27 = .ok (.iaload, 1) := by decide +kernel
theorem dX8_doStep_28 : decode cX8_doStep 28 = .ok (.tableswitch 203 0 9 #[56, 66, 81, 81, 81, 112, 138, 164, 188, 190], 56) := by decide +kernel
theorem dX8_doStep_84 : decode cX8_doStep 84 = .ok (.aload_n 0, 1) := by decide +kernel
theorem dX8_doStep_85 : decode cX8_doStep 85 = .ok (.getfield 70, 3) := by decide +kernel
theorem dX8_doStep_88 : decode cX8_doStep 88 = .ok (.iload_n 2, 1) := by decide +kernel
theorem dX8_doStep_89 : decode cX8_doStep 89 = .ok (.iload_n 3, 1) := by decide +kernel
theorem dX8_doStep_90 : decode cX8_doStep 90 = .ok (.iastore, 1) := by decide +kernel
theorem dX8_doStep_91 : decode cX8_doStep 91 = .ok (.goto 143, 3) := by decide +kernel
theorem dX8_doStep_94 : decode cX8_doStep 94 = .ok (.aload_n 0, 1) := by decide +kernel
theorem dX8_doStep_95 : decode cX8_doStep 95 = .ok (.getfield 70, 3) := by decide +kernel
theorem dX8_doStep_98 : decode cX8_doStep 98 = .ok (.iload_n 2, 1) := by decide +kernel
theorem dX8_doStep_99 : decode cX8_doStep 99 = .ok (.aload_n 0, 1) := by decide +kernel
theorem dX8_doStep_100 : decode cX8_doStep 100 = .ok (.getfield 70, 3) := by decide +kernel
theorem dX8_doStep_103 : decode cX8_doStep 103 = .ok (.iload_n 3, 1) := by decide +kernel
theorem dX8_doStep_104 : decode cX8_doStep 104 = .ok (.iaload, 1) := by decide +kernel
theorem dX8_doStep_105 : decode cX8_doStep 105 = .ok (.iastore, 1) := by decide +kernel
theorem dX8_doStep_106 : decode cX8_doStep 106 = .ok (.goto 128, 3) := by decide +kernel
theorem dX8_doStep_109 : decode cX8_doStep 109 = .ok (.aload_n 0, 1) := by decide +kernel
theorem dX8_doStep_110 : decode cX8_doStep 110 = .ok (.getfield 70, 3) := by decide +kernel
theorem dX8_doStep_113 : decode cX8_doStep 113 = .ok (.iload_n 2, 1) := by decide +kernel
theorem dX8_doStep_114 : decode cX8_doStep 114 = .ok (.aload_n 0, 1) := by decide +kernel
theorem dX8_doStep_115 : decode cX8_doStep 115 = .ok (.getfield 13, 3) := by decide +kernel
theorem dX8_doStep_118 : decode cX8_doStep 118 = .ok (.iload_n 1, 1) := by decide +kernel
theorem dX8_doStep_119 : decode cX8_doStep 119 = .ok (.iaload, 1) := by decide +kernel
theorem dX8_doStep_120 : decode cX8_doStep 120 = .ok (.aload_n 0, 1) := by decide +kernel
theorem dX8_doStep_121 : decode cX8_doStep 121 = .ok (.getfield 70, 3) := by decide +kernel
theorem dX8_doStep_124 : decode cX8_doStep 124 = .ok (.iload_n 3, 1) := by decide +kernel
theorem dX8_doStep_125 : decode cX8_doStep 125 = .ok (.iaload, 1) := by decide +kernel
theorem dX8_doStep_126 : decode cX8_doStep 126 = .ok (.aload_n 0, 1) := by decide +kernel
theorem dX8_doStep_127 : decode cX8_doStep 127 = .ok (.getfield 70, 3) := by decide +kernel
theorem dX8_doStep_130 : decode cX8_doStep 130 = .ok (.iload 4, 2) := by decide +kernel
theorem dX8_doStep_132 : decode cX8_doStep 132 = .ok (.iaload, 1) := by decide +kernel
theorem dX8_doStep_133 : decode cX8_doStep 133 = .ok (.invokestatic 178, 3) := by decide +kernel
theorem dX8_doStep_136 : decode cX8_doStep 136 = .ok (.iastore, 1) := by decide +kernel
theorem dX8_doStep_137 : decode cX8_doStep 137 = .ok (.goto 97, 3) := by decide +kernel
theorem dX8_doStep_140 : decode cX8_doStep 140 = .ok (.aload_n 0, 1) := by decide +kernel
theorem dX8_doStep_141 : decode cX8_doStep 141 = .ok (.getfield 70, 3) := by decide +kernel
theorem dX8_doStep_144 : decode cX8_doStep 144 = .ok (.iload_n 2, 1) := by decide +kernel
theorem dX8_doStep_145 : decode cX8_doStep 145 = .ok (.aload_n 0, 1) := by decide +kernel
theorem dX8_doStep_146 : decode cX8_doStep 146 = .ok (.getfield 61, 3) := by decide +kernel
theorem dX8_doStep_149 : decode cX8_doStep 149 = .ok (.aload_n 0, 1) := by decide +kernel
theorem dX8_doStep_150 : decode cX8_doStep 150 = .ok (.getfield 70, 3) := by decide +kernel
theorem dX8_doStep_153 : decode cX8_doStep 153 = .ok (.iload_n 3, 1) := by decide +kernel
theorem dX8_doStep_154 : decode cX8_doStep 154 = .ok (.iaload, 1) := by decide +kernel
theorem dX8_doStep_155 : decode cX8_doStep 155 = .ok (.iload 4, 2) := by decide +kernel
theorem dX8_doStep_157 : decode cX8_doStep 157 = .ok (.iadd, 1) := by decide +kernel
theorem dX8_doStep_158 : decode cX8_doStep 158 = .ok (.bipush 63, 2) := by decide +kernel
theorem dX8_doStep_160 : decode cX8_doStep 160 = .ok (.iand, 1) := by decide +kernel
theorem dX8_doStep_161 : decode cX8_doStep 161 = .ok (.iaload, 1) := by decide +kernel
theorem dX8_doStep_162 : decode cX8_doStep 162 = .ok (.iastore, 1) := by decide +kernel
theorem dX8_doStep_163 : decode cX8_doStep 163 = .ok (.goto 71, 3) := by decide +kernel
theorem dX8_doStep_166 : decode cX8_doStep 166 = .ok (.aload_n 0, 1) := by decide +kernel
theorem dX8_doStep_167 : decode cX8_doStep 167 = .ok (.getfield 61, 3) := by decide +kernel
theorem dX8_doStep_170 : decode cX8_doStep 170 = .ok (.aload_n 0, 1) := by decide +kernel
theorem dX8_doStep_171 : decode cX8_doStep 171 = .ok (.getfield 70, 3) := by decide +kernel
theorem dX8_doStep_174 : decode cX8_doStep 174 = .ok (.iload_n 3, 1) := by decide +kernel
theorem dX8_doStep_175 : decode cX8_doStep 175 = .ok (.iaload, 1) := by decide +kernel
theorem dX8_doStep_176 : decode cX8_doStep 176 = .ok (.iload 4, 2) := by decide +kernel
theorem dX8_doStep_178 : decode cX8_doStep 178 = .ok (.iadd, 1) := by decide +kernel
theorem dX8_doStep_179 : decode cX8_doStep 179 = .ok (.bipush 63, 2) := by decide +kernel
theorem dX8_doStep_181 : decode cX8_doStep 181 = .ok (.iand, 1) := by decide +kernel
theorem dX8_doStep_182 : decode cX8_doStep 182 = .ok (.aload_n 0, 1) := by decide +kernel
theorem dX8_doStep_183 : decode cX8_doStep 183 = .ok (.getfield 70, 3) := by decide +kernel
theorem dX8_doStep_186 : decode cX8_doStep 186 = .ok (.iload_n 2, 1) := by decide +kernel
theorem dX8_doStep_187 : decode cX8_doStep 187 = .ok (.iaload, 1) := by decide +kernel
theorem dX8_doStep_188 : decode cX8_doStep 188 = .ok (.iastore, 1) := by decide +kernel
theorem dX8_doStep_189 : decode cX8_doStep 189 = .ok (.goto 45, 3) := by decide +kernel
theorem dX8_doStep_192 : decode cX8_doStep 192 = .ok (.aload_n 0, 1) := by decide +kernel
theorem dX8_doStep_193 : decode cX8_doStep 193 = .ok (.getfield 70, 3) := by decide +kernel
theorem dX8_doStep_196 : decode cX8_doStep 196 = .ok (.iload_n 2, 1) := by decide +kernel
theorem dX8_doStep_197 : decode cX8_doStep 197 = .ok (.iaload, 1) := by decide +kernel
theorem dX8_doStep_198 : decode cX8_doStep 198 = .ok (.aload_n 0, 1) := by decide +kernel
theorem dX8_doStep_199 : decode cX8_doStep 199 = .ok (.getfield 70, 3) := by decide +kernel
theorem dX8_doStep_202 : decode cX8_doStep 202 = .ok (.iload_n 3, 1) := by decide +kernel
theorem dX8_doStep_203 : decode cX8_doStep 203 = .ok (.iaload, 1) := by decide +kernel
theorem dX8_doStep_204 : decode cX8_doStep 204 = .ok (.if_icmp .ge 8, 3) := by decide +kernel
theorem dX8_doStep_207 : decode cX8_doStep 207 = .ok (.iload 4, 2) := by decide +kernel
theorem dX8_doStep_209 : decode cX8_doStep 209 = .ok (.goto 6, 3) := by decide +kernel
theorem dX8_doStep_212 : decode cX8_doStep 212 = .ok (.iload_n 1, 1) := by decide +kernel
theorem dX8_doStep_213 : decode cX8_doStep 213 = .ok (.iconst 1, 1) := by decide +kernel
theorem dX8_doStep_214 : decode cX8_doStep 214 = .ok (.iadd, 1) := by decide +kernel
theorem dX8_doStep_215 : decode cX8_doStep 215 = .ok (.ireturn, 1) := by decide +kernel
theorem dX8_doStep_216 : decode cX8_doStep 216 = .ok (.iload_n 2, 1) := by decide +kernel
theorem dX8_doStep_217 : decode cX8_doStep 217 = .ok (.ireturn, 1) := by decide +kernel
theorem dX8_doStep_218 : decode cX8_doStep 218 = .ok (.aload_n 0, 1) := by decide +kernel
theorem dX8_doStep_219 : decode cX8_doStep 219 = .ok (.aload_n 0, 1) := by decide +kernel
theorem dX8_doStep_220 : decode cX8_doStep 220 = .ok (.getfield 70, 3) := by decide +kernel
theorem dX8_doStep_223 : decode cX8_doStep 223 = .ok (.iload_n 2, 1) := by decide +kernel
theorem dX8_doStep_224 : decode cX8_doStep 224 = .ok (.iaload, 1) := by decide +kernel
theorem dX8_doStep_225 : decode cX8_doStep 225 = .ok (.invokevirtual 182, 3) := by decide +kernel
theorem dX8_doStep_228 : decode cX8_doStep 228 = .ok (.goto 6, 3) := by decide +kernel
theorem dX8_doStep_231 : decode cX8_doStep 231 = .ok (.bipush 60, 2) := by decide +kernel
theorem dX8_doStep_233 : decode cX8_doStep 233 = .ok (.ireturn, 1) := by decide +kernel
theorem dX8_doStep_234 : decode cX8_doStep 234 = .ok (.iload_n 1, 1) := by decide +kernel
theorem dX8_doStep_235 : decode cX8_doStep 235 = .ok (.iconst 1, 1) := by decide +kernel
theorem dX8_doStep_236 : decode cX8_doStep 236 = .ok (.iadd, 1) := by decide +kernel
theorem dX8_doStep_237 : decode cX8_doStep 237 = .ok (.ireturn, 1) := by decide +kernel
theorem dX8_doItem_0 : decode cX8_doItem 0 = .ok (.iload_n 1, 1) := by decide +kernel
theorem dX8_doItem_1 : decode cX8_doItem 1 = .ok (.iconst 4, 1) := by decide +kernel
theorem dX8_doItem_2 : decode cX8_doItem 2 = .ok (.iload_n 2, 1) := by decide +kernel
theorem dX8_doItem_3 : decode cX8_doItem 3 = .ok (.imul, 1) := by decide +kernel
theorem dX8_doItem_4 : decode cX8_doItem 4 = .ok (.iadd, 1) := by decide +kernel
theorem dX8_doItem_5 : decode cX8_doItem 5 = .ok (.istore_n 3, 1) := by decide +kernel
theorem dX8_doItem_6 : decode cX8_doItem 6 = .ok (.aload_n 0, 1) := by decide +kernel
theorem dX8_doItem_7 : decode cX8_doItem 7 = .ok (.getfield 49, 3) := by decide +kernel
theorem dX8_doItem_10 : decode cX8_doItem 10 = .ok (.iload_n 3, 1) := by decide +kernel
theorem dX8_doItem_11 : decode cX8_doItem 11 = .ok (.iconst 1, 1) := by decide +kernel
theorem dX8_doItem_12 : decode cX8_doItem 12 = .ok (.iadd, 1) := by decide +kernel
theorem dX8_doItem_13 : decode cX8_doItem 13 = .ok (.iaload, 1) := by decide +kernel
theorem dX8_doItem_14 : decode cX8_doItem 14 = .ok (.istore 4, 2) := by decide +kernel
theorem dX8_doItem_16 : decode cX8_doItem 16 = .ok (.aload_n 0, 1) := by decide +kernel
theorem dX8_doItem_17 : decode cX8_doItem 17 = .ok (.getfield 49, 3) := by decide +kernel
theorem dX8_doItem_20 : decode cX8_doItem 20 = .ok (.iload_n 3, 1) := by decide +kernel
theorem dX8_doItem_21 : decode cX8_doItem 21 = .ok (.iconst 2, 1) := by decide +kernel
theorem dX8_doItem_22 : decode cX8_doItem 22 = .ok (.iadd, 1) := by decide +kernel
theorem dX8_doItem_23 : decode cX8_doItem 23 = .ok (.iaload, 1) := by decide +kernel
theorem dX8_doItem_24 : decode cX8_doItem 24 = .ok (.istore 5, 2) := by decide +kernel
theorem dX8_doItem_26 : decode cX8_doItem 26 = .ok (.aload_n 0, 1) := by decide +kernel
theorem dX8_doItem_27 : decode cX8_doItem 27 = .ok (.getfield 49, 3) := by decide +kernel
theorem dX8_doItem_30 : decode cX8_doItem 30 = .ok (.iload_n 3, 1) := by decide +kernel
theorem dX8_doItem_31 : decode cX8_doItem 31 = .ok (.iconst 3, 1) := by decide +kernel
theorem dX8_doItem_32 : decode cX8_doItem 32 = .ok (.iadd, 1) := by decide +kernel
theorem dX8_doItem_33 : decode cX8_doItem 33 = .ok (.iaload, 1) := by decide +kernel
theorem dX8_doItem_34 : decode cX8_doItem 34 = .ok (.istore 6, 2) := by decide +kernel
theorem dX8_doItem_36 : decode cX8_doItem 36 = .ok (.aload_n 0, 1) := by decide +kernel
theorem dX8_doItem_37 : decode cX8_doItem 37 = .ok (.getfield 49, 3) := by decide +kernel
theorem dX8_doItem_40 : decode cX8_doItem 40 = .ok (.iload_n 3, 1) := by decide +kernel
theorem dX8_doItem_41 : decode cX8_doItem 41 = .ok (.iaload, 1) := by decide +kernel
theorem dX8_doItem_42 : decode cX8_doItem 42 = .ok (.tableswitch 279 0 12 #[66, 78, 95, 95, 95, 128, 156, 184, 210, 213, 279, 227, 253], 66) := by decide +kernel
theorem dX8_doItem_108 : decode cX8_doItem 108 = .ok (.aload_n 0, 1) := by decide +kernel
theorem dX8_doItem_109 : decode cX8_doItem 109 = .ok (.getfield 64, 3) := by decide +kernel
theorem dX8_doItem_112 : decode cX8_doItem 112 = .ok (.iload 4, 2) := by decide +kernel
theorem dX8_doItem_114 : decode cX8_doItem 114 = .ok (.iload 5, 2) := by decide +kernel
theorem dX8_doItem_116 : decode cX8_doItem 116 = .ok (.iastore, 1) := by decide +kernel
theorem dX8_doItem_117 : decode cX8_doItem 117 = .ok (.goto 208, 3) := by decide +kernel
theorem dX8_doItem_120 : decode cX8_doItem 120 = .ok (.aload_n 0, 1) := by decide +kernel
theorem dX8_doItem_121 : decode cX8_doItem 121 = .ok (.getfield 64, 3) := by decide +kernel
theorem dX8_doItem_124 : decode cX8_doItem 124 = .ok (.iload 4, 2) := by decide +kernel
theorem dX8_doItem_126 : decode cX8_doItem 126 = .ok (.aload_n 0, 1) := by decide +kernel
theorem dX8_doItem_127 : decode cX8_doItem 127 = .ok (.getfield 64, 3) := by decide +kernel
theorem dX8_doItem_130 : decode cX8_doItem 130 = .ok (.iload 5, 2) := by decide +kernel
theorem dX8_doItem_132 : decode cX8_doItem 132 = .ok (.iaload, 1) := by decide +kernel
theorem dX8_doItem_133 : decode cX8_doItem 133 = .ok (.iastore, 1) := by decide +kernel
theorem dX8_doItem_134 : decode cX8_doItem 134 = .ok (.goto 191, 3) := by decide +kernel
theorem dX8_doItem_137 : decode cX8_doItem 137 = .ok (.aload_n 0, 1) := by decide +kernel
theorem dX8_doItem_138 : decode cX8_doItem 138 = .ok (.getfield 64, 3) := by decide +kernel
theorem dX8_doItem_141 : decode cX8_doItem 141 = .ok (.iload 4, 2) := by decide +kernel
theorem dX8_doItem_143 : decode cX8_doItem 143 = .ok (.aload_n 0, 1) := by decide +kernel
theorem dX8_doItem_144 : decode cX8_doItem 144 = .ok (.getfield 49, 3) := by decide +kernel
theorem dX8_doItem_147 : decode cX8_doItem 147 = .ok (.iload_n 3, 1) := by decide +kernel
theorem dX8_doItem_148 : decode cX8_doItem 148 = .ok (.iaload, 1) := by decide +kernel
theorem dX8_doItem_149 : decode cX8_doItem 149 = .ok (.aload_n 0, 1) := by decide +kernel
theorem dX8_doItem_150 : decode cX8_doItem 150 = .ok (.getfield 64, 3) := by decide +kernel
theorem dX8_doItem_153 : decode cX8_doItem 153 = .ok (.iload 5, 2) := by decide +kernel
theorem dX8_doItem_155 : decode cX8_doItem 155 = .ok (.iaload, 1) := by decide +kernel
theorem dX8_doItem_156 : decode cX8_doItem 156 = .ok (.aload_n 0, 1) := by decide +kernel
theorem dX8_doItem_157 : decode cX8_doItem 157 = .ok (.getfield 64, 3) := by decide +kernel
theorem dX8_doItem_160 : decode cX8_doItem 160 = .ok (.iload 6, 2) := by decide +kernel
theorem dX8_doItem_162 : decode cX8_doItem 162 = .ok (.iaload, 1) := by decide +kernel
theorem dX8_doItem_163 : decode cX8_doItem 163 = .ok (.invokestatic 178, 3) := by decide +kernel
theorem dX8_doItem_166 : decode cX8_doItem 166 = .ok (.iastore, 1) := by decide +kernel
theorem dX8_doItem_167 : decode cX8_doItem 167 = .ok (.goto 158, 3) := by decide +kernel
theorem dX8_doItem_170 : decode cX8_doItem 170 = .ok (.aload_n 0, 1) := by decide +kernel
theorem dX8_doItem_171 : decode cX8_doItem 171 = .ok (.getfield 64, 3) := by decide +kernel
theorem dX8_doItem_174 : decode cX8_doItem 174 = .ok (.iload 4, 2) := by decide +kernel
theorem dX8_doItem_176 : decode cX8_doItem 176 = .ok (.aload_n 0, 1) := by decide +kernel
theorem dX8_doItem_177 : decode cX8_doItem 177 = .ok (.getfield 61, 3) := by decide +kernel
theorem dX8_doItem_180 : decode cX8_doItem 180 = .ok (.aload_n 0, 1) := by decide +kernel
theorem dX8_doItem_181 : decode cX8_doItem 181 = .ok (.getfield 64, 3) := by decide +kernel
theorem dX8_doItem_184 : decode cX8_doItem 184 = .ok (.iload 5, 2) := by decide +kernel
theorem dX8_doItem_186 : decode cX8_doItem 186 = .ok (.iaload, 1) := by decide +kernel
theorem dX8_doItem_187 : decode cX8_doItem 187 = .ok (.iload 6, 2) := by decide +kernel
theorem dX8_doItem_189 : decode cX8_doItem 189 = .ok (.iadd, 1) := by decide +kernel
theorem dX8_doItem_190 : decode cX8_doItem 190 = .ok (.bipush 63, 2) := by decide +kernel
theorem dX8_doItem_192 : decode cX8_doItem 192 = .ok (.iand, 1) := by decide +kernel
theorem dX8_doItem_193 : decode cX8_doItem 193 = .ok (.iaload, 1) := by decide +kernel
theorem dX8_doItem_194 : decode cX8_doItem 194 = .ok (.iastore, 1) := by decide +kernel
theorem dX8_doItem_195 : decode cX8_doItem 195 = .ok (.goto 130, 3) := by decide +kernel
theorem dX8_doItem_198 : decode cX8_doItem 198 = .ok (.aload_n 0, 1) := by decide +kernel
theorem dX8_doItem_199 : decode cX8_doItem 199 = .ok (.getfield 61, 3) := by decide +kernel
theorem dX8_doItem_202 : decode cX8_doItem 202 = .ok (.aload_n 0, 1) := by decide +kernel
theorem dX8_doItem_203 : decode cX8_doItem 203 = .ok (.getfield 64, 3) := by decide +kernel
theorem dX8_doItem_206 : decode cX8_doItem 206 = .ok (.iload 5, 2) := by decide +kernel
theorem dX8_doItem_208 : decode cX8_doItem 208 = .ok (.iaload, 1) := by decide +kernel
theorem dX8_doItem_209 : decode cX8_doItem 209 = .ok (.iload 6, 2) := by decide +kernel
theorem dX8_doItem_211 : decode cX8_doItem 211 = .ok (.iadd, 1) := by decide +kernel
theorem dX8_doItem_212 : decode cX8_doItem 212 = .ok (.bipush 63, 2) := by decide +kernel
theorem dX8_doItem_214 : decode cX8_doItem 214 = .ok (.iand, 1) := by decide +kernel
theorem dX8_doItem_215 : decode cX8_doItem 215 = .ok (.aload_n 0, 1) := by decide +kernel
theorem dX8_doItem_216 : decode cX8_doItem 216 = .ok (.getfield 64, 3) := by decide +kernel
theorem dX8_doItem_219 : decode cX8_doItem 219 = .ok (.iload 4, 2) := by decide +kernel
theorem dX8_doItem_221 : decode cX8_doItem 221 = .ok (.iaload, 1) := by decide +kernel
theorem dX8_doItem_222 : decode cX8_doItem 222 = .ok (.iastore, 1) := by decide +kernel
theorem dX8_doItem_223 : decode cX8_doItem 223 = .ok (.goto 102, 3) := by decide +kernel
theorem dX8_doItem_226 : decode cX8_doItem 226 = .ok (.aload_n 0, 1) := by decide +kernel
theorem dX8_doItem_227 : decode cX8_doItem 227 = .ok (.getfield 64, 3) := by decide +kernel
theorem dX8_doItem_230 : decode cX8_doItem 230 = .ok (.iload 4, 2) := by decide +kernel
theorem dX8_doItem_232 : decode cX8_doItem 232 = .ok (.iaload, 1) := by decide +kernel
theorem dX8_doItem_233 : decode cX8_doItem 233 = .ok (.aload_n 0, 1) := by decide +kernel
theorem dX8_doItem_234 : decode cX8_doItem 234 = .ok (.getfield 64, 3) := by decide +kernel
theorem dX8_doItem_237 : decode cX8_doItem 237 = .ok (.iload 5, 2) := by decide +kernel
theorem dX8_doItem_239 : decode cX8_doItem 239 = .ok (.iaload, 1) := by decide +kernel
theorem dX8_doItem_240 : decode cX8_doItem 240 = .ok (.if_icmp .ge 8, 3) := by decide +kernel
theorem dX8_doItem_243 : decode cX8_doItem 243 = .ok (.iload 6, 2) := by decide +kernel
theorem dX8_doItem_245 : decode cX8_doItem 245 = .ok (.goto 6, 3) := by decide +kernel
theorem dX8_doItem_248 : decode cX8_doItem 248 = .ok (.iload_n 2, 1) := by decide +kernel
theorem dX8_doItem_249 : decode cX8_doItem 249 = .ok (.iconst 1, 1) := by decide +kernel
theorem dX8_doItem_250 : decode cX8_doItem 250 = .ok (.iadd, 1) := by decide +kernel
theorem dX8_doItem_251 : decode cX8_doItem 251 = .ok (.ireturn, 1) := by decide +kernel
theorem dX8_doItem_252 : decode cX8_doItem 252 = .ok (.iload 4, 2) := by decide +kernel
theorem dX8_doItem_254 : decode cX8_doItem 254 = .ok (.ireturn, 1) := by decide +kernel
theorem dX8_doItem_255 : decode cX8_doItem 255 = .ok (.aload_n 0, 1) := by decide +kernel
theorem dX8_doItem_256 : decode cX8_doItem 256 = .ok (.aload_n 0, 1) := by decide +kernel
theorem dX8_doItem_257 : decode cX8_doItem 257 = .ok (.getfield 64, 3) := by decide +kernel
theorem dX8_doItem_260 : decode cX8_doItem 260 = .ok (.iload 4, 2) := by decide +kernel
theorem dX8_doItem_262 : decode cX8_doItem 262 = .ok (.iaload, 1) := by decide +kernel
theorem dX8_doItem_263 : decode cX8_doItem 263 = .ok (.invokevirtual 182, 3) := by decide +kernel
theorem dX8_doItem_266 : decode cX8_doItem 266 = .ok (.goto 59, 3) := by decide +kernel
theorem dX8_doItem_269 : decode cX8_doItem 269 = .ok (.aload_n 0, 1) := by decide +kernel
theorem dX8_doItem_270 : decode cX8_doItem 270 = .ok (.getfield 64, 3) := by decide +kernel
theorem dX8_doItem_273 : decode cX8_doItem 273 = .ok (.iload 4, 2) := by decide +kernel
theorem dX8_doItem_275 : decode cX8_doItem 275 = .ok (.aload_n 0, 1) := by decide +kernel
theorem dX8_doItem_276 : decode cX8_doItem 276 = .ok (.getfield 67, 3) := by decide +kernel
theorem dX8_doItem_279 : decode cX8_doItem 279 = .ok (.bipush 32, 2) := by decide +kernel
theorem dX8_doItem_281 : decode cX8_doItem 281 = .ok (.iload 4, 2) := by decide +kernel
theorem dX8_doItem_283 : decode cX8_doItem 283 = .ok (.bipush 16, 2) := by decide +kernel
theorem dX8_doItem_285 : decode cX8_doItem 285 = .ok (.idiv, 1) := by decide +kernel
theorem dX8_doItem_286 : decode cX8_doItem 286 = .ok (.imul, 1) := by decide +kernel
theorem dX8_doItem_287 : decode cX8_doItem 287 = .ok (.iload 5, 2) := by decide +kernel
theorem dX8_doItem_289 : decode cX8_doItem 289 = .ok (.iadd, 1) := by decide +kernel
theorem dX8_doItem_290 : decode cX8_doItem 290 = .ok (.iaload, 1) := by decide +kernel
theorem dX8_doItem_291 : decode cX8_doItem 291 = .ok (.iastore, 1) := by decide +kernel
theorem dX8_doItem_292 : decode cX8_doItem 292 = .ok (.goto 33, 3) := by decide +kernel
theorem dX8_doItem_295 : decode cX8_doItem 295 = .ok (.aload_n 0, 1) := by decide +kernel
theorem dX8_doItem_296 : decode cX8_doItem 296 = .ok (.getfield 67, 3) := by decide +kernel
theorem dX8_doItem_299 : decode cX8_doItem 299 = .ok (.bipush 32, 2) := by decide +kernel
theorem dX8_doItem_301 : decode cX8_doItem 301 = .ok (.iload 4, 2) := by decide +kernel
theorem dX8_doItem_303 : decode cX8_doItem 303 = .ok (.bipush 16, 2) := by decide +kernel
theorem dX8_doItem_305 : decode cX8_doItem 305 = .ok (.idiv, 1) := by decide +kernel
theorem dX8_doItem_306 : decode cX8_doItem 306 = .ok (.imul, 1) := by decide +kernel
theorem dX8_doItem_307 : decode cX8_doItem 307 = .ok (.iload 5, 2) := by decide +kernel
theorem dX8_doItem_309 : decode cX8_doItem 309 = .ok (.iadd, 1) := by decide +kernel
theorem dX8_doItem_310 : decode cX8_doItem 310 = .ok (.aload_n 0, 1) := by decide +kernel
theorem dX8_doItem_311 : decode cX8_doItem 311 = .ok (.getfield 64, 3) := by decide +kernel
theorem dX8_doItem_314 : decode cX8_doItem 314 = .ok (.iload 4, 2) := by decide +kernel
theorem dX8_doItem_316 : decode cX8_doItem 316 = .ok (.iaload, 1) := by decide +kernel
theorem dX8_doItem_317 : decode cX8_doItem 317 = .ok (.iastore, 1) := by decide +kernel
theorem dX8_doItem_318 : decode cX8_doItem 318 = .ok (.goto 7, 3) := by decide +kernel
theorem dX8_doItem_321 : decode cX8_doItem 321 = .ok (.sipush 400, 3) := by decide +kernel
theorem dX8_doItem_324 : decode cX8_doItem 324 = .ok (.ireturn, 1) := by decide +kernel
theorem dX8_doItem_325 : decode cX8_doItem 325 = .ok (.iload_n 2, 1) := by decide +kernel
theorem dX8_doItem_326 : decode cX8_doItem 326 = .ok (.iconst 1, 1) := by decide +kernel
theorem dX8_doItem_327 : decode cX8_doItem 327 = .ok (.iadd, 1) := by decide +kernel
theorem dX8_doItem_328 : decode cX8_doItem 328 = .ok (.ireturn, 1) := by decide +kernel
theorem dX8_run_0 : decode cX8_run 0 = .ok (.iload_n 1, 1) := by decide +kernel
theorem dX8_run_1 : decode cX8_run 1 = .ok (.ifCond .lt 19, 3) := by decide +kernel
theorem dX8_run_4 : decode cX8_run 4 = .ok (.iload_n 1, 1) := by decide +kernel
theorem dX8_run_5 : decode cX8_run 5 = .ok (.iconst 2, 1) := by decide +kernel
theorem dX8_run_6 : decode cX8_run 6 = .ok (.if_icmp .gt 14, 3) := by decide +kernel
theorem dX8_run_9 : decode cX8_run 9 = .ok (.iload_n 2, 1) := by decide +kernel
theorem dX8_run_10 : decode cX8_run 10 = .ok (.ifCond .lt 10, 3) := by decide +kernel
theorem dX8_run_13 : decode cX8_run 13 = .ok (.iload_n 2, 1) := by decide +kernel
theorem dX8_run_14 : decode cX8_run 14 = .ok (.sipush 2000, 3) := by decide +kernel
theorem dX8_run_17 : decode cX8_run 17 = .ok (.if_icmp .le 5, 3) := by decide +kernel
theorem dX8_run_20 : decode cX8_run 20 = .ok (.iconst (-1), 1) := by decide +kernel
theorem dX8_run_21 : decode cX8_run 21 = .ok (.ireturn, 1) := by decide +kernel
theorem dX8_run_22 : decode cX8_run 22 = .ok (.aload_n 0, 1) := by decide +kernel
theorem dX8_run_23 : decode cX8_run 23 = .ok (.invokevirtual 166, 3) := by decide +kernel
theorem dX8_run_26 : decode cX8_run 26 = .ok (.aload_n 0, 1) := by decide +kernel
theorem dX8_run_27 : decode cX8_run 27 = .ok (.invokevirtual 185, 3) := by decide +kernel
theorem dX8_run_30 : decode cX8_run 30 = .ok (.iload_n 1, 1) := by decide +kernel
theorem dX8_run_31 : decode cX8_run 31 = .ok (.ifCond .ne 10, 3) := by decide +kernel
theorem dX8_run_34 : decode cX8_run 34 = .ok (.aload_n 0, 1) := by decide +kernel
theorem dX8_run_35 : decode cX8_run 35 = .ok (.getfield 95, 3) := by decide +kernel
theorem dX8_run_38 : decode cX8_run 38 = .ok (.goto 11, 3) := by decide +kernel
theorem dX8_run_41 : decode cX8_run 41 = .ok (.aload_n 0, 1) := by decide +kernel
theorem dX8_run_42 : decode cX8_run 42 = .ok (.getfield 52, 3) := by decide +kernel
theorem dX8_run_45 : decode cX8_run 45 = .ok (.iload_n 1, 1) := by decide +kernel
theorem dX8_run_46 : decode cX8_run 46 = .ok (.iconst 1, 1) := by decide +kernel
theorem dX8_run_47 : decode cX8_run 47 = .ok (.isub, 1) := by decide +kernel
theorem dX8_run_48 : decode cX8_run 48 = .ok (.iaload, 1) := by decide +kernel
theorem dX8_run_49 : decode cX8_run 49 = .ok (.istore_n 3, 1) := by decide +kernel
theorem dX8_run_50 : decode cX8_run 50 = .ok (.iconst 0, 1) := by decide +kernel
theorem dX8_run_51 : decode cX8_run 51 = .ok (.istore 4, 2) := by decide +kernel
theorem dX8_run_53 : decode cX8_run 53 = .ok (.iload 4, 2) := by decide +kernel
theorem dX8_run_55 : decode cX8_run 55 = .ok (.iload_n 3, 1) := by decide +kernel
theorem dX8_run_56 : decode cX8_run 56 = .ok (.if_icmp .ge 52, 3) := by decide +kernel
theorem dX8_run_59 : decode cX8_run 59 = .ok (.aload_n 0, 1) := by decide +kernel
theorem dX8_run_60 : decode cX8_run 60 = .ok (.getfield 172, 3) := by decide +kernel
theorem dX8_run_63 : decode cX8_run 63 = .ok (.iload_n 2, 1) := by decide +kernel
theorem dX8_run_64 : decode cX8_run 64 = .ok (.if_icmp .ge 44, 3) := by decide +kernel
theorem dX8_run_67 : decode cX8_run 67 = .ok (.iload_n 1, 1) := by decide +kernel
theorem dX8_run_68 : decode cX8_run 68 = .ok (.ifCond .ne 12, 3) := by decide +kernel
theorem dX8_run_71 : decode cX8_run 71 = .ok (.aload_n 0, 1) := by decide +kernel
theorem dX8_run_72 : decode cX8_run 72 = .ok (.iload 4, 2) := by decide +kernel
theorem dX8_run_74 : decode cX8_run 74 = .ok (.invokevirtual 188, 3) := by decide +kernel
theorem dX8_run_77 : decode cX8_run 77 = .ok (.goto 16, 3) := by decide +kernel
theorem dX8_run_80 : decode cX8_run 80 = .ok (.aload_n 0, 1) := by decide +kernel
theorem dX8_run_81 : decode cX8_run 81 = .ok (.sipush 1600, 3) := by decide +kernel
theorem dX8_run_84 : decode cX8_run 84 = .ok (.iload_n 1, 1) := by decide +kernel
theorem dX8_run_85 : decode cX8_run 85 = .ok (.iconst 1, 1) := by decide +kernel
theorem dX8_run_86 : decode cX8_run 86 = .ok (.isub, 1) := by decide +kernel
theorem dX8_run_87 : decode cX8_run 87 = .ok (.imul, 1) := by decide +kernel
theorem dX8_run_88 : decode cX8_run 88 = .ok (.iload 4, 2) := by decide +kernel
theorem dX8_run_90 : decode cX8_run 90 = .ok (.invokevirtual 191, 3) := by decide +kernel
theorem dX8_run_93 : decode cX8_run 93 = .ok (.istore 4, 2) := by decide +kernel
theorem dX8_run_95 : decode cX8_run 95 = .ok (.aload_n 0, 1) := by decide +kernel
theorem dX8_run_96 : decode cX8_run 96 = .ok (.dup, 1) := by decide +kernel
theorem dX8_run_97 : decode cX8_run 97 = .ok (.getfield 172, 3) := by decide +kernel
theorem dX8_run_100 : decode cX8_run 100 = .ok (.iconst 1, 1) := by decide +kernel
theorem dX8_run_101 : decode cX8_run 101 = .ok (.iadd, 1) := by decide +kernel
theorem dX8_run_102 : decode cX8_run 102 = .ok (.putfield 172, 3) := by decide +kernel
theorem dX8_run_105 : decode cX8_run 105 = .ok (.goto (-52), 3) := by decide +kernel
theorem dX8_run_108 : decode cX8_run 108 = .ok (.iload 4, 2) := by decide +kernel
theorem dX8_run_110 : decode cX8_run 110 = .ok (.iload_n 3, 1) := by decide +kernel
theorem dX8_run_111 : decode cX8_run 111 = .ok (.if_icmp .ge 7, 3) := by decide +kernel
theorem dX8_run_114 : decode cX8_run 114 = .ok (.iconst 1, 1) := by decide +kernel
theorem dX8_run_115 : decode cX8_run 115 = .ok (.goto 4, 3) := by decide +kernel
theorem dX8_run_118 : decode cX8_run 118 = .ok (.iconst 0, 1) := by decide +kernel
theorem dX8_run_119 : decode cX8_run 119 = .ok (.ireturn, 1) := by decide +kernel
theorem dX8_made_0 : decode cX8_made 0 = .ok (.iload_n 1, 1) := by decide +kernel
theorem dX8_made_1 : decode cX8_made 1 = .ok (.ifCond .ne 10, 3) := by decide +kernel
theorem dX8_made_4 : decode cX8_made 4 = .ok (.aload_n 0, 1) := by decide +kernel
theorem dX8_made_5 : decode cX8_made 5 = .ok (.getfield 172, 3) := by decide +kernel
theorem dX8_made_8 : decode cX8_made 8 = .ok (.goto 16, 3) := by decide +kernel
theorem dX8_made_11 : decode cX8_made 11 = .ok (.iload_n 1, 1) := by decide +kernel
theorem dX8_made_12 : decode cX8_made 12 = .ok (.iconst 1, 1) := by decide +kernel
theorem dX8_made_13 : decode cX8_made 13 = .ok (.if_icmp .ne 10, 3) := by decide +kernel
theorem dX8_made_16 : decode cX8_made 16 = .ok (.aload_n 0, 1) := by decide +kernel
theorem dX8_made_17 : decode cX8_made 17 = .ok (.getfield 175, 3) := by decide +kernel
theorem dX8_made_20 : decode cX8_made 20 = .ok (.goto 4, 3) := by decide +kernel
theorem dX8_made_23 : decode cX8_made 23 = .ok (.iconst (-1), 1) := by decide +kernel
theorem dX8_made_24 : decode cX8_made 24 = .ok (.ireturn, 1) := by decide +kernel
theorem dX8_said_0 : decode cX8_said 0 = .ok (.iload_n 1, 1) := by decide +kernel
theorem dX8_said_1 : decode cX8_said 1 = .ok (.ifCond .lt 17, 3) := by decide +kernel
theorem dX8_said_4 : decode cX8_said 4 = .ok (.iload_n 1, 1) := by decide +kernel
theorem dX8_said_5 : decode cX8_said 5 = .ok (.aload_n 0, 1) := by decide +kernel
theorem dX8_said_6 : decode cX8_said 6 = .ok (.getfield 175, 3) := by decide +kernel
theorem dX8_said_9 : decode cX8_said 9 = .ok (.if_icmp .ge 9, 3) := by decide +kernel
theorem dX8_said_12 : decode cX8_said 12 = .ok (.iload_n 1, 1) := by decide +kernel
theorem dX8_said_13 : decode cX8_said 13 = .ok (.bipush 50, 2) := by decide +kernel
theorem dX8_said_15 : decode cX8_said 15 = .ok (.if_icmp .lt 7, 3) := by decide +kernel
theorem dX8_said_18 : decode cX8_said 18 = .ok (.iconst 0, 1) := by decide +kernel
theorem dX8_said_19 : decode cX8_said 19 = .ok (.goto 9, 3) := by decide +kernel
theorem dX8_said_22 : decode cX8_said 22 = .ok (.aload_n 0, 1) := by decide +kernel
theorem dX8_said_23 : decode cX8_said 23 = .ok (.getfield 58, 3) := by decide +kernel
theorem dX8_said_26 : decode cX8_said 26 = .ok (.iload_n 1, 1) := by decide +kernel
theorem dX8_said_27 : decode cX8_said 27 = .ok (.iaload, 1) := by decide +kernel
theorem dX8_said_28 : decode cX8_said 28 = .ok (.ireturn, 1) := by decide +kernel
theorem dX8_cell_0 : decode cX8_cell 0 = .ok (.iload_n 1, 1) := by decide +kernel
theorem dX8_cell_1 : decode cX8_cell 1 = .ok (.ifCond .lt 9, 3) := by decide +kernel
theorem dX8_cell_4 : decode cX8_cell 4 = .ok (.iload_n 1, 1) := by decide +kernel
theorem dX8_cell_5 : decode cX8_cell 5 = .ok (.bipush 64, 2) := by decide +kernel
theorem dX8_cell_7 : decode cX8_cell 7 = .ok (.if_icmp .lt 7, 3) := by decide +kernel
theorem dX8_cell_10 : decode cX8_cell 10 = .ok (.iconst 0, 1) := by decide +kernel
theorem dX8_cell_11 : decode cX8_cell 11 = .ok (.goto 9, 3) := by decide +kernel
theorem dX8_cell_14 : decode cX8_cell 14 = .ok (.aload_n 0, 1) := by decide +kernel
theorem dX8_cell_15 : decode cX8_cell 15 = .ok (.getfield 61, 3) := by decide +kernel
theorem dX8_cell_18 : decode cX8_cell 18 = .ok (.iload_n 1, 1) := by decide +kernel
theorem dX8_cell_19 : decode cX8_cell 19 = .ok (.iaload, 1) := by decide +kernel
theorem dX8_cell_20 : decode cX8_cell 20 = .ok (.ireturn, 1) := by decide +kernel
theorem dX8_check_0 : decode cX8_check 0 = .ok (.iconst 1, 1) := by decide +kernel
theorem dX8_check_1 : decode cX8_check 1 = .ok (.ireturn, 1) := by decide +kernel
theorem dJ6_bitCount_0f7a4_0 : decode cJ6_bitCount_0f7a4 0 = .ok (.iload_n 0, 1) := by decide +kernel
theorem dJ6_bitCount_0f7a4_1 : decode cJ6_bitCount_0f7a4 1 = .ok (.iload_n 0, 1) := by decide +kernel
theorem dJ6_bitCount_0f7a4_2 : decode cJ6_bitCount_0f7a4 2 = .ok (.iconst 1, 1) := by decide +kernel
theorem dJ6_bitCount_0f7a4_3 : decode cJ6_bitCount_0f7a4 3 = .ok (.iushr, 1) := by decide +kernel
theorem dJ6_bitCount_0f7a4_4 : decode cJ6_bitCount_0f7a4 4 = .ok (.ldc_w 265, 3) := by decide +kernel
theorem dJ6_bitCount_0f7a4_7 : decode cJ6_bitCount_0f7a4 7 = .ok (.iand, 1) := by decide +kernel
theorem dJ6_bitCount_0f7a4_8 : decode cJ6_bitCount_0f7a4 8 = .ok (.isub, 1) := by decide +kernel
theorem dJ6_bitCount_0f7a4_9 : decode cJ6_bitCount_0f7a4 9 = .ok (.istore_n 0, 1) := by decide +kernel
theorem dJ6_bitCount_0f7a4_10 : decode cJ6_bitCount_0f7a4 10 = .ok (.iload_n 0, 1) := by decide +kernel
theorem dJ6_bitCount_0f7a4_11 : decode cJ6_bitCount_0f7a4 11 = .ok (.ldc_w 266, 3) := by decide +kernel
theorem dJ6_bitCount_0f7a4_14 : decode cJ6_bitCount_0f7a4 14 = .ok (.iand, 1) := by decide +kernel
theorem dJ6_bitCount_0f7a4_15 : decode cJ6_bitCount_0f7a4 15 = .ok (.iload_n 0, 1) := by decide +kernel
theorem dJ6_bitCount_0f7a4_16 : decode cJ6_bitCount_0f7a4 16 = .ok (.iconst 2, 1) := by decide +kernel
theorem dJ6_bitCount_0f7a4_17 : decode cJ6_bitCount_0f7a4 17 = .ok (.iushr, 1) := by decide +kernel
theorem dJ6_bitCount_0f7a4_18 : decode cJ6_bitCount_0f7a4 18 = .ok (.ldc_w 266, 3) := by decide +kernel
theorem dJ6_bitCount_0f7a4_21 : decode cJ6_bitCount_0f7a4 21 = .ok (.iand, 1) := by decide +kernel
theorem dJ6_bitCount_0f7a4_22 : decode cJ6_bitCount_0f7a4 22 = .ok (.iadd, 1) := by decide +kernel
theorem dJ6_bitCount_0f7a4_23 : decode cJ6_bitCount_0f7a4 23 = .ok (.istore_n 0, 1) := by decide +kernel
theorem dJ6_bitCount_0f7a4_24 : decode cJ6_bitCount_0f7a4 24 = .ok (.iload_n 0, 1) := by decide +kernel
theorem dJ6_bitCount_0f7a4_25 : decode cJ6_bitCount_0f7a4 25 = .ok (.iload_n 0, 1) := by decide +kernel
theorem dJ6_bitCount_0f7a4_26 : decode cJ6_bitCount_0f7a4 26 = .ok (.iconst 4, 1) := by decide +kernel
theorem dJ6_bitCount_0f7a4_27 : decode cJ6_bitCount_0f7a4 27 = .ok (.iushr, 1) := by decide +kernel
theorem dJ6_bitCount_0f7a4_28 : decode cJ6_bitCount_0f7a4 28 = .ok (.iadd, 1) := by decide +kernel
theorem dJ6_bitCount_0f7a4_29 : decode cJ6_bitCount_0f7a4 29 = .ok (.ldc_w 267, 3) := by decide +kernel
theorem dJ6_bitCount_0f7a4_32 : decode cJ6_bitCount_0f7a4 32 = .ok (.iand, 1) := by decide +kernel
theorem dJ6_bitCount_0f7a4_33 : decode cJ6_bitCount_0f7a4 33 = .ok (.istore_n 0, 1) := by decide +kernel
theorem dJ6_bitCount_0f7a4_34 : decode cJ6_bitCount_0f7a4 34 = .ok (.iload_n 0, 1) := by decide +kernel
theorem dJ6_bitCount_0f7a4_35 : decode cJ6_bitCount_0f7a4 35 = .ok (.iload_n 0, 1) := by decide +kernel
theorem dJ6_bitCount_0f7a4_36 : decode cJ6_bitCount_0f7a4 36 = .ok (.bipush 8, 2) := by decide +kernel
theorem dJ6_bitCount_0f7a4_38 : decode cJ6_bitCount_0f7a4 38 = .ok (.iushr, 1) := by decide +kernel
theorem dJ6_bitCount_0f7a4_39 : decode cJ6_bitCount_0f7a4 39 = .ok (.iadd, 1) := by decide +kernel
theorem dJ6_bitCount_0f7a4_40 : decode cJ6_bitCount_0f7a4 40 = .ok (.istore_n 0, 1) := by decide +kernel
theorem dJ6_bitCount_0f7a4_41 : decode cJ6_bitCount_0f7a4 41 = .ok (.iload_n 0, 1) := by decide +kernel
theorem dJ6_bitCount_0f7a4_42 : decode cJ6_bitCount_0f7a4 42 = .ok (.iload_n 0, 1) := by decide +kernel
theorem dJ6_bitCount_0f7a4_43 : decode cJ6_bitCount_0f7a4 43 = .ok (.bipush 16, 2) := by decide +kernel
theorem dJ6_bitCount_0f7a4_45 : decode cJ6_bitCount_0f7a4 45 = .ok (.iushr, 1) := by decide +kernel
theorem dJ6_bitCount_0f7a4_46 : decode cJ6_bitCount_0f7a4 46 = .ok (.iadd, 1) := by decide +kernel
theorem dJ6_bitCount_0f7a4_47 : decode cJ6_bitCount_0f7a4 47 = .ok (.istore_n 0, 1) := by decide +kernel
theorem dJ6_bitCount_0f7a4_48 : decode cJ6_bitCount_0f7a4 48 = .ok (.iload_n 0, 1) := by decide +kernel
theorem dJ6_bitCount_0f7a4_49 : decode cJ6_bitCount_0f7a4 49 = .ok (.bipush 63, 2) := by decide +kernel
theorem dJ6_bitCount_0f7a4_51 : decode cJ6_bitCount_0f7a4 51 = .ok (.iand, 1) := by decide +kernel
theorem dJ6_bitCount_0f7a4_52 : decode cJ6_bitCount_0f7a4 52 = .ok (.ireturn, 1) := by decide +kernel
theorem dJ9_floorMod_7cf53_0 : decode cJ9_floorMod_7cf53 0 = .ok (.iload_n 0, 1) := by decide +kernel
theorem dJ9_floorMod_7cf53_1 : decode cJ9_floorMod_7cf53 1 = .ok (.iload_n 1, 1) := by decide +kernel
theorem dJ9_floorMod_7cf53_2 : decode cJ9_floorMod_7cf53 2 = .ok (.irem, 1) := by decide +kernel
