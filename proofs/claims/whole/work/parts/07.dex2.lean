theorem dX2_init_19 : decode cX2_init 19 = .ok (.aload_n 0, 1) := by decide +kernel
theorem dX2_init_20 : decode cX2_init 20 = .ok (.bipush 24, 2) := by decide +kernel
theorem dX2_init_22 : decode cX2_init 22 = .ok (.newarray .int, 2) := by decide +kernel
theorem dX2_init_24 : decode cX2_init 24 = .ok (.putfield 18, 3) := by decide +kernel
theorem dX2_init_27 : decode cX2_init 27 = .ok (.aload_n 0, 1) := by decide +kernel
theorem dX2_init_28 : decode cX2_init 28 = .ok (.bipush 24, 2) := by decide +kernel
theorem dX2_init_30 : decode cX2_init 30 = .ok (.newarray .int, 2) := by decide +kernel
theorem dX2_init_32 : decode cX2_init 32 = .ok (.putfield 21, 3) := by decide +kernel
theorem dX2_init_35 : decode cX2_init 35 = .ok (.aload_n 0, 1) := by decide +kernel
theorem dX2_init_36 : decode cX2_init 36 = .ok (.bipush 24, 2) := by decide +kernel
theorem dX2_init_38 : decode cX2_init 38 = .ok (.newarray .int, 2) := by decide +kernel
theorem dX2_init_40 : decode cX2_init 40 = .ok (.putfield 24, 3) := by decide +kernel
theorem dX2_init_43 : decode cX2_init 43 = .ok (.return_, 1) := by decide +kernel
theorem dX2_settle_0 : decode cX2_settle 0 = .ok (.aload_n 0, 1) := by decide +kernel
theorem dX2_settle_1 : decode cX2_settle 1 = .ok (.aload_n 1, 1) := by decide +kernel
theorem dX2_settle_2 : decode cX2_settle 2 = .ok (.getfield 27, 3) := by decide +kernel
theorem dX2_settle_5 : decode cX2_settle 5 = .ok (.invokevirtual 33, 3) := by decide +kernel
theorem dX2_settle_8 : decode cX2_settle 8 = .ok (.iconst 0, 1) := by decide +kernel
theorem dX2_settle_9 : decode cX2_settle 9 = .ok (.istore_n 3, 1) := by decide +kernel
theorem dX2_settle_10 : decode cX2_settle 10 = .ok (.iload_n 3, 1) := by decide +kernel
theorem dX2_settle_11 : decode cX2_settle 11 = .ok (.aload_n 1, 1) := by decide +kernel
theorem dX2_settle_12 : decode cX2_settle 12 = .ok (.getfield 37, 3) := by decide +kernel
theorem dX2_settle_15 : decode cX2_settle 15 = .ok (.getfield 41, 3) := by decide +kernel
theorem dX2_settle_18 : decode cX2_settle 18 = .ok (.if_icmp .ge 24, 3) := by decide +kernel
theorem dX2_settle_21 : decode cX2_settle 21 = .ok (.aload_n 0, 1) := by decide +kernel
theorem dX2_settle_22 : decode cX2_settle 22 = .ok (.aload_n 1, 1) := by decide +kernel
theorem dX2_settle_23 : decode cX2_settle 23 = .ok (.getfield 37, 3) := by decide +kernel
theorem dX2_settle_26 : decode cX2_settle 26 = .ok (.iload_n 3, 1) := by decide +kernel
theorem dX2_settle_27 : decode cX2_settle 27 = .ok (.invokevirtual 46, 3) := by decide +kernel
theorem dX2_settle_30 : decode cX2_settle 30 = .ok (.aload_n 0, 1) := by decide +kernel
theorem dX2_settle_31 : decode cX2_settle 31 = .ok (.aload_n 1, 1) := by decide +kernel
theorem dX2_settle_32 : decode cX2_settle 32 = .ok (.iload_n 3, 1) := by decide +kernel
theorem dX2_settle_33 : decode cX2_settle 33 = .ok (.invokevirtual 50, 3) := by decide +kernel
theorem dX2_settle_36 : decode cX2_settle 36 = .ok (.iinc 3 1, 3) := by decide +kernel
theorem dX2_settle_39 : decode cX2_settle 39 = .ok (.goto (-29), 3) := by decide +kernel
theorem dX2_settle_42 : decode cX2_settle 42 = .ok (.aload_n 0, 1) := by decide +kernel
theorem dX2_settle_43 : decode cX2_settle 43 = .ok (.aload_n 1, 1) := by decide +kernel
theorem dX2_settle_44 : decode cX2_settle 44 = .ok (.getfield 27, 3) := by decide +kernel
theorem dX2_settle_47 : decode cX2_settle 47 = .ok (.invokevirtual 54, 3) := by decide +kernel
theorem dX2_settle_50 : decode cX2_settle 50 = .ok (.iconst 0, 1) := by decide +kernel
theorem dX2_settle_51 : decode cX2_settle 51 = .ok (.istore_n 3, 1) := by decide +kernel
theorem dX2_settle_52 : decode cX2_settle 52 = .ok (.iload_n 3, 1) := by decide +kernel
theorem dX2_settle_53 : decode cX2_settle 53 = .ok (.aload_n 1, 1) := by decide +kernel
theorem dX2_settle_54 : decode cX2_settle 54 = .ok (.getfield 27, 3) := by decide +kernel
theorem dX2_settle_57 : decode cX2_settle 57 = .ok (.if_icmp .ge 46, 3) := by decide +kernel
theorem dX2_settle_60 : decode cX2_settle 60 = .ok (.aload_n 0, 1) := by decide +kernel
theorem dX2_settle_61 : decode cX2_settle 61 = .ok (.getfield 18, 3) := by decide +kernel
theorem dX2_settle_64 : decode cX2_settle 64 = .ok (.iload_n 3, 1) := by decide +kernel
theorem dX2_settle_65 : decode cX2_settle 65 = .ok (.iaload, 1) := by decide +kernel
theorem dX2_settle_66 : decode cX2_settle 66 = .ok (.istore 4, 2) := by decide +kernel
theorem dX2_settle_68 : decode cX2_settle 68 = .ok (.aload_n 0, 1) := by decide +kernel
theorem dX2_settle_69 : decode cX2_settle 69 = .ok (.getfield 24, 3) := by decide +kernel
theorem dX2_settle_72 : decode cX2_settle 72 = .ok (.iload 4, 2) := by decide +kernel
theorem dX2_settle_74 : decode cX2_settle 74 = .ok (.aload_n 0, 1) := by decide +kernel
theorem dX2_settle_75 : decode cX2_settle 75 = .ok (.iload 4, 2) := by decide +kernel
theorem dX2_settle_77 : decode cX2_settle 77 = .ok (.aload_n 0, 1) := by decide +kernel
theorem dX2_settle_78 : decode cX2_settle 78 = .ok (.getfield 9, 3) := by decide +kernel
theorem dX2_settle_81 : decode cX2_settle 81 = .ok (.aload_n 1, 1) := by decide +kernel
theorem dX2_settle_82 : decode cX2_settle 82 = .ok (.getfield 57, 3) := by decide +kernel
theorem dX2_settle_85 : decode cX2_settle 85 = .ok (.iload 4, 2) := by decide +kernel
theorem dX2_settle_87 : decode cX2_settle 87 = .ok (.iaload, 1) := by decide +kernel
theorem dX2_settle_88 : decode cX2_settle 88 = .ok (.iaload, 1) := by decide +kernel
theorem dX2_settle_89 : decode cX2_settle 89 = .ok (.aload_n 2, 1) := by decide +kernel
theorem dX2_settle_90 : decode cX2_settle 90 = .ok (.iload 4, 2) := by decide +kernel
theorem dX2_settle_92 : decode cX2_settle 92 = .ok (.iaload, 1) := by decide +kernel
theorem dX2_settle_93 : decode cX2_settle 93 = .ok (.invokevirtual 60, 3) := by decide +kernel
theorem dX2_settle_96 : decode cX2_settle 96 = .ok (.iastore, 1) := by decide +kernel
theorem dX2_settle_97 : decode cX2_settle 97 = .ok (.iinc 3 1, 3) := by decide +kernel
theorem dX2_settle_100 : decode cX2_settle 100 = .ok (.goto (-48), 3) := by decide +kernel
theorem dX2_settle_103 : decode cX2_settle 103 = .ok (.return_, 1) := by decide +kernel
theorem dX2_forget_0 : decode cX2_forget 0 = .ok (.iconst 0, 1) := by decide +kernel
theorem dX2_forget_1 : decode cX2_forget 1 = .ok (.istore_n 2, 1) := by decide +kernel
theorem dX2_forget_2 : decode cX2_forget 2 = .ok (.iload_n 2, 1) := by decide +kernel
theorem dX2_forget_3 : decode cX2_forget 3 = .ok (.iload_n 1, 1) := by decide +kernel
theorem dX2_forget_4 : decode cX2_forget 4 = .ok (.if_icmp .ge 30, 3) := by decide +kernel
theorem dX2_forget_7 : decode cX2_forget 7 = .ok (.aload_n 0, 1) := by decide +kernel
theorem dX2_forget_8 : decode cX2_forget 8 = .ok (.getfield 15, 3) := by decide +kernel
theorem dX2_forget_11 : decode cX2_forget 11 = .ok (.iload_n 2, 1) := by decide +kernel
theorem dX2_forget_12 : decode cX2_forget 12 = .ok (.iconst 0, 1) := by decide +kernel
theorem dX2_forget_13 : decode cX2_forget 13 = .ok (.iastore, 1) := by decide +kernel
theorem dX2_forget_14 : decode cX2_forget 14 = .ok (.aload_n 0, 1) := by decide +kernel
theorem dX2_forget_15 : decode cX2_forget 15 = .ok (.getfield 21, 3) := by decide +kernel
theorem dX2_forget_18 : decode cX2_forget 18 = .ok (.iload_n 2, 1) := by decide +kernel
theorem dX2_forget_19 : decode cX2_forget 19 = .ok (.iconst 0, 1) := by decide +kernel
theorem dX2_forget_20 : decode cX2_forget 20 = .ok (.iastore, 1) := by decide +kernel
theorem dX2_forget_21 : decode cX2_forget 21 = .ok (.aload_n 0, 1) := by decide +kernel
theorem dX2_forget_22 : decode cX2_forget 22 = .ok (.getfield 24, 3) := by decide +kernel
theorem dX2_forget_25 : decode cX2_forget 25 = .ok (.iload_n 2, 1) := by decide +kernel
theorem dX2_forget_26 : decode cX2_forget 26 = .ok (.iconst (-1), 1) := by decide +kernel
theorem dX2_forget_27 : decode cX2_forget 27 = .ok (.iastore, 1) := by decide +kernel
theorem dX2_forget_28 : decode cX2_forget 28 = .ok (.iinc 2 1, 3) := by decide +kernel
theorem dX2_forget_31 : decode cX2_forget 31 = .ok (.goto (-29), 3) := by decide +kernel
theorem dX2_forget_34 : decode cX2_forget 34 = .ok (.return_, 1) := by decide +kernel
theorem dX2_weigh_0 : decode cX2_weigh 0 = .ok (.getstatic 64, 3) := by decide +kernel
theorem dX2_weigh_3 : decode cX2_weigh 3 = .ok (.aload_n 1, 1) := by decide +kernel
theorem dX2_weigh_4 : decode cX2_weigh 4 = .ok (.getfield 67, 3) := by decide +kernel
theorem dX2_weigh_7 : decode cX2_weigh 7 = .ok (.iload_n 2, 1) := by decide +kernel
theorem dX2_weigh_8 : decode cX2_weigh 8 = .ok (.iaload, 1) := by decide +kernel
theorem dX2_weigh_9 : decode cX2_weigh 9 = .ok (.iaload, 1) := by decide +kernel
theorem dX2_weigh_10 : decode cX2_weigh 10 = .ok (.istore_n 3, 1) := by decide +kernel
theorem dX2_weigh_11 : decode cX2_weigh 11 = .ok (.iconst 0, 1) := by decide +kernel
theorem dX2_weigh_12 : decode cX2_weigh 12 = .ok (.istore 4, 2) := by decide +kernel
theorem dX2_weigh_14 : decode cX2_weigh 14 = .ok (.iload 4, 2) := by decide +kernel
theorem dX2_weigh_16 : decode cX2_weigh 16 = .ok (.iconst 3, 1) := by decide +kernel
theorem dX2_weigh_17 : decode cX2_weigh 17 = .ok (.if_icmp .ge 36, 3) := by decide +kernel
theorem dX2_weigh_20 : decode cX2_weigh 20 = .ok (.iload_n 3, 1) := by decide +kernel
theorem dX2_weigh_21 : decode cX2_weigh 21 = .ok (.iload 4, 2) := by decide +kernel
theorem dX2_weigh_23 : decode cX2_weigh 23 = .ok (.invokestatic 70, 3) := by decide +kernel
theorem dX2_weigh_26 : decode cX2_weigh 26 = .ok (.ifCond .eq 21, 3) := by decide +kernel
theorem dX2_weigh_29 : decode cX2_weigh 29 = .ok (.aload_n 0, 1) := by decide +kernel
theorem dX2_weigh_30 : decode cX2_weigh 30 = .ok (.getfield 15, 3) := by decide +kernel
theorem dX2_weigh_33 : decode cX2_weigh 33 = .ok (.aload_n 1, 1) := by decide +kernel
theorem dX2_weigh_34 : decode cX2_weigh 34 = .ok (.iload_n 2, 1) := by decide +kernel
theorem dX2_weigh_35 : decode cX2_weigh 35 = .ok (.iload 4, 2) := by decide +kernel
theorem dX2_weigh_37 : decode cX2_weigh 37 = .ok (.iconst 1, 1) := by decide +kernel
theorem dX2_weigh_38 : decode cX2_weigh 38 = .ok (.iadd, 1) := by decide +kernel
theorem dX2_weigh_39 : decode cX2_weigh 39 = .ok (.invokevirtual 74, 3) := by decide +kernel
theorem dX2_weigh_42 : decode cX2_weigh 42 = .ok (.dup2, 1) := by decide +kernel
theorem dX2_weigh_43 : decode cX2_weigh 43 = .ok (.iaload, 1) := by decide +kernel
theorem dX2_weigh_44 : decode cX2_weigh 44 = .ok (.iconst 1, 1) := by decide +kernel
theorem dX2_weigh_45 : decode cX2_weigh 45 = .ok (.iadd, 1) := by decide +kernel
theorem dX2_weigh_46 : decode cX2_weigh 46 = .ok (.iastore, 1) := by decide +kernel
theorem dX2_weigh_47 : decode cX2_weigh 47 = .ok (.iinc 4 1, 3) := by decide +kernel
theorem dX2_weigh_50 : decode cX2_weigh 50 = .ok (.goto (-36), 3) := by decide +kernel
theorem dX2_weigh_53 : decode cX2_weigh 53 = .ok (.return_, 1) := by decide +kernel
theorem dX2_join_0 : decode cX2_join 0 = .ok (.aload_n 1, 1) := by decide +kernel
theorem dX2_join_1 : decode cX2_join 1 = .ok (.getfield 37, 3) := by decide +kernel
theorem dX2_join_4 : decode cX2_join 4 = .ok (.getfield 78, 3) := by decide +kernel
theorem dX2_join_7 : decode cX2_join 7 = .ok (.iload_n 2, 1) := by decide +kernel
theorem dX2_join_8 : decode cX2_join 8 = .ok (.iaload, 1) := by decide +kernel
theorem dX2_join_9 : decode cX2_join 9 = .ok (.istore_n 3, 1) := by decide +kernel
theorem dX2_join_10 : decode cX2_join 10 = .ok (.aload_n 1, 1) := by decide +kernel
theorem dX2_join_11 : decode cX2_join 11 = .ok (.getfield 37, 3) := by decide +kernel
theorem dX2_join_14 : decode cX2_join 14 = .ok (.getfield 81, 3) := by decide +kernel
theorem dX2_join_17 : decode cX2_join 17 = .ok (.iload_n 2, 1) := by decide +kernel
theorem dX2_join_18 : decode cX2_join 18 = .ok (.iaload, 1) := by decide +kernel
theorem dX2_join_19 : decode cX2_join 19 = .ok (.istore 4, 2) := by decide +kernel
theorem dX2_join_21 : decode cX2_join 21 = .ok (.aload_n 1, 1) := by decide +kernel
theorem dX2_join_22 : decode cX2_join 22 = .ok (.getfield 37, 3) := by decide +kernel
theorem dX2_join_25 : decode cX2_join 25 = .ok (.getfield 67, 3) := by decide +kernel
theorem dX2_join_28 : decode cX2_join 28 = .ok (.iload_n 2, 1) := by decide +kernel
theorem dX2_join_29 : decode cX2_join 29 = .ok (.iaload, 1) := by decide +kernel
theorem dX2_join_30 : decode cX2_join 30 = .ok (.iconst 1, 1) := by decide +kernel
theorem dX2_join_31 : decode cX2_join 31 = .ok (.if_icmp .ne 47, 3) := by decide +kernel
theorem dX2_join_34 : decode cX2_join 34 = .ok (.aload_n 1, 1) := by decide +kernel
theorem dX2_join_35 : decode cX2_join 35 = .ok (.getfield 57, 3) := by decide +kernel
theorem dX2_join_38 : decode cX2_join 38 = .ok (.iload_n 3, 1) := by decide +kernel
theorem dX2_join_39 : decode cX2_join 39 = .ok (.iaload, 1) := by decide +kernel
theorem dX2_join_40 : decode cX2_join 40 = .ok (.aload_n 1, 1) := by decide +kernel
theorem dX2_join_41 : decode cX2_join 41 = .ok (.getfield 57, 3) := by decide +kernel
theorem dX2_join_44 : decode cX2_join 44 = .ok (.iload 4, 2) := by decide +kernel
theorem dX2_join_46 : decode cX2_join 46 = .ok (.iaload, 1) := by decide +kernel
theorem dX2_join_47 : decode cX2_join 47 = .ok (.if_icmp .ne 31, 3) := by decide +kernel
theorem dX2_join_50 : decode cX2_join 50 = .ok (.aload_n 0, 1) := by decide +kernel
theorem dX2_join_51 : decode cX2_join 51 = .ok (.getfield 21, 3) := by decide +kernel
theorem dX2_join_54 : decode cX2_join 54 = .ok (.iload_n 3, 1) := by decide +kernel
theorem dX2_join_55 : decode cX2_join 55 = .ok (.dup2, 1) := by decide +kernel
theorem dX2_join_56 : decode cX2_join 56 = .ok (.iaload, 1) := by decide +kernel
theorem dX2_join_57 : decode cX2_join 57 = .ok (.iload 4, 2) := by decide +kernel
theorem dX2_join_59 : decode cX2_join 59 = .ok (.invokestatic 84, 3) := by decide +kernel
theorem dX2_join_62 : decode cX2_join 62 = .ok (.ior, 1) := by decide +kernel
theorem dX2_join_63 : decode cX2_join 63 = .ok (.iastore, 1) := by decide +kernel
theorem dX2_join_64 : decode cX2_join 64 = .ok (.aload_n 0, 1) := by decide +kernel
theorem dX2_join_65 : decode cX2_join 65 = .ok (.getfield 21, 3) := by decide +kernel
theorem dX2_join_68 : decode cX2_join 68 = .ok (.iload 4, 2) := by decide +kernel
theorem dX2_join_70 : decode cX2_join 70 = .ok (.dup2, 1) := by decide +kernel
theorem dX2_join_71 : decode cX2_join 71 = .ok (.iaload, 1) := by decide +kernel
theorem dX2_join_72 : decode cX2_join 72 = .ok (.iload_n 3, 1) := by decide +kernel
theorem dX2_join_73 : decode cX2_join 73 = .ok (.invokestatic 84, 3) := by decide +kernel
theorem dX2_join_76 : decode cX2_join 76 = .ok (.ior, 1) := by decide +kernel
theorem dX2_join_77 : decode cX2_join 77 = .ok (.iastore, 1) := by decide +kernel
theorem dX2_join_78 : decode cX2_join 78 = .ok (.return_, 1) := by decide +kernel
theorem dX2_line_0 : decode cX2_line 0 = .ok (.iconst 0, 1) := by decide +kernel
theorem dX2_line_1 : decode cX2_line 1 = .ok (.istore_n 2, 1) := by decide +kernel
theorem dX2_line_2 : decode cX2_line 2 = .ok (.iload_n 2, 1) := by decide +kernel
theorem dX2_line_3 : decode cX2_line 3 = .ok (.iload_n 1, 1) := by decide +kernel
theorem dX2_line_4 : decode cX2_line 4 = .ok (.if_icmp .ge 64, 3) := by decide +kernel
theorem dX2_line_7 : decode cX2_line 7 = .ok (.iload_n 2, 1) := by decide +kernel
theorem dX2_line_8 : decode cX2_line 8 = .ok (.istore_n 3, 1) := by decide +kernel
theorem dX2_line_9 : decode cX2_line 9 = .ok (.iload_n 3, 1) := by decide +kernel
theorem dX2_line_10 : decode cX2_line 10 = .ok (.ifCond .le 45, 3) := by decide +kernel
theorem dX2_line_13 : decode cX2_line 13 = .ok (.aload_n 0, 1) := by decide +kernel
theorem dX2_line_14 : decode cX2_line 14 = .ok (.getfield 15, 3) := by decide +kernel
theorem dX2_line_17 : decode cX2_line 17 = .ok (.aload_n 0, 1) := by decide +kernel
theorem dX2_line_18 : decode cX2_line 18 = .ok (.getfield 18, 3) := by decide +kernel
theorem dX2_line_21 : decode cX2_line 21 = .ok (.iload_n 3, 1) := by decide +kernel
theorem dX2_line_22 : decode cX2_line 22 = .ok (.iconst 1, 1) := by decide +kernel
theorem dX2_line_23 : decode cX2_line 23 = .ok (.isub, 1) := by decide +kernel
theorem dX2_line_24 : decode cX2_line 24 = .ok (.iaload, 1) := by decide +kernel
theorem dX2_line_25 : decode cX2_line 25 = .ok (.iaload, 1) := by decide +kernel
theorem dX2_line_26 : decode cX2_line 26 = .ok (.aload_n 0, 1) := by decide +kernel
theorem dX2_line_27 : decode cX2_line 27 = .ok (.getfield 15, 3) := by decide +kernel
theorem dX2_line_30 : decode cX2_line 30 = .ok (.iload_n 2, 1) := by decide +kernel
theorem dX2_line_31 : decode cX2_line 31 = .ok (.iaload, 1) := by decide +kernel
theorem dX2_line_32 : decode cX2_line 32 = .ok (.if_icmp .ge 23, 3) := by decide +kernel
theorem dX2_line_35 : decode cX2_line 35 = .ok (.aload_n 0, 1) := by decide +kernel
theorem dX2_line_36 : decode cX2_line 36 = .ok (.getfield 18, 3) := by decide +kernel
theorem dX2_line_39 : decode cX2_line 39 = .ok (.iload_n 3, 1) := by decide +kernel
theorem dX2_line_40 : decode cX2_line 40 = .ok (.aload_n 0, 1) := by decide +kernel
theorem dX2_line_41 : decode cX2_line 41 = .ok (.getfield 18, 3) := by decide +kernel
theorem dX2_line_44 : decode cX2_line 44 = .ok (.iload_n 3, 1) := by decide +kernel
theorem dX2_line_45 : decode cX2_line 45 = .ok (.iconst 1, 1) := by decide +kernel
theorem dX2_line_46 : decode cX2_line 46 = .ok (.isub, 1) := by decide +kernel
theorem dX2_line_47 : decode cX2_line 47 = .ok (.iaload, 1) := by decide +kernel
theorem dX2_line_48 : decode cX2_line 48 = .ok (.iastore, 1) := by decide +kernel
theorem dX2_line_49 : decode cX2_line 49 = .ok (.iinc 3 (-1), 3) := by decide +kernel
theorem dX2_line_52 : decode cX2_line 52 = .ok (.goto (-43), 3) := by decide +kernel
theorem dX2_line_55 : decode cX2_line 55 = .ok (.aload_n 0, 1) := by decide +kernel
theorem dX2_line_56 : decode cX2_line 56 = .ok (.getfield 18, 3) := by decide +kernel
theorem dX2_line_59 : decode cX2_line 59 = .ok (.iload_n 3, 1) := by decide +kernel
theorem dX2_line_60 : decode cX2_line 60 = .ok (.iload_n 2, 1) := by decide +kernel
theorem dX2_line_61 : decode cX2_line 61 = .ok (.iastore, 1) := by decide +kernel
theorem dX2_line_62 : decode cX2_line 62 = .ok (.iinc 2 1, 3) := by decide +kernel
theorem dX2_line_65 : decode cX2_line 65 = .ok (.goto (-63), 3) := by decide +kernel
theorem dX2_line_68 : decode cX2_line 68 = .ok (.return_, 1) := by decide +kernel
theorem dX2_placeFor_0 : decode cX2_placeFor 0 = .ok (.iload_n 2, 1) := by decide +kernel
theorem dX2_placeFor_1 : decode cX2_placeFor 1 = .ok (.invokestatic 84, 3) := by decide +kernel
theorem dX2_placeFor_4 : decode cX2_placeFor 4 = .ok (.iconst 1, 1) := by decide +kernel
theorem dX2_placeFor_5 : decode cX2_placeFor 5 = .ok (.isub, 1) := by decide +kernel
theorem dX2_placeFor_6 : decode cX2_placeFor 6 = .ok (.aload_n 0, 1) := by decide +kernel
theorem dX2_placeFor_7 : decode cX2_placeFor 7 = .ok (.iload_n 3, 1) := by decide +kernel
theorem dX2_placeFor_8 : decode cX2_placeFor 8 = .ok (.iconst 0, 1) := by decide +kernel
theorem dX2_placeFor_9 : decode cX2_placeFor 9 = .ok (.invokevirtual 88, 3) := by decide +kernel
theorem dX2_placeFor_12 : decode cX2_placeFor 12 = .ok (.iconst (-1), 1) := by decide +kernel
theorem dX2_placeFor_13 : decode cX2_placeFor 13 = .ok (.ixor, 1) := by decide +kernel
theorem dX2_placeFor_14 : decode cX2_placeFor 14 = .ok (.iand, 1) := by decide +kernel
theorem dX2_placeFor_15 : decode cX2_placeFor 15 = .ok (.istore 4, 2) := by decide +kernel
theorem dX2_placeFor_17 : decode cX2_placeFor 17 = .ok (.iload 4, 2) := by decide +kernel
theorem dX2_placeFor_19 : decode cX2_placeFor 19 = .ok (.aload_n 0, 1) := by decide +kernel
theorem dX2_placeFor_20 : decode cX2_placeFor 20 = .ok (.aload_n 0, 1) := by decide +kernel
theorem dX2_placeFor_21 : decode cX2_placeFor 21 = .ok (.getfield 21, 3) := by decide +kernel
theorem dX2_placeFor_24 : decode cX2_placeFor 24 = .ok (.iload_n 1, 1) := by decide +kernel
theorem dX2_placeFor_25 : decode cX2_placeFor 25 = .ok (.iaload, 1) := by decide +kernel
theorem dX2_placeFor_26 : decode cX2_placeFor 26 = .ok (.iconst 0, 1) := by decide +kernel
theorem dX2_placeFor_27 : decode cX2_placeFor 27 = .ok (.invokevirtual 88, 3) := by decide +kernel
theorem dX2_placeFor_30 : decode cX2_placeFor 30 = .ok (.iand, 1) := by decide +kernel
theorem dX2_placeFor_31 : decode cX2_placeFor 31 = .ok (.istore 5, 2) := by decide +kernel
theorem dX2_placeFor_33 : decode cX2_placeFor 33 = .ok (.iload 5, 2) := by decide +kernel
theorem dX2_placeFor_35 : decode cX2_placeFor 35 = .ok (.ifCond .eq 9, 3) := by decide +kernel
theorem dX2_placeFor_38 : decode cX2_placeFor 38 = .ok (.iload 5, 2) := by decide +kernel
theorem dX2_placeFor_40 : decode cX2_placeFor 40 = .ok (.invokestatic 91, 3) := by decide +kernel
theorem dX2_placeFor_43 : decode cX2_placeFor 43 = .ok (.ireturn, 1) := by decide +kernel
theorem dX2_placeFor_44 : decode cX2_placeFor 44 = .ok (.iload 4, 2) := by decide +kernel
theorem dX2_placeFor_46 : decode cX2_placeFor 46 = .ok (.ifCond .eq 9, 3) := by decide +kernel
theorem dX2_placeFor_49 : decode cX2_placeFor 49 = .ok (.iload 4, 2) := by decide +kernel
theorem dX2_placeFor_51 : decode cX2_placeFor 51 = .ok (.invokestatic 91, 3) := by decide +kernel
theorem dX2_placeFor_54 : decode cX2_placeFor 54 = .ok (.ireturn, 1) := by decide +kernel
theorem dX2_placeFor_55 : decode cX2_placeFor 55 = .ok (.bipush 100, 2) := by decide +kernel
theorem dX2_placeFor_57 : decode cX2_placeFor 57 = .ok (.aload_n 0, 1) := by decide +kernel
theorem dX2_placeFor_58 : decode cX2_placeFor 58 = .ok (.iload_n 3, 1) := by decide +kernel
theorem dX2_placeFor_59 : decode cX2_placeFor 59 = .ok (.bipush 100, 2) := by decide +kernel
theorem dX2_placeFor_61 : decode cX2_placeFor 61 = .ok (.invokevirtual 88, 3) := by decide +kernel
theorem dX2_placeFor_64 : decode cX2_placeFor 64 = .ok (.iconst (-1), 1) := by decide +kernel
theorem dX2_placeFor_65 : decode cX2_placeFor 65 = .ok (.ixor, 1) := by decide +kernel
theorem dX2_placeFor_66 : decode cX2_placeFor 66 = .ok (.invokestatic 91, 3) := by decide +kernel
theorem dX2_placeFor_69 : decode cX2_placeFor 69 = .ok (.iadd, 1) := by decide +kernel
theorem dX2_placeFor_70 : decode cX2_placeFor 70 = .ok (.ireturn, 1) := by decide +kernel
theorem dX2_placesOf_0 : decode cX2_placesOf 0 = .ok (.iconst 0, 1) := by decide +kernel
theorem dX2_placesOf_1 : decode cX2_placesOf 1 = .ok (.istore_n 3, 1) := by decide +kernel
theorem dX2_placesOf_2 : decode cX2_placesOf 2 = .ok (.iconst 0, 1) := by decide +kernel
theorem dX2_placesOf_3 : decode cX2_placesOf 3 = .ok (.istore 4, 2) := by decide +kernel
theorem dX2_placesOf_5 : decode cX2_placesOf 5 = .ok (.iload 4, 2) := by decide +kernel
theorem dX2_placesOf_7 : decode cX2_placesOf 7 = .ok (.bipush 24, 2) := by decide +kernel
theorem dX2_placesOf_9 : decode cX2_placesOf 9 = .ok (.if_icmp .ge 64, 3) := by decide +kernel
theorem dX2_placesOf_12 : decode cX2_placesOf 12 = .ok (.iload_n 1, 1) := by decide +kernel
theorem dX2_placesOf_13 : decode cX2_placesOf 13 = .ok (.iload 4, 2) := by decide +kernel
theorem dX2_placesOf_15 : decode cX2_placesOf 15 = .ok (.invokestatic 70, 3) := by decide +kernel
theorem dX2_placesOf_18 : decode cX2_placesOf 18 = .ok (.ifCond .eq 49, 3) := by decide +kernel
theorem dX2_placesOf_21 : decode cX2_placesOf 21 = .ok (.aload_n 0, 1) := by decide +kernel
theorem dX2_placesOf_22 : decode cX2_placesOf 22 = .ok (.getfield 24, 3) := by decide +kernel
theorem dX2_placesOf_25 : decode cX2_placesOf 25 = .ok (.iload 4, 2) := by decide +kernel
theorem dX2_placesOf_27 : decode cX2_placesOf 27 = .ok (.iaload, 1) := by decide +kernel
theorem dX2_placesOf_28 : decode cX2_placesOf 28 = .ok (.iconst (-1), 1) := by decide +kernel
theorem dX2_placesOf_29 : decode cX2_placesOf 29 = .ok (.if_icmp .eq 38, 3) := by decide +kernel
theorem dX2_placesOf_32 : decode cX2_placesOf 32 = .ok (.aload_n 0, 1) := by decide +kernel
theorem dX2_placesOf_33 : decode cX2_placesOf 33 = .ok (.iload 4, 2) := by decide +kernel
theorem dX2_placesOf_35 : decode cX2_placesOf 35 = .ok (.invokevirtual 94, 3) := by decide +kernel
theorem dX2_placesOf_38 : decode cX2_placesOf 38 = .ok (.iload_n 2, 1) := by decide +kernel
theorem dX2_placesOf_39 : decode cX2_placesOf 39 = .ok (.bipush 100, 2) := by decide +kernel
theorem dX2_placesOf_41 : decode cX2_placesOf 41 = .ok (.if_icmp .ne 7, 3) := by decide +kernel
theorem dX2_placesOf_44 : decode cX2_placesOf 44 = .ok (.iconst 1, 1) := by decide +kernel
theorem dX2_placesOf_45 : decode cX2_placesOf 45 = .ok (.goto 4, 3) := by decide +kernel
theorem dX2_placesOf_48 : decode cX2_placesOf 48 = .ok (.iconst 0, 1) := by decide +kernel
theorem dX2_placesOf_49 : decode cX2_placesOf 49 = .ok (.if_icmp .ne 18, 3) := by decide +kernel
theorem dX2_placesOf_52 : decode cX2_placesOf 52 = .ok (.iload_n 3, 1) := by decide +kernel
theorem dX2_placesOf_53 : decode cX2_placesOf 53 = .ok (.aload_n 0, 1) := by decide +kernel
theorem dX2_placesOf_54 : decode cX2_placesOf 54 = .ok (.getfield 24, 3) := by decide +kernel
theorem dX2_placesOf_57 : decode cX2_placesOf 57 = .ok (.iload 4, 2) := by decide +kernel
theorem dX2_placesOf_59 : decode cX2_placesOf 59 = .ok (.iaload, 1) := by decide +kernel
theorem dX2_placesOf_60 : decode cX2_placesOf 60 = .ok (.iload_n 2, 1) := by decide +kernel
theorem dX2_placesOf_61 : decode cX2_placesOf 61 = .ok (.isub, 1) := by decide +kernel
theorem dX2_placesOf_62 : decode cX2_placesOf 62 = .ok (.invokestatic 84, 3) := by decide +kernel
theorem dX2_placesOf_65 : decode cX2_placesOf 65 = .ok (.ior, 1) := by decide +kernel
theorem dX2_placesOf_66 : decode cX2_placesOf 66 = .ok (.istore_n 3, 1) := by decide +kernel
theorem dX2_placesOf_67 : decode cX2_placesOf 67 = .ok (.iinc 4 1, 3) := by decide +kernel
theorem dX2_placesOf_70 : decode cX2_placesOf 70 = .ok (.goto (-65), 3) := by decide +kernel
theorem dX2_placesOf_73 : decode cX2_placesOf 73 = .ok (.iload_n 3, 1) := by decide +kernel
theorem dX2_placesOf_74 : decode cX2_placesOf 74 = .ok (.ireturn, 1) := by decide +kernel
theorem dX2_inSlot_0 : decode cX2_inSlot 0 = .ok (.aload_n 0, 1) := by decide +kernel
theorem dX2_inSlot_1 : decode cX2_inSlot 1 = .ok (.getfield 24, 3) := by decide +kernel
theorem dX2_inSlot_4 : decode cX2_inSlot 4 = .ok (.iload_n 1, 1) := by decide +kernel
theorem dX2_inSlot_5 : decode cX2_inSlot 5 = .ok (.iaload, 1) := by decide +kernel
theorem dX2_inSlot_6 : decode cX2_inSlot 6 = .ok (.bipush 100, 2) := by decide +kernel
theorem dX2_inSlot_8 : decode cX2_inSlot 8 = .ok (.if_icmp .lt 7, 3) := by decide +kernel
theorem dX2_inSlot_11 : decode cX2_inSlot 11 = .ok (.iconst 1, 1) := by decide +kernel
theorem dX2_inSlot_12 : decode cX2_inSlot 12 = .ok (.goto 4, 3) := by decide +kernel
theorem dX2_inSlot_15 : decode cX2_inSlot 15 = .ok (.iconst 0, 1) := by decide +kernel
theorem dX2_inSlot_16 : decode cX2_inSlot 16 = .ok (.ireturn, 1) := by decide +kernel
theorem dX2_slotsOf_0 : decode cX2_slotsOf 0 = .ok (.aload_n 0, 1) := by decide +kernel
theorem dX2_slotsOf_1 : decode cX2_slotsOf 1 = .ok (.aload_n 2, 1) := by decide +kernel
theorem dX2_slotsOf_2 : decode cX2_slotsOf 2 = .ok (.getfield 98, 3) := by decide +kernel
theorem dX2_slotsOf_5 : decode cX2_slotsOf 5 = .ok (.iload_n 1, 1) := by decide +kernel
theorem dX2_slotsOf_6 : decode cX2_slotsOf 6 = .ok (.iaload, 1) := by decide +kernel
theorem dX2_slotsOf_7 : decode cX2_slotsOf 7 = .ok (.bipush 100, 2) := by decide +kernel
theorem dX2_slotsOf_9 : decode cX2_slotsOf 9 = .ok (.invokevirtual 88, 3) := by decide +kernel
theorem dX2_slotsOf_12 : decode cX2_slotsOf 12 = .ok (.invokestatic 101, 3) := by decide +kernel
theorem dX2_slotsOf_15 : decode cX2_slotsOf 15 = .ok (.ireturn, 1) := by decide +kernel
theorem dX2_clash_0 : decode cX2_clash 0 = .ok (.iconst 0, 1) := by decide +kernel
theorem dX2_clash_1 : decode cX2_clash 1 = .ok (.istore_n 3, 1) := by decide +kernel
theorem dX2_clash_2 : decode cX2_clash 2 = .ok (.iload_n 3, 1) := by decide +kernel
theorem dX2_clash_3 : decode cX2_clash 3 = .ok (.iload_n 1, 1) := by decide +kernel
theorem dX2_clash_4 : decode cX2_clash 4 = .ok (.if_icmp .ge 53, 3) := by decide +kernel
theorem dX2_clash_7 : decode cX2_clash 7 = .ok (.iconst 0, 1) := by decide +kernel
theorem dX2_clash_8 : decode cX2_clash 8 = .ok (.istore 4, 2) := by decide +kernel
theorem dX2_clash_10 : decode cX2_clash 10 = .ok (.iload 4, 2) := by decide +kernel
theorem dX2_clash_12 : decode cX2_clash 12 = .ok (.iload_n 3, 1) := by decide +kernel
theorem dX2_clash_13 : decode cX2_clash 13 = .ok (.if_icmp .ge 38, 3) := by decide +kernel
theorem dX2_clash_16 : decode cX2_clash 16 = .ok (.aload_n 2, 1) := by decide +kernel
theorem dX2_clash_17 : decode cX2_clash 17 = .ok (.iload_n 3, 1) := by decide +kernel
theorem dX2_clash_18 : decode cX2_clash 18 = .ok (.iaload, 1) := by decide +kernel
theorem dX2_clash_19 : decode cX2_clash 19 = .ok (.iload 4, 2) := by decide +kernel
theorem dX2_clash_21 : decode cX2_clash 21 = .ok (.invokestatic 70, 3) := by decide +kernel
theorem dX2_clash_24 : decode cX2_clash 24 = .ok (.ifCond .eq 21, 3) := by decide +kernel
theorem dX2_clash_27 : decode cX2_clash 27 = .ok (.aload_n 0, 1) := by decide +kernel
theorem dX2_clash_28 : decode cX2_clash 28 = .ok (.getfield 24, 3) := by decide +kernel
theorem dX2_clash_31 : decode cX2_clash 31 = .ok (.iload_n 3, 1) := by decide +kernel
theorem dX2_clash_32 : decode cX2_clash 32 = .ok (.iaload, 1) := by decide +kernel
theorem dX2_clash_33 : decode cX2_clash 33 = .ok (.aload_n 0, 1) := by decide +kernel
theorem dX2_clash_34 : decode cX2_clash 34 = .ok (.getfield 24, 3) := by decide +kernel
theorem dX2_clash_37 : decode cX2_clash 37 = .ok (.iload 4, 2) := by decide +kernel
theorem dX2_clash_39 : decode cX2_clash 39 = .ok (.iaload, 1) := by decide +kernel
theorem dX2_clash_40 : decode cX2_clash 40 = .ok (.if_icmp .ne 5, 3) := by decide +kernel
theorem dX2_clash_43 : decode cX2_clash 43 = .ok (.iconst 1, 1) := by decide +kernel
theorem dX2_clash_44 : decode cX2_clash 44 = .ok (.ireturn, 1) := by decide +kernel
theorem dX2_clash_45 : decode cX2_clash 45 = .ok (.iinc 4 1, 3) := by decide +kernel
theorem dX2_clash_48 : decode cX2_clash 48 = .ok (.goto (-38), 3) := by decide +kernel
theorem dX2_clash_51 : decode cX2_clash 51 = .ok (.iinc 3 1, 3) := by decide +kernel
theorem dX2_clash_54 : decode cX2_clash 54 = .ok (.goto (-52), 3) := by decide +kernel
theorem dX2_clash_57 : decode cX2_clash 57 = .ok (.iconst 0, 1) := by decide +kernel
theorem dX2_clash_58 : decode cX2_clash 58 = .ok (.ireturn, 1) := by decide +kernel
theorem dX3_init_0 : decode cX3_init 0 = .ok (.aload_n 0, 1) := by decide +kernel
theorem dX3_init_1 : decode cX3_init 1 = .ok (.invokespecial 3, 3) := by decide +kernel
theorem dX3_init_4 : decode cX3_init 4 = .ok (.aload_n 0, 1) := by decide +kernel
theorem dX3_init_5 : decode cX3_init 5 = .ok (.iload_n 1, 1) := by decide +kernel
theorem dX3_init_6 : decode cX3_init 6 = .ok (.newarray .int, 2) := by decide +kernel
theorem dX3_init_8 : decode cX3_init 8 = .ok (.putfield 9, 3) := by decide +kernel
theorem dX3_init_11 : decode cX3_init 11 = .ok (.aload_n 0, 1) := by decide +kernel
theorem dX3_init_12 : decode cX3_init 12 = .ok (.iload_n 1, 1) := by decide +kernel
theorem dX3_init_13 : decode cX3_init 13 = .ok (.newarray .int, 2) := by decide +kernel
theorem dX3_init_15 : decode cX3_init 15 = .ok (.putfield 15, 3) := by decide +kernel
theorem dX3_init_18 : decode cX3_init 18 = .ok (.aload_n 0, 1) := by decide +kernel
theorem dX3_init_19 : decode cX3_init 19 = .ok (.iload_n 1, 1) := by decide +kernel
theorem dX3_init_20 : decode cX3_init 20 = .ok (.newarray .int, 2) := by decide +kernel
theorem dX3_init_22 : decode cX3_init 22 = .ok (.putfield 18, 3) := by decide +kernel
theorem dX3_init_25 : decode cX3_init 25 = .ok (.aload_n 0, 1) := by decide +kernel
theorem dX3_init_26 : decode cX3_init 26 = .ok (.iload_n 1, 1) := by decide +kernel
theorem dX3_init_27 : decode cX3_init 27 = .ok (.newarray .int, 2) := by decide +kernel
theorem dX3_init_29 : decode cX3_init 29 = .ok (.putfield 21, 3) := by decide +kernel
theorem dX3_init_32 : decode cX3_init 32 = .ok (.aload_n 0, 1) := by decide +kernel
theorem dX3_init_33 : decode cX3_init 33 = .ok (.iconst 0, 1) := by decide +kernel
theorem dX3_init_34 : decode cX3_init 34 = .ok (.putfield 24, 3) := by decide +kernel
theorem dX3_init_37 : decode cX3_init 37 = .ok (.return_, 1) := by decide +kernel
theorem dX3_add_0 : decode cX3_add 0 = .ok (.aload_n 0, 1) := by decide +kernel
theorem dX3_add_1 : decode cX3_add 1 = .ok (.getfield 24, 3) := by decide +kernel
theorem dX3_add_4 : decode cX3_add 4 = .ok (.aload_n 0, 1) := by decide +kernel
theorem dX3_add_5 : decode cX3_add 5 = .ok (.getfield 9, 3) := by decide +kernel
theorem dX3_add_8 : decode cX3_add 8 = .ok (.arraylength, 1) := by decide +kernel
theorem dX3_add_9 : decode cX3_add 9 = .ok (.if_icmp .lt 4, 3) := by decide +kernel
theorem dX3_add_12 : decode cX3_add 12 = .ok (.return_, 1) := by decide +kernel
theorem dX3_add_13 : decode cX3_add 13 = .ok (.aload_n 0, 1) := by decide +kernel
theorem dX3_add_14 : decode cX3_add 14 = .ok (.getfield 9, 3) := by decide +kernel
theorem dX3_add_17 : decode cX3_add 17 = .ok (.aload_n 0, 1) := by decide +kernel
theorem dX3_add_18 : decode cX3_add 18 = .ok (.getfield 24, 3) := by decide +kernel
theorem dX3_add_21 : decode cX3_add 21 = .ok (.iload_n 1, 1) := by decide +kernel
theorem dX3_add_22 : decode cX3_add 22 = .ok (.iastore, 1) := by decide +kernel
theorem dX3_add_23 : decode cX3_add 23 = .ok (.aload_n 0, 1) := by decide +kernel
theorem dX3_add_24 : decode cX3_add 24 = .ok (.getfield 15, 3) := by decide +kernel
theorem dX3_add_27 : decode cX3_add 27 = .ok (.aload_n 0, 1) := by decide +kernel
theorem dX3_add_28 : decode cX3_add 28 = .ok (.getfield 24, 3) := by decide +kernel
theorem dX3_add_31 : decode cX3_add 31 = .ok (.iload_n 2, 1) := by decide +kernel
theorem dX3_add_32 : decode cX3_add 32 = .ok (.iastore, 1) := by decide +kernel
theorem dX3_add_33 : decode cX3_add 33 = .ok (.aload_n 0, 1) := by decide +kernel
theorem dX3_add_34 : decode cX3_add 34 = .ok (.getfield 18, 3) := by decide +kernel
theorem dX3_add_37 : decode cX3_add 37 = .ok (.aload_n 0, 1) := by decide +kernel
theorem dX3_add_38 : decode cX3_add 38 = .ok (.getfield 24, 3) := by decide +kernel
theorem dX3_add_41 : decode cX3_add 41 = .ok (.iload_n 3, 1) := by decide +kernel
theorem dX3_add_42 : decode cX3_add 42 = .ok (.iastore, 1) := by decide +kernel
theorem dX3_add_43 : decode cX3_add 43 = .ok (.aload_n 0, 1) := by decide +kernel
theorem dX3_add_44 : decode cX3_add 44 = .ok (.getfield 21, 3) := by decide +kernel
theorem dX3_add_47 : decode cX3_add 47 = .ok (.aload_n 0, 1) := by decide +kernel
theorem dX3_add_48 : decode cX3_add 48 = .ok (.getfield 24, 3) := by decide +kernel
theorem dX3_add_51 : decode cX3_add 51 = .ok (.iload 4, 2) := by decide +kernel
theorem dX3_add_53 : decode cX3_add 53 = .ok (.iastore, 1) := by decide +kernel
theorem dX3_add_54 : decode cX3_add 54 = .ok (.aload_n 0, 1) := by decide +kernel
theorem dX3_add_55 : decode cX3_add 55 = .ok (.dup, 1) := by decide +kernel
theorem dX3_add_56 : decode cX3_add 56 = .ok (.getfield 24, 3) := by decide +kernel
theorem dX3_add_59 : decode cX3_add 59 = .ok (.iconst 1, 1) := by decide +kernel
theorem dX3_add_60 : decode cX3_add 60 = .ok (.iadd, 1) := by decide +kernel
theorem dX3_add_61 : decode cX3_add 61 = .ok (.putfield 24, 3) := by decide +kernel
theorem dX3_add_64 : decode cX3_add 64 = .ok (.return_, 1) := by decide +kernel
theorem dX3_part_0 : decode cX3_part 0 = .ok (.iload_n 2, 1) := by decide +kernel
theorem dX3_part_1 : decode cX3_part 1 = .ok (.tableswitch 59 0 3 #[31, 38, 45, 52], 31) := by decide +kernel
theorem dX3_part_32 : decode cX3_part 32 = .ok (.aload_n 0, 1) := by decide +kernel
theorem dX3_part_33 : decode cX3_part 33 = .ok (.getfield 9, 3) := by decide +kernel
theorem dX3_part_36 : decode cX3_part 36 = .ok (.iload_n 1, 1) := by decide +kernel
theorem dX3_part_37 : decode cX3_part 37 = .ok (.iaload, 1) := by decide +kernel
theorem dX3_part_38 : decode cX3_part 38 = .ok (.ireturn, 1) := by decide +kernel
theorem dX3_part_39 : decode cX3_part 39 = .ok (.aload_n 0, 1) := by decide +kernel
theorem dX3_part_40 : decode cX3_part 40 = .ok (.getfield 15, 3) := by decide +kernel
theorem dX3_part_43 : decode cX3_part 43 = .ok (.iload_n 1, 1) := by decide +kernel
theorem dX3_part_44 : decode cX3_part 44 = .ok (.iaload, 1) := by decide +kernel
theorem dX3_part_45 : decode cX3_part 45 = .ok (.ireturn, 1) := by decide +kernel
theorem dX3_part_46 : decode cX3_part 46 = .ok (.aload_n 0, 1) := by decide +kernel
theorem dX3_part_47 : decode cX3_part 47 = .ok (.getfield 18, 3) := by decide +kernel
theorem dX3_part_50 : decode cX3_part 50 = .ok (.iload_n 1, 1) := by decide +kernel
theorem dX3_part_51 : decode cX3_part 51 = .ok (.iaload, 1) := by decide +kernel
theorem dX3_part_52 : decode cX3_part 52 = .ok (.ireturn, 1) := by decide +kernel
theorem dX3_part_53 : decode cX3_part 53 = .ok (.aload_n 0, 1) := by decide +kernel
theorem dX3_part_54 : decode cX3_part 54 = .ok (.getfield 21, 3) := by decide +kernel
theorem dX3_part_57 : decode cX3_part 57 = .ok (.iload_n 1, 1) := by decide +kernel
theorem dX3_part_58 : decode cX3_part 58 = .ok (.iaload, 1) := by decide +kernel
theorem dX3_part_59 : decode cX3_part 59 = .ok (.ireturn, 1) := by decide +kernel
theorem dX3_part_60 : decode cX3_part 60 = .ok (.iconst (-1), 1) := by decide +kernel
theorem dX3_part_61 : decode cX3_part 61 = .ok (.ireturn, 1) := by decide +kernel
theorem dX3_target_0 : decode cX3_target 0 = .ok (.aload_n 0, 1) := by decide +kernel
theorem dX3_target_1 : decode cX3_target 1 = .ok (.getfield 9, 3) := by decide +kernel
theorem dX3_target_4 : decode cX3_target 4 = .ok (.iload_n 1, 1) := by decide +kernel
theorem dX3_target_5 : decode cX3_target 5 = .ok (.iaload, 1) := by decide +kernel
theorem dX3_target_6 : decode cX3_target 6 = .ok (.bipush 7, 2) := by decide +kernel
theorem dX3_target_8 : decode cX3_target 8 = .ok (.if_icmp .ne 10, 3) := by decide +kernel
theorem dX3_target_11 : decode cX3_target 11 = .ok (.aload_n 0, 1) := by decide +kernel
theorem dX3_target_12 : decode cX3_target 12 = .ok (.getfield 21, 3) := by decide +kernel
theorem dX3_target_15 : decode cX3_target 15 = .ok (.iload_n 1, 1) := by decide +kernel
theorem dX3_target_16 : decode cX3_target 16 = .ok (.iaload, 1) := by decide +kernel
theorem dX3_target_17 : decode cX3_target 17 = .ok (.ireturn, 1) := by decide +kernel
theorem dX3_target_18 : decode cX3_target 18 = .ok (.aload_n 0, 1) := by decide +kernel
theorem dX3_target_19 : decode cX3_target 19 = .ok (.getfield 9, 3) := by decide +kernel
theorem dX3_target_22 : decode cX3_target 22 = .ok (.iload_n 1, 1) := by decide +kernel
theorem dX3_target_23 : decode cX3_target 23 = .ok (.iaload, 1) := by decide +kernel
theorem dX3_target_24 : decode cX3_target 24 = .ok (.bipush 8, 2) := by decide +kernel
theorem dX3_target_26 : decode cX3_target 26 = .ok (.if_icmp .ne 12, 3) := by decide +kernel
theorem dX3_target_29 : decode cX3_target 29 = .ok (.aload_n 0, 1) := by decide +kernel
theorem dX3_target_30 : decode cX3_target 30 = .ok (.getfield 15, 3) := by decide +kernel
theorem dX3_target_33 : decode cX3_target 33 = .ok (.iload_n 1, 1) := by decide +kernel
theorem dX3_target_34 : decode cX3_target 34 = .ok (.iaload, 1) := by decide +kernel
theorem dX3_target_35 : decode cX3_target 35 = .ok (.goto 4, 3) := by decide +kernel
theorem dX3_target_38 : decode cX3_target 38 = .ok (.iconst (-1), 1) := by decide +kernel
theorem dX3_target_39 : decode cX3_target 39 = .ok (.ireturn, 1) := by decide +kernel
theorem dX3_aim_0 : decode cX3_aim 0 = .ok (.aload_n 0, 1) := by decide +kernel
theorem dX3_aim_1 : decode cX3_aim 1 = .ok (.getfield 9, 3) := by decide +kernel
theorem dX3_aim_4 : decode cX3_aim 4 = .ok (.iload_n 1, 1) := by decide +kernel
theorem dX3_aim_5 : decode cX3_aim 5 = .ok (.iaload, 1) := by decide +kernel
theorem dX3_aim_6 : decode cX3_aim 6 = .ok (.bipush 7, 2) := by decide +kernel
theorem dX3_aim_8 : decode cX3_aim 8 = .ok (.if_icmp .ne 13, 3) := by decide +kernel
theorem dX3_aim_11 : decode cX3_aim 11 = .ok (.aload_n 0, 1) := by decide +kernel
theorem dX3_aim_12 : decode cX3_aim 12 = .ok (.getfield 21, 3) := by decide +kernel
theorem dX3_aim_15 : decode cX3_aim 15 = .ok (.iload_n 1, 1) := by decide +kernel
theorem dX3_aim_16 : decode cX3_aim 16 = .ok (.iload_n 2, 1) := by decide +kernel
theorem dX3_aim_17 : decode cX3_aim 17 = .ok (.iastore, 1) := by decide +kernel
theorem dX3_aim_18 : decode cX3_aim 18 = .ok (.goto 21, 3) := by decide +kernel
theorem dX3_aim_21 : decode cX3_aim 21 = .ok (.aload_n 0, 1) := by decide +kernel
theorem dX3_aim_22 : decode cX3_aim 22 = .ok (.getfield 9, 3) := by decide +kernel
theorem dX3_aim_25 : decode cX3_aim 25 = .ok (.iload_n 1, 1) := by decide +kernel
theorem dX3_aim_26 : decode cX3_aim 26 = .ok (.iaload, 1) := by decide +kernel
theorem dX3_aim_27 : decode cX3_aim 27 = .ok (.bipush 8, 2) := by decide +kernel
theorem dX3_aim_29 : decode cX3_aim 29 = .ok (.if_icmp .ne 10, 3) := by decide +kernel
theorem dX3_aim_32 : decode cX3_aim 32 = .ok (.aload_n 0, 1) := by decide +kernel
theorem dX3_aim_33 : decode cX3_aim 33 = .ok (.getfield 15, 3) := by decide +kernel
theorem dX3_aim_36 : decode cX3_aim 36 = .ok (.iload_n 1, 1) := by decide +kernel
theorem dX3_aim_37 : decode cX3_aim 37 = .ok (.iload_n 2, 1) := by decide +kernel
theorem dX3_aim_38 : decode cX3_aim 38 = .ok (.iastore, 1) := by decide +kernel
theorem dX3_aim_39 : decode cX3_aim 39 = .ok (.return_, 1) := by decide +kernel
theorem dX3_goesOn_0 : decode cX3_goesOn 0 = .ok (.aload_n 0, 1) := by decide +kernel
theorem dX3_goesOn_1 : decode cX3_goesOn 1 = .ok (.getfield 9, 3) := by decide +kernel
theorem dX3_goesOn_4 : decode cX3_goesOn 4 = .ok (.iload_n 1, 1) := by decide +kernel
theorem dX3_goesOn_5 : decode cX3_goesOn 5 = .ok (.iaload, 1) := by decide +kernel
theorem dX3_goesOn_6 : decode cX3_goesOn 6 = .ok (.bipush 8, 2) := by decide +kernel
theorem dX3_goesOn_8 : decode cX3_goesOn 8 = .ok (.if_icmp .eq 18, 3) := by decide +kernel
theorem dX3_goesOn_11 : decode cX3_goesOn 11 = .ok (.aload_n 0, 1) := by decide +kernel
theorem dX3_goesOn_12 : decode cX3_goesOn 12 = .ok (.getfield 9, 3) := by decide +kernel
theorem dX3_goesOn_15 : decode cX3_goesOn 15 = .ok (.iload_n 1, 1) := by decide +kernel
theorem dX3_goesOn_16 : decode cX3_goesOn 16 = .ok (.iaload, 1) := by decide +kernel
theorem dX3_goesOn_17 : decode cX3_goesOn 17 = .ok (.bipush 10, 2) := by decide +kernel
theorem dX3_goesOn_19 : decode cX3_goesOn 19 = .ok (.if_icmp .eq 7, 3) := by decide +kernel
theorem dX3_goesOn_22 : decode cX3_goesOn 22 = .ok (.iconst 1, 1) := by decide +kernel
theorem dX3_goesOn_23 : decode cX3_goesOn 23 = .ok (.goto 4, 3) := by decide +kernel
theorem dX3_goesOn_26 : decode cX3_goesOn 26 = .ok (.iconst 0, 1) := by decide +kernel
theorem dX3_goesOn_27 : decode cX3_goesOn 27 = .ok (.ireturn, 1) := by decide +kernel
theorem dX3_copy_0 : decode cX3_copy 0 = .ok (.aload_n 0, 1) := by decide +kernel
theorem dX3_copy_1 : decode cX3_copy 1 = .ok (.iconst 0, 1) := by decide +kernel
theorem dX3_copy_2 : decode cX3_copy 2 = .ok (.putfield 24, 3) := by decide +kernel
theorem dX3_copy_5 : decode cX3_copy 5 = .ok (.iconst 0, 1) := by decide +kernel
theorem dX3_copy_6 : decode cX3_copy 6 = .ok (.istore_n 2, 1) := by decide +kernel
theorem dX3_copy_7 : decode cX3_copy 7 = .ok (.iload_n 2, 1) := by decide +kernel
theorem dX3_copy_8 : decode cX3_copy 8 = .ok (.aload_n 1, 1) := by decide +kernel
theorem dX3_copy_9 : decode cX3_copy 9 = .ok (.getfield 24, 3) := by decide +kernel
theorem dX3_copy_12 : decode cX3_copy 12 = .ok (.if_icmp .ge 37, 3) := by decide +kernel
theorem dX3_copy_15 : decode cX3_copy 15 = .ok (.aload_n 0, 1) := by decide +kernel
theorem dX3_copy_16 : decode cX3_copy 16 = .ok (.aload_n 1, 1) := by decide +kernel
theorem dX3_copy_17 : decode cX3_copy 17 = .ok (.getfield 9, 3) := by decide +kernel
theorem dX3_copy_20 : decode cX3_copy 20 = .ok (.iload_n 2, 1) := by decide +kernel
theorem dX3_copy_21 : decode cX3_copy 21 = .ok (.iaload, 1) := by decide +kernel
theorem dX3_copy_22 : decode cX3_copy 22 = .ok (.aload_n 1, 1) := by decide +kernel
theorem dX3_copy_23 : decode cX3_copy 23 = .ok (.getfield 15, 3) := by decide +kernel
theorem dX3_copy_26 : decode cX3_copy 26 = .ok (.iload_n 2, 1) := by decide +kernel
theorem dX3_copy_27 : decode cX3_copy 27 = .ok (.iaload, 1) := by decide +kernel
theorem dX3_copy_28 : decode cX3_copy 28 = .ok (.aload_n 1, 1) := by decide +kernel
theorem dX3_copy_29 : decode cX3_copy 29 = .ok (.getfield 18, 3) := by decide +kernel
theorem dX3_copy_32 : decode cX3_copy 32 = .ok (.iload_n 2, 1) := by decide +kernel
theorem dX3_copy_33 : decode cX3_copy 33 = .ok (.iaload, 1) := by decide +kernel
theorem dX3_copy_34 : decode cX3_copy 34 = .ok (.aload_n 1, 1) := by decide +kernel
theorem dX3_copy_35 : decode cX3_copy 35 = .ok (.getfield 21, 3) := by decide +kernel
theorem dX3_copy_38 : decode cX3_copy 38 = .ok (.iload_n 2, 1) := by decide +kernel
theorem dX3_copy_39 : decode cX3_copy 39 = .ok (.iaload, 1) := by decide +kernel
theorem dX3_copy_40 : decode cX3_copy 40 = .ok (.invokevirtual 28, 3) := by decide +kernel
theorem dX3_copy_43 : decode cX3_copy 43 = .ok (.iinc 2 1, 3) := by decide +kernel
theorem dX3_copy_46 : decode cX3_copy 46 = .ok (.goto (-39), 3) := by decide +kernel
theorem dX3_copy_49 : decode cX3_copy 49 = .ok (.return_, 1) := by decide +kernel
theorem dX3_takeAway_0 : decode cX3_takeAway 0 = .ok (.aload_n 0, 1) := by decide +kernel
theorem dX3_takeAway_1 : decode cX3_takeAway 1 = .ok (.dup, 1) := by decide +kernel
theorem dX3_takeAway_2 : decode cX3_takeAway 2 = .ok (.getfield 24, 3) := by decide +kernel
theorem dX3_takeAway_5 : decode cX3_takeAway 5 = .ok (.iconst 1, 1) := by decide +kernel
theorem dX3_takeAway_6 : decode cX3_takeAway 6 = .ok (.isub, 1) := by decide +kernel
theorem dX3_takeAway_7 : decode cX3_takeAway 7 = .ok (.putfield 24, 3) := by decide +kernel
theorem dX3_takeAway_10 : decode cX3_takeAway 10 = .ok (.iload_n 1, 1) := by decide +kernel
theorem dX3_takeAway_11 : decode cX3_takeAway 11 = .ok (.istore_n 2, 1) := by decide +kernel
theorem dX3_takeAway_12 : decode cX3_takeAway 12 = .ok (.iload_n 2, 1) := by decide +kernel
theorem dX3_takeAway_13 : decode cX3_takeAway 13 = .ok (.aload_n 0, 1) := by decide +kernel
theorem dX3_takeAway_14 : decode cX3_takeAway 14 = .ok (.getfield 24, 3) := by decide +kernel
theorem dX3_takeAway_17 : decode cX3_takeAway 17 = .ok (.if_icmp .ge 65, 3) := by decide +kernel
theorem dX3_takeAway_20 : decode cX3_takeAway 20 = .ok (.aload_n 0, 1) := by decide +kernel
theorem dX3_takeAway_21 : decode cX3_takeAway 21 = .ok (.getfield 9, 3) := by decide +kernel
theorem dX3_takeAway_24 : decode cX3_takeAway 24 = .ok (.iload_n 2, 1) := by decide +kernel
theorem dX3_takeAway_25 : decode cX3_takeAway 25 = .ok (.aload_n 0, 1) := by decide +kernel
theorem dX3_takeAway_26 : decode cX3_takeAway 26 = .ok (.getfield 9, 3) := by decide +kernel
theorem dX3_takeAway_29 : decode cX3_takeAway 29 = .ok (.iload_n 2, 1) := by decide +kernel
theorem dX3_takeAway_30 : decode cX3_takeAway 30 = .ok (.iconst 1, 1) := by decide +kernel
theorem dX3_takeAway_31 : decode cX3_takeAway 31 = .ok (.iadd, 1) := by decide +kernel
theorem dX3_takeAway_32 : decode cX3_takeAway 32 = .ok (.iaload, 1) := by decide +kernel
theorem dX3_takeAway_33 : decode cX3_takeAway 33 = .ok (.iastore, 1) := by decide +kernel
theorem dX3_takeAway_34 : decode cX3_takeAway 34 = .ok (.aload_n 0, 1) := by decide +kernel
theorem dX3_takeAway_35 : decode cX3_takeAway 35 = .ok (.getfield 15, 3) := by decide +kernel
theorem dX3_takeAway_38 : decode cX3_takeAway 38 = .ok (.iload_n 2, 1) := by decide +kernel
theorem dX3_takeAway_39 : decode cX3_takeAway 39 = .ok (.aload_n 0, 1) := by decide +kernel
theorem dX3_takeAway_40 : decode cX3_takeAway 40 = .ok (.getfield 15, 3) := by decide +kernel
theorem dX3_takeAway_43 : decode cX3_takeAway 43 = .ok (.iload_n 2, 1) := by decide +kernel
theorem dX3_takeAway_44 : decode cX3_takeAway 44 = .ok (.iconst 1, 1) := by decide +kernel
theorem dX3_takeAway_45 : decode cX3_takeAway 45 = .ok (.iadd, 1) := by decide +kernel
theorem dX3_takeAway_46 : decode cX3_takeAway 46 = .ok (.iaload, 1) := by decide +kernel
theorem dX3_takeAway_47 : decode cX3_takeAway 47 = .ok (.iastore, 1) := by decide +kernel
theorem dX3_takeAway_48 : decode cX3_takeAway 48 = .ok (.aload_n 0, 1) := by decide +kernel
theorem dX3_takeAway_49 : decode cX3_takeAway 49 = .ok (.getfield 18, 3) := by decide +kernel
theorem dX3_takeAway_52 : decode cX3_takeAway 52 = .ok (.iload_n 2, 1) := by decide +kernel
theorem dX3_takeAway_53 : decode cX3_takeAway 53 = .ok (.aload_n 0, 1) := by decide +kernel
theorem dX3_takeAway_54 : decode cX3_takeAway 54 = .ok (.getfield 18, 3) := by decide +kernel
theorem dX3_takeAway_57 : decode cX3_takeAway 57 = .ok (.iload_n 2, 1) := by decide +kernel
theorem dX3_takeAway_58 : decode cX3_takeAway 58 = .ok (.iconst 1, 1) := by decide +kernel
theorem dX3_takeAway_59 : decode cX3_takeAway 59 = .ok (.iadd, 1) := by decide +kernel
theorem dX3_takeAway_60 : decode cX3_takeAway 60 = .ok (.iaload, 1) := by decide +kernel
theorem dX3_takeAway_61 : decode cX3_takeAway 61 = .ok (.iastore, 1) := by decide +kernel
theorem dX3_takeAway_62 : decode cX3_takeAway 62 = .ok (.aload_n 0, 1) := by decide +kernel
theorem dX3_takeAway_63 : decode cX3_takeAway 63 = .ok (.getfield 21, 3) := by decide +kernel
theorem dX3_takeAway_66 : decode cX3_takeAway 66 = .ok (.iload_n 2, 1) := by decide +kernel
theorem dX3_takeAway_67 : decode cX3_takeAway 67 = .ok (.aload_n 0, 1) := by decide +kernel
theorem dX3_takeAway_68 : decode cX3_takeAway 68 = .ok (.getfield 21, 3) := by decide +kernel
theorem dX3_takeAway_71 : decode cX3_takeAway 71 = .ok (.iload_n 2, 1) := by decide +kernel
theorem dX3_takeAway_72 : decode cX3_takeAway 72 = .ok (.iconst 1, 1) := by decide +kernel
theorem dX3_takeAway_73 : decode cX3_takeAway 73 = .ok (.iadd, 1) := by decide +kernel
theorem dX3_takeAway_74 : decode cX3_takeAway 74 = .ok (.iaload, 1) := by decide +kernel
theorem dX3_takeAway_75 : decode cX3_takeAway 75 = .ok (.iastore, 1) := by decide +kernel
theorem dX3_takeAway_76 : decode cX3_takeAway 76 = .ok (.iinc 2 1, 3) := by decide +kernel
theorem dX3_takeAway_79 : decode cX3_takeAway 79 = .ok (.goto (-67), 3) := by decide +kernel
theorem dX3_takeAway_82 : decode cX3_takeAway 82 = .ok (.iconst 0, 1) := by decide +kernel
theorem dX3_takeAway_83 : decode cX3_takeAway 83 = .ok (.istore_n 2, 1) := by decide +kernel
theorem dX3_takeAway_84 : decode cX3_takeAway 84 = .ok (.iload_n 2, 1) := by decide +kernel
theorem dX3_takeAway_85 : decode cX3_takeAway 85 = .ok (.aload_n 0, 1) := by decide +kernel
theorem dX3_takeAway_86 : decode cX3_takeAway 86 = .ok (.getfield 24, 3) := by decide +kernel
theorem dX3_takeAway_89 : decode cX3_takeAway 89 = .ok (.if_icmp .ge 30, 3) := by decide +kernel
theorem dX3_takeAway_92 : decode cX3_takeAway 92 = .ok (.aload_n 0, 1) := by decide +kernel
theorem dX3_takeAway_93 : decode cX3_takeAway 93 = .ok (.iload_n 2, 1) := by decide +kernel
theorem dX3_takeAway_94 : decode cX3_takeAway 94 = .ok (.invokevirtual 32, 3) := by decide +kernel
theorem dX3_takeAway_97 : decode cX3_takeAway 97 = .ok (.iload_n 1, 1) := by decide +kernel
theorem dX3_takeAway_98 : decode cX3_takeAway 98 = .ok (.if_icmp .le 15, 3) := by decide +kernel
theorem dX3_takeAway_101 : decode cX3_takeAway 101 = .ok (.aload_n 0, 1) := by decide +kernel
theorem dX3_takeAway_102 : decode cX3_takeAway 102 = .ok (.iload_n 2, 1) := by decide +kernel
theorem dX3_takeAway_103 : decode cX3_takeAway 103 = .ok (.aload_n 0, 1) := by decide +kernel
theorem dX3_takeAway_104 : decode cX3_takeAway 104 = .ok (.iload_n 2, 1) := by decide +kernel
theorem dX3_takeAway_105 : decode cX3_takeAway 105 = .ok (.invokevirtual 32, 3) := by decide +kernel
theorem dX3_takeAway_108 : decode cX3_takeAway 108 = .ok (.iconst 1, 1) := by decide +kernel
theorem dX3_takeAway_109 : decode cX3_takeAway 109 = .ok (.isub, 1) := by decide +kernel
