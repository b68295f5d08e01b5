theorem dX5_takenOf_63 : decode cX5_takenOf 63 = .ok (.iconst (-1), 1) := by decide +kernel
theorem dX5_takenOf_64 : decode cX5_takenOf 64 = .ok (.ireturn, 1) := by decide +kernel
theorem dX6_init_0 : decode cX6_init 0 = .ok (.aload_n 0, 1) := by decide +kernel
theorem dX6_init_1 : decode cX6_init 1 = .ok (.invokespecial 3, 3) := by decide +kernel
theorem dX6_init_4 : decode cX6_init 4 = .ok (.aload_n 0, 1) := by decide +kernel
theorem dX6_init_5 : decode cX6_init 5 = .ok (.sipush 241, 3) := by decide +kernel
theorem dX6_init_8 : decode cX6_init 8 = .ok (.newarray .boolean, 2) := by decide +kernel
theorem dX6_init_10 : decode cX6_init 10 = .ok (.putfield 9, 3) := by decide +kernel
theorem dX6_init_13 : decode cX6_init 13 = .ok (.return_, 1) := by decide +kernel
theorem dX6_tidy_0 : decode cX6_tidy 0 = .ok (.aload_n 0, 1) := by decide +kernel
theorem dX6_tidy_1 : decode cX6_tidy 1 = .ok (.aload_n 1, 1) := by decide +kernel
theorem dX6_tidy_2 : decode cX6_tidy 2 = .ok (.invokevirtual 15, 3) := by decide +kernel
theorem dX6_tidy_5 : decode cX6_tidy 5 = .ok (.istore_n 2, 1) := by decide +kernel
theorem dX6_tidy_6 : decode cX6_tidy 6 = .ok (.iconst 0, 1) := by decide +kernel
theorem dX6_tidy_7 : decode cX6_tidy 7 = .ok (.istore_n 3, 1) := by decide +kernel
theorem dX6_tidy_8 : decode cX6_tidy 8 = .ok (.iload_n 2, 1) := by decide +kernel
theorem dX6_tidy_9 : decode cX6_tidy 9 = .ok (.iconst (-1), 1) := by decide +kernel
theorem dX6_tidy_10 : decode cX6_tidy 10 = .ok (.if_icmp .eq 27, 3) := by decide +kernel
theorem dX6_tidy_13 : decode cX6_tidy 13 = .ok (.iload_n 3, 1) := by decide +kernel
theorem dX6_tidy_14 : decode cX6_tidy 14 = .ok (.sipush 240, 3) := by decide +kernel
theorem dX6_tidy_17 : decode cX6_tidy 17 = .ok (.if_icmp .ge 20, 3) := by decide +kernel
theorem dX6_tidy_20 : decode cX6_tidy 20 = .ok (.aload_n 1, 1) := by decide +kernel
theorem dX6_tidy_21 : decode cX6_tidy 21 = .ok (.iload_n 2, 1) := by decide +kernel
theorem dX6_tidy_22 : decode cX6_tidy 22 = .ok (.invokevirtual 19, 3) := by decide +kernel
theorem dX6_tidy_25 : decode cX6_tidy 25 = .ok (.aload_n 0, 1) := by decide +kernel
theorem dX6_tidy_26 : decode cX6_tidy 26 = .ok (.aload_n 1, 1) := by decide +kernel
theorem dX6_tidy_27 : decode cX6_tidy 27 = .ok (.invokevirtual 15, 3) := by decide +kernel
theorem dX6_tidy_30 : decode cX6_tidy 30 = .ok (.istore_n 2, 1) := by decide +kernel
theorem dX6_tidy_31 : decode cX6_tidy 31 = .ok (.iinc 3 1, 3) := by decide +kernel
theorem dX6_tidy_34 : decode cX6_tidy 34 = .ok (.goto (-26), 3) := by decide +kernel
theorem dX6_tidy_37 : decode cX6_tidy 37 = .ok (.return_, 1) := by decide +kernel
theorem dX6_firstNeedless_0 : decode cX6_firstNeedless 0 = .ok (.aload_n 0, 1) := by decide +kernel
theorem dX6_firstNeedless_1 : decode cX6_firstNeedless 1 = .ok (.aload_n 1, 1) := by decide +kernel
theorem dX6_firstNeedless_2 : decode cX6_firstNeedless 2 = .ok (.invokevirtual 25, 3) := by decide +kernel
theorem dX6_firstNeedless_5 : decode cX6_firstNeedless 5 = .ok (.iconst 0, 1) := by decide +kernel
theorem dX6_firstNeedless_6 : decode cX6_firstNeedless 6 = .ok (.istore_n 2, 1) := by decide +kernel
theorem dX6_firstNeedless_7 : decode cX6_firstNeedless 7 = .ok (.iload_n 2, 1) := by decide +kernel
theorem dX6_firstNeedless_8 : decode cX6_firstNeedless 8 = .ok (.aload_n 1, 1) := by decide +kernel
theorem dX6_firstNeedless_9 : decode cX6_firstNeedless 9 = .ok (.getfield 29, 3) := by decide +kernel
theorem dX6_firstNeedless_12 : decode cX6_firstNeedless 12 = .ok (.if_icmp .ge 40, 3) := by decide +kernel
theorem dX6_firstNeedless_15 : decode cX6_firstNeedless 15 = .ok (.aload_n 1, 1) := by decide +kernel
theorem dX6_firstNeedless_16 : decode cX6_firstNeedless 16 = .ok (.iload_n 2, 1) := by decide +kernel
theorem dX6_firstNeedless_17 : decode cX6_firstNeedless 17 = .ok (.invokestatic 33, 3) := by decide +kernel
theorem dX6_firstNeedless_20 : decode cX6_firstNeedless 20 = .ok (.ifCond .ne 24, 3) := by decide +kernel
theorem dX6_firstNeedless_23 : decode cX6_firstNeedless 23 = .ok (.iload_n 2, 1) := by decide +kernel
theorem dX6_firstNeedless_24 : decode cX6_firstNeedless 24 = .ok (.ifCond .le 22, 3) := by decide +kernel
theorem dX6_firstNeedless_27 : decode cX6_firstNeedless 27 = .ok (.aload_n 0, 1) := by decide +kernel
theorem dX6_firstNeedless_28 : decode cX6_firstNeedless 28 = .ok (.getfield 9, 3) := by decide +kernel
theorem dX6_firstNeedless_31 : decode cX6_firstNeedless 31 = .ok (.iload_n 2, 1) := by decide +kernel
theorem dX6_firstNeedless_32 : decode cX6_firstNeedless 32 = .ok (.baload, 1) := by decide +kernel
theorem dX6_firstNeedless_33 : decode cX6_firstNeedless 33 = .ok (.ifCond .ne 13, 3) := by decide +kernel
theorem dX6_firstNeedless_36 : decode cX6_firstNeedless 36 = .ok (.aload_n 1, 1) := by decide +kernel
theorem dX6_firstNeedless_37 : decode cX6_firstNeedless 37 = .ok (.iload_n 2, 1) := by decide +kernel
theorem dX6_firstNeedless_38 : decode cX6_firstNeedless 38 = .ok (.invokestatic 37, 3) := by decide +kernel
theorem dX6_firstNeedless_41 : decode cX6_firstNeedless 41 = .ok (.ifCond .eq 5, 3) := by decide +kernel
theorem dX6_firstNeedless_44 : decode cX6_firstNeedless 44 = .ok (.iload_n 2, 1) := by decide +kernel
theorem dX6_firstNeedless_45 : decode cX6_firstNeedless 45 = .ok (.ireturn, 1) := by decide +kernel
theorem dX6_firstNeedless_46 : decode cX6_firstNeedless 46 = .ok (.iinc 2 1, 3) := by decide +kernel
theorem dX6_firstNeedless_49 : decode cX6_firstNeedless 49 = .ok (.goto (-42), 3) := by decide +kernel
theorem dX6_firstNeedless_52 : decode cX6_firstNeedless 52 = .ok (.iconst (-1), 1) := by decide +kernel
theorem dX6_firstNeedless_53 : decode cX6_firstNeedless 53 = .ok (.ireturn, 1) := by decide +kernel
theorem dX6_markLed_0 : decode cX6_markLed 0 = .ok (.iconst 0, 1) := by decide +kernel
theorem dX6_markLed_1 : decode cX6_markLed 1 = .ok (.istore_n 2, 1) := by decide +kernel
theorem dX6_markLed_2 : decode cX6_markLed 2 = .ok (.iload_n 2, 1) := by decide +kernel
theorem dX6_markLed_3 : decode cX6_markLed 3 = .ok (.aload_n 1, 1) := by decide +kernel
theorem dX6_markLed_4 : decode cX6_markLed 4 = .ok (.getfield 29, 3) := by decide +kernel
theorem dX6_markLed_7 : decode cX6_markLed 7 = .ok (.if_icmp .gt 16, 3) := by decide +kernel
theorem dX6_markLed_10 : decode cX6_markLed 10 = .ok (.aload_n 0, 1) := by decide +kernel
theorem dX6_markLed_11 : decode cX6_markLed 11 = .ok (.getfield 9, 3) := by decide +kernel
theorem dX6_markLed_14 : decode cX6_markLed 14 = .ok (.iload_n 2, 1) := by decide +kernel
theorem dX6_markLed_15 : decode cX6_markLed 15 = .ok (.iconst 0, 1) := by decide +kernel
theorem dX6_markLed_16 : decode cX6_markLed 16 = .ok (.bastore, 1) := by decide +kernel
theorem dX6_markLed_17 : decode cX6_markLed 17 = .ok (.iinc 2 1, 3) := by decide +kernel
theorem dX6_markLed_20 : decode cX6_markLed 20 = .ok (.goto (-18), 3) := by decide +kernel
theorem dX6_markLed_23 : decode cX6_markLed 23 = .ok (.iconst 0, 1) := by decide +kernel
theorem dX6_markLed_24 : decode cX6_markLed 24 = .ok (.istore_n 2, 1) := by decide +kernel
theorem dX6_markLed_25 : decode cX6_markLed 25 = .ok (.iload_n 2, 1) := by decide +kernel
theorem dX6_markLed_26 : decode cX6_markLed 26 = .ok (.aload_n 1, 1) := by decide +kernel
theorem dX6_markLed_27 : decode cX6_markLed 27 = .ok (.getfield 29, 3) := by decide +kernel
theorem dX6_markLed_30 : decode cX6_markLed 30 = .ok (.if_icmp .ge 29, 3) := by decide +kernel
theorem dX6_markLed_33 : decode cX6_markLed 33 = .ok (.aload_n 1, 1) := by decide +kernel
theorem dX6_markLed_34 : decode cX6_markLed 34 = .ok (.iload_n 2, 1) := by decide +kernel
theorem dX6_markLed_35 : decode cX6_markLed 35 = .ok (.invokevirtual 40, 3) := by decide +kernel
theorem dX6_markLed_38 : decode cX6_markLed 38 = .ok (.iconst (-1), 1) := by decide +kernel
theorem dX6_markLed_39 : decode cX6_markLed 39 = .ok (.if_icmp .eq 14, 3) := by decide +kernel
theorem dX6_markLed_42 : decode cX6_markLed 42 = .ok (.aload_n 0, 1) := by decide +kernel
theorem dX6_markLed_43 : decode cX6_markLed 43 = .ok (.getfield 9, 3) := by decide +kernel
theorem dX6_markLed_46 : decode cX6_markLed 46 = .ok (.aload_n 1, 1) := by decide +kernel
theorem dX6_markLed_47 : decode cX6_markLed 47 = .ok (.iload_n 2, 1) := by decide +kernel
theorem dX6_markLed_48 : decode cX6_markLed 48 = .ok (.invokevirtual 40, 3) := by decide +kernel
theorem dX6_markLed_51 : decode cX6_markLed 51 = .ok (.iconst 1, 1) := by decide +kernel
theorem dX6_markLed_52 : decode cX6_markLed 52 = .ok (.bastore, 1) := by decide +kernel
theorem dX6_markLed_53 : decode cX6_markLed 53 = .ok (.iinc 2 1, 3) := by decide +kernel
theorem dX6_markLed_56 : decode cX6_markLed 56 = .ok (.goto (-31), 3) := by decide +kernel
theorem dX6_markLed_59 : decode cX6_markLed 59 = .ok (.return_, 1) := by decide +kernel
theorem dX6_leadsToNext_0 : decode cX6_leadsToNext 0 = .ok (.aload_n 0, 1) := by decide +kernel
theorem dX6_leadsToNext_1 : decode cX6_leadsToNext 1 = .ok (.getfield 44, 3) := by decide +kernel
theorem dX6_leadsToNext_4 : decode cX6_leadsToNext 4 = .ok (.iload_n 1, 1) := by decide +kernel
theorem dX6_leadsToNext_5 : decode cX6_leadsToNext 5 = .ok (.iaload, 1) := by decide +kernel
theorem dX6_leadsToNext_6 : decode cX6_leadsToNext 6 = .ok (.bipush 8, 2) := by decide +kernel
theorem dX6_leadsToNext_8 : decode cX6_leadsToNext 8 = .ok (.if_icmp .ne 19, 3) := by decide +kernel
theorem dX6_leadsToNext_11 : decode cX6_leadsToNext 11 = .ok (.aload_n 0, 1) := by decide +kernel
theorem dX6_leadsToNext_12 : decode cX6_leadsToNext 12 = .ok (.getfield 48, 3) := by decide +kernel
theorem dX6_leadsToNext_15 : decode cX6_leadsToNext 15 = .ok (.iload_n 1, 1) := by decide +kernel
theorem dX6_leadsToNext_16 : decode cX6_leadsToNext 16 = .ok (.iaload, 1) := by decide +kernel
theorem dX6_leadsToNext_17 : decode cX6_leadsToNext 17 = .ok (.iload_n 1, 1) := by decide +kernel
theorem dX6_leadsToNext_18 : decode cX6_leadsToNext 18 = .ok (.iconst 1, 1) := by decide +kernel
theorem dX6_leadsToNext_19 : decode cX6_leadsToNext 19 = .ok (.iadd, 1) := by decide +kernel
theorem dX6_leadsToNext_20 : decode cX6_leadsToNext 20 = .ok (.if_icmp .ne 7, 3) := by decide +kernel
theorem dX6_leadsToNext_23 : decode cX6_leadsToNext 23 = .ok (.iconst 1, 1) := by decide +kernel
theorem dX6_leadsToNext_24 : decode cX6_leadsToNext 24 = .ok (.goto 4, 3) := by decide +kernel
theorem dX6_leadsToNext_27 : decode cX6_leadsToNext 27 = .ok (.iconst 0, 1) := by decide +kernel
theorem dX6_leadsToNext_28 : decode cX6_leadsToNext 28 = .ok (.ireturn, 1) := by decide +kernel
theorem dX6_isIdleBehind_0 : decode cX6_isIdleBehind 0 = .ok (.aload_n 0, 1) := by decide +kernel
theorem dX6_isIdleBehind_1 : decode cX6_isIdleBehind 1 = .ok (.iload_n 1, 1) := by decide +kernel
theorem dX6_isIdleBehind_2 : decode cX6_isIdleBehind 2 = .ok (.iconst 1, 1) := by decide +kernel
theorem dX6_isIdleBehind_3 : decode cX6_isIdleBehind 3 = .ok (.isub, 1) := by decide +kernel
theorem dX6_isIdleBehind_4 : decode cX6_isIdleBehind 4 = .ok (.invokevirtual 51, 3) := by decide +kernel
theorem dX6_isIdleBehind_7 : decode cX6_isIdleBehind 7 = .ok (.ifCond .eq 11, 3) := by decide +kernel
theorem dX6_isIdleBehind_10 : decode cX6_isIdleBehind 10 = .ok (.aload_n 0, 1) := by decide +kernel
theorem dX6_isIdleBehind_11 : decode cX6_isIdleBehind 11 = .ok (.iload_n 1, 1) := by decide +kernel
theorem dX6_isIdleBehind_12 : decode cX6_isIdleBehind 12 = .ok (.invokestatic 55, 3) := by decide +kernel
theorem dX6_isIdleBehind_15 : decode cX6_isIdleBehind 15 = .ok (.ifCond .eq 7, 3) := by decide +kernel
theorem dX6_isIdleBehind_18 : decode cX6_isIdleBehind 18 = .ok (.iconst 1, 1) := by decide +kernel
theorem dX6_isIdleBehind_19 : decode cX6_isIdleBehind 19 = .ok (.goto 4, 3) := by decide +kernel
theorem dX6_isIdleBehind_22 : decode cX6_isIdleBehind 22 = .ok (.iconst 0, 1) := by decide +kernel
theorem dX6_isIdleBehind_23 : decode cX6_isIdleBehind 23 = .ok (.ireturn, 1) := by decide +kernel
theorem dX6_fetchesWhatWasKept_0 : decode cX6_fetchesWhatWasKept 0 = .ok (.aload_n 0, 1) := by decide +kernel
theorem dX6_fetchesWhatWasKept_1 : decode cX6_fetchesWhatWasKept 1 = .ok (.getfield 44, 3) := by decide +kernel
theorem dX6_fetchesWhatWasKept_4 : decode cX6_fetchesWhatWasKept 4 = .ok (.iload_n 1, 1) := by decide +kernel
theorem dX6_fetchesWhatWasKept_5 : decode cX6_fetchesWhatWasKept 5 = .ok (.iaload, 1) := by decide +kernel
theorem dX6_fetchesWhatWasKept_6 : decode cX6_fetchesWhatWasKept 6 = .ok (.bipush 11, 2) := by decide +kernel
theorem dX6_fetchesWhatWasKept_8 : decode cX6_fetchesWhatWasKept 8 = .ok (.if_icmp .ne 54, 3) := by decide +kernel
theorem dX6_fetchesWhatWasKept_11 : decode cX6_fetchesWhatWasKept 11 = .ok (.aload_n 0, 1) := by decide +kernel
theorem dX6_fetchesWhatWasKept_12 : decode cX6_fetchesWhatWasKept 12 = .ok (.getfield 44, 3) := by decide +kernel
theorem dX6_fetchesWhatWasKept_15 : decode cX6_fetchesWhatWasKept 15 = .ok (.iload_n 1, 1) := by decide +kernel
theorem dX6_fetchesWhatWasKept_16 : decode cX6_fetchesWhatWasKept 16 = .ok (.iconst 1, 1) := by decide +kernel
theorem dX6_fetchesWhatWasKept_17 : decode cX6_fetchesWhatWasKept 17 = .ok (.isub, 1) := by decide +kernel
theorem dX6_fetchesWhatWasKept_18 : decode cX6_fetchesWhatWasKept 18 = .ok (.iaload, 1) := by decide +kernel
theorem dX6_fetchesWhatWasKept_19 : decode cX6_fetchesWhatWasKept 19 = .ok (.bipush 12, 2) := by decide +kernel
theorem dX6_fetchesWhatWasKept_21 : decode cX6_fetchesWhatWasKept 21 = .ok (.if_icmp .ne 41, 3) := by decide +kernel
theorem dX6_fetchesWhatWasKept_24 : decode cX6_fetchesWhatWasKept 24 = .ok (.aload_n 0, 1) := by decide +kernel
theorem dX6_fetchesWhatWasKept_25 : decode cX6_fetchesWhatWasKept 25 = .ok (.getfield 48, 3) := by decide +kernel
theorem dX6_fetchesWhatWasKept_28 : decode cX6_fetchesWhatWasKept 28 = .ok (.iload_n 1, 1) := by decide +kernel
theorem dX6_fetchesWhatWasKept_29 : decode cX6_fetchesWhatWasKept 29 = .ok (.iaload, 1) := by decide +kernel
theorem dX6_fetchesWhatWasKept_30 : decode cX6_fetchesWhatWasKept 30 = .ok (.aload_n 0, 1) := by decide +kernel
theorem dX6_fetchesWhatWasKept_31 : decode cX6_fetchesWhatWasKept 31 = .ok (.getfield 48, 3) := by decide +kernel
theorem dX6_fetchesWhatWasKept_34 : decode cX6_fetchesWhatWasKept 34 = .ok (.iload_n 1, 1) := by decide +kernel
theorem dX6_fetchesWhatWasKept_35 : decode cX6_fetchesWhatWasKept 35 = .ok (.iconst 1, 1) := by decide +kernel
theorem dX6_fetchesWhatWasKept_36 : decode cX6_fetchesWhatWasKept 36 = .ok (.isub, 1) := by decide +kernel
theorem dX6_fetchesWhatWasKept_37 : decode cX6_fetchesWhatWasKept 37 = .ok (.iaload, 1) := by decide +kernel
theorem dX6_fetchesWhatWasKept_38 : decode cX6_fetchesWhatWasKept 38 = .ok (.if_icmp .ne 24, 3) := by decide +kernel
theorem dX6_fetchesWhatWasKept_41 : decode cX6_fetchesWhatWasKept 41 = .ok (.aload_n 0, 1) := by decide +kernel
theorem dX6_fetchesWhatWasKept_42 : decode cX6_fetchesWhatWasKept 42 = .ok (.getfield 58, 3) := by decide +kernel
theorem dX6_fetchesWhatWasKept_45 : decode cX6_fetchesWhatWasKept 45 = .ok (.iload_n 1, 1) := by decide +kernel
theorem dX6_fetchesWhatWasKept_46 : decode cX6_fetchesWhatWasKept 46 = .ok (.iaload, 1) := by decide +kernel
theorem dX6_fetchesWhatWasKept_47 : decode cX6_fetchesWhatWasKept 47 = .ok (.aload_n 0, 1) := by decide +kernel
theorem dX6_fetchesWhatWasKept_48 : decode cX6_fetchesWhatWasKept 48 = .ok (.getfield 58, 3) := by decide +kernel
theorem dX6_fetchesWhatWasKept_51 : decode cX6_fetchesWhatWasKept 51 = .ok (.iload_n 1, 1) := by decide +kernel
theorem dX6_fetchesWhatWasKept_52 : decode cX6_fetchesWhatWasKept 52 = .ok (.iconst 1, 1) := by decide +kernel
theorem dX6_fetchesWhatWasKept_53 : decode cX6_fetchesWhatWasKept 53 = .ok (.isub, 1) := by decide +kernel
theorem dX6_fetchesWhatWasKept_54 : decode cX6_fetchesWhatWasKept 54 = .ok (.iaload, 1) := by decide +kernel
theorem dX6_fetchesWhatWasKept_55 : decode cX6_fetchesWhatWasKept 55 = .ok (.if_icmp .ne 7, 3) := by decide +kernel
theorem dX6_fetchesWhatWasKept_58 : decode cX6_fetchesWhatWasKept 58 = .ok (.iconst 1, 1) := by decide +kernel
theorem dX6_fetchesWhatWasKept_59 : decode cX6_fetchesWhatWasKept 59 = .ok (.goto 4, 3) := by decide +kernel
theorem dX6_fetchesWhatWasKept_62 : decode cX6_fetchesWhatWasKept 62 = .ok (.iconst 0, 1) := by decide +kernel
theorem dX6_fetchesWhatWasKept_63 : decode cX6_fetchesWhatWasKept 63 = .ok (.ireturn, 1) := by decide +kernel
theorem dX7_init_0 : decode cX7_init 0 = .ok (.aload_n 0, 1) := by decide +kernel
theorem dX7_init_1 : decode cX7_init 1 = .ok (.invokespecial 3, 3) := by decide +kernel
theorem dX7_init_4 : decode cX7_init 4 = .ok (.aload_n 0, 1) := by decide +kernel
theorem dX7_init_5 : decode cX7_init 5 = .ok (.new 9, 3) := by decide +kernel
theorem dX7_init_8 : decode cX7_init 8 = .ok (.dup, 1) := by decide +kernel
theorem dX7_init_9 : decode cX7_init 9 = .ok (.invokespecial 11, 3) := by decide +kernel
theorem dX7_init_12 : decode cX7_init 12 = .ok (.putfield 12, 3) := by decide +kernel
theorem dX7_init_15 : decode cX7_init 15 = .ok (.aload_n 0, 1) := by decide +kernel
theorem dX7_init_16 : decode cX7_init 16 = .ok (.new 16, 3) := by decide +kernel
theorem dX7_init_19 : decode cX7_init 19 = .ok (.dup, 1) := by decide +kernel
theorem dX7_init_20 : decode cX7_init 20 = .ok (.invokespecial 18, 3) := by decide +kernel
theorem dX7_init_23 : decode cX7_init 23 = .ok (.putfield 19, 3) := by decide +kernel
theorem dX7_init_26 : decode cX7_init 26 = .ok (.aload_n 0, 1) := by decide +kernel
theorem dX7_init_27 : decode cX7_init 27 = .ok (.new 23, 3) := by decide +kernel
theorem dX7_init_30 : decode cX7_init 30 = .ok (.dup, 1) := by decide +kernel
theorem dX7_init_31 : decode cX7_init 31 = .ok (.invokespecial 25, 3) := by decide +kernel
theorem dX7_init_34 : decode cX7_init 34 = .ok (.putfield 26, 3) := by decide +kernel
theorem dX7_init_37 : decode cX7_init 37 = .ok (.aload_n 0, 1) := by decide +kernel
theorem dX7_init_38 : decode cX7_init 38 = .ok (.new 30, 3) := by decide +kernel
theorem dX7_init_41 : decode cX7_init 41 = .ok (.dup, 1) := by decide +kernel
theorem dX7_init_42 : decode cX7_init 42 = .ok (.invokespecial 32, 3) := by decide +kernel
theorem dX7_init_45 : decode cX7_init 45 = .ok (.putfield 33, 3) := by decide +kernel
theorem dX7_init_48 : decode cX7_init 48 = .ok (.aload_n 0, 1) := by decide +kernel
theorem dX7_init_49 : decode cX7_init 49 = .ok (.new 37, 3) := by decide +kernel
theorem dX7_init_52 : decode cX7_init 52 = .ok (.dup, 1) := by decide +kernel
theorem dX7_init_53 : decode cX7_init 53 = .ok (.invokespecial 39, 3) := by decide +kernel
theorem dX7_init_56 : decode cX7_init 56 = .ok (.putfield 40, 3) := by decide +kernel
theorem dX7_init_59 : decode cX7_init 59 = .ok (.aload_n 0, 1) := by decide +kernel
theorem dX7_init_60 : decode cX7_init 60 = .ok (.new 44, 3) := by decide +kernel
theorem dX7_init_63 : decode cX7_init 63 = .ok (.dup, 1) := by decide +kernel
theorem dX7_init_64 : decode cX7_init 64 = .ok (.sipush 240, 3) := by decide +kernel
theorem dX7_init_67 : decode cX7_init 67 = .ok (.invokespecial 46, 3) := by decide +kernel
theorem dX7_init_70 : decode cX7_init 70 = .ok (.putfield 49, 3) := by decide +kernel
theorem dX7_init_73 : decode cX7_init 73 = .ok (.aload_n 0, 1) := by decide +kernel
theorem dX7_init_74 : decode cX7_init 74 = .ok (.new 44, 3) := by decide +kernel
theorem dX7_init_77 : decode cX7_init 77 = .ok (.dup, 1) := by decide +kernel
theorem dX7_init_78 : decode cX7_init 78 = .ok (.sipush 240, 3) := by decide +kernel
theorem dX7_init_81 : decode cX7_init 81 = .ok (.invokespecial 46, 3) := by decide +kernel
theorem dX7_init_84 : decode cX7_init 84 = .ok (.putfield 53, 3) := by decide +kernel
theorem dX7_init_87 : decode cX7_init 87 = .ok (.aload_n 0, 1) := by decide +kernel
theorem dX7_init_88 : decode cX7_init 88 = .ok (.bipush 64, 2) := by decide +kernel
theorem dX7_init_90 : decode cX7_init 90 = .ok (.newarray .int, 2) := by decide +kernel
theorem dX7_init_92 : decode cX7_init 92 = .ok (.putfield 56, 3) := by decide +kernel
theorem dX7_init_95 : decode cX7_init 95 = .ok (.aload_n 0, 1) := by decide +kernel
theorem dX7_init_96 : decode cX7_init 96 = .ok (.new 60, 3) := by decide +kernel
theorem dX7_init_99 : decode cX7_init 99 = .ok (.dup, 1) := by decide +kernel
theorem dX7_init_100 : decode cX7_init 100 = .ok (.invokespecial 62, 3) := by decide +kernel
theorem dX7_init_103 : decode cX7_init 103 = .ok (.putfield 63, 3) := by decide +kernel
theorem dX7_init_106 : decode cX7_init 106 = .ok (.aload_n 0, 1) := by decide +kernel
theorem dX7_init_107 : decode cX7_init 107 = .ok (.new 60, 3) := by decide +kernel
theorem dX7_init_110 : decode cX7_init 110 = .ok (.dup, 1) := by decide +kernel
theorem dX7_init_111 : decode cX7_init 111 = .ok (.invokespecial 62, 3) := by decide +kernel
theorem dX7_init_114 : decode cX7_init 114 = .ok (.putfield 67, 3) := by decide +kernel
theorem dX7_init_117 : decode cX7_init 117 = .ok (.aload_n 0, 1) := by decide +kernel
theorem dX7_init_118 : decode cX7_init 118 = .ok (.new 60, 3) := by decide +kernel
theorem dX7_init_121 : decode cX7_init 121 = .ok (.dup, 1) := by decide +kernel
theorem dX7_init_122 : decode cX7_init 122 = .ok (.invokespecial 62, 3) := by decide +kernel
theorem dX7_init_125 : decode cX7_init 125 = .ok (.putfield 70, 3) := by decide +kernel
theorem dX7_init_128 : decode cX7_init 128 = .ok (.aload_n 0, 1) := by decide +kernel
theorem dX7_init_129 : decode cX7_init 129 = .ok (.iconst 0, 1) := by decide +kernel
theorem dX7_init_130 : decode cX7_init 130 = .ok (.putfield 73, 3) := by decide +kernel
theorem dX7_init_133 : decode cX7_init 133 = .ok (.return_, 1) := by decide +kernel
theorem dX7_value_0 : decode cX7_value 0 = .ok (.iload_n 1, 1) := by decide +kernel
theorem dX7_value_1 : decode cX7_value 1 = .ok (.invokestatic 77, 3) := by decide +kernel
theorem dX7_value_4 : decode cX7_value 4 = .ok (.ifCond .eq 15, 3) := by decide +kernel
theorem dX7_value_7 : decode cX7_value 7 = .ok (.aload_n 0, 1) := by decide +kernel
theorem dX7_value_8 : decode cX7_value 8 = .ok (.getfield 12, 3) := by decide +kernel
theorem dX7_value_11 : decode cX7_value 11 = .ok (.getfield 81, 3) := by decide +kernel
theorem dX7_value_14 : decode cX7_value 14 = .ok (.bipush 24, 2) := by decide +kernel
theorem dX7_value_16 : decode cX7_value 16 = .ok (.if_icmp .lt 5, 3) := by decide +kernel
theorem dX7_value_19 : decode cX7_value 19 = .ok (.iconst (-1), 1) := by decide +kernel
theorem dX7_value_20 : decode cX7_value 20 = .ok (.ireturn, 1) := by decide +kernel
theorem dX7_value_21 : decode cX7_value 21 = .ok (.aload_n 0, 1) := by decide +kernel
theorem dX7_value_22 : decode cX7_value 22 = .ok (.iconst 0, 1) := by decide +kernel
theorem dX7_value_23 : decode cX7_value 23 = .ok (.putfield 73, 3) := by decide +kernel
theorem dX7_value_26 : decode cX7_value 26 = .ok (.aload_n 0, 1) := by decide +kernel
theorem dX7_value_27 : decode cX7_value 27 = .ok (.getfield 12, 3) := by decide +kernel
theorem dX7_value_30 : decode cX7_value 30 = .ok (.iload_n 1, 1) := by decide +kernel
theorem dX7_value_31 : decode cX7_value 31 = .ok (.invokevirtual 84, 3) := by decide +kernel
theorem dX7_value_34 : decode cX7_value 34 = .ok (.ireturn, 1) := by decide +kernel
theorem dX7_put_0 : decode cX7_put 0 = .ok (.aload_n 0, 1) := by decide +kernel
theorem dX7_put_1 : decode cX7_put 1 = .ok (.getfield 12, 3) := by decide +kernel
theorem dX7_put_4 : decode cX7_put 4 = .ok (.getfield 88, 3) := by decide +kernel
theorem dX7_put_7 : decode cX7_put 7 = .ok (.getfield 91, 3) := by decide +kernel
theorem dX7_put_10 : decode cX7_put 10 = .ok (.bipush 60, 2) := by decide +kernel
theorem dX7_put_12 : decode cX7_put 12 = .ok (.if_icmp .ge 18, 3) := by decide +kernel
theorem dX7_put_15 : decode cX7_put 15 = .ok (.aload_n 0, 1) := by decide +kernel
theorem dX7_put_16 : decode cX7_put 16 = .ok (.getfield 12, 3) := by decide +kernel
theorem dX7_put_19 : decode cX7_put 19 = .ok (.iload_n 1, 1) := by decide +kernel
theorem dX7_put_20 : decode cX7_put 20 = .ok (.iload_n 2, 1) := by decide +kernel
theorem dX7_put_21 : decode cX7_put 21 = .ok (.iload_n 3, 1) := by decide +kernel
theorem dX7_put_22 : decode cX7_put 22 = .ok (.iload 4, 2) := by decide +kernel
theorem dX7_put_24 : decode cX7_put 24 = .ok (.invokevirtual 94, 3) := by decide +kernel
theorem dX7_put_27 : decode cX7_put 27 = .ok (.ifCond .ne 5, 3) := by decide +kernel
theorem dX7_put_30 : decode cX7_put 30 = .ok (.iconst (-1), 1) := by decide +kernel
theorem dX7_put_31 : decode cX7_put 31 = .ok (.ireturn, 1) := by decide +kernel
theorem dX7_put_32 : decode cX7_put 32 = .ok (.aload_n 0, 1) := by decide +kernel
theorem dX7_put_33 : decode cX7_put 33 = .ok (.iconst 0, 1) := by decide +kernel
theorem dX7_put_34 : decode cX7_put 34 = .ok (.putfield 73, 3) := by decide +kernel
theorem dX7_put_37 : decode cX7_put 37 = .ok (.aload_n 0, 1) := by decide +kernel
theorem dX7_put_38 : decode cX7_put 38 = .ok (.getfield 12, 3) := by decide +kernel
theorem dX7_put_41 : decode cX7_put 41 = .ok (.iload_n 1, 1) := by decide +kernel
theorem dX7_put_42 : decode cX7_put 42 = .ok (.iload_n 2, 1) := by decide +kernel
theorem dX7_put_43 : decode cX7_put 43 = .ok (.iload_n 3, 1) := by decide +kernel
theorem dX7_put_44 : decode cX7_put 44 = .ok (.iload 4, 2) := by decide +kernel
theorem dX7_put_46 : decode cX7_put 46 = .ok (.invokevirtual 98, 3) := by decide +kernel
theorem dX7_put_49 : decode cX7_put 49 = .ok (.ireturn, 1) := by decide +kernel
theorem dX7_clear_0 : decode cX7_clear 0 = .ok (.aload_n 0, 1) := by decide +kernel
theorem dX7_clear_1 : decode cX7_clear 1 = .ok (.getfield 12, 3) := by decide +kernel
theorem dX7_clear_4 : decode cX7_clear 4 = .ok (.getfield 88, 3) := by decide +kernel
theorem dX7_clear_7 : decode cX7_clear 7 = .ok (.getfield 91, 3) := by decide +kernel
theorem dX7_clear_10 : decode cX7_clear 10 = .ok (.istore_n 1, 1) := by decide +kernel
theorem dX7_clear_11 : decode cX7_clear 11 = .ok (.aload_n 0, 1) := by decide +kernel
theorem dX7_clear_12 : decode cX7_clear 12 = .ok (.getfield 12, 3) := by decide +kernel
theorem dX7_clear_15 : decode cX7_clear 15 = .ok (.getfield 88, 3) := by decide +kernel
theorem dX7_clear_18 : decode cX7_clear 18 = .ok (.iconst 0, 1) := by decide +kernel
theorem dX7_clear_19 : decode cX7_clear 19 = .ok (.putfield 91, 3) := by decide +kernel
theorem dX7_clear_22 : decode cX7_clear 22 = .ok (.aload_n 0, 1) := by decide +kernel
theorem dX7_clear_23 : decode cX7_clear 23 = .ok (.iconst 0, 1) := by decide +kernel
theorem dX7_clear_24 : decode cX7_clear 24 = .ok (.putfield 73, 3) := by decide +kernel
theorem dX7_clear_27 : decode cX7_clear 27 = .ok (.iload_n 1, 1) := by decide +kernel
theorem dX7_clear_28 : decode cX7_clear 28 = .ok (.ireturn, 1) := by decide +kernel
theorem dX7_registers_0 : decode cX7_registers 0 = .ok (.iload_n 1, 1) := by decide +kernel
theorem dX7_registers_1 : decode cX7_registers 1 = .ok (.invokestatic 77, 3) := by decide +kernel
theorem dX7_registers_4 : decode cX7_registers 4 = .ok (.ifCond .eq 13, 3) := by decide +kernel
theorem dX7_registers_7 : decode cX7_registers 7 = .ok (.iload_n 2, 1) := by decide +kernel
theorem dX7_registers_8 : decode cX7_registers 8 = .ok (.ifCond .lt 9, 3) := by decide +kernel
theorem dX7_registers_11 : decode cX7_registers 11 = .ok (.iload_n 2, 1) := by decide +kernel
theorem dX7_registers_12 : decode cX7_registers 12 = .ok (.bipush 8, 2) := by decide +kernel
theorem dX7_registers_14 : decode cX7_registers 14 = .ok (.if_icmp .le 5, 3) := by decide +kernel
theorem dX7_registers_17 : decode cX7_registers 17 = .ok (.iconst 0, 1) := by decide +kernel
theorem dX7_registers_18 : decode cX7_registers 18 = .ok (.ireturn, 1) := by decide +kernel
theorem dX7_registers_19 : decode cX7_registers 19 = .ok (.aload_n 0, 1) := by decide +kernel
theorem dX7_registers_20 : decode cX7_registers 20 = .ok (.getfield 26, 3) := by decide +kernel
theorem dX7_registers_23 : decode cX7_registers 23 = .ok (.getfield 102, 3) := by decide +kernel
theorem dX7_registers_26 : decode cX7_registers 26 = .ok (.iload_n 1, 1) := by decide +kernel
theorem dX7_registers_27 : decode cX7_registers 27 = .ok (.iload_n 2, 1) := by decide +kernel
theorem dX7_registers_28 : decode cX7_registers 28 = .ok (.iastore, 1) := by decide +kernel
theorem dX7_registers_29 : decode cX7_registers 29 = .ok (.aload_n 0, 1) := by decide +kernel
theorem dX7_registers_30 : decode cX7_registers 30 = .ok (.iconst 0, 1) := by decide +kernel
theorem dX7_registers_31 : decode cX7_registers 31 = .ok (.putfield 73, 3) := by decide +kernel
theorem dX7_registers_34 : decode cX7_registers 34 = .ok (.iconst 1, 1) := by decide +kernel
theorem dX7_registers_35 : decode cX7_registers 35 = .ok (.ireturn, 1) := by decide +kernel
theorem dX7_memory_0 : decode cX7_memory 0 = .ok (.iload_n 1, 1) := by decide +kernel
theorem dX7_memory_1 : decode cX7_memory 1 = .ok (.invokestatic 105, 3) := by decide +kernel
theorem dX7_memory_4 : decode cX7_memory 4 = .ok (.ifCond .ne 5, 3) := by decide +kernel
theorem dX7_memory_7 : decode cX7_memory 7 = .ok (.iconst 0, 1) := by decide +kernel
theorem dX7_memory_8 : decode cX7_memory 8 = .ok (.ireturn, 1) := by decide +kernel
theorem dX7_memory_9 : decode cX7_memory 9 = .ok (.aload_n 0, 1) := by decide +kernel
theorem dX7_memory_10 : decode cX7_memory 10 = .ok (.getfield 56, 3) := by decide +kernel
theorem dX7_memory_13 : decode cX7_memory 13 = .ok (.iload_n 1, 1) := by decide +kernel
theorem dX7_memory_14 : decode cX7_memory 14 = .ok (.iload_n 2, 1) := by decide +kernel
theorem dX7_memory_15 : decode cX7_memory 15 = .ok (.iastore, 1) := by decide +kernel
theorem dX7_memory_16 : decode cX7_memory 16 = .ok (.iconst 1, 1) := by decide +kernel
theorem dX7_memory_17 : decode cX7_memory 17 = .ok (.ireturn, 1) := by decide +kernel
theorem dX7_live_0 : decode cX7_live 0 = .ok (.iload_n 1, 1) := by decide +kernel
theorem dX7_live_1 : decode cX7_live 1 = .ok (.ifCond .lt 17, 3) := by decide +kernel
theorem dX7_live_4 : decode cX7_live 4 = .ok (.iload_n 1, 1) := by decide +kernel
theorem dX7_live_5 : decode cX7_live 5 = .ok (.aload_n 0, 1) := by decide +kernel
theorem dX7_live_6 : decode cX7_live 6 = .ok (.getfield 12, 3) := by decide +kernel
theorem dX7_live_9 : decode cX7_live 9 = .ok (.getfield 88, 3) := by decide +kernel
theorem dX7_live_12 : decode cX7_live 12 = .ok (.getfield 91, 3) := by decide +kernel
theorem dX7_live_15 : decode cX7_live 15 = .ok (.if_icmp .lt 5, 3) := by decide +kernel
theorem dX7_live_18 : decode cX7_live 18 = .ok (.iconst (-1), 1) := by decide +kernel
theorem dX7_live_19 : decode cX7_live 19 = .ok (.ireturn, 1) := by decide +kernel
theorem dX7_live_20 : decode cX7_live 20 = .ok (.aload_n 0, 1) := by decide +kernel
theorem dX7_live_21 : decode cX7_live 21 = .ok (.iconst 1, 1) := by decide +kernel
theorem dX7_live_22 : decode cX7_live 22 = .ok (.invokevirtual 108, 3) := by decide +kernel
theorem dX7_live_25 : decode cX7_live 25 = .ok (.aload_n 0, 1) := by decide +kernel
theorem dX7_live_26 : decode cX7_live 26 = .ok (.getfield 19, 3) := by decide +kernel
theorem dX7_live_29 : decode cX7_live 29 = .ok (.getfield 111, 3) := by decide +kernel
theorem dX7_live_32 : decode cX7_live 32 = .ok (.iload_n 1, 1) := by decide +kernel
theorem dX7_live_33 : decode cX7_live 33 = .ok (.iaload, 1) := by decide +kernel
theorem dX7_live_34 : decode cX7_live 34 = .ok (.ireturn, 1) := by decide +kernel
theorem dX7_inWay_0 : decode cX7_inWay 0 = .ok (.aload_n 0, 1) := by decide +kernel
theorem dX7_inWay_1 : decode cX7_inWay 1 = .ok (.getfield 12, 3) := by decide +kernel
theorem dX7_inWay_4 : decode cX7_inWay 4 = .ok (.iload_n 1, 1) := by decide +kernel
theorem dX7_inWay_5 : decode cX7_inWay 5 = .ok (.invokevirtual 114, 3) := by decide +kernel
theorem dX7_inWay_8 : decode cX7_inWay 8 = .ok (.ifCond .ne 5, 3) := by decide +kernel
theorem dX7_inWay_11 : decode cX7_inWay 11 = .ok (.iconst (-1), 1) := by decide +kernel
theorem dX7_inWay_12 : decode cX7_inWay 12 = .ok (.ireturn, 1) := by decide +kernel
theorem dX7_inWay_13 : decode cX7_inWay 13 = .ok (.aload_n 0, 1) := by decide +kernel
theorem dX7_inWay_14 : decode cX7_inWay 14 = .ok (.iconst 1, 1) := by decide +kernel
theorem dX7_inWay_15 : decode cX7_inWay 15 = .ok (.invokevirtual 108, 3) := by decide +kernel
theorem dX7_inWay_18 : decode cX7_inWay 18 = .ok (.aload_n 0, 1) := by decide +kernel
theorem dX7_inWay_19 : decode cX7_inWay 19 = .ok (.getfield 19, 3) := by decide +kernel
theorem dX7_inWay_22 : decode cX7_inWay 22 = .ok (.getfield 117, 3) := by decide +kernel
theorem dX7_inWay_25 : decode cX7_inWay 25 = .ok (.iload_n 1, 1) := by decide +kernel
theorem dX7_inWay_26 : decode cX7_inWay 26 = .ok (.iaload, 1) := by decide +kernel
theorem dX7_inWay_27 : decode cX7_inWay 27 = .ok (.ireturn, 1) := by decide +kernel
theorem dX7_weight_0 : decode cX7_weight 0 = .ok (.aload_n 0, 1) := by decide +kernel
theorem dX7_weight_1 : decode cX7_weight 1 = .ok (.getfield 12, 3) := by decide +kernel
theorem dX7_weight_4 : decode cX7_weight 4 = .ok (.iload_n 1, 1) := by decide +kernel
theorem dX7_weight_5 : decode cX7_weight 5 = .ok (.invokevirtual 114, 3) := by decide +kernel
theorem dX7_weight_8 : decode cX7_weight 8 = .ok (.ifCond .ne 5, 3) := by decide +kernel
theorem dX7_weight_11 : decode cX7_weight 11 = .ok (.iconst (-1), 1) := by decide +kernel
theorem dX7_weight_12 : decode cX7_weight 12 = .ok (.ireturn, 1) := by decide +kernel
theorem dX7_weight_13 : decode cX7_weight 13 = .ok (.aload_n 0, 1) := by decide +kernel
theorem dX7_weight_14 : decode cX7_weight 14 = .ok (.iconst 2, 1) := by decide +kernel
theorem dX7_weight_15 : decode cX7_weight 15 = .ok (.invokevirtual 108, 3) := by decide +kernel
theorem dX7_weight_18 : decode cX7_weight 18 = .ok (.aload_n 0, 1) := by decide +kernel
theorem dX7_weight_19 : decode cX7_weight 19 = .ok (.getfield 26, 3) := by decide +kernel
theorem dX7_weight_22 : decode cX7_weight 22 = .ok (.getfield 120, 3) := by decide +kernel
theorem dX7_weight_25 : decode cX7_weight 25 = .ok (.iload_n 1, 1) := by decide +kernel
theorem dX7_weight_26 : decode cX7_weight 26 = .ok (.iaload, 1) := by decide +kernel
theorem dX7_weight_27 : decode cX7_weight 27 = .ok (.ireturn, 1) := by decide +kernel
theorem dX7_home_0 : decode cX7_home 0 = .ok (.aload_n 0, 1) := by decide +kernel
theorem dX7_home_1 : decode cX7_home 1 = .ok (.getfield 12, 3) := by decide +kernel
theorem dX7_home_4 : decode cX7_home 4 = .ok (.iload_n 1, 1) := by decide +kernel
theorem dX7_home_5 : decode cX7_home 5 = .ok (.invokevirtual 114, 3) := by decide +kernel
theorem dX7_home_8 : decode cX7_home 8 = .ok (.ifCond .ne 5, 3) := by decide +kernel
theorem dX7_home_11 : decode cX7_home 11 = .ok (.iconst (-1), 1) := by decide +kernel
theorem dX7_home_12 : decode cX7_home 12 = .ok (.ireturn, 1) := by decide +kernel
theorem dX7_home_13 : decode cX7_home 13 = .ok (.aload_n 0, 1) := by decide +kernel
theorem dX7_home_14 : decode cX7_home 14 = .ok (.iconst 2, 1) := by decide +kernel
theorem dX7_home_15 : decode cX7_home 15 = .ok (.invokevirtual 108, 3) := by decide +kernel
theorem dX7_home_18 : decode cX7_home 18 = .ok (.aload_n 0, 1) := by decide +kernel
theorem dX7_home_19 : decode cX7_home 19 = .ok (.getfield 26, 3) := by decide +kernel
theorem dX7_home_22 : decode cX7_home 22 = .ok (.getfield 123, 3) := by decide +kernel
theorem dX7_home_25 : decode cX7_home 25 = .ok (.iload_n 1, 1) := by decide +kernel
theorem dX7_home_26 : decode cX7_home 26 = .ok (.iaload, 1) := by decide +kernel
theorem dX7_home_27 : decode cX7_home 27 = .ok (.ireturn, 1) := by decide +kernel
theorem dX7_order_0 : decode cX7_order 0 = .ok (.aload_n 0, 1) := by decide +kernel
theorem dX7_order_1 : decode cX7_order 1 = .ok (.getfield 12, 3) := by decide +kernel
theorem dX7_order_4 : decode cX7_order 4 = .ok (.iload_n 1, 1) := by decide +kernel
theorem dX7_order_5 : decode cX7_order 5 = .ok (.invokevirtual 114, 3) := by decide +kernel
theorem dX7_order_8 : decode cX7_order 8 = .ok (.ifCond .ne 5, 3) := by decide +kernel
theorem dX7_order_11 : decode cX7_order 11 = .ok (.iconst (-1), 1) := by decide +kernel
theorem dX7_order_12 : decode cX7_order 12 = .ok (.ireturn, 1) := by decide +kernel
theorem dX7_order_13 : decode cX7_order 13 = .ok (.aload_n 0, 1) := by decide +kernel
theorem dX7_order_14 : decode cX7_order 14 = .ok (.iconst 2, 1) := by decide +kernel
theorem dX7_order_15 : decode cX7_order 15 = .ok (.invokevirtual 108, 3) := by decide +kernel
theorem dX7_order_18 : decode cX7_order 18 = .ok (.aload_n 0, 1) := by decide +kernel
theorem dX7_order_19 : decode cX7_order 19 = .ok (.getfield 26, 3) := by decide +kernel
theorem dX7_order_22 : decode cX7_order 22 = .ok (.getfield 126, 3) := by decide +kernel
theorem dX7_order_25 : decode cX7_order 25 = .ok (.iload_n 1, 1) := by decide +kernel
theorem dX7_order_26 : decode cX7_order 26 = .ok (.iaload, 1) := by decide +kernel
theorem dX7_order_27 : decode cX7_order 27 = .ok (.ireturn, 1) := by decide +kernel
theorem dX7_count_0 : decode cX7_count 0 = .ok (.iload_n 1, 1) := by decide +kernel
theorem dX7_count_1 : decode cX7_count 1 = .ok (.tableswitch 104 0 5 #[39, 47, 58, 71, 84, 84], 39) := by decide +kernel
theorem dX7_count_40 : decode cX7_count 40 = .ok (.aload_n 0, 1) := by decide +kernel
theorem dX7_count_41 : decode cX7_count 41 = .ok (.getfield 12, 3) := by decide +kernel
theorem dX7_count_44 : decode cX7_count 44 = .ok (.getfield 81, 3) := by decide +kernel
theorem dX7_count_47 : decode cX7_count 47 = .ok (.ireturn, 1) := by decide +kernel
theorem dX7_count_48 : decode cX7_count 48 = .ok (.aload_n 0, 1) := by decide +kernel
theorem dX7_count_49 : decode cX7_count 49 = .ok (.getfield 12, 3) := by decide +kernel
theorem dX7_count_52 : decode cX7_count 52 = .ok (.getfield 88, 3) := by decide +kernel
theorem dX7_count_55 : decode cX7_count 55 = .ok (.getfield 91, 3) := by decide +kernel
theorem dX7_count_58 : decode cX7_count 58 = .ok (.ireturn, 1) := by decide +kernel
theorem dX7_count_59 : decode cX7_count 59 = .ok (.aload_n 0, 1) := by decide +kernel
theorem dX7_count_60 : decode cX7_count 60 = .ok (.iconst 3, 1) := by decide +kernel
theorem dX7_count_61 : decode cX7_count 61 = .ok (.invokevirtual 108, 3) := by decide +kernel
theorem dX7_count_64 : decode cX7_count 64 = .ok (.aload_n 0, 1) := by decide +kernel
theorem dX7_count_65 : decode cX7_count 65 = .ok (.getfield 49, 3) := by decide +kernel
theorem dX7_count_68 : decode cX7_count 68 = .ok (.getfield 91, 3) := by decide +kernel
theorem dX7_count_71 : decode cX7_count 71 = .ok (.ireturn, 1) := by decide +kernel
theorem dX7_count_72 : decode cX7_count 72 = .ok (.aload_n 0, 1) := by decide +kernel
theorem dX7_count_73 : decode cX7_count 73 = .ok (.iconst 4, 1) := by decide +kernel
theorem dX7_count_74 : decode cX7_count 74 = .ok (.invokevirtual 108, 3) := by decide +kernel
theorem dX7_count_77 : decode cX7_count 77 = .ok (.aload_n 0, 1) := by decide +kernel
theorem dX7_count_78 : decode cX7_count 78 = .ok (.getfield 53, 3) := by decide +kernel
theorem dX7_count_81 : decode cX7_count 81 = .ok (.getfield 91, 3) := by decide +kernel
theorem dX7_count_84 : decode cX7_count 84 = .ok (.ireturn, 1) := by decide +kernel
theorem dX7_count_85 : decode cX7_count 85 = .ok (.aload_n 0, 1) := by decide +kernel
theorem dX7_count_86 : decode cX7_count 86 = .ok (.iconst 2, 1) := by decide +kernel
theorem dX7_count_87 : decode cX7_count 87 = .ok (.invokevirtual 108, 3) := by decide +kernel
theorem dX7_count_90 : decode cX7_count 90 = .ok (.aload_n 0, 1) := by decide +kernel
theorem dX7_count_91 : decode cX7_count 91 = .ok (.getfield 26, 3) := by decide +kernel
theorem dX7_count_94 : decode cX7_count 94 = .ok (.iload_n 1, 1) := by decide +kernel
theorem dX7_count_95 : decode cX7_count 95 = .ok (.iconst 4, 1) := by decide +kernel
theorem dX7_count_96 : decode cX7_count 96 = .ok (.isub, 1) := by decide +kernel
theorem dX7_count_97 : decode cX7_count 97 = .ok (.aload_n 0, 1) := by decide +kernel
theorem dX7_count_98 : decode cX7_count 98 = .ok (.getfield 12, 3) := by decide +kernel
theorem dX7_count_101 : decode cX7_count 101 = .ok (.invokevirtual 129, 3) := by decide +kernel
theorem dX7_count_104 : decode cX7_count 104 = .ok (.ireturn, 1) := by decide +kernel
theorem dX7_count_105 : decode cX7_count 105 = .ok (.iconst (-1), 1) := by decide +kernel
theorem dX7_count_106 : decode cX7_count 106 = .ok (.ireturn, 1) := by decide +kernel
theorem dX7_item_0 : decode cX7_item 0 = .ok (.iload_n 1, 1) := by decide +kernel
theorem dX7_item_1 : decode cX7_item 1 = .ok (.iconst 1, 1) := by decide +kernel
theorem dX7_item_2 : decode cX7_item 2 = .ok (.if_icmp .eq 10, 3) := by decide +kernel
theorem dX7_item_5 : decode cX7_item 5 = .ok (.iload_n 1, 1) := by decide +kernel
theorem dX7_item_6 : decode cX7_item 6 = .ok (.iconst 2, 1) := by decide +kernel
theorem dX7_item_7 : decode cX7_item 7 = .ok (.if_icmp .eq 5, 3) := by decide +kernel
theorem dX7_item_10 : decode cX7_item 10 = .ok (.iconst (-1), 1) := by decide +kernel
theorem dX7_item_11 : decode cX7_item 11 = .ok (.ireturn, 1) := by decide +kernel
theorem dX7_item_12 : decode cX7_item 12 = .ok (.aload_n 0, 1) := by decide +kernel
theorem dX7_item_13 : decode cX7_item 13 = .ok (.iload_n 1, 1) := by decide +kernel
theorem dX7_item_14 : decode cX7_item 14 = .ok (.invokestatic 133, 3) := by decide +kernel
theorem dX7_item_17 : decode cX7_item 17 = .ok (.invokevirtual 108, 3) := by decide +kernel
theorem dX7_item_20 : decode cX7_item 20 = .ok (.aload_n 0, 1) := by decide +kernel
theorem dX7_item_21 : decode cX7_item 21 = .ok (.iload_n 1, 1) := by decide +kernel
theorem dX7_item_22 : decode cX7_item 22 = .ok (.invokevirtual 136, 3) := by decide +kernel
theorem dX7_item_25 : decode cX7_item 25 = .ok (.astore 4, 2) := by decide +kernel
theorem dX7_item_27 : decode cX7_item 27 = .ok (.iload_n 2, 1) := by decide +kernel
theorem dX7_item_28 : decode cX7_item 28 = .ok (.ifCond .lt 12, 3) := by decide +kernel
theorem dX7_item_31 : decode cX7_item 31 = .ok (.iload_n 2, 1) := by decide +kernel
theorem dX7_item_32 : decode cX7_item 32 = .ok (.aload 4, 2) := by decide +kernel
theorem dX7_item_34 : decode cX7_item 34 = .ok (.getfield 91, 3) := by decide +kernel
theorem dX7_item_37 : decode cX7_item 37 = .ok (.if_icmp .lt 5, 3) := by decide +kernel
theorem dX7_item_40 : decode cX7_item 40 = .ok (.iconst (-1), 1) := by decide +kernel
theorem dX7_item_41 : decode cX7_item 41 = .ok (.ireturn, 1) := by decide +kernel
theorem dX7_item_42 : decode cX7_item 42 = .ok (.aload 4, 2) := by decide +kernel
theorem dX7_item_44 : decode cX7_item 44 = .ok (.iload_n 2, 1) := by decide +kernel
theorem dX7_item_45 : decode cX7_item 45 = .ok (.iload_n 3, 1) := by decide +kernel
theorem dX7_item_46 : decode cX7_item 46 = .ok (.invokevirtual 140, 3) := by decide +kernel
theorem dX7_item_49 : decode cX7_item 49 = .ok (.ireturn, 1) := by decide +kernel
theorem dX7_run_0 : decode cX7_run 0 = .ok (.iload_n 1, 1) := by decide +kernel
theorem dX7_run_1 : decode cX7_run 1 = .ok (.ifCond .lt 19, 3) := by decide +kernel
theorem dX7_run_4 : decode cX7_run 4 = .ok (.iload_n 1, 1) := by decide +kernel
theorem dX7_run_5 : decode cX7_run 5 = .ok (.iconst 2, 1) := by decide +kernel
theorem dX7_run_6 : decode cX7_run 6 = .ok (.if_icmp .gt 14, 3) := by decide +kernel
theorem dX7_run_9 : decode cX7_run 9 = .ok (.iload_n 2, 1) := by decide +kernel
theorem dX7_run_10 : decode cX7_run 10 = .ok (.ifCond .lt 10, 3) := by decide +kernel
theorem dX7_run_13 : decode cX7_run 13 = .ok (.iload_n 2, 1) := by decide +kernel
theorem dX7_run_14 : decode cX7_run 14 = .ok (.sipush 2000, 3) := by decide +kernel
theorem dX7_run_17 : decode cX7_run 17 = .ok (.if_icmp .le 5, 3) := by decide +kernel
theorem dX7_run_20 : decode cX7_run 20 = .ok (.iconst (-1), 1) := by decide +kernel
theorem dX7_run_21 : decode cX7_run 21 = .ok (.ireturn, 1) := by decide +kernel
theorem dX7_run_22 : decode cX7_run 22 = .ok (.aload_n 0, 1) := by decide +kernel
theorem dX7_run_23 : decode cX7_run 23 = .ok (.iload_n 1, 1) := by decide +kernel
theorem dX7_run_24 : decode cX7_run 24 = .ok (.invokestatic 133, 3) := by decide +kernel
theorem dX7_run_27 : decode cX7_run 27 = .ok (.invokevirtual 108, 3) := by decide +kernel
theorem dX7_run_30 : decode cX7_run 30 = .ok (.aload_n 0, 1) := by decide +kernel
theorem dX7_run_31 : decode cX7_run 31 = .ok (.getfield 63, 3) := by decide +kernel
theorem dX7_run_34 : decode cX7_run 34 = .ok (.iload_n 2, 1) := by decide +kernel
theorem dX7_run_35 : decode cX7_run 35 = .ok (.aload_n 0, 1) := by decide +kernel
theorem dX7_run_36 : decode cX7_run 36 = .ok (.iload_n 1, 1) := by decide +kernel
theorem dX7_run_37 : decode cX7_run 37 = .ok (.invokevirtual 136, 3) := by decide +kernel
theorem dX7_run_40 : decode cX7_run 40 = .ok (.aload_n 0, 1) := by decide +kernel
theorem dX7_run_41 : decode cX7_run 41 = .ok (.getfield 56, 3) := by decide +kernel
theorem dX7_run_44 : decode cX7_run 44 = .ok (.invokevirtual 144, 3) := by decide +kernel
theorem dX7_run_47 : decode cX7_run 47 = .ok (.ifCond .eq 7, 3) := by decide +kernel
theorem dX7_run_50 : decode cX7_run 50 = .ok (.iconst 0, 1) := by decide +kernel
theorem dX7_run_51 : decode cX7_run 51 = .ok (.goto 4, 3) := by decide +kernel
theorem dX7_run_54 : decode cX7_run 54 = .ok (.iconst 1, 1) := by decide +kernel
theorem dX7_run_55 : decode cX7_run 55 = .ok (.ireturn, 1) := by decide +kernel
theorem dX7_made_0 : decode cX7_made 0 = .ok (.iload_n 1, 1) := by decide +kernel
theorem dX7_made_1 : decode cX7_made 1 = .ok (.lookupswitch 43 #[(0, 27), (1, 35)], 27) := by decide +kernel
theorem dX7_made_28 : decode cX7_made 28 = .ok (.aload_n 0, 1) := by decide +kernel
theorem dX7_made_29 : decode cX7_made 29 = .ok (.getfield 63, 3) := by decide +kernel
theorem dX7_made_32 : decode cX7_made 32 = .ok (.getfield 148, 3) := by decide +kernel
theorem dX7_made_35 : decode cX7_made 35 = .ok (.ireturn, 1) := by decide +kernel
theorem dX7_made_36 : decode cX7_made 36 = .ok (.aload_n 0, 1) := by decide +kernel
theorem dX7_made_37 : decode cX7_made 37 = .ok (.getfield 63, 3) := by decide +kernel
theorem dX7_made_40 : decode cX7_made 40 = .ok (.getfield 151, 3) := by decide +kernel
theorem dX7_made_43 : decode cX7_made 43 = .ok (.ireturn, 1) := by decide +kernel
theorem dX7_made_44 : decode cX7_made 44 = .ok (.iconst (-1), 1) := by decide +kernel
theorem dX7_made_45 : decode cX7_made 45 = .ok (.ireturn, 1) := by decide +kernel
theorem dX7_said_0 : decode cX7_said 0 = .ok (.iload_n 1, 1) := by decide +kernel
theorem dX7_said_1 : decode cX7_said 1 = .ok (.ifCond .lt 14, 3) := by decide +kernel
theorem dX7_said_4 : decode cX7_said 4 = .ok (.iload_n 1, 1) := by decide +kernel
theorem dX7_said_5 : decode cX7_said 5 = .ok (.aload_n 0, 1) := by decide +kernel
theorem dX7_said_6 : decode cX7_said 6 = .ok (.getfield 63, 3) := by decide +kernel
theorem dX7_said_9 : decode cX7_said 9 = .ok (.invokevirtual 154, 3) := by decide +kernel
theorem dX7_said_12 : decode cX7_said 12 = .ok (.if_icmp .lt 5, 3) := by decide +kernel
theorem dX7_said_15 : decode cX7_said 15 = .ok (.iconst 0, 1) := by decide +kernel
theorem dX7_said_16 : decode cX7_said 16 = .ok (.ireturn, 1) := by decide +kernel
theorem dX7_said_17 : decode cX7_said 17 = .ok (.aload_n 0, 1) := by decide +kernel
theorem dX7_said_18 : decode cX7_said 18 = .ok (.getfield 63, 3) := by decide +kernel
theorem dX7_said_21 : decode cX7_said 21 = .ok (.getfield 158, 3) := by decide +kernel
theorem dX7_said_24 : decode cX7_said 24 = .ok (.iload_n 1, 1) := by decide +kernel
theorem dX7_said_25 : decode cX7_said 25 = .ok (.iaload, 1) := by decide +kernel
theorem dX7_said_26 : decode cX7_said 26 = .ok (.ireturn, 1) := by decide +kernel
theorem dX7_cell_0 : decode cX7_cell 0 = .ok (.iload_n 1, 1) := by decide +kernel
theorem dX7_cell_1 : decode cX7_cell 1 = .ok (.invokestatic 105, 3) := by decide +kernel
theorem dX7_cell_4 : decode cX7_cell 4 = .ok (.ifCond .eq 15, 3) := by decide +kernel
theorem dX7_cell_7 : decode cX7_cell 7 = .ok (.aload_n 0, 1) := by decide +kernel
theorem dX7_cell_8 : decode cX7_cell 8 = .ok (.getfield 63, 3) := by decide +kernel
theorem dX7_cell_11 : decode cX7_cell 11 = .ok (.getfield 161, 3) := by decide +kernel
theorem dX7_cell_14 : decode cX7_cell 14 = .ok (.iload_n 1, 1) := by decide +kernel
theorem dX7_cell_15 : decode cX7_cell 15 = .ok (.iaload, 1) := by decide +kernel
theorem dX7_cell_16 : decode cX7_cell 16 = .ok (.goto 4, 3) := by decide +kernel
theorem dX7_cell_19 : decode cX7_cell 19 = .ok (.iconst 0, 1) := by decide +kernel
theorem dX7_cell_20 : decode cX7_cell 20 = .ok (.ireturn, 1) := by decide +kernel
theorem dX7_check_0 : decode cX7_check 0 = .ok (.aload_n 0, 1) := by decide +kernel
theorem dX7_check_1 : decode cX7_check 1 = .ok (.iconst 3, 1) := by decide +kernel
theorem dX7_check_2 : decode cX7_check 2 = .ok (.invokevirtual 108, 3) := by decide +kernel
theorem dX7_check_5 : decode cX7_check 5 = .ok (.aload_n 0, 1) := by decide +kernel
theorem dX7_check_6 : decode cX7_check 6 = .ok (.getfield 26, 3) := by decide +kernel
theorem dX7_check_9 : decode cX7_check 9 = .ok (.aload_n 0, 1) := by decide +kernel
theorem dX7_check_10 : decode cX7_check 10 = .ok (.getfield 12, 3) := by decide +kernel
theorem dX7_check_13 : decode cX7_check 13 = .ok (.getfield 81, 3) := by decide +kernel
theorem dX7_check_16 : decode cX7_check 16 = .ok (.aload_n 0, 1) := by decide +kernel
theorem dX7_check_17 : decode cX7_check 17 = .ok (.getfield 19, 3) := by decide +kernel
theorem dX7_check_20 : decode cX7_check 20 = .ok (.getfield 117, 3) := by decide +kernel
theorem dX7_check_23 : decode cX7_check 23 = .ok (.invokevirtual 164, 3) := by decide +kernel
theorem dX7_check_26 : decode cX7_check 26 = .ok (.ifCond .eq 5, 3) := by decide +kernel
theorem dX7_check_29 : decode cX7_check 29 = .ok (.iconst 0, 1) := by decide +kernel
theorem dX7_check_30 : decode cX7_check 30 = .ok (.ireturn, 1) := by decide +kernel
theorem dX7_check_31 : decode cX7_check 31 = .ok (.aload_n 0, 1) := by decide +kernel
theorem dX7_check_32 : decode cX7_check 32 = .ok (.getfield 67, 3) := by decide +kernel
theorem dX7_check_35 : decode cX7_check 35 = .ok (.sipush 300, 3) := by decide +kernel
theorem dX7_check_38 : decode cX7_check 38 = .ok (.aload_n 0, 1) := by decide +kernel
theorem dX7_check_39 : decode cX7_check 39 = .ok (.getfield 12, 3) := by decide +kernel
theorem dX7_check_42 : decode cX7_check 42 = .ok (.getfield 88, 3) := by decide +kernel
theorem dX7_check_45 : decode cX7_check 45 = .ok (.aload_n 0, 1) := by decide +kernel
theorem dX7_check_46 : decode cX7_check 46 = .ok (.getfield 56, 3) := by decide +kernel
theorem dX7_check_49 : decode cX7_check 49 = .ok (.invokevirtual 144, 3) := by decide +kernel
theorem dX7_check_52 : decode cX7_check 52 = .ok (.ifCond .eq 28, 3) := by decide +kernel
theorem dX7_check_55 : decode cX7_check 55 = .ok (.aload_n 0, 1) := by decide +kernel
theorem dX7_check_56 : decode cX7_check 56 = .ok (.getfield 70, 3) := by decide +kernel
theorem dX7_check_59 : decode cX7_check 59 = .ok (.sipush 300, 3) := by decide +kernel
theorem dX7_check_62 : decode cX7_check 62 = .ok (.aload_n 0, 1) := by decide +kernel
theorem dX7_check_63 : decode cX7_check 63 = .ok (.getfield 49, 3) := by decide +kernel
theorem dX7_check_66 : decode cX7_check 66 = .ok (.aload_n 0, 1) := by decide +kernel
theorem dX7_check_67 : decode cX7_check 67 = .ok (.getfield 56, 3) := by decide +kernel
theorem dX7_check_70 : decode cX7_check 70 = .ok (.invokevirtual 144, 3) := by decide +kernel
theorem dX7_check_73 : decode cX7_check 73 = .ok (.ifCond .eq 7, 3) := by decide +kernel
theorem dX7_check_76 : decode cX7_check 76 = .ok (.iconst 1, 1) := by decide +kernel
theorem dX7_check_77 : decode cX7_check 77 = .ok (.goto 4, 3) := by decide +kernel
theorem dX7_check_80 : decode cX7_check 80 = .ok (.iconst 0, 1) := by decide +kernel
theorem dX7_check_81 : decode cX7_check 81 = .ok (.istore_n 1, 1) := by decide +kernel
theorem dX7_check_82 : decode cX7_check 82 = .ok (.iload_n 1, 1) := by decide +kernel
theorem dX7_check_83 : decode cX7_check 83 = .ok (.ifCond .eq 17, 3) := by decide +kernel
theorem dX7_check_86 : decode cX7_check 86 = .ok (.aload_n 0, 1) := by decide +kernel
theorem dX7_check_87 : decode cX7_check 87 = .ok (.getfield 70, 3) := by decide +kernel
theorem dX7_check_90 : decode cX7_check 90 = .ok (.aload_n 0, 1) := by decide +kernel
theorem dX7_check_91 : decode cX7_check 91 = .ok (.getfield 67, 3) := by decide +kernel
theorem dX7_check_94 : decode cX7_check 94 = .ok (.invokevirtual 168, 3) := by decide +kernel
theorem dX7_check_97 : decode cX7_check 97 = .ok (.ifCond .eq 7, 3) := by decide +kernel
theorem dX7_check_100 : decode cX7_check 100 = .ok (.iconst 1, 1) := by decide +kernel
theorem dX7_check_101 : decode cX7_check 101 = .ok (.goto 4, 3) := by decide +kernel
theorem dX7_check_104 : decode cX7_check 104 = .ok (.iconst 0, 1) := by decide +kernel
theorem dX7_check_105 : decode cX7_check 105 = .ok (.ireturn, 1) := by decide +kernel
theorem dX7_isClass_0 : decode cX7_isClass 0 = .ok (.iload_n 0, 1) := by decide +kernel
theorem dX7_isClass_1 : decode cX7_isClass 1 = .ok (.ifCond .lt 12, 3) := by decide +kernel
theorem dX7_isClass_4 : decode cX7_isClass 4 = .ok (.iload_n 0, 1) := by decide +kernel
theorem dX7_isClass_5 : decode cX7_isClass 5 = .ok (.iconst 2, 1) := by decide +kernel
theorem dX7_isClass_6 : decode cX7_isClass 6 = .ok (.if_icmp .ge 7, 3) := by decide +kernel
theorem dX7_isClass_9 : decode cX7_isClass 9 = .ok (.iconst 1, 1) := by decide +kernel
theorem dX7_isClass_10 : decode cX7_isClass 10 = .ok (.goto 4, 3) := by decide +kernel
theorem dX7_isClass_13 : decode cX7_isClass 13 = .ok (.iconst 0, 1) := by decide +kernel
theorem dX7_isClass_14 : decode cX7_isClass 14 = .ok (.ireturn, 1) := by decide +kernel
