theorem dX0_init_0 : decode cX0_init 0 = .ok (.aload_n 0, 1) := by decide +kernel
theorem dX0_init_1 : decode cX0_init 1 = .ok (.invokespecial 3, 3) := by decide +kernel
theorem dX0_init_4 : decode cX0_init 4 = .ok (.aload_n 0, 1) := by decide +kernel
theorem dX0_init_5 : decode cX0_init 5 = .ok (.iconst (-1), 1) := by decide +kernel
theorem dX0_init_6 : decode cX0_init 6 = .ok (.putfield 9, 3) := by decide +kernel
theorem dX0_init_9 : decode cX0_init 9 = .ok (.aload_n 0, 1) := by decide +kernel
theorem dX0_init_10 : decode cX0_init 10 = .ok (.iload_n 1, 1) := by decide +kernel
theorem dX0_init_11 : decode cX0_init 11 = .ok (.putfield 15, 3) := by decide +kernel
theorem dX0_init_14 : decode cX0_init 14 = .ok (.aload_n 0, 1) := by decide +kernel
theorem dX0_init_15 : decode cX0_init 15 = .ok (.iload_n 2, 1) := by decide +kernel
theorem dX0_init_16 : decode cX0_init 16 = .ok (.putfield 18, 3) := by decide +kernel
theorem dX0_init_19 : decode cX0_init 19 = .ok (.aload_n 0, 1) := by decide +kernel
theorem dX0_init_20 : decode cX0_init 20 = .ok (.iload_n 3, 1) := by decide +kernel
theorem dX0_init_21 : decode cX0_init 21 = .ok (.putfield 21, 3) := by decide +kernel
theorem dX0_init_24 : decode cX0_init 24 = .ok (.aload_n 0, 1) := by decide +kernel
theorem dX0_init_25 : decode cX0_init 25 = .ok (.iload 4, 2) := by decide +kernel
theorem dX0_init_27 : decode cX0_init 27 = .ok (.putfield 24, 3) := by decide +kernel
theorem dX0_init_30 : decode cX0_init 30 = .ok (.aload_n 0, 1) := by decide +kernel
theorem dX0_init_31 : decode cX0_init 31 = .ok (.iload 5, 2) := by decide +kernel
theorem dX0_init_33 : decode cX0_init 33 = .ok (.putfield 27, 3) := by decide +kernel
theorem dX0_init_36 : decode cX0_init 36 = .ok (.return_, 1) := by decide +kernel
theorem dX0_isKnownAt_0 : decode cX0_isKnownAt 0 = .ok (.aload_n 0, 1) := by decide +kernel
theorem dX0_isKnownAt_1 : decode cX0_isKnownAt 1 = .ok (.getfield 30, 3) := by decide +kernel
theorem dX0_isKnownAt_4 : decode cX0_isKnownAt 4 = .ok (.iload_n 1, 1) := by decide +kernel
theorem dX0_isKnownAt_5 : decode cX0_isKnownAt 5 = .ok (.if_icmp .gt 23, 3) := by decide +kernel
theorem dX0_isKnownAt_8 : decode cX0_isKnownAt 8 = .ok (.aload_n 0, 1) := by decide +kernel
theorem dX0_isKnownAt_9 : decode cX0_isKnownAt 9 = .ok (.getfield 9, 3) := by decide +kernel
theorem dX0_isKnownAt_12 : decode cX0_isKnownAt 12 = .ok (.iconst (-1), 1) := by decide +kernel
theorem dX0_isKnownAt_13 : decode cX0_isKnownAt 13 = .ok (.if_icmp .eq 11, 3) := by decide +kernel
theorem dX0_isKnownAt_16 : decode cX0_isKnownAt 16 = .ok (.aload_n 0, 1) := by decide +kernel
theorem dX0_isKnownAt_17 : decode cX0_isKnownAt 17 = .ok (.getfield 9, 3) := by decide +kernel
theorem dX0_isKnownAt_20 : decode cX0_isKnownAt 20 = .ok (.iload_n 1, 1) := by decide +kernel
theorem dX0_isKnownAt_21 : decode cX0_isKnownAt 21 = .ok (.if_icmp .le 7, 3) := by decide +kernel
theorem dX0_isKnownAt_24 : decode cX0_isKnownAt 24 = .ok (.iconst 1, 1) := by decide +kernel
theorem dX0_isKnownAt_25 : decode cX0_isKnownAt 25 = .ok (.goto 4, 3) := by decide +kernel
theorem dX0_isKnownAt_28 : decode cX0_isKnownAt 28 = .ok (.iconst 0, 1) := by decide +kernel
theorem dX0_isKnownAt_29 : decode cX0_isKnownAt 29 = .ok (.ireturn, 1) := by decide +kernel
theorem dX1_init_0 : decode cX1_init 0 = .ok (.aload_n 0, 1) := by decide +kernel
theorem dX1_init_1 : decode cX1_init 1 = .ok (.invokespecial 3, 3) := by decide +kernel
theorem dX1_init_4 : decode cX1_init 4 = .ok (.aload_n 0, 1) := by decide +kernel
theorem dX1_init_5 : decode cX1_init 5 = .ok (.bipush 24, 2) := by decide +kernel
theorem dX1_init_7 : decode cX1_init 7 = .ok (.anewarray 11, 3) := by decide +kernel
theorem dX1_init_10 : decode cX1_init 10 = .ok (.putfield 13, 3) := by decide +kernel
theorem dX1_init_13 : decode cX1_init 13 = .ok (.aload_n 0, 1) := by decide +kernel
theorem dX1_init_14 : decode cX1_init 14 = .ok (.aload_n 1, 1) := by decide +kernel
theorem dX1_init_15 : decode cX1_init 15 = .ok (.putfield 19, 3) := by decide +kernel
theorem dX1_init_18 : decode cX1_init 18 = .ok (.aload_n 0, 1) := by decide +kernel
theorem dX1_init_19 : decode cX1_init 19 = .ok (.aload_n 3, 1) := by decide +kernel
theorem dX1_init_20 : decode cX1_init 20 = .ok (.putfield 23, 3) := by decide +kernel
theorem dX1_init_23 : decode cX1_init 23 = .ok (.aload_n 0, 1) := by decide +kernel
theorem dX1_init_24 : decode cX1_init 24 = .ok (.aload 4, 2) := by decide +kernel
theorem dX1_init_26 : decode cX1_init 26 = .ok (.putfield 27, 3) := by decide +kernel
theorem dX1_init_29 : decode cX1_init 29 = .ok (.aload_n 0, 1) := by decide +kernel
theorem dX1_init_30 : decode cX1_init 30 = .ok (.new 31, 3) := by decide +kernel
theorem dX1_init_33 : decode cX1_init 33 = .ok (.dup, 1) := by decide +kernel
theorem dX1_init_34 : decode cX1_init 34 = .ok (.aload_n 2, 1) := by decide +kernel
theorem dX1_init_35 : decode cX1_init 35 = .ok (.aload_n 3, 1) := by decide +kernel
theorem dX1_init_36 : decode cX1_init 36 = .ok (.invokespecial 33, 3) := by decide +kernel
theorem dX1_init_39 : decode cX1_init 39 = .ok (.putfield 36, 3) := by decide +kernel
theorem dX1_init_42 : decode cX1_init 42 = .ok (.iconst 0, 1) := by decide +kernel
theorem dX1_init_43 : decode cX1_init 43 = .ok (.istore 5, 2) := by decide +kernel
theorem dX1_init_45 : decode cX1_init 45 = .ok (.iload 5, 2) := by decide +kernel
theorem dX1_init_47 : decode cX1_init 47 = .ok (.bipush 24, 2) := by decide +kernel
theorem dX1_init_49 : decode cX1_init 49 = .ok (.if_icmp .ge 23, 3) := by decide +kernel
theorem dX1_init_52 : decode cX1_init 52 = .ok (.aload_n 0, 1) := by decide +kernel
theorem dX1_init_53 : decode cX1_init 53 = .ok (.getfield 13, 3) := by decide +kernel
theorem dX1_init_56 : decode cX1_init 56 = .ok (.iload 5, 2) := by decide +kernel
theorem dX1_init_58 : decode cX1_init 58 = .ok (.new 11, 3) := by decide +kernel
theorem dX1_init_61 : decode cX1_init 61 = .ok (.dup, 1) := by decide +kernel
theorem dX1_init_62 : decode cX1_init 62 = .ok (.invokespecial 40, 3) := by decide +kernel
theorem dX1_init_65 : decode cX1_init 65 = .ok (.aastore, 1) := by decide +kernel
theorem dX1_init_66 : decode cX1_init 66 = .ok (.iinc 5 1, 3) := by decide +kernel
theorem dX1_init_69 : decode cX1_init 69 = .ok (.goto (-24), 3) := by decide +kernel
theorem dX1_init_72 : decode cX1_init 72 = .ok (.return_, 1) := by decide +kernel
theorem dX1_forget_0 : decode cX1_forget 0 = .ok (.iconst 0, 1) := by decide +kernel
theorem dX1_forget_1 : decode cX1_forget 1 = .ok (.istore_n 1, 1) := by decide +kernel
theorem dX1_forget_2 : decode cX1_forget 2 = .ok (.iload_n 1, 1) := by decide +kernel
theorem dX1_forget_3 : decode cX1_forget 3 = .ok (.bipush 24, 2) := by decide +kernel
theorem dX1_forget_5 : decode cX1_forget 5 = .ok (.if_icmp .ge 14, 3) := by decide +kernel
theorem dX1_forget_8 : decode cX1_forget 8 = .ok (.aload_n 0, 1) := by decide +kernel
theorem dX1_forget_9 : decode cX1_forget 9 = .ok (.iload_n 1, 1) := by decide +kernel
theorem dX1_forget_10 : decode cX1_forget 10 = .ok (.invokevirtual 41, 3) := by decide +kernel
theorem dX1_forget_13 : decode cX1_forget 13 = .ok (.iinc 1 1, 3) := by decide +kernel
theorem dX1_forget_16 : decode cX1_forget 16 = .ok (.goto (-14), 3) := by decide +kernel
theorem dX1_forget_19 : decode cX1_forget 19 = .ok (.return_, 1) := by decide +kernel
theorem dX1_follow_0 : decode cX1_follow 0 = .ok (.aload_n 0, 1) := by decide +kernel
theorem dX1_follow_1 : decode cX1_follow 1 = .ok (.aload_n 1, 1) := by decide +kernel
theorem dX1_follow_2 : decode cX1_follow 2 = .ok (.putfield 27, 3) := by decide +kernel
theorem dX1_follow_5 : decode cX1_follow 5 = .ok (.aload_n 0, 1) := by decide +kernel
theorem dX1_follow_6 : decode cX1_follow 6 = .ok (.invokevirtual 45, 3) := by decide +kernel
theorem dX1_follow_9 : decode cX1_follow 9 = .ok (.return_, 1) := by decide +kernel
theorem dX1_knowAt_0 : decode cX1_knowAt 0 = .ok (.aload_n 0, 1) := by decide +kernel
theorem dX1_knowAt_1 : decode cX1_knowAt 1 = .ok (.iload_n 1, 1) := by decide +kernel
theorem dX1_knowAt_2 : decode cX1_knowAt 2 = .ok (.invokevirtual 48, 3) := by decide +kernel
theorem dX1_knowAt_5 : decode cX1_knowAt 5 = .ok (.iconst 0, 1) := by decide +kernel
theorem dX1_knowAt_6 : decode cX1_knowAt 6 = .ok (.istore_n 2, 1) := by decide +kernel
theorem dX1_knowAt_7 : decode cX1_knowAt 7 = .ok (.iload_n 2, 1) := by decide +kernel
theorem dX1_knowAt_8 : decode cX1_knowAt 8 = .ok (.aload_n 0, 1) := by decide +kernel
theorem dX1_knowAt_9 : decode cX1_knowAt 9 = .ok (.getfield 19, 3) := by decide +kernel
theorem dX1_knowAt_12 : decode cX1_knowAt 12 = .ok (.getfield 51, 3) := by decide +kernel
theorem dX1_knowAt_15 : decode cX1_knowAt 15 = .ok (.if_icmp .ge 46, 3) := by decide +kernel
theorem dX1_knowAt_18 : decode cX1_knowAt 18 = .ok (.aload_n 0, 1) := by decide +kernel
theorem dX1_knowAt_19 : decode cX1_knowAt 19 = .ok (.getfield 13, 3) := by decide +kernel
theorem dX1_knowAt_22 : decode cX1_knowAt 22 = .ok (.iload_n 2, 1) := by decide +kernel
theorem dX1_knowAt_23 : decode cX1_knowAt 23 = .ok (.aaload, 1) := by decide +kernel
theorem dX1_knowAt_24 : decode cX1_knowAt 24 = .ok (.astore_n 3, 1) := by decide +kernel
theorem dX1_knowAt_25 : decode cX1_knowAt 25 = .ok (.aload_n 3, 1) := by decide +kernel
theorem dX1_knowAt_26 : decode cX1_knowAt 26 = .ok (.getfield 55, 3) := by decide +kernel
theorem dX1_knowAt_29 : decode cX1_knowAt 29 = .ok (.ifCond .eq 26, 3) := by decide +kernel
theorem dX1_knowAt_32 : decode cX1_knowAt 32 = .ok (.aload_n 0, 1) := by decide +kernel
theorem dX1_knowAt_33 : decode cX1_knowAt 33 = .ok (.getfield 36, 3) := by decide +kernel
theorem dX1_knowAt_36 : decode cX1_knowAt 36 = .ok (.aload_n 3, 1) := by decide +kernel
theorem dX1_knowAt_37 : decode cX1_knowAt 37 = .ok (.iload_n 2, 1) := by decide +kernel
theorem dX1_knowAt_38 : decode cX1_knowAt 38 = .ok (.iload_n 1, 1) := by decide +kernel
theorem dX1_knowAt_39 : decode cX1_knowAt 39 = .ok (.invokevirtual 59, 3) := by decide +kernel
theorem dX1_knowAt_42 : decode cX1_knowAt 42 = .ok (.aload_n 0, 1) := by decide +kernel
theorem dX1_knowAt_43 : decode cX1_knowAt 43 = .ok (.getfield 27, 3) := by decide +kernel
theorem dX1_knowAt_46 : decode cX1_knowAt 46 = .ok (.aload_n 3, 1) := by decide +kernel
theorem dX1_knowAt_47 : decode cX1_knowAt 47 = .ok (.invokevirtual 63, 3) := by decide +kernel
theorem dX1_knowAt_50 : decode cX1_knowAt 50 = .ok (.aload_n 3, 1) := by decide +kernel
theorem dX1_knowAt_51 : decode cX1_knowAt 51 = .ok (.iconst 0, 1) := by decide +kernel
theorem dX1_knowAt_52 : decode cX1_knowAt 52 = .ok (.putfield 55, 3) := by decide +kernel
theorem dX1_knowAt_55 : decode cX1_knowAt 55 = .ok (.iinc 2 1, 3) := by decide +kernel
theorem dX1_knowAt_58 : decode cX1_knowAt 58 = .ok (.goto (-51), 3) := by decide +kernel
theorem dX1_knowAt_61 : decode cX1_knowAt 61 = .ok (.return_, 1) := by decide +kernel
theorem dX1_moveTo_0 : decode cX1_moveTo 0 = .ok (.aload_n 0, 1) := by decide +kernel
theorem dX1_moveTo_1 : decode cX1_moveTo 1 = .ok (.getfield 69, 3) := by decide +kernel
theorem dX1_moveTo_4 : decode cX1_moveTo 4 = .ok (.iload_n 1, 1) := by decide +kernel
theorem dX1_moveTo_5 : decode cX1_moveTo 5 = .ok (.invokestatic 72, 3) := by decide +kernel
theorem dX1_moveTo_8 : decode cX1_moveTo 8 = .ok (.istore_n 2, 1) := by decide +kernel
theorem dX1_moveTo_9 : decode cX1_moveTo 9 = .ok (.aload_n 0, 1) := by decide +kernel
theorem dX1_moveTo_10 : decode cX1_moveTo 10 = .ok (.getfield 69, 3) := by decide +kernel
theorem dX1_moveTo_13 : decode cX1_moveTo 13 = .ok (.iload_n 1, 1) := by decide +kernel
theorem dX1_moveTo_14 : decode cX1_moveTo 14 = .ok (.invokestatic 78, 3) := by decide +kernel
theorem dX1_moveTo_17 : decode cX1_moveTo 17 = .ok (.iconst 1, 1) := by decide +kernel
theorem dX1_moveTo_18 : decode cX1_moveTo 18 = .ok (.iadd, 1) := by decide +kernel
theorem dX1_moveTo_19 : decode cX1_moveTo 19 = .ok (.istore_n 3, 1) := by decide +kernel
theorem dX1_moveTo_20 : decode cX1_moveTo 20 = .ok (.iload_n 3, 1) := by decide +kernel
theorem dX1_moveTo_21 : decode cX1_moveTo 21 = .ok (.iload_n 2, 1) := by decide +kernel
theorem dX1_moveTo_22 : decode cX1_moveTo 22 = .ok (.if_icmp .gt 21, 3) := by decide +kernel
theorem dX1_moveTo_25 : decode cX1_moveTo 25 = .ok (.aload_n 0, 1) := by decide +kernel
theorem dX1_moveTo_26 : decode cX1_moveTo 26 = .ok (.aload_n 0, 1) := by decide +kernel
theorem dX1_moveTo_27 : decode cX1_moveTo 27 = .ok (.getfield 23, 3) := by decide +kernel
theorem dX1_moveTo_30 : decode cX1_moveTo 30 = .ok (.iload_n 3, 1) := by decide +kernel
theorem dX1_moveTo_31 : decode cX1_moveTo 31 = .ok (.invokevirtual 81, 3) := by decide +kernel
theorem dX1_moveTo_34 : decode cX1_moveTo 34 = .ok (.invokevirtual 41, 3) := by decide +kernel
theorem dX1_moveTo_37 : decode cX1_moveTo 37 = .ok (.iinc 3 1, 3) := by decide +kernel
theorem dX1_moveTo_40 : decode cX1_moveTo 40 = .ok (.goto (-20), 3) := by decide +kernel
theorem dX1_moveTo_43 : decode cX1_moveTo 43 = .ok (.aload_n 0, 1) := by decide +kernel
theorem dX1_moveTo_44 : decode cX1_moveTo 44 = .ok (.iload_n 1, 1) := by decide +kernel
theorem dX1_moveTo_45 : decode cX1_moveTo 45 = .ok (.putfield 69, 3) := by decide +kernel
theorem dX1_moveTo_48 : decode cX1_moveTo 48 = .ok (.return_, 1) := by decide +kernel
theorem dX1_markStale_0 : decode cX1_markStale 0 = .ok (.iload_n 1, 1) := by decide +kernel
theorem dX1_markStale_1 : decode cX1_markStale 1 = .ok (.iconst 0, 1) := by decide +kernel
theorem dX1_markStale_2 : decode cX1_markStale 2 = .ok (.bipush 23, 2) := by decide +kernel
theorem dX1_markStale_4 : decode cX1_markStale 4 = .ok (.invokestatic 87, 3) := by decide +kernel
theorem dX1_markStale_7 : decode cX1_markStale 7 = .ok (.ifCond .eq 13, 3) := by decide +kernel
theorem dX1_markStale_10 : decode cX1_markStale 10 = .ok (.aload_n 0, 1) := by decide +kernel
theorem dX1_markStale_11 : decode cX1_markStale 11 = .ok (.getfield 13, 3) := by decide +kernel
theorem dX1_markStale_14 : decode cX1_markStale 14 = .ok (.iload_n 1, 1) := by decide +kernel
theorem dX1_markStale_15 : decode cX1_markStale 15 = .ok (.aaload, 1) := by decide +kernel
theorem dX1_markStale_16 : decode cX1_markStale 16 = .ok (.iconst 1, 1) := by decide +kernel
theorem dX1_markStale_17 : decode cX1_markStale 17 = .ok (.putfield 55, 3) := by decide +kernel
theorem dX1_markStale_20 : decode cX1_markStale 20 = .ok (.return_, 1) := by decide +kernel
theorem dX1_sheetAt_0 : decode cX1_sheetAt 0 = .ok (.aload_n 0, 1) := by decide +kernel
theorem dX1_sheetAt_1 : decode cX1_sheetAt 1 = .ok (.getfield 19, 3) := by decide +kernel
theorem dX1_sheetAt_4 : decode cX1_sheetAt 4 = .ok (.iload_n 1, 1) := by decide +kernel
theorem dX1_sheetAt_5 : decode cX1_sheetAt 5 = .ok (.invokevirtual 91, 3) := by decide +kernel
theorem dX1_sheetAt_8 : decode cX1_sheetAt 8 = .ok (.ifCond .eq 12, 3) := by decide +kernel
theorem dX1_sheetAt_11 : decode cX1_sheetAt 11 = .ok (.aload_n 0, 1) := by decide +kernel
theorem dX1_sheetAt_12 : decode cX1_sheetAt 12 = .ok (.getfield 13, 3) := by decide +kernel
theorem dX1_sheetAt_15 : decode cX1_sheetAt 15 = .ok (.iload_n 1, 1) := by decide +kernel
theorem dX1_sheetAt_16 : decode cX1_sheetAt 16 = .ok (.aaload, 1) := by decide +kernel
theorem dX1_sheetAt_17 : decode cX1_sheetAt 17 = .ok (.goto 4, 3) := by decide +kernel
theorem dX1_sheetAt_20 : decode cX1_sheetAt 20 = .ok (.aconst_null, 1) := by decide +kernel
theorem dX1_sheetAt_21 : decode cX1_sheetAt 21 = .ok (.areturn, 1) := by decide +kernel
theorem dX1_placeOf_0 : decode cX1_placeOf 0 = .ok (.aload_n 0, 1) := by decide +kernel
theorem dX1_placeOf_1 : decode cX1_placeOf 1 = .ok (.iload_n 1, 1) := by decide +kernel
theorem dX1_placeOf_2 : decode cX1_placeOf 2 = .ok (.invokevirtual 95, 3) := by decide +kernel
theorem dX1_placeOf_5 : decode cX1_placeOf 5 = .ok (.astore_n 2, 1) := by decide +kernel
theorem dX1_placeOf_6 : decode cX1_placeOf 6 = .ok (.aload_n 2, 1) := by decide +kernel
theorem dX1_placeOf_7 : decode cX1_placeOf 7 = .ok (.ifnonnull 5, 3) := by decide +kernel
theorem dX1_placeOf_10 : decode cX1_placeOf 10 = .ok (.iconst (-1), 1) := by decide +kernel
theorem dX1_placeOf_11 : decode cX1_placeOf 11 = .ok (.ireturn, 1) := by decide +kernel
theorem dX1_placeOf_12 : decode cX1_placeOf 12 = .ok (.aload_n 2, 1) := by decide +kernel
theorem dX1_placeOf_13 : decode cX1_placeOf 13 = .ok (.getfield 99, 3) := by decide +kernel
theorem dX1_placeOf_16 : decode cX1_placeOf 16 = .ok (.ifCond .eq 7, 3) := by decide +kernel
theorem dX1_placeOf_19 : decode cX1_placeOf 19 = .ok (.iconst 0, 1) := by decide +kernel
theorem dX1_placeOf_20 : decode cX1_placeOf 20 = .ok (.goto 10, 3) := by decide +kernel
theorem dX1_placeOf_23 : decode cX1_placeOf 23 = .ok (.iconst 1, 1) := by decide +kernel
theorem dX1_placeOf_24 : decode cX1_placeOf 24 = .ok (.aload_n 0, 1) := by decide +kernel
theorem dX1_placeOf_25 : decode cX1_placeOf 25 = .ok (.aload_n 2, 1) := by decide +kernel
theorem dX1_placeOf_26 : decode cX1_placeOf 26 = .ok (.invokevirtual 102, 3) := by decide +kernel
theorem dX1_placeOf_29 : decode cX1_placeOf 29 = .ok (.iadd, 1) := by decide +kernel
theorem dX1_placeOf_30 : decode cX1_placeOf 30 = .ok (.ireturn, 1) := by decide +kernel
theorem dX1_numberAhead_0 : decode cX1_numberAhead 0 = .ok (.iconst 0, 1) := by decide +kernel
theorem dX1_numberAhead_1 : decode cX1_numberAhead 1 = .ok (.istore_n 2, 1) := by decide +kernel
theorem dX1_numberAhead_2 : decode cX1_numberAhead 2 = .ok (.iconst 0, 1) := by decide +kernel
theorem dX1_numberAhead_3 : decode cX1_numberAhead 3 = .ok (.istore_n 3, 1) := by decide +kernel
theorem dX1_numberAhead_4 : decode cX1_numberAhead 4 = .ok (.iload_n 3, 1) := by decide +kernel
theorem dX1_numberAhead_5 : decode cX1_numberAhead 5 = .ok (.aload_n 0, 1) := by decide +kernel
theorem dX1_numberAhead_6 : decode cX1_numberAhead 6 = .ok (.getfield 19, 3) := by decide +kernel
theorem dX1_numberAhead_9 : decode cX1_numberAhead 9 = .ok (.getfield 51, 3) := by decide +kernel
theorem dX1_numberAhead_12 : decode cX1_numberAhead 12 = .ok (.if_icmp .ge 41, 3) := by decide +kernel
theorem dX1_numberAhead_15 : decode cX1_numberAhead 15 = .ok (.aload_n 0, 1) := by decide +kernel
theorem dX1_numberAhead_16 : decode cX1_numberAhead 16 = .ok (.getfield 13, 3) := by decide +kernel
theorem dX1_numberAhead_19 : decode cX1_numberAhead 19 = .ok (.iload_n 3, 1) := by decide +kernel
theorem dX1_numberAhead_20 : decode cX1_numberAhead 20 = .ok (.aaload, 1) := by decide +kernel
theorem dX1_numberAhead_21 : decode cX1_numberAhead 21 = .ok (.getfield 99, 3) := by decide +kernel
theorem dX1_numberAhead_24 : decode cX1_numberAhead 24 = .ok (.ifCond .ne 23, 3) := by decide +kernel
theorem dX1_numberAhead_27 : decode cX1_numberAhead 27 = .ok (.aload_n 0, 1) := by decide +kernel
theorem dX1_numberAhead_28 : decode cX1_numberAhead 28 = .ok (.getfield 27, 3) := by decide +kernel
theorem dX1_numberAhead_31 : decode cX1_numberAhead 31 = .ok (.aload_n 0, 1) := by decide +kernel
theorem dX1_numberAhead_32 : decode cX1_numberAhead 32 = .ok (.getfield 13, 3) := by decide +kernel
theorem dX1_numberAhead_35 : decode cX1_numberAhead 35 = .ok (.iload_n 3, 1) := by decide +kernel
theorem dX1_numberAhead_36 : decode cX1_numberAhead 36 = .ok (.aaload, 1) := by decide +kernel
theorem dX1_numberAhead_37 : decode cX1_numberAhead 37 = .ok (.aload_n 1, 1) := by decide +kernel
theorem dX1_numberAhead_38 : decode cX1_numberAhead 38 = .ok (.invokevirtual 106, 3) := by decide +kernel
theorem dX1_numberAhead_41 : decode cX1_numberAhead 41 = .ok (.ifCond .ge 6, 3) := by decide +kernel
theorem dX1_numberAhead_44 : decode cX1_numberAhead 44 = .ok (.iinc 2 1, 3) := by decide +kernel
theorem dX1_numberAhead_47 : decode cX1_numberAhead 47 = .ok (.iinc 3 1, 3) := by decide +kernel
theorem dX1_numberAhead_50 : decode cX1_numberAhead 50 = .ok (.goto (-46), 3) := by decide +kernel
theorem dX1_numberAhead_53 : decode cX1_numberAhead 53 = .ok (.iload_n 2, 1) := by decide +kernel
theorem dX1_numberAhead_54 : decode cX1_numberAhead 54 = .ok (.ireturn, 1) := by decide +kernel
theorem dX1_inRing_0 : decode cX1_inRing 0 = .ok (.iconst 0, 1) := by decide +kernel
theorem dX1_inRing_1 : decode cX1_inRing 1 = .ok (.istore_n 2, 1) := by decide +kernel
theorem dX1_inRing_2 : decode cX1_inRing 2 = .ok (.iload_n 2, 1) := by decide +kernel
theorem dX1_inRing_3 : decode cX1_inRing 3 = .ok (.aload_n 0, 1) := by decide +kernel
theorem dX1_inRing_4 : decode cX1_inRing 4 = .ok (.getfield 19, 3) := by decide +kernel
theorem dX1_inRing_7 : decode cX1_inRing 7 = .ok (.getfield 51, 3) := by decide +kernel
theorem dX1_inRing_10 : decode cX1_inRing 10 = .ok (.if_icmp .ge 32, 3) := by decide +kernel
theorem dX1_inRing_13 : decode cX1_inRing 13 = .ok (.aload_n 0, 1) := by decide +kernel
theorem dX1_inRing_14 : decode cX1_inRing 14 = .ok (.getfield 13, 3) := by decide +kernel
theorem dX1_inRing_17 : decode cX1_inRing 17 = .ok (.iload_n 2, 1) := by decide +kernel
theorem dX1_inRing_18 : decode cX1_inRing 18 = .ok (.aaload, 1) := by decide +kernel
theorem dX1_inRing_19 : decode cX1_inRing 19 = .ok (.getfield 99, 3) := by decide +kernel
theorem dX1_inRing_22 : decode cX1_inRing 22 = .ok (.ifCond .ne 14, 3) := by decide +kernel
theorem dX1_inRing_25 : decode cX1_inRing 25 = .ok (.aload_n 0, 1) := by decide +kernel
theorem dX1_inRing_26 : decode cX1_inRing 26 = .ok (.iload_n 2, 1) := by decide +kernel
theorem dX1_inRing_27 : decode cX1_inRing 27 = .ok (.invokevirtual 110, 3) := by decide +kernel
theorem dX1_inRing_30 : decode cX1_inRing 30 = .ok (.iload_n 1, 1) := by decide +kernel
theorem dX1_inRing_31 : decode cX1_inRing 31 = .ok (.if_icmp .ne 5, 3) := by decide +kernel
theorem dX1_inRing_34 : decode cX1_inRing 34 = .ok (.iload_n 2, 1) := by decide +kernel
theorem dX1_inRing_35 : decode cX1_inRing 35 = .ok (.ireturn, 1) := by decide +kernel
theorem dX1_inRing_36 : decode cX1_inRing 36 = .ok (.iinc 2 1, 3) := by decide +kernel
theorem dX1_inRing_39 : decode cX1_inRing 39 = .ok (.goto (-37), 3) := by decide +kernel
theorem dX1_inRing_42 : decode cX1_inRing 42 = .ok (.iconst (-1), 1) := by decide +kernel
theorem dX1_inRing_43 : decode cX1_inRing 43 = .ok (.ireturn, 1) := by decide +kernel
theorem dX1_numberEarlier_0 : decode cX1_numberEarlier 0 = .ok (.iconst 0, 1) := by decide +kernel
theorem dX1_numberEarlier_1 : decode cX1_numberEarlier 1 = .ok (.istore_n 2, 1) := by decide +kernel
theorem dX1_numberEarlier_2 : decode cX1_numberEarlier 2 = .ok (.iconst 0, 1) := by decide +kernel
theorem dX1_numberEarlier_3 : decode cX1_numberEarlier 3 = .ok (.istore_n 3, 1) := by decide +kernel
theorem dX1_numberEarlier_4 : decode cX1_numberEarlier 4 = .ok (.iload_n 3, 1) := by decide +kernel
theorem dX1_numberEarlier_5 : decode cX1_numberEarlier 5 = .ok (.aload_n 0, 1) := by decide +kernel
theorem dX1_numberEarlier_6 : decode cX1_numberEarlier 6 = .ok (.getfield 19, 3) := by decide +kernel
theorem dX1_numberEarlier_9 : decode cX1_numberEarlier 9 = .ok (.getfield 51, 3) := by decide +kernel
theorem dX1_numberEarlier_12 : decode cX1_numberEarlier 12 = .ok (.if_icmp .ge 60, 3) := by decide +kernel
theorem dX1_numberEarlier_15 : decode cX1_numberEarlier 15 = .ok (.aload_n 0, 1) := by decide +kernel
theorem dX1_numberEarlier_16 : decode cX1_numberEarlier 16 = .ok (.getfield 27, 3) := by decide +kernel
theorem dX1_numberEarlier_19 : decode cX1_numberEarlier 19 = .ok (.aload_n 0, 1) := by decide +kernel
theorem dX1_numberEarlier_20 : decode cX1_numberEarlier 20 = .ok (.getfield 13, 3) := by decide +kernel
theorem dX1_numberEarlier_23 : decode cX1_numberEarlier 23 = .ok (.iload_n 3, 1) := by decide +kernel
theorem dX1_numberEarlier_24 : decode cX1_numberEarlier 24 = .ok (.aaload, 1) := by decide +kernel
theorem dX1_numberEarlier_25 : decode cX1_numberEarlier 25 = .ok (.aload_n 0, 1) := by decide +kernel
theorem dX1_numberEarlier_26 : decode cX1_numberEarlier 26 = .ok (.getfield 13, 3) := by decide +kernel
theorem dX1_numberEarlier_29 : decode cX1_numberEarlier 29 = .ok (.iload_n 1, 1) := by decide +kernel
theorem dX1_numberEarlier_30 : decode cX1_numberEarlier 30 = .ok (.aaload, 1) := by decide +kernel
theorem dX1_numberEarlier_31 : decode cX1_numberEarlier 31 = .ok (.invokevirtual 106, 3) := by decide +kernel
theorem dX1_numberEarlier_34 : decode cX1_numberEarlier 34 = .ok (.istore 4, 2) := by decide +kernel
theorem dX1_numberEarlier_36 : decode cX1_numberEarlier 36 = .ok (.aload_n 0, 1) := by decide +kernel
theorem dX1_numberEarlier_37 : decode cX1_numberEarlier 37 = .ok (.getfield 13, 3) := by decide +kernel
theorem dX1_numberEarlier_40 : decode cX1_numberEarlier 40 = .ok (.iload_n 3, 1) := by decide +kernel
theorem dX1_numberEarlier_41 : decode cX1_numberEarlier 41 = .ok (.aaload, 1) := by decide +kernel
theorem dX1_numberEarlier_42 : decode cX1_numberEarlier 42 = .ok (.getfield 99, 3) := by decide +kernel
theorem dX1_numberEarlier_45 : decode cX1_numberEarlier 45 = .ok (.ifCond .ne 21, 3) := by decide +kernel
theorem dX1_numberEarlier_48 : decode cX1_numberEarlier 48 = .ok (.iload 4, 2) := by decide +kernel
theorem dX1_numberEarlier_50 : decode cX1_numberEarlier 50 = .ok (.ifCond .gt 13, 3) := by decide +kernel
theorem dX1_numberEarlier_53 : decode cX1_numberEarlier 53 = .ok (.iload 4, 2) := by decide +kernel
theorem dX1_numberEarlier_55 : decode cX1_numberEarlier 55 = .ok (.ifCond .ne 11, 3) := by decide +kernel
theorem dX1_numberEarlier_58 : decode cX1_numberEarlier 58 = .ok (.iload_n 3, 1) := by decide +kernel
theorem dX1_numberEarlier_59 : decode cX1_numberEarlier 59 = .ok (.iload_n 1, 1) := by decide +kernel
theorem dX1_numberEarlier_60 : decode cX1_numberEarlier 60 = .ok (.if_icmp .le 6, 3) := by decide +kernel
theorem dX1_numberEarlier_63 : decode cX1_numberEarlier 63 = .ok (.iinc 2 1, 3) := by decide +kernel
theorem dX1_numberEarlier_66 : decode cX1_numberEarlier 66 = .ok (.iinc 3 1, 3) := by decide +kernel
theorem dX1_numberEarlier_69 : decode cX1_numberEarlier 69 = .ok (.goto (-65), 3) := by decide +kernel
theorem dX1_numberEarlier_72 : decode cX1_numberEarlier 72 = .ok (.iload_n 2, 1) := by decide +kernel
theorem dX1_numberEarlier_73 : decode cX1_numberEarlier 73 = .ok (.ireturn, 1) := by decide +kernel
theorem dX1_teamSum_0 : decode cX1_teamSum 0 = .ok (.lconst 0, 1) := by decide +kernel
theorem dX1_teamSum_1 : decode cX1_teamSum 1 = .ok (.lstore_n 2, 1) := by decide +kernel
theorem dX1_teamSum_2 : decode cX1_teamSum 2 = .ok (.lconst 0, 1) := by decide +kernel
theorem dX1_teamSum_3 : decode cX1_teamSum 3 = .ok (.lstore 4, 2) := by decide +kernel
theorem dX1_teamSum_5 : decode cX1_teamSum 5 = .ok (.iconst 0, 1) := by decide +kernel
theorem dX1_teamSum_6 : decode cX1_teamSum 6 = .ok (.istore 6, 2) := by decide +kernel
theorem dX1_teamSum_8 : decode cX1_teamSum 8 = .ok (.iconst 0, 1) := by decide +kernel
theorem dX1_teamSum_9 : decode cX1_teamSum 9 = .ok (.istore 7, 2) := by decide +kernel
theorem dX1_teamSum_11 : decode cX1_teamSum 11 = .ok (.iload 7, 2) := by decide +kernel
theorem dX1_teamSum_13 : decode cX1_teamSum 13 = .ok (.aload_n 0, 1) := by decide +kernel
theorem dX1_teamSum_14 : decode cX1_teamSum 14 = .ok (.getfield 19, 3) := by decide +kernel
theorem dX1_teamSum_17 : decode cX1_teamSum 17 = .ok (.getfield 51, 3) := by decide +kernel
theorem dX1_teamSum_20 : decode cX1_teamSum 20 = .ok (.if_icmp .ge 58, 3) := by decide +kernel
theorem dX1_teamSum_23 : decode cX1_teamSum 23 = .ok (.aload_n 0, 1) := by decide +kernel
theorem dX1_teamSum_24 : decode cX1_teamSum 24 = .ok (.iload_n 1, 1) := by decide +kernel
theorem dX1_teamSum_25 : decode cX1_teamSum 25 = .ok (.iload 7, 2) := by decide +kernel
theorem dX1_teamSum_27 : decode cX1_teamSum 27 = .ok (.invokevirtual 113, 3) := by decide +kernel
theorem dX1_teamSum_30 : decode cX1_teamSum 30 = .ok (.ifCond .eq 42, 3) := by decide +kernel
theorem dX1_teamSum_33 : decode cX1_teamSum 33 = .ok (.aload_n 0, 1) := by decide +kernel
theorem dX1_teamSum_34 : decode cX1_teamSum 34 = .ok (.getfield 13, 3) := by decide +kernel
theorem dX1_teamSum_37 : decode cX1_teamSum 37 = .ok (.iload 7, 2) := by decide +kernel
theorem dX1_teamSum_39 : decode cX1_teamSum 39 = .ok (.aaload, 1) := by decide +kernel
theorem dX1_teamSum_40 : decode cX1_teamSum 40 = .ok (.getfield 117, 3) := by decide +kernel
theorem dX1_teamSum_43 : decode cX1_teamSum 43 = .ok (.lstore 8, 2) := by decide +kernel
theorem dX1_teamSum_45 : decode cX1_teamSum 45 = .ok (.iload 6, 2) := by decide +kernel
theorem dX1_teamSum_47 : decode cX1_teamSum 47 = .ok (.ifCond .ne 8, 3) := by decide +kernel
theorem dX1_teamSum_50 : decode cX1_teamSum 50 = .ok (.lload 8, 2) := by decide +kernel
theorem dX1_teamSum_52 : decode cX1_teamSum 52 = .ok (.goto 10, 3) := by decide +kernel
theorem dX1_teamSum_55 : decode cX1_teamSum 55 = .ok (.lload 4, 2) := by decide +kernel
theorem dX1_teamSum_57 : decode cX1_teamSum 57 = .ok (.lload 8, 2) := by decide +kernel
theorem dX1_teamSum_59 : decode cX1_teamSum 59 = .ok (.invokestatic 121, 3) := by decide +kernel
theorem dX1_teamSum_62 : decode cX1_teamSum 62 = .ok (.lstore 4, 2) := by decide +kernel
theorem dX1_teamSum_64 : decode cX1_teamSum 64 = .ok (.lload_n 2, 1) := by decide +kernel
theorem dX1_teamSum_65 : decode cX1_teamSum 65 = .ok (.lload 8, 2) := by decide +kernel
theorem dX1_teamSum_67 : decode cX1_teamSum 67 = .ok (.ladd, 1) := by decide +kernel
theorem dX1_teamSum_68 : decode cX1_teamSum 68 = .ok (.lstore_n 2, 1) := by decide +kernel
theorem dX1_teamSum_69 : decode cX1_teamSum 69 = .ok (.iinc 6 1, 3) := by decide +kernel
theorem dX1_teamSum_72 : decode cX1_teamSum 72 = .ok (.iinc 7 1, 3) := by decide +kernel
theorem dX1_teamSum_75 : decode cX1_teamSum 75 = .ok (.goto (-64), 3) := by decide +kernel
theorem dX1_teamSum_78 : decode cX1_teamSum 78 = .ok (.iload 6, 2) := by decide +kernel
theorem dX1_teamSum_80 : decode cX1_teamSum 80 = .ok (.iconst 3, 1) := by decide +kernel
theorem dX1_teamSum_81 : decode cX1_teamSum 81 = .ok (.if_icmp .le 10, 3) := by decide +kernel
theorem dX1_teamSum_84 : decode cX1_teamSum 84 = .ok (.lload_n 2, 1) := by decide +kernel
theorem dX1_teamSum_85 : decode cX1_teamSum 85 = .ok (.lload 4, 2) := by decide +kernel
theorem dX1_teamSum_87 : decode cX1_teamSum 87 = .ok (.lsub, 1) := by decide +kernel
theorem dX1_teamSum_88 : decode cX1_teamSum 88 = .ok (.goto 14, 3) := by decide +kernel
theorem dX1_teamSum_91 : decode cX1_teamSum 91 = .ok (.lload_n 2, 1) := by decide +kernel
theorem dX1_teamSum_92 : decode cX1_teamSum 92 = .ok (.ldc2_w 124, 3) := by decide +kernel
theorem dX1_teamSum_95 : decode cX1_teamSum 95 = .ok (.iconst 3, 1) := by decide +kernel
theorem dX1_teamSum_96 : decode cX1_teamSum 96 = .ok (.iload 6, 2) := by decide +kernel
theorem dX1_teamSum_98 : decode cX1_teamSum 98 = .ok (.isub, 1) := by decide +kernel
theorem dX1_teamSum_99 : decode cX1_teamSum 99 = .ok (.i2l, 1) := by decide +kernel
theorem dX1_teamSum_100 : decode cX1_teamSum 100 = .ok (.lmul, 1) := by decide +kernel
theorem dX1_teamSum_101 : decode cX1_teamSum 101 = .ok (.ladd, 1) := by decide +kernel
theorem dX1_teamSum_102 : decode cX1_teamSum 102 = .ok (.lreturn, 1) := by decide +kernel
theorem dX1_leastOfTeam_0 : decode cX1_leastOfTeam 0 = .ok (.iconst 0, 1) := by decide +kernel
theorem dX1_leastOfTeam_1 : decode cX1_leastOfTeam 1 = .ok (.istore_n 2, 1) := by decide +kernel
theorem dX1_leastOfTeam_2 : decode cX1_leastOfTeam 2 = .ok (.ldc2_w 124, 3) := by decide +kernel
theorem dX1_leastOfTeam_5 : decode cX1_leastOfTeam 5 = .ok (.lstore_n 3, 1) := by decide +kernel
theorem dX1_leastOfTeam_6 : decode cX1_leastOfTeam 6 = .ok (.iconst 0, 1) := by decide +kernel
theorem dX1_leastOfTeam_7 : decode cX1_leastOfTeam 7 = .ok (.istore 5, 2) := by decide +kernel
theorem dX1_leastOfTeam_9 : decode cX1_leastOfTeam 9 = .ok (.iload 5, 2) := by decide +kernel
theorem dX1_leastOfTeam_11 : decode cX1_leastOfTeam 11 = .ok (.aload_n 0, 1) := by decide +kernel
theorem dX1_leastOfTeam_12 : decode cX1_leastOfTeam 12 = .ok (.getfield 19, 3) := by decide +kernel
theorem dX1_leastOfTeam_15 : decode cX1_leastOfTeam 15 = .ok (.getfield 51, 3) := by decide +kernel
theorem dX1_leastOfTeam_18 : decode cX1_leastOfTeam 18 = .ok (.if_icmp .ge 49, 3) := by decide +kernel
theorem dX1_leastOfTeam_21 : decode cX1_leastOfTeam 21 = .ok (.aload_n 0, 1) := by decide +kernel
theorem dX1_leastOfTeam_22 : decode cX1_leastOfTeam 22 = .ok (.iload_n 1, 1) := by decide +kernel
theorem dX1_leastOfTeam_23 : decode cX1_leastOfTeam 23 = .ok (.iload 5, 2) := by decide +kernel
theorem dX1_leastOfTeam_25 : decode cX1_leastOfTeam 25 = .ok (.invokevirtual 113, 3) := by decide +kernel
theorem dX1_leastOfTeam_28 : decode cX1_leastOfTeam 28 = .ok (.ifCond .eq 33, 3) := by decide +kernel
theorem dX1_leastOfTeam_31 : decode cX1_leastOfTeam 31 = .ok (.aload_n 0, 1) := by decide +kernel
theorem dX1_leastOfTeam_32 : decode cX1_leastOfTeam 32 = .ok (.getfield 13, 3) := by decide +kernel
theorem dX1_leastOfTeam_35 : decode cX1_leastOfTeam 35 = .ok (.iload 5, 2) := by decide +kernel
theorem dX1_leastOfTeam_37 : decode cX1_leastOfTeam 37 = .ok (.aaload, 1) := by decide +kernel
theorem dX1_leastOfTeam_38 : decode cX1_leastOfTeam 38 = .ok (.getfield 117, 3) := by decide +kernel
theorem dX1_leastOfTeam_41 : decode cX1_leastOfTeam 41 = .ok (.lstore 6, 2) := by decide +kernel
theorem dX1_leastOfTeam_43 : decode cX1_leastOfTeam 43 = .ok (.iload_n 2, 1) := by decide +kernel
theorem dX1_leastOfTeam_44 : decode cX1_leastOfTeam 44 = .ok (.ifCond .eq 12, 3) := by decide +kernel
theorem dX1_leastOfTeam_47 : decode cX1_leastOfTeam 47 = .ok (.lload_n 3, 1) := by decide +kernel
theorem dX1_leastOfTeam_48 : decode cX1_leastOfTeam 48 = .ok (.lload 6, 2) := by decide +kernel
theorem dX1_leastOfTeam_50 : decode cX1_leastOfTeam 50 = .ok (.invokestatic 126, 3) := by decide +kernel
theorem dX1_leastOfTeam_53 : decode cX1_leastOfTeam 53 = .ok (.goto 5, 3) := by decide +kernel
theorem dX1_leastOfTeam_56 : decode cX1_leastOfTeam 56 = .ok (.lload 6, 2) := by decide +kernel
theorem dX1_leastOfTeam_58 : decode cX1_leastOfTeam 58 = .ok (.lstore_n 3, 1) := by decide +kernel
theorem dX1_leastOfTeam_59 : decode cX1_leastOfTeam 59 = .ok (.iconst 1, 1) := by decide +kernel
theorem dX1_leastOfTeam_60 : decode cX1_leastOfTeam 60 = .ok (.istore_n 2, 1) := by decide +kernel
theorem dX1_leastOfTeam_61 : decode cX1_leastOfTeam 61 = .ok (.iinc 5 1, 3) := by decide +kernel
theorem dX1_leastOfTeam_64 : decode cX1_leastOfTeam 64 = .ok (.goto (-55), 3) := by decide +kernel
theorem dX1_leastOfTeam_67 : decode cX1_leastOfTeam 67 = .ok (.lload_n 3, 1) := by decide +kernel
theorem dX1_leastOfTeam_68 : decode cX1_leastOfTeam 68 = .ok (.lreturn, 1) := by decide +kernel
theorem dX1_isPlacedFor_0 : decode cX1_isPlacedFor 0 = .ok (.aload_n 0, 1) := by decide +kernel
theorem dX1_isPlacedFor_1 : decode cX1_isPlacedFor 1 = .ok (.getfield 19, 3) := by decide +kernel
theorem dX1_isPlacedFor_4 : decode cX1_isPlacedFor 4 = .ok (.iload_n 2, 1) := by decide +kernel
theorem dX1_isPlacedFor_5 : decode cX1_isPlacedFor 5 = .ok (.invokevirtual 128, 3) := by decide +kernel
theorem dX1_isPlacedFor_8 : decode cX1_isPlacedFor 8 = .ok (.iload_n 1, 1) := by decide +kernel
theorem dX1_isPlacedFor_9 : decode cX1_isPlacedFor 9 = .ok (.if_icmp .ne 19, 3) := by decide +kernel
theorem dX1_isPlacedFor_12 : decode cX1_isPlacedFor 12 = .ok (.aload_n 0, 1) := by decide +kernel
theorem dX1_isPlacedFor_13 : decode cX1_isPlacedFor 13 = .ok (.getfield 13, 3) := by decide +kernel
theorem dX1_isPlacedFor_16 : decode cX1_isPlacedFor 16 = .ok (.iload_n 2, 1) := by decide +kernel
theorem dX1_isPlacedFor_17 : decode cX1_isPlacedFor 17 = .ok (.aaload, 1) := by decide +kernel
theorem dX1_isPlacedFor_18 : decode cX1_isPlacedFor 18 = .ok (.getfield 99, 3) := by decide +kernel
theorem dX1_isPlacedFor_21 : decode cX1_isPlacedFor 21 = .ok (.ifCond .ne 7, 3) := by decide +kernel
theorem dX1_isPlacedFor_24 : decode cX1_isPlacedFor 24 = .ok (.iconst 1, 1) := by decide +kernel
theorem dX1_isPlacedFor_25 : decode cX1_isPlacedFor 25 = .ok (.goto 4, 3) := by decide +kernel
theorem dX1_isPlacedFor_28 : decode cX1_isPlacedFor 28 = .ok (.iconst 0, 1) := by decide +kernel
theorem dX1_isPlacedFor_29 : decode cX1_isPlacedFor 29 = .ok (.ireturn, 1) := by decide +kernel
theorem dX1_placeOfTeam_0 : decode cX1_placeOfTeam 0 = .ok (.aload_n 0, 1) := by decide +kernel
theorem dX1_placeOfTeam_1 : decode cX1_placeOfTeam 1 = .ok (.iload_n 1, 1) := by decide +kernel
theorem dX1_placeOfTeam_2 : decode cX1_placeOfTeam 2 = .ok (.invokevirtual 131, 3) := by decide +kernel
theorem dX1_placeOfTeam_5 : decode cX1_placeOfTeam 5 = .ok (.lstore_n 2, 1) := by decide +kernel
theorem dX1_placeOfTeam_6 : decode cX1_placeOfTeam 6 = .ok (.aload_n 0, 1) := by decide +kernel
theorem dX1_placeOfTeam_7 : decode cX1_placeOfTeam 7 = .ok (.iload_n 1, 1) := by decide +kernel
theorem dX1_placeOfTeam_8 : decode cX1_placeOfTeam 8 = .ok (.invokevirtual 135, 3) := by decide +kernel
theorem dX1_placeOfTeam_11 : decode cX1_placeOfTeam 11 = .ok (.lstore 4, 2) := by decide +kernel
theorem dX1_placeOfTeam_13 : decode cX1_placeOfTeam 13 = .ok (.iconst 1, 1) := by decide +kernel
theorem dX1_placeOfTeam_14 : decode cX1_placeOfTeam 14 = .ok (.istore 6, 2) := by decide +kernel
theorem dX1_placeOfTeam_16 : decode cX1_placeOfTeam 16 = .ok (.iconst 0, 1) := by decide +kernel
theorem dX1_placeOfTeam_17 : decode cX1_placeOfTeam 17 = .ok (.istore 7, 2) := by decide +kernel
theorem dX1_placeOfTeam_19 : decode cX1_placeOfTeam 19 = .ok (.iload 7, 2) := by decide +kernel
theorem dX1_placeOfTeam_21 : decode cX1_placeOfTeam 21 = .ok (.bipush 6, 2) := by decide +kernel
theorem dX1_placeOfTeam_23 : decode cX1_placeOfTeam 23 = .ok (.if_icmp .ge 70, 3) := by decide +kernel
theorem dX1_placeOfTeam_26 : decode cX1_placeOfTeam 26 = .ok (.aload_n 0, 1) := by decide +kernel
theorem dX1_placeOfTeam_27 : decode cX1_placeOfTeam 27 = .ok (.iload 7, 2) := by decide +kernel
theorem dX1_placeOfTeam_29 : decode cX1_placeOfTeam 29 = .ok (.invokevirtual 131, 3) := by decide +kernel
theorem dX1_placeOfTeam_32 : decode cX1_placeOfTeam 32 = .ok (.lstore 8, 2) := by decide +kernel
theorem dX1_placeOfTeam_34 : decode cX1_placeOfTeam 34 = .ok (.lload 8, 2) := by decide +kernel
theorem dX1_placeOfTeam_36 : decode cX1_placeOfTeam 36 = .ok (.lload_n 2, 1) := by decide +kernel
theorem dX1_placeOfTeam_37 : decode cX1_placeOfTeam 37 = .ok (.lcmp, 1) := by decide +kernel
theorem dX1_placeOfTeam_38 : decode cX1_placeOfTeam 38 = .ok (.ifCond .lt 22, 3) := by decide +kernel
theorem dX1_placeOfTeam_41 : decode cX1_placeOfTeam 41 = .ok (.lload 8, 2) := by decide +kernel
theorem dX1_placeOfTeam_43 : decode cX1_placeOfTeam 43 = .ok (.lload_n 2, 1) := by decide +kernel
theorem dX1_placeOfTeam_44 : decode cX1_placeOfTeam 44 = .ok (.lcmp, 1) := by decide +kernel
theorem dX1_placeOfTeam_45 : decode cX1_placeOfTeam 45 = .ok (.ifCond .ne 19, 3) := by decide +kernel
theorem dX1_placeOfTeam_48 : decode cX1_placeOfTeam 48 = .ok (.aload_n 0, 1) := by decide +kernel
theorem dX1_placeOfTeam_49 : decode cX1_placeOfTeam 49 = .ok (.iload 7, 2) := by decide +kernel
theorem dX1_placeOfTeam_51 : decode cX1_placeOfTeam 51 = .ok (.invokevirtual 135, 3) := by decide +kernel
theorem dX1_placeOfTeam_54 : decode cX1_placeOfTeam 54 = .ok (.lload 4, 2) := by decide +kernel
theorem dX1_placeOfTeam_56 : decode cX1_placeOfTeam 56 = .ok (.lcmp, 1) := by decide +kernel
theorem dX1_placeOfTeam_57 : decode cX1_placeOfTeam 57 = .ok (.ifCond .ge 7, 3) := by decide +kernel
theorem dX1_placeOfTeam_60 : decode cX1_placeOfTeam 60 = .ok (.iconst 1, 1) := by decide +kernel
theorem dX1_placeOfTeam_61 : decode cX1_placeOfTeam 61 = .ok (.goto 4, 3) := by decide +kernel
theorem dX1_placeOfTeam_64 : decode cX1_placeOfTeam 64 = .ok (.iconst 0, 1) := by decide +kernel
theorem dX1_placeOfTeam_65 : decode cX1_placeOfTeam 65 = .ok (.istore 10, 2) := by decide +kernel
theorem dX1_placeOfTeam_67 : decode cX1_placeOfTeam 67 = .ok (.aload_n 0, 1) := by decide +kernel
theorem dX1_placeOfTeam_68 : decode cX1_placeOfTeam 68 = .ok (.getfield 19, 3) := by decide +kernel
theorem dX1_placeOfTeam_71 : decode cX1_placeOfTeam 71 = .ok (.iload 7, 2) := by decide +kernel
theorem dX1_placeOfTeam_73 : decode cX1_placeOfTeam 73 = .ok (.invokevirtual 138, 3) := by decide +kernel
theorem dX1_placeOfTeam_76 : decode cX1_placeOfTeam 76 = .ok (.ifCond .le 11, 3) := by decide +kernel
theorem dX1_placeOfTeam_79 : decode cX1_placeOfTeam 79 = .ok (.iload 10, 2) := by decide +kernel
theorem dX1_placeOfTeam_81 : decode cX1_placeOfTeam 81 = .ok (.ifCond .eq 6, 3) := by decide +kernel
theorem dX1_placeOfTeam_84 : decode cX1_placeOfTeam 84 = .ok (.iinc 6 1, 3) := by decide +kernel
theorem dX1_placeOfTeam_87 : decode cX1_placeOfTeam 87 = .ok (.iinc 7 1, 3) := by decide +kernel
theorem dX1_placeOfTeam_90 : decode cX1_placeOfTeam 90 = .ok (.goto (-71), 3) := by decide +kernel
theorem dX1_placeOfTeam_93 : decode cX1_placeOfTeam 93 = .ok (.iload 6, 2) := by decide +kernel
theorem dX1_placeOfTeam_95 : decode cX1_placeOfTeam 95 = .ok (.ireturn, 1) := by decide +kernel
theorem dX2_init_0 : decode cX2_init 0 = .ok (.aload_n 0, 1) := by decide +kernel
theorem dX2_init_1 : decode cX2_init 1 = .ok (.invokespecial 3, 3) := by decide +kernel
theorem dX2_init_4 : decode cX2_init 4 = .ok (.aload_n 0, 1) := by decide +kernel
theorem dX2_init_5 : decode cX2_init 5 = .ok (.bipush 32, 2) := by decide +kernel
theorem dX2_init_7 : decode cX2_init 7 = .ok (.newarray .int, 2) := by decide +kernel
theorem dX2_init_9 : decode cX2_init 9 = .ok (.putfield 11, 3) := by decide +kernel
theorem dX2_init_12 : decode cX2_init 12 = .ok (.aload_n 0, 1) := by decide +kernel
theorem dX2_init_13 : decode cX2_init 13 = .ok (.bipush 30, 2) := by decide +kernel
theorem dX2_init_15 : decode cX2_init 15 = .ok (.newarray .int, 2) := by decide +kernel
theorem dX2_init_17 : decode cX2_init 17 = .ok (.putfield 15, 3) := by decide +kernel
theorem dX2_init_20 : decode cX2_init 20 = .ok (.aload_n 0, 1) := by decide +kernel
theorem dX2_init_21 : decode cX2_init 21 = .ok (.sipush 500, 3) := by decide +kernel
theorem dX2_init_24 : decode cX2_init 24 = .ok (.putfield 18, 3) := by decide +kernel
theorem dX2_init_27 : decode cX2_init 27 = .ok (.return_, 1) := by decide +kernel
theorem dX2_addFence_0 : decode cX2_addFence 0 = .ok (.aload_n 0, 1) := by decide +kernel
theorem dX2_addFence_1 : decode cX2_addFence 1 = .ok (.getfield 22, 3) := by decide +kernel
theorem dX2_addFence_4 : decode cX2_addFence 4 = .ok (.bipush 30, 2) := by decide +kernel
theorem dX2_addFence_6 : decode cX2_addFence 6 = .ok (.if_icmp .ge 14, 3) := by decide +kernel
theorem dX2_addFence_9 : decode cX2_addFence 9 = .ok (.iload_n 1, 1) := by decide +kernel
theorem dX2_addFence_10 : decode cX2_addFence 10 = .ok (.iconst 0, 1) := by decide +kernel
theorem dX2_addFence_11 : decode cX2_addFence 11 = .ok (.sipush 2000, 3) := by decide +kernel
theorem dX2_addFence_14 : decode cX2_addFence 14 = .ok (.invokestatic 25, 3) := by decide +kernel
theorem dX2_addFence_17 : decode cX2_addFence 17 = .ok (.ifCond .ne 5, 3) := by decide +kernel
theorem dX2_addFence_20 : decode cX2_addFence 20 = .ok (.iconst (-1), 1) := by decide +kernel
theorem dX2_addFence_21 : decode cX2_addFence 21 = .ok (.ireturn, 1) := by decide +kernel
theorem dX2_addFence_22 : decode cX2_addFence 22 = .ok (.aload_n 0, 1) := by decide +kernel
theorem dX2_addFence_23 : decode cX2_addFence 23 = .ok (.getfield 15, 3) := by decide +kernel
theorem dX2_addFence_26 : decode cX2_addFence 26 = .ok (.aload_n 0, 1) := by decide +kernel
theorem dX2_addFence_27 : decode cX2_addFence 27 = .ok (.getfield 22, 3) := by decide +kernel
theorem dX2_addFence_30 : decode cX2_addFence 30 = .ok (.iconst (-1), 1) := by decide +kernel
theorem dX2_addFence_31 : decode cX2_addFence 31 = .ok (.iastore, 1) := by decide +kernel
theorem dX2_addFence_32 : decode cX2_addFence 32 = .ok (.aload_n 0, 1) := by decide +kernel
theorem dX2_addFence_33 : decode cX2_addFence 33 = .ok (.dup, 1) := by decide +kernel
theorem dX2_addFence_34 : decode cX2_addFence 34 = .ok (.getfield 22, 3) := by decide +kernel
theorem dX2_addFence_37 : decode cX2_addFence 37 = .ok (.iconst 1, 1) := by decide +kernel
theorem dX2_addFence_38 : decode cX2_addFence 38 = .ok (.iadd, 1) := by decide +kernel
theorem dX2_addFence_39 : decode cX2_addFence 39 = .ok (.putfield 22, 3) := by decide +kernel
theorem dX2_addFence_42 : decode cX2_addFence 42 = .ok (.aload_n 0, 1) := by decide +kernel
theorem dX2_addFence_43 : decode cX2_addFence 43 = .ok (.dup, 1) := by decide +kernel
theorem dX2_addFence_44 : decode cX2_addFence 44 = .ok (.getfield 29, 3) := by decide +kernel
theorem dX2_addFence_47 : decode cX2_addFence 47 = .ok (.iload_n 1, 1) := by decide +kernel
theorem dX2_addFence_48 : decode cX2_addFence 48 = .ok (.iadd, 1) := by decide +kernel
theorem dX2_addFence_49 : decode cX2_addFence 49 = .ok (.putfield 29, 3) := by decide +kernel
theorem dX2_addFence_52 : decode cX2_addFence 52 = .ok (.aload_n 0, 1) := by decide +kernel
theorem dX2_addFence_53 : decode cX2_addFence 53 = .ok (.invokevirtual 32, 3) := by decide +kernel
theorem dX2_addFence_56 : decode cX2_addFence 56 = .ok (.aload_n 0, 1) := by decide +kernel
theorem dX2_addFence_57 : decode cX2_addFence 57 = .ok (.getfield 22, 3) := by decide +kernel
theorem dX2_addFence_60 : decode cX2_addFence 60 = .ok (.ireturn, 1) := by decide +kernel
theorem dX2_measure_0 : decode cX2_measure 0 = .ok (.iload_n 1, 1) := by decide +kernel
theorem dX2_measure_1 : decode cX2_measure 1 = .ok (.iconst 0, 1) := by decide +kernel
theorem dX2_measure_2 : decode cX2_measure 2 = .ok (.sipush 2000, 3) := by decide +kernel
theorem dX2_measure_5 : decode cX2_measure 5 = .ok (.invokestatic 25, 3) := by decide +kernel
theorem dX2_measure_8 : decode cX2_measure 8 = .ok (.ifCond .eq 15, 3) := by decide +kernel
theorem dX2_measure_11 : decode cX2_measure 11 = .ok (.iload_n 2, 1) := by decide +kernel
theorem dX2_measure_12 : decode cX2_measure 12 = .ok (.bipush 100, 2) := by decide +kernel
theorem dX2_measure_14 : decode cX2_measure 14 = .ok (.sipush 700, 3) := by decide +kernel
theorem dX2_measure_17 : decode cX2_measure 17 = .ok (.invokestatic 25, 3) := by decide +kernel
theorem dX2_measure_20 : decode cX2_measure 20 = .ok (.ifCond .ne 5, 3) := by decide +kernel
theorem dX2_measure_23 : decode cX2_measure 23 = .ok (.iconst (-1), 1) := by decide +kernel
theorem dX2_measure_24 : decode cX2_measure 24 = .ok (.ireturn, 1) := by decide +kernel
theorem dX2_measure_25 : decode cX2_measure 25 = .ok (.aload_n 0, 1) := by decide +kernel
theorem dX2_measure_26 : decode cX2_measure 26 = .ok (.iload_n 1, 1) := by decide +kernel
theorem dX2_measure_27 : decode cX2_measure 27 = .ok (.putfield 35, 3) := by decide +kernel
theorem dX2_measure_30 : decode cX2_measure 30 = .ok (.aload_n 0, 1) := by decide +kernel
theorem dX2_measure_31 : decode cX2_measure 31 = .ok (.iload_n 2, 1) := by decide +kernel
theorem dX2_measure_32 : decode cX2_measure 32 = .ok (.putfield 18, 3) := by decide +kernel
theorem dX2_measure_35 : decode cX2_measure 35 = .ok (.aload_n 0, 1) := by decide +kernel
theorem dX2_measure_36 : decode cX2_measure 36 = .ok (.invokevirtual 32, 3) := by decide +kernel
theorem dX2_measure_39 : decode cX2_measure 39 = .ok (.aload_n 0, 1) := by decide +kernel
theorem dX2_measure_40 : decode cX2_measure 40 = .ok (.getfield 38, 3) := by decide +kernel
theorem dX2_measure_43 : decode cX2_measure 43 = .ok (.ireturn, 1) := by decide +kernel
theorem dX2_setOptimum_0 : decode cX2_setOptimum 0 = .ok (.aload_n 0, 1) := by decide +kernel
theorem dX2_setOptimum_1 : decode cX2_setOptimum 1 = .ok (.aload_n 0, 1) := by decide +kernel
theorem dX2_setOptimum_2 : decode cX2_setOptimum 2 = .ok (.getfield 18, 3) := by decide +kernel
theorem dX2_setOptimum_5 : decode cX2_setOptimum 5 = .ok (.iconst 1, 1) := by decide +kernel
theorem dX2_setOptimum_6 : decode cX2_setOptimum 6 = .ok (.if_icmp .ge 7, 3) := by decide +kernel
theorem dX2_setOptimum_9 : decode cX2_setOptimum 9 = .ok (.iconst 0, 1) := by decide +kernel
theorem dX2_setOptimum_10 : decode cX2_setOptimum 10 = .ok (.goto 27, 3) := by decide +kernel
theorem dX2_setOptimum_13 : decode cX2_setOptimum 13 = .ok (.bipush 60, 2) := by decide +kernel
theorem dX2_setOptimum_15 : decode cX2_setOptimum 15 = .ok (.aload_n 0, 1) := by decide +kernel
theorem dX2_setOptimum_16 : decode cX2_setOptimum 16 = .ok (.getfield 29, 3) := by decide +kernel
theorem dX2_setOptimum_19 : decode cX2_setOptimum 19 = .ok (.aload_n 0, 1) := by decide +kernel
theorem dX2_setOptimum_20 : decode cX2_setOptimum 20 = .ok (.getfield 35, 3) := by decide +kernel
theorem dX2_setOptimum_23 : decode cX2_setOptimum 23 = .ok (.iadd, 1) := by decide +kernel
theorem dX2_setOptimum_24 : decode cX2_setOptimum 24 = .ok (.imul, 1) := by decide +kernel
theorem dX2_setOptimum_25 : decode cX2_setOptimum 25 = .ok (.aload_n 0, 1) := by decide +kernel
theorem dX2_setOptimum_26 : decode cX2_setOptimum 26 = .ok (.getfield 18, 3) := by decide +kernel
theorem dX2_setOptimum_29 : decode cX2_setOptimum 29 = .ok (.iadd, 1) := by decide +kernel
theorem dX2_setOptimum_30 : decode cX2_setOptimum 30 = .ok (.iconst 1, 1) := by decide +kernel
theorem dX2_setOptimum_31 : decode cX2_setOptimum 31 = .ok (.isub, 1) := by decide +kernel
theorem dX2_setOptimum_32 : decode cX2_setOptimum 32 = .ok (.aload_n 0, 1) := by decide +kernel
theorem dX2_setOptimum_33 : decode cX2_setOptimum 33 = .ok (.getfield 18, 3) := by decide +kernel
theorem dX2_setOptimum_36 : decode cX2_setOptimum 36 = .ok (.idiv, 1) := by decide +kernel
theorem dX2_setOptimum_37 : decode cX2_setOptimum 37 = .ok (.putfield 38, 3) := by decide +kernel
theorem dX2_setOptimum_40 : decode cX2_setOptimum 40 = .ok (.return_, 1) := by decide +kernel
theorem dX2_setClock_0 : decode cX2_setClock 0 = .ok (.iload_n 1, 1) := by decide +kernel
theorem dX2_setClock_1 : decode cX2_setClock 1 = .ok (.iconst 0, 1) := by decide +kernel
theorem dX2_setClock_2 : decode cX2_setClock 2 = .ok (.iconst 2, 1) := by decide +kernel
theorem dX2_setClock_3 : decode cX2_setClock 3 = .ok (.aload_n 0, 1) := by decide +kernel
theorem dX2_setClock_4 : decode cX2_setClock 4 = .ok (.getfield 22, 3) := by decide +kernel
theorem dX2_setClock_7 : decode cX2_setClock 7 = .ok (.iadd, 1) := by decide +kernel
theorem dX2_setClock_8 : decode cX2_setClock 8 = .ok (.iconst 1, 1) := by decide +kernel
theorem dX2_setClock_9 : decode cX2_setClock 9 = .ok (.isub, 1) := by decide +kernel
theorem dX2_setClock_10 : decode cX2_setClock 10 = .ok (.invokestatic 25, 3) := by decide +kernel
theorem dX2_setClock_13 : decode cX2_setClock 13 = .ok (.ifCond .eq 16, 3) := by decide +kernel
theorem dX2_setClock_16 : decode cX2_setClock 16 = .ok (.iload_n 2, 1) := by decide +kernel
theorem dX2_setClock_17 : decode cX2_setClock 17 = .ok (.sipush (-600), 3) := by decide +kernel
theorem dX2_setClock_20 : decode cX2_setClock 20 = .ok (.sipush 600, 3) := by decide +kernel
theorem dX2_setClock_23 : decode cX2_setClock 23 = .ok (.invokestatic 25, 3) := by decide +kernel
theorem dX2_setClock_26 : decode cX2_setClock 26 = .ok (.ifCond .ne 5, 3) := by decide +kernel
theorem dX2_setClock_29 : decode cX2_setClock 29 = .ok (.iconst 0, 1) := by decide +kernel
theorem dX2_setClock_30 : decode cX2_setClock 30 = .ok (.ireturn, 1) := by decide +kernel
theorem dX2_setClock_31 : decode cX2_setClock 31 = .ok (.aload_n 0, 1) := by decide +kernel
theorem dX2_setClock_32 : decode cX2_setClock 32 = .ok (.getfield 11, 3) := by decide +kernel
theorem dX2_setClock_35 : decode cX2_setClock 35 = .ok (.iload_n 1, 1) := by decide +kernel
theorem dX2_setClock_36 : decode cX2_setClock 36 = .ok (.iload_n 2, 1) := by decide +kernel
theorem dX2_setClock_37 : decode cX2_setClock 37 = .ok (.iastore, 1) := by decide +kernel
theorem dX2_setClock_38 : decode cX2_setClock 38 = .ok (.iconst 1, 1) := by decide +kernel
theorem dX2_setClock_39 : decode cX2_setClock 39 = .ok (.ireturn, 1) := by decide +kernel
theorem dX2_takeOut_0 : decode cX2_takeOut 0 = .ok (.aload_n 0, 1) := by decide +kernel
theorem dX2_takeOut_1 : decode cX2_takeOut 1 = .ok (.iload_n 1, 1) := by decide +kernel
theorem dX2_takeOut_2 : decode cX2_takeOut 2 = .ok (.invokevirtual 41, 3) := by decide +kernel
theorem dX2_takeOut_5 : decode cX2_takeOut 5 = .ok (.ifCond .eq 13, 3) := by decide +kernel
theorem dX2_takeOut_8 : decode cX2_takeOut 8 = .ok (.iload_n 2, 1) := by decide +kernel
theorem dX2_takeOut_9 : decode cX2_takeOut 9 = .ok (.iconst (-1), 1) := by decide +kernel
theorem dX2_takeOut_10 : decode cX2_takeOut 10 = .ok (.ldc 45, 2) := by decide +kernel
theorem dX2_takeOut_12 : decode cX2_takeOut 12 = .ok (.invokestatic 25, 3) := by decide +kernel
theorem dX2_takeOut_15 : decode cX2_takeOut 15 = .ok (.ifCond .ne 5, 3) := by decide +kernel
theorem dX2_takeOut_18 : decode cX2_takeOut 18 = .ok (.iconst 0, 1) := by decide +kernel
theorem dX2_takeOut_19 : decode cX2_takeOut 19 = .ok (.ireturn, 1) := by decide +kernel
theorem dX2_takeOut_20 : decode cX2_takeOut 20 = .ok (.aload_n 0, 1) := by decide +kernel
theorem dX2_takeOut_21 : decode cX2_takeOut 21 = .ok (.getfield 15, 3) := by decide +kernel
theorem dX2_takeOut_24 : decode cX2_takeOut 24 = .ok (.iload_n 1, 1) := by decide +kernel
theorem dX2_takeOut_25 : decode cX2_takeOut 25 = .ok (.iload_n 2, 1) := by decide +kernel
theorem dX2_takeOut_26 : decode cX2_takeOut 26 = .ok (.iastore, 1) := by decide +kernel
theorem dX2_takeOut_27 : decode cX2_takeOut 27 = .ok (.iconst 1, 1) := by decide +kernel
theorem dX2_takeOut_28 : decode cX2_takeOut 28 = .ok (.ireturn, 1) := by decide +kernel
theorem dX2_hasFence_0 : decode cX2_hasFence 0 = .ok (.iload_n 1, 1) := by decide +kernel
theorem dX2_hasFence_1 : decode cX2_hasFence 1 = .ok (.iconst 0, 1) := by decide +kernel
theorem dX2_hasFence_2 : decode cX2_hasFence 2 = .ok (.aload_n 0, 1) := by decide +kernel
theorem dX2_hasFence_3 : decode cX2_hasFence 3 = .ok (.getfield 22, 3) := by decide +kernel
theorem dX2_hasFence_6 : decode cX2_hasFence 6 = .ok (.iconst 1, 1) := by decide +kernel
theorem dX2_hasFence_7 : decode cX2_hasFence 7 = .ok (.isub, 1) := by decide +kernel
theorem dX2_hasFence_8 : decode cX2_hasFence 8 = .ok (.invokestatic 25, 3) := by decide +kernel
theorem dX2_hasFence_11 : decode cX2_hasFence 11 = .ok (.ireturn, 1) := by decide +kernel
theorem dX2_putRight_0 : decode cX2_putRight 0 = .ok (.iload_n 1, 1) := by decide +kernel
theorem dX2_putRight_1 : decode cX2_putRight 1 = .ok (.iconst 0, 1) := by decide +kernel
theorem dX2_putRight_2 : decode cX2_putRight 2 = .ok (.aload_n 0, 1) := by decide +kernel
theorem dX2_putRight_3 : decode cX2_putRight 3 = .ok (.getfield 11, 3) := by decide +kernel
theorem dX2_putRight_6 : decode cX2_putRight 6 = .ok (.arraylength, 1) := by decide +kernel
theorem dX2_putRight_7 : decode cX2_putRight 7 = .ok (.iconst 1, 1) := by decide +kernel
theorem dX2_putRight_8 : decode cX2_putRight 8 = .ok (.isub, 1) := by decide +kernel
theorem dX2_putRight_9 : decode cX2_putRight 9 = .ok (.invokestatic 25, 3) := by decide +kernel
theorem dX2_putRight_12 : decode cX2_putRight 12 = .ok (.ifCond .eq 14, 3) := by decide +kernel
theorem dX2_putRight_15 : decode cX2_putRight 15 = .ok (.iload_n 2, 1) := by decide +kernel
theorem dX2_putRight_16 : decode cX2_putRight 16 = .ok (.aload_n 0, 1) := by decide +kernel
theorem dX2_putRight_17 : decode cX2_putRight 17 = .ok (.getfield 11, 3) := by decide +kernel
theorem dX2_putRight_20 : decode cX2_putRight 20 = .ok (.iload_n 1, 1) := by decide +kernel
theorem dX2_putRight_21 : decode cX2_putRight 21 = .ok (.iaload, 1) := by decide +kernel
theorem dX2_putRight_22 : decode cX2_putRight 22 = .ok (.isub, 1) := by decide +kernel
theorem dX2_putRight_23 : decode cX2_putRight 23 = .ok (.goto 4, 3) := by decide +kernel
theorem dX2_putRight_26 : decode cX2_putRight 26 = .ok (.iload_n 2, 1) := by decide +kernel
theorem dX2_putRight_27 : decode cX2_putRight 27 = .ok (.ireturn, 1) := by decide +kernel
theorem dX2_isFenceFor_0 : decode cX2_isFenceFor 0 = .ok (.aload_n 0, 1) := by decide +kernel
theorem dX2_isFenceFor_1 : decode cX2_isFenceFor 1 = .ok (.iload_n 2, 1) := by decide +kernel
theorem dX2_isFenceFor_2 : decode cX2_isFenceFor 2 = .ok (.invokevirtual 41, 3) := by decide +kernel
theorem dX2_isFenceFor_5 : decode cX2_isFenceFor 5 = .ok (.ifCond .eq 37, 3) := by decide +kernel
theorem dX2_isFenceFor_8 : decode cX2_isFenceFor 8 = .ok (.aload_n 0, 1) := by decide +kernel
theorem dX2_isFenceFor_9 : decode cX2_isFenceFor 9 = .ok (.getfield 15, 3) := by decide +kernel
theorem dX2_isFenceFor_12 : decode cX2_isFenceFor 12 = .ok (.iload_n 2, 1) := by decide +kernel
theorem dX2_isFenceFor_13 : decode cX2_isFenceFor 13 = .ok (.iaload, 1) := by decide +kernel
theorem dX2_isFenceFor_14 : decode cX2_isFenceFor 14 = .ok (.iconst (-1), 1) := by decide +kernel
theorem dX2_isFenceFor_15 : decode cX2_isFenceFor 15 = .ok (.if_icmp .eq 23, 3) := by decide +kernel
theorem dX2_isFenceFor_18 : decode cX2_isFenceFor 18 = .ok (.aload_n 1, 1) := by decide +kernel
theorem dX2_isFenceFor_19 : decode cX2_isFenceFor 19 = .ok (.getfield 46, 3) := by decide +kernel
theorem dX2_isFenceFor_22 : decode cX2_isFenceFor 22 = .ok (.ifCond .eq 16, 3) := by decide +kernel
theorem dX2_isFenceFor_25 : decode cX2_isFenceFor 25 = .ok (.aload_n 1, 1) := by decide +kernel
theorem dX2_isFenceFor_26 : decode cX2_isFenceFor 26 = .ok (.getfield 52, 3) := by decide +kernel
theorem dX2_isFenceFor_29 : decode cX2_isFenceFor 29 = .ok (.aload_n 0, 1) := by decide +kernel
theorem dX2_isFenceFor_30 : decode cX2_isFenceFor 30 = .ok (.getfield 15, 3) := by decide +kernel
theorem dX2_isFenceFor_33 : decode cX2_isFenceFor 33 = .ok (.iload_n 2, 1) := by decide +kernel
theorem dX2_isFenceFor_34 : decode cX2_isFenceFor 34 = .ok (.iaload, 1) := by decide +kernel
theorem dX2_isFenceFor_35 : decode cX2_isFenceFor 35 = .ok (.if_icmp .ge 7, 3) := by decide +kernel
theorem dX2_isFenceFor_38 : decode cX2_isFenceFor 38 = .ok (.iconst 1, 1) := by decide +kernel
theorem dX2_isFenceFor_39 : decode cX2_isFenceFor 39 = .ok (.goto 4, 3) := by decide +kernel
theorem dX2_isFenceFor_42 : decode cX2_isFenceFor 42 = .ok (.iconst 0, 1) := by decide +kernel
theorem dX2_isFenceFor_43 : decode cX2_isFenceFor 43 = .ok (.ireturn, 1) := by decide +kernel
theorem dX3_init_0 : decode cX3_init 0 = .ok (.aload_n 0, 1) := by decide +kernel
theorem dX3_init_1 : decode cX3_init 1 = .ok (.invokespecial 3, 3) := by decide +kernel
theorem dX3_init_4 : decode cX3_init 4 = .ok (.aload_n 0, 1) := by decide +kernel
theorem dX3_init_5 : decode cX3_init 5 = .ok (.sipush 401, 3) := by decide +kernel
theorem dX3_init_8 : decode cX3_init 8 = .ok (.anewarray 11, 3) := by decide +kernel
theorem dX3_init_11 : decode cX3_init 11 = .ok (.putfield 13, 3) := by decide +kernel
theorem dX3_init_14 : decode cX3_init 14 = .ok (.aload_n 0, 1) := by decide +kernel
theorem dX3_init_15 : decode cX3_init 15 = .ok (.bipush 24, 2) := by decide +kernel
theorem dX3_init_17 : decode cX3_init 17 = .ok (.anewarray 11, 3) := by decide +kernel
theorem dX3_init_20 : decode cX3_init 20 = .ok (.putfield 19, 3) := by decide +kernel
theorem dX3_init_23 : decode cX3_init 23 = .ok (.aload_n 0, 1) := by decide +kernel
theorem dX3_init_24 : decode cX3_init 24 = .ok (.bipush 24, 2) := by decide +kernel
theorem dX3_init_26 : decode cX3_init 26 = .ok (.anewarray 11, 3) := by decide +kernel
theorem dX3_init_29 : decode cX3_init 29 = .ok (.putfield 22, 3) := by decide +kernel
theorem dX3_init_32 : decode cX3_init 32 = .ok (.return_, 1) := by decide +kernel
theorem dX3_addReport_0 : decode cX3_addReport 0 = .ok (.aload_n 0, 1) := by decide +kernel
theorem dX3_addReport_1 : decode cX3_addReport 1 = .ok (.getfield 25, 3) := by decide +kernel
theorem dX3_addReport_4 : decode cX3_addReport 4 = .ok (.sipush 400, 3) := by decide +kernel
theorem dX3_addReport_7 : decode cX3_addReport 7 = .ok (.if_icmp .ge 13, 3) := by decide +kernel
theorem dX3_addReport_10 : decode cX3_addReport 10 = .ok (.iload_n 1, 1) := by decide +kernel
theorem dX3_addReport_11 : decode cX3_addReport 11 = .ok (.iconst 0, 1) := by decide +kernel
theorem dX3_addReport_12 : decode cX3_addReport 12 = .ok (.bipush 23, 2) := by decide +kernel
theorem dX3_addReport_14 : decode cX3_addReport 14 = .ok (.invokestatic 29, 3) := by decide +kernel
theorem dX3_addReport_17 : decode cX3_addReport 17 = .ok (.ifCond .ne 5, 3) := by decide +kernel
theorem dX3_addReport_20 : decode cX3_addReport 20 = .ok (.iconst (-1), 1) := by decide +kernel
theorem dX3_addReport_21 : decode cX3_addReport 21 = .ok (.ireturn, 1) := by decide +kernel
theorem dX3_addReport_22 : decode cX3_addReport 22 = .ok (.new 11, 3) := by decide +kernel
theorem dX3_addReport_25 : decode cX3_addReport 25 = .ok (.dup, 1) := by decide +kernel
theorem dX3_addReport_26 : decode cX3_addReport 26 = .ok (.iload_n 1, 1) := by decide +kernel
theorem dX3_addReport_27 : decode cX3_addReport 27 = .ok (.iload_n 2, 1) := by decide +kernel
theorem dX3_addReport_28 : decode cX3_addReport 28 = .ok (.iload_n 3, 1) := by decide +kernel
theorem dX3_addReport_29 : decode cX3_addReport 29 = .ok (.iload 4, 2) := by decide +kernel
theorem dX3_addReport_31 : decode cX3_addReport 31 = .ok (.iload 5, 2) := by decide +kernel
theorem dX3_addReport_33 : decode cX3_addReport 33 = .ok (.invokespecial 33, 3) := by decide +kernel
theorem dX3_addReport_36 : decode cX3_addReport 36 = .ok (.astore 6, 2) := by decide +kernel
theorem dX3_addReport_38 : decode cX3_addReport 38 = .ok (.aload_n 0, 1) := by decide +kernel
theorem dX3_addReport_39 : decode cX3_addReport 39 = .ok (.aload 6, 2) := by decide +kernel
theorem dX3_addReport_41 : decode cX3_addReport 41 = .ok (.invokevirtual 36, 3) := by decide +kernel
theorem dX3_addReport_44 : decode cX3_addReport 44 = .ok (.aload_n 0, 1) := by decide +kernel
theorem dX3_addReport_45 : decode cX3_addReport 45 = .ok (.getfield 22, 3) := by decide +kernel
theorem dX3_addReport_48 : decode cX3_addReport 48 = .ok (.iload_n 1, 1) := by decide +kernel
theorem dX3_addReport_49 : decode cX3_addReport 49 = .ok (.aaload, 1) := by decide +kernel
theorem dX3_addReport_50 : decode cX3_addReport 50 = .ok (.astore 7, 2) := by decide +kernel
theorem dX3_addReport_52 : decode cX3_addReport 52 = .ok (.aload 7, 2) := by decide +kernel
theorem dX3_addReport_54 : decode cX3_addReport 54 = .ok (.ifnonnull 14, 3) := by decide +kernel
theorem dX3_addReport_57 : decode cX3_addReport 57 = .ok (.aload_n 0, 1) := by decide +kernel
theorem dX3_addReport_58 : decode cX3_addReport 58 = .ok (.getfield 19, 3) := by decide +kernel
theorem dX3_addReport_61 : decode cX3_addReport 61 = .ok (.iload_n 1, 1) := by decide +kernel
theorem dX3_addReport_62 : decode cX3_addReport 62 = .ok (.aload 6, 2) := by decide +kernel
theorem dX3_addReport_64 : decode cX3_addReport 64 = .ok (.aastore, 1) := by decide +kernel
theorem dX3_addReport_65 : decode cX3_addReport 65 = .ok (.goto 10, 3) := by decide +kernel
theorem dX3_addReport_68 : decode cX3_addReport 68 = .ok (.aload 7, 2) := by decide +kernel
theorem dX3_addReport_70 : decode cX3_addReport 70 = .ok (.aload 6, 2) := by decide +kernel
theorem dX3_addReport_72 : decode cX3_addReport 72 = .ok (.putfield 40, 3) := by decide +kernel
theorem dX3_addReport_75 : decode cX3_addReport 75 = .ok (.aload_n 0, 1) := by decide +kernel
theorem dX3_addReport_76 : decode cX3_addReport 76 = .ok (.getfield 22, 3) := by decide +kernel
theorem dX3_addReport_79 : decode cX3_addReport 79 = .ok (.iload_n 1, 1) := by decide +kernel
theorem dX3_addReport_80 : decode cX3_addReport 80 = .ok (.aload 6, 2) := by decide +kernel
theorem dX3_addReport_82 : decode cX3_addReport 82 = .ok (.aastore, 1) := by decide +kernel
theorem dX3_addReport_83 : decode cX3_addReport 83 = .ok (.aload_n 0, 1) := by decide +kernel
theorem dX3_addReport_84 : decode cX3_addReport 84 = .ok (.getfield 25, 3) := by decide +kernel
theorem dX3_addReport_87 : decode cX3_addReport 87 = .ok (.ireturn, 1) := by decide +kernel
theorem dX3_addStrike_0 : decode cX3_addStrike 0 = .ok (.aload_n 0, 1) := by decide +kernel
theorem dX3_addStrike_1 : decode cX3_addStrike 1 = .ok (.iload_n 1, 1) := by decide +kernel
theorem dX3_addStrike_2 : decode cX3_addStrike 2 = .ok (.invokevirtual 44, 3) := by decide +kernel
theorem dX3_addStrike_5 : decode cX3_addStrike 5 = .ok (.astore_n 2, 1) := by decide +kernel
theorem dX3_addStrike_6 : decode cX3_addStrike 6 = .ok (.aload_n 0, 1) := by decide +kernel
theorem dX3_addStrike_7 : decode cX3_addStrike 7 = .ok (.getfield 25, 3) := by decide +kernel
theorem dX3_addStrike_10 : decode cX3_addStrike 10 = .ok (.sipush 400, 3) := by decide +kernel
theorem dX3_addStrike_13 : decode cX3_addStrike 13 = .ok (.if_icmp .ge 24, 3) := by decide +kernel
theorem dX3_addStrike_16 : decode cX3_addStrike 16 = .ok (.aload_n 2, 1) := by decide +kernel
theorem dX3_addStrike_17 : decode cX3_addStrike 17 = .ok (.ifnull 20, 3) := by decide +kernel
theorem dX3_addStrike_20 : decode cX3_addStrike 20 = .ok (.aload_n 2, 1) := by decide +kernel
theorem dX3_addStrike_21 : decode cX3_addStrike 21 = .ok (.getfield 48, 3) := by decide +kernel
theorem dX3_addStrike_24 : decode cX3_addStrike 24 = .ok (.bipush 12, 2) := by decide +kernel
theorem dX3_addStrike_26 : decode cX3_addStrike 26 = .ok (.if_icmp .eq 11, 3) := by decide +kernel
theorem dX3_addStrike_29 : decode cX3_addStrike 29 = .ok (.aload_n 2, 1) := by decide +kernel
theorem dX3_addStrike_30 : decode cX3_addStrike 30 = .ok (.getfield 51, 3) := by decide +kernel
theorem dX3_addStrike_33 : decode cX3_addStrike 33 = .ok (.iconst (-1), 1) := by decide +kernel
theorem dX3_addStrike_34 : decode cX3_addStrike 34 = .ok (.if_icmp .eq 5, 3) := by decide +kernel
theorem dX3_addStrike_37 : decode cX3_addStrike 37 = .ok (.iconst (-1), 1) := by decide +kernel
theorem dX3_addStrike_38 : decode cX3_addStrike 38 = .ok (.ireturn, 1) := by decide +kernel
theorem dX3_addStrike_39 : decode cX3_addStrike 39 = .ok (.aload_n 0, 1) := by decide +kernel
theorem dX3_addStrike_40 : decode cX3_addStrike 40 = .ok (.new 11, 3) := by decide +kernel
theorem dX3_addStrike_43 : decode cX3_addStrike 43 = .ok (.dup, 1) := by decide +kernel
theorem dX3_addStrike_44 : decode cX3_addStrike 44 = .ok (.aload_n 2, 1) := by decide +kernel
theorem dX3_addStrike_45 : decode cX3_addStrike 45 = .ok (.getfield 54, 3) := by decide +kernel
theorem dX3_addStrike_48 : decode cX3_addStrike 48 = .ok (.bipush 12, 2) := by decide +kernel
theorem dX3_addStrike_50 : decode cX3_addStrike 50 = .ok (.iconst (-1), 1) := by decide +kernel
theorem dX3_addStrike_51 : decode cX3_addStrike 51 = .ok (.iconst 0, 1) := by decide +kernel
theorem dX3_addStrike_52 : decode cX3_addStrike 52 = .ok (.iconst 0, 1) := by decide +kernel
theorem dX3_addStrike_53 : decode cX3_addStrike 53 = .ok (.invokespecial 33, 3) := by decide +kernel
theorem dX3_addStrike_56 : decode cX3_addStrike 56 = .ok (.invokevirtual 36, 3) := by decide +kernel
theorem dX3_addStrike_59 : decode cX3_addStrike 59 = .ok (.aload_n 2, 1) := by decide +kernel
theorem dX3_addStrike_60 : decode cX3_addStrike 60 = .ok (.aload_n 0, 1) := by decide +kernel
theorem dX3_addStrike_61 : decode cX3_addStrike 61 = .ok (.getfield 25, 3) := by decide +kernel
theorem dX3_addStrike_64 : decode cX3_addStrike 64 = .ok (.putfield 51, 3) := by decide +kernel
theorem dX3_addStrike_67 : decode cX3_addStrike 67 = .ok (.aload_n 0, 1) := by decide +kernel
theorem dX3_addStrike_68 : decode cX3_addStrike 68 = .ok (.getfield 25, 3) := by decide +kernel
theorem dX3_addStrike_71 : decode cX3_addStrike 71 = .ok (.ireturn, 1) := by decide +kernel
theorem dX3_write_0 : decode cX3_write 0 = .ok (.aload_n 0, 1) := by decide +kernel
theorem dX3_write_1 : decode cX3_write 1 = .ok (.dup, 1) := by decide +kernel
theorem dX3_write_2 : decode cX3_write 2 = .ok (.getfield 25, 3) := by decide +kernel
theorem dX3_write_5 : decode cX3_write 5 = .ok (.iconst 1, 1) := by decide +kernel
theorem dX3_write_6 : decode cX3_write 6 = .ok (.iadd, 1) := by decide +kernel
theorem dX3_write_7 : decode cX3_write 7 = .ok (.putfield 25, 3) := by decide +kernel
theorem dX3_write_10 : decode cX3_write 10 = .ok (.aload_n 1, 1) := by decide +kernel
theorem dX3_write_11 : decode cX3_write 11 = .ok (.aload_n 0, 1) := by decide +kernel
theorem dX3_write_12 : decode cX3_write 12 = .ok (.getfield 25, 3) := by decide +kernel
theorem dX3_write_15 : decode cX3_write 15 = .ok (.putfield 57, 3) := by decide +kernel
theorem dX3_write_18 : decode cX3_write 18 = .ok (.aload_n 0, 1) := by decide +kernel
theorem dX3_write_19 : decode cX3_write 19 = .ok (.getfield 13, 3) := by decide +kernel
theorem dX3_write_22 : decode cX3_write 22 = .ok (.aload_n 0, 1) := by decide +kernel
theorem dX3_write_23 : decode cX3_write 23 = .ok (.getfield 25, 3) := by decide +kernel
theorem dX3_write_26 : decode cX3_write 26 = .ok (.aload_n 1, 1) := by decide +kernel
theorem dX3_write_27 : decode cX3_write 27 = .ok (.aastore, 1) := by decide +kernel
theorem dX3_write_28 : decode cX3_write 28 = .ok (.return_, 1) := by decide +kernel
theorem dX3_actAt_0 : decode cX3_actAt 0 = .ok (.iload_n 1, 1) := by decide +kernel
theorem dX3_actAt_1 : decode cX3_actAt 1 = .ok (.iconst 1, 1) := by decide +kernel
theorem dX3_actAt_2 : decode cX3_actAt 2 = .ok (.aload_n 0, 1) := by decide +kernel
theorem dX3_actAt_3 : decode cX3_actAt 3 = .ok (.getfield 25, 3) := by decide +kernel
theorem dX3_actAt_6 : decode cX3_actAt 6 = .ok (.invokestatic 29, 3) := by decide +kernel
theorem dX3_actAt_9 : decode cX3_actAt 9 = .ok (.ifCond .eq 12, 3) := by decide +kernel
theorem dX3_actAt_12 : decode cX3_actAt 12 = .ok (.aload_n 0, 1) := by decide +kernel
theorem dX3_actAt_13 : decode cX3_actAt 13 = .ok (.getfield 13, 3) := by decide +kernel
theorem dX3_actAt_16 : decode cX3_actAt 16 = .ok (.iload_n 1, 1) := by decide +kernel
theorem dX3_actAt_17 : decode cX3_actAt 17 = .ok (.aaload, 1) := by decide +kernel
theorem dX3_actAt_18 : decode cX3_actAt 18 = .ok (.goto 4, 3) := by decide +kernel
theorem dX3_actAt_21 : decode cX3_actAt 21 = .ok (.aconst_null, 1) := by decide +kernel
theorem dX3_actAt_22 : decode cX3_actAt 22 = .ok (.areturn, 1) := by decide +kernel
theorem dX3_riderOf_0 : decode cX3_riderOf 0 = .ok (.aload_n 0, 1) := by decide +kernel
theorem dX3_riderOf_1 : decode cX3_riderOf 1 = .ok (.iload_n 1, 1) := by decide +kernel
theorem dX3_riderOf_2 : decode cX3_riderOf 2 = .ok (.invokevirtual 44, 3) := by decide +kernel
theorem dX3_riderOf_5 : decode cX3_riderOf 5 = .ok (.astore_n 2, 1) := by decide +kernel
theorem dX3_riderOf_6 : decode cX3_riderOf 6 = .ok (.aload_n 2, 1) := by decide +kernel
theorem dX3_riderOf_7 : decode cX3_riderOf 7 = .ok (.ifnonnull 7, 3) := by decide +kernel
theorem dX3_riderOf_10 : decode cX3_riderOf 10 = .ok (.iconst (-1), 1) := by decide +kernel
theorem dX3_riderOf_11 : decode cX3_riderOf 11 = .ok (.goto 7, 3) := by decide +kernel
theorem dX3_riderOf_14 : decode cX3_riderOf 14 = .ok (.aload_n 2, 1) := by decide +kernel
theorem dX3_riderOf_15 : decode cX3_riderOf 15 = .ok (.getfield 54, 3) := by decide +kernel
theorem dX3_riderOf_18 : decode cX3_riderOf 18 = .ok (.ireturn, 1) := by decide +kernel
theorem dX3_oldestOf_0 : decode cX3_oldestOf 0 = .ok (.iload_n 1, 1) := by decide +kernel
theorem dX3_oldestOf_1 : decode cX3_oldestOf 1 = .ok (.iconst 0, 1) := by decide +kernel
theorem dX3_oldestOf_2 : decode cX3_oldestOf 2 = .ok (.bipush 23, 2) := by decide +kernel
theorem dX3_oldestOf_4 : decode cX3_oldestOf 4 = .ok (.invokestatic 29, 3) := by decide +kernel
theorem dX3_oldestOf_7 : decode cX3_oldestOf 7 = .ok (.ifCond .eq 12, 3) := by decide +kernel
theorem dX3_oldestOf_10 : decode cX3_oldestOf 10 = .ok (.aload_n 0, 1) := by decide +kernel
theorem dX3_oldestOf_11 : decode cX3_oldestOf 11 = .ok (.getfield 19, 3) := by decide +kernel
theorem dX3_oldestOf_14 : decode cX3_oldestOf 14 = .ok (.iload_n 1, 1) := by decide +kernel
theorem dX3_oldestOf_15 : decode cX3_oldestOf 15 = .ok (.aaload, 1) := by decide +kernel
theorem dX3_oldestOf_16 : decode cX3_oldestOf 16 = .ok (.goto 4, 3) := by decide +kernel
theorem dX3_oldestOf_19 : decode cX3_oldestOf 19 = .ok (.aconst_null, 1) := by decide +kernel
theorem dX3_oldestOf_20 : decode cX3_oldestOf 20 = .ok (.areturn, 1) := by decide +kernel
theorem dX4_init_0 : decode cX4_init 0 = .ok (.aload_n 0, 1) := by decide +kernel
theorem dX4_init_1 : decode cX4_init 1 = .ok (.invokespecial 3, 3) := by decide +kernel
theorem dX4_init_4 : decode cX4_init 4 = .ok (.aload_n 0, 1) := by decide +kernel
theorem dX4_init_5 : decode cX4_init 5 = .ok (.ldc 9, 2) := by decide +kernel
theorem dX4_init_7 : decode cX4_init 7 = .ok (.invokestatic 11, 3) := by decide +kernel
theorem dX4_init_10 : decode cX4_init 10 = .ok (.putfield 17, 3) := by decide +kernel
theorem dX4_init_13 : decode cX4_init 13 = .ok (.aload_n 0, 1) := by decide +kernel
theorem dX4_init_14 : decode cX4_init 14 = .ok (.ldc 21, 2) := by decide +kernel
theorem dX4_init_16 : decode cX4_init 16 = .ok (.invokestatic 11, 3) := by decide +kernel
theorem dX4_init_19 : decode cX4_init 19 = .ok (.putfield 23, 3) := by decide +kernel
theorem dX4_init_22 : decode cX4_init 22 = .ok (.aload_n 0, 1) := by decide +kernel
theorem dX4_init_23 : decode cX4_init 23 = .ok (.ldc 26, 2) := by decide +kernel
theorem dX4_init_25 : decode cX4_init 25 = .ok (.invokestatic 11, 3) := by decide +kernel
theorem dX4_init_28 : decode cX4_init 28 = .ok (.putfield 28, 3) := by decide +kernel
theorem dX4_init_31 : decode cX4_init 31 = .ok (.aload_n 0, 1) := by decide +kernel
theorem dX4_init_32 : decode cX4_init 32 = .ok (.ldc 31, 2) := by decide +kernel
theorem dX4_init_34 : decode cX4_init 34 = .ok (.invokestatic 11, 3) := by decide +kernel
theorem dX4_init_37 : decode cX4_init 37 = .ok (.putfield 33, 3) := by decide +kernel
theorem dX4_init_40 : decode cX4_init 40 = .ok (.aload_n 0, 1) := by decide +kernel
theorem dX4_init_41 : decode cX4_init 41 = .ok (.ldc 36, 2) := by decide +kernel
theorem dX4_init_43 : decode cX4_init 43 = .ok (.invokestatic 11, 3) := by decide +kernel
theorem dX4_init_46 : decode cX4_init 46 = .ok (.putfield 38, 3) := by decide +kernel
theorem dX4_init_49 : decode cX4_init 49 = .ok (.aload_n 0, 1) := by decide +kernel
theorem dX4_init_50 : decode cX4_init 50 = .ok (.ldc 41, 2) := by decide +kernel
theorem dX4_init_52 : decode cX4_init 52 = .ok (.invokestatic 11, 3) := by decide +kernel
theorem dX4_init_55 : decode cX4_init 55 = .ok (.putfield 43, 3) := by decide +kernel
theorem dX4_init_58 : decode cX4_init 58 = .ok (.aload_n 0, 1) := by decide +kernel
theorem dX4_init_59 : decode cX4_init 59 = .ok (.bipush 39, 2) := by decide +kernel
theorem dX4_init_61 : decode cX4_init 61 = .ok (.newarray .long, 2) := by decide +kernel
theorem dX4_init_63 : decode cX4_init 63 = .ok (.putfield 48, 3) := by decide +kernel
theorem dX4_init_66 : decode cX4_init 66 = .ok (.aload_n 0, 1) := by decide +kernel
theorem dX4_init_67 : decode cX4_init 67 = .ok (.iconst (-1), 1) := by decide +kernel
theorem dX4_init_68 : decode cX4_init 68 = .ok (.putfield 52, 3) := by decide +kernel
theorem dX4_init_71 : decode cX4_init 71 = .ok (.aload_n 0, 1) := by decide +kernel
theorem dX4_init_72 : decode cX4_init 72 = .ok (.aload_n 1, 1) := by decide +kernel
theorem dX4_init_73 : decode cX4_init 73 = .ok (.putfield 56, 3) := by decide +kernel
theorem dX4_init_76 : decode cX4_init 76 = .ok (.iconst 0, 1) := by decide +kernel
theorem dX4_init_77 : decode cX4_init 77 = .ok (.istore_n 2, 1) := by decide +kernel
theorem dX4_init_78 : decode cX4_init 78 = .ok (.iconst 0, 1) := by decide +kernel
theorem dX4_init_79 : decode cX4_init 79 = .ok (.istore_n 3, 1) := by decide +kernel
theorem dX4_init_80 : decode cX4_init 80 = .ok (.iload_n 3, 1) := by decide +kernel
theorem dX4_init_81 : decode cX4_init 81 = .ok (.ldc 60, 2) := by decide +kernel
theorem dX4_init_83 : decode cX4_init 83 = .ok (.invokevirtual 62, 3) := by decide +kernel
theorem dX4_init_86 : decode cX4_init 86 = .ok (.if_icmp .ge 53, 3) := by decide +kernel
theorem dX4_init_89 : decode cX4_init 89 = .ok (.iload_n 2, 1) := by decide +kernel
theorem dX4_init_90 : decode cX4_init 90 = .ok (.bipush 15, 2) := by decide +kernel
theorem dX4_init_92 : decode cX4_init 92 = .ok (.if_icmp .ge 47, 3) := by decide +kernel
theorem dX4_init_95 : decode cX4_init 95 = .ok (.ldc 60, 2) := by decide +kernel
theorem dX4_init_97 : decode cX4_init 97 = .ok (.iload_n 3, 1) := by decide +kernel
theorem dX4_init_98 : decode cX4_init 98 = .ok (.invokevirtual 68, 3) := by decide +kernel
theorem dX4_init_101 : decode cX4_init 101 = .ok (.istore 4, 2) := by decide +kernel
theorem dX4_init_103 : decode cX4_init 103 = .ok (.iload 4, 2) := by decide +kernel
theorem dX4_init_105 : decode cX4_init 105 = .ok (.bipush 32, 2) := by decide +kernel
theorem dX4_init_107 : decode cX4_init 107 = .ok (.if_icmp .ne 9, 3) := by decide +kernel
theorem dX4_init_110 : decode cX4_init 110 = .ok (.iinc 2 1, 3) := by decide +kernel
theorem dX4_init_113 : decode cX4_init 113 = .ok (.goto 20, 3) := by decide +kernel
theorem dX4_init_116 : decode cX4_init 116 = .ok (.aload_n 0, 1) := by decide +kernel
theorem dX4_init_117 : decode cX4_init 117 = .ok (.getfield 48, 3) := by decide +kernel
theorem dX4_init_120 : decode cX4_init 120 = .ok (.iload_n 2, 1) := by decide +kernel
theorem dX4_init_121 : decode cX4_init 121 = .ok (.aload_n 0, 1) := by decide +kernel
theorem dX4_init_122 : decode cX4_init 122 = .ok (.getfield 48, 3) := by decide +kernel
theorem dX4_init_125 : decode cX4_init 125 = .ok (.iload_n 2, 1) := by decide +kernel
theorem dX4_init_126 : decode cX4_init 126 = .ok (.laload, 1) := by decide +kernel
theorem dX4_init_127 : decode cX4_init 127 = .ok (.iload 4, 2) := by decide +kernel
theorem dX4_init_129 : decode cX4_init 129 = .ok (.invokestatic 72, 3) := by decide +kernel
theorem dX4_init_132 : decode cX4_init 132 = .ok (.lastore, 1) := by decide +kernel
theorem dX4_init_133 : decode cX4_init 133 = .ok (.iinc 3 1, 3) := by decide +kernel
theorem dX4_init_136 : decode cX4_init 136 = .ok (.goto (-56), 3) := by decide +kernel
theorem dX4_init_139 : decode cX4_init 139 = .ok (.return_, 1) := by decide +kernel
theorem dX4_packed_0 : decode cX4_packed 0 = .ok (.lconst 0, 1) := by decide +kernel
theorem dX4_packed_1 : decode cX4_packed 1 = .ok (.lstore_n 1, 1) := by decide +kernel
theorem dX4_packed_2 : decode cX4_packed 2 = .ok (.iconst 0, 1) := by decide +kernel
theorem dX4_packed_3 : decode cX4_packed 3 = .ok (.istore_n 3, 1) := by decide +kernel
theorem dX4_packed_4 : decode cX4_packed 4 = .ok (.iload_n 3, 1) := by decide +kernel
theorem dX4_packed_5 : decode cX4_packed 5 = .ok (.aload_n 0, 1) := by decide +kernel
theorem dX4_packed_6 : decode cX4_packed 6 = .ok (.invokevirtual 62, 3) := by decide +kernel
theorem dX4_packed_9 : decode cX4_packed 9 = .ok (.if_icmp .ge 19, 3) := by decide +kernel
theorem dX4_packed_12 : decode cX4_packed 12 = .ok (.lload_n 1, 1) := by decide +kernel
theorem dX4_packed_13 : decode cX4_packed 13 = .ok (.aload_n 0, 1) := by decide +kernel
theorem dX4_packed_14 : decode cX4_packed 14 = .ok (.iload_n 3, 1) := by decide +kernel
theorem dX4_packed_15 : decode cX4_packed 15 = .ok (.invokevirtual 68, 3) := by decide +kernel
theorem dX4_packed_18 : decode cX4_packed 18 = .ok (.invokestatic 72, 3) := by decide +kernel
theorem dX4_packed_21 : decode cX4_packed 21 = .ok (.lstore_n 1, 1) := by decide +kernel
theorem dX4_packed_22 : decode cX4_packed 22 = .ok (.iinc 3 1, 3) := by decide +kernel
theorem dX4_packed_25 : decode cX4_packed 25 = .ok (.goto (-21), 3) := by decide +kernel
theorem dX4_packed_28 : decode cX4_packed 28 = .ok (.lload_n 1, 1) := by decide +kernel
theorem dX4_packed_29 : decode cX4_packed 29 = .ok (.lreturn, 1) := by decide +kernel
theorem dX4_withLetter_0 : decode cX4_withLetter 0 = .ok (.lload_n 0, 1) := by decide +kernel
theorem dX4_withLetter_1 : decode cX4_withLetter 1 = .ok (.iconst 5, 1) := by decide +kernel
theorem dX4_withLetter_2 : decode cX4_withLetter 2 = .ok (.lshl, 1) := by decide +kernel
theorem dX4_withLetter_3 : decode cX4_withLetter 3 = .ok (.iload_n 2, 1) := by decide +kernel
theorem dX4_withLetter_4 : decode cX4_withLetter 4 = .ok (.bipush 96, 2) := by decide +kernel
theorem dX4_withLetter_6 : decode cX4_withLetter 6 = .ok (.isub, 1) := by decide +kernel
theorem dX4_withLetter_7 : decode cX4_withLetter 7 = .ok (.i2l, 1) := by decide +kernel
theorem dX4_withLetter_8 : decode cX4_withLetter 8 = .ok (.lor, 1) := by decide +kernel
theorem dX4_withLetter_9 : decode cX4_withLetter 9 = .ok (.lreturn, 1) := by decide +kernel
theorem dX4_read_0 : decode cX4_read 0 = .ok (.aload_n 0, 1) := by decide +kernel
theorem dX4_read_1 : decode cX4_read 1 = .ok (.aload_n 1, 1) := by decide +kernel
theorem dX4_read_2 : decode cX4_read 2 = .ok (.putfield 76, 3) := by decide +kernel
theorem dX4_read_5 : decode cX4_read 5 = .ok (.aload_n 0, 1) := by decide +kernel
theorem dX4_read_6 : decode cX4_read 6 = .ok (.getfield 76, 3) := by decide +kernel
theorem dX4_read_9 : decode cX4_read 9 = .ok (.invokevirtual 80, 3) := by decide +kernel
theorem dX4_read_12 : decode cX4_read 12 = .ok (.bipush 15, 2) := by decide +kernel
theorem dX4_read_14 : decode cX4_read 14 = .ok (.istore_n 2, 1) := by decide +kernel
theorem dX4_read_15 : decode cX4_read 15 = .ok (.iload_n 2, 1) := by decide +kernel
theorem dX4_read_16 : decode cX4_read 16 = .ok (.bipush 39, 2) := by decide +kernel
theorem dX4_read_18 : decode cX4_read 18 = .ok (.if_icmp .ge 16, 3) := by decide +kernel
theorem dX4_read_21 : decode cX4_read 21 = .ok (.aload_n 0, 1) := by decide +kernel
theorem dX4_read_22 : decode cX4_read 22 = .ok (.getfield 48, 3) := by decide +kernel
theorem dX4_read_25 : decode cX4_read 25 = .ok (.iload_n 2, 1) := by decide +kernel
theorem dX4_read_26 : decode cX4_read 26 = .ok (.lconst 0, 1) := by decide +kernel
theorem dX4_read_27 : decode cX4_read 27 = .ok (.lastore, 1) := by decide +kernel
theorem dX4_read_28 : decode cX4_read 28 = .ok (.iinc 2 1, 3) := by decide +kernel
theorem dX4_read_31 : decode cX4_read 31 = .ok (.goto (-16), 3) := by decide +kernel
theorem dX4_read_34 : decode cX4_read 34 = .ok (.aload_n 0, 1) := by decide +kernel
theorem dX4_read_35 : decode cX4_read 35 = .ok (.iconst 0, 1) := by decide +kernel
theorem dX4_read_36 : decode cX4_read 36 = .ok (.putfield 85, 3) := by decide +kernel
theorem dX4_read_39 : decode cX4_read 39 = .ok (.aload_n 0, 1) := by decide +kernel
theorem dX4_read_40 : decode cX4_read 40 = .ok (.iconst (-1), 1) := by decide +kernel
theorem dX4_read_41 : decode cX4_read 41 = .ok (.putfield 52, 3) := by decide +kernel
theorem dX4_read_44 : decode cX4_read 44 = .ok (.aload_n 0, 1) := by decide +kernel
theorem dX4_read_45 : decode cX4_read 45 = .ok (.iconst 0, 1) := by decide +kernel
theorem dX4_read_46 : decode cX4_read 46 = .ok (.putfield 88, 3) := by decide +kernel
theorem dX4_read_49 : decode cX4_read 49 = .ok (.aload_n 0, 1) := by decide +kernel
theorem dX4_read_50 : decode cX4_read 50 = .ok (.invokevirtual 91, 3) := by decide +kernel
theorem dX4_read_53 : decode cX4_read 53 = .ok (.iconst 0, 1) := by decide +kernel
theorem dX4_read_54 : decode cX4_read 54 = .ok (.istore_n 2, 1) := by decide +kernel
theorem dX4_read_55 : decode cX4_read 55 = .ok (.iload_n 2, 1) := by decide +kernel
theorem dX4_read_56 : decode cX4_read 56 = .ok (.bipush 24, 2) := by decide +kernel
theorem dX4_read_58 : decode cX4_read 58 = .ok (.if_icmp .gt 96, 3) := by decide +kernel
theorem dX4_read_61 : decode cX4_read 61 = .ok (.aload_n 0, 1) := by decide +kernel
theorem dX4_read_62 : decode cX4_read 62 = .ok (.getfield 94, 3) := by decide +kernel
theorem dX4_read_65 : decode cX4_read 65 = .ok (.iconst (-1), 1) := by decide +kernel
theorem dX4_read_66 : decode cX4_read 66 = .ok (.if_icmp .eq 88, 3) := by decide +kernel
theorem dX4_read_69 : decode cX4_read 69 = .ok (.iload_n 2, 1) := by decide +kernel
theorem dX4_read_70 : decode cX4_read 70 = .ok (.bipush 24, 2) := by decide +kernel
theorem dX4_read_72 : decode cX4_read 72 = .ok (.if_icmp .eq 12, 3) := by decide +kernel
theorem dX4_read_75 : decode cX4_read 75 = .ok (.aload_n 0, 1) := by decide +kernel
theorem dX4_read_76 : decode cX4_read 76 = .ok (.getfield 94, 3) := by decide +kernel
theorem dX4_read_79 : decode cX4_read 79 = .ok (.bipush 97, 2) := by decide +kernel
theorem dX4_read_81 : decode cX4_read 81 = .ok (.if_icmp .eq 15, 3) := by decide +kernel
theorem dX4_read_84 : decode cX4_read 84 = .ok (.aload_n 0, 1) := by decide +kernel
theorem dX4_read_85 : decode cX4_read 85 = .ok (.iconst 1, 1) := by decide +kernel
theorem dX4_read_86 : decode cX4_read 86 = .ok (.aload_n 0, 1) := by decide +kernel
theorem dX4_read_87 : decode cX4_read 87 = .ok (.getfield 97, 3) := by decide +kernel
theorem dX4_read_90 : decode cX4_read 90 = .ok (.invokevirtual 100, 3) := by decide +kernel
theorem dX4_read_93 : decode cX4_read 93 = .ok (.goto 49, 3) := by decide +kernel
theorem dX4_read_96 : decode cX4_read 96 = .ok (.aload_n 0, 1) := by decide +kernel
theorem dX4_read_97 : decode cX4_read 97 = .ok (.getfield 104, 3) := by decide +kernel
theorem dX4_read_100 : decode cX4_read 100 = .ok (.aload_n 0, 1) := by decide +kernel
theorem dX4_read_101 : decode cX4_read 101 = .ok (.getfield 17, 3) := by decide +kernel
theorem dX4_read_104 : decode cX4_read 104 = .ok (.lcmp, 1) := by decide +kernel
theorem dX4_read_105 : decode cX4_read 105 = .ok (.ifCond .ne 10, 3) := by decide +kernel
theorem dX4_read_108 : decode cX4_read 108 = .ok (.aload_n 0, 1) := by decide +kernel
theorem dX4_read_109 : decode cX4_read 109 = .ok (.invokevirtual 107, 3) := by decide +kernel
theorem dX4_read_112 : decode cX4_read 112 = .ok (.goto 30, 3) := by decide +kernel
theorem dX4_read_115 : decode cX4_read 115 = .ok (.aload_n 0, 1) := by decide +kernel
theorem dX4_read_116 : decode cX4_read 116 = .ok (.getfield 104, 3) := by decide +kernel
theorem dX4_read_119 : decode cX4_read 119 = .ok (.aload_n 0, 1) := by decide +kernel
theorem dX4_read_120 : decode cX4_read 120 = .ok (.getfield 28, 3) := by decide +kernel
theorem dX4_read_123 : decode cX4_read 123 = .ok (.lcmp, 1) := by decide +kernel
theorem dX4_read_124 : decode cX4_read 124 = .ok (.ifCond .ne 10, 3) := by decide +kernel
theorem dX4_read_127 : decode cX4_read 127 = .ok (.aload_n 0, 1) := by decide +kernel
theorem dX4_read_128 : decode cX4_read 128 = .ok (.invokevirtual 110, 3) := by decide +kernel
theorem dX4_read_131 : decode cX4_read 131 = .ok (.goto 11, 3) := by decide +kernel
theorem dX4_read_134 : decode cX4_read 134 = .ok (.aload_n 0, 1) := by decide +kernel
theorem dX4_read_135 : decode cX4_read 135 = .ok (.bipush 15, 2) := by decide +kernel
theorem dX4_read_137 : decode cX4_read 137 = .ok (.iload_n 2, 1) := by decide +kernel
theorem dX4_read_138 : decode cX4_read 138 = .ok (.iadd, 1) := by decide +kernel
theorem dX4_read_139 : decode cX4_read 139 = .ok (.invokevirtual 113, 3) := by decide +kernel
theorem dX4_read_142 : decode cX4_read 142 = .ok (.aload_n 0, 1) := by decide +kernel
theorem dX4_read_143 : decode cX4_read 143 = .ok (.bipush 59, 2) := by decide +kernel
theorem dX4_read_145 : decode cX4_read 145 = .ok (.invokevirtual 117, 3) := by decide +kernel
theorem dX4_read_148 : decode cX4_read 148 = .ok (.iinc 2 1, 3) := by decide +kernel
theorem dX4_read_151 : decode cX4_read 151 = .ok (.goto (-96), 3) := by decide +kernel
theorem dX4_read_154 : decode cX4_read 154 = .ok (.aload_n 0, 1) := by decide +kernel
theorem dX4_read_155 : decode cX4_read 155 = .ok (.getfield 76, 3) := by decide +kernel
theorem dX4_read_158 : decode cX4_read 158 = .ok (.invokevirtual 120, 3) := by decide +kernel
theorem dX4_read_161 : decode cX4_read 161 = .ok (.ifCond .ne 15, 3) := by decide +kernel
theorem dX4_read_164 : decode cX4_read 164 = .ok (.aload_n 0, 1) := by decide +kernel
theorem dX4_read_165 : decode cX4_read 165 = .ok (.iconst 4, 1) := by decide +kernel
theorem dX4_read_166 : decode cX4_read 166 = .ok (.aload_n 0, 1) := by decide +kernel
theorem dX4_read_167 : decode cX4_read 167 = .ok (.getfield 56, 3) := by decide +kernel
theorem dX4_read_170 : decode cX4_read 170 = .ok (.getfield 124, 3) := by decide +kernel
theorem dX4_read_173 : decode cX4_read 173 = .ok (.invokevirtual 100, 3) := by decide +kernel
theorem dX4_read_176 : decode cX4_read 176 = .ok (.aload_n 0, 1) := by decide +kernel
theorem dX4_read_177 : decode cX4_read 177 = .ok (.getfield 85, 3) := by decide +kernel
theorem dX4_read_180 : decode cX4_read 180 = .ok (.ifCond .ne 7, 3) := by decide +kernel
theorem dX4_read_183 : decode cX4_read 183 = .ok (.iconst 1, 1) := by decide +kernel
theorem dX4_read_184 : decode cX4_read 184 = .ok (.goto 4, 3) := by decide +kernel
theorem dX4_read_187 : decode cX4_read 187 = .ok (.iconst 0, 1) := by decide +kernel
theorem dX4_read_188 : decode cX4_read 188 = .ok (.ireturn, 1) := by decide +kernel
theorem dX4_readTie_0 : decode cX4_readTie 0 = .ok (.aload_n 0, 1) := by decide +kernel
theorem dX4_readTie_1 : decode cX4_readTie 1 = .ok (.invokevirtual 91, 3) := by decide +kernel
theorem dX4_readTie_4 : decode cX4_readTie 4 = .ok (.aload_n 0, 1) := by decide +kernel
theorem dX4_readTie_5 : decode cX4_readTie 5 = .ok (.iconst 0, 1) := by decide +kernel
theorem dX4_readTie_6 : decode cX4_readTie 6 = .ok (.invokevirtual 128, 3) := by decide +kernel
theorem dX4_readTie_9 : decode cX4_readTie 9 = .ok (.aload_n 0, 1) := by decide +kernel
theorem dX4_readTie_10 : decode cX4_readTie 10 = .ok (.getfield 76, 3) := by decide +kernel
theorem dX4_readTie_13 : decode cX4_readTie 13 = .ok (.iconst 2, 1) := by decide +kernel
theorem dX4_readTie_14 : decode cX4_readTie 14 = .ok (.invokevirtual 131, 3) := by decide +kernel
theorem dX4_readTie_17 : decode cX4_readTie 17 = .ok (.return_, 1) := by decide +kernel
theorem dX4_readOutIf_0 : decode cX4_readOutIf 0 = .ok (.aload_n 0, 1) := by decide +kernel
theorem dX4_readOutIf_1 : decode cX4_readOutIf 1 = .ok (.invokevirtual 91, 3) := by decide +kernel
theorem dX4_readOutIf_4 : decode cX4_readOutIf 4 = .ok (.aload_n 0, 1) := by decide +kernel
theorem dX4_readOutIf_5 : decode cX4_readOutIf 5 = .ok (.getfield 94, 3) := by decide +kernel
theorem dX4_readOutIf_8 : decode cX4_readOutIf 8 = .ok (.bipush 97, 2) := by decide +kernel
theorem dX4_readOutIf_10 : decode cX4_readOutIf 10 = .ok (.if_icmp .ne 15, 3) := by decide +kernel
theorem dX4_readOutIf_13 : decode cX4_readOutIf 13 = .ok (.aload_n 0, 1) := by decide +kernel
theorem dX4_readOutIf_14 : decode cX4_readOutIf 14 = .ok (.getfield 104, 3) := by decide +kernel
theorem dX4_readOutIf_17 : decode cX4_readOutIf 17 = .ok (.aload_n 0, 1) := by decide +kernel
theorem dX4_readOutIf_18 : decode cX4_readOutIf 18 = .ok (.getfield 23, 3) := by decide +kernel
theorem dX4_readOutIf_21 : decode cX4_readOutIf 21 = .ok (.lcmp, 1) := by decide +kernel
theorem dX4_readOutIf_22 : decode cX4_readOutIf 22 = .ok (.ifCond .eq 12, 3) := by decide +kernel
theorem dX4_readOutIf_25 : decode cX4_readOutIf 25 = .ok (.aload_n 0, 1) := by decide +kernel
theorem dX4_readOutIf_26 : decode cX4_readOutIf 26 = .ok (.iconst 1, 1) := by decide +kernel
theorem dX4_readOutIf_27 : decode cX4_readOutIf 27 = .ok (.aload_n 0, 1) := by decide +kernel
theorem dX4_readOutIf_28 : decode cX4_readOutIf 28 = .ok (.getfield 97, 3) := by decide +kernel
theorem dX4_readOutIf_31 : decode cX4_readOutIf 31 = .ok (.invokevirtual 100, 3) := by decide +kernel
theorem dX4_readOutIf_34 : decode cX4_readOutIf 34 = .ok (.aload_n 0, 1) := by decide +kernel
theorem dX4_readOutIf_35 : decode cX4_readOutIf 35 = .ok (.invokevirtual 91, 3) := by decide +kernel
theorem dX4_readOutIf_38 : decode cX4_readOutIf 38 = .ok (.aload_n 0, 1) := by decide +kernel
theorem dX4_readOutIf_39 : decode cX4_readOutIf 39 = .ok (.iconst 0, 1) := by decide +kernel
theorem dX4_readOutIf_40 : decode cX4_readOutIf 40 = .ok (.invokevirtual 128, 3) := by decide +kernel
theorem dX4_readOutIf_43 : decode cX4_readOutIf 43 = .ok (.aload_n 0, 1) := by decide +kernel
theorem dX4_readOutIf_44 : decode cX4_readOutIf 44 = .ok (.invokevirtual 134, 3) := by decide +kernel
theorem dX4_readOutIf_47 : decode cX4_readOutIf 47 = .ok (.istore_n 1, 1) := by decide +kernel
theorem dX4_readOutIf_48 : decode cX4_readOutIf 48 = .ok (.aload_n 0, 1) := by decide +kernel
theorem dX4_readOutIf_49 : decode cX4_readOutIf 49 = .ok (.invokevirtual 91, 3) := by decide +kernel
theorem dX4_readOutIf_52 : decode cX4_readOutIf 52 = .ok (.aload_n 0, 1) := by decide +kernel
theorem dX4_readOutIf_53 : decode cX4_readOutIf 53 = .ok (.iconst 0, 1) := by decide +kernel
theorem dX4_readOutIf_54 : decode cX4_readOutIf 54 = .ok (.invokevirtual 128, 3) := by decide +kernel
theorem dX4_readOutIf_57 : decode cX4_readOutIf 57 = .ok (.aload_n 0, 1) := by decide +kernel
theorem dX4_readOutIf_58 : decode cX4_readOutIf 58 = .ok (.getfield 76, 3) := by decide +kernel
theorem dX4_readOutIf_61 : decode cX4_readOutIf 61 = .ok (.iload_n 1, 1) := by decide +kernel
theorem dX4_readOutIf_62 : decode cX4_readOutIf 62 = .ok (.iconst 0, 1) := by decide +kernel
theorem dX4_readOutIf_63 : decode cX4_readOutIf 63 = .ok (.invokevirtual 137, 3) := by decide +kernel
theorem dX4_readOutIf_66 : decode cX4_readOutIf 66 = .ok (.aload_n 0, 1) := by decide +kernel
theorem dX4_readOutIf_67 : decode cX4_readOutIf 67 = .ok (.getfield 76, 3) := by decide +kernel
theorem dX4_readOutIf_70 : decode cX4_readOutIf 70 = .ok (.iconst 1, 1) := by decide +kernel
theorem dX4_readOutIf_71 : decode cX4_readOutIf 71 = .ok (.invokevirtual 131, 3) := by decide +kernel
theorem dX4_readOutIf_74 : decode cX4_readOutIf 74 = .ok (.return_, 1) := by decide +kernel
theorem dX4_comparison_0 : decode cX4_comparison 0 = .ok (.aload_n 0, 1) := by decide +kernel
theorem dX4_comparison_1 : decode cX4_comparison 1 = .ok (.getfield 94, 3) := by decide +kernel
theorem dX4_comparison_4 : decode cX4_comparison 4 = .ok (.tableswitch 37 60 62 #[28, 34, 31], 28) := by decide +kernel
theorem dX4_comparison_32 : decode cX4_comparison 32 = .ok (.bipush 8, 2) := by decide +kernel
theorem dX4_comparison_34 : decode cX4_comparison 34 = .ok (.ireturn, 1) := by decide +kernel
theorem dX4_comparison_35 : decode cX4_comparison 35 = .ok (.bipush 9, 2) := by decide +kernel
theorem dX4_comparison_37 : decode cX4_comparison 37 = .ok (.ireturn, 1) := by decide +kernel
theorem dX4_comparison_38 : decode cX4_comparison 38 = .ok (.bipush 10, 2) := by decide +kernel
theorem dX4_comparison_40 : decode cX4_comparison 40 = .ok (.ireturn, 1) := by decide +kernel
theorem dX4_comparison_41 : decode cX4_comparison 41 = .ok (.aload_n 0, 1) := by decide +kernel
theorem dX4_comparison_42 : decode cX4_comparison 42 = .ok (.iconst 1, 1) := by decide +kernel
theorem dX4_comparison_43 : decode cX4_comparison 43 = .ok (.aload_n 0, 1) := by decide +kernel
theorem dX4_comparison_44 : decode cX4_comparison 44 = .ok (.getfield 97, 3) := by decide +kernel
theorem dX4_comparison_47 : decode cX4_comparison 47 = .ok (.invokevirtual 100, 3) := by decide +kernel
theorem dX4_comparison_50 : decode cX4_comparison 50 = .ok (.bipush 10, 2) := by decide +kernel
theorem dX4_comparison_52 : decode cX4_comparison 52 = .ok (.ireturn, 1) := by decide +kernel
theorem dX4_readGiving_0 : decode cX4_readGiving 0 = .ok (.aload_n 0, 1) := by decide +kernel
theorem dX4_readGiving_1 : decode cX4_readGiving 1 = .ok (.getfield 104, 3) := by decide +kernel
theorem dX4_readGiving_4 : decode cX4_readGiving 4 = .ok (.lstore_n 2, 1) := by decide +kernel
theorem dX4_readGiving_5 : decode cX4_readGiving 5 = .ok (.aload_n 0, 1) := by decide +kernel
theorem dX4_readGiving_6 : decode cX4_readGiving 6 = .ok (.iconst 0, 1) := by decide +kernel
theorem dX4_readGiving_7 : decode cX4_readGiving 7 = .ok (.invokevirtual 140, 3) := by decide +kernel
theorem dX4_readGiving_10 : decode cX4_readGiving 10 = .ok (.pop, 1) := by decide +kernel
theorem dX4_readGiving_11 : decode cX4_readGiving 11 = .ok (.aload_n 0, 1) := by decide +kernel
theorem dX4_readGiving_12 : decode cX4_readGiving 12 = .ok (.bipush 61, 2) := by decide +kernel
theorem dX4_readGiving_14 : decode cX4_readGiving 14 = .ok (.invokevirtual 117, 3) := by decide +kernel
theorem dX4_readGiving_17 : decode cX4_readGiving 17 = .ok (.aload_n 0, 1) := by decide +kernel
theorem dX4_readGiving_18 : decode cX4_readGiving 18 = .ok (.iconst 0, 1) := by decide +kernel
theorem dX4_readGiving_19 : decode cX4_readGiving 19 = .ok (.invokevirtual 128, 3) := by decide +kernel
theorem dX4_readGiving_22 : decode cX4_readGiving 22 = .ok (.aload_n 0, 1) := by decide +kernel
theorem dX4_readGiving_23 : decode cX4_readGiving 23 = .ok (.getfield 76, 3) := by decide +kernel
theorem dX4_readGiving_26 : decode cX4_readGiving 26 = .ok (.iconst 0, 1) := by decide +kernel
theorem dX4_readGiving_27 : decode cX4_readGiving 27 = .ok (.invokevirtual 131, 3) := by decide +kernel
theorem dX4_readGiving_30 : decode cX4_readGiving 30 = .ok (.aload_n 0, 1) := by decide +kernel
theorem dX4_readGiving_31 : decode cX4_readGiving 31 = .ok (.getfield 48, 3) := by decide +kernel
theorem dX4_readGiving_34 : decode cX4_readGiving 34 = .ok (.iload_n 1, 1) := by decide +kernel
theorem dX4_readGiving_35 : decode cX4_readGiving 35 = .ok (.lload_n 2, 1) := by decide +kernel
theorem dX4_readGiving_36 : decode cX4_readGiving 36 = .ok (.lastore, 1) := by decide +kernel
theorem dX4_readGiving_37 : decode cX4_readGiving 37 = .ok (.lload_n 2, 1) := by decide +kernel
theorem dX4_readGiving_38 : decode cX4_readGiving 38 = .ok (.aload_n 0, 1) := by decide +kernel
theorem dX4_readGiving_39 : decode cX4_readGiving 39 = .ok (.getfield 43, 3) := by decide +kernel
theorem dX4_readGiving_42 : decode cX4_readGiving 42 = .ok (.lcmp, 1) := by decide +kernel
theorem dX4_readGiving_43 : decode cX4_readGiving 43 = .ok (.ifCond .ne 11, 3) := by decide +kernel
theorem dX4_readGiving_46 : decode cX4_readGiving 46 = .ok (.aload_n 0, 1) := by decide +kernel
theorem dX4_readGiving_47 : decode cX4_readGiving 47 = .ok (.getfield 76, 3) := by decide +kernel
theorem dX4_readGiving_50 : decode cX4_readGiving 50 = .ok (.iload_n 1, 1) := by decide +kernel
theorem dX4_readGiving_51 : decode cX4_readGiving 51 = .ok (.invokevirtual 144, 3) := by decide +kernel
theorem dX4_readGiving_54 : decode cX4_readGiving 54 = .ok (.return_, 1) := by decide +kernel
theorem dX4_readSum_0 : decode cX4_readSum 0 = .ok (.aload_n 0, 1) := by decide +kernel
theorem dX4_readSum_1 : decode cX4_readSum 1 = .ok (.iload_n 1, 1) := by decide +kernel
theorem dX4_readSum_2 : decode cX4_readSum 2 = .ok (.invokevirtual 147, 3) := by decide +kernel
theorem dX4_readSum_5 : decode cX4_readSum 5 = .ok (.iconst 0, 1) := by decide +kernel
theorem dX4_readSum_6 : decode cX4_readSum 6 = .ok (.istore_n 2, 1) := by decide +kernel
theorem dX4_readSum_7 : decode cX4_readSum 7 = .ok (.iload_n 2, 1) := by decide +kernel
theorem dX4_readSum_8 : decode cX4_readSum 8 = .ok (.sipush 600, 3) := by decide +kernel
theorem dX4_readSum_11 : decode cX4_readSum 11 = .ok (.if_icmp .ge 60, 3) := by decide +kernel
theorem dX4_readSum_14 : decode cX4_readSum 14 = .ok (.aload_n 0, 1) := by decide +kernel
theorem dX4_readSum_15 : decode cX4_readSum 15 = .ok (.getfield 94, 3) := by decide +kernel
theorem dX4_readSum_18 : decode cX4_readSum 18 = .ok (.bipush 43, 2) := by decide +kernel
theorem dX4_readSum_20 : decode cX4_readSum 20 = .ok (.if_icmp .eq 12, 3) := by decide +kernel
theorem dX4_readSum_23 : decode cX4_readSum 23 = .ok (.aload_n 0, 1) := by decide +kernel
theorem dX4_readSum_24 : decode cX4_readSum 24 = .ok (.getfield 94, 3) := by decide +kernel
theorem dX4_readSum_27 : decode cX4_readSum 27 = .ok (.bipush 45, 2) := by decide +kernel
theorem dX4_readSum_29 : decode cX4_readSum 29 = .ok (.if_icmp .ne 42, 3) := by decide +kernel
theorem dX4_readSum_32 : decode cX4_readSum 32 = .ok (.aload_n 0, 1) := by decide +kernel
theorem dX4_readSum_33 : decode cX4_readSum 33 = .ok (.getfield 94, 3) := by decide +kernel
theorem dX4_readSum_36 : decode cX4_readSum 36 = .ok (.bipush 43, 2) := by decide +kernel
theorem dX4_readSum_38 : decode cX4_readSum 38 = .ok (.if_icmp .ne 7, 3) := by decide +kernel
theorem dX4_readSum_41 : decode cX4_readSum 41 = .ok (.iconst 2, 1) := by decide +kernel
theorem dX4_readSum_42 : decode cX4_readSum 42 = .ok (.goto 4, 3) := by decide +kernel
theorem dX4_readSum_45 : decode cX4_readSum 45 = .ok (.iconst 3, 1) := by decide +kernel
theorem dX4_readSum_46 : decode cX4_readSum 46 = .ok (.istore_n 3, 1) := by decide +kernel
theorem dX4_readSum_47 : decode cX4_readSum 47 = .ok (.aload_n 0, 1) := by decide +kernel
theorem dX4_readSum_48 : decode cX4_readSum 48 = .ok (.invokevirtual 91, 3) := by decide +kernel
theorem dX4_readSum_51 : decode cX4_readSum 51 = .ok (.aload_n 0, 1) := by decide +kernel
theorem dX4_readSum_52 : decode cX4_readSum 52 = .ok (.iload_n 1, 1) := by decide +kernel
theorem dX4_readSum_53 : decode cX4_readSum 53 = .ok (.invokevirtual 147, 3) := by decide +kernel
theorem dX4_readSum_56 : decode cX4_readSum 56 = .ok (.aload_n 0, 1) := by decide +kernel
theorem dX4_readSum_57 : decode cX4_readSum 57 = .ok (.getfield 76, 3) := by decide +kernel
theorem dX4_readSum_60 : decode cX4_readSum 60 = .ok (.iload_n 3, 1) := by decide +kernel
theorem dX4_readSum_61 : decode cX4_readSum 61 = .ok (.iconst 0, 1) := by decide +kernel
theorem dX4_readSum_62 : decode cX4_readSum 62 = .ok (.invokevirtual 137, 3) := by decide +kernel
theorem dX4_readSum_65 : decode cX4_readSum 65 = .ok (.iinc 2 1, 3) := by decide +kernel
theorem dX4_readSum_68 : decode cX4_readSum 68 = .ok (.goto (-61), 3) := by decide +kernel
theorem dX4_readSum_71 : decode cX4_readSum 71 = .ok (.return_, 1) := by decide +kernel
theorem dX4_readProduct_0 : decode cX4_readProduct 0 = .ok (.aload_n 0, 1) := by decide +kernel
theorem dX4_readProduct_1 : decode cX4_readProduct 1 = .ok (.iload_n 1, 1) := by decide +kernel
theorem dX4_readProduct_2 : decode cX4_readProduct 2 = .ok (.invokevirtual 150, 3) := by decide +kernel
theorem dX4_readProduct_5 : decode cX4_readProduct 5 = .ok (.iconst 0, 1) := by decide +kernel
theorem dX4_readProduct_6 : decode cX4_readProduct 6 = .ok (.istore_n 2, 1) := by decide +kernel
theorem dX4_readProduct_7 : decode cX4_readProduct 7 = .ok (.iload_n 2, 1) := by decide +kernel
theorem dX4_readProduct_8 : decode cX4_readProduct 8 = .ok (.sipush 600, 3) := by decide +kernel
theorem dX4_readProduct_11 : decode cX4_readProduct 11 = .ok (.if_icmp .ge 71, 3) := by decide +kernel
theorem dX4_readProduct_14 : decode cX4_readProduct 14 = .ok (.aload_n 0, 1) := by decide +kernel
theorem dX4_readProduct_15 : decode cX4_readProduct 15 = .ok (.getfield 94, 3) := by decide +kernel
theorem dX4_readProduct_18 : decode cX4_readProduct 18 = .ok (.bipush 42, 2) := by decide +kernel
theorem dX4_readProduct_20 : decode cX4_readProduct 20 = .ok (.if_icmp .eq 12, 3) := by decide +kernel
theorem dX4_readProduct_23 : decode cX4_readProduct 23 = .ok (.aload_n 0, 1) := by decide +kernel
theorem dX4_readProduct_24 : decode cX4_readProduct 24 = .ok (.getfield 94, 3) := by decide +kernel
theorem dX4_readProduct_27 : decode cX4_readProduct 27 = .ok (.bipush 47, 2) := by decide +kernel
theorem dX4_readProduct_29 : decode cX4_readProduct 29 = .ok (.if_icmp .ne 53, 3) := by decide +kernel
theorem dX4_readProduct_32 : decode cX4_readProduct 32 = .ok (.aload_n 0, 1) := by decide +kernel
theorem dX4_readProduct_33 : decode cX4_readProduct 33 = .ok (.getfield 94, 3) := by decide +kernel
theorem dX4_readProduct_36 : decode cX4_readProduct 36 = .ok (.bipush 42, 2) := by decide +kernel
theorem dX4_readProduct_38 : decode cX4_readProduct 38 = .ok (.if_icmp .ne 7, 3) := by decide +kernel
theorem dX4_readProduct_41 : decode cX4_readProduct 41 = .ok (.iconst 1, 1) := by decide +kernel
theorem dX4_readProduct_42 : decode cX4_readProduct 42 = .ok (.goto 4, 3) := by decide +kernel
theorem dX4_readProduct_45 : decode cX4_readProduct 45 = .ok (.iconst 0, 1) := by decide +kernel
theorem dX4_readProduct_46 : decode cX4_readProduct 46 = .ok (.istore_n 3, 1) := by decide +kernel
theorem dX4_readProduct_47 : decode cX4_readProduct 47 = .ok (.aload_n 0, 1) := by decide +kernel
theorem dX4_readProduct_48 : decode cX4_readProduct 48 = .ok (.invokevirtual 91, 3) := by decide +kernel
theorem dX4_readProduct_51 : decode cX4_readProduct 51 = .ok (.iload_n 3, 1) := by decide +kernel
theorem dX4_readProduct_52 : decode cX4_readProduct 52 = .ok (.ifCond .eq 20, 3) := by decide +kernel
theorem dX4_readProduct_55 : decode cX4_readProduct 55 = .ok (.aload_n 0, 1) := by decide +kernel
theorem dX4_readProduct_56 : decode cX4_readProduct 56 = .ok (.iload_n 1, 1) := by decide +kernel
theorem dX4_readProduct_57 : decode cX4_readProduct 57 = .ok (.invokevirtual 150, 3) := by decide +kernel
theorem dX4_readProduct_60 : decode cX4_readProduct 60 = .ok (.aload_n 0, 1) := by decide +kernel
theorem dX4_readProduct_61 : decode cX4_readProduct 61 = .ok (.getfield 76, 3) := by decide +kernel
theorem dX4_readProduct_64 : decode cX4_readProduct 64 = .ok (.iconst 4, 1) := by decide +kernel
theorem dX4_readProduct_65 : decode cX4_readProduct 65 = .ok (.iconst 0, 1) := by decide +kernel
theorem dX4_readProduct_66 : decode cX4_readProduct 66 = .ok (.invokevirtual 137, 3) := by decide +kernel
theorem dX4_readProduct_69 : decode cX4_readProduct 69 = .ok (.goto 7, 3) := by decide +kernel
theorem dX4_readProduct_72 : decode cX4_readProduct 72 = .ok (.aload_n 0, 1) := by decide +kernel
theorem dX4_readProduct_73 : decode cX4_readProduct 73 = .ok (.invokevirtual 153, 3) := by decide +kernel
theorem dX4_readProduct_76 : decode cX4_readProduct 76 = .ok (.iinc 2 1, 3) := by decide +kernel
theorem dX4_readProduct_79 : decode cX4_readProduct 79 = .ok (.goto (-72), 3) := by decide +kernel
theorem dX4_readProduct_82 : decode cX4_readProduct 82 = .ok (.return_, 1) := by decide +kernel
theorem dX4_readFactor_0 : decode cX4_readFactor 0 = .ok (.aload_n 0, 1) := by decide +kernel
theorem dX4_readFactor_1 : decode cX4_readFactor 1 = .ok (.invokevirtual 156, 3) := by decide +kernel
theorem dX4_readFactor_4 : decode cX4_readFactor 4 = .ok (.istore_n 2, 1) := by decide +kernel
theorem dX4_readFactor_5 : decode cX4_readFactor 5 = .ok (.aload_n 0, 1) := by decide +kernel
theorem dX4_readFactor_6 : decode cX4_readFactor 6 = .ok (.getfield 94, 3) := by decide +kernel
theorem dX4_readFactor_9 : decode cX4_readFactor 9 = .ok (.bipush 48, 2) := by decide +kernel
theorem dX4_readFactor_11 : decode cX4_readFactor 11 = .ok (.if_icmp .ne 16, 3) := by decide +kernel
theorem dX4_readFactor_14 : decode cX4_readFactor 14 = .ok (.aload_n 0, 1) := by decide +kernel
theorem dX4_readFactor_15 : decode cX4_readFactor 15 = .ok (.getfield 76, 3) := by decide +kernel
theorem dX4_readFactor_18 : decode cX4_readFactor 18 = .ok (.iconst 0, 1) := by decide +kernel
theorem dX4_readFactor_19 : decode cX4_readFactor 19 = .ok (.aload_n 0, 1) := by decide +kernel
theorem dX4_readFactor_20 : decode cX4_readFactor 20 = .ok (.invokevirtual 159, 3) := by decide +kernel
theorem dX4_readFactor_23 : decode cX4_readFactor 23 = .ok (.invokevirtual 137, 3) := by decide +kernel
theorem dX4_readFactor_26 : decode cX4_readFactor 26 = .ok (.return_, 1) := by decide +kernel
theorem dX4_readFactor_27 : decode cX4_readFactor 27 = .ok (.aload_n 0, 1) := by decide +kernel
theorem dX4_readFactor_28 : decode cX4_readFactor 28 = .ok (.getfield 94, 3) := by decide +kernel
theorem dX4_readFactor_31 : decode cX4_readFactor 31 = .ok (.bipush 97, 2) := by decide +kernel
theorem dX4_readFactor_33 : decode cX4_readFactor 33 = .ok (.if_icmp .ne 22, 3) := by decide +kernel
theorem dX4_readFactor_36 : decode cX4_readFactor 36 = .ok (.iload_n 2, 1) := by decide +kernel
theorem dX4_readFactor_37 : decode cX4_readFactor 37 = .ok (.iconst (-1), 1) := by decide +kernel
theorem dX4_readFactor_38 : decode cX4_readFactor 38 = .ok (.if_icmp .ne 17, 3) := by decide +kernel
theorem dX4_readFactor_41 : decode cX4_readFactor 41 = .ok (.aload_n 0, 1) := by decide +kernel
theorem dX4_readFactor_42 : decode cX4_readFactor 42 = .ok (.getfield 76, 3) := by decide +kernel
theorem dX4_readFactor_45 : decode cX4_readFactor 45 = .ok (.iconst 1, 1) := by decide +kernel
theorem dX4_readFactor_46 : decode cX4_readFactor 46 = .ok (.aload_n 0, 1) := by decide +kernel
theorem dX4_readFactor_47 : decode cX4_readFactor 47 = .ok (.iconst 1, 1) := by decide +kernel
theorem dX4_readFactor_48 : decode cX4_readFactor 48 = .ok (.invokevirtual 140, 3) := by decide +kernel
theorem dX4_readFactor_51 : decode cX4_readFactor 51 = .ok (.invokevirtual 137, 3) := by decide +kernel
theorem dX4_readFactor_54 : decode cX4_readFactor 54 = .ok (.return_, 1) := by decide +kernel
theorem dX4_readFactor_55 : decode cX4_readFactor 55 = .ok (.iload_n 2, 1) := by decide +kernel
theorem dX4_readFactor_56 : decode cX4_readFactor 56 = .ok (.iconst (-1), 1) := by decide +kernel
theorem dX4_readFactor_57 : decode cX4_readFactor 57 = .ok (.if_icmp .eq 7, 3) := by decide +kernel
theorem dX4_readFactor_60 : decode cX4_readFactor 60 = .ok (.aload_n 0, 1) := by decide +kernel
theorem dX4_readFactor_61 : decode cX4_readFactor 61 = .ok (.invokevirtual 91, 3) := by decide +kernel
theorem dX4_readFactor_64 : decode cX4_readFactor 64 = .ok (.aload_n 0, 1) := by decide +kernel
theorem dX4_readFactor_65 : decode cX4_readFactor 65 = .ok (.getfield 94, 3) := by decide +kernel
theorem dX4_readFactor_68 : decode cX4_readFactor 68 = .ok (.bipush 40, 2) := by decide +kernel
theorem dX4_readFactor_70 : decode cX4_readFactor 70 = .ok (.if_icmp .ne 9, 3) := by decide +kernel
theorem dX4_readFactor_73 : decode cX4_readFactor 73 = .ok (.iload_n 1, 1) := by decide +kernel
theorem dX4_readFactor_74 : decode cX4_readFactor 74 = .ok (.bipush 6, 2) := by decide +kernel
theorem dX4_readFactor_76 : decode cX4_readFactor 76 = .ok (.if_icmp .lt 13, 3) := by decide +kernel
theorem dX4_readFactor_79 : decode cX4_readFactor 79 = .ok (.aload_n 0, 1) := by decide +kernel
theorem dX4_readFactor_80 : decode cX4_readFactor 80 = .ok (.iconst 1, 1) := by decide +kernel
theorem dX4_readFactor_81 : decode cX4_readFactor 81 = .ok (.aload_n 0, 1) := by decide +kernel
theorem dX4_readFactor_82 : decode cX4_readFactor 82 = .ok (.getfield 97, 3) := by decide +kernel
theorem dX4_readFactor_85 : decode cX4_readFactor 85 = .ok (.invokevirtual 100, 3) := by decide +kernel
theorem dX4_readFactor_88 : decode cX4_readFactor 88 = .ok (.return_, 1) := by decide +kernel
theorem dX4_readFactor_89 : decode cX4_readFactor 89 = .ok (.aload_n 0, 1) := by decide +kernel
theorem dX4_readFactor_90 : decode cX4_readFactor 90 = .ok (.invokevirtual 91, 3) := by decide +kernel
theorem dX4_readFactor_93 : decode cX4_readFactor 93 = .ok (.aload_n 0, 1) := by decide +kernel
theorem dX4_readFactor_94 : decode cX4_readFactor 94 = .ok (.iload_n 1, 1) := by decide +kernel
theorem dX4_readFactor_95 : decode cX4_readFactor 95 = .ok (.iconst 1, 1) := by decide +kernel
theorem dX4_readFactor_96 : decode cX4_readFactor 96 = .ok (.iadd, 1) := by decide +kernel
theorem dX4_readFactor_97 : decode cX4_readFactor 97 = .ok (.invokevirtual 128, 3) := by decide +kernel
theorem dX4_readFactor_100 : decode cX4_readFactor 100 = .ok (.iload_n 2, 1) := by decide +kernel
theorem dX4_readFactor_101 : decode cX4_readFactor 101 = .ok (.iconst (-1), 1) := by decide +kernel
theorem dX4_readFactor_102 : decode cX4_readFactor 102 = .ok (.if_icmp .eq 25, 3) := by decide +kernel
theorem dX4_readFactor_105 : decode cX4_readFactor 105 = .ok (.aload_n 0, 1) := by decide +kernel
theorem dX4_readFactor_106 : decode cX4_readFactor 106 = .ok (.bipush 44, 2) := by decide +kernel
theorem dX4_readFactor_108 : decode cX4_readFactor 108 = .ok (.invokevirtual 117, 3) := by decide +kernel
theorem dX4_readFactor_111 : decode cX4_readFactor 111 = .ok (.aload_n 0, 1) := by decide +kernel
theorem dX4_readFactor_112 : decode cX4_readFactor 112 = .ok (.iload_n 1, 1) := by decide +kernel
theorem dX4_readFactor_113 : decode cX4_readFactor 113 = .ok (.iconst 1, 1) := by decide +kernel
theorem dX4_readFactor_114 : decode cX4_readFactor 114 = .ok (.iadd, 1) := by decide +kernel
theorem dX4_readFactor_115 : decode cX4_readFactor 115 = .ok (.invokevirtual 128, 3) := by decide +kernel
theorem dX4_readFactor_118 : decode cX4_readFactor 118 = .ok (.aload_n 0, 1) := by decide +kernel
theorem dX4_readFactor_119 : decode cX4_readFactor 119 = .ok (.getfield 76, 3) := by decide +kernel
theorem dX4_readFactor_122 : decode cX4_readFactor 122 = .ok (.iload_n 2, 1) := by decide +kernel
theorem dX4_readFactor_123 : decode cX4_readFactor 123 = .ok (.iconst 0, 1) := by decide +kernel
theorem dX4_readFactor_124 : decode cX4_readFactor 124 = .ok (.invokevirtual 137, 3) := by decide +kernel
theorem dX4_readFactor_127 : decode cX4_readFactor 127 = .ok (.aload_n 0, 1) := by decide +kernel
theorem dX4_readFactor_128 : decode cX4_readFactor 128 = .ok (.bipush 41, 2) := by decide +kernel
theorem dX4_readFactor_130 : decode cX4_readFactor 130 = .ok (.invokevirtual 117, 3) := by decide +kernel
theorem dX4_readFactor_133 : decode cX4_readFactor 133 = .ok (.return_, 1) := by decide +kernel
theorem dX4_pairStep_0 : decode cX4_pairStep 0 = .ok (.aload_n 0, 1) := by decide +kernel
theorem dX4_pairStep_1 : decode cX4_pairStep 1 = .ok (.getfield 94, 3) := by decide +kernel
theorem dX4_pairStep_4 : decode cX4_pairStep 4 = .ok (.bipush 97, 2) := by decide +kernel
theorem dX4_pairStep_6 : decode cX4_pairStep 6 = .ok (.if_icmp .ne 18, 3) := by decide +kernel
theorem dX4_pairStep_9 : decode cX4_pairStep 9 = .ok (.aload_n 0, 1) := by decide +kernel
theorem dX4_pairStep_10 : decode cX4_pairStep 10 = .ok (.getfield 104, 3) := by decide +kernel
theorem dX4_pairStep_13 : decode cX4_pairStep 13 = .ok (.aload_n 0, 1) := by decide +kernel
theorem dX4_pairStep_14 : decode cX4_pairStep 14 = .ok (.getfield 33, 3) := by decide +kernel
theorem dX4_pairStep_17 : decode cX4_pairStep 17 = .ok (.lcmp, 1) := by decide +kernel
theorem dX4_pairStep_18 : decode cX4_pairStep 18 = .ok (.ifCond .ne 6, 3) := by decide +kernel
theorem dX4_pairStep_21 : decode cX4_pairStep 21 = .ok (.bipush 6, 2) := by decide +kernel
theorem dX4_pairStep_23 : decode cX4_pairStep 23 = .ok (.ireturn, 1) := by decide +kernel
theorem dX4_pairStep_24 : decode cX4_pairStep 24 = .ok (.aload_n 0, 1) := by decide +kernel
theorem dX4_pairStep_25 : decode cX4_pairStep 25 = .ok (.getfield 94, 3) := by decide +kernel
theorem dX4_pairStep_28 : decode cX4_pairStep 28 = .ok (.bipush 97, 2) := by decide +kernel
theorem dX4_pairStep_30 : decode cX4_pairStep 30 = .ok (.if_icmp .ne 20, 3) := by decide +kernel
theorem dX4_pairStep_33 : decode cX4_pairStep 33 = .ok (.aload_n 0, 1) := by decide +kernel
theorem dX4_pairStep_34 : decode cX4_pairStep 34 = .ok (.getfield 104, 3) := by decide +kernel
theorem dX4_pairStep_37 : decode cX4_pairStep 37 = .ok (.aload_n 0, 1) := by decide +kernel
theorem dX4_pairStep_38 : decode cX4_pairStep 38 = .ok (.getfield 38, 3) := by decide +kernel
theorem dX4_pairStep_41 : decode cX4_pairStep 41 = .ok (.lcmp, 1) := by decide +kernel
theorem dX4_pairStep_42 : decode cX4_pairStep 42 = .ok (.ifCond .ne 8, 3) := by decide +kernel
theorem dX4_pairStep_45 : decode cX4_pairStep 45 = .ok (.bipush 7, 2) := by decide +kernel
theorem dX4_pairStep_47 : decode cX4_pairStep 47 = .ok (.goto 4, 3) := by decide +kernel
theorem dX4_pairStep_50 : decode cX4_pairStep 50 = .ok (.iconst (-1), 1) := by decide +kernel
theorem dX4_pairStep_51 : decode cX4_pairStep 51 = .ok (.ireturn, 1) := by decide +kernel
theorem dX4_readDivisor_0 : decode cX4_readDivisor 0 = .ok (.aload_n 0, 1) := by decide +kernel
theorem dX4_readDivisor_1 : decode cX4_readDivisor 1 = .ok (.getfield 97, 3) := by decide +kernel
theorem dX4_readDivisor_4 : decode cX4_readDivisor 4 = .ok (.istore_n 1, 1) := by decide +kernel
theorem dX4_readDivisor_5 : decode cX4_readDivisor 5 = .ok (.aload_n 0, 1) := by decide +kernel
theorem dX4_readDivisor_6 : decode cX4_readDivisor 6 = .ok (.getfield 94, 3) := by decide +kernel
theorem dX4_readDivisor_9 : decode cX4_readDivisor 9 = .ok (.bipush 48, 2) := by decide +kernel
theorem dX4_readDivisor_11 : decode cX4_readDivisor 11 = .ok (.if_icmp .eq 12, 3) := by decide +kernel
theorem dX4_readDivisor_14 : decode cX4_readDivisor 14 = .ok (.aload_n 0, 1) := by decide +kernel
theorem dX4_readDivisor_15 : decode cX4_readDivisor 15 = .ok (.iconst 1, 1) := by decide +kernel
theorem dX4_readDivisor_16 : decode cX4_readDivisor 16 = .ok (.aload_n 0, 1) := by decide +kernel
theorem dX4_readDivisor_17 : decode cX4_readDivisor 17 = .ok (.getfield 97, 3) := by decide +kernel
theorem dX4_readDivisor_20 : decode cX4_readDivisor 20 = .ok (.invokevirtual 100, 3) := by decide +kernel
theorem dX4_readDivisor_23 : decode cX4_readDivisor 23 = .ok (.aload_n 0, 1) := by decide +kernel
theorem dX4_readDivisor_24 : decode cX4_readDivisor 24 = .ok (.invokevirtual 159, 3) := by decide +kernel
theorem dX4_readDivisor_27 : decode cX4_readDivisor 27 = .ok (.istore_n 2, 1) := by decide +kernel
theorem dX4_readDivisor_28 : decode cX4_readDivisor 28 = .ok (.iload_n 2, 1) := by decide +kernel
theorem dX4_readDivisor_29 : decode cX4_readDivisor 29 = .ok (.ifCond .ne 9, 3) := by decide +kernel
theorem dX4_readDivisor_32 : decode cX4_readDivisor 32 = .ok (.aload_n 0, 1) := by decide +kernel
theorem dX4_readDivisor_33 : decode cX4_readDivisor 33 = .ok (.iconst 2, 1) := by decide +kernel
theorem dX4_readDivisor_34 : decode cX4_readDivisor 34 = .ok (.iload_n 1, 1) := by decide +kernel
theorem dX4_readDivisor_35 : decode cX4_readDivisor 35 = .ok (.invokevirtual 100, 3) := by decide +kernel
theorem dX4_readDivisor_38 : decode cX4_readDivisor 38 = .ok (.aload_n 0, 1) := by decide +kernel
theorem dX4_readDivisor_39 : decode cX4_readDivisor 39 = .ok (.getfield 76, 3) := by decide +kernel
theorem dX4_readDivisor_42 : decode cX4_readDivisor 42 = .ok (.iconst 5, 1) := by decide +kernel
theorem dX4_readDivisor_43 : decode cX4_readDivisor 43 = .ok (.iload_n 2, 1) := by decide +kernel
theorem dX4_readDivisor_44 : decode cX4_readDivisor 44 = .ok (.invokevirtual 137, 3) := by decide +kernel
theorem dX4_readDivisor_47 : decode cX4_readDivisor 47 = .ok (.return_, 1) := by decide +kernel
theorem dX4_takeNumber_0 : decode cX4_takeNumber 0 = .ok (.aload_n 0, 1) := by decide +kernel
theorem dX4_takeNumber_1 : decode cX4_takeNumber 1 = .ok (.getfield 88, 3) := by decide +kernel
theorem dX4_takeNumber_4 : decode cX4_takeNumber 4 = .ok (.aload_n 0, 1) := by decide +kernel
theorem dX4_takeNumber_5 : decode cX4_takeNumber 5 = .ok (.getfield 97, 3) := by decide +kernel
theorem dX4_takeNumber_8 : decode cX4_takeNumber 8 = .ok (.isub, 1) := by decide +kernel
theorem dX4_takeNumber_9 : decode cX4_takeNumber 9 = .ok (.iconst 5, 1) := by decide +kernel
theorem dX4_takeNumber_10 : decode cX4_takeNumber 10 = .ok (.if_icmp .le 14, 3) := by decide +kernel
theorem dX4_takeNumber_13 : decode cX4_takeNumber 13 = .ok (.aload_n 0, 1) := by decide +kernel
theorem dX4_takeNumber_14 : decode cX4_takeNumber 14 = .ok (.iconst 1, 1) := by decide +kernel
theorem dX4_takeNumber_15 : decode cX4_takeNumber 15 = .ok (.aload_n 0, 1) := by decide +kernel
theorem dX4_takeNumber_16 : decode cX4_takeNumber 16 = .ok (.getfield 97, 3) := by decide +kernel
theorem dX4_takeNumber_19 : decode cX4_takeNumber 19 = .ok (.iconst 5, 1) := by decide +kernel
theorem dX4_takeNumber_20 : decode cX4_takeNumber 20 = .ok (.iadd, 1) := by decide +kernel
theorem dX4_takeNumber_21 : decode cX4_takeNumber 21 = .ok (.invokevirtual 100, 3) := by decide +kernel
theorem dX4_takeNumber_24 : decode cX4_takeNumber 24 = .ok (.aload_n 0, 1) := by decide +kernel
theorem dX4_takeNumber_25 : decode cX4_takeNumber 25 = .ok (.getfield 104, 3) := by decide +kernel
theorem dX4_takeNumber_28 : decode cX4_takeNumber 28 = .ok (.l2i, 1) := by decide +kernel
theorem dX4_takeNumber_29 : decode cX4_takeNumber 29 = .ok (.istore_n 1, 1) := by decide +kernel
theorem dX4_takeNumber_30 : decode cX4_takeNumber 30 = .ok (.aload_n 0, 1) := by decide +kernel
theorem dX4_takeNumber_31 : decode cX4_takeNumber 31 = .ok (.invokevirtual 91, 3) := by decide +kernel
theorem dX4_takeNumber_34 : decode cX4_takeNumber 34 = .ok (.iload_n 1, 1) := by decide +kernel
theorem dX4_takeNumber_35 : decode cX4_takeNumber 35 = .ok (.ireturn, 1) := by decide +kernel
theorem dX4_takeName_0 : decode cX4_takeName 0 = .ok (.aload_n 0, 1) := by decide +kernel
theorem dX4_takeName_1 : decode cX4_takeName 1 = .ok (.aload_n 0, 1) := by decide +kernel
theorem dX4_takeName_2 : decode cX4_takeName 2 = .ok (.getfield 104, 3) := by decide +kernel
theorem dX4_takeName_5 : decode cX4_takeName 5 = .ok (.invokevirtual 162, 3) := by decide +kernel
theorem dX4_takeName_8 : decode cX4_takeName 8 = .ok (.istore_n 2, 1) := by decide +kernel
theorem dX4_takeName_9 : decode cX4_takeName 9 = .ok (.aload_n 0, 1) := by decide +kernel
theorem dX4_takeName_10 : decode cX4_takeName 10 = .ok (.aload_n 0, 1) := by decide +kernel
theorem dX4_takeName_11 : decode cX4_takeName 11 = .ok (.getfield 104, 3) := by decide +kernel
theorem dX4_takeName_14 : decode cX4_takeName 14 = .ok (.invokevirtual 166, 3) := by decide +kernel
theorem dX4_takeName_17 : decode cX4_takeName 17 = .ok (.ifCond .eq 15, 3) := by decide +kernel
theorem dX4_takeName_20 : decode cX4_takeName 20 = .ok (.aload_n 0, 1) := by decide +kernel
theorem dX4_takeName_21 : decode cX4_takeName 21 = .ok (.iconst 1, 1) := by decide +kernel
theorem dX4_takeName_22 : decode cX4_takeName 22 = .ok (.aload_n 0, 1) := by decide +kernel
theorem dX4_takeName_23 : decode cX4_takeName 23 = .ok (.getfield 97, 3) := by decide +kernel
theorem dX4_takeName_26 : decode cX4_takeName 26 = .ok (.invokevirtual 100, 3) := by decide +kernel
theorem dX4_takeName_29 : decode cX4_takeName 29 = .ok (.goto 55, 3) := by decide +kernel
theorem dX4_takeName_32 : decode cX4_takeName 32 = .ok (.aload_n 0, 1) := by decide +kernel
theorem dX4_takeName_33 : decode cX4_takeName 33 = .ok (.getfield 88, 3) := by decide +kernel
theorem dX4_takeName_36 : decode cX4_takeName 36 = .ok (.aload_n 0, 1) := by decide +kernel
theorem dX4_takeName_37 : decode cX4_takeName 37 = .ok (.getfield 97, 3) := by decide +kernel
theorem dX4_takeName_40 : decode cX4_takeName 40 = .ok (.isub, 1) := by decide +kernel
theorem dX4_takeName_41 : decode cX4_takeName 41 = .ok (.bipush 10, 2) := by decide +kernel
theorem dX4_takeName_43 : decode cX4_takeName 43 = .ok (.if_icmp .le 18, 3) := by decide +kernel
theorem dX4_takeName_46 : decode cX4_takeName 46 = .ok (.aload_n 0, 1) := by decide +kernel
theorem dX4_takeName_47 : decode cX4_takeName 47 = .ok (.iconst 1, 1) := by decide +kernel
theorem dX4_takeName_48 : decode cX4_takeName 48 = .ok (.aload_n 0, 1) := by decide +kernel
theorem dX4_takeName_49 : decode cX4_takeName 49 = .ok (.getfield 97, 3) := by decide +kernel
theorem dX4_takeName_52 : decode cX4_takeName 52 = .ok (.bipush 10, 2) := by decide +kernel
theorem dX4_takeName_54 : decode cX4_takeName 54 = .ok (.iadd, 1) := by decide +kernel
theorem dX4_takeName_55 : decode cX4_takeName 55 = .ok (.invokevirtual 100, 3) := by decide +kernel
theorem dX4_takeName_58 : decode cX4_takeName 58 = .ok (.goto 26, 3) := by decide +kernel
theorem dX4_takeName_61 : decode cX4_takeName 61 = .ok (.iload_n 2, 1) := by decide +kernel
theorem dX4_takeName_62 : decode cX4_takeName 62 = .ok (.iconst (-1), 1) := by decide +kernel
theorem dX4_takeName_63 : decode cX4_takeName 63 = .ok (.if_icmp .eq 7, 3) := by decide +kernel
theorem dX4_takeName_66 : decode cX4_takeName 66 = .ok (.iconst 1, 1) := by decide +kernel
theorem dX4_takeName_67 : decode cX4_takeName 67 = .ok (.goto 4, 3) := by decide +kernel
theorem dX4_takeName_70 : decode cX4_takeName 70 = .ok (.iconst 0, 1) := by decide +kernel
theorem dX4_takeName_71 : decode cX4_takeName 71 = .ok (.iload_n 1, 1) := by decide +kernel
theorem dX4_takeName_72 : decode cX4_takeName 72 = .ok (.if_icmp .eq 12, 3) := by decide +kernel
theorem dX4_takeName_75 : decode cX4_takeName 75 = .ok (.aload_n 0, 1) := by decide +kernel
theorem dX4_takeName_76 : decode cX4_takeName 76 = .ok (.iconst 3, 1) := by decide +kernel
theorem dX4_takeName_77 : decode cX4_takeName 77 = .ok (.aload_n 0, 1) := by decide +kernel
theorem dX4_takeName_78 : decode cX4_takeName 78 = .ok (.getfield 97, 3) := by decide +kernel
theorem dX4_takeName_81 : decode cX4_takeName 81 = .ok (.invokevirtual 100, 3) := by decide +kernel
theorem dX4_takeName_84 : decode cX4_takeName 84 = .ok (.aload_n 0, 1) := by decide +kernel
theorem dX4_takeName_85 : decode cX4_takeName 85 = .ok (.invokevirtual 91, 3) := by decide +kernel
theorem dX4_takeName_88 : decode cX4_takeName 88 = .ok (.iload_n 2, 1) := by decide +kernel
theorem dX4_takeName_89 : decode cX4_takeName 89 = .ok (.ireturn, 1) := by decide +kernel
theorem dX4_isKept_0 : decode cX4_isKept 0 = .ok (.lload_n 1, 1) := by decide +kernel
theorem dX4_isKept_1 : decode cX4_isKept 1 = .ok (.aload_n 0, 1) := by decide +kernel
theorem dX4_isKept_2 : decode cX4_isKept 2 = .ok (.getfield 17, 3) := by decide +kernel
theorem dX4_isKept_5 : decode cX4_isKept 5 = .ok (.lcmp, 1) := by decide +kernel
theorem dX4_isKept_6 : decode cX4_isKept 6 = .ok (.ifCond .eq 39, 3) := by decide +kernel
theorem dX4_isKept_9 : decode cX4_isKept 9 = .ok (.lload_n 1, 1) := by decide +kernel
theorem dX4_isKept_10 : decode cX4_isKept 10 = .ok (.aload_n 0, 1) := by decide +kernel
theorem dX4_isKept_11 : decode cX4_isKept 11 = .ok (.getfield 23, 3) := by decide +kernel
theorem dX4_isKept_14 : decode cX4_isKept 14 = .ok (.lcmp, 1) := by decide +kernel
theorem dX4_isKept_15 : decode cX4_isKept 15 = .ok (.ifCond .eq 30, 3) := by decide +kernel
theorem dX4_isKept_18 : decode cX4_isKept 18 = .ok (.lload_n 1, 1) := by decide +kernel
theorem dX4_isKept_19 : decode cX4_isKept 19 = .ok (.aload_n 0, 1) := by decide +kernel
theorem dX4_isKept_20 : decode cX4_isKept 20 = .ok (.getfield 28, 3) := by decide +kernel
theorem dX4_isKept_23 : decode cX4_isKept 23 = .ok (.lcmp, 1) := by decide +kernel
theorem dX4_isKept_24 : decode cX4_isKept 24 = .ok (.ifCond .eq 21, 3) := by decide +kernel
theorem dX4_isKept_27 : decode cX4_isKept 27 = .ok (.lload_n 1, 1) := by decide +kernel
theorem dX4_isKept_28 : decode cX4_isKept 28 = .ok (.aload_n 0, 1) := by decide +kernel
theorem dX4_isKept_29 : decode cX4_isKept 29 = .ok (.getfield 33, 3) := by decide +kernel
theorem dX4_isKept_32 : decode cX4_isKept 32 = .ok (.lcmp, 1) := by decide +kernel
theorem dX4_isKept_33 : decode cX4_isKept 33 = .ok (.ifCond .eq 12, 3) := by decide +kernel
theorem dX4_isKept_36 : decode cX4_isKept 36 = .ok (.lload_n 1, 1) := by decide +kernel
theorem dX4_isKept_37 : decode cX4_isKept 37 = .ok (.aload_n 0, 1) := by decide +kernel
theorem dX4_isKept_38 : decode cX4_isKept 38 = .ok (.getfield 38, 3) := by decide +kernel
theorem dX4_isKept_41 : decode cX4_isKept 41 = .ok (.lcmp, 1) := by decide +kernel
theorem dX4_isKept_42 : decode cX4_isKept 42 = .ok (.ifCond .ne 7, 3) := by decide +kernel
theorem dX4_isKept_45 : decode cX4_isKept 45 = .ok (.iconst 1, 1) := by decide +kernel
theorem dX4_isKept_46 : decode cX4_isKept 46 = .ok (.goto 4, 3) := by decide +kernel
theorem dX4_isKept_49 : decode cX4_isKept 49 = .ok (.iconst 0, 1) := by decide +kernel
theorem dX4_isKept_50 : decode cX4_isKept 50 = .ok (.ireturn, 1) := by decide +kernel
theorem dX4_slotOf_0 : decode cX4_slotOf 0 = .ok (.iconst 0, 1) := by decide +kernel
theorem dX4_slotOf_1 : decode cX4_slotOf 1 = .ok (.istore_n 3, 1) := by decide +kernel
theorem dX4_slotOf_2 : decode cX4_slotOf 2 = .ok (.iload_n 3, 1) := by decide +kernel
theorem dX4_slotOf_3 : decode cX4_slotOf 3 = .ok (.bipush 39, 2) := by decide +kernel
theorem dX4_slotOf_5 : decode cX4_slotOf 5 = .ok (.if_icmp .ge 22, 3) := by decide +kernel
theorem dX4_slotOf_8 : decode cX4_slotOf 8 = .ok (.aload_n 0, 1) := by decide +kernel
theorem dX4_slotOf_9 : decode cX4_slotOf 9 = .ok (.getfield 48, 3) := by decide +kernel
theorem dX4_slotOf_12 : decode cX4_slotOf 12 = .ok (.iload_n 3, 1) := by decide +kernel
theorem dX4_slotOf_13 : decode cX4_slotOf 13 = .ok (.laload, 1) := by decide +kernel
theorem dX4_slotOf_14 : decode cX4_slotOf 14 = .ok (.lload_n 1, 1) := by decide +kernel
theorem dX4_slotOf_15 : decode cX4_slotOf 15 = .ok (.lcmp, 1) := by decide +kernel
theorem dX4_slotOf_16 : decode cX4_slotOf 16 = .ok (.ifCond .ne 5, 3) := by decide +kernel
theorem dX4_slotOf_19 : decode cX4_slotOf 19 = .ok (.iload_n 3, 1) := by decide +kernel
theorem dX4_slotOf_20 : decode cX4_slotOf 20 = .ok (.ireturn, 1) := by decide +kernel
theorem dX4_slotOf_21 : decode cX4_slotOf 21 = .ok (.iinc 3 1, 3) := by decide +kernel
theorem dX4_slotOf_24 : decode cX4_slotOf 24 = .ok (.goto (-22), 3) := by decide +kernel
theorem dX4_slotOf_27 : decode cX4_slotOf 27 = .ok (.iconst (-1), 1) := by decide +kernel
theorem dX4_slotOf_28 : decode cX4_slotOf 28 = .ok (.ireturn, 1) := by decide +kernel
theorem dX4_expect_0 : decode cX4_expect 0 = .ok (.aload_n 0, 1) := by decide +kernel
theorem dX4_expect_1 : decode cX4_expect 1 = .ok (.getfield 94, 3) := by decide +kernel
theorem dX4_expect_4 : decode cX4_expect 4 = .ok (.iload_n 1, 1) := by decide +kernel
theorem dX4_expect_5 : decode cX4_expect 5 = .ok (.if_icmp .eq 12, 3) := by decide +kernel
theorem dX4_expect_8 : decode cX4_expect 8 = .ok (.aload_n 0, 1) := by decide +kernel
theorem dX4_expect_9 : decode cX4_expect 9 = .ok (.iconst 1, 1) := by decide +kernel
theorem dX4_expect_10 : decode cX4_expect 10 = .ok (.aload_n 0, 1) := by decide +kernel
theorem dX4_expect_11 : decode cX4_expect 11 = .ok (.getfield 97, 3) := by decide +kernel
theorem dX4_expect_14 : decode cX4_expect 14 = .ok (.invokevirtual 100, 3) := by decide +kernel
theorem dX4_expect_17 : decode cX4_expect 17 = .ok (.aload_n 0, 1) := by decide +kernel
theorem dX4_expect_18 : decode cX4_expect 18 = .ok (.invokevirtual 91, 3) := by decide +kernel
theorem dX4_expect_21 : decode cX4_expect 21 = .ok (.return_, 1) := by decide +kernel
theorem dX4_fail_0 : decode cX4_fail 0 = .ok (.aload_n 0, 1) := by decide +kernel
theorem dX4_fail_1 : decode cX4_fail 1 = .ok (.getfield 85, 3) := by decide +kernel
theorem dX4_fail_4 : decode cX4_fail 4 = .ok (.ifCond .ne 13, 3) := by decide +kernel
theorem dX4_fail_7 : decode cX4_fail 7 = .ok (.aload_n 0, 1) := by decide +kernel
theorem dX4_fail_8 : decode cX4_fail 8 = .ok (.iload_n 1, 1) := by decide +kernel
theorem dX4_fail_9 : decode cX4_fail 9 = .ok (.putfield 85, 3) := by decide +kernel
theorem dX4_fail_12 : decode cX4_fail 12 = .ok (.aload_n 0, 1) := by decide +kernel
theorem dX4_fail_13 : decode cX4_fail 13 = .ok (.iload_n 2, 1) := by decide +kernel
theorem dX4_fail_14 : decode cX4_fail 14 = .ok (.putfield 52, 3) := by decide +kernel
theorem dX4_fail_17 : decode cX4_fail 17 = .ok (.aload_n 0, 1) := by decide +kernel
theorem dX4_fail_18 : decode cX4_fail 18 = .ok (.aload_n 0, 1) := by decide +kernel
theorem dX4_fail_19 : decode cX4_fail 19 = .ok (.getfield 56, 3) := by decide +kernel
theorem dX4_fail_22 : decode cX4_fail 22 = .ok (.getfield 124, 3) := by decide +kernel
theorem dX4_fail_25 : decode cX4_fail 25 = .ok (.putfield 88, 3) := by decide +kernel
theorem dX4_fail_28 : decode cX4_fail 28 = .ok (.aload_n 0, 1) := by decide +kernel
theorem dX4_fail_29 : decode cX4_fail 29 = .ok (.iconst (-1), 1) := by decide +kernel
theorem dX4_fail_30 : decode cX4_fail 30 = .ok (.putfield 94, 3) := by decide +kernel
theorem dX4_fail_33 : decode cX4_fail 33 = .ok (.return_, 1) := by decide +kernel
theorem dX4_advance_0 : decode cX4_advance 0 = .ok (.aload_n 0, 1) := by decide +kernel
theorem dX4_advance_1 : decode cX4_advance 1 = .ok (.getfield 56, 3) := by decide +kernel
theorem dX4_advance_4 : decode cX4_advance 4 = .ok (.getfield 170, 3) := by decide +kernel
theorem dX4_advance_7 : decode cX4_advance 7 = .ok (.astore_n 1, 1) := by decide +kernel
theorem dX4_advance_8 : decode cX4_advance 8 = .ok (.aload_n 0, 1) := by decide +kernel
theorem dX4_advance_9 : decode cX4_advance 9 = .ok (.getfield 56, 3) := by decide +kernel
theorem dX4_advance_12 : decode cX4_advance 12 = .ok (.getfield 124, 3) := by decide +kernel
theorem dX4_advance_15 : decode cX4_advance 15 = .ok (.istore_n 2, 1) := by decide +kernel
theorem dX4_advance_16 : decode cX4_advance 16 = .ok (.aload_n 0, 1) := by decide +kernel
theorem dX4_advance_17 : decode cX4_advance 17 = .ok (.getfield 88, 3) := by decide +kernel
theorem dX4_advance_20 : decode cX4_advance 20 = .ok (.iload_n 2, 1) := by decide +kernel
theorem dX4_advance_21 : decode cX4_advance 21 = .ok (.if_icmp .ge 38, 3) := by decide +kernel
theorem dX4_advance_24 : decode cX4_advance 24 = .ok (.aload_n 1, 1) := by decide +kernel
theorem dX4_advance_25 : decode cX4_advance 25 = .ok (.aload_n 0, 1) := by decide +kernel
theorem dX4_advance_26 : decode cX4_advance 26 = .ok (.getfield 88, 3) := by decide +kernel
theorem dX4_advance_29 : decode cX4_advance 29 = .ok (.iaload, 1) := by decide +kernel
theorem dX4_advance_30 : decode cX4_advance 30 = .ok (.bipush 32, 2) := by decide +kernel
theorem dX4_advance_32 : decode cX4_advance 32 = .ok (.if_icmp .eq 14, 3) := by decide +kernel
theorem dX4_advance_35 : decode cX4_advance 35 = .ok (.aload_n 1, 1) := by decide +kernel
theorem dX4_advance_36 : decode cX4_advance 36 = .ok (.aload_n 0, 1) := by decide +kernel
theorem dX4_advance_37 : decode cX4_advance 37 = .ok (.getfield 88, 3) := by decide +kernel
theorem dX4_advance_40 : decode cX4_advance 40 = .ok (.iaload, 1) := by decide +kernel
theorem dX4_advance_41 : decode cX4_advance 41 = .ok (.bipush 10, 2) := by decide +kernel
theorem dX4_advance_43 : decode cX4_advance 43 = .ok (.if_icmp .ne 16, 3) := by decide +kernel
theorem dX4_advance_46 : decode cX4_advance 46 = .ok (.aload_n 0, 1) := by decide +kernel
theorem dX4_advance_47 : decode cX4_advance 47 = .ok (.dup, 1) := by decide +kernel
theorem dX4_advance_48 : decode cX4_advance 48 = .ok (.getfield 88, 3) := by decide +kernel
theorem dX4_advance_51 : decode cX4_advance 51 = .ok (.iconst 1, 1) := by decide +kernel
theorem dX4_advance_52 : decode cX4_advance 52 = .ok (.iadd, 1) := by decide +kernel
theorem dX4_advance_53 : decode cX4_advance 53 = .ok (.putfield 88, 3) := by decide +kernel
theorem dX4_advance_56 : decode cX4_advance 56 = .ok (.goto (-40), 3) := by decide +kernel
theorem dX4_advance_59 : decode cX4_advance 59 = .ok (.aload_n 0, 1) := by decide +kernel
theorem dX4_advance_60 : decode cX4_advance 60 = .ok (.aload_n 0, 1) := by decide +kernel
theorem dX4_advance_61 : decode cX4_advance 61 = .ok (.getfield 88, 3) := by decide +kernel
theorem dX4_advance_64 : decode cX4_advance 64 = .ok (.putfield 97, 3) := by decide +kernel
theorem dX4_advance_67 : decode cX4_advance 67 = .ok (.aload_n 0, 1) := by decide +kernel
theorem dX4_advance_68 : decode cX4_advance 68 = .ok (.lconst 0, 1) := by decide +kernel
theorem dX4_advance_69 : decode cX4_advance 69 = .ok (.putfield 104, 3) := by decide +kernel
theorem dX4_advance_72 : decode cX4_advance 72 = .ok (.aload_n 0, 1) := by decide +kernel
theorem dX4_advance_73 : decode cX4_advance 73 = .ok (.aload_n 0, 1) := by decide +kernel
theorem dX4_advance_74 : decode cX4_advance 74 = .ok (.getfield 88, 3) := by decide +kernel
theorem dX4_advance_77 : decode cX4_advance 77 = .ok (.iload_n 2, 1) := by decide +kernel
theorem dX4_advance_78 : decode cX4_advance 78 = .ok (.if_icmp .ge 12, 3) := by decide +kernel
theorem dX4_advance_81 : decode cX4_advance 81 = .ok (.aload_n 1, 1) := by decide +kernel
theorem dX4_advance_82 : decode cX4_advance 82 = .ok (.aload_n 0, 1) := by decide +kernel
theorem dX4_advance_83 : decode cX4_advance 83 = .ok (.getfield 88, 3) := by decide +kernel
theorem dX4_advance_86 : decode cX4_advance 86 = .ok (.iaload, 1) := by decide +kernel
theorem dX4_advance_87 : decode cX4_advance 87 = .ok (.goto 4, 3) := by decide +kernel
theorem dX4_advance_90 : decode cX4_advance 90 = .ok (.iconst (-1), 1) := by decide +kernel
theorem dX4_advance_91 : decode cX4_advance 91 = .ok (.putfield 94, 3) := by decide +kernel
theorem dX4_advance_94 : decode cX4_advance 94 = .ok (.aload_n 0, 1) := by decide +kernel
theorem dX4_advance_95 : decode cX4_advance 95 = .ok (.getfield 94, 3) := by decide +kernel
theorem dX4_advance_98 : decode cX4_advance 98 = .ok (.bipush 97, 2) := by decide +kernel
theorem dX4_advance_100 : decode cX4_advance 100 = .ok (.if_icmp .lt 82, 3) := by decide +kernel
theorem dX4_advance_103 : decode cX4_advance 103 = .ok (.aload_n 0, 1) := by decide +kernel
theorem dX4_advance_104 : decode cX4_advance 104 = .ok (.getfield 94, 3) := by decide +kernel
theorem dX4_advance_107 : decode cX4_advance 107 = .ok (.bipush 122, 2) := by decide +kernel
theorem dX4_advance_109 : decode cX4_advance 109 = .ok (.if_icmp .gt 73, 3) := by decide +kernel
theorem dX4_advance_112 : decode cX4_advance 112 = .ok (.aload_n 0, 1) := by decide +kernel
theorem dX4_advance_113 : decode cX4_advance 113 = .ok (.bipush 97, 2) := by decide +kernel
theorem dX4_advance_115 : decode cX4_advance 115 = .ok (.putfield 94, 3) := by decide +kernel
theorem dX4_advance_118 : decode cX4_advance 118 = .ok (.aload_n 0, 1) := by decide +kernel
theorem dX4_advance_119 : decode cX4_advance 119 = .ok (.getfield 88, 3) := by decide +kernel
theorem dX4_advance_122 : decode cX4_advance 122 = .ok (.iload_n 2, 1) := by decide +kernel
theorem dX4_advance_123 : decode cX4_advance 123 = .ok (.if_icmp .ge 167, 3) := by decide +kernel
theorem dX4_advance_126 : decode cX4_advance 126 = .ok (.aload_n 1, 1) := by decide +kernel
theorem dX4_advance_127 : decode cX4_advance 127 = .ok (.aload_n 0, 1) := by decide +kernel
theorem dX4_advance_128 : decode cX4_advance 128 = .ok (.getfield 88, 3) := by decide +kernel
theorem dX4_advance_131 : decode cX4_advance 131 = .ok (.iaload, 1) := by decide +kernel
theorem dX4_advance_132 : decode cX4_advance 132 = .ok (.bipush 97, 2) := by decide +kernel
theorem dX4_advance_134 : decode cX4_advance 134 = .ok (.if_icmp .lt 156, 3) := by decide +kernel
theorem dX4_advance_137 : decode cX4_advance 137 = .ok (.aload_n 1, 1) := by decide +kernel
theorem dX4_advance_138 : decode cX4_advance 138 = .ok (.aload_n 0, 1) := by decide +kernel
theorem dX4_advance_139 : decode cX4_advance 139 = .ok (.getfield 88, 3) := by decide +kernel
theorem dX4_advance_142 : decode cX4_advance 142 = .ok (.iaload, 1) := by decide +kernel
theorem dX4_advance_143 : decode cX4_advance 143 = .ok (.bipush 122, 2) := by decide +kernel
theorem dX4_advance_145 : decode cX4_advance 145 = .ok (.if_icmp .gt 145, 3) := by decide +kernel
theorem dX4_advance_148 : decode cX4_advance 148 = .ok (.aload_n 0, 1) := by decide +kernel
theorem dX4_advance_149 : decode cX4_advance 149 = .ok (.aload_n 0, 1) := by decide +kernel
theorem dX4_advance_150 : decode cX4_advance 150 = .ok (.getfield 104, 3) := by decide +kernel
theorem dX4_advance_153 : decode cX4_advance 153 = .ok (.iconst 5, 1) := by decide +kernel
theorem dX4_advance_154 : decode cX4_advance 154 = .ok (.lshl, 1) := by decide +kernel
theorem dX4_advance_155 : decode cX4_advance 155 = .ok (.aload_n 1, 1) := by decide +kernel
theorem dX4_advance_156 : decode cX4_advance 156 = .ok (.aload_n 0, 1) := by decide +kernel
theorem dX4_advance_157 : decode cX4_advance 157 = .ok (.getfield 88, 3) := by decide +kernel
theorem dX4_advance_160 : decode cX4_advance 160 = .ok (.iaload, 1) := by decide +kernel
theorem dX4_advance_161 : decode cX4_advance 161 = .ok (.bipush 96, 2) := by decide +kernel
theorem dX4_advance_163 : decode cX4_advance 163 = .ok (.isub, 1) := by decide +kernel
theorem dX4_advance_164 : decode cX4_advance 164 = .ok (.i2l, 1) := by decide +kernel
theorem dX4_advance_165 : decode cX4_advance 165 = .ok (.lor, 1) := by decide +kernel
theorem dX4_advance_166 : decode cX4_advance 166 = .ok (.putfield 104, 3) := by decide +kernel
theorem dX4_advance_169 : decode cX4_advance 169 = .ok (.aload_n 0, 1) := by decide +kernel
theorem dX4_advance_170 : decode cX4_advance 170 = .ok (.dup, 1) := by decide +kernel
theorem dX4_advance_171 : decode cX4_advance 171 = .ok (.getfield 88, 3) := by decide +kernel
theorem dX4_advance_174 : decode cX4_advance 174 = .ok (.iconst 1, 1) := by decide +kernel
theorem dX4_advance_175 : decode cX4_advance 175 = .ok (.iadd, 1) := by decide +kernel
theorem dX4_advance_176 : decode cX4_advance 176 = .ok (.putfield 88, 3) := by decide +kernel
theorem dX4_advance_179 : decode cX4_advance 179 = .ok (.goto (-61), 3) := by decide +kernel
theorem dX4_advance_182 : decode cX4_advance 182 = .ok (.aload_n 0, 1) := by decide +kernel
theorem dX4_advance_183 : decode cX4_advance 183 = .ok (.getfield 94, 3) := by decide +kernel
theorem dX4_advance_186 : decode cX4_advance 186 = .ok (.bipush 48, 2) := by decide +kernel
theorem dX4_advance_188 : decode cX4_advance 188 = .ok (.if_icmp .lt 84, 3) := by decide +kernel
theorem dX4_advance_191 : decode cX4_advance 191 = .ok (.aload_n 0, 1) := by decide +kernel
theorem dX4_advance_192 : decode cX4_advance 192 = .ok (.getfield 94, 3) := by decide +kernel
theorem dX4_advance_195 : decode cX4_advance 195 = .ok (.bipush 57, 2) := by decide +kernel
theorem dX4_advance_197 : decode cX4_advance 197 = .ok (.if_icmp .gt 75, 3) := by decide +kernel
theorem dX4_advance_200 : decode cX4_advance 200 = .ok (.aload_n 0, 1) := by decide +kernel
theorem dX4_advance_201 : decode cX4_advance 201 = .ok (.bipush 48, 2) := by decide +kernel
theorem dX4_advance_203 : decode cX4_advance 203 = .ok (.putfield 94, 3) := by decide +kernel
theorem dX4_advance_206 : decode cX4_advance 206 = .ok (.aload_n 0, 1) := by decide +kernel
theorem dX4_advance_207 : decode cX4_advance 207 = .ok (.getfield 88, 3) := by decide +kernel
theorem dX4_advance_210 : decode cX4_advance 210 = .ok (.iload_n 2, 1) := by decide +kernel
theorem dX4_advance_211 : decode cX4_advance 211 = .ok (.if_icmp .ge 79, 3) := by decide +kernel
theorem dX4_advance_214 : decode cX4_advance 214 = .ok (.aload_n 1, 1) := by decide +kernel
theorem dX4_advance_215 : decode cX4_advance 215 = .ok (.aload_n 0, 1) := by decide +kernel
theorem dX4_advance_216 : decode cX4_advance 216 = .ok (.getfield 88, 3) := by decide +kernel
theorem dX4_advance_219 : decode cX4_advance 219 = .ok (.iaload, 1) := by decide +kernel
theorem dX4_advance_220 : decode cX4_advance 220 = .ok (.bipush 48, 2) := by decide +kernel
theorem dX4_advance_222 : decode cX4_advance 222 = .ok (.if_icmp .lt 68, 3) := by decide +kernel
theorem dX4_advance_225 : decode cX4_advance 225 = .ok (.aload_n 1, 1) := by decide +kernel
theorem dX4_advance_226 : decode cX4_advance 226 = .ok (.aload_n 0, 1) := by decide +kernel
theorem dX4_advance_227 : decode cX4_advance 227 = .ok (.getfield 88, 3) := by decide +kernel
theorem dX4_advance_230 : decode cX4_advance 230 = .ok (.iaload, 1) := by decide +kernel
theorem dX4_advance_231 : decode cX4_advance 231 = .ok (.bipush 57, 2) := by decide +kernel
theorem dX4_advance_233 : decode cX4_advance 233 = .ok (.if_icmp .gt 57, 3) := by decide +kernel
theorem dX4_advance_236 : decode cX4_advance 236 = .ok (.aload_n 0, 1) := by decide +kernel
theorem dX4_advance_237 : decode cX4_advance 237 = .ok (.aload_n 0, 1) := by decide +kernel
theorem dX4_advance_238 : decode cX4_advance 238 = .ok (.getfield 104, 3) := by decide +kernel
theorem dX4_advance_241 : decode cX4_advance 241 = .ok (.ldc2_w 174, 3) := by decide +kernel
theorem dX4_advance_244 : decode cX4_advance 244 = .ok (.lmul, 1) := by decide +kernel
theorem dX4_advance_245 : decode cX4_advance 245 = .ok (.aload_n 1, 1) := by decide +kernel
theorem dX4_advance_246 : decode cX4_advance 246 = .ok (.aload_n 0, 1) := by decide +kernel
theorem dX4_advance_247 : decode cX4_advance 247 = .ok (.getfield 88, 3) := by decide +kernel
theorem dX4_advance_250 : decode cX4_advance 250 = .ok (.iaload, 1) := by decide +kernel
theorem dX4_advance_251 : decode cX4_advance 251 = .ok (.bipush 48, 2) := by decide +kernel
theorem dX4_advance_253 : decode cX4_advance 253 = .ok (.isub, 1) := by decide +kernel
theorem dX4_advance_254 : decode cX4_advance 254 = .ok (.i2l, 1) := by decide +kernel
theorem dX4_advance_255 : decode cX4_advance 255 = .ok (.ladd, 1) := by decide +kernel
theorem dX4_advance_256 : decode cX4_advance 256 = .ok (.putfield 104, 3) := by decide +kernel
theorem dX4_advance_259 : decode cX4_advance 259 = .ok (.aload_n 0, 1) := by decide +kernel
theorem dX4_advance_260 : decode cX4_advance 260 = .ok (.dup, 1) := by decide +kernel
theorem dX4_advance_261 : decode cX4_advance 261 = .ok (.getfield 88, 3) := by decide +kernel
theorem dX4_advance_264 : decode cX4_advance 264 = .ok (.iconst 1, 1) := by decide +kernel
theorem dX4_advance_265 : decode cX4_advance 265 = .ok (.iadd, 1) := by decide +kernel
theorem dX4_advance_266 : decode cX4_advance 266 = .ok (.putfield 88, 3) := by decide +kernel
theorem dX4_advance_269 : decode cX4_advance 269 = .ok (.goto (-63), 3) := by decide +kernel
theorem dX4_advance_272 : decode cX4_advance 272 = .ok (.aload_n 0, 1) := by decide +kernel
theorem dX4_advance_273 : decode cX4_advance 273 = .ok (.getfield 94, 3) := by decide +kernel
theorem dX4_advance_276 : decode cX4_advance 276 = .ok (.iconst (-1), 1) := by decide +kernel
theorem dX4_advance_277 : decode cX4_advance 277 = .ok (.if_icmp .eq 13, 3) := by decide +kernel
theorem dX4_advance_280 : decode cX4_advance 280 = .ok (.aload_n 0, 1) := by decide +kernel
theorem dX4_advance_281 : decode cX4_advance 281 = .ok (.dup, 1) := by decide +kernel
theorem dX4_advance_282 : decode cX4_advance 282 = .ok (.getfield 88, 3) := by decide +kernel
theorem dX4_advance_285 : decode cX4_advance 285 = .ok (.iconst 1, 1) := by decide +kernel
theorem dX4_advance_286 : decode cX4_advance 286 = .ok (.iadd, 1) := by decide +kernel
theorem dX4_advance_287 : decode cX4_advance 287 = .ok (.putfield 88, 3) := by decide +kernel
theorem dX4_advance_290 : decode cX4_advance 290 = .ok (.return_, 1) := by decide +kernel
theorem dX5_init_0 : decode cX5_init 0 = .ok (.aload_n 0, 1) := by decide +kernel
theorem dX5_init_1 : decode cX5_init 1 = .ok (.invokespecial 3, 3) := by decide +kernel
theorem dX5_init_4 : decode cX5_init 4 = .ok (.aload_n 0, 1) := by decide +kernel
theorem dX5_init_5 : decode cX5_init 5 = .ok (.bipush 24, 2) := by decide +kernel
theorem dX5_init_7 : decode cX5_init 7 = .ok (.newarray .int, 2) := by decide +kernel
theorem dX5_init_9 : decode cX5_init 9 = .ok (.putfield 11, 3) := by decide +kernel
theorem dX5_init_12 : decode cX5_init 12 = .ok (.aload_n 0, 1) := by decide +kernel
theorem dX5_init_13 : decode cX5_init 13 = .ok (.bipush 6, 2) := by decide +kernel
theorem dX5_init_15 : decode cX5_init 15 = .ok (.newarray .int, 2) := by decide +kernel
theorem dX5_init_17 : decode cX5_init 17 = .ok (.putfield 15, 3) := by decide +kernel
theorem dX5_init_20 : decode cX5_init 20 = .ok (.return_, 1) := by decide +kernel
theorem dX5_add_0 : decode cX5_add 0 = .ok (.aload_n 0, 1) := by decide +kernel
theorem dX5_add_1 : decode cX5_add 1 = .ok (.getfield 18, 3) := by decide +kernel
theorem dX5_add_4 : decode cX5_add 4 = .ok (.bipush 24, 2) := by decide +kernel
theorem dX5_add_6 : decode cX5_add 6 = .ok (.if_icmp .ge 21, 3) := by decide +kernel
theorem dX5_add_9 : decode cX5_add 9 = .ok (.iload_n 1, 1) := by decide +kernel
theorem dX5_add_10 : decode cX5_add 10 = .ok (.iconst (-1), 1) := by decide +kernel
theorem dX5_add_11 : decode cX5_add 11 = .ok (.iconst 5, 1) := by decide +kernel
theorem dX5_add_12 : decode cX5_add 12 = .ok (.invokestatic 22, 3) := by decide +kernel
theorem dX5_add_15 : decode cX5_add 15 = .ok (.ifCond .eq 12, 3) := by decide +kernel
theorem dX5_add_18 : decode cX5_add 18 = .ok (.aload_n 0, 1) := by decide +kernel
theorem dX5_add_19 : decode cX5_add 19 = .ok (.iload_n 1, 1) := by decide +kernel
theorem dX5_add_20 : decode cX5_add 20 = .ok (.invokevirtual 26, 3) := by decide +kernel
theorem dX5_add_23 : decode cX5_add 23 = .ok (.iconst 4, 1) := by decide +kernel
theorem dX5_add_24 : decode cX5_add 24 = .ok (.if_icmp .lt 5, 3) := by decide +kernel
theorem dX5_add_27 : decode cX5_add 27 = .ok (.iconst (-1), 1) := by decide +kernel
theorem dX5_add_28 : decode cX5_add 28 = .ok (.ireturn, 1) := by decide +kernel
theorem dX5_add_29 : decode cX5_add 29 = .ok (.iload_n 1, 1) := by decide +kernel
theorem dX5_add_30 : decode cX5_add 30 = .ok (.iconst (-1), 1) := by decide +kernel
theorem dX5_add_31 : decode cX5_add 31 = .ok (.if_icmp .eq 13, 3) := by decide +kernel
theorem dX5_add_34 : decode cX5_add 34 = .ok (.aload_n 0, 1) := by decide +kernel
theorem dX5_add_35 : decode cX5_add 35 = .ok (.getfield 15, 3) := by decide +kernel
theorem dX5_add_38 : decode cX5_add 38 = .ok (.iload_n 1, 1) := by decide +kernel
theorem dX5_add_39 : decode cX5_add 39 = .ok (.dup2, 1) := by decide +kernel
theorem dX5_add_40 : decode cX5_add 40 = .ok (.iaload, 1) := by decide +kernel
theorem dX5_add_41 : decode cX5_add 41 = .ok (.iconst 1, 1) := by decide +kernel
theorem dX5_add_42 : decode cX5_add 42 = .ok (.iadd, 1) := by decide +kernel
theorem dX5_add_43 : decode cX5_add 43 = .ok (.iastore, 1) := by decide +kernel
theorem dX5_add_44 : decode cX5_add 44 = .ok (.aload_n 0, 1) := by decide +kernel
theorem dX5_add_45 : decode cX5_add 45 = .ok (.getfield 11, 3) := by decide +kernel
theorem dX5_add_48 : decode cX5_add 48 = .ok (.aload_n 0, 1) := by decide +kernel
theorem dX5_add_49 : decode cX5_add 49 = .ok (.getfield 18, 3) := by decide +kernel
theorem dX5_add_52 : decode cX5_add 52 = .ok (.iload_n 1, 1) := by decide +kernel
theorem dX5_add_53 : decode cX5_add 53 = .ok (.iastore, 1) := by decide +kernel
theorem dX5_add_54 : decode cX5_add 54 = .ok (.aload_n 0, 1) := by decide +kernel
theorem dX5_add_55 : decode cX5_add 55 = .ok (.dup, 1) := by decide +kernel
theorem dX5_add_56 : decode cX5_add 56 = .ok (.getfield 18, 3) := by decide +kernel
theorem dX5_add_59 : decode cX5_add 59 = .ok (.iconst 1, 1) := by decide +kernel
theorem dX5_add_60 : decode cX5_add 60 = .ok (.iadd, 1) := by decide +kernel
theorem dX5_add_61 : decode cX5_add 61 = .ok (.putfield 18, 3) := by decide +kernel
theorem dX5_add_64 : decode cX5_add 64 = .ok (.aload_n 0, 1) := by decide +kernel
theorem dX5_add_65 : decode cX5_add 65 = .ok (.getfield 18, 3) := by decide +kernel
theorem dX5_add_68 : decode cX5_add 68 = .ok (.iconst 1, 1) := by decide +kernel
theorem dX5_add_69 : decode cX5_add 69 = .ok (.isub, 1) := by decide +kernel
theorem dX5_add_70 : decode cX5_add 70 = .ok (.ireturn, 1) := by decide +kernel
theorem dX5_has_0 : decode cX5_has 0 = .ok (.iload_n 1, 1) := by decide +kernel
theorem dX5_has_1 : decode cX5_has 1 = .ok (.iconst 0, 1) := by decide +kernel
theorem dX5_has_2 : decode cX5_has 2 = .ok (.aload_n 0, 1) := by decide +kernel
theorem dX5_has_3 : decode cX5_has 3 = .ok (.getfield 18, 3) := by decide +kernel
theorem dX5_has_6 : decode cX5_has 6 = .ok (.iconst 1, 1) := by decide +kernel
theorem dX5_has_7 : decode cX5_has 7 = .ok (.isub, 1) := by decide +kernel
theorem dX5_has_8 : decode cX5_has 8 = .ok (.invokestatic 22, 3) := by decide +kernel
theorem dX5_has_11 : decode cX5_has 11 = .ok (.ireturn, 1) := by decide +kernel
theorem dX5_teamOf_0 : decode cX5_teamOf 0 = .ok (.aload_n 0, 1) := by decide +kernel
theorem dX5_teamOf_1 : decode cX5_teamOf 1 = .ok (.iload_n 1, 1) := by decide +kernel
theorem dX5_teamOf_2 : decode cX5_teamOf 2 = .ok (.invokevirtual 30, 3) := by decide +kernel
theorem dX5_teamOf_5 : decode cX5_teamOf 5 = .ok (.ifCond .eq 12, 3) := by decide +kernel
theorem dX5_teamOf_8 : decode cX5_teamOf 8 = .ok (.aload_n 0, 1) := by decide +kernel
theorem dX5_teamOf_9 : decode cX5_teamOf 9 = .ok (.getfield 11, 3) := by decide +kernel
theorem dX5_teamOf_12 : decode cX5_teamOf 12 = .ok (.iload_n 1, 1) := by decide +kernel
theorem dX5_teamOf_13 : decode cX5_teamOf 13 = .ok (.iaload, 1) := by decide +kernel
theorem dX5_teamOf_14 : decode cX5_teamOf 14 = .ok (.goto 4, 3) := by decide +kernel
theorem dX5_teamOf_17 : decode cX5_teamOf 17 = .ok (.iconst (-1), 1) := by decide +kernel
theorem dX5_teamOf_18 : decode cX5_teamOf 18 = .ok (.ireturn, 1) := by decide +kernel
theorem dX5_sizeOfTeam_0 : decode cX5_sizeOfTeam 0 = .ok (.iload_n 1, 1) := by decide +kernel
theorem dX5_sizeOfTeam_1 : decode cX5_sizeOfTeam 1 = .ok (.iconst 0, 1) := by decide +kernel
theorem dX5_sizeOfTeam_2 : decode cX5_sizeOfTeam 2 = .ok (.iconst 5, 1) := by decide +kernel
theorem dX5_sizeOfTeam_3 : decode cX5_sizeOfTeam 3 = .ok (.invokestatic 22, 3) := by decide +kernel
theorem dX5_sizeOfTeam_6 : decode cX5_sizeOfTeam 6 = .ok (.ifCond .eq 12, 3) := by decide +kernel
theorem dX5_sizeOfTeam_9 : decode cX5_sizeOfTeam 9 = .ok (.aload_n 0, 1) := by decide +kernel
theorem dX5_sizeOfTeam_10 : decode cX5_sizeOfTeam 10 = .ok (.getfield 15, 3) := by decide +kernel
theorem dX5_sizeOfTeam_13 : decode cX5_sizeOfTeam 13 = .ok (.iload_n 1, 1) := by decide +kernel
theorem dX5_sizeOfTeam_14 : decode cX5_sizeOfTeam 14 = .ok (.iaload, 1) := by decide +kernel
theorem dX5_sizeOfTeam_15 : decode cX5_sizeOfTeam 15 = .ok (.goto 4, 3) := by decide +kernel
theorem dX5_sizeOfTeam_18 : decode cX5_sizeOfTeam 18 = .ok (.iconst 0, 1) := by decide +kernel
theorem dX5_sizeOfTeam_19 : decode cX5_sizeOfTeam 19 = .ok (.ireturn, 1) := by decide +kernel
theorem dX6_init_0 : decode cX6_init 0 = .ok (.aload_n 0, 1) := by decide +kernel
theorem dX6_init_1 : decode cX6_init 1 = .ok (.invokespecial 3, 3) := by decide +kernel
theorem dX6_init_4 : decode cX6_init 4 = .ok (.aload_n 0, 1) := by decide +kernel
theorem dX6_init_5 : decode cX6_init 5 = .ok (.sipush 600, 3) := by decide +kernel
theorem dX6_init_8 : decode cX6_init 8 = .ok (.newarray .int, 2) := by decide +kernel
theorem dX6_init_10 : decode cX6_init 10 = .ok (.putfield 11, 3) := by decide +kernel
theorem dX6_init_13 : decode cX6_init 13 = .ok (.aload_n 0, 1) := by decide +kernel
theorem dX6_init_14 : decode cX6_init 14 = .ok (.sipush 600, 3) := by decide +kernel
theorem dX6_init_17 : decode cX6_init 17 = .ok (.newarray .int, 2) := by decide +kernel
theorem dX6_init_19 : decode cX6_init 19 = .ok (.putfield 17, 3) := by decide +kernel
theorem dX6_init_22 : decode cX6_init 22 = .ok (.aload_n 0, 1) := by decide +kernel
theorem dX6_init_23 : decode cX6_init 23 = .ok (.bipush 24, 2) := by decide +kernel
theorem dX6_init_25 : decode cX6_init 25 = .ok (.newarray .int, 2) := by decide +kernel
theorem dX6_init_27 : decode cX6_init 27 = .ok (.putfield 20, 3) := by decide +kernel
theorem dX6_init_30 : decode cX6_init 30 = .ok (.aload_n 0, 1) := by decide +kernel
theorem dX6_init_31 : decode cX6_init 31 = .ok (.bipush 24, 2) := by decide +kernel
theorem dX6_init_33 : decode cX6_init 33 = .ok (.newarray .int, 2) := by decide +kernel
theorem dX6_init_35 : decode cX6_init 35 = .ok (.putfield 23, 3) := by decide +kernel
theorem dX6_init_38 : decode cX6_init 38 = .ok (.aload_n 0, 1) := by decide +kernel
theorem dX6_init_39 : decode cX6_init 39 = .ok (.bipush 32, 2) := by decide +kernel
theorem dX6_init_41 : decode cX6_init 41 = .ok (.newarray .long, 2) := by decide +kernel
theorem dX6_init_43 : decode cX6_init 43 = .ok (.putfield 26, 3) := by decide +kernel
theorem dX6_init_46 : decode cX6_init 46 = .ok (.aload_n 0, 1) := by decide +kernel
theorem dX6_init_47 : decode cX6_init 47 = .ok (.iconst (-1), 1) := by decide +kernel
theorem dX6_init_48 : decode cX6_init 48 = .ok (.putfield 30, 3) := by decide +kernel
theorem dX6_init_51 : decode cX6_init 51 = .ok (.return_, 1) := by decide +kernel
theorem dX6_clear_0 : decode cX6_clear 0 = .ok (.aload_n 0, 1) := by decide +kernel
theorem dX6_clear_1 : decode cX6_clear 1 = .ok (.iconst 0, 1) := by decide +kernel
theorem dX6_clear_2 : decode cX6_clear 2 = .ok (.putfield 34, 3) := by decide +kernel
theorem dX6_clear_5 : decode cX6_clear 5 = .ok (.aload_n 0, 1) := by decide +kernel
theorem dX6_clear_6 : decode cX6_clear 6 = .ok (.iconst 0, 1) := by decide +kernel
theorem dX6_clear_7 : decode cX6_clear 7 = .ok (.putfield 37, 3) := by decide +kernel
theorem dX6_clear_10 : decode cX6_clear 10 = .ok (.aload_n 0, 1) := by decide +kernel
theorem dX6_clear_11 : decode cX6_clear 11 = .ok (.iconst (-1), 1) := by decide +kernel
theorem dX6_clear_12 : decode cX6_clear 12 = .ok (.putfield 30, 3) := by decide +kernel
theorem dX6_clear_15 : decode cX6_clear 15 = .ok (.return_, 1) := by decide +kernel
theorem dX6_addStep_0 : decode cX6_addStep 0 = .ok (.aload_n 0, 1) := by decide +kernel
theorem dX6_addStep_1 : decode cX6_addStep 1 = .ok (.getfield 34, 3) := by decide +kernel
theorem dX6_addStep_4 : decode cX6_addStep 4 = .ok (.sipush 600, 3) := by decide +kernel
theorem dX6_addStep_7 : decode cX6_addStep 7 = .ok (.if_icmp .ge 33, 3) := by decide +kernel
theorem dX6_addStep_10 : decode cX6_addStep 10 = .ok (.aload_n 0, 1) := by decide +kernel
theorem dX6_addStep_11 : decode cX6_addStep 11 = .ok (.getfield 11, 3) := by decide +kernel
theorem dX6_addStep_14 : decode cX6_addStep 14 = .ok (.aload_n 0, 1) := by decide +kernel
theorem dX6_addStep_15 : decode cX6_addStep 15 = .ok (.getfield 34, 3) := by decide +kernel
theorem dX6_addStep_18 : decode cX6_addStep 18 = .ok (.iload_n 1, 1) := by decide +kernel
theorem dX6_addStep_19 : decode cX6_addStep 19 = .ok (.iastore, 1) := by decide +kernel
theorem dX6_addStep_20 : decode cX6_addStep 20 = .ok (.aload_n 0, 1) := by decide +kernel
theorem dX6_addStep_21 : decode cX6_addStep 21 = .ok (.getfield 17, 3) := by decide +kernel
theorem dX6_addStep_24 : decode cX6_addStep 24 = .ok (.aload_n 0, 1) := by decide +kernel
theorem dX6_addStep_25 : decode cX6_addStep 25 = .ok (.getfield 34, 3) := by decide +kernel
theorem dX6_addStep_28 : decode cX6_addStep 28 = .ok (.iload_n 2, 1) := by decide +kernel
theorem dX6_addStep_29 : decode cX6_addStep 29 = .ok (.iastore, 1) := by decide +kernel
theorem dX6_addStep_30 : decode cX6_addStep 30 = .ok (.aload_n 0, 1) := by decide +kernel
theorem dX6_addStep_31 : decode cX6_addStep 31 = .ok (.dup, 1) := by decide +kernel
theorem dX6_addStep_32 : decode cX6_addStep 32 = .ok (.getfield 34, 3) := by decide +kernel
theorem dX6_addStep_35 : decode cX6_addStep 35 = .ok (.iconst 1, 1) := by decide +kernel
theorem dX6_addStep_36 : decode cX6_addStep 36 = .ok (.iadd, 1) := by decide +kernel
theorem dX6_addStep_37 : decode cX6_addStep 37 = .ok (.putfield 34, 3) := by decide +kernel
theorem dX6_addStep_40 : decode cX6_addStep 40 = .ok (.return_, 1) := by decide +kernel
theorem dX6_closeStatement_0 : decode cX6_closeStatement 0 = .ok (.aload_n 0, 1) := by decide +kernel
theorem dX6_closeStatement_1 : decode cX6_closeStatement 1 = .ok (.getfield 37, 3) := by decide +kernel
theorem dX6_closeStatement_4 : decode cX6_closeStatement 4 = .ok (.bipush 24, 2) := by decide +kernel
theorem dX6_closeStatement_6 : decode cX6_closeStatement 6 = .ok (.if_icmp .ge 36, 3) := by decide +kernel
theorem dX6_closeStatement_9 : decode cX6_closeStatement 9 = .ok (.aload_n 0, 1) := by decide +kernel
theorem dX6_closeStatement_10 : decode cX6_closeStatement 10 = .ok (.getfield 23, 3) := by decide +kernel
theorem dX6_closeStatement_13 : decode cX6_closeStatement 13 = .ok (.aload_n 0, 1) := by decide +kernel
theorem dX6_closeStatement_14 : decode cX6_closeStatement 14 = .ok (.getfield 37, 3) := by decide +kernel
theorem dX6_closeStatement_17 : decode cX6_closeStatement 17 = .ok (.iload_n 1, 1) := by decide +kernel
theorem dX6_closeStatement_18 : decode cX6_closeStatement 18 = .ok (.iastore, 1) := by decide +kernel
theorem dX6_closeStatement_19 : decode cX6_closeStatement 19 = .ok (.aload_n 0, 1) := by decide +kernel
theorem dX6_closeStatement_20 : decode cX6_closeStatement 20 = .ok (.getfield 20, 3) := by decide +kernel
theorem dX6_closeStatement_23 : decode cX6_closeStatement 23 = .ok (.aload_n 0, 1) := by decide +kernel
theorem dX6_closeStatement_24 : decode cX6_closeStatement 24 = .ok (.getfield 37, 3) := by decide +kernel
theorem dX6_closeStatement_27 : decode cX6_closeStatement 27 = .ok (.aload_n 0, 1) := by decide +kernel
theorem dX6_closeStatement_28 : decode cX6_closeStatement 28 = .ok (.getfield 34, 3) := by decide +kernel
theorem dX6_closeStatement_31 : decode cX6_closeStatement 31 = .ok (.iastore, 1) := by decide +kernel
theorem dX6_closeStatement_32 : decode cX6_closeStatement 32 = .ok (.aload_n 0, 1) := by decide +kernel
theorem dX6_closeStatement_33 : decode cX6_closeStatement 33 = .ok (.dup, 1) := by decide +kernel
theorem dX6_closeStatement_34 : decode cX6_closeStatement 34 = .ok (.getfield 37, 3) := by decide +kernel
theorem dX6_closeStatement_37 : decode cX6_closeStatement 37 = .ok (.iconst 1, 1) := by decide +kernel
theorem dX6_closeStatement_38 : decode cX6_closeStatement 38 = .ok (.iadd, 1) := by decide +kernel
theorem dX6_closeStatement_39 : decode cX6_closeStatement 39 = .ok (.putfield 37, 3) := by decide +kernel
theorem dX6_closeStatement_42 : decode cX6_closeStatement 42 = .ok (.return_, 1) := by decide +kernel
theorem dX6_setTotal_0 : decode cX6_setTotal 0 = .ok (.aload_n 0, 1) := by decide +kernel
theorem dX6_setTotal_1 : decode cX6_setTotal 1 = .ok (.iload_n 1, 1) := by decide +kernel
theorem dX6_setTotal_2 : decode cX6_setTotal 2 = .ok (.putfield 30, 3) := by decide +kernel
theorem dX6_setTotal_5 : decode cX6_setTotal 5 = .ok (.return_, 1) := by decide +kernel
theorem dX6_hasTotal_0 : decode cX6_hasTotal 0 = .ok (.aload_n 0, 1) := by decide +kernel
theorem dX6_hasTotal_1 : decode cX6_hasTotal 1 = .ok (.getfield 30, 3) := by decide +kernel
theorem dX6_hasTotal_4 : decode cX6_hasTotal 4 = .ok (.iconst (-1), 1) := by decide +kernel
theorem dX6_hasTotal_5 : decode cX6_hasTotal 5 = .ok (.if_icmp .eq 7, 3) := by decide +kernel
theorem dX6_hasTotal_8 : decode cX6_hasTotal 8 = .ok (.iconst 1, 1) := by decide +kernel
theorem dX6_hasTotal_9 : decode cX6_hasTotal 9 = .ok (.goto 4, 3) := by decide +kernel
theorem dX6_hasTotal_12 : decode cX6_hasTotal 12 = .ok (.iconst 0, 1) := by decide +kernel
theorem dX6_hasTotal_13 : decode cX6_hasTotal 13 = .ok (.ireturn, 1) := by decide +kernel
theorem dX6_apply_0 : decode cX6_apply 0 = .ok (.aload_n 1, 1) := by decide +kernel
theorem dX6_apply_1 : decode cX6_apply 1 = .ok (.iconst 0, 1) := by decide +kernel
theorem dX6_apply_2 : decode cX6_apply 2 = .ok (.putfield 40, 3) := by decide +kernel
theorem dX6_apply_5 : decode cX6_apply 5 = .ok (.iconst 0, 1) := by decide +kernel
theorem dX6_apply_6 : decode cX6_apply 6 = .ok (.istore_n 2, 1) := by decide +kernel
theorem dX6_apply_7 : decode cX6_apply 7 = .ok (.iconst 0, 1) := by decide +kernel
theorem dX6_apply_8 : decode cX6_apply 8 = .ok (.istore_n 3, 1) := by decide +kernel
theorem dX6_apply_9 : decode cX6_apply 9 = .ok (.iload_n 3, 1) := by decide +kernel
theorem dX6_apply_10 : decode cX6_apply 10 = .ok (.aload_n 0, 1) := by decide +kernel
theorem dX6_apply_11 : decode cX6_apply 11 = .ok (.getfield 37, 3) := by decide +kernel
theorem dX6_apply_14 : decode cX6_apply 14 = .ok (.if_icmp .ge 63, 3) := by decide +kernel
theorem dX6_apply_17 : decode cX6_apply 17 = .ok (.aload_n 0, 1) := by decide +kernel
theorem dX6_apply_18 : decode cX6_apply 18 = .ok (.iload_n 2, 1) := by decide +kernel
theorem dX6_apply_19 : decode cX6_apply 19 = .ok (.aload_n 0, 1) := by decide +kernel
theorem dX6_apply_20 : decode cX6_apply 20 = .ok (.getfield 20, 3) := by decide +kernel
theorem dX6_apply_23 : decode cX6_apply 23 = .ok (.iload_n 3, 1) := by decide +kernel
theorem dX6_apply_24 : decode cX6_apply 24 = .ok (.iaload, 1) := by decide +kernel
theorem dX6_apply_25 : decode cX6_apply 25 = .ok (.aload_n 1, 1) := by decide +kernel
theorem dX6_apply_26 : decode cX6_apply 26 = .ok (.invokevirtual 46, 3) := by decide +kernel
theorem dX6_apply_29 : decode cX6_apply 29 = .ok (.lstore 4, 2) := by decide +kernel
theorem dX6_apply_31 : decode cX6_apply 31 = .ok (.aload_n 1, 1) := by decide +kernel
theorem dX6_apply_32 : decode cX6_apply 32 = .ok (.getfield 50, 3) := by decide +kernel
theorem dX6_apply_35 : decode cX6_apply 35 = .ok (.bipush 15, 2) := by decide +kernel
theorem dX6_apply_37 : decode cX6_apply 37 = .ok (.iload_n 3, 1) := by decide +kernel
theorem dX6_apply_38 : decode cX6_apply 38 = .ok (.iadd, 1) := by decide +kernel
theorem dX6_apply_39 : decode cX6_apply 39 = .ok (.lload 4, 2) := by decide +kernel
theorem dX6_apply_41 : decode cX6_apply 41 = .ok (.lastore, 1) := by decide +kernel
theorem dX6_apply_42 : decode cX6_apply 42 = .ok (.aload_n 0, 1) := by decide +kernel
theorem dX6_apply_43 : decode cX6_apply 43 = .ok (.getfield 23, 3) := by decide +kernel
theorem dX6_apply_46 : decode cX6_apply 46 = .ok (.iload_n 3, 1) := by decide +kernel
theorem dX6_apply_47 : decode cX6_apply 47 = .ok (.iaload, 1) := by decide +kernel
theorem dX6_apply_48 : decode cX6_apply 48 = .ok (.iconst 1, 1) := by decide +kernel
theorem dX6_apply_49 : decode cX6_apply 49 = .ok (.if_icmp .ne 15, 3) := by decide +kernel
theorem dX6_apply_52 : decode cX6_apply 52 = .ok (.lload 4, 2) := by decide +kernel
theorem dX6_apply_54 : decode cX6_apply 54 = .ok (.lconst 1, 1) := by decide +kernel
theorem dX6_apply_55 : decode cX6_apply 55 = .ok (.lcmp, 1) := by decide +kernel
theorem dX6_apply_56 : decode cX6_apply 56 = .ok (.ifCond .ne 8, 3) := by decide +kernel
theorem dX6_apply_59 : decode cX6_apply 59 = .ok (.aload_n 1, 1) := by decide +kernel
theorem dX6_apply_60 : decode cX6_apply 60 = .ok (.iconst 1, 1) := by decide +kernel
theorem dX6_apply_61 : decode cX6_apply 61 = .ok (.putfield 40, 3) := by decide +kernel
theorem dX6_apply_64 : decode cX6_apply 64 = .ok (.aload_n 0, 1) := by decide +kernel
theorem dX6_apply_65 : decode cX6_apply 65 = .ok (.getfield 20, 3) := by decide +kernel
theorem dX6_apply_68 : decode cX6_apply 68 = .ok (.iload_n 3, 1) := by decide +kernel
theorem dX6_apply_69 : decode cX6_apply 69 = .ok (.iaload, 1) := by decide +kernel
theorem dX6_apply_70 : decode cX6_apply 70 = .ok (.istore_n 2, 1) := by decide +kernel
theorem dX6_apply_71 : decode cX6_apply 71 = .ok (.iinc 3 1, 3) := by decide +kernel
theorem dX6_apply_74 : decode cX6_apply 74 = .ok (.goto (-65), 3) := by decide +kernel
theorem dX6_apply_77 : decode cX6_apply 77 = .ok (.aload_n 1, 1) := by decide +kernel
theorem dX6_apply_78 : decode cX6_apply 78 = .ok (.aload_n 1, 1) := by decide +kernel
theorem dX6_apply_79 : decode cX6_apply 79 = .ok (.aload_n 0, 1) := by decide +kernel
theorem dX6_apply_80 : decode cX6_apply 80 = .ok (.getfield 30, 3) := by decide +kernel
theorem dX6_apply_83 : decode cX6_apply 83 = .ok (.invokevirtual 53, 3) := by decide +kernel
theorem dX6_apply_86 : decode cX6_apply 86 = .ok (.putfield 57, 3) := by decide +kernel
theorem dX6_apply_89 : decode cX6_apply 89 = .ok (.return_, 1) := by decide +kernel
theorem dX6_compare_0 : decode cX6_compare 0 = .ok (.aload_n 1, 1) := by decide +kernel
theorem dX6_compare_1 : decode cX6_compare 1 = .ok (.getfield 57, 3) := by decide +kernel
theorem dX6_compare_4 : decode cX6_compare 4 = .ok (.aload_n 2, 1) := by decide +kernel
theorem dX6_compare_5 : decode cX6_compare 5 = .ok (.getfield 57, 3) := by decide +kernel
theorem dX6_compare_8 : decode cX6_compare 8 = .ok (.invokestatic 61, 3) := by decide +kernel
theorem dX6_compare_11 : decode cX6_compare 11 = .ok (.istore_n 3, 1) := by decide +kernel
theorem dX6_compare_12 : decode cX6_compare 12 = .ok (.iconst 0, 1) := by decide +kernel
theorem dX6_compare_13 : decode cX6_compare 13 = .ok (.istore 4, 2) := by decide +kernel
theorem dX6_compare_15 : decode cX6_compare 15 = .ok (.iload 4, 2) := by decide +kernel
theorem dX6_compare_17 : decode cX6_compare 17 = .ok (.aload_n 0, 1) := by decide +kernel
theorem dX6_compare_18 : decode cX6_compare 18 = .ok (.getfield 37, 3) := by decide +kernel
theorem dX6_compare_21 : decode cX6_compare 21 = .ok (.if_icmp .ge 48, 3) := by decide +kernel
theorem dX6_compare_24 : decode cX6_compare 24 = .ok (.iload_n 3, 1) := by decide +kernel
theorem dX6_compare_25 : decode cX6_compare 25 = .ok (.ifCond .ne 44, 3) := by decide +kernel
theorem dX6_compare_28 : decode cX6_compare 28 = .ok (.aload_n 0, 1) := by decide +kernel
theorem dX6_compare_29 : decode cX6_compare 29 = .ok (.getfield 23, 3) := by decide +kernel
theorem dX6_compare_32 : decode cX6_compare 32 = .ok (.iload 4, 2) := by decide +kernel
theorem dX6_compare_34 : decode cX6_compare 34 = .ok (.iaload, 1) := by decide +kernel
theorem dX6_compare_35 : decode cX6_compare 35 = .ok (.iconst 2, 1) := by decide +kernel
theorem dX6_compare_36 : decode cX6_compare 36 = .ok (.if_icmp .ne 27, 3) := by decide +kernel
theorem dX6_compare_39 : decode cX6_compare 39 = .ok (.aload_n 1, 1) := by decide +kernel
theorem dX6_compare_40 : decode cX6_compare 40 = .ok (.getfield 50, 3) := by decide +kernel
theorem dX6_compare_43 : decode cX6_compare 43 = .ok (.bipush 15, 2) := by decide +kernel
theorem dX6_compare_45 : decode cX6_compare 45 = .ok (.iload 4, 2) := by decide +kernel
theorem dX6_compare_47 : decode cX6_compare 47 = .ok (.iadd, 1) := by decide +kernel
theorem dX6_compare_48 : decode cX6_compare 48 = .ok (.laload, 1) := by decide +kernel
theorem dX6_compare_49 : decode cX6_compare 49 = .ok (.aload_n 2, 1) := by decide +kernel
theorem dX6_compare_50 : decode cX6_compare 50 = .ok (.getfield 50, 3) := by decide +kernel
theorem dX6_compare_53 : decode cX6_compare 53 = .ok (.bipush 15, 2) := by decide +kernel
theorem dX6_compare_55 : decode cX6_compare 55 = .ok (.iload 4, 2) := by decide +kernel
theorem dX6_compare_57 : decode cX6_compare 57 = .ok (.iadd, 1) := by decide +kernel
theorem dX6_compare_58 : decode cX6_compare 58 = .ok (.laload, 1) := by decide +kernel
theorem dX6_compare_59 : decode cX6_compare 59 = .ok (.invokestatic 61, 3) := by decide +kernel
theorem dX6_compare_62 : decode cX6_compare 62 = .ok (.istore_n 3, 1) := by decide +kernel
theorem dX6_compare_63 : decode cX6_compare 63 = .ok (.iinc 4 1, 3) := by decide +kernel
theorem dX6_compare_66 : decode cX6_compare 66 = .ok (.goto (-51), 3) := by decide +kernel
theorem dX6_compare_69 : decode cX6_compare 69 = .ok (.iload_n 3, 1) := by decide +kernel
theorem dX6_compare_70 : decode cX6_compare 70 = .ok (.ireturn, 1) := by decide +kernel
theorem dX6_orderOf_0 : decode cX6_orderOf 0 = .ok (.lload_n 0, 1) := by decide +kernel
theorem dX6_orderOf_1 : decode cX6_orderOf 1 = .ok (.lload_n 2, 1) := by decide +kernel
theorem dX6_orderOf_2 : decode cX6_orderOf 2 = .ok (.lcmp, 1) := by decide +kernel
theorem dX6_orderOf_3 : decode cX6_orderOf 3 = .ok (.ifCond .ne 5, 3) := by decide +kernel
theorem dX6_orderOf_6 : decode cX6_orderOf 6 = .ok (.iconst 0, 1) := by decide +kernel
theorem dX6_orderOf_7 : decode cX6_orderOf 7 = .ok (.ireturn, 1) := by decide +kernel
theorem dX6_orderOf_8 : decode cX6_orderOf 8 = .ok (.lload_n 0, 1) := by decide +kernel
theorem dX6_orderOf_9 : decode cX6_orderOf 9 = .ok (.lload_n 2, 1) := by decide +kernel
theorem dX6_orderOf_10 : decode cX6_orderOf 10 = .ok (.lcmp, 1) := by decide +kernel
theorem dX6_orderOf_11 : decode cX6_orderOf 11 = .ok (.ifCond .ge 7, 3) := by decide +kernel
theorem dX6_orderOf_14 : decode cX6_orderOf 14 = .ok (.iconst (-1), 1) := by decide +kernel
theorem dX6_orderOf_15 : decode cX6_orderOf 15 = .ok (.goto 4, 3) := by decide +kernel
theorem dX6_orderOf_18 : decode cX6_orderOf 18 = .ok (.iconst 1, 1) := by decide +kernel
theorem dX6_orderOf_19 : decode cX6_orderOf 19 = .ok (.ireturn, 1) := by decide +kernel
theorem dX6_run_0 : decode cX6_run 0 = .ok (.aload_n 0, 1) := by decide +kernel
theorem dX6_run_1 : decode cX6_run 1 = .ok (.iconst 0, 1) := by decide +kernel
theorem dX6_run_2 : decode cX6_run 2 = .ok (.putfield 65, 3) := by decide +kernel
theorem dX6_run_5 : decode cX6_run 5 = .ok (.iload_n 1, 1) := by decide +kernel
theorem dX6_run_6 : decode cX6_run 6 = .ok (.istore 4, 2) := by decide +kernel
theorem dX6_run_8 : decode cX6_run 8 = .ok (.iload 4, 2) := by decide +kernel
theorem dX6_run_10 : decode cX6_run 10 = .ok (.iload_n 2, 1) := by decide +kernel
theorem dX6_run_11 : decode cX6_run 11 = .ok (.if_icmp .ge 28, 3) := by decide +kernel
theorem dX6_run_14 : decode cX6_run 14 = .ok (.aload_n 0, 1) := by decide +kernel
theorem dX6_run_15 : decode cX6_run 15 = .ok (.aload_n 0, 1) := by decide +kernel
theorem dX6_run_16 : decode cX6_run 16 = .ok (.getfield 11, 3) := by decide +kernel
theorem dX6_run_19 : decode cX6_run 19 = .ok (.iload 4, 2) := by decide +kernel
theorem dX6_run_21 : decode cX6_run 21 = .ok (.iaload, 1) := by decide +kernel
theorem dX6_run_22 : decode cX6_run 22 = .ok (.aload_n 0, 1) := by decide +kernel
theorem dX6_run_23 : decode cX6_run 23 = .ok (.getfield 17, 3) := by decide +kernel
theorem dX6_run_26 : decode cX6_run 26 = .ok (.iload 4, 2) := by decide +kernel
theorem dX6_run_28 : decode cX6_run 28 = .ok (.iaload, 1) := by decide +kernel
theorem dX6_run_29 : decode cX6_run 29 = .ok (.aload_n 3, 1) := by decide +kernel
theorem dX6_run_30 : decode cX6_run 30 = .ok (.invokevirtual 68, 3) := by decide +kernel
theorem dX6_run_33 : decode cX6_run 33 = .ok (.iinc 4 1, 3) := by decide +kernel
theorem dX6_run_36 : decode cX6_run 36 = .ok (.goto (-28), 3) := by decide +kernel
theorem dX6_run_39 : decode cX6_run 39 = .ok (.aload_n 0, 1) := by decide +kernel
theorem dX6_run_40 : decode cX6_run 40 = .ok (.invokevirtual 72, 3) := by decide +kernel
theorem dX6_run_43 : decode cX6_run 43 = .ok (.lreturn, 1) := by decide +kernel
theorem dX6_doStep_0 : decode cX6_doStep 0 = .ok (.iload_n 1, 1) := by decide +kernel
theorem dX6_doStep_1 : decode cX6_doStep 1 = .ok (.ifCond .ne 12, 3) := by decide +kernel
theorem dX6_doStep_4 : decode cX6_doStep 4 = .ok (.aload_n 0, 1) := by decide +kernel
theorem dX6_doStep_5 : decode cX6_doStep 5 = .ok (.iload_n 2, 1) := by decide +kernel
theorem dX6_doStep_6 : decode cX6_doStep 6 = .ok (.i2l, 1) := by decide +kernel
theorem dX6_doStep_7 : decode cX6_doStep 7 = .ok (.invokevirtual 76, 3) := by decide +kernel
theorem dX6_doStep_10 : decode cX6_doStep 10 = .ok (.goto 74, 3) := by decide +kernel
theorem dX6_doStep_13 : decode cX6_doStep 13 = .ok (.iload_n 1, 1) := by decide +kernel
theorem dX6_doStep_14 : decode cX6_doStep 14 = .ok (.iconst 1, 1) := by decide +kernel
theorem dX6_doStep_15 : decode cX6_doStep 15 = .ok (.if_icmp .ne 15, 3) := by decide +kernel
theorem dX6_doStep_18 : decode cX6_doStep 18 = .ok (.aload_n 0, 1) := by decide +kernel
theorem dX6_doStep_19 : decode cX6_doStep 19 = .ok (.aload_n 3, 1) := by decide +kernel
theorem dX6_doStep_20 : decode cX6_doStep 20 = .ok (.iload_n 2, 1) := by decide +kernel
theorem dX6_doStep_21 : decode cX6_doStep 21 = .ok (.invokevirtual 53, 3) := by decide +kernel
theorem dX6_doStep_24 : decode cX6_doStep 24 = .ok (.invokevirtual 76, 3) := by decide +kernel
theorem dX6_doStep_27 : decode cX6_doStep 27 = .ok (.goto 57, 3) := by decide +kernel
theorem dX6_doStep_30 : decode cX6_doStep 30 = .ok (.iload_n 1, 1) := by decide +kernel
theorem dX6_doStep_31 : decode cX6_doStep 31 = .ok (.iconst 5, 1) := by decide +kernel
theorem dX6_doStep_32 : decode cX6_doStep 32 = .ok (.if_icmp .ne 28, 3) := by decide +kernel
theorem dX6_doStep_35 : decode cX6_doStep 35 = .ok (.aload_n 0, 1) := by decide +kernel
theorem dX6_doStep_36 : decode cX6_doStep 36 = .ok (.iload_n 2, 1) := by decide +kernel
theorem dX6_doStep_37 : decode cX6_doStep 37 = .ok (.iconst 1, 1) := by decide +kernel
theorem dX6_doStep_38 : decode cX6_doStep 38 = .ok (.if_icmp .ge 7, 3) := by decide +kernel
theorem dX6_doStep_41 : decode cX6_doStep 41 = .ok (.lconst 0, 1) := by decide +kernel
theorem dX6_doStep_42 : decode cX6_doStep 42 = .ok (.goto 12, 3) := by decide +kernel
theorem dX6_doStep_45 : decode cX6_doStep 45 = .ok (.aload_n 0, 1) := by decide +kernel
theorem dX6_doStep_46 : decode cX6_doStep 46 = .ok (.invokevirtual 72, 3) := by decide +kernel
theorem dX6_doStep_49 : decode cX6_doStep 49 = .ok (.iload_n 2, 1) := by decide +kernel
theorem dX6_doStep_50 : decode cX6_doStep 50 = .ok (.i2l, 1) := by decide +kernel
theorem dX6_doStep_51 : decode cX6_doStep 51 = .ok (.invokestatic 80, 3) := by decide +kernel
theorem dX6_doStep_54 : decode cX6_doStep 54 = .ok (.invokevirtual 76, 3) := by decide +kernel
theorem dX6_doStep_57 : decode cX6_doStep 57 = .ok (.goto 27, 3) := by decide +kernel
theorem dX6_doStep_60 : decode cX6_doStep 60 = .ok (.aload_n 0, 1) := by decide +kernel
theorem dX6_doStep_61 : decode cX6_doStep 61 = .ok (.invokevirtual 72, 3) := by decide +kernel
theorem dX6_doStep_64 : decode cX6_doStep 64 = .ok (.lstore 4, 2) := by decide +kernel
theorem dX6_doStep_66 : decode cX6_doStep 66 = .ok (.aload_n 0, 1) := by decide +kernel
theorem dX6_doStep_67 : decode cX6_doStep 67 = .ok (.invokevirtual 72, 3) := by decide +kernel
theorem dX6_doStep_70 : decode cX6_doStep 70 = .ok (.lstore 6, 2) := by decide +kernel
theorem dX6_doStep_72 : decode cX6_doStep 72 = .ok (.aload_n 0, 1) := by decide +kernel
theorem dX6_doStep_73 : decode cX6_doStep 73 = .ok (.iload_n 1, 1) := by decide +kernel
theorem dX6_doStep_74 : decode cX6_doStep 74 = .ok (.lload 6, 2) := by decide +kernel
theorem dX6_doStep_76 : decode cX6_doStep 76 = .ok (.lload 4, 2) := by decide +kernel
theorem dX6_doStep_78 : decode cX6_doStep 78 = .ok (.invokestatic 86, 3) := by decide +kernel
theorem dX6_doStep_81 : decode cX6_doStep 81 = .ok (.invokevirtual 76, 3) := by decide +kernel
theorem dX6_doStep_84 : decode cX6_doStep 84 = .ok (.return_, 1) := by decide +kernel
theorem dX6_push_0 : decode cX6_push 0 = .ok (.aload_n 0, 1) := by decide +kernel
theorem dX6_push_1 : decode cX6_push 1 = .ok (.getfield 65, 3) := by decide +kernel
theorem dX6_push_4 : decode cX6_push 4 = .ok (.bipush 32, 2) := by decide +kernel
theorem dX6_push_6 : decode cX6_push 6 = .ok (.if_icmp .ge 23, 3) := by decide +kernel
theorem dX6_push_9 : decode cX6_push 9 = .ok (.aload_n 0, 1) := by decide +kernel
theorem dX6_push_10 : decode cX6_push 10 = .ok (.getfield 26, 3) := by decide +kernel
theorem dX6_push_13 : decode cX6_push 13 = .ok (.aload_n 0, 1) := by decide +kernel
theorem dX6_push_14 : decode cX6_push 14 = .ok (.getfield 65, 3) := by decide +kernel
theorem dX6_push_17 : decode cX6_push 17 = .ok (.lload_n 1, 1) := by decide +kernel
theorem dX6_push_18 : decode cX6_push 18 = .ok (.lastore, 1) := by decide +kernel
theorem dX6_push_19 : decode cX6_push 19 = .ok (.aload_n 0, 1) := by decide +kernel
theorem dX6_push_20 : decode cX6_push 20 = .ok (.dup, 1) := by decide +kernel
theorem dX6_push_21 : decode cX6_push 21 = .ok (.getfield 65, 3) := by decide +kernel
theorem dX6_push_24 : decode cX6_push 24 = .ok (.iconst 1, 1) := by decide +kernel
theorem dX6_push_25 : decode cX6_push 25 = .ok (.iadd, 1) := by decide +kernel
theorem dX6_push_26 : decode cX6_push 26 = .ok (.putfield 65, 3) := by decide +kernel
theorem dX6_push_29 : decode cX6_push 29 = .ok (.return_, 1) := by decide +kernel
theorem dX6_pop_0 : decode cX6_pop 0 = .ok (.aload_n 0, 1) := by decide +kernel
theorem dX6_pop_1 : decode cX6_pop 1 = .ok (.getfield 65, 3) := by decide +kernel
theorem dX6_pop_4 : decode cX6_pop 4 = .ok (.iconst 1, 1) := by decide +kernel
theorem dX6_pop_5 : decode cX6_pop 5 = .ok (.if_icmp .ge 5, 3) := by decide +kernel
theorem dX6_pop_8 : decode cX6_pop 8 = .ok (.lconst 0, 1) := by decide +kernel
theorem dX6_pop_9 : decode cX6_pop 9 = .ok (.lreturn, 1) := by decide +kernel
theorem dX6_pop_10 : decode cX6_pop 10 = .ok (.aload_n 0, 1) := by decide +kernel
theorem dX6_pop_11 : decode cX6_pop 11 = .ok (.dup, 1) := by decide +kernel
theorem dX6_pop_12 : decode cX6_pop 12 = .ok (.getfield 65, 3) := by decide +kernel
theorem dX6_pop_15 : decode cX6_pop 15 = .ok (.iconst 1, 1) := by decide +kernel
theorem dX6_pop_16 : decode cX6_pop 16 = .ok (.isub, 1) := by decide +kernel
theorem dX6_pop_17 : decode cX6_pop 17 = .ok (.putfield 65, 3) := by decide +kernel
theorem dX6_pop_20 : decode cX6_pop 20 = .ok (.aload_n 0, 1) := by decide +kernel
theorem dX6_pop_21 : decode cX6_pop 21 = .ok (.getfield 26, 3) := by decide +kernel
theorem dX6_pop_24 : decode cX6_pop 24 = .ok (.aload_n 0, 1) := by decide +kernel
theorem dX6_pop_25 : decode cX6_pop 25 = .ok (.getfield 65, 3) := by decide +kernel
theorem dX6_pop_28 : decode cX6_pop 28 = .ok (.laload, 1) := by decide +kernel
theorem dX6_pop_29 : decode cX6_pop 29 = .ok (.lreturn, 1) := by decide +kernel
theorem dX6_join_0 : decode cX6_join 0 = .ok (.iload_n 0, 1) := by decide +kernel
theorem dX6_join_1 : decode cX6_join 1 = .ok (.tableswitch 103 2 9 #[47, 54, 61, 103, 67, 73, 79, 91], 47) := by decide +kernel
theorem dX6_join_48 : decode cX6_join 48 = .ok (.lload_n 1, 1) := by decide +kernel
theorem dX6_join_49 : decode cX6_join 49 = .ok (.lload_n 3, 1) := by decide +kernel
theorem dX6_join_50 : decode cX6_join 50 = .ok (.ladd, 1) := by decide +kernel
theorem dX6_join_51 : decode cX6_join 51 = .ok (.invokestatic 90, 3) := by decide +kernel
theorem dX6_join_54 : decode cX6_join 54 = .ok (.lreturn, 1) := by decide +kernel
theorem dX6_join_55 : decode cX6_join 55 = .ok (.lload_n 1, 1) := by decide +kernel
theorem dX6_join_56 : decode cX6_join 56 = .ok (.lload_n 3, 1) := by decide +kernel
theorem dX6_join_57 : decode cX6_join 57 = .ok (.lsub, 1) := by decide +kernel
theorem dX6_join_58 : decode cX6_join 58 = .ok (.invokestatic 90, 3) := by decide +kernel
theorem dX6_join_61 : decode cX6_join 61 = .ok (.lreturn, 1) := by decide +kernel
theorem dX6_join_62 : decode cX6_join 62 = .ok (.lload_n 1, 1) := by decide +kernel
theorem dX6_join_63 : decode cX6_join 63 = .ok (.lload_n 3, 1) := by decide +kernel
theorem dX6_join_64 : decode cX6_join 64 = .ok (.invokestatic 94, 3) := by decide +kernel
theorem dX6_join_67 : decode cX6_join 67 = .ok (.lreturn, 1) := by decide +kernel
theorem dX6_join_68 : decode cX6_join 68 = .ok (.lload_n 1, 1) := by decide +kernel
theorem dX6_join_69 : decode cX6_join 69 = .ok (.lload_n 3, 1) := by decide +kernel
theorem dX6_join_70 : decode cX6_join 70 = .ok (.invokestatic 97, 3) := by decide +kernel
theorem dX6_join_73 : decode cX6_join 73 = .ok (.lreturn, 1) := by decide +kernel
theorem dX6_join_74 : decode cX6_join 74 = .ok (.lload_n 1, 1) := by decide +kernel
theorem dX6_join_75 : decode cX6_join 75 = .ok (.lload_n 3, 1) := by decide +kernel
theorem dX6_join_76 : decode cX6_join 76 = .ok (.invokestatic 100, 3) := by decide +kernel
theorem dX6_join_79 : decode cX6_join 79 = .ok (.lreturn, 1) := by decide +kernel
theorem dX6_join_80 : decode cX6_join 80 = .ok (.lload_n 1, 1) := by decide +kernel
theorem dX6_join_81 : decode cX6_join 81 = .ok (.lload_n 3, 1) := by decide +kernel
theorem dX6_join_82 : decode cX6_join 82 = .ok (.lcmp, 1) := by decide +kernel
theorem dX6_join_83 : decode cX6_join 83 = .ok (.ifCond .ge 7, 3) := by decide +kernel
theorem dX6_join_86 : decode cX6_join 86 = .ok (.lconst 1, 1) := by decide +kernel
theorem dX6_join_87 : decode cX6_join 87 = .ok (.goto 4, 3) := by decide +kernel
theorem dX6_join_90 : decode cX6_join 90 = .ok (.lconst 0, 1) := by decide +kernel
theorem dX6_join_91 : decode cX6_join 91 = .ok (.lreturn, 1) := by decide +kernel
theorem dX6_join_92 : decode cX6_join 92 = .ok (.lload_n 1, 1) := by decide +kernel
theorem dX6_join_93 : decode cX6_join 93 = .ok (.lload_n 3, 1) := by decide +kernel
theorem dX6_join_94 : decode cX6_join 94 = .ok (.lcmp, 1) := by decide +kernel
theorem dX6_join_95 : decode cX6_join 95 = .ok (.ifCond .le 7, 3) := by decide +kernel
theorem dX6_join_98 : decode cX6_join 98 = .ok (.lconst 1, 1) := by decide +kernel
theorem dX6_join_99 : decode cX6_join 99 = .ok (.goto 4, 3) := by decide +kernel
theorem dX6_join_102 : decode cX6_join 102 = .ok (.lconst 0, 1) := by decide +kernel
theorem dX6_join_103 : decode cX6_join 103 = .ok (.lreturn, 1) := by decide +kernel
theorem dX6_join_104 : decode cX6_join 104 = .ok (.lload_n 1, 1) := by decide +kernel
theorem dX6_join_105 : decode cX6_join 105 = .ok (.lload_n 3, 1) := by decide +kernel
theorem dX6_join_106 : decode cX6_join 106 = .ok (.lcmp, 1) := by decide +kernel
theorem dX6_join_107 : decode cX6_join 107 = .ok (.ifCond .ne 7, 3) := by decide +kernel
theorem dX6_join_110 : decode cX6_join 110 = .ok (.lconst 1, 1) := by decide +kernel
theorem dX6_join_111 : decode cX6_join 111 = .ok (.goto 4, 3) := by decide +kernel
theorem dX6_join_114 : decode cX6_join 114 = .ok (.lconst 0, 1) := by decide +kernel
theorem dX6_join_115 : decode cX6_join 115 = .ok (.lreturn, 1) := by decide +kernel
theorem dX6_limited_0 : decode cX6_limited 0 = .ok (.ldc2_w 103, 3) := by decide +kernel
theorem dX6_limited_3 : decode cX6_limited 3 = .ok (.ldc2_w 105, 3) := by decide +kernel
theorem dX6_limited_6 : decode cX6_limited 6 = .ok (.lload_n 0, 1) := by decide +kernel
theorem dX6_limited_7 : decode cX6_limited 7 = .ok (.invokestatic 100, 3) := by decide +kernel
theorem dX6_limited_10 : decode cX6_limited 10 = .ok (.invokestatic 97, 3) := by decide +kernel
theorem dX6_limited_13 : decode cX6_limited 13 = .ok (.lreturn, 1) := by decide +kernel
theorem dX6_product_0 : decode cX6_product 0 = .ok (.lload_n 0, 1) := by decide +kernel
theorem dX6_product_1 : decode cX6_product 1 = .ok (.lconst 0, 1) := by decide +kernel
theorem dX6_product_2 : decode cX6_product 2 = .ok (.lcmp, 1) := by decide +kernel
theorem dX6_product_3 : decode cX6_product 3 = .ok (.ifCond .eq 9, 3) := by decide +kernel
theorem dX6_product_6 : decode cX6_product 6 = .ok (.lload_n 2, 1) := by decide +kernel
theorem dX6_product_7 : decode cX6_product 7 = .ok (.lconst 0, 1) := by decide +kernel
theorem dX6_product_8 : decode cX6_product 8 = .ok (.lcmp, 1) := by decide +kernel
theorem dX6_product_9 : decode cX6_product 9 = .ok (.ifCond .ne 5, 3) := by decide +kernel
theorem dX6_product_12 : decode cX6_product 12 = .ok (.lconst 0, 1) := by decide +kernel
theorem dX6_product_13 : decode cX6_product 13 = .ok (.lreturn, 1) := by decide +kernel
theorem dX6_product_14 : decode cX6_product 14 = .ok (.lload_n 0, 1) := by decide +kernel
theorem dX6_product_15 : decode cX6_product 15 = .ok (.invokestatic 107, 3) := by decide +kernel
theorem dX6_product_18 : decode cX6_product 18 = .ok (.ldc2_w 105, 3) := by decide +kernel
theorem dX6_product_21 : decode cX6_product 21 = .ok (.lload_n 2, 1) := by decide +kernel
theorem dX6_product_22 : decode cX6_product 22 = .ok (.invokestatic 107, 3) := by decide +kernel
theorem dX6_product_25 : decode cX6_product 25 = .ok (.ldiv, 1) := by decide +kernel
theorem dX6_product_26 : decode cX6_product 26 = .ok (.lcmp, 1) := by decide +kernel
theorem dX6_product_27 : decode cX6_product 27 = .ok (.ifCond .le 38, 3) := by decide +kernel
theorem dX6_product_30 : decode cX6_product 30 = .ok (.lload_n 0, 1) := by decide +kernel
theorem dX6_product_31 : decode cX6_product 31 = .ok (.lconst 0, 1) := by decide +kernel
theorem dX6_product_32 : decode cX6_product 32 = .ok (.lcmp, 1) := by decide +kernel
theorem dX6_product_33 : decode cX6_product 33 = .ok (.ifCond .ge 7, 3) := by decide +kernel
theorem dX6_product_36 : decode cX6_product 36 = .ok (.iconst 1, 1) := by decide +kernel
theorem dX6_product_37 : decode cX6_product 37 = .ok (.goto 4, 3) := by decide +kernel
theorem dX6_product_40 : decode cX6_product 40 = .ok (.iconst 0, 1) := by decide +kernel
theorem dX6_product_41 : decode cX6_product 41 = .ok (.lload_n 2, 1) := by decide +kernel
theorem dX6_product_42 : decode cX6_product 42 = .ok (.lconst 0, 1) := by decide +kernel
theorem dX6_product_43 : decode cX6_product 43 = .ok (.lcmp, 1) := by decide +kernel
theorem dX6_product_44 : decode cX6_product 44 = .ok (.ifCond .ge 7, 3) := by decide +kernel
theorem dX6_product_47 : decode cX6_product 47 = .ok (.iconst 1, 1) := by decide +kernel
theorem dX6_product_48 : decode cX6_product 48 = .ok (.goto 4, 3) := by decide +kernel
theorem dX6_product_51 : decode cX6_product 51 = .ok (.iconst 0, 1) := by decide +kernel
theorem dX6_product_52 : decode cX6_product 52 = .ok (.if_icmp .ne 9, 3) := by decide +kernel
theorem dX6_product_55 : decode cX6_product 55 = .ok (.ldc2_w 105, 3) := by decide +kernel
theorem dX6_product_58 : decode cX6_product 58 = .ok (.goto 6, 3) := by decide +kernel
theorem dX6_product_61 : decode cX6_product 61 = .ok (.ldc2_w 103, 3) := by decide +kernel
theorem dX6_product_64 : decode cX6_product 64 = .ok (.lreturn, 1) := by decide +kernel
theorem dX6_product_65 : decode cX6_product 65 = .ok (.lload_n 0, 1) := by decide +kernel
theorem dX6_product_66 : decode cX6_product 66 = .ok (.lload_n 2, 1) := by decide +kernel
theorem dX6_product_67 : decode cX6_product 67 = .ok (.lmul, 1) := by decide +kernel
theorem dX6_product_68 : decode cX6_product 68 = .ok (.lreturn, 1) := by decide +kernel
theorem dX7_init_0 : decode cX7_init 0 = .ok (.aload_n 0, 1) := by decide +kernel
theorem dX7_init_1 : decode cX7_init 1 = .ok (.invokespecial 7, 3) := by decide +kernel
theorem dX7_init_4 : decode cX7_init 4 = .ok (.aload_n 0, 1) := by decide +kernel
theorem dX7_init_5 : decode cX7_init 5 = .ok (.bipush 39, 2) := by decide +kernel
theorem dX7_init_7 : decode cX7_init 7 = .ok (.newarray .long, 2) := by decide +kernel
theorem dX7_init_9 : decode cX7_init 9 = .ok (.putfield 13, 3) := by decide +kernel
theorem dX7_init_12 : decode cX7_init 12 = .ok (.aload_n 0, 1) := by decide +kernel
theorem dX7_init_13 : decode cX7_init 13 = .ok (.iconst 1, 1) := by decide +kernel
theorem dX7_init_14 : decode cX7_init 14 = .ok (.putfield 17, 3) := by decide +kernel
theorem dX7_init_17 : decode cX7_init 17 = .ok (.return_, 1) := by decide +kernel
theorem dX7_clear_0 : decode cX7_clear 0 = .ok (.iconst 0, 1) := by decide +kernel
theorem dX7_clear_1 : decode cX7_clear 1 = .ok (.istore_n 1, 1) := by decide +kernel
theorem dX7_clear_2 : decode cX7_clear 2 = .ok (.iload_n 1, 1) := by decide +kernel
theorem dX7_clear_3 : decode cX7_clear 3 = .ok (.bipush 39, 2) := by decide +kernel
theorem dX7_clear_5 : decode cX7_clear 5 = .ok (.if_icmp .ge 16, 3) := by decide +kernel
theorem dX7_clear_8 : decode cX7_clear 8 = .ok (.aload_n 0, 1) := by decide +kernel
theorem dX7_clear_9 : decode cX7_clear 9 = .ok (.getfield 13, 3) := by decide +kernel
theorem dX7_clear_12 : decode cX7_clear 12 = .ok (.iload_n 1, 1) := by decide +kernel
theorem dX7_clear_13 : decode cX7_clear 13 = .ok (.lconst 0, 1) := by decide +kernel
theorem dX7_clear_14 : decode cX7_clear 14 = .ok (.lastore, 1) := by decide +kernel
theorem dX7_clear_15 : decode cX7_clear 15 = .ok (.iinc 1 1, 3) := by decide +kernel
theorem dX7_clear_18 : decode cX7_clear 18 = .ok (.goto (-16), 3) := by decide +kernel
theorem dX7_clear_21 : decode cX7_clear 21 = .ok (.aload_n 0, 1) := by decide +kernel
theorem dX7_clear_22 : decode cX7_clear 22 = .ok (.iconst 0, 1) := by decide +kernel
theorem dX7_clear_23 : decode cX7_clear 23 = .ok (.putfield 21, 3) := by decide +kernel
theorem dX7_clear_26 : decode cX7_clear 26 = .ok (.aload_n 0, 1) := by decide +kernel
theorem dX7_clear_27 : decode cX7_clear 27 = .ok (.iconst 0, 1) := by decide +kernel
theorem dX7_clear_28 : decode cX7_clear 28 = .ok (.putfield 24, 3) := by decide +kernel
theorem dX7_clear_31 : decode cX7_clear 31 = .ok (.aload_n 0, 1) := by decide +kernel
theorem dX7_clear_32 : decode cX7_clear 32 = .ok (.ldc 27, 2) := by decide +kernel
theorem dX7_clear_34 : decode cX7_clear 34 = .ok (.putfield 28, 3) := by decide +kernel
theorem dX7_clear_37 : decode cX7_clear 37 = .ok (.aload_n 0, 1) := by decide +kernel
theorem dX7_clear_38 : decode cX7_clear 38 = .ok (.ldc 27, 2) := by decide +kernel
theorem dX7_clear_40 : decode cX7_clear 40 = .ok (.putfield 32, 3) := by decide +kernel
theorem dX7_clear_43 : decode cX7_clear 43 = .ok (.aload_n 0, 1) := by decide +kernel
theorem dX7_clear_44 : decode cX7_clear 44 = .ok (.iconst (-1), 1) := by decide +kernel
theorem dX7_clear_45 : decode cX7_clear 45 = .ok (.putfield 35, 3) := by decide +kernel
theorem dX7_clear_48 : decode cX7_clear 48 = .ok (.return_, 1) := by decide +kernel
theorem dX7_countOf_0 : decode cX7_countOf 0 = .ok (.iload_n 1, 1) := by decide +kernel
theorem dX7_countOf_1 : decode cX7_countOf 1 = .ok (.iconst 0, 1) := by decide +kernel
theorem dX7_countOf_2 : decode cX7_countOf 2 = .ok (.bipush 14, 2) := by decide +kernel
theorem dX7_countOf_4 : decode cX7_countOf 4 = .ok (.invokestatic 38, 3) := by decide +kernel
theorem dX7_countOf_7 : decode cX7_countOf 7 = .ok (.ifCond .eq 11, 3) := by decide +kernel
theorem dX7_countOf_10 : decode cX7_countOf 10 = .ok (.aload_n 0, 1) := by decide +kernel
theorem dX7_countOf_11 : decode cX7_countOf 11 = .ok (.getfield 13, 3) := by decide +kernel
theorem dX7_countOf_14 : decode cX7_countOf 14 = .ok (.iload_n 1, 1) := by decide +kernel
theorem dX7_countOf_15 : decode cX7_countOf 15 = .ok (.laload, 1) := by decide +kernel
theorem dX7_countOf_16 : decode cX7_countOf 16 = .ok (.l2i, 1) := by decide +kernel
theorem dX7_countOf_17 : decode cX7_countOf 17 = .ok (.ireturn, 1) := by decide +kernel
theorem dX7_countOf_18 : decode cX7_countOf 18 = .ok (.iload_n 1, 1) := by decide +kernel
theorem dX7_countOf_19 : decode cX7_countOf 19 = .ok (.tableswitch 40 15 17 #[25, 30, 35], 25) := by decide +kernel
theorem dX7_countOf_44 : decode cX7_countOf 44 = .ok (.aload_n 0, 1) := by decide +kernel
theorem dX7_countOf_45 : decode cX7_countOf 45 = .ok (.getfield 28, 3) := by decide +kernel
theorem dX7_countOf_48 : decode cX7_countOf 48 = .ok (.ireturn, 1) := by decide +kernel
theorem dX7_countOf_49 : decode cX7_countOf 49 = .ok (.aload_n 0, 1) := by decide +kernel
theorem dX7_countOf_50 : decode cX7_countOf 50 = .ok (.getfield 32, 3) := by decide +kernel
theorem dX7_countOf_53 : decode cX7_countOf 53 = .ok (.ireturn, 1) := by decide +kernel
theorem dX7_countOf_54 : decode cX7_countOf 54 = .ok (.aload_n 0, 1) := by decide +kernel
theorem dX7_countOf_55 : decode cX7_countOf 55 = .ok (.getfield 35, 3) := by decide +kernel
theorem dX7_countOf_58 : decode cX7_countOf 58 = .ok (.ireturn, 1) := by decide +kernel
theorem dX7_countOf_59 : decode cX7_countOf 59 = .ok (.ldc 42, 2) := by decide +kernel
theorem dX7_countOf_61 : decode cX7_countOf 61 = .ok (.ireturn, 1) := by decide +kernel
theorem dX7_valueAt_0 : decode cX7_valueAt 0 = .ok (.iload_n 1, 1) := by decide +kernel
theorem dX7_valueAt_1 : decode cX7_valueAt 1 = .ok (.iconst 0, 1) := by decide +kernel
theorem dX7_valueAt_2 : decode cX7_valueAt 2 = .ok (.bipush 38, 2) := by decide +kernel
theorem dX7_valueAt_4 : decode cX7_valueAt 4 = .ok (.invokestatic 38, 3) := by decide +kernel
theorem dX7_valueAt_7 : decode cX7_valueAt 7 = .ok (.ifCond .eq 12, 3) := by decide +kernel
theorem dX7_valueAt_10 : decode cX7_valueAt 10 = .ok (.aload_n 0, 1) := by decide +kernel
theorem dX7_valueAt_11 : decode cX7_valueAt 11 = .ok (.getfield 13, 3) := by decide +kernel
theorem dX7_valueAt_14 : decode cX7_valueAt 14 = .ok (.iload_n 1, 1) := by decide +kernel
theorem dX7_valueAt_15 : decode cX7_valueAt 15 = .ok (.laload, 1) := by decide +kernel
theorem dX7_valueAt_16 : decode cX7_valueAt 16 = .ok (.goto 4, 3) := by decide +kernel
theorem dX7_valueAt_19 : decode cX7_valueAt 19 = .ok (.lconst 0, 1) := by decide +kernel
theorem dX7_valueAt_20 : decode cX7_valueAt 20 = .ok (.lreturn, 1) := by decide +kernel
theorem dX8_init_0 : decode cX8_init 0 = .ok (.aload_n 0, 1) := by decide +kernel
theorem dX8_init_1 : decode cX8_init 1 = .ok (.invokespecial 3, 3) := by decide +kernel
theorem dX8_init_4 : decode cX8_init 4 = .ok (.aload_n 0, 1) := by decide +kernel
theorem dX8_init_5 : decode cX8_init 5 = .ok (.bipush 120, 2) := by decide +kernel
theorem dX8_init_7 : decode cX8_init 7 = .ok (.newarray .int, 2) := by decide +kernel
theorem dX8_init_9 : decode cX8_init 9 = .ok (.putfield 13, 3) := by decide +kernel
theorem dX8_init_12 : decode cX8_init 12 = .ok (.aload_n 0, 1) := by decide +kernel
theorem dX8_init_13 : decode cX8_init 13 = .ok (.aload_n 1, 1) := by decide +kernel
theorem dX8_init_14 : decode cX8_init 14 = .ok (.putfield 17, 3) := by decide +kernel
theorem dX8_init_17 : decode cX8_init 17 = .ok (.aload_n 0, 1) := by decide +kernel
theorem dX8_init_18 : decode cX8_init 18 = .ok (.aload_n 2, 1) := by decide +kernel
theorem dX8_init_19 : decode cX8_init 19 = .ok (.putfield 21, 3) := by decide +kernel
theorem dX8_init_22 : decode cX8_init 22 = .ok (.return_, 1) := by decide +kernel
theorem dX8_fill_0 : decode cX8_fill 0 = .ok (.aload_n 1, 1) := by decide +kernel
theorem dX8_fill_1 : decode cX8_fill 1 = .ok (.invokevirtual 25, 3) := by decide +kernel
theorem dX8_fill_4 : decode cX8_fill 4 = .ok (.aload_n 0, 1) := by decide +kernel
theorem dX8_fill_5 : decode cX8_fill 5 = .ok (.iconst 0, 1) := by decide +kernel
theorem dX8_fill_6 : decode cX8_fill 6 = .ok (.putfield 30, 3) := by decide +kernel
theorem dX8_fill_9 : decode cX8_fill 9 = .ok (.iconst 0, 1) := by decide +kernel
theorem dX8_fill_10 : decode cX8_fill 10 = .ok (.istore 4, 2) := by decide +kernel
theorem dX8_fill_12 : decode cX8_fill 12 = .ok (.iload 4, 2) := by decide +kernel
theorem dX8_fill_14 : decode cX8_fill 14 = .ok (.aload_n 0, 1) := by decide +kernel
theorem dX8_fill_15 : decode cX8_fill 15 = .ok (.getfield 13, 3) := by decide +kernel
theorem dX8_fill_18 : decode cX8_fill 18 = .ok (.arraylength, 1) := by decide +kernel
theorem dX8_fill_19 : decode cX8_fill 19 = .ok (.if_icmp .ge 17, 3) := by decide +kernel
theorem dX8_fill_22 : decode cX8_fill 22 = .ok (.aload_n 0, 1) := by decide +kernel
theorem dX8_fill_23 : decode cX8_fill 23 = .ok (.getfield 13, 3) := by decide +kernel
theorem dX8_fill_26 : decode cX8_fill 26 = .ok (.iload 4, 2) := by decide +kernel
theorem dX8_fill_28 : decode cX8_fill 28 = .ok (.iconst 0, 1) := by decide +kernel
theorem dX8_fill_29 : decode cX8_fill 29 = .ok (.iastore, 1) := by decide +kernel
theorem dX8_fill_30 : decode cX8_fill 30 = .ok (.iinc 4 1, 3) := by decide +kernel
theorem dX8_fill_33 : decode cX8_fill 33 = .ok (.goto (-21), 3) := by decide +kernel
theorem dX8_fill_36 : decode cX8_fill 36 = .ok (.aload_n 0, 1) := by decide +kernel
theorem dX8_fill_37 : decode cX8_fill 37 = .ok (.getfield 21, 3) := by decide +kernel
theorem dX8_fill_40 : decode cX8_fill 40 = .ok (.iload_n 2, 1) := by decide +kernel
theorem dX8_fill_41 : decode cX8_fill 41 = .ok (.invokevirtual 34, 3) := by decide +kernel
theorem dX8_fill_44 : decode cX8_fill 44 = .ok (.astore 4, 2) := by decide +kernel
theorem dX8_fill_46 : decode cX8_fill 46 = .ok (.aload 4, 2) := by decide +kernel
theorem dX8_fill_48 : decode cX8_fill 48 = .ok (.ifnull 29, 3) := by decide +kernel
theorem dX8_fill_51 : decode cX8_fill 51 = .ok (.aload 4, 2) := by decide +kernel
theorem dX8_fill_53 : decode cX8_fill 53 = .ok (.iload_n 3, 1) := by decide +kernel
theorem dX8_fill_54 : decode cX8_fill 54 = .ok (.invokevirtual 40, 3) := by decide +kernel
theorem dX8_fill_57 : decode cX8_fill 57 = .ok (.ifCond .eq 10, 3) := by decide +kernel
theorem dX8_fill_60 : decode cX8_fill 60 = .ok (.aload_n 0, 1) := by decide +kernel
theorem dX8_fill_61 : decode cX8_fill 61 = .ok (.aload 4, 2) := by decide +kernel
theorem dX8_fill_63 : decode cX8_fill 63 = .ok (.aload_n 1, 1) := by decide +kernel
theorem dX8_fill_64 : decode cX8_fill 64 = .ok (.invokevirtual 46, 3) := by decide +kernel
theorem dX8_fill_67 : decode cX8_fill 67 = .ok (.aload 4, 2) := by decide +kernel
theorem dX8_fill_69 : decode cX8_fill 69 = .ok (.getfield 50, 3) := by decide +kernel
theorem dX8_fill_72 : decode cX8_fill 72 = .ok (.astore 4, 2) := by decide +kernel
theorem dX8_fill_74 : decode cX8_fill 74 = .ok (.goto (-28), 3) := by decide +kernel
theorem dX8_fill_77 : decode cX8_fill 77 = .ok (.aload_n 0, 1) := by decide +kernel
theorem dX8_fill_78 : decode cX8_fill 78 = .ok (.aload_n 1, 1) := by decide +kernel
theorem dX8_fill_79 : decode cX8_fill 79 = .ok (.invokevirtual 54, 3) := by decide +kernel
theorem dX8_fill_82 : decode cX8_fill 82 = .ok (.iconst 0, 1) := by decide +kernel
theorem dX8_fill_83 : decode cX8_fill 83 = .ok (.istore 4, 2) := by decide +kernel
theorem dX8_fill_85 : decode cX8_fill 85 = .ok (.iload 4, 2) := by decide +kernel
theorem dX8_fill_87 : decode cX8_fill 87 = .ok (.aload_n 0, 1) := by decide +kernel
theorem dX8_fill_88 : decode cX8_fill 88 = .ok (.getfield 17, 3) := by decide +kernel
theorem dX8_fill_91 : decode cX8_fill 91 = .ok (.getfield 58, 3) := by decide +kernel
theorem dX8_fill_94 : decode cX8_fill 94 = .ok (.if_icmp .ge 32, 3) := by decide +kernel
theorem dX8_fill_97 : decode cX8_fill 97 = .ok (.aload_n 0, 1) := by decide +kernel
theorem dX8_fill_98 : decode cX8_fill 98 = .ok (.getfield 17, 3) := by decide +kernel
theorem dX8_fill_101 : decode cX8_fill 101 = .ok (.aload_n 1, 1) := by decide +kernel
theorem dX8_fill_102 : decode cX8_fill 102 = .ok (.iload 4, 2) := by decide +kernel
theorem dX8_fill_104 : decode cX8_fill 104 = .ok (.invokevirtual 61, 3) := by decide +kernel
theorem dX8_fill_107 : decode cX8_fill 107 = .ok (.ifCond .eq 13, 3) := by decide +kernel
theorem dX8_fill_110 : decode cX8_fill 110 = .ok (.aload_n 0, 1) := by decide +kernel
theorem dX8_fill_111 : decode cX8_fill 111 = .ok (.iload 4, 2) := by decide +kernel
theorem dX8_fill_113 : decode cX8_fill 113 = .ok (.aload_n 1, 1) := by decide +kernel
theorem dX8_fill_114 : decode cX8_fill 114 = .ok (.getfield 65, 3) := by decide +kernel
theorem dX8_fill_117 : decode cX8_fill 117 = .ok (.invokevirtual 69, 3) := by decide +kernel
theorem dX8_fill_120 : decode cX8_fill 120 = .ok (.iinc 4 1, 3) := by decide +kernel
theorem dX8_fill_123 : decode cX8_fill 123 = .ok (.goto (-38), 3) := by decide +kernel
theorem dX8_fill_126 : decode cX8_fill 126 = .ok (.return_, 1) := by decide +kernel
theorem dX8_take_0 : decode cX8_take 0 = .ok (.aload_n 1, 1) := by decide +kernel
theorem dX8_take_1 : decode cX8_take 1 = .ok (.getfield 73, 3) := by decide +kernel
theorem dX8_take_4 : decode cX8_take 4 = .ok (.tableswitch 203 0 11 #[64, 78, 102, 203, 203, 203, 203, 126, 147, 161, 175, 189], 64) := by decide +kernel
theorem dX8_take_68 : decode cX8_take 68 = .ok (.aload_n 2, 1) := by decide +kernel
theorem dX8_take_69 : decode cX8_take 69 = .ok (.getfield 65, 3) := by decide +kernel
theorem dX8_take_72 : decode cX8_take 72 = .ok (.iconst 0, 1) := by decide +kernel
theorem dX8_take_73 : decode cX8_take 73 = .ok (.aload_n 1, 1) := by decide +kernel
theorem dX8_take_74 : decode cX8_take 74 = .ok (.getfield 76, 3) := by decide +kernel
theorem dX8_take_77 : decode cX8_take 77 = .ok (.i2l, 1) := by decide +kernel
theorem dX8_take_78 : decode cX8_take 78 = .ok (.lastore, 1) := by decide +kernel
theorem dX8_take_79 : decode cX8_take 79 = .ok (.goto 140, 3) := by decide +kernel
theorem dX8_take_82 : decode cX8_take 82 = .ok (.aload_n 2, 1) := by decide +kernel
theorem dX8_take_83 : decode cX8_take 83 = .ok (.iconst 1, 1) := by decide +kernel
theorem dX8_take_84 : decode cX8_take 84 = .ok (.putfield 79, 3) := by decide +kernel
theorem dX8_take_87 : decode cX8_take 87 = .ok (.aload_n 2, 1) := by decide +kernel
theorem dX8_take_88 : decode cX8_take 88 = .ok (.aload_n 0, 1) := by decide +kernel
theorem dX8_take_89 : decode cX8_take 89 = .ok (.getfield 17, 3) := by decide +kernel
theorem dX8_take_92 : decode cX8_take 92 = .ok (.iconst 0, 1) := by decide +kernel
theorem dX8_take_93 : decode cX8_take 93 = .ok (.aload_n 1, 1) := by decide +kernel
theorem dX8_take_94 : decode cX8_take 94 = .ok (.getfield 76, 3) := by decide +kernel
theorem dX8_take_97 : decode cX8_take 97 = .ok (.invokevirtual 83, 3) := by decide +kernel
theorem dX8_take_100 : decode cX8_take 100 = .ok (.putfield 87, 3) := by decide +kernel
theorem dX8_take_103 : decode cX8_take 103 = .ok (.goto 116, 3) := by decide +kernel
theorem dX8_take_106 : decode cX8_take 106 = .ok (.aload_n 2, 1) := by decide +kernel
theorem dX8_take_107 : decode cX8_take 107 = .ok (.iconst 1, 1) := by decide +kernel
theorem dX8_take_108 : decode cX8_take 108 = .ok (.putfield 90, 3) := by decide +kernel
theorem dX8_take_111 : decode cX8_take 111 = .ok (.aload_n 2, 1) := by decide +kernel
theorem dX8_take_112 : decode cX8_take 112 = .ok (.aload_n 0, 1) := by decide +kernel
theorem dX8_take_113 : decode cX8_take 113 = .ok (.getfield 17, 3) := by decide +kernel
theorem dX8_take_116 : decode cX8_take 116 = .ok (.iconst 1, 1) := by decide +kernel
theorem dX8_take_117 : decode cX8_take 117 = .ok (.aload_n 1, 1) := by decide +kernel
theorem dX8_take_118 : decode cX8_take 118 = .ok (.getfield 76, 3) := by decide +kernel
theorem dX8_take_121 : decode cX8_take 121 = .ok (.invokevirtual 83, 3) := by decide +kernel
theorem dX8_take_124 : decode cX8_take 124 = .ok (.putfield 93, 3) := by decide +kernel
theorem dX8_take_127 : decode cX8_take 127 = .ok (.goto 92, 3) := by decide +kernel
theorem dX8_take_130 : decode cX8_take 130 = .ok (.aload_n 0, 1) := by decide +kernel
theorem dX8_take_131 : decode cX8_take 131 = .ok (.dup, 1) := by decide +kernel
theorem dX8_take_132 : decode cX8_take 132 = .ok (.getfield 30, 3) := by decide +kernel
theorem dX8_take_135 : decode cX8_take 135 = .ok (.aload_n 1, 1) := by decide +kernel
theorem dX8_take_136 : decode cX8_take 136 = .ok (.getfield 96, 3) := by decide +kernel
theorem dX8_take_139 : decode cX8_take 139 = .ok (.aload_n 1, 1) := by decide +kernel
theorem dX8_take_140 : decode cX8_take 140 = .ok (.getfield 76, 3) := by decide +kernel
theorem dX8_take_143 : decode cX8_take 143 = .ok (.isub, 1) := by decide +kernel
theorem dX8_take_144 : decode cX8_take 144 = .ok (.iadd, 1) := by decide +kernel
theorem dX8_take_145 : decode cX8_take 145 = .ok (.putfield 30, 3) := by decide +kernel
theorem dX8_take_148 : decode cX8_take 148 = .ok (.goto 71, 3) := by decide +kernel
theorem dX8_take_151 : decode cX8_take 151 = .ok (.aload_n 2, 1) := by decide +kernel
theorem dX8_take_152 : decode cX8_take 152 = .ok (.getfield 65, 3) := by decide +kernel
theorem dX8_take_155 : decode cX8_take 155 = .ok (.bipush 8, 2) := by decide +kernel
theorem dX8_take_157 : decode cX8_take 157 = .ok (.dup2, 1) := by decide +kernel
theorem dX8_take_158 : decode cX8_take 158 = .ok (.laload, 1) := by decide +kernel
theorem dX8_take_159 : decode cX8_take 159 = .ok (.lconst 1, 1) := by decide +kernel
theorem dX8_take_160 : decode cX8_take 160 = .ok (.ladd, 1) := by decide +kernel
theorem dX8_take_161 : decode cX8_take 161 = .ok (.lastore, 1) := by decide +kernel
theorem dX8_take_162 : decode cX8_take 162 = .ok (.goto 57, 3) := by decide +kernel
theorem dX8_take_165 : decode cX8_take 165 = .ok (.aload_n 2, 1) := by decide +kernel
theorem dX8_take_166 : decode cX8_take 166 = .ok (.getfield 65, 3) := by decide +kernel
theorem dX8_take_169 : decode cX8_take 169 = .ok (.iconst 1, 1) := by decide +kernel
theorem dX8_take_170 : decode cX8_take 170 = .ok (.aload_n 1, 1) := by decide +kernel
theorem dX8_take_171 : decode cX8_take 171 = .ok (.getfield 76, 3) := by decide +kernel
theorem dX8_take_174 : decode cX8_take 174 = .ok (.i2l, 1) := by decide +kernel
theorem dX8_take_175 : decode cX8_take 175 = .ok (.lastore, 1) := by decide +kernel
theorem dX8_take_176 : decode cX8_take 176 = .ok (.goto 43, 3) := by decide +kernel
theorem dX8_take_179 : decode cX8_take 179 = .ok (.aload_n 2, 1) := by decide +kernel
theorem dX8_take_180 : decode cX8_take 180 = .ok (.getfield 65, 3) := by decide +kernel
theorem dX8_take_183 : decode cX8_take 183 = .ok (.bipush 9, 2) := by decide +kernel
theorem dX8_take_185 : decode cX8_take 185 = .ok (.dup2, 1) := by decide +kernel
theorem dX8_take_186 : decode cX8_take 186 = .ok (.laload, 1) := by decide +kernel
theorem dX8_take_187 : decode cX8_take 187 = .ok (.lconst 1, 1) := by decide +kernel
theorem dX8_take_188 : decode cX8_take 188 = .ok (.ladd, 1) := by decide +kernel
theorem dX8_take_189 : decode cX8_take 189 = .ok (.lastore, 1) := by decide +kernel
theorem dX8_take_190 : decode cX8_take 190 = .ok (.goto 29, 3) := by decide +kernel
theorem dX8_take_193 : decode cX8_take 193 = .ok (.aload_n 2, 1) := by decide +kernel
theorem dX8_take_194 : decode cX8_take 194 = .ok (.getfield 65, 3) := by decide +kernel
theorem dX8_take_197 : decode cX8_take 197 = .ok (.bipush 10, 2) := by decide +kernel
theorem dX8_take_199 : decode cX8_take 199 = .ok (.dup2, 1) := by decide +kernel
theorem dX8_take_200 : decode cX8_take 200 = .ok (.laload, 1) := by decide +kernel
theorem dX8_take_201 : decode cX8_take 201 = .ok (.lconst 1, 1) := by decide +kernel
theorem dX8_take_202 : decode cX8_take 202 = .ok (.ladd, 1) := by decide +kernel
theorem dX8_take_203 : decode cX8_take 203 = .ok (.lastore, 1) := by decide +kernel
theorem dX8_take_204 : decode cX8_take 204 = .ok (.goto 15, 3) := by decide +kernel
theorem dX8_take_207 : decode cX8_take 207 = .ok (.aload_n 0, 1) := by decide +kernel
theorem dX8_take_208 : decode cX8_take 208 = .ok (.aload_n 1, 1) := by decide +kernel
theorem dX8_take_209 : decode cX8_take 209 = .ok (.getfield 73, 3) := by decide +kernel
theorem dX8_take_212 : decode cX8_take 212 = .ok (.aload_n 1, 1) := by decide +kernel
theorem dX8_take_213 : decode cX8_take 213 = .ok (.getfield 99, 3) := by decide +kernel
theorem dX8_take_216 : decode cX8_take 216 = .ok (.invokevirtual 102, 3) := by decide +kernel
theorem dX8_take_219 : decode cX8_take 219 = .ok (.return_, 1) := by decide +kernel
theorem dX8_see_0 : decode cX8_see 0 = .ok (.iload_n 1, 1) := by decide +kernel
theorem dX8_see_1 : decode cX8_see 1 = .ok (.iload_n 2, 1) := by decide +kernel
theorem dX8_see_2 : decode cX8_see 2 = .ok (.invokestatic 106, 3) := by decide +kernel
theorem dX8_see_5 : decode cX8_see 5 = .ok (.istore_n 3, 1) := by decide +kernel
theorem dX8_see_6 : decode cX8_see 6 = .ok (.iload_n 3, 1) := by decide +kernel
theorem dX8_see_7 : decode cX8_see 7 = .ok (.iconst (-1), 1) := by decide +kernel
theorem dX8_see_8 : decode cX8_see 8 = .ok (.if_icmp .eq 13, 3) := by decide +kernel
theorem dX8_see_11 : decode cX8_see 11 = .ok (.aload_n 0, 1) := by decide +kernel
theorem dX8_see_12 : decode cX8_see 12 = .ok (.getfield 13, 3) := by decide +kernel
theorem dX8_see_15 : decode cX8_see 15 = .ok (.iload_n 3, 1) := by decide +kernel
theorem dX8_see_16 : decode cX8_see 16 = .ok (.dup2, 1) := by decide +kernel
theorem dX8_see_17 : decode cX8_see 17 = .ok (.iaload, 1) := by decide +kernel
theorem dX8_see_18 : decode cX8_see 18 = .ok (.iconst 1, 1) := by decide +kernel
theorem dX8_see_19 : decode cX8_see 19 = .ok (.iadd, 1) := by decide +kernel
theorem dX8_see_20 : decode cX8_see 20 = .ok (.iastore, 1) := by decide +kernel
theorem dX8_see_21 : decode cX8_see 21 = .ok (.return_, 1) := by decide +kernel
theorem dX8_timesSeen_0 : decode cX8_timesSeen 0 = .ok (.iload_n 1, 1) := by decide +kernel
theorem dX8_timesSeen_1 : decode cX8_timesSeen 1 = .ok (.iload_n 2, 1) := by decide +kernel
theorem dX8_timesSeen_2 : decode cX8_timesSeen 2 = .ok (.invokestatic 106, 3) := by decide +kernel
theorem dX8_timesSeen_5 : decode cX8_timesSeen 5 = .ok (.istore_n 3, 1) := by decide +kernel
theorem dX8_timesSeen_6 : decode cX8_timesSeen 6 = .ok (.iload_n 3, 1) := by decide +kernel
theorem dX8_timesSeen_7 : decode cX8_timesSeen 7 = .ok (.iconst (-1), 1) := by decide +kernel
theorem dX8_timesSeen_8 : decode cX8_timesSeen 8 = .ok (.if_icmp .ne 7, 3) := by decide +kernel
theorem dX8_timesSeen_11 : decode cX8_timesSeen 11 = .ok (.iconst 0, 1) := by decide +kernel
theorem dX8_timesSeen_12 : decode cX8_timesSeen 12 = .ok (.goto 9, 3) := by decide +kernel
theorem dX8_timesSeen_15 : decode cX8_timesSeen 15 = .ok (.aload_n 0, 1) := by decide +kernel
theorem dX8_timesSeen_16 : decode cX8_timesSeen 16 = .ok (.getfield 13, 3) := by decide +kernel
theorem dX8_timesSeen_19 : decode cX8_timesSeen 19 = .ok (.iload_n 3, 1) := by decide +kernel
theorem dX8_timesSeen_20 : decode cX8_timesSeen 20 = .ok (.iaload, 1) := by decide +kernel
theorem dX8_timesSeen_21 : decode cX8_timesSeen 21 = .ok (.ireturn, 1) := by decide +kernel
theorem dX8_seenAt_0 : decode cX8_seenAt 0 = .ok (.iload_n 0, 1) := by decide +kernel
theorem dX8_seenAt_1 : decode cX8_seenAt 1 = .ok (.iconst 3, 1) := by decide +kernel
theorem dX8_seenAt_2 : decode cX8_seenAt 2 = .ok (.bipush 6, 2) := by decide +kernel
theorem dX8_seenAt_4 : decode cX8_seenAt 4 = .ok (.invokestatic 109, 3) := by decide +kernel
theorem dX8_seenAt_7 : decode cX8_seenAt 7 = .ok (.ifCond .eq 13, 3) := by decide +kernel
theorem dX8_seenAt_10 : decode cX8_seenAt 10 = .ok (.iload_n 1, 1) := by decide +kernel
theorem dX8_seenAt_11 : decode cX8_seenAt 11 = .ok (.iconst 0, 1) := by decide +kernel
theorem dX8_seenAt_12 : decode cX8_seenAt 12 = .ok (.bipush 29, 2) := by decide +kernel
theorem dX8_seenAt_14 : decode cX8_seenAt 14 = .ok (.invokestatic 109, 3) := by decide +kernel
theorem dX8_seenAt_17 : decode cX8_seenAt 17 = .ok (.ifCond .ne 5, 3) := by decide +kernel
theorem dX8_seenAt_20 : decode cX8_seenAt 20 = .ok (.iconst (-1), 1) := by decide +kernel
theorem dX8_seenAt_21 : decode cX8_seenAt 21 = .ok (.ireturn, 1) := by decide +kernel
theorem dX8_seenAt_22 : decode cX8_seenAt 22 = .ok (.iload_n 0, 1) := by decide +kernel
theorem dX8_seenAt_23 : decode cX8_seenAt 23 = .ok (.iconst 3, 1) := by decide +kernel
theorem dX8_seenAt_24 : decode cX8_seenAt 24 = .ok (.isub, 1) := by decide +kernel
theorem dX8_seenAt_25 : decode cX8_seenAt 25 = .ok (.bipush 30, 2) := by decide +kernel
theorem dX8_seenAt_27 : decode cX8_seenAt 27 = .ok (.imul, 1) := by decide +kernel
theorem dX8_seenAt_28 : decode cX8_seenAt 28 = .ok (.iload_n 1, 1) := by decide +kernel
theorem dX8_seenAt_29 : decode cX8_seenAt 29 = .ok (.iadd, 1) := by decide +kernel
theorem dX8_seenAt_30 : decode cX8_seenAt 30 = .ok (.ireturn, 1) := by decide +kernel
theorem dX8_takeTime_0 : decode cX8_takeTime 0 = .ok (.aload_n 0, 1) := by decide +kernel
theorem dX8_takeTime_1 : decode cX8_takeTime 1 = .ok (.getfield 17, 3) := by decide +kernel
theorem dX8_takeTime_4 : decode cX8_takeTime 4 = .ok (.getfield 113, 3) := by decide +kernel
theorem dX8_takeTime_7 : decode cX8_takeTime 7 = .ok (.istore_n 2, 1) := by decide +kernel
theorem dX8_takeTime_8 : decode cX8_takeTime 8 = .ok (.aload_n 1, 1) := by decide +kernel
theorem dX8_takeTime_9 : decode cX8_takeTime 9 = .ok (.getfield 65, 3) := by decide +kernel
theorem dX8_takeTime_12 : decode cX8_takeTime 12 = .ok (.bipush 14, 2) := by decide +kernel
theorem dX8_takeTime_14 : decode cX8_takeTime 14 = .ok (.iload_n 2, 1) := by decide +kernel
theorem dX8_takeTime_15 : decode cX8_takeTime 15 = .ok (.i2l, 1) := by decide +kernel
theorem dX8_takeTime_16 : decode cX8_takeTime 16 = .ok (.lastore, 1) := by decide +kernel
theorem dX8_takeTime_17 : decode cX8_takeTime 17 = .ok (.aload_n 1, 1) := by decide +kernel
theorem dX8_takeTime_18 : decode cX8_takeTime 18 = .ok (.getfield 79, 3) := by decide +kernel
theorem dX8_takeTime_21 : decode cX8_takeTime 21 = .ok (.ifCond .eq 10, 3) := by decide +kernel
theorem dX8_takeTime_24 : decode cX8_takeTime 24 = .ok (.aload_n 1, 1) := by decide +kernel
theorem dX8_takeTime_25 : decode cX8_takeTime 25 = .ok (.getfield 90, 3) := by decide +kernel
theorem dX8_takeTime_28 : decode cX8_takeTime 28 = .ok (.ifCond .ne 4, 3) := by decide +kernel
theorem dX8_takeTime_31 : decode cX8_takeTime 31 = .ok (.return_, 1) := by decide +kernel
theorem dX8_takeTime_32 : decode cX8_takeTime 32 = .ok (.aload_n 1, 1) := by decide +kernel
theorem dX8_takeTime_33 : decode cX8_takeTime 33 = .ok (.iconst 0, 1) := by decide +kernel
theorem dX8_takeTime_34 : decode cX8_takeTime 34 = .ok (.aload_n 1, 1) := by decide +kernel
theorem dX8_takeTime_35 : decode cX8_takeTime 35 = .ok (.getfield 93, 3) := by decide +kernel
theorem dX8_takeTime_38 : decode cX8_takeTime 38 = .ok (.aload_n 1, 1) := by decide +kernel
theorem dX8_takeTime_39 : decode cX8_takeTime 39 = .ok (.getfield 87, 3) := by decide +kernel
theorem dX8_takeTime_42 : decode cX8_takeTime 42 = .ok (.isub, 1) := by decide +kernel
theorem dX8_takeTime_43 : decode cX8_takeTime 43 = .ok (.aload_n 0, 1) := by decide +kernel
theorem dX8_takeTime_44 : decode cX8_takeTime 44 = .ok (.getfield 30, 3) := by decide +kernel
theorem dX8_takeTime_47 : decode cX8_takeTime 47 = .ok (.isub, 1) := by decide +kernel
theorem dX8_takeTime_48 : decode cX8_takeTime 48 = .ok (.invokestatic 116, 3) := by decide +kernel
theorem dX8_takeTime_51 : decode cX8_takeTime 51 = .ok (.putfield 121, 3) := by decide +kernel
theorem dX8_takeTime_54 : decode cX8_takeTime 54 = .ok (.aload_n 1, 1) := by decide +kernel
theorem dX8_takeTime_55 : decode cX8_takeTime 55 = .ok (.getfield 65, 3) := by decide +kernel
theorem dX8_takeTime_58 : decode cX8_takeTime 58 = .ok (.bipush 12, 2) := by decide +kernel
theorem dX8_takeTime_60 : decode cX8_takeTime 60 = .ok (.iconst 0, 1) := by decide +kernel
theorem dX8_takeTime_61 : decode cX8_takeTime 61 = .ok (.aload_n 1, 1) := by decide +kernel
theorem dX8_takeTime_62 : decode cX8_takeTime 62 = .ok (.getfield 121, 3) := by decide +kernel
theorem dX8_takeTime_65 : decode cX8_takeTime 65 = .ok (.iload_n 2, 1) := by decide +kernel
theorem dX8_takeTime_66 : decode cX8_takeTime 66 = .ok (.isub, 1) := by decide +kernel
theorem dX8_takeTime_67 : decode cX8_takeTime 67 = .ok (.invokestatic 116, 3) := by decide +kernel
theorem dX8_takeTime_70 : decode cX8_takeTime 70 = .ok (.i2l, 1) := by decide +kernel
theorem dX8_takeTime_71 : decode cX8_takeTime 71 = .ok (.lastore, 1) := by decide +kernel
theorem dX8_takeTime_72 : decode cX8_takeTime 72 = .ok (.aload_n 1, 1) := by decide +kernel
theorem dX8_takeTime_73 : decode cX8_takeTime 73 = .ok (.getfield 65, 3) := by decide +kernel
theorem dX8_takeTime_76 : decode cX8_takeTime 76 = .ok (.bipush 13, 2) := by decide +kernel
theorem dX8_takeTime_78 : decode cX8_takeTime 78 = .ok (.iconst 0, 1) := by decide +kernel
