theorem dX8_takeTime_79 : decode cX8_takeTime 79 = .ok (.iload_n 2, 1) := by decide +kernel
theorem dX8_takeTime_80 : decode cX8_takeTime 80 = .ok (.aload_n 1, 1) := by decide +kernel
theorem dX8_takeTime_81 : decode cX8_takeTime 81 = .ok (.getfield 121, 3) := by decide +kernel
theorem dX8_takeTime_84 : decode cX8_takeTime 84 = .ok (.isub, 1) := by decide +kernel
theorem dX8_takeTime_85 : decode cX8_takeTime 85 = .ok (.invokestatic 116, 3) := by decide +kernel
theorem dX8_takeTime_88 : decode cX8_takeTime 88 = .ok (.i2l, 1) := by decide +kernel
theorem dX8_takeTime_89 : decode cX8_takeTime 89 = .ok (.lastore, 1) := by decide +kernel
theorem dX8_takeTime_90 : decode cX8_takeTime 90 = .ok (.return_, 1) := by decide +kernel
theorem dX8_takeFence_0 : decode cX8_takeFence 0 = .ok (.aload_n 0, 1) := by decide +kernel
theorem dX8_takeFence_1 : decode cX8_takeFence 1 = .ok (.iconst 3, 1) := by decide +kernel
theorem dX8_takeFence_2 : decode cX8_takeFence 2 = .ok (.iload_n 1, 1) := by decide +kernel
theorem dX8_takeFence_3 : decode cX8_takeFence 3 = .ok (.invokevirtual 124, 3) := by decide +kernel
theorem dX8_takeFence_6 : decode cX8_takeFence 6 = .ok (.istore_n 3, 1) := by decide +kernel
theorem dX8_takeFence_7 : decode cX8_takeFence 7 = .ok (.aload_n 0, 1) := by decide +kernel
theorem dX8_takeFence_8 : decode cX8_takeFence 8 = .ok (.iconst 4, 1) := by decide +kernel
theorem dX8_takeFence_9 : decode cX8_takeFence 9 = .ok (.iload_n 1, 1) := by decide +kernel
theorem dX8_takeFence_10 : decode cX8_takeFence 10 = .ok (.invokevirtual 124, 3) := by decide +kernel
theorem dX8_takeFence_13 : decode cX8_takeFence 13 = .ok (.istore 4, 2) := by decide +kernel
theorem dX8_takeFence_15 : decode cX8_takeFence 15 = .ok (.aload_n 0, 1) := by decide +kernel
theorem dX8_takeFence_16 : decode cX8_takeFence 16 = .ok (.iconst 5, 1) := by decide +kernel
theorem dX8_takeFence_17 : decode cX8_takeFence 17 = .ok (.iload_n 1, 1) := by decide +kernel
theorem dX8_takeFence_18 : decode cX8_takeFence 18 = .ok (.invokevirtual 124, 3) := by decide +kernel
theorem dX8_takeFence_21 : decode cX8_takeFence 21 = .ok (.istore 5, 2) := by decide +kernel
theorem dX8_takeFence_23 : decode cX8_takeFence 23 = .ok (.aload_n 0, 1) := by decide +kernel
theorem dX8_takeFence_24 : decode cX8_takeFence 24 = .ok (.bipush 6, 2) := by decide +kernel
theorem dX8_takeFence_26 : decode cX8_takeFence 26 = .ok (.iload_n 1, 1) := by decide +kernel
theorem dX8_takeFence_27 : decode cX8_takeFence 27 = .ok (.invokevirtual 124, 3) := by decide +kernel
theorem dX8_takeFence_30 : decode cX8_takeFence 30 = .ok (.istore 6, 2) := by decide +kernel
theorem dX8_takeFence_32 : decode cX8_takeFence 32 = .ok (.aload_n 2, 1) := by decide +kernel
theorem dX8_takeFence_33 : decode cX8_takeFence 33 = .ok (.iconst 2, 1) := by decide +kernel
theorem dX8_takeFence_34 : decode cX8_takeFence 34 = .ok (.dup2, 1) := by decide +kernel
theorem dX8_takeFence_35 : decode cX8_takeFence 35 = .ok (.laload, 1) := by decide +kernel
theorem dX8_takeFence_36 : decode cX8_takeFence 36 = .ok (.iload_n 3, 1) := by decide +kernel
theorem dX8_takeFence_37 : decode cX8_takeFence 37 = .ok (.i2l, 1) := by decide +kernel
theorem dX8_takeFence_38 : decode cX8_takeFence 38 = .ok (.ladd, 1) := by decide +kernel
theorem dX8_takeFence_39 : decode cX8_takeFence 39 = .ok (.lastore, 1) := by decide +kernel
theorem dX8_takeFence_40 : decode cX8_takeFence 40 = .ok (.aload_n 2, 1) := by decide +kernel
theorem dX8_takeFence_41 : decode cX8_takeFence 41 = .ok (.iconst 3, 1) := by decide +kernel
theorem dX8_takeFence_42 : decode cX8_takeFence 42 = .ok (.dup2, 1) := by decide +kernel
theorem dX8_takeFence_43 : decode cX8_takeFence 43 = .ok (.laload, 1) := by decide +kernel
theorem dX8_takeFence_44 : decode cX8_takeFence 44 = .ok (.iload 4, 2) := by decide +kernel
theorem dX8_takeFence_46 : decode cX8_takeFence 46 = .ok (.i2l, 1) := by decide +kernel
theorem dX8_takeFence_47 : decode cX8_takeFence 47 = .ok (.ladd, 1) := by decide +kernel
theorem dX8_takeFence_48 : decode cX8_takeFence 48 = .ok (.lastore, 1) := by decide +kernel
theorem dX8_takeFence_49 : decode cX8_takeFence 49 = .ok (.aload_n 2, 1) := by decide +kernel
theorem dX8_takeFence_50 : decode cX8_takeFence 50 = .ok (.iconst 4, 1) := by decide +kernel
theorem dX8_takeFence_51 : decode cX8_takeFence 51 = .ok (.dup2, 1) := by decide +kernel
theorem dX8_takeFence_52 : decode cX8_takeFence 52 = .ok (.laload, 1) := by decide +kernel
theorem dX8_takeFence_53 : decode cX8_takeFence 53 = .ok (.iload 5, 2) := by decide +kernel
theorem dX8_takeFence_55 : decode cX8_takeFence 55 = .ok (.i2l, 1) := by decide +kernel
theorem dX8_takeFence_56 : decode cX8_takeFence 56 = .ok (.ladd, 1) := by decide +kernel
theorem dX8_takeFence_57 : decode cX8_takeFence 57 = .ok (.lastore, 1) := by decide +kernel
theorem dX8_takeFence_58 : decode cX8_takeFence 58 = .ok (.aload_n 2, 1) := by decide +kernel
theorem dX8_takeFence_59 : decode cX8_takeFence 59 = .ok (.iconst 5, 1) := by decide +kernel
theorem dX8_takeFence_60 : decode cX8_takeFence 60 = .ok (.dup2, 1) := by decide +kernel
theorem dX8_takeFence_61 : decode cX8_takeFence 61 = .ok (.laload, 1) := by decide +kernel
theorem dX8_takeFence_62 : decode cX8_takeFence 62 = .ok (.iload_n 3, 1) := by decide +kernel
theorem dX8_takeFence_63 : decode cX8_takeFence 63 = .ok (.iconst 1, 1) := by decide +kernel
theorem dX8_takeFence_64 : decode cX8_takeFence 64 = .ok (.if_icmp .lt 7, 3) := by decide +kernel
theorem dX8_takeFence_67 : decode cX8_takeFence 67 = .ok (.lconst 1, 1) := by decide +kernel
theorem dX8_takeFence_68 : decode cX8_takeFence 68 = .ok (.goto 4, 3) := by decide +kernel
theorem dX8_takeFence_71 : decode cX8_takeFence 71 = .ok (.lconst 0, 1) := by decide +kernel
theorem dX8_takeFence_72 : decode cX8_takeFence 72 = .ok (.ladd, 1) := by decide +kernel
theorem dX8_takeFence_73 : decode cX8_takeFence 73 = .ok (.lastore, 1) := by decide +kernel
theorem dX8_takeFence_74 : decode cX8_takeFence 74 = .ok (.aload_n 2, 1) := by decide +kernel
theorem dX8_takeFence_75 : decode cX8_takeFence 75 = .ok (.bipush 6, 2) := by decide +kernel
theorem dX8_takeFence_77 : decode cX8_takeFence 77 = .ok (.dup2, 1) := by decide +kernel
theorem dX8_takeFence_78 : decode cX8_takeFence 78 = .ok (.laload, 1) := by decide +kernel
theorem dX8_takeFence_79 : decode cX8_takeFence 79 = .ok (.iload_n 3, 1) := by decide +kernel
theorem dX8_takeFence_80 : decode cX8_takeFence 80 = .ok (.iconst 2, 1) := by decide +kernel
theorem dX8_takeFence_81 : decode cX8_takeFence 81 = .ok (.if_icmp .lt 7, 3) := by decide +kernel
theorem dX8_takeFence_84 : decode cX8_takeFence 84 = .ok (.lconst 1, 1) := by decide +kernel
theorem dX8_takeFence_85 : decode cX8_takeFence 85 = .ok (.goto 4, 3) := by decide +kernel
theorem dX8_takeFence_88 : decode cX8_takeFence 88 = .ok (.lconst 0, 1) := by decide +kernel
theorem dX8_takeFence_89 : decode cX8_takeFence 89 = .ok (.ladd, 1) := by decide +kernel
theorem dX8_takeFence_90 : decode cX8_takeFence 90 = .ok (.lastore, 1) := by decide +kernel
theorem dX8_takeFence_91 : decode cX8_takeFence 91 = .ok (.aload_n 2, 1) := by decide +kernel
theorem dX8_takeFence_92 : decode cX8_takeFence 92 = .ok (.bipush 7, 2) := by decide +kernel
theorem dX8_takeFence_94 : decode cX8_takeFence 94 = .ok (.dup2, 1) := by decide +kernel
theorem dX8_takeFence_95 : decode cX8_takeFence 95 = .ok (.laload, 1) := by decide +kernel
theorem dX8_takeFence_96 : decode cX8_takeFence 96 = .ok (.iload_n 3, 1) := by decide +kernel
theorem dX8_takeFence_97 : decode cX8_takeFence 97 = .ok (.iconst 3, 1) := by decide +kernel
theorem dX8_takeFence_98 : decode cX8_takeFence 98 = .ok (.if_icmp .lt 7, 3) := by decide +kernel
theorem dX8_takeFence_101 : decode cX8_takeFence 101 = .ok (.lconst 1, 1) := by decide +kernel
theorem dX8_takeFence_102 : decode cX8_takeFence 102 = .ok (.goto 4, 3) := by decide +kernel
theorem dX8_takeFence_105 : decode cX8_takeFence 105 = .ok (.lconst 0, 1) := by decide +kernel
theorem dX8_takeFence_106 : decode cX8_takeFence 106 = .ok (.ladd, 1) := by decide +kernel
theorem dX8_takeFence_107 : decode cX8_takeFence 107 = .ok (.lastore, 1) := by decide +kernel
theorem dX8_takeFence_108 : decode cX8_takeFence 108 = .ok (.aload_n 2, 1) := by decide +kernel
theorem dX8_takeFence_109 : decode cX8_takeFence 109 = .ok (.bipush 11, 2) := by decide +kernel
theorem dX8_takeFence_111 : decode cX8_takeFence 111 = .ok (.dup2, 1) := by decide +kernel
theorem dX8_takeFence_112 : decode cX8_takeFence 112 = .ok (.laload, 1) := by decide +kernel
theorem dX8_takeFence_113 : decode cX8_takeFence 113 = .ok (.iload_n 3, 1) := by decide +kernel
theorem dX8_takeFence_114 : decode cX8_takeFence 114 = .ok (.iload 4, 2) := by decide +kernel
theorem dX8_takeFence_116 : decode cX8_takeFence 116 = .ok (.iadd, 1) := by decide +kernel
theorem dX8_takeFence_117 : decode cX8_takeFence 117 = .ok (.iload 5, 2) := by decide +kernel
theorem dX8_takeFence_119 : decode cX8_takeFence 119 = .ok (.iadd, 1) := by decide +kernel
theorem dX8_takeFence_120 : decode cX8_takeFence 120 = .ok (.iload 6, 2) := by decide +kernel
theorem dX8_takeFence_122 : decode cX8_takeFence 122 = .ok (.iadd, 1) := by decide +kernel
theorem dX8_takeFence_123 : decode cX8_takeFence 123 = .ok (.ifCond .ne 7, 3) := by decide +kernel
theorem dX8_takeFence_126 : decode cX8_takeFence 126 = .ok (.lconst 1, 1) := by decide +kernel
theorem dX8_takeFence_127 : decode cX8_takeFence 127 = .ok (.goto 4, 3) := by decide +kernel
theorem dX8_takeFence_130 : decode cX8_takeFence 130 = .ok (.lconst 0, 1) := by decide +kernel
theorem dX8_takeFence_131 : decode cX8_takeFence 131 = .ok (.ladd, 1) := by decide +kernel
theorem dX8_takeFence_132 : decode cX8_takeFence 132 = .ok (.lastore, 1) := by decide +kernel
theorem dX8_takeFence_133 : decode cX8_takeFence 133 = .ok (.return_, 1) := by decide +kernel
theorem dX9_init_0 : decode cX9_init 0 = .ok (.aload_n 0, 1) := by decide +kernel
theorem dX9_init_1 : decode cX9_init 1 = .ok (.invokespecial 1, 3) := by decide +kernel
theorem dX9_init_4 : decode cX9_init 4 = .ok (.aload_n 0, 1) := by decide +kernel
theorem dX9_init_5 : decode cX9_init 5 = .ok (.sipush 600, 3) := by decide +kernel
theorem dX9_init_8 : decode cX9_init 8 = .ok (.newarray .int, 2) := by decide +kernel
theorem dX9_init_10 : decode cX9_init 10 = .ok (.putfield 9, 3) := by decide +kernel
theorem dX9_init_13 : decode cX9_init 13 = .ok (.return_, 1) := by decide +kernel
theorem dX9_hasRoom_0 : decode cX9_hasRoom 0 = .ok (.aload_n 0, 1) := by decide +kernel
theorem dX9_hasRoom_1 : decode cX9_hasRoom 1 = .ok (.getfield 13, 3) := by decide +kernel
theorem dX9_hasRoom_4 : decode cX9_hasRoom 4 = .ok (.sipush 580, 3) := by decide +kernel
theorem dX9_hasRoom_7 : decode cX9_hasRoom 7 = .ok (.if_icmp .gt 7, 3) := by decide +kernel
theorem dX9_hasRoom_10 : decode cX9_hasRoom 10 = .ok (.iconst 1, 1) := by decide +kernel
theorem dX9_hasRoom_11 : decode cX9_hasRoom 11 = .ok (.goto 4, 3) := by decide +kernel
theorem dX9_hasRoom_14 : decode cX9_hasRoom 14 = .ok (.iconst 0, 1) := by decide +kernel
theorem dX9_hasRoom_15 : decode cX9_hasRoom 15 = .ok (.ireturn, 1) := by decide +kernel
theorem dX9_append_0 : decode cX9_append 0 = .ok (.bipush 24, 2) := by decide +kernel
theorem dX9_append_2 : decode cX9_append 2 = .ok (.istore_n 2, 1) := by decide +kernel
theorem dX9_append_3 : decode cX9_append 3 = .ok (.iload_n 2, 1) := by decide +kernel
theorem dX9_append_4 : decode cX9_append 4 = .ok (.ifCond .lt 45, 3) := by decide +kernel
theorem dX9_append_7 : decode cX9_append 7 = .ok (.aload_n 0, 1) := by decide +kernel
theorem dX9_append_8 : decode cX9_append 8 = .ok (.getfield 13, 3) := by decide +kernel
theorem dX9_append_11 : decode cX9_append 11 = .ok (.sipush 600, 3) := by decide +kernel
theorem dX9_append_14 : decode cX9_append 14 = .ok (.if_icmp .ge 35, 3) := by decide +kernel
theorem dX9_append_17 : decode cX9_append 17 = .ok (.aload_n 0, 1) := by decide +kernel
theorem dX9_append_18 : decode cX9_append 18 = .ok (.getfield 9, 3) := by decide +kernel
theorem dX9_append_21 : decode cX9_append 21 = .ok (.aload_n 0, 1) := by decide +kernel
theorem dX9_append_22 : decode cX9_append 22 = .ok (.getfield 13, 3) := by decide +kernel
theorem dX9_append_25 : decode cX9_append 25 = .ok (.iload_n 1, 1) := by decide +kernel
theorem dX9_append_26 : decode cX9_append 26 = .ok (.iload_n 2, 1) := by decide +kernel
theorem dX9_append_27 : decode cX9_append 27 = .ok (.iushr, 1) := by decide +kernel
theorem dX9_append_28 : decode cX9_append 28 = .ok (.sipush 255, 3) := by decide +kernel
theorem dX9_append_31 : decode cX9_append 31 = .ok (.iand, 1) := by decide +kernel
theorem dX9_append_32 : decode cX9_append 32 = .ok (.iastore, 1) := by decide +kernel
theorem dX9_append_33 : decode cX9_append 33 = .ok (.aload_n 0, 1) := by decide +kernel
theorem dX9_append_34 : decode cX9_append 34 = .ok (.dup, 1) := by decide +kernel
theorem dX9_append_35 : decode cX9_append 35 = .ok (.getfield 13, 3) := by decide +kernel
theorem dX9_append_38 : decode cX9_append 38 = .ok (.iconst 1, 1) := by decide +kernel
theorem dX9_append_39 : decode cX9_append 39 = .ok (.iadd, 1) := by decide +kernel
theorem dX9_append_40 : decode cX9_append 40 = .ok (.putfield 13, 3) := by decide +kernel
theorem dX9_append_43 : decode cX9_append 43 = .ok (.iinc 2 (-8), 3) := by decide +kernel
theorem dX9_append_46 : decode cX9_append 46 = .ok (.goto (-43), 3) := by decide +kernel
theorem dX9_append_49 : decode cX9_append 49 = .ok (.return_, 1) := by decide +kernel
theorem dX9_cut_0 : decode cX9_cut 0 = .ok (.iload_n 1, 1) := by decide +kernel
theorem dX9_cut_1 : decode cX9_cut 1 = .ok (.iconst 0, 1) := by decide +kernel
theorem dX9_cut_2 : decode cX9_cut 2 = .ok (.aload_n 0, 1) := by decide +kernel
theorem dX9_cut_3 : decode cX9_cut 3 = .ok (.getfield 13, 3) := by decide +kernel
theorem dX9_cut_6 : decode cX9_cut 6 = .ok (.invokestatic 17, 3) := by decide +kernel
theorem dX9_cut_9 : decode cX9_cut 9 = .ok (.ifCond .ne 5, 3) := by decide +kernel
theorem dX9_cut_12 : decode cX9_cut 12 = .ok (.iconst 0, 1) := by decide +kernel
theorem dX9_cut_13 : decode cX9_cut 13 = .ok (.ireturn, 1) := by decide +kernel
theorem dX9_cut_14 : decode cX9_cut 14 = .ok (.aload_n 0, 1) := by decide +kernel
theorem dX9_cut_15 : decode cX9_cut 15 = .ok (.iload_n 1, 1) := by decide +kernel
theorem dX9_cut_16 : decode cX9_cut 16 = .ok (.putfield 13, 3) := by decide +kernel
theorem dX9_cut_19 : decode cX9_cut 19 = .ok (.iconst 1, 1) := by decide +kernel
theorem dX9_cut_20 : decode cX9_cut 20 = .ok (.ireturn, 1) := by decide +kernel
theorem dX10_init_0 : decode cX10_init 0 = .ok (.aload_n 0, 1) := by decide +kernel
theorem dX10_init_1 : decode cX10_init 1 = .ok (.invokespecial 1, 3) := by decide +kernel
theorem dX10_init_4 : decode cX10_init 4 = .ok (.aload_n 0, 1) := by decide +kernel
theorem dX10_init_5 : decode cX10_init 5 = .ok (.new 7, 3) := by decide +kernel
theorem dX10_init_8 : decode cX10_init 8 = .ok (.dup, 1) := by decide +kernel
theorem dX10_init_9 : decode cX10_init 9 = .ok (.invokespecial 9, 3) := by decide +kernel
theorem dX10_init_12 : decode cX10_init 12 = .ok (.putfield 10, 3) := by decide +kernel
theorem dX10_init_15 : decode cX10_init 15 = .ok (.aload_n 0, 1) := by decide +kernel
theorem dX10_init_16 : decode cX10_init 16 = .ok (.new 16, 3) := by decide +kernel
theorem dX10_init_19 : decode cX10_init 19 = .ok (.dup, 1) := by decide +kernel
theorem dX10_init_20 : decode cX10_init 20 = .ok (.invokespecial 18, 3) := by decide +kernel
theorem dX10_init_23 : decode cX10_init 23 = .ok (.putfield 19, 3) := by decide +kernel
theorem dX10_init_26 : decode cX10_init 26 = .ok (.aload_n 0, 1) := by decide +kernel
theorem dX10_init_27 : decode cX10_init 27 = .ok (.new 23, 3) := by decide +kernel
theorem dX10_init_30 : decode cX10_init 30 = .ok (.dup, 1) := by decide +kernel
theorem dX10_init_31 : decode cX10_init 31 = .ok (.invokespecial 25, 3) := by decide +kernel
theorem dX10_init_34 : decode cX10_init 34 = .ok (.putfield 26, 3) := by decide +kernel
theorem dX10_init_37 : decode cX10_init 37 = .ok (.aload_n 0, 1) := by decide +kernel
theorem dX10_init_38 : decode cX10_init 38 = .ok (.new 30, 3) := by decide +kernel
theorem dX10_init_41 : decode cX10_init 41 = .ok (.dup, 1) := by decide +kernel
theorem dX10_init_42 : decode cX10_init 42 = .ok (.invokespecial 32, 3) := by decide +kernel
theorem dX10_init_45 : decode cX10_init 45 = .ok (.putfield 33, 3) := by decide +kernel
theorem dX10_init_48 : decode cX10_init 48 = .ok (.aload_n 0, 1) := by decide +kernel
theorem dX10_init_49 : decode cX10_init 49 = .ok (.new 37, 3) := by decide +kernel
theorem dX10_init_52 : decode cX10_init 52 = .ok (.dup, 1) := by decide +kernel
theorem dX10_init_53 : decode cX10_init 53 = .ok (.aload_n 0, 1) := by decide +kernel
theorem dX10_init_54 : decode cX10_init 54 = .ok (.getfield 10, 3) := by decide +kernel
theorem dX10_init_57 : decode cX10_init 57 = .ok (.invokespecial 39, 3) := by decide +kernel
theorem dX10_init_60 : decode cX10_init 60 = .ok (.putfield 42, 3) := by decide +kernel
theorem dX10_init_63 : decode cX10_init 63 = .ok (.aload_n 0, 1) := by decide +kernel
theorem dX10_init_64 : decode cX10_init 64 = .ok (.new 46, 3) := by decide +kernel
theorem dX10_init_67 : decode cX10_init 67 = .ok (.dup, 1) := by decide +kernel
theorem dX10_init_68 : decode cX10_init 68 = .ok (.invokespecial 48, 3) := by decide +kernel
theorem dX10_init_71 : decode cX10_init 71 = .ok (.putfield 49, 3) := by decide +kernel
theorem dX10_init_74 : decode cX10_init 74 = .ok (.aload_n 0, 1) := by decide +kernel
theorem dX10_init_75 : decode cX10_init 75 = .ok (.new 46, 3) := by decide +kernel
theorem dX10_init_78 : decode cX10_init 78 = .ok (.dup, 1) := by decide +kernel
theorem dX10_init_79 : decode cX10_init 79 = .ok (.invokespecial 48, 3) := by decide +kernel
theorem dX10_init_82 : decode cX10_init 82 = .ok (.putfield 53, 3) := by decide +kernel
theorem dX10_init_85 : decode cX10_init 85 = .ok (.aload_n 0, 1) := by decide +kernel
theorem dX10_init_86 : decode cX10_init 86 = .ok (.new 56, 3) := by decide +kernel
theorem dX10_init_89 : decode cX10_init 89 = .ok (.dup, 1) := by decide +kernel
theorem dX10_init_90 : decode cX10_init 90 = .ok (.aload_n 0, 1) := by decide +kernel
theorem dX10_init_91 : decode cX10_init 91 = .ok (.getfield 19, 3) := by decide +kernel
theorem dX10_init_94 : decode cX10_init 94 = .ok (.aload_n 0, 1) := by decide +kernel
theorem dX10_init_95 : decode cX10_init 95 = .ok (.getfield 26, 3) := by decide +kernel
theorem dX10_init_98 : decode cX10_init 98 = .ok (.aload_n 0, 1) := by decide +kernel
theorem dX10_init_99 : decode cX10_init 99 = .ok (.getfield 33, 3) := by decide +kernel
theorem dX10_init_102 : decode cX10_init 102 = .ok (.aload_n 0, 1) := by decide +kernel
theorem dX10_init_103 : decode cX10_init 103 = .ok (.getfield 49, 3) := by decide +kernel
theorem dX10_init_106 : decode cX10_init 106 = .ok (.invokespecial 58, 3) := by decide +kernel
theorem dX10_init_109 : decode cX10_init 109 = .ok (.putfield 61, 3) := by decide +kernel
theorem dX10_init_112 : decode cX10_init 112 = .ok (.aload_n 0, 1) := by decide +kernel
theorem dX10_init_113 : decode cX10_init 113 = .ok (.iconst (-1), 1) := by decide +kernel
theorem dX10_init_114 : decode cX10_init 114 = .ok (.putfield 65, 3) := by decide +kernel
theorem dX10_init_117 : decode cX10_init 117 = .ok (.return_, 1) := by decide +kernel
theorem dX10_feed_0 : decode cX10_feed 0 = .ok (.aload_n 0, 1) := by decide +kernel
theorem dX10_feed_1 : decode cX10_feed 1 = .ok (.getfield 10, 3) := by decide +kernel
theorem dX10_feed_4 : decode cX10_feed 4 = .ok (.invokevirtual 69, 3) := by decide +kernel
theorem dX10_feed_7 : decode cX10_feed 7 = .ok (.ifCond .ne 5, 3) := by decide +kernel
theorem dX10_feed_10 : decode cX10_feed 10 = .ok (.iconst (-1), 1) := by decide +kernel
theorem dX10_feed_11 : decode cX10_feed 11 = .ok (.ireturn, 1) := by decide +kernel
theorem dX10_feed_12 : decode cX10_feed 12 = .ok (.aload_n 0, 1) := by decide +kernel
theorem dX10_feed_13 : decode cX10_feed 13 = .ok (.getfield 10, 3) := by decide +kernel
theorem dX10_feed_16 : decode cX10_feed 16 = .ok (.iload_n 1, 1) := by decide +kernel
theorem dX10_feed_17 : decode cX10_feed 17 = .ok (.invokevirtual 73, 3) := by decide +kernel
theorem dX10_feed_20 : decode cX10_feed 20 = .ok (.aload_n 0, 1) := by decide +kernel
theorem dX10_feed_21 : decode cX10_feed 21 = .ok (.getfield 10, 3) := by decide +kernel
theorem dX10_feed_24 : decode cX10_feed 24 = .ok (.iload_n 2, 1) := by decide +kernel
theorem dX10_feed_25 : decode cX10_feed 25 = .ok (.invokevirtual 73, 3) := by decide +kernel
theorem dX10_feed_28 : decode cX10_feed 28 = .ok (.aload_n 0, 1) := by decide +kernel
theorem dX10_feed_29 : decode cX10_feed 29 = .ok (.getfield 10, 3) := by decide +kernel
theorem dX10_feed_32 : decode cX10_feed 32 = .ok (.iload_n 3, 1) := by decide +kernel
theorem dX10_feed_33 : decode cX10_feed 33 = .ok (.invokevirtual 73, 3) := by decide +kernel
theorem dX10_feed_36 : decode cX10_feed 36 = .ok (.aload_n 0, 1) := by decide +kernel
theorem dX10_feed_37 : decode cX10_feed 37 = .ok (.getfield 10, 3) := by decide +kernel
theorem dX10_feed_40 : decode cX10_feed 40 = .ok (.iload 4, 2) := by decide +kernel
theorem dX10_feed_42 : decode cX10_feed 42 = .ok (.invokevirtual 73, 3) := by decide +kernel
theorem dX10_feed_45 : decode cX10_feed 45 = .ok (.aload_n 0, 1) := by decide +kernel
theorem dX10_feed_46 : decode cX10_feed 46 = .ok (.getfield 10, 3) := by decide +kernel
theorem dX10_feed_49 : decode cX10_feed 49 = .ok (.iload 5, 2) := by decide +kernel
theorem dX10_feed_51 : decode cX10_feed 51 = .ok (.invokevirtual 73, 3) := by decide +kernel
theorem dX10_feed_54 : decode cX10_feed 54 = .ok (.aload_n 0, 1) := by decide +kernel
theorem dX10_feed_55 : decode cX10_feed 55 = .ok (.getfield 10, 3) := by decide +kernel
theorem dX10_feed_58 : decode cX10_feed 58 = .ok (.getfield 77, 3) := by decide +kernel
theorem dX10_feed_61 : decode cX10_feed 61 = .ok (.ireturn, 1) := by decide +kernel
theorem dX10_end_0 : decode cX10_end 0 = .ok (.aload_n 0, 1) := by decide +kernel
theorem dX10_end_1 : decode cX10_end 1 = .ok (.getfield 10, 3) := by decide +kernel
theorem dX10_end_4 : decode cX10_end 4 = .ok (.iload_n 1, 1) := by decide +kernel
theorem dX10_end_5 : decode cX10_end 5 = .ok (.invokevirtual 80, 3) := by decide +kernel
theorem dX10_end_8 : decode cX10_end 8 = .ok (.ireturn, 1) := by decide +kernel
theorem dX10_rider_0 : decode cX10_rider 0 = .ok (.aload_n 0, 1) := by decide +kernel
theorem dX10_rider_1 : decode cX10_rider 1 = .ok (.getfield 19, 3) := by decide +kernel
theorem dX10_rider_4 : decode cX10_rider 4 = .ok (.iload_n 1, 1) := by decide +kernel
theorem dX10_rider_5 : decode cX10_rider 5 = .ok (.invokevirtual 84, 3) := by decide +kernel
theorem dX10_rider_8 : decode cX10_rider 8 = .ok (.ireturn, 1) := by decide +kernel
theorem dX10_fence_0 : decode cX10_fence 0 = .ok (.aload_n 0, 1) := by decide +kernel
theorem dX10_fence_1 : decode cX10_fence 1 = .ok (.getfield 26, 3) := by decide +kernel
theorem dX10_fence_4 : decode cX10_fence 4 = .ok (.iload_n 1, 1) := by decide +kernel
theorem dX10_fence_5 : decode cX10_fence 5 = .ok (.invokevirtual 88, 3) := by decide +kernel
theorem dX10_fence_8 : decode cX10_fence 8 = .ok (.istore_n 2, 1) := by decide +kernel
theorem dX10_fence_9 : decode cX10_fence 9 = .ok (.aload_n 0, 1) := by decide +kernel
theorem dX10_fence_10 : decode cX10_fence 10 = .ok (.getfield 61, 3) := by decide +kernel
theorem dX10_fence_13 : decode cX10_fence 13 = .ok (.invokevirtual 91, 3) := by decide +kernel
theorem dX10_fence_16 : decode cX10_fence 16 = .ok (.iload_n 2, 1) := by decide +kernel
theorem dX10_fence_17 : decode cX10_fence 17 = .ok (.ireturn, 1) := by decide +kernel
theorem dX10_course_0 : decode cX10_course 0 = .ok (.aload_n 0, 1) := by decide +kernel
theorem dX10_course_1 : decode cX10_course 1 = .ok (.getfield 26, 3) := by decide +kernel
theorem dX10_course_4 : decode cX10_course 4 = .ok (.iload_n 1, 1) := by decide +kernel
theorem dX10_course_5 : decode cX10_course 5 = .ok (.iload_n 2, 1) := by decide +kernel
theorem dX10_course_6 : decode cX10_course 6 = .ok (.invokevirtual 94, 3) := by decide +kernel
theorem dX10_course_9 : decode cX10_course 9 = .ok (.istore_n 3, 1) := by decide +kernel
theorem dX10_course_10 : decode cX10_course 10 = .ok (.aload_n 0, 1) := by decide +kernel
theorem dX10_course_11 : decode cX10_course 11 = .ok (.getfield 61, 3) := by decide +kernel
theorem dX10_course_14 : decode cX10_course 14 = .ok (.invokevirtual 91, 3) := by decide +kernel
theorem dX10_course_17 : decode cX10_course 17 = .ok (.iload_n 3, 1) := by decide +kernel
theorem dX10_course_18 : decode cX10_course 18 = .ok (.ireturn, 1) := by decide +kernel
theorem dX10_clock_0 : decode cX10_clock 0 = .ok (.aload_n 0, 1) := by decide +kernel
theorem dX10_clock_1 : decode cX10_clock 1 = .ok (.getfield 26, 3) := by decide +kernel
theorem dX10_clock_4 : decode cX10_clock 4 = .ok (.iload_n 1, 1) := by decide +kernel
theorem dX10_clock_5 : decode cX10_clock 5 = .ok (.iload_n 2, 1) := by decide +kernel
theorem dX10_clock_6 : decode cX10_clock 6 = .ok (.invokevirtual 98, 3) := by decide +kernel
theorem dX10_clock_9 : decode cX10_clock 9 = .ok (.istore_n 3, 1) := by decide +kernel
theorem dX10_clock_10 : decode cX10_clock 10 = .ok (.aload_n 0, 1) := by decide +kernel
theorem dX10_clock_11 : decode cX10_clock 11 = .ok (.getfield 61, 3) := by decide +kernel
theorem dX10_clock_14 : decode cX10_clock 14 = .ok (.invokevirtual 91, 3) := by decide +kernel
theorem dX10_clock_17 : decode cX10_clock 17 = .ok (.iload_n 3, 1) := by decide +kernel
theorem dX10_clock_18 : decode cX10_clock 18 = .ok (.ireturn, 1) := by decide +kernel
theorem dX10_out_0 : decode cX10_out 0 = .ok (.aload_n 0, 1) := by decide +kernel
theorem dX10_out_1 : decode cX10_out 1 = .ok (.getfield 26, 3) := by decide +kernel
theorem dX10_out_4 : decode cX10_out 4 = .ok (.iload_n 1, 1) := by decide +kernel
theorem dX10_out_5 : decode cX10_out 5 = .ok (.iload_n 2, 1) := by decide +kernel
theorem dX10_out_6 : decode cX10_out 6 = .ok (.invokevirtual 102, 3) := by decide +kernel
theorem dX10_out_9 : decode cX10_out 9 = .ok (.istore_n 3, 1) := by decide +kernel
theorem dX10_out_10 : decode cX10_out 10 = .ok (.aload_n 0, 1) := by decide +kernel
theorem dX10_out_11 : decode cX10_out 11 = .ok (.getfield 61, 3) := by decide +kernel
theorem dX10_out_14 : decode cX10_out 14 = .ok (.invokevirtual 91, 3) := by decide +kernel
theorem dX10_out_17 : decode cX10_out 17 = .ok (.iload_n 3, 1) := by decide +kernel
theorem dX10_out_18 : decode cX10_out 18 = .ok (.ireturn, 1) := by decide +kernel
theorem dX10_report_0 : decode cX10_report 0 = .ok (.aload_n 0, 1) := by decide +kernel
theorem dX10_report_1 : decode cX10_report 1 = .ok (.getfield 19, 3) := by decide +kernel
theorem dX10_report_4 : decode cX10_report 4 = .ok (.iload_n 1, 1) := by decide +kernel
theorem dX10_report_5 : decode cX10_report 5 = .ok (.invokevirtual 105, 3) := by decide +kernel
theorem dX10_report_8 : decode cX10_report 8 = .ok (.ifCond .eq 16, 3) := by decide +kernel
theorem dX10_report_11 : decode cX10_report 11 = .ok (.aload_n 0, 1) := by decide +kernel
theorem dX10_report_12 : decode cX10_report 12 = .ok (.iload_n 2, 1) := by decide +kernel
theorem dX10_report_13 : decode cX10_report 13 = .ok (.iload_n 3, 1) := by decide +kernel
theorem dX10_report_14 : decode cX10_report 14 = .ok (.iload 4, 2) := by decide +kernel
theorem dX10_report_16 : decode cX10_report 16 = .ok (.iload 5, 2) := by decide +kernel
theorem dX10_report_18 : decode cX10_report 18 = .ok (.invokevirtual 108, 3) := by decide +kernel
theorem dX10_report_21 : decode cX10_report 21 = .ok (.ifCond .ne 5, 3) := by decide +kernel
theorem dX10_report_24 : decode cX10_report 24 = .ok (.iconst (-1), 1) := by decide +kernel
theorem dX10_report_25 : decode cX10_report 25 = .ok (.ireturn, 1) := by decide +kernel
theorem dX10_report_26 : decode cX10_report 26 = .ok (.aload_n 0, 1) := by decide +kernel
theorem dX10_report_27 : decode cX10_report 27 = .ok (.getfield 33, 3) := by decide +kernel
theorem dX10_report_30 : decode cX10_report 30 = .ok (.iload_n 1, 1) := by decide +kernel
theorem dX10_report_31 : decode cX10_report 31 = .ok (.iload_n 2, 1) := by decide +kernel
theorem dX10_report_32 : decode cX10_report 32 = .ok (.iload_n 3, 1) := by decide +kernel
theorem dX10_report_33 : decode cX10_report 33 = .ok (.iload 4, 2) := by decide +kernel
theorem dX10_report_35 : decode cX10_report 35 = .ok (.iload 5, 2) := by decide +kernel
theorem dX10_report_37 : decode cX10_report 37 = .ok (.invokevirtual 112, 3) := by decide +kernel
theorem dX10_report_40 : decode cX10_report 40 = .ok (.ireturn, 1) := by decide +kernel
theorem dX10_strike_0 : decode cX10_strike 0 = .ok (.aload_n 0, 1) := by decide +kernel
theorem dX10_strike_1 : decode cX10_strike 1 = .ok (.getfield 33, 3) := by decide +kernel
theorem dX10_strike_4 : decode cX10_strike 4 = .ok (.iload_n 1, 1) := by decide +kernel
theorem dX10_strike_5 : decode cX10_strike 5 = .ok (.invokevirtual 116, 3) := by decide +kernel
theorem dX10_strike_8 : decode cX10_strike 8 = .ok (.ireturn, 1) := by decide +kernel
theorem dX10_as_0 : decode cX10_as 0 = .ok (.iload_n 1, 1) := by decide +kernel
theorem dX10_as_1 : decode cX10_as 1 = .ok (.iconst (-1), 1) := by decide +kernel
theorem dX10_as_2 : decode cX10_as 2 = .ok (.aload_n 0, 1) := by decide +kernel
theorem dX10_as_3 : decode cX10_as 3 = .ok (.getfield 33, 3) := by decide +kernel
theorem dX10_as_6 : decode cX10_as 6 = .ok (.getfield 119, 3) := by decide +kernel
theorem dX10_as_9 : decode cX10_as 9 = .ok (.invokestatic 122, 3) := by decide +kernel
theorem dX10_as_12 : decode cX10_as 12 = .ok (.ifCond .ne 5, 3) := by decide +kernel
theorem dX10_as_15 : decode cX10_as 15 = .ok (.iconst 0, 1) := by decide +kernel
theorem dX10_as_16 : decode cX10_as 16 = .ok (.ireturn, 1) := by decide +kernel
theorem dX10_as_17 : decode cX10_as 17 = .ok (.aload_n 0, 1) := by decide +kernel
theorem dX10_as_18 : decode cX10_as 18 = .ok (.iload_n 1, 1) := by decide +kernel
theorem dX10_as_19 : decode cX10_as 19 = .ok (.putfield 65, 3) := by decide +kernel
theorem dX10_as_22 : decode cX10_as 22 = .ok (.iconst 1, 1) := by decide +kernel
theorem dX10_as_23 : decode cX10_as 23 = .ok (.ireturn, 1) := by decide +kernel
theorem dX10_rules_0 : decode cX10_rules 0 = .ok (.aload_n 0, 1) := by decide +kernel
theorem dX10_rules_1 : decode cX10_rules 1 = .ok (.getfield 42, 3) := by decide +kernel
theorem dX10_rules_4 : decode cX10_rules 4 = .ok (.aload_n 0, 1) := by decide +kernel
theorem dX10_rules_5 : decode cX10_rules 5 = .ok (.getfield 53, 3) := by decide +kernel
theorem dX10_rules_8 : decode cX10_rules 8 = .ok (.invokevirtual 126, 3) := by decide +kernel
theorem dX10_rules_11 : decode cX10_rules 11 = .ok (.istore_n 1, 1) := by decide +kernel
theorem dX10_rules_12 : decode cX10_rules 12 = .ok (.aload_n 0, 1) := by decide +kernel
theorem dX10_rules_13 : decode cX10_rules 13 = .ok (.getfield 10, 3) := by decide +kernel
theorem dX10_rules_16 : decode cX10_rules 16 = .ok (.iconst 0, 1) := by decide +kernel
theorem dX10_rules_17 : decode cX10_rules 17 = .ok (.invokevirtual 80, 3) := by decide +kernel
theorem dX10_rules_20 : decode cX10_rules 20 = .ok (.pop, 1) := by decide +kernel
theorem dX10_rules_21 : decode cX10_rules 21 = .ok (.iload_n 1, 1) := by decide +kernel
theorem dX10_rules_22 : decode cX10_rules 22 = .ok (.ifCond .ne 5, 3) := by decide +kernel
theorem dX10_rules_25 : decode cX10_rules 25 = .ok (.iconst (-1), 1) := by decide +kernel
theorem dX10_rules_26 : decode cX10_rules 26 = .ok (.ireturn, 1) := by decide +kernel
theorem dX10_rules_27 : decode cX10_rules 27 = .ok (.aload_n 0, 1) := by decide +kernel
theorem dX10_rules_28 : decode cX10_rules 28 = .ok (.getfield 49, 3) := by decide +kernel
theorem dX10_rules_31 : decode cX10_rules 31 = .ok (.astore_n 2, 1) := by decide +kernel
theorem dX10_rules_32 : decode cX10_rules 32 = .ok (.aload_n 0, 1) := by decide +kernel
theorem dX10_rules_33 : decode cX10_rules 33 = .ok (.aload_n 0, 1) := by decide +kernel
theorem dX10_rules_34 : decode cX10_rules 34 = .ok (.getfield 53, 3) := by decide +kernel
theorem dX10_rules_37 : decode cX10_rules 37 = .ok (.putfield 49, 3) := by decide +kernel
theorem dX10_rules_40 : decode cX10_rules 40 = .ok (.aload_n 0, 1) := by decide +kernel
theorem dX10_rules_41 : decode cX10_rules 41 = .ok (.aload_n 2, 1) := by decide +kernel
theorem dX10_rules_42 : decode cX10_rules 42 = .ok (.putfield 53, 3) := by decide +kernel
theorem dX10_rules_45 : decode cX10_rules 45 = .ok (.aload_n 0, 1) := by decide +kernel
theorem dX10_rules_46 : decode cX10_rules 46 = .ok (.getfield 61, 3) := by decide +kernel
theorem dX10_rules_49 : decode cX10_rules 49 = .ok (.aload_n 0, 1) := by decide +kernel
theorem dX10_rules_50 : decode cX10_rules 50 = .ok (.getfield 49, 3) := by decide +kernel
theorem dX10_rules_53 : decode cX10_rules 53 = .ok (.invokevirtual 130, 3) := by decide +kernel
theorem dX10_rules_56 : decode cX10_rules 56 = .ok (.aload_n 0, 1) := by decide +kernel
theorem dX10_rules_57 : decode cX10_rules 57 = .ok (.getfield 49, 3) := by decide +kernel
theorem dX10_rules_60 : decode cX10_rules 60 = .ok (.getfield 134, 3) := by decide +kernel
theorem dX10_rules_63 : decode cX10_rules 63 = .ok (.ireturn, 1) := by decide +kernel
theorem dX10_fault_0 : decode cX10_fault 0 = .ok (.iload_n 1, 1) := by decide +kernel
theorem dX10_fault_1 : decode cX10_fault 1 = .ok (.ifCond .ne 11, 3) := by decide +kernel
theorem dX10_fault_4 : decode cX10_fault 4 = .ok (.aload_n 0, 1) := by decide +kernel
theorem dX10_fault_5 : decode cX10_fault 5 = .ok (.getfield 42, 3) := by decide +kernel
theorem dX10_fault_8 : decode cX10_fault 8 = .ok (.getfield 137, 3) := by decide +kernel
theorem dX10_fault_11 : decode cX10_fault 11 = .ok (.ireturn, 1) := by decide +kernel
theorem dX10_fault_12 : decode cX10_fault 12 = .ok (.iload_n 1, 1) := by decide +kernel
theorem dX10_fault_13 : decode cX10_fault 13 = .ok (.iconst 1, 1) := by decide +kernel
theorem dX10_fault_14 : decode cX10_fault 14 = .ok (.if_icmp .ne 13, 3) := by decide +kernel
theorem dX10_fault_17 : decode cX10_fault 17 = .ok (.aload_n 0, 1) := by decide +kernel
theorem dX10_fault_18 : decode cX10_fault 18 = .ok (.getfield 42, 3) := by decide +kernel
theorem dX10_fault_21 : decode cX10_fault 21 = .ok (.getfield 140, 3) := by decide +kernel
theorem dX10_fault_24 : decode cX10_fault 24 = .ok (.goto 4, 3) := by decide +kernel
theorem dX10_fault_27 : decode cX10_fault 27 = .ok (.iconst (-1), 1) := by decide +kernel
theorem dX10_fault_28 : decode cX10_fault 28 = .ok (.ireturn, 1) := by decide +kernel
theorem dX10_count_0 : decode cX10_count 0 = .ok (.aload_n 0, 1) := by decide +kernel
theorem dX10_count_1 : decode cX10_count 1 = .ok (.getfield 61, 3) := by decide +kernel
theorem dX10_count_4 : decode cX10_count 4 = .ok (.aload_n 0, 1) := by decide +kernel
theorem dX10_count_5 : decode cX10_count 5 = .ok (.invokevirtual 143, 3) := by decide +kernel
theorem dX10_count_8 : decode cX10_count 8 = .ok (.invokevirtual 147, 3) := by decide +kernel
theorem dX10_count_11 : decode cX10_count 11 = .ok (.aload_n 0, 1) := by decide +kernel
theorem dX10_count_12 : decode cX10_count 12 = .ok (.getfield 61, 3) := by decide +kernel
theorem dX10_count_15 : decode cX10_count 15 = .ok (.iload_n 1, 1) := by decide +kernel
theorem dX10_count_16 : decode cX10_count 16 = .ok (.invokevirtual 150, 3) := by decide +kernel
theorem dX10_count_19 : decode cX10_count 19 = .ok (.astore_n 3, 1) := by decide +kernel
theorem dX10_count_20 : decode cX10_count 20 = .ok (.aload_n 3, 1) := by decide +kernel
theorem dX10_count_21 : decode cX10_count 21 = .ok (.ifnonnull 8, 3) := by decide +kernel
theorem dX10_count_24 : decode cX10_count 24 = .ok (.ldc 154, 2) := by decide +kernel
theorem dX10_count_26 : decode cX10_count 26 = .ok (.goto 8, 3) := by decide +kernel
theorem dX10_count_29 : decode cX10_count 29 = .ok (.aload_n 3, 1) := by decide +kernel
theorem dX10_count_30 : decode cX10_count 30 = .ok (.iload_n 2, 1) := by decide +kernel
theorem dX10_count_31 : decode cX10_count 31 = .ok (.invokevirtual 155, 3) := by decide +kernel
theorem dX10_count_34 : decode cX10_count 34 = .ok (.ireturn, 1) := by decide +kernel
theorem dX10_given_0 : decode cX10_given 0 = .ok (.aload_n 0, 1) := by decide +kernel
theorem dX10_given_1 : decode cX10_given 1 = .ok (.getfield 61, 3) := by decide +kernel
theorem dX10_given_4 : decode cX10_given 4 = .ok (.aload_n 0, 1) := by decide +kernel
theorem dX10_given_5 : decode cX10_given 5 = .ok (.invokevirtual 143, 3) := by decide +kernel
theorem dX10_given_8 : decode cX10_given 8 = .ok (.invokevirtual 147, 3) := by decide +kernel
theorem dX10_given_11 : decode cX10_given 11 = .ok (.aload_n 0, 1) := by decide +kernel
theorem dX10_given_12 : decode cX10_given 12 = .ok (.getfield 61, 3) := by decide +kernel
theorem dX10_given_15 : decode cX10_given 15 = .ok (.iload_n 1, 1) := by decide +kernel
theorem dX10_given_16 : decode cX10_given 16 = .ok (.invokevirtual 150, 3) := by decide +kernel
theorem dX10_given_19 : decode cX10_given 19 = .ok (.astore_n 3, 1) := by decide +kernel
theorem dX10_given_20 : decode cX10_given 20 = .ok (.aload_n 3, 1) := by decide +kernel
theorem dX10_given_21 : decode cX10_given 21 = .ok (.ifnull 20, 3) := by decide +kernel
theorem dX10_given_24 : decode cX10_given 24 = .ok (.iload_n 2, 1) := by decide +kernel
theorem dX10_given_25 : decode cX10_given 25 = .ok (.iconst 0, 1) := by decide +kernel
theorem dX10_given_26 : decode cX10_given 26 = .ok (.aload_n 0, 1) := by decide +kernel
theorem dX10_given_27 : decode cX10_given 27 = .ok (.getfield 49, 3) := by decide +kernel
theorem dX10_given_30 : decode cX10_given 30 = .ok (.getfield 134, 3) := by decide +kernel
theorem dX10_given_33 : decode cX10_given 33 = .ok (.iconst 1, 1) := by decide +kernel
theorem dX10_given_34 : decode cX10_given 34 = .ok (.isub, 1) := by decide +kernel
theorem dX10_given_35 : decode cX10_given 35 = .ok (.invokestatic 122, 3) := by decide +kernel
theorem dX10_given_38 : decode cX10_given 38 = .ok (.ifCond .ne 7, 3) := by decide +kernel
theorem dX10_given_41 : decode cX10_given 41 = .ok (.ldc2_w 160, 3) := by decide +kernel
theorem dX10_given_44 : decode cX10_given 44 = .ok (.lreturn, 1) := by decide +kernel
theorem dX10_given_45 : decode cX10_given 45 = .ok (.aload_n 3, 1) := by decide +kernel
theorem dX10_given_46 : decode cX10_given 46 = .ok (.bipush 15, 2) := by decide +kernel
theorem dX10_given_48 : decode cX10_given 48 = .ok (.iload_n 2, 1) := by decide +kernel
theorem dX10_given_49 : decode cX10_given 49 = .ok (.iadd, 1) := by decide +kernel
theorem dX10_given_50 : decode cX10_given 50 = .ok (.invokevirtual 162, 3) := by decide +kernel
theorem dX10_given_53 : decode cX10_given 53 = .ok (.lreturn, 1) := by decide +kernel
theorem dX10_total_0 : decode cX10_total 0 = .ok (.aload_n 0, 1) := by decide +kernel
theorem dX10_total_1 : decode cX10_total 1 = .ok (.getfield 61, 3) := by decide +kernel
theorem dX10_total_4 : decode cX10_total 4 = .ok (.aload_n 0, 1) := by decide +kernel
theorem dX10_total_5 : decode cX10_total 5 = .ok (.invokevirtual 143, 3) := by decide +kernel
theorem dX10_total_8 : decode cX10_total 8 = .ok (.invokevirtual 147, 3) := by decide +kernel
theorem dX10_total_11 : decode cX10_total 11 = .ok (.aload_n 0, 1) := by decide +kernel
theorem dX10_total_12 : decode cX10_total 12 = .ok (.getfield 61, 3) := by decide +kernel
theorem dX10_total_15 : decode cX10_total 15 = .ok (.iload_n 1, 1) := by decide +kernel
theorem dX10_total_16 : decode cX10_total 16 = .ok (.invokevirtual 150, 3) := by decide +kernel
theorem dX10_total_19 : decode cX10_total 19 = .ok (.astore_n 2, 1) := by decide +kernel
theorem dX10_total_20 : decode cX10_total 20 = .ok (.aload_n 2, 1) := by decide +kernel
theorem dX10_total_21 : decode cX10_total 21 = .ok (.ifnonnull 9, 3) := by decide +kernel
theorem dX10_total_24 : decode cX10_total 24 = .ok (.ldc2_w 160, 3) := by decide +kernel
theorem dX10_total_27 : decode cX10_total 27 = .ok (.goto 7, 3) := by decide +kernel
theorem dX10_total_30 : decode cX10_total 30 = .ok (.aload_n 2, 1) := by decide +kernel
theorem dX10_total_31 : decode cX10_total 31 = .ok (.getfield 166, 3) := by decide +kernel
theorem dX10_total_34 : decode cX10_total 34 = .ok (.lreturn, 1) := by decide +kernel
theorem dX10_isOut_0 : decode cX10_isOut 0 = .ok (.aload_n 0, 1) := by decide +kernel
theorem dX10_isOut_1 : decode cX10_isOut 1 = .ok (.getfield 61, 3) := by decide +kernel
theorem dX10_isOut_4 : decode cX10_isOut 4 = .ok (.aload_n 0, 1) := by decide +kernel
theorem dX10_isOut_5 : decode cX10_isOut 5 = .ok (.invokevirtual 143, 3) := by decide +kernel
theorem dX10_isOut_8 : decode cX10_isOut 8 = .ok (.invokevirtual 147, 3) := by decide +kernel
theorem dX10_isOut_11 : decode cX10_isOut 11 = .ok (.aload_n 0, 1) := by decide +kernel
theorem dX10_isOut_12 : decode cX10_isOut 12 = .ok (.getfield 61, 3) := by decide +kernel
theorem dX10_isOut_15 : decode cX10_isOut 15 = .ok (.iload_n 1, 1) := by decide +kernel
theorem dX10_isOut_16 : decode cX10_isOut 16 = .ok (.invokevirtual 150, 3) := by decide +kernel
theorem dX10_isOut_19 : decode cX10_isOut 19 = .ok (.astore_n 2, 1) := by decide +kernel
theorem dX10_isOut_20 : decode cX10_isOut 20 = .ok (.aload_n 2, 1) := by decide +kernel
theorem dX10_isOut_21 : decode cX10_isOut 21 = .ok (.ifnonnull 5, 3) := by decide +kernel
theorem dX10_isOut_24 : decode cX10_isOut 24 = .ok (.iconst (-1), 1) := by decide +kernel
theorem dX10_isOut_25 : decode cX10_isOut 25 = .ok (.ireturn, 1) := by decide +kernel
theorem dX10_isOut_26 : decode cX10_isOut 26 = .ok (.aload_n 2, 1) := by decide +kernel
theorem dX10_isOut_27 : decode cX10_isOut 27 = .ok (.getfield 170, 3) := by decide +kernel
theorem dX10_isOut_30 : decode cX10_isOut 30 = .ok (.ifCond .eq 7, 3) := by decide +kernel
theorem dX10_isOut_33 : decode cX10_isOut 33 = .ok (.iconst 1, 1) := by decide +kernel
theorem dX10_isOut_34 : decode cX10_isOut 34 = .ok (.goto 4, 3) := by decide +kernel
theorem dX10_isOut_37 : decode cX10_isOut 37 = .ok (.iconst 0, 1) := by decide +kernel
theorem dX10_isOut_38 : decode cX10_isOut 38 = .ok (.ireturn, 1) := by decide +kernel
theorem dX10_against_0 : decode cX10_against 0 = .ok (.aload_n 0, 1) := by decide +kernel
theorem dX10_against_1 : decode cX10_against 1 = .ok (.getfield 61, 3) := by decide +kernel
theorem dX10_against_4 : decode cX10_against 4 = .ok (.aload_n 0, 1) := by decide +kernel
theorem dX10_against_5 : decode cX10_against 5 = .ok (.invokevirtual 143, 3) := by decide +kernel
theorem dX10_against_8 : decode cX10_against 8 = .ok (.invokevirtual 147, 3) := by decide +kernel
theorem dX10_against_11 : decode cX10_against 11 = .ok (.aload_n 0, 1) := by decide +kernel
theorem dX10_against_12 : decode cX10_against 12 = .ok (.getfield 61, 3) := by decide +kernel
theorem dX10_against_15 : decode cX10_against 15 = .ok (.iload_n 1, 1) := by decide +kernel
theorem dX10_against_16 : decode cX10_against 16 = .ok (.invokevirtual 150, 3) := by decide +kernel
theorem dX10_against_19 : decode cX10_against 19 = .ok (.astore_n 3, 1) := by decide +kernel
theorem dX10_against_20 : decode cX10_against 20 = .ok (.aload_n 0, 1) := by decide +kernel
theorem dX10_against_21 : decode cX10_against 21 = .ok (.getfield 61, 3) := by decide +kernel
theorem dX10_against_24 : decode cX10_against 24 = .ok (.iload_n 2, 1) := by decide +kernel
theorem dX10_against_25 : decode cX10_against 25 = .ok (.invokevirtual 150, 3) := by decide +kernel
theorem dX10_against_28 : decode cX10_against 28 = .ok (.astore 4, 2) := by decide +kernel
theorem dX10_against_30 : decode cX10_against 30 = .ok (.aload_n 3, 1) := by decide +kernel
theorem dX10_against_31 : decode cX10_against 31 = .ok (.ifnull 23, 3) := by decide +kernel
theorem dX10_against_34 : decode cX10_against 34 = .ok (.aload 4, 2) := by decide +kernel
theorem dX10_against_36 : decode cX10_against 36 = .ok (.ifnull 18, 3) := by decide +kernel
theorem dX10_against_39 : decode cX10_against 39 = .ok (.aload_n 3, 1) := by decide +kernel
theorem dX10_against_40 : decode cX10_against 40 = .ok (.getfield 170, 3) := by decide +kernel
theorem dX10_against_43 : decode cX10_against 43 = .ok (.ifCond .ne 11, 3) := by decide +kernel
theorem dX10_against_46 : decode cX10_against 46 = .ok (.aload 4, 2) := by decide +kernel
theorem dX10_against_48 : decode cX10_against 48 = .ok (.getfield 170, 3) := by decide +kernel
theorem dX10_against_51 : decode cX10_against 51 = .ok (.ifCond .eq 6, 3) := by decide +kernel
theorem dX10_against_54 : decode cX10_against 54 = .ok (.bipush (-2), 2) := by decide +kernel
theorem dX10_against_56 : decode cX10_against 56 = .ok (.ireturn, 1) := by decide +kernel
theorem dX10_against_57 : decode cX10_against 57 = .ok (.aload_n 0, 1) := by decide +kernel
theorem dX10_against_58 : decode cX10_against 58 = .ok (.getfield 49, 3) := by decide +kernel
theorem dX10_against_61 : decode cX10_against 61 = .ok (.aload_n 3, 1) := by decide +kernel
theorem dX10_against_62 : decode cX10_against 62 = .ok (.aload 4, 2) := by decide +kernel
theorem dX10_against_64 : decode cX10_against 64 = .ok (.invokevirtual 174, 3) := by decide +kernel
theorem dX10_against_67 : decode cX10_against 67 = .ok (.ireturn, 1) := by decide +kernel
theorem dX10_place_0 : decode cX10_place 0 = .ok (.aload_n 0, 1) := by decide +kernel
theorem dX10_place_1 : decode cX10_place 1 = .ok (.getfield 61, 3) := by decide +kernel
theorem dX10_place_4 : decode cX10_place 4 = .ok (.aload_n 0, 1) := by decide +kernel
theorem dX10_place_5 : decode cX10_place 5 = .ok (.invokevirtual 143, 3) := by decide +kernel
theorem dX10_place_8 : decode cX10_place 8 = .ok (.invokevirtual 147, 3) := by decide +kernel
theorem dX10_place_11 : decode cX10_place 11 = .ok (.aload_n 0, 1) := by decide +kernel
theorem dX10_place_12 : decode cX10_place 12 = .ok (.getfield 61, 3) := by decide +kernel
theorem dX10_place_15 : decode cX10_place 15 = .ok (.iload_n 1, 1) := by decide +kernel
theorem dX10_place_16 : decode cX10_place 16 = .ok (.invokevirtual 178, 3) := by decide +kernel
theorem dX10_place_19 : decode cX10_place 19 = .ok (.ireturn, 1) := by decide +kernel
theorem dX10_team_0 : decode cX10_team 0 = .ok (.aload_n 0, 1) := by decide +kernel
theorem dX10_team_1 : decode cX10_team 1 = .ok (.getfield 61, 3) := by decide +kernel
theorem dX10_team_4 : decode cX10_team 4 = .ok (.aload_n 0, 1) := by decide +kernel
theorem dX10_team_5 : decode cX10_team 5 = .ok (.invokevirtual 143, 3) := by decide +kernel
theorem dX10_team_8 : decode cX10_team 8 = .ok (.invokevirtual 147, 3) := by decide +kernel
theorem dX10_team_11 : decode cX10_team 11 = .ok (.aload_n 0, 1) := by decide +kernel
theorem dX10_team_12 : decode cX10_team 12 = .ok (.getfield 19, 3) := by decide +kernel
theorem dX10_team_15 : decode cX10_team 15 = .ok (.iload_n 1, 1) := by decide +kernel
theorem dX10_team_16 : decode cX10_team 16 = .ok (.invokevirtual 181, 3) := by decide +kernel
theorem dX10_team_19 : decode cX10_team 19 = .ok (.ifCond .ne 9, 3) := by decide +kernel
theorem dX10_team_22 : decode cX10_team 22 = .ok (.ldc2_w 184, 3) := by decide +kernel
theorem dX10_team_25 : decode cX10_team 25 = .ok (.goto 11, 3) := by decide +kernel
theorem dX10_team_28 : decode cX10_team 28 = .ok (.aload_n 0, 1) := by decide +kernel
theorem dX10_team_29 : decode cX10_team 29 = .ok (.getfield 61, 3) := by decide +kernel
theorem dX10_team_32 : decode cX10_team 32 = .ok (.iload_n 1, 1) := by decide +kernel
theorem dX10_team_33 : decode cX10_team 33 = .ok (.invokevirtual 186, 3) := by decide +kernel
theorem dX10_team_36 : decode cX10_team 36 = .ok (.lreturn, 1) := by decide +kernel
theorem dX10_teamPlace_0 : decode cX10_teamPlace 0 = .ok (.aload_n 0, 1) := by decide +kernel
theorem dX10_teamPlace_1 : decode cX10_teamPlace 1 = .ok (.getfield 61, 3) := by decide +kernel
theorem dX10_teamPlace_4 : decode cX10_teamPlace 4 = .ok (.aload_n 0, 1) := by decide +kernel
theorem dX10_teamPlace_5 : decode cX10_teamPlace 5 = .ok (.invokevirtual 143, 3) := by decide +kernel
theorem dX10_teamPlace_8 : decode cX10_teamPlace 8 = .ok (.invokevirtual 147, 3) := by decide +kernel
theorem dX10_teamPlace_11 : decode cX10_teamPlace 11 = .ok (.aload_n 0, 1) := by decide +kernel
theorem dX10_teamPlace_12 : decode cX10_teamPlace 12 = .ok (.getfield 19, 3) := by decide +kernel
theorem dX10_teamPlace_15 : decode cX10_teamPlace 15 = .ok (.iload_n 1, 1) := by decide +kernel
theorem dX10_teamPlace_16 : decode cX10_teamPlace 16 = .ok (.invokevirtual 181, 3) := by decide +kernel
theorem dX10_teamPlace_19 : decode cX10_teamPlace 19 = .ok (.ifCond .ne 7, 3) := by decide +kernel
theorem dX10_teamPlace_22 : decode cX10_teamPlace 22 = .ok (.iconst (-1), 1) := by decide +kernel
theorem dX10_teamPlace_23 : decode cX10_teamPlace 23 = .ok (.goto 11, 3) := by decide +kernel
theorem dX10_teamPlace_26 : decode cX10_teamPlace 26 = .ok (.aload_n 0, 1) := by decide +kernel
theorem dX10_teamPlace_27 : decode cX10_teamPlace 27 = .ok (.getfield 61, 3) := by decide +kernel
theorem dX10_teamPlace_30 : decode cX10_teamPlace 30 = .ok (.iload_n 1, 1) := by decide +kernel
theorem dX10_teamPlace_31 : decode cX10_teamPlace 31 = .ok (.invokevirtual 189, 3) := by decide +kernel
theorem dX10_teamPlace_34 : decode cX10_teamPlace 34 = .ok (.ireturn, 1) := by decide +kernel
theorem dX10_ring_0 : decode cX10_ring 0 = .ok (.aload_n 0, 1) := by decide +kernel
theorem dX10_ring_1 : decode cX10_ring 1 = .ok (.getfield 61, 3) := by decide +kernel
theorem dX10_ring_4 : decode cX10_ring 4 = .ok (.aload_n 0, 1) := by decide +kernel
theorem dX10_ring_5 : decode cX10_ring 5 = .ok (.invokevirtual 143, 3) := by decide +kernel
theorem dX10_ring_8 : decode cX10_ring 8 = .ok (.invokevirtual 147, 3) := by decide +kernel
theorem dX10_ring_11 : decode cX10_ring 11 = .ok (.aload_n 0, 1) := by decide +kernel
theorem dX10_ring_12 : decode cX10_ring 12 = .ok (.getfield 61, 3) := by decide +kernel
theorem dX10_ring_15 : decode cX10_ring 15 = .ok (.iload_n 1, 1) := by decide +kernel
theorem dX10_ring_16 : decode cX10_ring 16 = .ok (.invokevirtual 192, 3) := by decide +kernel
theorem dX10_ring_19 : decode cX10_ring 19 = .ok (.ireturn, 1) := by decide +kernel
theorem dX10_since_0 : decode cX10_since 0 = .ok (.aload_n 0, 1) := by decide +kernel
theorem dX10_since_1 : decode cX10_since 1 = .ok (.invokevirtual 143, 3) := by decide +kernel
theorem dX10_since_4 : decode cX10_since 4 = .ok (.istore_n 2, 1) := by decide +kernel
theorem dX10_since_5 : decode cX10_since 5 = .ok (.aload_n 0, 1) := by decide +kernel
theorem dX10_since_6 : decode cX10_since 6 = .ok (.getfield 61, 3) := by decide +kernel
theorem dX10_since_9 : decode cX10_since 9 = .ok (.iload_n 2, 1) := by decide +kernel
theorem dX10_since_10 : decode cX10_since 10 = .ok (.invokevirtual 147, 3) := by decide +kernel
theorem dX10_since_13 : decode cX10_since 13 = .ok (.aload_n 0, 1) := by decide +kernel
theorem dX10_since_14 : decode cX10_since 14 = .ok (.getfield 61, 3) := by decide +kernel
theorem dX10_since_17 : decode cX10_since 17 = .ok (.iload_n 1, 1) := by decide +kernel
theorem dX10_since_18 : decode cX10_since 18 = .ok (.invokevirtual 178, 3) := by decide +kernel
theorem dX10_since_21 : decode cX10_since 21 = .ok (.istore_n 3, 1) := by decide +kernel
theorem dX10_since_22 : decode cX10_since 22 = .ok (.iload_n 3, 1) := by decide +kernel
theorem dX10_since_23 : decode cX10_since 23 = .ok (.iconst (-1), 1) := by decide +kernel
theorem dX10_since_24 : decode cX10_since 24 = .ok (.if_icmp .ne 5, 3) := by decide +kernel
theorem dX10_since_27 : decode cX10_since 27 = .ok (.iconst (-1), 1) := by decide +kernel
theorem dX10_since_28 : decode cX10_since 28 = .ok (.ireturn, 1) := by decide +kernel
theorem dX10_since_29 : decode cX10_since 29 = .ok (.iload_n 2, 1) := by decide +kernel
theorem dX10_since_30 : decode cX10_since 30 = .ok (.iconst 1, 1) := by decide +kernel
theorem dX10_since_31 : decode cX10_since 31 = .ok (.isub, 1) := by decide +kernel
theorem dX10_since_32 : decode cX10_since 32 = .ok (.istore 4, 2) := by decide +kernel
theorem dX10_since_34 : decode cX10_since 34 = .ok (.iload 4, 2) := by decide +kernel
theorem dX10_since_36 : decode cX10_since 36 = .ok (.ifCond .lt 33, 3) := by decide +kernel
theorem dX10_since_39 : decode cX10_since 39 = .ok (.aload_n 0, 1) := by decide +kernel
theorem dX10_since_40 : decode cX10_since 40 = .ok (.getfield 61, 3) := by decide +kernel
theorem dX10_since_43 : decode cX10_since 43 = .ok (.iload 4, 2) := by decide +kernel
theorem dX10_since_45 : decode cX10_since 45 = .ok (.invokevirtual 147, 3) := by decide +kernel
theorem dX10_since_48 : decode cX10_since 48 = .ok (.aload_n 0, 1) := by decide +kernel
theorem dX10_since_49 : decode cX10_since 49 = .ok (.getfield 61, 3) := by decide +kernel
theorem dX10_since_52 : decode cX10_since 52 = .ok (.iload_n 1, 1) := by decide +kernel
theorem dX10_since_53 : decode cX10_since 53 = .ok (.invokevirtual 178, 3) := by decide +kernel
theorem dX10_since_56 : decode cX10_since 56 = .ok (.iload_n 3, 1) := by decide +kernel
theorem dX10_since_57 : decode cX10_since 57 = .ok (.if_icmp .eq 6, 3) := by decide +kernel
theorem dX10_since_60 : decode cX10_since 60 = .ok (.iload 4, 2) := by decide +kernel
theorem dX10_since_62 : decode cX10_since 62 = .ok (.ireturn, 1) := by decide +kernel
theorem dX10_since_63 : decode cX10_since 63 = .ok (.iinc 4 (-1), 3) := by decide +kernel
theorem dX10_since_66 : decode cX10_since 66 = .ok (.goto (-32), 3) := by decide +kernel
theorem dX10_since_69 : decode cX10_since 69 = .ok (.iconst (-1), 1) := by decide +kernel
theorem dX10_since_70 : decode cX10_since 70 = .ok (.ireturn, 1) := by decide +kernel
theorem dX10_all_0 : decode cX10_all 0 = .ok (.iload_n 1, 1) := by decide +kernel
theorem dX10_all_1 : decode cX10_all 1 = .ok (.tableswitch 84 0 5 #[39, 47, 55, 63, 71, 79], 39) := by decide +kernel
theorem dX10_all_40 : decode cX10_all 40 = .ok (.aload_n 0, 1) := by decide +kernel
theorem dX10_all_41 : decode cX10_all 41 = .ok (.getfield 19, 3) := by decide +kernel
theorem dX10_all_44 : decode cX10_all 44 = .ok (.getfield 195, 3) := by decide +kernel
theorem dX10_all_47 : decode cX10_all 47 = .ok (.ireturn, 1) := by decide +kernel
theorem dX10_all_48 : decode cX10_all 48 = .ok (.aload_n 0, 1) := by decide +kernel
theorem dX10_all_49 : decode cX10_all 49 = .ok (.getfield 26, 3) := by decide +kernel
theorem dX10_all_52 : decode cX10_all 52 = .ok (.getfield 198, 3) := by decide +kernel
theorem dX10_all_55 : decode cX10_all 55 = .ok (.ireturn, 1) := by decide +kernel
theorem dX10_all_56 : decode cX10_all 56 = .ok (.aload_n 0, 1) := by decide +kernel
theorem dX10_all_57 : decode cX10_all 57 = .ok (.getfield 33, 3) := by decide +kernel
theorem dX10_all_60 : decode cX10_all 60 = .ok (.getfield 119, 3) := by decide +kernel
theorem dX10_all_63 : decode cX10_all 63 = .ok (.ireturn, 1) := by decide +kernel
theorem dX10_all_64 : decode cX10_all 64 = .ok (.aload_n 0, 1) := by decide +kernel
theorem dX10_all_65 : decode cX10_all 65 = .ok (.getfield 26, 3) := by decide +kernel
theorem dX10_all_68 : decode cX10_all 68 = .ok (.getfield 201, 3) := by decide +kernel
theorem dX10_all_71 : decode cX10_all 71 = .ok (.ireturn, 1) := by decide +kernel
theorem dX10_all_72 : decode cX10_all 72 = .ok (.aload_n 0, 1) := by decide +kernel
theorem dX10_all_73 : decode cX10_all 73 = .ok (.getfield 49, 3) := by decide +kernel
theorem dX10_all_76 : decode cX10_all 76 = .ok (.getfield 134, 3) := by decide +kernel
theorem dX10_all_79 : decode cX10_all 79 = .ok (.ireturn, 1) := by decide +kernel
theorem dX10_all_80 : decode cX10_all 80 = .ok (.aload_n 0, 1) := by decide +kernel
theorem dX10_all_81 : decode cX10_all 81 = .ok (.invokevirtual 143, 3) := by decide +kernel
theorem dX10_all_84 : decode cX10_all 84 = .ok (.ireturn, 1) := by decide +kernel
theorem dX10_all_85 : decode cX10_all 85 = .ok (.iconst (-1), 1) := by decide +kernel
theorem dX10_all_86 : decode cX10_all 86 = .ok (.ireturn, 1) := by decide +kernel
theorem dX10_toldAct_0 : decode cX10_toldAct 0 = .ok (.aload_n 0, 1) := by decide +kernel
theorem dX10_toldAct_1 : decode cX10_toldAct 1 = .ok (.getfield 65, 3) := by decide +kernel
theorem dX10_toldAct_4 : decode cX10_toldAct 4 = .ok (.iconst (-1), 1) := by decide +kernel
theorem dX10_toldAct_5 : decode cX10_toldAct 5 = .ok (.if_icmp .ne 13, 3) := by decide +kernel
theorem dX10_toldAct_8 : decode cX10_toldAct 8 = .ok (.aload_n 0, 1) := by decide +kernel
theorem dX10_toldAct_9 : decode cX10_toldAct 9 = .ok (.getfield 33, 3) := by decide +kernel
theorem dX10_toldAct_12 : decode cX10_toldAct 12 = .ok (.getfield 119, 3) := by decide +kernel
theorem dX10_toldAct_15 : decode cX10_toldAct 15 = .ok (.goto 7, 3) := by decide +kernel
theorem dX10_toldAct_18 : decode cX10_toldAct 18 = .ok (.aload_n 0, 1) := by decide +kernel
theorem dX10_toldAct_19 : decode cX10_toldAct 19 = .ok (.getfield 65, 3) := by decide +kernel
theorem dX10_toldAct_22 : decode cX10_toldAct 22 = .ok (.ireturn, 1) := by decide +kernel
theorem dX10_canBe_0 : decode cX10_canBe 0 = .ok (.iload_n 1, 1) := by decide +kernel
theorem dX10_canBe_1 : decode cX10_canBe 1 = .ok (.tableswitch 122 0 9 #[55, 64, 64, 72, 72, 72, 72, 81, 122, 113], 55) := by decide +kernel
theorem dX10_canBe_56 : decode cX10_canBe 56 = .ok (.iload_n 3, 1) := by decide +kernel
theorem dX10_canBe_57 : decode cX10_canBe 57 = .ok (.iconst 0, 1) := by decide +kernel
theorem dX10_canBe_58 : decode cX10_canBe 58 = .ok (.sipush 10000, 3) := by decide +kernel
theorem dX10_canBe_61 : decode cX10_canBe 61 = .ok (.invokestatic 122, 3) := by decide +kernel
theorem dX10_canBe_64 : decode cX10_canBe 64 = .ok (.ireturn, 1) := by decide +kernel
theorem dX10_canBe_65 : decode cX10_canBe 65 = .ok (.iload_n 3, 1) := by decide +kernel
theorem dX10_canBe_66 : decode cX10_canBe 66 = .ok (.iconst 0, 1) := by decide +kernel
theorem dX10_canBe_67 : decode cX10_canBe 67 = .ok (.ldc 204, 2) := by decide +kernel
theorem dX10_canBe_69 : decode cX10_canBe 69 = .ok (.invokestatic 122, 3) := by decide +kernel
theorem dX10_canBe_72 : decode cX10_canBe 72 = .ok (.ireturn, 1) := by decide +kernel
theorem dX10_canBe_73 : decode cX10_canBe 73 = .ok (.aload_n 0, 1) := by decide +kernel
theorem dX10_canBe_74 : decode cX10_canBe 74 = .ok (.getfield 26, 3) := by decide +kernel
theorem dX10_canBe_77 : decode cX10_canBe 77 = .ok (.iload_n 2, 1) := by decide +kernel
theorem dX10_canBe_78 : decode cX10_canBe 78 = .ok (.invokevirtual 205, 3) := by decide +kernel
theorem dX10_canBe_81 : decode cX10_canBe 81 = .ok (.ireturn, 1) := by decide +kernel
theorem dX10_canBe_82 : decode cX10_canBe 82 = .ok (.aload_n 0, 1) := by decide +kernel
theorem dX10_canBe_83 : decode cX10_canBe 83 = .ok (.getfield 26, 3) := by decide +kernel
theorem dX10_canBe_86 : decode cX10_canBe 86 = .ok (.iload_n 2, 1) := by decide +kernel
theorem dX10_canBe_87 : decode cX10_canBe 87 = .ok (.invokevirtual 205, 3) := by decide +kernel
theorem dX10_canBe_90 : decode cX10_canBe 90 = .ok (.ifCond .eq 22, 3) := by decide +kernel
theorem dX10_canBe_93 : decode cX10_canBe 93 = .ok (.iload_n 3, 1) := by decide +kernel
theorem dX10_canBe_94 : decode cX10_canBe 94 = .ok (.ifCond .lt 18, 3) := by decide +kernel
theorem dX10_canBe_97 : decode cX10_canBe 97 = .ok (.iload 4, 2) := by decide +kernel
theorem dX10_canBe_99 : decode cX10_canBe 99 = .ok (.iload_n 3, 1) := by decide +kernel
theorem dX10_canBe_100 : decode cX10_canBe 100 = .ok (.ldc 204, 2) := by decide +kernel
theorem dX10_canBe_102 : decode cX10_canBe 102 = .ok (.invokestatic 122, 3) := by decide +kernel
theorem dX10_canBe_105 : decode cX10_canBe 105 = .ok (.ifCond .eq 7, 3) := by decide +kernel
theorem dX10_canBe_108 : decode cX10_canBe 108 = .ok (.iconst 1, 1) := by decide +kernel
theorem dX10_canBe_109 : decode cX10_canBe 109 = .ok (.goto 4, 3) := by decide +kernel
theorem dX10_canBe_112 : decode cX10_canBe 112 = .ok (.iconst 0, 1) := by decide +kernel
theorem dX10_canBe_113 : decode cX10_canBe 113 = .ok (.ireturn, 1) := by decide +kernel
theorem dX10_canBe_114 : decode cX10_canBe 114 = .ok (.iload_n 3, 1) := by decide +kernel
theorem dX10_canBe_115 : decode cX10_canBe 115 = .ok (.iconst 0, 1) := by decide +kernel
theorem dX10_canBe_116 : decode cX10_canBe 116 = .ok (.sipush 9999, 3) := by decide +kernel
theorem dX10_canBe_119 : decode cX10_canBe 119 = .ok (.invokestatic 122, 3) := by decide +kernel
theorem dX10_canBe_122 : decode cX10_canBe 122 = .ok (.ireturn, 1) := by decide +kernel
theorem dX10_canBe_123 : decode cX10_canBe 123 = .ok (.iload_n 1, 1) := by decide +kernel
theorem dX10_canBe_124 : decode cX10_canBe 124 = .ok (.bipush 8, 2) := by decide +kernel
theorem dX10_canBe_126 : decode cX10_canBe 126 = .ok (.if_icmp .eq 15, 3) := by decide +kernel
theorem dX10_canBe_129 : decode cX10_canBe 129 = .ok (.iload_n 1, 1) := by decide +kernel
theorem dX10_canBe_130 : decode cX10_canBe 130 = .ok (.bipush 10, 2) := by decide +kernel
theorem dX10_canBe_132 : decode cX10_canBe 132 = .ok (.if_icmp .eq 9, 3) := by decide +kernel
theorem dX10_canBe_135 : decode cX10_canBe 135 = .ok (.iload_n 1, 1) := by decide +kernel
theorem dX10_canBe_136 : decode cX10_canBe 136 = .ok (.bipush 11, 2) := by decide +kernel
theorem dX10_canBe_138 : decode cX10_canBe 138 = .ok (.if_icmp .ne 7, 3) := by decide +kernel
theorem dX10_canBe_141 : decode cX10_canBe 141 = .ok (.iconst 1, 1) := by decide +kernel
theorem dX10_canBe_142 : decode cX10_canBe 142 = .ok (.goto 4, 3) := by decide +kernel
theorem dX10_canBe_145 : decode cX10_canBe 145 = .ok (.iconst 0, 1) := by decide +kernel
theorem dX10_canBe_146 : decode cX10_canBe 146 = .ok (.ireturn, 1) := by decide +kernel
theorem dX10_isWithin_0 : decode cX10_isWithin 0 = .ok (.iload_n 0, 1) := by decide +kernel
theorem dX10_isWithin_1 : decode cX10_isWithin 1 = .ok (.iload_n 1, 1) := by decide +kernel
theorem dX10_isWithin_2 : decode cX10_isWithin 2 = .ok (.if_icmp .lt 12, 3) := by decide +kernel
theorem dX10_isWithin_5 : decode cX10_isWithin 5 = .ok (.iload_n 0, 1) := by decide +kernel
theorem dX10_isWithin_6 : decode cX10_isWithin 6 = .ok (.iload_n 2, 1) := by decide +kernel
theorem dX10_isWithin_7 : decode cX10_isWithin 7 = .ok (.if_icmp .gt 7, 3) := by decide +kernel
theorem dX10_isWithin_10 : decode cX10_isWithin 10 = .ok (.iconst 1, 1) := by decide +kernel
theorem dX10_isWithin_11 : decode cX10_isWithin 11 = .ok (.goto 4, 3) := by decide +kernel
theorem dX10_isWithin_14 : decode cX10_isWithin 14 = .ok (.iconst 0, 1) := by decide +kernel
theorem dX10_isWithin_15 : decode cX10_isWithin 15 = .ok (.ireturn, 1) := by decide +kernel
theorem dX11_init_0 : decode cX11_init 0 = .ok (.aload_n 0, 1) := by decide +kernel
theorem dX11_init_1 : decode cX11_init 1 = .ok (.invokespecial 1, 3) := by decide +kernel
theorem dX11_init_4 : decode cX11_init 4 = .ok (.aload_n 0, 1) := by decide +kernel
theorem dX11_init_5 : decode cX11_init 5 = .ok (.sipush 600, 3) := by decide +kernel
theorem dX11_init_8 : decode cX11_init 8 = .ok (.newarray .int, 2) := by decide +kernel
theorem dX11_init_10 : decode cX11_init 10 = .ok (.putfield 7, 3) := by decide +kernel
theorem dX11_init_13 : decode cX11_init 13 = .ok (.aload_n 0, 1) := by decide +kernel
theorem dX11_init_14 : decode cX11_init 14 = .ok (.iconst 0, 1) := by decide +kernel
theorem dX11_init_15 : decode cX11_init 15 = .ok (.putfield 13, 3) := by decide +kernel
theorem dX11_init_18 : decode cX11_init 18 = .ok (.aload_n 0, 1) := by decide +kernel
theorem dX11_init_19 : decode cX11_init 19 = .ok (.iconst 0, 1) := by decide +kernel
theorem dX11_init_20 : decode cX11_init 20 = .ok (.putfield 17, 3) := by decide +kernel
theorem dX11_init_23 : decode cX11_init 23 = .ok (.aload_n 0, 1) := by decide +kernel
theorem dX11_init_24 : decode cX11_init 24 = .ok (.bipush 24, 2) := by decide +kernel
theorem dX11_init_26 : decode cX11_init 26 = .ok (.newarray .int, 2) := by decide +kernel
theorem dX11_init_28 : decode cX11_init 28 = .ok (.putfield 20, 3) := by decide +kernel
theorem dX11_init_31 : decode cX11_init 31 = .ok (.aload_n 0, 1) := by decide +kernel
theorem dX11_init_32 : decode cX11_init 32 = .ok (.iconst 0, 1) := by decide +kernel
theorem dX11_init_33 : decode cX11_init 33 = .ok (.putfield 23, 3) := by decide +kernel
theorem dX11_init_36 : decode cX11_init 36 = .ok (.aload_n 0, 1) := by decide +kernel
theorem dX11_init_37 : decode cX11_init 37 = .ok (.bipush 30, 2) := by decide +kernel
theorem dX11_init_39 : decode cX11_init 39 = .ok (.newarray .int, 2) := by decide +kernel
theorem dX11_init_41 : decode cX11_init 41 = .ok (.putfield 26, 3) := by decide +kernel
theorem dX11_init_44 : decode cX11_init 44 = .ok (.aload_n 0, 1) := by decide +kernel
theorem dX11_init_45 : decode cX11_init 45 = .ok (.bipush 30, 2) := by decide +kernel
theorem dX11_init_47 : decode cX11_init 47 = .ok (.newarray .int, 2) := by decide +kernel
theorem dX11_init_49 : decode cX11_init 49 = .ok (.putfield 29, 3) := by decide +kernel
theorem dX11_init_52 : decode cX11_init 52 = .ok (.aload_n 0, 1) := by decide +kernel
theorem dX11_init_53 : decode cX11_init 53 = .ok (.bipush 32, 2) := by decide +kernel
theorem dX11_init_55 : decode cX11_init 55 = .ok (.newarray .int, 2) := by decide +kernel
theorem dX11_init_57 : decode cX11_init 57 = .ok (.putfield 32, 3) := by decide +kernel
theorem dX11_init_60 : decode cX11_init 60 = .ok (.aload_n 0, 1) := by decide +kernel
theorem dX11_init_61 : decode cX11_init 61 = .ok (.iconst 0, 1) := by decide +kernel
theorem dX11_init_62 : decode cX11_init 62 = .ok (.putfield 35, 3) := by decide +kernel
theorem dX11_init_65 : decode cX11_init 65 = .ok (.aload_n 0, 1) := by decide +kernel
theorem dX11_init_66 : decode cX11_init 66 = .ok (.sipush 500, 3) := by decide +kernel
theorem dX11_init_69 : decode cX11_init 69 = .ok (.putfield 38, 3) := by decide +kernel
theorem dX11_init_72 : decode cX11_init 72 = .ok (.aload_n 0, 1) := by decide +kernel
theorem dX11_init_73 : decode cX11_init 73 = .ok (.iconst 0, 1) := by decide +kernel
theorem dX11_init_74 : decode cX11_init 74 = .ok (.putfield 41, 3) := by decide +kernel
theorem dX11_init_77 : decode cX11_init 77 = .ok (.aload_n 0, 1) := by decide +kernel
theorem dX11_init_78 : decode cX11_init 78 = .ok (.sipush 401, 3) := by decide +kernel
theorem dX11_init_81 : decode cX11_init 81 = .ok (.newarray .int, 2) := by decide +kernel
theorem dX11_init_83 : decode cX11_init 83 = .ok (.putfield 44, 3) := by decide +kernel
theorem dX11_init_86 : decode cX11_init 86 = .ok (.aload_n 0, 1) := by decide +kernel
theorem dX11_init_87 : decode cX11_init 87 = .ok (.sipush 401, 3) := by decide +kernel
theorem dX11_init_90 : decode cX11_init 90 = .ok (.newarray .int, 2) := by decide +kernel
theorem dX11_init_92 : decode cX11_init 92 = .ok (.putfield 47, 3) := by decide +kernel
theorem dX11_init_95 : decode cX11_init 95 = .ok (.aload_n 0, 1) := by decide +kernel
theorem dX11_init_96 : decode cX11_init 96 = .ok (.sipush 401, 3) := by decide +kernel
theorem dX11_init_99 : decode cX11_init 99 = .ok (.newarray .int, 2) := by decide +kernel
theorem dX11_init_101 : decode cX11_init 101 = .ok (.putfield 50, 3) := by decide +kernel
theorem dX11_init_104 : decode cX11_init 104 = .ok (.aload_n 0, 1) := by decide +kernel
theorem dX11_init_105 : decode cX11_init 105 = .ok (.sipush 401, 3) := by decide +kernel
theorem dX11_init_108 : decode cX11_init 108 = .ok (.newarray .int, 2) := by decide +kernel
theorem dX11_init_110 : decode cX11_init 110 = .ok (.putfield 53, 3) := by decide +kernel
theorem dX11_init_113 : decode cX11_init 113 = .ok (.aload_n 0, 1) := by decide +kernel
theorem dX11_init_114 : decode cX11_init 114 = .ok (.sipush 401, 3) := by decide +kernel
theorem dX11_init_117 : decode cX11_init 117 = .ok (.newarray .int, 2) := by decide +kernel
theorem dX11_init_119 : decode cX11_init 119 = .ok (.putfield 56, 3) := by decide +kernel
theorem dX11_init_122 : decode cX11_init 122 = .ok (.aload_n 0, 1) := by decide +kernel
theorem dX11_init_123 : decode cX11_init 123 = .ok (.sipush 401, 3) := by decide +kernel
theorem dX11_init_126 : decode cX11_init 126 = .ok (.newarray .int, 2) := by decide +kernel
theorem dX11_init_128 : decode cX11_init 128 = .ok (.putfield 59, 3) := by decide +kernel
theorem dX11_init_131 : decode cX11_init 131 = .ok (.aload_n 0, 1) := by decide +kernel
theorem dX11_init_132 : decode cX11_init 132 = .ok (.iconst (-1), 1) := by decide +kernel
theorem dX11_init_133 : decode cX11_init 133 = .ok (.putfield 62, 3) := by decide +kernel
theorem dX11_init_136 : decode cX11_init 136 = .ok (.aload_n 0, 1) := by decide +kernel
theorem dX11_init_137 : decode cX11_init 137 = .ok (.bipush 18, 2) := by decide +kernel
theorem dX11_init_139 : decode cX11_init 139 = .ok (.newarray .int, 2) := by decide +kernel
theorem dX11_init_141 : decode cX11_init 141 = .ok (.putfield 65, 3) := by decide +kernel
theorem dX11_init_144 : decode cX11_init 144 = .ok (.aload_n 0, 1) := by decide +kernel
theorem dX11_init_145 : decode cX11_init 145 = .ok (.bipush 120, 2) := by decide +kernel
theorem dX11_init_147 : decode cX11_init 147 = .ok (.newarray .int, 2) := by decide +kernel
theorem dX11_init_149 : decode cX11_init 149 = .ok (.putfield 68, 3) := by decide +kernel
theorem dX11_init_152 : decode cX11_init 152 = .ok (.aload_n 0, 1) := by decide +kernel
theorem dX11_init_153 : decode cX11_init 153 = .ok (.iconst 0, 1) := by decide +kernel
theorem dX11_init_154 : decode cX11_init 154 = .ok (.putfield 71, 3) := by decide +kernel
theorem dX11_init_157 : decode cX11_init 157 = .ok (.aload_n 0, 1) := by decide +kernel
theorem dX11_init_158 : decode cX11_init 158 = .ok (.bipush 24, 2) := by decide +kernel
theorem dX11_init_160 : decode cX11_init 160 = .ok (.newarray .int, 2) := by decide +kernel
theorem dX11_init_162 : decode cX11_init 162 = .ok (.putfield 74, 3) := by decide +kernel
theorem dX11_init_165 : decode cX11_init 165 = .ok (.aload_n 0, 1) := by decide +kernel
theorem dX11_init_166 : decode cX11_init 166 = .ok (.bipush 25, 2) := by decide +kernel
theorem dX11_init_168 : decode cX11_init 168 = .ok (.newarray .int, 2) := by decide +kernel
theorem dX11_init_170 : decode cX11_init 170 = .ok (.putfield 77, 3) := by decide +kernel
theorem dX11_init_173 : decode cX11_init 173 = .ok (.aload_n 0, 1) := by decide +kernel
theorem dX11_init_174 : decode cX11_init 174 = .ok (.sipush 1300, 3) := by decide +kernel
theorem dX11_init_177 : decode cX11_init 177 = .ok (.newarray .int, 2) := by decide +kernel
theorem dX11_init_179 : decode cX11_init 179 = .ok (.putfield 80, 3) := by decide +kernel
theorem dX11_init_182 : decode cX11_init 182 = .ok (.aload_n 0, 1) := by decide +kernel
theorem dX11_init_183 : decode cX11_init 183 = .ok (.iconst (-1), 1) := by decide +kernel
theorem dX11_init_184 : decode cX11_init 184 = .ok (.putfield 83, 3) := by decide +kernel
theorem dX11_init_187 : decode cX11_init 187 = .ok (.aload_n 0, 1) := by decide +kernel
theorem dX11_init_188 : decode cX11_init 188 = .ok (.iconst 0, 1) := by decide +kernel
theorem dX11_init_189 : decode cX11_init 189 = .ok (.putfield 86, 3) := by decide +kernel
theorem dX11_init_192 : decode cX11_init 192 = .ok (.aload_n 0, 1) := by decide +kernel
theorem dX11_init_193 : decode cX11_init 193 = .ok (.iconst 0, 1) := by decide +kernel
theorem dX11_init_194 : decode cX11_init 194 = .ok (.putfield 89, 3) := by decide +kernel
theorem dX11_init_197 : decode cX11_init 197 = .ok (.aload_n 0, 1) := by decide +kernel
theorem dX11_init_198 : decode cX11_init 198 = .ok (.iconst 0, 1) := by decide +kernel
theorem dX11_init_199 : decode cX11_init 199 = .ok (.putfield 92, 3) := by decide +kernel
theorem dX11_init_202 : decode cX11_init 202 = .ok (.aload_n 0, 1) := by decide +kernel
theorem dX11_init_203 : decode cX11_init 203 = .ok (.iconst (-1), 1) := by decide +kernel
theorem dX11_init_204 : decode cX11_init 204 = .ok (.putfield 95, 3) := by decide +kernel
theorem dX11_init_207 : decode cX11_init 207 = .ok (.aload_n 0, 1) := by decide +kernel
theorem dX11_init_208 : decode cX11_init 208 = .ok (.iconst 0, 1) := by decide +kernel
theorem dX11_init_209 : decode cX11_init 209 = .ok (.putfield 98, 3) := by decide +kernel
theorem dX11_init_212 : decode cX11_init 212 = .ok (.aload_n 0, 1) := by decide +kernel
theorem dX11_init_213 : decode cX11_init 213 = .ok (.iconst 0, 1) := by decide +kernel
theorem dX11_init_214 : decode cX11_init 214 = .ok (.putfield 101, 3) := by decide +kernel
theorem dX11_init_217 : decode cX11_init 217 = .ok (.aload_n 0, 1) := by decide +kernel
theorem dX11_init_218 : decode cX11_init 218 = .ok (.iconst (-1), 1) := by decide +kernel
theorem dX11_init_219 : decode cX11_init 219 = .ok (.putfield 104, 3) := by decide +kernel
theorem dX11_init_222 : decode cX11_init 222 = .ok (.aload_n 0, 1) := by decide +kernel
theorem dX11_init_223 : decode cX11_init 223 = .ok (.bipush 25, 2) := by decide +kernel
theorem dX11_init_225 : decode cX11_init 225 = .ok (.newarray .int, 2) := by decide +kernel
theorem dX11_init_227 : decode cX11_init 227 = .ok (.putfield 107, 3) := by decide +kernel
theorem dX11_init_230 : decode cX11_init 230 = .ok (.aload_n 0, 1) := by decide +kernel
theorem dX11_init_231 : decode cX11_init 231 = .ok (.bipush 26, 2) := by decide +kernel
theorem dX11_init_233 : decode cX11_init 233 = .ok (.newarray .int, 2) := by decide +kernel
theorem dX11_init_235 : decode cX11_init 235 = .ok (.putfield 110, 3) := by decide +kernel
theorem dX11_init_238 : decode cX11_init 238 = .ok (.aload_n 0, 1) := by decide +kernel
theorem dX11_init_239 : decode cX11_init 239 = .ok (.sipush 1300, 3) := by decide +kernel
theorem dX11_init_242 : decode cX11_init 242 = .ok (.newarray .int, 2) := by decide +kernel
theorem dX11_init_244 : decode cX11_init 244 = .ok (.putfield 113, 3) := by decide +kernel
theorem dX11_init_247 : decode cX11_init 247 = .ok (.aload_n 0, 1) := by decide +kernel
theorem dX11_init_248 : decode cX11_init 248 = .ok (.sipush 250, 3) := by decide +kernel
theorem dX11_init_251 : decode cX11_init 251 = .ok (.newarray .int, 2) := by decide +kernel
theorem dX11_init_253 : decode cX11_init 253 = .ok (.putfield 116, 3) := by decide +kernel
theorem dX11_init_256 : decode cX11_init 256 = .ok (.aload_n 0, 1) := by decide +kernel
theorem dX11_init_257 : decode cX11_init 257 = .ok (.bipush 25, 2) := by decide +kernel
theorem dX11_init_259 : decode cX11_init 259 = .ok (.newarray .int, 2) := by decide +kernel
theorem dX11_init_261 : decode cX11_init 261 = .ok (.putfield 119, 3) := by decide +kernel
theorem dX11_init_264 : decode cX11_init 264 = .ok (.aload_n 0, 1) := by decide +kernel
theorem dX11_init_265 : decode cX11_init 265 = .ok (.bipush 40, 2) := by decide +kernel
theorem dX11_init_267 : decode cX11_init 267 = .ok (.newarray .int, 2) := by decide +kernel
theorem dX11_init_269 : decode cX11_init 269 = .ok (.putfield 122, 3) := by decide +kernel
theorem dX11_init_272 : decode cX11_init 272 = .ok (.aload_n 0, 1) := by decide +kernel
theorem dX11_init_273 : decode cX11_init 273 = .ok (.bipush 40, 2) := by decide +kernel
theorem dX11_init_275 : decode cX11_init 275 = .ok (.newarray .boolean, 2) := by decide +kernel
theorem dX11_init_277 : decode cX11_init 277 = .ok (.putfield 125, 3) := by decide +kernel
theorem dX11_init_280 : decode cX11_init 280 = .ok (.aload_n 0, 1) := by decide +kernel
theorem dX11_init_281 : decode cX11_init 281 = .ok (.iconst 0, 1) := by decide +kernel
theorem dX11_init_282 : decode cX11_init 282 = .ok (.putfield 129, 3) := by decide +kernel
theorem dX11_init_285 : decode cX11_init 285 = .ok (.aload_n 0, 1) := by decide +kernel
theorem dX11_init_286 : decode cX11_init 286 = .ok (.iconst 0, 1) := by decide +kernel
theorem dX11_init_287 : decode cX11_init 287 = .ok (.putfield 132, 3) := by decide +kernel
theorem dX11_init_290 : decode cX11_init 290 = .ok (.aload_n 0, 1) := by decide +kernel
theorem dX11_init_291 : decode cX11_init 291 = .ok (.sipush 310, 3) := by decide +kernel
theorem dX11_init_294 : decode cX11_init 294 = .ok (.newarray .long, 2) := by decide +kernel
theorem dX11_init_296 : decode cX11_init 296 = .ok (.putfield 135, 3) := by decide +kernel
theorem dX11_init_299 : decode cX11_init 299 = .ok (.aload_n 0, 1) := by decide +kernel
theorem dX11_init_300 : decode cX11_init 300 = .ok (.sipush 576, 3) := by decide +kernel
theorem dX11_init_303 : decode cX11_init 303 = .ok (.newarray .long, 2) := by decide +kernel
theorem dX11_init_305 : decode cX11_init 305 = .ok (.putfield 139, 3) := by decide +kernel
theorem dX11_init_308 : decode cX11_init 308 = .ok (.aload_n 0, 1) := by decide +kernel
theorem dX11_init_309 : decode cX11_init 309 = .ok (.bipush 24, 2) := by decide +kernel
theorem dX11_init_311 : decode cX11_init 311 = .ok (.newarray .boolean, 2) := by decide +kernel
theorem dX11_init_313 : decode cX11_init 313 = .ok (.putfield 142, 3) := by decide +kernel
theorem dX11_init_316 : decode cX11_init 316 = .ok (.return_, 1) := by decide +kernel
theorem dX11_is_0 : decode cX11_is 0 = .ok (.iload_n 0, 1) := by decide +kernel
theorem dX11_is_1 : decode cX11_is 1 = .ok (.iload_n 1, 1) := by decide +kernel
theorem dX11_is_2 : decode cX11_is 2 = .ok (.if_icmp .lt 12, 3) := by decide +kernel
theorem dX11_is_5 : decode cX11_is 5 = .ok (.iload_n 0, 1) := by decide +kernel
theorem dX11_is_6 : decode cX11_is 6 = .ok (.iload_n 2, 1) := by decide +kernel
theorem dX11_is_7 : decode cX11_is 7 = .ok (.if_icmp .gt 7, 3) := by decide +kernel
theorem dX11_is_10 : decode cX11_is 10 = .ok (.iconst 1, 1) := by decide +kernel
theorem dX11_is_11 : decode cX11_is 11 = .ok (.goto 4, 3) := by decide +kernel
theorem dX11_is_14 : decode cX11_is 14 = .ok (.iconst 0, 1) := by decide +kernel
theorem dX11_is_15 : decode cX11_is 15 = .ok (.ireturn, 1) := by decide +kernel
theorem dX11_put_0 : decode cX11_put 0 = .ok (.bipush 24, 2) := by decide +kernel
theorem dX11_put_2 : decode cX11_put 2 = .ok (.istore_n 2, 1) := by decide +kernel
theorem dX11_put_3 : decode cX11_put 3 = .ok (.iload_n 2, 1) := by decide +kernel
theorem dX11_put_4 : decode cX11_put 4 = .ok (.ifCond .lt 35, 3) := by decide +kernel
theorem dX11_put_7 : decode cX11_put 7 = .ok (.aload_n 0, 1) := by decide +kernel
theorem dX11_put_8 : decode cX11_put 8 = .ok (.getfield 7, 3) := by decide +kernel
theorem dX11_put_11 : decode cX11_put 11 = .ok (.aload_n 0, 1) := by decide +kernel
theorem dX11_put_12 : decode cX11_put 12 = .ok (.getfield 13, 3) := by decide +kernel
theorem dX11_put_15 : decode cX11_put 15 = .ok (.iload_n 1, 1) := by decide +kernel
theorem dX11_put_16 : decode cX11_put 16 = .ok (.iload_n 2, 1) := by decide +kernel
theorem dX11_put_17 : decode cX11_put 17 = .ok (.ishr, 1) := by decide +kernel
theorem dX11_put_18 : decode cX11_put 18 = .ok (.sipush 255, 3) := by decide +kernel
theorem dX11_put_21 : decode cX11_put 21 = .ok (.iand, 1) := by decide +kernel
theorem dX11_put_22 : decode cX11_put 22 = .ok (.iastore, 1) := by decide +kernel
theorem dX11_put_23 : decode cX11_put 23 = .ok (.aload_n 0, 1) := by decide +kernel
theorem dX11_put_24 : decode cX11_put 24 = .ok (.dup, 1) := by decide +kernel
theorem dX11_put_25 : decode cX11_put 25 = .ok (.getfield 13, 3) := by decide +kernel
theorem dX11_put_28 : decode cX11_put 28 = .ok (.iconst 1, 1) := by decide +kernel
theorem dX11_put_29 : decode cX11_put 29 = .ok (.iadd, 1) := by decide +kernel
theorem dX11_put_30 : decode cX11_put 30 = .ok (.putfield 13, 3) := by decide +kernel
theorem dX11_put_33 : decode cX11_put 33 = .ok (.iinc 2 (-8), 3) := by decide +kernel
theorem dX11_put_36 : decode cX11_put 36 = .ok (.goto (-33), 3) := by decide +kernel
theorem dX11_put_39 : decode cX11_put 39 = .ok (.return_, 1) := by decide +kernel
theorem dX11_feed_0 : decode cX11_feed 0 = .ok (.aload_n 0, 1) := by decide +kernel
theorem dX11_feed_1 : decode cX11_feed 1 = .ok (.getfield 13, 3) := by decide +kernel
theorem dX11_feed_4 : decode cX11_feed 4 = .ok (.bipush 20, 2) := by decide +kernel
theorem dX11_feed_6 : decode cX11_feed 6 = .ok (.iadd, 1) := by decide +kernel
theorem dX11_feed_7 : decode cX11_feed 7 = .ok (.sipush 600, 3) := by decide +kernel
theorem dX11_feed_10 : decode cX11_feed 10 = .ok (.if_icmp .le 5, 3) := by decide +kernel
theorem dX11_feed_13 : decode cX11_feed 13 = .ok (.iconst (-1), 1) := by decide +kernel
theorem dX11_feed_14 : decode cX11_feed 14 = .ok (.ireturn, 1) := by decide +kernel
theorem dX11_feed_15 : decode cX11_feed 15 = .ok (.aload_n 0, 1) := by decide +kernel
theorem dX11_feed_16 : decode cX11_feed 16 = .ok (.iload_n 1, 1) := by decide +kernel
theorem dX11_feed_17 : decode cX11_feed 17 = .ok (.invokevirtual 145, 3) := by decide +kernel
theorem dX11_feed_20 : decode cX11_feed 20 = .ok (.aload_n 0, 1) := by decide +kernel
theorem dX11_feed_21 : decode cX11_feed 21 = .ok (.iload_n 2, 1) := by decide +kernel
theorem dX11_feed_22 : decode cX11_feed 22 = .ok (.invokevirtual 145, 3) := by decide +kernel
theorem dX11_feed_25 : decode cX11_feed 25 = .ok (.aload_n 0, 1) := by decide +kernel
theorem dX11_feed_26 : decode cX11_feed 26 = .ok (.iload_n 3, 1) := by decide +kernel
theorem dX11_feed_27 : decode cX11_feed 27 = .ok (.invokevirtual 145, 3) := by decide +kernel
theorem dX11_feed_30 : decode cX11_feed 30 = .ok (.aload_n 0, 1) := by decide +kernel
theorem dX11_feed_31 : decode cX11_feed 31 = .ok (.iload 4, 2) := by decide +kernel
theorem dX11_feed_33 : decode cX11_feed 33 = .ok (.invokevirtual 145, 3) := by decide +kernel
theorem dX11_feed_36 : decode cX11_feed 36 = .ok (.aload_n 0, 1) := by decide +kernel
theorem dX11_feed_37 : decode cX11_feed 37 = .ok (.iload 5, 2) := by decide +kernel
theorem dX11_feed_39 : decode cX11_feed 39 = .ok (.invokevirtual 145, 3) := by decide +kernel
theorem dX11_feed_42 : decode cX11_feed 42 = .ok (.aload_n 0, 1) := by decide +kernel
theorem dX11_feed_43 : decode cX11_feed 43 = .ok (.getfield 13, 3) := by decide +kernel
theorem dX11_feed_46 : decode cX11_feed 46 = .ok (.ireturn, 1) := by decide +kernel
theorem dX11_end_0 : decode cX11_end 0 = .ok (.iload_n 1, 1) := by decide +kernel
theorem dX11_end_1 : decode cX11_end 1 = .ok (.ifCond .lt 11, 3) := by decide +kernel
theorem dX11_end_4 : decode cX11_end 4 = .ok (.iload_n 1, 1) := by decide +kernel
theorem dX11_end_5 : decode cX11_end 5 = .ok (.aload_n 0, 1) := by decide +kernel
theorem dX11_end_6 : decode cX11_end 6 = .ok (.getfield 13, 3) := by decide +kernel
theorem dX11_end_9 : decode cX11_end 9 = .ok (.if_icmp .le 5, 3) := by decide +kernel
theorem dX11_end_12 : decode cX11_end 12 = .ok (.iconst 0, 1) := by decide +kernel
theorem dX11_end_13 : decode cX11_end 13 = .ok (.ireturn, 1) := by decide +kernel
theorem dX11_end_14 : decode cX11_end 14 = .ok (.aload_n 0, 1) := by decide +kernel
theorem dX11_end_15 : decode cX11_end 15 = .ok (.iload_n 1, 1) := by decide +kernel
theorem dX11_end_16 : decode cX11_end 16 = .ok (.putfield 13, 3) := by decide +kernel
theorem dX11_end_19 : decode cX11_end 19 = .ok (.iconst 1, 1) := by decide +kernel
theorem dX11_end_20 : decode cX11_end 20 = .ok (.ireturn, 1) := by decide +kernel
theorem dX11_rider_0 : decode cX11_rider 0 = .ok (.aload_n 0, 1) := by decide +kernel
theorem dX11_rider_1 : decode cX11_rider 1 = .ok (.getfield 17, 3) := by decide +kernel
theorem dX11_rider_4 : decode cX11_rider 4 = .ok (.bipush 24, 2) := by decide +kernel
theorem dX11_rider_6 : decode cX11_rider 6 = .ok (.if_icmp .eq 12, 3) := by decide +kernel
theorem dX11_rider_9 : decode cX11_rider 9 = .ok (.iload_n 1, 1) := by decide +kernel
theorem dX11_rider_10 : decode cX11_rider 10 = .ok (.iconst (-1), 1) := by decide +kernel
theorem dX11_rider_11 : decode cX11_rider 11 = .ok (.iconst 5, 1) := by decide +kernel
theorem dX11_rider_12 : decode cX11_rider 12 = .ok (.invokestatic 149, 3) := by decide +kernel
theorem dX11_rider_15 : decode cX11_rider 15 = .ok (.ifCond .ne 5, 3) := by decide +kernel
theorem dX11_rider_18 : decode cX11_rider 18 = .ok (.iconst (-1), 1) := by decide +kernel
theorem dX11_rider_19 : decode cX11_rider 19 = .ok (.ireturn, 1) := by decide +kernel
theorem dX11_rider_20 : decode cX11_rider 20 = .ok (.iconst 0, 1) := by decide +kernel
theorem dX11_rider_21 : decode cX11_rider 21 = .ok (.istore_n 2, 1) := by decide +kernel
theorem dX11_rider_22 : decode cX11_rider 22 = .ok (.iconst 0, 1) := by decide +kernel
theorem dX11_rider_23 : decode cX11_rider 23 = .ok (.istore_n 3, 1) := by decide +kernel
theorem dX11_rider_24 : decode cX11_rider 24 = .ok (.iload_n 3, 1) := by decide +kernel
theorem dX11_rider_25 : decode cX11_rider 25 = .ok (.aload_n 0, 1) := by decide +kernel
theorem dX11_rider_26 : decode cX11_rider 26 = .ok (.getfield 17, 3) := by decide +kernel
theorem dX11_rider_29 : decode cX11_rider 29 = .ok (.if_icmp .ge 32, 3) := by decide +kernel
theorem dX11_rider_32 : decode cX11_rider 32 = .ok (.iload_n 2, 1) := by decide +kernel
theorem dX11_rider_33 : decode cX11_rider 33 = .ok (.iload_n 1, 1) := by decide +kernel
theorem dX11_rider_34 : decode cX11_rider 34 = .ok (.iconst (-1), 1) := by decide +kernel
theorem dX11_rider_35 : decode cX11_rider 35 = .ok (.if_icmp .eq 17, 3) := by decide +kernel
theorem dX11_rider_38 : decode cX11_rider 38 = .ok (.aload_n 0, 1) := by decide +kernel
theorem dX11_rider_39 : decode cX11_rider 39 = .ok (.getfield 20, 3) := by decide +kernel
theorem dX11_rider_42 : decode cX11_rider 42 = .ok (.iload_n 3, 1) := by decide +kernel
theorem dX11_rider_43 : decode cX11_rider 43 = .ok (.iaload, 1) := by decide +kernel
theorem dX11_rider_44 : decode cX11_rider 44 = .ok (.iload_n 1, 1) := by decide +kernel
theorem dX11_rider_45 : decode cX11_rider 45 = .ok (.if_icmp .ne 7, 3) := by decide +kernel
theorem dX11_rider_48 : decode cX11_rider 48 = .ok (.iconst 1, 1) := by decide +kernel
theorem dX11_rider_49 : decode cX11_rider 49 = .ok (.goto 4, 3) := by decide +kernel
theorem dX11_rider_52 : decode cX11_rider 52 = .ok (.iconst 0, 1) := by decide +kernel
theorem dX11_rider_53 : decode cX11_rider 53 = .ok (.iadd, 1) := by decide +kernel
theorem dX11_rider_54 : decode cX11_rider 54 = .ok (.istore_n 2, 1) := by decide +kernel
theorem dX11_rider_55 : decode cX11_rider 55 = .ok (.iinc 3 1, 3) := by decide +kernel
theorem dX11_rider_58 : decode cX11_rider 58 = .ok (.goto (-34), 3) := by decide +kernel
theorem dX11_rider_61 : decode cX11_rider 61 = .ok (.iload_n 2, 1) := by decide +kernel
theorem dX11_rider_62 : decode cX11_rider 62 = .ok (.iconst 4, 1) := by decide +kernel
theorem dX11_rider_63 : decode cX11_rider 63 = .ok (.if_icmp .ne 5, 3) := by decide +kernel
theorem dX11_rider_66 : decode cX11_rider 66 = .ok (.iconst (-1), 1) := by decide +kernel
theorem dX11_rider_67 : decode cX11_rider 67 = .ok (.ireturn, 1) := by decide +kernel
theorem dX11_rider_68 : decode cX11_rider 68 = .ok (.aload_n 0, 1) := by decide +kernel
theorem dX11_rider_69 : decode cX11_rider 69 = .ok (.getfield 20, 3) := by decide +kernel
theorem dX11_rider_72 : decode cX11_rider 72 = .ok (.aload_n 0, 1) := by decide +kernel
theorem dX11_rider_73 : decode cX11_rider 73 = .ok (.getfield 17, 3) := by decide +kernel
theorem dX11_rider_76 : decode cX11_rider 76 = .ok (.iload_n 1, 1) := by decide +kernel
theorem dX11_rider_77 : decode cX11_rider 77 = .ok (.iastore, 1) := by decide +kernel
theorem dX11_rider_78 : decode cX11_rider 78 = .ok (.aload_n 0, 1) := by decide +kernel
theorem dX11_rider_79 : decode cX11_rider 79 = .ok (.dup, 1) := by decide +kernel
theorem dX11_rider_80 : decode cX11_rider 80 = .ok (.getfield 17, 3) := by decide +kernel
theorem dX11_rider_83 : decode cX11_rider 83 = .ok (.iconst 1, 1) := by decide +kernel
theorem dX11_rider_84 : decode cX11_rider 84 = .ok (.iadd, 1) := by decide +kernel
theorem dX11_rider_85 : decode cX11_rider 85 = .ok (.putfield 17, 3) := by decide +kernel
theorem dX11_rider_88 : decode cX11_rider 88 = .ok (.aload_n 0, 1) := by decide +kernel
theorem dX11_rider_89 : decode cX11_rider 89 = .ok (.getfield 17, 3) := by decide +kernel
theorem dX11_rider_92 : decode cX11_rider 92 = .ok (.iconst 1, 1) := by decide +kernel
theorem dX11_rider_93 : decode cX11_rider 93 = .ok (.isub, 1) := by decide +kernel
theorem dX11_rider_94 : decode cX11_rider 94 = .ok (.ireturn, 1) := by decide +kernel
theorem dX11_fence_0 : decode cX11_fence 0 = .ok (.iload_n 1, 1) := by decide +kernel
theorem dX11_fence_1 : decode cX11_fence 1 = .ok (.iconst 0, 1) := by decide +kernel
theorem dX11_fence_2 : decode cX11_fence 2 = .ok (.sipush 2000, 3) := by decide +kernel
theorem dX11_fence_5 : decode cX11_fence 5 = .ok (.invokestatic 149, 3) := by decide +kernel
theorem dX11_fence_8 : decode cX11_fence 8 = .ok (.ifCond .eq 12, 3) := by decide +kernel
theorem dX11_fence_11 : decode cX11_fence 11 = .ok (.aload_n 0, 1) := by decide +kernel
theorem dX11_fence_12 : decode cX11_fence 12 = .ok (.getfield 23, 3) := by decide +kernel
theorem dX11_fence_15 : decode cX11_fence 15 = .ok (.bipush 30, 2) := by decide +kernel
theorem dX11_fence_17 : decode cX11_fence 17 = .ok (.if_icmp .ne 5, 3) := by decide +kernel
theorem dX11_fence_20 : decode cX11_fence 20 = .ok (.iconst (-1), 1) := by decide +kernel
theorem dX11_fence_21 : decode cX11_fence 21 = .ok (.ireturn, 1) := by decide +kernel
theorem dX11_fence_22 : decode cX11_fence 22 = .ok (.aload_n 0, 1) := by decide +kernel
theorem dX11_fence_23 : decode cX11_fence 23 = .ok (.getfield 26, 3) := by decide +kernel
theorem dX11_fence_26 : decode cX11_fence 26 = .ok (.aload_n 0, 1) := by decide +kernel
theorem dX11_fence_27 : decode cX11_fence 27 = .ok (.getfield 23, 3) := by decide +kernel
theorem dX11_fence_30 : decode cX11_fence 30 = .ok (.iload_n 1, 1) := by decide +kernel
theorem dX11_fence_31 : decode cX11_fence 31 = .ok (.iastore, 1) := by decide +kernel
theorem dX11_fence_32 : decode cX11_fence 32 = .ok (.aload_n 0, 1) := by decide +kernel
theorem dX11_fence_33 : decode cX11_fence 33 = .ok (.getfield 29, 3) := by decide +kernel
theorem dX11_fence_36 : decode cX11_fence 36 = .ok (.aload_n 0, 1) := by decide +kernel
theorem dX11_fence_37 : decode cX11_fence 37 = .ok (.getfield 23, 3) := by decide +kernel
theorem dX11_fence_40 : decode cX11_fence 40 = .ok (.iconst (-1), 1) := by decide +kernel
theorem dX11_fence_41 : decode cX11_fence 41 = .ok (.iastore, 1) := by decide +kernel
theorem dX11_fence_42 : decode cX11_fence 42 = .ok (.aload_n 0, 1) := by decide +kernel
theorem dX11_fence_43 : decode cX11_fence 43 = .ok (.dup, 1) := by decide +kernel
theorem dX11_fence_44 : decode cX11_fence 44 = .ok (.getfield 23, 3) := by decide +kernel
theorem dX11_fence_47 : decode cX11_fence 47 = .ok (.iconst 1, 1) := by decide +kernel
theorem dX11_fence_48 : decode cX11_fence 48 = .ok (.iadd, 1) := by decide +kernel
theorem dX11_fence_49 : decode cX11_fence 49 = .ok (.putfield 23, 3) := by decide +kernel
theorem dX11_fence_52 : decode cX11_fence 52 = .ok (.aload_n 0, 1) := by decide +kernel
theorem dX11_fence_53 : decode cX11_fence 53 = .ok (.getfield 23, 3) := by decide +kernel
theorem dX11_fence_56 : decode cX11_fence 56 = .ok (.ireturn, 1) := by decide +kernel
theorem dX11_optimum_0 : decode cX11_optimum 0 = .ok (.aload_n 0, 1) := by decide +kernel
theorem dX11_optimum_1 : decode cX11_optimum 1 = .ok (.getfield 35, 3) := by decide +kernel
theorem dX11_optimum_4 : decode cX11_optimum 4 = .ok (.istore_n 1, 1) := by decide +kernel
theorem dX11_optimum_5 : decode cX11_optimum 5 = .ok (.iconst 0, 1) := by decide +kernel
theorem dX11_optimum_6 : decode cX11_optimum 6 = .ok (.istore_n 2, 1) := by decide +kernel
theorem dX11_optimum_7 : decode cX11_optimum 7 = .ok (.iload_n 2, 1) := by decide +kernel
theorem dX11_optimum_8 : decode cX11_optimum 8 = .ok (.aload_n 0, 1) := by decide +kernel
theorem dX11_optimum_9 : decode cX11_optimum 9 = .ok (.getfield 23, 3) := by decide +kernel
theorem dX11_optimum_12 : decode cX11_optimum 12 = .ok (.if_icmp .ge 18, 3) := by decide +kernel
theorem dX11_optimum_15 : decode cX11_optimum 15 = .ok (.iload_n 1, 1) := by decide +kernel
theorem dX11_optimum_16 : decode cX11_optimum 16 = .ok (.aload_n 0, 1) := by decide +kernel
theorem dX11_optimum_17 : decode cX11_optimum 17 = .ok (.getfield 26, 3) := by decide +kernel
theorem dX11_optimum_20 : decode cX11_optimum 20 = .ok (.iload_n 2, 1) := by decide +kernel
theorem dX11_optimum_21 : decode cX11_optimum 21 = .ok (.iaload, 1) := by decide +kernel
theorem dX11_optimum_22 : decode cX11_optimum 22 = .ok (.iadd, 1) := by decide +kernel
theorem dX11_optimum_23 : decode cX11_optimum 23 = .ok (.istore_n 1, 1) := by decide +kernel
theorem dX11_optimum_24 : decode cX11_optimum 24 = .ok (.iinc 2 1, 3) := by decide +kernel
theorem dX11_optimum_27 : decode cX11_optimum 27 = .ok (.goto (-20), 3) := by decide +kernel
theorem dX11_optimum_30 : decode cX11_optimum 30 = .ok (.bipush 60, 2) := by decide +kernel
theorem dX11_optimum_32 : decode cX11_optimum 32 = .ok (.iload_n 1, 1) := by decide +kernel
theorem dX11_optimum_33 : decode cX11_optimum 33 = .ok (.imul, 1) := by decide +kernel
theorem dX11_optimum_34 : decode cX11_optimum 34 = .ok (.aload_n 0, 1) := by decide +kernel
theorem dX11_optimum_35 : decode cX11_optimum 35 = .ok (.getfield 38, 3) := by decide +kernel
theorem dX11_optimum_38 : decode cX11_optimum 38 = .ok (.iadd, 1) := by decide +kernel
theorem dX11_optimum_39 : decode cX11_optimum 39 = .ok (.iconst 1, 1) := by decide +kernel
theorem dX11_optimum_40 : decode cX11_optimum 40 = .ok (.isub, 1) := by decide +kernel
theorem dX11_optimum_41 : decode cX11_optimum 41 = .ok (.aload_n 0, 1) := by decide +kernel
theorem dX11_optimum_42 : decode cX11_optimum 42 = .ok (.getfield 38, 3) := by decide +kernel
theorem dX11_optimum_45 : decode cX11_optimum 45 = .ok (.idiv, 1) := by decide +kernel
theorem dX11_optimum_46 : decode cX11_optimum 46 = .ok (.ireturn, 1) := by decide +kernel
theorem dX11_course_0 : decode cX11_course 0 = .ok (.iload_n 1, 1) := by decide +kernel
theorem dX11_course_1 : decode cX11_course 1 = .ok (.iconst 0, 1) := by decide +kernel
theorem dX11_course_2 : decode cX11_course 2 = .ok (.sipush 2000, 3) := by decide +kernel
theorem dX11_course_5 : decode cX11_course 5 = .ok (.invokestatic 149, 3) := by decide +kernel
theorem dX11_course_8 : decode cX11_course 8 = .ok (.ifCond .eq 15, 3) := by decide +kernel
theorem dX11_course_11 : decode cX11_course 11 = .ok (.iload_n 2, 1) := by decide +kernel
theorem dX11_course_12 : decode cX11_course 12 = .ok (.bipush 100, 2) := by decide +kernel
theorem dX11_course_14 : decode cX11_course 14 = .ok (.sipush 700, 3) := by decide +kernel
theorem dX11_course_17 : decode cX11_course 17 = .ok (.invokestatic 149, 3) := by decide +kernel
theorem dX11_course_20 : decode cX11_course 20 = .ok (.ifCond .ne 5, 3) := by decide +kernel
theorem dX11_course_23 : decode cX11_course 23 = .ok (.iconst (-1), 1) := by decide +kernel
theorem dX11_course_24 : decode cX11_course 24 = .ok (.ireturn, 1) := by decide +kernel
theorem dX11_course_25 : decode cX11_course 25 = .ok (.aload_n 0, 1) := by decide +kernel
theorem dX11_course_26 : decode cX11_course 26 = .ok (.iload_n 1, 1) := by decide +kernel
theorem dX11_course_27 : decode cX11_course 27 = .ok (.putfield 35, 3) := by decide +kernel
theorem dX11_course_30 : decode cX11_course 30 = .ok (.aload_n 0, 1) := by decide +kernel
theorem dX11_course_31 : decode cX11_course 31 = .ok (.iload_n 2, 1) := by decide +kernel
theorem dX11_course_32 : decode cX11_course 32 = .ok (.putfield 38, 3) := by decide +kernel
theorem dX11_course_35 : decode cX11_course 35 = .ok (.aload_n 0, 1) := by decide +kernel
theorem dX11_course_36 : decode cX11_course 36 = .ok (.invokevirtual 153, 3) := by decide +kernel
theorem dX11_course_39 : decode cX11_course 39 = .ok (.ireturn, 1) := by decide +kernel
theorem dX11_clock_0 : decode cX11_clock 0 = .ok (.iload_n 1, 1) := by decide +kernel
theorem dX11_clock_1 : decode cX11_clock 1 = .ok (.ifCond .lt 26, 3) := by decide +kernel
theorem dX11_clock_4 : decode cX11_clock 4 = .ok (.iload_n 1, 1) := by decide +kernel
theorem dX11_clock_5 : decode cX11_clock 5 = .ok (.aload_n 0, 1) := by decide +kernel
theorem dX11_clock_6 : decode cX11_clock 6 = .ok (.getfield 23, 3) := by decide +kernel
theorem dX11_clock_9 : decode cX11_clock 9 = .ok (.iconst 1, 1) := by decide +kernel
theorem dX11_clock_10 : decode cX11_clock 10 = .ok (.iadd, 1) := by decide +kernel
theorem dX11_clock_11 : decode cX11_clock 11 = .ok (.if_icmp .gt 16, 3) := by decide +kernel
theorem dX11_clock_14 : decode cX11_clock 14 = .ok (.iload_n 2, 1) := by decide +kernel
theorem dX11_clock_15 : decode cX11_clock 15 = .ok (.sipush (-600), 3) := by decide +kernel
theorem dX11_clock_18 : decode cX11_clock 18 = .ok (.sipush 600, 3) := by decide +kernel
theorem dX11_clock_21 : decode cX11_clock 21 = .ok (.invokestatic 149, 3) := by decide +kernel
theorem dX11_clock_24 : decode cX11_clock 24 = .ok (.ifCond .ne 5, 3) := by decide +kernel
theorem dX11_clock_27 : decode cX11_clock 27 = .ok (.iconst 0, 1) := by decide +kernel
theorem dX11_clock_28 : decode cX11_clock 28 = .ok (.ireturn, 1) := by decide +kernel
theorem dX11_clock_29 : decode cX11_clock 29 = .ok (.aload_n 0, 1) := by decide +kernel
theorem dX11_clock_30 : decode cX11_clock 30 = .ok (.getfield 32, 3) := by decide +kernel
theorem dX11_clock_33 : decode cX11_clock 33 = .ok (.iload_n 1, 1) := by decide +kernel
theorem dX11_clock_34 : decode cX11_clock 34 = .ok (.iload_n 2, 1) := by decide +kernel
theorem dX11_clock_35 : decode cX11_clock 35 = .ok (.iastore, 1) := by decide +kernel
theorem dX11_clock_36 : decode cX11_clock 36 = .ok (.iconst 1, 1) := by decide +kernel
theorem dX11_clock_37 : decode cX11_clock 37 = .ok (.ireturn, 1) := by decide +kernel
theorem dX11_out_0 : decode cX11_out 0 = .ok (.iload_n 1, 1) := by decide +kernel
theorem dX11_out_1 : decode cX11_out 1 = .ok (.ifCond .lt 21, 3) := by decide +kernel
theorem dX11_out_4 : decode cX11_out 4 = .ok (.iload_n 1, 1) := by decide +kernel
theorem dX11_out_5 : decode cX11_out 5 = .ok (.aload_n 0, 1) := by decide +kernel
theorem dX11_out_6 : decode cX11_out 6 = .ok (.getfield 23, 3) := by decide +kernel
theorem dX11_out_9 : decode cX11_out 9 = .ok (.if_icmp .ge 13, 3) := by decide +kernel
theorem dX11_out_12 : decode cX11_out 12 = .ok (.iload_n 2, 1) := by decide +kernel
theorem dX11_out_13 : decode cX11_out 13 = .ok (.iconst (-1), 1) := by decide +kernel
theorem dX11_out_14 : decode cX11_out 14 = .ok (.ldc 157, 2) := by decide +kernel
theorem dX11_out_16 : decode cX11_out 16 = .ok (.invokestatic 149, 3) := by decide +kernel
theorem dX11_out_19 : decode cX11_out 19 = .ok (.ifCond .ne 5, 3) := by decide +kernel
theorem dX11_out_22 : decode cX11_out 22 = .ok (.iconst 0, 1) := by decide +kernel
theorem dX11_out_23 : decode cX11_out 23 = .ok (.ireturn, 1) := by decide +kernel
theorem dX11_out_24 : decode cX11_out 24 = .ok (.aload_n 0, 1) := by decide +kernel
theorem dX11_out_25 : decode cX11_out 25 = .ok (.getfield 29, 3) := by decide +kernel
theorem dX11_out_28 : decode cX11_out 28 = .ok (.iload_n 1, 1) := by decide +kernel
theorem dX11_out_29 : decode cX11_out 29 = .ok (.iload_n 2, 1) := by decide +kernel
theorem dX11_out_30 : decode cX11_out 30 = .ok (.iastore, 1) := by decide +kernel
theorem dX11_out_31 : decode cX11_out 31 = .ok (.iconst 1, 1) := by decide +kernel
theorem dX11_out_32 : decode cX11_out 32 = .ok (.ireturn, 1) := by decide +kernel
theorem dX11_isSecond_0 : decode cX11_isSecond 0 = .ok (.iload_n 0, 1) := by decide +kernel
theorem dX11_isSecond_1 : decode cX11_isSecond 1 = .ok (.ifCond .lt 13, 3) := by decide +kernel
theorem dX11_isSecond_4 : decode cX11_isSecond 4 = .ok (.iload_n 0, 1) := by decide +kernel
theorem dX11_isSecond_5 : decode cX11_isSecond 5 = .ok (.ldc 158, 2) := by decide +kernel
theorem dX11_isSecond_7 : decode cX11_isSecond 7 = .ok (.if_icmp .ge 7, 3) := by decide +kernel
theorem dX11_isSecond_10 : decode cX11_isSecond 10 = .ok (.iconst 1, 1) := by decide +kernel
theorem dX11_isSecond_11 : decode cX11_isSecond 11 = .ok (.goto 4, 3) := by decide +kernel
theorem dX11_isSecond_14 : decode cX11_isSecond 14 = .ok (.iconst 0, 1) := by decide +kernel
theorem dX11_isSecond_15 : decode cX11_isSecond 15 = .ok (.ireturn, 1) := by decide +kernel
theorem dX11_may_0 : decode cX11_may 0 = .ok (.iload_n 2, 1) := by decide +kernel
theorem dX11_may_1 : decode cX11_may 1 = .ok (.ifCond .lt 15, 3) := by decide +kernel
theorem dX11_may_4 : decode cX11_may 4 = .ok (.iload_n 2, 1) := by decide +kernel
theorem dX11_may_5 : decode cX11_may 5 = .ok (.aload_n 0, 1) := by decide +kernel
theorem dX11_may_6 : decode cX11_may 6 = .ok (.getfield 23, 3) := by decide +kernel
theorem dX11_may_9 : decode cX11_may 9 = .ok (.if_icmp .ge 7, 3) := by decide +kernel
theorem dX11_may_12 : decode cX11_may 12 = .ok (.iconst 1, 1) := by decide +kernel
theorem dX11_may_13 : decode cX11_may 13 = .ok (.goto 4, 3) := by decide +kernel
theorem dX11_may_16 : decode cX11_may 16 = .ok (.iconst 0, 1) := by decide +kernel
theorem dX11_may_17 : decode cX11_may 17 = .ok (.istore 5, 2) := by decide +kernel
theorem dX11_may_19 : decode cX11_may 19 = .ok (.iload_n 1, 1) := by decide +kernel
theorem dX11_may_20 : decode cX11_may 20 = .ok (.tableswitch 124 0 11 #[64, 73, 73, 78, 78, 78, 78, 81, 122, 113, 122, 122], 64) := by decide +kernel
theorem dX11_may_84 : decode cX11_may 84 = .ok (.iload_n 3, 1) := by decide +kernel
theorem dX11_may_85 : decode cX11_may 85 = .ok (.iconst 0, 1) := by decide +kernel
theorem dX11_may_86 : decode cX11_may 86 = .ok (.sipush 10000, 3) := by decide +kernel
theorem dX11_may_89 : decode cX11_may 89 = .ok (.invokestatic 149, 3) := by decide +kernel
theorem dX11_may_92 : decode cX11_may 92 = .ok (.ireturn, 1) := by decide +kernel
theorem dX11_may_93 : decode cX11_may 93 = .ok (.iload_n 3, 1) := by decide +kernel
theorem dX11_may_94 : decode cX11_may 94 = .ok (.invokestatic 159, 3) := by decide +kernel
theorem dX11_may_97 : decode cX11_may 97 = .ok (.ireturn, 1) := by decide +kernel
theorem dX11_may_98 : decode cX11_may 98 = .ok (.iload 5, 2) := by decide +kernel
theorem dX11_may_100 : decode cX11_may 100 = .ok (.ireturn, 1) := by decide +kernel
theorem dX11_may_101 : decode cX11_may 101 = .ok (.iload 5, 2) := by decide +kernel
theorem dX11_may_103 : decode cX11_may 103 = .ok (.ifCond .eq 28, 3) := by decide +kernel
theorem dX11_may_106 : decode cX11_may 106 = .ok (.iload_n 3, 1) := by decide +kernel
theorem dX11_may_107 : decode cX11_may 107 = .ok (.invokestatic 159, 3) := by decide +kernel
theorem dX11_may_110 : decode cX11_may 110 = .ok (.ifCond .eq 21, 3) := by decide +kernel
theorem dX11_may_113 : decode cX11_may 113 = .ok (.iload 4, 2) := by decide +kernel
theorem dX11_may_115 : decode cX11_may 115 = .ok (.invokestatic 159, 3) := by decide +kernel
theorem dX11_may_118 : decode cX11_may 118 = .ok (.ifCond .eq 13, 3) := by decide +kernel
theorem dX11_may_121 : decode cX11_may 121 = .ok (.iload_n 3, 1) := by decide +kernel
theorem dX11_may_122 : decode cX11_may 122 = .ok (.iload 4, 2) := by decide +kernel
theorem dX11_may_124 : decode cX11_may 124 = .ok (.if_icmp .gt 7, 3) := by decide +kernel
theorem dX11_may_127 : decode cX11_may 127 = .ok (.iconst 1, 1) := by decide +kernel
theorem dX11_may_128 : decode cX11_may 128 = .ok (.goto 4, 3) := by decide +kernel
theorem dX11_may_131 : decode cX11_may 131 = .ok (.iconst 0, 1) := by decide +kernel
theorem dX11_may_132 : decode cX11_may 132 = .ok (.ireturn, 1) := by decide +kernel
theorem dX11_may_133 : decode cX11_may 133 = .ok (.iload_n 3, 1) := by decide +kernel
theorem dX11_may_134 : decode cX11_may 134 = .ok (.iconst 0, 1) := by decide +kernel
theorem dX11_may_135 : decode cX11_may 135 = .ok (.sipush 9999, 3) := by decide +kernel
theorem dX11_may_138 : decode cX11_may 138 = .ok (.invokestatic 149, 3) := by decide +kernel
theorem dX11_may_141 : decode cX11_may 141 = .ok (.ireturn, 1) := by decide +kernel
theorem dX11_may_142 : decode cX11_may 142 = .ok (.iconst 1, 1) := by decide +kernel
theorem dX11_may_143 : decode cX11_may 143 = .ok (.ireturn, 1) := by decide +kernel
theorem dX11_may_144 : decode cX11_may 144 = .ok (.iconst 0, 1) := by decide +kernel
theorem dX11_may_145 : decode cX11_may 145 = .ok (.ireturn, 1) := by decide +kernel
theorem dX11_report_0 : decode cX11_report 0 = .ok (.iload_n 1, 1) := by decide +kernel
theorem dX11_report_1 : decode cX11_report 1 = .ok (.ifCond .lt 34, 3) := by decide +kernel
theorem dX11_report_4 : decode cX11_report 4 = .ok (.iload_n 1, 1) := by decide +kernel
theorem dX11_report_5 : decode cX11_report 5 = .ok (.aload_n 0, 1) := by decide +kernel
theorem dX11_report_6 : decode cX11_report 6 = .ok (.getfield 17, 3) := by decide +kernel
theorem dX11_report_9 : decode cX11_report 9 = .ok (.if_icmp .ge 26, 3) := by decide +kernel
theorem dX11_report_12 : decode cX11_report 12 = .ok (.aload_n 0, 1) := by decide +kernel
theorem dX11_report_13 : decode cX11_report 13 = .ok (.getfield 41, 3) := by decide +kernel
theorem dX11_report_16 : decode cX11_report 16 = .ok (.sipush 400, 3) := by decide +kernel
theorem dX11_report_19 : decode cX11_report 19 = .ok (.if_icmp .eq 16, 3) := by decide +kernel
theorem dX11_report_22 : decode cX11_report 22 = .ok (.aload_n 0, 1) := by decide +kernel
theorem dX11_report_23 : decode cX11_report 23 = .ok (.iload_n 2, 1) := by decide +kernel
theorem dX11_report_24 : decode cX11_report 24 = .ok (.iload_n 3, 1) := by decide +kernel
theorem dX11_report_25 : decode cX11_report 25 = .ok (.iload 4, 2) := by decide +kernel
theorem dX11_report_27 : decode cX11_report 27 = .ok (.iload 5, 2) := by decide +kernel
theorem dX11_report_29 : decode cX11_report 29 = .ok (.invokevirtual 163, 3) := by decide +kernel
theorem dX11_report_32 : decode cX11_report 32 = .ok (.ifCond .ne 5, 3) := by decide +kernel
theorem dX11_report_35 : decode cX11_report 35 = .ok (.iconst (-1), 1) := by decide +kernel
theorem dX11_report_36 : decode cX11_report 36 = .ok (.ireturn, 1) := by decide +kernel
theorem dX11_report_37 : decode cX11_report 37 = .ok (.aload_n 0, 1) := by decide +kernel
theorem dX11_report_38 : decode cX11_report 38 = .ok (.dup, 1) := by decide +kernel
theorem dX11_report_39 : decode cX11_report 39 = .ok (.getfield 41, 3) := by decide +kernel
theorem dX11_report_42 : decode cX11_report 42 = .ok (.iconst 1, 1) := by decide +kernel
theorem dX11_report_43 : decode cX11_report 43 = .ok (.iadd, 1) := by decide +kernel
theorem dX11_report_44 : decode cX11_report 44 = .ok (.putfield 41, 3) := by decide +kernel
theorem dX11_report_47 : decode cX11_report 47 = .ok (.aload_n 0, 1) := by decide +kernel
theorem dX11_report_48 : decode cX11_report 48 = .ok (.getfield 44, 3) := by decide +kernel
theorem dX11_report_51 : decode cX11_report 51 = .ok (.aload_n 0, 1) := by decide +kernel
theorem dX11_report_52 : decode cX11_report 52 = .ok (.getfield 41, 3) := by decide +kernel
theorem dX11_report_55 : decode cX11_report 55 = .ok (.iload_n 1, 1) := by decide +kernel
theorem dX11_report_56 : decode cX11_report 56 = .ok (.iastore, 1) := by decide +kernel
theorem dX11_report_57 : decode cX11_report 57 = .ok (.aload_n 0, 1) := by decide +kernel
theorem dX11_report_58 : decode cX11_report 58 = .ok (.getfield 47, 3) := by decide +kernel
theorem dX11_report_61 : decode cX11_report 61 = .ok (.aload_n 0, 1) := by decide +kernel
theorem dX11_report_62 : decode cX11_report 62 = .ok (.getfield 41, 3) := by decide +kernel
theorem dX11_report_65 : decode cX11_report 65 = .ok (.iload_n 2, 1) := by decide +kernel
theorem dX11_report_66 : decode cX11_report 66 = .ok (.iastore, 1) := by decide +kernel
theorem dX11_report_67 : decode cX11_report 67 = .ok (.aload_n 0, 1) := by decide +kernel
theorem dX11_report_68 : decode cX11_report 68 = .ok (.getfield 50, 3) := by decide +kernel
theorem dX11_report_71 : decode cX11_report 71 = .ok (.aload_n 0, 1) := by decide +kernel
theorem dX11_report_72 : decode cX11_report 72 = .ok (.getfield 41, 3) := by decide +kernel
theorem dX11_report_75 : decode cX11_report 75 = .ok (.iload_n 3, 1) := by decide +kernel
theorem dX11_report_76 : decode cX11_report 76 = .ok (.iastore, 1) := by decide +kernel
theorem dX11_report_77 : decode cX11_report 77 = .ok (.aload_n 0, 1) := by decide +kernel
theorem dX11_report_78 : decode cX11_report 78 = .ok (.getfield 53, 3) := by decide +kernel
theorem dX11_report_81 : decode cX11_report 81 = .ok (.aload_n 0, 1) := by decide +kernel
theorem dX11_report_82 : decode cX11_report 82 = .ok (.getfield 41, 3) := by decide +kernel
theorem dX11_report_85 : decode cX11_report 85 = .ok (.iload 4, 2) := by decide +kernel
theorem dX11_report_87 : decode cX11_report 87 = .ok (.iastore, 1) := by decide +kernel
theorem dX11_report_88 : decode cX11_report 88 = .ok (.aload_n 0, 1) := by decide +kernel
theorem dX11_report_89 : decode cX11_report 89 = .ok (.getfield 56, 3) := by decide +kernel
theorem dX11_report_92 : decode cX11_report 92 = .ok (.aload_n 0, 1) := by decide +kernel
theorem dX11_report_93 : decode cX11_report 93 = .ok (.getfield 41, 3) := by decide +kernel
theorem dX11_report_96 : decode cX11_report 96 = .ok (.iload 5, 2) := by decide +kernel
theorem dX11_report_98 : decode cX11_report 98 = .ok (.iastore, 1) := by decide +kernel
theorem dX11_report_99 : decode cX11_report 99 = .ok (.aload_n 0, 1) := by decide +kernel
theorem dX11_report_100 : decode cX11_report 100 = .ok (.getfield 59, 3) := by decide +kernel
theorem dX11_report_103 : decode cX11_report 103 = .ok (.aload_n 0, 1) := by decide +kernel
theorem dX11_report_104 : decode cX11_report 104 = .ok (.getfield 41, 3) := by decide +kernel
theorem dX11_report_107 : decode cX11_report 107 = .ok (.iconst 0, 1) := by decide +kernel
theorem dX11_report_108 : decode cX11_report 108 = .ok (.iastore, 1) := by decide +kernel
theorem dX11_report_109 : decode cX11_report 109 = .ok (.aload_n 0, 1) := by decide +kernel
theorem dX11_report_110 : decode cX11_report 110 = .ok (.getfield 41, 3) := by decide +kernel
theorem dX11_report_113 : decode cX11_report 113 = .ok (.ireturn, 1) := by decide +kernel
theorem dX11_strike_0 : decode cX11_strike 0 = .ok (.iload_n 1, 1) := by decide +kernel
theorem dX11_strike_1 : decode cX11_strike 1 = .ok (.iconst 1, 1) := by decide +kernel
theorem dX11_strike_2 : decode cX11_strike 2 = .ok (.if_icmp .lt 39, 3) := by decide +kernel
theorem dX11_strike_5 : decode cX11_strike 5 = .ok (.iload_n 1, 1) := by decide +kernel
theorem dX11_strike_6 : decode cX11_strike 6 = .ok (.aload_n 0, 1) := by decide +kernel
theorem dX11_strike_7 : decode cX11_strike 7 = .ok (.getfield 41, 3) := by decide +kernel
theorem dX11_strike_10 : decode cX11_strike 10 = .ok (.if_icmp .gt 31, 3) := by decide +kernel
theorem dX11_strike_13 : decode cX11_strike 13 = .ok (.aload_n 0, 1) := by decide +kernel
theorem dX11_strike_14 : decode cX11_strike 14 = .ok (.getfield 47, 3) := by decide +kernel
theorem dX11_strike_17 : decode cX11_strike 17 = .ok (.iload_n 1, 1) := by decide +kernel
theorem dX11_strike_18 : decode cX11_strike 18 = .ok (.iaload, 1) := by decide +kernel
theorem dX11_strike_19 : decode cX11_strike 19 = .ok (.ifCond .lt 22, 3) := by decide +kernel
theorem dX11_strike_22 : decode cX11_strike 22 = .ok (.aload_n 0, 1) := by decide +kernel
theorem dX11_strike_23 : decode cX11_strike 23 = .ok (.getfield 59, 3) := by decide +kernel
theorem dX11_strike_26 : decode cX11_strike 26 = .ok (.iload_n 1, 1) := by decide +kernel
theorem dX11_strike_27 : decode cX11_strike 27 = .ok (.iaload, 1) := by decide +kernel
theorem dX11_strike_28 : decode cX11_strike 28 = .ok (.ifCond .gt 13, 3) := by decide +kernel
theorem dX11_strike_31 : decode cX11_strike 31 = .ok (.aload_n 0, 1) := by decide +kernel
theorem dX11_strike_32 : decode cX11_strike 32 = .ok (.getfield 41, 3) := by decide +kernel
theorem dX11_strike_35 : decode cX11_strike 35 = .ok (.sipush 400, 3) := by decide +kernel
theorem dX11_strike_38 : decode cX11_strike 38 = .ok (.if_icmp .ne 5, 3) := by decide +kernel
theorem dX11_strike_41 : decode cX11_strike 41 = .ok (.iconst (-1), 1) := by decide +kernel
theorem dX11_strike_42 : decode cX11_strike 42 = .ok (.ireturn, 1) := by decide +kernel
theorem dX11_strike_43 : decode cX11_strike 43 = .ok (.aload_n 0, 1) := by decide +kernel
theorem dX11_strike_44 : decode cX11_strike 44 = .ok (.dup, 1) := by decide +kernel
theorem dX11_strike_45 : decode cX11_strike 45 = .ok (.getfield 41, 3) := by decide +kernel
theorem dX11_strike_48 : decode cX11_strike 48 = .ok (.iconst 1, 1) := by decide +kernel
theorem dX11_strike_49 : decode cX11_strike 49 = .ok (.iadd, 1) := by decide +kernel
theorem dX11_strike_50 : decode cX11_strike 50 = .ok (.putfield 41, 3) := by decide +kernel
theorem dX11_strike_53 : decode cX11_strike 53 = .ok (.aload_n 0, 1) := by decide +kernel
theorem dX11_strike_54 : decode cX11_strike 54 = .ok (.getfield 47, 3) := by decide +kernel
theorem dX11_strike_57 : decode cX11_strike 57 = .ok (.aload_n 0, 1) := by decide +kernel
theorem dX11_strike_58 : decode cX11_strike 58 = .ok (.getfield 41, 3) := by decide +kernel
theorem dX11_strike_61 : decode cX11_strike 61 = .ok (.iconst (-1), 1) := by decide +kernel
theorem dX11_strike_62 : decode cX11_strike 62 = .ok (.iastore, 1) := by decide +kernel
theorem dX11_strike_63 : decode cX11_strike 63 = .ok (.aload_n 0, 1) := by decide +kernel
theorem dX11_strike_64 : decode cX11_strike 64 = .ok (.getfield 59, 3) := by decide +kernel
theorem dX11_strike_67 : decode cX11_strike 67 = .ok (.iload_n 1, 1) := by decide +kernel
theorem dX11_strike_68 : decode cX11_strike 68 = .ok (.aload_n 0, 1) := by decide +kernel
theorem dX11_strike_69 : decode cX11_strike 69 = .ok (.getfield 41, 3) := by decide +kernel
theorem dX11_strike_72 : decode cX11_strike 72 = .ok (.iastore, 1) := by decide +kernel
theorem dX11_strike_73 : decode cX11_strike 73 = .ok (.aload_n 0, 1) := by decide +kernel
theorem dX11_strike_74 : decode cX11_strike 74 = .ok (.getfield 41, 3) := by decide +kernel
theorem dX11_strike_77 : decode cX11_strike 77 = .ok (.ireturn, 1) := by decide +kernel
theorem dX11_as_0 : decode cX11_as 0 = .ok (.iload_n 1, 1) := by decide +kernel
theorem dX11_as_1 : decode cX11_as 1 = .ok (.iconst (-1), 1) := by decide +kernel
theorem dX11_as_2 : decode cX11_as 2 = .ok (.aload_n 0, 1) := by decide +kernel
theorem dX11_as_3 : decode cX11_as 3 = .ok (.getfield 41, 3) := by decide +kernel
theorem dX11_as_6 : decode cX11_as 6 = .ok (.invokestatic 149, 3) := by decide +kernel
theorem dX11_as_9 : decode cX11_as 9 = .ok (.ifCond .ne 5, 3) := by decide +kernel
theorem dX11_as_12 : decode cX11_as 12 = .ok (.iconst 0, 1) := by decide +kernel
theorem dX11_as_13 : decode cX11_as 13 = .ok (.ireturn, 1) := by decide +kernel
theorem dX11_as_14 : decode cX11_as 14 = .ok (.aload_n 0, 1) := by decide +kernel
theorem dX11_as_15 : decode cX11_as 15 = .ok (.iload_n 1, 1) := by decide +kernel
theorem dX11_as_16 : decode cX11_as 16 = .ok (.putfield 62, 3) := by decide +kernel
theorem dX11_as_19 : decode cX11_as 19 = .ok (.iconst 1, 1) := by decide +kernel
theorem dX11_as_20 : decode cX11_as 20 = .ok (.ireturn, 1) := by decide +kernel
theorem dX11_known_0 : decode cX11_known 0 = .ok (.aload_n 0, 1) := by decide +kernel
theorem dX11_known_1 : decode cX11_known 1 = .ok (.getfield 62, 3) := by decide +kernel
theorem dX11_known_4 : decode cX11_known 4 = .ok (.iconst (-1), 1) := by decide +kernel
theorem dX11_known_5 : decode cX11_known 5 = .ok (.if_icmp .ne 10, 3) := by decide +kernel
theorem dX11_known_8 : decode cX11_known 8 = .ok (.aload_n 0, 1) := by decide +kernel
theorem dX11_known_9 : decode cX11_known 9 = .ok (.getfield 41, 3) := by decide +kernel
theorem dX11_known_12 : decode cX11_known 12 = .ok (.goto 7, 3) := by decide +kernel
theorem dX11_known_15 : decode cX11_known 15 = .ok (.aload_n 0, 1) := by decide +kernel
theorem dX11_known_16 : decode cX11_known 16 = .ok (.getfield 62, 3) := by decide +kernel
theorem dX11_known_19 : decode cX11_known 19 = .ok (.ireturn, 1) := by decide +kernel
theorem dX11_stands_0 : decode cX11_stands 0 = .ok (.aload_n 0, 1) := by decide +kernel
theorem dX11_stands_1 : decode cX11_stands 1 = .ok (.getfield 47, 3) := by decide +kernel
theorem dX11_stands_4 : decode cX11_stands 4 = .ok (.iload_n 1, 1) := by decide +kernel
theorem dX11_stands_5 : decode cX11_stands 5 = .ok (.iaload, 1) := by decide +kernel
theorem dX11_stands_6 : decode cX11_stands 6 = .ok (.ifCond .lt 36, 3) := by decide +kernel
theorem dX11_stands_9 : decode cX11_stands 9 = .ok (.aload_n 0, 1) := by decide +kernel
theorem dX11_stands_10 : decode cX11_stands 10 = .ok (.getfield 44, 3) := by decide +kernel
theorem dX11_stands_13 : decode cX11_stands 13 = .ok (.iload_n 1, 1) := by decide +kernel
theorem dX11_stands_14 : decode cX11_stands 14 = .ok (.iaload, 1) := by decide +kernel
theorem dX11_stands_15 : decode cX11_stands 15 = .ok (.iload_n 2, 1) := by decide +kernel
theorem dX11_stands_16 : decode cX11_stands 16 = .ok (.if_icmp .ne 26, 3) := by decide +kernel
theorem dX11_stands_19 : decode cX11_stands 19 = .ok (.aload_n 0, 1) := by decide +kernel
theorem dX11_stands_20 : decode cX11_stands 20 = .ok (.getfield 59, 3) := by decide +kernel
theorem dX11_stands_23 : decode cX11_stands 23 = .ok (.iload_n 1, 1) := by decide +kernel
theorem dX11_stands_24 : decode cX11_stands 24 = .ok (.iaload, 1) := by decide +kernel
theorem dX11_stands_25 : decode cX11_stands 25 = .ok (.ifCond .eq 13, 3) := by decide +kernel
theorem dX11_stands_28 : decode cX11_stands 28 = .ok (.aload_n 0, 1) := by decide +kernel
theorem dX11_stands_29 : decode cX11_stands 29 = .ok (.getfield 59, 3) := by decide +kernel
theorem dX11_stands_32 : decode cX11_stands 32 = .ok (.iload_n 1, 1) := by decide +kernel
theorem dX11_stands_33 : decode cX11_stands 33 = .ok (.iaload, 1) := by decide +kernel
theorem dX11_stands_34 : decode cX11_stands 34 = .ok (.iload_n 3, 1) := by decide +kernel
theorem dX11_stands_35 : decode cX11_stands 35 = .ok (.if_icmp .le 7, 3) := by decide +kernel
theorem dX11_stands_38 : decode cX11_stands 38 = .ok (.iconst 1, 1) := by decide +kernel
theorem dX11_stands_39 : decode cX11_stands 39 = .ok (.goto 4, 3) := by decide +kernel
theorem dX11_stands_42 : decode cX11_stands 42 = .ok (.iconst 0, 1) := by decide +kernel
theorem dX11_stands_43 : decode cX11_stands 43 = .ok (.ireturn, 1) := by decide +kernel
theorem dX11_tallies_0 : decode cX11_tallies 0 = .ok (.iconst 0, 1) := by decide +kernel
theorem dX11_tallies_1 : decode cX11_tallies 1 = .ok (.istore_n 3, 1) := by decide +kernel
theorem dX11_tallies_2 : decode cX11_tallies 2 = .ok (.iload_n 3, 1) := by decide +kernel
theorem dX11_tallies_3 : decode cX11_tallies 3 = .ok (.bipush 18, 2) := by decide +kernel
theorem dX11_tallies_5 : decode cX11_tallies 5 = .ok (.if_icmp .ge 16, 3) := by decide +kernel
theorem dX11_tallies_8 : decode cX11_tallies 8 = .ok (.aload_n 0, 1) := by decide +kernel
theorem dX11_tallies_9 : decode cX11_tallies 9 = .ok (.getfield 65, 3) := by decide +kernel
theorem dX11_tallies_12 : decode cX11_tallies 12 = .ok (.iload_n 3, 1) := by decide +kernel
theorem dX11_tallies_13 : decode cX11_tallies 13 = .ok (.iconst 0, 1) := by decide +kernel
theorem dX11_tallies_14 : decode cX11_tallies 14 = .ok (.iastore, 1) := by decide +kernel
theorem dX11_tallies_15 : decode cX11_tallies 15 = .ok (.iinc 3 1, 3) := by decide +kernel
theorem dX11_tallies_18 : decode cX11_tallies 18 = .ok (.goto (-16), 3) := by decide +kernel
theorem dX11_tallies_21 : decode cX11_tallies 21 = .ok (.iconst 0, 1) := by decide +kernel
theorem dX11_tallies_22 : decode cX11_tallies 22 = .ok (.istore_n 3, 1) := by decide +kernel
theorem dX11_tallies_23 : decode cX11_tallies 23 = .ok (.iload_n 3, 1) := by decide +kernel
theorem dX11_tallies_24 : decode cX11_tallies 24 = .ok (.bipush 120, 2) := by decide +kernel
theorem dX11_tallies_26 : decode cX11_tallies 26 = .ok (.if_icmp .ge 16, 3) := by decide +kernel
theorem dX11_tallies_29 : decode cX11_tallies 29 = .ok (.aload_n 0, 1) := by decide +kernel
theorem dX11_tallies_30 : decode cX11_tallies 30 = .ok (.getfield 68, 3) := by decide +kernel
theorem dX11_tallies_33 : decode cX11_tallies 33 = .ok (.iload_n 3, 1) := by decide +kernel
theorem dX11_tallies_34 : decode cX11_tallies 34 = .ok (.iconst 0, 1) := by decide +kernel
theorem dX11_tallies_35 : decode cX11_tallies 35 = .ok (.iastore, 1) := by decide +kernel
theorem dX11_tallies_36 : decode cX11_tallies 36 = .ok (.iinc 3 1, 3) := by decide +kernel
theorem dX11_tallies_39 : decode cX11_tallies 39 = .ok (.goto (-16), 3) := by decide +kernel
theorem dX11_tallies_42 : decode cX11_tallies 42 = .ok (.aload_n 0, 1) := by decide +kernel
theorem dX11_tallies_43 : decode cX11_tallies 43 = .ok (.getfield 65, 3) := by decide +kernel
theorem dX11_tallies_46 : decode cX11_tallies 46 = .ok (.bipush 15, 2) := by decide +kernel
theorem dX11_tallies_48 : decode cX11_tallies 48 = .ok (.ldc 167, 2) := by decide +kernel
theorem dX11_tallies_50 : decode cX11_tallies 50 = .ok (.iastore, 1) := by decide +kernel
theorem dX11_tallies_51 : decode cX11_tallies 51 = .ok (.aload_n 0, 1) := by decide +kernel
theorem dX11_tallies_52 : decode cX11_tallies 52 = .ok (.getfield 65, 3) := by decide +kernel
theorem dX11_tallies_55 : decode cX11_tallies 55 = .ok (.bipush 16, 2) := by decide +kernel
theorem dX11_tallies_57 : decode cX11_tallies 57 = .ok (.ldc 167, 2) := by decide +kernel
theorem dX11_tallies_59 : decode cX11_tallies 59 = .ok (.iastore, 1) := by decide +kernel
theorem dX11_tallies_60 : decode cX11_tallies 60 = .ok (.iconst 0, 1) := by decide +kernel
theorem dX11_tallies_61 : decode cX11_tallies 61 = .ok (.istore_n 3, 1) := by decide +kernel
theorem dX11_tallies_62 : decode cX11_tallies 62 = .ok (.iconst 1, 1) := by decide +kernel
theorem dX11_tallies_63 : decode cX11_tallies 63 = .ok (.istore 4, 2) := by decide +kernel
theorem dX11_tallies_65 : decode cX11_tallies 65 = .ok (.iload 4, 2) := by decide +kernel
theorem dX11_tallies_67 : decode cX11_tallies 67 = .ok (.iload_n 2, 1) := by decide +kernel
theorem dX11_tallies_68 : decode cX11_tallies 68 = .ok (.if_icmp .gt 236, 3) := by decide +kernel
theorem dX11_tallies_71 : decode cX11_tallies 71 = .ok (.aload_n 0, 1) := by decide +kernel
theorem dX11_tallies_72 : decode cX11_tallies 72 = .ok (.iload 4, 2) := by decide +kernel
theorem dX11_tallies_74 : decode cX11_tallies 74 = .ok (.iload_n 1, 1) := by decide +kernel
theorem dX11_tallies_75 : decode cX11_tallies 75 = .ok (.iload_n 2, 1) := by decide +kernel
theorem dX11_tallies_76 : decode cX11_tallies 76 = .ok (.invokevirtual 168, 3) := by decide +kernel
theorem dX11_tallies_79 : decode cX11_tallies 79 = .ok (.ifCond .ne 6, 3) := by decide +kernel
theorem dX11_tallies_82 : decode cX11_tallies 82 = .ok (.goto 216, 3) := by decide +kernel
theorem dX11_tallies_85 : decode cX11_tallies 85 = .ok (.aload_n 0, 1) := by decide +kernel
theorem dX11_tallies_86 : decode cX11_tallies 86 = .ok (.getfield 47, 3) := by decide +kernel
theorem dX11_tallies_89 : decode cX11_tallies 89 = .ok (.iload 4, 2) := by decide +kernel
theorem dX11_tallies_91 : decode cX11_tallies 91 = .ok (.iaload, 1) := by decide +kernel
theorem dX11_tallies_92 : decode cX11_tallies 92 = .ok (.istore 5, 2) := by decide +kernel
theorem dX11_tallies_94 : decode cX11_tallies 94 = .ok (.iload 5, 2) := by decide +kernel
theorem dX11_tallies_96 : decode cX11_tallies 96 = .ok (.ifCond .ne 16, 3) := by decide +kernel
theorem dX11_tallies_99 : decode cX11_tallies 99 = .ok (.aload_n 0, 1) := by decide +kernel
theorem dX11_tallies_100 : decode cX11_tallies 100 = .ok (.getfield 65, 3) := by decide +kernel
theorem dX11_tallies_103 : decode cX11_tallies 103 = .ok (.iconst 0, 1) := by decide +kernel
theorem dX11_tallies_104 : decode cX11_tallies 104 = .ok (.aload_n 0, 1) := by decide +kernel
theorem dX11_tallies_105 : decode cX11_tallies 105 = .ok (.getfield 53, 3) := by decide +kernel
theorem dX11_tallies_108 : decode cX11_tallies 108 = .ok (.iload 4, 2) := by decide +kernel
theorem dX11_tallies_110 : decode cX11_tallies 110 = .ok (.iaload, 1) := by decide +kernel
theorem dX11_tallies_111 : decode cX11_tallies 111 = .ok (.iastore, 1) := by decide +kernel
theorem dX11_tallies_112 : decode cX11_tallies 112 = .ok (.iload 5, 2) := by decide +kernel
theorem dX11_tallies_114 : decode cX11_tallies 114 = .ok (.bipush 9, 2) := by decide +kernel
theorem dX11_tallies_116 : decode cX11_tallies 116 = .ok (.if_icmp .ne 16, 3) := by decide +kernel
theorem dX11_tallies_119 : decode cX11_tallies 119 = .ok (.aload_n 0, 1) := by decide +kernel
theorem dX11_tallies_120 : decode cX11_tallies 120 = .ok (.getfield 65, 3) := by decide +kernel
theorem dX11_tallies_123 : decode cX11_tallies 123 = .ok (.iconst 1, 1) := by decide +kernel
theorem dX11_tallies_124 : decode cX11_tallies 124 = .ok (.aload_n 0, 1) := by decide +kernel
theorem dX11_tallies_125 : decode cX11_tallies 125 = .ok (.getfield 53, 3) := by decide +kernel
theorem dX11_tallies_128 : decode cX11_tallies 128 = .ok (.iload 4, 2) := by decide +kernel
theorem dX11_tallies_130 : decode cX11_tallies 130 = .ok (.iaload, 1) := by decide +kernel
theorem dX11_tallies_131 : decode cX11_tallies 131 = .ok (.iastore, 1) := by decide +kernel
theorem dX11_tallies_132 : decode cX11_tallies 132 = .ok (.iload 5, 2) := by decide +kernel
theorem dX11_tallies_134 : decode cX11_tallies 134 = .ok (.iconst 1, 1) := by decide +kernel
theorem dX11_tallies_135 : decode cX11_tallies 135 = .ok (.if_icmp .eq 9, 3) := by decide +kernel
theorem dX11_tallies_138 : decode cX11_tallies 138 = .ok (.iload 5, 2) := by decide +kernel
theorem dX11_tallies_140 : decode cX11_tallies 140 = .ok (.iconst 2, 1) := by decide +kernel
theorem dX11_tallies_141 : decode cX11_tallies 141 = .ok (.if_icmp .ne 30, 3) := by decide +kernel
theorem dX11_tallies_144 : decode cX11_tallies 144 = .ok (.aload_n 0, 1) := by decide +kernel
theorem dX11_tallies_145 : decode cX11_tallies 145 = .ok (.getfield 65, 3) := by decide +kernel
theorem dX11_tallies_148 : decode cX11_tallies 148 = .ok (.bipush 14, 2) := by decide +kernel
theorem dX11_tallies_150 : decode cX11_tallies 150 = .ok (.iload 5, 2) := by decide +kernel
theorem dX11_tallies_152 : decode cX11_tallies 152 = .ok (.iadd, 1) := by decide +kernel
theorem dX11_tallies_153 : decode cX11_tallies 153 = .ok (.aload_n 0, 1) := by decide +kernel
theorem dX11_tallies_154 : decode cX11_tallies 154 = .ok (.getfield 53, 3) := by decide +kernel
theorem dX11_tallies_157 : decode cX11_tallies 157 = .ok (.iload 4, 2) := by decide +kernel
theorem dX11_tallies_159 : decode cX11_tallies 159 = .ok (.iaload, 1) := by decide +kernel
theorem dX11_tallies_160 : decode cX11_tallies 160 = .ok (.aload_n 0, 1) := by decide +kernel
theorem dX11_tallies_161 : decode cX11_tallies 161 = .ok (.getfield 32, 3) := by decide +kernel
theorem dX11_tallies_164 : decode cX11_tallies 164 = .ok (.iload 5, 2) := by decide +kernel
theorem dX11_tallies_166 : decode cX11_tallies 166 = .ok (.iconst 1, 1) := by decide +kernel
theorem dX11_tallies_167 : decode cX11_tallies 167 = .ok (.isub, 1) := by decide +kernel
theorem dX11_tallies_168 : decode cX11_tallies 168 = .ok (.iaload, 1) := by decide +kernel
theorem dX11_tallies_169 : decode cX11_tallies 169 = .ok (.isub, 1) := by decide +kernel
theorem dX11_tallies_170 : decode cX11_tallies 170 = .ok (.iastore, 1) := by decide +kernel
theorem dX11_tallies_171 : decode cX11_tallies 171 = .ok (.iload 5, 2) := by decide +kernel
theorem dX11_tallies_173 : decode cX11_tallies 173 = .ok (.iconst 3, 1) := by decide +kernel
theorem dX11_tallies_174 : decode cX11_tallies 174 = .ok (.if_icmp .lt 33, 3) := by decide +kernel
theorem dX11_tallies_177 : decode cX11_tallies 177 = .ok (.iload 5, 2) := by decide +kernel
theorem dX11_tallies_179 : decode cX11_tallies 179 = .ok (.bipush 6, 2) := by decide +kernel
theorem dX11_tallies_181 : decode cX11_tallies 181 = .ok (.if_icmp .gt 26, 3) := by decide +kernel
theorem dX11_tallies_184 : decode cX11_tallies 184 = .ok (.aload_n 0, 1) := by decide +kernel
theorem dX11_tallies_185 : decode cX11_tallies 185 = .ok (.getfield 68, 3) := by decide +kernel
theorem dX11_tallies_188 : decode cX11_tallies 188 = .ok (.iconst 4, 1) := by decide +kernel
theorem dX11_tallies_189 : decode cX11_tallies 189 = .ok (.aload_n 0, 1) := by decide +kernel
theorem dX11_tallies_190 : decode cX11_tallies 190 = .ok (.getfield 50, 3) := by decide +kernel
theorem dX11_tallies_193 : decode cX11_tallies 193 = .ok (.iload 4, 2) := by decide +kernel
theorem dX11_tallies_195 : decode cX11_tallies 195 = .ok (.iaload, 1) := by decide +kernel
theorem dX11_tallies_196 : decode cX11_tallies 196 = .ok (.imul, 1) := by decide +kernel
theorem dX11_tallies_197 : decode cX11_tallies 197 = .ok (.iload 5, 2) := by decide +kernel
theorem dX11_tallies_199 : decode cX11_tallies 199 = .ok (.iadd, 1) := by decide +kernel
theorem dX11_tallies_200 : decode cX11_tallies 200 = .ok (.iconst 3, 1) := by decide +kernel
theorem dX11_tallies_201 : decode cX11_tallies 201 = .ok (.isub, 1) := by decide +kernel
theorem dX11_tallies_202 : decode cX11_tallies 202 = .ok (.dup2, 1) := by decide +kernel
theorem dX11_tallies_203 : decode cX11_tallies 203 = .ok (.iaload, 1) := by decide +kernel
theorem dX11_tallies_204 : decode cX11_tallies 204 = .ok (.iconst 1, 1) := by decide +kernel
theorem dX11_tallies_205 : decode cX11_tallies 205 = .ok (.iadd, 1) := by decide +kernel
theorem dX11_tallies_206 : decode cX11_tallies 206 = .ok (.iastore, 1) := by decide +kernel
theorem dX11_tallies_207 : decode cX11_tallies 207 = .ok (.iload 5, 2) := by decide +kernel
theorem dX11_tallies_209 : decode cX11_tallies 209 = .ok (.bipush 7, 2) := by decide +kernel
theorem dX11_tallies_211 : decode cX11_tallies 211 = .ok (.if_icmp .ne 21, 3) := by decide +kernel
theorem dX11_tallies_214 : decode cX11_tallies 214 = .ok (.iload_n 3, 1) := by decide +kernel
theorem dX11_tallies_215 : decode cX11_tallies 215 = .ok (.aload_n 0, 1) := by decide +kernel
theorem dX11_tallies_216 : decode cX11_tallies 216 = .ok (.getfield 56, 3) := by decide +kernel
theorem dX11_tallies_219 : decode cX11_tallies 219 = .ok (.iload 4, 2) := by decide +kernel
theorem dX11_tallies_221 : decode cX11_tallies 221 = .ok (.iaload, 1) := by decide +kernel
theorem dX11_tallies_222 : decode cX11_tallies 222 = .ok (.aload_n 0, 1) := by decide +kernel
theorem dX11_tallies_223 : decode cX11_tallies 223 = .ok (.getfield 53, 3) := by decide +kernel
theorem dX11_tallies_226 : decode cX11_tallies 226 = .ok (.iload 4, 2) := by decide +kernel
theorem dX11_tallies_228 : decode cX11_tallies 228 = .ok (.iaload, 1) := by decide +kernel
theorem dX11_tallies_229 : decode cX11_tallies 229 = .ok (.isub, 1) := by decide +kernel
theorem dX11_tallies_230 : decode cX11_tallies 230 = .ok (.iadd, 1) := by decide +kernel
theorem dX11_tallies_231 : decode cX11_tallies 231 = .ok (.istore_n 3, 1) := by decide +kernel
theorem dX11_tallies_232 : decode cX11_tallies 232 = .ok (.aload_n 0, 1) := by decide +kernel
theorem dX11_tallies_233 : decode cX11_tallies 233 = .ok (.getfield 65, 3) := by decide +kernel
theorem dX11_tallies_236 : decode cX11_tallies 236 = .ok (.bipush 8, 2) := by decide +kernel
theorem dX11_tallies_238 : decode cX11_tallies 238 = .ok (.dup2, 1) := by decide +kernel
theorem dX11_tallies_239 : decode cX11_tallies 239 = .ok (.iaload, 1) := by decide +kernel
theorem dX11_tallies_240 : decode cX11_tallies 240 = .ok (.iload 5, 2) := by decide +kernel
theorem dX11_tallies_242 : decode cX11_tallies 242 = .ok (.bipush 8, 2) := by decide +kernel
theorem dX11_tallies_244 : decode cX11_tallies 244 = .ok (.if_icmp .ne 7, 3) := by decide +kernel
theorem dX11_tallies_247 : decode cX11_tallies 247 = .ok (.iconst 1, 1) := by decide +kernel
theorem dX11_tallies_248 : decode cX11_tallies 248 = .ok (.goto 4, 3) := by decide +kernel
theorem dX11_tallies_251 : decode cX11_tallies 251 = .ok (.iconst 0, 1) := by decide +kernel
theorem dX11_tallies_252 : decode cX11_tallies 252 = .ok (.iadd, 1) := by decide +kernel
theorem dX11_tallies_253 : decode cX11_tallies 253 = .ok (.iastore, 1) := by decide +kernel
theorem dX11_tallies_254 : decode cX11_tallies 254 = .ok (.aload_n 0, 1) := by decide +kernel
theorem dX11_tallies_255 : decode cX11_tallies 255 = .ok (.getfield 65, 3) := by decide +kernel
theorem dX11_tallies_258 : decode cX11_tallies 258 = .ok (.bipush 9, 2) := by decide +kernel
theorem dX11_tallies_260 : decode cX11_tallies 260 = .ok (.dup2, 1) := by decide +kernel
theorem dX11_tallies_261 : decode cX11_tallies 261 = .ok (.iaload, 1) := by decide +kernel
theorem dX11_tallies_262 : decode cX11_tallies 262 = .ok (.iload 5, 2) := by decide +kernel
theorem dX11_tallies_264 : decode cX11_tallies 264 = .ok (.bipush 10, 2) := by decide +kernel
theorem dX11_tallies_266 : decode cX11_tallies 266 = .ok (.if_icmp .ne 7, 3) := by decide +kernel
theorem dX11_tallies_269 : decode cX11_tallies 269 = .ok (.iconst 1, 1) := by decide +kernel
theorem dX11_tallies_270 : decode cX11_tallies 270 = .ok (.goto 4, 3) := by decide +kernel
theorem dX11_tallies_273 : decode cX11_tallies 273 = .ok (.iconst 0, 1) := by decide +kernel
theorem dX11_tallies_274 : decode cX11_tallies 274 = .ok (.iadd, 1) := by decide +kernel
theorem dX11_tallies_275 : decode cX11_tallies 275 = .ok (.iastore, 1) := by decide +kernel
theorem dX11_tallies_276 : decode cX11_tallies 276 = .ok (.aload_n 0, 1) := by decide +kernel
theorem dX11_tallies_277 : decode cX11_tallies 277 = .ok (.getfield 65, 3) := by decide +kernel
theorem dX11_tallies_280 : decode cX11_tallies 280 = .ok (.bipush 10, 2) := by decide +kernel
theorem dX11_tallies_282 : decode cX11_tallies 282 = .ok (.dup2, 1) := by decide +kernel
theorem dX11_tallies_283 : decode cX11_tallies 283 = .ok (.iaload, 1) := by decide +kernel
theorem dX11_tallies_284 : decode cX11_tallies 284 = .ok (.iload 5, 2) := by decide +kernel
theorem dX11_tallies_286 : decode cX11_tallies 286 = .ok (.bipush 11, 2) := by decide +kernel
theorem dX11_tallies_288 : decode cX11_tallies 288 = .ok (.if_icmp .ne 7, 3) := by decide +kernel
theorem dX11_tallies_291 : decode cX11_tallies 291 = .ok (.iconst 1, 1) := by decide +kernel
theorem dX11_tallies_292 : decode cX11_tallies 292 = .ok (.goto 4, 3) := by decide +kernel
theorem dX11_tallies_295 : decode cX11_tallies 295 = .ok (.iconst 0, 1) := by decide +kernel
theorem dX11_tallies_296 : decode cX11_tallies 296 = .ok (.iadd, 1) := by decide +kernel
theorem dX11_tallies_297 : decode cX11_tallies 297 = .ok (.iastore, 1) := by decide +kernel
theorem dX11_tallies_298 : decode cX11_tallies 298 = .ok (.iinc 4 1, 3) := by decide +kernel
theorem dX11_tallies_301 : decode cX11_tallies 301 = .ok (.goto (-236), 3) := by decide +kernel
theorem dX11_tallies_304 : decode cX11_tallies 304 = .ok (.iconst 0, 1) := by decide +kernel
theorem dX11_tallies_305 : decode cX11_tallies 305 = .ok (.istore 4, 2) := by decide +kernel
theorem dX11_tallies_307 : decode cX11_tallies 307 = .ok (.iload 4, 2) := by decide +kernel
theorem dX11_tallies_309 : decode cX11_tallies 309 = .ok (.aload_n 0, 1) := by decide +kernel
theorem dX11_tallies_310 : decode cX11_tallies 310 = .ok (.getfield 23, 3) := by decide +kernel
theorem dX11_tallies_313 : decode cX11_tallies 313 = .ok (.if_icmp .ge 57, 3) := by decide +kernel
theorem dX11_tallies_316 : decode cX11_tallies 316 = .ok (.aload_n 0, 1) := by decide +kernel
theorem dX11_tallies_317 : decode cX11_tallies 317 = .ok (.iload 4, 2) := by decide +kernel
theorem dX11_tallies_319 : decode cX11_tallies 319 = .ok (.aload_n 0, 1) := by decide +kernel
theorem dX11_tallies_320 : decode cX11_tallies 320 = .ok (.getfield 68, 3) := by decide +kernel
theorem dX11_tallies_323 : decode cX11_tallies 323 = .ok (.iconst 4, 1) := by decide +kernel
theorem dX11_tallies_324 : decode cX11_tallies 324 = .ok (.iload 4, 2) := by decide +kernel
theorem dX11_tallies_326 : decode cX11_tallies 326 = .ok (.imul, 1) := by decide +kernel
theorem dX11_tallies_327 : decode cX11_tallies 327 = .ok (.iaload, 1) := by decide +kernel
theorem dX11_tallies_328 : decode cX11_tallies 328 = .ok (.aload_n 0, 1) := by decide +kernel
theorem dX11_tallies_329 : decode cX11_tallies 329 = .ok (.getfield 68, 3) := by decide +kernel
theorem dX11_tallies_332 : decode cX11_tallies 332 = .ok (.iconst 4, 1) := by decide +kernel
theorem dX11_tallies_333 : decode cX11_tallies 333 = .ok (.iload 4, 2) := by decide +kernel
theorem dX11_tallies_335 : decode cX11_tallies 335 = .ok (.imul, 1) := by decide +kernel
theorem dX11_tallies_336 : decode cX11_tallies 336 = .ok (.iconst 1, 1) := by decide +kernel
theorem dX11_tallies_337 : decode cX11_tallies 337 = .ok (.iadd, 1) := by decide +kernel
theorem dX11_tallies_338 : decode cX11_tallies 338 = .ok (.iaload, 1) := by decide +kernel
theorem dX11_tallies_339 : decode cX11_tallies 339 = .ok (.aload_n 0, 1) := by decide +kernel
theorem dX11_tallies_340 : decode cX11_tallies 340 = .ok (.getfield 68, 3) := by decide +kernel
theorem dX11_tallies_343 : decode cX11_tallies 343 = .ok (.iconst 4, 1) := by decide +kernel
theorem dX11_tallies_344 : decode cX11_tallies 344 = .ok (.iload 4, 2) := by decide +kernel
theorem dX11_tallies_346 : decode cX11_tallies 346 = .ok (.imul, 1) := by decide +kernel
theorem dX11_tallies_347 : decode cX11_tallies 347 = .ok (.iconst 2, 1) := by decide +kernel
theorem dX11_tallies_348 : decode cX11_tallies 348 = .ok (.iadd, 1) := by decide +kernel
theorem dX11_tallies_349 : decode cX11_tallies 349 = .ok (.iaload, 1) := by decide +kernel
theorem dX11_tallies_350 : decode cX11_tallies 350 = .ok (.aload_n 0, 1) := by decide +kernel
theorem dX11_tallies_351 : decode cX11_tallies 351 = .ok (.getfield 68, 3) := by decide +kernel
theorem dX11_tallies_354 : decode cX11_tallies 354 = .ok (.iconst 4, 1) := by decide +kernel
theorem dX11_tallies_355 : decode cX11_tallies 355 = .ok (.iload 4, 2) := by decide +kernel
theorem dX11_tallies_357 : decode cX11_tallies 357 = .ok (.imul, 1) := by decide +kernel
theorem dX11_tallies_358 : decode cX11_tallies 358 = .ok (.iconst 3, 1) := by decide +kernel
theorem dX11_tallies_359 : decode cX11_tallies 359 = .ok (.iadd, 1) := by decide +kernel
theorem dX11_tallies_360 : decode cX11_tallies 360 = .ok (.iaload, 1) := by decide +kernel
theorem dX11_tallies_361 : decode cX11_tallies 361 = .ok (.invokevirtual 171, 3) := by decide +kernel
theorem dX11_tallies_364 : decode cX11_tallies 364 = .ok (.iinc 4 1, 3) := by decide +kernel
theorem dX11_tallies_367 : decode cX11_tallies 367 = .ok (.goto (-60), 3) := by decide +kernel
theorem dX11_tallies_370 : decode cX11_tallies 370 = .ok (.aload_n 0, 1) := by decide +kernel
theorem dX11_tallies_371 : decode cX11_tallies 371 = .ok (.getfield 65, 3) := by decide +kernel
theorem dX11_tallies_374 : decode cX11_tallies 374 = .ok (.bipush 14, 2) := by decide +kernel
theorem dX11_tallies_376 : decode cX11_tallies 376 = .ok (.aload_n 0, 1) := by decide +kernel
theorem dX11_tallies_377 : decode cX11_tallies 377 = .ok (.invokevirtual 153, 3) := by decide +kernel
theorem dX11_tallies_380 : decode cX11_tallies 380 = .ok (.iastore, 1) := by decide +kernel
theorem dX11_tallies_381 : decode cX11_tallies 381 = .ok (.aload_n 0, 1) := by decide +kernel
theorem dX11_tallies_382 : decode cX11_tallies 382 = .ok (.getfield 65, 3) := by decide +kernel
theorem dX11_tallies_385 : decode cX11_tallies 385 = .ok (.bipush 15, 2) := by decide +kernel
theorem dX11_tallies_387 : decode cX11_tallies 387 = .ok (.iaload, 1) := by decide +kernel
theorem dX11_tallies_388 : decode cX11_tallies 388 = .ok (.ldc 167, 2) := by decide +kernel
theorem dX11_tallies_390 : decode cX11_tallies 390 = .ok (.if_icmp .eq 19, 3) := by decide +kernel
theorem dX11_tallies_393 : decode cX11_tallies 393 = .ok (.aload_n 0, 1) := by decide +kernel
theorem dX11_tallies_394 : decode cX11_tallies 394 = .ok (.getfield 65, 3) := by decide +kernel
theorem dX11_tallies_397 : decode cX11_tallies 397 = .ok (.bipush 16, 2) := by decide +kernel
theorem dX11_tallies_399 : decode cX11_tallies 399 = .ok (.iaload, 1) := by decide +kernel
theorem dX11_tallies_400 : decode cX11_tallies 400 = .ok (.ldc 167, 2) := by decide +kernel
theorem dX11_tallies_402 : decode cX11_tallies 402 = .ok (.if_icmp .eq 7, 3) := by decide +kernel
theorem dX11_tallies_405 : decode cX11_tallies 405 = .ok (.iconst 1, 1) := by decide +kernel
theorem dX11_tallies_406 : decode cX11_tallies 406 = .ok (.goto 4, 3) := by decide +kernel
theorem dX11_tallies_409 : decode cX11_tallies 409 = .ok (.iconst 0, 1) := by decide +kernel
theorem dX11_tallies_410 : decode cX11_tallies 410 = .ok (.istore 4, 2) := by decide +kernel
theorem dX11_tallies_412 : decode cX11_tallies 412 = .ok (.aload_n 0, 1) := by decide +kernel
theorem dX11_tallies_413 : decode cX11_tallies 413 = .ok (.getfield 65, 3) := by decide +kernel
theorem dX11_tallies_416 : decode cX11_tallies 416 = .ok (.bipush 16, 2) := by decide +kernel
theorem dX11_tallies_418 : decode cX11_tallies 418 = .ok (.iaload, 1) := by decide +kernel
theorem dX11_tallies_419 : decode cX11_tallies 419 = .ok (.aload_n 0, 1) := by decide +kernel
theorem dX11_tallies_420 : decode cX11_tallies 420 = .ok (.getfield 65, 3) := by decide +kernel
theorem dX11_tallies_423 : decode cX11_tallies 423 = .ok (.bipush 15, 2) := by decide +kernel
theorem dX11_tallies_425 : decode cX11_tallies 425 = .ok (.iaload, 1) := by decide +kernel
theorem dX11_tallies_426 : decode cX11_tallies 426 = .ok (.isub, 1) := by decide +kernel
theorem dX11_tallies_427 : decode cX11_tallies 427 = .ok (.iload_n 3, 1) := by decide +kernel
theorem dX11_tallies_428 : decode cX11_tallies 428 = .ok (.isub, 1) := by decide +kernel
theorem dX11_tallies_429 : decode cX11_tallies 429 = .ok (.istore 5, 2) := by decide +kernel
theorem dX11_tallies_431 : decode cX11_tallies 431 = .ok (.iload 5, 2) := by decide +kernel
theorem dX11_tallies_433 : decode cX11_tallies 433 = .ok (.ifCond .ge 7, 3) := by decide +kernel
theorem dX11_tallies_436 : decode cX11_tallies 436 = .ok (.iconst 0, 1) := by decide +kernel
theorem dX11_tallies_437 : decode cX11_tallies 437 = .ok (.goto 5, 3) := by decide +kernel
theorem dX11_tallies_440 : decode cX11_tallies 440 = .ok (.iload 5, 2) := by decide +kernel
theorem dX11_tallies_442 : decode cX11_tallies 442 = .ok (.istore 5, 2) := by decide +kernel
theorem dX11_tallies_444 : decode cX11_tallies 444 = .ok (.aload_n 0, 1) := by decide +kernel
theorem dX11_tallies_445 : decode cX11_tallies 445 = .ok (.getfield 65, 3) := by decide +kernel
theorem dX11_tallies_448 : decode cX11_tallies 448 = .ok (.bipush 17, 2) := by decide +kernel
theorem dX11_tallies_450 : decode cX11_tallies 450 = .ok (.iload 4, 2) := by decide +kernel
theorem dX11_tallies_452 : decode cX11_tallies 452 = .ok (.ifCond .eq 8, 3) := by decide +kernel
theorem dX11_tallies_455 : decode cX11_tallies 455 = .ok (.iload 5, 2) := by decide +kernel
theorem dX11_tallies_457 : decode cX11_tallies 457 = .ok (.goto 4, 3) := by decide +kernel
theorem dX11_tallies_460 : decode cX11_tallies 460 = .ok (.iconst (-1), 1) := by decide +kernel
theorem dX11_tallies_461 : decode cX11_tallies 461 = .ok (.iastore, 1) := by decide +kernel
theorem dX11_tallies_462 : decode cX11_tallies 462 = .ok (.aload_n 0, 1) := by decide +kernel
theorem dX11_tallies_463 : decode cX11_tallies 463 = .ok (.getfield 65, 3) := by decide +kernel
theorem dX11_tallies_466 : decode cX11_tallies 466 = .ok (.bipush 12, 2) := by decide +kernel
theorem dX11_tallies_468 : decode cX11_tallies 468 = .ok (.iload 4, 2) := by decide +kernel
theorem dX11_tallies_470 : decode cX11_tallies 470 = .ok (.ifCond .eq 28, 3) := by decide +kernel
theorem dX11_tallies_473 : decode cX11_tallies 473 = .ok (.iload 5, 2) := by decide +kernel
theorem dX11_tallies_475 : decode cX11_tallies 475 = .ok (.aload_n 0, 1) := by decide +kernel
theorem dX11_tallies_476 : decode cX11_tallies 476 = .ok (.getfield 65, 3) := by decide +kernel
theorem dX11_tallies_479 : decode cX11_tallies 479 = .ok (.bipush 14, 2) := by decide +kernel
theorem dX11_tallies_481 : decode cX11_tallies 481 = .ok (.iaload, 1) := by decide +kernel
theorem dX11_tallies_482 : decode cX11_tallies 482 = .ok (.if_icmp .le 16, 3) := by decide +kernel
theorem dX11_tallies_485 : decode cX11_tallies 485 = .ok (.iload 5, 2) := by decide +kernel
theorem dX11_tallies_487 : decode cX11_tallies 487 = .ok (.aload_n 0, 1) := by decide +kernel
theorem dX11_tallies_488 : decode cX11_tallies 488 = .ok (.getfield 65, 3) := by decide +kernel
theorem dX11_tallies_491 : decode cX11_tallies 491 = .ok (.bipush 14, 2) := by decide +kernel
theorem dX11_tallies_493 : decode cX11_tallies 493 = .ok (.iaload, 1) := by decide +kernel
theorem dX11_tallies_494 : decode cX11_tallies 494 = .ok (.isub, 1) := by decide +kernel
theorem dX11_tallies_495 : decode cX11_tallies 495 = .ok (.goto 4, 3) := by decide +kernel
theorem dX11_tallies_498 : decode cX11_tallies 498 = .ok (.iconst 0, 1) := by decide +kernel
theorem dX11_tallies_499 : decode cX11_tallies 499 = .ok (.iastore, 1) := by decide +kernel
theorem dX11_tallies_500 : decode cX11_tallies 500 = .ok (.aload_n 0, 1) := by decide +kernel
theorem dX11_tallies_501 : decode cX11_tallies 501 = .ok (.getfield 65, 3) := by decide +kernel
theorem dX11_tallies_504 : decode cX11_tallies 504 = .ok (.bipush 13, 2) := by decide +kernel
theorem dX11_tallies_506 : decode cX11_tallies 506 = .ok (.iload 4, 2) := by decide +kernel
theorem dX11_tallies_508 : decode cX11_tallies 508 = .ok (.ifCond .eq 28, 3) := by decide +kernel
theorem dX11_tallies_511 : decode cX11_tallies 511 = .ok (.iload 5, 2) := by decide +kernel
theorem dX11_tallies_513 : decode cX11_tallies 513 = .ok (.aload_n 0, 1) := by decide +kernel
theorem dX11_tallies_514 : decode cX11_tallies 514 = .ok (.getfield 65, 3) := by decide +kernel
theorem dX11_tallies_517 : decode cX11_tallies 517 = .ok (.bipush 14, 2) := by decide +kernel
theorem dX11_tallies_519 : decode cX11_tallies 519 = .ok (.iaload, 1) := by decide +kernel
theorem dX11_tallies_520 : decode cX11_tallies 520 = .ok (.if_icmp .ge 16, 3) := by decide +kernel
theorem dX11_tallies_523 : decode cX11_tallies 523 = .ok (.aload_n 0, 1) := by decide +kernel
theorem dX11_tallies_524 : decode cX11_tallies 524 = .ok (.getfield 65, 3) := by decide +kernel
theorem dX11_tallies_527 : decode cX11_tallies 527 = .ok (.bipush 14, 2) := by decide +kernel
theorem dX11_tallies_529 : decode cX11_tallies 529 = .ok (.iaload, 1) := by decide +kernel
theorem dX11_tallies_530 : decode cX11_tallies 530 = .ok (.iload 5, 2) := by decide +kernel
theorem dX11_tallies_532 : decode cX11_tallies 532 = .ok (.isub, 1) := by decide +kernel
theorem dX11_tallies_533 : decode cX11_tallies 533 = .ok (.goto 4, 3) := by decide +kernel
theorem dX11_tallies_536 : decode cX11_tallies 536 = .ok (.iconst 0, 1) := by decide +kernel
theorem dX11_tallies_537 : decode cX11_tallies 537 = .ok (.iastore, 1) := by decide +kernel
theorem dX11_tallies_538 : decode cX11_tallies 538 = .ok (.return_, 1) := by decide +kernel
theorem dX11_fence__0 : decode cX11_fence_ 0 = .ok (.aload_n 0, 1) := by decide +kernel
theorem dX11_fence__1 : decode cX11_fence_ 1 = .ok (.getfield 29, 3) := by decide +kernel
theorem dX11_fence__4 : decode cX11_fence_ 4 = .ok (.iload_n 1, 1) := by decide +kernel
theorem dX11_fence__5 : decode cX11_fence_ 5 = .ok (.iaload, 1) := by decide +kernel
theorem dX11_fence__6 : decode cX11_fence_ 6 = .ok (.iconst (-1), 1) := by decide +kernel
theorem dX11_fence__7 : decode cX11_fence_ 7 = .ok (.if_icmp .eq 32, 3) := by decide +kernel
theorem dX11_fence__10 : decode cX11_fence_ 10 = .ok (.aload_n 0, 1) := by decide +kernel
theorem dX11_fence__11 : decode cX11_fence_ 11 = .ok (.getfield 65, 3) := by decide +kernel
theorem dX11_fence__14 : decode cX11_fence_ 14 = .ok (.bipush 15, 2) := by decide +kernel
theorem dX11_fence__16 : decode cX11_fence_ 16 = .ok (.iaload, 1) := by decide +kernel
theorem dX11_fence__17 : decode cX11_fence_ 17 = .ok (.ldc 167, 2) := by decide +kernel
theorem dX11_fence__19 : decode cX11_fence_ 19 = .ok (.if_icmp .eq 20, 3) := by decide +kernel
theorem dX11_fence__22 : decode cX11_fence_ 22 = .ok (.aload_n 0, 1) := by decide +kernel
theorem dX11_fence__23 : decode cX11_fence_ 23 = .ok (.getfield 65, 3) := by decide +kernel
theorem dX11_fence__26 : decode cX11_fence_ 26 = .ok (.bipush 15, 2) := by decide +kernel
theorem dX11_fence__28 : decode cX11_fence_ 28 = .ok (.iaload, 1) := by decide +kernel
theorem dX11_fence__29 : decode cX11_fence_ 29 = .ok (.aload_n 0, 1) := by decide +kernel
theorem dX11_fence__30 : decode cX11_fence_ 30 = .ok (.getfield 29, 3) := by decide +kernel
theorem dX11_fence__33 : decode cX11_fence_ 33 = .ok (.iload_n 1, 1) := by decide +kernel
theorem dX11_fence__34 : decode cX11_fence_ 34 = .ok (.iaload, 1) := by decide +kernel
theorem dX11_fence__35 : decode cX11_fence_ 35 = .ok (.if_icmp .lt 4, 3) := by decide +kernel
theorem dX11_fence__38 : decode cX11_fence_ 38 = .ok (.return_, 1) := by decide +kernel
theorem dX11_fence__39 : decode cX11_fence_ 39 = .ok (.aload_n 0, 1) := by decide +kernel
theorem dX11_fence__40 : decode cX11_fence_ 40 = .ok (.getfield 65, 3) := by decide +kernel
theorem dX11_fence__43 : decode cX11_fence_ 43 = .ok (.iconst 2, 1) := by decide +kernel
theorem dX11_fence__44 : decode cX11_fence_ 44 = .ok (.dup2, 1) := by decide +kernel
theorem dX11_fence__45 : decode cX11_fence_ 45 = .ok (.iaload, 1) := by decide +kernel
theorem dX11_fence__46 : decode cX11_fence_ 46 = .ok (.iload_n 2, 1) := by decide +kernel
theorem dX11_fence__47 : decode cX11_fence_ 47 = .ok (.iadd, 1) := by decide +kernel
theorem dX11_fence__48 : decode cX11_fence_ 48 = .ok (.iastore, 1) := by decide +kernel
theorem dX11_fence__49 : decode cX11_fence_ 49 = .ok (.aload_n 0, 1) := by decide +kernel
theorem dX11_fence__50 : decode cX11_fence_ 50 = .ok (.getfield 65, 3) := by decide +kernel
theorem dX11_fence__53 : decode cX11_fence_ 53 = .ok (.iconst 3, 1) := by decide +kernel
theorem dX11_fence__54 : decode cX11_fence_ 54 = .ok (.dup2, 1) := by decide +kernel
theorem dX11_fence__55 : decode cX11_fence_ 55 = .ok (.iaload, 1) := by decide +kernel
theorem dX11_fence__56 : decode cX11_fence_ 56 = .ok (.iload_n 3, 1) := by decide +kernel
theorem dX11_fence__57 : decode cX11_fence_ 57 = .ok (.iadd, 1) := by decide +kernel
theorem dX11_fence__58 : decode cX11_fence_ 58 = .ok (.iastore, 1) := by decide +kernel
theorem dX11_fence__59 : decode cX11_fence_ 59 = .ok (.aload_n 0, 1) := by decide +kernel
theorem dX11_fence__60 : decode cX11_fence_ 60 = .ok (.getfield 65, 3) := by decide +kernel
theorem dX11_fence__63 : decode cX11_fence_ 63 = .ok (.iconst 4, 1) := by decide +kernel
theorem dX11_fence__64 : decode cX11_fence_ 64 = .ok (.dup2, 1) := by decide +kernel
theorem dX11_fence__65 : decode cX11_fence_ 65 = .ok (.iaload, 1) := by decide +kernel
theorem dX11_fence__66 : decode cX11_fence_ 66 = .ok (.iload 4, 2) := by decide +kernel
theorem dX11_fence__68 : decode cX11_fence_ 68 = .ok (.iadd, 1) := by decide +kernel
theorem dX11_fence__69 : decode cX11_fence_ 69 = .ok (.iastore, 1) := by decide +kernel
theorem dX11_fence__70 : decode cX11_fence_ 70 = .ok (.aload_n 0, 1) := by decide +kernel
theorem dX11_fence__71 : decode cX11_fence_ 71 = .ok (.getfield 65, 3) := by decide +kernel
theorem dX11_fence__74 : decode cX11_fence_ 74 = .ok (.iconst 5, 1) := by decide +kernel
theorem dX11_fence__75 : decode cX11_fence_ 75 = .ok (.dup2, 1) := by decide +kernel
theorem dX11_fence__76 : decode cX11_fence_ 76 = .ok (.iaload, 1) := by decide +kernel
theorem dX11_fence__77 : decode cX11_fence_ 77 = .ok (.iload_n 2, 1) := by decide +kernel
theorem dX11_fence__78 : decode cX11_fence_ 78 = .ok (.ifCond .le 7, 3) := by decide +kernel
theorem dX11_fence__81 : decode cX11_fence_ 81 = .ok (.iconst 1, 1) := by decide +kernel
theorem dX11_fence__82 : decode cX11_fence_ 82 = .ok (.goto 4, 3) := by decide +kernel
theorem dX11_fence__85 : decode cX11_fence_ 85 = .ok (.iconst 0, 1) := by decide +kernel
theorem dX11_fence__86 : decode cX11_fence_ 86 = .ok (.iadd, 1) := by decide +kernel
theorem dX11_fence__87 : decode cX11_fence_ 87 = .ok (.iastore, 1) := by decide +kernel
theorem dX11_fence__88 : decode cX11_fence_ 88 = .ok (.aload_n 0, 1) := by decide +kernel
theorem dX11_fence__89 : decode cX11_fence_ 89 = .ok (.getfield 65, 3) := by decide +kernel
theorem dX11_fence__92 : decode cX11_fence_ 92 = .ok (.bipush 6, 2) := by decide +kernel
theorem dX11_fence__94 : decode cX11_fence_ 94 = .ok (.dup2, 1) := by decide +kernel
theorem dX11_fence__95 : decode cX11_fence_ 95 = .ok (.iaload, 1) := by decide +kernel
theorem dX11_fence__96 : decode cX11_fence_ 96 = .ok (.iload_n 2, 1) := by decide +kernel
theorem dX11_fence__97 : decode cX11_fence_ 97 = .ok (.iconst 1, 1) := by decide +kernel
theorem dX11_fence__98 : decode cX11_fence_ 98 = .ok (.if_icmp .le 7, 3) := by decide +kernel
theorem dX11_fence__101 : decode cX11_fence_ 101 = .ok (.iconst 1, 1) := by decide +kernel
theorem dX11_fence__102 : decode cX11_fence_ 102 = .ok (.goto 4, 3) := by decide +kernel
theorem dX11_fence__105 : decode cX11_fence_ 105 = .ok (.iconst 0, 1) := by decide +kernel
theorem dX11_fence__106 : decode cX11_fence_ 106 = .ok (.iadd, 1) := by decide +kernel
theorem dX11_fence__107 : decode cX11_fence_ 107 = .ok (.iastore, 1) := by decide +kernel
theorem dX11_fence__108 : decode cX11_fence_ 108 = .ok (.aload_n 0, 1) := by decide +kernel
theorem dX11_fence__109 : decode cX11_fence_ 109 = .ok (.getfield 65, 3) := by decide +kernel
theorem dX11_fence__112 : decode cX11_fence_ 112 = .ok (.bipush 7, 2) := by decide +kernel
theorem dX11_fence__114 : decode cX11_fence_ 114 = .ok (.dup2, 1) := by decide +kernel
theorem dX11_fence__115 : decode cX11_fence_ 115 = .ok (.iaload, 1) := by decide +kernel
theorem dX11_fence__116 : decode cX11_fence_ 116 = .ok (.iload_n 2, 1) := by decide +kernel
theorem dX11_fence__117 : decode cX11_fence_ 117 = .ok (.iconst 2, 1) := by decide +kernel
theorem dX11_fence__118 : decode cX11_fence_ 118 = .ok (.if_icmp .le 7, 3) := by decide +kernel
theorem dX11_fence__121 : decode cX11_fence_ 121 = .ok (.iconst 1, 1) := by decide +kernel
theorem dX11_fence__122 : decode cX11_fence_ 122 = .ok (.goto 4, 3) := by decide +kernel
theorem dX11_fence__125 : decode cX11_fence_ 125 = .ok (.iconst 0, 1) := by decide +kernel
theorem dX11_fence__126 : decode cX11_fence_ 126 = .ok (.iadd, 1) := by decide +kernel
theorem dX11_fence__127 : decode cX11_fence_ 127 = .ok (.iastore, 1) := by decide +kernel
theorem dX11_fence__128 : decode cX11_fence_ 128 = .ok (.aload_n 0, 1) := by decide +kernel
theorem dX11_fence__129 : decode cX11_fence_ 129 = .ok (.getfield 65, 3) := by decide +kernel
theorem dX11_fence__132 : decode cX11_fence_ 132 = .ok (.bipush 11, 2) := by decide +kernel
theorem dX11_fence__134 : decode cX11_fence_ 134 = .ok (.dup2, 1) := by decide +kernel
theorem dX11_fence__135 : decode cX11_fence_ 135 = .ok (.iaload, 1) := by decide +kernel
theorem dX11_fence__136 : decode cX11_fence_ 136 = .ok (.iload_n 2, 1) := by decide +kernel
theorem dX11_fence__137 : decode cX11_fence_ 137 = .ok (.iload_n 3, 1) := by decide +kernel
theorem dX11_fence__138 : decode cX11_fence_ 138 = .ok (.iadd, 1) := by decide +kernel
theorem dX11_fence__139 : decode cX11_fence_ 139 = .ok (.iload 4, 2) := by decide +kernel
theorem dX11_fence__141 : decode cX11_fence_ 141 = .ok (.iadd, 1) := by decide +kernel
theorem dX11_fence__142 : decode cX11_fence_ 142 = .ok (.iload 5, 2) := by decide +kernel
theorem dX11_fence__144 : decode cX11_fence_ 144 = .ok (.iadd, 1) := by decide +kernel
theorem dX11_fence__145 : decode cX11_fence_ 145 = .ok (.ifCond .ne 7, 3) := by decide +kernel
theorem dX11_fence__148 : decode cX11_fence_ 148 = .ok (.iconst 1, 1) := by decide +kernel
theorem dX11_fence__149 : decode cX11_fence_ 149 = .ok (.goto 4, 3) := by decide +kernel
theorem dX11_fence__152 : decode cX11_fence_ 152 = .ok (.iconst 0, 1) := by decide +kernel
theorem dX11_fence__153 : decode cX11_fence_ 153 = .ok (.iadd, 1) := by decide +kernel
theorem dX11_fence__154 : decode cX11_fence_ 154 = .ok (.iastore, 1) := by decide +kernel
theorem dX11_fence__155 : decode cX11_fence_ 155 = .ok (.return_, 1) := by decide +kernel
theorem dX11_isRider_0 : decode cX11_isRider 0 = .ok (.iload_n 1, 1) := by decide +kernel
theorem dX11_isRider_1 : decode cX11_isRider 1 = .ok (.ifCond .lt 15, 3) := by decide +kernel
theorem dX11_isRider_4 : decode cX11_isRider 4 = .ok (.iload_n 1, 1) := by decide +kernel
theorem dX11_isRider_5 : decode cX11_isRider 5 = .ok (.aload_n 0, 1) := by decide +kernel
theorem dX11_isRider_6 : decode cX11_isRider 6 = .ok (.getfield 17, 3) := by decide +kernel
theorem dX11_isRider_9 : decode cX11_isRider 9 = .ok (.if_icmp .ge 7, 3) := by decide +kernel
theorem dX11_isRider_12 : decode cX11_isRider 12 = .ok (.iconst 1, 1) := by decide +kernel
theorem dX11_isRider_13 : decode cX11_isRider 13 = .ok (.goto 4, 3) := by decide +kernel
theorem dX11_isRider_16 : decode cX11_isRider 16 = .ok (.iconst 0, 1) := by decide +kernel
theorem dX11_isRider_17 : decode cX11_isRider 17 = .ok (.ireturn, 1) := by decide +kernel
theorem dX11_count_0 : decode cX11_count 0 = .ok (.aload_n 0, 1) := by decide +kernel
theorem dX11_count_1 : decode cX11_count 1 = .ok (.iload_n 1, 1) := by decide +kernel
theorem dX11_count_2 : decode cX11_count 2 = .ok (.invokevirtual 175, 3) := by decide +kernel
theorem dX11_count_5 : decode cX11_count 5 = .ok (.ifCond .eq 13, 3) := by decide +kernel
theorem dX11_count_8 : decode cX11_count 8 = .ok (.iload_n 2, 1) := by decide +kernel
theorem dX11_count_9 : decode cX11_count 9 = .ok (.iconst 0, 1) := by decide +kernel
theorem dX11_count_10 : decode cX11_count 10 = .ok (.bipush 17, 2) := by decide +kernel
theorem dX11_count_12 : decode cX11_count 12 = .ok (.invokestatic 149, 3) := by decide +kernel
theorem dX11_count_15 : decode cX11_count 15 = .ok (.ifCond .ne 6, 3) := by decide +kernel
theorem dX11_count_18 : decode cX11_count 18 = .ok (.ldc 178, 2) := by decide +kernel
theorem dX11_count_20 : decode cX11_count 20 = .ok (.ireturn, 1) := by decide +kernel
theorem dX11_count_21 : decode cX11_count 21 = .ok (.aload_n 0, 1) := by decide +kernel
theorem dX11_count_22 : decode cX11_count 22 = .ok (.iload_n 1, 1) := by decide +kernel
theorem dX11_count_23 : decode cX11_count 23 = .ok (.aload_n 0, 1) := by decide +kernel
theorem dX11_count_24 : decode cX11_count 24 = .ok (.invokevirtual 179, 3) := by decide +kernel
theorem dX11_count_27 : decode cX11_count 27 = .ok (.invokevirtual 182, 3) := by decide +kernel
theorem dX11_count_30 : decode cX11_count 30 = .ok (.aload_n 0, 1) := by decide +kernel
theorem dX11_count_31 : decode cX11_count 31 = .ok (.getfield 65, 3) := by decide +kernel
theorem dX11_count_34 : decode cX11_count 34 = .ok (.iload_n 2, 1) := by decide +kernel
theorem dX11_count_35 : decode cX11_count 35 = .ok (.iaload, 1) := by decide +kernel
theorem dX11_count_36 : decode cX11_count 36 = .ok (.ireturn, 1) := by decide +kernel
theorem dX11_blame_0 : decode cX11_blame 0 = .ok (.aload_n 0, 1) := by decide +kernel
theorem dX11_blame_1 : decode cX11_blame 1 = .ok (.getfield 92, 3) := by decide +kernel
theorem dX11_blame_4 : decode cX11_blame 4 = .ok (.ifCond .le 4, 3) := by decide +kernel
theorem dX11_blame_7 : decode cX11_blame 7 = .ok (.return_, 1) := by decide +kernel
theorem dX11_blame_8 : decode cX11_blame 8 = .ok (.aload_n 0, 1) := by decide +kernel
theorem dX11_blame_9 : decode cX11_blame 9 = .ok (.iload_n 1, 1) := by decide +kernel
theorem dX11_blame_10 : decode cX11_blame 10 = .ok (.putfield 92, 3) := by decide +kernel
theorem dX11_blame_13 : decode cX11_blame 13 = .ok (.aload_n 0, 1) := by decide +kernel
theorem dX11_blame_14 : decode cX11_blame 14 = .ok (.iload_n 2, 1) := by decide +kernel
theorem dX11_blame_15 : decode cX11_blame 15 = .ok (.putfield 95, 3) := by decide +kernel
theorem dX11_blame_18 : decode cX11_blame 18 = .ok (.return_, 1) := by decide +kernel
theorem dX11_isLetter_0 : decode cX11_isLetter 0 = .ok (.iload_n 0, 1) := by decide +kernel
theorem dX11_isLetter_1 : decode cX11_isLetter 1 = .ok (.bipush 97, 2) := by decide +kernel
theorem dX11_isLetter_3 : decode cX11_isLetter 3 = .ok (.if_icmp .lt 13, 3) := by decide +kernel
theorem dX11_isLetter_6 : decode cX11_isLetter 6 = .ok (.iload_n 0, 1) := by decide +kernel
theorem dX11_isLetter_7 : decode cX11_isLetter 7 = .ok (.bipush 122, 2) := by decide +kernel
theorem dX11_isLetter_9 : decode cX11_isLetter 9 = .ok (.if_icmp .gt 7, 3) := by decide +kernel
theorem dX11_isLetter_12 : decode cX11_isLetter 12 = .ok (.iconst 1, 1) := by decide +kernel
theorem dX11_isLetter_13 : decode cX11_isLetter 13 = .ok (.goto 4, 3) := by decide +kernel
theorem dX11_isLetter_16 : decode cX11_isLetter 16 = .ok (.iconst 0, 1) := by decide +kernel
theorem dX11_isLetter_17 : decode cX11_isLetter 17 = .ok (.ireturn, 1) := by decide +kernel
theorem dX11_isDigit_0 : decode cX11_isDigit 0 = .ok (.iload_n 0, 1) := by decide +kernel
theorem dX11_isDigit_1 : decode cX11_isDigit 1 = .ok (.bipush 48, 2) := by decide +kernel
theorem dX11_isDigit_3 : decode cX11_isDigit 3 = .ok (.if_icmp .lt 13, 3) := by decide +kernel
theorem dX11_isDigit_6 : decode cX11_isDigit 6 = .ok (.iload_n 0, 1) := by decide +kernel
theorem dX11_isDigit_7 : decode cX11_isDigit 7 = .ok (.bipush 57, 2) := by decide +kernel
theorem dX11_isDigit_9 : decode cX11_isDigit 9 = .ok (.if_icmp .gt 7, 3) := by decide +kernel
theorem dX11_isDigit_12 : decode cX11_isDigit 12 = .ok (.iconst 1, 1) := by decide +kernel
theorem dX11_isDigit_13 : decode cX11_isDigit 13 = .ok (.goto 4, 3) := by decide +kernel
theorem dX11_isDigit_16 : decode cX11_isDigit 16 = .ok (.iconst 0, 1) := by decide +kernel
theorem dX11_isDigit_17 : decode cX11_isDigit 17 = .ok (.ireturn, 1) := by decide +kernel
theorem dX11_here_0 : decode cX11_here 0 = .ok (.aload_n 0, 1) := by decide +kernel
theorem dX11_here_1 : decode cX11_here 1 = .ok (.getfield 86, 3) := by decide +kernel
theorem dX11_here_4 : decode cX11_here 4 = .ok (.aload_n 0, 1) := by decide +kernel
theorem dX11_here_5 : decode cX11_here 5 = .ok (.getfield 89, 3) := by decide +kernel
theorem dX11_here_8 : decode cX11_here 8 = .ok (.if_icmp .ge 44, 3) := by decide +kernel
theorem dX11_here_11 : decode cX11_here 11 = .ok (.aload_n 0, 1) := by decide +kernel
theorem dX11_here_12 : decode cX11_here 12 = .ok (.getfield 7, 3) := by decide +kernel
theorem dX11_here_15 : decode cX11_here 15 = .ok (.aload_n 0, 1) := by decide +kernel
theorem dX11_here_16 : decode cX11_here 16 = .ok (.getfield 86, 3) := by decide +kernel
theorem dX11_here_19 : decode cX11_here 19 = .ok (.iaload, 1) := by decide +kernel
theorem dX11_here_20 : decode cX11_here 20 = .ok (.bipush 32, 2) := by decide +kernel
theorem dX11_here_22 : decode cX11_here 22 = .ok (.if_icmp .eq 17, 3) := by decide +kernel
theorem dX11_here_25 : decode cX11_here 25 = .ok (.aload_n 0, 1) := by decide +kernel
theorem dX11_here_26 : decode cX11_here 26 = .ok (.getfield 7, 3) := by decide +kernel
theorem dX11_here_29 : decode cX11_here 29 = .ok (.aload_n 0, 1) := by decide +kernel
theorem dX11_here_30 : decode cX11_here 30 = .ok (.getfield 86, 3) := by decide +kernel
theorem dX11_here_33 : decode cX11_here 33 = .ok (.iaload, 1) := by decide +kernel
theorem dX11_here_34 : decode cX11_here 34 = .ok (.bipush 10, 2) := by decide +kernel
theorem dX11_here_36 : decode cX11_here 36 = .ok (.if_icmp .ne 16, 3) := by decide +kernel
theorem dX11_here_39 : decode cX11_here 39 = .ok (.aload_n 0, 1) := by decide +kernel
theorem dX11_here_40 : decode cX11_here 40 = .ok (.dup, 1) := by decide +kernel
theorem dX11_here_41 : decode cX11_here 41 = .ok (.getfield 86, 3) := by decide +kernel
theorem dX11_here_44 : decode cX11_here 44 = .ok (.iconst 1, 1) := by decide +kernel
theorem dX11_here_45 : decode cX11_here 45 = .ok (.iadd, 1) := by decide +kernel
theorem dX11_here_46 : decode cX11_here 46 = .ok (.putfield 86, 3) := by decide +kernel
theorem dX11_here_49 : decode cX11_here 49 = .ok (.goto (-49), 3) := by decide +kernel
theorem dX11_here_52 : decode cX11_here 52 = .ok (.aload_n 0, 1) := by decide +kernel
theorem dX11_here_53 : decode cX11_here 53 = .ok (.getfield 86, 3) := by decide +kernel
theorem dX11_here_56 : decode cX11_here 56 = .ok (.aload_n 0, 1) := by decide +kernel
theorem dX11_here_57 : decode cX11_here 57 = .ok (.getfield 89, 3) := by decide +kernel
theorem dX11_here_60 : decode cX11_here 60 = .ok (.if_icmp .ge 15, 3) := by decide +kernel
theorem dX11_here_63 : decode cX11_here 63 = .ok (.aload_n 0, 1) := by decide +kernel
theorem dX11_here_64 : decode cX11_here 64 = .ok (.getfield 7, 3) := by decide +kernel
theorem dX11_here_67 : decode cX11_here 67 = .ok (.aload_n 0, 1) := by decide +kernel
theorem dX11_here_68 : decode cX11_here 68 = .ok (.getfield 86, 3) := by decide +kernel
theorem dX11_here_71 : decode cX11_here 71 = .ok (.iaload, 1) := by decide +kernel
theorem dX11_here_72 : decode cX11_here 72 = .ok (.goto 4, 3) := by decide +kernel
theorem dX11_here_75 : decode cX11_here 75 = .ok (.iconst (-1), 1) := by decide +kernel
theorem dX11_here_76 : decode cX11_here 76 = .ok (.ireturn, 1) := by decide +kernel
theorem dX11_must_0 : decode cX11_must 0 = .ok (.aload_n 0, 1) := by decide +kernel
theorem dX11_must_1 : decode cX11_must 1 = .ok (.invokevirtual 186, 3) := by decide +kernel
theorem dX11_must_4 : decode cX11_must 4 = .ok (.iload_n 1, 1) := by decide +kernel
theorem dX11_must_5 : decode cX11_must 5 = .ok (.if_icmp .eq 12, 3) := by decide +kernel
theorem dX11_must_8 : decode cX11_must 8 = .ok (.aload_n 0, 1) := by decide +kernel
theorem dX11_must_9 : decode cX11_must 9 = .ok (.iconst 1, 1) := by decide +kernel
theorem dX11_must_10 : decode cX11_must 10 = .ok (.aload_n 0, 1) := by decide +kernel
theorem dX11_must_11 : decode cX11_must 11 = .ok (.getfield 86, 3) := by decide +kernel
theorem dX11_must_14 : decode cX11_must 14 = .ok (.invokevirtual 189, 3) := by decide +kernel
theorem dX11_must_17 : decode cX11_must 17 = .ok (.aload_n 0, 1) := by decide +kernel
theorem dX11_must_18 : decode cX11_must 18 = .ok (.dup, 1) := by decide +kernel
theorem dX11_must_19 : decode cX11_must 19 = .ok (.getfield 86, 3) := by decide +kernel
theorem dX11_must_22 : decode cX11_must 22 = .ok (.iconst 1, 1) := by decide +kernel
theorem dX11_must_23 : decode cX11_must 23 = .ok (.iadd, 1) := by decide +kernel
theorem dX11_must_24 : decode cX11_must 24 = .ok (.putfield 86, 3) := by decide +kernel
theorem dX11_must_27 : decode cX11_must 27 = .ok (.return_, 1) := by decide +kernel
theorem dX11_wordSize_0 : decode cX11_wordSize 0 = .ok (.iconst 0, 1) := by decide +kernel
theorem dX11_wordSize_1 : decode cX11_wordSize 1 = .ok (.istore_n 1, 1) := by decide +kernel
theorem dX11_wordSize_2 : decode cX11_wordSize 2 = .ok (.aload_n 0, 1) := by decide +kernel
theorem dX11_wordSize_3 : decode cX11_wordSize 3 = .ok (.invokevirtual 186, 3) := by decide +kernel
theorem dX11_wordSize_6 : decode cX11_wordSize 6 = .ok (.pop, 1) := by decide +kernel
theorem dX11_wordSize_7 : decode cX11_wordSize 7 = .ok (.aload_n 0, 1) := by decide +kernel
theorem dX11_wordSize_8 : decode cX11_wordSize 8 = .ok (.getfield 86, 3) := by decide +kernel
theorem dX11_wordSize_11 : decode cX11_wordSize 11 = .ok (.iload_n 1, 1) := by decide +kernel
theorem dX11_wordSize_12 : decode cX11_wordSize 12 = .ok (.iadd, 1) := by decide +kernel
theorem dX11_wordSize_13 : decode cX11_wordSize 13 = .ok (.aload_n 0, 1) := by decide +kernel
theorem dX11_wordSize_14 : decode cX11_wordSize 14 = .ok (.getfield 89, 3) := by decide +kernel
theorem dX11_wordSize_17 : decode cX11_wordSize 17 = .ok (.if_icmp .ge 26, 3) := by decide +kernel
theorem dX11_wordSize_20 : decode cX11_wordSize 20 = .ok (.aload_n 0, 1) := by decide +kernel
theorem dX11_wordSize_21 : decode cX11_wordSize 21 = .ok (.getfield 7, 3) := by decide +kernel
theorem dX11_wordSize_24 : decode cX11_wordSize 24 = .ok (.aload_n 0, 1) := by decide +kernel
theorem dX11_wordSize_25 : decode cX11_wordSize 25 = .ok (.getfield 86, 3) := by decide +kernel
theorem dX11_wordSize_28 : decode cX11_wordSize 28 = .ok (.iload_n 1, 1) := by decide +kernel
theorem dX11_wordSize_29 : decode cX11_wordSize 29 = .ok (.iadd, 1) := by decide +kernel
theorem dX11_wordSize_30 : decode cX11_wordSize 30 = .ok (.iaload, 1) := by decide +kernel
theorem dX11_wordSize_31 : decode cX11_wordSize 31 = .ok (.invokestatic 192, 3) := by decide +kernel
theorem dX11_wordSize_34 : decode cX11_wordSize 34 = .ok (.ifCond .eq 9, 3) := by decide +kernel
theorem dX11_wordSize_37 : decode cX11_wordSize 37 = .ok (.iinc 1 1, 3) := by decide +kernel
theorem dX11_wordSize_40 : decode cX11_wordSize 40 = .ok (.goto (-33), 3) := by decide +kernel
theorem dX11_wordSize_43 : decode cX11_wordSize 43 = .ok (.iload_n 1, 1) := by decide +kernel
theorem dX11_wordSize_44 : decode cX11_wordSize 44 = .ok (.ireturn, 1) := by decide +kernel
theorem dX11_spells_0 : decode cX11_spells 0 = .ok (.iload_n 2, 1) := by decide +kernel
theorem dX11_spells_1 : decode cX11_spells 1 = .ok (.iload 5, 2) := by decide +kernel
theorem dX11_spells_3 : decode cX11_spells 3 = .ok (.if_icmp .eq 5, 3) := by decide +kernel
theorem dX11_spells_6 : decode cX11_spells 6 = .ok (.iconst 0, 1) := by decide +kernel
theorem dX11_spells_7 : decode cX11_spells 7 = .ok (.ireturn, 1) := by decide +kernel
theorem dX11_spells_8 : decode cX11_spells 8 = .ok (.iconst 1, 1) := by decide +kernel
theorem dX11_spells_9 : decode cX11_spells 9 = .ok (.istore 6, 2) := by decide +kernel
theorem dX11_spells_11 : decode cX11_spells 11 = .ok (.iconst 0, 1) := by decide +kernel
theorem dX11_spells_12 : decode cX11_spells 12 = .ok (.istore 7, 2) := by decide +kernel
theorem dX11_spells_14 : decode cX11_spells 14 = .ok (.iload 7, 2) := by decide +kernel
theorem dX11_spells_16 : decode cX11_spells 16 = .ok (.iload_n 2, 1) := by decide +kernel
theorem dX11_spells_17 : decode cX11_spells 17 = .ok (.if_icmp .ge 49, 3) := by decide +kernel
theorem dX11_spells_20 : decode cX11_spells 20 = .ok (.iload 6, 2) := by decide +kernel
theorem dX11_spells_22 : decode cX11_spells 22 = .ok (.ifCond .eq 35, 3) := by decide +kernel
theorem dX11_spells_25 : decode cX11_spells 25 = .ok (.aload_n 0, 1) := by decide +kernel
theorem dX11_spells_26 : decode cX11_spells 26 = .ok (.getfield 7, 3) := by decide +kernel
theorem dX11_spells_29 : decode cX11_spells 29 = .ok (.iload_n 1, 1) := by decide +kernel
theorem dX11_spells_30 : decode cX11_spells 30 = .ok (.iload 7, 2) := by decide +kernel
theorem dX11_spells_32 : decode cX11_spells 32 = .ok (.iadd, 1) := by decide +kernel
theorem dX11_spells_33 : decode cX11_spells 33 = .ok (.iaload, 1) := by decide +kernel
theorem dX11_spells_34 : decode cX11_spells 34 = .ok (.lload_n 3, 1) := by decide +kernel
theorem dX11_spells_35 : decode cX11_spells 35 = .ok (.bipush 8, 2) := by decide +kernel
theorem dX11_spells_37 : decode cX11_spells 37 = .ok (.iload_n 2, 1) := by decide +kernel
theorem dX11_spells_38 : decode cX11_spells 38 = .ok (.iconst 1, 1) := by decide +kernel
theorem dX11_spells_39 : decode cX11_spells 39 = .ok (.isub, 1) := by decide +kernel
theorem dX11_spells_40 : decode cX11_spells 40 = .ok (.iload 7, 2) := by decide +kernel
theorem dX11_spells_42 : decode cX11_spells 42 = .ok (.isub, 1) := by decide +kernel
theorem dX11_spells_43 : decode cX11_spells 43 = .ok (.imul, 1) := by decide +kernel
theorem dX11_spells_44 : decode cX11_spells 44 = .ok (.lushr, 1) := by decide +kernel
theorem dX11_spells_45 : decode cX11_spells 45 = .ok (.ldc2_w 195, 3) := by decide +kernel
theorem dX11_spells_48 : decode cX11_spells 48 = .ok (.land, 1) := by decide +kernel
theorem dX11_spells_49 : decode cX11_spells 49 = .ok (.l2i, 1) := by decide +kernel
theorem dX11_spells_50 : decode cX11_spells 50 = .ok (.if_icmp .ne 7, 3) := by decide +kernel
theorem dX11_spells_53 : decode cX11_spells 53 = .ok (.iconst 1, 1) := by decide +kernel
theorem dX11_spells_54 : decode cX11_spells 54 = .ok (.goto 4, 3) := by decide +kernel
theorem dX11_spells_57 : decode cX11_spells 57 = .ok (.iconst 0, 1) := by decide +kernel
theorem dX11_spells_58 : decode cX11_spells 58 = .ok (.istore 6, 2) := by decide +kernel
theorem dX11_spells_60 : decode cX11_spells 60 = .ok (.iinc 7 1, 3) := by decide +kernel
theorem dX11_spells_63 : decode cX11_spells 63 = .ok (.goto (-49), 3) := by decide +kernel
theorem dX11_spells_66 : decode cX11_spells 66 = .ok (.iload 6, 2) := by decide +kernel
theorem dX11_spells_68 : decode cX11_spells 68 = .ok (.ireturn, 1) := by decide +kernel
theorem dX11_isOut_0 : decode cX11_isOut 0 = .ok (.aload_n 0, 1) := by decide +kernel
theorem dX11_isOut_1 : decode cX11_isOut 1 = .ok (.iload_n 1, 1) := by decide +kernel
theorem dX11_isOut_2 : decode cX11_isOut 2 = .ok (.iload_n 2, 1) := by decide +kernel
theorem dX11_isOut_3 : decode cX11_isOut 3 = .ok (.ldc2_w 197, 3) := by decide +kernel
theorem dX11_isOut_6 : decode cX11_isOut 6 = .ok (.iconst 3, 1) := by decide +kernel
theorem dX11_isOut_7 : decode cX11_isOut 7 = .ok (.invokevirtual 199, 3) := by decide +kernel
theorem dX11_isOut_10 : decode cX11_isOut 10 = .ok (.ireturn, 1) := by decide +kernel
theorem dX11_isIf_0 : decode cX11_isIf 0 = .ok (.aload_n 0, 1) := by decide +kernel
theorem dX11_isIf_1 : decode cX11_isIf 1 = .ok (.iload_n 1, 1) := by decide +kernel
theorem dX11_isIf_2 : decode cX11_isIf 2 = .ok (.iload_n 2, 1) := by decide +kernel
theorem dX11_isIf_3 : decode cX11_isIf 3 = .ok (.ldc2_w 203, 3) := by decide +kernel
theorem dX11_isIf_6 : decode cX11_isIf 6 = .ok (.iconst 2, 1) := by decide +kernel
theorem dX11_isIf_7 : decode cX11_isIf 7 = .ok (.invokevirtual 199, 3) := by decide +kernel
theorem dX11_isIf_10 : decode cX11_isIf 10 = .ok (.ireturn, 1) := by decide +kernel
theorem dX11_isTie_0 : decode cX11_isTie 0 = .ok (.aload_n 0, 1) := by decide +kernel
theorem dX11_isTie_1 : decode cX11_isTie 1 = .ok (.iload_n 1, 1) := by decide +kernel
theorem dX11_isTie_2 : decode cX11_isTie 2 = .ok (.iload_n 2, 1) := by decide +kernel
theorem dX11_isTie_3 : decode cX11_isTie 3 = .ok (.ldc2_w 205, 3) := by decide +kernel
theorem dX11_isTie_6 : decode cX11_isTie 6 = .ok (.iconst 3, 1) := by decide +kernel
theorem dX11_isTie_7 : decode cX11_isTie 7 = .ok (.invokevirtual 199, 3) := by decide +kernel
theorem dX11_isTie_10 : decode cX11_isTie 10 = .ok (.ireturn, 1) := by decide +kernel
theorem dX11_isMax_0 : decode cX11_isMax 0 = .ok (.aload_n 0, 1) := by decide +kernel
theorem dX11_isMax_1 : decode cX11_isMax 1 = .ok (.iload_n 1, 1) := by decide +kernel
theorem dX11_isMax_2 : decode cX11_isMax 2 = .ok (.iload_n 2, 1) := by decide +kernel
theorem dX11_isMax_3 : decode cX11_isMax 3 = .ok (.ldc2_w 207, 3) := by decide +kernel
theorem dX11_isMax_6 : decode cX11_isMax 6 = .ok (.iconst 3, 1) := by decide +kernel
theorem dX11_isMax_7 : decode cX11_isMax 7 = .ok (.invokevirtual 199, 3) := by decide +kernel
theorem dX11_isMax_10 : decode cX11_isMax 10 = .ok (.ireturn, 1) := by decide +kernel
theorem dX11_isMin_0 : decode cX11_isMin 0 = .ok (.aload_n 0, 1) := by decide +kernel
theorem dX11_isMin_1 : decode cX11_isMin 1 = .ok (.iload_n 1, 1) := by decide +kernel
theorem dX11_isMin_2 : decode cX11_isMin 2 = .ok (.iload_n 2, 1) := by decide +kernel
theorem dX11_isMin_3 : decode cX11_isMin 3 = .ok (.ldc2_w 209, 3) := by decide +kernel
theorem dX11_isMin_6 : decode cX11_isMin 6 = .ok (.iconst 3, 1) := by decide +kernel
theorem dX11_isMin_7 : decode cX11_isMin 7 = .ok (.invokevirtual 199, 3) := by decide +kernel
theorem dX11_isMin_10 : decode cX11_isMin 10 = .ok (.ireturn, 1) := by decide +kernel
theorem dX11_whichCount_0 : decode cX11_whichCount 0 = .ok (.aload_n 0, 1) := by decide +kernel
theorem dX11_whichCount_1 : decode cX11_whichCount 1 = .ok (.iload_n 1, 1) := by decide +kernel
theorem dX11_whichCount_2 : decode cX11_whichCount 2 = .ok (.iload_n 2, 1) := by decide +kernel
theorem dX11_whichCount_3 : decode cX11_whichCount 3 = .ok (.ldc2_w 211, 3) := by decide +kernel
theorem dX11_whichCount_6 : decode cX11_whichCount 6 = .ok (.iconst 5, 1) := by decide +kernel
theorem dX11_whichCount_7 : decode cX11_whichCount 7 = .ok (.invokevirtual 199, 3) := by decide +kernel
theorem dX11_whichCount_10 : decode cX11_whichCount 10 = .ok (.ifCond .eq 5, 3) := by decide +kernel
theorem dX11_whichCount_13 : decode cX11_whichCount 13 = .ok (.iconst 0, 1) := by decide +kernel
theorem dX11_whichCount_14 : decode cX11_whichCount 14 = .ok (.ireturn, 1) := by decide +kernel
theorem dX11_whichCount_15 : decode cX11_whichCount 15 = .ok (.aload_n 0, 1) := by decide +kernel
theorem dX11_whichCount_16 : decode cX11_whichCount 16 = .ok (.iload_n 1, 1) := by decide +kernel
theorem dX11_whichCount_17 : decode cX11_whichCount 17 = .ok (.iload_n 2, 1) := by decide +kernel
theorem dX11_whichCount_18 : decode cX11_whichCount 18 = .ok (.ldc2_w 213, 3) := by decide +kernel
theorem dX11_whichCount_21 : decode cX11_whichCount 21 = .ok (.iconst 4, 1) := by decide +kernel
theorem dX11_whichCount_22 : decode cX11_whichCount 22 = .ok (.invokevirtual 199, 3) := by decide +kernel
theorem dX11_whichCount_25 : decode cX11_whichCount 25 = .ok (.ifCond .eq 5, 3) := by decide +kernel
theorem dX11_whichCount_28 : decode cX11_whichCount 28 = .ok (.iconst 1, 1) := by decide +kernel
theorem dX11_whichCount_29 : decode cX11_whichCount 29 = .ok (.ireturn, 1) := by decide +kernel
theorem dX11_whichCount_30 : decode cX11_whichCount 30 = .ok (.aload_n 0, 1) := by decide +kernel
theorem dX11_whichCount_31 : decode cX11_whichCount 31 = .ok (.iload_n 1, 1) := by decide +kernel
theorem dX11_whichCount_32 : decode cX11_whichCount 32 = .ok (.iload_n 2, 1) := by decide +kernel
theorem dX11_whichCount_33 : decode cX11_whichCount 33 = .ok (.ldc2_w 215, 3) := by decide +kernel
theorem dX11_whichCount_36 : decode cX11_whichCount 36 = .ok (.bipush 8, 2) := by decide +kernel
theorem dX11_whichCount_38 : decode cX11_whichCount 38 = .ok (.invokevirtual 199, 3) := by decide +kernel
theorem dX11_whichCount_41 : decode cX11_whichCount 41 = .ok (.ifCond .eq 5, 3) := by decide +kernel
theorem dX11_whichCount_44 : decode cX11_whichCount 44 = .ok (.iconst 2, 1) := by decide +kernel
theorem dX11_whichCount_45 : decode cX11_whichCount 45 = .ok (.ireturn, 1) := by decide +kernel
theorem dX11_whichCount_46 : decode cX11_whichCount 46 = .ok (.aload_n 0, 1) := by decide +kernel
theorem dX11_whichCount_47 : decode cX11_whichCount 47 = .ok (.iload_n 1, 1) := by decide +kernel
theorem dX11_whichCount_48 : decode cX11_whichCount 48 = .ok (.iload_n 2, 1) := by decide +kernel
theorem dX11_whichCount_49 : decode cX11_whichCount 49 = .ok (.ldc2_w 217, 3) := by decide +kernel
theorem dX11_whichCount_52 : decode cX11_whichCount 52 = .ok (.iconst 5, 1) := by decide +kernel
theorem dX11_whichCount_53 : decode cX11_whichCount 53 = .ok (.invokevirtual 199, 3) := by decide +kernel
theorem dX11_whichCount_56 : decode cX11_whichCount 56 = .ok (.ifCond .eq 5, 3) := by decide +kernel
theorem dX11_whichCount_59 : decode cX11_whichCount 59 = .ok (.iconst 3, 1) := by decide +kernel
theorem dX11_whichCount_60 : decode cX11_whichCount 60 = .ok (.ireturn, 1) := by decide +kernel
theorem dX11_whichCount_61 : decode cX11_whichCount 61 = .ok (.aload_n 0, 1) := by decide +kernel
theorem dX11_whichCount_62 : decode cX11_whichCount 62 = .ok (.iload_n 1, 1) := by decide +kernel
theorem dX11_whichCount_63 : decode cX11_whichCount 63 = .ok (.iload_n 2, 1) := by decide +kernel
theorem dX11_whichCount_64 : decode cX11_whichCount 64 = .ok (.ldc2_w 219, 3) := by decide +kernel
theorem dX11_whichCount_67 : decode cX11_whichCount 67 = .ok (.bipush 6, 2) := by decide +kernel
theorem dX11_whichCount_69 : decode cX11_whichCount 69 = .ok (.invokevirtual 199, 3) := by decide +kernel
theorem dX11_whichCount_72 : decode cX11_whichCount 72 = .ok (.ifCond .eq 5, 3) := by decide +kernel
theorem dX11_whichCount_75 : decode cX11_whichCount 75 = .ok (.iconst 4, 1) := by decide +kernel
theorem dX11_whichCount_76 : decode cX11_whichCount 76 = .ok (.ireturn, 1) := by decide +kernel
theorem dX11_whichCount_77 : decode cX11_whichCount 77 = .ok (.aload_n 0, 1) := by decide +kernel
theorem dX11_whichCount_78 : decode cX11_whichCount 78 = .ok (.iload_n 1, 1) := by decide +kernel
theorem dX11_whichCount_79 : decode cX11_whichCount 79 = .ok (.iload_n 2, 1) := by decide +kernel
theorem dX11_whichCount_80 : decode cX11_whichCount 80 = .ok (.ldc2_w 221, 3) := by decide +kernel
theorem dX11_whichCount_83 : decode cX11_whichCount 83 = .ok (.iconst 5, 1) := by decide +kernel
theorem dX11_whichCount_84 : decode cX11_whichCount 84 = .ok (.invokevirtual 199, 3) := by decide +kernel
theorem dX11_whichCount_87 : decode cX11_whichCount 87 = .ok (.ifCond .eq 5, 3) := by decide +kernel
theorem dX11_whichCount_90 : decode cX11_whichCount 90 = .ok (.iconst 5, 1) := by decide +kernel
theorem dX11_whichCount_91 : decode cX11_whichCount 91 = .ok (.ireturn, 1) := by decide +kernel
theorem dX11_whichCount_92 : decode cX11_whichCount 92 = .ok (.aload_n 0, 1) := by decide +kernel
theorem dX11_whichCount_93 : decode cX11_whichCount 93 = .ok (.iload_n 1, 1) := by decide +kernel
theorem dX11_whichCount_94 : decode cX11_whichCount 94 = .ok (.iload_n 2, 1) := by decide +kernel
theorem dX11_whichCount_95 : decode cX11_whichCount 95 = .ok (.ldc2_w 223, 3) := by decide +kernel
theorem dX11_whichCount_98 : decode cX11_whichCount 98 = .ok (.bipush 6, 2) := by decide +kernel
theorem dX11_whichCount_100 : decode cX11_whichCount 100 = .ok (.invokevirtual 199, 3) := by decide +kernel
theorem dX11_whichCount_103 : decode cX11_whichCount 103 = .ok (.ifCond .eq 6, 3) := by decide +kernel
theorem dX11_whichCount_106 : decode cX11_whichCount 106 = .ok (.bipush 6, 2) := by decide +kernel
theorem dX11_whichCount_108 : decode cX11_whichCount 108 = .ok (.ireturn, 1) := by decide +kernel
theorem dX11_whichCount_109 : decode cX11_whichCount 109 = .ok (.aload_n 0, 1) := by decide +kernel
theorem dX11_whichCount_110 : decode cX11_whichCount 110 = .ok (.iload_n 1, 1) := by decide +kernel
theorem dX11_whichCount_111 : decode cX11_whichCount 111 = .ok (.iload_n 2, 1) := by decide +kernel
theorem dX11_whichCount_112 : decode cX11_whichCount 112 = .ok (.ldc2_w 225, 3) := by decide +kernel
theorem dX11_whichCount_115 : decode cX11_whichCount 115 = .ok (.iconst 5, 1) := by decide +kernel
theorem dX11_whichCount_116 : decode cX11_whichCount 116 = .ok (.invokevirtual 199, 3) := by decide +kernel
theorem dX11_whichCount_119 : decode cX11_whichCount 119 = .ok (.ifCond .eq 6, 3) := by decide +kernel
theorem dX11_whichCount_122 : decode cX11_whichCount 122 = .ok (.bipush 7, 2) := by decide +kernel
theorem dX11_whichCount_124 : decode cX11_whichCount 124 = .ok (.ireturn, 1) := by decide +kernel
theorem dX11_whichCount_125 : decode cX11_whichCount 125 = .ok (.aload_n 0, 1) := by decide +kernel
theorem dX11_whichCount_126 : decode cX11_whichCount 126 = .ok (.iload_n 1, 1) := by decide +kernel
theorem dX11_whichCount_127 : decode cX11_whichCount 127 = .ok (.iload_n 2, 1) := by decide +kernel
theorem dX11_whichCount_128 : decode cX11_whichCount 128 = .ok (.ldc2_w 227, 3) := by decide +kernel
theorem dX11_whichCount_131 : decode cX11_whichCount 131 = .ok (.bipush 6, 2) := by decide +kernel
theorem dX11_whichCount_133 : decode cX11_whichCount 133 = .ok (.invokevirtual 199, 3) := by decide +kernel
theorem dX11_whichCount_136 : decode cX11_whichCount 136 = .ok (.ifCond .eq 6, 3) := by decide +kernel
theorem dX11_whichCount_139 : decode cX11_whichCount 139 = .ok (.bipush 8, 2) := by decide +kernel
theorem dX11_whichCount_141 : decode cX11_whichCount 141 = .ok (.ireturn, 1) := by decide +kernel
theorem dX11_whichCount_142 : decode cX11_whichCount 142 = .ok (.aload_n 0, 1) := by decide +kernel
theorem dX11_whichCount_143 : decode cX11_whichCount 143 = .ok (.iload_n 1, 1) := by decide +kernel
theorem dX11_whichCount_144 : decode cX11_whichCount 144 = .ok (.iload_n 2, 1) := by decide +kernel
theorem dX11_whichCount_145 : decode cX11_whichCount 145 = .ok (.ldc2_w 229, 3) := by decide +kernel
theorem dX11_whichCount_148 : decode cX11_whichCount 148 = .ok (.iconst 5, 1) := by decide +kernel
theorem dX11_whichCount_149 : decode cX11_whichCount 149 = .ok (.invokevirtual 199, 3) := by decide +kernel
theorem dX11_whichCount_152 : decode cX11_whichCount 152 = .ok (.ifCond .eq 6, 3) := by decide +kernel
theorem dX11_whichCount_155 : decode cX11_whichCount 155 = .ok (.bipush 9, 2) := by decide +kernel
theorem dX11_whichCount_157 : decode cX11_whichCount 157 = .ok (.ireturn, 1) := by decide +kernel
theorem dX11_whichCount_158 : decode cX11_whichCount 158 = .ok (.aload_n 0, 1) := by decide +kernel
theorem dX11_whichCount_159 : decode cX11_whichCount 159 = .ok (.iload_n 1, 1) := by decide +kernel
theorem dX11_whichCount_160 : decode cX11_whichCount 160 = .ok (.iload_n 2, 1) := by decide +kernel
theorem dX11_whichCount_161 : decode cX11_whichCount 161 = .ok (.ldc2_w 231, 3) := by decide +kernel
theorem dX11_whichCount_164 : decode cX11_whichCount 164 = .ok (.bipush 7, 2) := by decide +kernel
theorem dX11_whichCount_166 : decode cX11_whichCount 166 = .ok (.invokevirtual 199, 3) := by decide +kernel
theorem dX11_whichCount_169 : decode cX11_whichCount 169 = .ok (.ifCond .eq 6, 3) := by decide +kernel
theorem dX11_whichCount_172 : decode cX11_whichCount 172 = .ok (.bipush 10, 2) := by decide +kernel
theorem dX11_whichCount_174 : decode cX11_whichCount 174 = .ok (.ireturn, 1) := by decide +kernel
theorem dX11_whichCount_175 : decode cX11_whichCount 175 = .ok (.aload_n 0, 1) := by decide +kernel
theorem dX11_whichCount_176 : decode cX11_whichCount 176 = .ok (.iload_n 1, 1) := by decide +kernel
theorem dX11_whichCount_177 : decode cX11_whichCount 177 = .ok (.iload_n 2, 1) := by decide +kernel
theorem dX11_whichCount_178 : decode cX11_whichCount 178 = .ok (.ldc2_w 233, 3) := by decide +kernel
theorem dX11_whichCount_181 : decode cX11_whichCount 181 = .ok (.bipush 6, 2) := by decide +kernel
theorem dX11_whichCount_183 : decode cX11_whichCount 183 = .ok (.invokevirtual 199, 3) := by decide +kernel
theorem dX11_whichCount_186 : decode cX11_whichCount 186 = .ok (.ifCond .eq 6, 3) := by decide +kernel
theorem dX11_whichCount_189 : decode cX11_whichCount 189 = .ok (.bipush 11, 2) := by decide +kernel
theorem dX11_whichCount_191 : decode cX11_whichCount 191 = .ok (.ireturn, 1) := by decide +kernel
theorem dX11_whichCount_192 : decode cX11_whichCount 192 = .ok (.aload_n 0, 1) := by decide +kernel
theorem dX11_whichCount_193 : decode cX11_whichCount 193 = .ok (.iload_n 1, 1) := by decide +kernel
theorem dX11_whichCount_194 : decode cX11_whichCount 194 = .ok (.iload_n 2, 1) := by decide +kernel
theorem dX11_whichCount_195 : decode cX11_whichCount 195 = .ok (.ldc2_w 235, 3) := by decide +kernel
theorem dX11_whichCount_198 : decode cX11_whichCount 198 = .ok (.iconst 4, 1) := by decide +kernel
theorem dX11_whichCount_199 : decode cX11_whichCount 199 = .ok (.invokevirtual 199, 3) := by decide +kernel
theorem dX11_whichCount_202 : decode cX11_whichCount 202 = .ok (.ifCond .eq 6, 3) := by decide +kernel
theorem dX11_whichCount_205 : decode cX11_whichCount 205 = .ok (.bipush 12, 2) := by decide +kernel
theorem dX11_whichCount_207 : decode cX11_whichCount 207 = .ok (.ireturn, 1) := by decide +kernel
theorem dX11_whichCount_208 : decode cX11_whichCount 208 = .ok (.aload_n 0, 1) := by decide +kernel
theorem dX11_whichCount_209 : decode cX11_whichCount 209 = .ok (.iload_n 1, 1) := by decide +kernel
theorem dX11_whichCount_210 : decode cX11_whichCount 210 = .ok (.iload_n 2, 1) := by decide +kernel
theorem dX11_whichCount_211 : decode cX11_whichCount 211 = .ok (.ldc2_w 237, 3) := by decide +kernel
theorem dX11_whichCount_214 : decode cX11_whichCount 214 = .ok (.iconst 5, 1) := by decide +kernel
theorem dX11_whichCount_215 : decode cX11_whichCount 215 = .ok (.invokevirtual 199, 3) := by decide +kernel
theorem dX11_whichCount_218 : decode cX11_whichCount 218 = .ok (.ifCond .eq 6, 3) := by decide +kernel
theorem dX11_whichCount_221 : decode cX11_whichCount 221 = .ok (.bipush 13, 2) := by decide +kernel
theorem dX11_whichCount_223 : decode cX11_whichCount 223 = .ok (.ireturn, 1) := by decide +kernel
theorem dX11_whichCount_224 : decode cX11_whichCount 224 = .ok (.aload_n 0, 1) := by decide +kernel
theorem dX11_whichCount_225 : decode cX11_whichCount 225 = .ok (.iload_n 1, 1) := by decide +kernel
theorem dX11_whichCount_226 : decode cX11_whichCount 226 = .ok (.iload_n 2, 1) := by decide +kernel
theorem dX11_whichCount_227 : decode cX11_whichCount 227 = .ok (.ldc2_w 239, 3) := by decide +kernel
theorem dX11_whichCount_230 : decode cX11_whichCount 230 = .ok (.bipush 7, 2) := by decide +kernel
theorem dX11_whichCount_232 : decode cX11_whichCount 232 = .ok (.invokevirtual 199, 3) := by decide +kernel
theorem dX11_whichCount_235 : decode cX11_whichCount 235 = .ok (.ifCond .eq 6, 3) := by decide +kernel
theorem dX11_whichCount_238 : decode cX11_whichCount 238 = .ok (.bipush 14, 2) := by decide +kernel
theorem dX11_whichCount_240 : decode cX11_whichCount 240 = .ok (.ireturn, 1) := by decide +kernel
theorem dX11_whichCount_241 : decode cX11_whichCount 241 = .ok (.iconst (-1), 1) := by decide +kernel
theorem dX11_whichCount_242 : decode cX11_whichCount 242 = .ok (.ireturn, 1) := by decide +kernel
theorem dX11_whichGiven_0 : decode cX11_whichGiven 0 = .ok (.iconst 0, 1) := by decide +kernel
theorem dX11_whichGiven_1 : decode cX11_whichGiven 1 = .ok (.istore_n 3, 1) := by decide +kernel
theorem dX11_whichGiven_2 : decode cX11_whichGiven 2 = .ok (.iload_n 3, 1) := by decide +kernel
theorem dX11_whichGiven_3 : decode cX11_whichGiven 3 = .ok (.aload_n 0, 1) := by decide +kernel
theorem dX11_whichGiven_4 : decode cX11_whichGiven 4 = .ok (.getfield 98, 3) := by decide +kernel
theorem dX11_whichGiven_7 : decode cX11_whichGiven 7 = .ok (.if_icmp .ge 93, 3) := by decide +kernel
theorem dX11_whichGiven_10 : decode cX11_whichGiven 10 = .ok (.aload_n 0, 1) := by decide +kernel
theorem dX11_whichGiven_11 : decode cX11_whichGiven 11 = .ok (.getfield 107, 3) := by decide +kernel
theorem dX11_whichGiven_14 : decode cX11_whichGiven 14 = .ok (.iload_n 3, 1) := by decide +kernel
theorem dX11_whichGiven_15 : decode cX11_whichGiven 15 = .ok (.iaload, 1) := by decide +kernel
theorem dX11_whichGiven_16 : decode cX11_whichGiven 16 = .ok (.ifCond .ne 17, 3) := by decide +kernel
theorem dX11_whichGiven_19 : decode cX11_whichGiven 19 = .ok (.aload_n 0, 1) := by decide +kernel
theorem dX11_whichGiven_20 : decode cX11_whichGiven 20 = .ok (.getfield 119, 3) := by decide +kernel
theorem dX11_whichGiven_23 : decode cX11_whichGiven 23 = .ok (.iload_n 3, 1) := by decide +kernel
theorem dX11_whichGiven_24 : decode cX11_whichGiven 24 = .ok (.iaload, 1) := by decide +kernel
theorem dX11_whichGiven_25 : decode cX11_whichGiven 25 = .ok (.iload_n 2, 1) := by decide +kernel
theorem dX11_whichGiven_26 : decode cX11_whichGiven 26 = .ok (.if_icmp .ne 7, 3) := by decide +kernel
theorem dX11_whichGiven_29 : decode cX11_whichGiven 29 = .ok (.iconst 1, 1) := by decide +kernel
theorem dX11_whichGiven_30 : decode cX11_whichGiven 30 = .ok (.goto 4, 3) := by decide +kernel
theorem dX11_whichGiven_33 : decode cX11_whichGiven 33 = .ok (.iconst 0, 1) := by decide +kernel
theorem dX11_whichGiven_34 : decode cX11_whichGiven 34 = .ok (.istore 4, 2) := by decide +kernel
theorem dX11_whichGiven_36 : decode cX11_whichGiven 36 = .ok (.iconst 0, 1) := by decide +kernel
theorem dX11_whichGiven_37 : decode cX11_whichGiven 37 = .ok (.istore 5, 2) := by decide +kernel
theorem dX11_whichGiven_39 : decode cX11_whichGiven 39 = .ok (.iload 5, 2) := by decide +kernel
theorem dX11_whichGiven_41 : decode cX11_whichGiven 41 = .ok (.iload_n 2, 1) := by decide +kernel
theorem dX11_whichGiven_42 : decode cX11_whichGiven 42 = .ok (.if_icmp .ge 45, 3) := by decide +kernel
theorem dX11_whichGiven_45 : decode cX11_whichGiven 45 = .ok (.iload 4, 2) := by decide +kernel
theorem dX11_whichGiven_47 : decode cX11_whichGiven 47 = .ok (.ifCond .eq 40, 3) := by decide +kernel
theorem dX11_whichGiven_50 : decode cX11_whichGiven 50 = .ok (.aload_n 0, 1) := by decide +kernel
theorem dX11_whichGiven_51 : decode cX11_whichGiven 51 = .ok (.getfield 116, 3) := by decide +kernel
theorem dX11_whichGiven_54 : decode cX11_whichGiven 54 = .ok (.bipush 10, 2) := by decide +kernel
theorem dX11_whichGiven_56 : decode cX11_whichGiven 56 = .ok (.iload_n 3, 1) := by decide +kernel
theorem dX11_whichGiven_57 : decode cX11_whichGiven 57 = .ok (.imul, 1) := by decide +kernel
theorem dX11_whichGiven_58 : decode cX11_whichGiven 58 = .ok (.iload 5, 2) := by decide +kernel
theorem dX11_whichGiven_60 : decode cX11_whichGiven 60 = .ok (.iadd, 1) := by decide +kernel
theorem dX11_whichGiven_61 : decode cX11_whichGiven 61 = .ok (.iaload, 1) := by decide +kernel
theorem dX11_whichGiven_62 : decode cX11_whichGiven 62 = .ok (.aload_n 0, 1) := by decide +kernel
theorem dX11_whichGiven_63 : decode cX11_whichGiven 63 = .ok (.getfield 7, 3) := by decide +kernel
theorem dX11_whichGiven_66 : decode cX11_whichGiven 66 = .ok (.iload_n 1, 1) := by decide +kernel
theorem dX11_whichGiven_67 : decode cX11_whichGiven 67 = .ok (.iload 5, 2) := by decide +kernel
theorem dX11_whichGiven_69 : decode cX11_whichGiven 69 = .ok (.iadd, 1) := by decide +kernel
theorem dX11_whichGiven_70 : decode cX11_whichGiven 70 = .ok (.iaload, 1) := by decide +kernel
theorem dX11_whichGiven_71 : decode cX11_whichGiven 71 = .ok (.if_icmp .ne 7, 3) := by decide +kernel
theorem dX11_whichGiven_74 : decode cX11_whichGiven 74 = .ok (.iconst 1, 1) := by decide +kernel
theorem dX11_whichGiven_75 : decode cX11_whichGiven 75 = .ok (.goto 4, 3) := by decide +kernel
theorem dX11_whichGiven_78 : decode cX11_whichGiven 78 = .ok (.iconst 0, 1) := by decide +kernel
theorem dX11_whichGiven_79 : decode cX11_whichGiven 79 = .ok (.istore 4, 2) := by decide +kernel
theorem dX11_whichGiven_81 : decode cX11_whichGiven 81 = .ok (.iinc 5 1, 3) := by decide +kernel
theorem dX11_whichGiven_84 : decode cX11_whichGiven 84 = .ok (.goto (-45), 3) := by decide +kernel
theorem dX11_whichGiven_87 : decode cX11_whichGiven 87 = .ok (.iload 4, 2) := by decide +kernel
theorem dX11_whichGiven_89 : decode cX11_whichGiven 89 = .ok (.ifCond .eq 5, 3) := by decide +kernel
theorem dX11_whichGiven_92 : decode cX11_whichGiven 92 = .ok (.iload_n 3, 1) := by decide +kernel
theorem dX11_whichGiven_93 : decode cX11_whichGiven 93 = .ok (.ireturn, 1) := by decide +kernel
theorem dX11_whichGiven_94 : decode cX11_whichGiven 94 = .ok (.iinc 3 1, 3) := by decide +kernel
theorem dX11_whichGiven_97 : decode cX11_whichGiven 97 = .ok (.goto (-95), 3) := by decide +kernel
theorem dX11_whichGiven_100 : decode cX11_whichGiven 100 = .ok (.iconst (-1), 1) := by decide +kernel
theorem dX11_whichGiven_101 : decode cX11_whichGiven 101 = .ok (.ireturn, 1) := by decide +kernel
theorem dX11_add_0 : decode cX11_add 0 = .ok (.aload_n 0, 1) := by decide +kernel
theorem dX11_add_1 : decode cX11_add 1 = .ok (.getfield 113, 3) := by decide +kernel
theorem dX11_add_4 : decode cX11_add 4 = .ok (.iconst 2, 1) := by decide +kernel
theorem dX11_add_5 : decode cX11_add 5 = .ok (.aload_n 0, 1) := by decide +kernel
theorem dX11_add_6 : decode cX11_add 6 = .ok (.getfield 101, 3) := by decide +kernel
theorem dX11_add_9 : decode cX11_add 9 = .ok (.imul, 1) := by decide +kernel
theorem dX11_add_10 : decode cX11_add 10 = .ok (.iload_n 1, 1) := by decide +kernel
theorem dX11_add_11 : decode cX11_add 11 = .ok (.iastore, 1) := by decide +kernel
theorem dX11_add_12 : decode cX11_add 12 = .ok (.aload_n 0, 1) := by decide +kernel
theorem dX11_add_13 : decode cX11_add 13 = .ok (.getfield 113, 3) := by decide +kernel
theorem dX11_add_16 : decode cX11_add 16 = .ok (.iconst 2, 1) := by decide +kernel
theorem dX11_add_17 : decode cX11_add 17 = .ok (.aload_n 0, 1) := by decide +kernel
theorem dX11_add_18 : decode cX11_add 18 = .ok (.getfield 101, 3) := by decide +kernel
theorem dX11_add_21 : decode cX11_add 21 = .ok (.imul, 1) := by decide +kernel
theorem dX11_add_22 : decode cX11_add 22 = .ok (.iconst 1, 1) := by decide +kernel
theorem dX11_add_23 : decode cX11_add 23 = .ok (.iadd, 1) := by decide +kernel
theorem dX11_add_24 : decode cX11_add 24 = .ok (.iload_n 2, 1) := by decide +kernel
theorem dX11_add_25 : decode cX11_add 25 = .ok (.iastore, 1) := by decide +kernel
theorem dX11_add_26 : decode cX11_add 26 = .ok (.aload_n 0, 1) := by decide +kernel
theorem dX11_add_27 : decode cX11_add 27 = .ok (.dup, 1) := by decide +kernel
theorem dX11_add_28 : decode cX11_add 28 = .ok (.getfield 101, 3) := by decide +kernel
theorem dX11_add_31 : decode cX11_add 31 = .ok (.iconst 1, 1) := by decide +kernel
theorem dX11_add_32 : decode cX11_add 32 = .ok (.iadd, 1) := by decide +kernel
theorem dX11_add_33 : decode cX11_add 33 = .ok (.putfield 101, 3) := by decide +kernel
theorem dX11_add_36 : decode cX11_add 36 = .ok (.return_, 1) := by decide +kernel
theorem dX11_digits_0 : decode cX11_digits 0 = .ok (.aload_n 0, 1) := by decide +kernel
theorem dX11_digits_1 : decode cX11_digits 1 = .ok (.invokevirtual 186, 3) := by decide +kernel
theorem dX11_digits_4 : decode cX11_digits 4 = .ok (.invokestatic 241, 3) := by decide +kernel
theorem dX11_digits_7 : decode cX11_digits 7 = .ok (.ifCond .ne 14, 3) := by decide +kernel
theorem dX11_digits_10 : decode cX11_digits 10 = .ok (.aload_n 0, 1) := by decide +kernel
theorem dX11_digits_11 : decode cX11_digits 11 = .ok (.iconst 1, 1) := by decide +kernel
theorem dX11_digits_12 : decode cX11_digits 12 = .ok (.aload_n 0, 1) := by decide +kernel
theorem dX11_digits_13 : decode cX11_digits 13 = .ok (.getfield 86, 3) := by decide +kernel
theorem dX11_digits_16 : decode cX11_digits 16 = .ok (.invokevirtual 189, 3) := by decide +kernel
theorem dX11_digits_19 : decode cX11_digits 19 = .ok (.iconst 0, 1) := by decide +kernel
theorem dX11_digits_20 : decode cX11_digits 20 = .ok (.ireturn, 1) := by decide +kernel
theorem dX11_digits_21 : decode cX11_digits 21 = .ok (.iconst 0, 1) := by decide +kernel
theorem dX11_digits_22 : decode cX11_digits 22 = .ok (.istore_n 1, 1) := by decide +kernel
theorem dX11_digits_23 : decode cX11_digits 23 = .ok (.iconst 0, 1) := by decide +kernel
theorem dX11_digits_24 : decode cX11_digits 24 = .ok (.istore_n 2, 1) := by decide +kernel
theorem dX11_digits_25 : decode cX11_digits 25 = .ok (.aload_n 0, 1) := by decide +kernel
theorem dX11_digits_26 : decode cX11_digits 26 = .ok (.getfield 86, 3) := by decide +kernel
theorem dX11_digits_29 : decode cX11_digits 29 = .ok (.aload_n 0, 1) := by decide +kernel
theorem dX11_digits_30 : decode cX11_digits 30 = .ok (.getfield 89, 3) := by decide +kernel
theorem dX11_digits_33 : decode cX11_digits 33 = .ok (.if_icmp .ge 73, 3) := by decide +kernel
theorem dX11_digits_36 : decode cX11_digits 36 = .ok (.aload_n 0, 1) := by decide +kernel
theorem dX11_digits_37 : decode cX11_digits 37 = .ok (.getfield 7, 3) := by decide +kernel
theorem dX11_digits_40 : decode cX11_digits 40 = .ok (.aload_n 0, 1) := by decide +kernel
theorem dX11_digits_41 : decode cX11_digits 41 = .ok (.getfield 86, 3) := by decide +kernel
theorem dX11_digits_44 : decode cX11_digits 44 = .ok (.iaload, 1) := by decide +kernel
theorem dX11_digits_45 : decode cX11_digits 45 = .ok (.invokestatic 241, 3) := by decide +kernel
theorem dX11_digits_48 : decode cX11_digits 48 = .ok (.ifCond .eq 58, 3) := by decide +kernel
theorem dX11_digits_51 : decode cX11_digits 51 = .ok (.aload_n 0, 1) := by decide +kernel
theorem dX11_digits_52 : decode cX11_digits 52 = .ok (.getfield 92, 3) := by decide +kernel
theorem dX11_digits_55 : decode cX11_digits 55 = .ok (.ifCond .ne 51, 3) := by decide +kernel
theorem dX11_digits_58 : decode cX11_digits 58 = .ok (.iload_n 2, 1) := by decide +kernel
theorem dX11_digits_59 : decode cX11_digits 59 = .ok (.iconst 5, 1) := by decide +kernel
theorem dX11_digits_60 : decode cX11_digits 60 = .ok (.if_icmp .ne 12, 3) := by decide +kernel
theorem dX11_digits_63 : decode cX11_digits 63 = .ok (.aload_n 0, 1) := by decide +kernel
theorem dX11_digits_64 : decode cX11_digits 64 = .ok (.iconst 1, 1) := by decide +kernel
theorem dX11_digits_65 : decode cX11_digits 65 = .ok (.aload_n 0, 1) := by decide +kernel
theorem dX11_digits_66 : decode cX11_digits 66 = .ok (.getfield 86, 3) := by decide +kernel
theorem dX11_digits_69 : decode cX11_digits 69 = .ok (.invokevirtual 189, 3) := by decide +kernel
theorem dX11_digits_72 : decode cX11_digits 72 = .ok (.bipush 10, 2) := by decide +kernel
theorem dX11_digits_74 : decode cX11_digits 74 = .ok (.iload_n 1, 1) := by decide +kernel
theorem dX11_digits_75 : decode cX11_digits 75 = .ok (.imul, 1) := by decide +kernel
theorem dX11_digits_76 : decode cX11_digits 76 = .ok (.aload_n 0, 1) := by decide +kernel
theorem dX11_digits_77 : decode cX11_digits 77 = .ok (.getfield 7, 3) := by decide +kernel
theorem dX11_digits_80 : decode cX11_digits 80 = .ok (.aload_n 0, 1) := by decide +kernel
theorem dX11_digits_81 : decode cX11_digits 81 = .ok (.getfield 86, 3) := by decide +kernel
theorem dX11_digits_84 : decode cX11_digits 84 = .ok (.iaload, 1) := by decide +kernel
theorem dX11_digits_85 : decode cX11_digits 85 = .ok (.iadd, 1) := by decide +kernel
theorem dX11_digits_86 : decode cX11_digits 86 = .ok (.bipush 48, 2) := by decide +kernel
theorem dX11_digits_88 : decode cX11_digits 88 = .ok (.isub, 1) := by decide +kernel
theorem dX11_digits_89 : decode cX11_digits 89 = .ok (.istore_n 1, 1) := by decide +kernel
theorem dX11_digits_90 : decode cX11_digits 90 = .ok (.aload_n 0, 1) := by decide +kernel
theorem dX11_digits_91 : decode cX11_digits 91 = .ok (.dup, 1) := by decide +kernel
theorem dX11_digits_92 : decode cX11_digits 92 = .ok (.getfield 86, 3) := by decide +kernel
theorem dX11_digits_95 : decode cX11_digits 95 = .ok (.iconst 1, 1) := by decide +kernel
theorem dX11_digits_96 : decode cX11_digits 96 = .ok (.iadd, 1) := by decide +kernel
theorem dX11_digits_97 : decode cX11_digits 97 = .ok (.putfield 86, 3) := by decide +kernel
theorem dX11_digits_100 : decode cX11_digits 100 = .ok (.iinc 2 1, 3) := by decide +kernel
theorem dX11_digits_103 : decode cX11_digits 103 = .ok (.goto (-78), 3) := by decide +kernel
theorem dX11_digits_106 : decode cX11_digits 106 = .ok (.iload_n 1, 1) := by decide +kernel
theorem dX11_digits_107 : decode cX11_digits 107 = .ok (.ireturn, 1) := by decide +kernel
theorem dX11_joins_0 : decode cX11_joins 0 = .ok (.aload_n 0, 1) := by decide +kernel
theorem dX11_joins_1 : decode cX11_joins 1 = .ok (.getfield 129, 3) := by decide +kernel
theorem dX11_joins_4 : decode cX11_joins 4 = .ok (.ifCond .le 79, 3) := by decide +kernel
theorem dX11_joins_7 : decode cX11_joins 7 = .ok (.aload_n 0, 1) := by decide +kernel
theorem dX11_joins_8 : decode cX11_joins 8 = .ok (.getfield 122, 3) := by decide +kernel
theorem dX11_joins_11 : decode cX11_joins 11 = .ok (.aload_n 0, 1) := by decide +kernel
theorem dX11_joins_12 : decode cX11_joins 12 = .ok (.getfield 129, 3) := by decide +kernel
theorem dX11_joins_15 : decode cX11_joins 15 = .ok (.iconst 1, 1) := by decide +kernel
theorem dX11_joins_16 : decode cX11_joins 16 = .ok (.isub, 1) := by decide +kernel
theorem dX11_joins_17 : decode cX11_joins 17 = .ok (.iaload, 1) := by decide +kernel
theorem dX11_joins_18 : decode cX11_joins 18 = .ok (.iconst 5, 1) := by decide +kernel
theorem dX11_joins_19 : decode cX11_joins 19 = .ok (.if_icmp .eq 37, 3) := by decide +kernel
theorem dX11_joins_22 : decode cX11_joins 22 = .ok (.iload_n 1, 1) := by decide +kernel
theorem dX11_joins_23 : decode cX11_joins 23 = .ok (.ifCond .eq 60, 3) := by decide +kernel
theorem dX11_joins_26 : decode cX11_joins 26 = .ok (.aload_n 0, 1) := by decide +kernel
theorem dX11_joins_27 : decode cX11_joins 27 = .ok (.getfield 122, 3) := by decide +kernel
theorem dX11_joins_30 : decode cX11_joins 30 = .ok (.aload_n 0, 1) := by decide +kernel
theorem dX11_joins_31 : decode cX11_joins 31 = .ok (.getfield 129, 3) := by decide +kernel
theorem dX11_joins_34 : decode cX11_joins 34 = .ok (.iconst 1, 1) := by decide +kernel
theorem dX11_joins_35 : decode cX11_joins 35 = .ok (.isub, 1) := by decide +kernel
theorem dX11_joins_36 : decode cX11_joins 36 = .ok (.iaload, 1) := by decide +kernel
theorem dX11_joins_37 : decode cX11_joins 37 = .ok (.iconst 3, 1) := by decide +kernel
theorem dX11_joins_38 : decode cX11_joins 38 = .ok (.if_icmp .eq 18, 3) := by decide +kernel
theorem dX11_joins_41 : decode cX11_joins 41 = .ok (.aload_n 0, 1) := by decide +kernel
theorem dX11_joins_42 : decode cX11_joins 42 = .ok (.getfield 122, 3) := by decide +kernel
theorem dX11_joins_45 : decode cX11_joins 45 = .ok (.aload_n 0, 1) := by decide +kernel
theorem dX11_joins_46 : decode cX11_joins 46 = .ok (.getfield 129, 3) := by decide +kernel
theorem dX11_joins_49 : decode cX11_joins 49 = .ok (.iconst 1, 1) := by decide +kernel
theorem dX11_joins_50 : decode cX11_joins 50 = .ok (.isub, 1) := by decide +kernel
theorem dX11_joins_51 : decode cX11_joins 51 = .ok (.iaload, 1) := by decide +kernel
theorem dX11_joins_52 : decode cX11_joins 52 = .ok (.iconst 4, 1) := by decide +kernel
theorem dX11_joins_53 : decode cX11_joins 53 = .ok (.if_icmp .ne 30, 3) := by decide +kernel
theorem dX11_joins_56 : decode cX11_joins 56 = .ok (.aload_n 0, 1) := by decide +kernel
theorem dX11_joins_57 : decode cX11_joins 57 = .ok (.dup, 1) := by decide +kernel
theorem dX11_joins_58 : decode cX11_joins 58 = .ok (.getfield 129, 3) := by decide +kernel
theorem dX11_joins_61 : decode cX11_joins 61 = .ok (.iconst 1, 1) := by decide +kernel
theorem dX11_joins_62 : decode cX11_joins 62 = .ok (.isub, 1) := by decide +kernel
theorem dX11_joins_63 : decode cX11_joins 63 = .ok (.putfield 129, 3) := by decide +kernel
theorem dX11_joins_66 : decode cX11_joins 66 = .ok (.aload_n 0, 1) := by decide +kernel
theorem dX11_joins_67 : decode cX11_joins 67 = .ok (.aload_n 0, 1) := by decide +kernel
theorem dX11_joins_68 : decode cX11_joins 68 = .ok (.getfield 122, 3) := by decide +kernel
theorem dX11_joins_71 : decode cX11_joins 71 = .ok (.aload_n 0, 1) := by decide +kernel
theorem dX11_joins_72 : decode cX11_joins 72 = .ok (.getfield 129, 3) := by decide +kernel
theorem dX11_joins_75 : decode cX11_joins 75 = .ok (.iaload, 1) := by decide +kernel
theorem dX11_joins_76 : decode cX11_joins 76 = .ok (.iconst 0, 1) := by decide +kernel
theorem dX11_joins_77 : decode cX11_joins 77 = .ok (.invokevirtual 244, 3) := by decide +kernel
theorem dX11_joins_80 : decode cX11_joins 80 = .ok (.goto (-80), 3) := by decide +kernel
theorem dX11_joins_83 : decode cX11_joins 83 = .ok (.return_, 1) := by decide +kernel
theorem dX11_opens_0 : decode cX11_opens 0 = .ok (.aload_n 0, 1) := by decide +kernel
theorem dX11_opens_1 : decode cX11_opens 1 = .ok (.invokevirtual 186, 3) := by decide +kernel
theorem dX11_opens_4 : decode cX11_opens 4 = .ok (.bipush 40, 2) := by decide +kernel
theorem dX11_opens_6 : decode cX11_opens 6 = .ok (.if_icmp .ne 12, 3) := by decide +kernel
theorem dX11_opens_9 : decode cX11_opens 9 = .ok (.aload_n 0, 1) := by decide +kernel
theorem dX11_opens_10 : decode cX11_opens 10 = .ok (.getfield 132, 3) := by decide +kernel
theorem dX11_opens_13 : decode cX11_opens 13 = .ok (.bipush 6, 2) := by decide +kernel
theorem dX11_opens_15 : decode cX11_opens 15 = .ok (.if_icmp .ne 12, 3) := by decide +kernel
theorem dX11_opens_18 : decode cX11_opens 18 = .ok (.aload_n 0, 1) := by decide +kernel
theorem dX11_opens_19 : decode cX11_opens 19 = .ok (.iconst 1, 1) := by decide +kernel
theorem dX11_opens_20 : decode cX11_opens 20 = .ok (.aload_n 0, 1) := by decide +kernel
theorem dX11_opens_21 : decode cX11_opens 21 = .ok (.getfield 86, 3) := by decide +kernel
theorem dX11_opens_24 : decode cX11_opens 24 = .ok (.invokevirtual 189, 3) := by decide +kernel
theorem dX11_opens_27 : decode cX11_opens 27 = .ok (.aload_n 0, 1) := by decide +kernel
theorem dX11_opens_28 : decode cX11_opens 28 = .ok (.getfield 92, 3) := by decide +kernel
theorem dX11_opens_31 : decode cX11_opens 31 = .ok (.ifCond .le 4, 3) := by decide +kernel
theorem dX11_opens_34 : decode cX11_opens 34 = .ok (.return_, 1) := by decide +kernel
theorem dX11_opens_35 : decode cX11_opens 35 = .ok (.aload_n 0, 1) := by decide +kernel
theorem dX11_opens_36 : decode cX11_opens 36 = .ok (.dup, 1) := by decide +kernel
theorem dX11_opens_37 : decode cX11_opens 37 = .ok (.getfield 86, 3) := by decide +kernel
theorem dX11_opens_40 : decode cX11_opens 40 = .ok (.iconst 1, 1) := by decide +kernel
theorem dX11_opens_41 : decode cX11_opens 41 = .ok (.iadd, 1) := by decide +kernel
theorem dX11_opens_42 : decode cX11_opens 42 = .ok (.putfield 86, 3) := by decide +kernel
theorem dX11_opens_45 : decode cX11_opens 45 = .ok (.aload_n 0, 1) := by decide +kernel
theorem dX11_opens_46 : decode cX11_opens 46 = .ok (.dup, 1) := by decide +kernel
theorem dX11_opens_47 : decode cX11_opens 47 = .ok (.getfield 132, 3) := by decide +kernel
theorem dX11_opens_50 : decode cX11_opens 50 = .ok (.iconst 1, 1) := by decide +kernel
theorem dX11_opens_51 : decode cX11_opens 51 = .ok (.iadd, 1) := by decide +kernel
theorem dX11_opens_52 : decode cX11_opens 52 = .ok (.putfield 132, 3) := by decide +kernel
theorem dX11_opens_55 : decode cX11_opens 55 = .ok (.aload_n 0, 1) := by decide +kernel
theorem dX11_opens_56 : decode cX11_opens 56 = .ok (.getfield 122, 3) := by decide +kernel
theorem dX11_opens_59 : decode cX11_opens 59 = .ok (.aload_n 0, 1) := by decide +kernel
theorem dX11_opens_60 : decode cX11_opens 60 = .ok (.getfield 129, 3) := by decide +kernel
theorem dX11_opens_63 : decode cX11_opens 63 = .ok (.iload_n 1, 1) := by decide +kernel
theorem dX11_opens_64 : decode cX11_opens 64 = .ok (.iastore, 1) := by decide +kernel
theorem dX11_opens_65 : decode cX11_opens 65 = .ok (.aload_n 0, 1) := by decide +kernel
theorem dX11_opens_66 : decode cX11_opens 66 = .ok (.getfield 125, 3) := by decide +kernel
theorem dX11_opens_69 : decode cX11_opens 69 = .ok (.aload_n 0, 1) := by decide +kernel
theorem dX11_opens_70 : decode cX11_opens 70 = .ok (.getfield 129, 3) := by decide +kernel
theorem dX11_opens_73 : decode cX11_opens 73 = .ok (.iconst 0, 1) := by decide +kernel
theorem dX11_opens_74 : decode cX11_opens 74 = .ok (.bastore, 1) := by decide +kernel
theorem dX11_opens_75 : decode cX11_opens 75 = .ok (.aload_n 0, 1) := by decide +kernel
theorem dX11_opens_76 : decode cX11_opens 76 = .ok (.dup, 1) := by decide +kernel
theorem dX11_opens_77 : decode cX11_opens 77 = .ok (.getfield 129, 3) := by decide +kernel
theorem dX11_opens_80 : decode cX11_opens 80 = .ok (.iconst 1, 1) := by decide +kernel
theorem dX11_opens_81 : decode cX11_opens 81 = .ok (.iadd, 1) := by decide +kernel
theorem dX11_opens_82 : decode cX11_opens 82 = .ok (.putfield 129, 3) := by decide +kernel
theorem dX11_opens_85 : decode cX11_opens 85 = .ok (.return_, 1) := by decide +kernel
theorem dX11_operand_0 : decode cX11_operand 0 = .ok (.aload_n 0, 1) := by decide +kernel
theorem dX11_operand_1 : decode cX11_operand 1 = .ok (.invokevirtual 186, 3) := by decide +kernel
theorem dX11_operand_4 : decode cX11_operand 4 = .ok (.istore_n 1, 1) := by decide +kernel
theorem dX11_operand_5 : decode cX11_operand 5 = .ok (.iload_n 1, 1) := by decide +kernel
theorem dX11_operand_6 : decode cX11_operand 6 = .ok (.invokestatic 241, 3) := by decide +kernel
theorem dX11_operand_9 : decode cX11_operand 9 = .ok (.ifCond .eq 14, 3) := by decide +kernel
theorem dX11_operand_12 : decode cX11_operand 12 = .ok (.aload_n 0, 1) := by decide +kernel
theorem dX11_operand_13 : decode cX11_operand 13 = .ok (.iconst 0, 1) := by decide +kernel
theorem dX11_operand_14 : decode cX11_operand 14 = .ok (.aload_n 0, 1) := by decide +kernel
theorem dX11_operand_15 : decode cX11_operand 15 = .ok (.invokevirtual 247, 3) := by decide +kernel
theorem dX11_operand_18 : decode cX11_operand 18 = .ok (.invokevirtual 244, 3) := by decide +kernel
theorem dX11_operand_21 : decode cX11_operand 21 = .ok (.iconst 1, 1) := by decide +kernel
theorem dX11_operand_22 : decode cX11_operand 22 = .ok (.ireturn, 1) := by decide +kernel
theorem dX11_operand_23 : decode cX11_operand 23 = .ok (.iload_n 1, 1) := by decide +kernel
theorem dX11_operand_24 : decode cX11_operand 24 = .ok (.bipush 40, 2) := by decide +kernel
theorem dX11_operand_26 : decode cX11_operand 26 = .ok (.if_icmp .ne 11, 3) := by decide +kernel
theorem dX11_operand_29 : decode cX11_operand 29 = .ok (.aload_n 0, 1) := by decide +kernel
theorem dX11_operand_30 : decode cX11_operand 30 = .ok (.bipush 12, 2) := by decide +kernel
theorem dX11_operand_32 : decode cX11_operand 32 = .ok (.invokevirtual 250, 3) := by decide +kernel
theorem dX11_operand_35 : decode cX11_operand 35 = .ok (.iconst 0, 1) := by decide +kernel
theorem dX11_operand_36 : decode cX11_operand 36 = .ok (.ireturn, 1) := by decide +kernel
theorem dX11_operand_37 : decode cX11_operand 37 = .ok (.aload_n 0, 1) := by decide +kernel
theorem dX11_operand_38 : decode cX11_operand 38 = .ok (.invokevirtual 253, 3) := by decide +kernel
theorem dX11_operand_41 : decode cX11_operand 41 = .ok (.istore_n 2, 1) := by decide +kernel
theorem dX11_operand_42 : decode cX11_operand 42 = .ok (.aload_n 0, 1) := by decide +kernel
theorem dX11_operand_43 : decode cX11_operand 43 = .ok (.getfield 86, 3) := by decide +kernel
theorem dX11_operand_46 : decode cX11_operand 46 = .ok (.istore_n 3, 1) := by decide +kernel
theorem dX11_operand_47 : decode cX11_operand 47 = .ok (.iload_n 2, 1) := by decide +kernel
theorem dX11_operand_48 : decode cX11_operand 48 = .ok (.ifCond .eq 30, 3) := by decide +kernel
theorem dX11_operand_51 : decode cX11_operand 51 = .ok (.aload_n 0, 1) := by decide +kernel
theorem dX11_operand_52 : decode cX11_operand 52 = .ok (.iload_n 3, 1) := by decide +kernel
theorem dX11_operand_53 : decode cX11_operand 53 = .ok (.iload_n 2, 1) := by decide +kernel
theorem dX11_operand_54 : decode cX11_operand 54 = .ok (.invokevirtual 256, 3) := by decide +kernel
theorem dX11_operand_57 : decode cX11_operand 57 = .ok (.ifCond .ne 21, 3) := by decide +kernel
theorem dX11_operand_60 : decode cX11_operand 60 = .ok (.aload_n 0, 1) := by decide +kernel
theorem dX11_operand_61 : decode cX11_operand 61 = .ok (.iload_n 3, 1) := by decide +kernel
theorem dX11_operand_62 : decode cX11_operand 62 = .ok (.iload_n 2, 1) := by decide +kernel
theorem dX11_operand_63 : decode cX11_operand 63 = .ok (.invokevirtual 259, 3) := by decide +kernel
theorem dX11_operand_66 : decode cX11_operand 66 = .ok (.ifCond .ne 12, 3) := by decide +kernel
theorem dX11_operand_69 : decode cX11_operand 69 = .ok (.aload_n 0, 1) := by decide +kernel
theorem dX11_operand_70 : decode cX11_operand 70 = .ok (.iload_n 3, 1) := by decide +kernel
theorem dX11_operand_71 : decode cX11_operand 71 = .ok (.iload_n 2, 1) := by decide +kernel
theorem dX11_operand_72 : decode cX11_operand 72 = .ok (.invokevirtual 262, 3) := by decide +kernel
theorem dX11_operand_75 : decode cX11_operand 75 = .ok (.ifCond .eq 11, 3) := by decide +kernel
theorem dX11_operand_78 : decode cX11_operand 78 = .ok (.aload_n 0, 1) := by decide +kernel
theorem dX11_operand_79 : decode cX11_operand 79 = .ok (.iconst 1, 1) := by decide +kernel
theorem dX11_operand_80 : decode cX11_operand 80 = .ok (.iload_n 3, 1) := by decide +kernel
theorem dX11_operand_81 : decode cX11_operand 81 = .ok (.invokevirtual 189, 3) := by decide +kernel
theorem dX11_operand_84 : decode cX11_operand 84 = .ok (.iconst 1, 1) := by decide +kernel
theorem dX11_operand_85 : decode cX11_operand 85 = .ok (.ireturn, 1) := by decide +kernel
theorem dX11_operand_86 : decode cX11_operand 86 = .ok (.aload_n 0, 1) := by decide +kernel
theorem dX11_operand_87 : decode cX11_operand 87 = .ok (.iload_n 3, 1) := by decide +kernel
theorem dX11_operand_88 : decode cX11_operand 88 = .ok (.iload_n 2, 1) := by decide +kernel
theorem dX11_operand_89 : decode cX11_operand 89 = .ok (.invokevirtual 265, 3) := by decide +kernel
theorem dX11_operand_92 : decode cX11_operand 92 = .ok (.ifCond .ne 12, 3) := by decide +kernel
theorem dX11_operand_95 : decode cX11_operand 95 = .ok (.aload_n 0, 1) := by decide +kernel
theorem dX11_operand_96 : decode cX11_operand 96 = .ok (.iload_n 3, 1) := by decide +kernel
theorem dX11_operand_97 : decode cX11_operand 97 = .ok (.iload_n 2, 1) := by decide +kernel
theorem dX11_operand_98 : decode cX11_operand 98 = .ok (.invokevirtual 268, 3) := by decide +kernel
theorem dX11_operand_101 : decode cX11_operand 101 = .ok (.ifCond .eq 35, 3) := by decide +kernel
theorem dX11_operand_104 : decode cX11_operand 104 = .ok (.aload_n 0, 1) := by decide +kernel
theorem dX11_operand_105 : decode cX11_operand 105 = .ok (.dup, 1) := by decide +kernel
theorem dX11_operand_106 : decode cX11_operand 106 = .ok (.getfield 86, 3) := by decide +kernel
theorem dX11_operand_109 : decode cX11_operand 109 = .ok (.iload_n 2, 1) := by decide +kernel
theorem dX11_operand_110 : decode cX11_operand 110 = .ok (.iadd, 1) := by decide +kernel
theorem dX11_operand_111 : decode cX11_operand 111 = .ok (.putfield 86, 3) := by decide +kernel
theorem dX11_operand_114 : decode cX11_operand 114 = .ok (.aload_n 0, 1) := by decide +kernel
theorem dX11_operand_115 : decode cX11_operand 115 = .ok (.aload_n 0, 1) := by decide +kernel
