theorem dX12_init_0 : decode cX12_init 0 = .ok (.aload_n 0, 1) := by decide +kernel
theorem dX12_init_1 : decode cX12_init 1 = .ok (.invokespecial 1, 3) := by decide +kernel
theorem dX12_init_4 : decode cX12_init 4 = .ok (.aload_n 0, 1) := by decide +kernel
theorem dX12_init_5 : decode cX12_init 5 = .ok (.sipush 352, 3) := by decide +kernel
theorem dX12_init_8 : decode cX12_init 8 = .ok (.newarray .int, 2) := by decide +kernel
theorem dX12_init_10 : decode cX12_init 10 = .ok (.putfield 7, 3) := by decide +kernel
theorem dX12_init_13 : decode cX12_init 13 = .ok (.aload_n 0, 1) := by decide +kernel
theorem dX12_init_14 : decode cX12_init 14 = .ok (.sipush 352, 3) := by decide +kernel
theorem dX12_init_17 : decode cX12_init 17 = .ok (.newarray .int, 2) := by decide +kernel
theorem dX12_init_19 : decode cX12_init 19 = .ok (.putfield 13, 3) := by decide +kernel
theorem dX12_init_22 : decode cX12_init 22 = .ok (.aload_n 0, 1) := by decide +kernel
theorem dX12_init_23 : decode cX12_init 23 = .ok (.sipush 352, 3) := by decide +kernel
theorem dX12_init_26 : decode cX12_init 26 = .ok (.newarray .int, 2) := by decide +kernel
theorem dX12_init_28 : decode cX12_init 28 = .ok (.putfield 16, 3) := by decide +kernel
theorem dX12_init_31 : decode cX12_init 31 = .ok (.aload_n 0, 1) := by decide +kernel
theorem dX12_init_32 : decode cX12_init 32 = .ok (.sipush 352, 3) := by decide +kernel
theorem dX12_init_35 : decode cX12_init 35 = .ok (.newarray .int, 2) := by decide +kernel
theorem dX12_init_37 : decode cX12_init 37 = .ok (.putfield 19, 3) := by decide +kernel
theorem dX12_init_40 : decode cX12_init 40 = .ok (.aload_n 0, 1) := by decide +kernel
theorem dX12_init_41 : decode cX12_init 41 = .ok (.bipush 80, 2) := by decide +kernel
theorem dX12_init_43 : decode cX12_init 43 = .ok (.newarray .int, 2) := by decide +kernel
theorem dX12_init_45 : decode cX12_init 45 = .ok (.putfield 22, 3) := by decide +kernel
theorem dX12_init_48 : decode cX12_init 48 = .ok (.aload_n 0, 1) := by decide +kernel
theorem dX12_init_49 : decode cX12_init 49 = .ok (.iconst 4, 1) := by decide +kernel
theorem dX12_init_50 : decode cX12_init 50 = .ok (.newarray .int, 2) := by decide +kernel
theorem dX12_init_52 : decode cX12_init 52 = .ok (.putfield 25, 3) := by decide +kernel
theorem dX12_init_55 : decode cX12_init 55 = .ok (.aload_n 0, 1) := by decide +kernel
theorem dX12_init_56 : decode cX12_init 56 = .ok (.iconst 4, 1) := by decide +kernel
theorem dX12_init_57 : decode cX12_init 57 = .ok (.newarray .int, 2) := by decide +kernel
theorem dX12_init_59 : decode cX12_init 59 = .ok (.putfield 28, 3) := by decide +kernel
theorem dX12_init_62 : decode cX12_init 62 = .ok (.aload_n 0, 1) := by decide +kernel
theorem dX12_init_63 : decode cX12_init 63 = .ok (.bipush 96, 2) := by decide +kernel
theorem dX12_init_65 : decode cX12_init 65 = .ok (.newarray .long, 2) := by decide +kernel
theorem dX12_init_67 : decode cX12_init 67 = .ok (.putfield 31, 3) := by decide +kernel
theorem dX12_init_70 : decode cX12_init 70 = .ok (.aload_n 0, 1) := by decide +kernel
theorem dX12_init_71 : decode cX12_init 71 = .ok (.bipush 6, 2) := by decide +kernel
theorem dX12_init_73 : decode cX12_init 73 = .ok (.newarray .int, 2) := by decide +kernel
theorem dX12_init_75 : decode cX12_init 75 = .ok (.putfield 35, 3) := by decide +kernel
theorem dX12_init_78 : decode cX12_init 78 = .ok (.aload_n 0, 1) := by decide +kernel
theorem dX12_init_79 : decode cX12_init 79 = .ok (.bipush 6, 2) := by decide +kernel
theorem dX12_init_81 : decode cX12_init 81 = .ok (.newarray .int, 2) := by decide +kernel
theorem dX12_init_83 : decode cX12_init 83 = .ok (.putfield 38, 3) := by decide +kernel
theorem dX12_init_86 : decode cX12_init 86 = .ok (.aload_n 0, 1) := by decide +kernel
theorem dX12_init_87 : decode cX12_init 87 = .ok (.bipush 6, 2) := by decide +kernel
theorem dX12_init_89 : decode cX12_init 89 = .ok (.newarray .int, 2) := by decide +kernel
theorem dX12_init_91 : decode cX12_init 91 = .ok (.putfield 41, 3) := by decide +kernel
theorem dX12_init_94 : decode cX12_init 94 = .ok (.aload_n 0, 1) := by decide +kernel
theorem dX12_init_95 : decode cX12_init 95 = .ok (.sipush 448, 3) := by decide +kernel
theorem dX12_init_98 : decode cX12_init 98 = .ok (.newarray .int, 2) := by decide +kernel
theorem dX12_init_100 : decode cX12_init 100 = .ok (.putfield 44, 3) := by decide +kernel
theorem dX12_init_103 : decode cX12_init 103 = .ok (.aload_n 0, 1) := by decide +kernel
theorem dX12_init_104 : decode cX12_init 104 = .ok (.getfield 7, 3) := by decide +kernel
theorem dX12_init_107 : decode cX12_init 107 = .ok (.bipush 6, 2) := by decide +kernel
theorem dX12_init_109 : decode cX12_init 109 = .ok (.iconst 1, 1) := by decide +kernel
theorem dX12_init_110 : decode cX12_init 110 = .ok (.invokestatic 47, 3) := by decide +kernel
theorem dX12_init_113 : decode cX12_init 113 = .ok (.iconst 0, 1) := by decide +kernel
theorem dX12_init_114 : decode cX12_init 114 = .ok (.istore_n 1, 1) := by decide +kernel
theorem dX12_init_115 : decode cX12_init 115 = .ok (.iload_n 1, 1) := by decide +kernel
theorem dX12_init_116 : decode cX12_init 116 = .ok (.iconst 4, 1) := by decide +kernel
theorem dX12_init_117 : decode cX12_init 117 = .ok (.if_icmp .ge 16, 3) := by decide +kernel
theorem dX12_init_120 : decode cX12_init 120 = .ok (.aload_n 0, 1) := by decide +kernel
theorem dX12_init_121 : decode cX12_init 121 = .ok (.getfield 28, 3) := by decide +kernel
theorem dX12_init_124 : decode cX12_init 124 = .ok (.iload_n 1, 1) := by decide +kernel
theorem dX12_init_125 : decode cX12_init 125 = .ok (.iconst (-1), 1) := by decide +kernel
theorem dX12_init_126 : decode cX12_init 126 = .ok (.iastore, 1) := by decide +kernel
theorem dX12_init_127 : decode cX12_init 127 = .ok (.iinc 1 1, 3) := by decide +kernel
theorem dX12_init_130 : decode cX12_init 130 = .ok (.goto (-15), 3) := by decide +kernel
theorem dX12_init_133 : decode cX12_init 133 = .ok (.return_, 1) := by decide +kernel
theorem dX12_in_0 : decode cX12_in 0 = .ok (.lload_n 0, 1) := by decide +kernel
theorem dX12_in_1 : decode cX12_in 1 = .ok (.lload_n 2, 1) := by decide +kernel
theorem dX12_in_2 : decode cX12_in 2 = .ok (.lcmp, 1) := by decide +kernel
theorem dX12_in_3 : decode cX12_in 3 = .ok (.ifCond .lt 14, 3) := by decide +kernel
theorem dX12_in_6 : decode cX12_in 6 = .ok (.lload_n 0, 1) := by decide +kernel
theorem dX12_in_7 : decode cX12_in 7 = .ok (.lload 4, 2) := by decide +kernel
theorem dX12_in_9 : decode cX12_in 9 = .ok (.lcmp, 1) := by decide +kernel
theorem dX12_in_10 : decode cX12_in 10 = .ok (.ifCond .gt 7, 3) := by decide +kernel
theorem dX12_in_13 : decode cX12_in 13 = .ok (.iconst 1, 1) := by decide +kernel
theorem dX12_in_14 : decode cX12_in 14 = .ok (.goto 4, 3) := by decide +kernel
theorem dX12_in_17 : decode cX12_in 17 = .ok (.iconst 0, 1) := by decide +kernel
theorem dX12_in_18 : decode cX12_in 18 = .ok (.ireturn, 1) := by decide +kernel
theorem dX12_copies_0 : decode cX12_copies 0 = .ok (.iconst 0, 1) := by decide +kernel
theorem dX12_copies_1 : decode cX12_copies 1 = .ok (.istore 5, 2) := by decide +kernel
theorem dX12_copies_3 : decode cX12_copies 3 = .ok (.iload 5, 2) := by decide +kernel
theorem dX12_copies_5 : decode cX12_copies 5 = .ok (.iload 4, 2) := by decide +kernel
theorem dX12_copies_7 : decode cX12_copies 7 = .ok (.if_icmp .ge 21, 3) := by decide +kernel
theorem dX12_copies_10 : decode cX12_copies 10 = .ok (.aload_n 2, 1) := by decide +kernel
theorem dX12_copies_11 : decode cX12_copies 11 = .ok (.iload_n 3, 1) := by decide +kernel
theorem dX12_copies_12 : decode cX12_copies 12 = .ok (.iload 5, 2) := by decide +kernel
theorem dX12_copies_14 : decode cX12_copies 14 = .ok (.iadd, 1) := by decide +kernel
theorem dX12_copies_15 : decode cX12_copies 15 = .ok (.aload_n 0, 1) := by decide +kernel
theorem dX12_copies_16 : decode cX12_copies 16 = .ok (.iload_n 1, 1) := by decide +kernel
theorem dX12_copies_17 : decode cX12_copies 17 = .ok (.iload 5, 2) := by decide +kernel
theorem dX12_copies_19 : decode cX12_copies 19 = .ok (.iadd, 1) := by decide +kernel
theorem dX12_copies_20 : decode cX12_copies 20 = .ok (.iaload, 1) := by decide +kernel
theorem dX12_copies_21 : decode cX12_copies 21 = .ok (.iastore, 1) := by decide +kernel
theorem dX12_copies_22 : decode cX12_copies 22 = .ok (.iinc 5 1, 3) := by decide +kernel
theorem dX12_copies_25 : decode cX12_copies 25 = .ok (.goto (-22), 3) := by decide +kernel
theorem dX12_copies_28 : decode cX12_copies 28 = .ok (.return_, 1) := by decide +kernel
theorem dX12_begins_0 : decode cX12_begins 0 = .ok (.iconst 0, 1) := by decide +kernel
theorem dX12_begins_1 : decode cX12_begins 1 = .ok (.istore_n 3, 1) := by decide +kernel
theorem dX12_begins_2 : decode cX12_begins 2 = .ok (.iload_n 3, 1) := by decide +kernel
theorem dX12_begins_3 : decode cX12_begins 3 = .ok (.sipush 352, 3) := by decide +kernel
theorem dX12_begins_6 : decode cX12_begins 6 = .ok (.if_icmp .ge 32, 3) := by decide +kernel
theorem dX12_begins_9 : decode cX12_begins 9 = .ok (.aload_n 0, 1) := by decide +kernel
theorem dX12_begins_10 : decode cX12_begins 10 = .ok (.iload_n 3, 1) := by decide +kernel
theorem dX12_begins_11 : decode cX12_begins 11 = .ok (.iload_n 3, 1) := by decide +kernel
theorem dX12_begins_12 : decode cX12_begins 12 = .ok (.i2l, 1) := by decide +kernel
theorem dX12_begins_13 : decode cX12_begins 13 = .ok (.ldc2_w 51, 3) := by decide +kernel
theorem dX12_begins_16 : decode cX12_begins 16 = .ok (.ldc2_w 53, 3) := by decide +kernel
theorem dX12_begins_19 : decode cX12_begins 19 = .ok (.invokestatic 55, 3) := by decide +kernel
theorem dX12_begins_22 : decode cX12_begins 22 = .ok (.ifCond .eq 8, 3) := by decide +kernel
theorem dX12_begins_25 : decode cX12_begins 25 = .ok (.bipush (-4), 2) := by decide +kernel
theorem dX12_begins_27 : decode cX12_begins 27 = .ok (.goto 4, 3) := by decide +kernel
theorem dX12_begins_30 : decode cX12_begins 30 = .ok (.iconst 0, 1) := by decide +kernel
theorem dX12_begins_31 : decode cX12_begins 31 = .ok (.iastore, 1) := by decide +kernel
theorem dX12_begins_32 : decode cX12_begins 32 = .ok (.iinc 3 1, 3) := by decide +kernel
theorem dX12_begins_35 : decode cX12_begins 35 = .ok (.goto (-33), 3) := by decide +kernel
theorem dX12_begins_38 : decode cX12_begins 38 = .ok (.aload_n 0, 1) := by decide +kernel
theorem dX12_begins_39 : decode cX12_begins 39 = .ok (.iconst 2, 1) := by decide +kernel
theorem dX12_begins_40 : decode cX12_begins 40 = .ok (.iload_n 1, 1) := by decide +kernel
theorem dX12_begins_41 : decode cX12_begins 41 = .ok (.iastore, 1) := by decide +kernel
theorem dX12_begins_42 : decode cX12_begins 42 = .ok (.aload_n 0, 1) := by decide +kernel
theorem dX12_begins_43 : decode cX12_begins 43 = .ok (.bipush 46, 2) := by decide +kernel
theorem dX12_begins_45 : decode cX12_begins 45 = .ok (.iload_n 2, 1) := by decide +kernel
theorem dX12_begins_46 : decode cX12_begins 46 = .ok (.iastore, 1) := by decide +kernel
theorem dX12_begins_47 : decode cX12_begins 47 = .ok (.return_, 1) := by decide +kernel
theorem dX12_isMan_0 : decode cX12_isMan 0 = .ok (.iload_n 1, 1) := by decide +kernel
theorem dX12_isMan_1 : decode cX12_isMan 1 = .ok (.i2l, 1) := by decide +kernel
theorem dX12_isMan_2 : decode cX12_isMan 2 = .ok (.lconst 0, 1) := by decide +kernel
theorem dX12_isMan_3 : decode cX12_isMan 3 = .ok (.aload_n 0, 1) := by decide +kernel
theorem dX12_isMan_4 : decode cX12_isMan 4 = .ok (.getfield 7, 3) := by decide +kernel
theorem dX12_isMan_7 : decode cX12_isMan 7 = .ok (.iconst 0, 1) := by decide +kernel
theorem dX12_isMan_8 : decode cX12_isMan 8 = .ok (.iaload, 1) := by decide +kernel
theorem dX12_isMan_9 : decode cX12_isMan 9 = .ok (.iconst 1, 1) := by decide +kernel
theorem dX12_isMan_10 : decode cX12_isMan 10 = .ok (.isub, 1) := by decide +kernel
theorem dX12_isMan_11 : decode cX12_isMan 11 = .ok (.i2l, 1) := by decide +kernel
theorem dX12_isMan_12 : decode cX12_isMan 12 = .ok (.invokestatic 55, 3) := by decide +kernel
theorem dX12_isMan_15 : decode cX12_isMan 15 = .ok (.ireturn, 1) := by decide +kernel
theorem dX12_isName_0 : decode cX12_isName 0 = .ok (.iload_n 1, 1) := by decide +kernel
theorem dX12_isName_1 : decode cX12_isName 1 = .ok (.i2l, 1) := by decide +kernel
theorem dX12_isName_2 : decode cX12_isName 2 = .ok (.lconst 0, 1) := by decide +kernel
theorem dX12_isName_3 : decode cX12_isName 3 = .ok (.aload_n 0, 1) := by decide +kernel
theorem dX12_isName_4 : decode cX12_isName 4 = .ok (.getfield 7, 3) := by decide +kernel
theorem dX12_isName_7 : decode cX12_isName 7 = .ok (.iconst 1, 1) := by decide +kernel
theorem dX12_isName_8 : decode cX12_isName 8 = .ok (.iaload, 1) := by decide +kernel
theorem dX12_isName_9 : decode cX12_isName 9 = .ok (.iconst 1, 1) := by decide +kernel
theorem dX12_isName_10 : decode cX12_isName 10 = .ok (.isub, 1) := by decide +kernel
theorem dX12_isName_11 : decode cX12_isName 11 = .ok (.i2l, 1) := by decide +kernel
theorem dX12_isName_12 : decode cX12_isName 12 = .ok (.invokestatic 55, 3) := by decide +kernel
theorem dX12_isName_15 : decode cX12_isName 15 = .ok (.ireturn, 1) := by decide +kernel
theorem dX12_isTwo_0 : decode cX12_isTwo 0 = .ok (.iload_n 0, 1) := by decide +kernel
theorem dX12_isTwo_1 : decode cX12_isTwo 1 = .ok (.i2l, 1) := by decide +kernel
theorem dX12_isTwo_2 : decode cX12_isTwo 2 = .ok (.lconst 0, 1) := by decide +kernel
theorem dX12_isTwo_3 : decode cX12_isTwo 3 = .ok (.lconst 1, 1) := by decide +kernel
theorem dX12_isTwo_4 : decode cX12_isTwo 4 = .ok (.invokestatic 55, 3) := by decide +kernel
theorem dX12_isTwo_7 : decode cX12_isTwo 7 = .ok (.ireturn, 1) := by decide +kernel
theorem dX12_offOf_0 : decode cX12_offOf 0 = .ok (.bipush 10, 2) := by decide +kernel
theorem dX12_offOf_2 : decode cX12_offOf 2 = .ok (.aload_n 0, 1) := by decide +kernel
theorem dX12_offOf_3 : decode cX12_offOf 3 = .ok (.bipush 10, 2) := by decide +kernel
theorem dX12_offOf_5 : decode cX12_offOf 5 = .ok (.iload_n 1, 1) := by decide +kernel
theorem dX12_offOf_6 : decode cX12_offOf 6 = .ok (.iadd, 1) := by decide +kernel
theorem dX12_offOf_7 : decode cX12_offOf 7 = .ok (.iaload, 1) := by decide +kernel
theorem dX12_offOf_8 : decode cX12_offOf 8 = .ok (.isub, 1) := by decide +kernel
theorem dX12_offOf_9 : decode cX12_offOf 9 = .ok (.iload_n 2, 1) := by decide +kernel
theorem dX12_offOf_10 : decode cX12_offOf 10 = .ok (.aload_n 0, 1) := by decide +kernel
theorem dX12_offOf_11 : decode cX12_offOf 11 = .ok (.bipush 16, 2) := by decide +kernel
theorem dX12_offOf_13 : decode cX12_offOf 13 = .ok (.iload_n 1, 1) := by decide +kernel
theorem dX12_offOf_14 : decode cX12_offOf 14 = .ok (.iadd, 1) := by decide +kernel
theorem dX12_offOf_15 : decode cX12_offOf 15 = .ok (.iaload, 1) := by decide +kernel
theorem dX12_offOf_16 : decode cX12_offOf 16 = .ok (.idiv, 1) := by decide +kernel
theorem dX12_offOf_17 : decode cX12_offOf 17 = .ok (.iadd, 1) := by decide +kernel
theorem dX12_offOf_18 : decode cX12_offOf 18 = .ok (.istore_n 3, 1) := by decide +kernel
theorem dX12_offOf_19 : decode cX12_offOf 19 = .ok (.aload_n 0, 1) := by decide +kernel
theorem dX12_offOf_20 : decode cX12_offOf 20 = .ok (.iconst 4, 1) := by decide +kernel
theorem dX12_offOf_21 : decode cX12_offOf 21 = .ok (.iload_n 1, 1) := by decide +kernel
theorem dX12_offOf_22 : decode cX12_offOf 22 = .ok (.iadd, 1) := by decide +kernel
theorem dX12_offOf_23 : decode cX12_offOf 23 = .ok (.iaload, 1) := by decide +kernel
theorem dX12_offOf_24 : decode cX12_offOf 24 = .ok (.iconst 4, 1) := by decide +kernel
theorem dX12_offOf_25 : decode cX12_offOf 25 = .ok (.if_icmp .eq 7, 3) := by decide +kernel
theorem dX12_offOf_28 : decode cX12_offOf 28 = .ok (.iload_n 3, 1) := by decide +kernel
theorem dX12_offOf_29 : decode cX12_offOf 29 = .ok (.goto 20, 3) := by decide +kernel
theorem dX12_offOf_32 : decode cX12_offOf 32 = .ok (.aload_n 0, 1) := by decide +kernel
theorem dX12_offOf_33 : decode cX12_offOf 33 = .ok (.iconst 3, 1) := by decide +kernel
theorem dX12_offOf_34 : decode cX12_offOf 34 = .ok (.iaload, 1) := by decide +kernel
theorem dX12_offOf_35 : decode cX12_offOf 35 = .ok (.iconst 2, 1) := by decide +kernel
theorem dX12_offOf_36 : decode cX12_offOf 36 = .ok (.irem, 1) := by decide +kernel
theorem dX12_offOf_37 : decode cX12_offOf 37 = .ok (.ifCond .ne 9, 3) := by decide +kernel
theorem dX12_offOf_40 : decode cX12_offOf 40 = .ok (.iload_n 3, 1) := by decide +kernel
theorem dX12_offOf_41 : decode cX12_offOf 41 = .ok (.iconst 5, 1) := by decide +kernel
theorem dX12_offOf_42 : decode cX12_offOf 42 = .ok (.iadd, 1) := by decide +kernel
theorem dX12_offOf_43 : decode cX12_offOf 43 = .ok (.goto 6, 3) := by decide +kernel
theorem dX12_offOf_46 : decode cX12_offOf 46 = .ok (.iload_n 3, 1) := by decide +kernel
theorem dX12_offOf_47 : decode cX12_offOf 47 = .ok (.iconst 3, 1) := by decide +kernel
theorem dX12_offOf_48 : decode cX12_offOf 48 = .ok (.iadd, 1) := by decide +kernel
theorem dX12_offOf_49 : decode cX12_offOf 49 = .ok (.ireturn, 1) := by decide +kernel
theorem dX12_valueOf_0 : decode cX12_valueOf 0 = .ok (.aload_n 0, 1) := by decide +kernel
theorem dX12_valueOf_1 : decode cX12_valueOf 1 = .ok (.bipush 34, 2) := by decide +kernel
theorem dX12_valueOf_3 : decode cX12_valueOf 3 = .ok (.iload_n 2, 1) := by decide +kernel
theorem dX12_valueOf_4 : decode cX12_valueOf 4 = .ok (.iadd, 1) := by decide +kernel
theorem dX12_valueOf_5 : decode cX12_valueOf 5 = .ok (.iaload, 1) := by decide +kernel
theorem dX12_valueOf_6 : decode cX12_valueOf 6 = .ok (.istore_n 3, 1) := by decide +kernel
theorem dX12_valueOf_7 : decode cX12_valueOf 7 = .ok (.aload_n 0, 1) := by decide +kernel
theorem dX12_valueOf_8 : decode cX12_valueOf 8 = .ok (.bipush 40, 2) := by decide +kernel
theorem dX12_valueOf_10 : decode cX12_valueOf 10 = .ok (.iload_n 2, 1) := by decide +kernel
theorem dX12_valueOf_11 : decode cX12_valueOf 11 = .ok (.iadd, 1) := by decide +kernel
theorem dX12_valueOf_12 : decode cX12_valueOf 12 = .ok (.iaload, 1) := by decide +kernel
theorem dX12_valueOf_13 : decode cX12_valueOf 13 = .ok (.istore 4, 2) := by decide +kernel
theorem dX12_valueOf_15 : decode cX12_valueOf 15 = .ok (.aload_n 0, 1) := by decide +kernel
theorem dX12_valueOf_16 : decode cX12_valueOf 16 = .ok (.iconst 4, 1) := by decide +kernel
theorem dX12_valueOf_17 : decode cX12_valueOf 17 = .ok (.iload_n 1, 1) := by decide +kernel
theorem dX12_valueOf_18 : decode cX12_valueOf 18 = .ok (.iadd, 1) := by decide +kernel
theorem dX12_valueOf_19 : decode cX12_valueOf 19 = .ok (.iaload, 1) := by decide +kernel
theorem dX12_valueOf_20 : decode cX12_valueOf 20 = .ok (.tableswitch 65 1 4 #[32, 58, 39, 58], 32) := by decide +kernel
theorem dX12_valueOf_52 : decode cX12_valueOf 52 = .ok (.iconst 2, 1) := by decide +kernel
theorem dX12_valueOf_53 : decode cX12_valueOf 53 = .ok (.iload_n 3, 1) := by decide +kernel
theorem dX12_valueOf_54 : decode cX12_valueOf 54 = .ok (.imul, 1) := by decide +kernel
theorem dX12_valueOf_55 : decode cX12_valueOf 55 = .ok (.iload 4, 2) := by decide +kernel
theorem dX12_valueOf_57 : decode cX12_valueOf 57 = .ok (.isub, 1) := by decide +kernel
theorem dX12_valueOf_58 : decode cX12_valueOf 58 = .ok (.ireturn, 1) := by decide +kernel
theorem dX12_valueOf_59 : decode cX12_valueOf 59 = .ok (.iconst 2, 1) := by decide +kernel
theorem dX12_valueOf_60 : decode cX12_valueOf 60 = .ok (.iload_n 3, 1) := by decide +kernel
theorem dX12_valueOf_61 : decode cX12_valueOf 61 = .ok (.imul, 1) := by decide +kernel
theorem dX12_valueOf_62 : decode cX12_valueOf 62 = .ok (.iload 4, 2) := by decide +kernel
theorem dX12_valueOf_64 : decode cX12_valueOf 64 = .ok (.isub, 1) := by decide +kernel
theorem dX12_valueOf_65 : decode cX12_valueOf 65 = .ok (.iload_n 1, 1) := by decide +kernel
theorem dX12_valueOf_66 : decode cX12_valueOf 66 = .ok (.iload_n 2, 1) := by decide +kernel
theorem dX12_valueOf_67 : decode cX12_valueOf 67 = .ok (.if_icmp .ne 8, 3) := by decide +kernel
theorem dX12_valueOf_70 : decode cX12_valueOf 70 = .ok (.bipush 9, 2) := by decide +kernel
theorem dX12_valueOf_72 : decode cX12_valueOf 72 = .ok (.goto 4, 3) := by decide +kernel
theorem dX12_valueOf_75 : decode cX12_valueOf 75 = .ok (.iconst 0, 1) := by decide +kernel
theorem dX12_valueOf_76 : decode cX12_valueOf 76 = .ok (.iadd, 1) := by decide +kernel
theorem dX12_valueOf_77 : decode cX12_valueOf 77 = .ok (.ireturn, 1) := by decide +kernel
theorem dX12_valueOf_78 : decode cX12_valueOf 78 = .ok (.iload_n 3, 1) := by decide +kernel
theorem dX12_valueOf_79 : decode cX12_valueOf 79 = .ok (.iconst 2, 1) := by decide +kernel
theorem dX12_valueOf_80 : decode cX12_valueOf 80 = .ok (.iload 4, 2) := by decide +kernel
theorem dX12_valueOf_82 : decode cX12_valueOf 82 = .ok (.imul, 1) := by decide +kernel
theorem dX12_valueOf_83 : decode cX12_valueOf 83 = .ok (.isub, 1) := by decide +kernel
theorem dX12_valueOf_84 : decode cX12_valueOf 84 = .ok (.ireturn, 1) := by decide +kernel
theorem dX12_valueOf_85 : decode cX12_valueOf 85 = .ok (.iload_n 3, 1) := by decide +kernel
theorem dX12_valueOf_86 : decode cX12_valueOf 86 = .ok (.iload 4, 2) := by decide +kernel
theorem dX12_valueOf_88 : decode cX12_valueOf 88 = .ok (.isub, 1) := by decide +kernel
theorem dX12_valueOf_89 : decode cX12_valueOf 89 = .ok (.ireturn, 1) := by decide +kernel
theorem dX12_layOff_0 : decode cX12_layOff 0 = .ok (.iconst 0, 1) := by decide +kernel
theorem dX12_layOff_1 : decode cX12_layOff 1 = .ok (.istore_n 3, 1) := by decide +kernel
theorem dX12_layOff_2 : decode cX12_layOff 2 = .ok (.iload_n 3, 1) := by decide +kernel
theorem dX12_layOff_3 : decode cX12_layOff 3 = .ok (.aload_n 1, 1) := by decide +kernel
theorem dX12_layOff_4 : decode cX12_layOff 4 = .ok (.iconst 0, 1) := by decide +kernel
theorem dX12_layOff_5 : decode cX12_layOff 5 = .ok (.iaload, 1) := by decide +kernel
theorem dX12_layOff_6 : decode cX12_layOff 6 = .ok (.if_icmp .ge 21, 3) := by decide +kernel
theorem dX12_layOff_9 : decode cX12_layOff 9 = .ok (.aload_n 0, 1) := by decide +kernel
theorem dX12_layOff_10 : decode cX12_layOff 10 = .ok (.getfield 35, 3) := by decide +kernel
theorem dX12_layOff_13 : decode cX12_layOff 13 = .ok (.iload_n 3, 1) := by decide +kernel
theorem dX12_layOff_14 : decode cX12_layOff 14 = .ok (.aload_n 1, 1) := by decide +kernel
theorem dX12_layOff_15 : decode cX12_layOff 15 = .ok (.iload_n 3, 1) := by decide +kernel
theorem dX12_layOff_16 : decode cX12_layOff 16 = .ok (.iload_n 2, 1) := by decide +kernel
theorem dX12_layOff_17 : decode cX12_layOff 17 = .ok (.invokestatic 59, 3) := by decide +kernel
theorem dX12_layOff_20 : decode cX12_layOff 20 = .ok (.iastore, 1) := by decide +kernel
theorem dX12_layOff_21 : decode cX12_layOff 21 = .ok (.iinc 3 1, 3) := by decide +kernel
theorem dX12_layOff_24 : decode cX12_layOff 24 = .ok (.goto (-22), 3) := by decide +kernel
theorem dX12_layOff_27 : decode cX12_layOff 27 = .ok (.return_, 1) := by decide +kernel
theorem dX12_layLine_0 : decode cX12_layLine 0 = .ok (.iconst 0, 1) := by decide +kernel
theorem dX12_layLine_1 : decode cX12_layLine 1 = .ok (.istore_n 2, 1) := by decide +kernel
theorem dX12_layLine_2 : decode cX12_layLine 2 = .ok (.iconst 0, 1) := by decide +kernel
theorem dX12_layLine_3 : decode cX12_layLine 3 = .ok (.istore_n 3, 1) := by decide +kernel
theorem dX12_layLine_4 : decode cX12_layLine 4 = .ok (.iload_n 3, 1) := by decide +kernel
theorem dX12_layLine_5 : decode cX12_layLine 5 = .ok (.aload_n 1, 1) := by decide +kernel
theorem dX12_layLine_6 : decode cX12_layLine 6 = .ok (.iconst 0, 1) := by decide +kernel
theorem dX12_layLine_7 : decode cX12_layLine 7 = .ok (.iaload, 1) := by decide +kernel
theorem dX12_layLine_8 : decode cX12_layLine 8 = .ok (.if_icmp .ge 99, 3) := by decide +kernel
theorem dX12_layLine_11 : decode cX12_layLine 11 = .ok (.bipush (-4), 2) := by decide +kernel
theorem dX12_layLine_13 : decode cX12_layLine 13 = .ok (.istore 4, 2) := by decide +kernel
theorem dX12_layLine_15 : decode cX12_layLine 15 = .ok (.iconst 0, 1) := by decide +kernel
theorem dX12_layLine_16 : decode cX12_layLine 16 = .ok (.istore 5, 2) := by decide +kernel
theorem dX12_layLine_18 : decode cX12_layLine 18 = .ok (.iload 5, 2) := by decide +kernel
theorem dX12_layLine_20 : decode cX12_layLine 20 = .ok (.aload_n 1, 1) := by decide +kernel
theorem dX12_layLine_21 : decode cX12_layLine 21 = .ok (.iconst 0, 1) := by decide +kernel
theorem dX12_layLine_22 : decode cX12_layLine 22 = .ok (.iaload, 1) := by decide +kernel
theorem dX12_layLine_23 : decode cX12_layLine 23 = .ok (.if_icmp .ge 63, 3) := by decide +kernel
theorem dX12_layLine_26 : decode cX12_layLine 26 = .ok (.iload_n 2, 1) := by decide +kernel
theorem dX12_layLine_27 : decode cX12_layLine 27 = .ok (.iload 5, 2) := by decide +kernel
theorem dX12_layLine_29 : decode cX12_layLine 29 = .ok (.ishr, 1) := by decide +kernel
theorem dX12_layLine_30 : decode cX12_layLine 30 = .ok (.iconst 1, 1) := by decide +kernel
theorem dX12_layLine_31 : decode cX12_layLine 31 = .ok (.iand, 1) := by decide +kernel
theorem dX12_layLine_32 : decode cX12_layLine 32 = .ok (.ifCond .ne 31, 3) := by decide +kernel
theorem dX12_layLine_35 : decode cX12_layLine 35 = .ok (.iload 4, 2) := by decide +kernel
theorem dX12_layLine_37 : decode cX12_layLine 37 = .ok (.bipush (-4), 2) := by decide +kernel
theorem dX12_layLine_39 : decode cX12_layLine 39 = .ok (.if_icmp .eq 20, 3) := by decide +kernel
theorem dX12_layLine_42 : decode cX12_layLine 42 = .ok (.aload_n 0, 1) := by decide +kernel
theorem dX12_layLine_43 : decode cX12_layLine 43 = .ok (.getfield 35, 3) := by decide +kernel
theorem dX12_layLine_46 : decode cX12_layLine 46 = .ok (.iload 5, 2) := by decide +kernel
theorem dX12_layLine_48 : decode cX12_layLine 48 = .ok (.iaload, 1) := by decide +kernel
theorem dX12_layLine_49 : decode cX12_layLine 49 = .ok (.aload_n 0, 1) := by decide +kernel
theorem dX12_layLine_50 : decode cX12_layLine 50 = .ok (.getfield 35, 3) := by decide +kernel
theorem dX12_layLine_53 : decode cX12_layLine 53 = .ok (.iload 4, 2) := by decide +kernel
theorem dX12_layLine_55 : decode cX12_layLine 55 = .ok (.iaload, 1) := by decide +kernel
theorem dX12_layLine_56 : decode cX12_layLine 56 = .ok (.if_icmp .ge 7, 3) := by decide +kernel
theorem dX12_layLine_59 : decode cX12_layLine 59 = .ok (.iconst 1, 1) := by decide +kernel
theorem dX12_layLine_60 : decode cX12_layLine 60 = .ok (.goto 4, 3) := by decide +kernel
theorem dX12_layLine_63 : decode cX12_layLine 63 = .ok (.iconst 0, 1) := by decide +kernel
theorem dX12_layLine_64 : decode cX12_layLine 64 = .ok (.istore 6, 2) := by decide +kernel
theorem dX12_layLine_66 : decode cX12_layLine 66 = .ok (.iload 6, 2) := by decide +kernel
theorem dX12_layLine_68 : decode cX12_layLine 68 = .ok (.ifCond .eq 8, 3) := by decide +kernel
theorem dX12_layLine_71 : decode cX12_layLine 71 = .ok (.iload 5, 2) := by decide +kernel
theorem dX12_layLine_73 : decode cX12_layLine 73 = .ok (.goto 5, 3) := by decide +kernel
theorem dX12_layLine_76 : decode cX12_layLine 76 = .ok (.iload 4, 2) := by decide +kernel
theorem dX12_layLine_78 : decode cX12_layLine 78 = .ok (.istore 4, 2) := by decide +kernel
theorem dX12_layLine_80 : decode cX12_layLine 80 = .ok (.iinc 5 1, 3) := by decide +kernel
theorem dX12_layLine_83 : decode cX12_layLine 83 = .ok (.goto (-65), 3) := by decide +kernel
theorem dX12_layLine_86 : decode cX12_layLine 86 = .ok (.aload_n 0, 1) := by decide +kernel
theorem dX12_layLine_87 : decode cX12_layLine 87 = .ok (.getfield 38, 3) := by decide +kernel
theorem dX12_layLine_90 : decode cX12_layLine 90 = .ok (.iload_n 3, 1) := by decide +kernel
theorem dX12_layLine_91 : decode cX12_layLine 91 = .ok (.iload 4, 2) := by decide +kernel
theorem dX12_layLine_93 : decode cX12_layLine 93 = .ok (.iastore, 1) := by decide +kernel
theorem dX12_layLine_94 : decode cX12_layLine 94 = .ok (.iload_n 2, 1) := by decide +kernel
theorem dX12_layLine_95 : decode cX12_layLine 95 = .ok (.iconst 1, 1) := by decide +kernel
theorem dX12_layLine_96 : decode cX12_layLine 96 = .ok (.iload 4, 2) := by decide +kernel
theorem dX12_layLine_98 : decode cX12_layLine 98 = .ok (.ishl, 1) := by decide +kernel
theorem dX12_layLine_99 : decode cX12_layLine 99 = .ok (.ior, 1) := by decide +kernel
theorem dX12_layLine_100 : decode cX12_layLine 100 = .ok (.istore_n 2, 1) := by decide +kernel
theorem dX12_layLine_101 : decode cX12_layLine 101 = .ok (.iinc 3 1, 3) := by decide +kernel
theorem dX12_layLine_104 : decode cX12_layLine 104 = .ok (.goto (-100), 3) := by decide +kernel
theorem dX12_layLine_107 : decode cX12_layLine 107 = .ok (.return_, 1) := by decide +kernel
theorem dX12_chooses_0 : decode cX12_chooses 0 = .ok (.aload_n 0, 1) := by decide +kernel
theorem dX12_chooses_1 : decode cX12_chooses 1 = .ok (.aload_n 1, 1) := by decide +kernel
theorem dX12_chooses_2 : decode cX12_chooses 2 = .ok (.invokevirtual 63, 3) := by decide +kernel
theorem dX12_chooses_5 : decode cX12_chooses 5 = .ok (.iconst 0, 1) := by decide +kernel
theorem dX12_chooses_6 : decode cX12_chooses 6 = .ok (.istore_n 2, 1) := by decide +kernel
theorem dX12_chooses_7 : decode cX12_chooses 7 = .ok (.iconst 0, 1) := by decide +kernel
theorem dX12_chooses_8 : decode cX12_chooses 8 = .ok (.istore_n 3, 1) := by decide +kernel
theorem dX12_chooses_9 : decode cX12_chooses 9 = .ok (.iload_n 3, 1) := by decide +kernel
theorem dX12_chooses_10 : decode cX12_chooses 10 = .ok (.aload_n 1, 1) := by decide +kernel
theorem dX12_chooses_11 : decode cX12_chooses 11 = .ok (.iconst 0, 1) := by decide +kernel
theorem dX12_chooses_12 : decode cX12_chooses 12 = .ok (.iaload, 1) := by decide +kernel
theorem dX12_chooses_13 : decode cX12_chooses 13 = .ok (.if_icmp .ge 121, 3) := by decide +kernel
theorem dX12_chooses_16 : decode cX12_chooses 16 = .ok (.aload_n 0, 1) := by decide +kernel
theorem dX12_chooses_17 : decode cX12_chooses 17 = .ok (.getfield 38, 3) := by decide +kernel
theorem dX12_chooses_20 : decode cX12_chooses 20 = .ok (.iload_n 3, 1) := by decide +kernel
theorem dX12_chooses_21 : decode cX12_chooses 21 = .ok (.iaload, 1) := by decide +kernel
theorem dX12_chooses_22 : decode cX12_chooses 22 = .ok (.istore 4, 2) := by decide +kernel
theorem dX12_chooses_24 : decode cX12_chooses 24 = .ok (.bipush (-4), 2) := by decide +kernel
theorem dX12_chooses_26 : decode cX12_chooses 26 = .ok (.istore 5, 2) := by decide +kernel
theorem dX12_chooses_28 : decode cX12_chooses 28 = .ok (.iconst 0, 1) := by decide +kernel
theorem dX12_chooses_29 : decode cX12_chooses 29 = .ok (.istore 6, 2) := by decide +kernel
theorem dX12_chooses_31 : decode cX12_chooses 31 = .ok (.iload 6, 2) := by decide +kernel
theorem dX12_chooses_33 : decode cX12_chooses 33 = .ok (.aload_n 1, 1) := by decide +kernel
theorem dX12_chooses_34 : decode cX12_chooses 34 = .ok (.iconst 1, 1) := by decide +kernel
theorem dX12_chooses_35 : decode cX12_chooses 35 = .ok (.iaload, 1) := by decide +kernel
theorem dX12_chooses_36 : decode cX12_chooses 36 = .ok (.if_icmp .ge 65, 3) := by decide +kernel
theorem dX12_chooses_39 : decode cX12_chooses 39 = .ok (.iload_n 2, 1) := by decide +kernel
theorem dX12_chooses_40 : decode cX12_chooses 40 = .ok (.iload 6, 2) := by decide +kernel
theorem dX12_chooses_42 : decode cX12_chooses 42 = .ok (.ishr, 1) := by decide +kernel
theorem dX12_chooses_43 : decode cX12_chooses 43 = .ok (.iconst 1, 1) := by decide +kernel
theorem dX12_chooses_44 : decode cX12_chooses 44 = .ok (.iand, 1) := by decide +kernel
theorem dX12_chooses_45 : decode cX12_chooses 45 = .ok (.ifCond .ne 33, 3) := by decide +kernel
theorem dX12_chooses_48 : decode cX12_chooses 48 = .ok (.iload 5, 2) := by decide +kernel
theorem dX12_chooses_50 : decode cX12_chooses 50 = .ok (.bipush (-4), 2) := by decide +kernel
theorem dX12_chooses_52 : decode cX12_chooses 52 = .ok (.if_icmp .eq 22, 3) := by decide +kernel
theorem dX12_chooses_55 : decode cX12_chooses 55 = .ok (.aload_n 1, 1) := by decide +kernel
theorem dX12_chooses_56 : decode cX12_chooses 56 = .ok (.iload 4, 2) := by decide +kernel
theorem dX12_chooses_58 : decode cX12_chooses 58 = .ok (.iload 6, 2) := by decide +kernel
theorem dX12_chooses_60 : decode cX12_chooses 60 = .ok (.invokestatic 67, 3) := by decide +kernel
theorem dX12_chooses_63 : decode cX12_chooses 63 = .ok (.aload_n 1, 1) := by decide +kernel
theorem dX12_chooses_64 : decode cX12_chooses 64 = .ok (.iload 4, 2) := by decide +kernel
theorem dX12_chooses_66 : decode cX12_chooses 66 = .ok (.iload 5, 2) := by decide +kernel
theorem dX12_chooses_68 : decode cX12_chooses 68 = .ok (.invokestatic 67, 3) := by decide +kernel
theorem dX12_chooses_71 : decode cX12_chooses 71 = .ok (.if_icmp .le 7, 3) := by decide +kernel
theorem dX12_chooses_74 : decode cX12_chooses 74 = .ok (.iconst 1, 1) := by decide +kernel
theorem dX12_chooses_75 : decode cX12_chooses 75 = .ok (.goto 4, 3) := by decide +kernel
theorem dX12_chooses_78 : decode cX12_chooses 78 = .ok (.iconst 0, 1) := by decide +kernel
theorem dX12_chooses_79 : decode cX12_chooses 79 = .ok (.istore 7, 2) := by decide +kernel
theorem dX12_chooses_81 : decode cX12_chooses 81 = .ok (.iload 7, 2) := by decide +kernel
theorem dX12_chooses_83 : decode cX12_chooses 83 = .ok (.ifCond .eq 8, 3) := by decide +kernel
theorem dX12_chooses_86 : decode cX12_chooses 86 = .ok (.iload 6, 2) := by decide +kernel
theorem dX12_chooses_88 : decode cX12_chooses 88 = .ok (.goto 5, 3) := by decide +kernel
theorem dX12_chooses_91 : decode cX12_chooses 91 = .ok (.iload 5, 2) := by decide +kernel
theorem dX12_chooses_93 : decode cX12_chooses 93 = .ok (.istore 5, 2) := by decide +kernel
theorem dX12_chooses_95 : decode cX12_chooses 95 = .ok (.iinc 6 1, 3) := by decide +kernel
theorem dX12_chooses_98 : decode cX12_chooses 98 = .ok (.goto (-67), 3) := by decide +kernel
theorem dX12_chooses_101 : decode cX12_chooses 101 = .ok (.aload_n 0, 1) := by decide +kernel
theorem dX12_chooses_102 : decode cX12_chooses 102 = .ok (.getfield 41, 3) := by decide +kernel
theorem dX12_chooses_105 : decode cX12_chooses 105 = .ok (.iload 4, 2) := by decide +kernel
theorem dX12_chooses_107 : decode cX12_chooses 107 = .ok (.iload 5, 2) := by decide +kernel
theorem dX12_chooses_109 : decode cX12_chooses 109 = .ok (.iastore, 1) := by decide +kernel
theorem dX12_chooses_110 : decode cX12_chooses 110 = .ok (.iload_n 2, 1) := by decide +kernel
theorem dX12_chooses_111 : decode cX12_chooses 111 = .ok (.iload 5, 2) := by decide +kernel
theorem dX12_chooses_113 : decode cX12_chooses 113 = .ok (.bipush (-4), 2) := by decide +kernel
theorem dX12_chooses_115 : decode cX12_chooses 115 = .ok (.if_icmp .ne 7, 3) := by decide +kernel
theorem dX12_chooses_118 : decode cX12_chooses 118 = .ok (.iconst 0, 1) := by decide +kernel
theorem dX12_chooses_119 : decode cX12_chooses 119 = .ok (.goto 7, 3) := by decide +kernel
theorem dX12_chooses_122 : decode cX12_chooses 122 = .ok (.iconst 1, 1) := by decide +kernel
theorem dX12_chooses_123 : decode cX12_chooses 123 = .ok (.iload 5, 2) := by decide +kernel
theorem dX12_chooses_125 : decode cX12_chooses 125 = .ok (.ishl, 1) := by decide +kernel
theorem dX12_chooses_126 : decode cX12_chooses 126 = .ok (.ior, 1) := by decide +kernel
theorem dX12_chooses_127 : decode cX12_chooses 127 = .ok (.istore_n 2, 1) := by decide +kernel
theorem dX12_chooses_128 : decode cX12_chooses 128 = .ok (.iinc 3 1, 3) := by decide +kernel
theorem dX12_chooses_131 : decode cX12_chooses 131 = .ok (.goto (-122), 3) := by decide +kernel
theorem dX12_chooses_134 : decode cX12_chooses 134 = .ok (.iload_n 2, 1) := by decide +kernel
theorem dX12_chooses_135 : decode cX12_chooses 135 = .ok (.ireturn, 1) := by decide +kernel
theorem dX12_goes_0 : decode cX12_goes 0 = .ok (.aload_n 0, 1) := by decide +kernel
theorem dX12_goes_1 : decode cX12_goes 1 = .ok (.aload_n 1, 1) := by decide +kernel
theorem dX12_goes_2 : decode cX12_goes 2 = .ok (.iload_n 2, 1) := by decide +kernel
theorem dX12_goes_3 : decode cX12_goes 3 = .ok (.invokevirtual 70, 3) := by decide +kernel
theorem dX12_goes_6 : decode cX12_goes 6 = .ok (.aload_n 0, 1) := by decide +kernel
theorem dX12_goes_7 : decode cX12_goes 7 = .ok (.aload_n 1, 1) := by decide +kernel
theorem dX12_goes_8 : decode cX12_goes 8 = .ok (.invokevirtual 74, 3) := by decide +kernel
theorem dX12_goes_11 : decode cX12_goes 11 = .ok (.istore_n 3, 1) := by decide +kernel
theorem dX12_goes_12 : decode cX12_goes 12 = .ok (.iconst 0, 1) := by decide +kernel
theorem dX12_goes_13 : decode cX12_goes 13 = .ok (.istore 4, 2) := by decide +kernel
theorem dX12_goes_15 : decode cX12_goes 15 = .ok (.iload 4, 2) := by decide +kernel
theorem dX12_goes_17 : decode cX12_goes 17 = .ok (.aload_n 1, 1) := by decide +kernel
theorem dX12_goes_18 : decode cX12_goes 18 = .ok (.iconst 0, 1) := by decide +kernel
theorem dX12_goes_19 : decode cX12_goes 19 = .ok (.iaload, 1) := by decide +kernel
theorem dX12_goes_20 : decode cX12_goes 20 = .ok (.if_icmp .ge 88, 3) := by decide +kernel
theorem dX12_goes_23 : decode cX12_goes 23 = .ok (.aload_n 1, 1) := by decide +kernel
theorem dX12_goes_24 : decode cX12_goes 24 = .ok (.bipush 28, 2) := by decide +kernel
theorem dX12_goes_26 : decode cX12_goes 26 = .ok (.iload 4, 2) := by decide +kernel
theorem dX12_goes_28 : decode cX12_goes 28 = .ok (.iadd, 1) := by decide +kernel
theorem dX12_goes_29 : decode cX12_goes 29 = .ok (.aload_n 0, 1) := by decide +kernel
theorem dX12_goes_30 : decode cX12_goes 30 = .ok (.getfield 41, 3) := by decide +kernel
theorem dX12_goes_33 : decode cX12_goes 33 = .ok (.iload 4, 2) := by decide +kernel
theorem dX12_goes_35 : decode cX12_goes 35 = .ok (.iaload, 1) := by decide +kernel
theorem dX12_goes_36 : decode cX12_goes 36 = .ok (.iastore, 1) := by decide +kernel
theorem dX12_goes_37 : decode cX12_goes 37 = .ok (.aload_n 0, 1) := by decide +kernel
theorem dX12_goes_38 : decode cX12_goes 38 = .ok (.getfield 41, 3) := by decide +kernel
theorem dX12_goes_41 : decode cX12_goes 41 = .ok (.iload 4, 2) := by decide +kernel
theorem dX12_goes_43 : decode cX12_goes 43 = .ok (.iaload, 1) := by decide +kernel
theorem dX12_goes_44 : decode cX12_goes 44 = .ok (.bipush (-4), 2) := by decide +kernel
theorem dX12_goes_46 : decode cX12_goes 46 = .ok (.if_icmp .ne 33, 3) := by decide +kernel
theorem dX12_goes_49 : decode cX12_goes 49 = .ok (.aload_n 1, 1) := by decide +kernel
theorem dX12_goes_50 : decode cX12_goes 50 = .ok (.bipush 10, 2) := by decide +kernel
theorem dX12_goes_52 : decode cX12_goes 52 = .ok (.iload 4, 2) := by decide +kernel
theorem dX12_goes_54 : decode cX12_goes 54 = .ok (.iadd, 1) := by decide +kernel
theorem dX12_goes_55 : decode cX12_goes 55 = .ok (.dup2, 1) := by decide +kernel
theorem dX12_goes_56 : decode cX12_goes 56 = .ok (.iaload, 1) := by decide +kernel
theorem dX12_goes_57 : decode cX12_goes 57 = .ok (.aload_n 1, 1) := by decide +kernel
theorem dX12_goes_58 : decode cX12_goes 58 = .ok (.bipush 10, 2) := by decide +kernel
theorem dX12_goes_60 : decode cX12_goes 60 = .ok (.iload 4, 2) := by decide +kernel
theorem dX12_goes_62 : decode cX12_goes 62 = .ok (.iadd, 1) := by decide +kernel
theorem dX12_goes_63 : decode cX12_goes 63 = .ok (.iaload, 1) := by decide +kernel
theorem dX12_goes_64 : decode cX12_goes 64 = .ok (.bipush 9, 2) := by decide +kernel
theorem dX12_goes_66 : decode cX12_goes 66 = .ok (.if_icmp .ge 7, 3) := by decide +kernel
theorem dX12_goes_69 : decode cX12_goes 69 = .ok (.iconst 1, 1) := by decide +kernel
theorem dX12_goes_70 : decode cX12_goes 70 = .ok (.goto 4, 3) := by decide +kernel
theorem dX12_goes_73 : decode cX12_goes 73 = .ok (.iconst 0, 1) := by decide +kernel
theorem dX12_goes_74 : decode cX12_goes 74 = .ok (.iadd, 1) := by decide +kernel
theorem dX12_goes_75 : decode cX12_goes 75 = .ok (.iastore, 1) := by decide +kernel
theorem dX12_goes_76 : decode cX12_goes 76 = .ok (.goto 26, 3) := by decide +kernel
theorem dX12_goes_79 : decode cX12_goes 79 = .ok (.aload_n 1, 1) := by decide +kernel
theorem dX12_goes_80 : decode cX12_goes 80 = .ok (.bipush 22, 2) := by decide +kernel
theorem dX12_goes_82 : decode cX12_goes 82 = .ok (.iload 4, 2) := by decide +kernel
theorem dX12_goes_84 : decode cX12_goes 84 = .ok (.iadd, 1) := by decide +kernel
theorem dX12_goes_85 : decode cX12_goes 85 = .ok (.dup2, 1) := by decide +kernel
theorem dX12_goes_86 : decode cX12_goes 86 = .ok (.iaload, 1) := by decide +kernel
theorem dX12_goes_87 : decode cX12_goes 87 = .ok (.aload_n 1, 1) := by decide +kernel
theorem dX12_goes_88 : decode cX12_goes 88 = .ok (.iload 4, 2) := by decide +kernel
theorem dX12_goes_90 : decode cX12_goes 90 = .ok (.aload_n 0, 1) := by decide +kernel
theorem dX12_goes_91 : decode cX12_goes 91 = .ok (.getfield 41, 3) := by decide +kernel
theorem dX12_goes_94 : decode cX12_goes 94 = .ok (.iload 4, 2) := by decide +kernel
theorem dX12_goes_96 : decode cX12_goes 96 = .ok (.iaload, 1) := by decide +kernel
theorem dX12_goes_97 : decode cX12_goes 97 = .ok (.invokestatic 67, 3) := by decide +kernel
theorem dX12_goes_100 : decode cX12_goes 100 = .ok (.iadd, 1) := by decide +kernel
theorem dX12_goes_101 : decode cX12_goes 101 = .ok (.iastore, 1) := by decide +kernel
theorem dX12_goes_102 : decode cX12_goes 102 = .ok (.iinc 4 1, 3) := by decide +kernel
theorem dX12_goes_105 : decode cX12_goes 105 = .ok (.goto (-90), 3) := by decide +kernel
theorem dX12_goes_108 : decode cX12_goes 108 = .ok (.iconst 0, 1) := by decide +kernel
theorem dX12_goes_109 : decode cX12_goes 109 = .ok (.istore 4, 2) := by decide +kernel
theorem dX12_goes_111 : decode cX12_goes 111 = .ok (.iload 4, 2) := by decide +kernel
theorem dX12_goes_113 : decode cX12_goes 113 = .ok (.aload_n 1, 1) := by decide +kernel
theorem dX12_goes_114 : decode cX12_goes 114 = .ok (.iconst 1, 1) := by decide +kernel
theorem dX12_goes_115 : decode cX12_goes 115 = .ok (.iaload, 1) := by decide +kernel
theorem dX12_goes_116 : decode cX12_goes 116 = .ok (.if_icmp .ge 53, 3) := by decide +kernel
theorem dX12_goes_119 : decode cX12_goes 119 = .ok (.iload_n 3, 1) := by decide +kernel
theorem dX12_goes_120 : decode cX12_goes 120 = .ok (.iload 4, 2) := by decide +kernel
theorem dX12_goes_122 : decode cX12_goes 122 = .ok (.ishr, 1) := by decide +kernel
theorem dX12_goes_123 : decode cX12_goes 123 = .ok (.iconst 1, 1) := by decide +kernel
theorem dX12_goes_124 : decode cX12_goes 124 = .ok (.iand, 1) := by decide +kernel
theorem dX12_goes_125 : decode cX12_goes 125 = .ok (.iconst 1, 1) := by decide +kernel
theorem dX12_goes_126 : decode cX12_goes 126 = .ok (.if_icmp .ne 11, 3) := by decide +kernel
theorem dX12_goes_129 : decode cX12_goes 129 = .ok (.bipush 40, 2) := by decide +kernel
theorem dX12_goes_131 : decode cX12_goes 131 = .ok (.iload 4, 2) := by decide +kernel
theorem dX12_goes_133 : decode cX12_goes 133 = .ok (.iadd, 1) := by decide +kernel
theorem dX12_goes_134 : decode cX12_goes 134 = .ok (.goto 8, 3) := by decide +kernel
theorem dX12_goes_137 : decode cX12_goes 137 = .ok (.bipush 34, 2) := by decide +kernel
theorem dX12_goes_139 : decode cX12_goes 139 = .ok (.iload 4, 2) := by decide +kernel
theorem dX12_goes_141 : decode cX12_goes 141 = .ok (.iadd, 1) := by decide +kernel
theorem dX12_goes_142 : decode cX12_goes 142 = .ok (.istore 5, 2) := by decide +kernel
theorem dX12_goes_144 : decode cX12_goes 144 = .ok (.aload_n 1, 1) := by decide +kernel
theorem dX12_goes_145 : decode cX12_goes 145 = .ok (.iload 5, 2) := by decide +kernel
theorem dX12_goes_147 : decode cX12_goes 147 = .ok (.dup2, 1) := by decide +kernel
theorem dX12_goes_148 : decode cX12_goes 148 = .ok (.iaload, 1) := by decide +kernel
theorem dX12_goes_149 : decode cX12_goes 149 = .ok (.aload_n 1, 1) := by decide +kernel
theorem dX12_goes_150 : decode cX12_goes 150 = .ok (.iload 5, 2) := by decide +kernel
theorem dX12_goes_152 : decode cX12_goes 152 = .ok (.iaload, 1) := by decide +kernel
theorem dX12_goes_153 : decode cX12_goes 153 = .ok (.ifCond .le 7, 3) := by decide +kernel
theorem dX12_goes_156 : decode cX12_goes 156 = .ok (.iconst 1, 1) := by decide +kernel
theorem dX12_goes_157 : decode cX12_goes 157 = .ok (.goto 4, 3) := by decide +kernel
theorem dX12_goes_160 : decode cX12_goes 160 = .ok (.iconst 0, 1) := by decide +kernel
theorem dX12_goes_161 : decode cX12_goes 161 = .ok (.isub, 1) := by decide +kernel
theorem dX12_goes_162 : decode cX12_goes 162 = .ok (.iastore, 1) := by decide +kernel
theorem dX12_goes_163 : decode cX12_goes 163 = .ok (.iinc 4 1, 3) := by decide +kernel
theorem dX12_goes_166 : decode cX12_goes 166 = .ok (.goto (-55), 3) := by decide +kernel
theorem dX12_goes_169 : decode cX12_goes 169 = .ok (.aload_n 1, 1) := by decide +kernel
theorem dX12_goes_170 : decode cX12_goes 170 = .ok (.iconst 3, 1) := by decide +kernel
theorem dX12_goes_171 : decode cX12_goes 171 = .ok (.dup2, 1) := by decide +kernel
theorem dX12_goes_172 : decode cX12_goes 172 = .ok (.iaload, 1) := by decide +kernel
theorem dX12_goes_173 : decode cX12_goes 173 = .ok (.iconst 1, 1) := by decide +kernel
theorem dX12_goes_174 : decode cX12_goes 174 = .ok (.iadd, 1) := by decide +kernel
theorem dX12_goes_175 : decode cX12_goes 175 = .ok (.iastore, 1) := by decide +kernel
theorem dX12_goes_176 : decode cX12_goes 176 = .ok (.return_, 1) := by decide +kernel
theorem dX12_calledOf_0 : decode cX12_calledOf 0 = .ok (.iconst 0, 1) := by decide +kernel
theorem dX12_calledOf_1 : decode cX12_calledOf 1 = .ok (.istore_n 1, 1) := by decide +kernel
theorem dX12_calledOf_2 : decode cX12_calledOf 2 = .ok (.iconst 0, 1) := by decide +kernel
theorem dX12_calledOf_3 : decode cX12_calledOf 3 = .ok (.istore_n 2, 1) := by decide +kernel
theorem dX12_calledOf_4 : decode cX12_calledOf 4 = .ok (.iload_n 2, 1) := by decide +kernel
theorem dX12_calledOf_5 : decode cX12_calledOf 5 = .ok (.aload_n 0, 1) := by decide +kernel
theorem dX12_calledOf_6 : decode cX12_calledOf 6 = .ok (.iconst 0, 1) := by decide +kernel
theorem dX12_calledOf_7 : decode cX12_calledOf 7 = .ok (.iaload, 1) := by decide +kernel
theorem dX12_calledOf_8 : decode cX12_calledOf 8 = .ok (.if_icmp .ge 30, 3) := by decide +kernel
theorem dX12_calledOf_11 : decode cX12_calledOf 11 = .ok (.iload_n 1, 1) := by decide +kernel
theorem dX12_calledOf_12 : decode cX12_calledOf 12 = .ok (.aload_n 0, 1) := by decide +kernel
theorem dX12_calledOf_13 : decode cX12_calledOf 13 = .ok (.bipush 28, 2) := by decide +kernel
theorem dX12_calledOf_15 : decode cX12_calledOf 15 = .ok (.iload_n 2, 1) := by decide +kernel
theorem dX12_calledOf_16 : decode cX12_calledOf 16 = .ok (.iadd, 1) := by decide +kernel
theorem dX12_calledOf_17 : decode cX12_calledOf 17 = .ok (.iaload, 1) := by decide +kernel
theorem dX12_calledOf_18 : decode cX12_calledOf 18 = .ok (.bipush (-4), 2) := by decide +kernel
theorem dX12_calledOf_20 : decode cX12_calledOf 20 = .ok (.if_icmp .ne 7, 3) := by decide +kernel
theorem dX12_calledOf_23 : decode cX12_calledOf 23 = .ok (.iconst 0, 1) := by decide +kernel
theorem dX12_calledOf_24 : decode cX12_calledOf 24 = .ok (.goto 6, 3) := by decide +kernel
theorem dX12_calledOf_27 : decode cX12_calledOf 27 = .ok (.iconst 1, 1) := by decide +kernel
theorem dX12_calledOf_28 : decode cX12_calledOf 28 = .ok (.iload_n 2, 1) := by decide +kernel
theorem dX12_calledOf_29 : decode cX12_calledOf 29 = .ok (.ishl, 1) := by decide +kernel
theorem dX12_calledOf_30 : decode cX12_calledOf 30 = .ok (.ior, 1) := by decide +kernel
theorem dX12_calledOf_31 : decode cX12_calledOf 31 = .ok (.istore_n 1, 1) := by decide +kernel
theorem dX12_calledOf_32 : decode cX12_calledOf 32 = .ok (.iinc 2 1, 3) := by decide +kernel
theorem dX12_calledOf_35 : decode cX12_calledOf 35 = .ok (.goto (-31), 3) := by decide +kernel
theorem dX12_calledOf_38 : decode cX12_calledOf 38 = .ok (.iload_n 1, 1) := by decide +kernel
theorem dX12_calledOf_39 : decode cX12_calledOf 39 = .ok (.ireturn, 1) := by decide +kernel
theorem dX12_sumOf_0 : decode cX12_sumOf 0 = .ok (.iconst 0, 1) := by decide +kernel
theorem dX12_sumOf_1 : decode cX12_sumOf 1 = .ok (.istore_n 2, 1) := by decide +kernel
theorem dX12_sumOf_2 : decode cX12_sumOf 2 = .ok (.iconst 0, 1) := by decide +kernel
theorem dX12_sumOf_3 : decode cX12_sumOf 3 = .ok (.istore_n 3, 1) := by decide +kernel
theorem dX12_sumOf_4 : decode cX12_sumOf 4 = .ok (.iload_n 3, 1) := by decide +kernel
theorem dX12_sumOf_5 : decode cX12_sumOf 5 = .ok (.bipush 6, 2) := by decide +kernel
theorem dX12_sumOf_7 : decode cX12_sumOf 7 = .ok (.if_icmp .ge 17, 3) := by decide +kernel
theorem dX12_sumOf_10 : decode cX12_sumOf 10 = .ok (.iload_n 2, 1) := by decide +kernel
theorem dX12_sumOf_11 : decode cX12_sumOf 11 = .ok (.aload_n 0, 1) := by decide +kernel
theorem dX12_sumOf_12 : decode cX12_sumOf 12 = .ok (.iload_n 1, 1) := by decide +kernel
theorem dX12_sumOf_13 : decode cX12_sumOf 13 = .ok (.iload_n 3, 1) := by decide +kernel
theorem dX12_sumOf_14 : decode cX12_sumOf 14 = .ok (.iadd, 1) := by decide +kernel
theorem dX12_sumOf_15 : decode cX12_sumOf 15 = .ok (.iaload, 1) := by decide +kernel
theorem dX12_sumOf_16 : decode cX12_sumOf 16 = .ok (.iadd, 1) := by decide +kernel
theorem dX12_sumOf_17 : decode cX12_sumOf 17 = .ok (.istore_n 2, 1) := by decide +kernel
theorem dX12_sumOf_18 : decode cX12_sumOf 18 = .ok (.iinc 3 1, 3) := by decide +kernel
theorem dX12_sumOf_21 : decode cX12_sumOf 21 = .ok (.goto (-17), 3) := by decide +kernel
theorem dX12_sumOf_24 : decode cX12_sumOf 24 = .ok (.iload_n 2, 1) := by decide +kernel
theorem dX12_sumOf_25 : decode cX12_sumOf 25 = .ok (.ireturn, 1) := by decide +kernel
theorem dX12_man_0 : decode cX12_man 0 = .ok (.iload_n 1, 1) := by decide +kernel
theorem dX12_man_1 : decode cX12_man 1 = .ok (.i2l, 1) := by decide +kernel
theorem dX12_man_2 : decode cX12_man 2 = .ok (.lconst 0, 1) := by decide +kernel
theorem dX12_man_3 : decode cX12_man 3 = .ok (.ldc2_w 78, 3) := by decide +kernel
theorem dX12_man_6 : decode cX12_man 6 = .ok (.invokestatic 55, 3) := by decide +kernel
theorem dX12_man_9 : decode cX12_man 9 = .ok (.ifCond .eq 27, 3) := by decide +kernel
theorem dX12_man_12 : decode cX12_man 12 = .ok (.iload_n 2, 1) := by decide +kernel
theorem dX12_man_13 : decode cX12_man 13 = .ok (.i2l, 1) := by decide +kernel
theorem dX12_man_14 : decode cX12_man 14 = .ok (.lconst 0, 1) := by decide +kernel
theorem dX12_man_15 : decode cX12_man 15 = .ok (.ldc2_w 80, 3) := by decide +kernel
theorem dX12_man_18 : decode cX12_man 18 = .ok (.invokestatic 55, 3) := by decide +kernel
theorem dX12_man_21 : decode cX12_man 21 = .ok (.ifCond .eq 15, 3) := by decide +kernel
theorem dX12_man_24 : decode cX12_man 24 = .ok (.iload_n 3, 1) := by decide +kernel
theorem dX12_man_25 : decode cX12_man 25 = .ok (.i2l, 1) := by decide +kernel
theorem dX12_man_26 : decode cX12_man 26 = .ok (.lconst 1, 1) := by decide +kernel
theorem dX12_man_27 : decode cX12_man 27 = .ok (.ldc2_w 78, 3) := by decide +kernel
theorem dX12_man_30 : decode cX12_man 30 = .ok (.invokestatic 55, 3) := by decide +kernel
theorem dX12_man_33 : decode cX12_man 33 = .ok (.ifCond .ne 5, 3) := by decide +kernel
theorem dX12_man_36 : decode cX12_man 36 = .ok (.iconst (-1), 1) := by decide +kernel
theorem dX12_man_37 : decode cX12_man 37 = .ok (.ireturn, 1) := by decide +kernel
theorem dX12_man_38 : decode cX12_man 38 = .ok (.aload_n 0, 1) := by decide +kernel
theorem dX12_man_39 : decode cX12_man 39 = .ok (.getfield 7, 3) := by decide +kernel
theorem dX12_man_42 : decode cX12_man 42 = .ok (.iconst 0, 1) := by decide +kernel
theorem dX12_man_43 : decode cX12_man 43 = .ok (.iaload, 1) := by decide +kernel
theorem dX12_man_44 : decode cX12_man 44 = .ok (.istore 4, 2) := by decide +kernel
theorem dX12_man_46 : decode cX12_man 46 = .ok (.iload 4, 2) := by decide +kernel
theorem dX12_man_48 : decode cX12_man 48 = .ok (.bipush 6, 2) := by decide +kernel
theorem dX12_man_50 : decode cX12_man 50 = .ok (.if_icmp .ne 6, 3) := by decide +kernel
theorem dX12_man_53 : decode cX12_man 53 = .ok (.bipush (-3), 2) := by decide +kernel
theorem dX12_man_55 : decode cX12_man 55 = .ok (.ireturn, 1) := by decide +kernel
theorem dX12_man_56 : decode cX12_man 56 = .ok (.aload_n 0, 1) := by decide +kernel
theorem dX12_man_57 : decode cX12_man 57 = .ok (.getfield 7, 3) := by decide +kernel
theorem dX12_man_60 : decode cX12_man 60 = .ok (.iconst 4, 1) := by decide +kernel
theorem dX12_man_61 : decode cX12_man 61 = .ok (.iload 4, 2) := by decide +kernel
theorem dX12_man_63 : decode cX12_man 63 = .ok (.iadd, 1) := by decide +kernel
theorem dX12_man_64 : decode cX12_man 64 = .ok (.iload_n 1, 1) := by decide +kernel
theorem dX12_man_65 : decode cX12_man 65 = .ok (.iastore, 1) := by decide +kernel
theorem dX12_man_66 : decode cX12_man 66 = .ok (.aload_n 0, 1) := by decide +kernel
theorem dX12_man_67 : decode cX12_man 67 = .ok (.getfield 7, 3) := by decide +kernel
theorem dX12_man_70 : decode cX12_man 70 = .ok (.bipush 10, 2) := by decide +kernel
theorem dX12_man_72 : decode cX12_man 72 = .ok (.iload 4, 2) := by decide +kernel
theorem dX12_man_74 : decode cX12_man 74 = .ok (.iadd, 1) := by decide +kernel
theorem dX12_man_75 : decode cX12_man 75 = .ok (.iload_n 2, 1) := by decide +kernel
theorem dX12_man_76 : decode cX12_man 76 = .ok (.iastore, 1) := by decide +kernel
theorem dX12_man_77 : decode cX12_man 77 = .ok (.aload_n 0, 1) := by decide +kernel
theorem dX12_man_78 : decode cX12_man 78 = .ok (.getfield 7, 3) := by decide +kernel
theorem dX12_man_81 : decode cX12_man 81 = .ok (.bipush 16, 2) := by decide +kernel
theorem dX12_man_83 : decode cX12_man 83 = .ok (.iload 4, 2) := by decide +kernel
theorem dX12_man_85 : decode cX12_man 85 = .ok (.iadd, 1) := by decide +kernel
theorem dX12_man_86 : decode cX12_man 86 = .ok (.iload_n 3, 1) := by decide +kernel
theorem dX12_man_87 : decode cX12_man 87 = .ok (.iastore, 1) := by decide +kernel
theorem dX12_man_88 : decode cX12_man 88 = .ok (.aload_n 0, 1) := by decide +kernel
theorem dX12_man_89 : decode cX12_man 89 = .ok (.getfield 7, 3) := by decide +kernel
theorem dX12_man_92 : decode cX12_man 92 = .ok (.iconst 0, 1) := by decide +kernel
theorem dX12_man_93 : decode cX12_man 93 = .ok (.dup2, 1) := by decide +kernel
theorem dX12_man_94 : decode cX12_man 94 = .ok (.iaload, 1) := by decide +kernel
theorem dX12_man_95 : decode cX12_man 95 = .ok (.iconst 1, 1) := by decide +kernel
theorem dX12_man_96 : decode cX12_man 96 = .ok (.iadd, 1) := by decide +kernel
theorem dX12_man_97 : decode cX12_man 97 = .ok (.iastore, 1) := by decide +kernel
theorem dX12_man_98 : decode cX12_man 98 = .ok (.aload_n 0, 1) := by decide +kernel
theorem dX12_man_99 : decode cX12_man 99 = .ok (.getfield 7, 3) := by decide +kernel
theorem dX12_man_102 : decode cX12_man 102 = .ok (.bipush 47, 2) := by decide +kernel
theorem dX12_man_104 : decode cX12_man 104 = .ok (.iconst 0, 1) := by decide +kernel
theorem dX12_man_105 : decode cX12_man 105 = .ok (.iastore, 1) := by decide +kernel
theorem dX12_man_106 : decode cX12_man 106 = .ok (.iload 4, 2) := by decide +kernel
theorem dX12_man_108 : decode cX12_man 108 = .ok (.ireturn, 1) := by decide +kernel
theorem dX12_name_0 : decode cX12_name 0 = .ok (.iload_n 1, 1) := by decide +kernel
theorem dX12_name_1 : decode cX12_name 1 = .ok (.i2l, 1) := by decide +kernel
theorem dX12_name_2 : decode cX12_name 2 = .ok (.lconst 0, 1) := by decide +kernel
theorem dX12_name_3 : decode cX12_name 3 = .ok (.ldc2_w 82, 3) := by decide +kernel
theorem dX12_name_6 : decode cX12_name 6 = .ok (.invokestatic 55, 3) := by decide +kernel
theorem dX12_name_9 : decode cX12_name 9 = .ok (.ifCond .eq 15, 3) := by decide +kernel
theorem dX12_name_12 : decode cX12_name 12 = .ok (.iload_n 2, 1) := by decide +kernel
theorem dX12_name_13 : decode cX12_name 13 = .ok (.i2l, 1) := by decide +kernel
theorem dX12_name_14 : decode cX12_name 14 = .ok (.lconst 0, 1) := by decide +kernel
theorem dX12_name_15 : decode cX12_name 15 = .ok (.ldc2_w 82, 3) := by decide +kernel
theorem dX12_name_18 : decode cX12_name 18 = .ok (.invokestatic 55, 3) := by decide +kernel
theorem dX12_name_21 : decode cX12_name 21 = .ok (.ifCond .ne 5, 3) := by decide +kernel
theorem dX12_name_24 : decode cX12_name 24 = .ok (.iconst (-1), 1) := by decide +kernel
theorem dX12_name_25 : decode cX12_name 25 = .ok (.ireturn, 1) := by decide +kernel
theorem dX12_name_26 : decode cX12_name 26 = .ok (.aload_n 0, 1) := by decide +kernel
theorem dX12_name_27 : decode cX12_name 27 = .ok (.getfield 7, 3) := by decide +kernel
theorem dX12_name_30 : decode cX12_name 30 = .ok (.iconst 1, 1) := by decide +kernel
theorem dX12_name_31 : decode cX12_name 31 = .ok (.iaload, 1) := by decide +kernel
theorem dX12_name_32 : decode cX12_name 32 = .ok (.istore_n 3, 1) := by decide +kernel
theorem dX12_name_33 : decode cX12_name 33 = .ok (.iload_n 3, 1) := by decide +kernel
theorem dX12_name_34 : decode cX12_name 34 = .ok (.bipush 6, 2) := by decide +kernel
theorem dX12_name_36 : decode cX12_name 36 = .ok (.if_icmp .ne 6, 3) := by decide +kernel
theorem dX12_name_39 : decode cX12_name 39 = .ok (.bipush (-3), 2) := by decide +kernel
theorem dX12_name_41 : decode cX12_name 41 = .ok (.ireturn, 1) := by decide +kernel
theorem dX12_name_42 : decode cX12_name 42 = .ok (.aload_n 0, 1) := by decide +kernel
theorem dX12_name_43 : decode cX12_name 43 = .ok (.getfield 7, 3) := by decide +kernel
theorem dX12_name_46 : decode cX12_name 46 = .ok (.bipush 34, 2) := by decide +kernel
theorem dX12_name_48 : decode cX12_name 48 = .ok (.iload_n 3, 1) := by decide +kernel
theorem dX12_name_49 : decode cX12_name 49 = .ok (.iadd, 1) := by decide +kernel
theorem dX12_name_50 : decode cX12_name 50 = .ok (.iload_n 1, 1) := by decide +kernel
theorem dX12_name_51 : decode cX12_name 51 = .ok (.iastore, 1) := by decide +kernel
theorem dX12_name_52 : decode cX12_name 52 = .ok (.aload_n 0, 1) := by decide +kernel
theorem dX12_name_53 : decode cX12_name 53 = .ok (.getfield 7, 3) := by decide +kernel
theorem dX12_name_56 : decode cX12_name 56 = .ok (.bipush 40, 2) := by decide +kernel
theorem dX12_name_58 : decode cX12_name 58 = .ok (.iload_n 3, 1) := by decide +kernel
theorem dX12_name_59 : decode cX12_name 59 = .ok (.iadd, 1) := by decide +kernel
theorem dX12_name_60 : decode cX12_name 60 = .ok (.iload_n 2, 1) := by decide +kernel
theorem dX12_name_61 : decode cX12_name 61 = .ok (.iastore, 1) := by decide +kernel
theorem dX12_name_62 : decode cX12_name 62 = .ok (.aload_n 0, 1) := by decide +kernel
theorem dX12_name_63 : decode cX12_name 63 = .ok (.getfield 7, 3) := by decide +kernel
theorem dX12_name_66 : decode cX12_name 66 = .ok (.iconst 1, 1) := by decide +kernel
theorem dX12_name_67 : decode cX12_name 67 = .ok (.dup2, 1) := by decide +kernel
theorem dX12_name_68 : decode cX12_name 68 = .ok (.iaload, 1) := by decide +kernel
theorem dX12_name_69 : decode cX12_name 69 = .ok (.iconst 1, 1) := by decide +kernel
theorem dX12_name_70 : decode cX12_name 70 = .ok (.iadd, 1) := by decide +kernel
theorem dX12_name_71 : decode cX12_name 71 = .ok (.iastore, 1) := by decide +kernel
theorem dX12_name_72 : decode cX12_name 72 = .ok (.aload_n 0, 1) := by decide +kernel
theorem dX12_name_73 : decode cX12_name 73 = .ok (.getfield 7, 3) := by decide +kernel
theorem dX12_name_76 : decode cX12_name 76 = .ok (.bipush 47, 2) := by decide +kernel
theorem dX12_name_78 : decode cX12_name 78 = .ok (.iconst 0, 1) := by decide +kernel
theorem dX12_name_79 : decode cX12_name 79 = .ok (.iastore, 1) := by decide +kernel
theorem dX12_name_80 : decode cX12_name 80 = .ok (.iload_n 3, 1) := by decide +kernel
theorem dX12_name_81 : decode cX12_name 81 = .ok (.ireturn, 1) := by decide +kernel
theorem dX12_placeOf_0 : decode cX12_placeOf 0 = .ok (.aload_n 0, 1) := by decide +kernel
theorem dX12_placeOf_1 : decode cX12_placeOf 1 = .ok (.aload_n 0, 1) := by decide +kernel
theorem dX12_placeOf_2 : decode cX12_placeOf 2 = .ok (.getfield 7, 3) := by decide +kernel
theorem dX12_placeOf_5 : decode cX12_placeOf 5 = .ok (.aload_n 0, 1) := by decide +kernel
theorem dX12_placeOf_6 : decode cX12_placeOf 6 = .ok (.getfield 7, 3) := by decide +kernel
theorem dX12_placeOf_9 : decode cX12_placeOf 9 = .ok (.iconst 2, 1) := by decide +kernel
theorem dX12_placeOf_10 : decode cX12_placeOf 10 = .ok (.iaload, 1) := by decide +kernel
theorem dX12_placeOf_11 : decode cX12_placeOf 11 = .ok (.invokevirtual 70, 3) := by decide +kernel
theorem dX12_placeOf_14 : decode cX12_placeOf 14 = .ok (.aload_n 0, 1) := by decide +kernel
theorem dX12_placeOf_15 : decode cX12_placeOf 15 = .ok (.aload_n 0, 1) := by decide +kernel
theorem dX12_placeOf_16 : decode cX12_placeOf 16 = .ok (.getfield 7, 3) := by decide +kernel
theorem dX12_placeOf_19 : decode cX12_placeOf 19 = .ok (.invokevirtual 63, 3) := by decide +kernel
theorem dX12_placeOf_22 : decode cX12_placeOf 22 = .ok (.iconst 0, 1) := by decide +kernel
theorem dX12_placeOf_23 : decode cX12_placeOf 23 = .ok (.istore_n 2, 1) := by decide +kernel
theorem dX12_placeOf_24 : decode cX12_placeOf 24 = .ok (.aload_n 0, 1) := by decide +kernel
theorem dX12_placeOf_25 : decode cX12_placeOf 25 = .ok (.getfield 38, 3) := by decide +kernel
theorem dX12_placeOf_28 : decode cX12_placeOf 28 = .ok (.iload_n 2, 1) := by decide +kernel
theorem dX12_placeOf_29 : decode cX12_placeOf 29 = .ok (.iaload, 1) := by decide +kernel
theorem dX12_placeOf_30 : decode cX12_placeOf 30 = .ok (.iload_n 1, 1) := by decide +kernel
theorem dX12_placeOf_31 : decode cX12_placeOf 31 = .ok (.if_icmp .eq 9, 3) := by decide +kernel
theorem dX12_placeOf_34 : decode cX12_placeOf 34 = .ok (.iinc 2 1, 3) := by decide +kernel
theorem dX12_placeOf_37 : decode cX12_placeOf 37 = .ok (.goto (-13), 3) := by decide +kernel
theorem dX12_placeOf_40 : decode cX12_placeOf 40 = .ok (.iload_n 2, 1) := by decide +kernel
theorem dX12_placeOf_41 : decode cX12_placeOf 41 = .ok (.ireturn, 1) := by decide +kernel
theorem dX12_of_0 : decode cX12_of 0 = .ok (.aload_n 0, 1) := by decide +kernel
theorem dX12_of_1 : decode cX12_of 1 = .ok (.iload_n 1, 1) := by decide +kernel
theorem dX12_of_2 : decode cX12_of 2 = .ok (.invokevirtual 84, 3) := by decide +kernel
theorem dX12_of_5 : decode cX12_of 5 = .ok (.ifCond .ne 5, 3) := by decide +kernel
theorem dX12_of_8 : decode cX12_of 8 = .ok (.iconst (-1), 1) := by decide +kernel
theorem dX12_of_9 : decode cX12_of 9 = .ok (.ireturn, 1) := by decide +kernel
theorem dX12_of_10 : decode cX12_of 10 = .ok (.iload_n 2, 1) := by decide +kernel
theorem dX12_of_11 : decode cX12_of 11 = .ok (.tableswitch 115 0 6 #[41, 50, 60, 70, 84, 94, 109], 41) := by decide +kernel
theorem dX12_of_52 : decode cX12_of 52 = .ok (.aload_n 0, 1) := by decide +kernel
theorem dX12_of_53 : decode cX12_of 53 = .ok (.getfield 7, 3) := by decide +kernel
theorem dX12_of_56 : decode cX12_of 56 = .ok (.iconst 4, 1) := by decide +kernel
theorem dX12_of_57 : decode cX12_of 57 = .ok (.iload_n 1, 1) := by decide +kernel
theorem dX12_of_58 : decode cX12_of 58 = .ok (.iadd, 1) := by decide +kernel
theorem dX12_of_59 : decode cX12_of 59 = .ok (.iaload, 1) := by decide +kernel
theorem dX12_of_60 : decode cX12_of 60 = .ok (.ireturn, 1) := by decide +kernel
theorem dX12_of_61 : decode cX12_of 61 = .ok (.aload_n 0, 1) := by decide +kernel
theorem dX12_of_62 : decode cX12_of 62 = .ok (.getfield 7, 3) := by decide +kernel
theorem dX12_of_65 : decode cX12_of 65 = .ok (.bipush 10, 2) := by decide +kernel
theorem dX12_of_67 : decode cX12_of 67 = .ok (.iload_n 1, 1) := by decide +kernel
theorem dX12_of_68 : decode cX12_of 68 = .ok (.iadd, 1) := by decide +kernel
theorem dX12_of_69 : decode cX12_of 69 = .ok (.iaload, 1) := by decide +kernel
theorem dX12_of_70 : decode cX12_of 70 = .ok (.ireturn, 1) := by decide +kernel
theorem dX12_of_71 : decode cX12_of 71 = .ok (.aload_n 0, 1) := by decide +kernel
theorem dX12_of_72 : decode cX12_of 72 = .ok (.getfield 7, 3) := by decide +kernel
theorem dX12_of_75 : decode cX12_of 75 = .ok (.bipush 16, 2) := by decide +kernel
theorem dX12_of_77 : decode cX12_of 77 = .ok (.iload_n 1, 1) := by decide +kernel
theorem dX12_of_78 : decode cX12_of 78 = .ok (.iadd, 1) := by decide +kernel
theorem dX12_of_79 : decode cX12_of 79 = .ok (.iaload, 1) := by decide +kernel
theorem dX12_of_80 : decode cX12_of 80 = .ok (.ireturn, 1) := by decide +kernel
theorem dX12_of_81 : decode cX12_of 81 = .ok (.aload_n 0, 1) := by decide +kernel
theorem dX12_of_82 : decode cX12_of 82 = .ok (.getfield 7, 3) := by decide +kernel
theorem dX12_of_85 : decode cX12_of 85 = .ok (.bipush 22, 2) := by decide +kernel
theorem dX12_of_87 : decode cX12_of 87 = .ok (.iload_n 1, 1) := by decide +kernel
theorem dX12_of_88 : decode cX12_of 88 = .ok (.iadd, 1) := by decide +kernel
theorem dX12_of_89 : decode cX12_of 89 = .ok (.iaload, 1) := by decide +kernel
theorem dX12_of_90 : decode cX12_of 90 = .ok (.sipush 10000, 3) := by decide +kernel
theorem dX12_of_93 : decode cX12_of 93 = .ok (.iadd, 1) := by decide +kernel
theorem dX12_of_94 : decode cX12_of 94 = .ok (.ireturn, 1) := by decide +kernel
theorem dX12_of_95 : decode cX12_of 95 = .ok (.aload_n 0, 1) := by decide +kernel
theorem dX12_of_96 : decode cX12_of 96 = .ok (.getfield 7, 3) := by decide +kernel
theorem dX12_of_99 : decode cX12_of 99 = .ok (.bipush 28, 2) := by decide +kernel
theorem dX12_of_101 : decode cX12_of 101 = .ok (.iload_n 1, 1) := by decide +kernel
theorem dX12_of_102 : decode cX12_of 102 = .ok (.iadd, 1) := by decide +kernel
theorem dX12_of_103 : decode cX12_of 103 = .ok (.iaload, 1) := by decide +kernel
theorem dX12_of_104 : decode cX12_of 104 = .ok (.ireturn, 1) := by decide +kernel
theorem dX12_of_105 : decode cX12_of 105 = .ok (.aload_n 0, 1) := by decide +kernel
theorem dX12_of_106 : decode cX12_of 106 = .ok (.getfield 7, 3) := by decide +kernel
theorem dX12_of_109 : decode cX12_of 109 = .ok (.iload_n 1, 1) := by decide +kernel
theorem dX12_of_110 : decode cX12_of 110 = .ok (.aload_n 0, 1) := by decide +kernel
theorem dX12_of_111 : decode cX12_of 111 = .ok (.getfield 7, 3) := by decide +kernel
theorem dX12_of_114 : decode cX12_of 114 = .ok (.iconst 2, 1) := by decide +kernel
theorem dX12_of_115 : decode cX12_of 115 = .ok (.iaload, 1) := by decide +kernel
theorem dX12_of_116 : decode cX12_of 116 = .ok (.invokestatic 59, 3) := by decide +kernel
theorem dX12_of_119 : decode cX12_of 119 = .ok (.ireturn, 1) := by decide +kernel
theorem dX12_of_120 : decode cX12_of 120 = .ok (.aload_n 0, 1) := by decide +kernel
theorem dX12_of_121 : decode cX12_of 121 = .ok (.iload_n 1, 1) := by decide +kernel
theorem dX12_of_122 : decode cX12_of 122 = .ok (.invokevirtual 88, 3) := by decide +kernel
theorem dX12_of_125 : decode cX12_of 125 = .ok (.ireturn, 1) := by decide +kernel
theorem dX12_of_126 : decode cX12_of 126 = .ok (.iconst (-1), 1) := by decide +kernel
theorem dX12_of_127 : decode cX12_of 127 = .ok (.ireturn, 1) := by decide +kernel
theorem dX12_whoIs_0 : decode cX12_whoIs 0 = .ok (.iconst 0, 1) := by decide +kernel
theorem dX12_whoIs_1 : decode cX12_whoIs 1 = .ok (.istore_n 2, 1) := by decide +kernel
theorem dX12_whoIs_2 : decode cX12_whoIs 2 = .ok (.iload_n 2, 1) := by decide +kernel
theorem dX12_whoIs_3 : decode cX12_whoIs 3 = .ok (.aload_n 0, 1) := by decide +kernel
theorem dX12_whoIs_4 : decode cX12_whoIs 4 = .ok (.getfield 7, 3) := by decide +kernel
theorem dX12_whoIs_7 : decode cX12_whoIs 7 = .ok (.iconst 0, 1) := by decide +kernel
theorem dX12_whoIs_8 : decode cX12_whoIs 8 = .ok (.iaload, 1) := by decide +kernel
theorem dX12_whoIs_9 : decode cX12_whoIs 9 = .ok (.if_icmp .ge 24, 3) := by decide +kernel
theorem dX12_whoIs_12 : decode cX12_whoIs 12 = .ok (.aload_n 0, 1) := by decide +kernel
theorem dX12_whoIs_13 : decode cX12_whoIs 13 = .ok (.getfield 7, 3) := by decide +kernel
theorem dX12_whoIs_16 : decode cX12_whoIs 16 = .ok (.bipush 28, 2) := by decide +kernel
theorem dX12_whoIs_18 : decode cX12_whoIs 18 = .ok (.iload_n 2, 1) := by decide +kernel
theorem dX12_whoIs_19 : decode cX12_whoIs 19 = .ok (.iadd, 1) := by decide +kernel
theorem dX12_whoIs_20 : decode cX12_whoIs 20 = .ok (.iaload, 1) := by decide +kernel
theorem dX12_whoIs_21 : decode cX12_whoIs 21 = .ok (.iload_n 1, 1) := by decide +kernel
theorem dX12_whoIs_22 : decode cX12_whoIs 22 = .ok (.if_icmp .ne 5, 3) := by decide +kernel
theorem dX12_whoIs_25 : decode cX12_whoIs 25 = .ok (.iload_n 2, 1) := by decide +kernel
theorem dX12_whoIs_26 : decode cX12_whoIs 26 = .ok (.ireturn, 1) := by decide +kernel
theorem dX12_whoIs_27 : decode cX12_whoIs 27 = .ok (.iinc 2 1, 3) := by decide +kernel
theorem dX12_whoIs_30 : decode cX12_whoIs 30 = .ok (.goto (-28), 3) := by decide +kernel
theorem dX12_whoIs_33 : decode cX12_whoIs 33 = .ok (.bipush (-4), 2) := by decide +kernel
theorem dX12_whoIs_35 : decode cX12_whoIs 35 = .ok (.ireturn, 1) := by decide +kernel
theorem dX12_named_0 : decode cX12_named 0 = .ok (.aload_n 0, 1) := by decide +kernel
theorem dX12_named_1 : decode cX12_named 1 = .ok (.iload_n 1, 1) := by decide +kernel
theorem dX12_named_2 : decode cX12_named 2 = .ok (.invokevirtual 92, 3) := by decide +kernel
theorem dX12_named_5 : decode cX12_named 5 = .ok (.ifCond .eq 15, 3) := by decide +kernel
theorem dX12_named_8 : decode cX12_named 8 = .ok (.iload_n 2, 1) := by decide +kernel
theorem dX12_named_9 : decode cX12_named 9 = .ok (.i2l, 1) := by decide +kernel
theorem dX12_named_10 : decode cX12_named 10 = .ok (.lconst 0, 1) := by decide +kernel
theorem dX12_named_11 : decode cX12_named 11 = .ok (.ldc2_w 95, 3) := by decide +kernel
theorem dX12_named_14 : decode cX12_named 14 = .ok (.invokestatic 55, 3) := by decide +kernel
theorem dX12_named_17 : decode cX12_named 17 = .ok (.ifCond .ne 5, 3) := by decide +kernel
theorem dX12_named_20 : decode cX12_named 20 = .ok (.iconst (-1), 1) := by decide +kernel
theorem dX12_named_21 : decode cX12_named 21 = .ok (.ireturn, 1) := by decide +kernel
theorem dX12_named_22 : decode cX12_named 22 = .ok (.iload_n 2, 1) := by decide +kernel
theorem dX12_named_23 : decode cX12_named 23 = .ok (.ifCond .ne 15, 3) := by decide +kernel
theorem dX12_named_26 : decode cX12_named 26 = .ok (.aload_n 0, 1) := by decide +kernel
theorem dX12_named_27 : decode cX12_named 27 = .ok (.getfield 7, 3) := by decide +kernel
theorem dX12_named_30 : decode cX12_named 30 = .ok (.bipush 34, 2) := by decide +kernel
theorem dX12_named_32 : decode cX12_named 32 = .ok (.iload_n 1, 1) := by decide +kernel
theorem dX12_named_33 : decode cX12_named 33 = .ok (.iadd, 1) := by decide +kernel
theorem dX12_named_34 : decode cX12_named 34 = .ok (.iaload, 1) := by decide +kernel
theorem dX12_named_35 : decode cX12_named 35 = .ok (.goto 25, 3) := by decide +kernel
theorem dX12_named_38 : decode cX12_named 38 = .ok (.iload_n 2, 1) := by decide +kernel
theorem dX12_named_39 : decode cX12_named 39 = .ok (.iconst 1, 1) := by decide +kernel
theorem dX12_named_40 : decode cX12_named 40 = .ok (.if_icmp .ne 15, 3) := by decide +kernel
theorem dX12_named_43 : decode cX12_named 43 = .ok (.aload_n 0, 1) := by decide +kernel
theorem dX12_named_44 : decode cX12_named 44 = .ok (.getfield 7, 3) := by decide +kernel
theorem dX12_named_47 : decode cX12_named 47 = .ok (.bipush 40, 2) := by decide +kernel
theorem dX12_named_49 : decode cX12_named 49 = .ok (.iload_n 1, 1) := by decide +kernel
theorem dX12_named_50 : decode cX12_named 50 = .ok (.iadd, 1) := by decide +kernel
theorem dX12_named_51 : decode cX12_named 51 = .ok (.iaload, 1) := by decide +kernel
theorem dX12_named_52 : decode cX12_named 52 = .ok (.goto 8, 3) := by decide +kernel
theorem dX12_named_55 : decode cX12_named 55 = .ok (.aload_n 0, 1) := by decide +kernel
theorem dX12_named_56 : decode cX12_named 56 = .ok (.iload_n 1, 1) := by decide +kernel
theorem dX12_named_57 : decode cX12_named 57 = .ok (.invokevirtual 97, 3) := by decide +kernel
theorem dX12_named_60 : decode cX12_named 60 = .ok (.ireturn, 1) := by decide +kernel
theorem dX12_values_0 : decode cX12_values 0 = .ok (.aload_n 0, 1) := by decide +kernel
theorem dX12_values_1 : decode cX12_values 1 = .ok (.iload_n 1, 1) := by decide +kernel
theorem dX12_values_2 : decode cX12_values 2 = .ok (.invokevirtual 84, 3) := by decide +kernel
theorem dX12_values_5 : decode cX12_values 5 = .ok (.ifCond .eq 26, 3) := by decide +kernel
theorem dX12_values_8 : decode cX12_values 8 = .ok (.aload_n 0, 1) := by decide +kernel
theorem dX12_values_9 : decode cX12_values 9 = .ok (.iload_n 2, 1) := by decide +kernel
theorem dX12_values_10 : decode cX12_values 10 = .ok (.invokevirtual 92, 3) := by decide +kernel
theorem dX12_values_13 : decode cX12_values 13 = .ok (.ifCond .eq 18, 3) := by decide +kernel
theorem dX12_values_16 : decode cX12_values 16 = .ok (.aload_n 0, 1) := by decide +kernel
theorem dX12_values_17 : decode cX12_values 17 = .ok (.getfield 7, 3) := by decide +kernel
theorem dX12_values_20 : decode cX12_values 20 = .ok (.iload_n 1, 1) := by decide +kernel
theorem dX12_values_21 : decode cX12_values 21 = .ok (.iload_n 2, 1) := by decide +kernel
theorem dX12_values_22 : decode cX12_values 22 = .ok (.invokestatic 67, 3) := by decide +kernel
theorem dX12_values_25 : decode cX12_values 25 = .ok (.bipush 100, 2) := by decide +kernel
theorem dX12_values_27 : decode cX12_values 27 = .ok (.iadd, 1) := by decide +kernel
theorem dX12_values_28 : decode cX12_values 28 = .ok (.goto 4, 3) := by decide +kernel
theorem dX12_values_31 : decode cX12_values 31 = .ok (.iconst (-1), 1) := by decide +kernel
theorem dX12_values_32 : decode cX12_values 32 = .ok (.ireturn, 1) := by decide +kernel
theorem dX12_becomes_0 : decode cX12_becomes 0 = .ok (.aload_n 0, 1) := by decide +kernel
theorem dX12_becomes_1 : decode cX12_becomes 1 = .ok (.getfield 7, 3) := by decide +kernel
theorem dX12_becomes_4 : decode cX12_becomes 4 = .ok (.iload_n 1, 1) := by decide +kernel
theorem dX12_becomes_5 : decode cX12_becomes 5 = .ok (.iaload, 1) := by decide +kernel
theorem dX12_becomes_6 : decode cX12_becomes 6 = .ok (.istore_n 3, 1) := by decide +kernel
theorem dX12_becomes_7 : decode cX12_becomes 7 = .ok (.aload_n 0, 1) := by decide +kernel
theorem dX12_becomes_8 : decode cX12_becomes 8 = .ok (.getfield 7, 3) := by decide +kernel
theorem dX12_becomes_11 : decode cX12_becomes 11 = .ok (.iload_n 1, 1) := by decide +kernel
theorem dX12_becomes_12 : decode cX12_becomes 12 = .ok (.iload_n 2, 1) := by decide +kernel
theorem dX12_becomes_13 : decode cX12_becomes 13 = .ok (.iastore, 1) := by decide +kernel
theorem dX12_becomes_14 : decode cX12_becomes 14 = .ok (.iload_n 3, 1) := by decide +kernel
theorem dX12_becomes_15 : decode cX12_becomes 15 = .ok (.ireturn, 1) := by decide +kernel
theorem dX12_stones_0 : decode cX12_stones 0 = .ok (.iload_n 1, 1) := by decide +kernel
theorem dX12_stones_1 : decode cX12_stones 1 = .ok (.i2l, 1) := by decide +kernel
theorem dX12_stones_2 : decode cX12_stones 2 = .ok (.lconst 0, 1) := by decide +kernel
theorem dX12_stones_3 : decode cX12_stones 3 = .ok (.ldc2_w 82, 3) := by decide +kernel
theorem dX12_stones_6 : decode cX12_stones 6 = .ok (.invokestatic 55, 3) := by decide +kernel
theorem dX12_stones_9 : decode cX12_stones 9 = .ok (.ifCond .eq 12, 3) := by decide +kernel
theorem dX12_stones_12 : decode cX12_stones 12 = .ok (.aload_n 0, 1) := by decide +kernel
theorem dX12_stones_13 : decode cX12_stones 13 = .ok (.iconst 2, 1) := by decide +kernel
theorem dX12_stones_14 : decode cX12_stones 14 = .ok (.iload_n 1, 1) := by decide +kernel
theorem dX12_stones_15 : decode cX12_stones 15 = .ok (.invokevirtual 100, 3) := by decide +kernel
theorem dX12_stones_18 : decode cX12_stones 18 = .ok (.goto 4, 3) := by decide +kernel
theorem dX12_stones_21 : decode cX12_stones 21 = .ok (.iconst (-1), 1) := by decide +kernel
theorem dX12_stones_22 : decode cX12_stones 22 = .ok (.ireturn, 1) := by decide +kernel
theorem dX12_type_0 : decode cX12_type 0 = .ok (.iload_n 1, 1) := by decide +kernel
theorem dX12_type_1 : decode cX12_type 1 = .ok (.i2l, 1) := by decide +kernel
theorem dX12_type_2 : decode cX12_type 2 = .ok (.ldc2_w 104, 3) := by decide +kernel
theorem dX12_type_5 : decode cX12_type 5 = .ok (.ldc2_w 106, 3) := by decide +kernel
theorem dX12_type_8 : decode cX12_type 8 = .ok (.invokestatic 55, 3) := by decide +kernel
theorem dX12_type_11 : decode cX12_type 11 = .ok (.ifCond .ne 5, 3) := by decide +kernel
theorem dX12_type_14 : decode cX12_type 14 = .ok (.iconst (-1), 1) := by decide +kernel
theorem dX12_type_15 : decode cX12_type 15 = .ok (.ireturn, 1) := by decide +kernel
theorem dX12_type_16 : decode cX12_type 16 = .ok (.aload_n 0, 1) := by decide +kernel
theorem dX12_type_17 : decode cX12_type 17 = .ok (.getfield 108, 3) := by decide +kernel
theorem dX12_type_20 : decode cX12_type 20 = .ok (.bipush 80, 2) := by decide +kernel
theorem dX12_type_22 : decode cX12_type 22 = .ok (.if_icmp .ne 6, 3) := by decide +kernel
theorem dX12_type_25 : decode cX12_type 25 = .ok (.bipush (-3), 2) := by decide +kernel
theorem dX12_type_27 : decode cX12_type 27 = .ok (.ireturn, 1) := by decide +kernel
theorem dX12_type_28 : decode cX12_type 28 = .ok (.aload_n 0, 1) := by decide +kernel
theorem dX12_type_29 : decode cX12_type 29 = .ok (.getfield 22, 3) := by decide +kernel
theorem dX12_type_32 : decode cX12_type 32 = .ok (.aload_n 0, 1) := by decide +kernel
theorem dX12_type_33 : decode cX12_type 33 = .ok (.getfield 108, 3) := by decide +kernel
theorem dX12_type_36 : decode cX12_type 36 = .ok (.iload_n 1, 1) := by decide +kernel
theorem dX12_type_37 : decode cX12_type 37 = .ok (.iastore, 1) := by decide +kernel
theorem dX12_type_38 : decode cX12_type 38 = .ok (.aload_n 0, 1) := by decide +kernel
theorem dX12_type_39 : decode cX12_type 39 = .ok (.dup, 1) := by decide +kernel
theorem dX12_type_40 : decode cX12_type 40 = .ok (.getfield 108, 3) := by decide +kernel
theorem dX12_type_43 : decode cX12_type 43 = .ok (.iconst 1, 1) := by decide +kernel
theorem dX12_type_44 : decode cX12_type 44 = .ok (.iadd, 1) := by decide +kernel
theorem dX12_type_45 : decode cX12_type 45 = .ok (.putfield 108, 3) := by decide +kernel
theorem dX12_type_48 : decode cX12_type 48 = .ok (.aload_n 0, 1) := by decide +kernel
theorem dX12_type_49 : decode cX12_type 49 = .ok (.getfield 108, 3) := by decide +kernel
theorem dX12_type_52 : decode cX12_type 52 = .ok (.ireturn, 1) := by decide +kernel
theorem dX12_here_0 : decode cX12_here 0 = .ok (.aload_n 0, 1) := by decide +kernel
theorem dX12_here_1 : decode cX12_here 1 = .ok (.getfield 112, 3) := by decide +kernel
theorem dX12_here_4 : decode cX12_here 4 = .ok (.aload_n 0, 1) := by decide +kernel
theorem dX12_here_5 : decode cX12_here 5 = .ok (.getfield 108, 3) := by decide +kernel
theorem dX12_here_8 : decode cX12_here 8 = .ok (.if_icmp .ge 30, 3) := by decide +kernel
theorem dX12_here_11 : decode cX12_here 11 = .ok (.aload_n 0, 1) := by decide +kernel
theorem dX12_here_12 : decode cX12_here 12 = .ok (.getfield 22, 3) := by decide +kernel
theorem dX12_here_15 : decode cX12_here 15 = .ok (.aload_n 0, 1) := by decide +kernel
theorem dX12_here_16 : decode cX12_here 16 = .ok (.getfield 112, 3) := by decide +kernel
theorem dX12_here_19 : decode cX12_here 19 = .ok (.iaload, 1) := by decide +kernel
theorem dX12_here_20 : decode cX12_here 20 = .ok (.bipush 32, 2) := by decide +kernel
theorem dX12_here_22 : decode cX12_here 22 = .ok (.if_icmp .ne 16, 3) := by decide +kernel
theorem dX12_here_25 : decode cX12_here 25 = .ok (.aload_n 0, 1) := by decide +kernel
theorem dX12_here_26 : decode cX12_here 26 = .ok (.dup, 1) := by decide +kernel
theorem dX12_here_27 : decode cX12_here 27 = .ok (.getfield 112, 3) := by decide +kernel
theorem dX12_here_30 : decode cX12_here 30 = .ok (.iconst 1, 1) := by decide +kernel
theorem dX12_here_31 : decode cX12_here 31 = .ok (.iadd, 1) := by decide +kernel
theorem dX12_here_32 : decode cX12_here 32 = .ok (.putfield 112, 3) := by decide +kernel
theorem dX12_here_35 : decode cX12_here 35 = .ok (.goto (-35), 3) := by decide +kernel
theorem dX12_here_38 : decode cX12_here 38 = .ok (.aload_n 0, 1) := by decide +kernel
theorem dX12_here_39 : decode cX12_here 39 = .ok (.aload_n 0, 1) := by decide +kernel
theorem dX12_here_40 : decode cX12_here 40 = .ok (.getfield 112, 3) := by decide +kernel
theorem dX12_here_43 : decode cX12_here 43 = .ok (.putfield 115, 3) := by decide +kernel
theorem dX12_here_46 : decode cX12_here 46 = .ok (.aload_n 0, 1) := by decide +kernel
theorem dX12_here_47 : decode cX12_here 47 = .ok (.getfield 112, 3) := by decide +kernel
theorem dX12_here_50 : decode cX12_here 50 = .ok (.aload_n 0, 1) := by decide +kernel
theorem dX12_here_51 : decode cX12_here 51 = .ok (.getfield 108, 3) := by decide +kernel
theorem dX12_here_54 : decode cX12_here 54 = .ok (.if_icmp .ge 15, 3) := by decide +kernel
theorem dX12_here_57 : decode cX12_here 57 = .ok (.aload_n 0, 1) := by decide +kernel
theorem dX12_here_58 : decode cX12_here 58 = .ok (.getfield 22, 3) := by decide +kernel
theorem dX12_here_61 : decode cX12_here 61 = .ok (.aload_n 0, 1) := by decide +kernel
theorem dX12_here_62 : decode cX12_here 62 = .ok (.getfield 112, 3) := by decide +kernel
theorem dX12_here_65 : decode cX12_here 65 = .ok (.iaload, 1) := by decide +kernel
theorem dX12_here_66 : decode cX12_here 66 = .ok (.goto 4, 3) := by decide +kernel
theorem dX12_here_69 : decode cX12_here 69 = .ok (.iconst (-1), 1) := by decide +kernel
theorem dX12_here_70 : decode cX12_here 70 = .ok (.ireturn, 1) := by decide +kernel
theorem dX12_isFigure_0 : decode cX12_isFigure 0 = .ok (.iload_n 0, 1) := by decide +kernel
theorem dX12_isFigure_1 : decode cX12_isFigure 1 = .ok (.i2l, 1) := by decide +kernel
theorem dX12_isFigure_2 : decode cX12_isFigure 2 = .ok (.ldc2_w 118, 3) := by decide +kernel
theorem dX12_isFigure_5 : decode cX12_isFigure 5 = .ok (.ldc2_w 120, 3) := by decide +kernel
theorem dX12_isFigure_8 : decode cX12_isFigure 8 = .ok (.invokestatic 55, 3) := by decide +kernel
theorem dX12_isFigure_11 : decode cX12_isFigure 11 = .ok (.ireturn, 1) := by decide +kernel
theorem dX12_number_0 : decode cX12_number 0 = .ok (.aload_n 0, 1) := by decide +kernel
theorem dX12_number_1 : decode cX12_number 1 = .ok (.invokevirtual 122, 3) := by decide +kernel
theorem dX12_number_4 : decode cX12_number 4 = .ok (.istore_n 2, 1) := by decide +kernel
theorem dX12_number_5 : decode cX12_number 5 = .ok (.iload_n 2, 1) := by decide +kernel
theorem dX12_number_6 : decode cX12_number 6 = .ok (.invokestatic 126, 3) := by decide +kernel
theorem dX12_number_9 : decode cX12_number 9 = .ok (.ifCond .ne 5, 3) := by decide +kernel
theorem dX12_number_12 : decode cX12_number 12 = .ok (.iconst 0, 1) := by decide +kernel
theorem dX12_number_13 : decode cX12_number 13 = .ok (.ireturn, 1) := by decide +kernel
theorem dX12_number_14 : decode cX12_number 14 = .ok (.iload_n 2, 1) := by decide +kernel
theorem dX12_number_15 : decode cX12_number 15 = .ok (.bipush 48, 2) := by decide +kernel
theorem dX12_number_17 : decode cX12_number 17 = .ok (.isub, 1) := by decide +kernel
theorem dX12_number_18 : decode cX12_number 18 = .ok (.istore_n 3, 1) := by decide +kernel
theorem dX12_number_19 : decode cX12_number 19 = .ok (.aload_n 0, 1) := by decide +kernel
theorem dX12_number_20 : decode cX12_number 20 = .ok (.dup, 1) := by decide +kernel
theorem dX12_number_21 : decode cX12_number 21 = .ok (.getfield 112, 3) := by decide +kernel
theorem dX12_number_24 : decode cX12_number 24 = .ok (.iconst 1, 1) := by decide +kernel
theorem dX12_number_25 : decode cX12_number 25 = .ok (.iadd, 1) := by decide +kernel
theorem dX12_number_26 : decode cX12_number 26 = .ok (.putfield 112, 3) := by decide +kernel
theorem dX12_number_29 : decode cX12_number 29 = .ok (.aload_n 0, 1) := by decide +kernel
theorem dX12_number_30 : decode cX12_number 30 = .ok (.getfield 112, 3) := by decide +kernel
theorem dX12_number_33 : decode cX12_number 33 = .ok (.aload_n 0, 1) := by decide +kernel
theorem dX12_number_34 : decode cX12_number 34 = .ok (.getfield 108, 3) := by decide +kernel
theorem dX12_number_37 : decode cX12_number 37 = .ok (.if_icmp .ge 46, 3) := by decide +kernel
theorem dX12_number_40 : decode cX12_number 40 = .ok (.aload_n 0, 1) := by decide +kernel
theorem dX12_number_41 : decode cX12_number 41 = .ok (.getfield 22, 3) := by decide +kernel
theorem dX12_number_44 : decode cX12_number 44 = .ok (.aload_n 0, 1) := by decide +kernel
theorem dX12_number_45 : decode cX12_number 45 = .ok (.getfield 112, 3) := by decide +kernel
theorem dX12_number_48 : decode cX12_number 48 = .ok (.iaload, 1) := by decide +kernel
theorem dX12_number_49 : decode cX12_number 49 = .ok (.invokestatic 126, 3) := by decide +kernel
theorem dX12_number_52 : decode cX12_number 52 = .ok (.ifCond .eq 31, 3) := by decide +kernel
theorem dX12_number_55 : decode cX12_number 55 = .ok (.bipush 10, 2) := by decide +kernel
theorem dX12_number_57 : decode cX12_number 57 = .ok (.iload_n 3, 1) := by decide +kernel
theorem dX12_number_58 : decode cX12_number 58 = .ok (.imul, 1) := by decide +kernel
theorem dX12_number_59 : decode cX12_number 59 = .ok (.aload_n 0, 1) := by decide +kernel
theorem dX12_number_60 : decode cX12_number 60 = .ok (.getfield 22, 3) := by decide +kernel
theorem dX12_number_63 : decode cX12_number 63 = .ok (.aload_n 0, 1) := by decide +kernel
theorem dX12_number_64 : decode cX12_number 64 = .ok (.getfield 112, 3) := by decide +kernel
theorem dX12_number_67 : decode cX12_number 67 = .ok (.iaload, 1) := by decide +kernel
theorem dX12_number_68 : decode cX12_number 68 = .ok (.iadd, 1) := by decide +kernel
theorem dX12_number_69 : decode cX12_number 69 = .ok (.bipush 48, 2) := by decide +kernel
theorem dX12_number_71 : decode cX12_number 71 = .ok (.isub, 1) := by decide +kernel
theorem dX12_number_72 : decode cX12_number 72 = .ok (.istore_n 3, 1) := by decide +kernel
theorem dX12_number_73 : decode cX12_number 73 = .ok (.aload_n 0, 1) := by decide +kernel
theorem dX12_number_74 : decode cX12_number 74 = .ok (.dup, 1) := by decide +kernel
theorem dX12_number_75 : decode cX12_number 75 = .ok (.getfield 112, 3) := by decide +kernel
theorem dX12_number_78 : decode cX12_number 78 = .ok (.iconst 1, 1) := by decide +kernel
theorem dX12_number_79 : decode cX12_number 79 = .ok (.iadd, 1) := by decide +kernel
theorem dX12_number_80 : decode cX12_number 80 = .ok (.putfield 112, 3) := by decide +kernel
theorem dX12_number_83 : decode cX12_number 83 = .ok (.aload_n 0, 1) := by decide +kernel
theorem dX12_number_84 : decode cX12_number 84 = .ok (.getfield 16, 3) := by decide +kernel
theorem dX12_number_87 : decode cX12_number 87 = .ok (.iload_n 1, 1) := by decide +kernel
theorem dX12_number_88 : decode cX12_number 88 = .ok (.iload_n 3, 1) := by decide +kernel
theorem dX12_number_89 : decode cX12_number 89 = .ok (.iastore, 1) := by decide +kernel
theorem dX12_number_90 : decode cX12_number 90 = .ok (.iload_n 3, 1) := by decide +kernel
theorem dX12_number_91 : decode cX12_number 91 = .ok (.bipush 20, 2) := by decide +kernel
theorem dX12_number_93 : decode cX12_number 93 = .ok (.if_icmp .gt 7, 3) := by decide +kernel
theorem dX12_number_96 : decode cX12_number 96 = .ok (.iconst 1, 1) := by decide +kernel
theorem dX12_number_97 : decode cX12_number 97 = .ok (.goto 4, 3) := by decide +kernel
theorem dX12_number_100 : decode cX12_number 100 = .ok (.iconst 0, 1) := by decide +kernel
theorem dX12_number_101 : decode cX12_number 101 = .ok (.ireturn, 1) := by decide +kernel
theorem dX12_figure_0 : decode cX12_figure 0 = .ok (.aload_n 0, 1) := by decide +kernel
theorem dX12_figure_1 : decode cX12_figure 1 = .ok (.invokevirtual 122, 3) := by decide +kernel
theorem dX12_figure_4 : decode cX12_figure 4 = .ok (.bipush 48, 2) := by decide +kernel
theorem dX12_figure_6 : decode cX12_figure 6 = .ok (.isub, 1) := by decide +kernel
theorem dX12_figure_7 : decode cX12_figure 7 = .ok (.istore 4, 2) := by decide +kernel
theorem dX12_figure_9 : decode cX12_figure 9 = .ok (.iload 4, 2) := by decide +kernel
theorem dX12_figure_11 : decode cX12_figure 11 = .ok (.i2l, 1) := by decide +kernel
theorem dX12_figure_12 : decode cX12_figure 12 = .ok (.iload_n 2, 1) := by decide +kernel
theorem dX12_figure_13 : decode cX12_figure 13 = .ok (.i2l, 1) := by decide +kernel
theorem dX12_figure_14 : decode cX12_figure 14 = .ok (.iload_n 3, 1) := by decide +kernel
theorem dX12_figure_15 : decode cX12_figure 15 = .ok (.i2l, 1) := by decide +kernel
theorem dX12_figure_16 : decode cX12_figure 16 = .ok (.invokestatic 55, 3) := by decide +kernel
theorem dX12_figure_19 : decode cX12_figure 19 = .ok (.ifCond .ne 5, 3) := by decide +kernel
theorem dX12_figure_22 : decode cX12_figure 22 = .ok (.iconst 0, 1) := by decide +kernel
theorem dX12_figure_23 : decode cX12_figure 23 = .ok (.ireturn, 1) := by decide +kernel
theorem dX12_figure_24 : decode cX12_figure 24 = .ok (.aload_n 0, 1) := by decide +kernel
theorem dX12_figure_25 : decode cX12_figure 25 = .ok (.getfield 16, 3) := by decide +kernel
theorem dX12_figure_28 : decode cX12_figure 28 = .ok (.iload_n 1, 1) := by decide +kernel
theorem dX12_figure_29 : decode cX12_figure 29 = .ok (.iload 4, 2) := by decide +kernel
theorem dX12_figure_31 : decode cX12_figure 31 = .ok (.iastore, 1) := by decide +kernel
theorem dX12_figure_32 : decode cX12_figure 32 = .ok (.aload_n 0, 1) := by decide +kernel
theorem dX12_figure_33 : decode cX12_figure 33 = .ok (.dup, 1) := by decide +kernel
theorem dX12_figure_34 : decode cX12_figure 34 = .ok (.getfield 112, 3) := by decide +kernel
theorem dX12_figure_37 : decode cX12_figure 37 = .ok (.iconst 1, 1) := by decide +kernel
theorem dX12_figure_38 : decode cX12_figure 38 = .ok (.iadd, 1) := by decide +kernel
theorem dX12_figure_39 : decode cX12_figure 39 = .ok (.putfield 112, 3) := by decide +kernel
theorem dX12_figure_42 : decode cX12_figure 42 = .ok (.iconst 1, 1) := by decide +kernel
theorem dX12_figure_43 : decode cX12_figure 43 = .ok (.ireturn, 1) := by decide +kernel
theorem dX12_sign_0 : decode cX12_sign 0 = .ok (.aload_n 0, 1) := by decide +kernel
theorem dX12_sign_1 : decode cX12_sign 1 = .ok (.invokevirtual 122, 3) := by decide +kernel
theorem dX12_sign_4 : decode cX12_sign 4 = .ok (.iload_n 1, 1) := by decide +kernel
theorem dX12_sign_5 : decode cX12_sign 5 = .ok (.if_icmp .eq 5, 3) := by decide +kernel
theorem dX12_sign_8 : decode cX12_sign 8 = .ok (.iconst 0, 1) := by decide +kernel
theorem dX12_sign_9 : decode cX12_sign 9 = .ok (.ireturn, 1) := by decide +kernel
theorem dX12_sign_10 : decode cX12_sign 10 = .ok (.aload_n 0, 1) := by decide +kernel
theorem dX12_sign_11 : decode cX12_sign 11 = .ok (.dup, 1) := by decide +kernel
theorem dX12_sign_12 : decode cX12_sign 12 = .ok (.getfield 112, 3) := by decide +kernel
theorem dX12_sign_15 : decode cX12_sign 15 = .ok (.iconst 1, 1) := by decide +kernel
theorem dX12_sign_16 : decode cX12_sign 16 = .ok (.iadd, 1) := by decide +kernel
theorem dX12_sign_17 : decode cX12_sign 17 = .ok (.putfield 112, 3) := by decide +kernel
theorem dX12_sign_20 : decode cX12_sign 20 = .ok (.iconst 1, 1) := by decide +kernel
theorem dX12_sign_21 : decode cX12_sign 21 = .ok (.ireturn, 1) := by decide +kernel
theorem dX12_kindOf_0 : decode cX12_kindOf 0 = .ok (.iload_n 0, 1) := by decide +kernel
theorem dX12_kindOf_1 : decode cX12_kindOf 1 = .ok (.bipush 112, 2) := by decide +kernel
theorem dX12_kindOf_3 : decode cX12_kindOf 3 = .ok (.if_icmp .ne 7, 3) := by decide +kernel
theorem dX12_kindOf_6 : decode cX12_kindOf 6 = .ok (.iconst 0, 1) := by decide +kernel
theorem dX12_kindOf_7 : decode cX12_kindOf 7 = .ok (.goto 44, 3) := by decide +kernel
theorem dX12_kindOf_10 : decode cX12_kindOf 10 = .ok (.iload_n 0, 1) := by decide +kernel
theorem dX12_kindOf_11 : decode cX12_kindOf 11 = .ok (.bipush 114, 2) := by decide +kernel
theorem dX12_kindOf_13 : decode cX12_kindOf 13 = .ok (.if_icmp .ne 7, 3) := by decide +kernel
theorem dX12_kindOf_16 : decode cX12_kindOf 16 = .ok (.iconst 1, 1) := by decide +kernel
theorem dX12_kindOf_17 : decode cX12_kindOf 17 = .ok (.goto 34, 3) := by decide +kernel
theorem dX12_kindOf_20 : decode cX12_kindOf 20 = .ok (.iload_n 0, 1) := by decide +kernel
theorem dX12_kindOf_21 : decode cX12_kindOf 21 = .ok (.bipush 111, 2) := by decide +kernel
theorem dX12_kindOf_23 : decode cX12_kindOf 23 = .ok (.if_icmp .ne 7, 3) := by decide +kernel
theorem dX12_kindOf_26 : decode cX12_kindOf 26 = .ok (.iconst 2, 1) := by decide +kernel
theorem dX12_kindOf_27 : decode cX12_kindOf 27 = .ok (.goto 24, 3) := by decide +kernel
theorem dX12_kindOf_30 : decode cX12_kindOf 30 = .ok (.iload_n 0, 1) := by decide +kernel
theorem dX12_kindOf_31 : decode cX12_kindOf 31 = .ok (.bipush 104, 2) := by decide +kernel
theorem dX12_kindOf_33 : decode cX12_kindOf 33 = .ok (.if_icmp .ne 7, 3) := by decide +kernel
theorem dX12_kindOf_36 : decode cX12_kindOf 36 = .ok (.iconst 3, 1) := by decide +kernel
theorem dX12_kindOf_37 : decode cX12_kindOf 37 = .ok (.goto 14, 3) := by decide +kernel
theorem dX12_kindOf_40 : decode cX12_kindOf 40 = .ok (.iload_n 0, 1) := by decide +kernel
theorem dX12_kindOf_41 : decode cX12_kindOf 41 = .ok (.bipush 100, 2) := by decide +kernel
theorem dX12_kindOf_43 : decode cX12_kindOf 43 = .ok (.if_icmp .ne 7, 3) := by decide +kernel
theorem dX12_kindOf_46 : decode cX12_kindOf 46 = .ok (.iconst 4, 1) := by decide +kernel
theorem dX12_kindOf_47 : decode cX12_kindOf 47 = .ok (.goto 4, 3) := by decide +kernel
theorem dX12_kindOf_50 : decode cX12_kindOf 50 = .ok (.iconst (-1), 1) := by decide +kernel
theorem dX12_kindOf_51 : decode cX12_kindOf 51 = .ok (.ireturn, 1) := by decide +kernel
theorem dX12_readsMan_0 : decode cX12_readsMan 0 = .ok (.aload_n 0, 1) := by decide +kernel
theorem dX12_readsMan_1 : decode cX12_readsMan 1 = .ok (.getfield 16, 3) := by decide +kernel
theorem dX12_readsMan_4 : decode cX12_readsMan 4 = .ok (.iconst 0, 1) := by decide +kernel
theorem dX12_readsMan_5 : decode cX12_readsMan 5 = .ok (.iaload, 1) := by decide +kernel
theorem dX12_readsMan_6 : decode cX12_readsMan 6 = .ok (.istore_n 1, 1) := by decide +kernel
theorem dX12_readsMan_7 : decode cX12_readsMan 7 = .ok (.aload_n 0, 1) := by decide +kernel
theorem dX12_readsMan_8 : decode cX12_readsMan 8 = .ok (.invokevirtual 122, 3) := by decide +kernel
theorem dX12_readsMan_11 : decode cX12_readsMan 11 = .ok (.invokestatic 129, 3) := by decide +kernel
theorem dX12_readsMan_14 : decode cX12_readsMan 14 = .ok (.istore_n 2, 1) := by decide +kernel
theorem dX12_readsMan_15 : decode cX12_readsMan 15 = .ok (.iload_n 2, 1) := by decide +kernel
theorem dX12_readsMan_16 : decode cX12_readsMan 16 = .ok (.ifCond .ge 5, 3) := by decide +kernel
theorem dX12_readsMan_19 : decode cX12_readsMan 19 = .ok (.iconst 0, 1) := by decide +kernel
theorem dX12_readsMan_20 : decode cX12_readsMan 20 = .ok (.ireturn, 1) := by decide +kernel
theorem dX12_readsMan_21 : decode cX12_readsMan 21 = .ok (.aload_n 0, 1) := by decide +kernel
theorem dX12_readsMan_22 : decode cX12_readsMan 22 = .ok (.dup, 1) := by decide +kernel
theorem dX12_readsMan_23 : decode cX12_readsMan 23 = .ok (.getfield 112, 3) := by decide +kernel
theorem dX12_readsMan_26 : decode cX12_readsMan 26 = .ok (.iconst 1, 1) := by decide +kernel
theorem dX12_readsMan_27 : decode cX12_readsMan 27 = .ok (.iadd, 1) := by decide +kernel
theorem dX12_readsMan_28 : decode cX12_readsMan 28 = .ok (.putfield 112, 3) := by decide +kernel
theorem dX12_readsMan_31 : decode cX12_readsMan 31 = .ok (.aload_n 0, 1) := by decide +kernel
theorem dX12_readsMan_32 : decode cX12_readsMan 32 = .ok (.getfield 16, 3) := by decide +kernel
theorem dX12_readsMan_35 : decode cX12_readsMan 35 = .ok (.iconst 4, 1) := by decide +kernel
theorem dX12_readsMan_36 : decode cX12_readsMan 36 = .ok (.iload_n 1, 1) := by decide +kernel
theorem dX12_readsMan_37 : decode cX12_readsMan 37 = .ok (.iadd, 1) := by decide +kernel
theorem dX12_readsMan_38 : decode cX12_readsMan 38 = .ok (.iload_n 2, 1) := by decide +kernel
theorem dX12_readsMan_39 : decode cX12_readsMan 39 = .ok (.iastore, 1) := by decide +kernel
theorem dX12_readsMan_40 : decode cX12_readsMan 40 = .ok (.aload_n 0, 1) := by decide +kernel
theorem dX12_readsMan_41 : decode cX12_readsMan 41 = .ok (.getfield 16, 3) := by decide +kernel
theorem dX12_readsMan_44 : decode cX12_readsMan 44 = .ok (.iconst 0, 1) := by decide +kernel
theorem dX12_readsMan_45 : decode cX12_readsMan 45 = .ok (.dup2, 1) := by decide +kernel
theorem dX12_readsMan_46 : decode cX12_readsMan 46 = .ok (.iaload, 1) := by decide +kernel
theorem dX12_readsMan_47 : decode cX12_readsMan 47 = .ok (.iconst 1, 1) := by decide +kernel
theorem dX12_readsMan_48 : decode cX12_readsMan 48 = .ok (.iadd, 1) := by decide +kernel
theorem dX12_readsMan_49 : decode cX12_readsMan 49 = .ok (.iastore, 1) := by decide +kernel
theorem dX12_readsMan_50 : decode cX12_readsMan 50 = .ok (.aload_n 0, 1) := by decide +kernel
theorem dX12_readsMan_51 : decode cX12_readsMan 51 = .ok (.bipush 10, 2) := by decide +kernel
theorem dX12_readsMan_53 : decode cX12_readsMan 53 = .ok (.iload_n 1, 1) := by decide +kernel
theorem dX12_readsMan_54 : decode cX12_readsMan 54 = .ok (.iadd, 1) := by decide +kernel
theorem dX12_readsMan_55 : decode cX12_readsMan 55 = .ok (.iconst 0, 1) := by decide +kernel
theorem dX12_readsMan_56 : decode cX12_readsMan 56 = .ok (.bipush 9, 2) := by decide +kernel
theorem dX12_readsMan_58 : decode cX12_readsMan 58 = .ok (.invokevirtual 132, 3) := by decide +kernel
theorem dX12_readsMan_61 : decode cX12_readsMan 61 = .ok (.ifCond .eq 20, 3) := by decide +kernel
theorem dX12_readsMan_64 : decode cX12_readsMan 64 = .ok (.aload_n 0, 1) := by decide +kernel
theorem dX12_readsMan_65 : decode cX12_readsMan 65 = .ok (.bipush 16, 2) := by decide +kernel
theorem dX12_readsMan_67 : decode cX12_readsMan 67 = .ok (.iload_n 1, 1) := by decide +kernel
theorem dX12_readsMan_68 : decode cX12_readsMan 68 = .ok (.iadd, 1) := by decide +kernel
theorem dX12_readsMan_69 : decode cX12_readsMan 69 = .ok (.iconst 1, 1) := by decide +kernel
theorem dX12_readsMan_70 : decode cX12_readsMan 70 = .ok (.iconst 4, 1) := by decide +kernel
theorem dX12_readsMan_71 : decode cX12_readsMan 71 = .ok (.invokevirtual 132, 3) := by decide +kernel
theorem dX12_readsMan_74 : decode cX12_readsMan 74 = .ok (.ifCond .eq 7, 3) := by decide +kernel
theorem dX12_readsMan_77 : decode cX12_readsMan 77 = .ok (.iconst 1, 1) := by decide +kernel
theorem dX12_readsMan_78 : decode cX12_readsMan 78 = .ok (.goto 4, 3) := by decide +kernel
theorem dX12_readsMan_81 : decode cX12_readsMan 81 = .ok (.iconst 0, 1) := by decide +kernel
theorem dX12_readsMan_82 : decode cX12_readsMan 82 = .ok (.ireturn, 1) := by decide +kernel
theorem dX12_readsName_0 : decode cX12_readsName 0 = .ok (.aload_n 0, 1) := by decide +kernel
theorem dX12_readsName_1 : decode cX12_readsName 1 = .ok (.getfield 16, 3) := by decide +kernel
theorem dX12_readsName_4 : decode cX12_readsName 4 = .ok (.iconst 1, 1) := by decide +kernel
theorem dX12_readsName_5 : decode cX12_readsName 5 = .ok (.iaload, 1) := by decide +kernel
theorem dX12_readsName_6 : decode cX12_readsName 6 = .ok (.istore_n 1, 1) := by decide +kernel
theorem dX12_readsName_7 : decode cX12_readsName 7 = .ok (.aload_n 0, 1) := by decide +kernel
theorem dX12_readsName_8 : decode cX12_readsName 8 = .ok (.getfield 16, 3) := by decide +kernel
theorem dX12_readsName_11 : decode cX12_readsName 11 = .ok (.iconst 1, 1) := by decide +kernel
theorem dX12_readsName_12 : decode cX12_readsName 12 = .ok (.dup2, 1) := by decide +kernel
theorem dX12_readsName_13 : decode cX12_readsName 13 = .ok (.iaload, 1) := by decide +kernel
theorem dX12_readsName_14 : decode cX12_readsName 14 = .ok (.iconst 1, 1) := by decide +kernel
theorem dX12_readsName_15 : decode cX12_readsName 15 = .ok (.iadd, 1) := by decide +kernel
theorem dX12_readsName_16 : decode cX12_readsName 16 = .ok (.iastore, 1) := by decide +kernel
theorem dX12_readsName_17 : decode cX12_readsName 17 = .ok (.aload_n 0, 1) := by decide +kernel
theorem dX12_readsName_18 : decode cX12_readsName 18 = .ok (.bipush 34, 2) := by decide +kernel
theorem dX12_readsName_20 : decode cX12_readsName 20 = .ok (.iload_n 1, 1) := by decide +kernel
theorem dX12_readsName_21 : decode cX12_readsName 21 = .ok (.iadd, 1) := by decide +kernel
theorem dX12_readsName_22 : decode cX12_readsName 22 = .ok (.invokevirtual 136, 3) := by decide +kernel
theorem dX12_readsName_25 : decode cX12_readsName 25 = .ok (.ifCond .eq 27, 3) := by decide +kernel
theorem dX12_readsName_28 : decode cX12_readsName 28 = .ok (.aload_n 0, 1) := by decide +kernel
theorem dX12_readsName_29 : decode cX12_readsName 29 = .ok (.bipush 45, 2) := by decide +kernel
theorem dX12_readsName_31 : decode cX12_readsName 31 = .ok (.invokevirtual 139, 3) := by decide +kernel
theorem dX12_readsName_34 : decode cX12_readsName 34 = .ok (.ifCond .eq 18, 3) := by decide +kernel
theorem dX12_readsName_37 : decode cX12_readsName 37 = .ok (.aload_n 0, 1) := by decide +kernel
theorem dX12_readsName_38 : decode cX12_readsName 38 = .ok (.bipush 40, 2) := by decide +kernel
theorem dX12_readsName_40 : decode cX12_readsName 40 = .ok (.iload_n 1, 1) := by decide +kernel
theorem dX12_readsName_41 : decode cX12_readsName 41 = .ok (.iadd, 1) := by decide +kernel
theorem dX12_readsName_42 : decode cX12_readsName 42 = .ok (.invokevirtual 136, 3) := by decide +kernel
theorem dX12_readsName_45 : decode cX12_readsName 45 = .ok (.ifCond .eq 7, 3) := by decide +kernel
theorem dX12_readsName_48 : decode cX12_readsName 48 = .ok (.iconst 1, 1) := by decide +kernel
theorem dX12_readsName_49 : decode cX12_readsName 49 = .ok (.goto 4, 3) := by decide +kernel
theorem dX12_readsName_52 : decode cX12_readsName 52 = .ok (.iconst 0, 1) := by decide +kernel
theorem dX12_readsName_53 : decode cX12_readsName 53 = .ok (.ireturn, 1) := by decide +kernel
theorem dX12_reads_0 : decode cX12_reads 0 = .ok (.aload_n 0, 1) := by decide +kernel
theorem dX12_reads_1 : decode cX12_reads 1 = .ok (.getfield 16, 3) := by decide +kernel
theorem dX12_reads_4 : decode cX12_reads 4 = .ok (.iconst 0, 1) := by decide +kernel
theorem dX12_reads_5 : decode cX12_reads 5 = .ok (.aload_n 0, 1) := by decide +kernel
theorem dX12_reads_6 : decode cX12_reads 6 = .ok (.getfield 7, 3) := by decide +kernel
theorem dX12_reads_9 : decode cX12_reads 9 = .ok (.bipush 46, 2) := by decide +kernel
theorem dX12_reads_11 : decode cX12_reads 11 = .ok (.iaload, 1) := by decide +kernel
theorem dX12_reads_12 : decode cX12_reads 12 = .ok (.invokestatic 47, 3) := by decide +kernel
theorem dX12_reads_15 : decode cX12_reads 15 = .ok (.aload_n 0, 1) := by decide +kernel
theorem dX12_reads_16 : decode cX12_reads 16 = .ok (.iconst 0, 1) := by decide +kernel
theorem dX12_reads_17 : decode cX12_reads 17 = .ok (.putfield 112, 3) := by decide +kernel
theorem dX12_reads_20 : decode cX12_reads 20 = .ok (.aload_n 0, 1) := by decide +kernel
theorem dX12_reads_21 : decode cX12_reads 21 = .ok (.iconst 2, 1) := by decide +kernel
theorem dX12_reads_22 : decode cX12_reads 22 = .ok (.invokevirtual 136, 3) := by decide +kernel
theorem dX12_reads_25 : decode cX12_reads 25 = .ok (.ifCond .eq 12, 3) := by decide +kernel
theorem dX12_reads_28 : decode cX12_reads 28 = .ok (.aload_n 0, 1) := by decide +kernel
theorem dX12_reads_29 : decode cX12_reads 29 = .ok (.bipush 59, 2) := by decide +kernel
theorem dX12_reads_31 : decode cX12_reads 31 = .ok (.invokevirtual 139, 3) := by decide +kernel
theorem dX12_reads_34 : decode cX12_reads 34 = .ok (.ifCond .ne 5, 3) := by decide +kernel
theorem dX12_reads_37 : decode cX12_reads 37 = .ok (.iconst 0, 1) := by decide +kernel
theorem dX12_reads_38 : decode cX12_reads 38 = .ok (.ireturn, 1) := by decide +kernel
theorem dX12_reads_39 : decode cX12_reads 39 = .ok (.iconst 1, 1) := by decide +kernel
theorem dX12_reads_40 : decode cX12_reads 40 = .ok (.istore_n 1, 1) := by decide +kernel
theorem dX12_reads_41 : decode cX12_reads 41 = .ok (.iload_n 1, 1) := by decide +kernel
theorem dX12_reads_42 : decode cX12_reads 42 = .ok (.ifCond .eq 59, 3) := by decide +kernel
theorem dX12_reads_45 : decode cX12_reads 45 = .ok (.aload_n 0, 1) := by decide +kernel
theorem dX12_reads_46 : decode cX12_reads 46 = .ok (.invokevirtual 142, 3) := by decide +kernel
theorem dX12_reads_49 : decode cX12_reads 49 = .ok (.ifCond .ne 5, 3) := by decide +kernel
theorem dX12_reads_52 : decode cX12_reads 52 = .ok (.iconst 0, 1) := by decide +kernel
theorem dX12_reads_53 : decode cX12_reads 53 = .ok (.ireturn, 1) := by decide +kernel
theorem dX12_reads_54 : decode cX12_reads 54 = .ok (.aload_n 0, 1) := by decide +kernel
theorem dX12_reads_55 : decode cX12_reads 55 = .ok (.invokevirtual 122, 3) := by decide +kernel
theorem dX12_reads_58 : decode cX12_reads 58 = .ok (.bipush 44, 2) := by decide +kernel
theorem dX12_reads_60 : decode cX12_reads 60 = .ok (.if_icmp .ne 18, 3) := by decide +kernel
theorem dX12_reads_63 : decode cX12_reads 63 = .ok (.aload_n 0, 1) := by decide +kernel
theorem dX12_reads_64 : decode cX12_reads 64 = .ok (.getfield 16, 3) := by decide +kernel
theorem dX12_reads_67 : decode cX12_reads 67 = .ok (.iconst 0, 1) := by decide +kernel
theorem dX12_reads_68 : decode cX12_reads 68 = .ok (.iaload, 1) := by decide +kernel
theorem dX12_reads_69 : decode cX12_reads 69 = .ok (.bipush 6, 2) := by decide +kernel
theorem dX12_reads_71 : decode cX12_reads 71 = .ok (.if_icmp .ge 7, 3) := by decide +kernel
theorem dX12_reads_74 : decode cX12_reads 74 = .ok (.iconst 1, 1) := by decide +kernel
theorem dX12_reads_75 : decode cX12_reads 75 = .ok (.goto 4, 3) := by decide +kernel
theorem dX12_reads_78 : decode cX12_reads 78 = .ok (.iconst 0, 1) := by decide +kernel
theorem dX12_reads_79 : decode cX12_reads 79 = .ok (.istore_n 1, 1) := by decide +kernel
theorem dX12_reads_80 : decode cX12_reads 80 = .ok (.aload_n 0, 1) := by decide +kernel
theorem dX12_reads_81 : decode cX12_reads 81 = .ok (.dup, 1) := by decide +kernel
theorem dX12_reads_82 : decode cX12_reads 82 = .ok (.getfield 112, 3) := by decide +kernel
theorem dX12_reads_85 : decode cX12_reads 85 = .ok (.iload_n 1, 1) := by decide +kernel
theorem dX12_reads_86 : decode cX12_reads 86 = .ok (.ifCond .eq 7, 3) := by decide +kernel
theorem dX12_reads_89 : decode cX12_reads 89 = .ok (.iconst 1, 1) := by decide +kernel
theorem dX12_reads_90 : decode cX12_reads 90 = .ok (.goto 4, 3) := by decide +kernel
theorem dX12_reads_93 : decode cX12_reads 93 = .ok (.iconst 0, 1) := by decide +kernel
theorem dX12_reads_94 : decode cX12_reads 94 = .ok (.iadd, 1) := by decide +kernel
theorem dX12_reads_95 : decode cX12_reads 95 = .ok (.putfield 112, 3) := by decide +kernel
theorem dX12_reads_98 : decode cX12_reads 98 = .ok (.goto (-57), 3) := by decide +kernel
theorem dX12_reads_101 : decode cX12_reads 101 = .ok (.aload_n 0, 1) := by decide +kernel
theorem dX12_reads_102 : decode cX12_reads 102 = .ok (.bipush 59, 2) := by decide +kernel
theorem dX12_reads_104 : decode cX12_reads 104 = .ok (.invokevirtual 139, 3) := by decide +kernel
theorem dX12_reads_107 : decode cX12_reads 107 = .ok (.ifCond .ne 5, 3) := by decide +kernel
theorem dX12_reads_110 : decode cX12_reads 110 = .ok (.iconst 0, 1) := by decide +kernel
theorem dX12_reads_111 : decode cX12_reads 111 = .ok (.ireturn, 1) := by decide +kernel
theorem dX12_reads_112 : decode cX12_reads 112 = .ok (.iconst 1, 1) := by decide +kernel
theorem dX12_reads_113 : decode cX12_reads 113 = .ok (.istore_n 1, 1) := by decide +kernel
theorem dX12_reads_114 : decode cX12_reads 114 = .ok (.iload_n 1, 1) := by decide +kernel
theorem dX12_reads_115 : decode cX12_reads 115 = .ok (.ifCond .eq 59, 3) := by decide +kernel
theorem dX12_reads_118 : decode cX12_reads 118 = .ok (.aload_n 0, 1) := by decide +kernel
theorem dX12_reads_119 : decode cX12_reads 119 = .ok (.invokevirtual 146, 3) := by decide +kernel
theorem dX12_reads_122 : decode cX12_reads 122 = .ok (.ifCond .ne 5, 3) := by decide +kernel
theorem dX12_reads_125 : decode cX12_reads 125 = .ok (.iconst 0, 1) := by decide +kernel
theorem dX12_reads_126 : decode cX12_reads 126 = .ok (.ireturn, 1) := by decide +kernel
theorem dX12_reads_127 : decode cX12_reads 127 = .ok (.aload_n 0, 1) := by decide +kernel
theorem dX12_reads_128 : decode cX12_reads 128 = .ok (.invokevirtual 122, 3) := by decide +kernel
theorem dX12_reads_131 : decode cX12_reads 131 = .ok (.bipush 44, 2) := by decide +kernel
theorem dX12_reads_133 : decode cX12_reads 133 = .ok (.if_icmp .ne 18, 3) := by decide +kernel
theorem dX12_reads_136 : decode cX12_reads 136 = .ok (.aload_n 0, 1) := by decide +kernel
theorem dX12_reads_137 : decode cX12_reads 137 = .ok (.getfield 16, 3) := by decide +kernel
theorem dX12_reads_140 : decode cX12_reads 140 = .ok (.iconst 1, 1) := by decide +kernel
theorem dX12_reads_141 : decode cX12_reads 141 = .ok (.iaload, 1) := by decide +kernel
theorem dX12_reads_142 : decode cX12_reads 142 = .ok (.bipush 6, 2) := by decide +kernel
theorem dX12_reads_144 : decode cX12_reads 144 = .ok (.if_icmp .ge 7, 3) := by decide +kernel
theorem dX12_reads_147 : decode cX12_reads 147 = .ok (.iconst 1, 1) := by decide +kernel
theorem dX12_reads_148 : decode cX12_reads 148 = .ok (.goto 4, 3) := by decide +kernel
theorem dX12_reads_151 : decode cX12_reads 151 = .ok (.iconst 0, 1) := by decide +kernel
theorem dX12_reads_152 : decode cX12_reads 152 = .ok (.istore_n 1, 1) := by decide +kernel
theorem dX12_reads_153 : decode cX12_reads 153 = .ok (.aload_n 0, 1) := by decide +kernel
theorem dX12_reads_154 : decode cX12_reads 154 = .ok (.dup, 1) := by decide +kernel
theorem dX12_reads_155 : decode cX12_reads 155 = .ok (.getfield 112, 3) := by decide +kernel
theorem dX12_reads_158 : decode cX12_reads 158 = .ok (.iload_n 1, 1) := by decide +kernel
theorem dX12_reads_159 : decode cX12_reads 159 = .ok (.ifCond .eq 7, 3) := by decide +kernel
theorem dX12_reads_162 : decode cX12_reads 162 = .ok (.iconst 1, 1) := by decide +kernel
theorem dX12_reads_163 : decode cX12_reads 163 = .ok (.goto 4, 3) := by decide +kernel
theorem dX12_reads_166 : decode cX12_reads 166 = .ok (.iconst 0, 1) := by decide +kernel
theorem dX12_reads_167 : decode cX12_reads 167 = .ok (.iadd, 1) := by decide +kernel
theorem dX12_reads_168 : decode cX12_reads 168 = .ok (.putfield 112, 3) := by decide +kernel
theorem dX12_reads_171 : decode cX12_reads 171 = .ok (.goto (-57), 3) := by decide +kernel
theorem dX12_reads_174 : decode cX12_reads 174 = .ok (.aload_n 0, 1) := by decide +kernel
theorem dX12_reads_175 : decode cX12_reads 175 = .ok (.invokevirtual 122, 3) := by decide +kernel
theorem dX12_reads_178 : decode cX12_reads 178 = .ok (.ifCond .ge 7, 3) := by decide +kernel
theorem dX12_reads_181 : decode cX12_reads 181 = .ok (.iconst 1, 1) := by decide +kernel
theorem dX12_reads_182 : decode cX12_reads 182 = .ok (.goto 4, 3) := by decide +kernel
theorem dX12_reads_185 : decode cX12_reads 185 = .ok (.iconst 0, 1) := by decide +kernel
theorem dX12_reads_186 : decode cX12_reads 186 = .ok (.ireturn, 1) := by decide +kernel
theorem dX12_parish_0 : decode cX12_parish 0 = .ok (.aload_n 0, 1) := by decide +kernel
theorem dX12_parish_1 : decode cX12_parish 1 = .ok (.invokevirtual 149, 3) := by decide +kernel
theorem dX12_parish_4 : decode cX12_parish 4 = .ok (.istore_n 1, 1) := by decide +kernel
theorem dX12_parish_5 : decode cX12_parish 5 = .ok (.aload_n 0, 1) := by decide +kernel
theorem dX12_parish_6 : decode cX12_parish 6 = .ok (.iconst 0, 1) := by decide +kernel
theorem dX12_parish_7 : decode cX12_parish 7 = .ok (.putfield 108, 3) := by decide +kernel
theorem dX12_parish_10 : decode cX12_parish 10 = .ok (.iload_n 1, 1) := by decide +kernel
theorem dX12_parish_11 : decode cX12_parish 11 = .ok (.ifCond .ne 11, 3) := by decide +kernel
theorem dX12_parish_14 : decode cX12_parish 14 = .ok (.bipush (-20), 2) := by decide +kernel
theorem dX12_parish_16 : decode cX12_parish 16 = .ok (.aload_n 0, 1) := by decide +kernel
theorem dX12_parish_17 : decode cX12_parish 17 = .ok (.getfield 115, 3) := by decide +kernel
theorem dX12_parish_20 : decode cX12_parish 20 = .ok (.isub, 1) := by decide +kernel
theorem dX12_parish_21 : decode cX12_parish 21 = .ok (.ireturn, 1) := by decide +kernel
theorem dX12_parish_22 : decode cX12_parish 22 = .ok (.aload_n 0, 1) := by decide +kernel
theorem dX12_parish_23 : decode cX12_parish 23 = .ok (.getfield 16, 3) := by decide +kernel
theorem dX12_parish_26 : decode cX12_parish 26 = .ok (.iconst 0, 1) := by decide +kernel
theorem dX12_parish_27 : decode cX12_parish 27 = .ok (.aload_n 0, 1) := by decide +kernel
theorem dX12_parish_28 : decode cX12_parish 28 = .ok (.getfield 7, 3) := by decide +kernel
theorem dX12_parish_31 : decode cX12_parish 31 = .ok (.iconst 0, 1) := by decide +kernel
theorem dX12_parish_32 : decode cX12_parish 32 = .ok (.sipush 352, 3) := by decide +kernel
theorem dX12_parish_35 : decode cX12_parish 35 = .ok (.invokestatic 152, 3) := by decide +kernel
theorem dX12_parish_38 : decode cX12_parish 38 = .ok (.aload_n 0, 1) := by decide +kernel
theorem dX12_parish_39 : decode cX12_parish 39 = .ok (.getfield 7, 3) := by decide +kernel
theorem dX12_parish_42 : decode cX12_parish 42 = .ok (.iconst 0, 1) := by decide +kernel
theorem dX12_parish_43 : decode cX12_parish 43 = .ok (.iaload, 1) := by decide +kernel
theorem dX12_parish_44 : decode cX12_parish 44 = .ok (.ireturn, 1) := by decide +kernel
theorem dX12_wouldBe_0 : decode cX12_wouldBe 0 = .ok (.aload_n 0, 1) := by decide +kernel
theorem dX12_wouldBe_1 : decode cX12_wouldBe 1 = .ok (.aload_n 0, 1) := by decide +kernel
theorem dX12_wouldBe_2 : decode cX12_wouldBe 2 = .ok (.getfield 7, 3) := by decide +kernel
theorem dX12_wouldBe_5 : decode cX12_wouldBe 5 = .ok (.aload_n 0, 1) := by decide +kernel
theorem dX12_wouldBe_6 : decode cX12_wouldBe 6 = .ok (.getfield 7, 3) := by decide +kernel
theorem dX12_wouldBe_9 : decode cX12_wouldBe 9 = .ok (.iconst 2, 1) := by decide +kernel
theorem dX12_wouldBe_10 : decode cX12_wouldBe 10 = .ok (.iaload, 1) := by decide +kernel
theorem dX12_wouldBe_11 : decode cX12_wouldBe 11 = .ok (.invokevirtual 70, 3) := by decide +kernel
theorem dX12_wouldBe_14 : decode cX12_wouldBe 14 = .ok (.aload_n 0, 1) := by decide +kernel
theorem dX12_wouldBe_15 : decode cX12_wouldBe 15 = .ok (.aload_n 0, 1) := by decide +kernel
theorem dX12_wouldBe_16 : decode cX12_wouldBe 16 = .ok (.getfield 7, 3) := by decide +kernel
theorem dX12_wouldBe_19 : decode cX12_wouldBe 19 = .ok (.invokevirtual 74, 3) := by decide +kernel
theorem dX12_wouldBe_22 : decode cX12_wouldBe 22 = .ok (.istore_n 1, 1) := by decide +kernel
theorem dX12_wouldBe_23 : decode cX12_wouldBe 23 = .ok (.iconst 0, 1) := by decide +kernel
theorem dX12_wouldBe_24 : decode cX12_wouldBe 24 = .ok (.istore_n 2, 1) := by decide +kernel
theorem dX12_wouldBe_25 : decode cX12_wouldBe 25 = .ok (.iconst 0, 1) := by decide +kernel
theorem dX12_wouldBe_26 : decode cX12_wouldBe 26 = .ok (.istore_n 3, 1) := by decide +kernel
theorem dX12_wouldBe_27 : decode cX12_wouldBe 27 = .ok (.iload_n 3, 1) := by decide +kernel
theorem dX12_wouldBe_28 : decode cX12_wouldBe 28 = .ok (.aload_n 0, 1) := by decide +kernel
theorem dX12_wouldBe_29 : decode cX12_wouldBe 29 = .ok (.getfield 7, 3) := by decide +kernel
theorem dX12_wouldBe_32 : decode cX12_wouldBe 32 = .ok (.iconst 0, 1) := by decide +kernel
theorem dX12_wouldBe_33 : decode cX12_wouldBe 33 = .ok (.iaload, 1) := by decide +kernel
theorem dX12_wouldBe_34 : decode cX12_wouldBe 34 = .ok (.if_icmp .ge 30, 3) := by decide +kernel
theorem dX12_wouldBe_37 : decode cX12_wouldBe 37 = .ok (.iload_n 2, 1) := by decide +kernel
theorem dX12_wouldBe_38 : decode cX12_wouldBe 38 = .ok (.aload_n 0, 1) := by decide +kernel
theorem dX12_wouldBe_39 : decode cX12_wouldBe 39 = .ok (.getfield 41, 3) := by decide +kernel
theorem dX12_wouldBe_42 : decode cX12_wouldBe 42 = .ok (.iload_n 3, 1) := by decide +kernel
theorem dX12_wouldBe_43 : decode cX12_wouldBe 43 = .ok (.iaload, 1) := by decide +kernel
theorem dX12_wouldBe_44 : decode cX12_wouldBe 44 = .ok (.bipush (-4), 2) := by decide +kernel
theorem dX12_wouldBe_46 : decode cX12_wouldBe 46 = .ok (.if_icmp .ne 7, 3) := by decide +kernel
theorem dX12_wouldBe_49 : decode cX12_wouldBe 49 = .ok (.iconst 0, 1) := by decide +kernel
theorem dX12_wouldBe_50 : decode cX12_wouldBe 50 = .ok (.goto 6, 3) := by decide +kernel
theorem dX12_wouldBe_53 : decode cX12_wouldBe 53 = .ok (.iconst 1, 1) := by decide +kernel
theorem dX12_wouldBe_54 : decode cX12_wouldBe 54 = .ok (.iload_n 3, 1) := by decide +kernel
theorem dX12_wouldBe_55 : decode cX12_wouldBe 55 = .ok (.ishl, 1) := by decide +kernel
theorem dX12_wouldBe_56 : decode cX12_wouldBe 56 = .ok (.ior, 1) := by decide +kernel
theorem dX12_wouldBe_57 : decode cX12_wouldBe 57 = .ok (.istore_n 2, 1) := by decide +kernel
theorem dX12_wouldBe_58 : decode cX12_wouldBe 58 = .ok (.iinc 3 1, 3) := by decide +kernel
theorem dX12_wouldBe_61 : decode cX12_wouldBe 61 = .ok (.goto (-34), 3) := by decide +kernel
theorem dX12_wouldBe_64 : decode cX12_wouldBe 64 = .ok (.iload_n 2, 1) := by decide +kernel
theorem dX12_wouldBe_65 : decode cX12_wouldBe 65 = .ok (.ireturn, 1) := by decide +kernel
theorem dX12_count_0 : decode cX12_count 0 = .ok (.iload_n 1, 1) := by decide +kernel
theorem dX12_count_1 : decode cX12_count 1 = .ok (.tableswitch 120 0 8 #[51, 58, 65, 72, 79, 87, 97, 107, 112], 51) := by decide +kernel
theorem dX12_count_52 : decode cX12_count 52 = .ok (.aload_n 0, 1) := by decide +kernel
theorem dX12_count_53 : decode cX12_count 53 = .ok (.getfield 7, 3) := by decide +kernel
theorem dX12_count_56 : decode cX12_count 56 = .ok (.iconst 0, 1) := by decide +kernel
theorem dX12_count_57 : decode cX12_count 57 = .ok (.iaload, 1) := by decide +kernel
theorem dX12_count_58 : decode cX12_count 58 = .ok (.ireturn, 1) := by decide +kernel
theorem dX12_count_59 : decode cX12_count 59 = .ok (.aload_n 0, 1) := by decide +kernel
theorem dX12_count_60 : decode cX12_count 60 = .ok (.getfield 7, 3) := by decide +kernel
theorem dX12_count_63 : decode cX12_count 63 = .ok (.iconst 1, 1) := by decide +kernel
theorem dX12_count_64 : decode cX12_count 64 = .ok (.iaload, 1) := by decide +kernel
theorem dX12_count_65 : decode cX12_count 65 = .ok (.ireturn, 1) := by decide +kernel
theorem dX12_count_66 : decode cX12_count 66 = .ok (.aload_n 0, 1) := by decide +kernel
theorem dX12_count_67 : decode cX12_count 67 = .ok (.getfield 7, 3) := by decide +kernel
theorem dX12_count_70 : decode cX12_count 70 = .ok (.iconst 3, 1) := by decide +kernel
theorem dX12_count_71 : decode cX12_count 71 = .ok (.iaload, 1) := by decide +kernel
theorem dX12_count_72 : decode cX12_count 72 = .ok (.ireturn, 1) := by decide +kernel
theorem dX12_count_73 : decode cX12_count 73 = .ok (.aload_n 0, 1) := by decide +kernel
theorem dX12_count_74 : decode cX12_count 74 = .ok (.getfield 7, 3) := by decide +kernel
theorem dX12_count_77 : decode cX12_count 77 = .ok (.iconst 2, 1) := by decide +kernel
theorem dX12_count_78 : decode cX12_count 78 = .ok (.iaload, 1) := by decide +kernel
theorem dX12_count_79 : decode cX12_count 79 = .ok (.ireturn, 1) := by decide +kernel
theorem dX12_count_80 : decode cX12_count 80 = .ok (.aload_n 0, 1) := by decide +kernel
theorem dX12_count_81 : decode cX12_count 81 = .ok (.getfield 7, 3) := by decide +kernel
theorem dX12_count_84 : decode cX12_count 84 = .ok (.invokestatic 156, 3) := by decide +kernel
theorem dX12_count_87 : decode cX12_count 87 = .ok (.ireturn, 1) := by decide +kernel
theorem dX12_count_88 : decode cX12_count 88 = .ok (.aload_n 0, 1) := by decide +kernel
theorem dX12_count_89 : decode cX12_count 89 = .ok (.getfield 7, 3) := by decide +kernel
theorem dX12_count_92 : decode cX12_count 92 = .ok (.bipush 34, 2) := by decide +kernel
theorem dX12_count_94 : decode cX12_count 94 = .ok (.invokestatic 159, 3) := by decide +kernel
theorem dX12_count_97 : decode cX12_count 97 = .ok (.ireturn, 1) := by decide +kernel
theorem dX12_count_98 : decode cX12_count 98 = .ok (.aload_n 0, 1) := by decide +kernel
theorem dX12_count_99 : decode cX12_count 99 = .ok (.getfield 7, 3) := by decide +kernel
theorem dX12_count_102 : decode cX12_count 102 = .ok (.bipush 40, 2) := by decide +kernel
theorem dX12_count_104 : decode cX12_count 104 = .ok (.invokestatic 159, 3) := by decide +kernel
theorem dX12_count_107 : decode cX12_count 107 = .ok (.ireturn, 1) := by decide +kernel
theorem dX12_count_108 : decode cX12_count 108 = .ok (.aload_n 0, 1) := by decide +kernel
theorem dX12_count_109 : decode cX12_count 109 = .ok (.invokevirtual 163, 3) := by decide +kernel
theorem dX12_count_112 : decode cX12_count 112 = .ok (.ireturn, 1) := by decide +kernel
theorem dX12_count_113 : decode cX12_count 113 = .ok (.aload_n 0, 1) := by decide +kernel
theorem dX12_count_114 : decode cX12_count 114 = .ok (.getfield 7, 3) := by decide +kernel
theorem dX12_count_117 : decode cX12_count 117 = .ok (.bipush 47, 2) := by decide +kernel
theorem dX12_count_119 : decode cX12_count 119 = .ok (.iaload, 1) := by decide +kernel
theorem dX12_count_120 : decode cX12_count 120 = .ok (.ireturn, 1) := by decide +kernel
theorem dX12_count_121 : decode cX12_count 121 = .ok (.iconst (-1), 1) := by decide +kernel
theorem dX12_count_122 : decode cX12_count 122 = .ok (.ireturn, 1) := by decide +kernel
theorem dX12_remember_0 : decode cX12_remember 0 = .ok (.aload_n 0, 1) := by decide +kernel
theorem dX12_remember_1 : decode cX12_remember 1 = .ok (.getfield 7, 3) := by decide +kernel
theorem dX12_remember_4 : decode cX12_remember 4 = .ok (.bipush 47, 2) := by decide +kernel
theorem dX12_remember_6 : decode cX12_remember 6 = .ok (.iaload, 1) := by decide +kernel
theorem dX12_remember_7 : decode cX12_remember 7 = .ok (.bipush 8, 2) := by decide +kernel
theorem dX12_remember_9 : decode cX12_remember 9 = .ok (.if_icmp .ne 50, 3) := by decide +kernel
theorem dX12_remember_12 : decode cX12_remember 12 = .ok (.iconst 0, 1) := by decide +kernel
theorem dX12_remember_13 : decode cX12_remember 13 = .ok (.istore_n 1, 1) := by decide +kernel
theorem dX12_remember_14 : decode cX12_remember 14 = .ok (.iload_n 1, 1) := by decide +kernel
theorem dX12_remember_15 : decode cX12_remember 15 = .ok (.sipush 266, 3) := by decide +kernel
theorem dX12_remember_18 : decode cX12_remember 18 = .ok (.if_icmp .ge 30, 3) := by decide +kernel
theorem dX12_remember_21 : decode cX12_remember 21 = .ok (.aload_n 0, 1) := by decide +kernel
theorem dX12_remember_22 : decode cX12_remember 22 = .ok (.getfield 7, 3) := by decide +kernel
theorem dX12_remember_25 : decode cX12_remember 25 = .ok (.bipush 48, 2) := by decide +kernel
theorem dX12_remember_27 : decode cX12_remember 27 = .ok (.iload_n 1, 1) := by decide +kernel
theorem dX12_remember_28 : decode cX12_remember 28 = .ok (.iadd, 1) := by decide +kernel
theorem dX12_remember_29 : decode cX12_remember 29 = .ok (.aload_n 0, 1) := by decide +kernel
theorem dX12_remember_30 : decode cX12_remember 30 = .ok (.getfield 7, 3) := by decide +kernel
theorem dX12_remember_33 : decode cX12_remember 33 = .ok (.bipush 48, 2) := by decide +kernel
theorem dX12_remember_35 : decode cX12_remember 35 = .ok (.iload_n 1, 1) := by decide +kernel
theorem dX12_remember_36 : decode cX12_remember 36 = .ok (.iadd, 1) := by decide +kernel
theorem dX12_remember_37 : decode cX12_remember 37 = .ok (.bipush 38, 2) := by decide +kernel
theorem dX12_remember_39 : decode cX12_remember 39 = .ok (.iadd, 1) := by decide +kernel
theorem dX12_remember_40 : decode cX12_remember 40 = .ok (.iaload, 1) := by decide +kernel
theorem dX12_remember_41 : decode cX12_remember 41 = .ok (.iastore, 1) := by decide +kernel
theorem dX12_remember_42 : decode cX12_remember 42 = .ok (.iinc 1 1, 3) := by decide +kernel
theorem dX12_remember_45 : decode cX12_remember 45 = .ok (.goto (-31), 3) := by decide +kernel
theorem dX12_remember_48 : decode cX12_remember 48 = .ok (.aload_n 0, 1) := by decide +kernel
theorem dX12_remember_49 : decode cX12_remember 49 = .ok (.getfield 7, 3) := by decide +kernel
theorem dX12_remember_52 : decode cX12_remember 52 = .ok (.bipush 47, 2) := by decide +kernel
theorem dX12_remember_54 : decode cX12_remember 54 = .ok (.dup2, 1) := by decide +kernel
theorem dX12_remember_55 : decode cX12_remember 55 = .ok (.iaload, 1) := by decide +kernel
theorem dX12_remember_56 : decode cX12_remember 56 = .ok (.iconst 1, 1) := by decide +kernel
theorem dX12_remember_57 : decode cX12_remember 57 = .ok (.isub, 1) := by decide +kernel
theorem dX12_remember_58 : decode cX12_remember 58 = .ok (.iastore, 1) := by decide +kernel
theorem dX12_remember_59 : decode cX12_remember 59 = .ok (.bipush 48, 2) := by decide +kernel
theorem dX12_remember_61 : decode cX12_remember 61 = .ok (.bipush 38, 2) := by decide +kernel
theorem dX12_remember_63 : decode cX12_remember 63 = .ok (.aload_n 0, 1) := by decide +kernel
theorem dX12_remember_64 : decode cX12_remember 64 = .ok (.getfield 7, 3) := by decide +kernel
theorem dX12_remember_67 : decode cX12_remember 67 = .ok (.bipush 47, 2) := by decide +kernel
theorem dX12_remember_69 : decode cX12_remember 69 = .ok (.iaload, 1) := by decide +kernel
theorem dX12_remember_70 : decode cX12_remember 70 = .ok (.imul, 1) := by decide +kernel
theorem dX12_remember_71 : decode cX12_remember 71 = .ok (.iadd, 1) := by decide +kernel
theorem dX12_remember_72 : decode cX12_remember 72 = .ok (.istore_n 1, 1) := by decide +kernel
theorem dX12_remember_73 : decode cX12_remember 73 = .ok (.aload_n 0, 1) := by decide +kernel
theorem dX12_remember_74 : decode cX12_remember 74 = .ok (.getfield 7, 3) := by decide +kernel
theorem dX12_remember_77 : decode cX12_remember 77 = .ok (.bipush 10, 2) := by decide +kernel
theorem dX12_remember_79 : decode cX12_remember 79 = .ok (.aload_n 0, 1) := by decide +kernel
theorem dX12_remember_80 : decode cX12_remember 80 = .ok (.getfield 7, 3) := by decide +kernel
theorem dX12_remember_83 : decode cX12_remember 83 = .ok (.iload_n 1, 1) := by decide +kernel
theorem dX12_remember_84 : decode cX12_remember 84 = .ok (.bipush 37, 2) := by decide +kernel
theorem dX12_remember_86 : decode cX12_remember 86 = .ok (.invokestatic 152, 3) := by decide +kernel
theorem dX12_remember_89 : decode cX12_remember 89 = .ok (.aload_n 0, 1) := by decide +kernel
theorem dX12_remember_90 : decode cX12_remember 90 = .ok (.getfield 7, 3) := by decide +kernel
theorem dX12_remember_93 : decode cX12_remember 93 = .ok (.iload_n 1, 1) := by decide +kernel
theorem dX12_remember_94 : decode cX12_remember 94 = .ok (.bipush 37, 2) := by decide +kernel
theorem dX12_remember_96 : decode cX12_remember 96 = .ok (.iadd, 1) := by decide +kernel
theorem dX12_remember_97 : decode cX12_remember 97 = .ok (.aload_n 0, 1) := by decide +kernel
theorem dX12_remember_98 : decode cX12_remember 98 = .ok (.getfield 7, 3) := by decide +kernel
theorem dX12_remember_101 : decode cX12_remember 101 = .ok (.iconst 3, 1) := by decide +kernel
theorem dX12_remember_102 : decode cX12_remember 102 = .ok (.iaload, 1) := by decide +kernel
theorem dX12_remember_103 : decode cX12_remember 103 = .ok (.iastore, 1) := by decide +kernel
theorem dX12_remember_104 : decode cX12_remember 104 = .ok (.aload_n 0, 1) := by decide +kernel
theorem dX12_remember_105 : decode cX12_remember 105 = .ok (.getfield 7, 3) := by decide +kernel
theorem dX12_remember_108 : decode cX12_remember 108 = .ok (.bipush 47, 2) := by decide +kernel
theorem dX12_remember_110 : decode cX12_remember 110 = .ok (.dup2, 1) := by decide +kernel
theorem dX12_remember_111 : decode cX12_remember 111 = .ok (.iaload, 1) := by decide +kernel
theorem dX12_remember_112 : decode cX12_remember 112 = .ok (.iconst 1, 1) := by decide +kernel
theorem dX12_remember_113 : decode cX12_remember 113 = .ok (.iadd, 1) := by decide +kernel
theorem dX12_remember_114 : decode cX12_remember 114 = .ok (.iastore, 1) := by decide +kernel
theorem dX12_remember_115 : decode cX12_remember 115 = .ok (.return_, 1) := by decide +kernel
theorem dX12_marches_0 : decode cX12_marches 0 = .ok (.iload_n 1, 1) := by decide +kernel
theorem dX12_marches_1 : decode cX12_marches 1 = .ok (.i2l, 1) := by decide +kernel
theorem dX12_marches_2 : decode cX12_marches 2 = .ok (.lconst 1, 1) := by decide +kernel
theorem dX12_marches_3 : decode cX12_marches 3 = .ok (.ldc2_w 166, 3) := by decide +kernel
theorem dX12_marches_6 : decode cX12_marches 6 = .ok (.invokestatic 55, 3) := by decide +kernel
theorem dX12_marches_9 : decode cX12_marches 9 = .ok (.ifCond .ne 5, 3) := by decide +kernel
theorem dX12_marches_12 : decode cX12_marches 12 = .ok (.iconst (-1), 1) := by decide +kernel
theorem dX12_marches_13 : decode cX12_marches 13 = .ok (.ireturn, 1) := by decide +kernel
theorem dX12_marches_14 : decode cX12_marches 14 = .ok (.aload_n 0, 1) := by decide +kernel
theorem dX12_marches_15 : decode cX12_marches 15 = .ok (.getfield 7, 3) := by decide +kernel
theorem dX12_marches_18 : decode cX12_marches 18 = .ok (.iconst 3, 1) := by decide +kernel
theorem dX12_marches_19 : decode cX12_marches 19 = .ok (.iaload, 1) := by decide +kernel
theorem dX12_marches_20 : decode cX12_marches 20 = .ok (.iload_n 1, 1) := by decide +kernel
theorem dX12_marches_21 : decode cX12_marches 21 = .ok (.iadd, 1) := by decide +kernel
theorem dX12_marches_22 : decode cX12_marches 22 = .ok (.sipush 9999, 3) := by decide +kernel
theorem dX12_marches_25 : decode cX12_marches 25 = .ok (.if_icmp .le 6, 3) := by decide +kernel
theorem dX12_marches_28 : decode cX12_marches 28 = .ok (.bipush (-3), 2) := by decide +kernel
theorem dX12_marches_30 : decode cX12_marches 30 = .ok (.ireturn, 1) := by decide +kernel
theorem dX12_marches_31 : decode cX12_marches 31 = .ok (.iconst 0, 1) := by decide +kernel
theorem dX12_marches_32 : decode cX12_marches 32 = .ok (.istore_n 2, 1) := by decide +kernel
theorem dX12_marches_33 : decode cX12_marches 33 = .ok (.iload_n 2, 1) := by decide +kernel
theorem dX12_marches_34 : decode cX12_marches 34 = .ok (.iload_n 1, 1) := by decide +kernel
theorem dX12_marches_35 : decode cX12_marches 35 = .ok (.if_icmp .ge 27, 3) := by decide +kernel
theorem dX12_marches_38 : decode cX12_marches 38 = .ok (.aload_n 0, 1) := by decide +kernel
theorem dX12_marches_39 : decode cX12_marches 39 = .ok (.invokevirtual 168, 3) := by decide +kernel
theorem dX12_marches_42 : decode cX12_marches 42 = .ok (.aload_n 0, 1) := by decide +kernel
theorem dX12_marches_43 : decode cX12_marches 43 = .ok (.aload_n 0, 1) := by decide +kernel
theorem dX12_marches_44 : decode cX12_marches 44 = .ok (.getfield 7, 3) := by decide +kernel
theorem dX12_marches_47 : decode cX12_marches 47 = .ok (.aload_n 0, 1) := by decide +kernel
theorem dX12_marches_48 : decode cX12_marches 48 = .ok (.getfield 7, 3) := by decide +kernel
theorem dX12_marches_51 : decode cX12_marches 51 = .ok (.iconst 2, 1) := by decide +kernel
theorem dX12_marches_52 : decode cX12_marches 52 = .ok (.iaload, 1) := by decide +kernel
theorem dX12_marches_53 : decode cX12_marches 53 = .ok (.invokevirtual 171, 3) := by decide +kernel
theorem dX12_marches_56 : decode cX12_marches 56 = .ok (.iinc 2 1, 3) := by decide +kernel
theorem dX12_marches_59 : decode cX12_marches 59 = .ok (.goto (-26), 3) := by decide +kernel
theorem dX12_marches_62 : decode cX12_marches 62 = .ok (.aload_n 0, 1) := by decide +kernel
theorem dX12_marches_63 : decode cX12_marches 63 = .ok (.getfield 7, 3) := by decide +kernel
theorem dX12_marches_66 : decode cX12_marches 66 = .ok (.invokestatic 156, 3) := by decide +kernel
theorem dX12_marches_69 : decode cX12_marches 69 = .ok (.ireturn, 1) := by decide +kernel
theorem dX12_train_0 : decode cX12_train 0 = .ok (.aload_n 0, 1) := by decide +kernel
theorem dX12_train_1 : decode cX12_train 1 = .ok (.iload_n 1, 1) := by decide +kernel
theorem dX12_train_2 : decode cX12_train 2 = .ok (.invokevirtual 84, 3) := by decide +kernel
theorem dX12_train_5 : decode cX12_train 5 = .ok (.ifCond .ne 5, 3) := by decide +kernel
theorem dX12_train_8 : decode cX12_train 8 = .ok (.iconst (-1), 1) := by decide +kernel
theorem dX12_train_9 : decode cX12_train 9 = .ok (.ireturn, 1) := by decide +kernel
theorem dX12_train_10 : decode cX12_train 10 = .ok (.aload_n 0, 1) := by decide +kernel
theorem dX12_train_11 : decode cX12_train 11 = .ok (.getfield 7, 3) := by decide +kernel
theorem dX12_train_14 : decode cX12_train 14 = .ok (.bipush 10, 2) := by decide +kernel
theorem dX12_train_16 : decode cX12_train 16 = .ok (.iload_n 1, 1) := by decide +kernel
theorem dX12_train_17 : decode cX12_train 17 = .ok (.iadd, 1) := by decide +kernel
theorem dX12_train_18 : decode cX12_train 18 = .ok (.iaload, 1) := by decide +kernel
theorem dX12_train_19 : decode cX12_train 19 = .ok (.bipush 9, 2) := by decide +kernel
theorem dX12_train_21 : decode cX12_train 21 = .ok (.if_icmp .ne 6, 3) := by decide +kernel
theorem dX12_train_24 : decode cX12_train 24 = .ok (.bipush (-2), 2) := by decide +kernel
theorem dX12_train_26 : decode cX12_train 26 = .ok (.ireturn, 1) := by decide +kernel
theorem dX12_train_27 : decode cX12_train 27 = .ok (.aload_n 0, 1) := by decide +kernel
theorem dX12_train_28 : decode cX12_train 28 = .ok (.invokevirtual 168, 3) := by decide +kernel
theorem dX12_train_31 : decode cX12_train 31 = .ok (.aload_n 0, 1) := by decide +kernel
theorem dX12_train_32 : decode cX12_train 32 = .ok (.getfield 7, 3) := by decide +kernel
theorem dX12_train_35 : decode cX12_train 35 = .ok (.bipush 10, 2) := by decide +kernel
theorem dX12_train_37 : decode cX12_train 37 = .ok (.iload_n 1, 1) := by decide +kernel
theorem dX12_train_38 : decode cX12_train 38 = .ok (.iadd, 1) := by decide +kernel
theorem dX12_train_39 : decode cX12_train 39 = .ok (.dup2, 1) := by decide +kernel
theorem dX12_train_40 : decode cX12_train 40 = .ok (.iaload, 1) := by decide +kernel
theorem dX12_train_41 : decode cX12_train 41 = .ok (.iconst 1, 1) := by decide +kernel
theorem dX12_train_42 : decode cX12_train 42 = .ok (.iadd, 1) := by decide +kernel
theorem dX12_train_43 : decode cX12_train 43 = .ok (.iastore, 1) := by decide +kernel
theorem dX12_train_44 : decode cX12_train 44 = .ok (.aload_n 0, 1) := by decide +kernel
theorem dX12_train_45 : decode cX12_train 45 = .ok (.getfield 7, 3) := by decide +kernel
theorem dX12_train_48 : decode cX12_train 48 = .ok (.bipush 10, 2) := by decide +kernel
theorem dX12_train_50 : decode cX12_train 50 = .ok (.iload_n 1, 1) := by decide +kernel
theorem dX12_train_51 : decode cX12_train 51 = .ok (.iadd, 1) := by decide +kernel
theorem dX12_train_52 : decode cX12_train 52 = .ok (.iaload, 1) := by decide +kernel
theorem dX12_train_53 : decode cX12_train 53 = .ok (.ireturn, 1) := by decide +kernel
theorem dX12_hire_0 : decode cX12_hire 0 = .ok (.aload_n 0, 1) := by decide +kernel
theorem dX12_hire_1 : decode cX12_hire 1 = .ok (.iload_n 1, 1) := by decide +kernel
theorem dX12_hire_2 : decode cX12_hire 2 = .ok (.invokevirtual 84, 3) := by decide +kernel
theorem dX12_hire_5 : decode cX12_hire 5 = .ok (.ifCond .eq 15, 3) := by decide +kernel
theorem dX12_hire_8 : decode cX12_hire 8 = .ok (.iload_n 2, 1) := by decide +kernel
theorem dX12_hire_9 : decode cX12_hire 9 = .ok (.i2l, 1) := by decide +kernel
theorem dX12_hire_10 : decode cX12_hire 10 = .ok (.lconst 1, 1) := by decide +kernel
theorem dX12_hire_11 : decode cX12_hire 11 = .ok (.ldc2_w 78, 3) := by decide +kernel
theorem dX12_hire_14 : decode cX12_hire 14 = .ok (.invokestatic 55, 3) := by decide +kernel
theorem dX12_hire_17 : decode cX12_hire 17 = .ok (.ifCond .ne 5, 3) := by decide +kernel
theorem dX12_hire_20 : decode cX12_hire 20 = .ok (.iconst (-1), 1) := by decide +kernel
theorem dX12_hire_21 : decode cX12_hire 21 = .ok (.ireturn, 1) := by decide +kernel
theorem dX12_hire_22 : decode cX12_hire 22 = .ok (.aload_n 0, 1) := by decide +kernel
theorem dX12_hire_23 : decode cX12_hire 23 = .ok (.invokevirtual 168, 3) := by decide +kernel
theorem dX12_hire_26 : decode cX12_hire 26 = .ok (.aload_n 0, 1) := by decide +kernel
theorem dX12_hire_27 : decode cX12_hire 27 = .ok (.bipush 16, 2) := by decide +kernel
theorem dX12_hire_29 : decode cX12_hire 29 = .ok (.iload_n 1, 1) := by decide +kernel
theorem dX12_hire_30 : decode cX12_hire 30 = .ok (.iadd, 1) := by decide +kernel
theorem dX12_hire_31 : decode cX12_hire 31 = .ok (.iload_n 2, 1) := by decide +kernel
theorem dX12_hire_32 : decode cX12_hire 32 = .ok (.invokevirtual 100, 3) := by decide +kernel
theorem dX12_hire_35 : decode cX12_hire 35 = .ok (.ireturn, 1) := by decide +kernel
theorem dX12_swap_0 : decode cX12_swap 0 = .ok (.aload_n 0, 1) := by decide +kernel
theorem dX12_swap_1 : decode cX12_swap 1 = .ok (.iload_n 1, 1) := by decide +kernel
theorem dX12_swap_2 : decode cX12_swap 2 = .ok (.invokevirtual 84, 3) := by decide +kernel
theorem dX12_swap_5 : decode cX12_swap 5 = .ok (.ifCond .eq 16, 3) := by decide +kernel
theorem dX12_swap_8 : decode cX12_swap 8 = .ok (.aload_n 0, 1) := by decide +kernel
theorem dX12_swap_9 : decode cX12_swap 9 = .ok (.iload_n 2, 1) := by decide +kernel
theorem dX12_swap_10 : decode cX12_swap 10 = .ok (.invokevirtual 84, 3) := by decide +kernel
theorem dX12_swap_13 : decode cX12_swap 13 = .ok (.ifCond .eq 8, 3) := by decide +kernel
theorem dX12_swap_16 : decode cX12_swap 16 = .ok (.iload_n 1, 1) := by decide +kernel
theorem dX12_swap_17 : decode cX12_swap 17 = .ok (.iload_n 2, 1) := by decide +kernel
theorem dX12_swap_18 : decode cX12_swap 18 = .ok (.if_icmp .ne 5, 3) := by decide +kernel
theorem dX12_swap_21 : decode cX12_swap 21 = .ok (.iconst (-1), 1) := by decide +kernel
theorem dX12_swap_22 : decode cX12_swap 22 = .ok (.ireturn, 1) := by decide +kernel
theorem dX12_swap_23 : decode cX12_swap 23 = .ok (.aload_n 0, 1) := by decide +kernel
theorem dX12_swap_24 : decode cX12_swap 24 = .ok (.getfield 7, 3) := by decide +kernel
theorem dX12_swap_27 : decode cX12_swap 27 = .ok (.bipush 28, 2) := by decide +kernel
theorem dX12_swap_29 : decode cX12_swap 29 = .ok (.iload_n 1, 1) := by decide +kernel
theorem dX12_swap_30 : decode cX12_swap 30 = .ok (.iadd, 1) := by decide +kernel
theorem dX12_swap_31 : decode cX12_swap 31 = .ok (.iaload, 1) := by decide +kernel
theorem dX12_swap_32 : decode cX12_swap 32 = .ok (.istore_n 3, 1) := by decide +kernel
theorem dX12_swap_33 : decode cX12_swap 33 = .ok (.aload_n 0, 1) := by decide +kernel
theorem dX12_swap_34 : decode cX12_swap 34 = .ok (.getfield 7, 3) := by decide +kernel
theorem dX12_swap_37 : decode cX12_swap 37 = .ok (.bipush 28, 2) := by decide +kernel
theorem dX12_swap_39 : decode cX12_swap 39 = .ok (.iload_n 2, 1) := by decide +kernel
theorem dX12_swap_40 : decode cX12_swap 40 = .ok (.iadd, 1) := by decide +kernel
theorem dX12_swap_41 : decode cX12_swap 41 = .ok (.iaload, 1) := by decide +kernel
theorem dX12_swap_42 : decode cX12_swap 42 = .ok (.istore 4, 2) := by decide +kernel
theorem dX12_swap_44 : decode cX12_swap 44 = .ok (.iload_n 3, 1) := by decide +kernel
theorem dX12_swap_45 : decode cX12_swap 45 = .ok (.bipush (-4), 2) := by decide +kernel
theorem dX12_swap_47 : decode cX12_swap 47 = .ok (.if_icmp .eq 10, 3) := by decide +kernel
theorem dX12_swap_50 : decode cX12_swap 50 = .ok (.iload 4, 2) := by decide +kernel
theorem dX12_swap_52 : decode cX12_swap 52 = .ok (.bipush (-4), 2) := by decide +kernel
theorem dX12_swap_54 : decode cX12_swap 54 = .ok (.if_icmp .ne 6, 3) := by decide +kernel
theorem dX12_swap_57 : decode cX12_swap 57 = .ok (.bipush (-2), 2) := by decide +kernel
theorem dX12_swap_59 : decode cX12_swap 59 = .ok (.ireturn, 1) := by decide +kernel
theorem dX12_swap_60 : decode cX12_swap 60 = .ok (.aload_n 0, 1) := by decide +kernel
theorem dX12_swap_61 : decode cX12_swap 61 = .ok (.invokevirtual 168, 3) := by decide +kernel
theorem dX12_swap_64 : decode cX12_swap 64 = .ok (.aload_n 0, 1) := by decide +kernel
theorem dX12_swap_65 : decode cX12_swap 65 = .ok (.getfield 7, 3) := by decide +kernel
theorem dX12_swap_68 : decode cX12_swap 68 = .ok (.bipush 28, 2) := by decide +kernel
theorem dX12_swap_70 : decode cX12_swap 70 = .ok (.iload_n 1, 1) := by decide +kernel
theorem dX12_swap_71 : decode cX12_swap 71 = .ok (.iadd, 1) := by decide +kernel
theorem dX12_swap_72 : decode cX12_swap 72 = .ok (.iload 4, 2) := by decide +kernel
theorem dX12_swap_74 : decode cX12_swap 74 = .ok (.iastore, 1) := by decide +kernel
theorem dX12_swap_75 : decode cX12_swap 75 = .ok (.aload_n 0, 1) := by decide +kernel
theorem dX12_swap_76 : decode cX12_swap 76 = .ok (.getfield 7, 3) := by decide +kernel
theorem dX12_swap_79 : decode cX12_swap 79 = .ok (.bipush 28, 2) := by decide +kernel
theorem dX12_swap_81 : decode cX12_swap 81 = .ok (.iload_n 2, 1) := by decide +kernel
theorem dX12_swap_82 : decode cX12_swap 82 = .ok (.iadd, 1) := by decide +kernel
theorem dX12_swap_83 : decode cX12_swap 83 = .ok (.iload_n 3, 1) := by decide +kernel
theorem dX12_swap_84 : decode cX12_swap 84 = .ok (.iastore, 1) := by decide +kernel
theorem dX12_swap_85 : decode cX12_swap 85 = .ok (.iload 4, 2) := by decide +kernel
theorem dX12_swap_87 : decode cX12_swap 87 = .ok (.ireturn, 1) := by decide +kernel
theorem dX12_drift_0 : decode cX12_drift 0 = .ok (.iload_n 1, 1) := by decide +kernel
theorem dX12_drift_1 : decode cX12_drift 1 = .ok (.i2l, 1) := by decide +kernel
theorem dX12_drift_2 : decode cX12_drift 2 = .ok (.lconst 1, 1) := by decide +kernel
theorem dX12_drift_3 : decode cX12_drift 3 = .ok (.ldc2_w 166, 3) := by decide +kernel
theorem dX12_drift_6 : decode cX12_drift 6 = .ok (.invokestatic 55, 3) := by decide +kernel
theorem dX12_drift_9 : decode cX12_drift 9 = .ok (.ifCond .ne 5, 3) := by decide +kernel
theorem dX12_drift_12 : decode cX12_drift 12 = .ok (.iconst (-1), 1) := by decide +kernel
theorem dX12_drift_13 : decode cX12_drift 13 = .ok (.ireturn, 1) := by decide +kernel
theorem dX12_drift_14 : decode cX12_drift 14 = .ok (.aload_n 0, 1) := by decide +kernel
theorem dX12_drift_15 : decode cX12_drift 15 = .ok (.getfield 7, 3) := by decide +kernel
theorem dX12_drift_18 : decode cX12_drift 18 = .ok (.iconst 3, 1) := by decide +kernel
theorem dX12_drift_19 : decode cX12_drift 19 = .ok (.iaload, 1) := by decide +kernel
theorem dX12_drift_20 : decode cX12_drift 20 = .ok (.iload_n 1, 1) := by decide +kernel
theorem dX12_drift_21 : decode cX12_drift 21 = .ok (.iadd, 1) := by decide +kernel
theorem dX12_drift_22 : decode cX12_drift 22 = .ok (.sipush 9999, 3) := by decide +kernel
theorem dX12_drift_25 : decode cX12_drift 25 = .ok (.if_icmp .le 6, 3) := by decide +kernel
theorem dX12_drift_28 : decode cX12_drift 28 = .ok (.bipush (-3), 2) := by decide +kernel
theorem dX12_drift_30 : decode cX12_drift 30 = .ok (.ireturn, 1) := by decide +kernel
theorem dX12_drift_31 : decode cX12_drift 31 = .ok (.iconst 0, 1) := by decide +kernel
theorem dX12_drift_32 : decode cX12_drift 32 = .ok (.istore_n 2, 1) := by decide +kernel
theorem dX12_drift_33 : decode cX12_drift 33 = .ok (.iconst 0, 1) := by decide +kernel
theorem dX12_drift_34 : decode cX12_drift 34 = .ok (.istore_n 3, 1) := by decide +kernel
theorem dX12_drift_35 : decode cX12_drift 35 = .ok (.iload_n 3, 1) := by decide +kernel
theorem dX12_drift_36 : decode cX12_drift 36 = .ok (.iload_n 1, 1) := by decide +kernel
theorem dX12_drift_37 : decode cX12_drift 37 = .ok (.if_icmp .ge 105, 3) := by decide +kernel
theorem dX12_drift_40 : decode cX12_drift 40 = .ok (.aload_n 0, 1) := by decide +kernel
theorem dX12_drift_41 : decode cX12_drift 41 = .ok (.invokevirtual 168, 3) := by decide +kernel
theorem dX12_drift_44 : decode cX12_drift 44 = .ok (.aload_n 0, 1) := by decide +kernel
theorem dX12_drift_45 : decode cX12_drift 45 = .ok (.getfield 7, 3) := by decide +kernel
theorem dX12_drift_48 : decode cX12_drift 48 = .ok (.bipush 46, 2) := by decide +kernel
theorem dX12_drift_50 : decode cX12_drift 50 = .ok (.aload_n 0, 1) := by decide +kernel
theorem dX12_drift_51 : decode cX12_drift 51 = .ok (.getfield 7, 3) := by decide +kernel
theorem dX12_drift_54 : decode cX12_drift 54 = .ok (.bipush 46, 2) := by decide +kernel
theorem dX12_drift_56 : decode cX12_drift 56 = .ok (.iaload, 1) := by decide +kernel
theorem dX12_drift_57 : decode cX12_drift 57 = .ok (.i2l, 1) := by decide +kernel
theorem dX12_drift_58 : decode cX12_drift 58 = .ok (.ldc2_w 174, 3) := by decide +kernel
theorem dX12_drift_61 : decode cX12_drift 61 = .ok (.lmul, 1) := by decide +kernel
theorem dX12_drift_62 : decode cX12_drift 62 = .ok (.ldc2_w 176, 3) := by decide +kernel
theorem dX12_drift_65 : decode cX12_drift 65 = .ok (.ladd, 1) := by decide +kernel
theorem dX12_drift_66 : decode cX12_drift 66 = .ok (.ldc2_w 178, 3) := by decide +kernel
theorem dX12_drift_69 : decode cX12_drift 69 = .ok (.lrem, 1) := by decide +kernel
theorem dX12_drift_70 : decode cX12_drift 70 = .ok (.l2i, 1) := by decide +kernel
theorem dX12_drift_71 : decode cX12_drift 71 = .ok (.iastore, 1) := by decide +kernel
theorem dX12_drift_72 : decode cX12_drift 72 = .ok (.aload_n 0, 1) := by decide +kernel
theorem dX12_drift_73 : decode cX12_drift 73 = .ok (.aload_n 0, 1) := by decide +kernel
theorem dX12_drift_74 : decode cX12_drift 74 = .ok (.getfield 7, 3) := by decide +kernel
theorem dX12_drift_77 : decode cX12_drift 77 = .ok (.aload_n 0, 1) := by decide +kernel
theorem dX12_drift_78 : decode cX12_drift 78 = .ok (.getfield 7, 3) := by decide +kernel
theorem dX12_drift_81 : decode cX12_drift 81 = .ok (.bipush 46, 2) := by decide +kernel
theorem dX12_drift_83 : decode cX12_drift 83 = .ok (.iaload, 1) := by decide +kernel
theorem dX12_drift_84 : decode cX12_drift 84 = .ok (.ldc 180, 2) := by decide +kernel
theorem dX12_drift_86 : decode cX12_drift 86 = .ok (.idiv, 1) := by decide +kernel
theorem dX12_drift_87 : decode cX12_drift 87 = .ok (.bipush 21, 2) := by decide +kernel
theorem dX12_drift_89 : decode cX12_drift 89 = .ok (.irem, 1) := by decide +kernel
theorem dX12_drift_90 : decode cX12_drift 90 = .ok (.invokevirtual 171, 3) := by decide +kernel
theorem dX12_drift_93 : decode cX12_drift 93 = .ok (.iconst 0, 1) := by decide +kernel
theorem dX12_drift_94 : decode cX12_drift 94 = .ok (.istore 4, 2) := by decide +kernel
theorem dX12_drift_96 : decode cX12_drift 96 = .ok (.iload 4, 2) := by decide +kernel
theorem dX12_drift_98 : decode cX12_drift 98 = .ok (.aload_n 0, 1) := by decide +kernel
theorem dX12_drift_99 : decode cX12_drift 99 = .ok (.getfield 7, 3) := by decide +kernel
theorem dX12_drift_102 : decode cX12_drift 102 = .ok (.iconst 0, 1) := by decide +kernel
theorem dX12_drift_103 : decode cX12_drift 103 = .ok (.iaload, 1) := by decide +kernel
theorem dX12_drift_104 : decode cX12_drift 104 = .ok (.if_icmp .ge 32, 3) := by decide +kernel
theorem dX12_drift_107 : decode cX12_drift 107 = .ok (.iload_n 2, 1) := by decide +kernel
theorem dX12_drift_108 : decode cX12_drift 108 = .ok (.aload_n 0, 1) := by decide +kernel
theorem dX12_drift_109 : decode cX12_drift 109 = .ok (.getfield 7, 3) := by decide +kernel
theorem dX12_drift_112 : decode cX12_drift 112 = .ok (.bipush 28, 2) := by decide +kernel
theorem dX12_drift_114 : decode cX12_drift 114 = .ok (.iload 4, 2) := by decide +kernel
theorem dX12_drift_116 : decode cX12_drift 116 = .ok (.iadd, 1) := by decide +kernel
theorem dX12_drift_117 : decode cX12_drift 117 = .ok (.iaload, 1) := by decide +kernel
theorem dX12_drift_118 : decode cX12_drift 118 = .ok (.bipush (-4), 2) := by decide +kernel
theorem dX12_drift_120 : decode cX12_drift 120 = .ok (.if_icmp .ne 7, 3) := by decide +kernel
theorem dX12_drift_123 : decode cX12_drift 123 = .ok (.iconst 1, 1) := by decide +kernel
theorem dX12_drift_124 : decode cX12_drift 124 = .ok (.goto 4, 3) := by decide +kernel
theorem dX12_drift_127 : decode cX12_drift 127 = .ok (.iconst 0, 1) := by decide +kernel
theorem dX12_drift_128 : decode cX12_drift 128 = .ok (.iadd, 1) := by decide +kernel
theorem dX12_drift_129 : decode cX12_drift 129 = .ok (.istore_n 2, 1) := by decide +kernel
theorem dX12_drift_130 : decode cX12_drift 130 = .ok (.iinc 4 1, 3) := by decide +kernel
theorem dX12_drift_133 : decode cX12_drift 133 = .ok (.goto (-37), 3) := by decide +kernel
theorem dX12_drift_136 : decode cX12_drift 136 = .ok (.iinc 3 1, 3) := by decide +kernel
theorem dX12_drift_139 : decode cX12_drift 139 = .ok (.goto (-104), 3) := by decide +kernel
theorem dX12_drift_142 : decode cX12_drift 142 = .ok (.iload_n 2, 1) := by decide +kernel
theorem dX12_drift_143 : decode cX12_drift 143 = .ok (.ireturn, 1) := by decide +kernel
theorem dX12_undo_0 : decode cX12_undo 0 = .ok (.aload_n 0, 1) := by decide +kernel
theorem dX12_undo_1 : decode cX12_undo 1 = .ok (.getfield 7, 3) := by decide +kernel
theorem dX12_undo_4 : decode cX12_undo 4 = .ok (.bipush 47, 2) := by decide +kernel
theorem dX12_undo_6 : decode cX12_undo 6 = .ok (.iaload, 1) := by decide +kernel
theorem dX12_undo_7 : decode cX12_undo 7 = .ok (.ifCond .ne 6, 3) := by decide +kernel
theorem dX12_undo_10 : decode cX12_undo 10 = .ok (.bipush (-4), 2) := by decide +kernel
theorem dX12_undo_12 : decode cX12_undo 12 = .ok (.ireturn, 1) := by decide +kernel
theorem dX12_undo_13 : decode cX12_undo 13 = .ok (.aload_n 0, 1) := by decide +kernel
theorem dX12_undo_14 : decode cX12_undo 14 = .ok (.getfield 7, 3) := by decide +kernel
theorem dX12_undo_17 : decode cX12_undo 17 = .ok (.bipush 47, 2) := by decide +kernel
theorem dX12_undo_19 : decode cX12_undo 19 = .ok (.dup2, 1) := by decide +kernel
theorem dX12_undo_20 : decode cX12_undo 20 = .ok (.iaload, 1) := by decide +kernel
theorem dX12_undo_21 : decode cX12_undo 21 = .ok (.iconst 1, 1) := by decide +kernel
theorem dX12_undo_22 : decode cX12_undo 22 = .ok (.isub, 1) := by decide +kernel
theorem dX12_undo_23 : decode cX12_undo 23 = .ok (.iastore, 1) := by decide +kernel
theorem dX12_undo_24 : decode cX12_undo 24 = .ok (.bipush 48, 2) := by decide +kernel
theorem dX12_undo_26 : decode cX12_undo 26 = .ok (.bipush 38, 2) := by decide +kernel
theorem dX12_undo_28 : decode cX12_undo 28 = .ok (.aload_n 0, 1) := by decide +kernel
theorem dX12_undo_29 : decode cX12_undo 29 = .ok (.getfield 7, 3) := by decide +kernel
theorem dX12_undo_32 : decode cX12_undo 32 = .ok (.bipush 47, 2) := by decide +kernel
theorem dX12_undo_34 : decode cX12_undo 34 = .ok (.iaload, 1) := by decide +kernel
theorem dX12_undo_35 : decode cX12_undo 35 = .ok (.imul, 1) := by decide +kernel
theorem dX12_undo_36 : decode cX12_undo 36 = .ok (.iadd, 1) := by decide +kernel
theorem dX12_undo_37 : decode cX12_undo 37 = .ok (.istore_n 1, 1) := by decide +kernel
theorem dX12_undo_38 : decode cX12_undo 38 = .ok (.aload_n 0, 1) := by decide +kernel
theorem dX12_undo_39 : decode cX12_undo 39 = .ok (.getfield 7, 3) := by decide +kernel
theorem dX12_undo_42 : decode cX12_undo 42 = .ok (.iload_n 1, 1) := by decide +kernel
theorem dX12_undo_43 : decode cX12_undo 43 = .ok (.aload_n 0, 1) := by decide +kernel
theorem dX12_undo_44 : decode cX12_undo 44 = .ok (.getfield 7, 3) := by decide +kernel
theorem dX12_undo_47 : decode cX12_undo 47 = .ok (.bipush 10, 2) := by decide +kernel
theorem dX12_undo_49 : decode cX12_undo 49 = .ok (.bipush 37, 2) := by decide +kernel
theorem dX12_undo_51 : decode cX12_undo 51 = .ok (.invokestatic 152, 3) := by decide +kernel
theorem dX12_undo_54 : decode cX12_undo 54 = .ok (.aload_n 0, 1) := by decide +kernel
theorem dX12_undo_55 : decode cX12_undo 55 = .ok (.getfield 7, 3) := by decide +kernel
theorem dX12_undo_58 : decode cX12_undo 58 = .ok (.iconst 3, 1) := by decide +kernel
theorem dX12_undo_59 : decode cX12_undo 59 = .ok (.aload_n 0, 1) := by decide +kernel
theorem dX12_undo_60 : decode cX12_undo 60 = .ok (.getfield 7, 3) := by decide +kernel
theorem dX12_undo_63 : decode cX12_undo 63 = .ok (.iload_n 1, 1) := by decide +kernel
theorem dX12_undo_64 : decode cX12_undo 64 = .ok (.bipush 37, 2) := by decide +kernel
theorem dX12_undo_66 : decode cX12_undo 66 = .ok (.iadd, 1) := by decide +kernel
theorem dX12_undo_67 : decode cX12_undo 67 = .ok (.iaload, 1) := by decide +kernel
theorem dX12_undo_68 : decode cX12_undo 68 = .ok (.iastore, 1) := by decide +kernel
theorem dX12_undo_69 : decode cX12_undo 69 = .ok (.aload_n 0, 1) := by decide +kernel
theorem dX12_undo_70 : decode cX12_undo 70 = .ok (.getfield 7, 3) := by decide +kernel
theorem dX12_undo_73 : decode cX12_undo 73 = .ok (.bipush 47, 2) := by decide +kernel
theorem dX12_undo_75 : decode cX12_undo 75 = .ok (.iaload, 1) := by decide +kernel
theorem dX12_undo_76 : decode cX12_undo 76 = .ok (.ireturn, 1) := by decide +kernel
theorem dX12_seed_0 : decode cX12_seed 0 = .ok (.iload_n 1, 1) := by decide +kernel
theorem dX12_seed_1 : decode cX12_seed 1 = .ok (.ifCond .ge 7, 3) := by decide +kernel
theorem dX12_seed_4 : decode cX12_seed 4 = .ok (.iconst (-1), 1) := by decide +kernel
theorem dX12_seed_5 : decode cX12_seed 5 = .ok (.goto 10, 3) := by decide +kernel
theorem dX12_seed_8 : decode cX12_seed 8 = .ok (.aload_n 0, 1) := by decide +kernel
theorem dX12_seed_9 : decode cX12_seed 9 = .ok (.bipush 46, 2) := by decide +kernel
theorem dX12_seed_11 : decode cX12_seed 11 = .ok (.iload_n 1, 1) := by decide +kernel
theorem dX12_seed_12 : decode cX12_seed 12 = .ok (.invokevirtual 100, 3) := by decide +kernel
theorem dX12_seed_15 : decode cX12_seed 15 = .ok (.ireturn, 1) := by decide +kernel
theorem dX12_layAside_0 : decode cX12_layAside 0 = .ok (.aload_n 0, 1) := by decide +kernel
theorem dX12_layAside_1 : decode cX12_layAside 1 = .ok (.getfield 7, 3) := by decide +kernel
theorem dX12_layAside_4 : decode cX12_layAside 4 = .ok (.iconst 0, 1) := by decide +kernel
theorem dX12_layAside_5 : decode cX12_layAside 5 = .ok (.aload_n 0, 1) := by decide +kernel
theorem dX12_layAside_6 : decode cX12_layAside 6 = .ok (.getfield 13, 3) := by decide +kernel
theorem dX12_layAside_9 : decode cX12_layAside 9 = .ok (.iconst 0, 1) := by decide +kernel
theorem dX12_layAside_10 : decode cX12_layAside 10 = .ok (.bipush 47, 2) := by decide +kernel
theorem dX12_layAside_12 : decode cX12_layAside 12 = .ok (.invokestatic 152, 3) := by decide +kernel
theorem dX12_layAside_15 : decode cX12_layAside 15 = .ok (.return_, 1) := by decide +kernel
theorem dX12_go_0 : decode cX12_go 0 = .ok (.iconst 0, 1) := by decide +kernel
theorem dX12_go_1 : decode cX12_go 1 = .ok (.istore_n 2, 1) := by decide +kernel
theorem dX12_go_2 : decode cX12_go 2 = .ok (.iload_n 2, 1) := by decide +kernel
theorem dX12_go_3 : decode cX12_go 3 = .ok (.iload_n 1, 1) := by decide +kernel
theorem dX12_go_4 : decode cX12_go 4 = .ok (.if_icmp .ge 23, 3) := by decide +kernel
theorem dX12_go_7 : decode cX12_go 7 = .ok (.aload_n 0, 1) := by decide +kernel
theorem dX12_go_8 : decode cX12_go 8 = .ok (.aload_n 0, 1) := by decide +kernel
theorem dX12_go_9 : decode cX12_go 9 = .ok (.getfield 13, 3) := by decide +kernel
theorem dX12_go_12 : decode cX12_go 12 = .ok (.aload_n 0, 1) := by decide +kernel
theorem dX12_go_13 : decode cX12_go 13 = .ok (.getfield 13, 3) := by decide +kernel
theorem dX12_go_16 : decode cX12_go 16 = .ok (.iconst 2, 1) := by decide +kernel
theorem dX12_go_17 : decode cX12_go 17 = .ok (.iaload, 1) := by decide +kernel
theorem dX12_go_18 : decode cX12_go 18 = .ok (.invokevirtual 171, 3) := by decide +kernel
theorem dX12_go_21 : decode cX12_go 21 = .ok (.iinc 2 1, 3) := by decide +kernel
theorem dX12_go_24 : decode cX12_go 24 = .ok (.goto (-22), 3) := by decide +kernel
theorem dX12_go_27 : decode cX12_go 27 = .ok (.return_, 1) := by decide +kernel
theorem dX12_ahead_0 : decode cX12_ahead 0 = .ok (.aload_n 0, 1) := by decide +kernel
theorem dX12_ahead_1 : decode cX12_ahead 1 = .ok (.iload_n 1, 1) := by decide +kernel
theorem dX12_ahead_2 : decode cX12_ahead 2 = .ok (.invokevirtual 84, 3) := by decide +kernel
theorem dX12_ahead_5 : decode cX12_ahead 5 = .ok (.ifCond .eq 27, 3) := by decide +kernel
theorem dX12_ahead_8 : decode cX12_ahead 8 = .ok (.iload_n 2, 1) := by decide +kernel
theorem dX12_ahead_9 : decode cX12_ahead 9 = .ok (.i2l, 1) := by decide +kernel
theorem dX12_ahead_10 : decode cX12_ahead 10 = .ok (.lconst 0, 1) := by decide +kernel
theorem dX12_ahead_11 : decode cX12_ahead 11 = .ok (.ldc2_w 181, 3) := by decide +kernel
theorem dX12_ahead_14 : decode cX12_ahead 14 = .ok (.invokestatic 55, 3) := by decide +kernel
theorem dX12_ahead_17 : decode cX12_ahead 17 = .ok (.ifCond .eq 15, 3) := by decide +kernel
theorem dX12_ahead_20 : decode cX12_ahead 20 = .ok (.iload_n 3, 1) := by decide +kernel
theorem dX12_ahead_21 : decode cX12_ahead 21 = .ok (.i2l, 1) := by decide +kernel
theorem dX12_ahead_22 : decode cX12_ahead 22 = .ok (.lconst 0, 1) := by decide +kernel
theorem dX12_ahead_23 : decode cX12_ahead 23 = .ok (.ldc2_w 95, 3) := by decide +kernel
theorem dX12_ahead_26 : decode cX12_ahead 26 = .ok (.invokestatic 55, 3) := by decide +kernel
theorem dX12_ahead_29 : decode cX12_ahead 29 = .ok (.ifCond .ne 5, 3) := by decide +kernel
theorem dX12_ahead_32 : decode cX12_ahead 32 = .ok (.iconst (-1), 1) := by decide +kernel
theorem dX12_ahead_33 : decode cX12_ahead 33 = .ok (.ireturn, 1) := by decide +kernel
theorem dX12_ahead_34 : decode cX12_ahead 34 = .ok (.aload_n 0, 1) := by decide +kernel
theorem dX12_ahead_35 : decode cX12_ahead 35 = .ok (.invokevirtual 183, 3) := by decide +kernel
theorem dX12_ahead_38 : decode cX12_ahead 38 = .ok (.aload_n 0, 1) := by decide +kernel
theorem dX12_ahead_39 : decode cX12_ahead 39 = .ok (.iload_n 2, 1) := by decide +kernel
theorem dX12_ahead_40 : decode cX12_ahead 40 = .ok (.invokevirtual 186, 3) := by decide +kernel
theorem dX12_ahead_43 : decode cX12_ahead 43 = .ok (.iload_n 3, 1) := by decide +kernel
theorem dX12_ahead_44 : decode cX12_ahead 44 = .ok (.ifCond .ne 15, 3) := by decide +kernel
theorem dX12_ahead_47 : decode cX12_ahead 47 = .ok (.aload_n 0, 1) := by decide +kernel
theorem dX12_ahead_48 : decode cX12_ahead 48 = .ok (.getfield 13, 3) := by decide +kernel
theorem dX12_ahead_51 : decode cX12_ahead 51 = .ok (.bipush 28, 2) := by decide +kernel
theorem dX12_ahead_53 : decode cX12_ahead 53 = .ok (.iload_n 1, 1) := by decide +kernel
theorem dX12_ahead_54 : decode cX12_ahead 54 = .ok (.iadd, 1) := by decide +kernel
theorem dX12_ahead_55 : decode cX12_ahead 55 = .ok (.iaload, 1) := by decide +kernel
theorem dX12_ahead_56 : decode cX12_ahead 56 = .ok (.goto 33, 3) := by decide +kernel
theorem dX12_ahead_59 : decode cX12_ahead 59 = .ok (.iload_n 3, 1) := by decide +kernel
theorem dX12_ahead_60 : decode cX12_ahead 60 = .ok (.iconst 1, 1) := by decide +kernel
theorem dX12_ahead_61 : decode cX12_ahead 61 = .ok (.if_icmp .ne 19, 3) := by decide +kernel
theorem dX12_ahead_64 : decode cX12_ahead 64 = .ok (.aload_n 0, 1) := by decide +kernel
theorem dX12_ahead_65 : decode cX12_ahead 65 = .ok (.getfield 13, 3) := by decide +kernel
theorem dX12_ahead_68 : decode cX12_ahead 68 = .ok (.bipush 22, 2) := by decide +kernel
theorem dX12_ahead_70 : decode cX12_ahead 70 = .ok (.iload_n 1, 1) := by decide +kernel
theorem dX12_ahead_71 : decode cX12_ahead 71 = .ok (.iadd, 1) := by decide +kernel
theorem dX12_ahead_72 : decode cX12_ahead 72 = .ok (.iaload, 1) := by decide +kernel
theorem dX12_ahead_73 : decode cX12_ahead 73 = .ok (.sipush 10000, 3) := by decide +kernel
theorem dX12_ahead_76 : decode cX12_ahead 76 = .ok (.iadd, 1) := by decide +kernel
theorem dX12_ahead_77 : decode cX12_ahead 77 = .ok (.goto 12, 3) := by decide +kernel
theorem dX12_ahead_80 : decode cX12_ahead 80 = .ok (.aload_n 0, 1) := by decide +kernel
theorem dX12_ahead_81 : decode cX12_ahead 81 = .ok (.getfield 13, 3) := by decide +kernel
theorem dX12_ahead_84 : decode cX12_ahead 84 = .ok (.bipush 10, 2) := by decide +kernel
theorem dX12_ahead_86 : decode cX12_ahead 86 = .ok (.iload_n 1, 1) := by decide +kernel
theorem dX12_ahead_87 : decode cX12_ahead 87 = .ok (.iadd, 1) := by decide +kernel
theorem dX12_ahead_88 : decode cX12_ahead 88 = .ok (.iaload, 1) := by decide +kernel
theorem dX12_ahead_89 : decode cX12_ahead 89 = .ok (.ireturn, 1) := by decide +kernel
theorem dX12_nameAhead_0 : decode cX12_nameAhead 0 = .ok (.aload_n 0, 1) := by decide +kernel
theorem dX12_nameAhead_1 : decode cX12_nameAhead 1 = .ok (.iload_n 1, 1) := by decide +kernel
theorem dX12_nameAhead_2 : decode cX12_nameAhead 2 = .ok (.invokevirtual 92, 3) := by decide +kernel
theorem dX12_nameAhead_5 : decode cX12_nameAhead 5 = .ok (.ifCond .eq 22, 3) := by decide +kernel
theorem dX12_nameAhead_8 : decode cX12_nameAhead 8 = .ok (.iload_n 2, 1) := by decide +kernel
theorem dX12_nameAhead_9 : decode cX12_nameAhead 9 = .ok (.i2l, 1) := by decide +kernel
theorem dX12_nameAhead_10 : decode cX12_nameAhead 10 = .ok (.lconst 0, 1) := by decide +kernel
theorem dX12_nameAhead_11 : decode cX12_nameAhead 11 = .ok (.ldc2_w 181, 3) := by decide +kernel
theorem dX12_nameAhead_14 : decode cX12_nameAhead 14 = .ok (.invokestatic 55, 3) := by decide +kernel
theorem dX12_nameAhead_17 : decode cX12_nameAhead 17 = .ok (.ifCond .eq 10, 3) := by decide +kernel
theorem dX12_nameAhead_20 : decode cX12_nameAhead 20 = .ok (.iload_n 3, 1) := by decide +kernel
theorem dX12_nameAhead_21 : decode cX12_nameAhead 21 = .ok (.invokestatic 190, 3) := by decide +kernel
theorem dX12_nameAhead_24 : decode cX12_nameAhead 24 = .ok (.ifCond .ne 5, 3) := by decide +kernel
theorem dX12_nameAhead_27 : decode cX12_nameAhead 27 = .ok (.iconst (-1), 1) := by decide +kernel
theorem dX12_nameAhead_28 : decode cX12_nameAhead 28 = .ok (.ireturn, 1) := by decide +kernel
theorem dX12_nameAhead_29 : decode cX12_nameAhead 29 = .ok (.aload_n 0, 1) := by decide +kernel
theorem dX12_nameAhead_30 : decode cX12_nameAhead 30 = .ok (.invokevirtual 183, 3) := by decide +kernel
theorem dX12_nameAhead_33 : decode cX12_nameAhead 33 = .ok (.aload_n 0, 1) := by decide +kernel
theorem dX12_nameAhead_34 : decode cX12_nameAhead 34 = .ok (.iload_n 2, 1) := by decide +kernel
theorem dX12_nameAhead_35 : decode cX12_nameAhead 35 = .ok (.invokevirtual 186, 3) := by decide +kernel
theorem dX12_nameAhead_38 : decode cX12_nameAhead 38 = .ok (.aload_n 0, 1) := by decide +kernel
theorem dX12_nameAhead_39 : decode cX12_nameAhead 39 = .ok (.getfield 13, 3) := by decide +kernel
theorem dX12_nameAhead_42 : decode cX12_nameAhead 42 = .ok (.iload_n 3, 1) := by decide +kernel
theorem dX12_nameAhead_43 : decode cX12_nameAhead 43 = .ok (.ifCond .ne 8, 3) := by decide +kernel
theorem dX12_nameAhead_46 : decode cX12_nameAhead 46 = .ok (.bipush 34, 2) := by decide +kernel
theorem dX12_nameAhead_48 : decode cX12_nameAhead 48 = .ok (.goto 5, 3) := by decide +kernel
theorem dX12_nameAhead_51 : decode cX12_nameAhead 51 = .ok (.bipush 40, 2) := by decide +kernel
theorem dX12_nameAhead_53 : decode cX12_nameAhead 53 = .ok (.iload_n 1, 1) := by decide +kernel
theorem dX12_nameAhead_54 : decode cX12_nameAhead 54 = .ok (.iadd, 1) := by decide +kernel
theorem dX12_nameAhead_55 : decode cX12_nameAhead 55 = .ok (.iaload, 1) := by decide +kernel
theorem dX12_nameAhead_56 : decode cX12_nameAhead 56 = .ok (.ireturn, 1) := by decide +kernel
theorem dX12_needs_0 : decode cX12_needs 0 = .ok (.aload_n 0, 1) := by decide +kernel
theorem dX12_needs_1 : decode cX12_needs 1 = .ok (.iload_n 1, 1) := by decide +kernel
theorem dX12_needs_2 : decode cX12_needs 2 = .ok (.invokevirtual 84, 3) := by decide +kernel
theorem dX12_needs_5 : decode cX12_needs 5 = .ok (.ifCond .eq 11, 3) := by decide +kernel
theorem dX12_needs_8 : decode cX12_needs 8 = .ok (.aload_n 0, 1) := by decide +kernel
theorem dX12_needs_9 : decode cX12_needs 9 = .ok (.iload_n 2, 1) := by decide +kernel
theorem dX12_needs_10 : decode cX12_needs 10 = .ok (.invokevirtual 92, 3) := by decide +kernel
theorem dX12_needs_13 : decode cX12_needs 13 = .ok (.ifCond .ne 5, 3) := by decide +kernel
theorem dX12_needs_16 : decode cX12_needs 16 = .ok (.iconst (-1), 1) := by decide +kernel
theorem dX12_needs_17 : decode cX12_needs 17 = .ok (.ireturn, 1) := by decide +kernel
theorem dX12_needs_18 : decode cX12_needs 18 = .ok (.iconst 0, 1) := by decide +kernel
theorem dX12_needs_19 : decode cX12_needs 19 = .ok (.istore_n 3, 1) := by decide +kernel
theorem dX12_needs_20 : decode cX12_needs 20 = .ok (.iload_n 3, 1) := by decide +kernel
theorem dX12_needs_21 : decode cX12_needs 21 = .ok (.bipush 9, 2) := by decide +kernel
theorem dX12_needs_23 : decode cX12_needs 23 = .ok (.aload_n 0, 1) := by decide +kernel
theorem dX12_needs_24 : decode cX12_needs 24 = .ok (.getfield 7, 3) := by decide +kernel
theorem dX12_needs_27 : decode cX12_needs 27 = .ok (.bipush 10, 2) := by decide +kernel
theorem dX12_needs_29 : decode cX12_needs 29 = .ok (.iload_n 1, 1) := by decide +kernel
theorem dX12_needs_30 : decode cX12_needs 30 = .ok (.iadd, 1) := by decide +kernel
theorem dX12_needs_31 : decode cX12_needs 31 = .ok (.iaload, 1) := by decide +kernel
theorem dX12_needs_32 : decode cX12_needs 32 = .ok (.isub, 1) := by decide +kernel
theorem dX12_needs_33 : decode cX12_needs 33 = .ok (.if_icmp .gt 89, 3) := by decide +kernel
theorem dX12_needs_36 : decode cX12_needs 36 = .ok (.aload_n 0, 1) := by decide +kernel
theorem dX12_needs_37 : decode cX12_needs 37 = .ok (.invokevirtual 183, 3) := by decide +kernel
theorem dX12_needs_40 : decode cX12_needs 40 = .ok (.aload_n 0, 1) := by decide +kernel
theorem dX12_needs_41 : decode cX12_needs 41 = .ok (.getfield 13, 3) := by decide +kernel
theorem dX12_needs_44 : decode cX12_needs 44 = .ok (.bipush 10, 2) := by decide +kernel
theorem dX12_needs_46 : decode cX12_needs 46 = .ok (.iload_n 1, 1) := by decide +kernel
theorem dX12_needs_47 : decode cX12_needs 47 = .ok (.iadd, 1) := by decide +kernel
theorem dX12_needs_48 : decode cX12_needs 48 = .ok (.dup2, 1) := by decide +kernel
theorem dX12_needs_49 : decode cX12_needs 49 = .ok (.iaload, 1) := by decide +kernel
theorem dX12_needs_50 : decode cX12_needs 50 = .ok (.iload_n 3, 1) := by decide +kernel
theorem dX12_needs_51 : decode cX12_needs 51 = .ok (.iadd, 1) := by decide +kernel
theorem dX12_needs_52 : decode cX12_needs 52 = .ok (.iastore, 1) := by decide +kernel
theorem dX12_needs_53 : decode cX12_needs 53 = .ok (.aload_n 0, 1) := by decide +kernel
theorem dX12_needs_54 : decode cX12_needs 54 = .ok (.aload_n 0, 1) := by decide +kernel
theorem dX12_needs_55 : decode cX12_needs 55 = .ok (.getfield 13, 3) := by decide +kernel
theorem dX12_needs_58 : decode cX12_needs 58 = .ok (.aload_n 0, 1) := by decide +kernel
theorem dX12_needs_59 : decode cX12_needs 59 = .ok (.getfield 13, 3) := by decide +kernel
theorem dX12_needs_62 : decode cX12_needs 62 = .ok (.iconst 2, 1) := by decide +kernel
theorem dX12_needs_63 : decode cX12_needs 63 = .ok (.iaload, 1) := by decide +kernel
theorem dX12_needs_64 : decode cX12_needs 64 = .ok (.invokevirtual 70, 3) := by decide +kernel
theorem dX12_needs_67 : decode cX12_needs 67 = .ok (.aload_n 0, 1) := by decide +kernel
theorem dX12_needs_68 : decode cX12_needs 68 = .ok (.aload_n 0, 1) := by decide +kernel
theorem dX12_needs_69 : decode cX12_needs 69 = .ok (.getfield 13, 3) := by decide +kernel
theorem dX12_needs_72 : decode cX12_needs 72 = .ok (.invokevirtual 74, 3) := by decide +kernel
theorem dX12_needs_75 : decode cX12_needs 75 = .ok (.istore 4, 2) := by decide +kernel
theorem dX12_needs_77 : decode cX12_needs 77 = .ok (.aload_n 0, 1) := by decide +kernel
theorem dX12_needs_78 : decode cX12_needs 78 = .ok (.getfield 41, 3) := by decide +kernel
theorem dX12_needs_81 : decode cX12_needs 81 = .ok (.iload_n 1, 1) := by decide +kernel
theorem dX12_needs_82 : decode cX12_needs 82 = .ok (.iaload, 1) := by decide +kernel
theorem dX12_needs_83 : decode cX12_needs 83 = .ok (.bipush (-4), 2) := by decide +kernel
theorem dX12_needs_85 : decode cX12_needs 85 = .ok (.if_icmp .eq 31, 3) := by decide +kernel
theorem dX12_needs_88 : decode cX12_needs 88 = .ok (.aload_n 0, 1) := by decide +kernel
theorem dX12_needs_89 : decode cX12_needs 89 = .ok (.getfield 7, 3) := by decide +kernel
theorem dX12_needs_92 : decode cX12_needs 92 = .ok (.iload_n 1, 1) := by decide +kernel
theorem dX12_needs_93 : decode cX12_needs 93 = .ok (.aload_n 0, 1) := by decide +kernel
theorem dX12_needs_94 : decode cX12_needs 94 = .ok (.getfield 41, 3) := by decide +kernel
theorem dX12_needs_97 : decode cX12_needs 97 = .ok (.iload_n 1, 1) := by decide +kernel
theorem dX12_needs_98 : decode cX12_needs 98 = .ok (.iaload, 1) := by decide +kernel
theorem dX12_needs_99 : decode cX12_needs 99 = .ok (.invokestatic 67, 3) := by decide +kernel
theorem dX12_needs_102 : decode cX12_needs 102 = .ok (.aload_n 0, 1) := by decide +kernel
theorem dX12_needs_103 : decode cX12_needs 103 = .ok (.getfield 7, 3) := by decide +kernel
theorem dX12_needs_106 : decode cX12_needs 106 = .ok (.iload_n 1, 1) := by decide +kernel
theorem dX12_needs_107 : decode cX12_needs 107 = .ok (.iload_n 2, 1) := by decide +kernel
theorem dX12_needs_108 : decode cX12_needs 108 = .ok (.invokestatic 67, 3) := by decide +kernel
theorem dX12_needs_111 : decode cX12_needs 111 = .ok (.if_icmp .lt 5, 3) := by decide +kernel
theorem dX12_needs_114 : decode cX12_needs 114 = .ok (.iload_n 3, 1) := by decide +kernel
theorem dX12_needs_115 : decode cX12_needs 115 = .ok (.ireturn, 1) := by decide +kernel
theorem dX12_needs_116 : decode cX12_needs 116 = .ok (.iinc 3 1, 3) := by decide +kernel
theorem dX12_needs_119 : decode cX12_needs 119 = .ok (.goto (-99), 3) := by decide +kernel
theorem dX12_needs_122 : decode cX12_needs 122 = .ok (.bipush (-4), 2) := by decide +kernel
theorem dX12_needs_124 : decode cX12_needs 124 = .ok (.ireturn, 1) := by decide +kernel
theorem dX12_field_0 : decode cX12_field 0 = .ok (.aload_n 0, 1) := by decide +kernel
theorem dX12_field_1 : decode cX12_field 1 = .ok (.iload_n 1, 1) := by decide +kernel
theorem dX12_field_2 : decode cX12_field 2 = .ok (.invokevirtual 84, 3) := by decide +kernel
theorem dX12_field_5 : decode cX12_field 5 = .ok (.ifCond .ne 5, 3) := by decide +kernel
theorem dX12_field_8 : decode cX12_field 8 = .ok (.iconst (-1), 1) := by decide +kernel
theorem dX12_field_9 : decode cX12_field 9 = .ok (.ireturn, 1) := by decide +kernel
theorem dX12_field_10 : decode cX12_field 10 = .ok (.iconst 0, 1) := by decide +kernel
theorem dX12_field_11 : decode cX12_field 11 = .ok (.istore_n 2, 1) := by decide +kernel
theorem dX12_field_12 : decode cX12_field 12 = .ok (.ldc 193, 2) := by decide +kernel
theorem dX12_field_14 : decode cX12_field 14 = .ok (.istore_n 3, 1) := by decide +kernel
theorem dX12_field_15 : decode cX12_field 15 = .ok (.iconst 0, 1) := by decide +kernel
theorem dX12_field_16 : decode cX12_field 16 = .ok (.istore 4, 2) := by decide +kernel
theorem dX12_field_18 : decode cX12_field 18 = .ok (.iload 4, 2) := by decide +kernel
theorem dX12_field_20 : decode cX12_field 20 = .ok (.bipush 21, 2) := by decide +kernel
theorem dX12_field_22 : decode cX12_field 22 = .ok (.if_icmp .ge 87, 3) := by decide +kernel
theorem dX12_field_25 : decode cX12_field 25 = .ok (.aload_n 0, 1) := by decide +kernel
theorem dX12_field_26 : decode cX12_field 26 = .ok (.aload_n 0, 1) := by decide +kernel
theorem dX12_field_27 : decode cX12_field 27 = .ok (.getfield 7, 3) := by decide +kernel
theorem dX12_field_30 : decode cX12_field 30 = .ok (.iload 4, 2) := by decide +kernel
theorem dX12_field_32 : decode cX12_field 32 = .ok (.invokevirtual 70, 3) := by decide +kernel
theorem dX12_field_35 : decode cX12_field 35 = .ok (.aload_n 0, 1) := by decide +kernel
theorem dX12_field_36 : decode cX12_field 36 = .ok (.aload_n 0, 1) := by decide +kernel
theorem dX12_field_37 : decode cX12_field 37 = .ok (.getfield 7, 3) := by decide +kernel
theorem dX12_field_40 : decode cX12_field 40 = .ok (.invokevirtual 74, 3) := by decide +kernel
theorem dX12_field_43 : decode cX12_field 43 = .ok (.istore 5, 2) := by decide +kernel
theorem dX12_field_45 : decode cX12_field 45 = .ok (.aload_n 0, 1) := by decide +kernel
theorem dX12_field_46 : decode cX12_field 46 = .ok (.getfield 41, 3) := by decide +kernel
theorem dX12_field_49 : decode cX12_field 49 = .ok (.iload_n 1, 1) := by decide +kernel
theorem dX12_field_50 : decode cX12_field 50 = .ok (.iaload, 1) := by decide +kernel
theorem dX12_field_51 : decode cX12_field 51 = .ok (.bipush (-4), 2) := by decide +kernel
theorem dX12_field_53 : decode cX12_field 53 = .ok (.if_icmp .ne 8, 3) := by decide +kernel
theorem dX12_field_56 : decode cX12_field 56 = .ok (.ldc 193, 2) := by decide +kernel
theorem dX12_field_58 : decode cX12_field 58 = .ok (.goto 17, 3) := by decide +kernel
theorem dX12_field_61 : decode cX12_field 61 = .ok (.aload_n 0, 1) := by decide +kernel
theorem dX12_field_62 : decode cX12_field 62 = .ok (.getfield 7, 3) := by decide +kernel
theorem dX12_field_65 : decode cX12_field 65 = .ok (.iload_n 1, 1) := by decide +kernel
theorem dX12_field_66 : decode cX12_field 66 = .ok (.aload_n 0, 1) := by decide +kernel
theorem dX12_field_67 : decode cX12_field 67 = .ok (.getfield 41, 3) := by decide +kernel
theorem dX12_field_70 : decode cX12_field 70 = .ok (.iload_n 1, 1) := by decide +kernel
theorem dX12_field_71 : decode cX12_field 71 = .ok (.iaload, 1) := by decide +kernel
theorem dX12_field_72 : decode cX12_field 72 = .ok (.invokestatic 67, 3) := by decide +kernel
theorem dX12_field_75 : decode cX12_field 75 = .ok (.istore 6, 2) := by decide +kernel
theorem dX12_field_77 : decode cX12_field 77 = .ok (.iload 6, 2) := by decide +kernel
theorem dX12_field_79 : decode cX12_field 79 = .ok (.iload_n 3, 1) := by decide +kernel
theorem dX12_field_80 : decode cX12_field 80 = .ok (.if_icmp .le 8, 3) := by decide +kernel
theorem dX12_field_83 : decode cX12_field 83 = .ok (.iload 4, 2) := by decide +kernel
theorem dX12_field_85 : decode cX12_field 85 = .ok (.goto 4, 3) := by decide +kernel
theorem dX12_field_88 : decode cX12_field 88 = .ok (.iload_n 2, 1) := by decide +kernel
theorem dX12_field_89 : decode cX12_field 89 = .ok (.istore_n 2, 1) := by decide +kernel
theorem dX12_field_90 : decode cX12_field 90 = .ok (.iload 6, 2) := by decide +kernel
theorem dX12_field_92 : decode cX12_field 92 = .ok (.iload_n 3, 1) := by decide +kernel
theorem dX12_field_93 : decode cX12_field 93 = .ok (.if_icmp .le 8, 3) := by decide +kernel
theorem dX12_field_96 : decode cX12_field 96 = .ok (.iload 6, 2) := by decide +kernel
theorem dX12_field_98 : decode cX12_field 98 = .ok (.goto 4, 3) := by decide +kernel
theorem dX12_field_101 : decode cX12_field 101 = .ok (.iload_n 3, 1) := by decide +kernel
theorem dX12_field_102 : decode cX12_field 102 = .ok (.istore_n 3, 1) := by decide +kernel
theorem dX12_field_103 : decode cX12_field 103 = .ok (.iinc 4 1, 3) := by decide +kernel
theorem dX12_field_106 : decode cX12_field 106 = .ok (.goto (-88), 3) := by decide +kernel
theorem dX12_field_109 : decode cX12_field 109 = .ok (.iload_n 2, 1) := by decide +kernel
theorem dX12_field_110 : decode cX12_field 110 = .ok (.ireturn, 1) := by decide +kernel
theorem dX12_has_0 : decode cX12_has 0 = .ok (.iload_n 3, 1) := by decide +kernel
theorem dX12_has_1 : decode cX12_has 1 = .ok (.aload_n 0, 1) := by decide +kernel
theorem dX12_has_2 : decode cX12_has 2 = .ok (.getfield 7, 3) := by decide +kernel
theorem dX12_has_5 : decode cX12_has 5 = .ok (.iconst 1, 1) := by decide +kernel
theorem dX12_has_6 : decode cX12_has 6 = .ok (.iaload, 1) := by decide +kernel
theorem dX12_has_7 : decode cX12_has 7 = .ok (.if_icmp .ne 17, 3) := by decide +kernel
theorem dX12_has_10 : decode cX12_has 10 = .ok (.aload_n 0, 1) := by decide +kernel
theorem dX12_has_11 : decode cX12_has 11 = .ok (.getfield 44, 3) := by decide +kernel
theorem dX12_has_14 : decode cX12_has 14 = .ok (.bipush 64, 2) := by decide +kernel
theorem dX12_has_16 : decode cX12_has 16 = .ok (.iload_n 1, 1) := by decide +kernel
theorem dX12_has_17 : decode cX12_has 17 = .ok (.iconst 1, 1) := by decide +kernel
theorem dX12_has_18 : decode cX12_has 18 = .ok (.iadd, 1) := by decide +kernel
theorem dX12_has_19 : decode cX12_has 19 = .ok (.imul, 1) := by decide +kernel
theorem dX12_has_20 : decode cX12_has 20 = .ok (.iload_n 2, 1) := by decide +kernel
theorem dX12_has_21 : decode cX12_has 21 = .ok (.iadd, 1) := by decide +kernel
theorem dX12_has_22 : decode cX12_has 22 = .ok (.iaload, 1) := by decide +kernel
theorem dX12_has_23 : decode cX12_has 23 = .ok (.ireturn, 1) := by decide +kernel
theorem dX12_has_24 : decode cX12_has 24 = .ok (.iload_n 2, 1) := by decide +kernel
theorem dX12_has_25 : decode cX12_has 25 = .ok (.iload_n 3, 1) := by decide +kernel
theorem dX12_has_26 : decode cX12_has 26 = .ok (.ishr, 1) := by decide +kernel
theorem dX12_has_27 : decode cX12_has 27 = .ok (.iconst 1, 1) := by decide +kernel
theorem dX12_has_28 : decode cX12_has 28 = .ok (.iand, 1) := by decide +kernel
theorem dX12_has_29 : decode cX12_has 29 = .ok (.iconst 1, 1) := by decide +kernel
theorem dX12_has_30 : decode cX12_has 30 = .ok (.if_icmp .ne 7, 3) := by decide +kernel
theorem dX12_has_33 : decode cX12_has 33 = .ok (.iconst (-1), 1) := by decide +kernel
theorem dX12_has_34 : decode cX12_has 34 = .ok (.goto 33, 3) := by decide +kernel
theorem dX12_has_37 : decode cX12_has 37 = .ok (.aload_n 0, 1) := by decide +kernel
theorem dX12_has_38 : decode cX12_has 38 = .ok (.getfield 7, 3) := by decide +kernel
theorem dX12_has_41 : decode cX12_has 41 = .ok (.iload_n 1, 1) := by decide +kernel
theorem dX12_has_42 : decode cX12_has 42 = .ok (.iload_n 3, 1) := by decide +kernel
theorem dX12_has_43 : decode cX12_has 43 = .ok (.invokestatic 67, 3) := by decide +kernel
theorem dX12_has_46 : decode cX12_has 46 = .ok (.bipush 100, 2) := by decide +kernel
theorem dX12_has_48 : decode cX12_has 48 = .ok (.iadd, 1) := by decide +kernel
theorem dX12_has_49 : decode cX12_has 49 = .ok (.aload_n 0, 1) := by decide +kernel
theorem dX12_has_50 : decode cX12_has 50 = .ok (.getfield 44, 3) := by decide +kernel
theorem dX12_has_53 : decode cX12_has 53 = .ok (.bipush 64, 2) := by decide +kernel
theorem dX12_has_55 : decode cX12_has 55 = .ok (.iload_n 1, 1) := by decide +kernel
theorem dX12_has_56 : decode cX12_has 56 = .ok (.iconst 1, 1) := by decide +kernel
theorem dX12_has_57 : decode cX12_has 57 = .ok (.iadd, 1) := by decide +kernel
theorem dX12_has_58 : decode cX12_has 58 = .ok (.imul, 1) := by decide +kernel
theorem dX12_has_59 : decode cX12_has 59 = .ok (.iload_n 2, 1) := by decide +kernel
theorem dX12_has_60 : decode cX12_has 60 = .ok (.iconst 1, 1) := by decide +kernel
theorem dX12_has_61 : decode cX12_has 61 = .ok (.iload_n 3, 1) := by decide +kernel
theorem dX12_has_62 : decode cX12_has 62 = .ok (.ishl, 1) := by decide +kernel
theorem dX12_has_63 : decode cX12_has 63 = .ok (.ior, 1) := by decide +kernel
theorem dX12_has_64 : decode cX12_has 64 = .ok (.iadd, 1) := by decide +kernel
theorem dX12_has_65 : decode cX12_has 65 = .ok (.iaload, 1) := by decide +kernel
theorem dX12_has_66 : decode cX12_has 66 = .ok (.iadd, 1) := by decide +kernel
theorem dX12_has_67 : decode cX12_has 67 = .ok (.ireturn, 1) := by decide +kernel
theorem dX12_layTable_0 : decode cX12_layTable 0 = .ok (.iconst 0, 1) := by decide +kernel
theorem dX12_layTable_1 : decode cX12_layTable 1 = .ok (.istore_n 1, 1) := by decide +kernel
theorem dX12_layTable_2 : decode cX12_layTable 2 = .ok (.iload_n 1, 1) := by decide +kernel
theorem dX12_layTable_3 : decode cX12_layTable 3 = .ok (.bipush 64, 2) := by decide +kernel
theorem dX12_layTable_5 : decode cX12_layTable 5 = .ok (.if_icmp .ge 26, 3) := by decide +kernel
theorem dX12_layTable_8 : decode cX12_layTable 8 = .ok (.aload_n 0, 1) := by decide +kernel
theorem dX12_layTable_9 : decode cX12_layTable 9 = .ok (.getfield 44, 3) := by decide +kernel
theorem dX12_layTable_12 : decode cX12_layTable 12 = .ok (.bipush 64, 2) := by decide +kernel
theorem dX12_layTable_14 : decode cX12_layTable 14 = .ok (.aload_n 0, 1) := by decide +kernel
theorem dX12_layTable_15 : decode cX12_layTable 15 = .ok (.getfield 7, 3) := by decide +kernel
theorem dX12_layTable_18 : decode cX12_layTable 18 = .ok (.iconst 0, 1) := by decide +kernel
theorem dX12_layTable_19 : decode cX12_layTable 19 = .ok (.iaload, 1) := by decide +kernel
theorem dX12_layTable_20 : decode cX12_layTable 20 = .ok (.imul, 1) := by decide +kernel
theorem dX12_layTable_21 : decode cX12_layTable 21 = .ok (.iload_n 1, 1) := by decide +kernel
theorem dX12_layTable_22 : decode cX12_layTable 22 = .ok (.iadd, 1) := by decide +kernel
theorem dX12_layTable_23 : decode cX12_layTable 23 = .ok (.iconst 0, 1) := by decide +kernel
theorem dX12_layTable_24 : decode cX12_layTable 24 = .ok (.iastore, 1) := by decide +kernel
theorem dX12_layTable_25 : decode cX12_layTable 25 = .ok (.iinc 1 1, 3) := by decide +kernel
theorem dX12_layTable_28 : decode cX12_layTable 28 = .ok (.goto (-26), 3) := by decide +kernel
theorem dX12_layTable_31 : decode cX12_layTable 31 = .ok (.aload_n 0, 1) := by decide +kernel
theorem dX12_layTable_32 : decode cX12_layTable 32 = .ok (.getfield 7, 3) := by decide +kernel
theorem dX12_layTable_35 : decode cX12_layTable 35 = .ok (.iconst 0, 1) := by decide +kernel
theorem dX12_layTable_36 : decode cX12_layTable 36 = .ok (.iaload, 1) := by decide +kernel
theorem dX12_layTable_37 : decode cX12_layTable 37 = .ok (.iconst 1, 1) := by decide +kernel
theorem dX12_layTable_38 : decode cX12_layTable 38 = .ok (.isub, 1) := by decide +kernel
theorem dX12_layTable_39 : decode cX12_layTable 39 = .ok (.istore_n 1, 1) := by decide +kernel
theorem dX12_layTable_40 : decode cX12_layTable 40 = .ok (.iload_n 1, 1) := by decide +kernel
theorem dX12_layTable_41 : decode cX12_layTable 41 = .ok (.ifCond .lt 86, 3) := by decide +kernel
theorem dX12_layTable_44 : decode cX12_layTable 44 = .ok (.iconst 0, 1) := by decide +kernel
theorem dX12_layTable_45 : decode cX12_layTable 45 = .ok (.istore_n 2, 1) := by decide +kernel
theorem dX12_layTable_46 : decode cX12_layTable 46 = .ok (.iload_n 2, 1) := by decide +kernel
theorem dX12_layTable_47 : decode cX12_layTable 47 = .ok (.iconst 1, 1) := by decide +kernel
theorem dX12_layTable_48 : decode cX12_layTable 48 = .ok (.aload_n 0, 1) := by decide +kernel
theorem dX12_layTable_49 : decode cX12_layTable 49 = .ok (.getfield 7, 3) := by decide +kernel
theorem dX12_layTable_52 : decode cX12_layTable 52 = .ok (.iconst 1, 1) := by decide +kernel
theorem dX12_layTable_53 : decode cX12_layTable 53 = .ok (.iaload, 1) := by decide +kernel
theorem dX12_layTable_54 : decode cX12_layTable 54 = .ok (.ishl, 1) := by decide +kernel
theorem dX12_layTable_55 : decode cX12_layTable 55 = .ok (.if_icmp .ge 66, 3) := by decide +kernel
theorem dX12_layTable_58 : decode cX12_layTable 58 = .ok (.iconst 0, 1) := by decide +kernel
theorem dX12_layTable_59 : decode cX12_layTable 59 = .ok (.istore_n 3, 1) := by decide +kernel
theorem dX12_layTable_60 : decode cX12_layTable 60 = .ok (.iconst 0, 1) := by decide +kernel
theorem dX12_layTable_61 : decode cX12_layTable 61 = .ok (.istore 4, 2) := by decide +kernel
theorem dX12_layTable_63 : decode cX12_layTable 63 = .ok (.iload 4, 2) := by decide +kernel
theorem dX12_layTable_65 : decode cX12_layTable 65 = .ok (.aload_n 0, 1) := by decide +kernel
theorem dX12_layTable_66 : decode cX12_layTable 66 = .ok (.getfield 7, 3) := by decide +kernel
theorem dX12_layTable_69 : decode cX12_layTable 69 = .ok (.iconst 1, 1) := by decide +kernel
theorem dX12_layTable_70 : decode cX12_layTable 70 = .ok (.iaload, 1) := by decide +kernel
theorem dX12_layTable_71 : decode cX12_layTable 71 = .ok (.if_icmp .gt 32, 3) := by decide +kernel
theorem dX12_layTable_74 : decode cX12_layTable 74 = .ok (.aload_n 0, 1) := by decide +kernel
theorem dX12_layTable_75 : decode cX12_layTable 75 = .ok (.iload_n 1, 1) := by decide +kernel
theorem dX12_layTable_76 : decode cX12_layTable 76 = .ok (.iload_n 2, 1) := by decide +kernel
theorem dX12_layTable_77 : decode cX12_layTable 77 = .ok (.iload 4, 2) := by decide +kernel
theorem dX12_layTable_79 : decode cX12_layTable 79 = .ok (.invokevirtual 194, 3) := by decide +kernel
theorem dX12_layTable_82 : decode cX12_layTable 82 = .ok (.istore 5, 2) := by decide +kernel
theorem dX12_layTable_84 : decode cX12_layTable 84 = .ok (.iload 5, 2) := by decide +kernel
theorem dX12_layTable_86 : decode cX12_layTable 86 = .ok (.iload_n 3, 1) := by decide +kernel
theorem dX12_layTable_87 : decode cX12_layTable 87 = .ok (.if_icmp .le 8, 3) := by decide +kernel
theorem dX12_layTable_90 : decode cX12_layTable 90 = .ok (.iload 5, 2) := by decide +kernel
theorem dX12_layTable_92 : decode cX12_layTable 92 = .ok (.goto 4, 3) := by decide +kernel
theorem dX12_layTable_95 : decode cX12_layTable 95 = .ok (.iload_n 3, 1) := by decide +kernel
theorem dX12_layTable_96 : decode cX12_layTable 96 = .ok (.istore_n 3, 1) := by decide +kernel
theorem dX12_layTable_97 : decode cX12_layTable 97 = .ok (.iinc 4 1, 3) := by decide +kernel
theorem dX12_layTable_100 : decode cX12_layTable 100 = .ok (.goto (-37), 3) := by decide +kernel
theorem dX12_layTable_103 : decode cX12_layTable 103 = .ok (.aload_n 0, 1) := by decide +kernel
theorem dX12_layTable_104 : decode cX12_layTable 104 = .ok (.getfield 44, 3) := by decide +kernel
theorem dX12_layTable_107 : decode cX12_layTable 107 = .ok (.bipush 64, 2) := by decide +kernel
theorem dX12_layTable_109 : decode cX12_layTable 109 = .ok (.iload_n 1, 1) := by decide +kernel
theorem dX12_layTable_110 : decode cX12_layTable 110 = .ok (.imul, 1) := by decide +kernel
theorem dX12_layTable_111 : decode cX12_layTable 111 = .ok (.iload_n 2, 1) := by decide +kernel
theorem dX12_layTable_112 : decode cX12_layTable 112 = .ok (.iadd, 1) := by decide +kernel
theorem dX12_layTable_113 : decode cX12_layTable 113 = .ok (.iload_n 3, 1) := by decide +kernel
theorem dX12_layTable_114 : decode cX12_layTable 114 = .ok (.iastore, 1) := by decide +kernel
theorem dX12_layTable_115 : decode cX12_layTable 115 = .ok (.iinc 2 1, 3) := by decide +kernel
theorem dX12_layTable_118 : decode cX12_layTable 118 = .ok (.goto (-72), 3) := by decide +kernel
theorem dX12_layTable_121 : decode cX12_layTable 121 = .ok (.iinc 1 (-1), 3) := by decide +kernel
theorem dX12_layTable_124 : decode cX12_layTable 124 = .ok (.goto (-84), 3) := by decide +kernel
theorem dX12_layTable_127 : decode cX12_layTable 127 = .ok (.return_, 1) := by decide +kernel
theorem dX12_parting_0 : decode cX12_parting 0 = .ok (.iload_n 1, 1) := by decide +kernel
theorem dX12_parting_1 : decode cX12_parting 1 = .ok (.bipush (-4), 2) := by decide +kernel
theorem dX12_parting_3 : decode cX12_parting 3 = .ok (.if_icmp .eq 13, 3) := by decide +kernel
theorem dX12_parting_6 : decode cX12_parting 6 = .ok (.aload_n 0, 1) := by decide +kernel
theorem dX12_parting_7 : decode cX12_parting 7 = .ok (.iload_n 1, 1) := by decide +kernel
theorem dX12_parting_8 : decode cX12_parting 8 = .ok (.invokevirtual 84, 3) := by decide +kernel
theorem dX12_parting_11 : decode cX12_parting 11 = .ok (.ifCond .ne 5, 3) := by decide +kernel
theorem dX12_parting_14 : decode cX12_parting 14 = .ok (.iconst (-1), 1) := by decide +kernel
theorem dX12_parting_15 : decode cX12_parting 15 = .ok (.ireturn, 1) := by decide +kernel
theorem dX12_parting_16 : decode cX12_parting 16 = .ok (.aload_n 0, 1) := by decide +kernel
theorem dX12_parting_17 : decode cX12_parting 17 = .ok (.invokevirtual 198, 3) := by decide +kernel
theorem dX12_parting_20 : decode cX12_parting 20 = .ok (.iload_n 1, 1) := by decide +kernel
theorem dX12_parting_21 : decode cX12_parting 21 = .ok (.bipush (-4), 2) := by decide +kernel
theorem dX12_parting_23 : decode cX12_parting 23 = .ok (.if_icmp .ne 10, 3) := by decide +kernel
theorem dX12_parting_26 : decode cX12_parting 26 = .ok (.aload_n 0, 1) := by decide +kernel
theorem dX12_parting_27 : decode cX12_parting 27 = .ok (.getfield 44, 3) := by decide +kernel
theorem dX12_parting_30 : decode cX12_parting 30 = .ok (.iconst 0, 1) := by decide +kernel
theorem dX12_parting_31 : decode cX12_parting 31 = .ok (.iaload, 1) := by decide +kernel
theorem dX12_parting_32 : decode cX12_parting 32 = .ok (.ireturn, 1) := by decide +kernel
theorem dX12_parting_33 : decode cX12_parting 33 = .ok (.iconst 0, 1) := by decide +kernel
theorem dX12_parting_34 : decode cX12_parting 34 = .ok (.istore_n 2, 1) := by decide +kernel
theorem dX12_parting_35 : decode cX12_parting 35 = .ok (.iconst 0, 1) := by decide +kernel
theorem dX12_parting_36 : decode cX12_parting 36 = .ok (.istore_n 3, 1) := by decide +kernel
theorem dX12_parting_37 : decode cX12_parting 37 = .ok (.iconst 0, 1) := by decide +kernel
theorem dX12_parting_38 : decode cX12_parting 38 = .ok (.istore 4, 2) := by decide +kernel
theorem dX12_parting_40 : decode cX12_parting 40 = .ok (.iload 4, 2) := by decide +kernel
theorem dX12_parting_42 : decode cX12_parting 42 = .ok (.iload_n 1, 1) := by decide +kernel
theorem dX12_parting_43 : decode cX12_parting 43 = .ok (.if_icmp .gt 60, 3) := by decide +kernel
theorem dX12_parting_46 : decode cX12_parting 46 = .ok (.iconst 0, 1) := by decide +kernel
theorem dX12_parting_47 : decode cX12_parting 47 = .ok (.istore_n 3, 1) := by decide +kernel
theorem dX12_parting_48 : decode cX12_parting 48 = .ok (.aload_n 0, 1) := by decide +kernel
theorem dX12_parting_49 : decode cX12_parting 49 = .ok (.iload 4, 2) := by decide +kernel
theorem dX12_parting_51 : decode cX12_parting 51 = .ok (.iload_n 2, 1) := by decide +kernel
theorem dX12_parting_52 : decode cX12_parting 52 = .ok (.iload_n 3, 1) := by decide +kernel
theorem dX12_parting_53 : decode cX12_parting 53 = .ok (.invokevirtual 194, 3) := by decide +kernel
theorem dX12_parting_56 : decode cX12_parting 56 = .ok (.aload_n 0, 1) := by decide +kernel
theorem dX12_parting_57 : decode cX12_parting 57 = .ok (.getfield 44, 3) := by decide +kernel
theorem dX12_parting_60 : decode cX12_parting 60 = .ok (.bipush 64, 2) := by decide +kernel
theorem dX12_parting_62 : decode cX12_parting 62 = .ok (.iload 4, 2) := by decide +kernel
theorem dX12_parting_64 : decode cX12_parting 64 = .ok (.imul, 1) := by decide +kernel
theorem dX12_parting_65 : decode cX12_parting 65 = .ok (.iload_n 2, 1) := by decide +kernel
theorem dX12_parting_66 : decode cX12_parting 66 = .ok (.iadd, 1) := by decide +kernel
theorem dX12_parting_67 : decode cX12_parting 67 = .ok (.iaload, 1) := by decide +kernel
theorem dX12_parting_68 : decode cX12_parting 68 = .ok (.if_icmp .eq 9, 3) := by decide +kernel
theorem dX12_parting_71 : decode cX12_parting 71 = .ok (.iinc 3 1, 3) := by decide +kernel
theorem dX12_parting_74 : decode cX12_parting 74 = .ok (.goto (-26), 3) := by decide +kernel
theorem dX12_parting_77 : decode cX12_parting 77 = .ok (.iload_n 2, 1) := by decide +kernel
theorem dX12_parting_78 : decode cX12_parting 78 = .ok (.iload_n 3, 1) := by decide +kernel
theorem dX12_parting_79 : decode cX12_parting 79 = .ok (.aload_n 0, 1) := by decide +kernel
theorem dX12_parting_80 : decode cX12_parting 80 = .ok (.getfield 7, 3) := by decide +kernel
theorem dX12_parting_83 : decode cX12_parting 83 = .ok (.iconst 1, 1) := by decide +kernel
theorem dX12_parting_84 : decode cX12_parting 84 = .ok (.iaload, 1) := by decide +kernel
theorem dX12_parting_85 : decode cX12_parting 85 = .ok (.if_icmp .ne 7, 3) := by decide +kernel
theorem dX12_parting_88 : decode cX12_parting 88 = .ok (.iconst 0, 1) := by decide +kernel
theorem dX12_parting_89 : decode cX12_parting 89 = .ok (.goto 6, 3) := by decide +kernel
theorem dX12_parting_92 : decode cX12_parting 92 = .ok (.iconst 1, 1) := by decide +kernel
theorem dX12_parting_93 : decode cX12_parting 93 = .ok (.iload_n 3, 1) := by decide +kernel
theorem dX12_parting_94 : decode cX12_parting 94 = .ok (.ishl, 1) := by decide +kernel
theorem dX12_parting_95 : decode cX12_parting 95 = .ok (.ior, 1) := by decide +kernel
theorem dX12_parting_96 : decode cX12_parting 96 = .ok (.istore_n 2, 1) := by decide +kernel
theorem dX12_parting_97 : decode cX12_parting 97 = .ok (.iinc 4 1, 3) := by decide +kernel
theorem dX12_parting_100 : decode cX12_parting 100 = .ok (.goto (-60), 3) := by decide +kernel
theorem dX12_parting_103 : decode cX12_parting 103 = .ok (.iload_n 3, 1) := by decide +kernel
theorem dX12_parting_104 : decode cX12_parting 104 = .ok (.aload_n 0, 1) := by decide +kernel
theorem dX12_parting_105 : decode cX12_parting 105 = .ok (.getfield 7, 3) := by decide +kernel
theorem dX12_parting_108 : decode cX12_parting 108 = .ok (.iconst 1, 1) := by decide +kernel
theorem dX12_parting_109 : decode cX12_parting 109 = .ok (.iaload, 1) := by decide +kernel
theorem dX12_parting_110 : decode cX12_parting 110 = .ok (.if_icmp .ne 8, 3) := by decide +kernel
theorem dX12_parting_113 : decode cX12_parting 113 = .ok (.bipush (-4), 2) := by decide +kernel
theorem dX12_parting_115 : decode cX12_parting 115 = .ok (.goto 4, 3) := by decide +kernel
theorem dX12_parting_118 : decode cX12_parting 118 = .ok (.iload_n 3, 1) := by decide +kernel
theorem dX12_parting_119 : decode cX12_parting 119 = .ok (.ireturn, 1) := by decide +kernel
theorem dX12_change_0 : decode cX12_change 0 = .ok (.iload_n 1, 1) := by decide +kernel
theorem dX12_change_1 : decode cX12_change 1 = .ok (.iconst (-1), 1) := by decide +kernel
theorem dX12_change_2 : decode cX12_change 2 = .ok (.if_icmp .ge 5, 3) := by decide +kernel
theorem dX12_change_5 : decode cX12_change 5 = .ok (.iconst (-1), 1) := by decide +kernel
theorem dX12_change_6 : decode cX12_change 6 = .ok (.ireturn, 1) := by decide +kernel
theorem dX12_change_7 : decode cX12_change 7 = .ok (.iconst 0, 1) := by decide +kernel
theorem dX12_change_8 : decode cX12_change 8 = .ok (.istore_n 2, 1) := by decide +kernel
theorem dX12_change_9 : decode cX12_change 9 = .ok (.bipush (-4), 2) := by decide +kernel
theorem dX12_change_11 : decode cX12_change 11 = .ok (.istore_n 3, 1) := by decide +kernel
theorem dX12_change_12 : decode cX12_change 12 = .ok (.iconst 0, 1) := by decide +kernel
theorem dX12_change_13 : decode cX12_change 13 = .ok (.istore 4, 2) := by decide +kernel
theorem dX12_change_15 : decode cX12_change 15 = .ok (.iload 4, 2) := by decide +kernel
theorem dX12_change_17 : decode cX12_change 17 = .ok (.aload_n 0, 1) := by decide +kernel
theorem dX12_change_18 : decode cX12_change 18 = .ok (.getfield 7, 3) := by decide +kernel
theorem dX12_change_21 : decode cX12_change 21 = .ok (.iconst 0, 1) := by decide +kernel
theorem dX12_change_22 : decode cX12_change 22 = .ok (.iaload, 1) := by decide +kernel
theorem dX12_change_23 : decode cX12_change 23 = .ok (.if_icmp .ge 163, 3) := by decide +kernel
theorem dX12_change_26 : decode cX12_change 26 = .ok (.iload 4, 2) := by decide +kernel
theorem dX12_change_28 : decode cX12_change 28 = .ok (.iconst 1, 1) := by decide +kernel
theorem dX12_change_29 : decode cX12_change 29 = .ok (.iadd, 1) := by decide +kernel
theorem dX12_change_30 : decode cX12_change 30 = .ok (.istore 5, 2) := by decide +kernel
theorem dX12_change_32 : decode cX12_change 32 = .ok (.iload 5, 2) := by decide +kernel
theorem dX12_change_34 : decode cX12_change 34 = .ok (.aload_n 0, 1) := by decide +kernel
theorem dX12_change_35 : decode cX12_change 35 = .ok (.getfield 7, 3) := by decide +kernel
theorem dX12_change_38 : decode cX12_change 38 = .ok (.iconst 0, 1) := by decide +kernel
theorem dX12_change_39 : decode cX12_change 39 = .ok (.iaload, 1) := by decide +kernel
theorem dX12_change_40 : decode cX12_change 40 = .ok (.if_icmp .ge 140, 3) := by decide +kernel
theorem dX12_change_43 : decode cX12_change 43 = .ok (.aload_n 0, 1) := by decide +kernel
theorem dX12_change_44 : decode cX12_change 44 = .ok (.getfield 7, 3) := by decide +kernel
theorem dX12_change_47 : decode cX12_change 47 = .ok (.bipush 28, 2) := by decide +kernel
theorem dX12_change_49 : decode cX12_change 49 = .ok (.iload 4, 2) := by decide +kernel
theorem dX12_change_51 : decode cX12_change 51 = .ok (.iadd, 1) := by decide +kernel
theorem dX12_change_52 : decode cX12_change 52 = .ok (.iaload, 1) := by decide +kernel
theorem dX12_change_53 : decode cX12_change 53 = .ok (.istore 6, 2) := by decide +kernel
theorem dX12_change_55 : decode cX12_change 55 = .ok (.aload_n 0, 1) := by decide +kernel
theorem dX12_change_56 : decode cX12_change 56 = .ok (.getfield 7, 3) := by decide +kernel
theorem dX12_change_59 : decode cX12_change 59 = .ok (.bipush 28, 2) := by decide +kernel
theorem dX12_change_61 : decode cX12_change 61 = .ok (.iload 5, 2) := by decide +kernel
theorem dX12_change_63 : decode cX12_change 63 = .ok (.iadd, 1) := by decide +kernel
theorem dX12_change_64 : decode cX12_change 64 = .ok (.iaload, 1) := by decide +kernel
theorem dX12_change_65 : decode cX12_change 65 = .ok (.istore 7, 2) := by decide +kernel
theorem dX12_change_67 : decode cX12_change 67 = .ok (.iload 6, 2) := by decide +kernel
theorem dX12_change_69 : decode cX12_change 69 = .ok (.bipush (-4), 2) := by decide +kernel
theorem dX12_change_71 : decode cX12_change 71 = .ok (.if_icmp .eq 64, 3) := by decide +kernel
theorem dX12_change_74 : decode cX12_change 74 = .ok (.iload 7, 2) := by decide +kernel
theorem dX12_change_76 : decode cX12_change 76 = .ok (.bipush (-4), 2) := by decide +kernel
theorem dX12_change_78 : decode cX12_change 78 = .ok (.if_icmp .eq 57, 3) := by decide +kernel
theorem dX12_change_81 : decode cX12_change 81 = .ok (.aload_n 0, 1) := by decide +kernel
theorem dX12_change_82 : decode cX12_change 82 = .ok (.getfield 7, 3) := by decide +kernel
theorem dX12_change_85 : decode cX12_change 85 = .ok (.iload 4, 2) := by decide +kernel
theorem dX12_change_87 : decode cX12_change 87 = .ok (.iload 7, 2) := by decide +kernel
theorem dX12_change_89 : decode cX12_change 89 = .ok (.invokestatic 67, 3) := by decide +kernel
theorem dX12_change_92 : decode cX12_change 92 = .ok (.aload_n 0, 1) := by decide +kernel
theorem dX12_change_93 : decode cX12_change 93 = .ok (.getfield 7, 3) := by decide +kernel
theorem dX12_change_96 : decode cX12_change 96 = .ok (.iload 4, 2) := by decide +kernel
theorem dX12_change_98 : decode cX12_change 98 = .ok (.iload 6, 2) := by decide +kernel
theorem dX12_change_100 : decode cX12_change 100 = .ok (.invokestatic 67, 3) := by decide +kernel
theorem dX12_change_103 : decode cX12_change 103 = .ok (.if_icmp .le 32, 3) := by decide +kernel
theorem dX12_change_106 : decode cX12_change 106 = .ok (.aload_n 0, 1) := by decide +kernel
theorem dX12_change_107 : decode cX12_change 107 = .ok (.getfield 7, 3) := by decide +kernel
theorem dX12_change_110 : decode cX12_change 110 = .ok (.iload 5, 2) := by decide +kernel
theorem dX12_change_112 : decode cX12_change 112 = .ok (.iload 6, 2) := by decide +kernel
theorem dX12_change_114 : decode cX12_change 114 = .ok (.invokestatic 67, 3) := by decide +kernel
theorem dX12_change_117 : decode cX12_change 117 = .ok (.aload_n 0, 1) := by decide +kernel
theorem dX12_change_118 : decode cX12_change 118 = .ok (.getfield 7, 3) := by decide +kernel
theorem dX12_change_121 : decode cX12_change 121 = .ok (.iload 5, 2) := by decide +kernel
theorem dX12_change_123 : decode cX12_change 123 = .ok (.iload 7, 2) := by decide +kernel
theorem dX12_change_125 : decode cX12_change 125 = .ok (.invokestatic 67, 3) := by decide +kernel
theorem dX12_change_128 : decode cX12_change 128 = .ok (.if_icmp .le 7, 3) := by decide +kernel
theorem dX12_change_131 : decode cX12_change 131 = .ok (.iconst 1, 1) := by decide +kernel
theorem dX12_change_132 : decode cX12_change 132 = .ok (.goto 4, 3) := by decide +kernel
theorem dX12_change_135 : decode cX12_change 135 = .ok (.iconst 0, 1) := by decide +kernel
theorem dX12_change_136 : decode cX12_change 136 = .ok (.istore 8, 2) := by decide +kernel
theorem dX12_change_138 : decode cX12_change 138 = .ok (.iload 8, 2) := by decide +kernel
theorem dX12_change_140 : decode cX12_change 140 = .ok (.ifCond .eq 19, 3) := by decide +kernel
theorem dX12_change_143 : decode cX12_change 143 = .ok (.iload_n 2, 1) := by decide +kernel
theorem dX12_change_144 : decode cX12_change 144 = .ok (.iload_n 1, 1) := by decide +kernel
theorem dX12_change_145 : decode cX12_change 145 = .ok (.if_icmp .ne 14, 3) := by decide +kernel
theorem dX12_change_148 : decode cX12_change 148 = .ok (.bipush 10, 2) := by decide +kernel
theorem dX12_change_150 : decode cX12_change 150 = .ok (.iload 4, 2) := by decide +kernel
theorem dX12_change_152 : decode cX12_change 152 = .ok (.imul, 1) := by decide +kernel
theorem dX12_change_153 : decode cX12_change 153 = .ok (.iload 5, 2) := by decide +kernel
theorem dX12_change_155 : decode cX12_change 155 = .ok (.iadd, 1) := by decide +kernel
theorem dX12_change_156 : decode cX12_change 156 = .ok (.goto 4, 3) := by decide +kernel
theorem dX12_change_159 : decode cX12_change 159 = .ok (.iload_n 3, 1) := by decide +kernel
theorem dX12_change_160 : decode cX12_change 160 = .ok (.istore_n 3, 1) := by decide +kernel
theorem dX12_change_161 : decode cX12_change 161 = .ok (.iload_n 2, 1) := by decide +kernel
theorem dX12_change_162 : decode cX12_change 162 = .ok (.iload 8, 2) := by decide +kernel
theorem dX12_change_164 : decode cX12_change 164 = .ok (.ifCond .eq 7, 3) := by decide +kernel
theorem dX12_change_167 : decode cX12_change 167 = .ok (.iconst 1, 1) := by decide +kernel
theorem dX12_change_168 : decode cX12_change 168 = .ok (.goto 4, 3) := by decide +kernel
theorem dX12_change_171 : decode cX12_change 171 = .ok (.iconst 0, 1) := by decide +kernel
theorem dX12_change_172 : decode cX12_change 172 = .ok (.iadd, 1) := by decide +kernel
theorem dX12_change_173 : decode cX12_change 173 = .ok (.istore_n 2, 1) := by decide +kernel
theorem dX12_change_174 : decode cX12_change 174 = .ok (.iinc 5 1, 3) := by decide +kernel
theorem dX12_change_177 : decode cX12_change 177 = .ok (.goto (-145), 3) := by decide +kernel
theorem dX12_change_180 : decode cX12_change 180 = .ok (.iinc 4 1, 3) := by decide +kernel
theorem dX12_change_183 : decode cX12_change 183 = .ok (.goto (-168), 3) := by decide +kernel
theorem dX12_change_186 : decode cX12_change 186 = .ok (.iload_n 1, 1) := by decide +kernel
theorem dX12_change_187 : decode cX12_change 187 = .ok (.iconst (-1), 1) := by decide +kernel
theorem dX12_change_188 : decode cX12_change 188 = .ok (.if_icmp .ne 7, 3) := by decide +kernel
theorem dX12_change_191 : decode cX12_change 191 = .ok (.iload_n 2, 1) := by decide +kernel
theorem dX12_change_192 : decode cX12_change 192 = .ok (.goto 4, 3) := by decide +kernel
theorem dX12_change_195 : decode cX12_change 195 = .ok (.iload_n 3, 1) := by decide +kernel
theorem dX12_change_196 : decode cX12_change 196 = .ok (.ireturn, 1) := by decide +kernel
theorem dX12_luck_0 : decode cX12_luck 0 = .ok (.aload_n 0, 1) := by decide +kernel
theorem dX12_luck_1 : decode cX12_luck 1 = .ok (.iload_n 1, 1) := by decide +kernel
theorem dX12_luck_2 : decode cX12_luck 2 = .ok (.invokevirtual 84, 3) := by decide +kernel
theorem dX12_luck_5 : decode cX12_luck 5 = .ok (.ifCond .eq 24, 3) := by decide +kernel
theorem dX12_luck_8 : decode cX12_luck 8 = .ok (.iload_n 2, 1) := by decide +kernel
theorem dX12_luck_9 : decode cX12_luck 9 = .ok (.bipush (-4), 2) := by decide +kernel
theorem dX12_luck_11 : decode cX12_luck 11 = .ok (.if_icmp .eq 11, 3) := by decide +kernel
theorem dX12_luck_14 : decode cX12_luck 14 = .ok (.aload_n 0, 1) := by decide +kernel
theorem dX12_luck_15 : decode cX12_luck 15 = .ok (.iload_n 2, 1) := by decide +kernel
theorem dX12_luck_16 : decode cX12_luck 16 = .ok (.invokevirtual 92, 3) := by decide +kernel
theorem dX12_luck_19 : decode cX12_luck 19 = .ok (.ifCond .eq 10, 3) := by decide +kernel
theorem dX12_luck_22 : decode cX12_luck 22 = .ok (.iload_n 3, 1) := by decide +kernel
theorem dX12_luck_23 : decode cX12_luck 23 = .ok (.invokestatic 190, 3) := by decide +kernel
theorem dX12_luck_26 : decode cX12_luck 26 = .ok (.ifCond .ne 5, 3) := by decide +kernel
theorem dX12_luck_29 : decode cX12_luck 29 = .ok (.iconst (-1), 1) := by decide +kernel
theorem dX12_luck_30 : decode cX12_luck 30 = .ok (.ireturn, 1) := by decide +kernel
theorem dX12_luck_31 : decode cX12_luck 31 = .ok (.iconst 1, 1) := by decide +kernel
theorem dX12_luck_32 : decode cX12_luck 32 = .ok (.istore 4, 2) := by decide +kernel
theorem dX12_luck_34 : decode cX12_luck 34 = .ok (.iconst 0, 1) := by decide +kernel
theorem dX12_luck_35 : decode cX12_luck 35 = .ok (.istore 5, 2) := by decide +kernel
theorem dX12_luck_37 : decode cX12_luck 37 = .ok (.iload 5, 2) := by decide +kernel
theorem dX12_luck_39 : decode cX12_luck 39 = .ok (.aload_n 0, 1) := by decide +kernel
theorem dX12_luck_40 : decode cX12_luck 40 = .ok (.getfield 7, 3) := by decide +kernel
theorem dX12_luck_43 : decode cX12_luck 43 = .ok (.iconst 0, 1) := by decide +kernel
theorem dX12_luck_44 : decode cX12_luck 44 = .ok (.iaload, 1) := by decide +kernel
theorem dX12_luck_45 : decode cX12_luck 45 = .ok (.if_icmp .ge 15, 3) := by decide +kernel
theorem dX12_luck_48 : decode cX12_luck 48 = .ok (.iload 4, 2) := by decide +kernel
theorem dX12_luck_50 : decode cX12_luck 50 = .ok (.iconst 3, 1) := by decide +kernel
theorem dX12_luck_51 : decode cX12_luck 51 = .ok (.imul, 1) := by decide +kernel
theorem dX12_luck_52 : decode cX12_luck 52 = .ok (.istore 4, 2) := by decide +kernel
theorem dX12_luck_54 : decode cX12_luck 54 = .ok (.iinc 5 1, 3) := by decide +kernel
theorem dX12_luck_57 : decode cX12_luck 57 = .ok (.goto (-20), 3) := by decide +kernel
theorem dX12_luck_60 : decode cX12_luck 60 = .ok (.iconst 0, 1) := by decide +kernel
theorem dX12_luck_61 : decode cX12_luck 61 = .ok (.istore 5, 2) := by decide +kernel
theorem dX12_luck_63 : decode cX12_luck 63 = .ok (.iconst 0, 1) := by decide +kernel
theorem dX12_luck_64 : decode cX12_luck 64 = .ok (.istore 6, 2) := by decide +kernel
theorem dX12_luck_66 : decode cX12_luck 66 = .ok (.iload 6, 2) := by decide +kernel
theorem dX12_luck_68 : decode cX12_luck 68 = .ok (.iload 4, 2) := by decide +kernel
theorem dX12_luck_70 : decode cX12_luck 70 = .ok (.if_icmp .ge 97, 3) := by decide +kernel
theorem dX12_luck_73 : decode cX12_luck 73 = .ok (.aload_n 0, 1) := by decide +kernel
theorem dX12_luck_74 : decode cX12_luck 74 = .ok (.aload_n 0, 1) := by decide +kernel
theorem dX12_luck_75 : decode cX12_luck 75 = .ok (.getfield 7, 3) := by decide +kernel
theorem dX12_luck_78 : decode cX12_luck 78 = .ok (.aload_n 0, 1) := by decide +kernel
theorem dX12_luck_79 : decode cX12_luck 79 = .ok (.getfield 7, 3) := by decide +kernel
theorem dX12_luck_82 : decode cX12_luck 82 = .ok (.iconst 2, 1) := by decide +kernel
theorem dX12_luck_83 : decode cX12_luck 83 = .ok (.iaload, 1) := by decide +kernel
theorem dX12_luck_84 : decode cX12_luck 84 = .ok (.invokevirtual 70, 3) := by decide +kernel
theorem dX12_luck_87 : decode cX12_luck 87 = .ok (.iload 6, 2) := by decide +kernel
theorem dX12_luck_89 : decode cX12_luck 89 = .ok (.istore 7, 2) := by decide +kernel
theorem dX12_luck_91 : decode cX12_luck 91 = .ok (.iconst 0, 1) := by decide +kernel
theorem dX12_luck_92 : decode cX12_luck 92 = .ok (.istore 8, 2) := by decide +kernel
theorem dX12_luck_94 : decode cX12_luck 94 = .ok (.iload 8, 2) := by decide +kernel
theorem dX12_luck_96 : decode cX12_luck 96 = .ok (.aload_n 0, 1) := by decide +kernel
theorem dX12_luck_97 : decode cX12_luck 97 = .ok (.getfield 7, 3) := by decide +kernel
theorem dX12_luck_100 : decode cX12_luck 100 = .ok (.iconst 0, 1) := by decide +kernel
theorem dX12_luck_101 : decode cX12_luck 101 = .ok (.iaload, 1) := by decide +kernel
theorem dX12_luck_102 : decode cX12_luck 102 = .ok (.if_icmp .ge 29, 3) := by decide +kernel
theorem dX12_luck_105 : decode cX12_luck 105 = .ok (.aload_n 0, 1) := by decide +kernel
theorem dX12_luck_106 : decode cX12_luck 106 = .ok (.getfield 35, 3) := by decide +kernel
theorem dX12_luck_109 : decode cX12_luck 109 = .ok (.iload 8, 2) := by decide +kernel
theorem dX12_luck_111 : decode cX12_luck 111 = .ok (.dup2, 1) := by decide +kernel
theorem dX12_luck_112 : decode cX12_luck 112 = .ok (.iaload, 1) := by decide +kernel
theorem dX12_luck_113 : decode cX12_luck 113 = .ok (.iload 7, 2) := by decide +kernel
theorem dX12_luck_115 : decode cX12_luck 115 = .ok (.iconst 3, 1) := by decide +kernel
theorem dX12_luck_116 : decode cX12_luck 116 = .ok (.irem, 1) := by decide +kernel
theorem dX12_luck_117 : decode cX12_luck 117 = .ok (.iadd, 1) := by decide +kernel
theorem dX12_luck_118 : decode cX12_luck 118 = .ok (.iastore, 1) := by decide +kernel
theorem dX12_luck_119 : decode cX12_luck 119 = .ok (.iload 7, 2) := by decide +kernel
theorem dX12_luck_121 : decode cX12_luck 121 = .ok (.iconst 3, 1) := by decide +kernel
theorem dX12_luck_122 : decode cX12_luck 122 = .ok (.idiv, 1) := by decide +kernel
theorem dX12_luck_123 : decode cX12_luck 123 = .ok (.istore 7, 2) := by decide +kernel
theorem dX12_luck_125 : decode cX12_luck 125 = .ok (.iinc 8 1, 3) := by decide +kernel
theorem dX12_luck_128 : decode cX12_luck 128 = .ok (.goto (-34), 3) := by decide +kernel
theorem dX12_luck_131 : decode cX12_luck 131 = .ok (.aload_n 0, 1) := by decide +kernel
theorem dX12_luck_132 : decode cX12_luck 132 = .ok (.aload_n 0, 1) := by decide +kernel
theorem dX12_luck_133 : decode cX12_luck 133 = .ok (.getfield 7, 3) := by decide +kernel
theorem dX12_luck_136 : decode cX12_luck 136 = .ok (.invokevirtual 74, 3) := by decide +kernel
theorem dX12_luck_139 : decode cX12_luck 139 = .ok (.istore 8, 2) := by decide +kernel
theorem dX12_luck_141 : decode cX12_luck 141 = .ok (.iload 5, 2) := by decide +kernel
theorem dX12_luck_143 : decode cX12_luck 143 = .ok (.aload_n 0, 1) := by decide +kernel
theorem dX12_luck_144 : decode cX12_luck 144 = .ok (.getfield 41, 3) := by decide +kernel
theorem dX12_luck_147 : decode cX12_luck 147 = .ok (.iload_n 1, 1) := by decide +kernel
theorem dX12_luck_148 : decode cX12_luck 148 = .ok (.iaload, 1) := by decide +kernel
theorem dX12_luck_149 : decode cX12_luck 149 = .ok (.iload_n 2, 1) := by decide +kernel
theorem dX12_luck_150 : decode cX12_luck 150 = .ok (.if_icmp .ne 7, 3) := by decide +kernel
theorem dX12_luck_153 : decode cX12_luck 153 = .ok (.iconst 1, 1) := by decide +kernel
theorem dX12_luck_154 : decode cX12_luck 154 = .ok (.goto 4, 3) := by decide +kernel
theorem dX12_luck_157 : decode cX12_luck 157 = .ok (.iconst 0, 1) := by decide +kernel
theorem dX12_luck_158 : decode cX12_luck 158 = .ok (.iadd, 1) := by decide +kernel
theorem dX12_luck_159 : decode cX12_luck 159 = .ok (.istore 5, 2) := by decide +kernel
theorem dX12_luck_161 : decode cX12_luck 161 = .ok (.iinc 6 1, 3) := by decide +kernel
theorem dX12_luck_164 : decode cX12_luck 164 = .ok (.goto (-98), 3) := by decide +kernel
theorem dX12_luck_167 : decode cX12_luck 167 = .ok (.iload 5, 2) := by decide +kernel
theorem dX12_luck_169 : decode cX12_luck 169 = .ok (.istore 6, 2) := by decide +kernel
theorem dX12_luck_171 : decode cX12_luck 171 = .ok (.iload 4, 2) := by decide +kernel
theorem dX12_luck_173 : decode cX12_luck 173 = .ok (.istore 7, 2) := by decide +kernel
theorem dX12_luck_175 : decode cX12_luck 175 = .ok (.iload 7, 2) := by decide +kernel
theorem dX12_luck_177 : decode cX12_luck 177 = .ok (.ifCond .eq 21, 3) := by decide +kernel
theorem dX12_luck_180 : decode cX12_luck 180 = .ok (.iload 6, 2) := by decide +kernel
theorem dX12_luck_182 : decode cX12_luck 182 = .ok (.iload 7, 2) := by decide +kernel
theorem dX12_luck_184 : decode cX12_luck 184 = .ok (.irem, 1) := by decide +kernel
theorem dX12_luck_185 : decode cX12_luck 185 = .ok (.istore 8, 2) := by decide +kernel
theorem dX12_luck_187 : decode cX12_luck 187 = .ok (.iload 7, 2) := by decide +kernel
theorem dX12_luck_189 : decode cX12_luck 189 = .ok (.istore 6, 2) := by decide +kernel
theorem dX12_luck_191 : decode cX12_luck 191 = .ok (.iload 8, 2) := by decide +kernel
theorem dX12_luck_193 : decode cX12_luck 193 = .ok (.istore 7, 2) := by decide +kernel
theorem dX12_luck_195 : decode cX12_luck 195 = .ok (.goto (-20), 3) := by decide +kernel
theorem dX12_luck_198 : decode cX12_luck 198 = .ok (.iload_n 3, 1) := by decide +kernel
theorem dX12_luck_199 : decode cX12_luck 199 = .ok (.ifCond .ne 11, 3) := by decide +kernel
theorem dX12_luck_202 : decode cX12_luck 202 = .ok (.iload 5, 2) := by decide +kernel
theorem dX12_luck_204 : decode cX12_luck 204 = .ok (.iload 6, 2) := by decide +kernel
theorem dX12_luck_206 : decode cX12_luck 206 = .ok (.idiv, 1) := by decide +kernel
theorem dX12_luck_207 : decode cX12_luck 207 = .ok (.goto 8, 3) := by decide +kernel
theorem dX12_luck_210 : decode cX12_luck 210 = .ok (.iload 4, 2) := by decide +kernel
theorem dX12_luck_212 : decode cX12_luck 212 = .ok (.iload 6, 2) := by decide +kernel
theorem dX12_luck_214 : decode cX12_luck 214 = .ok (.idiv, 1) := by decide +kernel
theorem dX12_luck_215 : decode cX12_luck 215 = .ok (.ireturn, 1) := by decide +kernel
theorem dX12_top_0 : decode cX12_top 0 = .ok (.aload_n 0, 1) := by decide +kernel
theorem dX12_top_1 : decode cX12_top 1 = .ok (.iload_n 1, 1) := by decide +kernel
theorem dX12_top_2 : decode cX12_top 2 = .ok (.invokevirtual 84, 3) := by decide +kernel
theorem dX12_top_5 : decode cX12_top 5 = .ok (.ifCond .eq 15, 3) := by decide +kernel
theorem dX12_top_8 : decode cX12_top 8 = .ok (.iload_n 2, 1) := by decide +kernel
theorem dX12_top_9 : decode cX12_top 9 = .ok (.i2l, 1) := by decide +kernel
theorem dX12_top_10 : decode cX12_top 10 = .ok (.lconst 1, 1) := by decide +kernel
theorem dX12_top_11 : decode cX12_top 11 = .ok (.ldc2_w 181, 3) := by decide +kernel
theorem dX12_top_14 : decode cX12_top 14 = .ok (.invokestatic 55, 3) := by decide +kernel
theorem dX12_top_17 : decode cX12_top 17 = .ok (.ifCond .ne 5, 3) := by decide +kernel
theorem dX12_top_20 : decode cX12_top 20 = .ok (.iconst (-1), 1) := by decide +kernel
theorem dX12_top_21 : decode cX12_top 21 = .ok (.ireturn, 1) := by decide +kernel
theorem dX12_top_22 : decode cX12_top 22 = .ok (.aload_n 0, 1) := by decide +kernel
theorem dX12_top_23 : decode cX12_top 23 = .ok (.invokevirtual 183, 3) := by decide +kernel
theorem dX12_top_26 : decode cX12_top 26 = .ok (.iconst 0, 1) := by decide +kernel
theorem dX12_top_27 : decode cX12_top 27 = .ok (.istore_n 3, 1) := by decide +kernel
theorem dX12_top_28 : decode cX12_top 28 = .ok (.ldc 193, 2) := by decide +kernel
theorem dX12_top_30 : decode cX12_top 30 = .ok (.istore 4, 2) := by decide +kernel
theorem dX12_top_32 : decode cX12_top 32 = .ok (.iconst 1, 1) := by decide +kernel
theorem dX12_top_33 : decode cX12_top 33 = .ok (.istore 5, 2) := by decide +kernel
theorem dX12_top_35 : decode cX12_top 35 = .ok (.iload 5, 2) := by decide +kernel
theorem dX12_top_37 : decode cX12_top 37 = .ok (.iload_n 2, 1) := by decide +kernel
theorem dX12_top_38 : decode cX12_top 38 = .ok (.if_icmp .gt 65, 3) := by decide +kernel
theorem dX12_top_41 : decode cX12_top 41 = .ok (.aload_n 0, 1) := by decide +kernel
theorem dX12_top_42 : decode cX12_top 42 = .ok (.iconst 1, 1) := by decide +kernel
theorem dX12_top_43 : decode cX12_top 43 = .ok (.invokevirtual 186, 3) := by decide +kernel
theorem dX12_top_46 : decode cX12_top 46 = .ok (.aload_n 0, 1) := by decide +kernel
theorem dX12_top_47 : decode cX12_top 47 = .ok (.getfield 13, 3) := by decide +kernel
theorem dX12_top_50 : decode cX12_top 50 = .ok (.bipush 22, 2) := by decide +kernel
theorem dX12_top_52 : decode cX12_top 52 = .ok (.iload_n 1, 1) := by decide +kernel
theorem dX12_top_53 : decode cX12_top 53 = .ok (.iadd, 1) := by decide +kernel
theorem dX12_top_54 : decode cX12_top 54 = .ok (.iaload, 1) := by decide +kernel
theorem dX12_top_55 : decode cX12_top 55 = .ok (.iload 4, 2) := by decide +kernel
theorem dX12_top_57 : decode cX12_top 57 = .ok (.if_icmp .le 8, 3) := by decide +kernel
theorem dX12_top_60 : decode cX12_top 60 = .ok (.iload 5, 2) := by decide +kernel
theorem dX12_top_62 : decode cX12_top 62 = .ok (.goto 4, 3) := by decide +kernel
theorem dX12_top_65 : decode cX12_top 65 = .ok (.iload_n 3, 1) := by decide +kernel
theorem dX12_top_66 : decode cX12_top 66 = .ok (.istore_n 3, 1) := by decide +kernel
theorem dX12_top_67 : decode cX12_top 67 = .ok (.aload_n 0, 1) := by decide +kernel
theorem dX12_top_68 : decode cX12_top 68 = .ok (.getfield 13, 3) := by decide +kernel
theorem dX12_top_71 : decode cX12_top 71 = .ok (.bipush 22, 2) := by decide +kernel
theorem dX12_top_73 : decode cX12_top 73 = .ok (.iload_n 1, 1) := by decide +kernel
theorem dX12_top_74 : decode cX12_top 74 = .ok (.iadd, 1) := by decide +kernel
theorem dX12_top_75 : decode cX12_top 75 = .ok (.iaload, 1) := by decide +kernel
theorem dX12_top_76 : decode cX12_top 76 = .ok (.iload 4, 2) := by decide +kernel
theorem dX12_top_78 : decode cX12_top 78 = .ok (.if_icmp .le 15, 3) := by decide +kernel
theorem dX12_top_81 : decode cX12_top 81 = .ok (.aload_n 0, 1) := by decide +kernel
theorem dX12_top_82 : decode cX12_top 82 = .ok (.getfield 13, 3) := by decide +kernel
theorem dX12_top_85 : decode cX12_top 85 = .ok (.bipush 22, 2) := by decide +kernel
theorem dX12_top_87 : decode cX12_top 87 = .ok (.iload_n 1, 1) := by decide +kernel
theorem dX12_top_88 : decode cX12_top 88 = .ok (.iadd, 1) := by decide +kernel
theorem dX12_top_89 : decode cX12_top 89 = .ok (.iaload, 1) := by decide +kernel
theorem dX12_top_90 : decode cX12_top 90 = .ok (.goto 5, 3) := by decide +kernel
theorem dX12_top_93 : decode cX12_top 93 = .ok (.iload 4, 2) := by decide +kernel
theorem dX12_top_95 : decode cX12_top 95 = .ok (.istore 4, 2) := by decide +kernel
theorem dX12_top_97 : decode cX12_top 97 = .ok (.iinc 5 1, 3) := by decide +kernel
theorem dX12_top_100 : decode cX12_top 100 = .ok (.goto (-65), 3) := by decide +kernel
theorem dX12_top_103 : decode cX12_top 103 = .ok (.iload_n 3, 1) := by decide +kernel
theorem dX12_top_104 : decode cX12_top 104 = .ok (.ireturn, 1) := by decide +kernel
theorem dX12_image_0 : decode cX12_image 0 = .ok (.aload_n 0, 1) := by decide +kernel
theorem dX12_image_1 : decode cX12_image 1 = .ok (.getfield 7, 3) := by decide +kernel
theorem dX12_image_4 : decode cX12_image 4 = .ok (.iconst 0, 1) := by decide +kernel
theorem dX12_image_5 : decode cX12_image 5 = .ok (.aload_n 0, 1) := by decide +kernel
theorem dX12_image_6 : decode cX12_image 6 = .ok (.getfield 19, 3) := by decide +kernel
theorem dX12_image_9 : decode cX12_image 9 = .ok (.iconst 0, 1) := by decide +kernel
theorem dX12_image_10 : decode cX12_image 10 = .ok (.sipush 352, 3) := by decide +kernel
theorem dX12_image_13 : decode cX12_image 13 = .ok (.invokestatic 152, 3) := by decide +kernel
theorem dX12_image_16 : decode cX12_image 16 = .ok (.aload_n 0, 1) := by decide +kernel
theorem dX12_image_17 : decode cX12_image 17 = .ok (.iconst 1, 1) := by decide +kernel
theorem dX12_image_18 : decode cX12_image 18 = .ok (.putfield 201, 3) := by decide +kernel
theorem dX12_image_21 : decode cX12_image 21 = .ok (.iconst 1, 1) := by decide +kernel
theorem dX12_image_22 : decode cX12_image 22 = .ok (.ireturn, 1) := by decide +kernel
theorem dX12_restore_0 : decode cX12_restore 0 = .ok (.aload_n 0, 1) := by decide +kernel
theorem dX12_restore_1 : decode cX12_restore 1 = .ok (.getfield 201, 3) := by decide +kernel
theorem dX12_restore_4 : decode cX12_restore 4 = .ok (.ifCond .ne 6, 3) := by decide +kernel
theorem dX12_restore_7 : decode cX12_restore 7 = .ok (.bipush (-4), 2) := by decide +kernel
theorem dX12_restore_9 : decode cX12_restore 9 = .ok (.ireturn, 1) := by decide +kernel
theorem dX12_restore_10 : decode cX12_restore 10 = .ok (.aload_n 0, 1) := by decide +kernel
theorem dX12_restore_11 : decode cX12_restore 11 = .ok (.getfield 19, 3) := by decide +kernel
theorem dX12_restore_14 : decode cX12_restore 14 = .ok (.iconst 0, 1) := by decide +kernel
theorem dX12_restore_15 : decode cX12_restore 15 = .ok (.aload_n 0, 1) := by decide +kernel
theorem dX12_restore_16 : decode cX12_restore 16 = .ok (.getfield 7, 3) := by decide +kernel
theorem dX12_restore_19 : decode cX12_restore 19 = .ok (.iconst 0, 1) := by decide +kernel
theorem dX12_restore_20 : decode cX12_restore 20 = .ok (.sipush 352, 3) := by decide +kernel
theorem dX12_restore_23 : decode cX12_restore 23 = .ok (.invokestatic 152, 3) := by decide +kernel
theorem dX12_restore_26 : decode cX12_restore 26 = .ok (.iconst 1, 1) := by decide +kernel
theorem dX12_restore_27 : decode cX12_restore 27 = .ok (.ireturn, 1) := by decide +kernel
theorem dX12_isSheet_0 : decode cX12_isSheet 0 = .ok (.iload_n 0, 1) := by decide +kernel
theorem dX12_isSheet_1 : decode cX12_isSheet 1 = .ok (.i2l, 1) := by decide +kernel
theorem dX12_isSheet_2 : decode cX12_isSheet 2 = .ok (.lconst 0, 1) := by decide +kernel
theorem dX12_isSheet_3 : decode cX12_isSheet 3 = .ok (.ldc2_w 205, 3) := by decide +kernel
theorem dX12_isSheet_6 : decode cX12_isSheet 6 = .ok (.invokestatic 55, 3) := by decide +kernel
theorem dX12_isSheet_9 : decode cX12_isSheet 9 = .ok (.ifCond .eq 19, 3) := by decide +kernel
theorem dX12_isSheet_12 : decode cX12_isSheet 12 = .ok (.iload_n 1, 1) := by decide +kernel
theorem dX12_isSheet_13 : decode cX12_isSheet 13 = .ok (.i2l, 1) := by decide +kernel
theorem dX12_isSheet_14 : decode cX12_isSheet 14 = .ok (.lconst 0, 1) := by decide +kernel
theorem dX12_isSheet_15 : decode cX12_isSheet 15 = .ok (.ldc2_w 205, 3) := by decide +kernel
theorem dX12_isSheet_18 : decode cX12_isSheet 18 = .ok (.invokestatic 55, 3) := by decide +kernel
theorem dX12_isSheet_21 : decode cX12_isSheet 21 = .ok (.ifCond .eq 7, 3) := by decide +kernel
theorem dX12_isSheet_24 : decode cX12_isSheet 24 = .ok (.iconst 1, 1) := by decide +kernel
theorem dX12_isSheet_25 : decode cX12_isSheet 25 = .ok (.goto 4, 3) := by decide +kernel
theorem dX12_isSheet_28 : decode cX12_isSheet 28 = .ok (.iconst 0, 1) := by decide +kernel
theorem dX12_isSheet_29 : decode cX12_isSheet 29 = .ok (.ireturn, 1) := by decide +kernel
theorem dX12_found_0 : decode cX12_found 0 = .ok (.aload_n 0, 1) := by decide +kernel
theorem dX12_found_1 : decode cX12_found 1 = .ok (.getfield 28, 3) := by decide +kernel
theorem dX12_found_4 : decode cX12_found 4 = .ok (.iload_n 1, 1) := by decide +kernel
theorem dX12_found_5 : decode cX12_found 5 = .ok (.iaload, 1) := by decide +kernel
theorem dX12_found_6 : decode cX12_found 6 = .ok (.ifCond .ge 6, 3) := by decide +kernel
theorem dX12_found_9 : decode cX12_found 9 = .ok (.bipush (-11), 2) := by decide +kernel
theorem dX12_found_11 : decode cX12_found 11 = .ok (.ireturn, 1) := by decide +kernel
theorem dX12_found_12 : decode cX12_found 12 = .ok (.aload_n 0, 1) := by decide +kernel
theorem dX12_found_13 : decode cX12_found 13 = .ok (.getfield 25, 3) := by decide +kernel
theorem dX12_found_16 : decode cX12_found 16 = .ok (.iload_n 1, 1) := by decide +kernel
theorem dX12_found_17 : decode cX12_found 17 = .ok (.iaload, 1) := by decide +kernel
theorem dX12_found_18 : decode cX12_found 18 = .ok (.iload_n 2, 1) := by decide +kernel
theorem dX12_found_19 : decode cX12_found 19 = .ok (.if_icmp .eq 6, 3) := by decide +kernel
theorem dX12_found_22 : decode cX12_found 22 = .ok (.bipush (-12), 2) := by decide +kernel
theorem dX12_found_24 : decode cX12_found 24 = .ok (.ireturn, 1) := by decide +kernel
theorem dX12_found_25 : decode cX12_found 25 = .ok (.iload_n 3, 1) := by decide +kernel
theorem dX12_found_26 : decode cX12_found 26 = .ok (.ifCond .lt 20, 3) := by decide +kernel
theorem dX12_found_29 : decode cX12_found 29 = .ok (.iload_n 3, 1) := by decide +kernel
theorem dX12_found_30 : decode cX12_found 30 = .ok (.i2l, 1) := by decide +kernel
theorem dX12_found_31 : decode cX12_found 31 = .ok (.iload 4, 2) := by decide +kernel
theorem dX12_found_33 : decode cX12_found 33 = .ok (.i2l, 1) := by decide +kernel
theorem dX12_found_34 : decode cX12_found 34 = .ok (.ladd, 1) := by decide +kernel
theorem dX12_found_35 : decode cX12_found 35 = .ok (.aload_n 0, 1) := by decide +kernel
theorem dX12_found_36 : decode cX12_found 36 = .ok (.getfield 28, 3) := by decide +kernel
theorem dX12_found_39 : decode cX12_found 39 = .ok (.iload_n 1, 1) := by decide +kernel
theorem dX12_found_40 : decode cX12_found 40 = .ok (.iaload, 1) := by decide +kernel
theorem dX12_found_41 : decode cX12_found 41 = .ok (.i2l, 1) := by decide +kernel
theorem dX12_found_42 : decode cX12_found 42 = .ok (.lcmp, 1) := by decide +kernel
theorem dX12_found_43 : decode cX12_found 43 = .ok (.ifCond .le 8, 3) := by decide +kernel
theorem dX12_found_46 : decode cX12_found 46 = .ok (.bipush (-13), 2) := by decide +kernel
theorem dX12_found_48 : decode cX12_found 48 = .ok (.goto 4, 3) := by decide +kernel
theorem dX12_found_51 : decode cX12_found 51 = .ok (.iconst 0, 1) := by decide +kernel
theorem dX12_found_52 : decode cX12_found 52 = .ok (.ireturn, 1) := by decide +kernel
theorem dX12_cut_0 : decode cX12_cut 0 = .ok (.iload_n 0, 1) := by decide +kernel
theorem dX12_cut_1 : decode cX12_cut 1 = .ok (.ifCond .ne 10, 3) := by decide +kernel
theorem dX12_cut_4 : decode cX12_cut 4 = .ok (.lload_n 1, 1) := by decide +kernel
theorem dX12_cut_5 : decode cX12_cut 5 = .ok (.l2i, 1) := by decide +kernel
theorem dX12_cut_6 : decode cX12_cut 6 = .ok (.i2b, 1) := by decide +kernel
theorem dX12_cut_7 : decode cX12_cut 7 = .ok (.i2l, 1) := by decide +kernel
theorem dX12_cut_8 : decode cX12_cut 8 = .ok (.goto 27, 3) := by decide +kernel
theorem dX12_cut_11 : decode cX12_cut 11 = .ok (.iload_n 0, 1) := by decide +kernel
theorem dX12_cut_12 : decode cX12_cut 12 = .ok (.iconst 1, 1) := by decide +kernel
theorem dX12_cut_13 : decode cX12_cut 13 = .ok (.if_icmp .ne 10, 3) := by decide +kernel
theorem dX12_cut_16 : decode cX12_cut 16 = .ok (.lload_n 1, 1) := by decide +kernel
theorem dX12_cut_17 : decode cX12_cut 17 = .ok (.l2i, 1) := by decide +kernel
theorem dX12_cut_18 : decode cX12_cut 18 = .ok (.i2s, 1) := by decide +kernel
theorem dX12_cut_19 : decode cX12_cut 19 = .ok (.i2l, 1) := by decide +kernel
theorem dX12_cut_20 : decode cX12_cut 20 = .ok (.goto 15, 3) := by decide +kernel
theorem dX12_cut_23 : decode cX12_cut 23 = .ok (.iload_n 0, 1) := by decide +kernel
theorem dX12_cut_24 : decode cX12_cut 24 = .ok (.iconst 2, 1) := by decide +kernel
theorem dX12_cut_25 : decode cX12_cut 25 = .ok (.if_icmp .ne 9, 3) := by decide +kernel
theorem dX12_cut_28 : decode cX12_cut 28 = .ok (.lload_n 1, 1) := by decide +kernel
theorem dX12_cut_29 : decode cX12_cut 29 = .ok (.l2i, 1) := by decide +kernel
theorem dX12_cut_30 : decode cX12_cut 30 = .ok (.i2l, 1) := by decide +kernel
theorem dX12_cut_31 : decode cX12_cut 31 = .ok (.goto 4, 3) := by decide +kernel
theorem dX12_cut_34 : decode cX12_cut 34 = .ok (.lload_n 1, 1) := by decide +kernel
theorem dX12_cut_35 : decode cX12_cut 35 = .ok (.lreturn, 1) := by decide +kernel
theorem dX12_told_0 : decode cX12_told 0 = .ok (.iload_n 0, 1) := by decide +kernel
theorem dX12_told_1 : decode cX12_told 1 = .ok (.bipush (-4), 2) := by decide +kernel
theorem dX12_told_3 : decode cX12_told 3 = .ok (.if_icmp .ne 7, 3) := by decide +kernel
theorem dX12_told_6 : decode cX12_told 6 = .ok (.iconst (-1), 1) := by decide +kernel
theorem dX12_told_7 : decode cX12_told 7 = .ok (.goto 4, 3) := by decide +kernel
theorem dX12_told_10 : decode cX12_told 10 = .ok (.iload_n 0, 1) := by decide +kernel
theorem dX12_told_11 : decode cX12_told 11 = .ok (.ireturn, 1) := by decide +kernel
theorem dX12_ledger_0 : decode cX12_ledger 0 = .ok (.aload_n 0, 1) := by decide +kernel
theorem dX12_ledger_1 : decode cX12_ledger 1 = .ok (.iload_n 1, 1) := by decide +kernel
theorem dX12_ledger_2 : decode cX12_ledger 2 = .ok (.invokevirtual 84, 3) := by decide +kernel
theorem dX12_ledger_5 : decode cX12_ledger 5 = .ok (.ifCond .eq 24, 3) := by decide +kernel
theorem dX12_ledger_8 : decode cX12_ledger 8 = .ok (.iload_n 2, 1) := by decide +kernel
theorem dX12_ledger_9 : decode cX12_ledger 9 = .ok (.iload_n 3, 1) := by decide +kernel
theorem dX12_ledger_10 : decode cX12_ledger 10 = .ok (.invokestatic 207, 3) := by decide +kernel
theorem dX12_ledger_13 : decode cX12_ledger 13 = .ok (.ifCond .eq 16, 3) := by decide +kernel
theorem dX12_ledger_16 : decode cX12_ledger 16 = .ok (.iload 5, 2) := by decide +kernel
theorem dX12_ledger_18 : decode cX12_ledger 18 = .ok (.i2l, 1) := by decide +kernel
theorem dX12_ledger_19 : decode cX12_ledger 19 = .ok (.lconst 1, 1) := by decide +kernel
theorem dX12_ledger_20 : decode cX12_ledger 20 = .ok (.ldc2_w 211, 3) := by decide +kernel
theorem dX12_ledger_23 : decode cX12_ledger 23 = .ok (.invokestatic 55, 3) := by decide +kernel
theorem dX12_ledger_26 : decode cX12_ledger 26 = .ok (.ifCond .ne 5, 3) := by decide +kernel
theorem dX12_ledger_29 : decode cX12_ledger 29 = .ok (.iconst (-1), 1) := by decide +kernel
theorem dX12_ledger_30 : decode cX12_ledger 30 = .ok (.ireturn, 1) := by decide +kernel
theorem dX12_ledger_31 : decode cX12_ledger 31 = .ok (.aload_n 0, 1) := by decide +kernel
theorem dX12_ledger_32 : decode cX12_ledger 32 = .ok (.iload_n 2, 1) := by decide +kernel
theorem dX12_ledger_33 : decode cX12_ledger 33 = .ok (.iload_n 3, 1) := by decide +kernel
theorem dX12_ledger_34 : decode cX12_ledger 34 = .ok (.iload 4, 2) := by decide +kernel
theorem dX12_ledger_36 : decode cX12_ledger 36 = .ok (.iload 5, 2) := by decide +kernel
theorem dX12_ledger_38 : decode cX12_ledger 38 = .ok (.invokevirtual 213, 3) := by decide +kernel
theorem dX12_ledger_41 : decode cX12_ledger 41 = .ok (.istore 6, 2) := by decide +kernel
theorem dX12_ledger_43 : decode cX12_ledger 43 = .ok (.iload 6, 2) := by decide +kernel
theorem dX12_ledger_45 : decode cX12_ledger 45 = .ok (.ifCond .ge 6, 3) := by decide +kernel
theorem dX12_ledger_48 : decode cX12_ledger 48 = .ok (.iload 6, 2) := by decide +kernel
theorem dX12_ledger_50 : decode cX12_ledger 50 = .ok (.ireturn, 1) := by decide +kernel
theorem dX12_ledger_51 : decode cX12_ledger 51 = .ok (.iconst 0, 1) := by decide +kernel
theorem dX12_ledger_52 : decode cX12_ledger 52 = .ok (.istore 7, 2) := by decide +kernel
theorem dX12_ledger_54 : decode cX12_ledger 54 = .ok (.iconst 0, 1) := by decide +kernel
theorem dX12_ledger_55 : decode cX12_ledger 55 = .ok (.istore 8, 2) := by decide +kernel
theorem dX12_ledger_57 : decode cX12_ledger 57 = .ok (.iload 8, 2) := by decide +kernel
theorem dX12_ledger_59 : decode cX12_ledger 59 = .ok (.iconst 5, 1) := by decide +kernel
theorem dX12_ledger_60 : decode cX12_ledger 60 = .ok (.if_icmp .ge 109, 3) := by decide +kernel
theorem dX12_ledger_63 : decode cX12_ledger 63 = .ok (.aload_n 0, 1) := by decide +kernel
theorem dX12_ledger_64 : decode cX12_ledger 64 = .ok (.invokevirtual 183, 3) := by decide +kernel
theorem dX12_ledger_67 : decode cX12_ledger 67 = .ok (.aload_n 0, 1) := by decide +kernel
theorem dX12_ledger_68 : decode cX12_ledger 68 = .ok (.getfield 13, 3) := by decide +kernel
theorem dX12_ledger_71 : decode cX12_ledger 71 = .ok (.iconst 4, 1) := by decide +kernel
theorem dX12_ledger_72 : decode cX12_ledger 72 = .ok (.iload_n 1, 1) := by decide +kernel
theorem dX12_ledger_73 : decode cX12_ledger 73 = .ok (.iadd, 1) := by decide +kernel
theorem dX12_ledger_74 : decode cX12_ledger 74 = .ok (.iload 8, 2) := by decide +kernel
theorem dX12_ledger_76 : decode cX12_ledger 76 = .ok (.iastore, 1) := by decide +kernel
theorem dX12_ledger_77 : decode cX12_ledger 77 = .ok (.iconst 1, 1) := by decide +kernel
theorem dX12_ledger_78 : decode cX12_ledger 78 = .ok (.istore 9, 2) := by decide +kernel
theorem dX12_ledger_80 : decode cX12_ledger 80 = .ok (.iconst 0, 1) := by decide +kernel
theorem dX12_ledger_81 : decode cX12_ledger 81 = .ok (.istore 10, 2) := by decide +kernel
theorem dX12_ledger_83 : decode cX12_ledger 83 = .ok (.iload 10, 2) := by decide +kernel
theorem dX12_ledger_85 : decode cX12_ledger 85 = .ok (.iload 5, 2) := by decide +kernel
theorem dX12_ledger_87 : decode cX12_ledger 87 = .ok (.if_icmp .ge 58, 3) := by decide +kernel
theorem dX12_ledger_90 : decode cX12_ledger 90 = .ok (.aload_n 0, 1) := by decide +kernel
theorem dX12_ledger_91 : decode cX12_ledger 91 = .ok (.iconst 1, 1) := by decide +kernel
theorem dX12_ledger_92 : decode cX12_ledger 92 = .ok (.invokevirtual 186, 3) := by decide +kernel
theorem dX12_ledger_95 : decode cX12_ledger 95 = .ok (.iload 9, 2) := by decide +kernel
theorem dX12_ledger_97 : decode cX12_ledger 97 = .ok (.ifCond .eq 39, 3) := by decide +kernel
theorem dX12_ledger_100 : decode cX12_ledger 100 = .ok (.aload_n 0, 1) := by decide +kernel
theorem dX12_ledger_101 : decode cX12_ledger 101 = .ok (.getfield 31, 3) := by decide +kernel
theorem dX12_ledger_104 : decode cX12_ledger 104 = .ok (.bipush 24, 2) := by decide +kernel
theorem dX12_ledger_106 : decode cX12_ledger 106 = .ok (.iload_n 2, 1) := by decide +kernel
theorem dX12_ledger_107 : decode cX12_ledger 107 = .ok (.imul, 1) := by decide +kernel
theorem dX12_ledger_108 : decode cX12_ledger 108 = .ok (.iload 4, 2) := by decide +kernel
theorem dX12_ledger_110 : decode cX12_ledger 110 = .ok (.iadd, 1) := by decide +kernel
theorem dX12_ledger_111 : decode cX12_ledger 111 = .ok (.iload 10, 2) := by decide +kernel
theorem dX12_ledger_113 : decode cX12_ledger 113 = .ok (.iadd, 1) := by decide +kernel
theorem dX12_ledger_114 : decode cX12_ledger 114 = .ok (.laload, 1) := by decide +kernel
theorem dX12_ledger_115 : decode cX12_ledger 115 = .ok (.aload_n 0, 1) := by decide +kernel
theorem dX12_ledger_116 : decode cX12_ledger 116 = .ok (.getfield 13, 3) := by decide +kernel
theorem dX12_ledger_119 : decode cX12_ledger 119 = .ok (.bipush 28, 2) := by decide +kernel
theorem dX12_ledger_121 : decode cX12_ledger 121 = .ok (.iload_n 1, 1) := by decide +kernel
theorem dX12_ledger_122 : decode cX12_ledger 122 = .ok (.iadd, 1) := by decide +kernel
theorem dX12_ledger_123 : decode cX12_ledger 123 = .ok (.iaload, 1) := by decide +kernel
theorem dX12_ledger_124 : decode cX12_ledger 124 = .ok (.invokestatic 217, 3) := by decide +kernel
theorem dX12_ledger_127 : decode cX12_ledger 127 = .ok (.i2l, 1) := by decide +kernel
theorem dX12_ledger_128 : decode cX12_ledger 128 = .ok (.lcmp, 1) := by decide +kernel
theorem dX12_ledger_129 : decode cX12_ledger 129 = .ok (.ifCond .ne 7, 3) := by decide +kernel
theorem dX12_ledger_132 : decode cX12_ledger 132 = .ok (.iconst 1, 1) := by decide +kernel
theorem dX12_ledger_133 : decode cX12_ledger 133 = .ok (.goto 4, 3) := by decide +kernel
theorem dX12_ledger_136 : decode cX12_ledger 136 = .ok (.iconst 0, 1) := by decide +kernel
theorem dX12_ledger_137 : decode cX12_ledger 137 = .ok (.istore 9, 2) := by decide +kernel
theorem dX12_ledger_139 : decode cX12_ledger 139 = .ok (.iinc 10 1, 3) := by decide +kernel
theorem dX12_ledger_142 : decode cX12_ledger 142 = .ok (.goto (-59), 3) := by decide +kernel
theorem dX12_ledger_145 : decode cX12_ledger 145 = .ok (.iload 7, 2) := by decide +kernel
theorem dX12_ledger_147 : decode cX12_ledger 147 = .ok (.iload 9, 2) := by decide +kernel
theorem dX12_ledger_149 : decode cX12_ledger 149 = .ok (.ifCond .eq 10, 3) := by decide +kernel
theorem dX12_ledger_152 : decode cX12_ledger 152 = .ok (.iconst 1, 1) := by decide +kernel
theorem dX12_ledger_153 : decode cX12_ledger 153 = .ok (.iload 8, 2) := by decide +kernel
theorem dX12_ledger_155 : decode cX12_ledger 155 = .ok (.ishl, 1) := by decide +kernel
theorem dX12_ledger_156 : decode cX12_ledger 156 = .ok (.goto 4, 3) := by decide +kernel
theorem dX12_ledger_159 : decode cX12_ledger 159 = .ok (.iconst 0, 1) := by decide +kernel
theorem dX12_ledger_160 : decode cX12_ledger 160 = .ok (.ior, 1) := by decide +kernel
theorem dX12_ledger_161 : decode cX12_ledger 161 = .ok (.istore 7, 2) := by decide +kernel
theorem dX12_ledger_163 : decode cX12_ledger 163 = .ok (.iinc 8 1, 3) := by decide +kernel
theorem dX12_ledger_166 : decode cX12_ledger 166 = .ok (.goto (-109), 3) := by decide +kernel
theorem dX12_ledger_169 : decode cX12_ledger 169 = .ok (.iload 7, 2) := by decide +kernel
theorem dX12_ledger_171 : decode cX12_ledger 171 = .ok (.ireturn, 1) := by decide +kernel
theorem dX12_film_0 : decode cX12_film 0 = .ok (.aload_n 0, 1) := by decide +kernel
theorem dX12_film_1 : decode cX12_film 1 = .ok (.iload_n 1, 1) := by decide +kernel
theorem dX12_film_2 : decode cX12_film 2 = .ok (.invokevirtual 84, 3) := by decide +kernel
theorem dX12_film_5 : decode cX12_film 5 = .ok (.ifCond .eq 24, 3) := by decide +kernel
theorem dX12_film_8 : decode cX12_film 8 = .ok (.iload_n 2, 1) := by decide +kernel
theorem dX12_film_9 : decode cX12_film 9 = .ok (.i2l, 1) := by decide +kernel
theorem dX12_film_10 : decode cX12_film 10 = .ok (.lconst 1, 1) := by decide +kernel
theorem dX12_film_11 : decode cX12_film 11 = .ok (.ldc2_w 220, 3) := by decide +kernel
theorem dX12_film_14 : decode cX12_film 14 = .ok (.invokestatic 55, 3) := by decide +kernel
theorem dX12_film_17 : decode cX12_film 17 = .ok (.ifCond .eq 12, 3) := by decide +kernel
theorem dX12_film_20 : decode cX12_film 20 = .ok (.iload_n 3, 1) := by decide +kernel
theorem dX12_film_21 : decode cX12_film 21 = .ok (.iload 4, 2) := by decide +kernel
theorem dX12_film_23 : decode cX12_film 23 = .ok (.invokestatic 207, 3) := by decide +kernel
theorem dX12_film_26 : decode cX12_film 26 = .ok (.ifCond .ne 5, 3) := by decide +kernel
theorem dX12_film_29 : decode cX12_film 29 = .ok (.iconst (-1), 1) := by decide +kernel
theorem dX12_film_30 : decode cX12_film 30 = .ok (.ireturn, 1) := by decide +kernel
theorem dX12_film_31 : decode cX12_film 31 = .ok (.aload_n 0, 1) := by decide +kernel
theorem dX12_film_32 : decode cX12_film 32 = .ok (.iload_n 3, 1) := by decide +kernel
theorem dX12_film_33 : decode cX12_film 33 = .ok (.iload 4, 2) := by decide +kernel
theorem dX12_film_35 : decode cX12_film 35 = .ok (.iload 5, 2) := by decide +kernel
theorem dX12_film_37 : decode cX12_film 37 = .ok (.iload_n 2, 1) := by decide +kernel
theorem dX12_film_38 : decode cX12_film 38 = .ok (.invokevirtual 213, 3) := by decide +kernel
theorem dX12_film_41 : decode cX12_film 41 = .ok (.istore 6, 2) := by decide +kernel
theorem dX12_film_43 : decode cX12_film 43 = .ok (.iload 6, 2) := by decide +kernel
theorem dX12_film_45 : decode cX12_film 45 = .ok (.ifCond .ge 6, 3) := by decide +kernel
theorem dX12_film_48 : decode cX12_film 48 = .ok (.iload 6, 2) := by decide +kernel
theorem dX12_film_50 : decode cX12_film 50 = .ok (.ireturn, 1) := by decide +kernel
theorem dX12_film_51 : decode cX12_film 51 = .ok (.aload_n 0, 1) := by decide +kernel
theorem dX12_film_52 : decode cX12_film 52 = .ok (.invokevirtual 183, 3) := by decide +kernel
theorem dX12_film_55 : decode cX12_film 55 = .ok (.iconst 0, 1) := by decide +kernel
theorem dX12_film_56 : decode cX12_film 56 = .ok (.istore 7, 2) := by decide +kernel
theorem dX12_film_58 : decode cX12_film 58 = .ok (.iload 7, 2) := by decide +kernel
theorem dX12_film_60 : decode cX12_film 60 = .ok (.iload_n 2, 1) := by decide +kernel
theorem dX12_film_61 : decode cX12_film 61 = .ok (.if_icmp .ge 42, 3) := by decide +kernel
theorem dX12_film_64 : decode cX12_film 64 = .ok (.aload_n 0, 1) := by decide +kernel
theorem dX12_film_65 : decode cX12_film 65 = .ok (.iconst 1, 1) := by decide +kernel
theorem dX12_film_66 : decode cX12_film 66 = .ok (.invokevirtual 186, 3) := by decide +kernel
theorem dX12_film_69 : decode cX12_film 69 = .ok (.aload_n 0, 1) := by decide +kernel
theorem dX12_film_70 : decode cX12_film 70 = .ok (.getfield 31, 3) := by decide +kernel
theorem dX12_film_73 : decode cX12_film 73 = .ok (.bipush 24, 2) := by decide +kernel
theorem dX12_film_75 : decode cX12_film 75 = .ok (.iload_n 3, 1) := by decide +kernel
theorem dX12_film_76 : decode cX12_film 76 = .ok (.imul, 1) := by decide +kernel
theorem dX12_film_77 : decode cX12_film 77 = .ok (.iload 5, 2) := by decide +kernel
theorem dX12_film_79 : decode cX12_film 79 = .ok (.iadd, 1) := by decide +kernel
theorem dX12_film_80 : decode cX12_film 80 = .ok (.iload 7, 2) := by decide +kernel
theorem dX12_film_82 : decode cX12_film 82 = .ok (.iadd, 1) := by decide +kernel
theorem dX12_film_83 : decode cX12_film 83 = .ok (.aload_n 0, 1) := by decide +kernel
theorem dX12_film_84 : decode cX12_film 84 = .ok (.getfield 13, 3) := by decide +kernel
theorem dX12_film_87 : decode cX12_film 87 = .ok (.bipush 28, 2) := by decide +kernel
theorem dX12_film_89 : decode cX12_film 89 = .ok (.iload_n 1, 1) := by decide +kernel
theorem dX12_film_90 : decode cX12_film 90 = .ok (.iadd, 1) := by decide +kernel
theorem dX12_film_91 : decode cX12_film 91 = .ok (.iaload, 1) := by decide +kernel
theorem dX12_film_92 : decode cX12_film 92 = .ok (.invokestatic 217, 3) := by decide +kernel
theorem dX12_film_95 : decode cX12_film 95 = .ok (.i2l, 1) := by decide +kernel
theorem dX12_film_96 : decode cX12_film 96 = .ok (.lastore, 1) := by decide +kernel
theorem dX12_film_97 : decode cX12_film 97 = .ok (.iinc 7 1, 3) := by decide +kernel
theorem dX12_film_100 : decode cX12_film 100 = .ok (.goto (-42), 3) := by decide +kernel
theorem dX12_film_103 : decode cX12_film 103 = .ok (.iload_n 2, 1) := by decide +kernel
theorem dX12_film_104 : decode cX12_film 104 = .ok (.ireturn, 1) := by decide +kernel
theorem dX12_sheet_0 : decode cX12_sheet 0 = .ok (.iload_n 1, 1) := by decide +kernel
theorem dX12_sheet_1 : decode cX12_sheet 1 = .ok (.iload_n 2, 1) := by decide +kernel
theorem dX12_sheet_2 : decode cX12_sheet 2 = .ok (.invokestatic 207, 3) := by decide +kernel
theorem dX12_sheet_5 : decode cX12_sheet 5 = .ok (.ifCond .eq 9, 3) := by decide +kernel
theorem dX12_sheet_8 : decode cX12_sheet 8 = .ok (.iload_n 3, 1) := by decide +kernel
theorem dX12_sheet_9 : decode cX12_sheet 9 = .ok (.bipush 24, 2) := by decide +kernel
theorem dX12_sheet_11 : decode cX12_sheet 11 = .ok (.if_icmp .le 5, 3) := by decide +kernel
theorem dX12_sheet_14 : decode cX12_sheet 14 = .ok (.iconst (-1), 1) := by decide +kernel
theorem dX12_sheet_15 : decode cX12_sheet 15 = .ok (.ireturn, 1) := by decide +kernel
theorem dX12_sheet_16 : decode cX12_sheet 16 = .ok (.iload_n 3, 1) := by decide +kernel
theorem dX12_sheet_17 : decode cX12_sheet 17 = .ok (.ifCond .ge 6, 3) := by decide +kernel
theorem dX12_sheet_20 : decode cX12_sheet 20 = .ok (.bipush (-14), 2) := by decide +kernel
theorem dX12_sheet_22 : decode cX12_sheet 22 = .ok (.ireturn, 1) := by decide +kernel
theorem dX12_sheet_23 : decode cX12_sheet 23 = .ok (.aload_n 0, 1) := by decide +kernel
theorem dX12_sheet_24 : decode cX12_sheet 24 = .ok (.getfield 28, 3) := by decide +kernel
theorem dX12_sheet_27 : decode cX12_sheet 27 = .ok (.iload_n 1, 1) := by decide +kernel
theorem dX12_sheet_28 : decode cX12_sheet 28 = .ok (.iload_n 3, 1) := by decide +kernel
theorem dX12_sheet_29 : decode cX12_sheet 29 = .ok (.iastore, 1) := by decide +kernel
theorem dX12_sheet_30 : decode cX12_sheet 30 = .ok (.aload_n 0, 1) := by decide +kernel
theorem dX12_sheet_31 : decode cX12_sheet 31 = .ok (.getfield 25, 3) := by decide +kernel
theorem dX12_sheet_34 : decode cX12_sheet 34 = .ok (.iload_n 1, 1) := by decide +kernel
theorem dX12_sheet_35 : decode cX12_sheet 35 = .ok (.iload_n 2, 1) := by decide +kernel
theorem dX12_sheet_36 : decode cX12_sheet 36 = .ok (.iastore, 1) := by decide +kernel
theorem dX12_sheet_37 : decode cX12_sheet 37 = .ok (.iconst 0, 1) := by decide +kernel
theorem dX12_sheet_38 : decode cX12_sheet 38 = .ok (.istore 4, 2) := by decide +kernel
theorem dX12_sheet_40 : decode cX12_sheet 40 = .ok (.iload 4, 2) := by decide +kernel
theorem dX12_sheet_42 : decode cX12_sheet 42 = .ok (.bipush 24, 2) := by decide +kernel
theorem dX12_sheet_44 : decode cX12_sheet 44 = .ok (.if_icmp .ge 22, 3) := by decide +kernel
theorem dX12_sheet_47 : decode cX12_sheet 47 = .ok (.aload_n 0, 1) := by decide +kernel
theorem dX12_sheet_48 : decode cX12_sheet 48 = .ok (.getfield 31, 3) := by decide +kernel
theorem dX12_sheet_51 : decode cX12_sheet 51 = .ok (.bipush 24, 2) := by decide +kernel
theorem dX12_sheet_53 : decode cX12_sheet 53 = .ok (.iload_n 1, 1) := by decide +kernel
theorem dX12_sheet_54 : decode cX12_sheet 54 = .ok (.imul, 1) := by decide +kernel
theorem dX12_sheet_55 : decode cX12_sheet 55 = .ok (.iload 4, 2) := by decide +kernel
theorem dX12_sheet_57 : decode cX12_sheet 57 = .ok (.iadd, 1) := by decide +kernel
theorem dX12_sheet_58 : decode cX12_sheet 58 = .ok (.lconst 0, 1) := by decide +kernel
theorem dX12_sheet_59 : decode cX12_sheet 59 = .ok (.lastore, 1) := by decide +kernel
theorem dX12_sheet_60 : decode cX12_sheet 60 = .ok (.iinc 4 1, 3) := by decide +kernel
theorem dX12_sheet_63 : decode cX12_sheet 63 = .ok (.goto (-23), 3) := by decide +kernel
theorem dX12_sheet_66 : decode cX12_sheet 66 = .ok (.iload_n 3, 1) := by decide +kernel
theorem dX12_sheet_67 : decode cX12_sheet 67 = .ok (.ireturn, 1) := by decide +kernel
theorem dX12_drop_0 : decode cX12_drop 0 = .ok (.iload_n 1, 1) := by decide +kernel
theorem dX12_drop_1 : decode cX12_drop 1 = .ok (.i2l, 1) := by decide +kernel
theorem dX12_drop_2 : decode cX12_drop 2 = .ok (.lconst 0, 1) := by decide +kernel
theorem dX12_drop_3 : decode cX12_drop 3 = .ok (.ldc2_w 205, 3) := by decide +kernel
theorem dX12_drop_6 : decode cX12_drop 6 = .ok (.invokestatic 55, 3) := by decide +kernel
theorem dX12_drop_9 : decode cX12_drop 9 = .ok (.ifCond .ne 5, 3) := by decide +kernel
theorem dX12_drop_12 : decode cX12_drop 12 = .ok (.iconst (-1), 1) := by decide +kernel
theorem dX12_drop_13 : decode cX12_drop 13 = .ok (.ireturn, 1) := by decide +kernel
theorem dX12_drop_14 : decode cX12_drop 14 = .ok (.aload_n 0, 1) := by decide +kernel
theorem dX12_drop_15 : decode cX12_drop 15 = .ok (.getfield 28, 3) := by decide +kernel
theorem dX12_drop_18 : decode cX12_drop 18 = .ok (.iload_n 1, 1) := by decide +kernel
theorem dX12_drop_19 : decode cX12_drop 19 = .ok (.iaload, 1) := by decide +kernel
theorem dX12_drop_20 : decode cX12_drop 20 = .ok (.ifCond .ge 6, 3) := by decide +kernel
theorem dX12_drop_23 : decode cX12_drop 23 = .ok (.bipush (-11), 2) := by decide +kernel
theorem dX12_drop_25 : decode cX12_drop 25 = .ok (.ireturn, 1) := by decide +kernel
theorem dX12_drop_26 : decode cX12_drop 26 = .ok (.aload_n 0, 1) := by decide +kernel
theorem dX12_drop_27 : decode cX12_drop 27 = .ok (.getfield 28, 3) := by decide +kernel
theorem dX12_drop_30 : decode cX12_drop 30 = .ok (.iload_n 1, 1) := by decide +kernel
theorem dX12_drop_31 : decode cX12_drop 31 = .ok (.iaload, 1) := by decide +kernel
theorem dX12_drop_32 : decode cX12_drop 32 = .ok (.istore_n 2, 1) := by decide +kernel
theorem dX12_drop_33 : decode cX12_drop 33 = .ok (.aload_n 0, 1) := by decide +kernel
theorem dX12_drop_34 : decode cX12_drop 34 = .ok (.getfield 28, 3) := by decide +kernel
theorem dX12_drop_37 : decode cX12_drop 37 = .ok (.iload_n 1, 1) := by decide +kernel
theorem dX12_drop_38 : decode cX12_drop 38 = .ok (.iconst (-1), 1) := by decide +kernel
theorem dX12_drop_39 : decode cX12_drop 39 = .ok (.iastore, 1) := by decide +kernel
theorem dX12_drop_40 : decode cX12_drop 40 = .ok (.iload_n 2, 1) := by decide +kernel
theorem dX12_drop_41 : decode cX12_drop 41 = .ok (.ireturn, 1) := by decide +kernel
theorem dX12_item_0 : decode cX12_item 0 = .ok (.iload_n 1, 1) := by decide +kernel
theorem dX12_item_1 : decode cX12_item 1 = .ok (.iload_n 2, 1) := by decide +kernel
theorem dX12_item_2 : decode cX12_item 2 = .ok (.invokestatic 207, 3) := by decide +kernel
theorem dX12_item_5 : decode cX12_item 5 = .ok (.ifCond .ne 5, 3) := by decide +kernel
theorem dX12_item_8 : decode cX12_item 8 = .ok (.iconst (-1), 1) := by decide +kernel
theorem dX12_item_9 : decode cX12_item 9 = .ok (.ireturn, 1) := by decide +kernel
theorem dX12_item_10 : decode cX12_item 10 = .ok (.aload_n 0, 1) := by decide +kernel
theorem dX12_item_11 : decode cX12_item 11 = .ok (.iload_n 1, 1) := by decide +kernel
theorem dX12_item_12 : decode cX12_item 12 = .ok (.iload_n 2, 1) := by decide +kernel
theorem dX12_item_13 : decode cX12_item 13 = .ok (.iload_n 3, 1) := by decide +kernel
theorem dX12_item_14 : decode cX12_item 14 = .ok (.iconst 1, 1) := by decide +kernel
theorem dX12_item_15 : decode cX12_item 15 = .ok (.invokevirtual 213, 3) := by decide +kernel
theorem dX12_item_18 : decode cX12_item 18 = .ok (.istore 6, 2) := by decide +kernel
theorem dX12_item_20 : decode cX12_item 20 = .ok (.iload 6, 2) := by decide +kernel
theorem dX12_item_22 : decode cX12_item 22 = .ok (.ifCond .ge 6, 3) := by decide +kernel
theorem dX12_item_25 : decode cX12_item 25 = .ok (.iload 6, 2) := by decide +kernel
theorem dX12_item_27 : decode cX12_item 27 = .ok (.ireturn, 1) := by decide +kernel
theorem dX12_item_28 : decode cX12_item 28 = .ok (.aload_n 0, 1) := by decide +kernel
theorem dX12_item_29 : decode cX12_item 29 = .ok (.getfield 31, 3) := by decide +kernel
theorem dX12_item_32 : decode cX12_item 32 = .ok (.bipush 24, 2) := by decide +kernel
theorem dX12_item_34 : decode cX12_item 34 = .ok (.iload_n 1, 1) := by decide +kernel
theorem dX12_item_35 : decode cX12_item 35 = .ok (.imul, 1) := by decide +kernel
theorem dX12_item_36 : decode cX12_item 36 = .ok (.iload_n 3, 1) := by decide +kernel
theorem dX12_item_37 : decode cX12_item 37 = .ok (.iadd, 1) := by decide +kernel
theorem dX12_item_38 : decode cX12_item 38 = .ok (.iload_n 2, 1) := by decide +kernel
theorem dX12_item_39 : decode cX12_item 39 = .ok (.lload 4, 2) := by decide +kernel
theorem dX12_item_41 : decode cX12_item 41 = .ok (.invokestatic 222, 3) := by decide +kernel
theorem dX12_item_44 : decode cX12_item 44 = .ok (.lastore, 1) := by decide +kernel
theorem dX12_item_45 : decode cX12_item 45 = .ok (.iconst 1, 1) := by decide +kernel
theorem dX12_item_46 : decode cX12_item 46 = .ok (.ireturn, 1) := by decide +kernel
theorem dX12_copy_0 : decode cX12_copy 0 = .ok (.iload_n 1, 1) := by decide +kernel
theorem dX12_copy_1 : decode cX12_copy 1 = .ok (.i2l, 1) := by decide +kernel
theorem dX12_copy_2 : decode cX12_copy 2 = .ok (.lconst 0, 1) := by decide +kernel
theorem dX12_copy_3 : decode cX12_copy 3 = .ok (.ldc2_w 205, 3) := by decide +kernel
theorem dX12_copy_6 : decode cX12_copy 6 = .ok (.invokestatic 55, 3) := by decide +kernel
theorem dX12_copy_9 : decode cX12_copy 9 = .ok (.ifCond .eq 15, 3) := by decide +kernel
theorem dX12_copy_12 : decode cX12_copy 12 = .ok (.iload_n 3, 1) := by decide +kernel
theorem dX12_copy_13 : decode cX12_copy 13 = .ok (.i2l, 1) := by decide +kernel
theorem dX12_copy_14 : decode cX12_copy 14 = .ok (.lconst 0, 1) := by decide +kernel
theorem dX12_copy_15 : decode cX12_copy 15 = .ok (.ldc2_w 205, 3) := by decide +kernel
theorem dX12_copy_18 : decode cX12_copy 18 = .ok (.invokestatic 55, 3) := by decide +kernel
theorem dX12_copy_21 : decode cX12_copy 21 = .ok (.ifCond .ne 5, 3) := by decide +kernel
theorem dX12_copy_24 : decode cX12_copy 24 = .ok (.iconst (-1), 1) := by decide +kernel
theorem dX12_copy_25 : decode cX12_copy 25 = .ok (.ireturn, 1) := by decide +kernel
theorem dX12_copy_26 : decode cX12_copy 26 = .ok (.aload_n 0, 1) := by decide +kernel
theorem dX12_copy_27 : decode cX12_copy 27 = .ok (.getfield 28, 3) := by decide +kernel
theorem dX12_copy_30 : decode cX12_copy 30 = .ok (.iload_n 1, 1) := by decide +kernel
theorem dX12_copy_31 : decode cX12_copy 31 = .ok (.iaload, 1) := by decide +kernel
theorem dX12_copy_32 : decode cX12_copy 32 = .ok (.ifCond .lt 12, 3) := by decide +kernel
theorem dX12_copy_35 : decode cX12_copy 35 = .ok (.aload_n 0, 1) := by decide +kernel
theorem dX12_copy_36 : decode cX12_copy 36 = .ok (.getfield 28, 3) := by decide +kernel
theorem dX12_copy_39 : decode cX12_copy 39 = .ok (.iload_n 3, 1) := by decide +kernel
theorem dX12_copy_40 : decode cX12_copy 40 = .ok (.iaload, 1) := by decide +kernel
theorem dX12_copy_41 : decode cX12_copy 41 = .ok (.ifCond .ge 6, 3) := by decide +kernel
theorem dX12_copy_44 : decode cX12_copy 44 = .ok (.bipush (-11), 2) := by decide +kernel
theorem dX12_copy_46 : decode cX12_copy 46 = .ok (.ireturn, 1) := by decide +kernel
theorem dX12_copy_47 : decode cX12_copy 47 = .ok (.aload_n 0, 1) := by decide +kernel
theorem dX12_copy_48 : decode cX12_copy 48 = .ok (.getfield 25, 3) := by decide +kernel
theorem dX12_copy_51 : decode cX12_copy 51 = .ok (.iload_n 1, 1) := by decide +kernel
theorem dX12_copy_52 : decode cX12_copy 52 = .ok (.iaload, 1) := by decide +kernel
theorem dX12_copy_53 : decode cX12_copy 53 = .ok (.aload_n 0, 1) := by decide +kernel
theorem dX12_copy_54 : decode cX12_copy 54 = .ok (.getfield 25, 3) := by decide +kernel
theorem dX12_copy_57 : decode cX12_copy 57 = .ok (.iload_n 3, 1) := by decide +kernel
theorem dX12_copy_58 : decode cX12_copy 58 = .ok (.iaload, 1) := by decide +kernel
theorem dX12_copy_59 : decode cX12_copy 59 = .ok (.if_icmp .eq 6, 3) := by decide +kernel
theorem dX12_copy_62 : decode cX12_copy 62 = .ok (.bipush (-12), 2) := by decide +kernel
theorem dX12_copy_64 : decode cX12_copy 64 = .ok (.ireturn, 1) := by decide +kernel
theorem dX12_copy_65 : decode cX12_copy 65 = .ok (.iload 5, 2) := by decide +kernel
theorem dX12_copy_67 : decode cX12_copy 67 = .ok (.ifCond .lt 38, 3) := by decide +kernel
theorem dX12_copy_70 : decode cX12_copy 70 = .ok (.aload_n 0, 1) := by decide +kernel
theorem dX12_copy_71 : decode cX12_copy 71 = .ok (.iload_n 1, 1) := by decide +kernel
theorem dX12_copy_72 : decode cX12_copy 72 = .ok (.aload_n 0, 1) := by decide +kernel
theorem dX12_copy_73 : decode cX12_copy 73 = .ok (.getfield 25, 3) := by decide +kernel
theorem dX12_copy_76 : decode cX12_copy 76 = .ok (.iload_n 1, 1) := by decide +kernel
theorem dX12_copy_77 : decode cX12_copy 77 = .ok (.iaload, 1) := by decide +kernel
theorem dX12_copy_78 : decode cX12_copy 78 = .ok (.iload_n 2, 1) := by decide +kernel
theorem dX12_copy_79 : decode cX12_copy 79 = .ok (.iload 5, 2) := by decide +kernel
theorem dX12_copy_81 : decode cX12_copy 81 = .ok (.invokevirtual 213, 3) := by decide +kernel
theorem dX12_copy_84 : decode cX12_copy 84 = .ok (.ifCond .lt 21, 3) := by decide +kernel
theorem dX12_copy_87 : decode cX12_copy 87 = .ok (.aload_n 0, 1) := by decide +kernel
theorem dX12_copy_88 : decode cX12_copy 88 = .ok (.iload_n 3, 1) := by decide +kernel
theorem dX12_copy_89 : decode cX12_copy 89 = .ok (.aload_n 0, 1) := by decide +kernel
theorem dX12_copy_90 : decode cX12_copy 90 = .ok (.getfield 25, 3) := by decide +kernel
theorem dX12_copy_93 : decode cX12_copy 93 = .ok (.iload_n 3, 1) := by decide +kernel
theorem dX12_copy_94 : decode cX12_copy 94 = .ok (.iaload, 1) := by decide +kernel
theorem dX12_copy_95 : decode cX12_copy 95 = .ok (.iload 4, 2) := by decide +kernel
theorem dX12_copy_97 : decode cX12_copy 97 = .ok (.iload 5, 2) := by decide +kernel
theorem dX12_copy_99 : decode cX12_copy 99 = .ok (.invokevirtual 213, 3) := by decide +kernel
theorem dX12_copy_102 : decode cX12_copy 102 = .ok (.ifCond .ge 6, 3) := by decide +kernel
theorem dX12_copy_105 : decode cX12_copy 105 = .ok (.bipush (-13), 2) := by decide +kernel
theorem dX12_copy_107 : decode cX12_copy 107 = .ok (.ireturn, 1) := by decide +kernel
theorem dX12_copy_108 : decode cX12_copy 108 = .ok (.iconst 0, 1) := by decide +kernel
theorem dX12_copy_109 : decode cX12_copy 109 = .ok (.istore 6, 2) := by decide +kernel
theorem dX12_copy_111 : decode cX12_copy 111 = .ok (.iload 6, 2) := by decide +kernel
theorem dX12_copy_113 : decode cX12_copy 113 = .ok (.iload 5, 2) := by decide +kernel
theorem dX12_copy_115 : decode cX12_copy 115 = .ok (.if_icmp .ge 58, 3) := by decide +kernel
theorem dX12_copy_118 : decode cX12_copy 118 = .ok (.iload 4, 2) := by decide +kernel
theorem dX12_copy_120 : decode cX12_copy 120 = .ok (.iload_n 2, 1) := by decide +kernel
theorem dX12_copy_121 : decode cX12_copy 121 = .ok (.if_icmp .le 13, 3) := by decide +kernel
theorem dX12_copy_124 : decode cX12_copy 124 = .ok (.iload 5, 2) := by decide +kernel
theorem dX12_copy_126 : decode cX12_copy 126 = .ok (.iconst 1, 1) := by decide +kernel
theorem dX12_copy_127 : decode cX12_copy 127 = .ok (.isub, 1) := by decide +kernel
theorem dX12_copy_128 : decode cX12_copy 128 = .ok (.iload 6, 2) := by decide +kernel
theorem dX12_copy_130 : decode cX12_copy 130 = .ok (.isub, 1) := by decide +kernel
theorem dX12_copy_131 : decode cX12_copy 131 = .ok (.goto 5, 3) := by decide +kernel
theorem dX12_copy_134 : decode cX12_copy 134 = .ok (.iload 6, 2) := by decide +kernel
theorem dX12_copy_136 : decode cX12_copy 136 = .ok (.istore 7, 2) := by decide +kernel
theorem dX12_copy_138 : decode cX12_copy 138 = .ok (.aload_n 0, 1) := by decide +kernel
theorem dX12_copy_139 : decode cX12_copy 139 = .ok (.getfield 31, 3) := by decide +kernel
theorem dX12_copy_142 : decode cX12_copy 142 = .ok (.bipush 24, 2) := by decide +kernel
theorem dX12_copy_144 : decode cX12_copy 144 = .ok (.iload_n 3, 1) := by decide +kernel
theorem dX12_copy_145 : decode cX12_copy 145 = .ok (.imul, 1) := by decide +kernel
theorem dX12_copy_146 : decode cX12_copy 146 = .ok (.iload 4, 2) := by decide +kernel
theorem dX12_copy_148 : decode cX12_copy 148 = .ok (.iadd, 1) := by decide +kernel
theorem dX12_copy_149 : decode cX12_copy 149 = .ok (.iload 7, 2) := by decide +kernel
theorem dX12_copy_151 : decode cX12_copy 151 = .ok (.iadd, 1) := by decide +kernel
theorem dX12_copy_152 : decode cX12_copy 152 = .ok (.aload_n 0, 1) := by decide +kernel
theorem dX12_copy_153 : decode cX12_copy 153 = .ok (.getfield 31, 3) := by decide +kernel
theorem dX12_copy_156 : decode cX12_copy 156 = .ok (.bipush 24, 2) := by decide +kernel
theorem dX12_copy_158 : decode cX12_copy 158 = .ok (.iload_n 1, 1) := by decide +kernel
theorem dX12_copy_159 : decode cX12_copy 159 = .ok (.imul, 1) := by decide +kernel
theorem dX12_copy_160 : decode cX12_copy 160 = .ok (.iload_n 2, 1) := by decide +kernel
theorem dX12_copy_161 : decode cX12_copy 161 = .ok (.iadd, 1) := by decide +kernel
theorem dX12_copy_162 : decode cX12_copy 162 = .ok (.iload 7, 2) := by decide +kernel
theorem dX12_copy_164 : decode cX12_copy 164 = .ok (.iadd, 1) := by decide +kernel
theorem dX12_copy_165 : decode cX12_copy 165 = .ok (.laload, 1) := by decide +kernel
theorem dX12_copy_166 : decode cX12_copy 166 = .ok (.lastore, 1) := by decide +kernel
theorem dX12_copy_167 : decode cX12_copy 167 = .ok (.iinc 6 1, 3) := by decide +kernel
theorem dX12_copy_170 : decode cX12_copy 170 = .ok (.goto (-59), 3) := by decide +kernel
theorem dX12_copy_173 : decode cX12_copy 173 = .ok (.iload 5, 2) := by decide +kernel
theorem dX12_copy_175 : decode cX12_copy 175 = .ok (.ireturn, 1) := by decide +kernel
