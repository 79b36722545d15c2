theorem dX0_init_0 : decode cX0_init 0 = .ok (.aload_n 0, 1) := by decide +kernel
theorem dX0_init_1 : decode cX0_init 1 = .ok (.invokespecial 3, 3) := by decide +kernel
theorem dX0_init_4 : decode cX0_init 4 = .ok (.aload_n 0, 1) := by decide +kernel
theorem dX0_init_5 : decode cX0_init 5 = .ok (.iconst 5, 1) := by decide +kernel
theorem dX0_init_6 : decode cX0_init 6 = .ok (.anewarray 9, 3) := by decide +kernel
theorem dX0_init_9 : decode cX0_init 9 = .ok (.dup, 1) := by decide +kernel
theorem dX0_init_10 : decode cX0_init 10 = .ok (.iconst 0, 1) := by decide +kernel
theorem dX0_init_11 : decode cX0_init 11 = .ok (.new 9, 3) := by decide +kernel
theorem dX0_init_14 : decode cX0_init 14 = .ok (.dup, 1) := by decide +kernel
theorem dX0_init_15 : decode cX0_init 15 = .ok (.invokespecial 11, 3) := by decide +kernel
theorem dX0_init_18 : decode cX0_init 18 = .ok (.aastore, 1) := by decide +kernel
theorem dX0_init_19 : decode cX0_init 19 = .ok (.dup, 1) := by decide +kernel
theorem dX0_init_20 : decode cX0_init 20 = .ok (.iconst 1, 1) := by decide +kernel
theorem dX0_init_21 : decode cX0_init 21 = .ok (.new 12, 3) := by decide +kernel
theorem dX0_init_24 : decode cX0_init 24 = .ok (.dup, 1) := by decide +kernel
theorem dX0_init_25 : decode cX0_init 25 = .ok (.invokespecial 14, 3) := by decide +kernel
theorem dX0_init_28 : decode cX0_init 28 = .ok (.aastore, 1) := by decide +kernel
theorem dX0_init_29 : decode cX0_init 29 = .ok (.dup, 1) := by decide +kernel
theorem dX0_init_30 : decode cX0_init 30 = .ok (.iconst 2, 1) := by decide +kernel
theorem dX0_init_31 : decode cX0_init 31 = .ok (.new 15, 3) := by decide +kernel
theorem dX0_init_34 : decode cX0_init 34 = .ok (.dup, 1) := by decide +kernel
theorem dX0_init_35 : decode cX0_init 35 = .ok (.invokespecial 17, 3) := by decide +kernel
theorem dX0_init_38 : decode cX0_init 38 = .ok (.aastore, 1) := by decide +kernel
theorem dX0_init_39 : decode cX0_init 39 = .ok (.dup, 1) := by decide +kernel
theorem dX0_init_40 : decode cX0_init 40 = .ok (.iconst 3, 1) := by decide +kernel
theorem dX0_init_41 : decode cX0_init 41 = .ok (.new 18, 3) := by decide +kernel
theorem dX0_init_44 : decode cX0_init 44 = .ok (.dup, 1) := by decide +kernel
theorem dX0_init_45 : decode cX0_init 45 = .ok (.invokespecial 20, 3) := by decide +kernel
theorem dX0_init_48 : decode cX0_init 48 = .ok (.aastore, 1) := by decide +kernel
theorem dX0_init_49 : decode cX0_init 49 = .ok (.dup, 1) := by decide +kernel
theorem dX0_init_50 : decode cX0_init 50 = .ok (.iconst 4, 1) := by decide +kernel
theorem dX0_init_51 : decode cX0_init 51 = .ok (.new 21, 3) := by decide +kernel
theorem dX0_init_54 : decode cX0_init 54 = .ok (.dup, 1) := by decide +kernel
theorem dX0_init_55 : decode cX0_init 55 = .ok (.invokespecial 23, 3) := by decide +kernel
theorem dX0_init_58 : decode cX0_init 58 = .ok (.aastore, 1) := by decide +kernel
theorem dX0_init_59 : decode cX0_init 59 = .ok (.putfield 24, 3) := by decide +kernel
theorem dX0_init_62 : decode cX0_init 62 = .ok (.aload_n 0, 1) := by decide +kernel
theorem dX0_init_63 : decode cX0_init 63 = .ok (.bipush 6, 2) := by decide +kernel
theorem dX0_init_65 : decode cX0_init 65 = .ok (.newarray .int, 2) := by decide +kernel
theorem dX0_init_67 : decode cX0_init 67 = .ok (.putfield 30, 3) := by decide +kernel
theorem dX0_init_70 : decode cX0_init 70 = .ok (.aload_n 0, 1) := by decide +kernel
theorem dX0_init_71 : decode cX0_init 71 = .ok (.bipush 6, 2) := by decide +kernel
theorem dX0_init_73 : decode cX0_init 73 = .ok (.newarray .int, 2) := by decide +kernel
theorem dX0_init_75 : decode cX0_init 75 = .ok (.putfield 34, 3) := by decide +kernel
theorem dX0_init_78 : decode cX0_init 78 = .ok (.aload_n 0, 1) := by decide +kernel
theorem dX0_init_79 : decode cX0_init 79 = .ok (.bipush 6, 2) := by decide +kernel
theorem dX0_init_81 : decode cX0_init 81 = .ok (.newarray .int, 2) := by decide +kernel
theorem dX0_init_83 : decode cX0_init 83 = .ok (.putfield 37, 3) := by decide +kernel
theorem dX0_init_86 : decode cX0_init 86 = .ok (.return_, 1) := by decide +kernel
theorem dX0_offOf_0 : decode cX0_offOf 0 = .ok (.aload_n 0, 1) := by decide +kernel
theorem dX0_offOf_1 : decode cX0_offOf 1 = .ok (.getfield 24, 3) := by decide +kernel
theorem dX0_offOf_4 : decode cX0_offOf 4 = .ok (.aload_n 1, 1) := by decide +kernel
theorem dX0_offOf_5 : decode cX0_offOf 5 = .ok (.getfield 40, 3) := by decide +kernel
theorem dX0_offOf_8 : decode cX0_offOf 8 = .ok (.iload_n 2, 1) := by decide +kernel
theorem dX0_offOf_9 : decode cX0_offOf 9 = .ok (.iaload, 1) := by decide +kernel
theorem dX0_offOf_10 : decode cX0_offOf 10 = .ok (.aaload, 1) := by decide +kernel
theorem dX0_offOf_11 : decode cX0_offOf 11 = .ok (.aload_n 1, 1) := by decide +kernel
theorem dX0_offOf_12 : decode cX0_offOf 12 = .ok (.getfield 45, 3) := by decide +kernel
theorem dX0_offOf_15 : decode cX0_offOf 15 = .ok (.iload_n 2, 1) := by decide +kernel
theorem dX0_offOf_16 : decode cX0_offOf 16 = .ok (.iaload, 1) := by decide +kernel
theorem dX0_offOf_17 : decode cX0_offOf 17 = .ok (.aload_n 1, 1) := by decide +kernel
theorem dX0_offOf_18 : decode cX0_offOf 18 = .ok (.getfield 48, 3) := by decide +kernel
theorem dX0_offOf_21 : decode cX0_offOf 21 = .ok (.iload_n 2, 1) := by decide +kernel
theorem dX0_offOf_22 : decode cX0_offOf 22 = .ok (.iaload, 1) := by decide +kernel
theorem dX0_offOf_23 : decode cX0_offOf 23 = .ok (.iload_n 3, 1) := by decide +kernel
theorem dX0_offOf_24 : decode cX0_offOf 24 = .ok (.aload_n 1, 1) := by decide +kernel
theorem dX0_offOf_25 : decode cX0_offOf 25 = .ok (.getfield 51, 3) := by decide +kernel
theorem dX0_offOf_28 : decode cX0_offOf 28 = .ok (.invokevirtual 55, 3) := by decide +kernel
theorem dX0_offOf_31 : decode cX0_offOf 31 = .ok (.ireturn, 1) := by decide +kernel
theorem dX0_esteem_0 : decode cX0_esteem 0 = .ok (.aload_n 0, 1) := by decide +kernel
theorem dX0_esteem_1 : decode cX0_esteem 1 = .ok (.getfield 24, 3) := by decide +kernel
theorem dX0_esteem_4 : decode cX0_esteem 4 = .ok (.aload_n 1, 1) := by decide +kernel
theorem dX0_esteem_5 : decode cX0_esteem 5 = .ok (.getfield 40, 3) := by decide +kernel
theorem dX0_esteem_8 : decode cX0_esteem 8 = .ok (.iload_n 2, 1) := by decide +kernel
theorem dX0_esteem_9 : decode cX0_esteem 9 = .ok (.iaload, 1) := by decide +kernel
theorem dX0_esteem_10 : decode cX0_esteem 10 = .ok (.aaload, 1) := by decide +kernel
theorem dX0_esteem_11 : decode cX0_esteem 11 = .ok (.aload_n 1, 1) := by decide +kernel
theorem dX0_esteem_12 : decode cX0_esteem 12 = .ok (.getfield 59, 3) := by decide +kernel
theorem dX0_esteem_15 : decode cX0_esteem 15 = .ok (.iload_n 3, 1) := by decide +kernel
theorem dX0_esteem_16 : decode cX0_esteem 16 = .ok (.iaload, 1) := by decide +kernel
theorem dX0_esteem_17 : decode cX0_esteem 17 = .ok (.aload_n 1, 1) := by decide +kernel
theorem dX0_esteem_18 : decode cX0_esteem 18 = .ok (.getfield 62, 3) := by decide +kernel
theorem dX0_esteem_21 : decode cX0_esteem 21 = .ok (.iload_n 3, 1) := by decide +kernel
theorem dX0_esteem_22 : decode cX0_esteem 22 = .ok (.iaload, 1) := by decide +kernel
theorem dX0_esteem_23 : decode cX0_esteem 23 = .ok (.iload_n 2, 1) := by decide +kernel
theorem dX0_esteem_24 : decode cX0_esteem 24 = .ok (.iload_n 3, 1) := by decide +kernel
theorem dX0_esteem_25 : decode cX0_esteem 25 = .ok (.if_icmp .ne 7, 3) := by decide +kernel
theorem dX0_esteem_28 : decode cX0_esteem 28 = .ok (.iconst 1, 1) := by decide +kernel
theorem dX0_esteem_29 : decode cX0_esteem 29 = .ok (.goto 4, 3) := by decide +kernel
theorem dX0_esteem_32 : decode cX0_esteem 32 = .ok (.iconst 0, 1) := by decide +kernel
theorem dX0_esteem_33 : decode cX0_esteem 33 = .ok (.invokevirtual 65, 3) := by decide +kernel
theorem dX0_esteem_36 : decode cX0_esteem 36 = .ok (.ireturn, 1) := by decide +kernel
theorem dX0_placeOf_0 : decode cX0_placeOf 0 = .ok (.aload_n 0, 1) := by decide +kernel
theorem dX0_placeOf_1 : decode cX0_placeOf 1 = .ok (.aload_n 1, 1) := by decide +kernel
theorem dX0_placeOf_2 : decode cX0_placeOf 2 = .ok (.aload_n 1, 1) := by decide +kernel
theorem dX0_placeOf_3 : decode cX0_placeOf 3 = .ok (.getfield 69, 3) := by decide +kernel
theorem dX0_placeOf_6 : decode cX0_placeOf 6 = .ok (.invokevirtual 72, 3) := by decide +kernel
theorem dX0_placeOf_9 : decode cX0_placeOf 9 = .ok (.iconst 0, 1) := by decide +kernel
theorem dX0_placeOf_10 : decode cX0_placeOf 10 = .ok (.istore_n 3, 1) := by decide +kernel
theorem dX0_placeOf_11 : decode cX0_placeOf 11 = .ok (.iconst 0, 1) := by decide +kernel
theorem dX0_placeOf_12 : decode cX0_placeOf 12 = .ok (.istore 4, 2) := by decide +kernel
theorem dX0_placeOf_14 : decode cX0_placeOf 14 = .ok (.iload 4, 2) := by decide +kernel
theorem dX0_placeOf_16 : decode cX0_placeOf 16 = .ok (.aload_n 1, 1) := by decide +kernel
theorem dX0_placeOf_17 : decode cX0_placeOf 17 = .ok (.getfield 76, 3) := by decide +kernel
theorem dX0_placeOf_20 : decode cX0_placeOf 20 = .ok (.if_icmp .ge 23, 3) := by decide +kernel
theorem dX0_placeOf_23 : decode cX0_placeOf 23 = .ok (.aload_n 0, 1) := by decide +kernel
theorem dX0_placeOf_24 : decode cX0_placeOf 24 = .ok (.getfield 34, 3) := by decide +kernel
theorem dX0_placeOf_27 : decode cX0_placeOf 27 = .ok (.iload 4, 2) := by decide +kernel
theorem dX0_placeOf_29 : decode cX0_placeOf 29 = .ok (.iaload, 1) := by decide +kernel
theorem dX0_placeOf_30 : decode cX0_placeOf 30 = .ok (.iload_n 2, 1) := by decide +kernel
theorem dX0_placeOf_31 : decode cX0_placeOf 31 = .ok (.if_icmp .ne 6, 3) := by decide +kernel
theorem dX0_placeOf_34 : decode cX0_placeOf 34 = .ok (.iload 4, 2) := by decide +kernel
theorem dX0_placeOf_36 : decode cX0_placeOf 36 = .ok (.istore_n 3, 1) := by decide +kernel
theorem dX0_placeOf_37 : decode cX0_placeOf 37 = .ok (.iinc 4 1, 3) := by decide +kernel
theorem dX0_placeOf_40 : decode cX0_placeOf 40 = .ok (.goto (-26), 3) := by decide +kernel
theorem dX0_placeOf_43 : decode cX0_placeOf 43 = .ok (.iload_n 3, 1) := by decide +kernel
theorem dX0_placeOf_44 : decode cX0_placeOf 44 = .ok (.ireturn, 1) := by decide +kernel
theorem dX0_lineUp_0 : decode cX0_lineUp 0 = .ok (.iconst 0, 1) := by decide +kernel
theorem dX0_lineUp_1 : decode cX0_lineUp 1 = .ok (.istore_n 3, 1) := by decide +kernel
theorem dX0_lineUp_2 : decode cX0_lineUp 2 = .ok (.iload_n 3, 1) := by decide +kernel
theorem dX0_lineUp_3 : decode cX0_lineUp 3 = .ok (.aload_n 1, 1) := by decide +kernel
theorem dX0_lineUp_4 : decode cX0_lineUp 4 = .ok (.getfield 76, 3) := by decide +kernel
theorem dX0_lineUp_7 : decode cX0_lineUp 7 = .ok (.if_icmp .ge 83, 3) := by decide +kernel
theorem dX0_lineUp_10 : decode cX0_lineUp 10 = .ok (.aload_n 0, 1) := by decide +kernel
theorem dX0_lineUp_11 : decode cX0_lineUp 11 = .ok (.getfield 30, 3) := by decide +kernel
theorem dX0_lineUp_14 : decode cX0_lineUp 14 = .ok (.iload_n 3, 1) := by decide +kernel
theorem dX0_lineUp_15 : decode cX0_lineUp 15 = .ok (.aload_n 0, 1) := by decide +kernel
theorem dX0_lineUp_16 : decode cX0_lineUp 16 = .ok (.aload_n 1, 1) := by decide +kernel
theorem dX0_lineUp_17 : decode cX0_lineUp 17 = .ok (.iload_n 3, 1) := by decide +kernel
theorem dX0_lineUp_18 : decode cX0_lineUp 18 = .ok (.iload_n 2, 1) := by decide +kernel
theorem dX0_lineUp_19 : decode cX0_lineUp 19 = .ok (.invokevirtual 79, 3) := by decide +kernel
theorem dX0_lineUp_22 : decode cX0_lineUp 22 = .ok (.iastore, 1) := by decide +kernel
theorem dX0_lineUp_23 : decode cX0_lineUp 23 = .ok (.iload_n 3, 1) := by decide +kernel
theorem dX0_lineUp_24 : decode cX0_lineUp 24 = .ok (.istore 4, 2) := by decide +kernel
theorem dX0_lineUp_26 : decode cX0_lineUp 26 = .ok (.iload 4, 2) := by decide +kernel
theorem dX0_lineUp_28 : decode cX0_lineUp 28 = .ok (.ifCond .le 48, 3) := by decide +kernel
theorem dX0_lineUp_31 : decode cX0_lineUp 31 = .ok (.aload_n 0, 1) := by decide +kernel
theorem dX0_lineUp_32 : decode cX0_lineUp 32 = .ok (.getfield 30, 3) := by decide +kernel
theorem dX0_lineUp_35 : decode cX0_lineUp 35 = .ok (.aload_n 0, 1) := by decide +kernel
theorem dX0_lineUp_36 : decode cX0_lineUp 36 = .ok (.getfield 34, 3) := by decide +kernel
theorem dX0_lineUp_39 : decode cX0_lineUp 39 = .ok (.iload 4, 2) := by decide +kernel
theorem dX0_lineUp_41 : decode cX0_lineUp 41 = .ok (.iconst 1, 1) := by decide +kernel
theorem dX0_lineUp_42 : decode cX0_lineUp 42 = .ok (.isub, 1) := by decide +kernel
theorem dX0_lineUp_43 : decode cX0_lineUp 43 = .ok (.iaload, 1) := by decide +kernel
theorem dX0_lineUp_44 : decode cX0_lineUp 44 = .ok (.iaload, 1) := by decide +kernel
theorem dX0_lineUp_45 : decode cX0_lineUp 45 = .ok (.aload_n 0, 1) := by decide +kernel
theorem dX0_lineUp_46 : decode cX0_lineUp 46 = .ok (.getfield 30, 3) := by decide +kernel
theorem dX0_lineUp_49 : decode cX0_lineUp 49 = .ok (.iload_n 3, 1) := by decide +kernel
theorem dX0_lineUp_50 : decode cX0_lineUp 50 = .ok (.iaload, 1) := by decide +kernel
theorem dX0_lineUp_51 : decode cX0_lineUp 51 = .ok (.if_icmp .le 25, 3) := by decide +kernel
theorem dX0_lineUp_54 : decode cX0_lineUp 54 = .ok (.aload_n 0, 1) := by decide +kernel
theorem dX0_lineUp_55 : decode cX0_lineUp 55 = .ok (.getfield 34, 3) := by decide +kernel
theorem dX0_lineUp_58 : decode cX0_lineUp 58 = .ok (.iload 4, 2) := by decide +kernel
theorem dX0_lineUp_60 : decode cX0_lineUp 60 = .ok (.aload_n 0, 1) := by decide +kernel
theorem dX0_lineUp_61 : decode cX0_lineUp 61 = .ok (.getfield 34, 3) := by decide +kernel
theorem dX0_lineUp_64 : decode cX0_lineUp 64 = .ok (.iload 4, 2) := by decide +kernel
theorem dX0_lineUp_66 : decode cX0_lineUp 66 = .ok (.iconst 1, 1) := by decide +kernel
theorem dX0_lineUp_67 : decode cX0_lineUp 67 = .ok (.isub, 1) := by decide +kernel
theorem dX0_lineUp_68 : decode cX0_lineUp 68 = .ok (.iaload, 1) := by decide +kernel
theorem dX0_lineUp_69 : decode cX0_lineUp 69 = .ok (.iastore, 1) := by decide +kernel
theorem dX0_lineUp_70 : decode cX0_lineUp 70 = .ok (.iinc 4 (-1), 3) := by decide +kernel
theorem dX0_lineUp_73 : decode cX0_lineUp 73 = .ok (.goto (-47), 3) := by decide +kernel
theorem dX0_lineUp_76 : decode cX0_lineUp 76 = .ok (.aload_n 0, 1) := by decide +kernel
theorem dX0_lineUp_77 : decode cX0_lineUp 77 = .ok (.getfield 34, 3) := by decide +kernel
theorem dX0_lineUp_80 : decode cX0_lineUp 80 = .ok (.iload 4, 2) := by decide +kernel
theorem dX0_lineUp_82 : decode cX0_lineUp 82 = .ok (.iload_n 3, 1) := by decide +kernel
theorem dX0_lineUp_83 : decode cX0_lineUp 83 = .ok (.iastore, 1) := by decide +kernel
theorem dX0_lineUp_84 : decode cX0_lineUp 84 = .ok (.iinc 3 1, 3) := by decide +kernel
theorem dX0_lineUp_87 : decode cX0_lineUp 87 = .ok (.goto (-85), 3) := by decide +kernel
theorem dX0_lineUp_90 : decode cX0_lineUp 90 = .ok (.return_, 1) := by decide +kernel
theorem dX0_wish_0 : decode cX0_wish 0 = .ok (.iconst (-1), 1) := by decide +kernel
theorem dX0_wish_1 : decode cX0_wish 1 = .ok (.istore 4, 2) := by decide +kernel
theorem dX0_wish_3 : decode cX0_wish 3 = .ok (.iconst 0, 1) := by decide +kernel
theorem dX0_wish_4 : decode cX0_wish 4 = .ok (.istore 5, 2) := by decide +kernel
theorem dX0_wish_6 : decode cX0_wish 6 = .ok (.iconst 0, 1) := by decide +kernel
theorem dX0_wish_7 : decode cX0_wish 7 = .ok (.istore 6, 2) := by decide +kernel
theorem dX0_wish_9 : decode cX0_wish 9 = .ok (.iload 6, 2) := by decide +kernel
theorem dX0_wish_11 : decode cX0_wish 11 = .ok (.aload_n 1, 1) := by decide +kernel
theorem dX0_wish_12 : decode cX0_wish 12 = .ok (.getfield 83, 3) := by decide +kernel
theorem dX0_wish_15 : decode cX0_wish 15 = .ok (.if_icmp .ge 49, 3) := by decide +kernel
theorem dX0_wish_18 : decode cX0_wish 18 = .ok (.iload_n 3, 1) := by decide +kernel
theorem dX0_wish_19 : decode cX0_wish 19 = .ok (.iload 6, 2) := by decide +kernel
theorem dX0_wish_21 : decode cX0_wish 21 = .ok (.ishr, 1) := by decide +kernel
theorem dX0_wish_22 : decode cX0_wish 22 = .ok (.iconst 1, 1) := by decide +kernel
theorem dX0_wish_23 : decode cX0_wish 23 = .ok (.iand, 1) := by decide +kernel
theorem dX0_wish_24 : decode cX0_wish 24 = .ok (.ifCond .ne 34, 3) := by decide +kernel
theorem dX0_wish_27 : decode cX0_wish 27 = .ok (.aload_n 0, 1) := by decide +kernel
theorem dX0_wish_28 : decode cX0_wish 28 = .ok (.aload_n 1, 1) := by decide +kernel
theorem dX0_wish_29 : decode cX0_wish 29 = .ok (.iload_n 2, 1) := by decide +kernel
theorem dX0_wish_30 : decode cX0_wish 30 = .ok (.iload 6, 2) := by decide +kernel
theorem dX0_wish_32 : decode cX0_wish 32 = .ok (.invokevirtual 86, 3) := by decide +kernel
theorem dX0_wish_35 : decode cX0_wish 35 = .ok (.istore 7, 2) := by decide +kernel
theorem dX0_wish_37 : decode cX0_wish 37 = .ok (.iload 4, 2) := by decide +kernel
theorem dX0_wish_39 : decode cX0_wish 39 = .ok (.iconst (-1), 1) := by decide +kernel
theorem dX0_wish_40 : decode cX0_wish 40 = .ok (.if_icmp .eq 10, 3) := by decide +kernel
theorem dX0_wish_43 : decode cX0_wish 43 = .ok (.iload 7, 2) := by decide +kernel
theorem dX0_wish_45 : decode cX0_wish 45 = .ok (.iload 5, 2) := by decide +kernel
theorem dX0_wish_47 : decode cX0_wish 47 = .ok (.if_icmp .le 11, 3) := by decide +kernel
theorem dX0_wish_50 : decode cX0_wish 50 = .ok (.iload 6, 2) := by decide +kernel
theorem dX0_wish_52 : decode cX0_wish 52 = .ok (.istore 4, 2) := by decide +kernel
theorem dX0_wish_54 : decode cX0_wish 54 = .ok (.iload 7, 2) := by decide +kernel
theorem dX0_wish_56 : decode cX0_wish 56 = .ok (.istore 5, 2) := by decide +kernel
theorem dX0_wish_58 : decode cX0_wish 58 = .ok (.iinc 6 1, 3) := by decide +kernel
theorem dX0_wish_61 : decode cX0_wish 61 = .ok (.goto (-52), 3) := by decide +kernel
theorem dX0_wish_64 : decode cX0_wish 64 = .ok (.iload 4, 2) := by decide +kernel
theorem dX0_wish_66 : decode cX0_wish 66 = .ok (.ireturn, 1) := by decide +kernel
theorem dX0_make_0 : decode cX0_make 0 = .ok (.aload_n 0, 1) := by decide +kernel
theorem dX0_make_1 : decode cX0_make 1 = .ok (.aload_n 1, 1) := by decide +kernel
theorem dX0_make_2 : decode cX0_make 2 = .ok (.iload_n 2, 1) := by decide +kernel
theorem dX0_make_3 : decode cX0_make 3 = .ok (.invokevirtual 72, 3) := by decide +kernel
theorem dX0_make_6 : decode cX0_make 6 = .ok (.iconst 0, 1) := by decide +kernel
theorem dX0_make_7 : decode cX0_make 7 = .ok (.istore_n 3, 1) := by decide +kernel
theorem dX0_make_8 : decode cX0_make 8 = .ok (.iconst 0, 1) := by decide +kernel
theorem dX0_make_9 : decode cX0_make 9 = .ok (.istore 4, 2) := by decide +kernel
theorem dX0_make_11 : decode cX0_make 11 = .ok (.iload 4, 2) := by decide +kernel
theorem dX0_make_13 : decode cX0_make 13 = .ok (.aload_n 1, 1) := by decide +kernel
theorem dX0_make_14 : decode cX0_make 14 = .ok (.getfield 76, 3) := by decide +kernel
theorem dX0_make_17 : decode cX0_make 17 = .ok (.if_icmp .ge 50, 3) := by decide +kernel
theorem dX0_make_20 : decode cX0_make 20 = .ok (.aload_n 0, 1) := by decide +kernel
theorem dX0_make_21 : decode cX0_make 21 = .ok (.getfield 34, 3) := by decide +kernel
theorem dX0_make_24 : decode cX0_make 24 = .ok (.iload 4, 2) := by decide +kernel
theorem dX0_make_26 : decode cX0_make 26 = .ok (.iaload, 1) := by decide +kernel
theorem dX0_make_27 : decode cX0_make 27 = .ok (.istore 5, 2) := by decide +kernel
theorem dX0_make_29 : decode cX0_make 29 = .ok (.aload_n 0, 1) := by decide +kernel
theorem dX0_make_30 : decode cX0_make 30 = .ok (.aload_n 1, 1) := by decide +kernel
theorem dX0_make_31 : decode cX0_make 31 = .ok (.iload 5, 2) := by decide +kernel
theorem dX0_make_33 : decode cX0_make 33 = .ok (.iload_n 3, 1) := by decide +kernel
theorem dX0_make_34 : decode cX0_make 34 = .ok (.invokevirtual 89, 3) := by decide +kernel
theorem dX0_make_37 : decode cX0_make 37 = .ok (.istore 6, 2) := by decide +kernel
theorem dX0_make_39 : decode cX0_make 39 = .ok (.aload_n 0, 1) := by decide +kernel
theorem dX0_make_40 : decode cX0_make 40 = .ok (.getfield 37, 3) := by decide +kernel
theorem dX0_make_43 : decode cX0_make 43 = .ok (.iload 5, 2) := by decide +kernel
theorem dX0_make_45 : decode cX0_make 45 = .ok (.iload 6, 2) := by decide +kernel
theorem dX0_make_47 : decode cX0_make 47 = .ok (.iastore, 1) := by decide +kernel
theorem dX0_make_48 : decode cX0_make 48 = .ok (.iload 6, 2) := by decide +kernel
theorem dX0_make_50 : decode cX0_make 50 = .ok (.iconst (-1), 1) := by decide +kernel
theorem dX0_make_51 : decode cX0_make 51 = .ok (.if_icmp .eq 10, 3) := by decide +kernel
theorem dX0_make_54 : decode cX0_make 54 = .ok (.iload_n 3, 1) := by decide +kernel
theorem dX0_make_55 : decode cX0_make 55 = .ok (.iconst 1, 1) := by decide +kernel
theorem dX0_make_56 : decode cX0_make 56 = .ok (.iload 6, 2) := by decide +kernel
theorem dX0_make_58 : decode cX0_make 58 = .ok (.ishl, 1) := by decide +kernel
theorem dX0_make_59 : decode cX0_make 59 = .ok (.ior, 1) := by decide +kernel
theorem dX0_make_60 : decode cX0_make 60 = .ok (.istore_n 3, 1) := by decide +kernel
theorem dX0_make_61 : decode cX0_make 61 = .ok (.iinc 4 1, 3) := by decide +kernel
theorem dX0_make_64 : decode cX0_make 64 = .ok (.goto (-53), 3) := by decide +kernel
theorem dX0_make_67 : decode cX0_make 67 = .ok (.iload_n 3, 1) := by decide +kernel
theorem dX0_make_68 : decode cX0_make 68 = .ok (.ireturn, 1) := by decide +kernel
theorem dX0_hold_0 : decode cX0_hold 0 = .ok (.aload_n 0, 1) := by decide +kernel
theorem dX0_hold_1 : decode cX0_hold 1 = .ok (.aload_n 1, 1) := by decide +kernel
theorem dX0_hold_2 : decode cX0_hold 2 = .ok (.iload_n 2, 1) := by decide +kernel
theorem dX0_hold_3 : decode cX0_hold 3 = .ok (.invokevirtual 92, 3) := by decide +kernel
theorem dX0_hold_6 : decode cX0_hold 6 = .ok (.istore_n 3, 1) := by decide +kernel
theorem dX0_hold_7 : decode cX0_hold 7 = .ok (.iconst 0, 1) := by decide +kernel
theorem dX0_hold_8 : decode cX0_hold 8 = .ok (.istore 4, 2) := by decide +kernel
theorem dX0_hold_10 : decode cX0_hold 10 = .ok (.iload 4, 2) := by decide +kernel
theorem dX0_hold_12 : decode cX0_hold 12 = .ok (.aload_n 1, 1) := by decide +kernel
theorem dX0_hold_13 : decode cX0_hold 13 = .ok (.getfield 76, 3) := by decide +kernel
theorem dX0_hold_16 : decode cX0_hold 16 = .ok (.if_icmp .ge 78, 3) := by decide +kernel
theorem dX0_hold_19 : decode cX0_hold 19 = .ok (.aload_n 0, 1) := by decide +kernel
theorem dX0_hold_20 : decode cX0_hold 20 = .ok (.getfield 37, 3) := by decide +kernel
theorem dX0_hold_23 : decode cX0_hold 23 = .ok (.iload 4, 2) := by decide +kernel
theorem dX0_hold_25 : decode cX0_hold 25 = .ok (.iaload, 1) := by decide +kernel
theorem dX0_hold_26 : decode cX0_hold 26 = .ok (.istore 5, 2) := by decide +kernel
theorem dX0_hold_28 : decode cX0_hold 28 = .ok (.aload_n 1, 1) := by decide +kernel
theorem dX0_hold_29 : decode cX0_hold 29 = .ok (.getfield 96, 3) := by decide +kernel
theorem dX0_hold_32 : decode cX0_hold 32 = .ok (.iload 4, 2) := by decide +kernel
theorem dX0_hold_34 : decode cX0_hold 34 = .ok (.iload 5, 2) := by decide +kernel
theorem dX0_hold_36 : decode cX0_hold 36 = .ok (.iastore, 1) := by decide +kernel
theorem dX0_hold_37 : decode cX0_hold 37 = .ok (.iload 5, 2) := by decide +kernel
theorem dX0_hold_39 : decode cX0_hold 39 = .ok (.iconst (-1), 1) := by decide +kernel
theorem dX0_hold_40 : decode cX0_hold 40 = .ok (.if_icmp .eq 25, 3) := by decide +kernel
theorem dX0_hold_43 : decode cX0_hold 43 = .ok (.aload_n 1, 1) := by decide +kernel
theorem dX0_hold_44 : decode cX0_hold 44 = .ok (.getfield 99, 3) := by decide +kernel
theorem dX0_hold_47 : decode cX0_hold 47 = .ok (.iload 4, 2) := by decide +kernel
theorem dX0_hold_49 : decode cX0_hold 49 = .ok (.dup2, 1) := by decide +kernel
theorem dX0_hold_50 : decode cX0_hold 50 = .ok (.iaload, 1) := by decide +kernel
theorem dX0_hold_51 : decode cX0_hold 51 = .ok (.aload_n 0, 1) := by decide +kernel
theorem dX0_hold_52 : decode cX0_hold 52 = .ok (.aload_n 1, 1) := by decide +kernel
theorem dX0_hold_53 : decode cX0_hold 53 = .ok (.iload 4, 2) := by decide +kernel
theorem dX0_hold_55 : decode cX0_hold 55 = .ok (.iload 5, 2) := by decide +kernel
theorem dX0_hold_57 : decode cX0_hold 57 = .ok (.invokevirtual 86, 3) := by decide +kernel
theorem dX0_hold_60 : decode cX0_hold 60 = .ok (.iadd, 1) := by decide +kernel
theorem dX0_hold_61 : decode cX0_hold 61 = .ok (.iastore, 1) := by decide +kernel
theorem dX0_hold_62 : decode cX0_hold 62 = .ok (.goto 26, 3) := by decide +kernel
theorem dX0_hold_65 : decode cX0_hold 65 = .ok (.aload_n 1, 1) := by decide +kernel
theorem dX0_hold_66 : decode cX0_hold 66 = .ok (.getfield 45, 3) := by decide +kernel
theorem dX0_hold_69 : decode cX0_hold 69 = .ok (.iload 4, 2) := by decide +kernel
theorem dX0_hold_71 : decode cX0_hold 71 = .ok (.iaload, 1) := by decide +kernel
theorem dX0_hold_72 : decode cX0_hold 72 = .ok (.bipush 9, 2) := by decide +kernel
theorem dX0_hold_74 : decode cX0_hold 74 = .ok (.if_icmp .ge 14, 3) := by decide +kernel
theorem dX0_hold_77 : decode cX0_hold 77 = .ok (.aload_n 1, 1) := by decide +kernel
theorem dX0_hold_78 : decode cX0_hold 78 = .ok (.getfield 45, 3) := by decide +kernel
theorem dX0_hold_81 : decode cX0_hold 81 = .ok (.iload 4, 2) := by decide +kernel
theorem dX0_hold_83 : decode cX0_hold 83 = .ok (.dup2, 1) := by decide +kernel
theorem dX0_hold_84 : decode cX0_hold 84 = .ok (.iaload, 1) := by decide +kernel
theorem dX0_hold_85 : decode cX0_hold 85 = .ok (.iconst 1, 1) := by decide +kernel
theorem dX0_hold_86 : decode cX0_hold 86 = .ok (.iadd, 1) := by decide +kernel
theorem dX0_hold_87 : decode cX0_hold 87 = .ok (.iastore, 1) := by decide +kernel
theorem dX0_hold_88 : decode cX0_hold 88 = .ok (.iinc 4 1, 3) := by decide +kernel
theorem dX0_hold_91 : decode cX0_hold 91 = .ok (.goto (-81), 3) := by decide +kernel
theorem dX0_hold_94 : decode cX0_hold 94 = .ok (.iconst 0, 1) := by decide +kernel
theorem dX0_hold_95 : decode cX0_hold 95 = .ok (.istore 4, 2) := by decide +kernel
theorem dX0_hold_97 : decode cX0_hold 97 = .ok (.iload 4, 2) := by decide +kernel
theorem dX0_hold_99 : decode cX0_hold 99 = .ok (.aload_n 1, 1) := by decide +kernel
theorem dX0_hold_100 : decode cX0_hold 100 = .ok (.getfield 83, 3) := by decide +kernel
theorem dX0_hold_103 : decode cX0_hold 103 = .ok (.if_icmp .ge 61, 3) := by decide +kernel
theorem dX0_hold_106 : decode cX0_hold 106 = .ok (.iload_n 3, 1) := by decide +kernel
theorem dX0_hold_107 : decode cX0_hold 107 = .ok (.iload 4, 2) := by decide +kernel
theorem dX0_hold_109 : decode cX0_hold 109 = .ok (.ishr, 1) := by decide +kernel
theorem dX0_hold_110 : decode cX0_hold 110 = .ok (.iconst 1, 1) := by decide +kernel
theorem dX0_hold_111 : decode cX0_hold 111 = .ok (.iand, 1) := by decide +kernel
theorem dX0_hold_112 : decode cX0_hold 112 = .ok (.ifCond .eq 26, 3) := by decide +kernel
theorem dX0_hold_115 : decode cX0_hold 115 = .ok (.aload_n 1, 1) := by decide +kernel
theorem dX0_hold_116 : decode cX0_hold 116 = .ok (.getfield 62, 3) := by decide +kernel
theorem dX0_hold_119 : decode cX0_hold 119 = .ok (.iload 4, 2) := by decide +kernel
theorem dX0_hold_121 : decode cX0_hold 121 = .ok (.iconst 0, 1) := by decide +kernel
theorem dX0_hold_122 : decode cX0_hold 122 = .ok (.aload_n 1, 1) := by decide +kernel
theorem dX0_hold_123 : decode cX0_hold 123 = .ok (.getfield 62, 3) := by decide +kernel
theorem dX0_hold_126 : decode cX0_hold 126 = .ok (.iload 4, 2) := by decide +kernel
theorem dX0_hold_128 : decode cX0_hold 128 = .ok (.iaload, 1) := by decide +kernel
theorem dX0_hold_129 : decode cX0_hold 129 = .ok (.iconst 1, 1) := by decide +kernel
theorem dX0_hold_130 : decode cX0_hold 130 = .ok (.isub, 1) := by decide +kernel
theorem dX0_hold_131 : decode cX0_hold 131 = .ok (.invokestatic 102, 3) := by decide +kernel
theorem dX0_hold_134 : decode cX0_hold 134 = .ok (.iastore, 1) := by decide +kernel
theorem dX0_hold_135 : decode cX0_hold 135 = .ok (.goto 23, 3) := by decide +kernel
theorem dX0_hold_138 : decode cX0_hold 138 = .ok (.aload_n 1, 1) := by decide +kernel
theorem dX0_hold_139 : decode cX0_hold 139 = .ok (.getfield 59, 3) := by decide +kernel
theorem dX0_hold_142 : decode cX0_hold 142 = .ok (.iload 4, 2) := by decide +kernel
theorem dX0_hold_144 : decode cX0_hold 144 = .ok (.iconst 0, 1) := by decide +kernel
theorem dX0_hold_145 : decode cX0_hold 145 = .ok (.aload_n 1, 1) := by decide +kernel
theorem dX0_hold_146 : decode cX0_hold 146 = .ok (.getfield 59, 3) := by decide +kernel
theorem dX0_hold_149 : decode cX0_hold 149 = .ok (.iload 4, 2) := by decide +kernel
theorem dX0_hold_151 : decode cX0_hold 151 = .ok (.iaload, 1) := by decide +kernel
theorem dX0_hold_152 : decode cX0_hold 152 = .ok (.iconst 1, 1) := by decide +kernel
theorem dX0_hold_153 : decode cX0_hold 153 = .ok (.isub, 1) := by decide +kernel
theorem dX0_hold_154 : decode cX0_hold 154 = .ok (.invokestatic 102, 3) := by decide +kernel
theorem dX0_hold_157 : decode cX0_hold 157 = .ok (.iastore, 1) := by decide +kernel
theorem dX0_hold_158 : decode cX0_hold 158 = .ok (.iinc 4 1, 3) := by decide +kernel
theorem dX0_hold_161 : decode cX0_hold 161 = .ok (.goto (-64), 3) := by decide +kernel
theorem dX0_hold_164 : decode cX0_hold 164 = .ok (.aload_n 1, 1) := by decide +kernel
theorem dX0_hold_165 : decode cX0_hold 165 = .ok (.dup, 1) := by decide +kernel
theorem dX0_hold_166 : decode cX0_hold 166 = .ok (.getfield 51, 3) := by decide +kernel
theorem dX0_hold_169 : decode cX0_hold 169 = .ok (.iconst 1, 1) := by decide +kernel
theorem dX0_hold_170 : decode cX0_hold 170 = .ok (.iadd, 1) := by decide +kernel
theorem dX0_hold_171 : decode cX0_hold 171 = .ok (.putfield 51, 3) := by decide +kernel
theorem dX0_hold_174 : decode cX0_hold 174 = .ok (.return_, 1) := by decide +kernel
theorem dX1_init_0 : decode cX1_init 0 = .ok (.aload_n 0, 1) := by decide +kernel
theorem dX1_init_1 : decode cX1_init 1 = .ok (.invokespecial 1, 3) := by decide +kernel
theorem dX1_init_4 : decode cX1_init 4 = .ok (.return_, 1) := by decide +kernel
theorem dX1_furrow_0 : decode cX1_furrow 0 = .ok (.aload_n 0, 1) := by decide +kernel
theorem dX1_furrow_1 : decode cX1_furrow 1 = .ok (.iload_n 1, 1) := by decide +kernel
theorem dX1_furrow_2 : decode cX1_furrow 2 = .ok (.iload_n 2, 1) := by decide +kernel
theorem dX1_furrow_3 : decode cX1_furrow 3 = .ok (.iload_n 3, 1) := by decide +kernel
theorem dX1_furrow_4 : decode cX1_furrow 4 = .ok (.iload 4, 2) := by decide +kernel
theorem dX1_furrow_6 : decode cX1_furrow 6 = .ok (.invokespecial 7, 3) := by decide +kernel
theorem dX1_furrow_9 : decode cX1_furrow 9 = .ok (.iload 4, 2) := by decide +kernel
theorem dX1_furrow_11 : decode cX1_furrow 11 = .ok (.iconst 2, 1) := by decide +kernel
theorem dX1_furrow_12 : decode cX1_furrow 12 = .ok (.irem, 1) := by decide +kernel
theorem dX1_furrow_13 : decode cX1_furrow 13 = .ok (.ifCond .ne 7, 3) := by decide +kernel
theorem dX1_furrow_16 : decode cX1_furrow 16 = .ok (.iconst 5, 1) := by decide +kernel
theorem dX1_furrow_17 : decode cX1_furrow 17 = .ok (.goto 4, 3) := by decide +kernel
theorem dX1_furrow_20 : decode cX1_furrow 20 = .ok (.iconst 3, 1) := by decide +kernel
theorem dX1_furrow_21 : decode cX1_furrow 21 = .ok (.iadd, 1) := by decide +kernel
theorem dX1_furrow_22 : decode cX1_furrow 22 = .ok (.ireturn, 1) := by decide +kernel
theorem dX2_init_0 : decode cX2_init 0 = .ok (.aload_n 0, 1) := by decide +kernel
theorem dX2_init_1 : decode cX2_init 1 = .ok (.invokespecial 1, 3) := by decide +kernel
theorem dX2_init_4 : decode cX2_init 4 = .ok (.return_, 1) := by decide +kernel
theorem dX2_worthOf_0 : decode cX2_worthOf 0 = .ok (.aload_n 0, 1) := by decide +kernel
theorem dX2_worthOf_1 : decode cX2_worthOf 1 = .ok (.iload_n 1, 1) := by decide +kernel
theorem dX2_worthOf_2 : decode cX2_worthOf 2 = .ok (.iload_n 2, 1) := by decide +kernel
theorem dX2_worthOf_3 : decode cX2_worthOf 3 = .ok (.iload_n 3, 1) := by decide +kernel
theorem dX2_worthOf_4 : decode cX2_worthOf 4 = .ok (.invokespecial 7, 3) := by decide +kernel
theorem dX2_worthOf_7 : decode cX2_worthOf 7 = .ok (.iload_n 3, 1) := by decide +kernel
theorem dX2_worthOf_8 : decode cX2_worthOf 8 = .ok (.ifCond .eq 8, 3) := by decide +kernel
theorem dX2_worthOf_11 : decode cX2_worthOf 11 = .ok (.bipush 9, 2) := by decide +kernel
theorem dX2_worthOf_13 : decode cX2_worthOf 13 = .ok (.goto 4, 3) := by decide +kernel
theorem dX2_worthOf_16 : decode cX2_worthOf 16 = .ok (.iconst 0, 1) := by decide +kernel
theorem dX2_worthOf_17 : decode cX2_worthOf 17 = .ok (.iadd, 1) := by decide +kernel
theorem dX2_worthOf_18 : decode cX2_worthOf 18 = .ok (.ireturn, 1) := by decide +kernel
theorem dX3_init_0 : decode cX3_init 0 = .ok (.aload_n 0, 1) := by decide +kernel
theorem dX3_init_1 : decode cX3_init 1 = .ok (.invokespecial 3, 3) := by decide +kernel
theorem dX3_init_4 : decode cX3_init 4 = .ok (.aload_n 0, 1) := by decide +kernel
theorem dX3_init_5 : decode cX3_init 5 = .ok (.bipush 18, 2) := by decide +kernel
theorem dX3_init_7 : decode cX3_init 7 = .ok (.newarray .int, 2) := by decide +kernel
theorem dX3_init_9 : decode cX3_init 9 = .ok (.putfield 11, 3) := by decide +kernel
theorem dX3_init_12 : decode cX3_init 12 = .ok (.aload_n 0, 1) := by decide +kernel
theorem dX3_init_13 : decode cX3_init 13 = .ok (.bipush 18, 2) := by decide +kernel
theorem dX3_init_15 : decode cX3_init 15 = .ok (.newarray .int, 2) := by decide +kernel
theorem dX3_init_17 : decode cX3_init 17 = .ok (.putfield 15, 3) := by decide +kernel
theorem dX3_init_20 : decode cX3_init 20 = .ok (.aload_n 0, 1) := by decide +kernel
theorem dX3_init_21 : decode cX3_init 21 = .ok (.iconst 0, 1) := by decide +kernel
theorem dX3_init_22 : decode cX3_init 22 = .ok (.putfield 18, 3) := by decide +kernel
theorem dX3_init_25 : decode cX3_init 25 = .ok (.aload_n 0, 1) := by decide +kernel
theorem dX3_init_26 : decode cX3_init 26 = .ok (.aload_n 1, 1) := by decide +kernel
theorem dX3_init_27 : decode cX3_init 27 = .ok (.putfield 22, 3) := by decide +kernel
theorem dX3_init_30 : decode cX3_init 30 = .ok (.return_, 1) := by decide +kernel
theorem dX3_all_0 : decode cX3_all 0 = .ok (.iconst 1, 1) := by decide +kernel
theorem dX3_all_1 : decode cX3_all 1 = .ok (.istore_n 2, 1) := by decide +kernel
theorem dX3_all_2 : decode cX3_all 2 = .ok (.iconst 0, 1) := by decide +kernel
theorem dX3_all_3 : decode cX3_all 3 = .ok (.istore_n 3, 1) := by decide +kernel
theorem dX3_all_4 : decode cX3_all 4 = .ok (.iload_n 3, 1) := by decide +kernel
theorem dX3_all_5 : decode cX3_all 5 = .ok (.iload_n 1, 1) := by decide +kernel
theorem dX3_all_6 : decode cX3_all 6 = .ok (.if_icmp .ge 13, 3) := by decide +kernel
theorem dX3_all_9 : decode cX3_all 9 = .ok (.iload_n 2, 1) := by decide +kernel
theorem dX3_all_10 : decode cX3_all 10 = .ok (.iconst 3, 1) := by decide +kernel
theorem dX3_all_11 : decode cX3_all 11 = .ok (.imul, 1) := by decide +kernel
theorem dX3_all_12 : decode cX3_all 12 = .ok (.istore_n 2, 1) := by decide +kernel
theorem dX3_all_13 : decode cX3_all 13 = .ok (.iinc 3 1, 3) := by decide +kernel
theorem dX3_all_16 : decode cX3_all 16 = .ok (.goto (-12), 3) := by decide +kernel
theorem dX3_all_19 : decode cX3_all 19 = .ok (.iload_n 2, 1) := by decide +kernel
theorem dX3_all_20 : decode cX3_all 20 = .ok (.ireturn, 1) := by decide +kernel
theorem dX3_waysOf_0 : decode cX3_waysOf 0 = .ok (.aload_n 0, 1) := by decide +kernel
theorem dX3_waysOf_1 : decode cX3_waysOf 1 = .ok (.iconst 0, 1) := by decide +kernel
theorem dX3_waysOf_2 : decode cX3_waysOf 2 = .ok (.putfield 18, 3) := by decide +kernel
theorem dX3_waysOf_5 : decode cX3_waysOf 5 = .ok (.iconst 0, 1) := by decide +kernel
theorem dX3_waysOf_6 : decode cX3_waysOf 6 = .ok (.istore 4, 2) := by decide +kernel
theorem dX3_waysOf_8 : decode cX3_waysOf 8 = .ok (.iload 4, 2) := by decide +kernel
theorem dX3_waysOf_10 : decode cX3_waysOf 10 = .ok (.bipush 37, 2) := by decide +kernel
theorem dX3_waysOf_12 : decode cX3_waysOf 12 = .ok (.if_icmp .gt 91, 3) := by decide +kernel
theorem dX3_waysOf_15 : decode cX3_waysOf 15 = .ok (.iconst 0, 1) := by decide +kernel
theorem dX3_waysOf_16 : decode cX3_waysOf 16 = .ok (.istore 5, 2) := by decide +kernel
theorem dX3_waysOf_18 : decode cX3_waysOf 18 = .ok (.iload 5, 2) := by decide +kernel
theorem dX3_waysOf_20 : decode cX3_waysOf 20 = .ok (.aload_n 1, 1) := by decide +kernel
theorem dX3_waysOf_21 : decode cX3_waysOf 21 = .ok (.getfield 26, 3) := by decide +kernel
theorem dX3_waysOf_24 : decode cX3_waysOf 24 = .ok (.if_icmp .ge 73, 3) := by decide +kernel
theorem dX3_waysOf_27 : decode cX3_waysOf 27 = .ok (.iload 4, 2) := by decide +kernel
theorem dX3_waysOf_29 : decode cX3_waysOf 29 = .ok (.aload_n 0, 1) := by decide +kernel
theorem dX3_waysOf_30 : decode cX3_waysOf 30 = .ok (.getfield 22, 3) := by decide +kernel
theorem dX3_waysOf_33 : decode cX3_waysOf 33 = .ok (.aload_n 1, 1) := by decide +kernel
theorem dX3_waysOf_34 : decode cX3_waysOf 34 = .ok (.iload 5, 2) := by decide +kernel
theorem dX3_waysOf_36 : decode cX3_waysOf 36 = .ok (.aload_n 1, 1) := by decide +kernel
theorem dX3_waysOf_37 : decode cX3_waysOf 37 = .ok (.getfield 31, 3) := by decide +kernel
theorem dX3_waysOf_40 : decode cX3_waysOf 40 = .ok (.invokevirtual 34, 3) := by decide +kernel
theorem dX3_waysOf_43 : decode cX3_waysOf 43 = .ok (.isub, 1) := by decide +kernel
theorem dX3_waysOf_44 : decode cX3_waysOf 44 = .ok (.istore 6, 2) := by decide +kernel
theorem dX3_waysOf_46 : decode cX3_waysOf 46 = .ok (.iload 6, 2) := by decide +kernel
theorem dX3_waysOf_48 : decode cX3_waysOf 48 = .ok (.ifCond .lt 43, 3) := by decide +kernel
theorem dX3_waysOf_51 : decode cX3_waysOf 51 = .ok (.iload 6, 2) := by decide +kernel
theorem dX3_waysOf_53 : decode cX3_waysOf 53 = .ok (.iconst 3, 1) := by decide +kernel
theorem dX3_waysOf_54 : decode cX3_waysOf 54 = .ok (.if_icmp .ge 37, 3) := by decide +kernel
theorem dX3_waysOf_57 : decode cX3_waysOf 57 = .ok (.aload_n 0, 1) := by decide +kernel
theorem dX3_waysOf_58 : decode cX3_waysOf 58 = .ok (.getfield 11, 3) := by decide +kernel
theorem dX3_waysOf_61 : decode cX3_waysOf 61 = .ok (.aload_n 0, 1) := by decide +kernel
theorem dX3_waysOf_62 : decode cX3_waysOf 62 = .ok (.getfield 18, 3) := by decide +kernel
theorem dX3_waysOf_65 : decode cX3_waysOf 65 = .ok (.iload 5, 2) := by decide +kernel
theorem dX3_waysOf_67 : decode cX3_waysOf 67 = .ok (.iastore, 1) := by decide +kernel
theorem dX3_waysOf_68 : decode cX3_waysOf 68 = .ok (.aload_n 0, 1) := by decide +kernel
theorem dX3_waysOf_69 : decode cX3_waysOf 69 = .ok (.getfield 15, 3) := by decide +kernel
theorem dX3_waysOf_72 : decode cX3_waysOf 72 = .ok (.aload_n 0, 1) := by decide +kernel
theorem dX3_waysOf_73 : decode cX3_waysOf 73 = .ok (.getfield 18, 3) := by decide +kernel
theorem dX3_waysOf_76 : decode cX3_waysOf 76 = .ok (.iconst 3, 1) := by decide +kernel
theorem dX3_waysOf_77 : decode cX3_waysOf 77 = .ok (.iload 6, 2) := by decide +kernel
theorem dX3_waysOf_79 : decode cX3_waysOf 79 = .ok (.isub, 1) := by decide +kernel
theorem dX3_waysOf_80 : decode cX3_waysOf 80 = .ok (.iastore, 1) := by decide +kernel
theorem dX3_waysOf_81 : decode cX3_waysOf 81 = .ok (.aload_n 0, 1) := by decide +kernel
theorem dX3_waysOf_82 : decode cX3_waysOf 82 = .ok (.dup, 1) := by decide +kernel
theorem dX3_waysOf_83 : decode cX3_waysOf 83 = .ok (.getfield 18, 3) := by decide +kernel
theorem dX3_waysOf_86 : decode cX3_waysOf 86 = .ok (.iconst 1, 1) := by decide +kernel
theorem dX3_waysOf_87 : decode cX3_waysOf 87 = .ok (.iadd, 1) := by decide +kernel
theorem dX3_waysOf_88 : decode cX3_waysOf 88 = .ok (.putfield 18, 3) := by decide +kernel
theorem dX3_waysOf_91 : decode cX3_waysOf 91 = .ok (.iinc 5 1, 3) := by decide +kernel
theorem dX3_waysOf_94 : decode cX3_waysOf 94 = .ok (.goto (-76), 3) := by decide +kernel
theorem dX3_waysOf_97 : decode cX3_waysOf 97 = .ok (.iinc 4 1, 3) := by decide +kernel
theorem dX3_waysOf_100 : decode cX3_waysOf 100 = .ok (.goto (-92), 3) := by decide +kernel
theorem dX3_waysOf_103 : decode cX3_waysOf 103 = .ok (.aload_n 0, 1) := by decide +kernel
theorem dX3_waysOf_104 : decode cX3_waysOf 104 = .ok (.aload_n 1, 1) := by decide +kernel
theorem dX3_waysOf_105 : decode cX3_waysOf 105 = .ok (.iload_n 2, 1) := by decide +kernel
theorem dX3_waysOf_106 : decode cX3_waysOf 106 = .ok (.iload_n 3, 1) := by decide +kernel
theorem dX3_waysOf_107 : decode cX3_waysOf 107 = .ok (.iconst 0, 1) := by decide +kernel
theorem dX3_waysOf_108 : decode cX3_waysOf 108 = .ok (.iconst 0, 1) := by decide +kernel
theorem dX3_waysOf_109 : decode cX3_waysOf 109 = .ok (.iconst 0, 1) := by decide +kernel
theorem dX3_waysOf_110 : decode cX3_waysOf 110 = .ok (.invokevirtual 40, 3) := by decide +kernel
theorem dX3_waysOf_113 : decode cX3_waysOf 113 = .ok (.ireturn, 1) := by decide +kernel
theorem dX3_waysFrom_0 : decode cX3_waysFrom 0 = .ok (.iload_n 3, 1) := by decide +kernel
theorem dX3_waysFrom_1 : decode cX3_waysFrom 1 = .ok (.iconst (-1), 1) := by decide +kernel
theorem dX3_waysFrom_2 : decode cX3_waysFrom 2 = .ok (.if_icmp .eq 14, 3) := by decide +kernel
theorem dX3_waysFrom_5 : decode cX3_waysFrom 5 = .ok (.iload 6, 2) := by decide +kernel
theorem dX3_waysFrom_7 : decode cX3_waysFrom 7 = .ok (.iload_n 3, 1) := by decide +kernel
theorem dX3_waysFrom_8 : decode cX3_waysFrom 8 = .ok (.ishr, 1) := by decide +kernel
theorem dX3_waysFrom_9 : decode cX3_waysFrom 9 = .ok (.iconst 1, 1) := by decide +kernel
theorem dX3_waysFrom_10 : decode cX3_waysFrom 10 = .ok (.iand, 1) := by decide +kernel
theorem dX3_waysFrom_11 : decode cX3_waysFrom 11 = .ok (.ifCond .eq 5, 3) := by decide +kernel
theorem dX3_waysFrom_14 : decode cX3_waysFrom 14 = .ok (.iconst 0, 1) := by decide +kernel
theorem dX3_waysFrom_15 : decode cX3_waysFrom 15 = .ok (.ireturn, 1) := by decide +kernel
theorem dX3_waysFrom_16 : decode cX3_waysFrom 16 = .ok (.iload 4, 2) := by decide +kernel
theorem dX3_waysFrom_18 : decode cX3_waysFrom 18 = .ok (.istore 7, 2) := by decide +kernel
theorem dX3_waysFrom_20 : decode cX3_waysFrom 20 = .ok (.iload 7, 2) := by decide +kernel
theorem dX3_waysFrom_22 : decode cX3_waysFrom 22 = .ok (.aload_n 0, 1) := by decide +kernel
theorem dX3_waysFrom_23 : decode cX3_waysFrom 23 = .ok (.getfield 18, 3) := by decide +kernel
theorem dX3_waysFrom_26 : decode cX3_waysFrom 26 = .ok (.if_icmp .ge 24, 3) := by decide +kernel
theorem dX3_waysFrom_29 : decode cX3_waysFrom 29 = .ok (.iload 5, 2) := by decide +kernel
theorem dX3_waysFrom_31 : decode cX3_waysFrom 31 = .ok (.aload_n 0, 1) := by decide +kernel
theorem dX3_waysFrom_32 : decode cX3_waysFrom 32 = .ok (.getfield 11, 3) := by decide +kernel
theorem dX3_waysFrom_35 : decode cX3_waysFrom 35 = .ok (.iload 7, 2) := by decide +kernel
theorem dX3_waysFrom_37 : decode cX3_waysFrom 37 = .ok (.iaload, 1) := by decide +kernel
theorem dX3_waysFrom_38 : decode cX3_waysFrom 38 = .ok (.ishr, 1) := by decide +kernel
theorem dX3_waysFrom_39 : decode cX3_waysFrom 39 = .ok (.iconst 1, 1) := by decide +kernel
theorem dX3_waysFrom_40 : decode cX3_waysFrom 40 = .ok (.iand, 1) := by decide +kernel
theorem dX3_waysFrom_41 : decode cX3_waysFrom 41 = .ok (.ifCond .eq 9, 3) := by decide +kernel
theorem dX3_waysFrom_44 : decode cX3_waysFrom 44 = .ok (.iinc 7 1, 3) := by decide +kernel
theorem dX3_waysFrom_47 : decode cX3_waysFrom 47 = .ok (.goto (-27), 3) := by decide +kernel
theorem dX3_waysFrom_50 : decode cX3_waysFrom 50 = .ok (.iload 7, 2) := by decide +kernel
theorem dX3_waysFrom_52 : decode cX3_waysFrom 52 = .ok (.aload_n 0, 1) := by decide +kernel
theorem dX3_waysFrom_53 : decode cX3_waysFrom 53 = .ok (.getfield 18, 3) := by decide +kernel
theorem dX3_waysFrom_56 : decode cX3_waysFrom 56 = .ok (.if_icmp .lt 5, 3) := by decide +kernel
theorem dX3_waysFrom_59 : decode cX3_waysFrom 59 = .ok (.iconst 0, 1) := by decide +kernel
theorem dX3_waysFrom_60 : decode cX3_waysFrom 60 = .ok (.ireturn, 1) := by decide +kernel
theorem dX3_waysFrom_61 : decode cX3_waysFrom 61 = .ok (.aload_n 0, 1) := by decide +kernel
theorem dX3_waysFrom_62 : decode cX3_waysFrom 62 = .ok (.getfield 11, 3) := by decide +kernel
theorem dX3_waysFrom_65 : decode cX3_waysFrom 65 = .ok (.iload 7, 2) := by decide +kernel
theorem dX3_waysFrom_67 : decode cX3_waysFrom 67 = .ok (.iaload, 1) := by decide +kernel
theorem dX3_waysFrom_68 : decode cX3_waysFrom 68 = .ok (.istore 8, 2) := by decide +kernel
theorem dX3_waysFrom_70 : decode cX3_waysFrom 70 = .ok (.aload_n 0, 1) := by decide +kernel
theorem dX3_waysFrom_71 : decode cX3_waysFrom 71 = .ok (.getfield 22, 3) := by decide +kernel
theorem dX3_waysFrom_74 : decode cX3_waysFrom 74 = .ok (.aload_n 1, 1) := by decide +kernel
theorem dX3_waysFrom_75 : decode cX3_waysFrom 75 = .ok (.iload 8, 2) := by decide +kernel
theorem dX3_waysFrom_77 : decode cX3_waysFrom 77 = .ok (.iload 6, 2) := by decide +kernel
theorem dX3_waysFrom_79 : decode cX3_waysFrom 79 = .ok (.invokevirtual 44, 3) := by decide +kernel
theorem dX3_waysFrom_82 : decode cX3_waysFrom 82 = .ok (.istore 9, 2) := by decide +kernel
theorem dX3_waysFrom_84 : decode cX3_waysFrom 84 = .ok (.iload 5, 2) := by decide +kernel
theorem dX3_waysFrom_86 : decode cX3_waysFrom 86 = .ok (.iconst 1, 1) := by decide +kernel
theorem dX3_waysFrom_87 : decode cX3_waysFrom 87 = .ok (.iload 8, 2) := by decide +kernel
theorem dX3_waysFrom_89 : decode cX3_waysFrom 89 = .ok (.ishl, 1) := by decide +kernel
theorem dX3_waysFrom_90 : decode cX3_waysFrom 90 = .ok (.ior, 1) := by decide +kernel
theorem dX3_waysFrom_91 : decode cX3_waysFrom 91 = .ok (.istore 10, 2) := by decide +kernel
theorem dX3_waysFrom_93 : decode cX3_waysFrom 93 = .ok (.iconst 0, 1) := by decide +kernel
theorem dX3_waysFrom_94 : decode cX3_waysFrom 94 = .ok (.istore 11, 2) := by decide +kernel
theorem dX3_waysFrom_96 : decode cX3_waysFrom 96 = .ok (.iload 8, 2) := by decide +kernel
theorem dX3_waysFrom_98 : decode cX3_waysFrom 98 = .ok (.iload_n 2, 1) := by decide +kernel
theorem dX3_waysFrom_99 : decode cX3_waysFrom 99 = .ok (.if_icmp .eq 39, 3) := by decide +kernel
theorem dX3_waysFrom_102 : decode cX3_waysFrom 102 = .ok (.aload_n 0, 1) := by decide +kernel
theorem dX3_waysFrom_103 : decode cX3_waysFrom 103 = .ok (.aload_n 1, 1) := by decide +kernel
theorem dX3_waysFrom_104 : decode cX3_waysFrom 104 = .ok (.iload_n 2, 1) := by decide +kernel
theorem dX3_waysFrom_105 : decode cX3_waysFrom 105 = .ok (.iload_n 3, 1) := by decide +kernel
theorem dX3_waysFrom_106 : decode cX3_waysFrom 106 = .ok (.iload 7, 2) := by decide +kernel
theorem dX3_waysFrom_108 : decode cX3_waysFrom 108 = .ok (.iconst 1, 1) := by decide +kernel
theorem dX3_waysFrom_109 : decode cX3_waysFrom 109 = .ok (.iadd, 1) := by decide +kernel
theorem dX3_waysFrom_110 : decode cX3_waysFrom 110 = .ok (.iload 10, 2) := by decide +kernel
theorem dX3_waysFrom_112 : decode cX3_waysFrom 112 = .ok (.iload 9, 2) := by decide +kernel
theorem dX3_waysFrom_114 : decode cX3_waysFrom 114 = .ok (.iconst (-1), 1) := by decide +kernel
theorem dX3_waysFrom_115 : decode cX3_waysFrom 115 = .ok (.if_icmp .ne 8, 3) := by decide +kernel
theorem dX3_waysFrom_118 : decode cX3_waysFrom 118 = .ok (.iload 6, 2) := by decide +kernel
theorem dX3_waysFrom_120 : decode cX3_waysFrom 120 = .ok (.goto 10, 3) := by decide +kernel
theorem dX3_waysFrom_123 : decode cX3_waysFrom 123 = .ok (.iload 6, 2) := by decide +kernel
theorem dX3_waysFrom_125 : decode cX3_waysFrom 125 = .ok (.iconst 1, 1) := by decide +kernel
theorem dX3_waysFrom_126 : decode cX3_waysFrom 126 = .ok (.iload 9, 2) := by decide +kernel
theorem dX3_waysFrom_128 : decode cX3_waysFrom 128 = .ok (.ishl, 1) := by decide +kernel
theorem dX3_waysFrom_129 : decode cX3_waysFrom 129 = .ok (.ior, 1) := by decide +kernel
theorem dX3_waysFrom_130 : decode cX3_waysFrom 130 = .ok (.invokevirtual 40, 3) := by decide +kernel
theorem dX3_waysFrom_133 : decode cX3_waysFrom 133 = .ok (.istore 11, 2) := by decide +kernel
theorem dX3_waysFrom_135 : decode cX3_waysFrom 135 = .ok (.goto 21, 3) := by decide +kernel
theorem dX3_waysFrom_138 : decode cX3_waysFrom 138 = .ok (.iload 9, 2) := by decide +kernel
theorem dX3_waysFrom_140 : decode cX3_waysFrom 140 = .ok (.iload_n 3, 1) := by decide +kernel
theorem dX3_waysFrom_141 : decode cX3_waysFrom 141 = .ok (.if_icmp .ne 15, 3) := by decide +kernel
theorem dX3_waysFrom_144 : decode cX3_waysFrom 144 = .ok (.aload_n 0, 1) := by decide +kernel
theorem dX3_waysFrom_145 : decode cX3_waysFrom 145 = .ok (.iload 7, 2) := by decide +kernel
theorem dX3_waysFrom_147 : decode cX3_waysFrom 147 = .ok (.iconst 1, 1) := by decide +kernel
theorem dX3_waysFrom_148 : decode cX3_waysFrom 148 = .ok (.iadd, 1) := by decide +kernel
theorem dX3_waysFrom_149 : decode cX3_waysFrom 149 = .ok (.iload 10, 2) := by decide +kernel
theorem dX3_waysFrom_151 : decode cX3_waysFrom 151 = .ok (.invokevirtual 47, 3) := by decide +kernel
theorem dX3_waysFrom_154 : decode cX3_waysFrom 154 = .ok (.istore 11, 2) := by decide +kernel
theorem dX3_waysFrom_156 : decode cX3_waysFrom 156 = .ok (.aload_n 0, 1) := by decide +kernel
theorem dX3_waysFrom_157 : decode cX3_waysFrom 157 = .ok (.getfield 15, 3) := by decide +kernel
theorem dX3_waysFrom_160 : decode cX3_waysFrom 160 = .ok (.iload 7, 2) := by decide +kernel
theorem dX3_waysFrom_162 : decode cX3_waysFrom 162 = .ok (.iaload, 1) := by decide +kernel
theorem dX3_waysFrom_163 : decode cX3_waysFrom 163 = .ok (.iconst 1, 1) := by decide +kernel
theorem dX3_waysFrom_164 : decode cX3_waysFrom 164 = .ok (.if_icmp .ne 8, 3) := by decide +kernel
theorem dX3_waysFrom_167 : decode cX3_waysFrom 167 = .ok (.iload 11, 2) := by decide +kernel
theorem dX3_waysFrom_169 : decode cX3_waysFrom 169 = .ok (.goto 21, 3) := by decide +kernel
theorem dX3_waysFrom_172 : decode cX3_waysFrom 172 = .ok (.iload 11, 2) := by decide +kernel
theorem dX3_waysFrom_174 : decode cX3_waysFrom 174 = .ok (.aload_n 0, 1) := by decide +kernel
theorem dX3_waysFrom_175 : decode cX3_waysFrom 175 = .ok (.aload_n 1, 1) := by decide +kernel
theorem dX3_waysFrom_176 : decode cX3_waysFrom 176 = .ok (.iload_n 2, 1) := by decide +kernel
theorem dX3_waysFrom_177 : decode cX3_waysFrom 177 = .ok (.iload_n 3, 1) := by decide +kernel
theorem dX3_waysFrom_178 : decode cX3_waysFrom 178 = .ok (.iload 7, 2) := by decide +kernel
theorem dX3_waysFrom_180 : decode cX3_waysFrom 180 = .ok (.iconst 1, 1) := by decide +kernel
theorem dX3_waysFrom_181 : decode cX3_waysFrom 181 = .ok (.iadd, 1) := by decide +kernel
theorem dX3_waysFrom_182 : decode cX3_waysFrom 182 = .ok (.iload 5, 2) := by decide +kernel
theorem dX3_waysFrom_184 : decode cX3_waysFrom 184 = .ok (.iload 6, 2) := by decide +kernel
theorem dX3_waysFrom_186 : decode cX3_waysFrom 186 = .ok (.invokevirtual 40, 3) := by decide +kernel
theorem dX3_waysFrom_189 : decode cX3_waysFrom 189 = .ok (.iadd, 1) := by decide +kernel
theorem dX3_waysFrom_190 : decode cX3_waysFrom 190 = .ok (.ireturn, 1) := by decide +kernel
theorem dX3_waysOfOthers_0 : decode cX3_waysOfOthers 0 = .ok (.iconst 1, 1) := by decide +kernel
theorem dX3_waysOfOthers_1 : decode cX3_waysOfOthers 1 = .ok (.istore_n 3, 1) := by decide +kernel
theorem dX3_waysOfOthers_2 : decode cX3_waysOfOthers 2 = .ok (.iload_n 2, 1) := by decide +kernel
theorem dX3_waysOfOthers_3 : decode cX3_waysOfOthers 3 = .ok (.istore 4, 2) := by decide +kernel
theorem dX3_waysOfOthers_5 : decode cX3_waysOfOthers 5 = .ok (.iload_n 1, 1) := by decide +kernel
theorem dX3_waysOfOthers_6 : decode cX3_waysOfOthers 6 = .ok (.istore 5, 2) := by decide +kernel
theorem dX3_waysOfOthers_8 : decode cX3_waysOfOthers 8 = .ok (.iload 5, 2) := by decide +kernel
theorem dX3_waysOfOthers_10 : decode cX3_waysOfOthers 10 = .ok (.aload_n 0, 1) := by decide +kernel
theorem dX3_waysOfOthers_11 : decode cX3_waysOfOthers 11 = .ok (.getfield 18, 3) := by decide +kernel
theorem dX3_waysOfOthers_14 : decode cX3_waysOfOthers 14 = .ok (.if_icmp .ge 48, 3) := by decide +kernel
theorem dX3_waysOfOthers_17 : decode cX3_waysOfOthers 17 = .ok (.iload 4, 2) := by decide +kernel
theorem dX3_waysOfOthers_19 : decode cX3_waysOfOthers 19 = .ok (.aload_n 0, 1) := by decide +kernel
theorem dX3_waysOfOthers_20 : decode cX3_waysOfOthers 20 = .ok (.getfield 11, 3) := by decide +kernel
theorem dX3_waysOfOthers_23 : decode cX3_waysOfOthers 23 = .ok (.iload 5, 2) := by decide +kernel
theorem dX3_waysOfOthers_25 : decode cX3_waysOfOthers 25 = .ok (.iaload, 1) := by decide +kernel
theorem dX3_waysOfOthers_26 : decode cX3_waysOfOthers 26 = .ok (.ishr, 1) := by decide +kernel
theorem dX3_waysOfOthers_27 : decode cX3_waysOfOthers 27 = .ok (.iconst 1, 1) := by decide +kernel
theorem dX3_waysOfOthers_28 : decode cX3_waysOfOthers 28 = .ok (.iand, 1) := by decide +kernel
theorem dX3_waysOfOthers_29 : decode cX3_waysOfOthers 29 = .ok (.ifCond .ne 27, 3) := by decide +kernel
theorem dX3_waysOfOthers_32 : decode cX3_waysOfOthers 32 = .ok (.iload 4, 2) := by decide +kernel
theorem dX3_waysOfOthers_34 : decode cX3_waysOfOthers 34 = .ok (.iconst 1, 1) := by decide +kernel
theorem dX3_waysOfOthers_35 : decode cX3_waysOfOthers 35 = .ok (.aload_n 0, 1) := by decide +kernel
theorem dX3_waysOfOthers_36 : decode cX3_waysOfOthers 36 = .ok (.getfield 11, 3) := by decide +kernel
theorem dX3_waysOfOthers_39 : decode cX3_waysOfOthers 39 = .ok (.iload 5, 2) := by decide +kernel
theorem dX3_waysOfOthers_41 : decode cX3_waysOfOthers 41 = .ok (.iaload, 1) := by decide +kernel
theorem dX3_waysOfOthers_42 : decode cX3_waysOfOthers 42 = .ok (.ishl, 1) := by decide +kernel
theorem dX3_waysOfOthers_43 : decode cX3_waysOfOthers 43 = .ok (.ior, 1) := by decide +kernel
theorem dX3_waysOfOthers_44 : decode cX3_waysOfOthers 44 = .ok (.istore 4, 2) := by decide +kernel
theorem dX3_waysOfOthers_46 : decode cX3_waysOfOthers 46 = .ok (.iload_n 3, 1) := by decide +kernel
theorem dX3_waysOfOthers_47 : decode cX3_waysOfOthers 47 = .ok (.aload_n 0, 1) := by decide +kernel
theorem dX3_waysOfOthers_48 : decode cX3_waysOfOthers 48 = .ok (.getfield 15, 3) := by decide +kernel
theorem dX3_waysOfOthers_51 : decode cX3_waysOfOthers 51 = .ok (.iload 5, 2) := by decide +kernel
theorem dX3_waysOfOthers_53 : decode cX3_waysOfOthers 53 = .ok (.iaload, 1) := by decide +kernel
theorem dX3_waysOfOthers_54 : decode cX3_waysOfOthers 54 = .ok (.imul, 1) := by decide +kernel
theorem dX3_waysOfOthers_55 : decode cX3_waysOfOthers 55 = .ok (.istore_n 3, 1) := by decide +kernel
theorem dX3_waysOfOthers_56 : decode cX3_waysOfOthers 56 = .ok (.iinc 5 1, 3) := by decide +kernel
theorem dX3_waysOfOthers_59 : decode cX3_waysOfOthers 59 = .ok (.goto (-51), 3) := by decide +kernel
theorem dX3_waysOfOthers_62 : decode cX3_waysOfOthers 62 = .ok (.iload_n 3, 1) := by decide +kernel
theorem dX3_waysOfOthers_63 : decode cX3_waysOfOthers 63 = .ok (.ireturn, 1) := by decide +kernel
theorem dX4_init_0 : decode cX4_init 0 = .ok (.aload_n 0, 1) := by decide +kernel
theorem dX4_init_1 : decode cX4_init 1 = .ok (.invokespecial 3, 3) := by decide +kernel
theorem dX4_init_4 : decode cX4_init 4 = .ok (.aload_n 0, 1) := by decide +kernel
theorem dX4_init_5 : decode cX4_init 5 = .ok (.iconst 0, 1) := by decide +kernel
theorem dX4_init_6 : decode cX4_init 6 = .ok (.putfield 9, 3) := by decide +kernel
theorem dX4_init_9 : decode cX4_init 9 = .ok (.aload_n 0, 1) := by decide +kernel
theorem dX4_init_10 : decode cX4_init 10 = .ok (.iconst 0, 1) := by decide +kernel
theorem dX4_init_11 : decode cX4_init 11 = .ok (.putfield 15, 3) := by decide +kernel
theorem dX4_init_14 : decode cX4_init 14 = .ok (.aload_n 0, 1) := by decide +kernel
theorem dX4_init_15 : decode cX4_init 15 = .ok (.bipush 6, 2) := by decide +kernel
theorem dX4_init_17 : decode cX4_init 17 = .ok (.putfield 18, 3) := by decide +kernel
theorem dX4_init_20 : decode cX4_init 20 = .ok (.aload_n 0, 1) := by decide +kernel
theorem dX4_init_21 : decode cX4_init 21 = .ok (.iconst 0, 1) := by decide +kernel
theorem dX4_init_22 : decode cX4_init 22 = .ok (.putfield 21, 3) := by decide +kernel
theorem dX4_init_25 : decode cX4_init 25 = .ok (.aload_n 0, 1) := by decide +kernel
theorem dX4_init_26 : decode cX4_init 26 = .ok (.iconst 1, 1) := by decide +kernel
theorem dX4_init_27 : decode cX4_init 27 = .ok (.putfield 24, 3) := by decide +kernel
theorem dX4_init_30 : decode cX4_init 30 = .ok (.aload_n 0, 1) := by decide +kernel
theorem dX4_init_31 : decode cX4_init 31 = .ok (.bipush 6, 2) := by decide +kernel
theorem dX4_init_33 : decode cX4_init 33 = .ok (.newarray .int, 2) := by decide +kernel
theorem dX4_init_35 : decode cX4_init 35 = .ok (.putfield 27, 3) := by decide +kernel
theorem dX4_init_38 : decode cX4_init 38 = .ok (.aload_n 0, 1) := by decide +kernel
theorem dX4_init_39 : decode cX4_init 39 = .ok (.bipush 6, 2) := by decide +kernel
theorem dX4_init_41 : decode cX4_init 41 = .ok (.newarray .int, 2) := by decide +kernel
theorem dX4_init_43 : decode cX4_init 43 = .ok (.putfield 31, 3) := by decide +kernel
theorem dX4_init_46 : decode cX4_init 46 = .ok (.aload_n 0, 1) := by decide +kernel
theorem dX4_init_47 : decode cX4_init 47 = .ok (.bipush 6, 2) := by decide +kernel
theorem dX4_init_49 : decode cX4_init 49 = .ok (.newarray .int, 2) := by decide +kernel
theorem dX4_init_51 : decode cX4_init 51 = .ok (.putfield 34, 3) := by decide +kernel
theorem dX4_init_54 : decode cX4_init 54 = .ok (.aload_n 0, 1) := by decide +kernel
theorem dX4_init_55 : decode cX4_init 55 = .ok (.bipush 6, 2) := by decide +kernel
theorem dX4_init_57 : decode cX4_init 57 = .ok (.newarray .int, 2) := by decide +kernel
theorem dX4_init_59 : decode cX4_init 59 = .ok (.putfield 37, 3) := by decide +kernel
theorem dX4_init_62 : decode cX4_init 62 = .ok (.aload_n 0, 1) := by decide +kernel
theorem dX4_init_63 : decode cX4_init 63 = .ok (.bipush 6, 2) := by decide +kernel
theorem dX4_init_65 : decode cX4_init 65 = .ok (.newarray .int, 2) := by decide +kernel
theorem dX4_init_67 : decode cX4_init 67 = .ok (.putfield 40, 3) := by decide +kernel
theorem dX4_init_70 : decode cX4_init 70 = .ok (.aload_n 0, 1) := by decide +kernel
theorem dX4_init_71 : decode cX4_init 71 = .ok (.bipush 6, 2) := by decide +kernel
theorem dX4_init_73 : decode cX4_init 73 = .ok (.newarray .int, 2) := by decide +kernel
theorem dX4_init_75 : decode cX4_init 75 = .ok (.putfield 43, 3) := by decide +kernel
theorem dX4_init_78 : decode cX4_init 78 = .ok (.aload_n 0, 1) := by decide +kernel
theorem dX4_init_79 : decode cX4_init 79 = .ok (.bipush 6, 2) := by decide +kernel
theorem dX4_init_81 : decode cX4_init 81 = .ok (.newarray .int, 2) := by decide +kernel
theorem dX4_init_83 : decode cX4_init 83 = .ok (.putfield 46, 3) := by decide +kernel
theorem dX4_init_86 : decode cX4_init 86 = .ok (.return_, 1) := by decide +kernel
theorem dX4_become_0 : decode cX4_become 0 = .ok (.aload_n 0, 1) := by decide +kernel
theorem dX4_become_1 : decode cX4_become 1 = .ok (.aload_n 1, 1) := by decide +kernel
theorem dX4_become_2 : decode cX4_become 2 = .ok (.getfield 9, 3) := by decide +kernel
theorem dX4_become_5 : decode cX4_become 5 = .ok (.putfield 9, 3) := by decide +kernel
theorem dX4_become_8 : decode cX4_become 8 = .ok (.aload_n 0, 1) := by decide +kernel
theorem dX4_become_9 : decode cX4_become 9 = .ok (.aload_n 1, 1) := by decide +kernel
theorem dX4_become_10 : decode cX4_become 10 = .ok (.getfield 15, 3) := by decide +kernel
theorem dX4_become_13 : decode cX4_become 13 = .ok (.putfield 15, 3) := by decide +kernel
theorem dX4_become_16 : decode cX4_become 16 = .ok (.aload_n 0, 1) := by decide +kernel
theorem dX4_become_17 : decode cX4_become 17 = .ok (.aload_n 1, 1) := by decide +kernel
theorem dX4_become_18 : decode cX4_become 18 = .ok (.getfield 18, 3) := by decide +kernel
theorem dX4_become_21 : decode cX4_become 21 = .ok (.putfield 18, 3) := by decide +kernel
theorem dX4_become_24 : decode cX4_become 24 = .ok (.aload_n 0, 1) := by decide +kernel
theorem dX4_become_25 : decode cX4_become 25 = .ok (.aload_n 1, 1) := by decide +kernel
theorem dX4_become_26 : decode cX4_become 26 = .ok (.getfield 21, 3) := by decide +kernel
theorem dX4_become_29 : decode cX4_become 29 = .ok (.putfield 21, 3) := by decide +kernel
theorem dX4_become_32 : decode cX4_become 32 = .ok (.aload_n 0, 1) := by decide +kernel
theorem dX4_become_33 : decode cX4_become 33 = .ok (.aload_n 1, 1) := by decide +kernel
theorem dX4_become_34 : decode cX4_become 34 = .ok (.getfield 24, 3) := by decide +kernel
theorem dX4_become_37 : decode cX4_become 37 = .ok (.putfield 24, 3) := by decide +kernel
theorem dX4_become_40 : decode cX4_become 40 = .ok (.aload_n 1, 1) := by decide +kernel
theorem dX4_become_41 : decode cX4_become 41 = .ok (.getfield 27, 3) := by decide +kernel
theorem dX4_become_44 : decode cX4_become 44 = .ok (.iconst 0, 1) := by decide +kernel
theorem dX4_become_45 : decode cX4_become 45 = .ok (.aload_n 0, 1) := by decide +kernel
theorem dX4_become_46 : decode cX4_become 46 = .ok (.getfield 27, 3) := by decide +kernel
theorem dX4_become_49 : decode cX4_become 49 = .ok (.iconst 0, 1) := by decide +kernel
theorem dX4_become_50 : decode cX4_become 50 = .ok (.bipush 6, 2) := by decide +kernel
theorem dX4_become_52 : decode cX4_become 52 = .ok (.invokestatic 49, 3) := by decide +kernel
theorem dX4_become_55 : decode cX4_become 55 = .ok (.aload_n 1, 1) := by decide +kernel
theorem dX4_become_56 : decode cX4_become 56 = .ok (.getfield 31, 3) := by decide +kernel
theorem dX4_become_59 : decode cX4_become 59 = .ok (.iconst 0, 1) := by decide +kernel
theorem dX4_become_60 : decode cX4_become 60 = .ok (.aload_n 0, 1) := by decide +kernel
theorem dX4_become_61 : decode cX4_become 61 = .ok (.getfield 31, 3) := by decide +kernel
theorem dX4_become_64 : decode cX4_become 64 = .ok (.iconst 0, 1) := by decide +kernel
theorem dX4_become_65 : decode cX4_become 65 = .ok (.bipush 6, 2) := by decide +kernel
theorem dX4_become_67 : decode cX4_become 67 = .ok (.invokestatic 49, 3) := by decide +kernel
theorem dX4_become_70 : decode cX4_become 70 = .ok (.aload_n 1, 1) := by decide +kernel
theorem dX4_become_71 : decode cX4_become 71 = .ok (.getfield 34, 3) := by decide +kernel
theorem dX4_become_74 : decode cX4_become 74 = .ok (.iconst 0, 1) := by decide +kernel
theorem dX4_become_75 : decode cX4_become 75 = .ok (.aload_n 0, 1) := by decide +kernel
theorem dX4_become_76 : decode cX4_become 76 = .ok (.getfield 34, 3) := by decide +kernel
theorem dX4_become_79 : decode cX4_become 79 = .ok (.iconst 0, 1) := by decide +kernel
theorem dX4_become_80 : decode cX4_become 80 = .ok (.bipush 6, 2) := by decide +kernel
theorem dX4_become_82 : decode cX4_become 82 = .ok (.invokestatic 49, 3) := by decide +kernel
theorem dX4_become_85 : decode cX4_become 85 = .ok (.aload_n 1, 1) := by decide +kernel
theorem dX4_become_86 : decode cX4_become 86 = .ok (.getfield 37, 3) := by decide +kernel
theorem dX4_become_89 : decode cX4_become 89 = .ok (.iconst 0, 1) := by decide +kernel
theorem dX4_become_90 : decode cX4_become 90 = .ok (.aload_n 0, 1) := by decide +kernel
theorem dX4_become_91 : decode cX4_become 91 = .ok (.getfield 37, 3) := by decide +kernel
theorem dX4_become_94 : decode cX4_become 94 = .ok (.iconst 0, 1) := by decide +kernel
theorem dX4_become_95 : decode cX4_become 95 = .ok (.bipush 6, 2) := by decide +kernel
theorem dX4_become_97 : decode cX4_become 97 = .ok (.invokestatic 49, 3) := by decide +kernel
theorem dX4_become_100 : decode cX4_become 100 = .ok (.aload_n 1, 1) := by decide +kernel
theorem dX4_become_101 : decode cX4_become 101 = .ok (.getfield 40, 3) := by decide +kernel
theorem dX4_become_104 : decode cX4_become 104 = .ok (.iconst 0, 1) := by decide +kernel
theorem dX4_become_105 : decode cX4_become 105 = .ok (.aload_n 0, 1) := by decide +kernel
theorem dX4_become_106 : decode cX4_become 106 = .ok (.getfield 40, 3) := by decide +kernel
theorem dX4_become_109 : decode cX4_become 109 = .ok (.iconst 0, 1) := by decide +kernel
theorem dX4_become_110 : decode cX4_become 110 = .ok (.bipush 6, 2) := by decide +kernel
theorem dX4_become_112 : decode cX4_become 112 = .ok (.invokestatic 49, 3) := by decide +kernel
theorem dX4_become_115 : decode cX4_become 115 = .ok (.aload_n 1, 1) := by decide +kernel
theorem dX4_become_116 : decode cX4_become 116 = .ok (.getfield 43, 3) := by decide +kernel
theorem dX4_become_119 : decode cX4_become 119 = .ok (.iconst 0, 1) := by decide +kernel
theorem dX4_become_120 : decode cX4_become 120 = .ok (.aload_n 0, 1) := by decide +kernel
theorem dX4_become_121 : decode cX4_become 121 = .ok (.getfield 43, 3) := by decide +kernel
theorem dX4_become_124 : decode cX4_become 124 = .ok (.iconst 0, 1) := by decide +kernel
theorem dX4_become_125 : decode cX4_become 125 = .ok (.bipush 6, 2) := by decide +kernel
theorem dX4_become_127 : decode cX4_become 127 = .ok (.invokestatic 49, 3) := by decide +kernel
theorem dX4_become_130 : decode cX4_become 130 = .ok (.aload_n 1, 1) := by decide +kernel
theorem dX4_become_131 : decode cX4_become 131 = .ok (.getfield 46, 3) := by decide +kernel
theorem dX4_become_134 : decode cX4_become 134 = .ok (.iconst 0, 1) := by decide +kernel
theorem dX4_become_135 : decode cX4_become 135 = .ok (.aload_n 0, 1) := by decide +kernel
theorem dX4_become_136 : decode cX4_become 136 = .ok (.getfield 46, 3) := by decide +kernel
theorem dX4_become_139 : decode cX4_become 139 = .ok (.iconst 0, 1) := by decide +kernel
theorem dX4_become_140 : decode cX4_become 140 = .ok (.bipush 6, 2) := by decide +kernel
theorem dX4_become_142 : decode cX4_become 142 = .ok (.invokestatic 49, 3) := by decide +kernel
theorem dX4_become_145 : decode cX4_become 145 = .ok (.return_, 1) := by decide +kernel
theorem dX4_empty_0 : decode cX4_empty 0 = .ok (.aload_n 0, 1) := by decide +kernel
theorem dX4_empty_1 : decode cX4_empty 1 = .ok (.iconst 0, 1) := by decide +kernel
theorem dX4_empty_2 : decode cX4_empty 2 = .ok (.putfield 9, 3) := by decide +kernel
theorem dX4_empty_5 : decode cX4_empty 5 = .ok (.aload_n 0, 1) := by decide +kernel
theorem dX4_empty_6 : decode cX4_empty 6 = .ok (.iconst 0, 1) := by decide +kernel
theorem dX4_empty_7 : decode cX4_empty 7 = .ok (.putfield 15, 3) := by decide +kernel
theorem dX4_empty_10 : decode cX4_empty 10 = .ok (.aload_n 0, 1) := by decide +kernel
theorem dX4_empty_11 : decode cX4_empty 11 = .ok (.iconst 0, 1) := by decide +kernel
theorem dX4_empty_12 : decode cX4_empty 12 = .ok (.putfield 21, 3) := by decide +kernel
theorem dX4_empty_15 : decode cX4_empty 15 = .ok (.return_, 1) := by decide +kernel
theorem dX4_addMan_0 : decode cX4_addMan 0 = .ok (.aload_n 0, 1) := by decide +kernel
theorem dX4_addMan_1 : decode cX4_addMan 1 = .ok (.getfield 27, 3) := by decide +kernel
theorem dX4_addMan_4 : decode cX4_addMan 4 = .ok (.aload_n 0, 1) := by decide +kernel
theorem dX4_addMan_5 : decode cX4_addMan 5 = .ok (.getfield 9, 3) := by decide +kernel
theorem dX4_addMan_8 : decode cX4_addMan 8 = .ok (.iload_n 1, 1) := by decide +kernel
theorem dX4_addMan_9 : decode cX4_addMan 9 = .ok (.iastore, 1) := by decide +kernel
theorem dX4_addMan_10 : decode cX4_addMan 10 = .ok (.aload_n 0, 1) := by decide +kernel
theorem dX4_addMan_11 : decode cX4_addMan 11 = .ok (.getfield 31, 3) := by decide +kernel
theorem dX4_addMan_14 : decode cX4_addMan 14 = .ok (.aload_n 0, 1) := by decide +kernel
theorem dX4_addMan_15 : decode cX4_addMan 15 = .ok (.getfield 9, 3) := by decide +kernel
theorem dX4_addMan_18 : decode cX4_addMan 18 = .ok (.iload_n 2, 1) := by decide +kernel
theorem dX4_addMan_19 : decode cX4_addMan 19 = .ok (.iastore, 1) := by decide +kernel
theorem dX4_addMan_20 : decode cX4_addMan 20 = .ok (.aload_n 0, 1) := by decide +kernel
theorem dX4_addMan_21 : decode cX4_addMan 21 = .ok (.getfield 34, 3) := by decide +kernel
theorem dX4_addMan_24 : decode cX4_addMan 24 = .ok (.aload_n 0, 1) := by decide +kernel
theorem dX4_addMan_25 : decode cX4_addMan 25 = .ok (.getfield 9, 3) := by decide +kernel
theorem dX4_addMan_28 : decode cX4_addMan 28 = .ok (.iload_n 3, 1) := by decide +kernel
theorem dX4_addMan_29 : decode cX4_addMan 29 = .ok (.iastore, 1) := by decide +kernel
theorem dX4_addMan_30 : decode cX4_addMan 30 = .ok (.aload_n 0, 1) := by decide +kernel
theorem dX4_addMan_31 : decode cX4_addMan 31 = .ok (.getfield 37, 3) := by decide +kernel
theorem dX4_addMan_34 : decode cX4_addMan 34 = .ok (.aload_n 0, 1) := by decide +kernel
theorem dX4_addMan_35 : decode cX4_addMan 35 = .ok (.getfield 9, 3) := by decide +kernel
theorem dX4_addMan_38 : decode cX4_addMan 38 = .ok (.iconst 0, 1) := by decide +kernel
theorem dX4_addMan_39 : decode cX4_addMan 39 = .ok (.iastore, 1) := by decide +kernel
theorem dX4_addMan_40 : decode cX4_addMan 40 = .ok (.aload_n 0, 1) := by decide +kernel
theorem dX4_addMan_41 : decode cX4_addMan 41 = .ok (.getfield 40, 3) := by decide +kernel
theorem dX4_addMan_44 : decode cX4_addMan 44 = .ok (.aload_n 0, 1) := by decide +kernel
theorem dX4_addMan_45 : decode cX4_addMan 45 = .ok (.getfield 9, 3) := by decide +kernel
theorem dX4_addMan_48 : decode cX4_addMan 48 = .ok (.iconst (-1), 1) := by decide +kernel
theorem dX4_addMan_49 : decode cX4_addMan 49 = .ok (.iastore, 1) := by decide +kernel
theorem dX4_addMan_50 : decode cX4_addMan 50 = .ok (.aload_n 0, 1) := by decide +kernel
theorem dX4_addMan_51 : decode cX4_addMan 51 = .ok (.dup, 1) := by decide +kernel
theorem dX4_addMan_52 : decode cX4_addMan 52 = .ok (.getfield 9, 3) := by decide +kernel
theorem dX4_addMan_55 : decode cX4_addMan 55 = .ok (.iconst 1, 1) := by decide +kernel
theorem dX4_addMan_56 : decode cX4_addMan 56 = .ok (.iadd, 1) := by decide +kernel
theorem dX4_addMan_57 : decode cX4_addMan 57 = .ok (.putfield 9, 3) := by decide +kernel
theorem dX4_addMan_60 : decode cX4_addMan 60 = .ok (.return_, 1) := by decide +kernel
theorem dX4_addName_0 : decode cX4_addName 0 = .ok (.aload_n 0, 1) := by decide +kernel
theorem dX4_addName_1 : decode cX4_addName 1 = .ok (.getfield 43, 3) := by decide +kernel
theorem dX4_addName_4 : decode cX4_addName 4 = .ok (.aload_n 0, 1) := by decide +kernel
theorem dX4_addName_5 : decode cX4_addName 5 = .ok (.getfield 15, 3) := by decide +kernel
theorem dX4_addName_8 : decode cX4_addName 8 = .ok (.iload_n 1, 1) := by decide +kernel
theorem dX4_addName_9 : decode cX4_addName 9 = .ok (.iastore, 1) := by decide +kernel
theorem dX4_addName_10 : decode cX4_addName 10 = .ok (.aload_n 0, 1) := by decide +kernel
theorem dX4_addName_11 : decode cX4_addName 11 = .ok (.getfield 46, 3) := by decide +kernel
theorem dX4_addName_14 : decode cX4_addName 14 = .ok (.aload_n 0, 1) := by decide +kernel
theorem dX4_addName_15 : decode cX4_addName 15 = .ok (.getfield 15, 3) := by decide +kernel
theorem dX4_addName_18 : decode cX4_addName 18 = .ok (.iload_n 2, 1) := by decide +kernel
theorem dX4_addName_19 : decode cX4_addName 19 = .ok (.iastore, 1) := by decide +kernel
theorem dX4_addName_20 : decode cX4_addName 20 = .ok (.aload_n 0, 1) := by decide +kernel
theorem dX4_addName_21 : decode cX4_addName 21 = .ok (.dup, 1) := by decide +kernel
theorem dX4_addName_22 : decode cX4_addName 22 = .ok (.getfield 15, 3) := by decide +kernel
theorem dX4_addName_25 : decode cX4_addName 25 = .ok (.iconst 1, 1) := by decide +kernel
theorem dX4_addName_26 : decode cX4_addName 26 = .ok (.iadd, 1) := by decide +kernel
theorem dX4_addName_27 : decode cX4_addName 27 = .ok (.putfield 15, 3) := by decide +kernel
theorem dX4_addName_30 : decode cX4_addName 30 = .ok (.return_, 1) := by decide +kernel
theorem dX4_whoIsCalled_0 : decode cX4_whoIsCalled 0 = .ok (.iconst 0, 1) := by decide +kernel
theorem dX4_whoIsCalled_1 : decode cX4_whoIsCalled 1 = .ok (.istore_n 2, 1) := by decide +kernel
theorem dX4_whoIsCalled_2 : decode cX4_whoIsCalled 2 = .ok (.iload_n 2, 1) := by decide +kernel
theorem dX4_whoIsCalled_3 : decode cX4_whoIsCalled 3 = .ok (.aload_n 0, 1) := by decide +kernel
theorem dX4_whoIsCalled_4 : decode cX4_whoIsCalled 4 = .ok (.getfield 9, 3) := by decide +kernel
theorem dX4_whoIsCalled_7 : decode cX4_whoIsCalled 7 = .ok (.if_icmp .ge 21, 3) := by decide +kernel
theorem dX4_whoIsCalled_10 : decode cX4_whoIsCalled 10 = .ok (.aload_n 0, 1) := by decide +kernel
theorem dX4_whoIsCalled_11 : decode cX4_whoIsCalled 11 = .ok (.getfield 40, 3) := by decide +kernel
theorem dX4_whoIsCalled_14 : decode cX4_whoIsCalled 14 = .ok (.iload_n 2, 1) := by decide +kernel
theorem dX4_whoIsCalled_15 : decode cX4_whoIsCalled 15 = .ok (.iaload, 1) := by decide +kernel
theorem dX4_whoIsCalled_16 : decode cX4_whoIsCalled 16 = .ok (.iload_n 1, 1) := by decide +kernel
theorem dX4_whoIsCalled_17 : decode cX4_whoIsCalled 17 = .ok (.if_icmp .ne 5, 3) := by decide +kernel
theorem dX4_whoIsCalled_20 : decode cX4_whoIsCalled 20 = .ok (.iload_n 2, 1) := by decide +kernel
theorem dX4_whoIsCalled_21 : decode cX4_whoIsCalled 21 = .ok (.ireturn, 1) := by decide +kernel
theorem dX4_whoIsCalled_22 : decode cX4_whoIsCalled 22 = .ok (.iinc 2 1, 3) := by decide +kernel
theorem dX4_whoIsCalled_25 : decode cX4_whoIsCalled 25 = .ok (.goto (-23), 3) := by decide +kernel
theorem dX4_whoIsCalled_28 : decode cX4_whoIsCalled 28 = .ok (.iconst (-1), 1) := by decide +kernel
theorem dX4_whoIsCalled_29 : decode cX4_whoIsCalled 29 = .ok (.ireturn, 1) := by decide +kernel
theorem dX4_drawStones_0 : decode cX4_drawStones 0 = .ok (.aload_n 0, 1) := by decide +kernel
theorem dX4_drawStones_1 : decode cX4_drawStones 1 = .ok (.aload_n 0, 1) := by decide +kernel
theorem dX4_drawStones_2 : decode cX4_drawStones 2 = .ok (.getfield 24, 3) := by decide +kernel
theorem dX4_drawStones_5 : decode cX4_drawStones 5 = .ok (.ldc 55, 2) := by decide +kernel
theorem dX4_drawStones_7 : decode cX4_drawStones 7 = .ok (.imul, 1) := by decide +kernel
theorem dX4_drawStones_8 : decode cX4_drawStones 8 = .ok (.sipush 12345, 3) := by decide +kernel
theorem dX4_drawStones_11 : decode cX4_drawStones 11 = .ok (.iadd, 1) := by decide +kernel
theorem dX4_drawStones_12 : decode cX4_drawStones 12 = .ok (.ldc 56, 2) := by decide +kernel
theorem dX4_drawStones_14 : decode cX4_drawStones 14 = .ok (.iand, 1) := by decide +kernel
theorem dX4_drawStones_15 : decode cX4_drawStones 15 = .ok (.putfield 24, 3) := by decide +kernel
theorem dX4_drawStones_18 : decode cX4_drawStones 18 = .ok (.aload_n 0, 1) := by decide +kernel
theorem dX4_drawStones_19 : decode cX4_drawStones 19 = .ok (.getfield 24, 3) := by decide +kernel
theorem dX4_drawStones_22 : decode cX4_drawStones 22 = .ok (.ldc 57, 2) := by decide +kernel
theorem dX4_drawStones_24 : decode cX4_drawStones 24 = .ok (.idiv, 1) := by decide +kernel
theorem dX4_drawStones_25 : decode cX4_drawStones 25 = .ok (.bipush 21, 2) := by decide +kernel
theorem dX4_drawStones_27 : decode cX4_drawStones 27 = .ok (.irem, 1) := by decide +kernel
theorem dX4_drawStones_28 : decode cX4_drawStones 28 = .ok (.ireturn, 1) := by decide +kernel
theorem dX5_init_0 : decode cX5_init 0 = .ok (.aload_n 0, 1) := by decide +kernel
theorem dX5_init_1 : decode cX5_init 1 = .ok (.invokespecial 1, 3) := by decide +kernel
theorem dX5_init_4 : decode cX5_init 4 = .ok (.aload_n 0, 1) := by decide +kernel
theorem dX5_init_5 : decode cX5_init 5 = .ok (.bipush 8, 2) := by decide +kernel
theorem dX5_init_7 : decode cX5_init 7 = .ok (.anewarray 9, 3) := by decide +kernel
theorem dX5_init_10 : decode cX5_init 10 = .ok (.putfield 11, 3) := by decide +kernel
theorem dX5_init_13 : decode cX5_init 13 = .ok (.aload_n 0, 1) := by decide +kernel
theorem dX5_init_14 : decode cX5_init 14 = .ok (.iconst 0, 1) := by decide +kernel
theorem dX5_init_15 : decode cX5_init 15 = .ok (.putfield 15, 3) := by decide +kernel
theorem dX5_init_18 : decode cX5_init 18 = .ok (.aload_n 0, 1) := by decide +kernel
theorem dX5_init_19 : decode cX5_init 19 = .ok (.iconst 0, 1) := by decide +kernel
theorem dX5_init_20 : decode cX5_init 20 = .ok (.putfield 19, 3) := by decide +kernel
theorem dX5_init_23 : decode cX5_init 23 = .ok (.iconst 0, 1) := by decide +kernel
theorem dX5_init_24 : decode cX5_init 24 = .ok (.istore_n 1, 1) := by decide +kernel
theorem dX5_init_25 : decode cX5_init 25 = .ok (.iload_n 1, 1) := by decide +kernel
theorem dX5_init_26 : decode cX5_init 26 = .ok (.bipush 8, 2) := by decide +kernel
theorem dX5_init_28 : decode cX5_init 28 = .ok (.if_icmp .ge 22, 3) := by decide +kernel
theorem dX5_init_31 : decode cX5_init 31 = .ok (.aload_n 0, 1) := by decide +kernel
theorem dX5_init_32 : decode cX5_init 32 = .ok (.getfield 11, 3) := by decide +kernel
theorem dX5_init_35 : decode cX5_init 35 = .ok (.iload_n 1, 1) := by decide +kernel
theorem dX5_init_36 : decode cX5_init 36 = .ok (.new 9, 3) := by decide +kernel
theorem dX5_init_39 : decode cX5_init 39 = .ok (.dup, 1) := by decide +kernel
theorem dX5_init_40 : decode cX5_init 40 = .ok (.invokespecial 22, 3) := by decide +kernel
theorem dX5_init_43 : decode cX5_init 43 = .ok (.aastore, 1) := by decide +kernel
theorem dX5_init_44 : decode cX5_init 44 = .ok (.iinc 1 1, 3) := by decide +kernel
theorem dX5_init_47 : decode cX5_init 47 = .ok (.goto (-22), 3) := by decide +kernel
theorem dX5_init_50 : decode cX5_init 50 = .ok (.return_, 1) := by decide +kernel
theorem dX5_forget_0 : decode cX5_forget 0 = .ok (.aload_n 0, 1) := by decide +kernel
theorem dX5_forget_1 : decode cX5_forget 1 = .ok (.iconst 0, 1) := by decide +kernel
theorem dX5_forget_2 : decode cX5_forget 2 = .ok (.putfield 19, 3) := by decide +kernel
theorem dX5_forget_5 : decode cX5_forget 5 = .ok (.return_, 1) := by decide +kernel
theorem dX5_keep_0 : decode cX5_keep 0 = .ok (.aload_n 0, 1) := by decide +kernel
theorem dX5_keep_1 : decode cX5_keep 1 = .ok (.aload_n 0, 1) := by decide +kernel
theorem dX5_keep_2 : decode cX5_keep 2 = .ok (.getfield 19, 3) := by decide +kernel
theorem dX5_keep_5 : decode cX5_keep 5 = .ok (.iconst 1, 1) := by decide +kernel
theorem dX5_keep_6 : decode cX5_keep 6 = .ok (.iadd, 1) := by decide +kernel
theorem dX5_keep_7 : decode cX5_keep 7 = .ok (.bipush 8, 2) := by decide +kernel
theorem dX5_keep_9 : decode cX5_keep 9 = .ok (.invokestatic 23, 3) := by decide +kernel
theorem dX5_keep_12 : decode cX5_keep 12 = .ok (.putfield 19, 3) := by decide +kernel
theorem dX5_keep_15 : decode cX5_keep 15 = .ok (.aload_n 0, 1) := by decide +kernel
theorem dX5_keep_16 : decode cX5_keep 16 = .ok (.aload_n 0, 1) := by decide +kernel
theorem dX5_keep_17 : decode cX5_keep 17 = .ok (.getfield 15, 3) := by decide +kernel
theorem dX5_keep_20 : decode cX5_keep 20 = .ok (.iconst 1, 1) := by decide +kernel
theorem dX5_keep_21 : decode cX5_keep 21 = .ok (.iadd, 1) := by decide +kernel
theorem dX5_keep_22 : decode cX5_keep 22 = .ok (.bipush 8, 2) := by decide +kernel
theorem dX5_keep_24 : decode cX5_keep 24 = .ok (.irem, 1) := by decide +kernel
theorem dX5_keep_25 : decode cX5_keep 25 = .ok (.putfield 15, 3) := by decide +kernel
theorem dX5_keep_28 : decode cX5_keep 28 = .ok (.aload_n 0, 1) := by decide +kernel
theorem dX5_keep_29 : decode cX5_keep 29 = .ok (.getfield 11, 3) := by decide +kernel
theorem dX5_keep_32 : decode cX5_keep 32 = .ok (.aload_n 0, 1) := by decide +kernel
theorem dX5_keep_33 : decode cX5_keep 33 = .ok (.getfield 15, 3) := by decide +kernel
theorem dX5_keep_36 : decode cX5_keep 36 = .ok (.aaload, 1) := by decide +kernel
theorem dX5_keep_37 : decode cX5_keep 37 = .ok (.aload_n 1, 1) := by decide +kernel
theorem dX5_keep_38 : decode cX5_keep 38 = .ok (.invokevirtual 29, 3) := by decide +kernel
theorem dX5_keep_41 : decode cX5_keep 41 = .ok (.return_, 1) := by decide +kernel
theorem dX5_latest_0 : decode cX5_latest 0 = .ok (.aload_n 0, 1) := by decide +kernel
theorem dX5_latest_1 : decode cX5_latest 1 = .ok (.getfield 19, 3) := by decide +kernel
theorem dX5_latest_4 : decode cX5_latest 4 = .ok (.ifCond .ne 7, 3) := by decide +kernel
theorem dX5_latest_7 : decode cX5_latest 7 = .ok (.aconst_null, 1) := by decide +kernel
theorem dX5_latest_8 : decode cX5_latest 8 = .ok (.goto 12, 3) := by decide +kernel
theorem dX5_latest_11 : decode cX5_latest 11 = .ok (.aload_n 0, 1) := by decide +kernel
theorem dX5_latest_12 : decode cX5_latest 12 = .ok (.getfield 11, 3) := by decide +kernel
theorem dX5_latest_15 : decode cX5_latest 15 = .ok (.aload_n 0, 1) := by decide +kernel
theorem dX5_latest_16 : decode cX5_latest 16 = .ok (.getfield 15, 3) := by decide +kernel
theorem dX5_latest_19 : decode cX5_latest 19 = .ok (.aaload, 1) := by decide +kernel
theorem dX5_latest_20 : decode cX5_latest 20 = .ok (.areturn, 1) := by decide +kernel
theorem dX5_dropLatest_0 : decode cX5_dropLatest 0 = .ok (.aload_n 0, 1) := by decide +kernel
theorem dX5_dropLatest_1 : decode cX5_dropLatest 1 = .ok (.getfield 19, 3) := by decide +kernel
theorem dX5_dropLatest_4 : decode cX5_dropLatest 4 = .ok (.ifCond .le 29, 3) := by decide +kernel
theorem dX5_dropLatest_7 : decode cX5_dropLatest 7 = .ok (.aload_n 0, 1) := by decide +kernel
theorem dX5_dropLatest_8 : decode cX5_dropLatest 8 = .ok (.dup, 1) := by decide +kernel
theorem dX5_dropLatest_9 : decode cX5_dropLatest 9 = .ok (.getfield 19, 3) := by decide +kernel
theorem dX5_dropLatest_12 : decode cX5_dropLatest 12 = .ok (.iconst 1, 1) := by decide +kernel
theorem dX5_dropLatest_13 : decode cX5_dropLatest 13 = .ok (.isub, 1) := by decide +kernel
theorem dX5_dropLatest_14 : decode cX5_dropLatest 14 = .ok (.putfield 19, 3) := by decide +kernel
theorem dX5_dropLatest_17 : decode cX5_dropLatest 17 = .ok (.aload_n 0, 1) := by decide +kernel
theorem dX5_dropLatest_18 : decode cX5_dropLatest 18 = .ok (.aload_n 0, 1) := by decide +kernel
theorem dX5_dropLatest_19 : decode cX5_dropLatest 19 = .ok (.getfield 15, 3) := by decide +kernel
theorem dX5_dropLatest_22 : decode cX5_dropLatest 22 = .ok (.bipush 8, 2) := by decide +kernel
theorem dX5_dropLatest_24 : decode cX5_dropLatest 24 = .ok (.iadd, 1) := by decide +kernel
theorem dX5_dropLatest_25 : decode cX5_dropLatest 25 = .ok (.iconst 1, 1) := by decide +kernel
theorem dX5_dropLatest_26 : decode cX5_dropLatest 26 = .ok (.isub, 1) := by decide +kernel
theorem dX5_dropLatest_27 : decode cX5_dropLatest 27 = .ok (.bipush 8, 2) := by decide +kernel
theorem dX5_dropLatest_29 : decode cX5_dropLatest 29 = .ok (.irem, 1) := by decide +kernel
theorem dX5_dropLatest_30 : decode cX5_dropLatest 30 = .ok (.putfield 15, 3) := by decide +kernel
theorem dX5_dropLatest_33 : decode cX5_dropLatest 33 = .ok (.return_, 1) := by decide +kernel
theorem dX5_become_0 : decode cX5_become 0 = .ok (.aload_n 0, 1) := by decide +kernel
theorem dX5_become_1 : decode cX5_become 1 = .ok (.aload_n 1, 1) := by decide +kernel
theorem dX5_become_2 : decode cX5_become 2 = .ok (.getfield 19, 3) := by decide +kernel
theorem dX5_become_5 : decode cX5_become 5 = .ok (.putfield 19, 3) := by decide +kernel
theorem dX5_become_8 : decode cX5_become 8 = .ok (.aload_n 0, 1) := by decide +kernel
theorem dX5_become_9 : decode cX5_become 9 = .ok (.aload_n 1, 1) := by decide +kernel
theorem dX5_become_10 : decode cX5_become 10 = .ok (.getfield 15, 3) := by decide +kernel
theorem dX5_become_13 : decode cX5_become 13 = .ok (.putfield 15, 3) := by decide +kernel
theorem dX5_become_16 : decode cX5_become 16 = .ok (.iconst 0, 1) := by decide +kernel
theorem dX5_become_17 : decode cX5_become 17 = .ok (.istore_n 2, 1) := by decide +kernel
theorem dX5_become_18 : decode cX5_become 18 = .ok (.iload_n 2, 1) := by decide +kernel
theorem dX5_become_19 : decode cX5_become 19 = .ok (.bipush 8, 2) := by decide +kernel
theorem dX5_become_21 : decode cX5_become 21 = .ok (.if_icmp .ge 24, 3) := by decide +kernel
theorem dX5_become_24 : decode cX5_become 24 = .ok (.aload_n 0, 1) := by decide +kernel
theorem dX5_become_25 : decode cX5_become 25 = .ok (.getfield 11, 3) := by decide +kernel
theorem dX5_become_28 : decode cX5_become 28 = .ok (.iload_n 2, 1) := by decide +kernel
theorem dX5_become_29 : decode cX5_become 29 = .ok (.aaload, 1) := by decide +kernel
theorem dX5_become_30 : decode cX5_become 30 = .ok (.aload_n 1, 1) := by decide +kernel
theorem dX5_become_31 : decode cX5_become 31 = .ok (.getfield 11, 3) := by decide +kernel
theorem dX5_become_34 : decode cX5_become 34 = .ok (.iload_n 2, 1) := by decide +kernel
theorem dX5_become_35 : decode cX5_become 35 = .ok (.aaload, 1) := by decide +kernel
theorem dX5_become_36 : decode cX5_become 36 = .ok (.invokevirtual 29, 3) := by decide +kernel
theorem dX5_become_39 : decode cX5_become 39 = .ok (.iinc 2 1, 3) := by decide +kernel
theorem dX5_become_42 : decode cX5_become 42 = .ok (.goto (-24), 3) := by decide +kernel
theorem dX5_become_45 : decode cX5_become 45 = .ok (.return_, 1) := by decide +kernel
theorem dX6_init_0 : decode cX6_init 0 = .ok (.aload_n 0, 1) := by decide +kernel
theorem dX6_init_1 : decode cX6_init 1 = .ok (.invokespecial 1, 3) := by decide +kernel
theorem dX6_init_4 : decode cX6_init 4 = .ok (.return_, 1) := by decide +kernel
theorem dX6_furrow_0 : decode cX6_furrow 0 = .ok (.bipush 10, 2) := by decide +kernel
theorem dX6_furrow_2 : decode cX6_furrow 2 = .ok (.iload_n 1, 1) := by decide +kernel
theorem dX6_furrow_3 : decode cX6_furrow 3 = .ok (.isub, 1) := by decide +kernel
theorem dX6_furrow_4 : decode cX6_furrow 4 = .ok (.iload_n 2, 1) := by decide +kernel
theorem dX6_furrow_5 : decode cX6_furrow 5 = .ok (.iconst 1, 1) := by decide +kernel
theorem dX6_furrow_6 : decode cX6_furrow 6 = .ok (.if_icmp .ge 7, 3) := by decide +kernel
theorem dX6_furrow_9 : decode cX6_furrow 9 = .ok (.iload_n 3, 1) := by decide +kernel
theorem dX6_furrow_10 : decode cX6_furrow 10 = .ok (.goto 6, 3) := by decide +kernel
theorem dX6_furrow_13 : decode cX6_furrow 13 = .ok (.iload_n 3, 1) := by decide +kernel
theorem dX6_furrow_14 : decode cX6_furrow 14 = .ok (.iload_n 2, 1) := by decide +kernel
theorem dX6_furrow_15 : decode cX6_furrow 15 = .ok (.idiv, 1) := by decide +kernel
theorem dX6_furrow_16 : decode cX6_furrow 16 = .ok (.iadd, 1) := by decide +kernel
theorem dX6_furrow_17 : decode cX6_furrow 17 = .ok (.ireturn, 1) := by decide +kernel
theorem dX6_worthOf_0 : decode cX6_worthOf 0 = .ok (.iload_n 1, 1) := by decide +kernel
theorem dX6_worthOf_1 : decode cX6_worthOf 1 = .ok (.iload_n 2, 1) := by decide +kernel
theorem dX6_worthOf_2 : decode cX6_worthOf 2 = .ok (.isub, 1) := by decide +kernel
theorem dX6_worthOf_3 : decode cX6_worthOf 3 = .ok (.ireturn, 1) := by decide +kernel
theorem dX7_init_0 : decode cX7_init 0 = .ok (.aload_n 0, 1) := by decide +kernel
theorem dX7_init_1 : decode cX7_init 1 = .ok (.invokespecial 1, 3) := by decide +kernel
theorem dX7_init_4 : decode cX7_init 4 = .ok (.return_, 1) := by decide +kernel
theorem dX7_worthOf_0 : decode cX7_worthOf 0 = .ok (.iload_n 1, 1) := by decide +kernel
theorem dX7_worthOf_1 : decode cX7_worthOf 1 = .ok (.iconst 2, 1) := by decide +kernel
theorem dX7_worthOf_2 : decode cX7_worthOf 2 = .ok (.iload_n 2, 1) := by decide +kernel
theorem dX7_worthOf_3 : decode cX7_worthOf 3 = .ok (.imul, 1) := by decide +kernel
theorem dX7_worthOf_4 : decode cX7_worthOf 4 = .ok (.isub, 1) := by decide +kernel
theorem dX7_worthOf_5 : decode cX7_worthOf 5 = .ok (.ireturn, 1) := by decide +kernel
theorem dX8_init_0 : decode cX8_init 0 = .ok (.aload_n 0, 1) := by decide +kernel
theorem dX8_init_1 : decode cX8_init 1 = .ok (.invokespecial 1, 3) := by decide +kernel
theorem dX8_init_4 : decode cX8_init 4 = .ok (.return_, 1) := by decide +kernel
theorem dX8_worthOf_0 : decode cX8_worthOf 0 = .ok (.iconst 2, 1) := by decide +kernel
theorem dX8_worthOf_1 : decode cX8_worthOf 1 = .ok (.iload_n 1, 1) := by decide +kernel
theorem dX8_worthOf_2 : decode cX8_worthOf 2 = .ok (.imul, 1) := by decide +kernel
theorem dX8_worthOf_3 : decode cX8_worthOf 3 = .ok (.iload_n 2, 1) := by decide +kernel
theorem dX8_worthOf_4 : decode cX8_worthOf 4 = .ok (.isub, 1) := by decide +kernel
theorem dX8_worthOf_5 : decode cX8_worthOf 5 = .ok (.ireturn, 1) := by decide +kernel
theorem dX9_init_0 : decode cX9_init 0 = .ok (.aload_n 0, 1) := by decide +kernel
theorem dX9_init_1 : decode cX9_init 1 = .ok (.invokespecial 3, 3) := by decide +kernel
theorem dX9_init_4 : decode cX9_init 4 = .ok (.aload_n 0, 1) := by decide +kernel
theorem dX9_init_5 : decode cX9_init 5 = .ok (.iconst 1, 1) := by decide +kernel
theorem dX9_init_6 : decode cX9_init 6 = .ok (.putfield 9, 3) := by decide +kernel
theorem dX9_init_9 : decode cX9_init 9 = .ok (.aload_n 0, 1) := by decide +kernel
theorem dX9_init_10 : decode cX9_init 10 = .ok (.iconst 0, 1) := by decide +kernel
theorem dX9_init_11 : decode cX9_init 11 = .ok (.putfield 15, 3) := by decide +kernel
theorem dX9_init_14 : decode cX9_init 14 = .ok (.aload_n 0, 1) := by decide +kernel
theorem dX9_init_15 : decode cX9_init 15 = .ok (.iconst 0, 1) := by decide +kernel
theorem dX9_init_16 : decode cX9_init 16 = .ok (.putfield 19, 3) := by decide +kernel
theorem dX9_init_19 : decode cX9_init 19 = .ok (.aload_n 0, 1) := by decide +kernel
theorem dX9_init_20 : decode cX9_init 20 = .ok (.bipush 24, 2) := by decide +kernel
theorem dX9_init_22 : decode cX9_init 22 = .ok (.newarray .long, 2) := by decide +kernel
theorem dX9_init_24 : decode cX9_init 24 = .ok (.putfield 22, 3) := by decide +kernel
theorem dX9_init_27 : decode cX9_init 27 = .ok (.return_, 1) := by decide +kernel
theorem dX9_renew_0 : decode cX9_renew 0 = .ok (.aload_n 0, 1) := by decide +kernel
theorem dX9_renew_1 : decode cX9_renew 1 = .ok (.iconst 0, 1) := by decide +kernel
theorem dX9_renew_2 : decode cX9_renew 2 = .ok (.putfield 9, 3) := by decide +kernel
theorem dX9_renew_5 : decode cX9_renew 5 = .ok (.aload_n 0, 1) := by decide +kernel
theorem dX9_renew_6 : decode cX9_renew 6 = .ok (.iload_n 1, 1) := by decide +kernel
theorem dX9_renew_7 : decode cX9_renew 7 = .ok (.putfield 15, 3) := by decide +kernel
theorem dX9_renew_10 : decode cX9_renew 10 = .ok (.aload_n 0, 1) := by decide +kernel
theorem dX9_renew_11 : decode cX9_renew 11 = .ok (.iload_n 2, 1) := by decide +kernel
theorem dX9_renew_12 : decode cX9_renew 12 = .ok (.putfield 19, 3) := by decide +kernel
theorem dX9_renew_15 : decode cX9_renew 15 = .ok (.aload_n 0, 1) := by decide +kernel
theorem dX9_renew_16 : decode cX9_renew 16 = .ok (.getfield 22, 3) := by decide +kernel
theorem dX9_renew_19 : decode cX9_renew 19 = .ok (.lconst 0, 1) := by decide +kernel
theorem dX9_renew_20 : decode cX9_renew 20 = .ok (.invokestatic 26, 3) := by decide +kernel
theorem dX9_renew_23 : decode cX9_renew 23 = .ok (.return_, 1) := by decide +kernel
theorem dX9_has_0 : decode cX9_has 0 = .ok (.iload_n 1, 1) := by decide +kernel
theorem dX9_has_1 : decode cX9_has 1 = .ok (.ifCond .lt 21, 3) := by decide +kernel
theorem dX9_has_4 : decode cX9_has 4 = .ok (.iload_n 2, 1) := by decide +kernel
theorem dX9_has_5 : decode cX9_has 5 = .ok (.ifCond .lt 17, 3) := by decide +kernel
theorem dX9_has_8 : decode cX9_has 8 = .ok (.iload_n 1, 1) := by decide +kernel
theorem dX9_has_9 : decode cX9_has 9 = .ok (.aload_n 0, 1) := by decide +kernel
theorem dX9_has_10 : decode cX9_has 10 = .ok (.getfield 19, 3) := by decide +kernel
theorem dX9_has_13 : decode cX9_has 13 = .ok (.iload_n 2, 1) := by decide +kernel
theorem dX9_has_14 : decode cX9_has 14 = .ok (.isub, 1) := by decide +kernel
theorem dX9_has_15 : decode cX9_has 15 = .ok (.if_icmp .gt 7, 3) := by decide +kernel
theorem dX9_has_18 : decode cX9_has 18 = .ok (.iconst 1, 1) := by decide +kernel
theorem dX9_has_19 : decode cX9_has 19 = .ok (.goto 4, 3) := by decide +kernel
theorem dX9_has_22 : decode cX9_has 22 = .ok (.iconst 0, 1) := by decide +kernel
theorem dX9_has_23 : decode cX9_has 23 = .ok (.ireturn, 1) := by decide +kernel
theorem dX9_put_0 : decode cX9_put 0 = .ok (.aload_n 0, 1) := by decide +kernel
theorem dX9_put_1 : decode cX9_put 1 = .ok (.getfield 15, 3) := by decide +kernel
theorem dX9_put_4 : decode cX9_put 4 = .ok (.tableswitch 66 0 2 #[28, 41, 54], 28) := by decide +kernel
theorem dX9_put_32 : decode cX9_put 32 = .ok (.aload_n 0, 1) := by decide +kernel
theorem dX9_put_33 : decode cX9_put 33 = .ok (.getfield 22, 3) := by decide +kernel
theorem dX9_put_36 : decode cX9_put 36 = .ok (.iload_n 1, 1) := by decide +kernel
theorem dX9_put_37 : decode cX9_put 37 = .ok (.lload_n 2, 1) := by decide +kernel
theorem dX9_put_38 : decode cX9_put 38 = .ok (.l2i, 1) := by decide +kernel
theorem dX9_put_39 : decode cX9_put 39 = .ok (.i2b, 1) := by decide +kernel
theorem dX9_put_40 : decode cX9_put 40 = .ok (.i2l, 1) := by decide +kernel
theorem dX9_put_41 : decode cX9_put 41 = .ok (.lastore, 1) := by decide +kernel
theorem dX9_put_42 : decode cX9_put 42 = .ok (.goto 35, 3) := by decide +kernel
theorem dX9_put_45 : decode cX9_put 45 = .ok (.aload_n 0, 1) := by decide +kernel
theorem dX9_put_46 : decode cX9_put 46 = .ok (.getfield 22, 3) := by decide +kernel
theorem dX9_put_49 : decode cX9_put 49 = .ok (.iload_n 1, 1) := by decide +kernel
theorem dX9_put_50 : decode cX9_put 50 = .ok (.lload_n 2, 1) := by decide +kernel
theorem dX9_put_51 : decode cX9_put 51 = .ok (.l2i, 1) := by decide +kernel
theorem dX9_put_52 : decode cX9_put 52 = .ok (.i2s, 1) := by decide +kernel
theorem dX9_put_53 : decode cX9_put 53 = .ok (.i2l, 1) := by decide +kernel
theorem dX9_put_54 : decode cX9_put 54 = .ok (.lastore, 1) := by decide +kernel
theorem dX9_put_55 : decode cX9_put 55 = .ok (.goto 22, 3) := by decide +kernel
theorem dX9_put_58 : decode cX9_put 58 = .ok (.aload_n 0, 1) := by decide +kernel
theorem dX9_put_59 : decode cX9_put 59 = .ok (.getfield 22, 3) := by decide +kernel
theorem dX9_put_62 : decode cX9_put 62 = .ok (.iload_n 1, 1) := by decide +kernel
theorem dX9_put_63 : decode cX9_put 63 = .ok (.lload_n 2, 1) := by decide +kernel
theorem dX9_put_64 : decode cX9_put 64 = .ok (.l2i, 1) := by decide +kernel
theorem dX9_put_65 : decode cX9_put 65 = .ok (.i2l, 1) := by decide +kernel
theorem dX9_put_66 : decode cX9_put 66 = .ok (.lastore, 1) := by decide +kernel
theorem dX9_put_67 : decode cX9_put 67 = .ok (.goto 10, 3) := by decide +kernel
theorem dX9_put_70 : decode cX9_put 70 = .ok (.aload_n 0, 1) := by decide +kernel
theorem dX9_put_71 : decode cX9_put 71 = .ok (.getfield 22, 3) := by decide +kernel
theorem dX9_put_74 : decode cX9_put 74 = .ok (.iload_n 1, 1) := by decide +kernel
theorem dX9_put_75 : decode cX9_put 75 = .ok (.lload_n 2, 1) := by decide +kernel
theorem dX9_put_76 : decode cX9_put 76 = .ok (.lastore, 1) := by decide +kernel
theorem dX9_put_77 : decode cX9_put 77 = .ok (.return_, 1) := by decide +kernel
theorem dX10_init_0 : decode cX10_init 0 = .ok (.aload_n 0, 1) := by decide +kernel
theorem dX10_init_1 : decode cX10_init 1 = .ok (.invokespecial 3, 3) := by decide +kernel
theorem dX10_init_4 : decode cX10_init 4 = .ok (.aload_n 0, 1) := by decide +kernel
theorem dX10_init_5 : decode cX10_init 5 = .ok (.bipush 80, 2) := by decide +kernel
theorem dX10_init_7 : decode cX10_init 7 = .ok (.newarray .char, 2) := by decide +kernel
theorem dX10_init_9 : decode cX10_init 9 = .ok (.putfield 11, 3) := by decide +kernel
theorem dX10_init_12 : decode cX10_init 12 = .ok (.aload_n 0, 1) := by decide +kernel
theorem dX10_init_13 : decode cX10_init 13 = .ok (.iconst 0, 1) := by decide +kernel
theorem dX10_init_14 : decode cX10_init 14 = .ok (.putfield 15, 3) := by decide +kernel
theorem dX10_init_17 : decode cX10_init 17 = .ok (.aload_n 0, 1) := by decide +kernel
theorem dX10_init_18 : decode cX10_init 18 = .ok (.iconst 0, 1) := by decide +kernel
theorem dX10_init_19 : decode cX10_init 19 = .ok (.putfield 19, 3) := by decide +kernel
theorem dX10_init_22 : decode cX10_init 22 = .ok (.return_, 1) := by decide +kernel
theorem dX10_takes_0 : decode cX10_takes 0 = .ok (.aload_n 0, 1) := by decide +kernel
theorem dX10_takes_1 : decode cX10_takes 1 = .ok (.getfield 15, 3) := by decide +kernel
theorem dX10_takes_4 : decode cX10_takes 4 = .ok (.bipush 80, 2) := by decide +kernel
theorem dX10_takes_6 : decode cX10_takes 6 = .ok (.if_icmp .lt 5, 3) := by decide +kernel
theorem dX10_takes_9 : decode cX10_takes 9 = .ok (.iconst 0, 1) := by decide +kernel
theorem dX10_takes_10 : decode cX10_takes 10 = .ok (.ireturn, 1) := by decide +kernel
theorem dX10_takes_11 : decode cX10_takes 11 = .ok (.aload_n 0, 1) := by decide +kernel
theorem dX10_takes_12 : decode cX10_takes 12 = .ok (.getfield 11, 3) := by decide +kernel
theorem dX10_takes_15 : decode cX10_takes 15 = .ok (.aload_n 0, 1) := by decide +kernel
theorem dX10_takes_16 : decode cX10_takes 16 = .ok (.getfield 15, 3) := by decide +kernel
theorem dX10_takes_19 : decode cX10_takes 19 = .ok (.iload_n 1, 1) := by decide +kernel
theorem dX10_takes_20 : decode cX10_takes 20 = .ok (.castore, 1) := by decide +kernel
theorem dX10_takes_21 : decode cX10_takes 21 = .ok (.aload_n 0, 1) := by decide +kernel
theorem dX10_takes_22 : decode cX10_takes 22 = .ok (.dup, 1) := by decide +kernel
theorem dX10_takes_23 : decode cX10_takes 23 = .ok (.getfield 15, 3) := by decide +kernel
theorem dX10_takes_26 : decode cX10_takes 26 = .ok (.iconst 1, 1) := by decide +kernel
theorem dX10_takes_27 : decode cX10_takes 27 = .ok (.iadd, 1) := by decide +kernel
theorem dX10_takes_28 : decode cX10_takes 28 = .ok (.putfield 15, 3) := by decide +kernel
theorem dX10_takes_31 : decode cX10_takes 31 = .ok (.iconst 1, 1) := by decide +kernel
theorem dX10_takes_32 : decode cX10_takes 32 = .ok (.ireturn, 1) := by decide +kernel
theorem dX10_reads_0 : decode cX10_reads 0 = .ok (.aload_n 0, 1) := by decide +kernel
theorem dX10_reads_1 : decode cX10_reads 1 = .ok (.iconst 0, 1) := by decide +kernel
theorem dX10_reads_2 : decode cX10_reads 2 = .ok (.putfield 19, 3) := by decide +kernel
theorem dX10_reads_5 : decode cX10_reads 5 = .ok (.aload_n 1, 1) := by decide +kernel
theorem dX10_reads_6 : decode cX10_reads 6 = .ok (.invokevirtual 22, 3) := by decide +kernel
theorem dX10_reads_9 : decode cX10_reads 9 = .ok (.aload_n 1, 1) := by decide +kernel
theorem dX10_reads_10 : decode cX10_reads 10 = .ok (.aload_n 0, 1) := by decide +kernel
theorem dX10_reads_11 : decode cX10_reads 11 = .ok (.invokevirtual 27, 3) := by decide +kernel
theorem dX10_reads_14 : decode cX10_reads 14 = .ok (.putfield 31, 3) := by decide +kernel
theorem dX10_reads_17 : decode cX10_reads 17 = .ok (.aload_n 1, 1) := by decide +kernel
theorem dX10_reads_18 : decode cX10_reads 18 = .ok (.getfield 31, 3) := by decide +kernel
theorem dX10_reads_21 : decode cX10_reads 21 = .ok (.iconst (-1), 1) := by decide +kernel
theorem dX10_reads_22 : decode cX10_reads 22 = .ok (.if_icmp .eq 33, 3) := by decide +kernel
theorem dX10_reads_25 : decode cX10_reads 25 = .ok (.aload_n 0, 1) := by decide +kernel
theorem dX10_reads_26 : decode cX10_reads 26 = .ok (.ldc 34, 2) := by decide +kernel
theorem dX10_reads_28 : decode cX10_reads 28 = .ok (.invokevirtual 36, 3) := by decide +kernel
theorem dX10_reads_31 : decode cX10_reads 31 = .ok (.iconst (-1), 1) := by decide +kernel
theorem dX10_reads_32 : decode cX10_reads 32 = .ok (.if_icmp .eq 23, 3) := by decide +kernel
theorem dX10_reads_35 : decode cX10_reads 35 = .ok (.aload_n 0, 1) := by decide +kernel
theorem dX10_reads_36 : decode cX10_reads 36 = .ok (.aload_n 1, 1) := by decide +kernel
theorem dX10_reads_37 : decode cX10_reads 37 = .ok (.invokevirtual 40, 3) := by decide +kernel
theorem dX10_reads_40 : decode cX10_reads 40 = .ok (.ifCond .eq 15, 3) := by decide +kernel
theorem dX10_reads_43 : decode cX10_reads 43 = .ok (.aload_n 0, 1) := by decide +kernel
theorem dX10_reads_44 : decode cX10_reads 44 = .ok (.aload_n 1, 1) := by decide +kernel
theorem dX10_reads_45 : decode cX10_reads 45 = .ok (.invokevirtual 44, 3) := by decide +kernel
theorem dX10_reads_48 : decode cX10_reads 48 = .ok (.ifCond .eq 7, 3) := by decide +kernel
theorem dX10_reads_51 : decode cX10_reads 51 = .ok (.iconst 1, 1) := by decide +kernel
theorem dX10_reads_52 : decode cX10_reads 52 = .ok (.goto 4, 3) := by decide +kernel
theorem dX10_reads_55 : decode cX10_reads 55 = .ok (.iconst 0, 1) := by decide +kernel
theorem dX10_reads_56 : decode cX10_reads 56 = .ok (.ireturn, 1) := by decide +kernel
theorem dX10_readsMen_0 : decode cX10_readsMen 0 = .ok (.iconst 1, 1) := by decide +kernel
theorem dX10_readsMen_1 : decode cX10_readsMen 1 = .ok (.istore_n 2, 1) := by decide +kernel
theorem dX10_readsMen_2 : decode cX10_readsMen 2 = .ok (.iload_n 2, 1) := by decide +kernel
theorem dX10_readsMen_3 : decode cX10_readsMen 3 = .ok (.bipush 6, 2) := by decide +kernel
theorem dX10_readsMen_5 : decode cX10_readsMen 5 = .ok (.if_icmp .gt 105, 3) := by decide +kernel
theorem dX10_readsMen_8 : decode cX10_readsMen 8 = .ok (.aload_n 0, 1) := by decide +kernel
theorem dX10_readsMen_9 : decode cX10_readsMen 9 = .ok (.ldc 47, 2) := by decide +kernel
theorem dX10_readsMen_11 : decode cX10_readsMen 11 = .ok (.invokevirtual 36, 3) := by decide +kernel
theorem dX10_readsMen_14 : decode cX10_readsMen 14 = .ok (.istore_n 3, 1) := by decide +kernel
theorem dX10_readsMen_15 : decode cX10_readsMen 15 = .ok (.iload_n 3, 1) := by decide +kernel
theorem dX10_readsMen_16 : decode cX10_readsMen 16 = .ok (.iconst (-1), 1) := by decide +kernel
theorem dX10_readsMen_17 : decode cX10_readsMen 17 = .ok (.if_icmp .ne 7, 3) := by decide +kernel
theorem dX10_readsMen_20 : decode cX10_readsMen 20 = .ok (.iconst (-1), 1) := by decide +kernel
theorem dX10_readsMen_21 : decode cX10_readsMen 21 = .ok (.goto 9, 3) := by decide +kernel
theorem dX10_readsMen_24 : decode cX10_readsMen 24 = .ok (.aload_n 0, 1) := by decide +kernel
theorem dX10_readsMen_25 : decode cX10_readsMen 25 = .ok (.ldc 49, 2) := by decide +kernel
theorem dX10_readsMen_27 : decode cX10_readsMen 27 = .ok (.invokevirtual 36, 3) := by decide +kernel
theorem dX10_readsMen_30 : decode cX10_readsMen 30 = .ok (.istore 4, 2) := by decide +kernel
theorem dX10_readsMen_32 : decode cX10_readsMen 32 = .ok (.iload 4, 2) := by decide +kernel
theorem dX10_readsMen_34 : decode cX10_readsMen 34 = .ok (.iconst (-1), 1) := by decide +kernel
theorem dX10_readsMen_35 : decode cX10_readsMen 35 = .ok (.if_icmp .ne 7, 3) := by decide +kernel
theorem dX10_readsMen_38 : decode cX10_readsMen 38 = .ok (.iconst (-1), 1) := by decide +kernel
theorem dX10_readsMen_39 : decode cX10_readsMen 39 = .ok (.goto 9, 3) := by decide +kernel
theorem dX10_readsMen_42 : decode cX10_readsMen 42 = .ok (.aload_n 0, 1) := by decide +kernel
theorem dX10_readsMen_43 : decode cX10_readsMen 43 = .ok (.ldc 51, 2) := by decide +kernel
theorem dX10_readsMen_45 : decode cX10_readsMen 45 = .ok (.invokevirtual 36, 3) := by decide +kernel
theorem dX10_readsMen_48 : decode cX10_readsMen 48 = .ok (.istore 5, 2) := by decide +kernel
theorem dX10_readsMen_50 : decode cX10_readsMen 50 = .ok (.iload 5, 2) := by decide +kernel
theorem dX10_readsMen_52 : decode cX10_readsMen 52 = .ok (.iconst (-1), 1) := by decide +kernel
theorem dX10_readsMen_53 : decode cX10_readsMen 53 = .ok (.if_icmp .ne 5, 3) := by decide +kernel
theorem dX10_readsMen_56 : decode cX10_readsMen 56 = .ok (.iconst 0, 1) := by decide +kernel
theorem dX10_readsMen_57 : decode cX10_readsMen 57 = .ok (.ireturn, 1) := by decide +kernel
theorem dX10_readsMen_58 : decode cX10_readsMen 58 = .ok (.aload_n 1, 1) := by decide +kernel
theorem dX10_readsMen_59 : decode cX10_readsMen 59 = .ok (.iload_n 3, 1) := by decide +kernel
theorem dX10_readsMen_60 : decode cX10_readsMen 60 = .ok (.iload 4, 2) := by decide +kernel
theorem dX10_readsMen_62 : decode cX10_readsMen 62 = .ok (.iload 5, 2) := by decide +kernel
theorem dX10_readsMen_64 : decode cX10_readsMen 64 = .ok (.iconst 1, 1) := by decide +kernel
theorem dX10_readsMen_65 : decode cX10_readsMen 65 = .ok (.iadd, 1) := by decide +kernel
theorem dX10_readsMen_66 : decode cX10_readsMen 66 = .ok (.invokevirtual 53, 3) := by decide +kernel
theorem dX10_readsMen_69 : decode cX10_readsMen 69 = .ok (.aload_n 0, 1) := by decide +kernel
theorem dX10_readsMen_70 : decode cX10_readsMen 70 = .ok (.iload_n 2, 1) := by decide +kernel
theorem dX10_readsMen_71 : decode cX10_readsMen 71 = .ok (.bipush 6, 2) := by decide +kernel
theorem dX10_readsMen_73 : decode cX10_readsMen 73 = .ok (.if_icmp .ge 8, 3) := by decide +kernel
theorem dX10_readsMen_76 : decode cX10_readsMen 76 = .ok (.ldc 57, 2) := by decide +kernel
theorem dX10_readsMen_78 : decode cX10_readsMen 78 = .ok (.goto 5, 3) := by decide +kernel
theorem dX10_readsMen_81 : decode cX10_readsMen 81 = .ok (.ldc 34, 2) := by decide +kernel
theorem dX10_readsMen_83 : decode cX10_readsMen 83 = .ok (.invokevirtual 36, 3) := by decide +kernel
theorem dX10_readsMen_86 : decode cX10_readsMen 86 = .ok (.istore 6, 2) := by decide +kernel
theorem dX10_readsMen_88 : decode cX10_readsMen 88 = .ok (.iload 6, 2) := by decide +kernel
theorem dX10_readsMen_90 : decode cX10_readsMen 90 = .ok (.ifCond .gt 14, 3) := by decide +kernel
theorem dX10_readsMen_93 : decode cX10_readsMen 93 = .ok (.iload 6, 2) := by decide +kernel
theorem dX10_readsMen_95 : decode cX10_readsMen 95 = .ok (.ifCond .ne 7, 3) := by decide +kernel
theorem dX10_readsMen_98 : decode cX10_readsMen 98 = .ok (.iconst 1, 1) := by decide +kernel
theorem dX10_readsMen_99 : decode cX10_readsMen 99 = .ok (.goto 4, 3) := by decide +kernel
theorem dX10_readsMen_102 : decode cX10_readsMen 102 = .ok (.iconst 0, 1) := by decide +kernel
theorem dX10_readsMen_103 : decode cX10_readsMen 103 = .ok (.ireturn, 1) := by decide +kernel
theorem dX10_readsMen_104 : decode cX10_readsMen 104 = .ok (.iinc 2 1, 3) := by decide +kernel
theorem dX10_readsMen_107 : decode cX10_readsMen 107 = .ok (.goto (-105), 3) := by decide +kernel
theorem dX10_readsMen_110 : decode cX10_readsMen 110 = .ok (.iconst 0, 1) := by decide +kernel
theorem dX10_readsMen_111 : decode cX10_readsMen 111 = .ok (.ireturn, 1) := by decide +kernel
theorem dX10_readsNames_0 : decode cX10_readsNames 0 = .ok (.iconst 1, 1) := by decide +kernel
theorem dX10_readsNames_1 : decode cX10_readsNames 1 = .ok (.istore_n 2, 1) := by decide +kernel
theorem dX10_readsNames_2 : decode cX10_readsNames 2 = .ok (.iload_n 2, 1) := by decide +kernel
theorem dX10_readsNames_3 : decode cX10_readsNames 3 = .ok (.bipush 6, 2) := by decide +kernel
theorem dX10_readsNames_5 : decode cX10_readsNames 5 = .ok (.if_icmp .gt 87, 3) := by decide +kernel
theorem dX10_readsNames_8 : decode cX10_readsNames 8 = .ok (.aload_n 0, 1) := by decide +kernel
theorem dX10_readsNames_9 : decode cX10_readsNames 9 = .ok (.invokevirtual 27, 3) := by decide +kernel
theorem dX10_readsNames_12 : decode cX10_readsNames 12 = .ok (.istore_n 3, 1) := by decide +kernel
theorem dX10_readsNames_13 : decode cX10_readsNames 13 = .ok (.iload_n 3, 1) := by decide +kernel
theorem dX10_readsNames_14 : decode cX10_readsNames 14 = .ok (.iconst (-1), 1) := by decide +kernel
theorem dX10_readsNames_15 : decode cX10_readsNames 15 = .ok (.if_icmp .eq 13, 3) := by decide +kernel
theorem dX10_readsNames_18 : decode cX10_readsNames 18 = .ok (.aload_n 0, 1) := by decide +kernel
theorem dX10_readsNames_19 : decode cX10_readsNames 19 = .ok (.ldc 59, 2) := by decide +kernel
theorem dX10_readsNames_21 : decode cX10_readsNames 21 = .ok (.invokevirtual 36, 3) := by decide +kernel
theorem dX10_readsNames_24 : decode cX10_readsNames 24 = .ok (.iconst (-1), 1) := by decide +kernel
theorem dX10_readsNames_25 : decode cX10_readsNames 25 = .ok (.if_icmp .ne 5, 3) := by decide +kernel
theorem dX10_readsNames_28 : decode cX10_readsNames 28 = .ok (.iconst 0, 1) := by decide +kernel
theorem dX10_readsNames_29 : decode cX10_readsNames 29 = .ok (.ireturn, 1) := by decide +kernel
theorem dX10_readsNames_30 : decode cX10_readsNames 30 = .ok (.aload_n 0, 1) := by decide +kernel
theorem dX10_readsNames_31 : decode cX10_readsNames 31 = .ok (.invokevirtual 27, 3) := by decide +kernel
theorem dX10_readsNames_34 : decode cX10_readsNames 34 = .ok (.istore 4, 2) := by decide +kernel
theorem dX10_readsNames_36 : decode cX10_readsNames 36 = .ok (.iload 4, 2) := by decide +kernel
theorem dX10_readsNames_38 : decode cX10_readsNames 38 = .ok (.iconst (-1), 1) := by decide +kernel
theorem dX10_readsNames_39 : decode cX10_readsNames 39 = .ok (.if_icmp .ne 5, 3) := by decide +kernel
theorem dX10_readsNames_42 : decode cX10_readsNames 42 = .ok (.iconst 0, 1) := by decide +kernel
theorem dX10_readsNames_43 : decode cX10_readsNames 43 = .ok (.ireturn, 1) := by decide +kernel
theorem dX10_readsNames_44 : decode cX10_readsNames 44 = .ok (.aload_n 1, 1) := by decide +kernel
theorem dX10_readsNames_45 : decode cX10_readsNames 45 = .ok (.iload_n 3, 1) := by decide +kernel
theorem dX10_readsNames_46 : decode cX10_readsNames 46 = .ok (.iload 4, 2) := by decide +kernel
theorem dX10_readsNames_48 : decode cX10_readsNames 48 = .ok (.invokevirtual 61, 3) := by decide +kernel
theorem dX10_readsNames_51 : decode cX10_readsNames 51 = .ok (.aload_n 0, 1) := by decide +kernel
theorem dX10_readsNames_52 : decode cX10_readsNames 52 = .ok (.invokevirtual 65, 3) := by decide +kernel
theorem dX10_readsNames_55 : decode cX10_readsNames 55 = .ok (.aload_n 0, 1) := by decide +kernel
theorem dX10_readsNames_56 : decode cX10_readsNames 56 = .ok (.getfield 19, 3) := by decide +kernel
theorem dX10_readsNames_59 : decode cX10_readsNames 59 = .ok (.aload_n 0, 1) := by decide +kernel
theorem dX10_readsNames_60 : decode cX10_readsNames 60 = .ok (.getfield 15, 3) := by decide +kernel
theorem dX10_readsNames_63 : decode cX10_readsNames 63 = .ok (.if_icmp .lt 5, 3) := by decide +kernel
theorem dX10_readsNames_66 : decode cX10_readsNames 66 = .ok (.iconst 1, 1) := by decide +kernel
theorem dX10_readsNames_67 : decode cX10_readsNames 67 = .ok (.ireturn, 1) := by decide +kernel
theorem dX10_readsNames_68 : decode cX10_readsNames 68 = .ok (.iload_n 2, 1) := by decide +kernel
theorem dX10_readsNames_69 : decode cX10_readsNames 69 = .ok (.bipush 6, 2) := by decide +kernel
theorem dX10_readsNames_71 : decode cX10_readsNames 71 = .ok (.if_icmp .eq 13, 3) := by decide +kernel
theorem dX10_readsNames_74 : decode cX10_readsNames 74 = .ok (.aload_n 0, 1) := by decide +kernel
theorem dX10_readsNames_75 : decode cX10_readsNames 75 = .ok (.ldc 68, 2) := by decide +kernel
theorem dX10_readsNames_77 : decode cX10_readsNames 77 = .ok (.invokevirtual 36, 3) := by decide +kernel
theorem dX10_readsNames_80 : decode cX10_readsNames 80 = .ok (.iconst (-1), 1) := by decide +kernel
theorem dX10_readsNames_81 : decode cX10_readsNames 81 = .ok (.if_icmp .ne 5, 3) := by decide +kernel
theorem dX10_readsNames_84 : decode cX10_readsNames 84 = .ok (.iconst 0, 1) := by decide +kernel
theorem dX10_readsNames_85 : decode cX10_readsNames 85 = .ok (.ireturn, 1) := by decide +kernel
theorem dX10_readsNames_86 : decode cX10_readsNames 86 = .ok (.iinc 2 1, 3) := by decide +kernel
theorem dX10_readsNames_89 : decode cX10_readsNames 89 = .ok (.goto (-87), 3) := by decide +kernel
theorem dX10_readsNames_92 : decode cX10_readsNames 92 = .ok (.iconst 0, 1) := by decide +kernel
theorem dX10_readsNames_93 : decode cX10_readsNames 93 = .ok (.ireturn, 1) := by decide +kernel
theorem dX10_skipBlanks_0 : decode cX10_skipBlanks 0 = .ok (.aload_n 0, 1) := by decide +kernel
theorem dX10_skipBlanks_1 : decode cX10_skipBlanks 1 = .ok (.getfield 19, 3) := by decide +kernel
theorem dX10_skipBlanks_4 : decode cX10_skipBlanks 4 = .ok (.aload_n 0, 1) := by decide +kernel
theorem dX10_skipBlanks_5 : decode cX10_skipBlanks 5 = .ok (.getfield 15, 3) := by decide +kernel
theorem dX10_skipBlanks_8 : decode cX10_skipBlanks 8 = .ok (.if_icmp .ge 30, 3) := by decide +kernel
theorem dX10_skipBlanks_11 : decode cX10_skipBlanks 11 = .ok (.aload_n 0, 1) := by decide +kernel
theorem dX10_skipBlanks_12 : decode cX10_skipBlanks 12 = .ok (.getfield 11, 3) := by decide +kernel
theorem dX10_skipBlanks_15 : decode cX10_skipBlanks 15 = .ok (.aload_n 0, 1) := by decide +kernel
theorem dX10_skipBlanks_16 : decode cX10_skipBlanks 16 = .ok (.getfield 19, 3) := by decide +kernel
theorem dX10_skipBlanks_19 : decode cX10_skipBlanks 19 = .ok (.caload, 1) := by decide +kernel
theorem dX10_skipBlanks_20 : decode cX10_skipBlanks 20 = .ok (.bipush 32, 2) := by decide +kernel
theorem dX10_skipBlanks_22 : decode cX10_skipBlanks 22 = .ok (.if_icmp .ne 16, 3) := by decide +kernel
theorem dX10_skipBlanks_25 : decode cX10_skipBlanks 25 = .ok (.aload_n 0, 1) := by decide +kernel
theorem dX10_skipBlanks_26 : decode cX10_skipBlanks 26 = .ok (.dup, 1) := by decide +kernel
theorem dX10_skipBlanks_27 : decode cX10_skipBlanks 27 = .ok (.getfield 19, 3) := by decide +kernel
theorem dX10_skipBlanks_30 : decode cX10_skipBlanks 30 = .ok (.iconst 1, 1) := by decide +kernel
theorem dX10_skipBlanks_31 : decode cX10_skipBlanks 31 = .ok (.iadd, 1) := by decide +kernel
theorem dX10_skipBlanks_32 : decode cX10_skipBlanks 32 = .ok (.putfield 19, 3) := by decide +kernel
theorem dX10_skipBlanks_35 : decode cX10_skipBlanks 35 = .ok (.goto (-35), 3) := by decide +kernel
theorem dX10_skipBlanks_38 : decode cX10_skipBlanks 38 = .ok (.return_, 1) := by decide +kernel
theorem dX10_oneOf_0 : decode cX10_oneOf 0 = .ok (.aload_n 0, 1) := by decide +kernel
theorem dX10_oneOf_1 : decode cX10_oneOf 1 = .ok (.invokevirtual 65, 3) := by decide +kernel
theorem dX10_oneOf_4 : decode cX10_oneOf 4 = .ok (.aload_n 0, 1) := by decide +kernel
theorem dX10_oneOf_5 : decode cX10_oneOf 5 = .ok (.getfield 19, 3) := by decide +kernel
theorem dX10_oneOf_8 : decode cX10_oneOf 8 = .ok (.aload_n 0, 1) := by decide +kernel
theorem dX10_oneOf_9 : decode cX10_oneOf 9 = .ok (.getfield 15, 3) := by decide +kernel
theorem dX10_oneOf_12 : decode cX10_oneOf 12 = .ok (.if_icmp .lt 5, 3) := by decide +kernel
theorem dX10_oneOf_15 : decode cX10_oneOf 15 = .ok (.iconst (-1), 1) := by decide +kernel
theorem dX10_oneOf_16 : decode cX10_oneOf 16 = .ok (.ireturn, 1) := by decide +kernel
theorem dX10_oneOf_17 : decode cX10_oneOf 17 = .ok (.aload_n 1, 1) := by decide +kernel
theorem dX10_oneOf_18 : decode cX10_oneOf 18 = .ok (.aload_n 0, 1) := by decide +kernel
theorem dX10_oneOf_19 : decode cX10_oneOf 19 = .ok (.getfield 11, 3) := by decide +kernel
theorem dX10_oneOf_22 : decode cX10_oneOf 22 = .ok (.aload_n 0, 1) := by decide +kernel
theorem dX10_oneOf_23 : decode cX10_oneOf 23 = .ok (.getfield 19, 3) := by decide +kernel
theorem dX10_oneOf_26 : decode cX10_oneOf 26 = .ok (.caload, 1) := by decide +kernel
theorem dX10_oneOf_27 : decode cX10_oneOf 27 = .ok (.invokevirtual 70, 3) := by decide +kernel
theorem dX10_oneOf_30 : decode cX10_oneOf 30 = .ok (.istore_n 2, 1) := by decide +kernel
theorem dX10_oneOf_31 : decode cX10_oneOf 31 = .ok (.iload_n 2, 1) := by decide +kernel
theorem dX10_oneOf_32 : decode cX10_oneOf 32 = .ok (.ifCond .ge 5, 3) := by decide +kernel
theorem dX10_oneOf_35 : decode cX10_oneOf 35 = .ok (.iconst (-1), 1) := by decide +kernel
theorem dX10_oneOf_36 : decode cX10_oneOf 36 = .ok (.ireturn, 1) := by decide +kernel
theorem dX10_oneOf_37 : decode cX10_oneOf 37 = .ok (.aload_n 0, 1) := by decide +kernel
theorem dX10_oneOf_38 : decode cX10_oneOf 38 = .ok (.dup, 1) := by decide +kernel
theorem dX10_oneOf_39 : decode cX10_oneOf 39 = .ok (.getfield 19, 3) := by decide +kernel
theorem dX10_oneOf_42 : decode cX10_oneOf 42 = .ok (.iconst 1, 1) := by decide +kernel
theorem dX10_oneOf_43 : decode cX10_oneOf 43 = .ok (.iadd, 1) := by decide +kernel
theorem dX10_oneOf_44 : decode cX10_oneOf 44 = .ok (.putfield 19, 3) := by decide +kernel
theorem dX10_oneOf_47 : decode cX10_oneOf 47 = .ok (.iload_n 2, 1) := by decide +kernel
theorem dX10_oneOf_48 : decode cX10_oneOf 48 = .ok (.ireturn, 1) := by decide +kernel
theorem dX10_number_0 : decode cX10_number 0 = .ok (.aload_n 0, 1) := by decide +kernel
theorem dX10_number_1 : decode cX10_number 1 = .ok (.ldc 49, 2) := by decide +kernel
theorem dX10_number_3 : decode cX10_number 3 = .ok (.invokevirtual 36, 3) := by decide +kernel
theorem dX10_number_6 : decode cX10_number 6 = .ok (.istore_n 1, 1) := by decide +kernel
theorem dX10_number_7 : decode cX10_number 7 = .ok (.iload_n 1, 1) := by decide +kernel
theorem dX10_number_8 : decode cX10_number 8 = .ok (.iconst (-1), 1) := by decide +kernel
theorem dX10_number_9 : decode cX10_number 9 = .ok (.if_icmp .ne 5, 3) := by decide +kernel
theorem dX10_number_12 : decode cX10_number 12 = .ok (.iconst (-1), 1) := by decide +kernel
theorem dX10_number_13 : decode cX10_number 13 = .ok (.ireturn, 1) := by decide +kernel
theorem dX10_number_14 : decode cX10_number 14 = .ok (.aload_n 0, 1) := by decide +kernel
theorem dX10_number_15 : decode cX10_number 15 = .ok (.getfield 19, 3) := by decide +kernel
theorem dX10_number_18 : decode cX10_number 18 = .ok (.iconst 1, 1) := by decide +kernel
theorem dX10_number_19 : decode cX10_number 19 = .ok (.isub, 1) := by decide +kernel
theorem dX10_number_20 : decode cX10_number 20 = .ok (.istore_n 2, 1) := by decide +kernel
theorem dX10_number_21 : decode cX10_number 21 = .ok (.aload_n 0, 1) := by decide +kernel
theorem dX10_number_22 : decode cX10_number 22 = .ok (.getfield 19, 3) := by decide +kernel
theorem dX10_number_25 : decode cX10_number 25 = .ok (.aload_n 0, 1) := by decide +kernel
theorem dX10_number_26 : decode cX10_number 26 = .ok (.getfield 15, 3) := by decide +kernel
theorem dX10_number_29 : decode cX10_number 29 = .ok (.if_icmp .ge 59, 3) := by decide +kernel
theorem dX10_number_32 : decode cX10_number 32 = .ok (.aload_n 0, 1) := by decide +kernel
theorem dX10_number_33 : decode cX10_number 33 = .ok (.getfield 11, 3) := by decide +kernel
theorem dX10_number_36 : decode cX10_number 36 = .ok (.aload_n 0, 1) := by decide +kernel
theorem dX10_number_37 : decode cX10_number 37 = .ok (.getfield 19, 3) := by decide +kernel
theorem dX10_number_40 : decode cX10_number 40 = .ok (.caload, 1) := by decide +kernel
theorem dX10_number_41 : decode cX10_number 41 = .ok (.bipush 48, 2) := by decide +kernel
theorem dX10_number_43 : decode cX10_number 43 = .ok (.if_icmp .lt 45, 3) := by decide +kernel
theorem dX10_number_46 : decode cX10_number 46 = .ok (.aload_n 0, 1) := by decide +kernel
theorem dX10_number_47 : decode cX10_number 47 = .ok (.getfield 11, 3) := by decide +kernel
theorem dX10_number_50 : decode cX10_number 50 = .ok (.aload_n 0, 1) := by decide +kernel
theorem dX10_number_51 : decode cX10_number 51 = .ok (.getfield 19, 3) := by decide +kernel
theorem dX10_number_54 : decode cX10_number 54 = .ok (.caload, 1) := by decide +kernel
theorem dX10_number_55 : decode cX10_number 55 = .ok (.bipush 57, 2) := by decide +kernel
theorem dX10_number_57 : decode cX10_number 57 = .ok (.if_icmp .gt 31, 3) := by decide +kernel
theorem dX10_number_60 : decode cX10_number 60 = .ok (.iload_n 1, 1) := by decide +kernel
theorem dX10_number_61 : decode cX10_number 61 = .ok (.bipush 10, 2) := by decide +kernel
theorem dX10_number_63 : decode cX10_number 63 = .ok (.imul, 1) := by decide +kernel
theorem dX10_number_64 : decode cX10_number 64 = .ok (.aload_n 0, 1) := by decide +kernel
theorem dX10_number_65 : decode cX10_number 65 = .ok (.getfield 11, 3) := by decide +kernel
theorem dX10_number_68 : decode cX10_number 68 = .ok (.aload_n 0, 1) := by decide +kernel
theorem dX10_number_69 : decode cX10_number 69 = .ok (.getfield 19, 3) := by decide +kernel
theorem dX10_number_72 : decode cX10_number 72 = .ok (.caload, 1) := by decide +kernel
theorem dX10_number_73 : decode cX10_number 73 = .ok (.iadd, 1) := by decide +kernel
theorem dX10_number_74 : decode cX10_number 74 = .ok (.bipush 48, 2) := by decide +kernel
theorem dX10_number_76 : decode cX10_number 76 = .ok (.isub, 1) := by decide +kernel
theorem dX10_number_77 : decode cX10_number 77 = .ok (.istore_n 1, 1) := by decide +kernel
theorem dX10_number_78 : decode cX10_number 78 = .ok (.aload_n 0, 1) := by decide +kernel
theorem dX10_number_79 : decode cX10_number 79 = .ok (.dup, 1) := by decide +kernel
theorem dX10_number_80 : decode cX10_number 80 = .ok (.getfield 19, 3) := by decide +kernel
theorem dX10_number_83 : decode cX10_number 83 = .ok (.iconst 1, 1) := by decide +kernel
theorem dX10_number_84 : decode cX10_number 84 = .ok (.iadd, 1) := by decide +kernel
theorem dX10_number_85 : decode cX10_number 85 = .ok (.putfield 19, 3) := by decide +kernel
theorem dX10_number_88 : decode cX10_number 88 = .ok (.iload_n 1, 1) := by decide +kernel
theorem dX10_number_89 : decode cX10_number 89 = .ok (.bipush 20, 2) := by decide +kernel
theorem dX10_number_91 : decode cX10_number 91 = .ok (.if_icmp .le 10, 3) := by decide +kernel
theorem dX10_number_94 : decode cX10_number 94 = .ok (.aload_n 0, 1) := by decide +kernel
theorem dX10_number_95 : decode cX10_number 95 = .ok (.iload_n 2, 1) := by decide +kernel
theorem dX10_number_96 : decode cX10_number 96 = .ok (.putfield 19, 3) := by decide +kernel
theorem dX10_number_99 : decode cX10_number 99 = .ok (.iconst (-1), 1) := by decide +kernel
theorem dX10_number_100 : decode cX10_number 100 = .ok (.ireturn, 1) := by decide +kernel
theorem dX10_number_101 : decode cX10_number 101 = .ok (.iload_n 1, 1) := by decide +kernel
theorem dX10_number_102 : decode cX10_number 102 = .ok (.ireturn, 1) := by decide +kernel
