theorem dX11_init_0 : decode cX11_init 0 = .ok (.aload_n 0, 1) := by decide +kernel
theorem dX11_init_1 : decode cX11_init 1 = .ok (.invokespecial 1, 3) := by decide +kernel
theorem dX11_init_4 : decode cX11_init 4 = .ok (.aload_n 0, 1) := by decide +kernel
theorem dX11_init_5 : decode cX11_init 5 = .ok (.new 7, 3) := by decide +kernel
theorem dX11_init_8 : decode cX11_init 8 = .ok (.dup, 1) := by decide +kernel
theorem dX11_init_9 : decode cX11_init 9 = .ok (.invokespecial 9, 3) := by decide +kernel
theorem dX11_init_12 : decode cX11_init 12 = .ok (.putfield 10, 3) := by decide +kernel
theorem dX11_init_15 : decode cX11_init 15 = .ok (.aload_n 0, 1) := by decide +kernel
theorem dX11_init_16 : decode cX11_init 16 = .ok (.new 16, 3) := by decide +kernel
theorem dX11_init_19 : decode cX11_init 19 = .ok (.dup, 1) := by decide +kernel
theorem dX11_init_20 : decode cX11_init 20 = .ok (.aload_n 0, 1) := by decide +kernel
theorem dX11_init_21 : decode cX11_init 21 = .ok (.getfield 10, 3) := by decide +kernel
theorem dX11_init_24 : decode cX11_init 24 = .ok (.invokespecial 18, 3) := by decide +kernel
theorem dX11_init_27 : decode cX11_init 27 = .ok (.putfield 21, 3) := by decide +kernel
theorem dX11_init_30 : decode cX11_init 30 = .ok (.aload_n 0, 1) := by decide +kernel
theorem dX11_init_31 : decode cX11_init 31 = .ok (.new 25, 3) := by decide +kernel
theorem dX11_init_34 : decode cX11_init 34 = .ok (.dup, 1) := by decide +kernel
theorem dX11_init_35 : decode cX11_init 35 = .ok (.invokespecial 27, 3) := by decide +kernel
theorem dX11_init_38 : decode cX11_init 38 = .ok (.putfield 28, 3) := by decide +kernel
theorem dX11_init_41 : decode cX11_init 41 = .ok (.aload_n 0, 1) := by decide +kernel
theorem dX11_init_42 : decode cX11_init 42 = .ok (.new 32, 3) := by decide +kernel
theorem dX11_init_45 : decode cX11_init 45 = .ok (.dup, 1) := by decide +kernel
theorem dX11_init_46 : decode cX11_init 46 = .ok (.invokespecial 34, 3) := by decide +kernel
theorem dX11_init_49 : decode cX11_init 49 = .ok (.putfield 35, 3) := by decide +kernel
theorem dX11_init_52 : decode cX11_init 52 = .ok (.aload_n 0, 1) := by decide +kernel
theorem dX11_init_53 : decode cX11_init 53 = .ok (.new 25, 3) := by decide +kernel
theorem dX11_init_56 : decode cX11_init 56 = .ok (.dup, 1) := by decide +kernel
theorem dX11_init_57 : decode cX11_init 57 = .ok (.invokespecial 27, 3) := by decide +kernel
theorem dX11_init_60 : decode cX11_init 60 = .ok (.putfield 39, 3) := by decide +kernel
theorem dX11_init_63 : decode cX11_init 63 = .ok (.aload_n 0, 1) := by decide +kernel
theorem dX11_init_64 : decode cX11_init 64 = .ok (.new 32, 3) := by decide +kernel
theorem dX11_init_67 : decode cX11_init 67 = .ok (.dup, 1) := by decide +kernel
theorem dX11_init_68 : decode cX11_init 68 = .ok (.invokespecial 34, 3) := by decide +kernel
theorem dX11_init_71 : decode cX11_init 71 = .ok (.putfield 42, 3) := by decide +kernel
theorem dX11_init_74 : decode cX11_init 74 = .ok (.aload_n 0, 1) := by decide +kernel
theorem dX11_init_75 : decode cX11_init 75 = .ok (.iconst 0, 1) := by decide +kernel
theorem dX11_init_76 : decode cX11_init 76 = .ok (.putfield 45, 3) := by decide +kernel
theorem dX11_init_79 : decode cX11_init 79 = .ok (.aload_n 0, 1) := by decide +kernel
theorem dX11_init_80 : decode cX11_init 80 = .ok (.new 25, 3) := by decide +kernel
theorem dX11_init_83 : decode cX11_init 83 = .ok (.dup, 1) := by decide +kernel
theorem dX11_init_84 : decode cX11_init 84 = .ok (.invokespecial 27, 3) := by decide +kernel
theorem dX11_init_87 : decode cX11_init 87 = .ok (.putfield 49, 3) := by decide +kernel
theorem dX11_init_90 : decode cX11_init 90 = .ok (.aload_n 0, 1) := by decide +kernel
theorem dX11_init_91 : decode cX11_init 91 = .ok (.new 52, 3) := by decide +kernel
theorem dX11_init_94 : decode cX11_init 94 = .ok (.dup, 1) := by decide +kernel
theorem dX11_init_95 : decode cX11_init 95 = .ok (.invokespecial 54, 3) := by decide +kernel
theorem dX11_init_98 : decode cX11_init 98 = .ok (.putfield 55, 3) := by decide +kernel
theorem dX11_init_101 : decode cX11_init 101 = .ok (.aload_n 0, 1) := by decide +kernel
theorem dX11_init_102 : decode cX11_init 102 = .ok (.iconst 4, 1) := by decide +kernel
theorem dX11_init_103 : decode cX11_init 103 = .ok (.anewarray 59, 3) := by decide +kernel
theorem dX11_init_106 : decode cX11_init 106 = .ok (.putfield 61, 3) := by decide +kernel
theorem dX11_init_109 : decode cX11_init 109 = .ok (.aload_n 0, 1) := by decide +kernel
theorem dX11_init_110 : decode cX11_init 110 = .ok (.bipush 7, 2) := by decide +kernel
theorem dX11_init_112 : decode cX11_init 112 = .ok (.bipush 64, 2) := by decide +kernel
theorem dX11_init_114 : decode cX11_init 114 = .ok (.multianewarray 65 2, 4) := by decide +kernel
theorem dX11_init_118 : decode cX11_init 118 = .ok (.putfield 67, 3) := by decide +kernel
theorem dX11_init_121 : decode cX11_init 121 = .ok (.iconst 0, 1) := by decide +kernel
theorem dX11_init_122 : decode cX11_init 122 = .ok (.istore_n 1, 1) := by decide +kernel
theorem dX11_init_123 : decode cX11_init 123 = .ok (.iload_n 1, 1) := by decide +kernel
theorem dX11_init_124 : decode cX11_init 124 = .ok (.iconst 4, 1) := by decide +kernel
theorem dX11_init_125 : decode cX11_init 125 = .ok (.if_icmp .ge 22, 3) := by decide +kernel
theorem dX11_init_128 : decode cX11_init 128 = .ok (.aload_n 0, 1) := by decide +kernel
theorem dX11_init_129 : decode cX11_init 129 = .ok (.getfield 61, 3) := by decide +kernel
theorem dX11_init_132 : decode cX11_init 132 = .ok (.iload_n 1, 1) := by decide +kernel
theorem dX11_init_133 : decode cX11_init 133 = .ok (.new 59, 3) := by decide +kernel
theorem dX11_init_136 : decode cX11_init 136 = .ok (.dup, 1) := by decide +kernel
theorem dX11_init_137 : decode cX11_init 137 = .ok (.invokespecial 70, 3) := by decide +kernel
theorem dX11_init_140 : decode cX11_init 140 = .ok (.aastore, 1) := by decide +kernel
theorem dX11_init_141 : decode cX11_init 141 = .ok (.iinc 1 1, 3) := by decide +kernel
theorem dX11_init_144 : decode cX11_init 144 = .ok (.goto (-21), 3) := by decide +kernel
theorem dX11_init_147 : decode cX11_init 147 = .ok (.return_, 1) := by decide +kernel
theorem dX11_man_0 : decode cX11_man 0 = .ok (.iload_n 1, 1) := by decide +kernel
theorem dX11_man_1 : decode cX11_man 1 = .ok (.iconst 0, 1) := by decide +kernel
theorem dX11_man_2 : decode cX11_man 2 = .ok (.iconst 4, 1) := by decide +kernel
theorem dX11_man_3 : decode cX11_man 3 = .ok (.invokestatic 71, 3) := by decide +kernel
theorem dX11_man_6 : decode cX11_man 6 = .ok (.ifCond .ne 22, 3) := by decide +kernel
theorem dX11_man_9 : decode cX11_man 9 = .ok (.iload_n 2, 1) := by decide +kernel
theorem dX11_man_10 : decode cX11_man 10 = .ok (.iconst 0, 1) := by decide +kernel
theorem dX11_man_11 : decode cX11_man 11 = .ok (.bipush 9, 2) := by decide +kernel
theorem dX11_man_13 : decode cX11_man 13 = .ok (.invokestatic 71, 3) := by decide +kernel
theorem dX11_man_16 : decode cX11_man 16 = .ok (.ifCond .ne 12, 3) := by decide +kernel
theorem dX11_man_19 : decode cX11_man 19 = .ok (.iload_n 3, 1) := by decide +kernel
theorem dX11_man_20 : decode cX11_man 20 = .ok (.iconst 1, 1) := by decide +kernel
theorem dX11_man_21 : decode cX11_man 21 = .ok (.iconst 4, 1) := by decide +kernel
theorem dX11_man_22 : decode cX11_man 22 = .ok (.invokestatic 71, 3) := by decide +kernel
theorem dX11_man_25 : decode cX11_man 25 = .ok (.ifCond .eq 5, 3) := by decide +kernel
theorem dX11_man_28 : decode cX11_man 28 = .ok (.iconst (-1), 1) := by decide +kernel
theorem dX11_man_29 : decode cX11_man 29 = .ok (.ireturn, 1) := by decide +kernel
theorem dX11_man_30 : decode cX11_man 30 = .ok (.aload_n 0, 1) := by decide +kernel
theorem dX11_man_31 : decode cX11_man 31 = .ok (.getfield 28, 3) := by decide +kernel
theorem dX11_man_34 : decode cX11_man 34 = .ok (.getfield 75, 3) := by decide +kernel
theorem dX11_man_37 : decode cX11_man 37 = .ok (.bipush 6, 2) := by decide +kernel
theorem dX11_man_39 : decode cX11_man 39 = .ok (.if_icmp .lt 6, 3) := by decide +kernel
theorem dX11_man_42 : decode cX11_man 42 = .ok (.bipush (-3), 2) := by decide +kernel
theorem dX11_man_44 : decode cX11_man 44 = .ok (.ireturn, 1) := by decide +kernel
theorem dX11_man_45 : decode cX11_man 45 = .ok (.aload_n 0, 1) := by decide +kernel
theorem dX11_man_46 : decode cX11_man 46 = .ok (.getfield 35, 3) := by decide +kernel
theorem dX11_man_49 : decode cX11_man 49 = .ok (.invokevirtual 79, 3) := by decide +kernel
theorem dX11_man_52 : decode cX11_man 52 = .ok (.aload_n 0, 1) := by decide +kernel
theorem dX11_man_53 : decode cX11_man 53 = .ok (.getfield 28, 3) := by decide +kernel
theorem dX11_man_56 : decode cX11_man 56 = .ok (.iload_n 1, 1) := by decide +kernel
theorem dX11_man_57 : decode cX11_man 57 = .ok (.iload_n 2, 1) := by decide +kernel
theorem dX11_man_58 : decode cX11_man 58 = .ok (.iload_n 3, 1) := by decide +kernel
theorem dX11_man_59 : decode cX11_man 59 = .ok (.invokevirtual 82, 3) := by decide +kernel
theorem dX11_man_62 : decode cX11_man 62 = .ok (.aload_n 0, 1) := by decide +kernel
theorem dX11_man_63 : decode cX11_man 63 = .ok (.getfield 28, 3) := by decide +kernel
theorem dX11_man_66 : decode cX11_man 66 = .ok (.getfield 75, 3) := by decide +kernel
theorem dX11_man_69 : decode cX11_man 69 = .ok (.iconst 1, 1) := by decide +kernel
theorem dX11_man_70 : decode cX11_man 70 = .ok (.isub, 1) := by decide +kernel
theorem dX11_man_71 : decode cX11_man 71 = .ok (.ireturn, 1) := by decide +kernel
theorem dX11_name_0 : decode cX11_name 0 = .ok (.iload_n 1, 1) := by decide +kernel
theorem dX11_name_1 : decode cX11_name 1 = .ok (.iconst 0, 1) := by decide +kernel
theorem dX11_name_2 : decode cX11_name 2 = .ok (.bipush 20, 2) := by decide +kernel
theorem dX11_name_4 : decode cX11_name 4 = .ok (.invokestatic 71, 3) := by decide +kernel
theorem dX11_name_7 : decode cX11_name 7 = .ok (.ifCond .ne 13, 3) := by decide +kernel
theorem dX11_name_10 : decode cX11_name 10 = .ok (.iload_n 2, 1) := by decide +kernel
theorem dX11_name_11 : decode cX11_name 11 = .ok (.iconst 0, 1) := by decide +kernel
theorem dX11_name_12 : decode cX11_name 12 = .ok (.bipush 20, 2) := by decide +kernel
theorem dX11_name_14 : decode cX11_name 14 = .ok (.invokestatic 71, 3) := by decide +kernel
theorem dX11_name_17 : decode cX11_name 17 = .ok (.ifCond .eq 5, 3) := by decide +kernel
theorem dX11_name_20 : decode cX11_name 20 = .ok (.iconst (-1), 1) := by decide +kernel
theorem dX11_name_21 : decode cX11_name 21 = .ok (.ireturn, 1) := by decide +kernel
theorem dX11_name_22 : decode cX11_name 22 = .ok (.aload_n 0, 1) := by decide +kernel
theorem dX11_name_23 : decode cX11_name 23 = .ok (.getfield 28, 3) := by decide +kernel
theorem dX11_name_26 : decode cX11_name 26 = .ok (.getfield 86, 3) := by decide +kernel
theorem dX11_name_29 : decode cX11_name 29 = .ok (.bipush 6, 2) := by decide +kernel
theorem dX11_name_31 : decode cX11_name 31 = .ok (.if_icmp .lt 6, 3) := by decide +kernel
theorem dX11_name_34 : decode cX11_name 34 = .ok (.bipush (-3), 2) := by decide +kernel
theorem dX11_name_36 : decode cX11_name 36 = .ok (.ireturn, 1) := by decide +kernel
theorem dX11_name_37 : decode cX11_name 37 = .ok (.aload_n 0, 1) := by decide +kernel
theorem dX11_name_38 : decode cX11_name 38 = .ok (.getfield 35, 3) := by decide +kernel
theorem dX11_name_41 : decode cX11_name 41 = .ok (.invokevirtual 79, 3) := by decide +kernel
theorem dX11_name_44 : decode cX11_name 44 = .ok (.aload_n 0, 1) := by decide +kernel
theorem dX11_name_45 : decode cX11_name 45 = .ok (.getfield 28, 3) := by decide +kernel
theorem dX11_name_48 : decode cX11_name 48 = .ok (.iload_n 1, 1) := by decide +kernel
theorem dX11_name_49 : decode cX11_name 49 = .ok (.iload_n 2, 1) := by decide +kernel
theorem dX11_name_50 : decode cX11_name 50 = .ok (.invokevirtual 89, 3) := by decide +kernel
theorem dX11_name_53 : decode cX11_name 53 = .ok (.aload_n 0, 1) := by decide +kernel
theorem dX11_name_54 : decode cX11_name 54 = .ok (.getfield 28, 3) := by decide +kernel
theorem dX11_name_57 : decode cX11_name 57 = .ok (.getfield 86, 3) := by decide +kernel
theorem dX11_name_60 : decode cX11_name 60 = .ok (.iconst 1, 1) := by decide +kernel
theorem dX11_name_61 : decode cX11_name 61 = .ok (.isub, 1) := by decide +kernel
theorem dX11_name_62 : decode cX11_name 62 = .ok (.ireturn, 1) := by decide +kernel
theorem dX11_of_0 : decode cX11_of 0 = .ok (.aload_n 0, 1) := by decide +kernel
theorem dX11_of_1 : decode cX11_of 1 = .ok (.iload_n 1, 1) := by decide +kernel
theorem dX11_of_2 : decode cX11_of 2 = .ok (.invokevirtual 93, 3) := by decide +kernel
theorem dX11_of_5 : decode cX11_of 5 = .ok (.ifCond .eq 5, 3) := by decide +kernel
theorem dX11_of_8 : decode cX11_of 8 = .ok (.iconst (-1), 1) := by decide +kernel
theorem dX11_of_9 : decode cX11_of 9 = .ok (.ireturn, 1) := by decide +kernel
theorem dX11_of_10 : decode cX11_of 10 = .ok (.iload_n 2, 1) := by decide +kernel
theorem dX11_of_11 : decode cX11_of 11 = .ok (.tableswitch 131 0 6 #[41, 51, 61, 71, 85, 98, 118], 41) := by decide +kernel
theorem dX11_of_52 : decode cX11_of 52 = .ok (.aload_n 0, 1) := by decide +kernel
theorem dX11_of_53 : decode cX11_of 53 = .ok (.getfield 28, 3) := by decide +kernel
theorem dX11_of_56 : decode cX11_of 56 = .ok (.getfield 97, 3) := by decide +kernel
theorem dX11_of_59 : decode cX11_of 59 = .ok (.iload_n 1, 1) := by decide +kernel
theorem dX11_of_60 : decode cX11_of 60 = .ok (.iaload, 1) := by decide +kernel
theorem dX11_of_61 : decode cX11_of 61 = .ok (.ireturn, 1) := by decide +kernel
theorem dX11_of_62 : decode cX11_of 62 = .ok (.aload_n 0, 1) := by decide +kernel
theorem dX11_of_63 : decode cX11_of 63 = .ok (.getfield 28, 3) := by decide +kernel
theorem dX11_of_66 : decode cX11_of 66 = .ok (.getfield 101, 3) := by decide +kernel
theorem dX11_of_69 : decode cX11_of 69 = .ok (.iload_n 1, 1) := by decide +kernel
theorem dX11_of_70 : decode cX11_of 70 = .ok (.iaload, 1) := by decide +kernel
theorem dX11_of_71 : decode cX11_of 71 = .ok (.ireturn, 1) := by decide +kernel
theorem dX11_of_72 : decode cX11_of 72 = .ok (.aload_n 0, 1) := by decide +kernel
theorem dX11_of_73 : decode cX11_of 73 = .ok (.getfield 28, 3) := by decide +kernel
theorem dX11_of_76 : decode cX11_of 76 = .ok (.getfield 104, 3) := by decide +kernel
theorem dX11_of_79 : decode cX11_of 79 = .ok (.iload_n 1, 1) := by decide +kernel
theorem dX11_of_80 : decode cX11_of 80 = .ok (.iaload, 1) := by decide +kernel
theorem dX11_of_81 : decode cX11_of 81 = .ok (.ireturn, 1) := by decide +kernel
theorem dX11_of_82 : decode cX11_of 82 = .ok (.aload_n 0, 1) := by decide +kernel
theorem dX11_of_83 : decode cX11_of 83 = .ok (.getfield 28, 3) := by decide +kernel
theorem dX11_of_86 : decode cX11_of 86 = .ok (.getfield 107, 3) := by decide +kernel
theorem dX11_of_89 : decode cX11_of 89 = .ok (.iload_n 1, 1) := by decide +kernel
theorem dX11_of_90 : decode cX11_of 90 = .ok (.iaload, 1) := by decide +kernel
theorem dX11_of_91 : decode cX11_of 91 = .ok (.sipush 10000, 3) := by decide +kernel
theorem dX11_of_94 : decode cX11_of 94 = .ok (.iadd, 1) := by decide +kernel
theorem dX11_of_95 : decode cX11_of 95 = .ok (.ireturn, 1) := by decide +kernel
theorem dX11_of_96 : decode cX11_of 96 = .ok (.aload_n 0, 1) := by decide +kernel
theorem dX11_of_97 : decode cX11_of 97 = .ok (.getfield 28, 3) := by decide +kernel
theorem dX11_of_100 : decode cX11_of 100 = .ok (.getfield 110, 3) := by decide +kernel
theorem dX11_of_103 : decode cX11_of 103 = .ok (.iload_n 1, 1) := by decide +kernel
theorem dX11_of_104 : decode cX11_of 104 = .ok (.iaload, 1) := by decide +kernel
theorem dX11_of_105 : decode cX11_of 105 = .ok (.invokestatic 113, 3) := by decide +kernel
theorem dX11_of_108 : decode cX11_of 108 = .ok (.ireturn, 1) := by decide +kernel
theorem dX11_of_109 : decode cX11_of 109 = .ok (.aload_n 0, 1) := by decide +kernel
theorem dX11_of_110 : decode cX11_of 110 = .ok (.getfield 10, 3) := by decide +kernel
theorem dX11_of_113 : decode cX11_of 113 = .ok (.aload_n 0, 1) := by decide +kernel
theorem dX11_of_114 : decode cX11_of 114 = .ok (.getfield 28, 3) := by decide +kernel
theorem dX11_of_117 : decode cX11_of 117 = .ok (.iload_n 1, 1) := by decide +kernel
theorem dX11_of_118 : decode cX11_of 118 = .ok (.aload_n 0, 1) := by decide +kernel
theorem dX11_of_119 : decode cX11_of 119 = .ok (.getfield 28, 3) := by decide +kernel
theorem dX11_of_122 : decode cX11_of 122 = .ok (.getfield 117, 3) := by decide +kernel
theorem dX11_of_125 : decode cX11_of 125 = .ok (.invokevirtual 120, 3) := by decide +kernel
theorem dX11_of_128 : decode cX11_of 128 = .ok (.ireturn, 1) := by decide +kernel
theorem dX11_of_129 : decode cX11_of 129 = .ok (.aload_n 0, 1) := by decide +kernel
theorem dX11_of_130 : decode cX11_of 130 = .ok (.getfield 10, 3) := by decide +kernel
theorem dX11_of_133 : decode cX11_of 133 = .ok (.aload_n 0, 1) := by decide +kernel
theorem dX11_of_134 : decode cX11_of 134 = .ok (.getfield 28, 3) := by decide +kernel
theorem dX11_of_137 : decode cX11_of 137 = .ok (.iload_n 1, 1) := by decide +kernel
theorem dX11_of_138 : decode cX11_of 138 = .ok (.invokevirtual 124, 3) := by decide +kernel
theorem dX11_of_141 : decode cX11_of 141 = .ok (.ireturn, 1) := by decide +kernel
theorem dX11_of_142 : decode cX11_of 142 = .ok (.iconst (-1), 1) := by decide +kernel
theorem dX11_of_143 : decode cX11_of 143 = .ok (.ireturn, 1) := by decide +kernel
theorem dX11_named_0 : decode cX11_named 0 = .ok (.aload_n 0, 1) := by decide +kernel
theorem dX11_named_1 : decode cX11_named 1 = .ok (.iload_n 1, 1) := by decide +kernel
theorem dX11_named_2 : decode cX11_named 2 = .ok (.invokevirtual 128, 3) := by decide +kernel
theorem dX11_named_5 : decode cX11_named 5 = .ok (.ifCond .eq 5, 3) := by decide +kernel
theorem dX11_named_8 : decode cX11_named 8 = .ok (.iconst (-1), 1) := by decide +kernel
theorem dX11_named_9 : decode cX11_named 9 = .ok (.ireturn, 1) := by decide +kernel
theorem dX11_named_10 : decode cX11_named 10 = .ok (.iload_n 2, 1) := by decide +kernel
theorem dX11_named_11 : decode cX11_named 11 = .ok (.tableswitch 57 0 2 #[25, 35, 45], 25) := by decide +kernel
theorem dX11_named_36 : decode cX11_named 36 = .ok (.aload_n 0, 1) := by decide +kernel
theorem dX11_named_37 : decode cX11_named 37 = .ok (.getfield 28, 3) := by decide +kernel
theorem dX11_named_40 : decode cX11_named 40 = .ok (.getfield 131, 3) := by decide +kernel
theorem dX11_named_43 : decode cX11_named 43 = .ok (.iload_n 1, 1) := by decide +kernel
theorem dX11_named_44 : decode cX11_named 44 = .ok (.iaload, 1) := by decide +kernel
theorem dX11_named_45 : decode cX11_named 45 = .ok (.ireturn, 1) := by decide +kernel
theorem dX11_named_46 : decode cX11_named 46 = .ok (.aload_n 0, 1) := by decide +kernel
theorem dX11_named_47 : decode cX11_named 47 = .ok (.getfield 28, 3) := by decide +kernel
theorem dX11_named_50 : decode cX11_named 50 = .ok (.getfield 134, 3) := by decide +kernel
theorem dX11_named_53 : decode cX11_named 53 = .ok (.iload_n 1, 1) := by decide +kernel
theorem dX11_named_54 : decode cX11_named 54 = .ok (.iaload, 1) := by decide +kernel
theorem dX11_named_55 : decode cX11_named 55 = .ok (.ireturn, 1) := by decide +kernel
theorem dX11_named_56 : decode cX11_named 56 = .ok (.aload_n 0, 1) := by decide +kernel
theorem dX11_named_57 : decode cX11_named 57 = .ok (.getfield 28, 3) := by decide +kernel
theorem dX11_named_60 : decode cX11_named 60 = .ok (.iload_n 1, 1) := by decide +kernel
theorem dX11_named_61 : decode cX11_named 61 = .ok (.invokevirtual 137, 3) := by decide +kernel
theorem dX11_named_64 : decode cX11_named 64 = .ok (.invokestatic 113, 3) := by decide +kernel
theorem dX11_named_67 : decode cX11_named 67 = .ok (.ireturn, 1) := by decide +kernel
theorem dX11_named_68 : decode cX11_named 68 = .ok (.iconst (-1), 1) := by decide +kernel
theorem dX11_named_69 : decode cX11_named 69 = .ok (.ireturn, 1) := by decide +kernel
theorem dX11_values_0 : decode cX11_values 0 = .ok (.aload_n 0, 1) := by decide +kernel
theorem dX11_values_1 : decode cX11_values 1 = .ok (.iload_n 1, 1) := by decide +kernel
theorem dX11_values_2 : decode cX11_values 2 = .ok (.invokevirtual 93, 3) := by decide +kernel
theorem dX11_values_5 : decode cX11_values 5 = .ok (.ifCond .ne 11, 3) := by decide +kernel
theorem dX11_values_8 : decode cX11_values 8 = .ok (.aload_n 0, 1) := by decide +kernel
theorem dX11_values_9 : decode cX11_values 9 = .ok (.iload_n 2, 1) := by decide +kernel
theorem dX11_values_10 : decode cX11_values 10 = .ok (.invokevirtual 128, 3) := by decide +kernel
theorem dX11_values_13 : decode cX11_values 13 = .ok (.ifCond .eq 5, 3) := by decide +kernel
theorem dX11_values_16 : decode cX11_values 16 = .ok (.iconst (-1), 1) := by decide +kernel
theorem dX11_values_17 : decode cX11_values 17 = .ok (.ireturn, 1) := by decide +kernel
theorem dX11_values_18 : decode cX11_values 18 = .ok (.aload_n 0, 1) := by decide +kernel
theorem dX11_values_19 : decode cX11_values 19 = .ok (.getfield 10, 3) := by decide +kernel
theorem dX11_values_22 : decode cX11_values 22 = .ok (.aload_n 0, 1) := by decide +kernel
theorem dX11_values_23 : decode cX11_values 23 = .ok (.getfield 28, 3) := by decide +kernel
theorem dX11_values_26 : decode cX11_values 26 = .ok (.iload_n 1, 1) := by decide +kernel
theorem dX11_values_27 : decode cX11_values 27 = .ok (.iload_n 2, 1) := by decide +kernel
theorem dX11_values_28 : decode cX11_values 28 = .ok (.invokevirtual 140, 3) := by decide +kernel
theorem dX11_values_31 : decode cX11_values 31 = .ok (.bipush 100, 2) := by decide +kernel
theorem dX11_values_33 : decode cX11_values 33 = .ok (.iadd, 1) := by decide +kernel
theorem dX11_values_34 : decode cX11_values 34 = .ok (.ireturn, 1) := by decide +kernel
theorem dX11_stones_0 : decode cX11_stones 0 = .ok (.iload_n 1, 1) := by decide +kernel
theorem dX11_stones_1 : decode cX11_stones 1 = .ok (.iconst 0, 1) := by decide +kernel
theorem dX11_stones_2 : decode cX11_stones 2 = .ok (.bipush 20, 2) := by decide +kernel
theorem dX11_stones_4 : decode cX11_stones 4 = .ok (.invokestatic 71, 3) := by decide +kernel
theorem dX11_stones_7 : decode cX11_stones 7 = .ok (.ifCond .eq 5, 3) := by decide +kernel
theorem dX11_stones_10 : decode cX11_stones 10 = .ok (.iconst (-1), 1) := by decide +kernel
theorem dX11_stones_11 : decode cX11_stones 11 = .ok (.ireturn, 1) := by decide +kernel
theorem dX11_stones_12 : decode cX11_stones 12 = .ok (.aload_n 0, 1) := by decide +kernel
theorem dX11_stones_13 : decode cX11_stones 13 = .ok (.getfield 28, 3) := by decide +kernel
theorem dX11_stones_16 : decode cX11_stones 16 = .ok (.getfield 117, 3) := by decide +kernel
theorem dX11_stones_19 : decode cX11_stones 19 = .ok (.istore_n 2, 1) := by decide +kernel
theorem dX11_stones_20 : decode cX11_stones 20 = .ok (.aload_n 0, 1) := by decide +kernel
theorem dX11_stones_21 : decode cX11_stones 21 = .ok (.getfield 28, 3) := by decide +kernel
theorem dX11_stones_24 : decode cX11_stones 24 = .ok (.iload_n 1, 1) := by decide +kernel
theorem dX11_stones_25 : decode cX11_stones 25 = .ok (.putfield 117, 3) := by decide +kernel
theorem dX11_stones_28 : decode cX11_stones 28 = .ok (.iload_n 2, 1) := by decide +kernel
theorem dX11_stones_29 : decode cX11_stones 29 = .ok (.ireturn, 1) := by decide +kernel
theorem dX11_type_0 : decode cX11_type 0 = .ok (.iload_n 1, 1) := by decide +kernel
theorem dX11_type_1 : decode cX11_type 1 = .ok (.bipush 32, 2) := by decide +kernel
theorem dX11_type_3 : decode cX11_type 3 = .ok (.bipush 126, 2) := by decide +kernel
theorem dX11_type_5 : decode cX11_type 5 = .ok (.invokestatic 71, 3) := by decide +kernel
theorem dX11_type_8 : decode cX11_type 8 = .ok (.ifCond .eq 5, 3) := by decide +kernel
theorem dX11_type_11 : decode cX11_type 11 = .ok (.iconst (-1), 1) := by decide +kernel
theorem dX11_type_12 : decode cX11_type 12 = .ok (.ireturn, 1) := by decide +kernel
theorem dX11_type_13 : decode cX11_type 13 = .ok (.aload_n 0, 1) := by decide +kernel
theorem dX11_type_14 : decode cX11_type 14 = .ok (.getfield 55, 3) := by decide +kernel
theorem dX11_type_17 : decode cX11_type 17 = .ok (.iload_n 1, 1) := by decide +kernel
theorem dX11_type_18 : decode cX11_type 18 = .ok (.i2c, 1) := by decide +kernel
theorem dX11_type_19 : decode cX11_type 19 = .ok (.invokevirtual 143, 3) := by decide +kernel
theorem dX11_type_22 : decode cX11_type 22 = .ok (.ifCond .eq 13, 3) := by decide +kernel
theorem dX11_type_25 : decode cX11_type 25 = .ok (.aload_n 0, 1) := by decide +kernel
theorem dX11_type_26 : decode cX11_type 26 = .ok (.getfield 55, 3) := by decide +kernel
theorem dX11_type_29 : decode cX11_type 29 = .ok (.getfield 147, 3) := by decide +kernel
theorem dX11_type_32 : decode cX11_type 32 = .ok (.goto 5, 3) := by decide +kernel
theorem dX11_type_35 : decode cX11_type 35 = .ok (.bipush (-3), 2) := by decide +kernel
theorem dX11_type_37 : decode cX11_type 37 = .ok (.ireturn, 1) := by decide +kernel
theorem dX11_parish_0 : decode cX11_parish 0 = .ok (.aload_n 0, 1) := by decide +kernel
theorem dX11_parish_1 : decode cX11_parish 1 = .ok (.getfield 55, 3) := by decide +kernel
theorem dX11_parish_4 : decode cX11_parish 4 = .ok (.aload_n 0, 1) := by decide +kernel
theorem dX11_parish_5 : decode cX11_parish 5 = .ok (.getfield 49, 3) := by decide +kernel
theorem dX11_parish_8 : decode cX11_parish 8 = .ok (.invokevirtual 150, 3) := by decide +kernel
theorem dX11_parish_11 : decode cX11_parish 11 = .ok (.istore_n 1, 1) := by decide +kernel
theorem dX11_parish_12 : decode cX11_parish 12 = .ok (.aload_n 0, 1) := by decide +kernel
theorem dX11_parish_13 : decode cX11_parish 13 = .ok (.getfield 55, 3) := by decide +kernel
theorem dX11_parish_16 : decode cX11_parish 16 = .ok (.iconst 0, 1) := by decide +kernel
theorem dX11_parish_17 : decode cX11_parish 17 = .ok (.putfield 147, 3) := by decide +kernel
theorem dX11_parish_20 : decode cX11_parish 20 = .ok (.iload_n 1, 1) := by decide +kernel
theorem dX11_parish_21 : decode cX11_parish 21 = .ok (.ifCond .ne 14, 3) := by decide +kernel
theorem dX11_parish_24 : decode cX11_parish 24 = .ok (.bipush (-20), 2) := by decide +kernel
theorem dX11_parish_26 : decode cX11_parish 26 = .ok (.aload_n 0, 1) := by decide +kernel
theorem dX11_parish_27 : decode cX11_parish 27 = .ok (.getfield 55, 3) := by decide +kernel
theorem dX11_parish_30 : decode cX11_parish 30 = .ok (.getfield 154, 3) := by decide +kernel
theorem dX11_parish_33 : decode cX11_parish 33 = .ok (.isub, 1) := by decide +kernel
theorem dX11_parish_34 : decode cX11_parish 34 = .ok (.ireturn, 1) := by decide +kernel
theorem dX11_parish_35 : decode cX11_parish 35 = .ok (.aload_n 0, 1) := by decide +kernel
theorem dX11_parish_36 : decode cX11_parish 36 = .ok (.getfield 49, 3) := by decide +kernel
theorem dX11_parish_39 : decode cX11_parish 39 = .ok (.aload_n 0, 1) := by decide +kernel
theorem dX11_parish_40 : decode cX11_parish 40 = .ok (.getfield 28, 3) := by decide +kernel
theorem dX11_parish_43 : decode cX11_parish 43 = .ok (.getfield 157, 3) := by decide +kernel
theorem dX11_parish_46 : decode cX11_parish 46 = .ok (.putfield 157, 3) := by decide +kernel
theorem dX11_parish_49 : decode cX11_parish 49 = .ok (.aload_n 0, 1) := by decide +kernel
theorem dX11_parish_50 : decode cX11_parish 50 = .ok (.getfield 28, 3) := by decide +kernel
theorem dX11_parish_53 : decode cX11_parish 53 = .ok (.aload_n 0, 1) := by decide +kernel
theorem dX11_parish_54 : decode cX11_parish 54 = .ok (.getfield 49, 3) := by decide +kernel
theorem dX11_parish_57 : decode cX11_parish 57 = .ok (.invokevirtual 160, 3) := by decide +kernel
theorem dX11_parish_60 : decode cX11_parish 60 = .ok (.aload_n 0, 1) := by decide +kernel
theorem dX11_parish_61 : decode cX11_parish 61 = .ok (.getfield 35, 3) := by decide +kernel
theorem dX11_parish_64 : decode cX11_parish 64 = .ok (.invokevirtual 79, 3) := by decide +kernel
theorem dX11_parish_67 : decode cX11_parish 67 = .ok (.aload_n 0, 1) := by decide +kernel
theorem dX11_parish_68 : decode cX11_parish 68 = .ok (.getfield 28, 3) := by decide +kernel
theorem dX11_parish_71 : decode cX11_parish 71 = .ok (.getfield 75, 3) := by decide +kernel
theorem dX11_parish_74 : decode cX11_parish 74 = .ok (.ireturn, 1) := by decide +kernel
theorem dX11_count_0 : decode cX11_count 0 = .ok (.iload_n 1, 1) := by decide +kernel
theorem dX11_count_1 : decode cX11_count 1 = .ok (.tableswitch 158 0 8 #[51, 59, 67, 75, 83, 95, 107, 119, 150], 51) := by decide +kernel
theorem dX11_count_52 : decode cX11_count 52 = .ok (.aload_n 0, 1) := by decide +kernel
theorem dX11_count_53 : decode cX11_count 53 = .ok (.getfield 28, 3) := by decide +kernel
theorem dX11_count_56 : decode cX11_count 56 = .ok (.getfield 75, 3) := by decide +kernel
theorem dX11_count_59 : decode cX11_count 59 = .ok (.ireturn, 1) := by decide +kernel
theorem dX11_count_60 : decode cX11_count 60 = .ok (.aload_n 0, 1) := by decide +kernel
theorem dX11_count_61 : decode cX11_count 61 = .ok (.getfield 28, 3) := by decide +kernel
theorem dX11_count_64 : decode cX11_count 64 = .ok (.getfield 86, 3) := by decide +kernel
theorem dX11_count_67 : decode cX11_count 67 = .ok (.ireturn, 1) := by decide +kernel
theorem dX11_count_68 : decode cX11_count 68 = .ok (.aload_n 0, 1) := by decide +kernel
theorem dX11_count_69 : decode cX11_count 69 = .ok (.getfield 28, 3) := by decide +kernel
theorem dX11_count_72 : decode cX11_count 72 = .ok (.getfield 164, 3) := by decide +kernel
theorem dX11_count_75 : decode cX11_count 75 = .ok (.ireturn, 1) := by decide +kernel
theorem dX11_count_76 : decode cX11_count 76 = .ok (.aload_n 0, 1) := by decide +kernel
theorem dX11_count_77 : decode cX11_count 77 = .ok (.getfield 28, 3) := by decide +kernel
theorem dX11_count_80 : decode cX11_count 80 = .ok (.getfield 117, 3) := by decide +kernel
theorem dX11_count_83 : decode cX11_count 83 = .ok (.ireturn, 1) := by decide +kernel
theorem dX11_count_84 : decode cX11_count 84 = .ok (.aload_n 0, 1) := by decide +kernel
theorem dX11_count_85 : decode cX11_count 85 = .ok (.aload_n 0, 1) := by decide +kernel
theorem dX11_count_86 : decode cX11_count 86 = .ok (.getfield 28, 3) := by decide +kernel
theorem dX11_count_89 : decode cX11_count 89 = .ok (.getfield 110, 3) := by decide +kernel
theorem dX11_count_92 : decode cX11_count 92 = .ok (.invokevirtual 167, 3) := by decide +kernel
theorem dX11_count_95 : decode cX11_count 95 = .ok (.ireturn, 1) := by decide +kernel
theorem dX11_count_96 : decode cX11_count 96 = .ok (.aload_n 0, 1) := by decide +kernel
theorem dX11_count_97 : decode cX11_count 97 = .ok (.aload_n 0, 1) := by decide +kernel
theorem dX11_count_98 : decode cX11_count 98 = .ok (.getfield 28, 3) := by decide +kernel
theorem dX11_count_101 : decode cX11_count 101 = .ok (.getfield 131, 3) := by decide +kernel
theorem dX11_count_104 : decode cX11_count 104 = .ok (.invokevirtual 171, 3) := by decide +kernel
theorem dX11_count_107 : decode cX11_count 107 = .ok (.ireturn, 1) := by decide +kernel
theorem dX11_count_108 : decode cX11_count 108 = .ok (.aload_n 0, 1) := by decide +kernel
theorem dX11_count_109 : decode cX11_count 109 = .ok (.aload_n 0, 1) := by decide +kernel
theorem dX11_count_110 : decode cX11_count 110 = .ok (.getfield 28, 3) := by decide +kernel
theorem dX11_count_113 : decode cX11_count 113 = .ok (.getfield 134, 3) := by decide +kernel
theorem dX11_count_116 : decode cX11_count 116 = .ok (.invokevirtual 171, 3) := by decide +kernel
theorem dX11_count_119 : decode cX11_count 119 = .ok (.ireturn, 1) := by decide +kernel
theorem dX11_count_120 : decode cX11_count 120 = .ok (.aload_n 0, 1) := by decide +kernel
theorem dX11_count_121 : decode cX11_count 121 = .ok (.getfield 10, 3) := by decide +kernel
theorem dX11_count_124 : decode cX11_count 124 = .ok (.aload_n 0, 1) := by decide +kernel
theorem dX11_count_125 : decode cX11_count 125 = .ok (.getfield 28, 3) := by decide +kernel
theorem dX11_count_128 : decode cX11_count 128 = .ok (.aload_n 0, 1) := by decide +kernel
theorem dX11_count_129 : decode cX11_count 129 = .ok (.getfield 28, 3) := by decide +kernel
theorem dX11_count_132 : decode cX11_count 132 = .ok (.getfield 117, 3) := by decide +kernel
theorem dX11_count_135 : decode cX11_count 135 = .ok (.invokevirtual 174, 3) := by decide +kernel
theorem dX11_count_138 : decode cX11_count 138 = .ok (.pop, 1) := by decide +kernel
theorem dX11_count_139 : decode cX11_count 139 = .ok (.aload_n 0, 1) := by decide +kernel
theorem dX11_count_140 : decode cX11_count 140 = .ok (.aload_n 0, 1) := by decide +kernel
theorem dX11_count_141 : decode cX11_count 141 = .ok (.getfield 10, 3) := by decide +kernel
theorem dX11_count_144 : decode cX11_count 144 = .ok (.getfield 177, 3) := by decide +kernel
theorem dX11_count_147 : decode cX11_count 147 = .ok (.invokevirtual 167, 3) := by decide +kernel
theorem dX11_count_150 : decode cX11_count 150 = .ok (.ireturn, 1) := by decide +kernel
theorem dX11_count_151 : decode cX11_count 151 = .ok (.aload_n 0, 1) := by decide +kernel
theorem dX11_count_152 : decode cX11_count 152 = .ok (.getfield 35, 3) := by decide +kernel
theorem dX11_count_155 : decode cX11_count 155 = .ok (.getfield 180, 3) := by decide +kernel
theorem dX11_count_158 : decode cX11_count 158 = .ok (.ireturn, 1) := by decide +kernel
theorem dX11_count_159 : decode cX11_count 159 = .ok (.iconst (-1), 1) := by decide +kernel
theorem dX11_count_160 : decode cX11_count 160 = .ok (.ireturn, 1) := by decide +kernel
theorem dX11_marches_0 : decode cX11_marches 0 = .ok (.iload_n 1, 1) := by decide +kernel
theorem dX11_marches_1 : decode cX11_marches 1 = .ok (.iconst 1, 1) := by decide +kernel
theorem dX11_marches_2 : decode cX11_marches 2 = .ok (.bipush 40, 2) := by decide +kernel
theorem dX11_marches_4 : decode cX11_marches 4 = .ok (.invokestatic 71, 3) := by decide +kernel
theorem dX11_marches_7 : decode cX11_marches 7 = .ok (.ifCond .eq 5, 3) := by decide +kernel
theorem dX11_marches_10 : decode cX11_marches 10 = .ok (.iconst (-1), 1) := by decide +kernel
theorem dX11_marches_11 : decode cX11_marches 11 = .ok (.ireturn, 1) := by decide +kernel
theorem dX11_marches_12 : decode cX11_marches 12 = .ok (.aload_n 0, 1) := by decide +kernel
theorem dX11_marches_13 : decode cX11_marches 13 = .ok (.getfield 28, 3) := by decide +kernel
theorem dX11_marches_16 : decode cX11_marches 16 = .ok (.getfield 164, 3) := by decide +kernel
theorem dX11_marches_19 : decode cX11_marches 19 = .ok (.iload_n 1, 1) := by decide +kernel
theorem dX11_marches_20 : decode cX11_marches 20 = .ok (.iadd, 1) := by decide +kernel
theorem dX11_marches_21 : decode cX11_marches 21 = .ok (.sipush 9999, 3) := by decide +kernel
theorem dX11_marches_24 : decode cX11_marches 24 = .ok (.if_icmp .le 6, 3) := by decide +kernel
theorem dX11_marches_27 : decode cX11_marches 27 = .ok (.bipush (-3), 2) := by decide +kernel
theorem dX11_marches_29 : decode cX11_marches 29 = .ok (.ireturn, 1) := by decide +kernel
theorem dX11_marches_30 : decode cX11_marches 30 = .ok (.iconst 0, 1) := by decide +kernel
theorem dX11_marches_31 : decode cX11_marches 31 = .ok (.istore_n 2, 1) := by decide +kernel
theorem dX11_marches_32 : decode cX11_marches 32 = .ok (.iload_n 2, 1) := by decide +kernel
theorem dX11_marches_33 : decode cX11_marches 33 = .ok (.iload_n 1, 1) := by decide +kernel
theorem dX11_marches_34 : decode cX11_marches 34 = .ok (.if_icmp .ge 38, 3) := by decide +kernel
theorem dX11_marches_37 : decode cX11_marches 37 = .ok (.aload_n 0, 1) := by decide +kernel
theorem dX11_marches_38 : decode cX11_marches 38 = .ok (.getfield 35, 3) := by decide +kernel
theorem dX11_marches_41 : decode cX11_marches 41 = .ok (.aload_n 0, 1) := by decide +kernel
theorem dX11_marches_42 : decode cX11_marches 42 = .ok (.getfield 28, 3) := by decide +kernel
theorem dX11_marches_45 : decode cX11_marches 45 = .ok (.invokevirtual 183, 3) := by decide +kernel
theorem dX11_marches_48 : decode cX11_marches 48 = .ok (.aload_n 0, 1) := by decide +kernel
theorem dX11_marches_49 : decode cX11_marches 49 = .ok (.getfield 10, 3) := by decide +kernel
theorem dX11_marches_52 : decode cX11_marches 52 = .ok (.aload_n 0, 1) := by decide +kernel
theorem dX11_marches_53 : decode cX11_marches 53 = .ok (.getfield 28, 3) := by decide +kernel
theorem dX11_marches_56 : decode cX11_marches 56 = .ok (.aload_n 0, 1) := by decide +kernel
theorem dX11_marches_57 : decode cX11_marches 57 = .ok (.getfield 28, 3) := by decide +kernel
theorem dX11_marches_60 : decode cX11_marches 60 = .ok (.getfield 117, 3) := by decide +kernel
theorem dX11_marches_63 : decode cX11_marches 63 = .ok (.invokevirtual 186, 3) := by decide +kernel
theorem dX11_marches_66 : decode cX11_marches 66 = .ok (.iinc 2 1, 3) := by decide +kernel
theorem dX11_marches_69 : decode cX11_marches 69 = .ok (.goto (-37), 3) := by decide +kernel
theorem dX11_marches_72 : decode cX11_marches 72 = .ok (.aload_n 0, 1) := by decide +kernel
theorem dX11_marches_73 : decode cX11_marches 73 = .ok (.aload_n 0, 1) := by decide +kernel
theorem dX11_marches_74 : decode cX11_marches 74 = .ok (.getfield 28, 3) := by decide +kernel
theorem dX11_marches_77 : decode cX11_marches 77 = .ok (.getfield 110, 3) := by decide +kernel
theorem dX11_marches_80 : decode cX11_marches 80 = .ok (.invokevirtual 167, 3) := by decide +kernel
theorem dX11_marches_83 : decode cX11_marches 83 = .ok (.ireturn, 1) := by decide +kernel
theorem dX11_train_0 : decode cX11_train 0 = .ok (.aload_n 0, 1) := by decide +kernel
theorem dX11_train_1 : decode cX11_train 1 = .ok (.iload_n 1, 1) := by decide +kernel
theorem dX11_train_2 : decode cX11_train 2 = .ok (.invokevirtual 93, 3) := by decide +kernel
theorem dX11_train_5 : decode cX11_train 5 = .ok (.ifCond .eq 5, 3) := by decide +kernel
theorem dX11_train_8 : decode cX11_train 8 = .ok (.iconst (-1), 1) := by decide +kernel
theorem dX11_train_9 : decode cX11_train 9 = .ok (.ireturn, 1) := by decide +kernel
theorem dX11_train_10 : decode cX11_train 10 = .ok (.aload_n 0, 1) := by decide +kernel
theorem dX11_train_11 : decode cX11_train 11 = .ok (.getfield 28, 3) := by decide +kernel
theorem dX11_train_14 : decode cX11_train 14 = .ok (.getfield 101, 3) := by decide +kernel
theorem dX11_train_17 : decode cX11_train 17 = .ok (.iload_n 1, 1) := by decide +kernel
theorem dX11_train_18 : decode cX11_train 18 = .ok (.iaload, 1) := by decide +kernel
theorem dX11_train_19 : decode cX11_train 19 = .ok (.bipush 9, 2) := by decide +kernel
theorem dX11_train_21 : decode cX11_train 21 = .ok (.if_icmp .lt 6, 3) := by decide +kernel
theorem dX11_train_24 : decode cX11_train 24 = .ok (.bipush (-2), 2) := by decide +kernel
theorem dX11_train_26 : decode cX11_train 26 = .ok (.ireturn, 1) := by decide +kernel
theorem dX11_train_27 : decode cX11_train 27 = .ok (.aload_n 0, 1) := by decide +kernel
theorem dX11_train_28 : decode cX11_train 28 = .ok (.getfield 35, 3) := by decide +kernel
theorem dX11_train_31 : decode cX11_train 31 = .ok (.aload_n 0, 1) := by decide +kernel
theorem dX11_train_32 : decode cX11_train 32 = .ok (.getfield 28, 3) := by decide +kernel
theorem dX11_train_35 : decode cX11_train 35 = .ok (.invokevirtual 183, 3) := by decide +kernel
theorem dX11_train_38 : decode cX11_train 38 = .ok (.aload_n 0, 1) := by decide +kernel
theorem dX11_train_39 : decode cX11_train 39 = .ok (.getfield 28, 3) := by decide +kernel
theorem dX11_train_42 : decode cX11_train 42 = .ok (.getfield 101, 3) := by decide +kernel
theorem dX11_train_45 : decode cX11_train 45 = .ok (.iload_n 1, 1) := by decide +kernel
theorem dX11_train_46 : decode cX11_train 46 = .ok (.dup2, 1) := by decide +kernel
theorem dX11_train_47 : decode cX11_train 47 = .ok (.iaload, 1) := by decide +kernel
theorem dX11_train_48 : decode cX11_train 48 = .ok (.iconst 1, 1) := by decide +kernel
theorem dX11_train_49 : decode cX11_train 49 = .ok (.iadd, 1) := by decide +kernel
theorem dX11_train_50 : decode cX11_train 50 = .ok (.iastore, 1) := by decide +kernel
theorem dX11_train_51 : decode cX11_train 51 = .ok (.aload_n 0, 1) := by decide +kernel
theorem dX11_train_52 : decode cX11_train 52 = .ok (.getfield 28, 3) := by decide +kernel
theorem dX11_train_55 : decode cX11_train 55 = .ok (.getfield 101, 3) := by decide +kernel
theorem dX11_train_58 : decode cX11_train 58 = .ok (.iload_n 1, 1) := by decide +kernel
theorem dX11_train_59 : decode cX11_train 59 = .ok (.iaload, 1) := by decide +kernel
theorem dX11_train_60 : decode cX11_train 60 = .ok (.ireturn, 1) := by decide +kernel
theorem dX11_hire_0 : decode cX11_hire 0 = .ok (.aload_n 0, 1) := by decide +kernel
theorem dX11_hire_1 : decode cX11_hire 1 = .ok (.iload_n 1, 1) := by decide +kernel
theorem dX11_hire_2 : decode cX11_hire 2 = .ok (.invokevirtual 93, 3) := by decide +kernel
theorem dX11_hire_5 : decode cX11_hire 5 = .ok (.ifCond .ne 12, 3) := by decide +kernel
theorem dX11_hire_8 : decode cX11_hire 8 = .ok (.iload_n 2, 1) := by decide +kernel
theorem dX11_hire_9 : decode cX11_hire 9 = .ok (.iconst 1, 1) := by decide +kernel
theorem dX11_hire_10 : decode cX11_hire 10 = .ok (.iconst 4, 1) := by decide +kernel
theorem dX11_hire_11 : decode cX11_hire 11 = .ok (.invokestatic 71, 3) := by decide +kernel
theorem dX11_hire_14 : decode cX11_hire 14 = .ok (.ifCond .eq 5, 3) := by decide +kernel
theorem dX11_hire_17 : decode cX11_hire 17 = .ok (.iconst (-1), 1) := by decide +kernel
theorem dX11_hire_18 : decode cX11_hire 18 = .ok (.ireturn, 1) := by decide +kernel
theorem dX11_hire_19 : decode cX11_hire 19 = .ok (.aload_n 0, 1) := by decide +kernel
theorem dX11_hire_20 : decode cX11_hire 20 = .ok (.getfield 35, 3) := by decide +kernel
theorem dX11_hire_23 : decode cX11_hire 23 = .ok (.aload_n 0, 1) := by decide +kernel
theorem dX11_hire_24 : decode cX11_hire 24 = .ok (.getfield 28, 3) := by decide +kernel
theorem dX11_hire_27 : decode cX11_hire 27 = .ok (.invokevirtual 183, 3) := by decide +kernel
theorem dX11_hire_30 : decode cX11_hire 30 = .ok (.aload_n 0, 1) := by decide +kernel
theorem dX11_hire_31 : decode cX11_hire 31 = .ok (.getfield 28, 3) := by decide +kernel
theorem dX11_hire_34 : decode cX11_hire 34 = .ok (.getfield 104, 3) := by decide +kernel
theorem dX11_hire_37 : decode cX11_hire 37 = .ok (.iload_n 1, 1) := by decide +kernel
theorem dX11_hire_38 : decode cX11_hire 38 = .ok (.iaload, 1) := by decide +kernel
theorem dX11_hire_39 : decode cX11_hire 39 = .ok (.istore_n 3, 1) := by decide +kernel
theorem dX11_hire_40 : decode cX11_hire 40 = .ok (.aload_n 0, 1) := by decide +kernel
theorem dX11_hire_41 : decode cX11_hire 41 = .ok (.getfield 28, 3) := by decide +kernel
theorem dX11_hire_44 : decode cX11_hire 44 = .ok (.getfield 104, 3) := by decide +kernel
theorem dX11_hire_47 : decode cX11_hire 47 = .ok (.iload_n 1, 1) := by decide +kernel
theorem dX11_hire_48 : decode cX11_hire 48 = .ok (.iload_n 2, 1) := by decide +kernel
theorem dX11_hire_49 : decode cX11_hire 49 = .ok (.iastore, 1) := by decide +kernel
theorem dX11_hire_50 : decode cX11_hire 50 = .ok (.iload_n 3, 1) := by decide +kernel
theorem dX11_hire_51 : decode cX11_hire 51 = .ok (.ireturn, 1) := by decide +kernel
theorem dX11_swap_0 : decode cX11_swap 0 = .ok (.aload_n 0, 1) := by decide +kernel
theorem dX11_swap_1 : decode cX11_swap 1 = .ok (.iload_n 1, 1) := by decide +kernel
theorem dX11_swap_2 : decode cX11_swap 2 = .ok (.invokevirtual 93, 3) := by decide +kernel
theorem dX11_swap_5 : decode cX11_swap 5 = .ok (.ifCond .ne 16, 3) := by decide +kernel
theorem dX11_swap_8 : decode cX11_swap 8 = .ok (.aload_n 0, 1) := by decide +kernel
theorem dX11_swap_9 : decode cX11_swap 9 = .ok (.iload_n 2, 1) := by decide +kernel
theorem dX11_swap_10 : decode cX11_swap 10 = .ok (.invokevirtual 93, 3) := by decide +kernel
theorem dX11_swap_13 : decode cX11_swap 13 = .ok (.ifCond .ne 8, 3) := by decide +kernel
theorem dX11_swap_16 : decode cX11_swap 16 = .ok (.iload_n 1, 1) := by decide +kernel
theorem dX11_swap_17 : decode cX11_swap 17 = .ok (.iload_n 2, 1) := by decide +kernel
theorem dX11_swap_18 : decode cX11_swap 18 = .ok (.if_icmp .ne 5, 3) := by decide +kernel
theorem dX11_swap_21 : decode cX11_swap 21 = .ok (.iconst (-1), 1) := by decide +kernel
theorem dX11_swap_22 : decode cX11_swap 22 = .ok (.ireturn, 1) := by decide +kernel
theorem dX11_swap_23 : decode cX11_swap 23 = .ok (.aload_n 0, 1) := by decide +kernel
theorem dX11_swap_24 : decode cX11_swap 24 = .ok (.getfield 28, 3) := by decide +kernel
theorem dX11_swap_27 : decode cX11_swap 27 = .ok (.getfield 110, 3) := by decide +kernel
theorem dX11_swap_30 : decode cX11_swap 30 = .ok (.iload_n 1, 1) := by decide +kernel
theorem dX11_swap_31 : decode cX11_swap 31 = .ok (.iaload, 1) := by decide +kernel
theorem dX11_swap_32 : decode cX11_swap 32 = .ok (.istore_n 3, 1) := by decide +kernel
theorem dX11_swap_33 : decode cX11_swap 33 = .ok (.aload_n 0, 1) := by decide +kernel
theorem dX11_swap_34 : decode cX11_swap 34 = .ok (.getfield 28, 3) := by decide +kernel
theorem dX11_swap_37 : decode cX11_swap 37 = .ok (.getfield 110, 3) := by decide +kernel
theorem dX11_swap_40 : decode cX11_swap 40 = .ok (.iload_n 2, 1) := by decide +kernel
theorem dX11_swap_41 : decode cX11_swap 41 = .ok (.iaload, 1) := by decide +kernel
theorem dX11_swap_42 : decode cX11_swap 42 = .ok (.istore 4, 2) := by decide +kernel
theorem dX11_swap_44 : decode cX11_swap 44 = .ok (.iload_n 3, 1) := by decide +kernel
theorem dX11_swap_45 : decode cX11_swap 45 = .ok (.iconst (-1), 1) := by decide +kernel
theorem dX11_swap_46 : decode cX11_swap 46 = .ok (.if_icmp .eq 9, 3) := by decide +kernel
theorem dX11_swap_49 : decode cX11_swap 49 = .ok (.iload 4, 2) := by decide +kernel
theorem dX11_swap_51 : decode cX11_swap 51 = .ok (.iconst (-1), 1) := by decide +kernel
theorem dX11_swap_52 : decode cX11_swap 52 = .ok (.if_icmp .ne 6, 3) := by decide +kernel
theorem dX11_swap_55 : decode cX11_swap 55 = .ok (.bipush (-2), 2) := by decide +kernel
theorem dX11_swap_57 : decode cX11_swap 57 = .ok (.ireturn, 1) := by decide +kernel
theorem dX11_swap_58 : decode cX11_swap 58 = .ok (.aload_n 0, 1) := by decide +kernel
theorem dX11_swap_59 : decode cX11_swap 59 = .ok (.getfield 35, 3) := by decide +kernel
theorem dX11_swap_62 : decode cX11_swap 62 = .ok (.aload_n 0, 1) := by decide +kernel
theorem dX11_swap_63 : decode cX11_swap 63 = .ok (.getfield 28, 3) := by decide +kernel
theorem dX11_swap_66 : decode cX11_swap 66 = .ok (.invokevirtual 183, 3) := by decide +kernel
theorem dX11_swap_69 : decode cX11_swap 69 = .ok (.aload_n 0, 1) := by decide +kernel
theorem dX11_swap_70 : decode cX11_swap 70 = .ok (.getfield 28, 3) := by decide +kernel
theorem dX11_swap_73 : decode cX11_swap 73 = .ok (.getfield 110, 3) := by decide +kernel
theorem dX11_swap_76 : decode cX11_swap 76 = .ok (.iload_n 1, 1) := by decide +kernel
theorem dX11_swap_77 : decode cX11_swap 77 = .ok (.iload 4, 2) := by decide +kernel
theorem dX11_swap_79 : decode cX11_swap 79 = .ok (.iastore, 1) := by decide +kernel
theorem dX11_swap_80 : decode cX11_swap 80 = .ok (.aload_n 0, 1) := by decide +kernel
theorem dX11_swap_81 : decode cX11_swap 81 = .ok (.getfield 28, 3) := by decide +kernel
theorem dX11_swap_84 : decode cX11_swap 84 = .ok (.getfield 110, 3) := by decide +kernel
theorem dX11_swap_87 : decode cX11_swap 87 = .ok (.iload_n 2, 1) := by decide +kernel
theorem dX11_swap_88 : decode cX11_swap 88 = .ok (.iload_n 3, 1) := by decide +kernel
theorem dX11_swap_89 : decode cX11_swap 89 = .ok (.iastore, 1) := by decide +kernel
theorem dX11_swap_90 : decode cX11_swap 90 = .ok (.iload 4, 2) := by decide +kernel
theorem dX11_swap_92 : decode cX11_swap 92 = .ok (.ireturn, 1) := by decide +kernel
theorem dX11_drift_0 : decode cX11_drift 0 = .ok (.iload_n 1, 1) := by decide +kernel
theorem dX11_drift_1 : decode cX11_drift 1 = .ok (.iconst 1, 1) := by decide +kernel
theorem dX11_drift_2 : decode cX11_drift 2 = .ok (.bipush 40, 2) := by decide +kernel
theorem dX11_drift_4 : decode cX11_drift 4 = .ok (.invokestatic 71, 3) := by decide +kernel
theorem dX11_drift_7 : decode cX11_drift 7 = .ok (.ifCond .eq 5, 3) := by decide +kernel
theorem dX11_drift_10 : decode cX11_drift 10 = .ok (.iconst (-1), 1) := by decide +kernel
theorem dX11_drift_11 : decode cX11_drift 11 = .ok (.ireturn, 1) := by decide +kernel
theorem dX11_drift_12 : decode cX11_drift 12 = .ok (.aload_n 0, 1) := by decide +kernel
theorem dX11_drift_13 : decode cX11_drift 13 = .ok (.getfield 28, 3) := by decide +kernel
theorem dX11_drift_16 : decode cX11_drift 16 = .ok (.getfield 164, 3) := by decide +kernel
theorem dX11_drift_19 : decode cX11_drift 19 = .ok (.iload_n 1, 1) := by decide +kernel
theorem dX11_drift_20 : decode cX11_drift 20 = .ok (.iadd, 1) := by decide +kernel
theorem dX11_drift_21 : decode cX11_drift 21 = .ok (.sipush 9999, 3) := by decide +kernel
theorem dX11_drift_24 : decode cX11_drift 24 = .ok (.if_icmp .le 6, 3) := by decide +kernel
theorem dX11_drift_27 : decode cX11_drift 27 = .ok (.bipush (-3), 2) := by decide +kernel
theorem dX11_drift_29 : decode cX11_drift 29 = .ok (.ireturn, 1) := by decide +kernel
theorem dX11_drift_30 : decode cX11_drift 30 = .ok (.iconst 0, 1) := by decide +kernel
theorem dX11_drift_31 : decode cX11_drift 31 = .ok (.istore_n 2, 1) := by decide +kernel
theorem dX11_drift_32 : decode cX11_drift 32 = .ok (.iconst 0, 1) := by decide +kernel
theorem dX11_drift_33 : decode cX11_drift 33 = .ok (.istore_n 3, 1) := by decide +kernel
theorem dX11_drift_34 : decode cX11_drift 34 = .ok (.iload_n 3, 1) := by decide +kernel
theorem dX11_drift_35 : decode cX11_drift 35 = .ok (.iload_n 1, 1) := by decide +kernel
theorem dX11_drift_36 : decode cX11_drift 36 = .ok (.if_icmp .ge 63, 3) := by decide +kernel
theorem dX11_drift_39 : decode cX11_drift 39 = .ok (.aload_n 0, 1) := by decide +kernel
theorem dX11_drift_40 : decode cX11_drift 40 = .ok (.getfield 35, 3) := by decide +kernel
theorem dX11_drift_43 : decode cX11_drift 43 = .ok (.aload_n 0, 1) := by decide +kernel
theorem dX11_drift_44 : decode cX11_drift 44 = .ok (.getfield 28, 3) := by decide +kernel
theorem dX11_drift_47 : decode cX11_drift 47 = .ok (.invokevirtual 183, 3) := by decide +kernel
theorem dX11_drift_50 : decode cX11_drift 50 = .ok (.aload_n 0, 1) := by decide +kernel
theorem dX11_drift_51 : decode cX11_drift 51 = .ok (.getfield 10, 3) := by decide +kernel
theorem dX11_drift_54 : decode cX11_drift 54 = .ok (.aload_n 0, 1) := by decide +kernel
theorem dX11_drift_55 : decode cX11_drift 55 = .ok (.getfield 28, 3) := by decide +kernel
theorem dX11_drift_58 : decode cX11_drift 58 = .ok (.aload_n 0, 1) := by decide +kernel
theorem dX11_drift_59 : decode cX11_drift 59 = .ok (.getfield 28, 3) := by decide +kernel
theorem dX11_drift_62 : decode cX11_drift 62 = .ok (.invokevirtual 190, 3) := by decide +kernel
theorem dX11_drift_65 : decode cX11_drift 65 = .ok (.invokevirtual 186, 3) := by decide +kernel
theorem dX11_drift_68 : decode cX11_drift 68 = .ok (.iload_n 2, 1) := by decide +kernel
theorem dX11_drift_69 : decode cX11_drift 69 = .ok (.aload_n 0, 1) := by decide +kernel
theorem dX11_drift_70 : decode cX11_drift 70 = .ok (.getfield 28, 3) := by decide +kernel
theorem dX11_drift_73 : decode cX11_drift 73 = .ok (.getfield 75, 3) := by decide +kernel
theorem dX11_drift_76 : decode cX11_drift 76 = .ok (.aload_n 0, 1) := by decide +kernel
theorem dX11_drift_77 : decode cX11_drift 77 = .ok (.aload_n 0, 1) := by decide +kernel
theorem dX11_drift_78 : decode cX11_drift 78 = .ok (.getfield 28, 3) := by decide +kernel
theorem dX11_drift_81 : decode cX11_drift 81 = .ok (.getfield 110, 3) := by decide +kernel
theorem dX11_drift_84 : decode cX11_drift 84 = .ok (.invokevirtual 167, 3) := by decide +kernel
theorem dX11_drift_87 : decode cX11_drift 87 = .ok (.invokestatic 194, 3) := by decide +kernel
theorem dX11_drift_90 : decode cX11_drift 90 = .ok (.isub, 1) := by decide +kernel
theorem dX11_drift_91 : decode cX11_drift 91 = .ok (.iadd, 1) := by decide +kernel
theorem dX11_drift_92 : decode cX11_drift 92 = .ok (.istore_n 2, 1) := by decide +kernel
theorem dX11_drift_93 : decode cX11_drift 93 = .ok (.iinc 3 1, 3) := by decide +kernel
theorem dX11_drift_96 : decode cX11_drift 96 = .ok (.goto (-62), 3) := by decide +kernel
theorem dX11_drift_99 : decode cX11_drift 99 = .ok (.iload_n 2, 1) := by decide +kernel
theorem dX11_drift_100 : decode cX11_drift 100 = .ok (.ireturn, 1) := by decide +kernel
theorem dX11_undo_0 : decode cX11_undo 0 = .ok (.aload_n 0, 1) := by decide +kernel
theorem dX11_undo_1 : decode cX11_undo 1 = .ok (.getfield 35, 3) := by decide +kernel
theorem dX11_undo_4 : decode cX11_undo 4 = .ok (.invokevirtual 199, 3) := by decide +kernel
theorem dX11_undo_7 : decode cX11_undo 7 = .ok (.astore_n 1, 1) := by decide +kernel
theorem dX11_undo_8 : decode cX11_undo 8 = .ok (.aload_n 1, 1) := by decide +kernel
theorem dX11_undo_9 : decode cX11_undo 9 = .ok (.ifnonnull 6, 3) := by decide +kernel
theorem dX11_undo_12 : decode cX11_undo 12 = .ok (.bipush (-4), 2) := by decide +kernel
theorem dX11_undo_14 : decode cX11_undo 14 = .ok (.ireturn, 1) := by decide +kernel
theorem dX11_undo_15 : decode cX11_undo 15 = .ok (.aload_n 0, 1) := by decide +kernel
theorem dX11_undo_16 : decode cX11_undo 16 = .ok (.getfield 28, 3) := by decide +kernel
theorem dX11_undo_19 : decode cX11_undo 19 = .ok (.getfield 117, 3) := by decide +kernel
theorem dX11_undo_22 : decode cX11_undo 22 = .ok (.istore_n 2, 1) := by decide +kernel
theorem dX11_undo_23 : decode cX11_undo 23 = .ok (.aload_n 0, 1) := by decide +kernel
theorem dX11_undo_24 : decode cX11_undo 24 = .ok (.getfield 28, 3) := by decide +kernel
theorem dX11_undo_27 : decode cX11_undo 27 = .ok (.aload_n 1, 1) := by decide +kernel
theorem dX11_undo_28 : decode cX11_undo 28 = .ok (.invokevirtual 160, 3) := by decide +kernel
theorem dX11_undo_31 : decode cX11_undo 31 = .ok (.aload_n 0, 1) := by decide +kernel
theorem dX11_undo_32 : decode cX11_undo 32 = .ok (.getfield 28, 3) := by decide +kernel
theorem dX11_undo_35 : decode cX11_undo 35 = .ok (.iload_n 2, 1) := by decide +kernel
theorem dX11_undo_36 : decode cX11_undo 36 = .ok (.putfield 117, 3) := by decide +kernel
theorem dX11_undo_39 : decode cX11_undo 39 = .ok (.aload_n 0, 1) := by decide +kernel
theorem dX11_undo_40 : decode cX11_undo 40 = .ok (.getfield 35, 3) := by decide +kernel
theorem dX11_undo_43 : decode cX11_undo 43 = .ok (.invokevirtual 203, 3) := by decide +kernel
theorem dX11_undo_46 : decode cX11_undo 46 = .ok (.aload_n 0, 1) := by decide +kernel
theorem dX11_undo_47 : decode cX11_undo 47 = .ok (.getfield 35, 3) := by decide +kernel
theorem dX11_undo_50 : decode cX11_undo 50 = .ok (.getfield 180, 3) := by decide +kernel
theorem dX11_undo_53 : decode cX11_undo 53 = .ok (.ireturn, 1) := by decide +kernel
theorem dX11_seed_0 : decode cX11_seed 0 = .ok (.iload_n 1, 1) := by decide +kernel
theorem dX11_seed_1 : decode cX11_seed 1 = .ok (.ifCond .ge 5, 3) := by decide +kernel
theorem dX11_seed_4 : decode cX11_seed 4 = .ok (.iconst (-1), 1) := by decide +kernel
theorem dX11_seed_5 : decode cX11_seed 5 = .ok (.ireturn, 1) := by decide +kernel
theorem dX11_seed_6 : decode cX11_seed 6 = .ok (.aload_n 0, 1) := by decide +kernel
theorem dX11_seed_7 : decode cX11_seed 7 = .ok (.getfield 28, 3) := by decide +kernel
theorem dX11_seed_10 : decode cX11_seed 10 = .ok (.getfield 157, 3) := by decide +kernel
theorem dX11_seed_13 : decode cX11_seed 13 = .ok (.istore_n 2, 1) := by decide +kernel
theorem dX11_seed_14 : decode cX11_seed 14 = .ok (.aload_n 0, 1) := by decide +kernel
theorem dX11_seed_15 : decode cX11_seed 15 = .ok (.getfield 28, 3) := by decide +kernel
theorem dX11_seed_18 : decode cX11_seed 18 = .ok (.iload_n 1, 1) := by decide +kernel
theorem dX11_seed_19 : decode cX11_seed 19 = .ok (.putfield 157, 3) := by decide +kernel
theorem dX11_seed_22 : decode cX11_seed 22 = .ok (.iload_n 2, 1) := by decide +kernel
theorem dX11_seed_23 : decode cX11_seed 23 = .ok (.ireturn, 1) := by decide +kernel
theorem dX11_ahead_0 : decode cX11_ahead 0 = .ok (.aload_n 0, 1) := by decide +kernel
theorem dX11_ahead_1 : decode cX11_ahead 1 = .ok (.iload_n 1, 1) := by decide +kernel
theorem dX11_ahead_2 : decode cX11_ahead 2 = .ok (.invokevirtual 93, 3) := by decide +kernel
theorem dX11_ahead_5 : decode cX11_ahead 5 = .ok (.ifCond .ne 22, 3) := by decide +kernel
theorem dX11_ahead_8 : decode cX11_ahead 8 = .ok (.iload_n 2, 1) := by decide +kernel
theorem dX11_ahead_9 : decode cX11_ahead 9 = .ok (.iconst 0, 1) := by decide +kernel
theorem dX11_ahead_10 : decode cX11_ahead 10 = .ok (.bipush 60, 2) := by decide +kernel
theorem dX11_ahead_12 : decode cX11_ahead 12 = .ok (.invokestatic 71, 3) := by decide +kernel
theorem dX11_ahead_15 : decode cX11_ahead 15 = .ok (.ifCond .ne 12, 3) := by decide +kernel
theorem dX11_ahead_18 : decode cX11_ahead 18 = .ok (.iload_n 3, 1) := by decide +kernel
theorem dX11_ahead_19 : decode cX11_ahead 19 = .ok (.iconst 0, 1) := by decide +kernel
theorem dX11_ahead_20 : decode cX11_ahead 20 = .ok (.iconst 2, 1) := by decide +kernel
theorem dX11_ahead_21 : decode cX11_ahead 21 = .ok (.invokestatic 71, 3) := by decide +kernel
theorem dX11_ahead_24 : decode cX11_ahead 24 = .ok (.ifCond .eq 5, 3) := by decide +kernel
theorem dX11_ahead_27 : decode cX11_ahead 27 = .ok (.iconst (-1), 1) := by decide +kernel
theorem dX11_ahead_28 : decode cX11_ahead 28 = .ok (.ireturn, 1) := by decide +kernel
theorem dX11_ahead_29 : decode cX11_ahead 29 = .ok (.aload_n 0, 1) := by decide +kernel
theorem dX11_ahead_30 : decode cX11_ahead 30 = .ok (.iload_n 2, 1) := by decide +kernel
theorem dX11_ahead_31 : decode cX11_ahead 31 = .ok (.invokevirtual 206, 3) := by decide +kernel
theorem dX11_ahead_34 : decode cX11_ahead 34 = .ok (.iload_n 3, 1) := by decide +kernel
theorem dX11_ahead_35 : decode cX11_ahead 35 = .ok (.lookupswitch 52 #[(0, 25), (1, 38)], 25) := by decide +kernel
theorem dX11_ahead_60 : decode cX11_ahead 60 = .ok (.aload_n 0, 1) := by decide +kernel
theorem dX11_ahead_61 : decode cX11_ahead 61 = .ok (.getfield 49, 3) := by decide +kernel
theorem dX11_ahead_64 : decode cX11_ahead 64 = .ok (.getfield 110, 3) := by decide +kernel
theorem dX11_ahead_67 : decode cX11_ahead 67 = .ok (.iload_n 1, 1) := by decide +kernel
theorem dX11_ahead_68 : decode cX11_ahead 68 = .ok (.iaload, 1) := by decide +kernel
theorem dX11_ahead_69 : decode cX11_ahead 69 = .ok (.invokestatic 113, 3) := by decide +kernel
theorem dX11_ahead_72 : decode cX11_ahead 72 = .ok (.ireturn, 1) := by decide +kernel
theorem dX11_ahead_73 : decode cX11_ahead 73 = .ok (.aload_n 0, 1) := by decide +kernel
theorem dX11_ahead_74 : decode cX11_ahead 74 = .ok (.getfield 49, 3) := by decide +kernel
theorem dX11_ahead_77 : decode cX11_ahead 77 = .ok (.getfield 107, 3) := by decide +kernel
theorem dX11_ahead_80 : decode cX11_ahead 80 = .ok (.iload_n 1, 1) := by decide +kernel
theorem dX11_ahead_81 : decode cX11_ahead 81 = .ok (.iaload, 1) := by decide +kernel
theorem dX11_ahead_82 : decode cX11_ahead 82 = .ok (.sipush 10000, 3) := by decide +kernel
theorem dX11_ahead_85 : decode cX11_ahead 85 = .ok (.iadd, 1) := by decide +kernel
theorem dX11_ahead_86 : decode cX11_ahead 86 = .ok (.ireturn, 1) := by decide +kernel
theorem dX11_ahead_87 : decode cX11_ahead 87 = .ok (.aload_n 0, 1) := by decide +kernel
theorem dX11_ahead_88 : decode cX11_ahead 88 = .ok (.getfield 49, 3) := by decide +kernel
theorem dX11_ahead_91 : decode cX11_ahead 91 = .ok (.getfield 101, 3) := by decide +kernel
theorem dX11_ahead_94 : decode cX11_ahead 94 = .ok (.iload_n 1, 1) := by decide +kernel
theorem dX11_ahead_95 : decode cX11_ahead 95 = .ok (.iaload, 1) := by decide +kernel
theorem dX11_ahead_96 : decode cX11_ahead 96 = .ok (.ireturn, 1) := by decide +kernel
theorem dX11_nameAhead_0 : decode cX11_nameAhead 0 = .ok (.aload_n 0, 1) := by decide +kernel
theorem dX11_nameAhead_1 : decode cX11_nameAhead 1 = .ok (.iload_n 1, 1) := by decide +kernel
theorem dX11_nameAhead_2 : decode cX11_nameAhead 2 = .ok (.invokevirtual 128, 3) := by decide +kernel
theorem dX11_nameAhead_5 : decode cX11_nameAhead 5 = .ok (.ifCond .ne 22, 3) := by decide +kernel
theorem dX11_nameAhead_8 : decode cX11_nameAhead 8 = .ok (.iload_n 2, 1) := by decide +kernel
theorem dX11_nameAhead_9 : decode cX11_nameAhead 9 = .ok (.iconst 0, 1) := by decide +kernel
theorem dX11_nameAhead_10 : decode cX11_nameAhead 10 = .ok (.bipush 60, 2) := by decide +kernel
theorem dX11_nameAhead_12 : decode cX11_nameAhead 12 = .ok (.invokestatic 71, 3) := by decide +kernel
theorem dX11_nameAhead_15 : decode cX11_nameAhead 15 = .ok (.ifCond .ne 12, 3) := by decide +kernel
theorem dX11_nameAhead_18 : decode cX11_nameAhead 18 = .ok (.iload_n 3, 1) := by decide +kernel
theorem dX11_nameAhead_19 : decode cX11_nameAhead 19 = .ok (.iconst 0, 1) := by decide +kernel
theorem dX11_nameAhead_20 : decode cX11_nameAhead 20 = .ok (.iconst 1, 1) := by decide +kernel
theorem dX11_nameAhead_21 : decode cX11_nameAhead 21 = .ok (.invokestatic 71, 3) := by decide +kernel
theorem dX11_nameAhead_24 : decode cX11_nameAhead 24 = .ok (.ifCond .eq 5, 3) := by decide +kernel
theorem dX11_nameAhead_27 : decode cX11_nameAhead 27 = .ok (.iconst (-1), 1) := by decide +kernel
theorem dX11_nameAhead_28 : decode cX11_nameAhead 28 = .ok (.ireturn, 1) := by decide +kernel
theorem dX11_nameAhead_29 : decode cX11_nameAhead 29 = .ok (.aload_n 0, 1) := by decide +kernel
theorem dX11_nameAhead_30 : decode cX11_nameAhead 30 = .ok (.iload_n 2, 1) := by decide +kernel
theorem dX11_nameAhead_31 : decode cX11_nameAhead 31 = .ok (.invokevirtual 206, 3) := by decide +kernel
theorem dX11_nameAhead_34 : decode cX11_nameAhead 34 = .ok (.iload_n 3, 1) := by decide +kernel
theorem dX11_nameAhead_35 : decode cX11_nameAhead 35 = .ok (.ifCond .ne 15, 3) := by decide +kernel
theorem dX11_nameAhead_38 : decode cX11_nameAhead 38 = .ok (.aload_n 0, 1) := by decide +kernel
theorem dX11_nameAhead_39 : decode cX11_nameAhead 39 = .ok (.getfield 49, 3) := by decide +kernel
theorem dX11_nameAhead_42 : decode cX11_nameAhead 42 = .ok (.getfield 131, 3) := by decide +kernel
theorem dX11_nameAhead_45 : decode cX11_nameAhead 45 = .ok (.iload_n 1, 1) := by decide +kernel
theorem dX11_nameAhead_46 : decode cX11_nameAhead 46 = .ok (.iaload, 1) := by decide +kernel
theorem dX11_nameAhead_47 : decode cX11_nameAhead 47 = .ok (.goto 12, 3) := by decide +kernel
theorem dX11_nameAhead_50 : decode cX11_nameAhead 50 = .ok (.aload_n 0, 1) := by decide +kernel
theorem dX11_nameAhead_51 : decode cX11_nameAhead 51 = .ok (.getfield 49, 3) := by decide +kernel
theorem dX11_nameAhead_54 : decode cX11_nameAhead 54 = .ok (.getfield 134, 3) := by decide +kernel
theorem dX11_nameAhead_57 : decode cX11_nameAhead 57 = .ok (.iload_n 1, 1) := by decide +kernel
theorem dX11_nameAhead_58 : decode cX11_nameAhead 58 = .ok (.iaload, 1) := by decide +kernel
theorem dX11_nameAhead_59 : decode cX11_nameAhead 59 = .ok (.ireturn, 1) := by decide +kernel
theorem dX11_needs_0 : decode cX11_needs 0 = .ok (.aload_n 0, 1) := by decide +kernel
theorem dX11_needs_1 : decode cX11_needs 1 = .ok (.iload_n 1, 1) := by decide +kernel
theorem dX11_needs_2 : decode cX11_needs 2 = .ok (.invokevirtual 93, 3) := by decide +kernel
theorem dX11_needs_5 : decode cX11_needs 5 = .ok (.ifCond .ne 11, 3) := by decide +kernel
theorem dX11_needs_8 : decode cX11_needs 8 = .ok (.aload_n 0, 1) := by decide +kernel
theorem dX11_needs_9 : decode cX11_needs 9 = .ok (.iload_n 2, 1) := by decide +kernel
theorem dX11_needs_10 : decode cX11_needs 10 = .ok (.invokevirtual 128, 3) := by decide +kernel
theorem dX11_needs_13 : decode cX11_needs 13 = .ok (.ifCond .eq 5, 3) := by decide +kernel
theorem dX11_needs_16 : decode cX11_needs 16 = .ok (.iconst (-1), 1) := by decide +kernel
theorem dX11_needs_17 : decode cX11_needs 17 = .ok (.ireturn, 1) := by decide +kernel
theorem dX11_needs_18 : decode cX11_needs 18 = .ok (.aload_n 0, 1) := by decide +kernel
theorem dX11_needs_19 : decode cX11_needs 19 = .ok (.getfield 10, 3) := by decide +kernel
theorem dX11_needs_22 : decode cX11_needs 22 = .ok (.aload_n 0, 1) := by decide +kernel
theorem dX11_needs_23 : decode cX11_needs 23 = .ok (.getfield 28, 3) := by decide +kernel
theorem dX11_needs_26 : decode cX11_needs 26 = .ok (.iload_n 1, 1) := by decide +kernel
theorem dX11_needs_27 : decode cX11_needs 27 = .ok (.iload_n 2, 1) := by decide +kernel
theorem dX11_needs_28 : decode cX11_needs 28 = .ok (.invokevirtual 140, 3) := by decide +kernel
theorem dX11_needs_31 : decode cX11_needs 31 = .ok (.istore_n 3, 1) := by decide +kernel
theorem dX11_needs_32 : decode cX11_needs 32 = .ok (.aload_n 0, 1) := by decide +kernel
theorem dX11_needs_33 : decode cX11_needs 33 = .ok (.getfield 49, 3) := by decide +kernel
theorem dX11_needs_36 : decode cX11_needs 36 = .ok (.aload_n 0, 1) := by decide +kernel
theorem dX11_needs_37 : decode cX11_needs 37 = .ok (.getfield 28, 3) := by decide +kernel
theorem dX11_needs_40 : decode cX11_needs 40 = .ok (.invokevirtual 160, 3) := by decide +kernel
theorem dX11_needs_43 : decode cX11_needs 43 = .ok (.aload_n 0, 1) := by decide +kernel
theorem dX11_needs_44 : decode cX11_needs 44 = .ok (.getfield 28, 3) := by decide +kernel
theorem dX11_needs_47 : decode cX11_needs 47 = .ok (.getfield 101, 3) := by decide +kernel
theorem dX11_needs_50 : decode cX11_needs 50 = .ok (.iload_n 1, 1) := by decide +kernel
theorem dX11_needs_51 : decode cX11_needs 51 = .ok (.iaload, 1) := by decide +kernel
theorem dX11_needs_52 : decode cX11_needs 52 = .ok (.istore 4, 2) := by decide +kernel
theorem dX11_needs_54 : decode cX11_needs 54 = .ok (.iload 4, 2) := by decide +kernel
theorem dX11_needs_56 : decode cX11_needs 56 = .ok (.bipush 9, 2) := by decide +kernel
theorem dX11_needs_58 : decode cX11_needs 58 = .ok (.if_icmp .gt 87, 3) := by decide +kernel
theorem dX11_needs_61 : decode cX11_needs 61 = .ok (.aload_n 0, 1) := by decide +kernel
theorem dX11_needs_62 : decode cX11_needs 62 = .ok (.getfield 49, 3) := by decide +kernel
theorem dX11_needs_65 : decode cX11_needs 65 = .ok (.getfield 101, 3) := by decide +kernel
theorem dX11_needs_68 : decode cX11_needs 68 = .ok (.iload_n 1, 1) := by decide +kernel
theorem dX11_needs_69 : decode cX11_needs 69 = .ok (.iload 4, 2) := by decide +kernel
theorem dX11_needs_71 : decode cX11_needs 71 = .ok (.iastore, 1) := by decide +kernel
theorem dX11_needs_72 : decode cX11_needs 72 = .ok (.aload_n 0, 1) := by decide +kernel
theorem dX11_needs_73 : decode cX11_needs 73 = .ok (.getfield 10, 3) := by decide +kernel
theorem dX11_needs_76 : decode cX11_needs 76 = .ok (.aload_n 0, 1) := by decide +kernel
theorem dX11_needs_77 : decode cX11_needs 77 = .ok (.getfield 49, 3) := by decide +kernel
theorem dX11_needs_80 : decode cX11_needs 80 = .ok (.aload_n 0, 1) := by decide +kernel
theorem dX11_needs_81 : decode cX11_needs 81 = .ok (.getfield 49, 3) := by decide +kernel
theorem dX11_needs_84 : decode cX11_needs 84 = .ok (.getfield 117, 3) := by decide +kernel
theorem dX11_needs_87 : decode cX11_needs 87 = .ok (.invokevirtual 174, 3) := by decide +kernel
theorem dX11_needs_90 : decode cX11_needs 90 = .ok (.pop, 1) := by decide +kernel
theorem dX11_needs_91 : decode cX11_needs 91 = .ok (.aload_n 0, 1) := by decide +kernel
theorem dX11_needs_92 : decode cX11_needs 92 = .ok (.getfield 10, 3) := by decide +kernel
theorem dX11_needs_95 : decode cX11_needs 95 = .ok (.getfield 177, 3) := by decide +kernel
theorem dX11_needs_98 : decode cX11_needs 98 = .ok (.iload_n 1, 1) := by decide +kernel
theorem dX11_needs_99 : decode cX11_needs 99 = .ok (.iaload, 1) := by decide +kernel
theorem dX11_needs_100 : decode cX11_needs 100 = .ok (.istore 5, 2) := by decide +kernel
theorem dX11_needs_102 : decode cX11_needs 102 = .ok (.iload 5, 2) := by decide +kernel
theorem dX11_needs_104 : decode cX11_needs 104 = .ok (.iconst (-1), 1) := by decide +kernel
theorem dX11_needs_105 : decode cX11_needs 105 = .ok (.if_icmp .eq 34, 3) := by decide +kernel
theorem dX11_needs_108 : decode cX11_needs 108 = .ok (.aload_n 0, 1) := by decide +kernel
theorem dX11_needs_109 : decode cX11_needs 109 = .ok (.getfield 10, 3) := by decide +kernel
theorem dX11_needs_112 : decode cX11_needs 112 = .ok (.aload_n 0, 1) := by decide +kernel
theorem dX11_needs_113 : decode cX11_needs 113 = .ok (.getfield 49, 3) := by decide +kernel
theorem dX11_needs_116 : decode cX11_needs 116 = .ok (.iload_n 1, 1) := by decide +kernel
theorem dX11_needs_117 : decode cX11_needs 117 = .ok (.iload 5, 2) := by decide +kernel
theorem dX11_needs_119 : decode cX11_needs 119 = .ok (.invokevirtual 140, 3) := by decide +kernel
theorem dX11_needs_122 : decode cX11_needs 122 = .ok (.iload_n 3, 1) := by decide +kernel
theorem dX11_needs_123 : decode cX11_needs 123 = .ok (.if_icmp .lt 16, 3) := by decide +kernel
theorem dX11_needs_126 : decode cX11_needs 126 = .ok (.iload 4, 2) := by decide +kernel
theorem dX11_needs_128 : decode cX11_needs 128 = .ok (.aload_n 0, 1) := by decide +kernel
theorem dX11_needs_129 : decode cX11_needs 129 = .ok (.getfield 28, 3) := by decide +kernel
theorem dX11_needs_132 : decode cX11_needs 132 = .ok (.getfield 101, 3) := by decide +kernel
theorem dX11_needs_135 : decode cX11_needs 135 = .ok (.iload_n 1, 1) := by decide +kernel
theorem dX11_needs_136 : decode cX11_needs 136 = .ok (.iaload, 1) := by decide +kernel
theorem dX11_needs_137 : decode cX11_needs 137 = .ok (.isub, 1) := by decide +kernel
theorem dX11_needs_138 : decode cX11_needs 138 = .ok (.ireturn, 1) := by decide +kernel
theorem dX11_needs_139 : decode cX11_needs 139 = .ok (.iinc 4 1, 3) := by decide +kernel
theorem dX11_needs_142 : decode cX11_needs 142 = .ok (.goto (-88), 3) := by decide +kernel
theorem dX11_needs_145 : decode cX11_needs 145 = .ok (.bipush (-4), 2) := by decide +kernel
theorem dX11_needs_147 : decode cX11_needs 147 = .ok (.ireturn, 1) := by decide +kernel
theorem dX11_field_0 : decode cX11_field 0 = .ok (.aload_n 0, 1) := by decide +kernel
theorem dX11_field_1 : decode cX11_field 1 = .ok (.iload_n 1, 1) := by decide +kernel
theorem dX11_field_2 : decode cX11_field 2 = .ok (.invokevirtual 93, 3) := by decide +kernel
theorem dX11_field_5 : decode cX11_field 5 = .ok (.ifCond .eq 5, 3) := by decide +kernel
theorem dX11_field_8 : decode cX11_field 8 = .ok (.iconst (-1), 1) := by decide +kernel
theorem dX11_field_9 : decode cX11_field 9 = .ok (.ireturn, 1) := by decide +kernel
theorem dX11_field_10 : decode cX11_field 10 = .ok (.iconst 0, 1) := by decide +kernel
theorem dX11_field_11 : decode cX11_field 11 = .ok (.istore_n 2, 1) := by decide +kernel
theorem dX11_field_12 : decode cX11_field 12 = .ok (.ldc 210, 2) := by decide +kernel
theorem dX11_field_14 : decode cX11_field 14 = .ok (.istore_n 3, 1) := by decide +kernel
theorem dX11_field_15 : decode cX11_field 15 = .ok (.iconst 0, 1) := by decide +kernel
theorem dX11_field_16 : decode cX11_field 16 = .ok (.istore 4, 2) := by decide +kernel
theorem dX11_field_18 : decode cX11_field 18 = .ok (.iload 4, 2) := by decide +kernel
theorem dX11_field_20 : decode cX11_field 20 = .ok (.bipush 20, 2) := by decide +kernel
theorem dX11_field_22 : decode cX11_field 22 = .ok (.if_icmp .gt 76, 3) := by decide +kernel
theorem dX11_field_25 : decode cX11_field 25 = .ok (.aload_n 0, 1) := by decide +kernel
theorem dX11_field_26 : decode cX11_field 26 = .ok (.getfield 10, 3) := by decide +kernel
theorem dX11_field_29 : decode cX11_field 29 = .ok (.aload_n 0, 1) := by decide +kernel
theorem dX11_field_30 : decode cX11_field 30 = .ok (.getfield 28, 3) := by decide +kernel
theorem dX11_field_33 : decode cX11_field 33 = .ok (.iload 4, 2) := by decide +kernel
theorem dX11_field_35 : decode cX11_field 35 = .ok (.invokevirtual 174, 3) := by decide +kernel
theorem dX11_field_38 : decode cX11_field 38 = .ok (.pop, 1) := by decide +kernel
theorem dX11_field_39 : decode cX11_field 39 = .ok (.aload_n 0, 1) := by decide +kernel
theorem dX11_field_40 : decode cX11_field 40 = .ok (.getfield 10, 3) := by decide +kernel
theorem dX11_field_43 : decode cX11_field 43 = .ok (.getfield 177, 3) := by decide +kernel
theorem dX11_field_46 : decode cX11_field 46 = .ok (.iload_n 1, 1) := by decide +kernel
theorem dX11_field_47 : decode cX11_field 47 = .ok (.iaload, 1) := by decide +kernel
theorem dX11_field_48 : decode cX11_field 48 = .ok (.istore 5, 2) := by decide +kernel
theorem dX11_field_50 : decode cX11_field 50 = .ok (.iload 5, 2) := by decide +kernel
theorem dX11_field_52 : decode cX11_field 52 = .ok (.iconst (-1), 1) := by decide +kernel
theorem dX11_field_53 : decode cX11_field 53 = .ok (.if_icmp .eq 39, 3) := by decide +kernel
theorem dX11_field_56 : decode cX11_field 56 = .ok (.aload_n 0, 1) := by decide +kernel
theorem dX11_field_57 : decode cX11_field 57 = .ok (.getfield 10, 3) := by decide +kernel
theorem dX11_field_60 : decode cX11_field 60 = .ok (.aload_n 0, 1) := by decide +kernel
theorem dX11_field_61 : decode cX11_field 61 = .ok (.getfield 28, 3) := by decide +kernel
theorem dX11_field_64 : decode cX11_field 64 = .ok (.iload_n 1, 1) := by decide +kernel
theorem dX11_field_65 : decode cX11_field 65 = .ok (.iload 5, 2) := by decide +kernel
theorem dX11_field_67 : decode cX11_field 67 = .ok (.invokevirtual 140, 3) := by decide +kernel
theorem dX11_field_70 : decode cX11_field 70 = .ok (.iload_n 3, 1) := by decide +kernel
theorem dX11_field_71 : decode cX11_field 71 = .ok (.if_icmp .le 21, 3) := by decide +kernel
theorem dX11_field_74 : decode cX11_field 74 = .ok (.aload_n 0, 1) := by decide +kernel
theorem dX11_field_75 : decode cX11_field 75 = .ok (.getfield 10, 3) := by decide +kernel
theorem dX11_field_78 : decode cX11_field 78 = .ok (.aload_n 0, 1) := by decide +kernel
theorem dX11_field_79 : decode cX11_field 79 = .ok (.getfield 28, 3) := by decide +kernel
theorem dX11_field_82 : decode cX11_field 82 = .ok (.iload_n 1, 1) := by decide +kernel
theorem dX11_field_83 : decode cX11_field 83 = .ok (.iload 5, 2) := by decide +kernel
theorem dX11_field_85 : decode cX11_field 85 = .ok (.invokevirtual 140, 3) := by decide +kernel
theorem dX11_field_88 : decode cX11_field 88 = .ok (.istore_n 3, 1) := by decide +kernel
theorem dX11_field_89 : decode cX11_field 89 = .ok (.iload 4, 2) := by decide +kernel
theorem dX11_field_91 : decode cX11_field 91 = .ok (.istore_n 2, 1) := by decide +kernel
theorem dX11_field_92 : decode cX11_field 92 = .ok (.iinc 4 1, 3) := by decide +kernel
theorem dX11_field_95 : decode cX11_field 95 = .ok (.goto (-77), 3) := by decide +kernel
theorem dX11_field_98 : decode cX11_field 98 = .ok (.iload_n 2, 1) := by decide +kernel
theorem dX11_field_99 : decode cX11_field 99 = .ok (.ireturn, 1) := by decide +kernel
theorem dX11_parting_0 : decode cX11_parting 0 = .ok (.iload_n 1, 1) := by decide +kernel
theorem dX11_parting_1 : decode cX11_parting 1 = .ok (.bipush (-4), 2) := by decide +kernel
theorem dX11_parting_3 : decode cX11_parting 3 = .ok (.if_icmp .eq 13, 3) := by decide +kernel
theorem dX11_parting_6 : decode cX11_parting 6 = .ok (.aload_n 0, 1) := by decide +kernel
theorem dX11_parting_7 : decode cX11_parting 7 = .ok (.iload_n 1, 1) := by decide +kernel
theorem dX11_parting_8 : decode cX11_parting 8 = .ok (.invokevirtual 93, 3) := by decide +kernel
theorem dX11_parting_11 : decode cX11_parting 11 = .ok (.ifCond .eq 5, 3) := by decide +kernel
theorem dX11_parting_14 : decode cX11_parting 14 = .ok (.iconst (-1), 1) := by decide +kernel
theorem dX11_parting_15 : decode cX11_parting 15 = .ok (.ireturn, 1) := by decide +kernel
theorem dX11_parting_16 : decode cX11_parting 16 = .ok (.aload_n 0, 1) := by decide +kernel
theorem dX11_parting_17 : decode cX11_parting 17 = .ok (.invokevirtual 211, 3) := by decide +kernel
theorem dX11_parting_20 : decode cX11_parting 20 = .ok (.iload_n 1, 1) := by decide +kernel
theorem dX11_parting_21 : decode cX11_parting 21 = .ok (.bipush (-4), 2) := by decide +kernel
theorem dX11_parting_23 : decode cX11_parting 23 = .ok (.if_icmp .ne 12, 3) := by decide +kernel
theorem dX11_parting_26 : decode cX11_parting 26 = .ok (.aload_n 0, 1) := by decide +kernel
theorem dX11_parting_27 : decode cX11_parting 27 = .ok (.getfield 67, 3) := by decide +kernel
theorem dX11_parting_30 : decode cX11_parting 30 = .ok (.iconst 0, 1) := by decide +kernel
theorem dX11_parting_31 : decode cX11_parting 31 = .ok (.aaload, 1) := by decide +kernel
theorem dX11_parting_32 : decode cX11_parting 32 = .ok (.iconst 0, 1) := by decide +kernel
theorem dX11_parting_33 : decode cX11_parting 33 = .ok (.iaload, 1) := by decide +kernel
theorem dX11_parting_34 : decode cX11_parting 34 = .ok (.ireturn, 1) := by decide +kernel
theorem dX11_parting_35 : decode cX11_parting 35 = .ok (.iconst 0, 1) := by decide +kernel
theorem dX11_parting_36 : decode cX11_parting 36 = .ok (.istore_n 2, 1) := by decide +kernel
theorem dX11_parting_37 : decode cX11_parting 37 = .ok (.iconst (-1), 1) := by decide +kernel
theorem dX11_parting_38 : decode cX11_parting 38 = .ok (.istore_n 3, 1) := by decide +kernel
theorem dX11_parting_39 : decode cX11_parting 39 = .ok (.iconst 0, 1) := by decide +kernel
theorem dX11_parting_40 : decode cX11_parting 40 = .ok (.istore 4, 2) := by decide +kernel
theorem dX11_parting_42 : decode cX11_parting 42 = .ok (.iload 4, 2) := by decide +kernel
theorem dX11_parting_44 : decode cX11_parting 44 = .ok (.iload_n 1, 1) := by decide +kernel
theorem dX11_parting_45 : decode cX11_parting 45 = .ok (.if_icmp .gt 28, 3) := by decide +kernel
theorem dX11_parting_48 : decode cX11_parting 48 = .ok (.aload_n 0, 1) := by decide +kernel
theorem dX11_parting_49 : decode cX11_parting 49 = .ok (.iload 4, 2) := by decide +kernel
theorem dX11_parting_51 : decode cX11_parting 51 = .ok (.iload_n 2, 1) := by decide +kernel
theorem dX11_parting_52 : decode cX11_parting 52 = .ok (.invokevirtual 214, 3) := by decide +kernel
theorem dX11_parting_55 : decode cX11_parting 55 = .ok (.istore_n 3, 1) := by decide +kernel
theorem dX11_parting_56 : decode cX11_parting 56 = .ok (.iload_n 3, 1) := by decide +kernel
theorem dX11_parting_57 : decode cX11_parting 57 = .ok (.iconst (-1), 1) := by decide +kernel
theorem dX11_parting_58 : decode cX11_parting 58 = .ok (.if_icmp .eq 9, 3) := by decide +kernel
theorem dX11_parting_61 : decode cX11_parting 61 = .ok (.iload_n 2, 1) := by decide +kernel
theorem dX11_parting_62 : decode cX11_parting 62 = .ok (.iconst 1, 1) := by decide +kernel
theorem dX11_parting_63 : decode cX11_parting 63 = .ok (.iload_n 3, 1) := by decide +kernel
theorem dX11_parting_64 : decode cX11_parting 64 = .ok (.ishl, 1) := by decide +kernel
theorem dX11_parting_65 : decode cX11_parting 65 = .ok (.ior, 1) := by decide +kernel
theorem dX11_parting_66 : decode cX11_parting 66 = .ok (.istore_n 2, 1) := by decide +kernel
theorem dX11_parting_67 : decode cX11_parting 67 = .ok (.iinc 4 1, 3) := by decide +kernel
theorem dX11_parting_70 : decode cX11_parting 70 = .ok (.goto (-28), 3) := by decide +kernel
theorem dX11_parting_73 : decode cX11_parting 73 = .ok (.iload_n 3, 1) := by decide +kernel
theorem dX11_parting_74 : decode cX11_parting 74 = .ok (.invokestatic 113, 3) := by decide +kernel
theorem dX11_parting_77 : decode cX11_parting 77 = .ok (.ireturn, 1) := by decide +kernel
theorem dX11_change_0 : decode cX11_change 0 = .ok (.iload_n 1, 1) := by decide +kernel
theorem dX11_change_1 : decode cX11_change 1 = .ok (.iconst (-1), 1) := by decide +kernel
theorem dX11_change_2 : decode cX11_change 2 = .ok (.if_icmp .ge 5, 3) := by decide +kernel
theorem dX11_change_5 : decode cX11_change 5 = .ok (.iconst (-1), 1) := by decide +kernel
theorem dX11_change_6 : decode cX11_change 6 = .ok (.ireturn, 1) := by decide +kernel
theorem dX11_change_7 : decode cX11_change 7 = .ok (.iconst 0, 1) := by decide +kernel
theorem dX11_change_8 : decode cX11_change 8 = .ok (.istore_n 2, 1) := by decide +kernel
theorem dX11_change_9 : decode cX11_change 9 = .ok (.iconst 0, 1) := by decide +kernel
theorem dX11_change_10 : decode cX11_change 10 = .ok (.istore_n 3, 1) := by decide +kernel
theorem dX11_change_11 : decode cX11_change 11 = .ok (.iload_n 3, 1) := by decide +kernel
theorem dX11_change_12 : decode cX11_change 12 = .ok (.aload_n 0, 1) := by decide +kernel
theorem dX11_change_13 : decode cX11_change 13 = .ok (.getfield 28, 3) := by decide +kernel
theorem dX11_change_16 : decode cX11_change 16 = .ok (.getfield 75, 3) := by decide +kernel
theorem dX11_change_19 : decode cX11_change 19 = .ok (.if_icmp .ge 68, 3) := by decide +kernel
theorem dX11_change_22 : decode cX11_change 22 = .ok (.iload_n 3, 1) := by decide +kernel
theorem dX11_change_23 : decode cX11_change 23 = .ok (.iconst 1, 1) := by decide +kernel
theorem dX11_change_24 : decode cX11_change 24 = .ok (.iadd, 1) := by decide +kernel
theorem dX11_change_25 : decode cX11_change 25 = .ok (.istore 4, 2) := by decide +kernel
theorem dX11_change_27 : decode cX11_change 27 = .ok (.iload 4, 2) := by decide +kernel
theorem dX11_change_29 : decode cX11_change 29 = .ok (.aload_n 0, 1) := by decide +kernel
theorem dX11_change_30 : decode cX11_change 30 = .ok (.getfield 28, 3) := by decide +kernel
theorem dX11_change_33 : decode cX11_change 33 = .ok (.getfield 75, 3) := by decide +kernel
theorem dX11_change_36 : decode cX11_change 36 = .ok (.if_icmp .ge 45, 3) := by decide +kernel
theorem dX11_change_39 : decode cX11_change 39 = .ok (.aload_n 0, 1) := by decide +kernel
theorem dX11_change_40 : decode cX11_change 40 = .ok (.iload_n 3, 1) := by decide +kernel
theorem dX11_change_41 : decode cX11_change 41 = .ok (.iload 4, 2) := by decide +kernel
theorem dX11_change_43 : decode cX11_change 43 = .ok (.invokevirtual 218, 3) := by decide +kernel
theorem dX11_change_46 : decode cX11_change 46 = .ok (.ifCond .eq 29, 3) := by decide +kernel
theorem dX11_change_49 : decode cX11_change 49 = .ok (.aload_n 0, 1) := by decide +kernel
theorem dX11_change_50 : decode cX11_change 50 = .ok (.iload 4, 2) := by decide +kernel
theorem dX11_change_52 : decode cX11_change 52 = .ok (.iload_n 3, 1) := by decide +kernel
theorem dX11_change_53 : decode cX11_change 53 = .ok (.invokevirtual 218, 3) := by decide +kernel
theorem dX11_change_56 : decode cX11_change 56 = .ok (.ifCond .eq 19, 3) := by decide +kernel
theorem dX11_change_59 : decode cX11_change 59 = .ok (.iload_n 2, 1) := by decide +kernel
theorem dX11_change_60 : decode cX11_change 60 = .ok (.iload_n 1, 1) := by decide +kernel
theorem dX11_change_61 : decode cX11_change 61 = .ok (.if_icmp .ne 11, 3) := by decide +kernel
theorem dX11_change_64 : decode cX11_change 64 = .ok (.bipush 10, 2) := by decide +kernel
theorem dX11_change_66 : decode cX11_change 66 = .ok (.iload_n 3, 1) := by decide +kernel
theorem dX11_change_67 : decode cX11_change 67 = .ok (.imul, 1) := by decide +kernel
theorem dX11_change_68 : decode cX11_change 68 = .ok (.iload 4, 2) := by decide +kernel
theorem dX11_change_70 : decode cX11_change 70 = .ok (.iadd, 1) := by decide +kernel
theorem dX11_change_71 : decode cX11_change 71 = .ok (.ireturn, 1) := by decide +kernel
theorem dX11_change_72 : decode cX11_change 72 = .ok (.iinc 2 1, 3) := by decide +kernel
theorem dX11_change_75 : decode cX11_change 75 = .ok (.iinc 4 1, 3) := by decide +kernel
theorem dX11_change_78 : decode cX11_change 78 = .ok (.goto (-51), 3) := by decide +kernel
theorem dX11_change_81 : decode cX11_change 81 = .ok (.iinc 3 1, 3) := by decide +kernel
theorem dX11_change_84 : decode cX11_change 84 = .ok (.goto (-73), 3) := by decide +kernel
theorem dX11_change_87 : decode cX11_change 87 = .ok (.iload_n 1, 1) := by decide +kernel
theorem dX11_change_88 : decode cX11_change 88 = .ok (.iconst (-1), 1) := by decide +kernel
theorem dX11_change_89 : decode cX11_change 89 = .ok (.if_icmp .ne 7, 3) := by decide +kernel
theorem dX11_change_92 : decode cX11_change 92 = .ok (.iload_n 2, 1) := by decide +kernel
theorem dX11_change_93 : decode cX11_change 93 = .ok (.goto 5, 3) := by decide +kernel
theorem dX11_change_96 : decode cX11_change 96 = .ok (.bipush (-4), 2) := by decide +kernel
theorem dX11_change_98 : decode cX11_change 98 = .ok (.ireturn, 1) := by decide +kernel
theorem dX11_luck_0 : decode cX11_luck 0 = .ok (.aload_n 0, 1) := by decide +kernel
theorem dX11_luck_1 : decode cX11_luck 1 = .ok (.iload_n 1, 1) := by decide +kernel
theorem dX11_luck_2 : decode cX11_luck 2 = .ok (.invokevirtual 93, 3) := by decide +kernel
theorem dX11_luck_5 : decode cX11_luck 5 = .ok (.ifCond .ne 26, 3) := by decide +kernel
theorem dX11_luck_8 : decode cX11_luck 8 = .ok (.iload_n 2, 1) := by decide +kernel
theorem dX11_luck_9 : decode cX11_luck 9 = .ok (.bipush (-4), 2) := by decide +kernel
theorem dX11_luck_11 : decode cX11_luck 11 = .ok (.if_icmp .eq 11, 3) := by decide +kernel
theorem dX11_luck_14 : decode cX11_luck 14 = .ok (.aload_n 0, 1) := by decide +kernel
theorem dX11_luck_15 : decode cX11_luck 15 = .ok (.iload_n 2, 1) := by decide +kernel
theorem dX11_luck_16 : decode cX11_luck 16 = .ok (.invokevirtual 128, 3) := by decide +kernel
theorem dX11_luck_19 : decode cX11_luck 19 = .ok (.ifCond .ne 12, 3) := by decide +kernel
theorem dX11_luck_22 : decode cX11_luck 22 = .ok (.iload_n 3, 1) := by decide +kernel
theorem dX11_luck_23 : decode cX11_luck 23 = .ok (.iconst 0, 1) := by decide +kernel
theorem dX11_luck_24 : decode cX11_luck 24 = .ok (.iconst 1, 1) := by decide +kernel
theorem dX11_luck_25 : decode cX11_luck 25 = .ok (.invokestatic 71, 3) := by decide +kernel
theorem dX11_luck_28 : decode cX11_luck 28 = .ok (.ifCond .eq 5, 3) := by decide +kernel
theorem dX11_luck_31 : decode cX11_luck 31 = .ok (.iconst (-1), 1) := by decide +kernel
theorem dX11_luck_32 : decode cX11_luck 32 = .ok (.ireturn, 1) := by decide +kernel
theorem dX11_luck_33 : decode cX11_luck 33 = .ok (.aload_n 0, 1) := by decide +kernel
theorem dX11_luck_34 : decode cX11_luck 34 = .ok (.getfield 21, 3) := by decide +kernel
theorem dX11_luck_37 : decode cX11_luck 37 = .ok (.aload_n 0, 1) := by decide +kernel
theorem dX11_luck_38 : decode cX11_luck 38 = .ok (.getfield 28, 3) := by decide +kernel
theorem dX11_luck_41 : decode cX11_luck 41 = .ok (.iload_n 1, 1) := by decide +kernel
theorem dX11_luck_42 : decode cX11_luck 42 = .ok (.iload_n 2, 1) := by decide +kernel
theorem dX11_luck_43 : decode cX11_luck 43 = .ok (.bipush (-4), 2) := by decide +kernel
theorem dX11_luck_45 : decode cX11_luck 45 = .ok (.if_icmp .ne 7, 3) := by decide +kernel
theorem dX11_luck_48 : decode cX11_luck 48 = .ok (.iconst (-1), 1) := by decide +kernel
theorem dX11_luck_49 : decode cX11_luck 49 = .ok (.goto 4, 3) := by decide +kernel
theorem dX11_luck_52 : decode cX11_luck 52 = .ok (.iload_n 2, 1) := by decide +kernel
theorem dX11_luck_53 : decode cX11_luck 53 = .ok (.invokevirtual 222, 3) := by decide +kernel
theorem dX11_luck_56 : decode cX11_luck 56 = .ok (.istore 4, 2) := by decide +kernel
theorem dX11_luck_58 : decode cX11_luck 58 = .ok (.aload_n 0, 1) := by decide +kernel
theorem dX11_luck_59 : decode cX11_luck 59 = .ok (.getfield 21, 3) := by decide +kernel
theorem dX11_luck_62 : decode cX11_luck 62 = .ok (.aload_n 0, 1) := by decide +kernel
theorem dX11_luck_63 : decode cX11_luck 63 = .ok (.getfield 28, 3) := by decide +kernel
theorem dX11_luck_66 : decode cX11_luck 66 = .ok (.getfield 75, 3) := by decide +kernel
theorem dX11_luck_69 : decode cX11_luck 69 = .ok (.invokevirtual 225, 3) := by decide +kernel
theorem dX11_luck_72 : decode cX11_luck 72 = .ok (.istore 5, 2) := by decide +kernel
theorem dX11_luck_74 : decode cX11_luck 74 = .ok (.iconst 0, 1) := by decide +kernel
theorem dX11_luck_75 : decode cX11_luck 75 = .ok (.istore 6, 2) := by decide +kernel
theorem dX11_luck_77 : decode cX11_luck 77 = .ok (.iload 6, 2) := by decide +kernel
theorem dX11_luck_79 : decode cX11_luck 79 = .ok (.aload_n 0, 1) := by decide +kernel
theorem dX11_luck_80 : decode cX11_luck 80 = .ok (.getfield 28, 3) := by decide +kernel
theorem dX11_luck_83 : decode cX11_luck 83 = .ok (.getfield 75, 3) := by decide +kernel
theorem dX11_luck_86 : decode cX11_luck 86 = .ok (.if_icmp .ge 28, 3) := by decide +kernel
theorem dX11_luck_89 : decode cX11_luck 89 = .ok (.iload 4, 2) := by decide +kernel
theorem dX11_luck_91 : decode cX11_luck 91 = .ok (.iconst 3, 1) := by decide +kernel
theorem dX11_luck_92 : decode cX11_luck 92 = .ok (.irem, 1) := by decide +kernel
theorem dX11_luck_93 : decode cX11_luck 93 = .ok (.ifCond .ne 21, 3) := by decide +kernel
theorem dX11_luck_96 : decode cX11_luck 96 = .ok (.iload 4, 2) := by decide +kernel
theorem dX11_luck_98 : decode cX11_luck 98 = .ok (.iconst 3, 1) := by decide +kernel
theorem dX11_luck_99 : decode cX11_luck 99 = .ok (.idiv, 1) := by decide +kernel
theorem dX11_luck_100 : decode cX11_luck 100 = .ok (.istore 4, 2) := by decide +kernel
theorem dX11_luck_102 : decode cX11_luck 102 = .ok (.iload 5, 2) := by decide +kernel
theorem dX11_luck_104 : decode cX11_luck 104 = .ok (.iconst 3, 1) := by decide +kernel
theorem dX11_luck_105 : decode cX11_luck 105 = .ok (.idiv, 1) := by decide +kernel
theorem dX11_luck_106 : decode cX11_luck 106 = .ok (.istore 5, 2) := by decide +kernel
theorem dX11_luck_108 : decode cX11_luck 108 = .ok (.iinc 6 1, 3) := by decide +kernel
theorem dX11_luck_111 : decode cX11_luck 111 = .ok (.goto (-34), 3) := by decide +kernel
theorem dX11_luck_114 : decode cX11_luck 114 = .ok (.iload_n 3, 1) := by decide +kernel
theorem dX11_luck_115 : decode cX11_luck 115 = .ok (.ifCond .ne 8, 3) := by decide +kernel
theorem dX11_luck_118 : decode cX11_luck 118 = .ok (.iload 4, 2) := by decide +kernel
theorem dX11_luck_120 : decode cX11_luck 120 = .ok (.goto 5, 3) := by decide +kernel
theorem dX11_luck_123 : decode cX11_luck 123 = .ok (.iload 5, 2) := by decide +kernel
theorem dX11_luck_125 : decode cX11_luck 125 = .ok (.ireturn, 1) := by decide +kernel
theorem dX11_top_0 : decode cX11_top 0 = .ok (.aload_n 0, 1) := by decide +kernel
theorem dX11_top_1 : decode cX11_top 1 = .ok (.iload_n 1, 1) := by decide +kernel
theorem dX11_top_2 : decode cX11_top 2 = .ok (.invokevirtual 93, 3) := by decide +kernel
theorem dX11_top_5 : decode cX11_top 5 = .ok (.ifCond .ne 13, 3) := by decide +kernel
theorem dX11_top_8 : decode cX11_top 8 = .ok (.iload_n 2, 1) := by decide +kernel
theorem dX11_top_9 : decode cX11_top 9 = .ok (.iconst 1, 1) := by decide +kernel
theorem dX11_top_10 : decode cX11_top 10 = .ok (.bipush 60, 2) := by decide +kernel
theorem dX11_top_12 : decode cX11_top 12 = .ok (.invokestatic 71, 3) := by decide +kernel
theorem dX11_top_15 : decode cX11_top 15 = .ok (.ifCond .eq 5, 3) := by decide +kernel
theorem dX11_top_18 : decode cX11_top 18 = .ok (.iconst (-1), 1) := by decide +kernel
theorem dX11_top_19 : decode cX11_top 19 = .ok (.ireturn, 1) := by decide +kernel
theorem dX11_top_20 : decode cX11_top 20 = .ok (.aload_n 0, 1) := by decide +kernel
theorem dX11_top_21 : decode cX11_top 21 = .ok (.getfield 49, 3) := by decide +kernel
theorem dX11_top_24 : decode cX11_top 24 = .ok (.aload_n 0, 1) := by decide +kernel
theorem dX11_top_25 : decode cX11_top 25 = .ok (.getfield 28, 3) := by decide +kernel
theorem dX11_top_28 : decode cX11_top 28 = .ok (.invokevirtual 160, 3) := by decide +kernel
theorem dX11_top_31 : decode cX11_top 31 = .ok (.iconst 0, 1) := by decide +kernel
theorem dX11_top_32 : decode cX11_top 32 = .ok (.istore_n 3, 1) := by decide +kernel
theorem dX11_top_33 : decode cX11_top 33 = .ok (.ldc 210, 2) := by decide +kernel
theorem dX11_top_35 : decode cX11_top 35 = .ok (.istore 4, 2) := by decide +kernel
theorem dX11_top_37 : decode cX11_top 37 = .ok (.iconst 1, 1) := by decide +kernel
theorem dX11_top_38 : decode cX11_top 38 = .ok (.istore 5, 2) := by decide +kernel
theorem dX11_top_40 : decode cX11_top 40 = .ok (.iload 5, 2) := by decide +kernel
theorem dX11_top_42 : decode cX11_top 42 = .ok (.iload_n 2, 1) := by decide +kernel
theorem dX11_top_43 : decode cX11_top 43 = .ok (.if_icmp .gt 55, 3) := by decide +kernel
theorem dX11_top_46 : decode cX11_top 46 = .ok (.aload_n 0, 1) := by decide +kernel
theorem dX11_top_47 : decode cX11_top 47 = .ok (.getfield 10, 3) := by decide +kernel
theorem dX11_top_50 : decode cX11_top 50 = .ok (.aload_n 0, 1) := by decide +kernel
theorem dX11_top_51 : decode cX11_top 51 = .ok (.getfield 49, 3) := by decide +kernel
theorem dX11_top_54 : decode cX11_top 54 = .ok (.aload_n 0, 1) := by decide +kernel
theorem dX11_top_55 : decode cX11_top 55 = .ok (.getfield 49, 3) := by decide +kernel
theorem dX11_top_58 : decode cX11_top 58 = .ok (.getfield 117, 3) := by decide +kernel
theorem dX11_top_61 : decode cX11_top 61 = .ok (.invokevirtual 186, 3) := by decide +kernel
theorem dX11_top_64 : decode cX11_top 64 = .ok (.aload_n 0, 1) := by decide +kernel
theorem dX11_top_65 : decode cX11_top 65 = .ok (.getfield 49, 3) := by decide +kernel
theorem dX11_top_68 : decode cX11_top 68 = .ok (.getfield 107, 3) := by decide +kernel
theorem dX11_top_71 : decode cX11_top 71 = .ok (.iload_n 1, 1) := by decide +kernel
theorem dX11_top_72 : decode cX11_top 72 = .ok (.iaload, 1) := by decide +kernel
theorem dX11_top_73 : decode cX11_top 73 = .ok (.iload 4, 2) := by decide +kernel
theorem dX11_top_75 : decode cX11_top 75 = .ok (.if_icmp .le 17, 3) := by decide +kernel
theorem dX11_top_78 : decode cX11_top 78 = .ok (.aload_n 0, 1) := by decide +kernel
theorem dX11_top_79 : decode cX11_top 79 = .ok (.getfield 49, 3) := by decide +kernel
theorem dX11_top_82 : decode cX11_top 82 = .ok (.getfield 107, 3) := by decide +kernel
theorem dX11_top_85 : decode cX11_top 85 = .ok (.iload_n 1, 1) := by decide +kernel
theorem dX11_top_86 : decode cX11_top 86 = .ok (.iaload, 1) := by decide +kernel
theorem dX11_top_87 : decode cX11_top 87 = .ok (.istore 4, 2) := by decide +kernel
theorem dX11_top_89 : decode cX11_top 89 = .ok (.iload 5, 2) := by decide +kernel
theorem dX11_top_91 : decode cX11_top 91 = .ok (.istore_n 3, 1) := by decide +kernel
theorem dX11_top_92 : decode cX11_top 92 = .ok (.iinc 5 1, 3) := by decide +kernel
theorem dX11_top_95 : decode cX11_top 95 = .ok (.goto (-55), 3) := by decide +kernel
theorem dX11_top_98 : decode cX11_top 98 = .ok (.iload_n 3, 1) := by decide +kernel
theorem dX11_top_99 : decode cX11_top 99 = .ok (.ireturn, 1) := by decide +kernel
theorem dX11_image_0 : decode cX11_image 0 = .ok (.aload_n 0, 1) := by decide +kernel
theorem dX11_image_1 : decode cX11_image 1 = .ok (.getfield 39, 3) := by decide +kernel
theorem dX11_image_4 : decode cX11_image 4 = .ok (.aload_n 0, 1) := by decide +kernel
theorem dX11_image_5 : decode cX11_image 5 = .ok (.getfield 28, 3) := by decide +kernel
theorem dX11_image_8 : decode cX11_image 8 = .ok (.invokevirtual 160, 3) := by decide +kernel
theorem dX11_image_11 : decode cX11_image 11 = .ok (.aload_n 0, 1) := by decide +kernel
theorem dX11_image_12 : decode cX11_image 12 = .ok (.getfield 42, 3) := by decide +kernel
theorem dX11_image_15 : decode cX11_image 15 = .ok (.aload_n 0, 1) := by decide +kernel
theorem dX11_image_16 : decode cX11_image 16 = .ok (.getfield 35, 3) := by decide +kernel
theorem dX11_image_19 : decode cX11_image 19 = .ok (.invokevirtual 228, 3) := by decide +kernel
theorem dX11_image_22 : decode cX11_image 22 = .ok (.aload_n 0, 1) := by decide +kernel
theorem dX11_image_23 : decode cX11_image 23 = .ok (.iconst 1, 1) := by decide +kernel
theorem dX11_image_24 : decode cX11_image 24 = .ok (.putfield 45, 3) := by decide +kernel
theorem dX11_image_27 : decode cX11_image 27 = .ok (.iconst 1, 1) := by decide +kernel
theorem dX11_image_28 : decode cX11_image 28 = .ok (.ireturn, 1) := by decide +kernel
theorem dX11_restore_0 : decode cX11_restore 0 = .ok (.aload_n 0, 1) := by decide +kernel
theorem dX11_restore_1 : decode cX11_restore 1 = .ok (.getfield 45, 3) := by decide +kernel
theorem dX11_restore_4 : decode cX11_restore 4 = .ok (.ifCond .ne 6, 3) := by decide +kernel
theorem dX11_restore_7 : decode cX11_restore 7 = .ok (.bipush (-4), 2) := by decide +kernel
theorem dX11_restore_9 : decode cX11_restore 9 = .ok (.ireturn, 1) := by decide +kernel
theorem dX11_restore_10 : decode cX11_restore 10 = .ok (.aload_n 0, 1) := by decide +kernel
theorem dX11_restore_11 : decode cX11_restore 11 = .ok (.getfield 28, 3) := by decide +kernel
theorem dX11_restore_14 : decode cX11_restore 14 = .ok (.aload_n 0, 1) := by decide +kernel
theorem dX11_restore_15 : decode cX11_restore 15 = .ok (.getfield 39, 3) := by decide +kernel
theorem dX11_restore_18 : decode cX11_restore 18 = .ok (.invokevirtual 160, 3) := by decide +kernel
theorem dX11_restore_21 : decode cX11_restore 21 = .ok (.aload_n 0, 1) := by decide +kernel
theorem dX11_restore_22 : decode cX11_restore 22 = .ok (.getfield 35, 3) := by decide +kernel
theorem dX11_restore_25 : decode cX11_restore 25 = .ok (.aload_n 0, 1) := by decide +kernel
theorem dX11_restore_26 : decode cX11_restore 26 = .ok (.getfield 42, 3) := by decide +kernel
theorem dX11_restore_29 : decode cX11_restore 29 = .ok (.invokevirtual 228, 3) := by decide +kernel
theorem dX11_restore_32 : decode cX11_restore 32 = .ok (.iconst 1, 1) := by decide +kernel
theorem dX11_restore_33 : decode cX11_restore 33 = .ok (.ireturn, 1) := by decide +kernel
theorem dX11_ledger_0 : decode cX11_ledger 0 = .ok (.aload_n 0, 1) := by decide +kernel
theorem dX11_ledger_1 : decode cX11_ledger 1 = .ok (.iload_n 1, 1) := by decide +kernel
theorem dX11_ledger_2 : decode cX11_ledger 2 = .ok (.invokevirtual 93, 3) := by decide +kernel
theorem dX11_ledger_5 : decode cX11_ledger 5 = .ok (.ifCond .ne 14, 3) := by decide +kernel
theorem dX11_ledger_8 : decode cX11_ledger 8 = .ok (.iload 5, 2) := by decide +kernel
theorem dX11_ledger_10 : decode cX11_ledger 10 = .ok (.iconst 1, 1) := by decide +kernel
theorem dX11_ledger_11 : decode cX11_ledger 11 = .ok (.bipush 8, 2) := by decide +kernel
theorem dX11_ledger_13 : decode cX11_ledger 13 = .ok (.invokestatic 71, 3) := by decide +kernel
theorem dX11_ledger_16 : decode cX11_ledger 16 = .ok (.ifCond .eq 5, 3) := by decide +kernel
theorem dX11_ledger_19 : decode cX11_ledger 19 = .ok (.iconst (-1), 1) := by decide +kernel
theorem dX11_ledger_20 : decode cX11_ledger 20 = .ok (.ireturn, 1) := by decide +kernel
theorem dX11_ledger_21 : decode cX11_ledger 21 = .ok (.aload_n 0, 1) := by decide +kernel
theorem dX11_ledger_22 : decode cX11_ledger 22 = .ok (.iload_n 2, 1) := by decide +kernel
theorem dX11_ledger_23 : decode cX11_ledger 23 = .ok (.iload_n 3, 1) := by decide +kernel
theorem dX11_ledger_24 : decode cX11_ledger 24 = .ok (.iload 4, 2) := by decide +kernel
theorem dX11_ledger_26 : decode cX11_ledger 26 = .ok (.iload 5, 2) := by decide +kernel
theorem dX11_ledger_28 : decode cX11_ledger 28 = .ok (.invokevirtual 231, 3) := by decide +kernel
theorem dX11_ledger_31 : decode cX11_ledger 31 = .ok (.istore 6, 2) := by decide +kernel
theorem dX11_ledger_33 : decode cX11_ledger 33 = .ok (.iload 6, 2) := by decide +kernel
theorem dX11_ledger_35 : decode cX11_ledger 35 = .ok (.ifCond .eq 6, 3) := by decide +kernel
theorem dX11_ledger_38 : decode cX11_ledger 38 = .ok (.iload 6, 2) := by decide +kernel
theorem dX11_ledger_40 : decode cX11_ledger 40 = .ok (.ireturn, 1) := by decide +kernel
theorem dX11_ledger_41 : decode cX11_ledger 41 = .ok (.iconst 0, 1) := by decide +kernel
theorem dX11_ledger_42 : decode cX11_ledger 42 = .ok (.istore 7, 2) := by decide +kernel
theorem dX11_ledger_44 : decode cX11_ledger 44 = .ok (.iconst 0, 1) := by decide +kernel
theorem dX11_ledger_45 : decode cX11_ledger 45 = .ok (.istore 8, 2) := by decide +kernel
theorem dX11_ledger_47 : decode cX11_ledger 47 = .ok (.iload 8, 2) := by decide +kernel
theorem dX11_ledger_49 : decode cX11_ledger 49 = .ok (.iconst 4, 1) := by decide +kernel
theorem dX11_ledger_50 : decode cX11_ledger 50 = .ok (.if_icmp .gt 41, 3) := by decide +kernel
theorem dX11_ledger_53 : decode cX11_ledger 53 = .ok (.aload_n 0, 1) := by decide +kernel
theorem dX11_ledger_54 : decode cX11_ledger 54 = .ok (.iload_n 1, 1) := by decide +kernel
theorem dX11_ledger_55 : decode cX11_ledger 55 = .ok (.iload 8, 2) := by decide +kernel
theorem dX11_ledger_57 : decode cX11_ledger 57 = .ok (.aload_n 0, 1) := by decide +kernel
theorem dX11_ledger_58 : decode cX11_ledger 58 = .ok (.getfield 61, 3) := by decide +kernel
theorem dX11_ledger_61 : decode cX11_ledger 61 = .ok (.iload_n 2, 1) := by decide +kernel
theorem dX11_ledger_62 : decode cX11_ledger 62 = .ok (.aaload, 1) := by decide +kernel
theorem dX11_ledger_63 : decode cX11_ledger 63 = .ok (.getfield 235, 3) := by decide +kernel
theorem dX11_ledger_66 : decode cX11_ledger 66 = .ok (.iload 4, 2) := by decide +kernel
theorem dX11_ledger_68 : decode cX11_ledger 68 = .ok (.iload 5, 2) := by decide +kernel
theorem dX11_ledger_70 : decode cX11_ledger 70 = .ok (.invokevirtual 239, 3) := by decide +kernel
theorem dX11_ledger_73 : decode cX11_ledger 73 = .ok (.ifCond .eq 12, 3) := by decide +kernel
theorem dX11_ledger_76 : decode cX11_ledger 76 = .ok (.iload 7, 2) := by decide +kernel
theorem dX11_ledger_78 : decode cX11_ledger 78 = .ok (.iconst 1, 1) := by decide +kernel
theorem dX11_ledger_79 : decode cX11_ledger 79 = .ok (.iload 8, 2) := by decide +kernel
theorem dX11_ledger_81 : decode cX11_ledger 81 = .ok (.ishl, 1) := by decide +kernel
theorem dX11_ledger_82 : decode cX11_ledger 82 = .ok (.ior, 1) := by decide +kernel
theorem dX11_ledger_83 : decode cX11_ledger 83 = .ok (.istore 7, 2) := by decide +kernel
theorem dX11_ledger_85 : decode cX11_ledger 85 = .ok (.iinc 8 1, 3) := by decide +kernel
theorem dX11_ledger_88 : decode cX11_ledger 88 = .ok (.goto (-41), 3) := by decide +kernel
theorem dX11_ledger_91 : decode cX11_ledger 91 = .ok (.iload 7, 2) := by decide +kernel
theorem dX11_ledger_93 : decode cX11_ledger 93 = .ok (.ireturn, 1) := by decide +kernel
theorem dX11_film_0 : decode cX11_film 0 = .ok (.aload_n 0, 1) := by decide +kernel
theorem dX11_film_1 : decode cX11_film 1 = .ok (.iload_n 1, 1) := by decide +kernel
theorem dX11_film_2 : decode cX11_film 2 = .ok (.invokevirtual 93, 3) := by decide +kernel
theorem dX11_film_5 : decode cX11_film 5 = .ok (.ifCond .ne 13, 3) := by decide +kernel
theorem dX11_film_8 : decode cX11_film 8 = .ok (.iload_n 2, 1) := by decide +kernel
theorem dX11_film_9 : decode cX11_film 9 = .ok (.iconst 1, 1) := by decide +kernel
theorem dX11_film_10 : decode cX11_film 10 = .ok (.bipush 24, 2) := by decide +kernel
theorem dX11_film_12 : decode cX11_film 12 = .ok (.invokestatic 71, 3) := by decide +kernel
theorem dX11_film_15 : decode cX11_film 15 = .ok (.ifCond .eq 5, 3) := by decide +kernel
theorem dX11_film_18 : decode cX11_film 18 = .ok (.iconst (-1), 1) := by decide +kernel
theorem dX11_film_19 : decode cX11_film 19 = .ok (.ireturn, 1) := by decide +kernel
theorem dX11_film_20 : decode cX11_film 20 = .ok (.aload_n 0, 1) := by decide +kernel
theorem dX11_film_21 : decode cX11_film 21 = .ok (.iload_n 3, 1) := by decide +kernel
theorem dX11_film_22 : decode cX11_film 22 = .ok (.iload 4, 2) := by decide +kernel
theorem dX11_film_24 : decode cX11_film 24 = .ok (.iload 5, 2) := by decide +kernel
theorem dX11_film_26 : decode cX11_film 26 = .ok (.iload_n 2, 1) := by decide +kernel
theorem dX11_film_27 : decode cX11_film 27 = .ok (.invokevirtual 231, 3) := by decide +kernel
theorem dX11_film_30 : decode cX11_film 30 = .ok (.istore 6, 2) := by decide +kernel
theorem dX11_film_32 : decode cX11_film 32 = .ok (.iload 6, 2) := by decide +kernel
theorem dX11_film_34 : decode cX11_film 34 = .ok (.ifCond .eq 6, 3) := by decide +kernel
theorem dX11_film_37 : decode cX11_film 37 = .ok (.iload 6, 2) := by decide +kernel
theorem dX11_film_39 : decode cX11_film 39 = .ok (.ireturn, 1) := by decide +kernel
theorem dX11_film_40 : decode cX11_film 40 = .ok (.aload_n 0, 1) := by decide +kernel
theorem dX11_film_41 : decode cX11_film 41 = .ok (.getfield 49, 3) := by decide +kernel
theorem dX11_film_44 : decode cX11_film 44 = .ok (.aload_n 0, 1) := by decide +kernel
theorem dX11_film_45 : decode cX11_film 45 = .ok (.getfield 28, 3) := by decide +kernel
theorem dX11_film_48 : decode cX11_film 48 = .ok (.invokevirtual 160, 3) := by decide +kernel
theorem dX11_film_51 : decode cX11_film 51 = .ok (.iconst 0, 1) := by decide +kernel
theorem dX11_film_52 : decode cX11_film 52 = .ok (.istore 7, 2) := by decide +kernel
theorem dX11_film_54 : decode cX11_film 54 = .ok (.iload 7, 2) := by decide +kernel
theorem dX11_film_56 : decode cX11_film 56 = .ok (.iload_n 2, 1) := by decide +kernel
theorem dX11_film_57 : decode cX11_film 57 = .ok (.if_icmp .ge 51, 3) := by decide +kernel
theorem dX11_film_60 : decode cX11_film 60 = .ok (.aload_n 0, 1) := by decide +kernel
theorem dX11_film_61 : decode cX11_film 61 = .ok (.getfield 10, 3) := by decide +kernel
theorem dX11_film_64 : decode cX11_film 64 = .ok (.aload_n 0, 1) := by decide +kernel
theorem dX11_film_65 : decode cX11_film 65 = .ok (.getfield 49, 3) := by decide +kernel
theorem dX11_film_68 : decode cX11_film 68 = .ok (.aload_n 0, 1) := by decide +kernel
theorem dX11_film_69 : decode cX11_film 69 = .ok (.getfield 49, 3) := by decide +kernel
theorem dX11_film_72 : decode cX11_film 72 = .ok (.getfield 117, 3) := by decide +kernel
theorem dX11_film_75 : decode cX11_film 75 = .ok (.invokevirtual 186, 3) := by decide +kernel
theorem dX11_film_78 : decode cX11_film 78 = .ok (.aload_n 0, 1) := by decide +kernel
theorem dX11_film_79 : decode cX11_film 79 = .ok (.getfield 61, 3) := by decide +kernel
theorem dX11_film_82 : decode cX11_film 82 = .ok (.iload_n 3, 1) := by decide +kernel
theorem dX11_film_83 : decode cX11_film 83 = .ok (.aaload, 1) := by decide +kernel
theorem dX11_film_84 : decode cX11_film 84 = .ok (.iload 5, 2) := by decide +kernel
theorem dX11_film_86 : decode cX11_film 86 = .ok (.iload 7, 2) := by decide +kernel
theorem dX11_film_88 : decode cX11_film 88 = .ok (.iadd, 1) := by decide +kernel
theorem dX11_film_89 : decode cX11_film 89 = .ok (.aload_n 0, 1) := by decide +kernel
theorem dX11_film_90 : decode cX11_film 90 = .ok (.getfield 49, 3) := by decide +kernel
theorem dX11_film_93 : decode cX11_film 93 = .ok (.getfield 110, 3) := by decide +kernel
theorem dX11_film_96 : decode cX11_film 96 = .ok (.iload_n 1, 1) := by decide +kernel
theorem dX11_film_97 : decode cX11_film 97 = .ok (.iaload, 1) := by decide +kernel
theorem dX11_film_98 : decode cX11_film 98 = .ok (.i2l, 1) := by decide +kernel
theorem dX11_film_99 : decode cX11_film 99 = .ok (.invokevirtual 243, 3) := by decide +kernel
theorem dX11_film_102 : decode cX11_film 102 = .ok (.iinc 7 1, 3) := by decide +kernel
theorem dX11_film_105 : decode cX11_film 105 = .ok (.goto (-51), 3) := by decide +kernel
theorem dX11_film_108 : decode cX11_film 108 = .ok (.iload_n 2, 1) := by decide +kernel
theorem dX11_film_109 : decode cX11_film 109 = .ok (.ireturn, 1) := by decide +kernel
theorem dX11_sheet_0 : decode cX11_sheet 0 = .ok (.iload_n 1, 1) := by decide +kernel
theorem dX11_sheet_1 : decode cX11_sheet 1 = .ok (.iconst 0, 1) := by decide +kernel
theorem dX11_sheet_2 : decode cX11_sheet 2 = .ok (.iconst 3, 1) := by decide +kernel
theorem dX11_sheet_3 : decode cX11_sheet 3 = .ok (.invokestatic 71, 3) := by decide +kernel
theorem dX11_sheet_6 : decode cX11_sheet 6 = .ok (.ifCond .ne 18, 3) := by decide +kernel
theorem dX11_sheet_9 : decode cX11_sheet 9 = .ok (.iload_n 2, 1) := by decide +kernel
theorem dX11_sheet_10 : decode cX11_sheet 10 = .ok (.iconst 0, 1) := by decide +kernel
theorem dX11_sheet_11 : decode cX11_sheet 11 = .ok (.iconst 3, 1) := by decide +kernel
theorem dX11_sheet_12 : decode cX11_sheet 12 = .ok (.invokestatic 71, 3) := by decide +kernel
theorem dX11_sheet_15 : decode cX11_sheet 15 = .ok (.ifCond .ne 9, 3) := by decide +kernel
theorem dX11_sheet_18 : decode cX11_sheet 18 = .ok (.iload_n 3, 1) := by decide +kernel
theorem dX11_sheet_19 : decode cX11_sheet 19 = .ok (.bipush 24, 2) := by decide +kernel
theorem dX11_sheet_21 : decode cX11_sheet 21 = .ok (.if_icmp .le 5, 3) := by decide +kernel
theorem dX11_sheet_24 : decode cX11_sheet 24 = .ok (.iconst (-1), 1) := by decide +kernel
theorem dX11_sheet_25 : decode cX11_sheet 25 = .ok (.ireturn, 1) := by decide +kernel
theorem dX11_sheet_26 : decode cX11_sheet 26 = .ok (.iload_n 3, 1) := by decide +kernel
theorem dX11_sheet_27 : decode cX11_sheet 27 = .ok (.ifCond .ge 6, 3) := by decide +kernel
theorem dX11_sheet_30 : decode cX11_sheet 30 = .ok (.bipush (-14), 2) := by decide +kernel
theorem dX11_sheet_32 : decode cX11_sheet 32 = .ok (.ireturn, 1) := by decide +kernel
theorem dX11_sheet_33 : decode cX11_sheet 33 = .ok (.aload_n 0, 1) := by decide +kernel
theorem dX11_sheet_34 : decode cX11_sheet 34 = .ok (.getfield 61, 3) := by decide +kernel
theorem dX11_sheet_37 : decode cX11_sheet 37 = .ok (.iload_n 1, 1) := by decide +kernel
theorem dX11_sheet_38 : decode cX11_sheet 38 = .ok (.aaload, 1) := by decide +kernel
theorem dX11_sheet_39 : decode cX11_sheet 39 = .ok (.iload_n 2, 1) := by decide +kernel
theorem dX11_sheet_40 : decode cX11_sheet 40 = .ok (.iload_n 3, 1) := by decide +kernel
theorem dX11_sheet_41 : decode cX11_sheet 41 = .ok (.invokevirtual 247, 3) := by decide +kernel
theorem dX11_sheet_44 : decode cX11_sheet 44 = .ok (.iload_n 3, 1) := by decide +kernel
theorem dX11_sheet_45 : decode cX11_sheet 45 = .ok (.ireturn, 1) := by decide +kernel
theorem dX11_drop_0 : decode cX11_drop 0 = .ok (.iload_n 1, 1) := by decide +kernel
theorem dX11_drop_1 : decode cX11_drop 1 = .ok (.iconst 0, 1) := by decide +kernel
theorem dX11_drop_2 : decode cX11_drop 2 = .ok (.iconst 3, 1) := by decide +kernel
theorem dX11_drop_3 : decode cX11_drop 3 = .ok (.invokestatic 71, 3) := by decide +kernel
theorem dX11_drop_6 : decode cX11_drop 6 = .ok (.ifCond .eq 5, 3) := by decide +kernel
theorem dX11_drop_9 : decode cX11_drop 9 = .ok (.iconst (-1), 1) := by decide +kernel
theorem dX11_drop_10 : decode cX11_drop 10 = .ok (.ireturn, 1) := by decide +kernel
theorem dX11_drop_11 : decode cX11_drop 11 = .ok (.aload_n 0, 1) := by decide +kernel
theorem dX11_drop_12 : decode cX11_drop 12 = .ok (.getfield 61, 3) := by decide +kernel
theorem dX11_drop_15 : decode cX11_drop 15 = .ok (.iload_n 1, 1) := by decide +kernel
theorem dX11_drop_16 : decode cX11_drop 16 = .ok (.aaload, 1) := by decide +kernel
theorem dX11_drop_17 : decode cX11_drop 17 = .ok (.getfield 250, 3) := by decide +kernel
theorem dX11_drop_20 : decode cX11_drop 20 = .ok (.ifCond .eq 6, 3) := by decide +kernel
theorem dX11_drop_23 : decode cX11_drop 23 = .ok (.bipush (-11), 2) := by decide +kernel
theorem dX11_drop_25 : decode cX11_drop 25 = .ok (.ireturn, 1) := by decide +kernel
theorem dX11_drop_26 : decode cX11_drop 26 = .ok (.aload_n 0, 1) := by decide +kernel
theorem dX11_drop_27 : decode cX11_drop 27 = .ok (.getfield 61, 3) := by decide +kernel
theorem dX11_drop_30 : decode cX11_drop 30 = .ok (.iload_n 1, 1) := by decide +kernel
theorem dX11_drop_31 : decode cX11_drop 31 = .ok (.aaload, 1) := by decide +kernel
theorem dX11_drop_32 : decode cX11_drop 32 = .ok (.iconst 1, 1) := by decide +kernel
theorem dX11_drop_33 : decode cX11_drop 33 = .ok (.putfield 250, 3) := by decide +kernel
theorem dX11_drop_36 : decode cX11_drop 36 = .ok (.aload_n 0, 1) := by decide +kernel
theorem dX11_drop_37 : decode cX11_drop 37 = .ok (.getfield 61, 3) := by decide +kernel
theorem dX11_drop_40 : decode cX11_drop 40 = .ok (.iload_n 1, 1) := by decide +kernel
theorem dX11_drop_41 : decode cX11_drop 41 = .ok (.aaload, 1) := by decide +kernel
theorem dX11_drop_42 : decode cX11_drop 42 = .ok (.getfield 253, 3) := by decide +kernel
theorem dX11_drop_45 : decode cX11_drop 45 = .ok (.ireturn, 1) := by decide +kernel
theorem dX11_item_0 : decode cX11_item 0 = .ok (.aload_n 0, 1) := by decide +kernel
theorem dX11_item_1 : decode cX11_item 1 = .ok (.iload_n 1, 1) := by decide +kernel
theorem dX11_item_2 : decode cX11_item 2 = .ok (.iload_n 2, 1) := by decide +kernel
theorem dX11_item_3 : decode cX11_item 3 = .ok (.iload_n 3, 1) := by decide +kernel
theorem dX11_item_4 : decode cX11_item 4 = .ok (.iconst 1, 1) := by decide +kernel
theorem dX11_item_5 : decode cX11_item 5 = .ok (.invokevirtual 231, 3) := by decide +kernel
theorem dX11_item_8 : decode cX11_item 8 = .ok (.istore 6, 2) := by decide +kernel
theorem dX11_item_10 : decode cX11_item 10 = .ok (.iload 6, 2) := by decide +kernel
theorem dX11_item_12 : decode cX11_item 12 = .ok (.ifCond .eq 6, 3) := by decide +kernel
theorem dX11_item_15 : decode cX11_item 15 = .ok (.iload 6, 2) := by decide +kernel
theorem dX11_item_17 : decode cX11_item 17 = .ok (.ireturn, 1) := by decide +kernel
theorem dX11_item_18 : decode cX11_item 18 = .ok (.aload_n 0, 1) := by decide +kernel
theorem dX11_item_19 : decode cX11_item 19 = .ok (.getfield 61, 3) := by decide +kernel
theorem dX11_item_22 : decode cX11_item 22 = .ok (.iload_n 1, 1) := by decide +kernel
theorem dX11_item_23 : decode cX11_item 23 = .ok (.aaload, 1) := by decide +kernel
theorem dX11_item_24 : decode cX11_item 24 = .ok (.iload_n 3, 1) := by decide +kernel
theorem dX11_item_25 : decode cX11_item 25 = .ok (.lload 4, 2) := by decide +kernel
theorem dX11_item_27 : decode cX11_item 27 = .ok (.invokevirtual 243, 3) := by decide +kernel
theorem dX11_item_30 : decode cX11_item 30 = .ok (.iconst 1, 1) := by decide +kernel
theorem dX11_item_31 : decode cX11_item 31 = .ok (.ireturn, 1) := by decide +kernel
theorem dX11_copy_0 : decode cX11_copy 0 = .ok (.iload_n 1, 1) := by decide +kernel
theorem dX11_copy_1 : decode cX11_copy 1 = .ok (.iconst 0, 1) := by decide +kernel
theorem dX11_copy_2 : decode cX11_copy 2 = .ok (.iconst 3, 1) := by decide +kernel
theorem dX11_copy_3 : decode cX11_copy 3 = .ok (.invokestatic 71, 3) := by decide +kernel
theorem dX11_copy_6 : decode cX11_copy 6 = .ok (.ifCond .ne 12, 3) := by decide +kernel
theorem dX11_copy_9 : decode cX11_copy 9 = .ok (.iload_n 3, 1) := by decide +kernel
theorem dX11_copy_10 : decode cX11_copy 10 = .ok (.iconst 0, 1) := by decide +kernel
theorem dX11_copy_11 : decode cX11_copy 11 = .ok (.iconst 3, 1) := by decide +kernel
theorem dX11_copy_12 : decode cX11_copy 12 = .ok (.invokestatic 71, 3) := by decide +kernel
theorem dX11_copy_15 : decode cX11_copy 15 = .ok (.ifCond .eq 5, 3) := by decide +kernel
theorem dX11_copy_18 : decode cX11_copy 18 = .ok (.iconst (-1), 1) := by decide +kernel
theorem dX11_copy_19 : decode cX11_copy 19 = .ok (.ireturn, 1) := by decide +kernel
theorem dX11_copy_20 : decode cX11_copy 20 = .ok (.aload_n 0, 1) := by decide +kernel
theorem dX11_copy_21 : decode cX11_copy 21 = .ok (.getfield 61, 3) := by decide +kernel
theorem dX11_copy_24 : decode cX11_copy 24 = .ok (.iload_n 1, 1) := by decide +kernel
theorem dX11_copy_25 : decode cX11_copy 25 = .ok (.aaload, 1) := by decide +kernel
theorem dX11_copy_26 : decode cX11_copy 26 = .ok (.astore 6, 2) := by decide +kernel
theorem dX11_copy_28 : decode cX11_copy 28 = .ok (.aload_n 0, 1) := by decide +kernel
theorem dX11_copy_29 : decode cX11_copy 29 = .ok (.getfield 61, 3) := by decide +kernel
theorem dX11_copy_32 : decode cX11_copy 32 = .ok (.iload_n 3, 1) := by decide +kernel
theorem dX11_copy_33 : decode cX11_copy 33 = .ok (.aaload, 1) := by decide +kernel
theorem dX11_copy_34 : decode cX11_copy 34 = .ok (.astore 7, 2) := by decide +kernel
theorem dX11_copy_36 : decode cX11_copy 36 = .ok (.aload 6, 2) := by decide +kernel
theorem dX11_copy_38 : decode cX11_copy 38 = .ok (.getfield 250, 3) := by decide +kernel
theorem dX11_copy_41 : decode cX11_copy 41 = .ok (.ifCond .ne 11, 3) := by decide +kernel
theorem dX11_copy_44 : decode cX11_copy 44 = .ok (.aload 7, 2) := by decide +kernel
theorem dX11_copy_46 : decode cX11_copy 46 = .ok (.getfield 250, 3) := by decide +kernel
theorem dX11_copy_49 : decode cX11_copy 49 = .ok (.ifCond .eq 6, 3) := by decide +kernel
theorem dX11_copy_52 : decode cX11_copy 52 = .ok (.bipush (-11), 2) := by decide +kernel
theorem dX11_copy_54 : decode cX11_copy 54 = .ok (.ireturn, 1) := by decide +kernel
theorem dX11_copy_55 : decode cX11_copy 55 = .ok (.aload 6, 2) := by decide +kernel
theorem dX11_copy_57 : decode cX11_copy 57 = .ok (.getfield 254, 3) := by decide +kernel
theorem dX11_copy_60 : decode cX11_copy 60 = .ok (.aload 7, 2) := by decide +kernel
theorem dX11_copy_62 : decode cX11_copy 62 = .ok (.getfield 254, 3) := by decide +kernel
theorem dX11_copy_65 : decode cX11_copy 65 = .ok (.if_icmp .eq 6, 3) := by decide +kernel
theorem dX11_copy_68 : decode cX11_copy 68 = .ok (.bipush (-12), 2) := by decide +kernel
theorem dX11_copy_70 : decode cX11_copy 70 = .ok (.ireturn, 1) := by decide +kernel
theorem dX11_copy_71 : decode cX11_copy 71 = .ok (.aload 6, 2) := by decide +kernel
theorem dX11_copy_73 : decode cX11_copy 73 = .ok (.iload_n 2, 1) := by decide +kernel
theorem dX11_copy_74 : decode cX11_copy 74 = .ok (.iload 5, 2) := by decide +kernel
theorem dX11_copy_76 : decode cX11_copy 76 = .ok (.invokevirtual 257, 3) := by decide +kernel
theorem dX11_copy_79 : decode cX11_copy 79 = .ok (.ifCond .eq 15, 3) := by decide +kernel
theorem dX11_copy_82 : decode cX11_copy 82 = .ok (.aload 7, 2) := by decide +kernel
theorem dX11_copy_84 : decode cX11_copy 84 = .ok (.iload 4, 2) := by decide +kernel
theorem dX11_copy_86 : decode cX11_copy 86 = .ok (.iload 5, 2) := by decide +kernel
theorem dX11_copy_88 : decode cX11_copy 88 = .ok (.invokevirtual 257, 3) := by decide +kernel
theorem dX11_copy_91 : decode cX11_copy 91 = .ok (.ifCond .ne 6, 3) := by decide +kernel
theorem dX11_copy_94 : decode cX11_copy 94 = .ok (.bipush (-13), 2) := by decide +kernel
theorem dX11_copy_96 : decode cX11_copy 96 = .ok (.ireturn, 1) := by decide +kernel
theorem dX11_copy_97 : decode cX11_copy 97 = .ok (.aload 6, 2) := by decide +kernel
theorem dX11_copy_99 : decode cX11_copy 99 = .ok (.getfield 235, 3) := by decide +kernel
theorem dX11_copy_102 : decode cX11_copy 102 = .ok (.iload_n 2, 1) := by decide +kernel
theorem dX11_copy_103 : decode cX11_copy 103 = .ok (.aload 7, 2) := by decide +kernel
theorem dX11_copy_105 : decode cX11_copy 105 = .ok (.getfield 235, 3) := by decide +kernel
theorem dX11_copy_108 : decode cX11_copy 108 = .ok (.iload 4, 2) := by decide +kernel
theorem dX11_copy_110 : decode cX11_copy 110 = .ok (.iload 5, 2) := by decide +kernel
theorem dX11_copy_112 : decode cX11_copy 112 = .ok (.invokestatic 260, 3) := by decide +kernel
theorem dX11_copy_115 : decode cX11_copy 115 = .ok (.iload 5, 2) := by decide +kernel
theorem dX11_copy_117 : decode cX11_copy 117 = .ok (.ireturn, 1) := by decide +kernel
theorem dX11_outside_0 : decode cX11_outside 0 = .ok (.iload_n 0, 1) := by decide +kernel
theorem dX11_outside_1 : decode cX11_outside 1 = .ok (.iload_n 1, 1) := by decide +kernel
theorem dX11_outside_2 : decode cX11_outside 2 = .ok (.if_icmp .lt 8, 3) := by decide +kernel
theorem dX11_outside_5 : decode cX11_outside 5 = .ok (.iload_n 0, 1) := by decide +kernel
theorem dX11_outside_6 : decode cX11_outside 6 = .ok (.iload_n 2, 1) := by decide +kernel
theorem dX11_outside_7 : decode cX11_outside 7 = .ok (.if_icmp .le 7, 3) := by decide +kernel
theorem dX11_outside_10 : decode cX11_outside 10 = .ok (.iconst 1, 1) := by decide +kernel
theorem dX11_outside_11 : decode cX11_outside 11 = .ok (.goto 4, 3) := by decide +kernel
theorem dX11_outside_14 : decode cX11_outside 14 = .ok (.iconst 0, 1) := by decide +kernel
theorem dX11_outside_15 : decode cX11_outside 15 = .ok (.ireturn, 1) := by decide +kernel
theorem dX11_noMan_0 : decode cX11_noMan 0 = .ok (.iload_n 1, 1) := by decide +kernel
theorem dX11_noMan_1 : decode cX11_noMan 1 = .ok (.iconst 0, 1) := by decide +kernel
theorem dX11_noMan_2 : decode cX11_noMan 2 = .ok (.aload_n 0, 1) := by decide +kernel
theorem dX11_noMan_3 : decode cX11_noMan 3 = .ok (.getfield 28, 3) := by decide +kernel
theorem dX11_noMan_6 : decode cX11_noMan 6 = .ok (.getfield 75, 3) := by decide +kernel
theorem dX11_noMan_9 : decode cX11_noMan 9 = .ok (.iconst 1, 1) := by decide +kernel
theorem dX11_noMan_10 : decode cX11_noMan 10 = .ok (.isub, 1) := by decide +kernel
theorem dX11_noMan_11 : decode cX11_noMan 11 = .ok (.invokestatic 71, 3) := by decide +kernel
theorem dX11_noMan_14 : decode cX11_noMan 14 = .ok (.ireturn, 1) := by decide +kernel
theorem dX11_noName_0 : decode cX11_noName 0 = .ok (.iload_n 1, 1) := by decide +kernel
theorem dX11_noName_1 : decode cX11_noName 1 = .ok (.iconst 0, 1) := by decide +kernel
theorem dX11_noName_2 : decode cX11_noName 2 = .ok (.aload_n 0, 1) := by decide +kernel
theorem dX11_noName_3 : decode cX11_noName 3 = .ok (.getfield 28, 3) := by decide +kernel
theorem dX11_noName_6 : decode cX11_noName 6 = .ok (.getfield 86, 3) := by decide +kernel
theorem dX11_noName_9 : decode cX11_noName 9 = .ok (.iconst 1, 1) := by decide +kernel
theorem dX11_noName_10 : decode cX11_noName 10 = .ok (.isub, 1) := by decide +kernel
theorem dX11_noName_11 : decode cX11_noName 11 = .ok (.invokestatic 71, 3) := by decide +kernel
theorem dX11_noName_14 : decode cX11_noName 14 = .ok (.ireturn, 1) := by decide +kernel
theorem dX11_orNone_0 : decode cX11_orNone 0 = .ok (.iload_n 0, 1) := by decide +kernel
theorem dX11_orNone_1 : decode cX11_orNone 1 = .ok (.iconst (-1), 1) := by decide +kernel
theorem dX11_orNone_2 : decode cX11_orNone 2 = .ok (.if_icmp .ne 8, 3) := by decide +kernel
theorem dX11_orNone_5 : decode cX11_orNone 5 = .ok (.bipush (-4), 2) := by decide +kernel
theorem dX11_orNone_7 : decode cX11_orNone 7 = .ok (.goto 4, 3) := by decide +kernel
theorem dX11_orNone_10 : decode cX11_orNone 10 = .ok (.iload_n 0, 1) := by decide +kernel
theorem dX11_orNone_11 : decode cX11_orNone 11 = .ok (.ireturn, 1) := by decide +kernel
theorem dX11_setOfNamed_0 : decode cX11_setOfNamed 0 = .ok (.iconst 0, 1) := by decide +kernel
theorem dX11_setOfNamed_1 : decode cX11_setOfNamed 1 = .ok (.istore_n 2, 1) := by decide +kernel
theorem dX11_setOfNamed_2 : decode cX11_setOfNamed 2 = .ok (.iconst 0, 1) := by decide +kernel
theorem dX11_setOfNamed_3 : decode cX11_setOfNamed 3 = .ok (.istore_n 3, 1) := by decide +kernel
theorem dX11_setOfNamed_4 : decode cX11_setOfNamed 4 = .ok (.iload_n 3, 1) := by decide +kernel
theorem dX11_setOfNamed_5 : decode cX11_setOfNamed 5 = .ok (.aload_n 0, 1) := by decide +kernel
theorem dX11_setOfNamed_6 : decode cX11_setOfNamed 6 = .ok (.getfield 28, 3) := by decide +kernel
theorem dX11_setOfNamed_9 : decode cX11_setOfNamed 9 = .ok (.getfield 75, 3) := by decide +kernel
theorem dX11_setOfNamed_12 : decode cX11_setOfNamed 12 = .ok (.if_icmp .ge 22, 3) := by decide +kernel
theorem dX11_setOfNamed_15 : decode cX11_setOfNamed 15 = .ok (.aload_n 1, 1) := by decide +kernel
theorem dX11_setOfNamed_16 : decode cX11_setOfNamed 16 = .ok (.iload_n 3, 1) := by decide +kernel
theorem dX11_setOfNamed_17 : decode cX11_setOfNamed 17 = .ok (.iaload, 1) := by decide +kernel
theorem dX11_setOfNamed_18 : decode cX11_setOfNamed 18 = .ok (.iconst (-1), 1) := by decide +kernel
theorem dX11_setOfNamed_19 : decode cX11_setOfNamed 19 = .ok (.if_icmp .eq 9, 3) := by decide +kernel
theorem dX11_setOfNamed_22 : decode cX11_setOfNamed 22 = .ok (.iload_n 2, 1) := by decide +kernel
theorem dX11_setOfNamed_23 : decode cX11_setOfNamed 23 = .ok (.iconst 1, 1) := by decide +kernel
theorem dX11_setOfNamed_24 : decode cX11_setOfNamed 24 = .ok (.iload_n 3, 1) := by decide +kernel
theorem dX11_setOfNamed_25 : decode cX11_setOfNamed 25 = .ok (.ishl, 1) := by decide +kernel
theorem dX11_setOfNamed_26 : decode cX11_setOfNamed 26 = .ok (.ior, 1) := by decide +kernel
theorem dX11_setOfNamed_27 : decode cX11_setOfNamed 27 = .ok (.istore_n 2, 1) := by decide +kernel
theorem dX11_setOfNamed_28 : decode cX11_setOfNamed 28 = .ok (.iinc 3 1, 3) := by decide +kernel
theorem dX11_setOfNamed_31 : decode cX11_setOfNamed 31 = .ok (.goto (-27), 3) := by decide +kernel
theorem dX11_setOfNamed_34 : decode cX11_setOfNamed 34 = .ok (.iload_n 2, 1) := by decide +kernel
theorem dX11_setOfNamed_35 : decode cX11_setOfNamed 35 = .ok (.ireturn, 1) := by decide +kernel
theorem dX11_sum_0 : decode cX11_sum 0 = .ok (.iconst 0, 1) := by decide +kernel
theorem dX11_sum_1 : decode cX11_sum 1 = .ok (.istore_n 2, 1) := by decide +kernel
theorem dX11_sum_2 : decode cX11_sum 2 = .ok (.iconst 0, 1) := by decide +kernel
theorem dX11_sum_3 : decode cX11_sum 3 = .ok (.istore_n 3, 1) := by decide +kernel
theorem dX11_sum_4 : decode cX11_sum 4 = .ok (.iload_n 3, 1) := by decide +kernel
theorem dX11_sum_5 : decode cX11_sum 5 = .ok (.aload_n 0, 1) := by decide +kernel
theorem dX11_sum_6 : decode cX11_sum 6 = .ok (.getfield 28, 3) := by decide +kernel
theorem dX11_sum_9 : decode cX11_sum 9 = .ok (.getfield 86, 3) := by decide +kernel
theorem dX11_sum_12 : decode cX11_sum 12 = .ok (.if_icmp .ge 15, 3) := by decide +kernel
theorem dX11_sum_15 : decode cX11_sum 15 = .ok (.iload_n 2, 1) := by decide +kernel
theorem dX11_sum_16 : decode cX11_sum 16 = .ok (.aload_n 1, 1) := by decide +kernel
theorem dX11_sum_17 : decode cX11_sum 17 = .ok (.iload_n 3, 1) := by decide +kernel
theorem dX11_sum_18 : decode cX11_sum 18 = .ok (.iaload, 1) := by decide +kernel
theorem dX11_sum_19 : decode cX11_sum 19 = .ok (.iadd, 1) := by decide +kernel
theorem dX11_sum_20 : decode cX11_sum 20 = .ok (.istore_n 2, 1) := by decide +kernel
theorem dX11_sum_21 : decode cX11_sum 21 = .ok (.iinc 3 1, 3) := by decide +kernel
theorem dX11_sum_24 : decode cX11_sum 24 = .ok (.goto (-20), 3) := by decide +kernel
theorem dX11_sum_27 : decode cX11_sum 27 = .ok (.iload_n 2, 1) := by decide +kernel
theorem dX11_sum_28 : decode cX11_sum 28 = .ok (.ireturn, 1) := by decide +kernel
theorem dX11_foretell_0 : decode cX11_foretell 0 = .ok (.aload_n 0, 1) := by decide +kernel
theorem dX11_foretell_1 : decode cX11_foretell 1 = .ok (.getfield 49, 3) := by decide +kernel
theorem dX11_foretell_4 : decode cX11_foretell 4 = .ok (.aload_n 0, 1) := by decide +kernel
theorem dX11_foretell_5 : decode cX11_foretell 5 = .ok (.getfield 28, 3) := by decide +kernel
theorem dX11_foretell_8 : decode cX11_foretell 8 = .ok (.invokevirtual 160, 3) := by decide +kernel
theorem dX11_foretell_11 : decode cX11_foretell 11 = .ok (.iconst 0, 1) := by decide +kernel
theorem dX11_foretell_12 : decode cX11_foretell 12 = .ok (.istore_n 2, 1) := by decide +kernel
theorem dX11_foretell_13 : decode cX11_foretell 13 = .ok (.iload_n 2, 1) := by decide +kernel
theorem dX11_foretell_14 : decode cX11_foretell 14 = .ok (.iload_n 1, 1) := by decide +kernel
theorem dX11_foretell_15 : decode cX11_foretell 15 = .ok (.if_icmp .ge 27, 3) := by decide +kernel
theorem dX11_foretell_18 : decode cX11_foretell 18 = .ok (.aload_n 0, 1) := by decide +kernel
theorem dX11_foretell_19 : decode cX11_foretell 19 = .ok (.getfield 10, 3) := by decide +kernel
theorem dX11_foretell_22 : decode cX11_foretell 22 = .ok (.aload_n 0, 1) := by decide +kernel
theorem dX11_foretell_23 : decode cX11_foretell 23 = .ok (.getfield 49, 3) := by decide +kernel
theorem dX11_foretell_26 : decode cX11_foretell 26 = .ok (.aload_n 0, 1) := by decide +kernel
theorem dX11_foretell_27 : decode cX11_foretell 27 = .ok (.getfield 49, 3) := by decide +kernel
theorem dX11_foretell_30 : decode cX11_foretell 30 = .ok (.getfield 117, 3) := by decide +kernel
theorem dX11_foretell_33 : decode cX11_foretell 33 = .ok (.invokevirtual 186, 3) := by decide +kernel
theorem dX11_foretell_36 : decode cX11_foretell 36 = .ok (.iinc 2 1, 3) := by decide +kernel
theorem dX11_foretell_39 : decode cX11_foretell 39 = .ok (.goto (-26), 3) := by decide +kernel
theorem dX11_foretell_42 : decode cX11_foretell 42 = .ok (.return_, 1) := by decide +kernel
theorem dX11_weighPartings_0 : decode cX11_weighPartings 0 = .ok (.iconst 1, 1) := by decide +kernel
theorem dX11_weighPartings_1 : decode cX11_weighPartings 1 = .ok (.aload_n 0, 1) := by decide +kernel
theorem dX11_weighPartings_2 : decode cX11_weighPartings 2 = .ok (.getfield 28, 3) := by decide +kernel
theorem dX11_weighPartings_5 : decode cX11_weighPartings 5 = .ok (.getfield 86, 3) := by decide +kernel
theorem dX11_weighPartings_8 : decode cX11_weighPartings 8 = .ok (.ishl, 1) := by decide +kernel
theorem dX11_weighPartings_9 : decode cX11_weighPartings 9 = .ok (.istore_n 1, 1) := by decide +kernel
theorem dX11_weighPartings_10 : decode cX11_weighPartings 10 = .ok (.aload_n 0, 1) := by decide +kernel
theorem dX11_weighPartings_11 : decode cX11_weighPartings 11 = .ok (.getfield 67, 3) := by decide +kernel
theorem dX11_weighPartings_14 : decode cX11_weighPartings 14 = .ok (.aload_n 0, 1) := by decide +kernel
theorem dX11_weighPartings_15 : decode cX11_weighPartings 15 = .ok (.getfield 28, 3) := by decide +kernel
theorem dX11_weighPartings_18 : decode cX11_weighPartings 18 = .ok (.getfield 75, 3) := by decide +kernel
theorem dX11_weighPartings_21 : decode cX11_weighPartings 21 = .ok (.aaload, 1) := by decide +kernel
theorem dX11_weighPartings_22 : decode cX11_weighPartings 22 = .ok (.iconst 0, 1) := by decide +kernel
theorem dX11_weighPartings_23 : decode cX11_weighPartings 23 = .ok (.invokestatic 266, 3) := by decide +kernel
theorem dX11_weighPartings_26 : decode cX11_weighPartings 26 = .ok (.aload_n 0, 1) := by decide +kernel
theorem dX11_weighPartings_27 : decode cX11_weighPartings 27 = .ok (.getfield 28, 3) := by decide +kernel
theorem dX11_weighPartings_30 : decode cX11_weighPartings 30 = .ok (.getfield 75, 3) := by decide +kernel
theorem dX11_weighPartings_33 : decode cX11_weighPartings 33 = .ok (.iconst 1, 1) := by decide +kernel
theorem dX11_weighPartings_34 : decode cX11_weighPartings 34 = .ok (.isub, 1) := by decide +kernel
theorem dX11_weighPartings_35 : decode cX11_weighPartings 35 = .ok (.istore_n 2, 1) := by decide +kernel
theorem dX11_weighPartings_36 : decode cX11_weighPartings 36 = .ok (.iload_n 2, 1) := by decide +kernel
theorem dX11_weighPartings_37 : decode cX11_weighPartings 37 = .ok (.ifCond .lt 125, 3) := by decide +kernel
theorem dX11_weighPartings_40 : decode cX11_weighPartings 40 = .ok (.aload_n 0, 1) := by decide +kernel
theorem dX11_weighPartings_41 : decode cX11_weighPartings 41 = .ok (.getfield 67, 3) := by decide +kernel
theorem dX11_weighPartings_44 : decode cX11_weighPartings 44 = .ok (.iload_n 2, 1) := by decide +kernel
theorem dX11_weighPartings_45 : decode cX11_weighPartings 45 = .ok (.iconst 1, 1) := by decide +kernel
theorem dX11_weighPartings_46 : decode cX11_weighPartings 46 = .ok (.iadd, 1) := by decide +kernel
theorem dX11_weighPartings_47 : decode cX11_weighPartings 47 = .ok (.aaload, 1) := by decide +kernel
theorem dX11_weighPartings_48 : decode cX11_weighPartings 48 = .ok (.astore_n 3, 1) := by decide +kernel
theorem dX11_weighPartings_49 : decode cX11_weighPartings 49 = .ok (.aload_n 0, 1) := by decide +kernel
theorem dX11_weighPartings_50 : decode cX11_weighPartings 50 = .ok (.getfield 67, 3) := by decide +kernel
theorem dX11_weighPartings_53 : decode cX11_weighPartings 53 = .ok (.iload_n 2, 1) := by decide +kernel
theorem dX11_weighPartings_54 : decode cX11_weighPartings 54 = .ok (.aaload, 1) := by decide +kernel
theorem dX11_weighPartings_55 : decode cX11_weighPartings 55 = .ok (.astore 4, 2) := by decide +kernel
theorem dX11_weighPartings_57 : decode cX11_weighPartings 57 = .ok (.aload_n 3, 1) := by decide +kernel
theorem dX11_weighPartings_58 : decode cX11_weighPartings 58 = .ok (.iconst 0, 1) := by decide +kernel
theorem dX11_weighPartings_59 : decode cX11_weighPartings 59 = .ok (.aload 4, 2) := by decide +kernel
theorem dX11_weighPartings_61 : decode cX11_weighPartings 61 = .ok (.iconst 0, 1) := by decide +kernel
theorem dX11_weighPartings_62 : decode cX11_weighPartings 62 = .ok (.iload_n 1, 1) := by decide +kernel
theorem dX11_weighPartings_63 : decode cX11_weighPartings 63 = .ok (.invokestatic 260, 3) := by decide +kernel
theorem dX11_weighPartings_66 : decode cX11_weighPartings 66 = .ok (.iconst 0, 1) := by decide +kernel
theorem dX11_weighPartings_67 : decode cX11_weighPartings 67 = .ok (.istore 5, 2) := by decide +kernel
theorem dX11_weighPartings_69 : decode cX11_weighPartings 69 = .ok (.iload 5, 2) := by decide +kernel
theorem dX11_weighPartings_71 : decode cX11_weighPartings 71 = .ok (.aload_n 0, 1) := by decide +kernel
theorem dX11_weighPartings_72 : decode cX11_weighPartings 72 = .ok (.getfield 28, 3) := by decide +kernel
theorem dX11_weighPartings_75 : decode cX11_weighPartings 75 = .ok (.getfield 86, 3) := by decide +kernel
theorem dX11_weighPartings_78 : decode cX11_weighPartings 78 = .ok (.if_icmp .ge 78, 3) := by decide +kernel
theorem dX11_weighPartings_81 : decode cX11_weighPartings 81 = .ok (.aload_n 0, 1) := by decide +kernel
theorem dX11_weighPartings_82 : decode cX11_weighPartings 82 = .ok (.getfield 10, 3) := by decide +kernel
theorem dX11_weighPartings_85 : decode cX11_weighPartings 85 = .ok (.aload_n 0, 1) := by decide +kernel
theorem dX11_weighPartings_86 : decode cX11_weighPartings 86 = .ok (.getfield 28, 3) := by decide +kernel
theorem dX11_weighPartings_89 : decode cX11_weighPartings 89 = .ok (.iload_n 2, 1) := by decide +kernel
theorem dX11_weighPartings_90 : decode cX11_weighPartings 90 = .ok (.iload 5, 2) := by decide +kernel
theorem dX11_weighPartings_92 : decode cX11_weighPartings 92 = .ok (.invokevirtual 140, 3) := by decide +kernel
theorem dX11_weighPartings_95 : decode cX11_weighPartings 95 = .ok (.bipush 100, 2) := by decide +kernel
theorem dX11_weighPartings_97 : decode cX11_weighPartings 97 = .ok (.iadd, 1) := by decide +kernel
theorem dX11_weighPartings_98 : decode cX11_weighPartings 98 = .ok (.istore 6, 2) := by decide +kernel
theorem dX11_weighPartings_100 : decode cX11_weighPartings 100 = .ok (.iconst 0, 1) := by decide +kernel
theorem dX11_weighPartings_101 : decode cX11_weighPartings 101 = .ok (.istore 7, 2) := by decide +kernel
theorem dX11_weighPartings_103 : decode cX11_weighPartings 103 = .ok (.iload 7, 2) := by decide +kernel
theorem dX11_weighPartings_105 : decode cX11_weighPartings 105 = .ok (.iload_n 1, 1) := by decide +kernel
theorem dX11_weighPartings_106 : decode cX11_weighPartings 106 = .ok (.if_icmp .ge 44, 3) := by decide +kernel
theorem dX11_weighPartings_109 : decode cX11_weighPartings 109 = .ok (.iload 7, 2) := by decide +kernel
theorem dX11_weighPartings_111 : decode cX11_weighPartings 111 = .ok (.iload 5, 2) := by decide +kernel
theorem dX11_weighPartings_113 : decode cX11_weighPartings 113 = .ok (.ishr, 1) := by decide +kernel
theorem dX11_weighPartings_114 : decode cX11_weighPartings 114 = .ok (.iconst 1, 1) := by decide +kernel
theorem dX11_weighPartings_115 : decode cX11_weighPartings 115 = .ok (.iand, 1) := by decide +kernel
theorem dX11_weighPartings_116 : decode cX11_weighPartings 116 = .ok (.ifCond .ne 28, 3) := by decide +kernel
theorem dX11_weighPartings_119 : decode cX11_weighPartings 119 = .ok (.aload 4, 2) := by decide +kernel
theorem dX11_weighPartings_121 : decode cX11_weighPartings 121 = .ok (.iload 7, 2) := by decide +kernel
theorem dX11_weighPartings_123 : decode cX11_weighPartings 123 = .ok (.aload 4, 2) := by decide +kernel
theorem dX11_weighPartings_125 : decode cX11_weighPartings 125 = .ok (.iload 7, 2) := by decide +kernel
theorem dX11_weighPartings_127 : decode cX11_weighPartings 127 = .ok (.iaload, 1) := by decide +kernel
theorem dX11_weighPartings_128 : decode cX11_weighPartings 128 = .ok (.iload 6, 2) := by decide +kernel
theorem dX11_weighPartings_130 : decode cX11_weighPartings 130 = .ok (.aload_n 3, 1) := by decide +kernel
theorem dX11_weighPartings_131 : decode cX11_weighPartings 131 = .ok (.iload 7, 2) := by decide +kernel
theorem dX11_weighPartings_133 : decode cX11_weighPartings 133 = .ok (.iconst 1, 1) := by decide +kernel
theorem dX11_weighPartings_134 : decode cX11_weighPartings 134 = .ok (.iload 5, 2) := by decide +kernel
theorem dX11_weighPartings_136 : decode cX11_weighPartings 136 = .ok (.ishl, 1) := by decide +kernel
theorem dX11_weighPartings_137 : decode cX11_weighPartings 137 = .ok (.ior, 1) := by decide +kernel
theorem dX11_weighPartings_138 : decode cX11_weighPartings 138 = .ok (.iaload, 1) := by decide +kernel
theorem dX11_weighPartings_139 : decode cX11_weighPartings 139 = .ok (.iadd, 1) := by decide +kernel
theorem dX11_weighPartings_140 : decode cX11_weighPartings 140 = .ok (.invokestatic 272, 3) := by decide +kernel
theorem dX11_weighPartings_143 : decode cX11_weighPartings 143 = .ok (.iastore, 1) := by decide +kernel
theorem dX11_weighPartings_144 : decode cX11_weighPartings 144 = .ok (.iinc 7 1, 3) := by decide +kernel
theorem dX11_weighPartings_147 : decode cX11_weighPartings 147 = .ok (.goto (-44), 3) := by decide +kernel
theorem dX11_weighPartings_150 : decode cX11_weighPartings 150 = .ok (.iinc 5 1, 3) := by decide +kernel
theorem dX11_weighPartings_153 : decode cX11_weighPartings 153 = .ok (.goto (-84), 3) := by decide +kernel
theorem dX11_weighPartings_156 : decode cX11_weighPartings 156 = .ok (.iinc 2 (-1), 3) := by decide +kernel
theorem dX11_weighPartings_159 : decode cX11_weighPartings 159 = .ok (.goto (-123), 3) := by decide +kernel
theorem dX11_weighPartings_162 : decode cX11_weighPartings 162 = .ok (.return_, 1) := by decide +kernel
theorem dX11_firstBest_0 : decode cX11_firstBest 0 = .ok (.iconst 0, 1) := by decide +kernel
theorem dX11_firstBest_1 : decode cX11_firstBest 1 = .ok (.istore_n 3, 1) := by decide +kernel
theorem dX11_firstBest_2 : decode cX11_firstBest 2 = .ok (.iload_n 3, 1) := by decide +kernel
theorem dX11_firstBest_3 : decode cX11_firstBest 3 = .ok (.aload_n 0, 1) := by decide +kernel
theorem dX11_firstBest_4 : decode cX11_firstBest 4 = .ok (.getfield 28, 3) := by decide +kernel
theorem dX11_firstBest_7 : decode cX11_firstBest 7 = .ok (.getfield 86, 3) := by decide +kernel
theorem dX11_firstBest_10 : decode cX11_firstBest 10 = .ok (.if_icmp .ge 65, 3) := by decide +kernel
theorem dX11_firstBest_13 : decode cX11_firstBest 13 = .ok (.iload_n 2, 1) := by decide +kernel
theorem dX11_firstBest_14 : decode cX11_firstBest 14 = .ok (.iload_n 3, 1) := by decide +kernel
theorem dX11_firstBest_15 : decode cX11_firstBest 15 = .ok (.ishr, 1) := by decide +kernel
theorem dX11_firstBest_16 : decode cX11_firstBest 16 = .ok (.iconst 1, 1) := by decide +kernel
theorem dX11_firstBest_17 : decode cX11_firstBest 17 = .ok (.iand, 1) := by decide +kernel
theorem dX11_firstBest_18 : decode cX11_firstBest 18 = .ok (.ifCond .ne 51, 3) := by decide +kernel
theorem dX11_firstBest_21 : decode cX11_firstBest 21 = .ok (.aload_n 0, 1) := by decide +kernel
theorem dX11_firstBest_22 : decode cX11_firstBest 22 = .ok (.getfield 10, 3) := by decide +kernel
theorem dX11_firstBest_25 : decode cX11_firstBest 25 = .ok (.aload_n 0, 1) := by decide +kernel
theorem dX11_firstBest_26 : decode cX11_firstBest 26 = .ok (.getfield 28, 3) := by decide +kernel
theorem dX11_firstBest_29 : decode cX11_firstBest 29 = .ok (.iload_n 1, 1) := by decide +kernel
theorem dX11_firstBest_30 : decode cX11_firstBest 30 = .ok (.iload_n 3, 1) := by decide +kernel
theorem dX11_firstBest_31 : decode cX11_firstBest 31 = .ok (.invokevirtual 140, 3) := by decide +kernel
theorem dX11_firstBest_34 : decode cX11_firstBest 34 = .ok (.bipush 100, 2) := by decide +kernel
theorem dX11_firstBest_36 : decode cX11_firstBest 36 = .ok (.iadd, 1) := by decide +kernel
theorem dX11_firstBest_37 : decode cX11_firstBest 37 = .ok (.istore 4, 2) := by decide +kernel
theorem dX11_firstBest_39 : decode cX11_firstBest 39 = .ok (.iload 4, 2) := by decide +kernel
theorem dX11_firstBest_41 : decode cX11_firstBest 41 = .ok (.aload_n 0, 1) := by decide +kernel
theorem dX11_firstBest_42 : decode cX11_firstBest 42 = .ok (.getfield 67, 3) := by decide +kernel
theorem dX11_firstBest_45 : decode cX11_firstBest 45 = .ok (.iload_n 1, 1) := by decide +kernel
theorem dX11_firstBest_46 : decode cX11_firstBest 46 = .ok (.iconst 1, 1) := by decide +kernel
theorem dX11_firstBest_47 : decode cX11_firstBest 47 = .ok (.iadd, 1) := by decide +kernel
theorem dX11_firstBest_48 : decode cX11_firstBest 48 = .ok (.aaload, 1) := by decide +kernel
theorem dX11_firstBest_49 : decode cX11_firstBest 49 = .ok (.iload_n 2, 1) := by decide +kernel
theorem dX11_firstBest_50 : decode cX11_firstBest 50 = .ok (.iconst 1, 1) := by decide +kernel
theorem dX11_firstBest_51 : decode cX11_firstBest 51 = .ok (.iload_n 3, 1) := by decide +kernel
theorem dX11_firstBest_52 : decode cX11_firstBest 52 = .ok (.ishl, 1) := by decide +kernel
theorem dX11_firstBest_53 : decode cX11_firstBest 53 = .ok (.ior, 1) := by decide +kernel
theorem dX11_firstBest_54 : decode cX11_firstBest 54 = .ok (.iaload, 1) := by decide +kernel
theorem dX11_firstBest_55 : decode cX11_firstBest 55 = .ok (.iadd, 1) := by decide +kernel
theorem dX11_firstBest_56 : decode cX11_firstBest 56 = .ok (.aload_n 0, 1) := by decide +kernel
theorem dX11_firstBest_57 : decode cX11_firstBest 57 = .ok (.getfield 67, 3) := by decide +kernel
theorem dX11_firstBest_60 : decode cX11_firstBest 60 = .ok (.iload_n 1, 1) := by decide +kernel
theorem dX11_firstBest_61 : decode cX11_firstBest 61 = .ok (.aaload, 1) := by decide +kernel
theorem dX11_firstBest_62 : decode cX11_firstBest 62 = .ok (.iload_n 2, 1) := by decide +kernel
theorem dX11_firstBest_63 : decode cX11_firstBest 63 = .ok (.iaload, 1) := by decide +kernel
theorem dX11_firstBest_64 : decode cX11_firstBest 64 = .ok (.if_icmp .ne 5, 3) := by decide +kernel
theorem dX11_firstBest_67 : decode cX11_firstBest 67 = .ok (.iload_n 3, 1) := by decide +kernel
theorem dX11_firstBest_68 : decode cX11_firstBest 68 = .ok (.ireturn, 1) := by decide +kernel
theorem dX11_firstBest_69 : decode cX11_firstBest 69 = .ok (.iinc 3 1, 3) := by decide +kernel
theorem dX11_firstBest_72 : decode cX11_firstBest 72 = .ok (.goto (-70), 3) := by decide +kernel
theorem dX11_firstBest_75 : decode cX11_firstBest 75 = .ok (.iconst (-1), 1) := by decide +kernel
theorem dX11_firstBest_76 : decode cX11_firstBest 76 = .ok (.ireturn, 1) := by decide +kernel
theorem dX11_wouldChange_0 : decode cX11_wouldChange 0 = .ok (.aload_n 0, 1) := by decide +kernel
theorem dX11_wouldChange_1 : decode cX11_wouldChange 1 = .ok (.getfield 28, 3) := by decide +kernel
theorem dX11_wouldChange_4 : decode cX11_wouldChange 4 = .ok (.getfield 110, 3) := by decide +kernel
theorem dX11_wouldChange_7 : decode cX11_wouldChange 7 = .ok (.iload_n 1, 1) := by decide +kernel
theorem dX11_wouldChange_8 : decode cX11_wouldChange 8 = .ok (.iaload, 1) := by decide +kernel
theorem dX11_wouldChange_9 : decode cX11_wouldChange 9 = .ok (.istore_n 3, 1) := by decide +kernel
theorem dX11_wouldChange_10 : decode cX11_wouldChange 10 = .ok (.aload_n 0, 1) := by decide +kernel
theorem dX11_wouldChange_11 : decode cX11_wouldChange 11 = .ok (.getfield 28, 3) := by decide +kernel
theorem dX11_wouldChange_14 : decode cX11_wouldChange 14 = .ok (.getfield 110, 3) := by decide +kernel
theorem dX11_wouldChange_17 : decode cX11_wouldChange 17 = .ok (.iload_n 2, 1) := by decide +kernel
theorem dX11_wouldChange_18 : decode cX11_wouldChange 18 = .ok (.iaload, 1) := by decide +kernel
theorem dX11_wouldChange_19 : decode cX11_wouldChange 19 = .ok (.istore 4, 2) := by decide +kernel
theorem dX11_wouldChange_21 : decode cX11_wouldChange 21 = .ok (.iload_n 3, 1) := by decide +kernel
theorem dX11_wouldChange_22 : decode cX11_wouldChange 22 = .ok (.iconst (-1), 1) := by decide +kernel
theorem dX11_wouldChange_23 : decode cX11_wouldChange 23 = .ok (.if_icmp .eq 9, 3) := by decide +kernel
theorem dX11_wouldChange_26 : decode cX11_wouldChange 26 = .ok (.iload 4, 2) := by decide +kernel
theorem dX11_wouldChange_28 : decode cX11_wouldChange 28 = .ok (.iconst (-1), 1) := by decide +kernel
theorem dX11_wouldChange_29 : decode cX11_wouldChange 29 = .ok (.if_icmp .ne 5, 3) := by decide +kernel
theorem dX11_wouldChange_32 : decode cX11_wouldChange 32 = .ok (.iconst 0, 1) := by decide +kernel
theorem dX11_wouldChange_33 : decode cX11_wouldChange 33 = .ok (.ireturn, 1) := by decide +kernel
theorem dX11_wouldChange_34 : decode cX11_wouldChange 34 = .ok (.aload_n 0, 1) := by decide +kernel
theorem dX11_wouldChange_35 : decode cX11_wouldChange 35 = .ok (.getfield 10, 3) := by decide +kernel
theorem dX11_wouldChange_38 : decode cX11_wouldChange 38 = .ok (.aload_n 0, 1) := by decide +kernel
theorem dX11_wouldChange_39 : decode cX11_wouldChange 39 = .ok (.getfield 28, 3) := by decide +kernel
theorem dX11_wouldChange_42 : decode cX11_wouldChange 42 = .ok (.iload_n 1, 1) := by decide +kernel
theorem dX11_wouldChange_43 : decode cX11_wouldChange 43 = .ok (.iload 4, 2) := by decide +kernel
theorem dX11_wouldChange_45 : decode cX11_wouldChange 45 = .ok (.invokevirtual 140, 3) := by decide +kernel
theorem dX11_wouldChange_48 : decode cX11_wouldChange 48 = .ok (.aload_n 0, 1) := by decide +kernel
theorem dX11_wouldChange_49 : decode cX11_wouldChange 49 = .ok (.getfield 10, 3) := by decide +kernel
theorem dX11_wouldChange_52 : decode cX11_wouldChange 52 = .ok (.aload_n 0, 1) := by decide +kernel
theorem dX11_wouldChange_53 : decode cX11_wouldChange 53 = .ok (.getfield 28, 3) := by decide +kernel
theorem dX11_wouldChange_56 : decode cX11_wouldChange 56 = .ok (.iload_n 1, 1) := by decide +kernel
theorem dX11_wouldChange_57 : decode cX11_wouldChange 57 = .ok (.iload_n 3, 1) := by decide +kernel
theorem dX11_wouldChange_58 : decode cX11_wouldChange 58 = .ok (.invokevirtual 140, 3) := by decide +kernel
theorem dX11_wouldChange_61 : decode cX11_wouldChange 61 = .ok (.if_icmp .le 7, 3) := by decide +kernel
theorem dX11_wouldChange_64 : decode cX11_wouldChange 64 = .ok (.iconst 1, 1) := by decide +kernel
theorem dX11_wouldChange_65 : decode cX11_wouldChange 65 = .ok (.goto 4, 3) := by decide +kernel
theorem dX11_wouldChange_68 : decode cX11_wouldChange 68 = .ok (.iconst 0, 1) := by decide +kernel
theorem dX11_wouldChange_69 : decode cX11_wouldChange 69 = .ok (.ireturn, 1) := by decide +kernel
theorem dX11_wrongWith_0 : decode cX11_wrongWith 0 = .ok (.iload_n 1, 1) := by decide +kernel
theorem dX11_wrongWith_1 : decode cX11_wrongWith 1 = .ok (.iconst 0, 1) := by decide +kernel
theorem dX11_wrongWith_2 : decode cX11_wrongWith 2 = .ok (.iconst 3, 1) := by decide +kernel
theorem dX11_wrongWith_3 : decode cX11_wrongWith 3 = .ok (.invokestatic 71, 3) := by decide +kernel
theorem dX11_wrongWith_6 : decode cX11_wrongWith 6 = .ok (.ifCond .ne 12, 3) := by decide +kernel
theorem dX11_wrongWith_9 : decode cX11_wrongWith 9 = .ok (.iload_n 2, 1) := by decide +kernel
theorem dX11_wrongWith_10 : decode cX11_wrongWith 10 = .ok (.iconst 0, 1) := by decide +kernel
theorem dX11_wrongWith_11 : decode cX11_wrongWith 11 = .ok (.iconst 3, 1) := by decide +kernel
theorem dX11_wrongWith_12 : decode cX11_wrongWith 12 = .ok (.invokestatic 71, 3) := by decide +kernel
theorem dX11_wrongWith_15 : decode cX11_wrongWith 15 = .ok (.ifCond .eq 5, 3) := by decide +kernel
theorem dX11_wrongWith_18 : decode cX11_wrongWith 18 = .ok (.iconst (-1), 1) := by decide +kernel
theorem dX11_wrongWith_19 : decode cX11_wrongWith 19 = .ok (.ireturn, 1) := by decide +kernel
theorem dX11_wrongWith_20 : decode cX11_wrongWith 20 = .ok (.aload_n 0, 1) := by decide +kernel
theorem dX11_wrongWith_21 : decode cX11_wrongWith 21 = .ok (.getfield 61, 3) := by decide +kernel
theorem dX11_wrongWith_24 : decode cX11_wrongWith 24 = .ok (.iload_n 1, 1) := by decide +kernel
theorem dX11_wrongWith_25 : decode cX11_wrongWith 25 = .ok (.aaload, 1) := by decide +kernel
theorem dX11_wrongWith_26 : decode cX11_wrongWith 26 = .ok (.getfield 250, 3) := by decide +kernel
theorem dX11_wrongWith_29 : decode cX11_wrongWith 29 = .ok (.ifCond .eq 6, 3) := by decide +kernel
theorem dX11_wrongWith_32 : decode cX11_wrongWith 32 = .ok (.bipush (-11), 2) := by decide +kernel
theorem dX11_wrongWith_34 : decode cX11_wrongWith 34 = .ok (.ireturn, 1) := by decide +kernel
theorem dX11_wrongWith_35 : decode cX11_wrongWith 35 = .ok (.aload_n 0, 1) := by decide +kernel
theorem dX11_wrongWith_36 : decode cX11_wrongWith 36 = .ok (.getfield 61, 3) := by decide +kernel
theorem dX11_wrongWith_39 : decode cX11_wrongWith 39 = .ok (.iload_n 1, 1) := by decide +kernel
theorem dX11_wrongWith_40 : decode cX11_wrongWith 40 = .ok (.aaload, 1) := by decide +kernel
theorem dX11_wrongWith_41 : decode cX11_wrongWith 41 = .ok (.getfield 254, 3) := by decide +kernel
theorem dX11_wrongWith_44 : decode cX11_wrongWith 44 = .ok (.iload_n 2, 1) := by decide +kernel
theorem dX11_wrongWith_45 : decode cX11_wrongWith 45 = .ok (.if_icmp .eq 6, 3) := by decide +kernel
theorem dX11_wrongWith_48 : decode cX11_wrongWith 48 = .ok (.bipush (-12), 2) := by decide +kernel
theorem dX11_wrongWith_50 : decode cX11_wrongWith 50 = .ok (.ireturn, 1) := by decide +kernel
theorem dX11_wrongWith_51 : decode cX11_wrongWith 51 = .ok (.aload_n 0, 1) := by decide +kernel
theorem dX11_wrongWith_52 : decode cX11_wrongWith 52 = .ok (.getfield 61, 3) := by decide +kernel
theorem dX11_wrongWith_55 : decode cX11_wrongWith 55 = .ok (.iload_n 1, 1) := by decide +kernel
theorem dX11_wrongWith_56 : decode cX11_wrongWith 56 = .ok (.aaload, 1) := by decide +kernel
theorem dX11_wrongWith_57 : decode cX11_wrongWith 57 = .ok (.iload_n 3, 1) := by decide +kernel
theorem dX11_wrongWith_58 : decode cX11_wrongWith 58 = .ok (.iload 4, 2) := by decide +kernel
theorem dX11_wrongWith_60 : decode cX11_wrongWith 60 = .ok (.invokevirtual 257, 3) := by decide +kernel
theorem dX11_wrongWith_63 : decode cX11_wrongWith 63 = .ok (.ifCond .eq 7, 3) := by decide +kernel
theorem dX11_wrongWith_66 : decode cX11_wrongWith 66 = .ok (.iconst 0, 1) := by decide +kernel
theorem dX11_wrongWith_67 : decode cX11_wrongWith 67 = .ok (.goto 5, 3) := by decide +kernel
theorem dX11_wrongWith_70 : decode cX11_wrongWith 70 = .ok (.bipush (-13), 2) := by decide +kernel
theorem dX11_wrongWith_72 : decode cX11_wrongWith 72 = .ok (.ireturn, 1) := by decide +kernel
theorem dX11_isCalledSo_0 : decode cX11_isCalledSo 0 = .ok (.aload_n 0, 1) := by decide +kernel
theorem dX11_isCalledSo_1 : decode cX11_isCalledSo 1 = .ok (.getfield 49, 3) := by decide +kernel
theorem dX11_isCalledSo_4 : decode cX11_isCalledSo 4 = .ok (.aload_n 0, 1) := by decide +kernel
theorem dX11_isCalledSo_5 : decode cX11_isCalledSo 5 = .ok (.getfield 28, 3) := by decide +kernel
theorem dX11_isCalledSo_8 : decode cX11_isCalledSo 8 = .ok (.invokevirtual 160, 3) := by decide +kernel
theorem dX11_isCalledSo_11 : decode cX11_isCalledSo 11 = .ok (.aload_n 0, 1) := by decide +kernel
theorem dX11_isCalledSo_12 : decode cX11_isCalledSo 12 = .ok (.getfield 49, 3) := by decide +kernel
theorem dX11_isCalledSo_15 : decode cX11_isCalledSo 15 = .ok (.getfield 97, 3) := by decide +kernel
theorem dX11_isCalledSo_18 : decode cX11_isCalledSo 18 = .ok (.iload_n 1, 1) := by decide +kernel
theorem dX11_isCalledSo_19 : decode cX11_isCalledSo 19 = .ok (.iload_n 2, 1) := by decide +kernel
theorem dX11_isCalledSo_20 : decode cX11_isCalledSo 20 = .ok (.iastore, 1) := by decide +kernel
theorem dX11_isCalledSo_21 : decode cX11_isCalledSo 21 = .ok (.iconst 0, 1) := by decide +kernel
theorem dX11_isCalledSo_22 : decode cX11_isCalledSo 22 = .ok (.istore 6, 2) := by decide +kernel
theorem dX11_isCalledSo_24 : decode cX11_isCalledSo 24 = .ok (.iload 6, 2) := by decide +kernel
theorem dX11_isCalledSo_26 : decode cX11_isCalledSo 26 = .ok (.iload 5, 2) := by decide +kernel
theorem dX11_isCalledSo_28 : decode cX11_isCalledSo 28 = .ok (.if_icmp .ge 50, 3) := by decide +kernel
theorem dX11_isCalledSo_31 : decode cX11_isCalledSo 31 = .ok (.aload_n 0, 1) := by decide +kernel
theorem dX11_isCalledSo_32 : decode cX11_isCalledSo 32 = .ok (.getfield 10, 3) := by decide +kernel
theorem dX11_isCalledSo_35 : decode cX11_isCalledSo 35 = .ok (.aload_n 0, 1) := by decide +kernel
theorem dX11_isCalledSo_36 : decode cX11_isCalledSo 36 = .ok (.getfield 49, 3) := by decide +kernel
theorem dX11_isCalledSo_39 : decode cX11_isCalledSo 39 = .ok (.aload_n 0, 1) := by decide +kernel
theorem dX11_isCalledSo_40 : decode cX11_isCalledSo 40 = .ok (.getfield 49, 3) := by decide +kernel
theorem dX11_isCalledSo_43 : decode cX11_isCalledSo 43 = .ok (.getfield 117, 3) := by decide +kernel
theorem dX11_isCalledSo_46 : decode cX11_isCalledSo 46 = .ok (.invokevirtual 186, 3) := by decide +kernel
theorem dX11_isCalledSo_49 : decode cX11_isCalledSo 49 = .ok (.aload_n 0, 1) := by decide +kernel
theorem dX11_isCalledSo_50 : decode cX11_isCalledSo 50 = .ok (.getfield 49, 3) := by decide +kernel
theorem dX11_isCalledSo_53 : decode cX11_isCalledSo 53 = .ok (.getfield 110, 3) := by decide +kernel
theorem dX11_isCalledSo_56 : decode cX11_isCalledSo 56 = .ok (.iload_n 1, 1) := by decide +kernel
theorem dX11_isCalledSo_57 : decode cX11_isCalledSo 57 = .ok (.iaload, 1) := by decide +kernel
theorem dX11_isCalledSo_58 : decode cX11_isCalledSo 58 = .ok (.i2l, 1) := by decide +kernel
theorem dX11_isCalledSo_59 : decode cX11_isCalledSo 59 = .ok (.aload_n 3, 1) := by decide +kernel
theorem dX11_isCalledSo_60 : decode cX11_isCalledSo 60 = .ok (.iload 4, 2) := by decide +kernel
theorem dX11_isCalledSo_62 : decode cX11_isCalledSo 62 = .ok (.iload 6, 2) := by decide +kernel
theorem dX11_isCalledSo_64 : decode cX11_isCalledSo 64 = .ok (.iadd, 1) := by decide +kernel
theorem dX11_isCalledSo_65 : decode cX11_isCalledSo 65 = .ok (.laload, 1) := by decide +kernel
theorem dX11_isCalledSo_66 : decode cX11_isCalledSo 66 = .ok (.lcmp, 1) := by decide +kernel
theorem dX11_isCalledSo_67 : decode cX11_isCalledSo 67 = .ok (.ifCond .eq 5, 3) := by decide +kernel
theorem dX11_isCalledSo_70 : decode cX11_isCalledSo 70 = .ok (.iconst 0, 1) := by decide +kernel
theorem dX11_isCalledSo_71 : decode cX11_isCalledSo 71 = .ok (.ireturn, 1) := by decide +kernel
theorem dX11_isCalledSo_72 : decode cX11_isCalledSo 72 = .ok (.iinc 6 1, 3) := by decide +kernel
theorem dX11_isCalledSo_75 : decode cX11_isCalledSo 75 = .ok (.goto (-51), 3) := by decide +kernel
theorem dX11_isCalledSo_78 : decode cX11_isCalledSo 78 = .ok (.iconst 1, 1) := by decide +kernel
theorem dX11_isCalledSo_79 : decode cX11_isCalledSo 79 = .ok (.ireturn, 1) := by decide +kernel
