theorem dX4_init_0 : decode cX4_init 0 = .ok (.aload_n 0, 1) := by decide +kernel
theorem dX4_init_1 : decode cX4_init 1 = .ok (.invokespecial 1, 3) := by decide +kernel
theorem dX4_init_4 : decode cX4_init 4 = .ok (.aload_n 0, 1) := by decide +kernel
theorem dX4_init_5 : decode cX4_init 5 = .ok (.bipush 10, 2) := by decide +kernel
theorem dX4_init_7 : decode cX4_init 7 = .ok (.newarray .int, 2) := by decide +kernel
theorem dX4_init_9 : decode cX4_init 9 = .ok (.putfield 7, 3) := by decide +kernel
theorem dX4_init_12 : decode cX4_init 12 = .ok (.aload_n 0, 1) := by decide +kernel
theorem dX4_init_13 : decode cX4_init 13 = .ok (.bipush 10, 2) := by decide +kernel
theorem dX4_init_15 : decode cX4_init 15 = .ok (.newarray .boolean, 2) := by decide +kernel
theorem dX4_init_17 : decode cX4_init 17 = .ok (.putfield 13, 3) := by decide +kernel
theorem dX4_init_20 : decode cX4_init 20 = .ok (.aload_n 0, 1) := by decide +kernel
theorem dX4_init_21 : decode cX4_init 21 = .ok (.bipush 10, 2) := by decide +kernel
theorem dX4_init_23 : decode cX4_init 23 = .ok (.newarray .int, 2) := by decide +kernel
theorem dX4_init_25 : decode cX4_init 25 = .ok (.putfield 17, 3) := by decide +kernel
theorem dX4_init_28 : decode cX4_init 28 = .ok (.aload_n 0, 1) := by decide +kernel
theorem dX4_init_29 : decode cX4_init 29 = .ok (.bipush 10, 2) := by decide +kernel
theorem dX4_init_31 : decode cX4_init 31 = .ok (.newarray .int, 2) := by decide +kernel
theorem dX4_init_33 : decode cX4_init 33 = .ok (.putfield 20, 3) := by decide +kernel
theorem dX4_init_36 : decode cX4_init 36 = .ok (.aload_n 0, 1) := by decide +kernel
theorem dX4_init_37 : decode cX4_init 37 = .ok (.bipush 16, 2) := by decide +kernel
theorem dX4_init_39 : decode cX4_init 39 = .ok (.newarray .byte, 2) := by decide +kernel
theorem dX4_init_41 : decode cX4_init 41 = .ok (.putfield 23, 3) := by decide +kernel
theorem dX4_init_44 : decode cX4_init 44 = .ok (.aload_n 0, 1) := by decide +kernel
theorem dX4_init_45 : decode cX4_init 45 = .ok (.bipush 40, 2) := by decide +kernel
theorem dX4_init_47 : decode cX4_init 47 = .ok (.newarray .int, 2) := by decide +kernel
theorem dX4_init_49 : decode cX4_init 49 = .ok (.putfield 27, 3) := by decide +kernel
theorem dX4_init_52 : decode cX4_init 52 = .ok (.aload_n 0, 1) := by decide +kernel
theorem dX4_init_53 : decode cX4_init 53 = .ok (.bipush 40, 2) := by decide +kernel
theorem dX4_init_55 : decode cX4_init 55 = .ok (.newarray .int, 2) := by decide +kernel
theorem dX4_init_57 : decode cX4_init 57 = .ok (.putfield 30, 3) := by decide +kernel
theorem dX4_init_60 : decode cX4_init 60 = .ok (.aload_n 0, 1) := by decide +kernel
theorem dX4_init_61 : decode cX4_init 61 = .ok (.sipush 400, 3) := by decide +kernel
theorem dX4_init_64 : decode cX4_init 64 = .ok (.newarray .int, 2) := by decide +kernel
theorem dX4_init_66 : decode cX4_init 66 = .ok (.putfield 33, 3) := by decide +kernel
theorem dX4_init_69 : decode cX4_init 69 = .ok (.aload_n 0, 1) := by decide +kernel
theorem dX4_init_70 : decode cX4_init 70 = .ok (.sipush 6400, 3) := by decide +kernel
theorem dX4_init_73 : decode cX4_init 73 = .ok (.newarray .byte, 2) := by decide +kernel
theorem dX4_init_75 : decode cX4_init 75 = .ok (.putfield 36, 3) := by decide +kernel
theorem dX4_init_78 : decode cX4_init 78 = .ok (.aload_n 0, 1) := by decide +kernel
theorem dX4_init_79 : decode cX4_init 79 = .ok (.bipush 120, 2) := by decide +kernel
theorem dX4_init_81 : decode cX4_init 81 = .ok (.newarray .int, 2) := by decide +kernel
theorem dX4_init_83 : decode cX4_init 83 = .ok (.putfield 39, 3) := by decide +kernel
theorem dX4_init_86 : decode cX4_init 86 = .ok (.aload_n 0, 1) := by decide +kernel
theorem dX4_init_87 : decode cX4_init 87 = .ok (.bipush 120, 2) := by decide +kernel
theorem dX4_init_89 : decode cX4_init 89 = .ok (.newarray .int, 2) := by decide +kernel
theorem dX4_init_91 : decode cX4_init 91 = .ok (.putfield 42, 3) := by decide +kernel
theorem dX4_init_94 : decode cX4_init 94 = .ok (.aload_n 0, 1) := by decide +kernel
theorem dX4_init_95 : decode cX4_init 95 = .ok (.bipush 120, 2) := by decide +kernel
theorem dX4_init_97 : decode cX4_init 97 = .ok (.newarray .int, 2) := by decide +kernel
theorem dX4_init_99 : decode cX4_init 99 = .ok (.putfield 45, 3) := by decide +kernel
theorem dX4_init_102 : decode cX4_init 102 = .ok (.aload_n 0, 1) := by decide +kernel
theorem dX4_init_103 : decode cX4_init 103 = .ok (.bipush 10, 2) := by decide +kernel
theorem dX4_init_105 : decode cX4_init 105 = .ok (.newarray .int, 2) := by decide +kernel
theorem dX4_init_107 : decode cX4_init 107 = .ok (.putfield 48, 3) := by decide +kernel
theorem dX4_init_110 : decode cX4_init 110 = .ok (.aload_n 0, 1) := by decide +kernel
theorem dX4_init_111 : decode cX4_init 111 = .ok (.iload_n 1, 1) := by decide +kernel
theorem dX4_init_112 : decode cX4_init 112 = .ok (.iconst 1, 1) := by decide +kernel
theorem dX4_init_113 : decode cX4_init 113 = .ok (.if_icmp .ge 7, 3) := by decide +kernel
theorem dX4_init_116 : decode cX4_init 116 = .ok (.iconst 1, 1) := by decide +kernel
theorem dX4_init_117 : decode cX4_init 117 = .ok (.goto 13, 3) := by decide +kernel
theorem dX4_init_120 : decode cX4_init 120 = .ok (.iload_n 1, 1) := by decide +kernel
theorem dX4_init_121 : decode cX4_init 121 = .ok (.iconst 5, 1) := by decide +kernel
theorem dX4_init_122 : decode cX4_init 122 = .ok (.if_icmp .le 7, 3) := by decide +kernel
theorem dX4_init_125 : decode cX4_init 125 = .ok (.iconst 5, 1) := by decide +kernel
theorem dX4_init_126 : decode cX4_init 126 = .ok (.goto 4, 3) := by decide +kernel
theorem dX4_init_129 : decode cX4_init 129 = .ok (.iload_n 1, 1) := by decide +kernel
theorem dX4_init_130 : decode cX4_init 130 = .ok (.putfield 51, 3) := by decide +kernel
theorem dX4_init_133 : decode cX4_init 133 = .ok (.iconst 0, 1) := by decide +kernel
theorem dX4_init_134 : decode cX4_init 134 = .ok (.istore_n 2, 1) := by decide +kernel
theorem dX4_init_135 : decode cX4_init 135 = .ok (.iload_n 2, 1) := by decide +kernel
theorem dX4_init_136 : decode cX4_init 136 = .ok (.sipush 400, 3) := by decide +kernel
theorem dX4_init_139 : decode cX4_init 139 = .ok (.if_icmp .ge 16, 3) := by decide +kernel
theorem dX4_init_142 : decode cX4_init 142 = .ok (.aload_n 0, 1) := by decide +kernel
theorem dX4_init_143 : decode cX4_init 143 = .ok (.getfield 33, 3) := by decide +kernel
theorem dX4_init_146 : decode cX4_init 146 = .ok (.iload_n 2, 1) := by decide +kernel
theorem dX4_init_147 : decode cX4_init 147 = .ok (.iconst (-1), 1) := by decide +kernel
theorem dX4_init_148 : decode cX4_init 148 = .ok (.iastore, 1) := by decide +kernel
theorem dX4_init_149 : decode cX4_init 149 = .ok (.iinc 2 1, 3) := by decide +kernel
theorem dX4_init_152 : decode cX4_init 152 = .ok (.goto (-17), 3) := by decide +kernel
theorem dX4_init_155 : decode cX4_init 155 = .ok (.return_, 1) := by decide +kernel
theorem dX4_thrown_0 : decode cX4_thrown 0 = .ok (.aload_n 0, 1) := by decide +kernel
theorem dX4_thrown_1 : decode cX4_thrown 1 = .ok (.getfield 55, 3) := by decide +kernel
theorem dX4_thrown_4 : decode cX4_thrown 4 = .ok (.ireturn, 1) := by decide +kernel
theorem dX4_in_0 : decode cX4_in 0 = .ok (.iload_n 0, 1) := by decide +kernel
theorem dX4_in_1 : decode cX4_in 1 = .ok (.iload_n 1, 1) := by decide +kernel
theorem dX4_in_2 : decode cX4_in 2 = .ok (.if_icmp .lt 12, 3) := by decide +kernel
theorem dX4_in_5 : decode cX4_in 5 = .ok (.iload_n 0, 1) := by decide +kernel
theorem dX4_in_6 : decode cX4_in 6 = .ok (.iload_n 2, 1) := by decide +kernel
theorem dX4_in_7 : decode cX4_in 7 = .ok (.if_icmp .gt 7, 3) := by decide +kernel
theorem dX4_in_10 : decode cX4_in 10 = .ok (.iconst 1, 1) := by decide +kernel
theorem dX4_in_11 : decode cX4_in 11 = .ok (.goto 4, 3) := by decide +kernel
theorem dX4_in_14 : decode cX4_in 14 = .ok (.iconst 0, 1) := by decide +kernel
theorem dX4_in_15 : decode cX4_in 15 = .ok (.ireturn, 1) := by decide +kernel
theorem dX4_isStore_0 : decode cX4_isStore 0 = .ok (.iload_n 1, 1) := by decide +kernel
theorem dX4_isStore_1 : decode cX4_isStore 1 = .ok (.iconst 0, 1) := by decide +kernel
theorem dX4_isStore_2 : decode cX4_isStore 2 = .ok (.aload_n 0, 1) := by decide +kernel
theorem dX4_isStore_3 : decode cX4_isStore 3 = .ok (.getfield 58, 3) := by decide +kernel
theorem dX4_isStore_6 : decode cX4_isStore 6 = .ok (.iconst 1, 1) := by decide +kernel
theorem dX4_isStore_7 : decode cX4_isStore 7 = .ok (.isub, 1) := by decide +kernel
theorem dX4_isStore_8 : decode cX4_isStore 8 = .ok (.invokestatic 61, 3) := by decide +kernel
theorem dX4_isStore_11 : decode cX4_isStore 11 = .ok (.ireturn, 1) := by decide +kernel
theorem dX4_isFile_0 : decode cX4_isFile 0 = .ok (.iload_n 1, 1) := by decide +kernel
theorem dX4_isFile_1 : decode cX4_isFile 1 = .ok (.iconst 0, 1) := by decide +kernel
theorem dX4_isFile_2 : decode cX4_isFile 2 = .ok (.aload_n 0, 1) := by decide +kernel
theorem dX4_isFile_3 : decode cX4_isFile 3 = .ok (.getfield 65, 3) := by decide +kernel
theorem dX4_isFile_6 : decode cX4_isFile 6 = .ok (.iconst 1, 1) := by decide +kernel
theorem dX4_isFile_7 : decode cX4_isFile 7 = .ok (.isub, 1) := by decide +kernel
theorem dX4_isFile_8 : decode cX4_isFile 8 = .ok (.invokestatic 61, 3) := by decide +kernel
theorem dX4_isFile_11 : decode cX4_isFile 11 = .ok (.ireturn, 1) := by decide +kernel
theorem dX4_has_0 : decode cX4_has 0 = .ok (.aload_n 0, 1) := by decide +kernel
theorem dX4_has_1 : decode cX4_has 1 = .ok (.iload_n 1, 1) := by decide +kernel
theorem dX4_has_2 : decode cX4_has 2 = .ok (.invokevirtual 68, 3) := by decide +kernel
theorem dX4_has_5 : decode cX4_has 5 = .ok (.ifCond .eq 29, 3) := by decide +kernel
theorem dX4_has_8 : decode cX4_has 8 = .ok (.aload_n 0, 1) := by decide +kernel
theorem dX4_has_9 : decode cX4_has 9 = .ok (.iload_n 2, 1) := by decide +kernel
theorem dX4_has_10 : decode cX4_has 10 = .ok (.invokevirtual 72, 3) := by decide +kernel
theorem dX4_has_13 : decode cX4_has 13 = .ok (.ifCond .eq 21, 3) := by decide +kernel
theorem dX4_has_16 : decode cX4_has 16 = .ok (.aload_n 0, 1) := by decide +kernel
theorem dX4_has_17 : decode cX4_has 17 = .ok (.getfield 33, 3) := by decide +kernel
theorem dX4_has_20 : decode cX4_has 20 = .ok (.bipush 40, 2) := by decide +kernel
theorem dX4_has_22 : decode cX4_has 22 = .ok (.iload_n 1, 1) := by decide +kernel
theorem dX4_has_23 : decode cX4_has 23 = .ok (.imul, 1) := by decide +kernel
theorem dX4_has_24 : decode cX4_has 24 = .ok (.iload_n 2, 1) := by decide +kernel
theorem dX4_has_25 : decode cX4_has 25 = .ok (.iadd, 1) := by decide +kernel
theorem dX4_has_26 : decode cX4_has 26 = .ok (.iaload, 1) := by decide +kernel
theorem dX4_has_27 : decode cX4_has 27 = .ok (.ifCond .lt 7, 3) := by decide +kernel
theorem dX4_has_30 : decode cX4_has 30 = .ok (.iconst 1, 1) := by decide +kernel
theorem dX4_has_31 : decode cX4_has 31 = .ok (.goto 4, 3) := by decide +kernel
theorem dX4_has_34 : decode cX4_has 34 = .ok (.iconst 0, 1) := by decide +kernel
theorem dX4_has_35 : decode cX4_has 35 = .ok (.ireturn, 1) := by decide +kernel
theorem dX4_counts_0 : decode cX4_counts 0 = .ok (.aload_n 0, 1) := by decide +kernel
theorem dX4_counts_1 : decode cX4_counts 1 = .ok (.iload_n 1, 1) := by decide +kernel
theorem dX4_counts_2 : decode cX4_counts 2 = .ok (.iload_n 2, 1) := by decide +kernel
theorem dX4_counts_3 : decode cX4_counts 3 = .ok (.invokevirtual 75, 3) := by decide +kernel
theorem dX4_counts_6 : decode cX4_counts 6 = .ok (.ifCond .eq 16, 3) := by decide +kernel
theorem dX4_counts_9 : decode cX4_counts 9 = .ok (.aload_n 0, 1) := by decide +kernel
theorem dX4_counts_10 : decode cX4_counts 10 = .ok (.getfield 13, 3) := by decide +kernel
theorem dX4_counts_13 : decode cX4_counts 13 = .ok (.iload_n 1, 1) := by decide +kernel
theorem dX4_counts_14 : decode cX4_counts 14 = .ok (.baload, 1) := by decide +kernel
theorem dX4_counts_15 : decode cX4_counts 15 = .ok (.ifCond .ne 7, 3) := by decide +kernel
theorem dX4_counts_18 : decode cX4_counts 18 = .ok (.iconst 1, 1) := by decide +kernel
theorem dX4_counts_19 : decode cX4_counts 19 = .ok (.goto 4, 3) := by decide +kernel
theorem dX4_counts_22 : decode cX4_counts 22 = .ok (.iconst 0, 1) := by decide +kernel
theorem dX4_counts_23 : decode cX4_counts 23 = .ok (.ireturn, 1) := by decide +kernel
theorem dX4_store_0 : decode cX4_store 0 = .ok (.aload_n 0, 1) := by decide +kernel
theorem dX4_store_1 : decode cX4_store 1 = .ok (.iconst 0, 1) := by decide +kernel
theorem dX4_store_2 : decode cX4_store 2 = .ok (.putfield 55, 3) := by decide +kernel
theorem dX4_store_5 : decode cX4_store 5 = .ok (.iload_n 1, 1) := by decide +kernel
theorem dX4_store_6 : decode cX4_store 6 = .ok (.iconst 0, 1) := by decide +kernel
theorem dX4_store_7 : decode cX4_store 7 = .ok (.bipush 9, 2) := by decide +kernel
theorem dX4_store_9 : decode cX4_store 9 = .ok (.invokestatic 61, 3) := by decide +kernel
theorem dX4_store_12 : decode cX4_store 12 = .ok (.ifCond .ne 6, 3) := by decide +kernel
theorem dX4_store_15 : decode cX4_store 15 = .ok (.bipush (-2), 2) := by decide +kernel
theorem dX4_store_17 : decode cX4_store 17 = .ok (.ireturn, 1) := by decide +kernel
theorem dX4_store_18 : decode cX4_store 18 = .ok (.iconst 0, 1) := by decide +kernel
theorem dX4_store_19 : decode cX4_store 19 = .ok (.istore_n 2, 1) := by decide +kernel
theorem dX4_store_20 : decode cX4_store 20 = .ok (.iload_n 2, 1) := by decide +kernel
theorem dX4_store_21 : decode cX4_store 21 = .ok (.aload_n 0, 1) := by decide +kernel
theorem dX4_store_22 : decode cX4_store 22 = .ok (.getfield 58, 3) := by decide +kernel
theorem dX4_store_25 : decode cX4_store 25 = .ok (.if_icmp .ge 22, 3) := by decide +kernel
theorem dX4_store_28 : decode cX4_store 28 = .ok (.aload_n 0, 1) := by decide +kernel
theorem dX4_store_29 : decode cX4_store 29 = .ok (.getfield 7, 3) := by decide +kernel
theorem dX4_store_32 : decode cX4_store 32 = .ok (.iload_n 2, 1) := by decide +kernel
theorem dX4_store_33 : decode cX4_store 33 = .ok (.iaload, 1) := by decide +kernel
theorem dX4_store_34 : decode cX4_store 34 = .ok (.iload_n 1, 1) := by decide +kernel
theorem dX4_store_35 : decode cX4_store 35 = .ok (.if_icmp .ne 6, 3) := by decide +kernel
theorem dX4_store_38 : decode cX4_store 38 = .ok (.bipush (-3), 2) := by decide +kernel
theorem dX4_store_40 : decode cX4_store 40 = .ok (.ireturn, 1) := by decide +kernel
theorem dX4_store_41 : decode cX4_store 41 = .ok (.iinc 2 1, 3) := by decide +kernel
theorem dX4_store_44 : decode cX4_store 44 = .ok (.goto (-24), 3) := by decide +kernel
theorem dX4_store_47 : decode cX4_store 47 = .ok (.aload_n 0, 1) := by decide +kernel
theorem dX4_store_48 : decode cX4_store 48 = .ok (.getfield 58, 3) := by decide +kernel
theorem dX4_store_51 : decode cX4_store 51 = .ok (.bipush 10, 2) := by decide +kernel
theorem dX4_store_53 : decode cX4_store 53 = .ok (.if_icmp .ne 6, 3) := by decide +kernel
theorem dX4_store_56 : decode cX4_store 56 = .ok (.bipush (-4), 2) := by decide +kernel
theorem dX4_store_58 : decode cX4_store 58 = .ok (.ireturn, 1) := by decide +kernel
theorem dX4_store_59 : decode cX4_store 59 = .ok (.aload_n 0, 1) := by decide +kernel
theorem dX4_store_60 : decode cX4_store 60 = .ok (.getfield 7, 3) := by decide +kernel
theorem dX4_store_63 : decode cX4_store 63 = .ok (.aload_n 0, 1) := by decide +kernel
theorem dX4_store_64 : decode cX4_store 64 = .ok (.getfield 58, 3) := by decide +kernel
theorem dX4_store_67 : decode cX4_store 67 = .ok (.iload_n 1, 1) := by decide +kernel
theorem dX4_store_68 : decode cX4_store 68 = .ok (.iastore, 1) := by decide +kernel
theorem dX4_store_69 : decode cX4_store 69 = .ok (.aload_n 0, 1) := by decide +kernel
theorem dX4_store_70 : decode cX4_store 70 = .ok (.dup, 1) := by decide +kernel
theorem dX4_store_71 : decode cX4_store 71 = .ok (.getfield 58, 3) := by decide +kernel
theorem dX4_store_74 : decode cX4_store 74 = .ok (.iconst 1, 1) := by decide +kernel
theorem dX4_store_75 : decode cX4_store 75 = .ok (.iadd, 1) := by decide +kernel
theorem dX4_store_76 : decode cX4_store 76 = .ok (.putfield 58, 3) := by decide +kernel
theorem dX4_store_79 : decode cX4_store 79 = .ok (.aload_n 0, 1) := by decide +kernel
theorem dX4_store_80 : decode cX4_store 80 = .ok (.getfield 58, 3) := by decide +kernel
theorem dX4_store_83 : decode cX4_store 83 = .ok (.iconst 1, 1) := by decide +kernel
theorem dX4_store_84 : decode cX4_store 84 = .ok (.isub, 1) := by decide +kernel
theorem dX4_store_85 : decode cX4_store 85 = .ok (.ireturn, 1) := by decide +kernel
theorem dX4_octet_0 : decode cX4_octet 0 = .ok (.aload_n 0, 1) := by decide +kernel
theorem dX4_octet_1 : decode cX4_octet 1 = .ok (.iconst 0, 1) := by decide +kernel
theorem dX4_octet_2 : decode cX4_octet 2 = .ok (.putfield 55, 3) := by decide +kernel
theorem dX4_octet_5 : decode cX4_octet 5 = .ok (.aload_n 0, 1) := by decide +kernel
theorem dX4_octet_6 : decode cX4_octet 6 = .ok (.getfield 79, 3) := by decide +kernel
theorem dX4_octet_9 : decode cX4_octet 9 = .ok (.bipush 16, 2) := by decide +kernel
theorem dX4_octet_11 : decode cX4_octet 11 = .ok (.if_icmp .ne 4, 3) := by decide +kernel
theorem dX4_octet_14 : decode cX4_octet 14 = .ok (.return_, 1) := by decide +kernel
theorem dX4_octet_15 : decode cX4_octet 15 = .ok (.aload_n 0, 1) := by decide +kernel
theorem dX4_octet_16 : decode cX4_octet 16 = .ok (.getfield 23, 3) := by decide +kernel
theorem dX4_octet_19 : decode cX4_octet 19 = .ok (.aload_n 0, 1) := by decide +kernel
theorem dX4_octet_20 : decode cX4_octet 20 = .ok (.getfield 79, 3) := by decide +kernel
theorem dX4_octet_23 : decode cX4_octet 23 = .ok (.iload_n 1, 1) := by decide +kernel
theorem dX4_octet_24 : decode cX4_octet 24 = .ok (.i2b, 1) := by decide +kernel
theorem dX4_octet_25 : decode cX4_octet 25 = .ok (.bastore, 1) := by decide +kernel
theorem dX4_octet_26 : decode cX4_octet 26 = .ok (.aload_n 0, 1) := by decide +kernel
theorem dX4_octet_27 : decode cX4_octet 27 = .ok (.dup, 1) := by decide +kernel
theorem dX4_octet_28 : decode cX4_octet 28 = .ok (.getfield 79, 3) := by decide +kernel
theorem dX4_octet_31 : decode cX4_octet 31 = .ok (.iconst 1, 1) := by decide +kernel
theorem dX4_octet_32 : decode cX4_octet 32 = .ok (.iadd, 1) := by decide +kernel
theorem dX4_octet_33 : decode cX4_octet 33 = .ok (.putfield 79, 3) := by decide +kernel
theorem dX4_octet_36 : decode cX4_octet 36 = .ok (.return_, 1) := by decide +kernel
theorem dX4_loadOf_0 : decode cX4_loadOf 0 = .ok (.iconst 0, 1) := by decide +kernel
theorem dX4_loadOf_1 : decode cX4_loadOf 1 = .ok (.istore_n 2, 1) := by decide +kernel
theorem dX4_loadOf_2 : decode cX4_loadOf 2 = .ok (.iconst 0, 1) := by decide +kernel
theorem dX4_loadOf_3 : decode cX4_loadOf 3 = .ok (.istore_n 3, 1) := by decide +kernel
theorem dX4_loadOf_4 : decode cX4_loadOf 4 = .ok (.iload_n 3, 1) := by decide +kernel
theorem dX4_loadOf_5 : decode cX4_loadOf 5 = .ok (.aload_n 0, 1) := by decide +kernel
theorem dX4_loadOf_6 : decode cX4_loadOf 6 = .ok (.getfield 65, 3) := by decide +kernel
theorem dX4_loadOf_9 : decode cX4_loadOf 9 = .ok (.if_icmp .ge 31, 3) := by decide +kernel
theorem dX4_loadOf_12 : decode cX4_loadOf 12 = .ok (.iload_n 2, 1) := by decide +kernel
theorem dX4_loadOf_13 : decode cX4_loadOf 13 = .ok (.aload_n 0, 1) := by decide +kernel
theorem dX4_loadOf_14 : decode cX4_loadOf 14 = .ok (.getfield 33, 3) := by decide +kernel
theorem dX4_loadOf_17 : decode cX4_loadOf 17 = .ok (.bipush 40, 2) := by decide +kernel
theorem dX4_loadOf_19 : decode cX4_loadOf 19 = .ok (.iload_n 1, 1) := by decide +kernel
theorem dX4_loadOf_20 : decode cX4_loadOf 20 = .ok (.imul, 1) := by decide +kernel
theorem dX4_loadOf_21 : decode cX4_loadOf 21 = .ok (.iload_n 3, 1) := by decide +kernel
theorem dX4_loadOf_22 : decode cX4_loadOf 22 = .ok (.iadd, 1) := by decide +kernel
theorem dX4_loadOf_23 : decode cX4_loadOf 23 = .ok (.iaload, 1) := by decide +kernel
theorem dX4_loadOf_24 : decode cX4_loadOf 24 = .ok (.ifCond .lt 7, 3) := by decide +kernel
theorem dX4_loadOf_27 : decode cX4_loadOf 27 = .ok (.iconst 1, 1) := by decide +kernel
theorem dX4_loadOf_28 : decode cX4_loadOf 28 = .ok (.goto 4, 3) := by decide +kernel
theorem dX4_loadOf_31 : decode cX4_loadOf 31 = .ok (.iconst 0, 1) := by decide +kernel
theorem dX4_loadOf_32 : decode cX4_loadOf 32 = .ok (.iadd, 1) := by decide +kernel
theorem dX4_loadOf_33 : decode cX4_loadOf 33 = .ok (.istore_n 2, 1) := by decide +kernel
theorem dX4_loadOf_34 : decode cX4_loadOf 34 = .ok (.iinc 3 1, 3) := by decide +kernel
theorem dX4_loadOf_37 : decode cX4_loadOf 37 = .ok (.goto (-33), 3) := by decide +kernel
theorem dX4_loadOf_40 : decode cX4_loadOf 40 = .ok (.iload_n 2, 1) := by decide +kernel
theorem dX4_loadOf_41 : decode cX4_loadOf 41 = .ok (.ireturn, 1) := by decide +kernel
theorem dX4_ahead_0 : decode cX4_ahead 0 = .ok (.iconst 0, 1) := by decide +kernel
theorem dX4_ahead_1 : decode cX4_ahead 1 = .ok (.istore_n 2, 1) := by decide +kernel
theorem dX4_ahead_2 : decode cX4_ahead 2 = .ok (.iconst 0, 1) := by decide +kernel
theorem dX4_ahead_3 : decode cX4_ahead 3 = .ok (.istore_n 3, 1) := by decide +kernel
theorem dX4_ahead_4 : decode cX4_ahead 4 = .ok (.iload_n 3, 1) := by decide +kernel
theorem dX4_ahead_5 : decode cX4_ahead 5 = .ok (.aload_n 0, 1) := by decide +kernel
theorem dX4_ahead_6 : decode cX4_ahead 6 = .ok (.getfield 58, 3) := by decide +kernel
theorem dX4_ahead_9 : decode cX4_ahead 9 = .ok (.if_icmp .ge 57, 3) := by decide +kernel
theorem dX4_ahead_12 : decode cX4_ahead 12 = .ok (.iload_n 2, 1) := by decide +kernel
theorem dX4_ahead_13 : decode cX4_ahead 13 = .ok (.aload_n 0, 1) := by decide +kernel
theorem dX4_ahead_14 : decode cX4_ahead 14 = .ok (.getfield 13, 3) := by decide +kernel
theorem dX4_ahead_17 : decode cX4_ahead 17 = .ok (.iload_n 3, 1) := by decide +kernel
theorem dX4_ahead_18 : decode cX4_ahead 18 = .ok (.baload, 1) := by decide +kernel
theorem dX4_ahead_19 : decode cX4_ahead 19 = .ok (.ifCond .ne 38, 3) := by decide +kernel
theorem dX4_ahead_22 : decode cX4_ahead 22 = .ok (.aload_n 0, 1) := by decide +kernel
theorem dX4_ahead_23 : decode cX4_ahead 23 = .ok (.iload_n 3, 1) := by decide +kernel
theorem dX4_ahead_24 : decode cX4_ahead 24 = .ok (.invokevirtual 82, 3) := by decide +kernel
theorem dX4_ahead_27 : decode cX4_ahead 27 = .ok (.aload_n 0, 1) := by decide +kernel
theorem dX4_ahead_28 : decode cX4_ahead 28 = .ok (.iload_n 1, 1) := by decide +kernel
theorem dX4_ahead_29 : decode cX4_ahead 29 = .ok (.invokevirtual 82, 3) := by decide +kernel
theorem dX4_ahead_32 : decode cX4_ahead 32 = .ok (.if_icmp .lt 21, 3) := by decide +kernel
theorem dX4_ahead_35 : decode cX4_ahead 35 = .ok (.aload_n 0, 1) := by decide +kernel
theorem dX4_ahead_36 : decode cX4_ahead 36 = .ok (.iload_n 3, 1) := by decide +kernel
theorem dX4_ahead_37 : decode cX4_ahead 37 = .ok (.invokevirtual 82, 3) := by decide +kernel
theorem dX4_ahead_40 : decode cX4_ahead 40 = .ok (.aload_n 0, 1) := by decide +kernel
theorem dX4_ahead_41 : decode cX4_ahead 41 = .ok (.iload_n 1, 1) := by decide +kernel
theorem dX4_ahead_42 : decode cX4_ahead 42 = .ok (.invokevirtual 82, 3) := by decide +kernel
theorem dX4_ahead_45 : decode cX4_ahead 45 = .ok (.if_icmp .ne 12, 3) := by decide +kernel
theorem dX4_ahead_48 : decode cX4_ahead 48 = .ok (.iload_n 3, 1) := by decide +kernel
theorem dX4_ahead_49 : decode cX4_ahead 49 = .ok (.iload_n 1, 1) := by decide +kernel
theorem dX4_ahead_50 : decode cX4_ahead 50 = .ok (.if_icmp .ge 7, 3) := by decide +kernel
theorem dX4_ahead_53 : decode cX4_ahead 53 = .ok (.iconst 1, 1) := by decide +kernel
theorem dX4_ahead_54 : decode cX4_ahead 54 = .ok (.goto 4, 3) := by decide +kernel
theorem dX4_ahead_57 : decode cX4_ahead 57 = .ok (.iconst 0, 1) := by decide +kernel
theorem dX4_ahead_58 : decode cX4_ahead 58 = .ok (.iadd, 1) := by decide +kernel
theorem dX4_ahead_59 : decode cX4_ahead 59 = .ok (.istore_n 2, 1) := by decide +kernel
theorem dX4_ahead_60 : decode cX4_ahead 60 = .ok (.iinc 3 1, 3) := by decide +kernel
theorem dX4_ahead_63 : decode cX4_ahead 63 = .ok (.goto (-59), 3) := by decide +kernel
theorem dX4_ahead_66 : decode cX4_ahead 66 = .ok (.iload_n 2, 1) := by decide +kernel
theorem dX4_ahead_67 : decode cX4_ahead 67 = .ok (.ireturn, 1) := by decide +kernel
theorem dX4_put_0 : decode cX4_put 0 = .ok (.aload_n 0, 1) := by decide +kernel
theorem dX4_put_1 : decode cX4_put 1 = .ok (.iconst 0, 1) := by decide +kernel
theorem dX4_put_2 : decode cX4_put 2 = .ok (.putfield 55, 3) := by decide +kernel
theorem dX4_put_5 : decode cX4_put 5 = .ok (.iload_n 1, 1) := by decide +kernel
theorem dX4_put_6 : decode cX4_put 6 = .ok (.iconst 0, 1) := by decide +kernel
theorem dX4_put_7 : decode cX4_put 7 = .ok (.bipush 9, 2) := by decide +kernel
theorem dX4_put_9 : decode cX4_put 9 = .ok (.invokestatic 61, 3) := by decide +kernel
theorem dX4_put_12 : decode cX4_put 12 = .ok (.ifCond .eq 10, 3) := by decide +kernel
theorem dX4_put_15 : decode cX4_put 15 = .ok (.aload_n 0, 1) := by decide +kernel
theorem dX4_put_16 : decode cX4_put 16 = .ok (.getfield 79, 3) := by decide +kernel
theorem dX4_put_19 : decode cX4_put 19 = .ok (.ifCond .ne 6, 3) := by decide +kernel
theorem dX4_put_22 : decode cX4_put 22 = .ok (.bipush (-2), 2) := by decide +kernel
theorem dX4_put_24 : decode cX4_put 24 = .ok (.ireturn, 1) := by decide +kernel
theorem dX4_put_25 : decode cX4_put 25 = .ok (.iconst 0, 1) := by decide +kernel
theorem dX4_put_26 : decode cX4_put 26 = .ok (.istore_n 2, 1) := by decide +kernel
theorem dX4_put_27 : decode cX4_put 27 = .ok (.iconst 0, 1) := by decide +kernel
theorem dX4_put_28 : decode cX4_put 28 = .ok (.istore_n 3, 1) := by decide +kernel
theorem dX4_put_29 : decode cX4_put 29 = .ok (.iload_n 3, 1) := by decide +kernel
theorem dX4_put_30 : decode cX4_put 30 = .ok (.aload_n 0, 1) := by decide +kernel
theorem dX4_put_31 : decode cX4_put 31 = .ok (.getfield 58, 3) := by decide +kernel
theorem dX4_put_34 : decode cX4_put 34 = .ok (.if_icmp .ge 26, 3) := by decide +kernel
theorem dX4_put_37 : decode cX4_put 37 = .ok (.iload_n 2, 1) := by decide +kernel
theorem dX4_put_38 : decode cX4_put 38 = .ok (.aload_n 0, 1) := by decide +kernel
theorem dX4_put_39 : decode cX4_put 39 = .ok (.getfield 13, 3) := by decide +kernel
theorem dX4_put_42 : decode cX4_put 42 = .ok (.iload_n 3, 1) := by decide +kernel
theorem dX4_put_43 : decode cX4_put 43 = .ok (.baload, 1) := by decide +kernel
theorem dX4_put_44 : decode cX4_put 44 = .ok (.ifCond .eq 7, 3) := by decide +kernel
theorem dX4_put_47 : decode cX4_put 47 = .ok (.iconst 0, 1) := by decide +kernel
theorem dX4_put_48 : decode cX4_put 48 = .ok (.goto 4, 3) := by decide +kernel
theorem dX4_put_51 : decode cX4_put 51 = .ok (.iconst 1, 1) := by decide +kernel
theorem dX4_put_52 : decode cX4_put 52 = .ok (.iadd, 1) := by decide +kernel
theorem dX4_put_53 : decode cX4_put 53 = .ok (.istore_n 2, 1) := by decide +kernel
theorem dX4_put_54 : decode cX4_put 54 = .ok (.iinc 3 1, 3) := by decide +kernel
theorem dX4_put_57 : decode cX4_put 57 = .ok (.goto (-28), 3) := by decide +kernel
theorem dX4_put_60 : decode cX4_put 60 = .ok (.iload_n 2, 1) := by decide +kernel
theorem dX4_put_61 : decode cX4_put 61 = .ok (.aload_n 0, 1) := by decide +kernel
theorem dX4_put_62 : decode cX4_put 62 = .ok (.getfield 51, 3) := by decide +kernel
theorem dX4_put_65 : decode cX4_put 65 = .ok (.if_icmp .ge 6, 3) := by decide +kernel
theorem dX4_put_68 : decode cX4_put 68 = .ok (.bipush (-3), 2) := by decide +kernel
theorem dX4_put_70 : decode cX4_put 70 = .ok (.ireturn, 1) := by decide +kernel
theorem dX4_put_71 : decode cX4_put 71 = .ok (.aload_n 0, 1) := by decide +kernel
theorem dX4_put_72 : decode cX4_put 72 = .ok (.getfield 65, 3) := by decide +kernel
theorem dX4_put_75 : decode cX4_put 75 = .ok (.bipush 40, 2) := by decide +kernel
theorem dX4_put_77 : decode cX4_put 77 = .ok (.if_icmp .ne 6, 3) := by decide +kernel
theorem dX4_put_80 : decode cX4_put 80 = .ok (.bipush (-4), 2) := by decide +kernel
theorem dX4_put_82 : decode cX4_put 82 = .ok (.ireturn, 1) := by decide +kernel
theorem dX4_put_83 : decode cX4_put 83 = .ok (.iconst 0, 1) := by decide +kernel
theorem dX4_put_84 : decode cX4_put 84 = .ok (.istore_n 3, 1) := by decide +kernel
theorem dX4_put_85 : decode cX4_put 85 = .ok (.iload_n 3, 1) := by decide +kernel
theorem dX4_put_86 : decode cX4_put 86 = .ok (.aload_n 0, 1) := by decide +kernel
theorem dX4_put_87 : decode cX4_put 87 = .ok (.getfield 58, 3) := by decide +kernel
theorem dX4_put_90 : decode cX4_put 90 = .ok (.if_icmp .ge 34, 3) := by decide +kernel
theorem dX4_put_93 : decode cX4_put 93 = .ok (.aload_n 0, 1) := by decide +kernel
theorem dX4_put_94 : decode cX4_put 94 = .ok (.getfield 48, 3) := by decide +kernel
theorem dX4_put_97 : decode cX4_put 97 = .ok (.iload_n 3, 1) := by decide +kernel
theorem dX4_put_98 : decode cX4_put 98 = .ok (.aload_n 0, 1) := by decide +kernel
theorem dX4_put_99 : decode cX4_put 99 = .ok (.getfield 13, 3) := by decide +kernel
theorem dX4_put_102 : decode cX4_put 102 = .ok (.iload_n 3, 1) := by decide +kernel
theorem dX4_put_103 : decode cX4_put 103 = .ok (.baload, 1) := by decide +kernel
theorem dX4_put_104 : decode cX4_put 104 = .ok (.ifCond .eq 8, 3) := by decide +kernel
theorem dX4_put_107 : decode cX4_put 107 = .ok (.bipush 100, 2) := by decide +kernel
theorem dX4_put_109 : decode cX4_put 109 = .ok (.goto 8, 3) := by decide +kernel
theorem dX4_put_112 : decode cX4_put 112 = .ok (.aload_n 0, 1) := by decide +kernel
theorem dX4_put_113 : decode cX4_put 113 = .ok (.iload_n 3, 1) := by decide +kernel
theorem dX4_put_114 : decode cX4_put 114 = .ok (.invokevirtual 86, 3) := by decide +kernel
theorem dX4_put_117 : decode cX4_put 117 = .ok (.iastore, 1) := by decide +kernel
theorem dX4_put_118 : decode cX4_put 118 = .ok (.iinc 3 1, 3) := by decide +kernel
theorem dX4_put_121 : decode cX4_put 121 = .ok (.goto (-36), 3) := by decide +kernel
theorem dX4_put_124 : decode cX4_put 124 = .ok (.aload_n 0, 1) := by decide +kernel
theorem dX4_put_125 : decode cX4_put 125 = .ok (.getfield 65, 3) := by decide +kernel
theorem dX4_put_128 : decode cX4_put 128 = .ok (.istore_n 3, 1) := by decide +kernel
theorem dX4_put_129 : decode cX4_put 129 = .ok (.aload_n 0, 1) := by decide +kernel
theorem dX4_put_130 : decode cX4_put 130 = .ok (.dup, 1) := by decide +kernel
theorem dX4_put_131 : decode cX4_put 131 = .ok (.getfield 65, 3) := by decide +kernel
theorem dX4_put_134 : decode cX4_put 134 = .ok (.iconst 1, 1) := by decide +kernel
theorem dX4_put_135 : decode cX4_put 135 = .ok (.iadd, 1) := by decide +kernel
theorem dX4_put_136 : decode cX4_put 136 = .ok (.putfield 65, 3) := by decide +kernel
theorem dX4_put_139 : decode cX4_put 139 = .ok (.aload_n 0, 1) := by decide +kernel
theorem dX4_put_140 : decode cX4_put 140 = .ok (.getfield 27, 3) := by decide +kernel
theorem dX4_put_143 : decode cX4_put 143 = .ok (.iload_n 3, 1) := by decide +kernel
theorem dX4_put_144 : decode cX4_put 144 = .ok (.iload_n 1, 1) := by decide +kernel
theorem dX4_put_145 : decode cX4_put 145 = .ok (.iastore, 1) := by decide +kernel
theorem dX4_put_146 : decode cX4_put 146 = .ok (.iconst 0, 1) := by decide +kernel
theorem dX4_put_147 : decode cX4_put 147 = .ok (.istore 4, 2) := by decide +kernel
theorem dX4_put_149 : decode cX4_put 149 = .ok (.iload 4, 2) := by decide +kernel
theorem dX4_put_151 : decode cX4_put 151 = .ok (.aload_n 0, 1) := by decide +kernel
theorem dX4_put_152 : decode cX4_put 152 = .ok (.getfield 58, 3) := by decide +kernel
theorem dX4_put_155 : decode cX4_put 155 = .ok (.if_icmp .ge 85, 3) := by decide +kernel
theorem dX4_put_158 : decode cX4_put 158 = .ok (.aload_n 0, 1) := by decide +kernel
theorem dX4_put_159 : decode cX4_put 159 = .ok (.getfield 48, 3) := by decide +kernel
theorem dX4_put_162 : decode cX4_put 162 = .ok (.iload 4, 2) := by decide +kernel
theorem dX4_put_164 : decode cX4_put 164 = .ok (.iaload, 1) := by decide +kernel
theorem dX4_put_165 : decode cX4_put 165 = .ok (.aload_n 0, 1) := by decide +kernel
theorem dX4_put_166 : decode cX4_put 166 = .ok (.getfield 51, 3) := by decide +kernel
theorem dX4_put_169 : decode cX4_put 169 = .ok (.if_icmp .lt 6, 3) := by decide +kernel
theorem dX4_put_172 : decode cX4_put 172 = .ok (.goto 62, 3) := by decide +kernel
theorem dX4_put_175 : decode cX4_put 175 = .ok (.aload_n 0, 1) := by decide +kernel
theorem dX4_put_176 : decode cX4_put 176 = .ok (.getfield 33, 3) := by decide +kernel
theorem dX4_put_179 : decode cX4_put 179 = .ok (.bipush 40, 2) := by decide +kernel
theorem dX4_put_181 : decode cX4_put 181 = .ok (.iload 4, 2) := by decide +kernel
theorem dX4_put_183 : decode cX4_put 183 = .ok (.imul, 1) := by decide +kernel
theorem dX4_put_184 : decode cX4_put 184 = .ok (.iload_n 3, 1) := by decide +kernel
theorem dX4_put_185 : decode cX4_put 185 = .ok (.iadd, 1) := by decide +kernel
theorem dX4_put_186 : decode cX4_put 186 = .ok (.aload_n 0, 1) := by decide +kernel
theorem dX4_put_187 : decode cX4_put 187 = .ok (.getfield 79, 3) := by decide +kernel
theorem dX4_put_190 : decode cX4_put 190 = .ok (.iastore, 1) := by decide +kernel
theorem dX4_put_191 : decode cX4_put 191 = .ok (.iconst 0, 1) := by decide +kernel
theorem dX4_put_192 : decode cX4_put 192 = .ok (.istore 5, 2) := by decide +kernel
theorem dX4_put_194 : decode cX4_put 194 = .ok (.iload 5, 2) := by decide +kernel
theorem dX4_put_196 : decode cX4_put 196 = .ok (.aload_n 0, 1) := by decide +kernel
theorem dX4_put_197 : decode cX4_put 197 = .ok (.getfield 79, 3) := by decide +kernel
theorem dX4_put_200 : decode cX4_put 200 = .ok (.if_icmp .ge 34, 3) := by decide +kernel
theorem dX4_put_203 : decode cX4_put 203 = .ok (.aload_n 0, 1) := by decide +kernel
theorem dX4_put_204 : decode cX4_put 204 = .ok (.getfield 36, 3) := by decide +kernel
theorem dX4_put_207 : decode cX4_put 207 = .ok (.bipush 16, 2) := by decide +kernel
theorem dX4_put_209 : decode cX4_put 209 = .ok (.bipush 40, 2) := by decide +kernel
theorem dX4_put_211 : decode cX4_put 211 = .ok (.iload 4, 2) := by decide +kernel
theorem dX4_put_213 : decode cX4_put 213 = .ok (.imul, 1) := by decide +kernel
theorem dX4_put_214 : decode cX4_put 214 = .ok (.iload_n 3, 1) := by decide +kernel
theorem dX4_put_215 : decode cX4_put 215 = .ok (.iadd, 1) := by decide +kernel
theorem dX4_put_216 : decode cX4_put 216 = .ok (.imul, 1) := by decide +kernel
theorem dX4_put_217 : decode cX4_put 217 = .ok (.iload 5, 2) := by decide +kernel
theorem dX4_put_219 : decode cX4_put 219 = .ok (.iadd, 1) := by decide +kernel
theorem dX4_put_220 : decode cX4_put 220 = .ok (.aload_n 0, 1) := by decide +kernel
theorem dX4_put_221 : decode cX4_put 221 = .ok (.getfield 23, 3) := by decide +kernel
theorem dX4_put_224 : decode cX4_put 224 = .ok (.iload 5, 2) := by decide +kernel
theorem dX4_put_226 : decode cX4_put 226 = .ok (.baload, 1) := by decide +kernel
theorem dX4_put_227 : decode cX4_put 227 = .ok (.bastore, 1) := by decide +kernel
theorem dX4_put_228 : decode cX4_put 228 = .ok (.iinc 5 1, 3) := by decide +kernel
theorem dX4_put_231 : decode cX4_put 231 = .ok (.goto (-37), 3) := by decide +kernel
theorem dX4_put_234 : decode cX4_put 234 = .ok (.iinc 4 1, 3) := by decide +kernel
theorem dX4_put_237 : decode cX4_put 237 = .ok (.goto (-88), 3) := by decide +kernel
theorem dX4_put_240 : decode cX4_put 240 = .ok (.aload_n 0, 1) := by decide +kernel
theorem dX4_put_241 : decode cX4_put 241 = .ok (.iconst 0, 1) := by decide +kernel
theorem dX4_put_242 : decode cX4_put 242 = .ok (.putfield 79, 3) := by decide +kernel
theorem dX4_put_245 : decode cX4_put 245 = .ok (.iload_n 3, 1) := by decide +kernel
theorem dX4_put_246 : decode cX4_put 246 = .ok (.ireturn, 1) := by decide +kernel
theorem dX4_answers_0 : decode cX4_answers 0 = .ok (.aload_n 0, 1) := by decide +kernel
theorem dX4_answers_1 : decode cX4_answers 1 = .ok (.iconst 0, 1) := by decide +kernel
theorem dX4_answers_2 : decode cX4_answers 2 = .ok (.putfield 55, 3) := by decide +kernel
theorem dX4_answers_5 : decode cX4_answers 5 = .ok (.aload_n 0, 1) := by decide +kernel
theorem dX4_answers_6 : decode cX4_answers 6 = .ok (.iload_n 1, 1) := by decide +kernel
theorem dX4_answers_7 : decode cX4_answers 7 = .ok (.invokevirtual 68, 3) := by decide +kernel
theorem dX4_answers_10 : decode cX4_answers 10 = .ok (.ifCond .ne 5, 3) := by decide +kernel
theorem dX4_answers_13 : decode cX4_answers 13 = .ok (.iconst (-1), 1) := by decide +kernel
theorem dX4_answers_14 : decode cX4_answers 14 = .ok (.ireturn, 1) := by decide +kernel
theorem dX4_answers_15 : decode cX4_answers 15 = .ok (.aload_n 0, 1) := by decide +kernel
theorem dX4_answers_16 : decode cX4_answers 16 = .ok (.getfield 13, 3) := by decide +kernel
theorem dX4_answers_19 : decode cX4_answers 19 = .ok (.iload_n 1, 1) := by decide +kernel
theorem dX4_answers_20 : decode cX4_answers 20 = .ok (.iload_n 2, 1) := by decide +kernel
theorem dX4_answers_21 : decode cX4_answers 21 = .ok (.ifCond .ne 7, 3) := by decide +kernel
theorem dX4_answers_24 : decode cX4_answers 24 = .ok (.iconst 1, 1) := by decide +kernel
theorem dX4_answers_25 : decode cX4_answers 25 = .ok (.goto 4, 3) := by decide +kernel
theorem dX4_answers_28 : decode cX4_answers 28 = .ok (.iconst 0, 1) := by decide +kernel
theorem dX4_answers_29 : decode cX4_answers 29 = .ok (.bastore, 1) := by decide +kernel
theorem dX4_answers_30 : decode cX4_answers 30 = .ok (.iconst 1, 1) := by decide +kernel
theorem dX4_answers_31 : decode cX4_answers 31 = .ok (.ireturn, 1) := by decide +kernel
theorem dX4_alter_0 : decode cX4_alter 0 = .ok (.aload_n 0, 1) := by decide +kernel
theorem dX4_alter_1 : decode cX4_alter 1 = .ok (.iconst 0, 1) := by decide +kernel
theorem dX4_alter_2 : decode cX4_alter 2 = .ok (.putfield 55, 3) := by decide +kernel
theorem dX4_alter_5 : decode cX4_alter 5 = .ok (.aload_n 0, 1) := by decide +kernel
theorem dX4_alter_6 : decode cX4_alter 6 = .ok (.iload_n 1, 1) := by decide +kernel
theorem dX4_alter_7 : decode cX4_alter 7 = .ok (.iload_n 2, 1) := by decide +kernel
theorem dX4_alter_8 : decode cX4_alter 8 = .ok (.invokevirtual 75, 3) := by decide +kernel
theorem dX4_alter_11 : decode cX4_alter 11 = .ok (.ifCond .eq 24, 3) := by decide +kernel
theorem dX4_alter_14 : decode cX4_alter 14 = .ok (.iload_n 3, 1) := by decide +kernel
theorem dX4_alter_15 : decode cX4_alter 15 = .ok (.iconst 0, 1) := by decide +kernel
theorem dX4_alter_16 : decode cX4_alter 16 = .ok (.aload_n 0, 1) := by decide +kernel
theorem dX4_alter_17 : decode cX4_alter 17 = .ok (.getfield 33, 3) := by decide +kernel
theorem dX4_alter_20 : decode cX4_alter 20 = .ok (.bipush 40, 2) := by decide +kernel
theorem dX4_alter_22 : decode cX4_alter 22 = .ok (.iload_n 1, 1) := by decide +kernel
theorem dX4_alter_23 : decode cX4_alter 23 = .ok (.imul, 1) := by decide +kernel
theorem dX4_alter_24 : decode cX4_alter 24 = .ok (.iload_n 2, 1) := by decide +kernel
theorem dX4_alter_25 : decode cX4_alter 25 = .ok (.iadd, 1) := by decide +kernel
theorem dX4_alter_26 : decode cX4_alter 26 = .ok (.iaload, 1) := by decide +kernel
theorem dX4_alter_27 : decode cX4_alter 27 = .ok (.iconst 1, 1) := by decide +kernel
theorem dX4_alter_28 : decode cX4_alter 28 = .ok (.isub, 1) := by decide +kernel
theorem dX4_alter_29 : decode cX4_alter 29 = .ok (.invokestatic 61, 3) := by decide +kernel
theorem dX4_alter_32 : decode cX4_alter 32 = .ok (.ifCond .ne 5, 3) := by decide +kernel
theorem dX4_alter_35 : decode cX4_alter 35 = .ok (.iconst (-1), 1) := by decide +kernel
theorem dX4_alter_36 : decode cX4_alter 36 = .ok (.ireturn, 1) := by decide +kernel
theorem dX4_alter_37 : decode cX4_alter 37 = .ok (.bipush 16, 2) := by decide +kernel
theorem dX4_alter_39 : decode cX4_alter 39 = .ok (.bipush 40, 2) := by decide +kernel
theorem dX4_alter_41 : decode cX4_alter 41 = .ok (.iload_n 1, 1) := by decide +kernel
theorem dX4_alter_42 : decode cX4_alter 42 = .ok (.imul, 1) := by decide +kernel
theorem dX4_alter_43 : decode cX4_alter 43 = .ok (.iload_n 2, 1) := by decide +kernel
theorem dX4_alter_44 : decode cX4_alter 44 = .ok (.iadd, 1) := by decide +kernel
theorem dX4_alter_45 : decode cX4_alter 45 = .ok (.imul, 1) := by decide +kernel
theorem dX4_alter_46 : decode cX4_alter 46 = .ok (.iload_n 3, 1) := by decide +kernel
theorem dX4_alter_47 : decode cX4_alter 47 = .ok (.iadd, 1) := by decide +kernel
theorem dX4_alter_48 : decode cX4_alter 48 = .ok (.istore 5, 2) := by decide +kernel
theorem dX4_alter_50 : decode cX4_alter 50 = .ok (.aload_n 0, 1) := by decide +kernel
theorem dX4_alter_51 : decode cX4_alter 51 = .ok (.getfield 36, 3) := by decide +kernel
theorem dX4_alter_54 : decode cX4_alter 54 = .ok (.iload 5, 2) := by decide +kernel
theorem dX4_alter_56 : decode cX4_alter 56 = .ok (.baload, 1) := by decide +kernel
theorem dX4_alter_57 : decode cX4_alter 57 = .ok (.sipush 255, 3) := by decide +kernel
theorem dX4_alter_60 : decode cX4_alter 60 = .ok (.iand, 1) := by decide +kernel
theorem dX4_alter_61 : decode cX4_alter 61 = .ok (.istore 6, 2) := by decide +kernel
theorem dX4_alter_63 : decode cX4_alter 63 = .ok (.aload_n 0, 1) := by decide +kernel
theorem dX4_alter_64 : decode cX4_alter 64 = .ok (.getfield 36, 3) := by decide +kernel
theorem dX4_alter_67 : decode cX4_alter 67 = .ok (.iload 5, 2) := by decide +kernel
theorem dX4_alter_69 : decode cX4_alter 69 = .ok (.iload 4, 2) := by decide +kernel
theorem dX4_alter_71 : decode cX4_alter 71 = .ok (.i2b, 1) := by decide +kernel
theorem dX4_alter_72 : decode cX4_alter 72 = .ok (.bastore, 1) := by decide +kernel
theorem dX4_alter_73 : decode cX4_alter 73 = .ok (.iload 6, 2) := by decide +kernel
theorem dX4_alter_75 : decode cX4_alter 75 = .ok (.ireturn, 1) := by decide +kernel
theorem dX4_cut_0 : decode cX4_cut 0 = .ok (.aload_n 0, 1) := by decide +kernel
theorem dX4_cut_1 : decode cX4_cut 1 = .ok (.iconst 0, 1) := by decide +kernel
theorem dX4_cut_2 : decode cX4_cut 2 = .ok (.putfield 55, 3) := by decide +kernel
theorem dX4_cut_5 : decode cX4_cut 5 = .ok (.aload_n 0, 1) := by decide +kernel
theorem dX4_cut_6 : decode cX4_cut 6 = .ok (.iload_n 1, 1) := by decide +kernel
theorem dX4_cut_7 : decode cX4_cut 7 = .ok (.iload_n 2, 1) := by decide +kernel
theorem dX4_cut_8 : decode cX4_cut 8 = .ok (.invokevirtual 75, 3) := by decide +kernel
theorem dX4_cut_11 : decode cX4_cut 11 = .ok (.ifCond .ne 5, 3) := by decide +kernel
theorem dX4_cut_14 : decode cX4_cut 14 = .ok (.iconst (-1), 1) := by decide +kernel
theorem dX4_cut_15 : decode cX4_cut 15 = .ok (.ireturn, 1) := by decide +kernel
theorem dX4_cut_16 : decode cX4_cut 16 = .ok (.aload_n 0, 1) := by decide +kernel
theorem dX4_cut_17 : decode cX4_cut 17 = .ok (.getfield 33, 3) := by decide +kernel
theorem dX4_cut_20 : decode cX4_cut 20 = .ok (.bipush 40, 2) := by decide +kernel
theorem dX4_cut_22 : decode cX4_cut 22 = .ok (.iload_n 1, 1) := by decide +kernel
theorem dX4_cut_23 : decode cX4_cut 23 = .ok (.imul, 1) := by decide +kernel
theorem dX4_cut_24 : decode cX4_cut 24 = .ok (.iload_n 2, 1) := by decide +kernel
theorem dX4_cut_25 : decode cX4_cut 25 = .ok (.iadd, 1) := by decide +kernel
theorem dX4_cut_26 : decode cX4_cut 26 = .ok (.iaload, 1) := by decide +kernel
theorem dX4_cut_27 : decode cX4_cut 27 = .ok (.istore 4, 2) := by decide +kernel
theorem dX4_cut_29 : decode cX4_cut 29 = .ok (.iload_n 3, 1) := by decide +kernel
theorem dX4_cut_30 : decode cX4_cut 30 = .ok (.iconst 0, 1) := by decide +kernel
theorem dX4_cut_31 : decode cX4_cut 31 = .ok (.iload 4, 2) := by decide +kernel
theorem dX4_cut_33 : decode cX4_cut 33 = .ok (.invokestatic 61, 3) := by decide +kernel
theorem dX4_cut_36 : decode cX4_cut 36 = .ok (.ifCond .ne 6, 3) := by decide +kernel
theorem dX4_cut_39 : decode cX4_cut 39 = .ok (.bipush (-2), 2) := by decide +kernel
theorem dX4_cut_41 : decode cX4_cut 41 = .ok (.ireturn, 1) := by decide +kernel
theorem dX4_cut_42 : decode cX4_cut 42 = .ok (.aload_n 0, 1) := by decide +kernel
theorem dX4_cut_43 : decode cX4_cut 43 = .ok (.getfield 33, 3) := by decide +kernel
theorem dX4_cut_46 : decode cX4_cut 46 = .ok (.bipush 40, 2) := by decide +kernel
theorem dX4_cut_48 : decode cX4_cut 48 = .ok (.iload_n 1, 1) := by decide +kernel
theorem dX4_cut_49 : decode cX4_cut 49 = .ok (.imul, 1) := by decide +kernel
theorem dX4_cut_50 : decode cX4_cut 50 = .ok (.iload_n 2, 1) := by decide +kernel
theorem dX4_cut_51 : decode cX4_cut 51 = .ok (.iadd, 1) := by decide +kernel
theorem dX4_cut_52 : decode cX4_cut 52 = .ok (.iload_n 3, 1) := by decide +kernel
theorem dX4_cut_53 : decode cX4_cut 53 = .ok (.iastore, 1) := by decide +kernel
theorem dX4_cut_54 : decode cX4_cut 54 = .ok (.iload 4, 2) := by decide +kernel
theorem dX4_cut_56 : decode cX4_cut 56 = .ok (.iload_n 3, 1) := by decide +kernel
theorem dX4_cut_57 : decode cX4_cut 57 = .ok (.isub, 1) := by decide +kernel
theorem dX4_cut_58 : decode cX4_cut 58 = .ok (.ireturn, 1) := by decide +kernel
theorem dX4_lose_0 : decode cX4_lose 0 = .ok (.aload_n 0, 1) := by decide +kernel
theorem dX4_lose_1 : decode cX4_lose 1 = .ok (.iconst 0, 1) := by decide +kernel
theorem dX4_lose_2 : decode cX4_lose 2 = .ok (.putfield 55, 3) := by decide +kernel
theorem dX4_lose_5 : decode cX4_lose 5 = .ok (.aload_n 0, 1) := by decide +kernel
theorem dX4_lose_6 : decode cX4_lose 6 = .ok (.iload_n 1, 1) := by decide +kernel
theorem dX4_lose_7 : decode cX4_lose 7 = .ok (.iload_n 2, 1) := by decide +kernel
theorem dX4_lose_8 : decode cX4_lose 8 = .ok (.invokevirtual 75, 3) := by decide +kernel
theorem dX4_lose_11 : decode cX4_lose 11 = .ok (.ifCond .ne 5, 3) := by decide +kernel
theorem dX4_lose_14 : decode cX4_lose 14 = .ok (.iconst (-1), 1) := by decide +kernel
theorem dX4_lose_15 : decode cX4_lose 15 = .ok (.ireturn, 1) := by decide +kernel
theorem dX4_lose_16 : decode cX4_lose 16 = .ok (.aload_n 0, 1) := by decide +kernel
theorem dX4_lose_17 : decode cX4_lose 17 = .ok (.getfield 33, 3) := by decide +kernel
theorem dX4_lose_20 : decode cX4_lose 20 = .ok (.bipush 40, 2) := by decide +kernel
theorem dX4_lose_22 : decode cX4_lose 22 = .ok (.iload_n 1, 1) := by decide +kernel
theorem dX4_lose_23 : decode cX4_lose 23 = .ok (.imul, 1) := by decide +kernel
theorem dX4_lose_24 : decode cX4_lose 24 = .ok (.iload_n 2, 1) := by decide +kernel
theorem dX4_lose_25 : decode cX4_lose 25 = .ok (.iadd, 1) := by decide +kernel
theorem dX4_lose_26 : decode cX4_lose 26 = .ok (.iconst (-1), 1) := by decide +kernel
theorem dX4_lose_27 : decode cX4_lose 27 = .ok (.iastore, 1) := by decide +kernel
theorem dX4_lose_28 : decode cX4_lose 28 = .ok (.iconst 1, 1) := by decide +kernel
theorem dX4_lose_29 : decode cX4_lose 29 = .ok (.ireturn, 1) := by decide +kernel
theorem dX4_digestOf_0 : decode cX4_digestOf 0 = .ok (.aload_n 0, 1) := by decide +kernel
theorem dX4_digestOf_1 : decode cX4_digestOf 1 = .ok (.getfield 33, 3) := by decide +kernel
theorem dX4_digestOf_4 : decode cX4_digestOf 4 = .ok (.bipush 40, 2) := by decide +kernel
theorem dX4_digestOf_6 : decode cX4_digestOf 6 = .ok (.iload_n 1, 1) := by decide +kernel
theorem dX4_digestOf_7 : decode cX4_digestOf 7 = .ok (.imul, 1) := by decide +kernel
theorem dX4_digestOf_8 : decode cX4_digestOf 8 = .ok (.iload_n 2, 1) := by decide +kernel
theorem dX4_digestOf_9 : decode cX4_digestOf 9 = .ok (.iadd, 1) := by decide +kernel
theorem dX4_digestOf_10 : decode cX4_digestOf 10 = .ok (.iaload, 1) := by decide +kernel
theorem dX4_digestOf_11 : decode cX4_digestOf 11 = .ok (.istore_n 3, 1) := by decide +kernel
theorem dX4_digestOf_12 : decode cX4_digestOf 12 = .ok (.bipush 7, 2) := by decide +kernel
theorem dX4_digestOf_14 : decode cX4_digestOf 14 = .ok (.istore 4, 2) := by decide +kernel
theorem dX4_digestOf_16 : decode cX4_digestOf 16 = .ok (.iconst 0, 1) := by decide +kernel
theorem dX4_digestOf_17 : decode cX4_digestOf 17 = .ok (.istore 5, 2) := by decide +kernel
theorem dX4_digestOf_19 : decode cX4_digestOf 19 = .ok (.iload 5, 2) := by decide +kernel
theorem dX4_digestOf_21 : decode cX4_digestOf 21 = .ok (.iload_n 3, 1) := by decide +kernel
theorem dX4_digestOf_22 : decode cX4_digestOf 22 = .ok (.if_icmp .ge 38, 3) := by decide +kernel
theorem dX4_digestOf_25 : decode cX4_digestOf 25 = .ok (.bipush 31, 2) := by decide +kernel
theorem dX4_digestOf_27 : decode cX4_digestOf 27 = .ok (.iload 4, 2) := by decide +kernel
theorem dX4_digestOf_29 : decode cX4_digestOf 29 = .ok (.imul, 1) := by decide +kernel
theorem dX4_digestOf_30 : decode cX4_digestOf 30 = .ok (.aload_n 0, 1) := by decide +kernel
theorem dX4_digestOf_31 : decode cX4_digestOf 31 = .ok (.getfield 36, 3) := by decide +kernel
theorem dX4_digestOf_34 : decode cX4_digestOf 34 = .ok (.bipush 16, 2) := by decide +kernel
theorem dX4_digestOf_36 : decode cX4_digestOf 36 = .ok (.bipush 40, 2) := by decide +kernel
theorem dX4_digestOf_38 : decode cX4_digestOf 38 = .ok (.iload_n 1, 1) := by decide +kernel
theorem dX4_digestOf_39 : decode cX4_digestOf 39 = .ok (.imul, 1) := by decide +kernel
theorem dX4_digestOf_40 : decode cX4_digestOf 40 = .ok (.iload_n 2, 1) := by decide +kernel
theorem dX4_digestOf_41 : decode cX4_digestOf 41 = .ok (.iadd, 1) := by decide +kernel
theorem dX4_digestOf_42 : decode cX4_digestOf 42 = .ok (.imul, 1) := by decide +kernel
theorem dX4_digestOf_43 : decode cX4_digestOf 43 = .ok (.iload 5, 2) := by decide +kernel
theorem dX4_digestOf_45 : decode cX4_digestOf 45 = .ok (.iadd, 1) := by decide +kernel
theorem dX4_digestOf_46 : decode cX4_digestOf 46 = .ok (.baload, 1) := by decide +kernel
theorem dX4_digestOf_47 : decode cX4_digestOf 47 = .ok (.sipush 255, 3) := by decide +kernel
theorem dX4_digestOf_50 : decode cX4_digestOf 50 = .ok (.iand, 1) := by decide +kernel
theorem dX4_digestOf_51 : decode cX4_digestOf 51 = .ok (.iadd, 1) := by decide +kernel
theorem dX4_digestOf_52 : decode cX4_digestOf 52 = .ok (.istore 4, 2) := by decide +kernel
theorem dX4_digestOf_54 : decode cX4_digestOf 54 = .ok (.iinc 5 1, 3) := by decide +kernel
theorem dX4_digestOf_57 : decode cX4_digestOf 57 = .ok (.goto (-38), 3) := by decide +kernel
theorem dX4_digestOf_60 : decode cX4_digestOf 60 = .ok (.iload 4, 2) := by decide +kernel
theorem dX4_digestOf_62 : decode cX4_digestOf 62 = .ok (.iload_n 3, 1) := by decide +kernel
theorem dX4_digestOf_63 : decode cX4_digestOf 63 = .ok (.ixor, 1) := by decide +kernel
theorem dX4_digestOf_64 : decode cX4_digestOf 64 = .ok (.ireturn, 1) := by decide +kernel
theorem dX4_leader_0 : decode cX4_leader 0 = .ok (.iconst 0, 1) := by decide +kernel
theorem dX4_leader_1 : decode cX4_leader 1 = .ok (.istore_n 2, 1) := by decide +kernel
theorem dX4_leader_2 : decode cX4_leader 2 = .ok (.iconst 0, 1) := by decide +kernel
theorem dX4_leader_3 : decode cX4_leader 3 = .ok (.istore_n 3, 1) := by decide +kernel
theorem dX4_leader_4 : decode cX4_leader 4 = .ok (.iload_n 3, 1) := by decide +kernel
theorem dX4_leader_5 : decode cX4_leader 5 = .ok (.aload_n 0, 1) := by decide +kernel
theorem dX4_leader_6 : decode cX4_leader 6 = .ok (.getfield 58, 3) := by decide +kernel
theorem dX4_leader_9 : decode cX4_leader 9 = .ok (.if_icmp .ge 26, 3) := by decide +kernel
theorem dX4_leader_12 : decode cX4_leader 12 = .ok (.iload_n 2, 1) := by decide +kernel
theorem dX4_leader_13 : decode cX4_leader 13 = .ok (.aload_n 0, 1) := by decide +kernel
theorem dX4_leader_14 : decode cX4_leader 14 = .ok (.iload_n 3, 1) := by decide +kernel
theorem dX4_leader_15 : decode cX4_leader 15 = .ok (.iload_n 1, 1) := by decide +kernel
theorem dX4_leader_16 : decode cX4_leader 16 = .ok (.invokevirtual 89, 3) := by decide +kernel
theorem dX4_leader_19 : decode cX4_leader 19 = .ok (.ifCond .eq 7, 3) := by decide +kernel
theorem dX4_leader_22 : decode cX4_leader 22 = .ok (.iconst 1, 1) := by decide +kernel
theorem dX4_leader_23 : decode cX4_leader 23 = .ok (.goto 4, 3) := by decide +kernel
theorem dX4_leader_26 : decode cX4_leader 26 = .ok (.iconst 0, 1) := by decide +kernel
theorem dX4_leader_27 : decode cX4_leader 27 = .ok (.iadd, 1) := by decide +kernel
theorem dX4_leader_28 : decode cX4_leader 28 = .ok (.istore_n 2, 1) := by decide +kernel
theorem dX4_leader_29 : decode cX4_leader 29 = .ok (.iinc 3 1, 3) := by decide +kernel
theorem dX4_leader_32 : decode cX4_leader 32 = .ok (.goto (-28), 3) := by decide +kernel
theorem dX4_leader_35 : decode cX4_leader 35 = .ok (.iconst 0, 1) := by decide +kernel
theorem dX4_leader_36 : decode cX4_leader 36 = .ok (.istore_n 3, 1) := by decide +kernel
theorem dX4_leader_37 : decode cX4_leader 37 = .ok (.iload_n 3, 1) := by decide +kernel
theorem dX4_leader_38 : decode cX4_leader 38 = .ok (.aload_n 0, 1) := by decide +kernel
theorem dX4_leader_39 : decode cX4_leader 39 = .ok (.getfield 58, 3) := by decide +kernel
theorem dX4_leader_42 : decode cX4_leader 42 = .ok (.if_icmp .ge 88, 3) := by decide +kernel
theorem dX4_leader_45 : decode cX4_leader 45 = .ok (.aload_n 0, 1) := by decide +kernel
theorem dX4_leader_46 : decode cX4_leader 46 = .ok (.iload_n 3, 1) := by decide +kernel
theorem dX4_leader_47 : decode cX4_leader 47 = .ok (.iload_n 1, 1) := by decide +kernel
theorem dX4_leader_48 : decode cX4_leader 48 = .ok (.invokevirtual 89, 3) := by decide +kernel
theorem dX4_leader_51 : decode cX4_leader 51 = .ok (.ifCond .ne 6, 3) := by decide +kernel
theorem dX4_leader_54 : decode cX4_leader 54 = .ok (.goto 70, 3) := by decide +kernel
theorem dX4_leader_57 : decode cX4_leader 57 = .ok (.iconst 0, 1) := by decide +kernel
theorem dX4_leader_58 : decode cX4_leader 58 = .ok (.istore 4, 2) := by decide +kernel
theorem dX4_leader_60 : decode cX4_leader 60 = .ok (.iconst 0, 1) := by decide +kernel
theorem dX4_leader_61 : decode cX4_leader 61 = .ok (.istore 5, 2) := by decide +kernel
theorem dX4_leader_63 : decode cX4_leader 63 = .ok (.iload 5, 2) := by decide +kernel
theorem dX4_leader_65 : decode cX4_leader 65 = .ok (.aload_n 0, 1) := by decide +kernel
theorem dX4_leader_66 : decode cX4_leader 66 = .ok (.getfield 58, 3) := by decide +kernel
theorem dX4_leader_69 : decode cX4_leader 69 = .ok (.if_icmp .ge 45, 3) := by decide +kernel
theorem dX4_leader_72 : decode cX4_leader 72 = .ok (.iload 4, 2) := by decide +kernel
theorem dX4_leader_74 : decode cX4_leader 74 = .ok (.aload_n 0, 1) := by decide +kernel
theorem dX4_leader_75 : decode cX4_leader 75 = .ok (.iload 5, 2) := by decide +kernel
theorem dX4_leader_77 : decode cX4_leader 77 = .ok (.iload_n 1, 1) := by decide +kernel
theorem dX4_leader_78 : decode cX4_leader 78 = .ok (.invokevirtual 89, 3) := by decide +kernel
theorem dX4_leader_81 : decode cX4_leader 81 = .ok (.ifCond .eq 23, 3) := by decide +kernel
theorem dX4_leader_84 : decode cX4_leader 84 = .ok (.aload_n 0, 1) := by decide +kernel
theorem dX4_leader_85 : decode cX4_leader 85 = .ok (.iload 5, 2) := by decide +kernel
theorem dX4_leader_87 : decode cX4_leader 87 = .ok (.iload_n 1, 1) := by decide +kernel
theorem dX4_leader_88 : decode cX4_leader 88 = .ok (.invokevirtual 92, 3) := by decide +kernel
theorem dX4_leader_91 : decode cX4_leader 91 = .ok (.aload_n 0, 1) := by decide +kernel
theorem dX4_leader_92 : decode cX4_leader 92 = .ok (.iload_n 3, 1) := by decide +kernel
theorem dX4_leader_93 : decode cX4_leader 93 = .ok (.iload_n 1, 1) := by decide +kernel
theorem dX4_leader_94 : decode cX4_leader 94 = .ok (.invokevirtual 92, 3) := by decide +kernel
theorem dX4_leader_97 : decode cX4_leader 97 = .ok (.if_icmp .ne 7, 3) := by decide +kernel
theorem dX4_leader_100 : decode cX4_leader 100 = .ok (.iconst 1, 1) := by decide +kernel
theorem dX4_leader_101 : decode cX4_leader 101 = .ok (.goto 4, 3) := by decide +kernel
theorem dX4_leader_104 : decode cX4_leader 104 = .ok (.iconst 0, 1) := by decide +kernel
theorem dX4_leader_105 : decode cX4_leader 105 = .ok (.iadd, 1) := by decide +kernel
theorem dX4_leader_106 : decode cX4_leader 106 = .ok (.istore 4, 2) := by decide +kernel
theorem dX4_leader_108 : decode cX4_leader 108 = .ok (.iinc 5 1, 3) := by decide +kernel
theorem dX4_leader_111 : decode cX4_leader 111 = .ok (.goto (-48), 3) := by decide +kernel
theorem dX4_leader_114 : decode cX4_leader 114 = .ok (.iconst 2, 1) := by decide +kernel
theorem dX4_leader_115 : decode cX4_leader 115 = .ok (.iload 4, 2) := by decide +kernel
theorem dX4_leader_117 : decode cX4_leader 117 = .ok (.imul, 1) := by decide +kernel
theorem dX4_leader_118 : decode cX4_leader 118 = .ok (.iload_n 2, 1) := by decide +kernel
theorem dX4_leader_119 : decode cX4_leader 119 = .ok (.if_icmp .le 5, 3) := by decide +kernel
theorem dX4_leader_122 : decode cX4_leader 122 = .ok (.iload_n 3, 1) := by decide +kernel
theorem dX4_leader_123 : decode cX4_leader 123 = .ok (.ireturn, 1) := by decide +kernel
theorem dX4_leader_124 : decode cX4_leader 124 = .ok (.iinc 3 1, 3) := by decide +kernel
theorem dX4_leader_127 : decode cX4_leader 127 = .ok (.goto (-90), 3) := by decide +kernel
theorem dX4_leader_130 : decode cX4_leader 130 = .ok (.iconst (-1), 1) := by decide +kernel
theorem dX4_leader_131 : decode cX4_leader 131 = .ok (.ireturn, 1) := by decide +kernel
theorem dX4_poll_0 : decode cX4_poll 0 = .ok (.aload_n 0, 1) := by decide +kernel
theorem dX4_poll_1 : decode cX4_poll 1 = .ok (.iconst 0, 1) := by decide +kernel
theorem dX4_poll_2 : decode cX4_poll 2 = .ok (.putfield 55, 3) := by decide +kernel
theorem dX4_poll_5 : decode cX4_poll 5 = .ok (.iload_n 1, 1) := by decide +kernel
theorem dX4_poll_6 : decode cX4_poll 6 = .ok (.iconst 0, 1) := by decide +kernel
theorem dX4_poll_7 : decode cX4_poll 7 = .ok (.bipush 9, 2) := by decide +kernel
theorem dX4_poll_9 : decode cX4_poll 9 = .ok (.invokestatic 61, 3) := by decide +kernel
theorem dX4_poll_12 : decode cX4_poll 12 = .ok (.ifCond .ne 6, 3) := by decide +kernel
theorem dX4_poll_15 : decode cX4_poll 15 = .ok (.bipush (-2), 2) := by decide +kernel
theorem dX4_poll_17 : decode cX4_poll 17 = .ok (.ireturn, 1) := by decide +kernel
theorem dX4_poll_18 : decode cX4_poll 18 = .ok (.aload_n 0, 1) := by decide +kernel
theorem dX4_poll_19 : decode cX4_poll 19 = .ok (.iconst 0, 1) := by decide +kernel
theorem dX4_poll_20 : decode cX4_poll 20 = .ok (.putfield 96, 3) := by decide +kernel
theorem dX4_poll_23 : decode cX4_poll 23 = .ok (.lload_n 2, 1) := by decide +kernel
theorem dX4_poll_24 : decode cX4_poll 24 = .ok (.lstore 4, 2) := by decide +kernel
theorem dX4_poll_26 : decode cX4_poll 26 = .ok (.iconst 0, 1) := by decide +kernel
theorem dX4_poll_27 : decode cX4_poll 27 = .ok (.istore 6, 2) := by decide +kernel
theorem dX4_poll_29 : decode cX4_poll 29 = .ok (.iload 6, 2) := by decide +kernel
theorem dX4_poll_31 : decode cX4_poll 31 = .ok (.aload_n 0, 1) := by decide +kernel
theorem dX4_poll_32 : decode cX4_poll 32 = .ok (.getfield 65, 3) := by decide +kernel
theorem dX4_poll_35 : decode cX4_poll 35 = .ok (.if_icmp .ge 226, 3) := by decide +kernel
theorem dX4_poll_38 : decode cX4_poll 38 = .ok (.aload_n 0, 1) := by decide +kernel
theorem dX4_poll_39 : decode cX4_poll 39 = .ok (.getfield 27, 3) := by decide +kernel
theorem dX4_poll_42 : decode cX4_poll 42 = .ok (.iload 6, 2) := by decide +kernel
theorem dX4_poll_44 : decode cX4_poll 44 = .ok (.iaload, 1) := by decide +kernel
theorem dX4_poll_45 : decode cX4_poll 45 = .ok (.iload_n 1, 1) := by decide +kernel
theorem dX4_poll_46 : decode cX4_poll 46 = .ok (.if_icmp .eq 6, 3) := by decide +kernel
theorem dX4_poll_49 : decode cX4_poll 49 = .ok (.goto 206, 3) := by decide +kernel
theorem dX4_poll_52 : decode cX4_poll 52 = .ok (.iconst 0, 1) := by decide +kernel
theorem dX4_poll_53 : decode cX4_poll 53 = .ok (.istore 7, 2) := by decide +kernel
theorem dX4_poll_55 : decode cX4_poll 55 = .ok (.iconst 0, 1) := by decide +kernel
theorem dX4_poll_56 : decode cX4_poll 56 = .ok (.istore 8, 2) := by decide +kernel
theorem dX4_poll_58 : decode cX4_poll 58 = .ok (.iload 8, 2) := by decide +kernel
theorem dX4_poll_60 : decode cX4_poll 60 = .ok (.aload_n 0, 1) := by decide +kernel
theorem dX4_poll_61 : decode cX4_poll 61 = .ok (.getfield 58, 3) := by decide +kernel
theorem dX4_poll_64 : decode cX4_poll 64 = .ok (.if_icmp .ge 35, 3) := by decide +kernel
theorem dX4_poll_67 : decode cX4_poll 67 = .ok (.aload_n 0, 1) := by decide +kernel
theorem dX4_poll_68 : decode cX4_poll 68 = .ok (.iload 8, 2) := by decide +kernel
theorem dX4_poll_70 : decode cX4_poll 70 = .ok (.iload 6, 2) := by decide +kernel
theorem dX4_poll_72 : decode cX4_poll 72 = .ok (.invokevirtual 89, 3) := by decide +kernel
theorem dX4_poll_75 : decode cX4_poll 75 = .ok (.ifCond .ne 6, 3) := by decide +kernel
theorem dX4_poll_78 : decode cX4_poll 78 = .ok (.goto 15, 3) := by decide +kernel
theorem dX4_poll_81 : decode cX4_poll 81 = .ok (.aload_n 0, 1) := by decide +kernel
theorem dX4_poll_82 : decode cX4_poll 82 = .ok (.getfield 48, 3) := by decide +kernel
theorem dX4_poll_85 : decode cX4_poll 85 = .ok (.iload 7, 2) := by decide +kernel
theorem dX4_poll_87 : decode cX4_poll 87 = .ok (.iload 8, 2) := by decide +kernel
theorem dX4_poll_89 : decode cX4_poll 89 = .ok (.iastore, 1) := by decide +kernel
theorem dX4_poll_90 : decode cX4_poll 90 = .ok (.iinc 7 1, 3) := by decide +kernel
theorem dX4_poll_93 : decode cX4_poll 93 = .ok (.iinc 8 1, 3) := by decide +kernel
theorem dX4_poll_96 : decode cX4_poll 96 = .ok (.goto (-38), 3) := by decide +kernel
theorem dX4_poll_99 : decode cX4_poll 99 = .ok (.iload 7, 2) := by decide +kernel
theorem dX4_poll_101 : decode cX4_poll 101 = .ok (.iconst 1, 1) := by decide +kernel
theorem dX4_poll_102 : decode cX4_poll 102 = .ok (.isub, 1) := by decide +kernel
theorem dX4_poll_103 : decode cX4_poll 103 = .ok (.istore 8, 2) := by decide +kernel
theorem dX4_poll_105 : decode cX4_poll 105 = .ok (.iload 8, 2) := by decide +kernel
theorem dX4_poll_107 : decode cX4_poll 107 = .ok (.ifCond .le 67, 3) := by decide +kernel
theorem dX4_poll_110 : decode cX4_poll 110 = .ok (.lload 4, 2) := by decide +kernel
theorem dX4_poll_112 : decode cX4_poll 112 = .ok (.ldc2_w 99, 3) := by decide +kernel
theorem dX4_poll_115 : decode cX4_poll 115 = .ok (.lmul, 1) := by decide +kernel
theorem dX4_poll_116 : decode cX4_poll 116 = .ok (.ldc2_w 101, 3) := by decide +kernel
theorem dX4_poll_119 : decode cX4_poll 119 = .ok (.ladd, 1) := by decide +kernel
theorem dX4_poll_120 : decode cX4_poll 120 = .ok (.lstore 4, 2) := by decide +kernel
theorem dX4_poll_122 : decode cX4_poll 122 = .ok (.lload 4, 2) := by decide +kernel
theorem dX4_poll_124 : decode cX4_poll 124 = .ok (.bipush 33, 2) := by decide +kernel
theorem dX4_poll_126 : decode cX4_poll 126 = .ok (.lushr, 1) := by decide +kernel
theorem dX4_poll_127 : decode cX4_poll 127 = .ok (.iload 8, 2) := by decide +kernel
theorem dX4_poll_129 : decode cX4_poll 129 = .ok (.iconst 1, 1) := by decide +kernel
theorem dX4_poll_130 : decode cX4_poll 130 = .ok (.iadd, 1) := by decide +kernel
theorem dX4_poll_131 : decode cX4_poll 131 = .ok (.i2l, 1) := by decide +kernel
theorem dX4_poll_132 : decode cX4_poll 132 = .ok (.lrem, 1) := by decide +kernel
theorem dX4_poll_133 : decode cX4_poll 133 = .ok (.l2i, 1) := by decide +kernel
theorem dX4_poll_134 : decode cX4_poll 134 = .ok (.istore 9, 2) := by decide +kernel
theorem dX4_poll_136 : decode cX4_poll 136 = .ok (.aload_n 0, 1) := by decide +kernel
theorem dX4_poll_137 : decode cX4_poll 137 = .ok (.getfield 48, 3) := by decide +kernel
theorem dX4_poll_140 : decode cX4_poll 140 = .ok (.iload 8, 2) := by decide +kernel
theorem dX4_poll_142 : decode cX4_poll 142 = .ok (.iaload, 1) := by decide +kernel
theorem dX4_poll_143 : decode cX4_poll 143 = .ok (.istore 10, 2) := by decide +kernel
theorem dX4_poll_145 : decode cX4_poll 145 = .ok (.aload_n 0, 1) := by decide +kernel
theorem dX4_poll_146 : decode cX4_poll 146 = .ok (.getfield 48, 3) := by decide +kernel
theorem dX4_poll_149 : decode cX4_poll 149 = .ok (.iload 8, 2) := by decide +kernel
theorem dX4_poll_151 : decode cX4_poll 151 = .ok (.aload_n 0, 1) := by decide +kernel
theorem dX4_poll_152 : decode cX4_poll 152 = .ok (.getfield 48, 3) := by decide +kernel
theorem dX4_poll_155 : decode cX4_poll 155 = .ok (.iload 9, 2) := by decide +kernel
theorem dX4_poll_157 : decode cX4_poll 157 = .ok (.iaload, 1) := by decide +kernel
theorem dX4_poll_158 : decode cX4_poll 158 = .ok (.iastore, 1) := by decide +kernel
theorem dX4_poll_159 : decode cX4_poll 159 = .ok (.aload_n 0, 1) := by decide +kernel
theorem dX4_poll_160 : decode cX4_poll 160 = .ok (.getfield 48, 3) := by decide +kernel
theorem dX4_poll_163 : decode cX4_poll 163 = .ok (.iload 9, 2) := by decide +kernel
theorem dX4_poll_165 : decode cX4_poll 165 = .ok (.iload 10, 2) := by decide +kernel
theorem dX4_poll_167 : decode cX4_poll 167 = .ok (.iastore, 1) := by decide +kernel
theorem dX4_poll_168 : decode cX4_poll 168 = .ok (.iinc 8 (-1), 3) := by decide +kernel
theorem dX4_poll_171 : decode cX4_poll 171 = .ok (.goto (-66), 3) := by decide +kernel
theorem dX4_poll_174 : decode cX4_poll 174 = .ok (.iconst 0, 1) := by decide +kernel
theorem dX4_poll_175 : decode cX4_poll 175 = .ok (.istore 8, 2) := by decide +kernel
theorem dX4_poll_177 : decode cX4_poll 177 = .ok (.iload 8, 2) := by decide +kernel
theorem dX4_poll_179 : decode cX4_poll 179 = .ok (.iload 7, 2) := by decide +kernel
theorem dX4_poll_181 : decode cX4_poll 181 = .ok (.if_icmp .ge 74, 3) := by decide +kernel
theorem dX4_poll_184 : decode cX4_poll 184 = .ok (.iload 8, 2) := by decide +kernel
theorem dX4_poll_186 : decode cX4_poll 186 = .ok (.iconst 3, 1) := by decide +kernel
theorem dX4_poll_187 : decode cX4_poll 187 = .ok (.if_icmp .ge 68, 3) := by decide +kernel
theorem dX4_poll_190 : decode cX4_poll 190 = .ok (.aload_n 0, 1) := by decide +kernel
theorem dX4_poll_191 : decode cX4_poll 191 = .ok (.getfield 39, 3) := by decide +kernel
theorem dX4_poll_194 : decode cX4_poll 194 = .ok (.aload_n 0, 1) := by decide +kernel
theorem dX4_poll_195 : decode cX4_poll 195 = .ok (.getfield 96, 3) := by decide +kernel
theorem dX4_poll_198 : decode cX4_poll 198 = .ok (.iload 6, 2) := by decide +kernel
theorem dX4_poll_200 : decode cX4_poll 200 = .ok (.iastore, 1) := by decide +kernel
theorem dX4_poll_201 : decode cX4_poll 201 = .ok (.aload_n 0, 1) := by decide +kernel
theorem dX4_poll_202 : decode cX4_poll 202 = .ok (.getfield 42, 3) := by decide +kernel
theorem dX4_poll_205 : decode cX4_poll 205 = .ok (.aload_n 0, 1) := by decide +kernel
theorem dX4_poll_206 : decode cX4_poll 206 = .ok (.getfield 96, 3) := by decide +kernel
theorem dX4_poll_209 : decode cX4_poll 209 = .ok (.aload_n 0, 1) := by decide +kernel
theorem dX4_poll_210 : decode cX4_poll 210 = .ok (.getfield 48, 3) := by decide +kernel
theorem dX4_poll_213 : decode cX4_poll 213 = .ok (.iload 8, 2) := by decide +kernel
theorem dX4_poll_215 : decode cX4_poll 215 = .ok (.iaload, 1) := by decide +kernel
theorem dX4_poll_216 : decode cX4_poll 216 = .ok (.iastore, 1) := by decide +kernel
theorem dX4_poll_217 : decode cX4_poll 217 = .ok (.aload_n 0, 1) := by decide +kernel
theorem dX4_poll_218 : decode cX4_poll 218 = .ok (.getfield 45, 3) := by decide +kernel
theorem dX4_poll_221 : decode cX4_poll 221 = .ok (.aload_n 0, 1) := by decide +kernel
theorem dX4_poll_222 : decode cX4_poll 222 = .ok (.getfield 96, 3) := by decide +kernel
theorem dX4_poll_225 : decode cX4_poll 225 = .ok (.aload_n 0, 1) := by decide +kernel
theorem dX4_poll_226 : decode cX4_poll 226 = .ok (.aload_n 0, 1) := by decide +kernel
theorem dX4_poll_227 : decode cX4_poll 227 = .ok (.getfield 48, 3) := by decide +kernel
theorem dX4_poll_230 : decode cX4_poll 230 = .ok (.iload 8, 2) := by decide +kernel
theorem dX4_poll_232 : decode cX4_poll 232 = .ok (.iaload, 1) := by decide +kernel
theorem dX4_poll_233 : decode cX4_poll 233 = .ok (.iload 6, 2) := by decide +kernel
theorem dX4_poll_235 : decode cX4_poll 235 = .ok (.invokevirtual 92, 3) := by decide +kernel
theorem dX4_poll_238 : decode cX4_poll 238 = .ok (.iastore, 1) := by decide +kernel
theorem dX4_poll_239 : decode cX4_poll 239 = .ok (.aload_n 0, 1) := by decide +kernel
theorem dX4_poll_240 : decode cX4_poll 240 = .ok (.dup, 1) := by decide +kernel
theorem dX4_poll_241 : decode cX4_poll 241 = .ok (.getfield 96, 3) := by decide +kernel
theorem dX4_poll_244 : decode cX4_poll 244 = .ok (.iconst 1, 1) := by decide +kernel
theorem dX4_poll_245 : decode cX4_poll 245 = .ok (.iadd, 1) := by decide +kernel
theorem dX4_poll_246 : decode cX4_poll 246 = .ok (.putfield 96, 3) := by decide +kernel
theorem dX4_poll_249 : decode cX4_poll 249 = .ok (.iinc 8 1, 3) := by decide +kernel
theorem dX4_poll_252 : decode cX4_poll 252 = .ok (.goto (-75), 3) := by decide +kernel
theorem dX4_poll_255 : decode cX4_poll 255 = .ok (.iinc 6 1, 3) := by decide +kernel
theorem dX4_poll_258 : decode cX4_poll 258 = .ok (.goto (-229), 3) := by decide +kernel
theorem dX4_poll_261 : decode cX4_poll 261 = .ok (.aload_n 0, 1) := by decide +kernel
theorem dX4_poll_262 : decode cX4_poll 262 = .ok (.getfield 96, 3) := by decide +kernel
theorem dX4_poll_265 : decode cX4_poll 265 = .ok (.ireturn, 1) := by decide +kernel
theorem dX4_polled_0 : decode cX4_polled 0 = .ok (.aload_n 0, 1) := by decide +kernel
theorem dX4_polled_1 : decode cX4_polled 1 = .ok (.iload_n 1, 1) := by decide +kernel
theorem dX4_polled_2 : decode cX4_polled 2 = .ok (.iconst 0, 1) := by decide +kernel
theorem dX4_polled_3 : decode cX4_polled 3 = .ok (.aload_n 0, 1) := by decide +kernel
theorem dX4_polled_4 : decode cX4_polled 4 = .ok (.getfield 96, 3) := by decide +kernel
theorem dX4_polled_7 : decode cX4_polled 7 = .ok (.iconst 1, 1) := by decide +kernel
theorem dX4_polled_8 : decode cX4_polled 8 = .ok (.isub, 1) := by decide +kernel
theorem dX4_polled_9 : decode cX4_polled 9 = .ok (.invokestatic 61, 3) := by decide +kernel
theorem dX4_polled_12 : decode cX4_polled 12 = .ok (.ifCond .eq 7, 3) := by decide +kernel
theorem dX4_polled_15 : decode cX4_polled 15 = .ok (.iconst 0, 1) := by decide +kernel
theorem dX4_polled_16 : decode cX4_polled 16 = .ok (.goto 4, 3) := by decide +kernel
theorem dX4_polled_19 : decode cX4_polled 19 = .ok (.iconst 1, 1) := by decide +kernel
theorem dX4_polled_20 : decode cX4_polled 20 = .ok (.putfield 55, 3) := by decide +kernel
theorem dX4_polled_23 : decode cX4_polled 23 = .ok (.aload_n 0, 1) := by decide +kernel
theorem dX4_polled_24 : decode cX4_polled 24 = .ok (.getfield 55, 3) := by decide +kernel
theorem dX4_polled_27 : decode cX4_polled 27 = .ok (.ifCond .le 5, 3) := by decide +kernel
theorem dX4_polled_30 : decode cX4_polled 30 = .ok (.iconst 0, 1) := by decide +kernel
theorem dX4_polled_31 : decode cX4_polled 31 = .ok (.ireturn, 1) := by decide +kernel
theorem dX4_polled_32 : decode cX4_polled 32 = .ok (.iload_n 2, 1) := by decide +kernel
theorem dX4_polled_33 : decode cX4_polled 33 = .ok (.ifCond .ne 12, 3) := by decide +kernel
theorem dX4_polled_36 : decode cX4_polled 36 = .ok (.aload_n 0, 1) := by decide +kernel
theorem dX4_polled_37 : decode cX4_polled 37 = .ok (.getfield 39, 3) := by decide +kernel
theorem dX4_polled_40 : decode cX4_polled 40 = .ok (.iload_n 1, 1) := by decide +kernel
theorem dX4_polled_41 : decode cX4_polled 41 = .ok (.iaload, 1) := by decide +kernel
theorem dX4_polled_42 : decode cX4_polled 42 = .ok (.goto 32, 3) := by decide +kernel
theorem dX4_polled_45 : decode cX4_polled 45 = .ok (.iload_n 2, 1) := by decide +kernel
theorem dX4_polled_46 : decode cX4_polled 46 = .ok (.iconst 1, 1) := by decide +kernel
theorem dX4_polled_47 : decode cX4_polled 47 = .ok (.if_icmp .ne 12, 3) := by decide +kernel
theorem dX4_polled_50 : decode cX4_polled 50 = .ok (.aload_n 0, 1) := by decide +kernel
theorem dX4_polled_51 : decode cX4_polled 51 = .ok (.getfield 42, 3) := by decide +kernel
theorem dX4_polled_54 : decode cX4_polled 54 = .ok (.iload_n 1, 1) := by decide +kernel
theorem dX4_polled_55 : decode cX4_polled 55 = .ok (.iaload, 1) := by decide +kernel
theorem dX4_polled_56 : decode cX4_polled 56 = .ok (.goto 18, 3) := by decide +kernel
theorem dX4_polled_59 : decode cX4_polled 59 = .ok (.iload_n 2, 1) := by decide +kernel
theorem dX4_polled_60 : decode cX4_polled 60 = .ok (.iconst 2, 1) := by decide +kernel
theorem dX4_polled_61 : decode cX4_polled 61 = .ok (.if_icmp .ne 12, 3) := by decide +kernel
theorem dX4_polled_64 : decode cX4_polled 64 = .ok (.aload_n 0, 1) := by decide +kernel
theorem dX4_polled_65 : decode cX4_polled 65 = .ok (.getfield 45, 3) := by decide +kernel
theorem dX4_polled_68 : decode cX4_polled 68 = .ok (.iload_n 1, 1) := by decide +kernel
theorem dX4_polled_69 : decode cX4_polled 69 = .ok (.iaload, 1) := by decide +kernel
theorem dX4_polled_70 : decode cX4_polled 70 = .ok (.goto 4, 3) := by decide +kernel
theorem dX4_polled_73 : decode cX4_polled 73 = .ok (.iconst (-1), 1) := by decide +kernel
theorem dX4_polled_74 : decode cX4_polled 74 = .ok (.ireturn, 1) := by decide +kernel
theorem dX4_majority_0 : decode cX4_majority 0 = .ok (.aload_n 0, 1) := by decide +kernel
theorem dX4_majority_1 : decode cX4_majority 1 = .ok (.iconst 0, 1) := by decide +kernel
theorem dX4_majority_2 : decode cX4_majority 2 = .ok (.putfield 55, 3) := by decide +kernel
theorem dX4_majority_5 : decode cX4_majority 5 = .ok (.aload_n 0, 1) := by decide +kernel
theorem dX4_majority_6 : decode cX4_majority 6 = .ok (.iload_n 1, 1) := by decide +kernel
theorem dX4_majority_7 : decode cX4_majority 7 = .ok (.invokevirtual 72, 3) := by decide +kernel
theorem dX4_majority_10 : decode cX4_majority 10 = .ok (.ifCond .ne 5, 3) := by decide +kernel
theorem dX4_majority_13 : decode cX4_majority 13 = .ok (.iconst (-1), 1) := by decide +kernel
theorem dX4_majority_14 : decode cX4_majority 14 = .ok (.ireturn, 1) := by decide +kernel
theorem dX4_majority_15 : decode cX4_majority 15 = .ok (.aload_n 0, 1) := by decide +kernel
theorem dX4_majority_16 : decode cX4_majority 16 = .ok (.iload_n 1, 1) := by decide +kernel
theorem dX4_majority_17 : decode cX4_majority 17 = .ok (.invokevirtual 103, 3) := by decide +kernel
theorem dX4_majority_20 : decode cX4_majority 20 = .ok (.istore_n 2, 1) := by decide +kernel
theorem dX4_majority_21 : decode cX4_majority 21 = .ok (.aload_n 0, 1) := by decide +kernel
theorem dX4_majority_22 : decode cX4_majority 22 = .ok (.iload_n 2, 1) := by decide +kernel
theorem dX4_majority_23 : decode cX4_majority 23 = .ok (.ifCond .ge 7, 3) := by decide +kernel
theorem dX4_majority_26 : decode cX4_majority 26 = .ok (.iconst 0, 1) := by decide +kernel
theorem dX4_majority_27 : decode cX4_majority 27 = .ok (.goto 9, 3) := by decide +kernel
theorem dX4_majority_30 : decode cX4_majority 30 = .ok (.aload_n 0, 1) := by decide +kernel
theorem dX4_majority_31 : decode cX4_majority 31 = .ok (.iload_n 2, 1) := by decide +kernel
theorem dX4_majority_32 : decode cX4_majority 32 = .ok (.iload_n 1, 1) := by decide +kernel
theorem dX4_majority_33 : decode cX4_majority 33 = .ok (.invokevirtual 92, 3) := by decide +kernel
theorem dX4_majority_36 : decode cX4_majority 36 = .ok (.putfield 106, 3) := by decide +kernel
theorem dX4_majority_39 : decode cX4_majority 39 = .ok (.iload_n 2, 1) := by decide +kernel
theorem dX4_majority_40 : decode cX4_majority 40 = .ok (.ifCond .ge 7, 3) := by decide +kernel
theorem dX4_majority_43 : decode cX4_majority 43 = .ok (.iconst 0, 1) := by decide +kernel
theorem dX4_majority_44 : decode cX4_majority 44 = .ok (.goto 4, 3) := by decide +kernel
theorem dX4_majority_47 : decode cX4_majority 47 = .ok (.iconst 1, 1) := by decide +kernel
theorem dX4_majority_48 : decode cX4_majority 48 = .ok (.ireturn, 1) := by decide +kernel
theorem dX4_digest_0 : decode cX4_digest 0 = .ok (.aload_n 0, 1) := by decide +kernel
theorem dX4_digest_1 : decode cX4_digest 1 = .ok (.iconst 0, 1) := by decide +kernel
theorem dX4_digest_2 : decode cX4_digest 2 = .ok (.putfield 55, 3) := by decide +kernel
theorem dX4_digest_5 : decode cX4_digest 5 = .ok (.aload_n 0, 1) := by decide +kernel
theorem dX4_digest_6 : decode cX4_digest 6 = .ok (.getfield 106, 3) := by decide +kernel
theorem dX4_digest_9 : decode cX4_digest 9 = .ok (.ireturn, 1) := by decide +kernel
theorem dX4_copy_0 : decode cX4_copy 0 = .ok (.aload_n 0, 1) := by decide +kernel
theorem dX4_copy_1 : decode cX4_copy 1 = .ok (.getfield 33, 3) := by decide +kernel
theorem dX4_copy_4 : decode cX4_copy 4 = .ok (.bipush 40, 2) := by decide +kernel
theorem dX4_copy_6 : decode cX4_copy 6 = .ok (.iload_n 3, 1) := by decide +kernel
theorem dX4_copy_7 : decode cX4_copy 7 = .ok (.imul, 1) := by decide +kernel
theorem dX4_copy_8 : decode cX4_copy 8 = .ok (.iload_n 1, 1) := by decide +kernel
theorem dX4_copy_9 : decode cX4_copy 9 = .ok (.iadd, 1) := by decide +kernel
theorem dX4_copy_10 : decode cX4_copy 10 = .ok (.aload_n 0, 1) := by decide +kernel
theorem dX4_copy_11 : decode cX4_copy 11 = .ok (.getfield 33, 3) := by decide +kernel
theorem dX4_copy_14 : decode cX4_copy 14 = .ok (.bipush 40, 2) := by decide +kernel
theorem dX4_copy_16 : decode cX4_copy 16 = .ok (.iload_n 2, 1) := by decide +kernel
theorem dX4_copy_17 : decode cX4_copy 17 = .ok (.imul, 1) := by decide +kernel
theorem dX4_copy_18 : decode cX4_copy 18 = .ok (.iload_n 1, 1) := by decide +kernel
theorem dX4_copy_19 : decode cX4_copy 19 = .ok (.iadd, 1) := by decide +kernel
theorem dX4_copy_20 : decode cX4_copy 20 = .ok (.iaload, 1) := by decide +kernel
theorem dX4_copy_21 : decode cX4_copy 21 = .ok (.iastore, 1) := by decide +kernel
theorem dX4_copy_22 : decode cX4_copy 22 = .ok (.iconst 0, 1) := by decide +kernel
theorem dX4_copy_23 : decode cX4_copy 23 = .ok (.istore 4, 2) := by decide +kernel
theorem dX4_copy_25 : decode cX4_copy 25 = .ok (.iload 4, 2) := by decide +kernel
theorem dX4_copy_27 : decode cX4_copy 27 = .ok (.bipush 16, 2) := by decide +kernel
theorem dX4_copy_29 : decode cX4_copy 29 = .ok (.if_icmp .ge 43, 3) := by decide +kernel
theorem dX4_copy_32 : decode cX4_copy 32 = .ok (.aload_n 0, 1) := by decide +kernel
theorem dX4_copy_33 : decode cX4_copy 33 = .ok (.getfield 36, 3) := by decide +kernel
theorem dX4_copy_36 : decode cX4_copy 36 = .ok (.bipush 16, 2) := by decide +kernel
theorem dX4_copy_38 : decode cX4_copy 38 = .ok (.bipush 40, 2) := by decide +kernel
theorem dX4_copy_40 : decode cX4_copy 40 = .ok (.iload_n 3, 1) := by decide +kernel
theorem dX4_copy_41 : decode cX4_copy 41 = .ok (.imul, 1) := by decide +kernel
theorem dX4_copy_42 : decode cX4_copy 42 = .ok (.iload_n 1, 1) := by decide +kernel
theorem dX4_copy_43 : decode cX4_copy 43 = .ok (.iadd, 1) := by decide +kernel
theorem dX4_copy_44 : decode cX4_copy 44 = .ok (.imul, 1) := by decide +kernel
theorem dX4_copy_45 : decode cX4_copy 45 = .ok (.iload 4, 2) := by decide +kernel
theorem dX4_copy_47 : decode cX4_copy 47 = .ok (.iadd, 1) := by decide +kernel
theorem dX4_copy_48 : decode cX4_copy 48 = .ok (.aload_n 0, 1) := by decide +kernel
theorem dX4_copy_49 : decode cX4_copy 49 = .ok (.getfield 36, 3) := by decide +kernel
theorem dX4_copy_52 : decode cX4_copy 52 = .ok (.bipush 16, 2) := by decide +kernel
theorem dX4_copy_54 : decode cX4_copy 54 = .ok (.bipush 40, 2) := by decide +kernel
theorem dX4_copy_56 : decode cX4_copy 56 = .ok (.iload_n 2, 1) := by decide +kernel
theorem dX4_copy_57 : decode cX4_copy 57 = .ok (.imul, 1) := by decide +kernel
theorem dX4_copy_58 : decode cX4_copy 58 = .ok (.iload_n 1, 1) := by decide +kernel
theorem dX4_copy_59 : decode cX4_copy 59 = .ok (.iadd, 1) := by decide +kernel
theorem dX4_copy_60 : decode cX4_copy 60 = .ok (.imul, 1) := by decide +kernel
theorem dX4_copy_61 : decode cX4_copy 61 = .ok (.iload 4, 2) := by decide +kernel
theorem dX4_copy_63 : decode cX4_copy 63 = .ok (.iadd, 1) := by decide +kernel
theorem dX4_copy_64 : decode cX4_copy 64 = .ok (.baload, 1) := by decide +kernel
theorem dX4_copy_65 : decode cX4_copy 65 = .ok (.bastore, 1) := by decide +kernel
theorem dX4_copy_66 : decode cX4_copy 66 = .ok (.iinc 4 1, 3) := by decide +kernel
theorem dX4_copy_69 : decode cX4_copy 69 = .ok (.goto (-44), 3) := by decide +kernel
theorem dX4_copy_72 : decode cX4_copy 72 = .ok (.return_, 1) := by decide +kernel
theorem dX4_mend_0 : decode cX4_mend 0 = .ok (.aload_n 0, 1) := by decide +kernel
theorem dX4_mend_1 : decode cX4_mend 1 = .ok (.iconst 0, 1) := by decide +kernel
theorem dX4_mend_2 : decode cX4_mend 2 = .ok (.putfield 55, 3) := by decide +kernel
theorem dX4_mend_5 : decode cX4_mend 5 = .ok (.iload_n 1, 1) := by decide +kernel
theorem dX4_mend_6 : decode cX4_mend 6 = .ok (.iconst 0, 1) := by decide +kernel
theorem dX4_mend_7 : decode cX4_mend 7 = .ok (.bipush 9, 2) := by decide +kernel
theorem dX4_mend_9 : decode cX4_mend 9 = .ok (.invokestatic 61, 3) := by decide +kernel
theorem dX4_mend_12 : decode cX4_mend 12 = .ok (.ifCond .ne 6, 3) := by decide +kernel
theorem dX4_mend_15 : decode cX4_mend 15 = .ok (.bipush (-2), 2) := by decide +kernel
theorem dX4_mend_17 : decode cX4_mend 17 = .ok (.ireturn, 1) := by decide +kernel
theorem dX4_mend_18 : decode cX4_mend 18 = .ok (.iconst 0, 1) := by decide +kernel
theorem dX4_mend_19 : decode cX4_mend 19 = .ok (.istore_n 2, 1) := by decide +kernel
theorem dX4_mend_20 : decode cX4_mend 20 = .ok (.iconst 0, 1) := by decide +kernel
theorem dX4_mend_21 : decode cX4_mend 21 = .ok (.istore_n 3, 1) := by decide +kernel
theorem dX4_mend_22 : decode cX4_mend 22 = .ok (.iload_n 3, 1) := by decide +kernel
theorem dX4_mend_23 : decode cX4_mend 23 = .ok (.aload_n 0, 1) := by decide +kernel
theorem dX4_mend_24 : decode cX4_mend 24 = .ok (.getfield 65, 3) := by decide +kernel
theorem dX4_mend_27 : decode cX4_mend 27 = .ok (.if_icmp .ge 105, 3) := by decide +kernel
theorem dX4_mend_30 : decode cX4_mend 30 = .ok (.aload_n 0, 1) := by decide +kernel
theorem dX4_mend_31 : decode cX4_mend 31 = .ok (.getfield 27, 3) := by decide +kernel
theorem dX4_mend_34 : decode cX4_mend 34 = .ok (.iload_n 3, 1) := by decide +kernel
theorem dX4_mend_35 : decode cX4_mend 35 = .ok (.iaload, 1) := by decide +kernel
theorem dX4_mend_36 : decode cX4_mend 36 = .ok (.iload_n 1, 1) := by decide +kernel
theorem dX4_mend_37 : decode cX4_mend 37 = .ok (.if_icmp .ne 11, 3) := by decide +kernel
theorem dX4_mend_40 : decode cX4_mend 40 = .ok (.aload_n 0, 1) := by decide +kernel
theorem dX4_mend_41 : decode cX4_mend 41 = .ok (.iload_n 3, 1) := by decide +kernel
theorem dX4_mend_42 : decode cX4_mend 42 = .ok (.invokevirtual 103, 3) := by decide +kernel
theorem dX4_mend_45 : decode cX4_mend 45 = .ok (.goto 4, 3) := by decide +kernel
theorem dX4_mend_48 : decode cX4_mend 48 = .ok (.iconst (-1), 1) := by decide +kernel
theorem dX4_mend_49 : decode cX4_mend 49 = .ok (.istore 4, 2) := by decide +kernel
theorem dX4_mend_51 : decode cX4_mend 51 = .ok (.iconst 0, 1) := by decide +kernel
theorem dX4_mend_52 : decode cX4_mend 52 = .ok (.istore 5, 2) := by decide +kernel
theorem dX4_mend_54 : decode cX4_mend 54 = .ok (.iload 5, 2) := by decide +kernel
theorem dX4_mend_56 : decode cX4_mend 56 = .ok (.aload_n 0, 1) := by decide +kernel
theorem dX4_mend_57 : decode cX4_mend 57 = .ok (.getfield 58, 3) := by decide +kernel
theorem dX4_mend_60 : decode cX4_mend 60 = .ok (.if_icmp .ge 66, 3) := by decide +kernel
theorem dX4_mend_63 : decode cX4_mend 63 = .ok (.iload 4, 2) := by decide +kernel
theorem dX4_mend_65 : decode cX4_mend 65 = .ok (.ifCond .lt 61, 3) := by decide +kernel
theorem dX4_mend_68 : decode cX4_mend 68 = .ok (.aload_n 0, 1) := by decide +kernel
theorem dX4_mend_69 : decode cX4_mend 69 = .ok (.iload 5, 2) := by decide +kernel
theorem dX4_mend_71 : decode cX4_mend 71 = .ok (.iload_n 3, 1) := by decide +kernel
theorem dX4_mend_72 : decode cX4_mend 72 = .ok (.invokevirtual 89, 3) := by decide +kernel
theorem dX4_mend_75 : decode cX4_mend 75 = .ok (.ifCond .eq 45, 3) := by decide +kernel
theorem dX4_mend_78 : decode cX4_mend 78 = .ok (.aload_n 0, 1) := by decide +kernel
theorem dX4_mend_79 : decode cX4_mend 79 = .ok (.iload 5, 2) := by decide +kernel
theorem dX4_mend_81 : decode cX4_mend 81 = .ok (.iload_n 3, 1) := by decide +kernel
theorem dX4_mend_82 : decode cX4_mend 82 = .ok (.invokevirtual 92, 3) := by decide +kernel
theorem dX4_mend_85 : decode cX4_mend 85 = .ok (.aload_n 0, 1) := by decide +kernel
theorem dX4_mend_86 : decode cX4_mend 86 = .ok (.iload 4, 2) := by decide +kernel
theorem dX4_mend_88 : decode cX4_mend 88 = .ok (.iload_n 3, 1) := by decide +kernel
theorem dX4_mend_89 : decode cX4_mend 89 = .ok (.invokevirtual 92, 3) := by decide +kernel
theorem dX4_mend_92 : decode cX4_mend 92 = .ok (.if_icmp .ne 6, 3) := by decide +kernel
theorem dX4_mend_95 : decode cX4_mend 95 = .ok (.goto 25, 3) := by decide +kernel
theorem dX4_mend_98 : decode cX4_mend 98 = .ok (.aload_n 0, 1) := by decide +kernel
theorem dX4_mend_99 : decode cX4_mend 99 = .ok (.iload_n 3, 1) := by decide +kernel
theorem dX4_mend_100 : decode cX4_mend 100 = .ok (.iload 4, 2) := by decide +kernel
theorem dX4_mend_102 : decode cX4_mend 102 = .ok (.iload 5, 2) := by decide +kernel
theorem dX4_mend_104 : decode cX4_mend 104 = .ok (.invokevirtual 109, 3) := by decide +kernel
theorem dX4_mend_107 : decode cX4_mend 107 = .ok (.aload_n 0, 1) := by decide +kernel
theorem dX4_mend_108 : decode cX4_mend 108 = .ok (.getfield 30, 3) := by decide +kernel
theorem dX4_mend_111 : decode cX4_mend 111 = .ok (.iload_n 3, 1) := by decide +kernel
theorem dX4_mend_112 : decode cX4_mend 112 = .ok (.dup2, 1) := by decide +kernel
theorem dX4_mend_113 : decode cX4_mend 113 = .ok (.iaload, 1) := by decide +kernel
theorem dX4_mend_114 : decode cX4_mend 114 = .ok (.iconst 1, 1) := by decide +kernel
theorem dX4_mend_115 : decode cX4_mend 115 = .ok (.iadd, 1) := by decide +kernel
theorem dX4_mend_116 : decode cX4_mend 116 = .ok (.iastore, 1) := by decide +kernel
theorem dX4_mend_117 : decode cX4_mend 117 = .ok (.iinc 2 1, 3) := by decide +kernel
theorem dX4_mend_120 : decode cX4_mend 120 = .ok (.iinc 5 1, 3) := by decide +kernel
theorem dX4_mend_123 : decode cX4_mend 123 = .ok (.goto (-69), 3) := by decide +kernel
theorem dX4_mend_126 : decode cX4_mend 126 = .ok (.iinc 3 1, 3) := by decide +kernel
theorem dX4_mend_129 : decode cX4_mend 129 = .ok (.goto (-107), 3) := by decide +kernel
theorem dX4_mend_132 : decode cX4_mend 132 = .ok (.iload_n 2, 1) := by decide +kernel
theorem dX4_mend_133 : decode cX4_mend 133 = .ok (.ireturn, 1) := by decide +kernel
theorem dX4_stale_0 : decode cX4_stale 0 = .ok (.aload_n 0, 1) := by decide +kernel
theorem dX4_stale_1 : decode cX4_stale 1 = .ok (.iconst 0, 1) := by decide +kernel
theorem dX4_stale_2 : decode cX4_stale 2 = .ok (.putfield 55, 3) := by decide +kernel
theorem dX4_stale_5 : decode cX4_stale 5 = .ok (.aload_n 0, 1) := by decide +kernel
theorem dX4_stale_6 : decode cX4_stale 6 = .ok (.iload_n 1, 1) := by decide +kernel
theorem dX4_stale_7 : decode cX4_stale 7 = .ok (.iload_n 2, 1) := by decide +kernel
theorem dX4_stale_8 : decode cX4_stale 8 = .ok (.invokevirtual 75, 3) := by decide +kernel
theorem dX4_stale_11 : decode cX4_stale 11 = .ok (.ifCond .ne 5, 3) := by decide +kernel
theorem dX4_stale_14 : decode cX4_stale 14 = .ok (.iconst (-1), 1) := by decide +kernel
theorem dX4_stale_15 : decode cX4_stale 15 = .ok (.ireturn, 1) := by decide +kernel
theorem dX4_stale_16 : decode cX4_stale 16 = .ok (.aload_n 0, 1) := by decide +kernel
theorem dX4_stale_17 : decode cX4_stale 17 = .ok (.iload_n 2, 1) := by decide +kernel
theorem dX4_stale_18 : decode cX4_stale 18 = .ok (.invokevirtual 103, 3) := by decide +kernel
theorem dX4_stale_21 : decode cX4_stale 21 = .ok (.istore_n 3, 1) := by decide +kernel
theorem dX4_stale_22 : decode cX4_stale 22 = .ok (.iload_n 3, 1) := by decide +kernel
theorem dX4_stale_23 : decode cX4_stale 23 = .ok (.ifCond .lt 22, 3) := by decide +kernel
theorem dX4_stale_26 : decode cX4_stale 26 = .ok (.aload_n 0, 1) := by decide +kernel
theorem dX4_stale_27 : decode cX4_stale 27 = .ok (.iload_n 3, 1) := by decide +kernel
theorem dX4_stale_28 : decode cX4_stale 28 = .ok (.iload_n 2, 1) := by decide +kernel
theorem dX4_stale_29 : decode cX4_stale 29 = .ok (.invokevirtual 92, 3) := by decide +kernel
theorem dX4_stale_32 : decode cX4_stale 32 = .ok (.aload_n 0, 1) := by decide +kernel
theorem dX4_stale_33 : decode cX4_stale 33 = .ok (.iload_n 1, 1) := by decide +kernel
theorem dX4_stale_34 : decode cX4_stale 34 = .ok (.iload_n 2, 1) := by decide +kernel
theorem dX4_stale_35 : decode cX4_stale 35 = .ok (.invokevirtual 92, 3) := by decide +kernel
theorem dX4_stale_38 : decode cX4_stale 38 = .ok (.if_icmp .eq 7, 3) := by decide +kernel
theorem dX4_stale_41 : decode cX4_stale 41 = .ok (.iconst 1, 1) := by decide +kernel
theorem dX4_stale_42 : decode cX4_stale 42 = .ok (.goto 4, 3) := by decide +kernel
theorem dX4_stale_45 : decode cX4_stale 45 = .ok (.iconst 0, 1) := by decide +kernel
theorem dX4_stale_46 : decode cX4_stale 46 = .ok (.ireturn, 1) := by decide +kernel
theorem dX4_copiesOf_0 : decode cX4_copiesOf 0 = .ok (.iconst 0, 1) := by decide +kernel
theorem dX4_copiesOf_1 : decode cX4_copiesOf 1 = .ok (.istore_n 3, 1) := by decide +kernel
theorem dX4_copiesOf_2 : decode cX4_copiesOf 2 = .ok (.iconst 0, 1) := by decide +kernel
theorem dX4_copiesOf_3 : decode cX4_copiesOf 3 = .ok (.istore 4, 2) := by decide +kernel
theorem dX4_copiesOf_5 : decode cX4_copiesOf 5 = .ok (.iload 4, 2) := by decide +kernel
theorem dX4_copiesOf_7 : decode cX4_copiesOf 7 = .ok (.aload_n 0, 1) := by decide +kernel
theorem dX4_copiesOf_8 : decode cX4_copiesOf 8 = .ok (.getfield 58, 3) := by decide +kernel
theorem dX4_copiesOf_11 : decode cX4_copiesOf 11 = .ok (.if_icmp .ge 41, 3) := by decide +kernel
theorem dX4_copiesOf_14 : decode cX4_copiesOf 14 = .ok (.iload_n 3, 1) := by decide +kernel
theorem dX4_copiesOf_15 : decode cX4_copiesOf 15 = .ok (.aload_n 0, 1) := by decide +kernel
theorem dX4_copiesOf_16 : decode cX4_copiesOf 16 = .ok (.iload 4, 2) := by decide +kernel
theorem dX4_copiesOf_18 : decode cX4_copiesOf 18 = .ok (.iload_n 1, 1) := by decide +kernel
theorem dX4_copiesOf_19 : decode cX4_copiesOf 19 = .ok (.invokevirtual 75, 3) := by decide +kernel
theorem dX4_copiesOf_22 : decode cX4_copiesOf 22 = .ok (.ifCond .eq 21, 3) := by decide +kernel
theorem dX4_copiesOf_25 : decode cX4_copiesOf 25 = .ok (.iload_n 2, 1) := by decide +kernel
theorem dX4_copiesOf_26 : decode cX4_copiesOf 26 = .ok (.ifCond .ne 13, 3) := by decide +kernel
theorem dX4_copiesOf_29 : decode cX4_copiesOf 29 = .ok (.aload_n 0, 1) := by decide +kernel
theorem dX4_copiesOf_30 : decode cX4_copiesOf 30 = .ok (.getfield 13, 3) := by decide +kernel
theorem dX4_copiesOf_33 : decode cX4_copiesOf 33 = .ok (.iload 4, 2) := by decide +kernel
theorem dX4_copiesOf_35 : decode cX4_copiesOf 35 = .ok (.baload, 1) := by decide +kernel
theorem dX4_copiesOf_36 : decode cX4_copiesOf 36 = .ok (.ifCond .ne 7, 3) := by decide +kernel
theorem dX4_copiesOf_39 : decode cX4_copiesOf 39 = .ok (.iconst 1, 1) := by decide +kernel
theorem dX4_copiesOf_40 : decode cX4_copiesOf 40 = .ok (.goto 4, 3) := by decide +kernel
theorem dX4_copiesOf_43 : decode cX4_copiesOf 43 = .ok (.iconst 0, 1) := by decide +kernel
theorem dX4_copiesOf_44 : decode cX4_copiesOf 44 = .ok (.iadd, 1) := by decide +kernel
theorem dX4_copiesOf_45 : decode cX4_copiesOf 45 = .ok (.istore_n 3, 1) := by decide +kernel
theorem dX4_copiesOf_46 : decode cX4_copiesOf 46 = .ok (.iinc 4 1, 3) := by decide +kernel
theorem dX4_copiesOf_49 : decode cX4_copiesOf 49 = .ok (.goto (-44), 3) := by decide +kernel
theorem dX4_copiesOf_52 : decode cX4_copiesOf 52 = .ok (.iload_n 3, 1) := by decide +kernel
theorem dX4_copiesOf_53 : decode cX4_copiesOf 53 = .ok (.ireturn, 1) := by decide +kernel
theorem dX4_fill_0 : decode cX4_fill 0 = .ok (.aload_n 0, 1) := by decide +kernel
theorem dX4_fill_1 : decode cX4_fill 1 = .ok (.iconst 0, 1) := by decide +kernel
theorem dX4_fill_2 : decode cX4_fill 2 = .ok (.putfield 55, 3) := by decide +kernel
theorem dX4_fill_5 : decode cX4_fill 5 = .ok (.aload_n 0, 1) := by decide +kernel
theorem dX4_fill_6 : decode cX4_fill 6 = .ok (.iload_n 1, 1) := by decide +kernel
theorem dX4_fill_7 : decode cX4_fill 7 = .ok (.invokevirtual 68, 3) := by decide +kernel
theorem dX4_fill_10 : decode cX4_fill 10 = .ok (.ifCond .ne 5, 3) := by decide +kernel
theorem dX4_fill_13 : decode cX4_fill 13 = .ok (.iconst (-1), 1) := by decide +kernel
theorem dX4_fill_14 : decode cX4_fill 14 = .ok (.ireturn, 1) := by decide +kernel
theorem dX4_fill_15 : decode cX4_fill 15 = .ok (.aload_n 0, 1) := by decide +kernel
theorem dX4_fill_16 : decode cX4_fill 16 = .ok (.getfield 13, 3) := by decide +kernel
theorem dX4_fill_19 : decode cX4_fill 19 = .ok (.iload_n 1, 1) := by decide +kernel
theorem dX4_fill_20 : decode cX4_fill 20 = .ok (.baload, 1) := by decide +kernel
theorem dX4_fill_21 : decode cX4_fill 21 = .ok (.ifCond .eq 6, 3) := by decide +kernel
theorem dX4_fill_24 : decode cX4_fill 24 = .ok (.bipush (-3), 2) := by decide +kernel
theorem dX4_fill_26 : decode cX4_fill 26 = .ok (.ireturn, 1) := by decide +kernel
theorem dX4_fill_27 : decode cX4_fill 27 = .ok (.iconst 0, 1) := by decide +kernel
theorem dX4_fill_28 : decode cX4_fill 28 = .ok (.istore_n 2, 1) := by decide +kernel
theorem dX4_fill_29 : decode cX4_fill 29 = .ok (.iconst 0, 1) := by decide +kernel
theorem dX4_fill_30 : decode cX4_fill 30 = .ok (.istore_n 3, 1) := by decide +kernel
theorem dX4_fill_31 : decode cX4_fill 31 = .ok (.iload_n 3, 1) := by decide +kernel
theorem dX4_fill_32 : decode cX4_fill 32 = .ok (.aload_n 0, 1) := by decide +kernel
theorem dX4_fill_33 : decode cX4_fill 33 = .ok (.getfield 65, 3) := by decide +kernel
theorem dX4_fill_36 : decode cX4_fill 36 = .ok (.if_icmp .ge 67, 3) := by decide +kernel
theorem dX4_fill_39 : decode cX4_fill 39 = .ok (.aload_n 0, 1) := by decide +kernel
theorem dX4_fill_40 : decode cX4_fill 40 = .ok (.iload_n 3, 1) := by decide +kernel
theorem dX4_fill_41 : decode cX4_fill 41 = .ok (.invokevirtual 103, 3) := by decide +kernel
theorem dX4_fill_44 : decode cX4_fill 44 = .ok (.istore 4, 2) := by decide +kernel
theorem dX4_fill_46 : decode cX4_fill 46 = .ok (.iload 4, 2) := by decide +kernel
theorem dX4_fill_48 : decode cX4_fill 48 = .ok (.ifCond .lt 49, 3) := by decide +kernel
theorem dX4_fill_51 : decode cX4_fill 51 = .ok (.aload_n 0, 1) := by decide +kernel
theorem dX4_fill_52 : decode cX4_fill 52 = .ok (.iload_n 1, 1) := by decide +kernel
theorem dX4_fill_53 : decode cX4_fill 53 = .ok (.iload_n 3, 1) := by decide +kernel
theorem dX4_fill_54 : decode cX4_fill 54 = .ok (.invokevirtual 75, 3) := by decide +kernel
theorem dX4_fill_57 : decode cX4_fill 57 = .ok (.ifCond .ne 40, 3) := by decide +kernel
theorem dX4_fill_60 : decode cX4_fill 60 = .ok (.aload_n 0, 1) := by decide +kernel
theorem dX4_fill_61 : decode cX4_fill 61 = .ok (.iload_n 3, 1) := by decide +kernel
theorem dX4_fill_62 : decode cX4_fill 62 = .ok (.iconst 1, 1) := by decide +kernel
theorem dX4_fill_63 : decode cX4_fill 63 = .ok (.invokevirtual 113, 3) := by decide +kernel
theorem dX4_fill_66 : decode cX4_fill 66 = .ok (.aload_n 0, 1) := by decide +kernel
theorem dX4_fill_67 : decode cX4_fill 67 = .ok (.getfield 51, 3) := by decide +kernel
theorem dX4_fill_70 : decode cX4_fill 70 = .ok (.if_icmp .lt 6, 3) := by decide +kernel
theorem dX4_fill_73 : decode cX4_fill 73 = .ok (.goto 24, 3) := by decide +kernel
theorem dX4_fill_76 : decode cX4_fill 76 = .ok (.aload_n 0, 1) := by decide +kernel
theorem dX4_fill_77 : decode cX4_fill 77 = .ok (.iload_n 3, 1) := by decide +kernel
theorem dX4_fill_78 : decode cX4_fill 78 = .ok (.iload 4, 2) := by decide +kernel
theorem dX4_fill_80 : decode cX4_fill 80 = .ok (.iload_n 1, 1) := by decide +kernel
theorem dX4_fill_81 : decode cX4_fill 81 = .ok (.invokevirtual 109, 3) := by decide +kernel
theorem dX4_fill_84 : decode cX4_fill 84 = .ok (.aload_n 0, 1) := by decide +kernel
theorem dX4_fill_85 : decode cX4_fill 85 = .ok (.getfield 30, 3) := by decide +kernel
theorem dX4_fill_88 : decode cX4_fill 88 = .ok (.iload_n 3, 1) := by decide +kernel
theorem dX4_fill_89 : decode cX4_fill 89 = .ok (.dup2, 1) := by decide +kernel
theorem dX4_fill_90 : decode cX4_fill 90 = .ok (.iaload, 1) := by decide +kernel
theorem dX4_fill_91 : decode cX4_fill 91 = .ok (.iconst 1, 1) := by decide +kernel
theorem dX4_fill_92 : decode cX4_fill 92 = .ok (.iadd, 1) := by decide +kernel
theorem dX4_fill_93 : decode cX4_fill 93 = .ok (.iastore, 1) := by decide +kernel
theorem dX4_fill_94 : decode cX4_fill 94 = .ok (.iinc 2 1, 3) := by decide +kernel
theorem dX4_fill_97 : decode cX4_fill 97 = .ok (.iinc 3 1, 3) := by decide +kernel
theorem dX4_fill_100 : decode cX4_fill 100 = .ok (.goto (-69), 3) := by decide +kernel
theorem dX4_fill_103 : decode cX4_fill 103 = .ok (.iload_n 2, 1) := by decide +kernel
theorem dX4_fill_104 : decode cX4_fill 104 = .ok (.ireturn, 1) := by decide +kernel
theorem dX4_move_0 : decode cX4_move 0 = .ok (.aload_n 0, 1) := by decide +kernel
theorem dX4_move_1 : decode cX4_move 1 = .ok (.iconst 0, 1) := by decide +kernel
theorem dX4_move_2 : decode cX4_move 2 = .ok (.putfield 55, 3) := by decide +kernel
theorem dX4_move_5 : decode cX4_move 5 = .ok (.aload_n 0, 1) := by decide +kernel
theorem dX4_move_6 : decode cX4_move 6 = .ok (.iload_n 2, 1) := by decide +kernel
theorem dX4_move_7 : decode cX4_move 7 = .ok (.iload_n 1, 1) := by decide +kernel
theorem dX4_move_8 : decode cX4_move 8 = .ok (.invokevirtual 75, 3) := by decide +kernel
theorem dX4_move_11 : decode cX4_move 11 = .ok (.ifCond .eq 11, 3) := by decide +kernel
theorem dX4_move_14 : decode cX4_move 14 = .ok (.aload_n 0, 1) := by decide +kernel
theorem dX4_move_15 : decode cX4_move 15 = .ok (.iload_n 3, 1) := by decide +kernel
theorem dX4_move_16 : decode cX4_move 16 = .ok (.invokevirtual 68, 3) := by decide +kernel
theorem dX4_move_19 : decode cX4_move 19 = .ok (.ifCond .ne 5, 3) := by decide +kernel
theorem dX4_move_22 : decode cX4_move 22 = .ok (.iconst (-1), 1) := by decide +kernel
theorem dX4_move_23 : decode cX4_move 23 = .ok (.ireturn, 1) := by decide +kernel
theorem dX4_move_24 : decode cX4_move 24 = .ok (.iload_n 2, 1) := by decide +kernel
theorem dX4_move_25 : decode cX4_move 25 = .ok (.iload_n 3, 1) := by decide +kernel
theorem dX4_move_26 : decode cX4_move 26 = .ok (.if_icmp .eq 30, 3) := by decide +kernel
theorem dX4_move_29 : decode cX4_move 29 = .ok (.aload_n 0, 1) := by decide +kernel
theorem dX4_move_30 : decode cX4_move 30 = .ok (.getfield 13, 3) := by decide +kernel
theorem dX4_move_33 : decode cX4_move 33 = .ok (.iload_n 2, 1) := by decide +kernel
theorem dX4_move_34 : decode cX4_move 34 = .ok (.baload, 1) := by decide +kernel
theorem dX4_move_35 : decode cX4_move 35 = .ok (.ifCond .ne 21, 3) := by decide +kernel
theorem dX4_move_38 : decode cX4_move 38 = .ok (.aload_n 0, 1) := by decide +kernel
theorem dX4_move_39 : decode cX4_move 39 = .ok (.getfield 13, 3) := by decide +kernel
theorem dX4_move_42 : decode cX4_move 42 = .ok (.iload_n 3, 1) := by decide +kernel
theorem dX4_move_43 : decode cX4_move 43 = .ok (.baload, 1) := by decide +kernel
theorem dX4_move_44 : decode cX4_move 44 = .ok (.ifCond .ne 12, 3) := by decide +kernel
theorem dX4_move_47 : decode cX4_move 47 = .ok (.aload_n 0, 1) := by decide +kernel
theorem dX4_move_48 : decode cX4_move 48 = .ok (.iload_n 3, 1) := by decide +kernel
theorem dX4_move_49 : decode cX4_move 49 = .ok (.iload_n 1, 1) := by decide +kernel
theorem dX4_move_50 : decode cX4_move 50 = .ok (.invokevirtual 75, 3) := by decide +kernel
theorem dX4_move_53 : decode cX4_move 53 = .ok (.ifCond .eq 6, 3) := by decide +kernel
theorem dX4_move_56 : decode cX4_move 56 = .ok (.bipush (-3), 2) := by decide +kernel
theorem dX4_move_58 : decode cX4_move 58 = .ok (.ireturn, 1) := by decide +kernel
theorem dX4_move_59 : decode cX4_move 59 = .ok (.aload_n 0, 1) := by decide +kernel
theorem dX4_move_60 : decode cX4_move 60 = .ok (.iload_n 1, 1) := by decide +kernel
theorem dX4_move_61 : decode cX4_move 61 = .ok (.iload_n 2, 1) := by decide +kernel
theorem dX4_move_62 : decode cX4_move 62 = .ok (.iload_n 3, 1) := by decide +kernel
theorem dX4_move_63 : decode cX4_move 63 = .ok (.invokevirtual 109, 3) := by decide +kernel
theorem dX4_move_66 : decode cX4_move 66 = .ok (.aload_n 0, 1) := by decide +kernel
theorem dX4_move_67 : decode cX4_move 67 = .ok (.getfield 33, 3) := by decide +kernel
theorem dX4_move_70 : decode cX4_move 70 = .ok (.bipush 40, 2) := by decide +kernel
theorem dX4_move_72 : decode cX4_move 72 = .ok (.iload_n 2, 1) := by decide +kernel
theorem dX4_move_73 : decode cX4_move 73 = .ok (.imul, 1) := by decide +kernel
theorem dX4_move_74 : decode cX4_move 74 = .ok (.iload_n 1, 1) := by decide +kernel
theorem dX4_move_75 : decode cX4_move 75 = .ok (.iadd, 1) := by decide +kernel
theorem dX4_move_76 : decode cX4_move 76 = .ok (.iconst (-1), 1) := by decide +kernel
theorem dX4_move_77 : decode cX4_move 77 = .ok (.iastore, 1) := by decide +kernel
theorem dX4_move_78 : decode cX4_move 78 = .ok (.iconst 1, 1) := by decide +kernel
theorem dX4_move_79 : decode cX4_move 79 = .ok (.ireturn, 1) := by decide +kernel
theorem dX4_rate_0 : decode cX4_rate 0 = .ok (.aload_n 0, 1) := by decide +kernel
theorem dX4_rate_1 : decode cX4_rate 1 = .ok (.iconst 0, 1) := by decide +kernel
theorem dX4_rate_2 : decode cX4_rate 2 = .ok (.putfield 55, 3) := by decide +kernel
theorem dX4_rate_5 : decode cX4_rate 5 = .ok (.aload_n 0, 1) := by decide +kernel
theorem dX4_rate_6 : decode cX4_rate 6 = .ok (.iload_n 1, 1) := by decide +kernel
theorem dX4_rate_7 : decode cX4_rate 7 = .ok (.invokevirtual 68, 3) := by decide +kernel
theorem dX4_rate_10 : decode cX4_rate 10 = .ok (.ifCond .ne 5, 3) := by decide +kernel
theorem dX4_rate_13 : decode cX4_rate 13 = .ok (.iconst (-1), 1) := by decide +kernel
theorem dX4_rate_14 : decode cX4_rate 14 = .ok (.ireturn, 1) := by decide +kernel
theorem dX4_rate_15 : decode cX4_rate 15 = .ok (.iload_n 3, 1) := by decide +kernel
theorem dX4_rate_16 : decode cX4_rate 16 = .ok (.iconst 1, 1) := by decide +kernel
theorem dX4_rate_17 : decode cX4_rate 17 = .ok (.sipush 1000, 3) := by decide +kernel
theorem dX4_rate_20 : decode cX4_rate 20 = .ok (.invokestatic 61, 3) := by decide +kernel
theorem dX4_rate_23 : decode cX4_rate 23 = .ok (.ifCond .eq 12, 3) := by decide +kernel
theorem dX4_rate_26 : decode cX4_rate 26 = .ok (.iload_n 2, 1) := by decide +kernel
theorem dX4_rate_27 : decode cX4_rate 27 = .ok (.iconst 0, 1) := by decide +kernel
theorem dX4_rate_28 : decode cX4_rate 28 = .ok (.iload_n 3, 1) := by decide +kernel
theorem dX4_rate_29 : decode cX4_rate 29 = .ok (.invokestatic 61, 3) := by decide +kernel
theorem dX4_rate_32 : decode cX4_rate 32 = .ok (.ifCond .ne 6, 3) := by decide +kernel
theorem dX4_rate_35 : decode cX4_rate 35 = .ok (.bipush (-2), 2) := by decide +kernel
theorem dX4_rate_37 : decode cX4_rate 37 = .ok (.ireturn, 1) := by decide +kernel
theorem dX4_rate_38 : decode cX4_rate 38 = .ok (.aload_n 0, 1) := by decide +kernel
theorem dX4_rate_39 : decode cX4_rate 39 = .ok (.getfield 17, 3) := by decide +kernel
theorem dX4_rate_42 : decode cX4_rate 42 = .ok (.iload_n 1, 1) := by decide +kernel
theorem dX4_rate_43 : decode cX4_rate 43 = .ok (.iload_n 2, 1) := by decide +kernel
theorem dX4_rate_44 : decode cX4_rate 44 = .ok (.iastore, 1) := by decide +kernel
theorem dX4_rate_45 : decode cX4_rate 45 = .ok (.aload_n 0, 1) := by decide +kernel
theorem dX4_rate_46 : decode cX4_rate 46 = .ok (.getfield 20, 3) := by decide +kernel
theorem dX4_rate_49 : decode cX4_rate 49 = .ok (.iload_n 1, 1) := by decide +kernel
theorem dX4_rate_50 : decode cX4_rate 50 = .ok (.iload_n 3, 1) := by decide +kernel
theorem dX4_rate_51 : decode cX4_rate 51 = .ok (.iastore, 1) := by decide +kernel
theorem dX4_rate_52 : decode cX4_rate 52 = .ok (.iconst 1, 1) := by decide +kernel
theorem dX4_rate_53 : decode cX4_rate 53 = .ok (.ireturn, 1) := by decide +kernel
theorem dX4_odds_0 : decode cX4_odds 0 = .ok (.aload_n 0, 1) := by decide +kernel
theorem dX4_odds_1 : decode cX4_odds 1 = .ok (.iconst 0, 1) := by decide +kernel
theorem dX4_odds_2 : decode cX4_odds 2 = .ok (.putfield 55, 3) := by decide +kernel
theorem dX4_odds_5 : decode cX4_odds 5 = .ok (.aload_n 0, 1) := by decide +kernel
theorem dX4_odds_6 : decode cX4_odds 6 = .ok (.iload_n 1, 1) := by decide +kernel
theorem dX4_odds_7 : decode cX4_odds 7 = .ok (.invokevirtual 72, 3) := by decide +kernel
theorem dX4_odds_10 : decode cX4_odds 10 = .ok (.ifCond .ne 7, 3) := by decide +kernel
theorem dX4_odds_13 : decode cX4_odds 13 = .ok (.ldc2_w 117, 3) := by decide +kernel
theorem dX4_odds_16 : decode cX4_odds 16 = .ok (.lreturn, 1) := by decide +kernel
theorem dX4_odds_17 : decode cX4_odds 17 = .ok (.aload_n 0, 1) := by decide +kernel
theorem dX4_odds_18 : decode cX4_odds 18 = .ok (.iload_n 1, 1) := by decide +kernel
theorem dX4_odds_19 : decode cX4_odds 19 = .ok (.invokevirtual 103, 3) := by decide +kernel
theorem dX4_odds_22 : decode cX4_odds 22 = .ok (.istore_n 3, 1) := by decide +kernel
theorem dX4_odds_23 : decode cX4_odds 23 = .ok (.lconst 1, 1) := by decide +kernel
theorem dX4_odds_24 : decode cX4_odds 24 = .ok (.lstore 4, 2) := by decide +kernel
theorem dX4_odds_26 : decode cX4_odds 26 = .ok (.lconst 1, 1) := by decide +kernel
theorem dX4_odds_27 : decode cX4_odds 27 = .ok (.lstore 6, 2) := by decide +kernel
theorem dX4_odds_29 : decode cX4_odds 29 = .ok (.iconst 0, 1) := by decide +kernel
theorem dX4_odds_30 : decode cX4_odds 30 = .ok (.istore 8, 2) := by decide +kernel
theorem dX4_odds_32 : decode cX4_odds 32 = .ok (.iload 8, 2) := by decide +kernel
theorem dX4_odds_34 : decode cX4_odds 34 = .ok (.aload_n 0, 1) := by decide +kernel
theorem dX4_odds_35 : decode cX4_odds 35 = .ok (.getfield 58, 3) := by decide +kernel
theorem dX4_odds_38 : decode cX4_odds 38 = .ok (.if_icmp .ge 85, 3) := by decide +kernel
theorem dX4_odds_41 : decode cX4_odds 41 = .ok (.aload_n 0, 1) := by decide +kernel
theorem dX4_odds_42 : decode cX4_odds 42 = .ok (.iload 8, 2) := by decide +kernel
theorem dX4_odds_44 : decode cX4_odds 44 = .ok (.iload_n 1, 1) := by decide +kernel
theorem dX4_odds_45 : decode cX4_odds 45 = .ok (.invokevirtual 89, 3) := by decide +kernel
theorem dX4_odds_48 : decode cX4_odds 48 = .ok (.ifCond .eq 69, 3) := by decide +kernel
theorem dX4_odds_51 : decode cX4_odds 51 = .ok (.iload_n 3, 1) := by decide +kernel
theorem dX4_odds_52 : decode cX4_odds 52 = .ok (.ifCond .lt 22, 3) := by decide +kernel
theorem dX4_odds_55 : decode cX4_odds 55 = .ok (.aload_n 0, 1) := by decide +kernel
theorem dX4_odds_56 : decode cX4_odds 56 = .ok (.iload 8, 2) := by decide +kernel
theorem dX4_odds_58 : decode cX4_odds 58 = .ok (.iload_n 1, 1) := by decide +kernel
theorem dX4_odds_59 : decode cX4_odds 59 = .ok (.invokevirtual 92, 3) := by decide +kernel
theorem dX4_odds_62 : decode cX4_odds 62 = .ok (.aload_n 0, 1) := by decide +kernel
theorem dX4_odds_63 : decode cX4_odds 63 = .ok (.iload_n 3, 1) := by decide +kernel
theorem dX4_odds_64 : decode cX4_odds 64 = .ok (.iload_n 1, 1) := by decide +kernel
theorem dX4_odds_65 : decode cX4_odds 65 = .ok (.invokevirtual 92, 3) := by decide +kernel
theorem dX4_odds_68 : decode cX4_odds 68 = .ok (.if_icmp .eq 6, 3) := by decide +kernel
theorem dX4_odds_71 : decode cX4_odds 71 = .ok (.goto 46, 3) := by decide +kernel
theorem dX4_odds_74 : decode cX4_odds 74 = .ok (.aload_n 0, 1) := by decide +kernel
theorem dX4_odds_75 : decode cX4_odds 75 = .ok (.getfield 20, 3) := by decide +kernel
theorem dX4_odds_78 : decode cX4_odds 78 = .ok (.iload 8, 2) := by decide +kernel
theorem dX4_odds_80 : decode cX4_odds 80 = .ok (.iaload, 1) := by decide +kernel
theorem dX4_odds_81 : decode cX4_odds 81 = .ok (.ifCond .ne 10, 3) := by decide +kernel
theorem dX4_odds_84 : decode cX4_odds 84 = .ok (.aload_n 0, 1) := by decide +kernel
theorem dX4_odds_85 : decode cX4_odds 85 = .ok (.iconst 1, 1) := by decide +kernel
theorem dX4_odds_86 : decode cX4_odds 86 = .ok (.putfield 55, 3) := by decide +kernel
theorem dX4_odds_89 : decode cX4_odds 89 = .ok (.lconst 0, 1) := by decide +kernel
theorem dX4_odds_90 : decode cX4_odds 90 = .ok (.lreturn, 1) := by decide +kernel
theorem dX4_odds_91 : decode cX4_odds 91 = .ok (.lload 4, 2) := by decide +kernel
theorem dX4_odds_93 : decode cX4_odds 93 = .ok (.aload_n 0, 1) := by decide +kernel
theorem dX4_odds_94 : decode cX4_odds 94 = .ok (.getfield 17, 3) := by decide +kernel
theorem dX4_odds_97 : decode cX4_odds 97 = .ok (.iload 8, 2) := by decide +kernel
theorem dX4_odds_99 : decode cX4_odds 99 = .ok (.iaload, 1) := by decide +kernel
theorem dX4_odds_100 : decode cX4_odds 100 = .ok (.i2l, 1) := by decide +kernel
theorem dX4_odds_101 : decode cX4_odds 101 = .ok (.lmul, 1) := by decide +kernel
theorem dX4_odds_102 : decode cX4_odds 102 = .ok (.lstore 4, 2) := by decide +kernel
theorem dX4_odds_104 : decode cX4_odds 104 = .ok (.lload 6, 2) := by decide +kernel
theorem dX4_odds_106 : decode cX4_odds 106 = .ok (.aload_n 0, 1) := by decide +kernel
theorem dX4_odds_107 : decode cX4_odds 107 = .ok (.getfield 20, 3) := by decide +kernel
theorem dX4_odds_110 : decode cX4_odds 110 = .ok (.iload 8, 2) := by decide +kernel
theorem dX4_odds_112 : decode cX4_odds 112 = .ok (.iaload, 1) := by decide +kernel
theorem dX4_odds_113 : decode cX4_odds 113 = .ok (.i2l, 1) := by decide +kernel
theorem dX4_odds_114 : decode cX4_odds 114 = .ok (.lmul, 1) := by decide +kernel
theorem dX4_odds_115 : decode cX4_odds 115 = .ok (.lstore 6, 2) := by decide +kernel
theorem dX4_odds_117 : decode cX4_odds 117 = .ok (.iinc 8 1, 3) := by decide +kernel
theorem dX4_odds_120 : decode cX4_odds 120 = .ok (.goto (-88), 3) := by decide +kernel
theorem dX4_odds_123 : decode cX4_odds 123 = .ok (.lload 4, 2) := by decide +kernel
theorem dX4_odds_125 : decode cX4_odds 125 = .ok (.lstore 8, 2) := by decide +kernel
theorem dX4_odds_127 : decode cX4_odds 127 = .ok (.lload 6, 2) := by decide +kernel
theorem dX4_odds_129 : decode cX4_odds 129 = .ok (.lstore 10, 2) := by decide +kernel
theorem dX4_odds_131 : decode cX4_odds 131 = .ok (.lload 10, 2) := by decide +kernel
theorem dX4_odds_133 : decode cX4_odds 133 = .ok (.lconst 0, 1) := by decide +kernel
theorem dX4_odds_134 : decode cX4_odds 134 = .ok (.lcmp, 1) := by decide +kernel
theorem dX4_odds_135 : decode cX4_odds 135 = .ok (.ifCond .le 21, 3) := by decide +kernel
theorem dX4_odds_138 : decode cX4_odds 138 = .ok (.lload 8, 2) := by decide +kernel
theorem dX4_odds_140 : decode cX4_odds 140 = .ok (.lload 10, 2) := by decide +kernel
theorem dX4_odds_142 : decode cX4_odds 142 = .ok (.lrem, 1) := by decide +kernel
theorem dX4_odds_143 : decode cX4_odds 143 = .ok (.lstore 12, 2) := by decide +kernel
theorem dX4_odds_145 : decode cX4_odds 145 = .ok (.lload 10, 2) := by decide +kernel
theorem dX4_odds_147 : decode cX4_odds 147 = .ok (.lstore 8, 2) := by decide +kernel
theorem dX4_odds_149 : decode cX4_odds 149 = .ok (.lload 12, 2) := by decide +kernel
theorem dX4_odds_151 : decode cX4_odds 151 = .ok (.lstore 10, 2) := by decide +kernel
theorem dX4_odds_153 : decode cX4_odds 153 = .ok (.goto (-22), 3) := by decide +kernel
theorem dX4_odds_156 : decode cX4_odds 156 = .ok (.iload_n 2, 1) := by decide +kernel
theorem dX4_odds_157 : decode cX4_odds 157 = .ok (.ifCond .ne 11, 3) := by decide +kernel
theorem dX4_odds_160 : decode cX4_odds 160 = .ok (.lload 4, 2) := by decide +kernel
theorem dX4_odds_162 : decode cX4_odds 162 = .ok (.lload 8, 2) := by decide +kernel
theorem dX4_odds_164 : decode cX4_odds 164 = .ok (.ldiv, 1) := by decide +kernel
theorem dX4_odds_165 : decode cX4_odds 165 = .ok (.goto 8, 3) := by decide +kernel
theorem dX4_odds_168 : decode cX4_odds 168 = .ok (.lload 6, 2) := by decide +kernel
theorem dX4_odds_170 : decode cX4_odds 170 = .ok (.lload 8, 2) := by decide +kernel
theorem dX4_odds_172 : decode cX4_odds 172 = .ok (.ldiv, 1) := by decide +kernel
theorem dX4_odds_173 : decode cX4_odds 173 = .ok (.lreturn, 1) := by decide +kernel
theorem dX4_at_0 : decode cX4_at 0 = .ok (.aload_n 0, 1) := by decide +kernel
theorem dX4_at_1 : decode cX4_at 1 = .ok (.iconst 0, 1) := by decide +kernel
theorem dX4_at_2 : decode cX4_at 2 = .ok (.putfield 55, 3) := by decide +kernel
theorem dX4_at_5 : decode cX4_at 5 = .ok (.aload_n 0, 1) := by decide +kernel
theorem dX4_at_6 : decode cX4_at 6 = .ok (.iload_n 1, 1) := by decide +kernel
theorem dX4_at_7 : decode cX4_at 7 = .ok (.iload_n 2, 1) := by decide +kernel
theorem dX4_at_8 : decode cX4_at 8 = .ok (.invokevirtual 75, 3) := by decide +kernel
theorem dX4_at_11 : decode cX4_at 11 = .ok (.ifCond .ne 5, 3) := by decide +kernel
theorem dX4_at_14 : decode cX4_at 14 = .ok (.iconst (-1), 1) := by decide +kernel
theorem dX4_at_15 : decode cX4_at 15 = .ok (.ireturn, 1) := by decide +kernel
theorem dX4_at_16 : decode cX4_at 16 = .ok (.aload_n 0, 1) := by decide +kernel
theorem dX4_at_17 : decode cX4_at 17 = .ok (.iload_n 3, 1) := by decide +kernel
theorem dX4_at_18 : decode cX4_at 18 = .ok (.iconst 0, 1) := by decide +kernel
theorem dX4_at_19 : decode cX4_at 19 = .ok (.aload_n 0, 1) := by decide +kernel
theorem dX4_at_20 : decode cX4_at 20 = .ok (.getfield 33, 3) := by decide +kernel
theorem dX4_at_23 : decode cX4_at 23 = .ok (.bipush 40, 2) := by decide +kernel
theorem dX4_at_25 : decode cX4_at 25 = .ok (.iload_n 1, 1) := by decide +kernel
theorem dX4_at_26 : decode cX4_at 26 = .ok (.imul, 1) := by decide +kernel
theorem dX4_at_27 : decode cX4_at 27 = .ok (.iload_n 2, 1) := by decide +kernel
theorem dX4_at_28 : decode cX4_at 28 = .ok (.iadd, 1) := by decide +kernel
theorem dX4_at_29 : decode cX4_at 29 = .ok (.iaload, 1) := by decide +kernel
theorem dX4_at_30 : decode cX4_at 30 = .ok (.iconst 1, 1) := by decide +kernel
theorem dX4_at_31 : decode cX4_at 31 = .ok (.isub, 1) := by decide +kernel
theorem dX4_at_32 : decode cX4_at 32 = .ok (.invokestatic 61, 3) := by decide +kernel
theorem dX4_at_35 : decode cX4_at 35 = .ok (.ifCond .eq 7, 3) := by decide +kernel
theorem dX4_at_38 : decode cX4_at 38 = .ok (.iconst 0, 1) := by decide +kernel
theorem dX4_at_39 : decode cX4_at 39 = .ok (.goto 4, 3) := by decide +kernel
theorem dX4_at_42 : decode cX4_at 42 = .ok (.iconst 1, 1) := by decide +kernel
theorem dX4_at_43 : decode cX4_at 43 = .ok (.putfield 55, 3) := by decide +kernel
theorem dX4_at_46 : decode cX4_at 46 = .ok (.aload_n 0, 1) := by decide +kernel
theorem dX4_at_47 : decode cX4_at 47 = .ok (.getfield 55, 3) := by decide +kernel
theorem dX4_at_50 : decode cX4_at 50 = .ok (.ifCond .le 7, 3) := by decide +kernel
theorem dX4_at_53 : decode cX4_at 53 = .ok (.iconst 0, 1) := by decide +kernel
theorem dX4_at_54 : decode cX4_at 54 = .ok (.goto 23, 3) := by decide +kernel
theorem dX4_at_57 : decode cX4_at 57 = .ok (.aload_n 0, 1) := by decide +kernel
theorem dX4_at_58 : decode cX4_at 58 = .ok (.getfield 36, 3) := by decide +kernel
theorem dX4_at_61 : decode cX4_at 61 = .ok (.bipush 16, 2) := by decide +kernel
theorem dX4_at_63 : decode cX4_at 63 = .ok (.bipush 40, 2) := by decide +kernel
theorem dX4_at_65 : decode cX4_at 65 = .ok (.iload_n 1, 1) := by decide +kernel
theorem dX4_at_66 : decode cX4_at 66 = .ok (.imul, 1) := by decide +kernel
theorem dX4_at_67 : decode cX4_at 67 = .ok (.iload_n 2, 1) := by decide +kernel
theorem dX4_at_68 : decode cX4_at 68 = .ok (.iadd, 1) := by decide +kernel
theorem dX4_at_69 : decode cX4_at 69 = .ok (.imul, 1) := by decide +kernel
theorem dX4_at_70 : decode cX4_at 70 = .ok (.iload_n 3, 1) := by decide +kernel
theorem dX4_at_71 : decode cX4_at 71 = .ok (.iadd, 1) := by decide +kernel
theorem dX4_at_72 : decode cX4_at 72 = .ok (.baload, 1) := by decide +kernel
theorem dX4_at_73 : decode cX4_at 73 = .ok (.sipush 255, 3) := by decide +kernel
theorem dX4_at_76 : decode cX4_at 76 = .ok (.iand, 1) := by decide +kernel
theorem dX4_at_77 : decode cX4_at 77 = .ok (.ireturn, 1) := by decide +kernel
theorem dX4_about_0 : decode cX4_about 0 = .ok (.aload_n 0, 1) := by decide +kernel
theorem dX4_about_1 : decode cX4_about 1 = .ok (.iconst 0, 1) := by decide +kernel
theorem dX4_about_2 : decode cX4_about 2 = .ok (.putfield 55, 3) := by decide +kernel
theorem dX4_about_5 : decode cX4_about 5 = .ok (.aload_n 0, 1) := by decide +kernel
theorem dX4_about_6 : decode cX4_about 6 = .ok (.iload_n 1, 1) := by decide +kernel
theorem dX4_about_7 : decode cX4_about 7 = .ok (.invokevirtual 72, 3) := by decide +kernel
theorem dX4_about_10 : decode cX4_about 10 = .ok (.ifCond .ne 5, 3) := by decide +kernel
theorem dX4_about_13 : decode cX4_about 13 = .ok (.iconst (-1), 1) := by decide +kernel
theorem dX4_about_14 : decode cX4_about 14 = .ok (.ireturn, 1) := by decide +kernel
theorem dX4_about_15 : decode cX4_about 15 = .ok (.iload_n 2, 1) := by decide +kernel
theorem dX4_about_16 : decode cX4_about 16 = .ok (.tableswitch 60 0 3 #[32, 39, 46, 53], 32) := by decide +kernel
theorem dX4_about_48 : decode cX4_about 48 = .ok (.aload_n 0, 1) := by decide +kernel
theorem dX4_about_49 : decode cX4_about 49 = .ok (.getfield 27, 3) := by decide +kernel
theorem dX4_about_52 : decode cX4_about 52 = .ok (.iload_n 1, 1) := by decide +kernel
theorem dX4_about_53 : decode cX4_about 53 = .ok (.iaload, 1) := by decide +kernel
theorem dX4_about_54 : decode cX4_about 54 = .ok (.ireturn, 1) := by decide +kernel
theorem dX4_about_55 : decode cX4_about 55 = .ok (.aload_n 0, 1) := by decide +kernel
theorem dX4_about_56 : decode cX4_about 56 = .ok (.iload_n 1, 1) := by decide +kernel
theorem dX4_about_57 : decode cX4_about 57 = .ok (.iconst 1, 1) := by decide +kernel
theorem dX4_about_58 : decode cX4_about 58 = .ok (.invokevirtual 113, 3) := by decide +kernel
theorem dX4_about_61 : decode cX4_about 61 = .ok (.ireturn, 1) := by decide +kernel
theorem dX4_about_62 : decode cX4_about 62 = .ok (.aload_n 0, 1) := by decide +kernel
theorem dX4_about_63 : decode cX4_about 63 = .ok (.iload_n 1, 1) := by decide +kernel
theorem dX4_about_64 : decode cX4_about 64 = .ok (.iconst 0, 1) := by decide +kernel
theorem dX4_about_65 : decode cX4_about 65 = .ok (.invokevirtual 113, 3) := by decide +kernel
theorem dX4_about_68 : decode cX4_about 68 = .ok (.ireturn, 1) := by decide +kernel
theorem dX4_about_69 : decode cX4_about 69 = .ok (.aload_n 0, 1) := by decide +kernel
theorem dX4_about_70 : decode cX4_about 70 = .ok (.getfield 30, 3) := by decide +kernel
theorem dX4_about_73 : decode cX4_about 73 = .ok (.iload_n 1, 1) := by decide +kernel
theorem dX4_about_74 : decode cX4_about 74 = .ok (.iaload, 1) := by decide +kernel
theorem dX4_about_75 : decode cX4_about 75 = .ok (.ireturn, 1) := by decide +kernel
theorem dX4_about_76 : decode cX4_about 76 = .ok (.iconst (-1), 1) := by decide +kernel
theorem dX4_about_77 : decode cX4_about 77 = .ok (.ireturn, 1) := by decide +kernel
theorem dX4_load_0 : decode cX4_load 0 = .ok (.aload_n 0, 1) := by decide +kernel
theorem dX4_load_1 : decode cX4_load 1 = .ok (.iconst 0, 1) := by decide +kernel
theorem dX4_load_2 : decode cX4_load 2 = .ok (.putfield 55, 3) := by decide +kernel
theorem dX4_load_5 : decode cX4_load 5 = .ok (.aload_n 0, 1) := by decide +kernel
theorem dX4_load_6 : decode cX4_load 6 = .ok (.iload_n 1, 1) := by decide +kernel
theorem dX4_load_7 : decode cX4_load 7 = .ok (.invokevirtual 68, 3) := by decide +kernel
theorem dX4_load_10 : decode cX4_load 10 = .ok (.ifCond .eq 11, 3) := by decide +kernel
theorem dX4_load_13 : decode cX4_load 13 = .ok (.aload_n 0, 1) := by decide +kernel
theorem dX4_load_14 : decode cX4_load 14 = .ok (.iload_n 1, 1) := by decide +kernel
theorem dX4_load_15 : decode cX4_load 15 = .ok (.invokevirtual 82, 3) := by decide +kernel
theorem dX4_load_18 : decode cX4_load 18 = .ok (.goto 4, 3) := by decide +kernel
theorem dX4_load_21 : decode cX4_load 21 = .ok (.iconst (-1), 1) := by decide +kernel
theorem dX4_load_22 : decode cX4_load 22 = .ok (.ireturn, 1) := by decide +kernel
