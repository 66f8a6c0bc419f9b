theorem dX0_init_0 : decode cX0_init 0 = .ok (.aload_n 0, 1) := by decide +kernel
theorem dX0_init_1 : decode cX0_init 1 = .ok (.invokespecial 3, 3) := by decide +kernel
theorem dX0_init_4 : decode cX0_init 4 = .ok (.aload_n 0, 1) := by decide +kernel
theorem dX0_init_5 : decode cX0_init 5 = .ok (.bipush 10, 2) := by decide +kernel
theorem dX0_init_7 : decode cX0_init 7 = .ok (.anewarray 9, 3) := by decide +kernel
theorem dX0_init_10 : decode cX0_init 10 = .ok (.putfield 11, 3) := by decide +kernel
theorem dX0_init_13 : decode cX0_init 13 = .ok (.aload_n 0, 1) := by decide +kernel
theorem dX0_init_14 : decode cX0_init 14 = .ok (.iconst 0, 1) := by decide +kernel
theorem dX0_init_15 : decode cX0_init 15 = .ok (.putfield 17, 3) := by decide +kernel
theorem dX0_init_18 : decode cX0_init 18 = .ok (.aload_n 0, 1) := by decide +kernel
theorem dX0_init_19 : decode cX0_init 19 = .ok (.iload_n 1, 1) := by decide +kernel
theorem dX0_init_20 : decode cX0_init 20 = .ok (.putfield 21, 3) := by decide +kernel
theorem dX0_init_23 : decode cX0_init 23 = .ok (.return_, 1) := by decide +kernel
theorem dX0_copyCount_0 : decode cX0_copyCount 0 = .ok (.iconst 0, 1) := by decide +kernel
theorem dX0_copyCount_1 : decode cX0_copyCount 1 = .ok (.istore_n 1, 1) := by decide +kernel
theorem dX0_copyCount_2 : decode cX0_copyCount 2 = .ok (.aload_n 0, 1) := by decide +kernel
theorem dX0_copyCount_3 : decode cX0_copyCount 3 = .ok (.getfield 11, 3) := by decide +kernel
theorem dX0_copyCount_6 : decode cX0_copyCount 6 = .ok (.astore_n 2, 1) := by decide +kernel
theorem dX0_copyCount_7 : decode cX0_copyCount 7 = .ok (.aload_n 2, 1) := by decide +kernel
theorem dX0_copyCount_8 : decode cX0_copyCount 8 = .ok (.arraylength, 1) := by decide +kernel
theorem dX0_copyCount_9 : decode cX0_copyCount 9 = .ok (.istore_n 3, 1) := by decide +kernel
theorem dX0_copyCount_10 : decode cX0_copyCount 10 = .ok (.iconst 0, 1) := by decide +kernel
theorem dX0_copyCount_11 : decode cX0_copyCount 11 = .ok (.istore 4, 2) := by decide +kernel
theorem dX0_copyCount_13 : decode cX0_copyCount 13 = .ok (.iload 4, 2) := by decide +kernel
theorem dX0_copyCount_15 : decode cX0_copyCount 15 = .ok (.iload_n 3, 1) := by decide +kernel
theorem dX0_copyCount_16 : decode cX0_copyCount 16 = .ok (.if_icmp .ge 23, 3) := by decide +kernel
theorem dX0_copyCount_19 : decode cX0_copyCount 19 = .ok (.aload_n 2, 1) := by decide +kernel
theorem dX0_copyCount_20 : decode cX0_copyCount 20 = .ok (.iload 4, 2) := by decide +kernel
theorem dX0_copyCount_22 : decode cX0_copyCount 22 = .ok (.aaload, 1) := by decide +kernel
theorem dX0_copyCount_23 : decode cX0_copyCount 23 = .ok (.astore 5, 2) := by decide +kernel
theorem dX0_copyCount_25 : decode cX0_copyCount 25 = .ok (.aload 5, 2) := by decide +kernel
theorem dX0_copyCount_27 : decode cX0_copyCount 27 = .ok (.ifnull 6, 3) := by decide +kernel
theorem dX0_copyCount_30 : decode cX0_copyCount 30 = .ok (.iinc 1 1, 3) := by decide +kernel
theorem dX0_copyCount_33 : decode cX0_copyCount 33 = .ok (.iinc 4 1, 3) := by decide +kernel
theorem dX0_copyCount_36 : decode cX0_copyCount 36 = .ok (.goto (-23), 3) := by decide +kernel
theorem dX0_copyCount_39 : decode cX0_copyCount 39 = .ok (.iload_n 1, 1) := by decide +kernel
theorem dX0_copyCount_40 : decode cX0_copyCount 40 = .ok (.ireturn, 1) := by decide +kernel
theorem dX1_init_0 : decode cX1_init 0 = .ok (.aload_n 0, 1) := by decide +kernel
theorem dX1_init_1 : decode cX1_init 1 = .ok (.invokespecial 3, 3) := by decide +kernel
theorem dX1_init_4 : decode cX1_init 4 = .ok (.aload_n 0, 1) := by decide +kernel
theorem dX1_init_5 : decode cX1_init 5 = .ok (.bipush 16, 2) := by decide +kernel
theorem dX1_init_7 : decode cX1_init 7 = .ok (.newarray .int, 2) := by decide +kernel
theorem dX1_init_9 : decode cX1_init 9 = .ok (.putfield 9, 3) := by decide +kernel
theorem dX1_init_12 : decode cX1_init 12 = .ok (.aload_n 0, 1) := by decide +kernel
theorem dX1_init_13 : decode cX1_init 13 = .ok (.iconst 0, 1) := by decide +kernel
theorem dX1_init_14 : decode cX1_init 14 = .ok (.putfield 15, 3) := by decide +kernel
theorem dX1_init_17 : decode cX1_init 17 = .ok (.return_, 1) := by decide +kernel
theorem dX1_has_0 : decode cX1_has 0 = .ok (.iload_n 1, 1) := by decide +kernel
theorem dX1_has_1 : decode cX1_has 1 = .ok (.ifCond .lt 15, 3) := by decide +kernel
theorem dX1_has_4 : decode cX1_has 4 = .ok (.iload_n 1, 1) := by decide +kernel
theorem dX1_has_5 : decode cX1_has 5 = .ok (.aload_n 0, 1) := by decide +kernel
theorem dX1_has_6 : decode cX1_has 6 = .ok (.getfield 15, 3) := by decide +kernel
theorem dX1_has_9 : decode cX1_has 9 = .ok (.if_icmp .ge 7, 3) := by decide +kernel
theorem dX1_has_12 : decode cX1_has 12 = .ok (.iconst 1, 1) := by decide +kernel
theorem dX1_has_13 : decode cX1_has 13 = .ok (.goto 4, 3) := by decide +kernel
theorem dX1_has_16 : decode cX1_has 16 = .ok (.iconst 0, 1) := by decide +kernel
theorem dX1_has_17 : decode cX1_has 17 = .ok (.ireturn, 1) := by decide +kernel
theorem dX1_append_0 : decode cX1_append 0 = .ok (.aload_n 0, 1) := by decide +kernel
theorem dX1_append_1 : decode cX1_append 1 = .ok (.getfield 15, 3) := by decide +kernel
theorem dX1_append_4 : decode cX1_append 4 = .ok (.aload_n 0, 1) := by decide +kernel
theorem dX1_append_5 : decode cX1_append 5 = .ok (.getfield 9, 3) := by decide +kernel
theorem dX1_append_8 : decode cX1_append 8 = .ok (.arraylength, 1) := by decide +kernel
theorem dX1_append_9 : decode cX1_append 9 = .ok (.if_icmp .ge 27, 3) := by decide +kernel
theorem dX1_append_12 : decode cX1_append 12 = .ok (.aload_n 0, 1) := by decide +kernel
theorem dX1_append_13 : decode cX1_append 13 = .ok (.getfield 9, 3) := by decide +kernel
theorem dX1_append_16 : decode cX1_append 16 = .ok (.aload_n 0, 1) := by decide +kernel
theorem dX1_append_17 : decode cX1_append 17 = .ok (.getfield 15, 3) := by decide +kernel
theorem dX1_append_20 : decode cX1_append 20 = .ok (.iload_n 1, 1) := by decide +kernel
theorem dX1_append_21 : decode cX1_append 21 = .ok (.sipush 255, 3) := by decide +kernel
theorem dX1_append_24 : decode cX1_append 24 = .ok (.iand, 1) := by decide +kernel
theorem dX1_append_25 : decode cX1_append 25 = .ok (.iastore, 1) := by decide +kernel
theorem dX1_append_26 : decode cX1_append 26 = .ok (.aload_n 0, 1) := by decide +kernel
theorem dX1_append_27 : decode cX1_append 27 = .ok (.dup, 1) := by decide +kernel
theorem dX1_append_28 : decode cX1_append 28 = .ok (.getfield 15, 3) := by decide +kernel
theorem dX1_append_31 : decode cX1_append 31 = .ok (.iconst 1, 1) := by decide +kernel
theorem dX1_append_32 : decode cX1_append 32 = .ok (.iadd, 1) := by decide +kernel
theorem dX1_append_33 : decode cX1_append 33 = .ok (.putfield 15, 3) := by decide +kernel
theorem dX1_append_36 : decode cX1_append 36 = .ok (.return_, 1) := by decide +kernel
theorem dX1_become_0 : decode cX1_become 0 = .ok (.iconst 0, 1) := by decide +kernel
theorem dX1_become_1 : decode cX1_become 1 = .ok (.istore_n 2, 1) := by decide +kernel
theorem dX1_become_2 : decode cX1_become 2 = .ok (.iload_n 2, 1) := by decide +kernel
theorem dX1_become_3 : decode cX1_become 3 = .ok (.aload_n 1, 1) := by decide +kernel
theorem dX1_become_4 : decode cX1_become 4 = .ok (.getfield 15, 3) := by decide +kernel
theorem dX1_become_7 : decode cX1_become 7 = .ok (.if_icmp .ge 21, 3) := by decide +kernel
theorem dX1_become_10 : decode cX1_become 10 = .ok (.aload_n 0, 1) := by decide +kernel
theorem dX1_become_11 : decode cX1_become 11 = .ok (.getfield 9, 3) := by decide +kernel
theorem dX1_become_14 : decode cX1_become 14 = .ok (.iload_n 2, 1) := by decide +kernel
theorem dX1_become_15 : decode cX1_become 15 = .ok (.aload_n 1, 1) := by decide +kernel
theorem dX1_become_16 : decode cX1_become 16 = .ok (.getfield 9, 3) := by decide +kernel
theorem dX1_become_19 : decode cX1_become 19 = .ok (.iload_n 2, 1) := by decide +kernel
theorem dX1_become_20 : decode cX1_become 20 = .ok (.iaload, 1) := by decide +kernel
theorem dX1_become_21 : decode cX1_become 21 = .ok (.iastore, 1) := by decide +kernel
theorem dX1_become_22 : decode cX1_become 22 = .ok (.iinc 2 1, 3) := by decide +kernel
theorem dX1_become_25 : decode cX1_become 25 = .ok (.goto (-23), 3) := by decide +kernel
theorem dX1_become_28 : decode cX1_become 28 = .ok (.aload_n 0, 1) := by decide +kernel
theorem dX1_become_29 : decode cX1_become 29 = .ok (.aload_n 1, 1) := by decide +kernel
theorem dX1_become_30 : decode cX1_become 30 = .ok (.getfield 15, 3) := by decide +kernel
theorem dX1_become_33 : decode cX1_become 33 = .ok (.putfield 15, 3) := by decide +kernel
theorem dX1_become_36 : decode cX1_become 36 = .ok (.return_, 1) := by decide +kernel
theorem dX1_twin_0 : decode cX1_twin 0 = .ok (.new 10, 3) := by decide +kernel
theorem dX1_twin_3 : decode cX1_twin 3 = .ok (.dup, 1) := by decide +kernel
theorem dX1_twin_4 : decode cX1_twin 4 = .ok (.invokespecial 19, 3) := by decide +kernel
theorem dX1_twin_7 : decode cX1_twin 7 = .ok (.astore_n 1, 1) := by decide +kernel
theorem dX1_twin_8 : decode cX1_twin 8 = .ok (.aload_n 1, 1) := by decide +kernel
theorem dX1_twin_9 : decode cX1_twin 9 = .ok (.aload_n 0, 1) := by decide +kernel
theorem dX1_twin_10 : decode cX1_twin 10 = .ok (.invokevirtual 20, 3) := by decide +kernel
theorem dX1_twin_13 : decode cX1_twin 13 = .ok (.aload_n 1, 1) := by decide +kernel
theorem dX1_twin_14 : decode cX1_twin 14 = .ok (.areturn, 1) := by decide +kernel
theorem dX1_sum_0 : decode cX1_sum 0 = .ok (.bipush 7, 2) := by decide +kernel
theorem dX1_sum_2 : decode cX1_sum 2 = .ok (.istore_n 1, 1) := by decide +kernel
theorem dX1_sum_3 : decode cX1_sum 3 = .ok (.iconst 0, 1) := by decide +kernel
theorem dX1_sum_4 : decode cX1_sum 4 = .ok (.istore_n 2, 1) := by decide +kernel
theorem dX1_sum_5 : decode cX1_sum 5 = .ok (.iload_n 2, 1) := by decide +kernel
theorem dX1_sum_6 : decode cX1_sum 6 = .ok (.aload_n 0, 1) := by decide +kernel
theorem dX1_sum_7 : decode cX1_sum 7 = .ok (.getfield 15, 3) := by decide +kernel
theorem dX1_sum_10 : decode cX1_sum 10 = .ok (.if_icmp .ge 21, 3) := by decide +kernel
theorem dX1_sum_13 : decode cX1_sum 13 = .ok (.bipush 31, 2) := by decide +kernel
theorem dX1_sum_15 : decode cX1_sum 15 = .ok (.iload_n 1, 1) := by decide +kernel
theorem dX1_sum_16 : decode cX1_sum 16 = .ok (.imul, 1) := by decide +kernel
theorem dX1_sum_17 : decode cX1_sum 17 = .ok (.aload_n 0, 1) := by decide +kernel
theorem dX1_sum_18 : decode cX1_sum 18 = .ok (.getfield 9, 3) := by decide +kernel
theorem dX1_sum_21 : decode cX1_sum 21 = .ok (.iload_n 2, 1) := by decide +kernel
theorem dX1_sum_22 : decode cX1_sum 22 = .ok (.iaload, 1) := by decide +kernel
theorem dX1_sum_23 : decode cX1_sum 23 = .ok (.iadd, 1) := by decide +kernel
theorem dX1_sum_24 : decode cX1_sum 24 = .ok (.istore_n 1, 1) := by decide +kernel
theorem dX1_sum_25 : decode cX1_sum 25 = .ok (.iinc 2 1, 3) := by decide +kernel
theorem dX1_sum_28 : decode cX1_sum 28 = .ok (.goto (-23), 3) := by decide +kernel
theorem dX1_sum_31 : decode cX1_sum 31 = .ok (.iload_n 1, 1) := by decide +kernel
theorem dX1_sum_32 : decode cX1_sum 32 = .ok (.aload_n 0, 1) := by decide +kernel
theorem dX1_sum_33 : decode cX1_sum 33 = .ok (.getfield 15, 3) := by decide +kernel
theorem dX1_sum_36 : decode cX1_sum 36 = .ok (.ixor, 1) := by decide +kernel
theorem dX1_sum_37 : decode cX1_sum 37 = .ok (.ireturn, 1) := by decide +kernel
theorem dX2_init_0 : decode cX2_init 0 = .ok (.aload_n 0, 1) := by decide +kernel
theorem dX2_init_1 : decode cX2_init 1 = .ok (.invokespecial 1, 3) := by decide +kernel
theorem dX2_init_4 : decode cX2_init 4 = .ok (.aload_n 0, 1) := by decide +kernel
theorem dX2_init_5 : decode cX2_init 5 = .ok (.iconst 1, 1) := by decide +kernel
theorem dX2_init_6 : decode cX2_init 6 = .ok (.putfield 7, 3) := by decide +kernel
theorem dX2_init_9 : decode cX2_init 9 = .ok (.aload_n 0, 1) := by decide +kernel
theorem dX2_init_10 : decode cX2_init 10 = .ok (.iconst 0, 1) := by decide +kernel
theorem dX2_init_11 : decode cX2_init 11 = .ok (.putfield 13, 3) := by decide +kernel
theorem dX2_init_14 : decode cX2_init 14 = .ok (.aload_n 0, 1) := by decide +kernel
theorem dX2_init_15 : decode cX2_init 15 = .ok (.iconst 0, 1) := by decide +kernel
theorem dX2_init_16 : decode cX2_init 16 = .ok (.putfield 17, 3) := by decide +kernel
theorem dX2_init_19 : decode cX2_init 19 = .ok (.aload_n 0, 1) := by decide +kernel
theorem dX2_init_20 : decode cX2_init 20 = .ok (.iload_n 1, 1) := by decide +kernel
theorem dX2_init_21 : decode cX2_init 21 = .ok (.putfield 20, 3) := by decide +kernel
theorem dX2_init_24 : decode cX2_init 24 = .ok (.return_, 1) := by decide +kernel
theorem dX3_init_0 : decode cX3_init 0 = .ok (.aload_n 0, 1) := by decide +kernel
theorem dX3_init_1 : decode cX3_init 1 = .ok (.invokespecial 1, 3) := by decide +kernel
theorem dX3_init_4 : decode cX3_init 4 = .ok (.aload_n 0, 1) := by decide +kernel
theorem dX3_init_5 : decode cX3_init 5 = .ok (.bipush 10, 2) := by decide +kernel
theorem dX3_init_7 : decode cX3_init 7 = .ok (.anewarray 9, 3) := by decide +kernel
theorem dX3_init_10 : decode cX3_init 10 = .ok (.putfield 11, 3) := by decide +kernel
theorem dX3_init_13 : decode cX3_init 13 = .ok (.aload_n 0, 1) := by decide +kernel
theorem dX3_init_14 : decode cX3_init 14 = .ok (.iconst 0, 1) := by decide +kernel
theorem dX3_init_15 : decode cX3_init 15 = .ok (.putfield 15, 3) := by decide +kernel
theorem dX3_init_18 : decode cX3_init 18 = .ok (.aload_n 0, 1) := by decide +kernel
theorem dX3_init_19 : decode cX3_init 19 = .ok (.bipush 40, 2) := by decide +kernel
theorem dX3_init_21 : decode cX3_init 21 = .ok (.anewarray 19, 3) := by decide +kernel
theorem dX3_init_24 : decode cX3_init 24 = .ok (.putfield 21, 3) := by decide +kernel
theorem dX3_init_27 : decode cX3_init 27 = .ok (.aload_n 0, 1) := by decide +kernel
theorem dX3_init_28 : decode cX3_init 28 = .ok (.iconst 0, 1) := by decide +kernel
theorem dX3_init_29 : decode cX3_init 29 = .ok (.putfield 25, 3) := by decide +kernel
theorem dX3_init_32 : decode cX3_init 32 = .ok (.aload_n 0, 1) := by decide +kernel
theorem dX3_init_33 : decode cX3_init 33 = .ok (.new 28, 3) := by decide +kernel
theorem dX3_init_36 : decode cX3_init 36 = .ok (.dup, 1) := by decide +kernel
theorem dX3_init_37 : decode cX3_init 37 = .ok (.invokespecial 30, 3) := by decide +kernel
theorem dX3_init_40 : decode cX3_init 40 = .ok (.putfield 31, 3) := by decide +kernel
theorem dX3_init_43 : decode cX3_init 43 = .ok (.aload_n 0, 1) := by decide +kernel
theorem dX3_init_44 : decode cX3_init 44 = .ok (.bipush 10, 2) := by decide +kernel
theorem dX3_init_46 : decode cX3_init 46 = .ok (.newarray .int, 2) := by decide +kernel
theorem dX3_init_48 : decode cX3_init 48 = .ok (.putfield 35, 3) := by decide +kernel
theorem dX3_init_51 : decode cX3_init 51 = .ok (.aload_n 0, 1) := by decide +kernel
theorem dX3_init_52 : decode cX3_init 52 = .ok (.bipush 120, 2) := by decide +kernel
theorem dX3_init_54 : decode cX3_init 54 = .ok (.newarray .int, 2) := by decide +kernel
theorem dX3_init_56 : decode cX3_init 56 = .ok (.putfield 39, 3) := by decide +kernel
theorem dX3_init_59 : decode cX3_init 59 = .ok (.aload_n 0, 1) := by decide +kernel
theorem dX3_init_60 : decode cX3_init 60 = .ok (.bipush 120, 2) := by decide +kernel
theorem dX3_init_62 : decode cX3_init 62 = .ok (.newarray .int, 2) := by decide +kernel
theorem dX3_init_64 : decode cX3_init 64 = .ok (.putfield 42, 3) := by decide +kernel
theorem dX3_init_67 : decode cX3_init 67 = .ok (.aload_n 0, 1) := by decide +kernel
theorem dX3_init_68 : decode cX3_init 68 = .ok (.bipush 120, 2) := by decide +kernel
theorem dX3_init_70 : decode cX3_init 70 = .ok (.newarray .int, 2) := by decide +kernel
theorem dX3_init_72 : decode cX3_init 72 = .ok (.putfield 45, 3) := by decide +kernel
theorem dX3_init_75 : decode cX3_init 75 = .ok (.aload_n 0, 1) := by decide +kernel
theorem dX3_init_76 : decode cX3_init 76 = .ok (.iconst 0, 1) := by decide +kernel
theorem dX3_init_77 : decode cX3_init 77 = .ok (.putfield 48, 3) := by decide +kernel
theorem dX3_init_80 : decode cX3_init 80 = .ok (.aload_n 0, 1) := by decide +kernel
theorem dX3_init_81 : decode cX3_init 81 = .ok (.iconst 0, 1) := by decide +kernel
theorem dX3_init_82 : decode cX3_init 82 = .ok (.putfield 51, 3) := by decide +kernel
theorem dX3_init_85 : decode cX3_init 85 = .ok (.aload_n 0, 1) := by decide +kernel
theorem dX3_init_86 : decode cX3_init 86 = .ok (.iconst 1, 1) := by decide +kernel
theorem dX3_init_87 : decode cX3_init 87 = .ok (.iconst 5, 1) := by decide +kernel
theorem dX3_init_88 : decode cX3_init 88 = .ok (.iload_n 1, 1) := by decide +kernel
theorem dX3_init_89 : decode cX3_init 89 = .ok (.invokestatic 54, 3) := by decide +kernel
theorem dX3_init_92 : decode cX3_init 92 = .ok (.invokestatic 60, 3) := by decide +kernel
theorem dX3_init_95 : decode cX3_init 95 = .ok (.putfield 63, 3) := by decide +kernel
theorem dX3_init_98 : decode cX3_init 98 = .ok (.return_, 1) := by decide +kernel
theorem dX3_store_0 : decode cX3_store 0 = .ok (.iload_n 1, 1) := by decide +kernel
theorem dX3_store_1 : decode cX3_store 1 = .ok (.ifCond .lt 9, 3) := by decide +kernel
theorem dX3_store_4 : decode cX3_store 4 = .ok (.iload_n 1, 1) := by decide +kernel
theorem dX3_store_5 : decode cX3_store 5 = .ok (.bipush 10, 2) := by decide +kernel
theorem dX3_store_7 : decode cX3_store 7 = .ok (.if_icmp .lt 6, 3) := by decide +kernel
theorem dX3_store_10 : decode cX3_store 10 = .ok (.bipush (-2), 2) := by decide +kernel
theorem dX3_store_12 : decode cX3_store 12 = .ok (.ireturn, 1) := by decide +kernel
theorem dX3_store_13 : decode cX3_store 13 = .ok (.aload_n 0, 1) := by decide +kernel
theorem dX3_store_14 : decode cX3_store 14 = .ok (.iload_n 1, 1) := by decide +kernel
theorem dX3_store_15 : decode cX3_store 15 = .ok (.invokevirtual 66, 3) := by decide +kernel
theorem dX3_store_18 : decode cX3_store 18 = .ok (.ifCond .eq 6, 3) := by decide +kernel
theorem dX3_store_21 : decode cX3_store 21 = .ok (.bipush (-3), 2) := by decide +kernel
theorem dX3_store_23 : decode cX3_store 23 = .ok (.ireturn, 1) := by decide +kernel
theorem dX3_store_24 : decode cX3_store 24 = .ok (.aload_n 0, 1) := by decide +kernel
theorem dX3_store_25 : decode cX3_store 25 = .ok (.getfield 15, 3) := by decide +kernel
theorem dX3_store_28 : decode cX3_store 28 = .ok (.bipush 10, 2) := by decide +kernel
theorem dX3_store_30 : decode cX3_store 30 = .ok (.if_icmp .lt 6, 3) := by decide +kernel
theorem dX3_store_33 : decode cX3_store 33 = .ok (.bipush (-4), 2) := by decide +kernel
theorem dX3_store_35 : decode cX3_store 35 = .ok (.ireturn, 1) := by decide +kernel
theorem dX3_store_36 : decode cX3_store 36 = .ok (.aload_n 0, 1) := by decide +kernel
theorem dX3_store_37 : decode cX3_store 37 = .ok (.getfield 11, 3) := by decide +kernel
theorem dX3_store_40 : decode cX3_store 40 = .ok (.aload_n 0, 1) := by decide +kernel
theorem dX3_store_41 : decode cX3_store 41 = .ok (.getfield 15, 3) := by decide +kernel
theorem dX3_store_44 : decode cX3_store 44 = .ok (.new 9, 3) := by decide +kernel
theorem dX3_store_47 : decode cX3_store 47 = .ok (.dup, 1) := by decide +kernel
theorem dX3_store_48 : decode cX3_store 48 = .ok (.iload_n 1, 1) := by decide +kernel
theorem dX3_store_49 : decode cX3_store 49 = .ok (.invokespecial 70, 3) := by decide +kernel
theorem dX3_store_52 : decode cX3_store 52 = .ok (.aastore, 1) := by decide +kernel
theorem dX3_store_53 : decode cX3_store 53 = .ok (.aload_n 0, 1) := by decide +kernel
theorem dX3_store_54 : decode cX3_store 54 = .ok (.dup, 1) := by decide +kernel
theorem dX3_store_55 : decode cX3_store 55 = .ok (.getfield 15, 3) := by decide +kernel
theorem dX3_store_58 : decode cX3_store 58 = .ok (.iconst 1, 1) := by decide +kernel
theorem dX3_store_59 : decode cX3_store 59 = .ok (.iadd, 1) := by decide +kernel
theorem dX3_store_60 : decode cX3_store 60 = .ok (.putfield 15, 3) := by decide +kernel
theorem dX3_store_63 : decode cX3_store 63 = .ok (.aload_n 0, 1) := by decide +kernel
theorem dX3_store_64 : decode cX3_store 64 = .ok (.getfield 15, 3) := by decide +kernel
theorem dX3_store_67 : decode cX3_store 67 = .ok (.iconst 1, 1) := by decide +kernel
theorem dX3_store_68 : decode cX3_store 68 = .ok (.isub, 1) := by decide +kernel
theorem dX3_store_69 : decode cX3_store 69 = .ok (.ireturn, 1) := by decide +kernel
theorem dX3_octet_0 : decode cX3_octet 0 = .ok (.aload_n 0, 1) := by decide +kernel
theorem dX3_octet_1 : decode cX3_octet 1 = .ok (.getfield 31, 3) := by decide +kernel
theorem dX3_octet_4 : decode cX3_octet 4 = .ok (.iload_n 1, 1) := by decide +kernel
theorem dX3_octet_5 : decode cX3_octet 5 = .ok (.invokevirtual 73, 3) := by decide +kernel
theorem dX3_octet_8 : decode cX3_octet 8 = .ok (.return_, 1) := by decide +kernel
theorem dX3_put_0 : decode cX3_put 0 = .ok (.iload_n 1, 1) := by decide +kernel
theorem dX3_put_1 : decode cX3_put 1 = .ok (.invokestatic 76, 3) := by decide +kernel
theorem dX3_put_4 : decode cX3_put 4 = .ok (.ifCond .eq 13, 3) := by decide +kernel
theorem dX3_put_7 : decode cX3_put 7 = .ok (.aload_n 0, 1) := by decide +kernel
theorem dX3_put_8 : decode cX3_put 8 = .ok (.getfield 31, 3) := by decide +kernel
theorem dX3_put_11 : decode cX3_put 11 = .ok (.getfield 79, 3) := by decide +kernel
theorem dX3_put_14 : decode cX3_put 14 = .ok (.ifCond .ne 6, 3) := by decide +kernel
theorem dX3_put_17 : decode cX3_put 17 = .ok (.bipush (-2), 2) := by decide +kernel
theorem dX3_put_19 : decode cX3_put 19 = .ok (.ireturn, 1) := by decide +kernel
theorem dX3_put_20 : decode cX3_put 20 = .ok (.aload_n 0, 1) := by decide +kernel
theorem dX3_put_21 : decode cX3_put 21 = .ok (.invokevirtual 82, 3) := by decide +kernel
theorem dX3_put_24 : decode cX3_put 24 = .ok (.aload_n 0, 1) := by decide +kernel
theorem dX3_put_25 : decode cX3_put 25 = .ok (.getfield 63, 3) := by decide +kernel
theorem dX3_put_28 : decode cX3_put 28 = .ok (.if_icmp .ge 6, 3) := by decide +kernel
theorem dX3_put_31 : decode cX3_put 31 = .ok (.bipush (-3), 2) := by decide +kernel
theorem dX3_put_33 : decode cX3_put 33 = .ok (.ireturn, 1) := by decide +kernel
theorem dX3_put_34 : decode cX3_put 34 = .ok (.aload_n 0, 1) := by decide +kernel
theorem dX3_put_35 : decode cX3_put 35 = .ok (.getfield 25, 3) := by decide +kernel
theorem dX3_put_38 : decode cX3_put 38 = .ok (.bipush 40, 2) := by decide +kernel
theorem dX3_put_40 : decode cX3_put 40 = .ok (.if_icmp .lt 6, 3) := by decide +kernel
theorem dX3_put_43 : decode cX3_put 43 = .ok (.bipush (-4), 2) := by decide +kernel
theorem dX3_put_45 : decode cX3_put 45 = .ok (.ireturn, 1) := by decide +kernel
theorem dX3_put_46 : decode cX3_put 46 = .ok (.new 19, 3) := by decide +kernel
theorem dX3_put_49 : decode cX3_put 49 = .ok (.dup, 1) := by decide +kernel
theorem dX3_put_50 : decode cX3_put 50 = .ok (.iload_n 1, 1) := by decide +kernel
theorem dX3_put_51 : decode cX3_put 51 = .ok (.invokespecial 86, 3) := by decide +kernel
theorem dX3_put_54 : decode cX3_put 54 = .ok (.astore_n 2, 1) := by decide +kernel
theorem dX3_put_55 : decode cX3_put 55 = .ok (.iconst 0, 1) := by decide +kernel
theorem dX3_put_56 : decode cX3_put 56 = .ok (.istore_n 3, 1) := by decide +kernel
theorem dX3_put_57 : decode cX3_put 57 = .ok (.iload_n 3, 1) := by decide +kernel
theorem dX3_put_58 : decode cX3_put 58 = .ok (.aload_n 0, 1) := by decide +kernel
theorem dX3_put_59 : decode cX3_put 59 = .ok (.getfield 63, 3) := by decide +kernel
theorem dX3_put_62 : decode cX3_put 62 = .ok (.if_icmp .ge 14, 3) := by decide +kernel
theorem dX3_put_65 : decode cX3_put 65 = .ok (.aload_n 0, 1) := by decide +kernel
theorem dX3_put_66 : decode cX3_put 66 = .ok (.aload_n 2, 1) := by decide +kernel
theorem dX3_put_67 : decode cX3_put 67 = .ok (.invokevirtual 87, 3) := by decide +kernel
theorem dX3_put_70 : decode cX3_put 70 = .ok (.iinc 3 1, 3) := by decide +kernel
theorem dX3_put_73 : decode cX3_put 73 = .ok (.goto (-16), 3) := by decide +kernel
theorem dX3_put_76 : decode cX3_put 76 = .ok (.aload_n 0, 1) := by decide +kernel
theorem dX3_put_77 : decode cX3_put 77 = .ok (.getfield 21, 3) := by decide +kernel
theorem dX3_put_80 : decode cX3_put 80 = .ok (.aload_n 0, 1) := by decide +kernel
theorem dX3_put_81 : decode cX3_put 81 = .ok (.getfield 25, 3) := by decide +kernel
theorem dX3_put_84 : decode cX3_put 84 = .ok (.aload_n 2, 1) := by decide +kernel
theorem dX3_put_85 : decode cX3_put 85 = .ok (.aastore, 1) := by decide +kernel
theorem dX3_put_86 : decode cX3_put 86 = .ok (.aload_n 0, 1) := by decide +kernel
theorem dX3_put_87 : decode cX3_put 87 = .ok (.dup, 1) := by decide +kernel
theorem dX3_put_88 : decode cX3_put 88 = .ok (.getfield 25, 3) := by decide +kernel
theorem dX3_put_91 : decode cX3_put 91 = .ok (.iconst 1, 1) := by decide +kernel
theorem dX3_put_92 : decode cX3_put 92 = .ok (.iadd, 1) := by decide +kernel
theorem dX3_put_93 : decode cX3_put 93 = .ok (.putfield 25, 3) := by decide +kernel
theorem dX3_put_96 : decode cX3_put 96 = .ok (.aload_n 0, 1) := by decide +kernel
theorem dX3_put_97 : decode cX3_put 97 = .ok (.getfield 31, 3) := by decide +kernel
theorem dX3_put_100 : decode cX3_put 100 = .ok (.iconst 0, 1) := by decide +kernel
theorem dX3_put_101 : decode cX3_put 101 = .ok (.putfield 79, 3) := by decide +kernel
theorem dX3_put_104 : decode cX3_put 104 = .ok (.aload_n 0, 1) := by decide +kernel
theorem dX3_put_105 : decode cX3_put 105 = .ok (.getfield 25, 3) := by decide +kernel
theorem dX3_put_108 : decode cX3_put 108 = .ok (.iconst 1, 1) := by decide +kernel
theorem dX3_put_109 : decode cX3_put 109 = .ok (.isub, 1) := by decide +kernel
theorem dX3_put_110 : decode cX3_put 110 = .ok (.ireturn, 1) := by decide +kernel
theorem dX3_answers_0 : decode cX3_answers 0 = .ok (.aload_n 0, 1) := by decide +kernel
theorem dX3_answers_1 : decode cX3_answers 1 = .ok (.iload_n 1, 1) := by decide +kernel
theorem dX3_answers_2 : decode cX3_answers 2 = .ok (.invokevirtual 91, 3) := by decide +kernel
theorem dX3_answers_5 : decode cX3_answers 5 = .ok (.astore_n 3, 1) := by decide +kernel
theorem dX3_answers_6 : decode cX3_answers 6 = .ok (.aload_n 3, 1) := by decide +kernel
theorem dX3_answers_7 : decode cX3_answers 7 = .ok (.ifnonnull 5, 3) := by decide +kernel
theorem dX3_answers_10 : decode cX3_answers 10 = .ok (.iconst (-1), 1) := by decide +kernel
theorem dX3_answers_11 : decode cX3_answers 11 = .ok (.ireturn, 1) := by decide +kernel
theorem dX3_answers_12 : decode cX3_answers 12 = .ok (.aload_n 3, 1) := by decide +kernel
theorem dX3_answers_13 : decode cX3_answers 13 = .ok (.iload_n 2, 1) := by decide +kernel
theorem dX3_answers_14 : decode cX3_answers 14 = .ok (.putfield 95, 3) := by decide +kernel
theorem dX3_answers_17 : decode cX3_answers 17 = .ok (.iconst 1, 1) := by decide +kernel
theorem dX3_answers_18 : decode cX3_answers 18 = .ok (.ireturn, 1) := by decide +kernel
theorem dX3_alter_0 : decode cX3_alter 0 = .ok (.aload_n 0, 1) := by decide +kernel
theorem dX3_alter_1 : decode cX3_alter 1 = .ok (.iload_n 1, 1) := by decide +kernel
theorem dX3_alter_2 : decode cX3_alter 2 = .ok (.iload_n 2, 1) := by decide +kernel
theorem dX3_alter_3 : decode cX3_alter 3 = .ok (.invokevirtual 99, 3) := by decide +kernel
theorem dX3_alter_6 : decode cX3_alter 6 = .ok (.astore 5, 2) := by decide +kernel
theorem dX3_alter_8 : decode cX3_alter 8 = .ok (.aload 5, 2) := by decide +kernel
theorem dX3_alter_10 : decode cX3_alter 10 = .ok (.ifnull 12, 3) := by decide +kernel
theorem dX3_alter_13 : decode cX3_alter 13 = .ok (.aload 5, 2) := by decide +kernel
theorem dX3_alter_15 : decode cX3_alter 15 = .ok (.iload_n 3, 1) := by decide +kernel
theorem dX3_alter_16 : decode cX3_alter 16 = .ok (.invokevirtual 103, 3) := by decide +kernel
theorem dX3_alter_19 : decode cX3_alter 19 = .ok (.ifCond .ne 5, 3) := by decide +kernel
theorem dX3_alter_22 : decode cX3_alter 22 = .ok (.iconst (-1), 1) := by decide +kernel
theorem dX3_alter_23 : decode cX3_alter 23 = .ok (.ireturn, 1) := by decide +kernel
theorem dX3_alter_24 : decode cX3_alter 24 = .ok (.aload 5, 2) := by decide +kernel
theorem dX3_alter_26 : decode cX3_alter 26 = .ok (.getfield 106, 3) := by decide +kernel
theorem dX3_alter_29 : decode cX3_alter 29 = .ok (.iload_n 3, 1) := by decide +kernel
theorem dX3_alter_30 : decode cX3_alter 30 = .ok (.iaload, 1) := by decide +kernel
theorem dX3_alter_31 : decode cX3_alter 31 = .ok (.istore 6, 2) := by decide +kernel
theorem dX3_alter_33 : decode cX3_alter 33 = .ok (.aload 5, 2) := by decide +kernel
theorem dX3_alter_35 : decode cX3_alter 35 = .ok (.getfield 106, 3) := by decide +kernel
theorem dX3_alter_38 : decode cX3_alter 38 = .ok (.iload_n 3, 1) := by decide +kernel
theorem dX3_alter_39 : decode cX3_alter 39 = .ok (.iload 4, 2) := by decide +kernel
theorem dX3_alter_41 : decode cX3_alter 41 = .ok (.sipush 255, 3) := by decide +kernel
theorem dX3_alter_44 : decode cX3_alter 44 = .ok (.iand, 1) := by decide +kernel
theorem dX3_alter_45 : decode cX3_alter 45 = .ok (.iastore, 1) := by decide +kernel
theorem dX3_alter_46 : decode cX3_alter 46 = .ok (.iload 6, 2) := by decide +kernel
theorem dX3_alter_48 : decode cX3_alter 48 = .ok (.ireturn, 1) := by decide +kernel
theorem dX3_cut_0 : decode cX3_cut 0 = .ok (.aload_n 0, 1) := by decide +kernel
theorem dX3_cut_1 : decode cX3_cut 1 = .ok (.iload_n 1, 1) := by decide +kernel
theorem dX3_cut_2 : decode cX3_cut 2 = .ok (.iload_n 2, 1) := by decide +kernel
theorem dX3_cut_3 : decode cX3_cut 3 = .ok (.invokevirtual 99, 3) := by decide +kernel
theorem dX3_cut_6 : decode cX3_cut 6 = .ok (.astore 4, 2) := by decide +kernel
theorem dX3_cut_8 : decode cX3_cut 8 = .ok (.aload 4, 2) := by decide +kernel
theorem dX3_cut_10 : decode cX3_cut 10 = .ok (.ifnonnull 5, 3) := by decide +kernel
theorem dX3_cut_13 : decode cX3_cut 13 = .ok (.iconst (-1), 1) := by decide +kernel
theorem dX3_cut_14 : decode cX3_cut 14 = .ok (.ireturn, 1) := by decide +kernel
theorem dX3_cut_15 : decode cX3_cut 15 = .ok (.iload_n 3, 1) := by decide +kernel
theorem dX3_cut_16 : decode cX3_cut 16 = .ok (.ifCond .lt 12, 3) := by decide +kernel
theorem dX3_cut_19 : decode cX3_cut 19 = .ok (.iload_n 3, 1) := by decide +kernel
theorem dX3_cut_20 : decode cX3_cut 20 = .ok (.aload 4, 2) := by decide +kernel
theorem dX3_cut_22 : decode cX3_cut 22 = .ok (.getfield 79, 3) := by decide +kernel
theorem dX3_cut_25 : decode cX3_cut 25 = .ok (.if_icmp .le 6, 3) := by decide +kernel
theorem dX3_cut_28 : decode cX3_cut 28 = .ok (.bipush (-2), 2) := by decide +kernel
theorem dX3_cut_30 : decode cX3_cut 30 = .ok (.ireturn, 1) := by decide +kernel
theorem dX3_cut_31 : decode cX3_cut 31 = .ok (.aload 4, 2) := by decide +kernel
theorem dX3_cut_33 : decode cX3_cut 33 = .ok (.getfield 79, 3) := by decide +kernel
theorem dX3_cut_36 : decode cX3_cut 36 = .ok (.iload_n 3, 1) := by decide +kernel
theorem dX3_cut_37 : decode cX3_cut 37 = .ok (.isub, 1) := by decide +kernel
theorem dX3_cut_38 : decode cX3_cut 38 = .ok (.istore 5, 2) := by decide +kernel
theorem dX3_cut_40 : decode cX3_cut 40 = .ok (.aload 4, 2) := by decide +kernel
theorem dX3_cut_42 : decode cX3_cut 42 = .ok (.iload_n 3, 1) := by decide +kernel
theorem dX3_cut_43 : decode cX3_cut 43 = .ok (.putfield 79, 3) := by decide +kernel
theorem dX3_cut_46 : decode cX3_cut 46 = .ok (.iload 5, 2) := by decide +kernel
theorem dX3_cut_48 : decode cX3_cut 48 = .ok (.ireturn, 1) := by decide +kernel
theorem dX3_lose_0 : decode cX3_lose 0 = .ok (.aload_n 0, 1) := by decide +kernel
theorem dX3_lose_1 : decode cX3_lose 1 = .ok (.iload_n 2, 1) := by decide +kernel
theorem dX3_lose_2 : decode cX3_lose 2 = .ok (.invokevirtual 109, 3) := by decide +kernel
theorem dX3_lose_5 : decode cX3_lose 5 = .ok (.astore_n 3, 1) := by decide +kernel
theorem dX3_lose_6 : decode cX3_lose 6 = .ok (.aload_n 3, 1) := by decide +kernel
theorem dX3_lose_7 : decode cX3_lose 7 = .ok (.ifnull 12, 3) := by decide +kernel
theorem dX3_lose_10 : decode cX3_lose 10 = .ok (.aload_n 0, 1) := by decide +kernel
theorem dX3_lose_11 : decode cX3_lose 11 = .ok (.iload_n 1, 1) := by decide +kernel
theorem dX3_lose_12 : decode cX3_lose 12 = .ok (.iload_n 2, 1) := by decide +kernel
theorem dX3_lose_13 : decode cX3_lose 13 = .ok (.invokevirtual 99, 3) := by decide +kernel
theorem dX3_lose_16 : decode cX3_lose 16 = .ok (.ifnonnull 5, 3) := by decide +kernel
theorem dX3_lose_19 : decode cX3_lose 19 = .ok (.iconst (-1), 1) := by decide +kernel
theorem dX3_lose_20 : decode cX3_lose 20 = .ok (.ireturn, 1) := by decide +kernel
theorem dX3_lose_21 : decode cX3_lose 21 = .ok (.aload_n 3, 1) := by decide +kernel
theorem dX3_lose_22 : decode cX3_lose 22 = .ok (.getfield 113, 3) := by decide +kernel
theorem dX3_lose_25 : decode cX3_lose 25 = .ok (.iload_n 1, 1) := by decide +kernel
theorem dX3_lose_26 : decode cX3_lose 26 = .ok (.aconst_null, 1) := by decide +kernel
theorem dX3_lose_27 : decode cX3_lose 27 = .ok (.aastore, 1) := by decide +kernel
theorem dX3_lose_28 : decode cX3_lose 28 = .ok (.iconst 1, 1) := by decide +kernel
theorem dX3_lose_29 : decode cX3_lose 29 = .ok (.ireturn, 1) := by decide +kernel
theorem dX3_poll_0 : decode cX3_poll 0 = .ok (.iload_n 1, 1) := by decide +kernel
theorem dX3_poll_1 : decode cX3_poll 1 = .ok (.invokestatic 76, 3) := by decide +kernel
theorem dX3_poll_4 : decode cX3_poll 4 = .ok (.ifCond .ne 6, 3) := by decide +kernel
theorem dX3_poll_7 : decode cX3_poll 7 = .ok (.bipush (-2), 2) := by decide +kernel
theorem dX3_poll_9 : decode cX3_poll 9 = .ok (.ireturn, 1) := by decide +kernel
theorem dX3_poll_10 : decode cX3_poll 10 = .ok (.aload_n 0, 1) := by decide +kernel
theorem dX3_poll_11 : decode cX3_poll 11 = .ok (.iconst 0, 1) := by decide +kernel
theorem dX3_poll_12 : decode cX3_poll 12 = .ok (.putfield 48, 3) := by decide +kernel
theorem dX3_poll_15 : decode cX3_poll 15 = .ok (.lload_n 2, 1) := by decide +kernel
theorem dX3_poll_16 : decode cX3_poll 16 = .ok (.lstore 4, 2) := by decide +kernel
theorem dX3_poll_18 : decode cX3_poll 18 = .ok (.iconst 0, 1) := by decide +kernel
theorem dX3_poll_19 : decode cX3_poll 19 = .ok (.istore 6, 2) := by decide +kernel
theorem dX3_poll_21 : decode cX3_poll 21 = .ok (.iload 6, 2) := by decide +kernel
theorem dX3_poll_23 : decode cX3_poll 23 = .ok (.aload_n 0, 1) := by decide +kernel
theorem dX3_poll_24 : decode cX3_poll 24 = .ok (.getfield 25, 3) := by decide +kernel
theorem dX3_poll_27 : decode cX3_poll 27 = .ok (.if_icmp .ge 64, 3) := by decide +kernel
theorem dX3_poll_30 : decode cX3_poll 30 = .ok (.aload_n 0, 1) := by decide +kernel
theorem dX3_poll_31 : decode cX3_poll 31 = .ok (.getfield 21, 3) := by decide +kernel
theorem dX3_poll_34 : decode cX3_poll 34 = .ok (.iload 6, 2) := by decide +kernel
theorem dX3_poll_36 : decode cX3_poll 36 = .ok (.aaload, 1) := by decide +kernel
theorem dX3_poll_37 : decode cX3_poll 37 = .ok (.astore 7, 2) := by decide +kernel
theorem dX3_poll_39 : decode cX3_poll 39 = .ok (.aload 7, 2) := by decide +kernel
theorem dX3_poll_41 : decode cX3_poll 41 = .ok (.ifnull 44, 3) := by decide +kernel
theorem dX3_poll_44 : decode cX3_poll 44 = .ok (.aload 7, 2) := by decide +kernel
theorem dX3_poll_46 : decode cX3_poll 46 = .ok (.getfield 117, 3) := by decide +kernel
theorem dX3_poll_49 : decode cX3_poll 49 = .ok (.iload_n 1, 1) := by decide +kernel
theorem dX3_poll_50 : decode cX3_poll 50 = .ok (.if_icmp .ne 35, 3) := by decide +kernel
theorem dX3_poll_53 : decode cX3_poll 53 = .ok (.aload_n 0, 1) := by decide +kernel
theorem dX3_poll_54 : decode cX3_poll 54 = .ok (.aload 7, 2) := by decide +kernel
theorem dX3_poll_56 : decode cX3_poll 56 = .ok (.invokevirtual 120, 3) := by decide +kernel
theorem dX3_poll_59 : decode cX3_poll 59 = .ok (.istore 8, 2) := by decide +kernel
theorem dX3_poll_61 : decode cX3_poll 61 = .ok (.aload_n 0, 1) := by decide +kernel
theorem dX3_poll_62 : decode cX3_poll 62 = .ok (.iload 8, 2) := by decide +kernel
theorem dX3_poll_64 : decode cX3_poll 64 = .ok (.lload 4, 2) := by decide +kernel
theorem dX3_poll_66 : decode cX3_poll 66 = .ok (.invokevirtual 124, 3) := by decide +kernel
theorem dX3_poll_69 : decode cX3_poll 69 = .ok (.lstore 4, 2) := by decide +kernel
theorem dX3_poll_71 : decode cX3_poll 71 = .ok (.aload_n 0, 1) := by decide +kernel
theorem dX3_poll_72 : decode cX3_poll 72 = .ok (.iload 6, 2) := by decide +kernel
theorem dX3_poll_74 : decode cX3_poll 74 = .ok (.aload 7, 2) := by decide +kernel
theorem dX3_poll_76 : decode cX3_poll 76 = .ok (.iload 8, 2) := by decide +kernel
theorem dX3_poll_78 : decode cX3_poll 78 = .ok (.iconst 3, 1) := by decide +kernel
theorem dX3_poll_79 : decode cX3_poll 79 = .ok (.invokestatic 54, 3) := by decide +kernel
theorem dX3_poll_82 : decode cX3_poll 82 = .ok (.invokevirtual 128, 3) := by decide +kernel
theorem dX3_poll_85 : decode cX3_poll 85 = .ok (.iinc 6 1, 3) := by decide +kernel
theorem dX3_poll_88 : decode cX3_poll 88 = .ok (.goto (-67), 3) := by decide +kernel
theorem dX3_poll_91 : decode cX3_poll 91 = .ok (.aload_n 0, 1) := by decide +kernel
theorem dX3_poll_92 : decode cX3_poll 92 = .ok (.getfield 48, 3) := by decide +kernel
theorem dX3_poll_95 : decode cX3_poll 95 = .ok (.ireturn, 1) := by decide +kernel
theorem dX3_polled_0 : decode cX3_polled 0 = .ok (.iload_n 1, 1) := by decide +kernel
theorem dX3_polled_1 : decode cX3_polled 1 = .ok (.ifCond .lt 11, 3) := by decide +kernel
theorem dX3_polled_4 : decode cX3_polled 4 = .ok (.iload_n 1, 1) := by decide +kernel
theorem dX3_polled_5 : decode cX3_polled 5 = .ok (.aload_n 0, 1) := by decide +kernel
theorem dX3_polled_6 : decode cX3_polled 6 = .ok (.getfield 48, 3) := by decide +kernel
theorem dX3_polled_9 : decode cX3_polled 9 = .ok (.if_icmp .lt 13, 3) := by decide +kernel
theorem dX3_polled_12 : decode cX3_polled 12 = .ok (.new 132, 3) := by decide +kernel
theorem dX3_polled_15 : decode cX3_polled 15 = .ok (.dup, 1) := by decide +kernel
theorem dX3_polled_16 : decode cX3_polled 16 = .ok (.ldc 134, 2) := by decide +kernel
theorem dX3_polled_18 : decode cX3_polled 18 = .ok (.invokespecial 136, 3) := by decide +kernel
theorem dX3_polled_21 : decode cX3_polled 21 = .ok (.athrow, 1) := by decide +kernel
theorem dX3_polled_22 : decode cX3_polled 22 = .ok (.iload_n 2, 1) := by decide +kernel
theorem dX3_polled_23 : decode cX3_polled 23 = .ok (.tableswitch 46 0 2 #[25, 32, 39], 25) := by decide +kernel
theorem dX3_polled_48 : decode cX3_polled 48 = .ok (.aload_n 0, 1) := by decide +kernel
theorem dX3_polled_49 : decode cX3_polled 49 = .ok (.getfield 39, 3) := by decide +kernel
theorem dX3_polled_52 : decode cX3_polled 52 = .ok (.iload_n 1, 1) := by decide +kernel
theorem dX3_polled_53 : decode cX3_polled 53 = .ok (.iaload, 1) := by decide +kernel
theorem dX3_polled_54 : decode cX3_polled 54 = .ok (.ireturn, 1) := by decide +kernel
theorem dX3_polled_55 : decode cX3_polled 55 = .ok (.aload_n 0, 1) := by decide +kernel
theorem dX3_polled_56 : decode cX3_polled 56 = .ok (.getfield 42, 3) := by decide +kernel
theorem dX3_polled_59 : decode cX3_polled 59 = .ok (.iload_n 1, 1) := by decide +kernel
theorem dX3_polled_60 : decode cX3_polled 60 = .ok (.iaload, 1) := by decide +kernel
theorem dX3_polled_61 : decode cX3_polled 61 = .ok (.ireturn, 1) := by decide +kernel
theorem dX3_polled_62 : decode cX3_polled 62 = .ok (.aload_n 0, 1) := by decide +kernel
theorem dX3_polled_63 : decode cX3_polled 63 = .ok (.getfield 45, 3) := by decide +kernel
theorem dX3_polled_66 : decode cX3_polled 66 = .ok (.iload_n 1, 1) := by decide +kernel
theorem dX3_polled_67 : decode cX3_polled 67 = .ok (.iaload, 1) := by decide +kernel
theorem dX3_polled_68 : decode cX3_polled 68 = .ok (.ireturn, 1) := by decide +kernel
theorem dX3_polled_69 : decode cX3_polled 69 = .ok (.iconst (-1), 1) := by decide +kernel
theorem dX3_polled_70 : decode cX3_polled 70 = .ok (.ireturn, 1) := by decide +kernel
theorem dX3_majority_0 : decode cX3_majority 0 = .ok (.aload_n 0, 1) := by decide +kernel
theorem dX3_majority_1 : decode cX3_majority 1 = .ok (.iload_n 1, 1) := by decide +kernel
theorem dX3_majority_2 : decode cX3_majority 2 = .ok (.invokevirtual 109, 3) := by decide +kernel
theorem dX3_majority_5 : decode cX3_majority 5 = .ok (.astore_n 2, 1) := by decide +kernel
theorem dX3_majority_6 : decode cX3_majority 6 = .ok (.aload_n 2, 1) := by decide +kernel
theorem dX3_majority_7 : decode cX3_majority 7 = .ok (.ifnonnull 5, 3) := by decide +kernel
theorem dX3_majority_10 : decode cX3_majority 10 = .ok (.iconst (-1), 1) := by decide +kernel
theorem dX3_majority_11 : decode cX3_majority 11 = .ok (.ireturn, 1) := by decide +kernel
theorem dX3_majority_12 : decode cX3_majority 12 = .ok (.aload_n 0, 1) := by decide +kernel
theorem dX3_majority_13 : decode cX3_majority 13 = .ok (.aload_n 2, 1) := by decide +kernel
theorem dX3_majority_14 : decode cX3_majority 14 = .ok (.invokevirtual 139, 3) := by decide +kernel
theorem dX3_majority_17 : decode cX3_majority 17 = .ok (.astore_n 3, 1) := by decide +kernel
theorem dX3_majority_18 : decode cX3_majority 18 = .ok (.aload_n 0, 1) := by decide +kernel
theorem dX3_majority_19 : decode cX3_majority 19 = .ok (.aload_n 3, 1) := by decide +kernel
theorem dX3_majority_20 : decode cX3_majority 20 = .ok (.ifnonnull 7, 3) := by decide +kernel
theorem dX3_majority_23 : decode cX3_majority 23 = .ok (.iconst 0, 1) := by decide +kernel
theorem dX3_majority_24 : decode cX3_majority 24 = .ok (.goto 7, 3) := by decide +kernel
theorem dX3_majority_27 : decode cX3_majority 27 = .ok (.aload_n 3, 1) := by decide +kernel
theorem dX3_majority_28 : decode cX3_majority 28 = .ok (.invokevirtual 143, 3) := by decide +kernel
theorem dX3_majority_31 : decode cX3_majority 31 = .ok (.putfield 51, 3) := by decide +kernel
theorem dX3_majority_34 : decode cX3_majority 34 = .ok (.aload_n 3, 1) := by decide +kernel
theorem dX3_majority_35 : decode cX3_majority 35 = .ok (.ifnonnull 7, 3) := by decide +kernel
theorem dX3_majority_38 : decode cX3_majority 38 = .ok (.iconst 0, 1) := by decide +kernel
theorem dX3_majority_39 : decode cX3_majority 39 = .ok (.goto 4, 3) := by decide +kernel
theorem dX3_majority_42 : decode cX3_majority 42 = .ok (.iconst 1, 1) := by decide +kernel
theorem dX3_majority_43 : decode cX3_majority 43 = .ok (.ireturn, 1) := by decide +kernel
theorem dX3_digest_0 : decode cX3_digest 0 = .ok (.aload_n 0, 1) := by decide +kernel
theorem dX3_digest_1 : decode cX3_digest 1 = .ok (.getfield 51, 3) := by decide +kernel
theorem dX3_digest_4 : decode cX3_digest 4 = .ok (.ireturn, 1) := by decide +kernel
theorem dX3_mend_0 : decode cX3_mend 0 = .ok (.iload_n 1, 1) := by decide +kernel
theorem dX3_mend_1 : decode cX3_mend 1 = .ok (.invokestatic 76, 3) := by decide +kernel
theorem dX3_mend_4 : decode cX3_mend 4 = .ok (.ifCond .ne 6, 3) := by decide +kernel
theorem dX3_mend_7 : decode cX3_mend 7 = .ok (.bipush (-2), 2) := by decide +kernel
theorem dX3_mend_9 : decode cX3_mend 9 = .ok (.ireturn, 1) := by decide +kernel
theorem dX3_mend_10 : decode cX3_mend 10 = .ok (.iconst 0, 1) := by decide +kernel
theorem dX3_mend_11 : decode cX3_mend 11 = .ok (.istore_n 2, 1) := by decide +kernel
theorem dX3_mend_12 : decode cX3_mend 12 = .ok (.iconst 0, 1) := by decide +kernel
theorem dX3_mend_13 : decode cX3_mend 13 = .ok (.istore_n 3, 1) := by decide +kernel
theorem dX3_mend_14 : decode cX3_mend 14 = .ok (.iload_n 3, 1) := by decide +kernel
theorem dX3_mend_15 : decode cX3_mend 15 = .ok (.aload_n 0, 1) := by decide +kernel
theorem dX3_mend_16 : decode cX3_mend 16 = .ok (.getfield 25, 3) := by decide +kernel
theorem dX3_mend_19 : decode cX3_mend 19 = .ok (.if_icmp .ge 40, 3) := by decide +kernel
theorem dX3_mend_22 : decode cX3_mend 22 = .ok (.aload_n 0, 1) := by decide +kernel
theorem dX3_mend_23 : decode cX3_mend 23 = .ok (.getfield 21, 3) := by decide +kernel
theorem dX3_mend_26 : decode cX3_mend 26 = .ok (.iload_n 3, 1) := by decide +kernel
theorem dX3_mend_27 : decode cX3_mend 27 = .ok (.aaload, 1) := by decide +kernel
theorem dX3_mend_28 : decode cX3_mend 28 = .ok (.astore 4, 2) := by decide +kernel
theorem dX3_mend_30 : decode cX3_mend 30 = .ok (.aload 4, 2) := by decide +kernel
theorem dX3_mend_32 : decode cX3_mend 32 = .ok (.ifnull 21, 3) := by decide +kernel
theorem dX3_mend_35 : decode cX3_mend 35 = .ok (.aload 4, 2) := by decide +kernel
theorem dX3_mend_37 : decode cX3_mend 37 = .ok (.getfield 117, 3) := by decide +kernel
theorem dX3_mend_40 : decode cX3_mend 40 = .ok (.iload_n 1, 1) := by decide +kernel
theorem dX3_mend_41 : decode cX3_mend 41 = .ok (.if_icmp .ne 12, 3) := by decide +kernel
theorem dX3_mend_44 : decode cX3_mend 44 = .ok (.iload_n 2, 1) := by decide +kernel
theorem dX3_mend_45 : decode cX3_mend 45 = .ok (.aload_n 0, 1) := by decide +kernel
theorem dX3_mend_46 : decode cX3_mend 46 = .ok (.aload 4, 2) := by decide +kernel
theorem dX3_mend_48 : decode cX3_mend 48 = .ok (.invokevirtual 146, 3) := by decide +kernel
theorem dX3_mend_51 : decode cX3_mend 51 = .ok (.iadd, 1) := by decide +kernel
theorem dX3_mend_52 : decode cX3_mend 52 = .ok (.istore_n 2, 1) := by decide +kernel
theorem dX3_mend_53 : decode cX3_mend 53 = .ok (.iinc 3 1, 3) := by decide +kernel
theorem dX3_mend_56 : decode cX3_mend 56 = .ok (.goto (-42), 3) := by decide +kernel
theorem dX3_mend_59 : decode cX3_mend 59 = .ok (.iload_n 2, 1) := by decide +kernel
theorem dX3_mend_60 : decode cX3_mend 60 = .ok (.ireturn, 1) := by decide +kernel
theorem dX3_stale_0 : decode cX3_stale 0 = .ok (.aload_n 0, 1) := by decide +kernel
theorem dX3_stale_1 : decode cX3_stale 1 = .ok (.iload_n 2, 1) := by decide +kernel
theorem dX3_stale_2 : decode cX3_stale 2 = .ok (.invokevirtual 109, 3) := by decide +kernel
theorem dX3_stale_5 : decode cX3_stale 5 = .ok (.astore_n 3, 1) := by decide +kernel
theorem dX3_stale_6 : decode cX3_stale 6 = .ok (.aload_n 0, 1) := by decide +kernel
theorem dX3_stale_7 : decode cX3_stale 7 = .ok (.iload_n 1, 1) := by decide +kernel
theorem dX3_stale_8 : decode cX3_stale 8 = .ok (.iload_n 2, 1) := by decide +kernel
theorem dX3_stale_9 : decode cX3_stale 9 = .ok (.invokevirtual 99, 3) := by decide +kernel
theorem dX3_stale_12 : decode cX3_stale 12 = .ok (.astore 4, 2) := by decide +kernel
theorem dX3_stale_14 : decode cX3_stale 14 = .ok (.aload_n 3, 1) := by decide +kernel
theorem dX3_stale_15 : decode cX3_stale 15 = .ok (.ifnull 8, 3) := by decide +kernel
theorem dX3_stale_18 : decode cX3_stale 18 = .ok (.aload 4, 2) := by decide +kernel
theorem dX3_stale_20 : decode cX3_stale 20 = .ok (.ifnonnull 5, 3) := by decide +kernel
theorem dX3_stale_23 : decode cX3_stale 23 = .ok (.iconst (-1), 1) := by decide +kernel
theorem dX3_stale_24 : decode cX3_stale 24 = .ok (.ireturn, 1) := by decide +kernel
theorem dX3_stale_25 : decode cX3_stale 25 = .ok (.aload_n 0, 1) := by decide +kernel
theorem dX3_stale_26 : decode cX3_stale 26 = .ok (.aload_n 3, 1) := by decide +kernel
theorem dX3_stale_27 : decode cX3_stale 27 = .ok (.invokevirtual 139, 3) := by decide +kernel
theorem dX3_stale_30 : decode cX3_stale 30 = .ok (.astore 5, 2) := by decide +kernel
theorem dX3_stale_32 : decode cX3_stale 32 = .ok (.aload 5, 2) := by decide +kernel
theorem dX3_stale_34 : decode cX3_stale 34 = .ok (.ifnull 20, 3) := by decide +kernel
theorem dX3_stale_37 : decode cX3_stale 37 = .ok (.aload 5, 2) := by decide +kernel
theorem dX3_stale_39 : decode cX3_stale 39 = .ok (.invokevirtual 143, 3) := by decide +kernel
theorem dX3_stale_42 : decode cX3_stale 42 = .ok (.aload 4, 2) := by decide +kernel
theorem dX3_stale_44 : decode cX3_stale 44 = .ok (.invokevirtual 143, 3) := by decide +kernel
theorem dX3_stale_47 : decode cX3_stale 47 = .ok (.if_icmp .eq 7, 3) := by decide +kernel
theorem dX3_stale_50 : decode cX3_stale 50 = .ok (.iconst 1, 1) := by decide +kernel
theorem dX3_stale_51 : decode cX3_stale 51 = .ok (.goto 4, 3) := by decide +kernel
theorem dX3_stale_54 : decode cX3_stale 54 = .ok (.iconst 0, 1) := by decide +kernel
theorem dX3_stale_55 : decode cX3_stale 55 = .ok (.ireturn, 1) := by decide +kernel
theorem dX3_fill_0 : decode cX3_fill 0 = .ok (.aload_n 0, 1) := by decide +kernel
theorem dX3_fill_1 : decode cX3_fill 1 = .ok (.iload_n 1, 1) := by decide +kernel
theorem dX3_fill_2 : decode cX3_fill 2 = .ok (.invokevirtual 91, 3) := by decide +kernel
theorem dX3_fill_5 : decode cX3_fill 5 = .ok (.astore_n 2, 1) := by decide +kernel
theorem dX3_fill_6 : decode cX3_fill 6 = .ok (.aload_n 2, 1) := by decide +kernel
theorem dX3_fill_7 : decode cX3_fill 7 = .ok (.ifnonnull 5, 3) := by decide +kernel
theorem dX3_fill_10 : decode cX3_fill 10 = .ok (.iconst (-1), 1) := by decide +kernel
theorem dX3_fill_11 : decode cX3_fill 11 = .ok (.ireturn, 1) := by decide +kernel
theorem dX3_fill_12 : decode cX3_fill 12 = .ok (.aload_n 2, 1) := by decide +kernel
theorem dX3_fill_13 : decode cX3_fill 13 = .ok (.getfield 95, 3) := by decide +kernel
theorem dX3_fill_16 : decode cX3_fill 16 = .ok (.ifCond .ne 6, 3) := by decide +kernel
theorem dX3_fill_19 : decode cX3_fill 19 = .ok (.bipush (-3), 2) := by decide +kernel
theorem dX3_fill_21 : decode cX3_fill 21 = .ok (.ireturn, 1) := by decide +kernel
theorem dX3_fill_22 : decode cX3_fill 22 = .ok (.iconst 0, 1) := by decide +kernel
theorem dX3_fill_23 : decode cX3_fill 23 = .ok (.istore_n 3, 1) := by decide +kernel
theorem dX3_fill_24 : decode cX3_fill 24 = .ok (.iconst 0, 1) := by decide +kernel
theorem dX3_fill_25 : decode cX3_fill 25 = .ok (.istore 4, 2) := by decide +kernel
theorem dX3_fill_27 : decode cX3_fill 27 = .ok (.iload 4, 2) := by decide +kernel
theorem dX3_fill_29 : decode cX3_fill 29 = .ok (.aload_n 0, 1) := by decide +kernel
theorem dX3_fill_30 : decode cX3_fill 30 = .ok (.getfield 25, 3) := by decide +kernel
theorem dX3_fill_33 : decode cX3_fill 33 = .ok (.if_icmp .ge 36, 3) := by decide +kernel
theorem dX3_fill_36 : decode cX3_fill 36 = .ok (.aload_n 0, 1) := by decide +kernel
theorem dX3_fill_37 : decode cX3_fill 37 = .ok (.getfield 21, 3) := by decide +kernel
theorem dX3_fill_40 : decode cX3_fill 40 = .ok (.iload 4, 2) := by decide +kernel
theorem dX3_fill_42 : decode cX3_fill 42 = .ok (.aaload, 1) := by decide +kernel
theorem dX3_fill_43 : decode cX3_fill 43 = .ok (.astore 5, 2) := by decide +kernel
theorem dX3_fill_45 : decode cX3_fill 45 = .ok (.aload 5, 2) := by decide +kernel
theorem dX3_fill_47 : decode cX3_fill 47 = .ok (.ifnull 16, 3) := by decide +kernel
theorem dX3_fill_50 : decode cX3_fill 50 = .ok (.aload_n 0, 1) := by decide +kernel
theorem dX3_fill_51 : decode cX3_fill 51 = .ok (.aload 5, 2) := by decide +kernel
theorem dX3_fill_53 : decode cX3_fill 53 = .ok (.iload_n 1, 1) := by decide +kernel
theorem dX3_fill_54 : decode cX3_fill 54 = .ok (.invokevirtual 149, 3) := by decide +kernel
theorem dX3_fill_57 : decode cX3_fill 57 = .ok (.ifCond .eq 6, 3) := by decide +kernel
theorem dX3_fill_60 : decode cX3_fill 60 = .ok (.iinc 3 1, 3) := by decide +kernel
theorem dX3_fill_63 : decode cX3_fill 63 = .ok (.iinc 4 1, 3) := by decide +kernel
theorem dX3_fill_66 : decode cX3_fill 66 = .ok (.goto (-39), 3) := by decide +kernel
theorem dX3_fill_69 : decode cX3_fill 69 = .ok (.iload_n 3, 1) := by decide +kernel
theorem dX3_fill_70 : decode cX3_fill 70 = .ok (.ireturn, 1) := by decide +kernel
theorem dX3_move_0 : decode cX3_move 0 = .ok (.aload_n 0, 1) := by decide +kernel
theorem dX3_move_1 : decode cX3_move 1 = .ok (.iload_n 1, 1) := by decide +kernel
theorem dX3_move_2 : decode cX3_move 2 = .ok (.invokevirtual 109, 3) := by decide +kernel
theorem dX3_move_5 : decode cX3_move 5 = .ok (.astore 4, 2) := by decide +kernel
theorem dX3_move_7 : decode cX3_move 7 = .ok (.aload_n 0, 1) := by decide +kernel
theorem dX3_move_8 : decode cX3_move 8 = .ok (.iload_n 2, 1) := by decide +kernel
theorem dX3_move_9 : decode cX3_move 9 = .ok (.iload_n 1, 1) := by decide +kernel
theorem dX3_move_10 : decode cX3_move 10 = .ok (.invokevirtual 99, 3) := by decide +kernel
theorem dX3_move_13 : decode cX3_move 13 = .ok (.astore 5, 2) := by decide +kernel
theorem dX3_move_15 : decode cX3_move 15 = .ok (.aload 4, 2) := by decide +kernel
theorem dX3_move_17 : decode cX3_move 17 = .ok (.ifnull 16, 3) := by decide +kernel
theorem dX3_move_20 : decode cX3_move 20 = .ok (.aload 5, 2) := by decide +kernel
theorem dX3_move_22 : decode cX3_move 22 = .ok (.ifnull 11, 3) := by decide +kernel
theorem dX3_move_25 : decode cX3_move 25 = .ok (.aload_n 0, 1) := by decide +kernel
theorem dX3_move_26 : decode cX3_move 26 = .ok (.iload_n 3, 1) := by decide +kernel
theorem dX3_move_27 : decode cX3_move 27 = .ok (.invokevirtual 91, 3) := by decide +kernel
theorem dX3_move_30 : decode cX3_move 30 = .ok (.ifnonnull 5, 3) := by decide +kernel
theorem dX3_move_33 : decode cX3_move 33 = .ok (.iconst (-1), 1) := by decide +kernel
theorem dX3_move_34 : decode cX3_move 34 = .ok (.ireturn, 1) := by decide +kernel
theorem dX3_move_35 : decode cX3_move 35 = .ok (.iload_n 2, 1) := by decide +kernel
theorem dX3_move_36 : decode cX3_move 36 = .ok (.iload_n 3, 1) := by decide +kernel
theorem dX3_move_37 : decode cX3_move 37 = .ok (.if_icmp .eq 29, 3) := by decide +kernel
theorem dX3_move_40 : decode cX3_move 40 = .ok (.aload_n 0, 1) := by decide +kernel
theorem dX3_move_41 : decode cX3_move 41 = .ok (.iload_n 2, 1) := by decide +kernel
theorem dX3_move_42 : decode cX3_move 42 = .ok (.invokevirtual 153, 3) := by decide +kernel
theorem dX3_move_45 : decode cX3_move 45 = .ok (.ifCond .eq 21, 3) := by decide +kernel
theorem dX3_move_48 : decode cX3_move 48 = .ok (.aload_n 0, 1) := by decide +kernel
theorem dX3_move_49 : decode cX3_move 49 = .ok (.iload_n 3, 1) := by decide +kernel
theorem dX3_move_50 : decode cX3_move 50 = .ok (.invokevirtual 153, 3) := by decide +kernel
theorem dX3_move_53 : decode cX3_move 53 = .ok (.ifCond .eq 13, 3) := by decide +kernel
theorem dX3_move_56 : decode cX3_move 56 = .ok (.aload 4, 2) := by decide +kernel
theorem dX3_move_58 : decode cX3_move 58 = .ok (.getfield 113, 3) := by decide +kernel
theorem dX3_move_61 : decode cX3_move 61 = .ok (.iload_n 3, 1) := by decide +kernel
theorem dX3_move_62 : decode cX3_move 62 = .ok (.aaload, 1) := by decide +kernel
theorem dX3_move_63 : decode cX3_move 63 = .ok (.ifnull 6, 3) := by decide +kernel
theorem dX3_move_66 : decode cX3_move 66 = .ok (.bipush (-3), 2) := by decide +kernel
theorem dX3_move_68 : decode cX3_move 68 = .ok (.ireturn, 1) := by decide +kernel
theorem dX3_move_69 : decode cX3_move 69 = .ok (.aload 4, 2) := by decide +kernel
theorem dX3_move_71 : decode cX3_move 71 = .ok (.getfield 113, 3) := by decide +kernel
theorem dX3_move_74 : decode cX3_move 74 = .ok (.iload_n 3, 1) := by decide +kernel
theorem dX3_move_75 : decode cX3_move 75 = .ok (.aload 5, 2) := by decide +kernel
theorem dX3_move_77 : decode cX3_move 77 = .ok (.aastore, 1) := by decide +kernel
theorem dX3_move_78 : decode cX3_move 78 = .ok (.aload 4, 2) := by decide +kernel
theorem dX3_move_80 : decode cX3_move 80 = .ok (.getfield 113, 3) := by decide +kernel
theorem dX3_move_83 : decode cX3_move 83 = .ok (.iload_n 2, 1) := by decide +kernel
theorem dX3_move_84 : decode cX3_move 84 = .ok (.aconst_null, 1) := by decide +kernel
theorem dX3_move_85 : decode cX3_move 85 = .ok (.aastore, 1) := by decide +kernel
theorem dX3_move_86 : decode cX3_move 86 = .ok (.iconst 1, 1) := by decide +kernel
theorem dX3_move_87 : decode cX3_move 87 = .ok (.ireturn, 1) := by decide +kernel
theorem dX3_rate_0 : decode cX3_rate 0 = .ok (.aload_n 0, 1) := by decide +kernel
theorem dX3_rate_1 : decode cX3_rate 1 = .ok (.iload_n 1, 1) := by decide +kernel
theorem dX3_rate_2 : decode cX3_rate 2 = .ok (.invokevirtual 91, 3) := by decide +kernel
theorem dX3_rate_5 : decode cX3_rate 5 = .ok (.astore 4, 2) := by decide +kernel
theorem dX3_rate_7 : decode cX3_rate 7 = .ok (.aload 4, 2) := by decide +kernel
theorem dX3_rate_9 : decode cX3_rate 9 = .ok (.ifnonnull 5, 3) := by decide +kernel
theorem dX3_rate_12 : decode cX3_rate 12 = .ok (.iconst (-1), 1) := by decide +kernel
theorem dX3_rate_13 : decode cX3_rate 13 = .ok (.ireturn, 1) := by decide +kernel
theorem dX3_rate_14 : decode cX3_rate 14 = .ok (.iload_n 3, 1) := by decide +kernel
theorem dX3_rate_15 : decode cX3_rate 15 = .ok (.iconst 1, 1) := by decide +kernel
theorem dX3_rate_16 : decode cX3_rate 16 = .ok (.if_icmp .lt 19, 3) := by decide +kernel
theorem dX3_rate_19 : decode cX3_rate 19 = .ok (.iload_n 3, 1) := by decide +kernel
theorem dX3_rate_20 : decode cX3_rate 20 = .ok (.sipush 1000, 3) := by decide +kernel
theorem dX3_rate_23 : decode cX3_rate 23 = .ok (.if_icmp .gt 12, 3) := by decide +kernel
theorem dX3_rate_26 : decode cX3_rate 26 = .ok (.iload_n 2, 1) := by decide +kernel
theorem dX3_rate_27 : decode cX3_rate 27 = .ok (.ifCond .lt 8, 3) := by decide +kernel
theorem dX3_rate_30 : decode cX3_rate 30 = .ok (.iload_n 2, 1) := by decide +kernel
theorem dX3_rate_31 : decode cX3_rate 31 = .ok (.iload_n 3, 1) := by decide +kernel
theorem dX3_rate_32 : decode cX3_rate 32 = .ok (.if_icmp .le 6, 3) := by decide +kernel
theorem dX3_rate_35 : decode cX3_rate 35 = .ok (.bipush (-2), 2) := by decide +kernel
theorem dX3_rate_37 : decode cX3_rate 37 = .ok (.ireturn, 1) := by decide +kernel
theorem dX3_rate_38 : decode cX3_rate 38 = .ok (.aload 4, 2) := by decide +kernel
theorem dX3_rate_40 : decode cX3_rate 40 = .ok (.iload_n 2, 1) := by decide +kernel
theorem dX3_rate_41 : decode cX3_rate 41 = .ok (.putfield 156, 3) := by decide +kernel
theorem dX3_rate_44 : decode cX3_rate 44 = .ok (.aload 4, 2) := by decide +kernel
theorem dX3_rate_46 : decode cX3_rate 46 = .ok (.iload_n 3, 1) := by decide +kernel
theorem dX3_rate_47 : decode cX3_rate 47 = .ok (.putfield 159, 3) := by decide +kernel
theorem dX3_rate_50 : decode cX3_rate 50 = .ok (.iconst 1, 1) := by decide +kernel
theorem dX3_rate_51 : decode cX3_rate 51 = .ok (.ireturn, 1) := by decide +kernel
theorem dX3_odds_0 : decode cX3_odds 0 = .ok (.aload_n 0, 1) := by decide +kernel
theorem dX3_odds_1 : decode cX3_odds 1 = .ok (.iload_n 1, 1) := by decide +kernel
theorem dX3_odds_2 : decode cX3_odds 2 = .ok (.invokevirtual 109, 3) := by decide +kernel
theorem dX3_odds_5 : decode cX3_odds 5 = .ok (.astore_n 3, 1) := by decide +kernel
theorem dX3_odds_6 : decode cX3_odds 6 = .ok (.aload_n 3, 1) := by decide +kernel
theorem dX3_odds_7 : decode cX3_odds 7 = .ok (.ifnonnull 7, 3) := by decide +kernel
theorem dX3_odds_10 : decode cX3_odds 10 = .ok (.ldc2_w 162, 3) := by decide +kernel
theorem dX3_odds_13 : decode cX3_odds 13 = .ok (.lreturn, 1) := by decide +kernel
theorem dX3_odds_14 : decode cX3_odds 14 = .ok (.aload_n 0, 1) := by decide +kernel
theorem dX3_odds_15 : decode cX3_odds 15 = .ok (.aload_n 3, 1) := by decide +kernel
theorem dX3_odds_16 : decode cX3_odds 16 = .ok (.invokevirtual 139, 3) := by decide +kernel
theorem dX3_odds_19 : decode cX3_odds 19 = .ok (.astore 4, 2) := by decide +kernel
theorem dX3_odds_21 : decode cX3_odds 21 = .ok (.lconst 1, 1) := by decide +kernel
theorem dX3_odds_22 : decode cX3_odds 22 = .ok (.lstore 5, 2) := by decide +kernel
theorem dX3_odds_24 : decode cX3_odds 24 = .ok (.lconst 1, 1) := by decide +kernel
theorem dX3_odds_25 : decode cX3_odds 25 = .ok (.lstore 7, 2) := by decide +kernel
theorem dX3_odds_27 : decode cX3_odds 27 = .ok (.iconst 0, 1) := by decide +kernel
theorem dX3_odds_28 : decode cX3_odds 28 = .ok (.istore 9, 2) := by decide +kernel
theorem dX3_odds_30 : decode cX3_odds 30 = .ok (.iload 9, 2) := by decide +kernel
theorem dX3_odds_32 : decode cX3_odds 32 = .ok (.aload_n 0, 1) := by decide +kernel
theorem dX3_odds_33 : decode cX3_odds 33 = .ok (.getfield 15, 3) := by decide +kernel
theorem dX3_odds_36 : decode cX3_odds 36 = .ok (.if_icmp .ge 75, 3) := by decide +kernel
theorem dX3_odds_39 : decode cX3_odds 39 = .ok (.aload_n 0, 1) := by decide +kernel
theorem dX3_odds_40 : decode cX3_odds 40 = .ok (.getfield 11, 3) := by decide +kernel
theorem dX3_odds_43 : decode cX3_odds 43 = .ok (.iload 9, 2) := by decide +kernel
theorem dX3_odds_45 : decode cX3_odds 45 = .ok (.aaload, 1) := by decide +kernel
theorem dX3_odds_46 : decode cX3_odds 46 = .ok (.astore 10, 2) := by decide +kernel
theorem dX3_odds_48 : decode cX3_odds 48 = .ok (.aload 10, 2) := by decide +kernel
theorem dX3_odds_50 : decode cX3_odds 50 = .ok (.ifnull 55, 3) := by decide +kernel
theorem dX3_odds_53 : decode cX3_odds 53 = .ok (.aload_n 0, 1) := by decide +kernel
theorem dX3_odds_54 : decode cX3_odds 54 = .ok (.aload_n 3, 1) := by decide +kernel
theorem dX3_odds_55 : decode cX3_odds 55 = .ok (.iload 9, 2) := by decide +kernel
theorem dX3_odds_57 : decode cX3_odds 57 = .ok (.aload 4, 2) := by decide +kernel
theorem dX3_odds_59 : decode cX3_odds 59 = .ok (.invokevirtual 164, 3) := by decide +kernel
theorem dX3_odds_62 : decode cX3_odds 62 = .ok (.ifCond .eq 43, 3) := by decide +kernel
theorem dX3_odds_65 : decode cX3_odds 65 = .ok (.aload 10, 2) := by decide +kernel
theorem dX3_odds_67 : decode cX3_odds 67 = .ok (.getfield 159, 3) := by decide +kernel
theorem dX3_odds_70 : decode cX3_odds 70 = .ok (.ifCond .ne 13, 3) := by decide +kernel
theorem dX3_odds_73 : decode cX3_odds 73 = .ok (.new 168, 3) := by decide +kernel
theorem dX3_odds_76 : decode cX3_odds 76 = .ok (.dup, 1) := by decide +kernel
theorem dX3_odds_77 : decode cX3_odds 77 = .ok (.ldc 170, 2) := by decide +kernel
theorem dX3_odds_79 : decode cX3_odds 79 = .ok (.invokespecial 172, 3) := by decide +kernel
theorem dX3_odds_82 : decode cX3_odds 82 = .ok (.athrow, 1) := by decide +kernel
theorem dX3_odds_83 : decode cX3_odds 83 = .ok (.lload 5, 2) := by decide +kernel
theorem dX3_odds_85 : decode cX3_odds 85 = .ok (.aload 10, 2) := by decide +kernel
theorem dX3_odds_87 : decode cX3_odds 87 = .ok (.getfield 156, 3) := by decide +kernel
theorem dX3_odds_90 : decode cX3_odds 90 = .ok (.i2l, 1) := by decide +kernel
theorem dX3_odds_91 : decode cX3_odds 91 = .ok (.lmul, 1) := by decide +kernel
theorem dX3_odds_92 : decode cX3_odds 92 = .ok (.lstore 5, 2) := by decide +kernel
theorem dX3_odds_94 : decode cX3_odds 94 = .ok (.lload 7, 2) := by decide +kernel
theorem dX3_odds_96 : decode cX3_odds 96 = .ok (.aload 10, 2) := by decide +kernel
theorem dX3_odds_98 : decode cX3_odds 98 = .ok (.getfield 159, 3) := by decide +kernel
theorem dX3_odds_101 : decode cX3_odds 101 = .ok (.i2l, 1) := by decide +kernel
theorem dX3_odds_102 : decode cX3_odds 102 = .ok (.lmul, 1) := by decide +kernel
theorem dX3_odds_103 : decode cX3_odds 103 = .ok (.lstore 7, 2) := by decide +kernel
theorem dX3_odds_105 : decode cX3_odds 105 = .ok (.iinc 9 1, 3) := by decide +kernel
theorem dX3_odds_108 : decode cX3_odds 108 = .ok (.goto (-78), 3) := by decide +kernel
theorem dX3_odds_111 : decode cX3_odds 111 = .ok (.lload 5, 2) := by decide +kernel
theorem dX3_odds_113 : decode cX3_odds 113 = .ok (.lload 7, 2) := by decide +kernel
theorem dX3_odds_115 : decode cX3_odds 115 = .ok (.invokestatic 173, 3) := by decide +kernel
theorem dX3_odds_118 : decode cX3_odds 118 = .ok (.lstore 9, 2) := by decide +kernel
theorem dX3_odds_120 : decode cX3_odds 120 = .ok (.iload_n 2, 1) := by decide +kernel
theorem dX3_odds_121 : decode cX3_odds 121 = .ok (.ifCond .ne 8, 3) := by decide +kernel
theorem dX3_odds_124 : decode cX3_odds 124 = .ok (.lload 5, 2) := by decide +kernel
theorem dX3_odds_126 : decode cX3_odds 126 = .ok (.goto 5, 3) := by decide +kernel
theorem dX3_odds_129 : decode cX3_odds 129 = .ok (.lload 7, 2) := by decide +kernel
theorem dX3_odds_131 : decode cX3_odds 131 = .ok (.lstore 11, 2) := by decide +kernel
theorem dX3_odds_133 : decode cX3_odds 133 = .ok (.lload 9, 2) := by decide +kernel
theorem dX3_odds_135 : decode cX3_odds 135 = .ok (.lconst 1, 1) := by decide +kernel
theorem dX3_odds_136 : decode cX3_odds 136 = .ok (.lcmp, 1) := by decide +kernel
theorem dX3_odds_137 : decode cX3_odds 137 = .ok (.ifCond .le 11, 3) := by decide +kernel
theorem dX3_odds_140 : decode cX3_odds 140 = .ok (.lload 11, 2) := by decide +kernel
theorem dX3_odds_142 : decode cX3_odds 142 = .ok (.lload 9, 2) := by decide +kernel
theorem dX3_odds_144 : decode cX3_odds 144 = .ok (.ldiv, 1) := by decide +kernel
theorem dX3_odds_145 : decode cX3_odds 145 = .ok (.goto 5, 3) := by decide +kernel
theorem dX3_odds_148 : decode cX3_odds 148 = .ok (.lload 11, 2) := by decide +kernel
theorem dX3_odds_150 : decode cX3_odds 150 = .ok (.lreturn, 1) := by decide +kernel
theorem dX3_at_0 : decode cX3_at 0 = .ok (.aload_n 0, 1) := by decide +kernel
theorem dX3_at_1 : decode cX3_at 1 = .ok (.iload_n 1, 1) := by decide +kernel
theorem dX3_at_2 : decode cX3_at 2 = .ok (.iload_n 2, 1) := by decide +kernel
theorem dX3_at_3 : decode cX3_at 3 = .ok (.invokevirtual 99, 3) := by decide +kernel
theorem dX3_at_6 : decode cX3_at 6 = .ok (.astore 4, 2) := by decide +kernel
theorem dX3_at_8 : decode cX3_at 8 = .ok (.aload 4, 2) := by decide +kernel
theorem dX3_at_10 : decode cX3_at 10 = .ok (.ifnonnull 5, 3) := by decide +kernel
theorem dX3_at_13 : decode cX3_at 13 = .ok (.iconst (-1), 1) := by decide +kernel
theorem dX3_at_14 : decode cX3_at 14 = .ok (.ireturn, 1) := by decide +kernel
theorem dX3_at_15 : decode cX3_at 15 = .ok (.aload 4, 2) := by decide +kernel
theorem dX3_at_17 : decode cX3_at 17 = .ok (.iload_n 3, 1) := by decide +kernel
theorem dX3_at_18 : decode cX3_at 18 = .ok (.invokevirtual 103, 3) := by decide +kernel
theorem dX3_at_21 : decode cX3_at 21 = .ok (.ifCond .ne 13, 3) := by decide +kernel
theorem dX3_at_24 : decode cX3_at 24 = .ok (.new 177, 3) := by decide +kernel
theorem dX3_at_27 : decode cX3_at 27 = .ok (.dup, 1) := by decide +kernel
theorem dX3_at_28 : decode cX3_at 28 = .ok (.ldc 179, 2) := by decide +kernel
theorem dX3_at_30 : decode cX3_at 30 = .ok (.invokespecial 181, 3) := by decide +kernel
theorem dX3_at_33 : decode cX3_at 33 = .ok (.athrow, 1) := by decide +kernel
theorem dX3_at_34 : decode cX3_at 34 = .ok (.aload 4, 2) := by decide +kernel
theorem dX3_at_36 : decode cX3_at 36 = .ok (.getfield 106, 3) := by decide +kernel
theorem dX3_at_39 : decode cX3_at 39 = .ok (.iload_n 3, 1) := by decide +kernel
theorem dX3_at_40 : decode cX3_at 40 = .ok (.iaload, 1) := by decide +kernel
theorem dX3_at_41 : decode cX3_at 41 = .ok (.ireturn, 1) := by decide +kernel
theorem dX3_about_0 : decode cX3_about 0 = .ok (.aload_n 0, 1) := by decide +kernel
theorem dX3_about_1 : decode cX3_about 1 = .ok (.iload_n 1, 1) := by decide +kernel
theorem dX3_about_2 : decode cX3_about 2 = .ok (.invokevirtual 109, 3) := by decide +kernel
theorem dX3_about_5 : decode cX3_about 5 = .ok (.astore_n 3, 1) := by decide +kernel
theorem dX3_about_6 : decode cX3_about 6 = .ok (.aload_n 3, 1) := by decide +kernel
theorem dX3_about_7 : decode cX3_about 7 = .ok (.ifnonnull 5, 3) := by decide +kernel
theorem dX3_about_10 : decode cX3_about 10 = .ok (.iconst (-1), 1) := by decide +kernel
theorem dX3_about_11 : decode cX3_about 11 = .ok (.ireturn, 1) := by decide +kernel
theorem dX3_about_12 : decode cX3_about 12 = .ok (.iload_n 2, 1) := by decide +kernel
theorem dX3_about_13 : decode cX3_about 13 = .ok (.tableswitch 52 0 3 #[31, 36, 41, 47], 31) := by decide +kernel
theorem dX3_about_44 : decode cX3_about 44 = .ok (.aload_n 3, 1) := by decide +kernel
theorem dX3_about_45 : decode cX3_about 45 = .ok (.getfield 117, 3) := by decide +kernel
theorem dX3_about_48 : decode cX3_about 48 = .ok (.ireturn, 1) := by decide +kernel
theorem dX3_about_49 : decode cX3_about 49 = .ok (.aload_n 3, 1) := by decide +kernel
theorem dX3_about_50 : decode cX3_about 50 = .ok (.invokevirtual 182, 3) := by decide +kernel
theorem dX3_about_53 : decode cX3_about 53 = .ok (.ireturn, 1) := by decide +kernel
theorem dX3_about_54 : decode cX3_about 54 = .ok (.aload_n 0, 1) := by decide +kernel
theorem dX3_about_55 : decode cX3_about 55 = .ok (.aload_n 3, 1) := by decide +kernel
theorem dX3_about_56 : decode cX3_about 56 = .ok (.invokevirtual 185, 3) := by decide +kernel
theorem dX3_about_59 : decode cX3_about 59 = .ok (.ireturn, 1) := by decide +kernel
theorem dX3_about_60 : decode cX3_about 60 = .ok (.aload_n 3, 1) := by decide +kernel
theorem dX3_about_61 : decode cX3_about 61 = .ok (.getfield 188, 3) := by decide +kernel
theorem dX3_about_64 : decode cX3_about 64 = .ok (.ireturn, 1) := by decide +kernel
theorem dX3_about_65 : decode cX3_about 65 = .ok (.iconst (-1), 1) := by decide +kernel
theorem dX3_about_66 : decode cX3_about 66 = .ok (.ireturn, 1) := by decide +kernel
theorem dX3_load_0 : decode cX3_load 0 = .ok (.aload_n 0, 1) := by decide +kernel
theorem dX3_load_1 : decode cX3_load 1 = .ok (.iload_n 1, 1) := by decide +kernel
theorem dX3_load_2 : decode cX3_load 2 = .ok (.invokevirtual 91, 3) := by decide +kernel
theorem dX3_load_5 : decode cX3_load 5 = .ok (.ifnonnull 7, 3) := by decide +kernel
theorem dX3_load_8 : decode cX3_load 8 = .ok (.iconst (-1), 1) := by decide +kernel
theorem dX3_load_9 : decode cX3_load 9 = .ok (.goto 8, 3) := by decide +kernel
theorem dX3_load_12 : decode cX3_load 12 = .ok (.aload_n 0, 1) := by decide +kernel
theorem dX3_load_13 : decode cX3_load 13 = .ok (.iload_n 1, 1) := by decide +kernel
theorem dX3_load_14 : decode cX3_load 14 = .ok (.invokevirtual 191, 3) := by decide +kernel
theorem dX3_load_17 : decode cX3_load 17 = .ok (.ireturn, 1) := by decide +kernel
theorem dX3_isPackage_0 : decode cX3_isPackage 0 = .ok (.iload_n 0, 1) := by decide +kernel
theorem dX3_isPackage_1 : decode cX3_isPackage 1 = .ok (.ifCond .lt 13, 3) := by decide +kernel
theorem dX3_isPackage_4 : decode cX3_isPackage 4 = .ok (.iload_n 0, 1) := by decide +kernel
theorem dX3_isPackage_5 : decode cX3_isPackage 5 = .ok (.bipush 10, 2) := by decide +kernel
theorem dX3_isPackage_7 : decode cX3_isPackage 7 = .ok (.if_icmp .ge 7, 3) := by decide +kernel
theorem dX3_isPackage_10 : decode cX3_isPackage 10 = .ok (.iconst 1, 1) := by decide +kernel
theorem dX3_isPackage_11 : decode cX3_isPackage 11 = .ok (.goto 4, 3) := by decide +kernel
theorem dX3_isPackage_14 : decode cX3_isPackage 14 = .ok (.iconst 0, 1) := by decide +kernel
theorem dX3_isPackage_15 : decode cX3_isPackage 15 = .ok (.ireturn, 1) := by decide +kernel
theorem dX3_isTaken_0 : decode cX3_isTaken 0 = .ok (.iconst 0, 1) := by decide +kernel
theorem dX3_isTaken_1 : decode cX3_isTaken 1 = .ok (.istore_n 2, 1) := by decide +kernel
theorem dX3_isTaken_2 : decode cX3_isTaken 2 = .ok (.iload_n 2, 1) := by decide +kernel
theorem dX3_isTaken_3 : decode cX3_isTaken 3 = .ok (.aload_n 0, 1) := by decide +kernel
theorem dX3_isTaken_4 : decode cX3_isTaken 4 = .ok (.getfield 15, 3) := by decide +kernel
theorem dX3_isTaken_7 : decode cX3_isTaken 7 = .ok (.if_icmp .ge 30, 3) := by decide +kernel
theorem dX3_isTaken_10 : decode cX3_isTaken 10 = .ok (.aload_n 0, 1) := by decide +kernel
theorem dX3_isTaken_11 : decode cX3_isTaken 11 = .ok (.getfield 11, 3) := by decide +kernel
theorem dX3_isTaken_14 : decode cX3_isTaken 14 = .ok (.iload_n 2, 1) := by decide +kernel
theorem dX3_isTaken_15 : decode cX3_isTaken 15 = .ok (.aaload, 1) := by decide +kernel
theorem dX3_isTaken_16 : decode cX3_isTaken 16 = .ok (.astore_n 3, 1) := by decide +kernel
theorem dX3_isTaken_17 : decode cX3_isTaken 17 = .ok (.aload_n 3, 1) := by decide +kernel
theorem dX3_isTaken_18 : decode cX3_isTaken 18 = .ok (.ifnull 13, 3) := by decide +kernel
theorem dX3_isTaken_21 : decode cX3_isTaken 21 = .ok (.aload_n 3, 1) := by decide +kernel
theorem dX3_isTaken_22 : decode cX3_isTaken 22 = .ok (.getfield 195, 3) := by decide +kernel
theorem dX3_isTaken_25 : decode cX3_isTaken 25 = .ok (.iload_n 1, 1) := by decide +kernel
theorem dX3_isTaken_26 : decode cX3_isTaken 26 = .ok (.if_icmp .ne 5, 3) := by decide +kernel
theorem dX3_isTaken_29 : decode cX3_isTaken 29 = .ok (.iconst 1, 1) := by decide +kernel
theorem dX3_isTaken_30 : decode cX3_isTaken 30 = .ok (.ireturn, 1) := by decide +kernel
theorem dX3_isTaken_31 : decode cX3_isTaken 31 = .ok (.iinc 2 1, 3) := by decide +kernel
theorem dX3_isTaken_34 : decode cX3_isTaken 34 = .ok (.goto (-32), 3) := by decide +kernel
theorem dX3_isTaken_37 : decode cX3_isTaken 37 = .ok (.iconst 0, 1) := by decide +kernel
theorem dX3_isTaken_38 : decode cX3_isTaken 38 = .ok (.ireturn, 1) := by decide +kernel
theorem dX3_storeOf_0 : decode cX3_storeOf 0 = .ok (.iload_n 1, 1) := by decide +kernel
theorem dX3_storeOf_1 : decode cX3_storeOf 1 = .ok (.ifCond .lt 20, 3) := by decide +kernel
theorem dX3_storeOf_4 : decode cX3_storeOf 4 = .ok (.iload_n 1, 1) := by decide +kernel
theorem dX3_storeOf_5 : decode cX3_storeOf 5 = .ok (.aload_n 0, 1) := by decide +kernel
theorem dX3_storeOf_6 : decode cX3_storeOf 6 = .ok (.getfield 15, 3) := by decide +kernel
theorem dX3_storeOf_9 : decode cX3_storeOf 9 = .ok (.if_icmp .ge 12, 3) := by decide +kernel
theorem dX3_storeOf_12 : decode cX3_storeOf 12 = .ok (.aload_n 0, 1) := by decide +kernel
theorem dX3_storeOf_13 : decode cX3_storeOf 13 = .ok (.getfield 11, 3) := by decide +kernel
theorem dX3_storeOf_16 : decode cX3_storeOf 16 = .ok (.iload_n 1, 1) := by decide +kernel
theorem dX3_storeOf_17 : decode cX3_storeOf 17 = .ok (.aaload, 1) := by decide +kernel
theorem dX3_storeOf_18 : decode cX3_storeOf 18 = .ok (.goto 4, 3) := by decide +kernel
theorem dX3_storeOf_21 : decode cX3_storeOf 21 = .ok (.aconst_null, 1) := by decide +kernel
theorem dX3_storeOf_22 : decode cX3_storeOf 22 = .ok (.areturn, 1) := by decide +kernel
theorem dX3_itemOf_0 : decode cX3_itemOf 0 = .ok (.iload_n 1, 1) := by decide +kernel
theorem dX3_itemOf_1 : decode cX3_itemOf 1 = .ok (.ifCond .lt 20, 3) := by decide +kernel
theorem dX3_itemOf_4 : decode cX3_itemOf 4 = .ok (.iload_n 1, 1) := by decide +kernel
theorem dX3_itemOf_5 : decode cX3_itemOf 5 = .ok (.aload_n 0, 1) := by decide +kernel
theorem dX3_itemOf_6 : decode cX3_itemOf 6 = .ok (.getfield 25, 3) := by decide +kernel
theorem dX3_itemOf_9 : decode cX3_itemOf 9 = .ok (.if_icmp .ge 12, 3) := by decide +kernel
theorem dX3_itemOf_12 : decode cX3_itemOf 12 = .ok (.aload_n 0, 1) := by decide +kernel
theorem dX3_itemOf_13 : decode cX3_itemOf 13 = .ok (.getfield 21, 3) := by decide +kernel
theorem dX3_itemOf_16 : decode cX3_itemOf 16 = .ok (.iload_n 1, 1) := by decide +kernel
theorem dX3_itemOf_17 : decode cX3_itemOf 17 = .ok (.aaload, 1) := by decide +kernel
theorem dX3_itemOf_18 : decode cX3_itemOf 18 = .ok (.goto 4, 3) := by decide +kernel
theorem dX3_itemOf_21 : decode cX3_itemOf 21 = .ok (.aconst_null, 1) := by decide +kernel
theorem dX3_itemOf_22 : decode cX3_itemOf 22 = .ok (.areturn, 1) := by decide +kernel
theorem dX3_copyOf_0 : decode cX3_copyOf 0 = .ok (.aload_n 0, 1) := by decide +kernel
theorem dX3_copyOf_1 : decode cX3_copyOf 1 = .ok (.iload_n 2, 1) := by decide +kernel
theorem dX3_copyOf_2 : decode cX3_copyOf 2 = .ok (.invokevirtual 109, 3) := by decide +kernel
theorem dX3_copyOf_5 : decode cX3_copyOf 5 = .ok (.astore_n 3, 1) := by decide +kernel
theorem dX3_copyOf_6 : decode cX3_copyOf 6 = .ok (.aload_n 3, 1) := by decide +kernel
theorem dX3_copyOf_7 : decode cX3_copyOf 7 = .ok (.ifnull 11, 3) := by decide +kernel
theorem dX3_copyOf_10 : decode cX3_copyOf 10 = .ok (.aload_n 0, 1) := by decide +kernel
theorem dX3_copyOf_11 : decode cX3_copyOf 11 = .ok (.iload_n 1, 1) := by decide +kernel
theorem dX3_copyOf_12 : decode cX3_copyOf 12 = .ok (.invokevirtual 91, 3) := by decide +kernel
theorem dX3_copyOf_15 : decode cX3_copyOf 15 = .ok (.ifnonnull 7, 3) := by decide +kernel
theorem dX3_copyOf_18 : decode cX3_copyOf 18 = .ok (.aconst_null, 1) := by decide +kernel
theorem dX3_copyOf_19 : decode cX3_copyOf 19 = .ok (.goto 9, 3) := by decide +kernel
theorem dX3_copyOf_22 : decode cX3_copyOf 22 = .ok (.aload_n 3, 1) := by decide +kernel
theorem dX3_copyOf_23 : decode cX3_copyOf 23 = .ok (.getfield 113, 3) := by decide +kernel
theorem dX3_copyOf_26 : decode cX3_copyOf 26 = .ok (.iload_n 1, 1) := by decide +kernel
theorem dX3_copyOf_27 : decode cX3_copyOf 27 = .ok (.aaload, 1) := by decide +kernel
theorem dX3_copyOf_28 : decode cX3_copyOf 28 = .ok (.areturn, 1) := by decide +kernel
theorem dX3_isAnswering_0 : decode cX3_isAnswering 0 = .ok (.aload_n 0, 1) := by decide +kernel
theorem dX3_isAnswering_1 : decode cX3_isAnswering 1 = .ok (.iload_n 1, 1) := by decide +kernel
theorem dX3_isAnswering_2 : decode cX3_isAnswering 2 = .ok (.invokevirtual 91, 3) := by decide +kernel
theorem dX3_isAnswering_5 : decode cX3_isAnswering 5 = .ok (.astore_n 2, 1) := by decide +kernel
theorem dX3_isAnswering_6 : decode cX3_isAnswering 6 = .ok (.aload_n 2, 1) := by decide +kernel
theorem dX3_isAnswering_7 : decode cX3_isAnswering 7 = .ok (.ifnull 14, 3) := by decide +kernel
theorem dX3_isAnswering_10 : decode cX3_isAnswering 10 = .ok (.aload_n 2, 1) := by decide +kernel
theorem dX3_isAnswering_11 : decode cX3_isAnswering 11 = .ok (.getfield 95, 3) := by decide +kernel
theorem dX3_isAnswering_14 : decode cX3_isAnswering 14 = .ok (.ifCond .eq 7, 3) := by decide +kernel
theorem dX3_isAnswering_17 : decode cX3_isAnswering 17 = .ok (.iconst 1, 1) := by decide +kernel
theorem dX3_isAnswering_18 : decode cX3_isAnswering 18 = .ok (.goto 4, 3) := by decide +kernel
theorem dX3_isAnswering_21 : decode cX3_isAnswering 21 = .ok (.iconst 0, 1) := by decide +kernel
theorem dX3_isAnswering_22 : decode cX3_isAnswering 22 = .ok (.ireturn, 1) := by decide +kernel
theorem dX3_answeringStores_0 : decode cX3_answeringStores 0 = .ok (.iconst 0, 1) := by decide +kernel
theorem dX3_answeringStores_1 : decode cX3_answeringStores 1 = .ok (.istore_n 1, 1) := by decide +kernel
theorem dX3_answeringStores_2 : decode cX3_answeringStores 2 = .ok (.iconst 0, 1) := by decide +kernel
theorem dX3_answeringStores_3 : decode cX3_answeringStores 3 = .ok (.istore_n 2, 1) := by decide +kernel
theorem dX3_answeringStores_4 : decode cX3_answeringStores 4 = .ok (.iload_n 2, 1) := by decide +kernel
theorem dX3_answeringStores_5 : decode cX3_answeringStores 5 = .ok (.aload_n 0, 1) := by decide +kernel
theorem dX3_answeringStores_6 : decode cX3_answeringStores 6 = .ok (.getfield 15, 3) := by decide +kernel
theorem dX3_answeringStores_9 : decode cX3_answeringStores 9 = .ok (.if_icmp .ge 20, 3) := by decide +kernel
theorem dX3_answeringStores_12 : decode cX3_answeringStores 12 = .ok (.aload_n 0, 1) := by decide +kernel
theorem dX3_answeringStores_13 : decode cX3_answeringStores 13 = .ok (.iload_n 2, 1) := by decide +kernel
theorem dX3_answeringStores_14 : decode cX3_answeringStores 14 = .ok (.invokevirtual 153, 3) := by decide +kernel
theorem dX3_answeringStores_17 : decode cX3_answeringStores 17 = .ok (.ifCond .eq 6, 3) := by decide +kernel
theorem dX3_answeringStores_20 : decode cX3_answeringStores 20 = .ok (.iinc 1 1, 3) := by decide +kernel
theorem dX3_answeringStores_23 : decode cX3_answeringStores 23 = .ok (.iinc 2 1, 3) := by decide +kernel
theorem dX3_answeringStores_26 : decode cX3_answeringStores 26 = .ok (.goto (-22), 3) := by decide +kernel
theorem dX3_answeringStores_29 : decode cX3_answeringStores 29 = .ok (.iload_n 1, 1) := by decide +kernel
theorem dX3_answeringStores_30 : decode cX3_answeringStores 30 = .ok (.ireturn, 1) := by decide +kernel
theorem dX3_copiesOn_0 : decode cX3_copiesOn 0 = .ok (.iconst 0, 1) := by decide +kernel
theorem dX3_copiesOn_1 : decode cX3_copiesOn 1 = .ok (.istore_n 2, 1) := by decide +kernel
theorem dX3_copiesOn_2 : decode cX3_copiesOn 2 = .ok (.iconst 0, 1) := by decide +kernel
theorem dX3_copiesOn_3 : decode cX3_copiesOn 3 = .ok (.istore_n 3, 1) := by decide +kernel
theorem dX3_copiesOn_4 : decode cX3_copiesOn 4 = .ok (.iload_n 3, 1) := by decide +kernel
theorem dX3_copiesOn_5 : decode cX3_copiesOn 5 = .ok (.aload_n 0, 1) := by decide +kernel
theorem dX3_copiesOn_6 : decode cX3_copiesOn 6 = .ok (.getfield 25, 3) := by decide +kernel
theorem dX3_copiesOn_9 : decode cX3_copiesOn 9 = .ok (.if_icmp .ge 21, 3) := by decide +kernel
theorem dX3_copiesOn_12 : decode cX3_copiesOn 12 = .ok (.aload_n 0, 1) := by decide +kernel
theorem dX3_copiesOn_13 : decode cX3_copiesOn 13 = .ok (.iload_n 1, 1) := by decide +kernel
theorem dX3_copiesOn_14 : decode cX3_copiesOn 14 = .ok (.iload_n 3, 1) := by decide +kernel
theorem dX3_copiesOn_15 : decode cX3_copiesOn 15 = .ok (.invokevirtual 99, 3) := by decide +kernel
theorem dX3_copiesOn_18 : decode cX3_copiesOn 18 = .ok (.ifnull 6, 3) := by decide +kernel
theorem dX3_copiesOn_21 : decode cX3_copiesOn 21 = .ok (.iinc 2 1, 3) := by decide +kernel
theorem dX3_copiesOn_24 : decode cX3_copiesOn 24 = .ok (.iinc 3 1, 3) := by decide +kernel
theorem dX3_copiesOn_27 : decode cX3_copiesOn 27 = .ok (.goto (-23), 3) := by decide +kernel
theorem dX3_copiesOn_30 : decode cX3_copiesOn 30 = .ok (.iload_n 2, 1) := by decide +kernel
theorem dX3_copiesOn_31 : decode cX3_copiesOn 31 = .ok (.ireturn, 1) := by decide +kernel
theorem dX3_placeCollected_0 : decode cX3_placeCollected 0 = .ok (.iconst (-1), 1) := by decide +kernel
theorem dX3_placeCollected_1 : decode cX3_placeCollected 1 = .ok (.istore_n 2, 1) := by decide +kernel
theorem dX3_placeCollected_2 : decode cX3_placeCollected 2 = .ok (.iconst 0, 1) := by decide +kernel
theorem dX3_placeCollected_3 : decode cX3_placeCollected 3 = .ok (.istore_n 3, 1) := by decide +kernel
theorem dX3_placeCollected_4 : decode cX3_placeCollected 4 = .ok (.iconst 0, 1) := by decide +kernel
theorem dX3_placeCollected_5 : decode cX3_placeCollected 5 = .ok (.istore 4, 2) := by decide +kernel
theorem dX3_placeCollected_7 : decode cX3_placeCollected 7 = .ok (.iload 4, 2) := by decide +kernel
theorem dX3_placeCollected_9 : decode cX3_placeCollected 9 = .ok (.aload_n 0, 1) := by decide +kernel
theorem dX3_placeCollected_10 : decode cX3_placeCollected 10 = .ok (.getfield 15, 3) := by decide +kernel
theorem dX3_placeCollected_13 : decode cX3_placeCollected 13 = .ok (.if_icmp .ge 53, 3) := by decide +kernel
theorem dX3_placeCollected_16 : decode cX3_placeCollected 16 = .ok (.aload_n 0, 1) := by decide +kernel
theorem dX3_placeCollected_17 : decode cX3_placeCollected 17 = .ok (.iload 4, 2) := by decide +kernel
theorem dX3_placeCollected_19 : decode cX3_placeCollected 19 = .ok (.invokevirtual 153, 3) := by decide +kernel
theorem dX3_placeCollected_22 : decode cX3_placeCollected 22 = .ok (.ifCond .eq 38, 3) := by decide +kernel
theorem dX3_placeCollected_25 : decode cX3_placeCollected 25 = .ok (.aload_n 1, 1) := by decide +kernel
theorem dX3_placeCollected_26 : decode cX3_placeCollected 26 = .ok (.getfield 113, 3) := by decide +kernel
theorem dX3_placeCollected_29 : decode cX3_placeCollected 29 = .ok (.iload 4, 2) := by decide +kernel
theorem dX3_placeCollected_31 : decode cX3_placeCollected 31 = .ok (.aaload, 1) := by decide +kernel
theorem dX3_placeCollected_32 : decode cX3_placeCollected 32 = .ok (.ifnonnull 28, 3) := by decide +kernel
theorem dX3_placeCollected_35 : decode cX3_placeCollected 35 = .ok (.aload_n 0, 1) := by decide +kernel
theorem dX3_placeCollected_36 : decode cX3_placeCollected 36 = .ok (.iload 4, 2) := by decide +kernel
theorem dX3_placeCollected_38 : decode cX3_placeCollected 38 = .ok (.invokevirtual 191, 3) := by decide +kernel
theorem dX3_placeCollected_41 : decode cX3_placeCollected 41 = .ok (.istore 5, 2) := by decide +kernel
theorem dX3_placeCollected_43 : decode cX3_placeCollected 43 = .ok (.iload_n 2, 1) := by decide +kernel
theorem dX3_placeCollected_44 : decode cX3_placeCollected 44 = .ok (.iconst (-1), 1) := by decide +kernel
theorem dX3_placeCollected_45 : decode cX3_placeCollected 45 = .ok (.if_icmp .eq 9, 3) := by decide +kernel
theorem dX3_placeCollected_48 : decode cX3_placeCollected 48 = .ok (.iload 5, 2) := by decide +kernel
theorem dX3_placeCollected_50 : decode cX3_placeCollected 50 = .ok (.iload_n 3, 1) := by decide +kernel
theorem dX3_placeCollected_51 : decode cX3_placeCollected 51 = .ok (.if_icmp .ge 9, 3) := by decide +kernel
theorem dX3_placeCollected_54 : decode cX3_placeCollected 54 = .ok (.iload 4, 2) := by decide +kernel
theorem dX3_placeCollected_56 : decode cX3_placeCollected 56 = .ok (.istore_n 2, 1) := by decide +kernel
theorem dX3_placeCollected_57 : decode cX3_placeCollected 57 = .ok (.iload 5, 2) := by decide +kernel
theorem dX3_placeCollected_59 : decode cX3_placeCollected 59 = .ok (.istore_n 3, 1) := by decide +kernel
theorem dX3_placeCollected_60 : decode cX3_placeCollected 60 = .ok (.iinc 4 1, 3) := by decide +kernel
theorem dX3_placeCollected_63 : decode cX3_placeCollected 63 = .ok (.goto (-56), 3) := by decide +kernel
theorem dX3_placeCollected_66 : decode cX3_placeCollected 66 = .ok (.iload_n 2, 1) := by decide +kernel
theorem dX3_placeCollected_67 : decode cX3_placeCollected 67 = .ok (.iconst (-1), 1) := by decide +kernel
theorem dX3_placeCollected_68 : decode cX3_placeCollected 68 = .ok (.if_icmp .eq 16, 3) := by decide +kernel
theorem dX3_placeCollected_71 : decode cX3_placeCollected 71 = .ok (.aload_n 1, 1) := by decide +kernel
theorem dX3_placeCollected_72 : decode cX3_placeCollected 72 = .ok (.getfield 113, 3) := by decide +kernel
theorem dX3_placeCollected_75 : decode cX3_placeCollected 75 = .ok (.iload_n 2, 1) := by decide +kernel
theorem dX3_placeCollected_76 : decode cX3_placeCollected 76 = .ok (.aload_n 0, 1) := by decide +kernel
theorem dX3_placeCollected_77 : decode cX3_placeCollected 77 = .ok (.getfield 31, 3) := by decide +kernel
theorem dX3_placeCollected_80 : decode cX3_placeCollected 80 = .ok (.invokevirtual 198, 3) := by decide +kernel
theorem dX3_placeCollected_83 : decode cX3_placeCollected 83 = .ok (.aastore, 1) := by decide +kernel
theorem dX3_placeCollected_84 : decode cX3_placeCollected 84 = .ok (.return_, 1) := by decide +kernel
theorem dX3_countingRow_0 : decode cX3_countingRow 0 = .ok (.aload_n 0, 1) := by decide +kernel
theorem dX3_countingRow_1 : decode cX3_countingRow 1 = .ok (.iload_n 2, 1) := by decide +kernel
theorem dX3_countingRow_2 : decode cX3_countingRow 2 = .ok (.invokevirtual 153, 3) := by decide +kernel
theorem dX3_countingRow_5 : decode cX3_countingRow 5 = .ok (.ifCond .eq 12, 3) := by decide +kernel
theorem dX3_countingRow_8 : decode cX3_countingRow 8 = .ok (.aload_n 1, 1) := by decide +kernel
theorem dX3_countingRow_9 : decode cX3_countingRow 9 = .ok (.getfield 113, 3) := by decide +kernel
theorem dX3_countingRow_12 : decode cX3_countingRow 12 = .ok (.iload_n 2, 1) := by decide +kernel
theorem dX3_countingRow_13 : decode cX3_countingRow 13 = .ok (.aaload, 1) := by decide +kernel
theorem dX3_countingRow_14 : decode cX3_countingRow 14 = .ok (.goto 4, 3) := by decide +kernel
theorem dX3_countingRow_17 : decode cX3_countingRow 17 = .ok (.aconst_null, 1) := by decide +kernel
theorem dX3_countingRow_18 : decode cX3_countingRow 18 = .ok (.areturn, 1) := by decide +kernel
theorem dX3_countingCopies_0 : decode cX3_countingCopies 0 = .ok (.iconst 0, 1) := by decide +kernel
theorem dX3_countingCopies_1 : decode cX3_countingCopies 1 = .ok (.istore_n 2, 1) := by decide +kernel
theorem dX3_countingCopies_2 : decode cX3_countingCopies 2 = .ok (.iconst 0, 1) := by decide +kernel
theorem dX3_countingCopies_3 : decode cX3_countingCopies 3 = .ok (.istore_n 3, 1) := by decide +kernel
theorem dX3_countingCopies_4 : decode cX3_countingCopies 4 = .ok (.iload_n 3, 1) := by decide +kernel
theorem dX3_countingCopies_5 : decode cX3_countingCopies 5 = .ok (.aload_n 0, 1) := by decide +kernel
theorem dX3_countingCopies_6 : decode cX3_countingCopies 6 = .ok (.getfield 15, 3) := by decide +kernel
theorem dX3_countingCopies_9 : decode cX3_countingCopies 9 = .ok (.if_icmp .ge 21, 3) := by decide +kernel
theorem dX3_countingCopies_12 : decode cX3_countingCopies 12 = .ok (.aload_n 0, 1) := by decide +kernel
theorem dX3_countingCopies_13 : decode cX3_countingCopies 13 = .ok (.aload_n 1, 1) := by decide +kernel
theorem dX3_countingCopies_14 : decode cX3_countingCopies 14 = .ok (.iload_n 3, 1) := by decide +kernel
theorem dX3_countingCopies_15 : decode cX3_countingCopies 15 = .ok (.invokevirtual 202, 3) := by decide +kernel
theorem dX3_countingCopies_18 : decode cX3_countingCopies 18 = .ok (.ifnull 6, 3) := by decide +kernel
theorem dX3_countingCopies_21 : decode cX3_countingCopies 21 = .ok (.iinc 2 1, 3) := by decide +kernel
theorem dX3_countingCopies_24 : decode cX3_countingCopies 24 = .ok (.iinc 3 1, 3) := by decide +kernel
theorem dX3_countingCopies_27 : decode cX3_countingCopies 27 = .ok (.goto (-23), 3) := by decide +kernel
theorem dX3_countingCopies_30 : decode cX3_countingCopies 30 = .ok (.iload_n 2, 1) := by decide +kernel
theorem dX3_countingCopies_31 : decode cX3_countingCopies 31 = .ok (.ireturn, 1) := by decide +kernel
theorem dX3_listCounting_0 : decode cX3_listCounting 0 = .ok (.iconst 0, 1) := by decide +kernel
theorem dX3_listCounting_1 : decode cX3_listCounting 1 = .ok (.istore_n 2, 1) := by decide +kernel
theorem dX3_listCounting_2 : decode cX3_listCounting 2 = .ok (.iconst 0, 1) := by decide +kernel
theorem dX3_listCounting_3 : decode cX3_listCounting 3 = .ok (.istore_n 3, 1) := by decide +kernel
theorem dX3_listCounting_4 : decode cX3_listCounting 4 = .ok (.iload_n 3, 1) := by decide +kernel
theorem dX3_listCounting_5 : decode cX3_listCounting 5 = .ok (.aload_n 0, 1) := by decide +kernel
theorem dX3_listCounting_6 : decode cX3_listCounting 6 = .ok (.getfield 15, 3) := by decide +kernel
theorem dX3_listCounting_9 : decode cX3_listCounting 9 = .ok (.if_icmp .ge 37, 3) := by decide +kernel
theorem dX3_listCounting_12 : decode cX3_listCounting 12 = .ok (.iload_n 2, 1) := by decide +kernel
theorem dX3_listCounting_13 : decode cX3_listCounting 13 = .ok (.aload_n 0, 1) := by decide +kernel
theorem dX3_listCounting_14 : decode cX3_listCounting 14 = .ok (.getfield 35, 3) := by decide +kernel
theorem dX3_listCounting_17 : decode cX3_listCounting 17 = .ok (.arraylength, 1) := by decide +kernel
theorem dX3_listCounting_18 : decode cX3_listCounting 18 = .ok (.if_icmp .ge 22, 3) := by decide +kernel
theorem dX3_listCounting_21 : decode cX3_listCounting 21 = .ok (.aload_n 0, 1) := by decide +kernel
theorem dX3_listCounting_22 : decode cX3_listCounting 22 = .ok (.aload_n 1, 1) := by decide +kernel
theorem dX3_listCounting_23 : decode cX3_listCounting 23 = .ok (.iload_n 3, 1) := by decide +kernel
theorem dX3_listCounting_24 : decode cX3_listCounting 24 = .ok (.invokevirtual 202, 3) := by decide +kernel
theorem dX3_listCounting_27 : decode cX3_listCounting 27 = .ok (.ifnull 13, 3) := by decide +kernel
theorem dX3_listCounting_30 : decode cX3_listCounting 30 = .ok (.aload_n 0, 1) := by decide +kernel
theorem dX3_listCounting_31 : decode cX3_listCounting 31 = .ok (.getfield 35, 3) := by decide +kernel
theorem dX3_listCounting_34 : decode cX3_listCounting 34 = .ok (.iload_n 2, 1) := by decide +kernel
theorem dX3_listCounting_35 : decode cX3_listCounting 35 = .ok (.iload_n 3, 1) := by decide +kernel
theorem dX3_listCounting_36 : decode cX3_listCounting 36 = .ok (.iastore, 1) := by decide +kernel
theorem dX3_listCounting_37 : decode cX3_listCounting 37 = .ok (.iinc 2 1, 3) := by decide +kernel
theorem dX3_listCounting_40 : decode cX3_listCounting 40 = .ok (.iinc 3 1, 3) := by decide +kernel
theorem dX3_listCounting_43 : decode cX3_listCounting 43 = .ok (.goto (-39), 3) := by decide +kernel
theorem dX3_listCounting_46 : decode cX3_listCounting 46 = .ok (.iload_n 2, 1) := by decide +kernel
theorem dX3_listCounting_47 : decode cX3_listCounting 47 = .ok (.ireturn, 1) := by decide +kernel
theorem dX3_mix_0 : decode cX3_mix 0 = .ok (.lload_n 2, 1) := by decide +kernel
theorem dX3_mix_1 : decode cX3_mix 1 = .ok (.lstore 4, 2) := by decide +kernel
theorem dX3_mix_3 : decode cX3_mix 3 = .ok (.iload_n 1, 1) := by decide +kernel
theorem dX3_mix_4 : decode cX3_mix 4 = .ok (.iconst 1, 1) := by decide +kernel
theorem dX3_mix_5 : decode cX3_mix 5 = .ok (.isub, 1) := by decide +kernel
theorem dX3_mix_6 : decode cX3_mix 6 = .ok (.istore 6, 2) := by decide +kernel
theorem dX3_mix_8 : decode cX3_mix 8 = .ok (.iload 6, 2) := by decide +kernel
theorem dX3_mix_10 : decode cX3_mix 10 = .ok (.iconst 1, 1) := by decide +kernel
theorem dX3_mix_11 : decode cX3_mix 11 = .ok (.if_icmp .lt 66, 3) := by decide +kernel
theorem dX3_mix_14 : decode cX3_mix 14 = .ok (.lload 4, 2) := by decide +kernel
theorem dX3_mix_16 : decode cX3_mix 16 = .ok (.ldc2_w 206, 3) := by decide +kernel
theorem dX3_mix_19 : decode cX3_mix 19 = .ok (.lmul, 1) := by decide +kernel
theorem dX3_mix_20 : decode cX3_mix 20 = .ok (.ldc2_w 208, 3) := by decide +kernel
theorem dX3_mix_23 : decode cX3_mix 23 = .ok (.ladd, 1) := by decide +kernel
theorem dX3_mix_24 : decode cX3_mix 24 = .ok (.lstore 4, 2) := by decide +kernel
theorem dX3_mix_26 : decode cX3_mix 26 = .ok (.lload 4, 2) := by decide +kernel
theorem dX3_mix_28 : decode cX3_mix 28 = .ok (.bipush 33, 2) := by decide +kernel
theorem dX3_mix_30 : decode cX3_mix 30 = .ok (.lushr, 1) := by decide +kernel
theorem dX3_mix_31 : decode cX3_mix 31 = .ok (.l2i, 1) := by decide +kernel
theorem dX3_mix_32 : decode cX3_mix 32 = .ok (.iload 6, 2) := by decide +kernel
theorem dX3_mix_34 : decode cX3_mix 34 = .ok (.iconst 1, 1) := by decide +kernel
theorem dX3_mix_35 : decode cX3_mix 35 = .ok (.iadd, 1) := by decide +kernel
theorem dX3_mix_36 : decode cX3_mix 36 = .ok (.irem, 1) := by decide +kernel
theorem dX3_mix_37 : decode cX3_mix 37 = .ok (.istore 7, 2) := by decide +kernel
theorem dX3_mix_39 : decode cX3_mix 39 = .ok (.aload_n 0, 1) := by decide +kernel
theorem dX3_mix_40 : decode cX3_mix 40 = .ok (.getfield 35, 3) := by decide +kernel
theorem dX3_mix_43 : decode cX3_mix 43 = .ok (.iload 6, 2) := by decide +kernel
theorem dX3_mix_45 : decode cX3_mix 45 = .ok (.iaload, 1) := by decide +kernel
theorem dX3_mix_46 : decode cX3_mix 46 = .ok (.istore 8, 2) := by decide +kernel
theorem dX3_mix_48 : decode cX3_mix 48 = .ok (.aload_n 0, 1) := by decide +kernel
theorem dX3_mix_49 : decode cX3_mix 49 = .ok (.getfield 35, 3) := by decide +kernel
theorem dX3_mix_52 : decode cX3_mix 52 = .ok (.iload 6, 2) := by decide +kernel
theorem dX3_mix_54 : decode cX3_mix 54 = .ok (.aload_n 0, 1) := by decide +kernel
theorem dX3_mix_55 : decode cX3_mix 55 = .ok (.getfield 35, 3) := by decide +kernel
theorem dX3_mix_58 : decode cX3_mix 58 = .ok (.iload 7, 2) := by decide +kernel
theorem dX3_mix_60 : decode cX3_mix 60 = .ok (.iaload, 1) := by decide +kernel
theorem dX3_mix_61 : decode cX3_mix 61 = .ok (.iastore, 1) := by decide +kernel
theorem dX3_mix_62 : decode cX3_mix 62 = .ok (.aload_n 0, 1) := by decide +kernel
theorem dX3_mix_63 : decode cX3_mix 63 = .ok (.getfield 35, 3) := by decide +kernel
theorem dX3_mix_66 : decode cX3_mix 66 = .ok (.iload 7, 2) := by decide +kernel
theorem dX3_mix_68 : decode cX3_mix 68 = .ok (.iload 8, 2) := by decide +kernel
theorem dX3_mix_70 : decode cX3_mix 70 = .ok (.iastore, 1) := by decide +kernel
theorem dX3_mix_71 : decode cX3_mix 71 = .ok (.iinc 6 (-1), 3) := by decide +kernel
theorem dX3_mix_74 : decode cX3_mix 74 = .ok (.goto (-66), 3) := by decide +kernel
theorem dX3_mix_77 : decode cX3_mix 77 = .ok (.lload 4, 2) := by decide +kernel
theorem dX3_mix_79 : decode cX3_mix 79 = .ok (.lreturn, 1) := by decide +kernel
theorem dX3_ask_0 : decode cX3_ask 0 = .ok (.iconst 0, 1) := by decide +kernel
theorem dX3_ask_1 : decode cX3_ask 1 = .ok (.istore 4, 2) := by decide +kernel
theorem dX3_ask_3 : decode cX3_ask 3 = .ok (.iload 4, 2) := by decide +kernel
theorem dX3_ask_5 : decode cX3_ask 5 = .ok (.iload_n 3, 1) := by decide +kernel
theorem dX3_ask_6 : decode cX3_ask 6 = .ok (.if_icmp .ge 90, 3) := by decide +kernel
theorem dX3_ask_9 : decode cX3_ask 9 = .ok (.aload_n 0, 1) := by decide +kernel
theorem dX3_ask_10 : decode cX3_ask 10 = .ok (.aload_n 2, 1) := by decide +kernel
theorem dX3_ask_11 : decode cX3_ask 11 = .ok (.aload_n 0, 1) := by decide +kernel
theorem dX3_ask_12 : decode cX3_ask 12 = .ok (.getfield 35, 3) := by decide +kernel
theorem dX3_ask_15 : decode cX3_ask 15 = .ok (.iload 4, 2) := by decide +kernel
theorem dX3_ask_17 : decode cX3_ask 17 = .ok (.iaload, 1) := by decide +kernel
theorem dX3_ask_18 : decode cX3_ask 18 = .ok (.invokevirtual 202, 3) := by decide +kernel
theorem dX3_ask_21 : decode cX3_ask 21 = .ok (.astore 5, 2) := by decide +kernel
theorem dX3_ask_23 : decode cX3_ask 23 = .ok (.aload 5, 2) := by decide +kernel
theorem dX3_ask_25 : decode cX3_ask 25 = .ok (.ifnull 65, 3) := by decide +kernel
theorem dX3_ask_28 : decode cX3_ask 28 = .ok (.aload_n 0, 1) := by decide +kernel
theorem dX3_ask_29 : decode cX3_ask 29 = .ok (.getfield 48, 3) := by decide +kernel
theorem dX3_ask_32 : decode cX3_ask 32 = .ok (.aload_n 0, 1) := by decide +kernel
theorem dX3_ask_33 : decode cX3_ask 33 = .ok (.getfield 39, 3) := by decide +kernel
theorem dX3_ask_36 : decode cX3_ask 36 = .ok (.arraylength, 1) := by decide +kernel
theorem dX3_ask_37 : decode cX3_ask 37 = .ok (.if_icmp .ge 53, 3) := by decide +kernel
theorem dX3_ask_40 : decode cX3_ask 40 = .ok (.aload_n 0, 1) := by decide +kernel
theorem dX3_ask_41 : decode cX3_ask 41 = .ok (.getfield 39, 3) := by decide +kernel
theorem dX3_ask_44 : decode cX3_ask 44 = .ok (.aload_n 0, 1) := by decide +kernel
theorem dX3_ask_45 : decode cX3_ask 45 = .ok (.getfield 48, 3) := by decide +kernel
theorem dX3_ask_48 : decode cX3_ask 48 = .ok (.iload_n 1, 1) := by decide +kernel
theorem dX3_ask_49 : decode cX3_ask 49 = .ok (.iastore, 1) := by decide +kernel
theorem dX3_ask_50 : decode cX3_ask 50 = .ok (.aload_n 0, 1) := by decide +kernel
theorem dX3_ask_51 : decode cX3_ask 51 = .ok (.getfield 42, 3) := by decide +kernel
theorem dX3_ask_54 : decode cX3_ask 54 = .ok (.aload_n 0, 1) := by decide +kernel
theorem dX3_ask_55 : decode cX3_ask 55 = .ok (.getfield 48, 3) := by decide +kernel
theorem dX3_ask_58 : decode cX3_ask 58 = .ok (.aload_n 0, 1) := by decide +kernel
theorem dX3_ask_59 : decode cX3_ask 59 = .ok (.getfield 35, 3) := by decide +kernel
theorem dX3_ask_62 : decode cX3_ask 62 = .ok (.iload 4, 2) := by decide +kernel
theorem dX3_ask_64 : decode cX3_ask 64 = .ok (.iaload, 1) := by decide +kernel
theorem dX3_ask_65 : decode cX3_ask 65 = .ok (.iastore, 1) := by decide +kernel
theorem dX3_ask_66 : decode cX3_ask 66 = .ok (.aload_n 0, 1) := by decide +kernel
theorem dX3_ask_67 : decode cX3_ask 67 = .ok (.getfield 45, 3) := by decide +kernel
theorem dX3_ask_70 : decode cX3_ask 70 = .ok (.aload_n 0, 1) := by decide +kernel
theorem dX3_ask_71 : decode cX3_ask 71 = .ok (.getfield 48, 3) := by decide +kernel
theorem dX3_ask_74 : decode cX3_ask 74 = .ok (.aload 5, 2) := by decide +kernel
theorem dX3_ask_76 : decode cX3_ask 76 = .ok (.invokevirtual 143, 3) := by decide +kernel
theorem dX3_ask_79 : decode cX3_ask 79 = .ok (.iastore, 1) := by decide +kernel
theorem dX3_ask_80 : decode cX3_ask 80 = .ok (.aload_n 0, 1) := by decide +kernel
theorem dX3_ask_81 : decode cX3_ask 81 = .ok (.dup, 1) := by decide +kernel
theorem dX3_ask_82 : decode cX3_ask 82 = .ok (.getfield 48, 3) := by decide +kernel
theorem dX3_ask_85 : decode cX3_ask 85 = .ok (.iconst 1, 1) := by decide +kernel
theorem dX3_ask_86 : decode cX3_ask 86 = .ok (.iadd, 1) := by decide +kernel
theorem dX3_ask_87 : decode cX3_ask 87 = .ok (.putfield 48, 3) := by decide +kernel
theorem dX3_ask_90 : decode cX3_ask 90 = .ok (.iinc 4 1, 3) := by decide +kernel
theorem dX3_ask_93 : decode cX3_ask 93 = .ok (.goto (-90), 3) := by decide +kernel
theorem dX3_ask_96 : decode cX3_ask 96 = .ok (.return_, 1) := by decide +kernel
theorem dX3_majorityRow_0 : decode cX3_majorityRow 0 = .ok (.aload_n 0, 1) := by decide +kernel
theorem dX3_majorityRow_1 : decode cX3_majorityRow 1 = .ok (.aload_n 1, 1) := by decide +kernel
theorem dX3_majorityRow_2 : decode cX3_majorityRow 2 = .ok (.invokevirtual 185, 3) := by decide +kernel
theorem dX3_majorityRow_5 : decode cX3_majorityRow 5 = .ok (.istore_n 2, 1) := by decide +kernel
theorem dX3_majorityRow_6 : decode cX3_majorityRow 6 = .ok (.iconst 0, 1) := by decide +kernel
theorem dX3_majorityRow_7 : decode cX3_majorityRow 7 = .ok (.istore_n 3, 1) := by decide +kernel
theorem dX3_majorityRow_8 : decode cX3_majorityRow 8 = .ok (.iload_n 3, 1) := by decide +kernel
theorem dX3_majorityRow_9 : decode cX3_majorityRow 9 = .ok (.aload_n 0, 1) := by decide +kernel
theorem dX3_majorityRow_10 : decode cX3_majorityRow 10 = .ok (.getfield 15, 3) := by decide +kernel
theorem dX3_majorityRow_13 : decode cX3_majorityRow 13 = .ok (.if_icmp .ge 41, 3) := by decide +kernel
theorem dX3_majorityRow_16 : decode cX3_majorityRow 16 = .ok (.aload_n 0, 1) := by decide +kernel
theorem dX3_majorityRow_17 : decode cX3_majorityRow 17 = .ok (.aload_n 1, 1) := by decide +kernel
theorem dX3_majorityRow_18 : decode cX3_majorityRow 18 = .ok (.iload_n 3, 1) := by decide +kernel
theorem dX3_majorityRow_19 : decode cX3_majorityRow 19 = .ok (.invokevirtual 202, 3) := by decide +kernel
theorem dX3_majorityRow_22 : decode cX3_majorityRow 22 = .ok (.astore 4, 2) := by decide +kernel
theorem dX3_majorityRow_24 : decode cX3_majorityRow 24 = .ok (.aload 4, 2) := by decide +kernel
theorem dX3_majorityRow_26 : decode cX3_majorityRow 26 = .ok (.ifnull 22, 3) := by decide +kernel
theorem dX3_majorityRow_29 : decode cX3_majorityRow 29 = .ok (.iconst 2, 1) := by decide +kernel
theorem dX3_majorityRow_30 : decode cX3_majorityRow 30 = .ok (.aload_n 0, 1) := by decide +kernel
theorem dX3_majorityRow_31 : decode cX3_majorityRow 31 = .ok (.aload_n 1, 1) := by decide +kernel
theorem dX3_majorityRow_32 : decode cX3_majorityRow 32 = .ok (.aload 4, 2) := by decide +kernel
theorem dX3_majorityRow_34 : decode cX3_majorityRow 34 = .ok (.invokevirtual 143, 3) := by decide +kernel
theorem dX3_majorityRow_37 : decode cX3_majorityRow 37 = .ok (.invokevirtual 210, 3) := by decide +kernel
theorem dX3_majorityRow_40 : decode cX3_majorityRow 40 = .ok (.imul, 1) := by decide +kernel
theorem dX3_majorityRow_41 : decode cX3_majorityRow 41 = .ok (.iload_n 2, 1) := by decide +kernel
theorem dX3_majorityRow_42 : decode cX3_majorityRow 42 = .ok (.if_icmp .le 6, 3) := by decide +kernel
theorem dX3_majorityRow_45 : decode cX3_majorityRow 45 = .ok (.aload 4, 2) := by decide +kernel
theorem dX3_majorityRow_47 : decode cX3_majorityRow 47 = .ok (.areturn, 1) := by decide +kernel
theorem dX3_majorityRow_48 : decode cX3_majorityRow 48 = .ok (.iinc 3 1, 3) := by decide +kernel
theorem dX3_majorityRow_51 : decode cX3_majorityRow 51 = .ok (.goto (-43), 3) := by decide +kernel
theorem dX3_majorityRow_54 : decode cX3_majorityRow 54 = .ok (.aconst_null, 1) := by decide +kernel
theorem dX3_majorityRow_55 : decode cX3_majorityRow 55 = .ok (.areturn, 1) := by decide +kernel
theorem dX3_countingWith_0 : decode cX3_countingWith 0 = .ok (.iconst 0, 1) := by decide +kernel
theorem dX3_countingWith_1 : decode cX3_countingWith 1 = .ok (.istore_n 3, 1) := by decide +kernel
theorem dX3_countingWith_2 : decode cX3_countingWith 2 = .ok (.iconst 0, 1) := by decide +kernel
theorem dX3_countingWith_3 : decode cX3_countingWith 3 = .ok (.istore 4, 2) := by decide +kernel
theorem dX3_countingWith_5 : decode cX3_countingWith 5 = .ok (.iload 4, 2) := by decide +kernel
theorem dX3_countingWith_7 : decode cX3_countingWith 7 = .ok (.aload_n 0, 1) := by decide +kernel
theorem dX3_countingWith_8 : decode cX3_countingWith 8 = .ok (.getfield 15, 3) := by decide +kernel
theorem dX3_countingWith_11 : decode cX3_countingWith 11 = .ok (.if_icmp .ge 35, 3) := by decide +kernel
theorem dX3_countingWith_14 : decode cX3_countingWith 14 = .ok (.aload_n 0, 1) := by decide +kernel
theorem dX3_countingWith_15 : decode cX3_countingWith 15 = .ok (.aload_n 1, 1) := by decide +kernel
theorem dX3_countingWith_16 : decode cX3_countingWith 16 = .ok (.iload 4, 2) := by decide +kernel
theorem dX3_countingWith_18 : decode cX3_countingWith 18 = .ok (.invokevirtual 202, 3) := by decide +kernel
theorem dX3_countingWith_21 : decode cX3_countingWith 21 = .ok (.astore 5, 2) := by decide +kernel
theorem dX3_countingWith_23 : decode cX3_countingWith 23 = .ok (.aload 5, 2) := by decide +kernel
theorem dX3_countingWith_25 : decode cX3_countingWith 25 = .ok (.ifnull 15, 3) := by decide +kernel
theorem dX3_countingWith_28 : decode cX3_countingWith 28 = .ok (.aload 5, 2) := by decide +kernel
theorem dX3_countingWith_30 : decode cX3_countingWith 30 = .ok (.invokevirtual 143, 3) := by decide +kernel
theorem dX3_countingWith_33 : decode cX3_countingWith 33 = .ok (.iload_n 2, 1) := by decide +kernel
theorem dX3_countingWith_34 : decode cX3_countingWith 34 = .ok (.if_icmp .ne 6, 3) := by decide +kernel
theorem dX3_countingWith_37 : decode cX3_countingWith 37 = .ok (.iinc 3 1, 3) := by decide +kernel
theorem dX3_countingWith_40 : decode cX3_countingWith 40 = .ok (.iinc 4 1, 3) := by decide +kernel
theorem dX3_countingWith_43 : decode cX3_countingWith 43 = .ok (.goto (-38), 3) := by decide +kernel
theorem dX3_countingWith_46 : decode cX3_countingWith 46 = .ok (.iload_n 3, 1) := by decide +kernel
theorem dX3_countingWith_47 : decode cX3_countingWith 47 = .ok (.ireturn, 1) := by decide +kernel
theorem dX3_mendItem_0 : decode cX3_mendItem 0 = .ok (.aload_n 0, 1) := by decide +kernel
theorem dX3_mendItem_1 : decode cX3_mendItem 1 = .ok (.aload_n 1, 1) := by decide +kernel
theorem dX3_mendItem_2 : decode cX3_mendItem 2 = .ok (.invokevirtual 139, 3) := by decide +kernel
theorem dX3_mendItem_5 : decode cX3_mendItem 5 = .ok (.astore_n 2, 1) := by decide +kernel
theorem dX3_mendItem_6 : decode cX3_mendItem 6 = .ok (.aload_n 2, 1) := by decide +kernel
theorem dX3_mendItem_7 : decode cX3_mendItem 7 = .ok (.ifnonnull 5, 3) := by decide +kernel
theorem dX3_mendItem_10 : decode cX3_mendItem 10 = .ok (.iconst 0, 1) := by decide +kernel
theorem dX3_mendItem_11 : decode cX3_mendItem 11 = .ok (.ireturn, 1) := by decide +kernel
theorem dX3_mendItem_12 : decode cX3_mendItem 12 = .ok (.aload_n 2, 1) := by decide +kernel
theorem dX3_mendItem_13 : decode cX3_mendItem 13 = .ok (.invokevirtual 143, 3) := by decide +kernel
theorem dX3_mendItem_16 : decode cX3_mendItem 16 = .ok (.istore_n 3, 1) := by decide +kernel
theorem dX3_mendItem_17 : decode cX3_mendItem 17 = .ok (.iconst 0, 1) := by decide +kernel
theorem dX3_mendItem_18 : decode cX3_mendItem 18 = .ok (.istore 4, 2) := by decide +kernel
theorem dX3_mendItem_20 : decode cX3_mendItem 20 = .ok (.iconst 0, 1) := by decide +kernel
theorem dX3_mendItem_21 : decode cX3_mendItem 21 = .ok (.istore 5, 2) := by decide +kernel
theorem dX3_mendItem_23 : decode cX3_mendItem 23 = .ok (.iload 5, 2) := by decide +kernel
theorem dX3_mendItem_25 : decode cX3_mendItem 25 = .ok (.aload_n 0, 1) := by decide +kernel
theorem dX3_mendItem_26 : decode cX3_mendItem 26 = .ok (.getfield 15, 3) := by decide +kernel
theorem dX3_mendItem_29 : decode cX3_mendItem 29 = .ok (.if_icmp .ge 41, 3) := by decide +kernel
theorem dX3_mendItem_32 : decode cX3_mendItem 32 = .ok (.aload_n 0, 1) := by decide +kernel
theorem dX3_mendItem_33 : decode cX3_mendItem 33 = .ok (.aload_n 1, 1) := by decide +kernel
theorem dX3_mendItem_34 : decode cX3_mendItem 34 = .ok (.iload 5, 2) := by decide +kernel
theorem dX3_mendItem_36 : decode cX3_mendItem 36 = .ok (.invokevirtual 202, 3) := by decide +kernel
theorem dX3_mendItem_39 : decode cX3_mendItem 39 = .ok (.astore 6, 2) := by decide +kernel
theorem dX3_mendItem_41 : decode cX3_mendItem 41 = .ok (.aload 6, 2) := by decide +kernel
theorem dX3_mendItem_43 : decode cX3_mendItem 43 = .ok (.ifnull 21, 3) := by decide +kernel
theorem dX3_mendItem_46 : decode cX3_mendItem 46 = .ok (.aload 6, 2) := by decide +kernel
theorem dX3_mendItem_48 : decode cX3_mendItem 48 = .ok (.invokevirtual 143, 3) := by decide +kernel
theorem dX3_mendItem_51 : decode cX3_mendItem 51 = .ok (.iload_n 3, 1) := by decide +kernel
theorem dX3_mendItem_52 : decode cX3_mendItem 52 = .ok (.if_icmp .eq 12, 3) := by decide +kernel
theorem dX3_mendItem_55 : decode cX3_mendItem 55 = .ok (.aload 6, 2) := by decide +kernel
theorem dX3_mendItem_57 : decode cX3_mendItem 57 = .ok (.aload_n 2, 1) := by decide +kernel
theorem dX3_mendItem_58 : decode cX3_mendItem 58 = .ok (.invokevirtual 214, 3) := by decide +kernel
theorem dX3_mendItem_61 : decode cX3_mendItem 61 = .ok (.iinc 4 1, 3) := by decide +kernel
theorem dX3_mendItem_64 : decode cX3_mendItem 64 = .ok (.iinc 5 1, 3) := by decide +kernel
theorem dX3_mendItem_67 : decode cX3_mendItem 67 = .ok (.goto (-44), 3) := by decide +kernel
theorem dX3_mendItem_70 : decode cX3_mendItem 70 = .ok (.aload_n 1, 1) := by decide +kernel
theorem dX3_mendItem_71 : decode cX3_mendItem 71 = .ok (.dup, 1) := by decide +kernel
theorem dX3_mendItem_72 : decode cX3_mendItem 72 = .ok (.getfield 188, 3) := by decide +kernel
theorem dX3_mendItem_75 : decode cX3_mendItem 75 = .ok (.iload 4, 2) := by decide +kernel
theorem dX3_mendItem_77 : decode cX3_mendItem 77 = .ok (.iadd, 1) := by decide +kernel
theorem dX3_mendItem_78 : decode cX3_mendItem 78 = .ok (.putfield 188, 3) := by decide +kernel
theorem dX3_mendItem_81 : decode cX3_mendItem 81 = .ok (.iload 4, 2) := by decide +kernel
theorem dX3_mendItem_83 : decode cX3_mendItem 83 = .ok (.ireturn, 1) := by decide +kernel
theorem dX3_fillItem_0 : decode cX3_fillItem 0 = .ok (.aload_n 0, 1) := by decide +kernel
theorem dX3_fillItem_1 : decode cX3_fillItem 1 = .ok (.iload_n 2, 1) := by decide +kernel
theorem dX3_fillItem_2 : decode cX3_fillItem 2 = .ok (.invokevirtual 91, 3) := by decide +kernel
theorem dX3_fillItem_5 : decode cX3_fillItem 5 = .ok (.ifnull 23, 3) := by decide +kernel
theorem dX3_fillItem_8 : decode cX3_fillItem 8 = .ok (.aload_n 1, 1) := by decide +kernel
theorem dX3_fillItem_9 : decode cX3_fillItem 9 = .ok (.getfield 113, 3) := by decide +kernel
theorem dX3_fillItem_12 : decode cX3_fillItem 12 = .ok (.iload_n 2, 1) := by decide +kernel
theorem dX3_fillItem_13 : decode cX3_fillItem 13 = .ok (.aaload, 1) := by decide +kernel
theorem dX3_fillItem_14 : decode cX3_fillItem 14 = .ok (.ifnonnull 14, 3) := by decide +kernel
theorem dX3_fillItem_17 : decode cX3_fillItem 17 = .ok (.aload_n 1, 1) := by decide +kernel
theorem dX3_fillItem_18 : decode cX3_fillItem 18 = .ok (.invokevirtual 182, 3) := by decide +kernel
theorem dX3_fillItem_21 : decode cX3_fillItem 21 = .ok (.aload_n 0, 1) := by decide +kernel
theorem dX3_fillItem_22 : decode cX3_fillItem 22 = .ok (.getfield 63, 3) := by decide +kernel
theorem dX3_fillItem_25 : decode cX3_fillItem 25 = .ok (.if_icmp .lt 5, 3) := by decide +kernel
theorem dX3_fillItem_28 : decode cX3_fillItem 28 = .ok (.iconst 0, 1) := by decide +kernel
theorem dX3_fillItem_29 : decode cX3_fillItem 29 = .ok (.ireturn, 1) := by decide +kernel
theorem dX3_fillItem_30 : decode cX3_fillItem 30 = .ok (.aload_n 0, 1) := by decide +kernel
theorem dX3_fillItem_31 : decode cX3_fillItem 31 = .ok (.aload_n 1, 1) := by decide +kernel
theorem dX3_fillItem_32 : decode cX3_fillItem 32 = .ok (.invokevirtual 139, 3) := by decide +kernel
theorem dX3_fillItem_35 : decode cX3_fillItem 35 = .ok (.astore_n 3, 1) := by decide +kernel
theorem dX3_fillItem_36 : decode cX3_fillItem 36 = .ok (.aload_n 3, 1) := by decide +kernel
theorem dX3_fillItem_37 : decode cX3_fillItem 37 = .ok (.ifnonnull 5, 3) := by decide +kernel
theorem dX3_fillItem_40 : decode cX3_fillItem 40 = .ok (.iconst 0, 1) := by decide +kernel
theorem dX3_fillItem_41 : decode cX3_fillItem 41 = .ok (.ireturn, 1) := by decide +kernel
theorem dX3_fillItem_42 : decode cX3_fillItem 42 = .ok (.aload_n 1, 1) := by decide +kernel
theorem dX3_fillItem_43 : decode cX3_fillItem 43 = .ok (.getfield 113, 3) := by decide +kernel
theorem dX3_fillItem_46 : decode cX3_fillItem 46 = .ok (.iload_n 2, 1) := by decide +kernel
theorem dX3_fillItem_47 : decode cX3_fillItem 47 = .ok (.aload_n 3, 1) := by decide +kernel
theorem dX3_fillItem_48 : decode cX3_fillItem 48 = .ok (.invokevirtual 198, 3) := by decide +kernel
theorem dX3_fillItem_51 : decode cX3_fillItem 51 = .ok (.aastore, 1) := by decide +kernel
theorem dX3_fillItem_52 : decode cX3_fillItem 52 = .ok (.aload_n 1, 1) := by decide +kernel
theorem dX3_fillItem_53 : decode cX3_fillItem 53 = .ok (.dup, 1) := by decide +kernel
theorem dX3_fillItem_54 : decode cX3_fillItem 54 = .ok (.getfield 188, 3) := by decide +kernel
theorem dX3_fillItem_57 : decode cX3_fillItem 57 = .ok (.iconst 1, 1) := by decide +kernel
theorem dX3_fillItem_58 : decode cX3_fillItem 58 = .ok (.iadd, 1) := by decide +kernel
theorem dX3_fillItem_59 : decode cX3_fillItem 59 = .ok (.putfield 188, 3) := by decide +kernel
theorem dX3_fillItem_62 : decode cX3_fillItem 62 = .ok (.iconst 1, 1) := by decide +kernel
theorem dX3_fillItem_63 : decode cX3_fillItem 63 = .ok (.ireturn, 1) := by decide +kernel
theorem dX3_bearsOdds_0 : decode cX3_bearsOdds 0 = .ok (.aload_n 0, 1) := by decide +kernel
theorem dX3_bearsOdds_1 : decode cX3_bearsOdds 1 = .ok (.aload_n 1, 1) := by decide +kernel
theorem dX3_bearsOdds_2 : decode cX3_bearsOdds 2 = .ok (.iload_n 2, 1) := by decide +kernel
theorem dX3_bearsOdds_3 : decode cX3_bearsOdds 3 = .ok (.invokevirtual 202, 3) := by decide +kernel
theorem dX3_bearsOdds_6 : decode cX3_bearsOdds 6 = .ok (.astore 4, 2) := by decide +kernel
theorem dX3_bearsOdds_8 : decode cX3_bearsOdds 8 = .ok (.aload 4, 2) := by decide +kernel
theorem dX3_bearsOdds_10 : decode cX3_bearsOdds 10 = .ok (.ifnull 23, 3) := by decide +kernel
theorem dX3_bearsOdds_13 : decode cX3_bearsOdds 13 = .ok (.aload_n 3, 1) := by decide +kernel
theorem dX3_bearsOdds_14 : decode cX3_bearsOdds 14 = .ok (.ifnull 15, 3) := by decide +kernel
theorem dX3_bearsOdds_17 : decode cX3_bearsOdds 17 = .ok (.aload_n 3, 1) := by decide +kernel
theorem dX3_bearsOdds_18 : decode cX3_bearsOdds 18 = .ok (.invokevirtual 143, 3) := by decide +kernel
theorem dX3_bearsOdds_21 : decode cX3_bearsOdds 21 = .ok (.aload 4, 2) := by decide +kernel
theorem dX3_bearsOdds_23 : decode cX3_bearsOdds 23 = .ok (.invokevirtual 143, 3) := by decide +kernel
theorem dX3_bearsOdds_26 : decode cX3_bearsOdds 26 = .ok (.if_icmp .ne 7, 3) := by decide +kernel
theorem dX3_bearsOdds_29 : decode cX3_bearsOdds 29 = .ok (.iconst 1, 1) := by decide +kernel
theorem dX3_bearsOdds_30 : decode cX3_bearsOdds 30 = .ok (.goto 4, 3) := by decide +kernel
theorem dX3_bearsOdds_33 : decode cX3_bearsOdds 33 = .ok (.iconst 0, 1) := by decide +kernel
theorem dX3_bearsOdds_34 : decode cX3_bearsOdds 34 = .ok (.ireturn, 1) := by decide +kernel
theorem dX3_commonDivisor_0 : decode cX3_commonDivisor 0 = .ok (.lload_n 0, 1) := by decide +kernel
theorem dX3_commonDivisor_1 : decode cX3_commonDivisor 1 = .ok (.lstore 4, 2) := by decide +kernel
theorem dX3_commonDivisor_3 : decode cX3_commonDivisor 3 = .ok (.lload_n 2, 1) := by decide +kernel
theorem dX3_commonDivisor_4 : decode cX3_commonDivisor 4 = .ok (.lstore 6, 2) := by decide +kernel
theorem dX3_commonDivisor_6 : decode cX3_commonDivisor 6 = .ok (.iconst 0, 1) := by decide +kernel
theorem dX3_commonDivisor_7 : decode cX3_commonDivisor 7 = .ok (.istore 8, 2) := by decide +kernel
theorem dX3_commonDivisor_9 : decode cX3_commonDivisor 9 = .ok (.iload 8, 2) := by decide +kernel
theorem dX3_commonDivisor_11 : decode cX3_commonDivisor 11 = .ok (.sipush 1000, 3) := by decide +kernel
theorem dX3_commonDivisor_14 : decode cX3_commonDivisor 14 = .ok (.if_icmp .ge 31, 3) := by decide +kernel
theorem dX3_commonDivisor_17 : decode cX3_commonDivisor 17 = .ok (.lload 6, 2) := by decide +kernel
theorem dX3_commonDivisor_19 : decode cX3_commonDivisor 19 = .ok (.lconst 0, 1) := by decide +kernel
theorem dX3_commonDivisor_20 : decode cX3_commonDivisor 20 = .ok (.lcmp, 1) := by decide +kernel
theorem dX3_commonDivisor_21 : decode cX3_commonDivisor 21 = .ok (.ifCond .eq 24, 3) := by decide +kernel
theorem dX3_commonDivisor_24 : decode cX3_commonDivisor 24 = .ok (.lload 4, 2) := by decide +kernel
theorem dX3_commonDivisor_26 : decode cX3_commonDivisor 26 = .ok (.lload 6, 2) := by decide +kernel
theorem dX3_commonDivisor_28 : decode cX3_commonDivisor 28 = .ok (.lrem, 1) := by decide +kernel
theorem dX3_commonDivisor_29 : decode cX3_commonDivisor 29 = .ok (.lstore 9, 2) := by decide +kernel
theorem dX3_commonDivisor_31 : decode cX3_commonDivisor 31 = .ok (.lload 6, 2) := by decide +kernel
theorem dX3_commonDivisor_33 : decode cX3_commonDivisor 33 = .ok (.lstore 4, 2) := by decide +kernel
theorem dX3_commonDivisor_35 : decode cX3_commonDivisor 35 = .ok (.lload 9, 2) := by decide +kernel
theorem dX3_commonDivisor_37 : decode cX3_commonDivisor 37 = .ok (.lstore 6, 2) := by decide +kernel
theorem dX3_commonDivisor_39 : decode cX3_commonDivisor 39 = .ok (.iinc 8 1, 3) := by decide +kernel
theorem dX3_commonDivisor_42 : decode cX3_commonDivisor 42 = .ok (.goto (-33), 3) := by decide +kernel
theorem dX3_commonDivisor_45 : decode cX3_commonDivisor 45 = .ok (.lload 4, 2) := by decide +kernel
theorem dX3_commonDivisor_47 : decode cX3_commonDivisor 47 = .ok (.lreturn, 1) := by decide +kernel
