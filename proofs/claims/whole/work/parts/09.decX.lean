theorem dX0_init_0 : decode cX0_init 0 = .ok (.aload_n 0, 1) := by decide +kernel
theorem dX0_init_1 : decode cX0_init 1 = .ok (.invokespecial 1, 3) := by decide +kernel
theorem dX0_init_4 : decode cX0_init 4 = .ok (.aload_n 0, 1) := by decide +kernel
theorem dX0_init_5 : decode cX0_init 5 = .ok (.iconst 3, 1) := by decide +kernel
theorem dX0_init_6 : decode cX0_init 6 = .ok (.bipush 42, 2) := by decide +kernel
theorem dX0_init_8 : decode cX0_init 8 = .ok (.multianewarray 11 2, 4) := by decide +kernel
theorem dX0_init_12 : decode cX0_init 12 = .ok (.putfield 13, 3) := by decide +kernel
theorem dX0_init_15 : decode cX0_init 15 = .ok (.aload_n 0, 1) := by decide +kernel
theorem dX0_init_16 : decode cX0_init 16 = .ok (.iconst 3, 1) := by decide +kernel
theorem dX0_init_17 : decode cX0_init 17 = .ok (.anewarray 16, 3) := by decide +kernel
theorem dX0_init_20 : decode cX0_init 20 = .ok (.dup, 1) := by decide +kernel
theorem dX0_init_21 : decode cX0_init 21 = .ok (.iconst 0, 1) := by decide +kernel
theorem dX0_init_22 : decode cX0_init 22 = .ok (.new 16, 3) := by decide +kernel
theorem dX0_init_25 : decode cX0_init 25 = .ok (.dup, 1) := by decide +kernel
theorem dX0_init_26 : decode cX0_init 26 = .ok (.invokespecial 18, 3) := by decide +kernel
theorem dX0_init_29 : decode cX0_init 29 = .ok (.aastore, 1) := by decide +kernel
theorem dX0_init_30 : decode cX0_init 30 = .ok (.dup, 1) := by decide +kernel
theorem dX0_init_31 : decode cX0_init 31 = .ok (.iconst 1, 1) := by decide +kernel
theorem dX0_init_32 : decode cX0_init 32 = .ok (.new 16, 3) := by decide +kernel
theorem dX0_init_35 : decode cX0_init 35 = .ok (.dup, 1) := by decide +kernel
theorem dX0_init_36 : decode cX0_init 36 = .ok (.invokespecial 18, 3) := by decide +kernel
theorem dX0_init_39 : decode cX0_init 39 = .ok (.aastore, 1) := by decide +kernel
theorem dX0_init_40 : decode cX0_init 40 = .ok (.dup, 1) := by decide +kernel
theorem dX0_init_41 : decode cX0_init 41 = .ok (.iconst 2, 1) := by decide +kernel
theorem dX0_init_42 : decode cX0_init 42 = .ok (.new 16, 3) := by decide +kernel
theorem dX0_init_45 : decode cX0_init 45 = .ok (.dup, 1) := by decide +kernel
theorem dX0_init_46 : decode cX0_init 46 = .ok (.invokespecial 18, 3) := by decide +kernel
theorem dX0_init_49 : decode cX0_init 49 = .ok (.aastore, 1) := by decide +kernel
theorem dX0_init_50 : decode cX0_init 50 = .ok (.putfield 19, 3) := by decide +kernel
theorem dX0_init_53 : decode cX0_init 53 = .ok (.aload_n 0, 1) := by decide +kernel
theorem dX0_init_54 : decode cX0_init 54 = .ok (.iconst 0, 1) := by decide +kernel
theorem dX0_init_55 : decode cX0_init 55 = .ok (.putfield 23, 3) := by decide +kernel
theorem dX0_init_58 : decode cX0_init 58 = .ok (.return_, 1) := by decide +kernel
theorem dX0_keep_0 : decode cX0_keep 0 = .ok (.aload_n 0, 1) := by decide +kernel
theorem dX0_keep_1 : decode cX0_keep 1 = .ok (.getfield 23, 3) := by decide +kernel
theorem dX0_keep_4 : decode cX0_keep 4 = .ok (.iconst 3, 1) := by decide +kernel
theorem dX0_keep_5 : decode cX0_keep 5 = .ok (.if_icmp .lt 5, 3) := by decide +kernel
theorem dX0_keep_8 : decode cX0_keep 8 = .ok (.iconst 0, 1) := by decide +kernel
theorem dX0_keep_9 : decode cX0_keep 9 = .ok (.ireturn, 1) := by decide +kernel
theorem dX0_keep_10 : decode cX0_keep 10 = .ok (.aload_n 1, 1) := by decide +kernel
theorem dX0_keep_11 : decode cX0_keep 11 = .ok (.iconst 0, 1) := by decide +kernel
theorem dX0_keep_12 : decode cX0_keep 12 = .ok (.aload_n 0, 1) := by decide +kernel
theorem dX0_keep_13 : decode cX0_keep 13 = .ok (.getfield 13, 3) := by decide +kernel
theorem dX0_keep_16 : decode cX0_keep 16 = .ok (.aload_n 0, 1) := by decide +kernel
theorem dX0_keep_17 : decode cX0_keep 17 = .ok (.getfield 23, 3) := by decide +kernel
theorem dX0_keep_20 : decode cX0_keep 20 = .ok (.aaload, 1) := by decide +kernel
theorem dX0_keep_21 : decode cX0_keep 21 = .ok (.iconst 0, 1) := by decide +kernel
theorem dX0_keep_22 : decode cX0_keep 22 = .ok (.bipush 42, 2) := by decide +kernel
theorem dX0_keep_24 : decode cX0_keep 24 = .ok (.invokestatic 27, 3) := by decide +kernel
theorem dX0_keep_27 : decode cX0_keep 27 = .ok (.aload_n 0, 1) := by decide +kernel
theorem dX0_keep_28 : decode cX0_keep 28 = .ok (.getfield 19, 3) := by decide +kernel
theorem dX0_keep_31 : decode cX0_keep 31 = .ok (.aload_n 0, 1) := by decide +kernel
theorem dX0_keep_32 : decode cX0_keep 32 = .ok (.getfield 23, 3) := by decide +kernel
theorem dX0_keep_35 : decode cX0_keep 35 = .ok (.aaload, 1) := by decide +kernel
theorem dX0_keep_36 : decode cX0_keep 36 = .ok (.aload_n 2, 1) := by decide +kernel
theorem dX0_keep_37 : decode cX0_keep 37 = .ok (.invokevirtual 33, 3) := by decide +kernel
theorem dX0_keep_40 : decode cX0_keep 40 = .ok (.aload_n 0, 1) := by decide +kernel
theorem dX0_keep_41 : decode cX0_keep 41 = .ok (.dup, 1) := by decide +kernel
theorem dX0_keep_42 : decode cX0_keep 42 = .ok (.getfield 23, 3) := by decide +kernel
theorem dX0_keep_45 : decode cX0_keep 45 = .ok (.iconst 1, 1) := by decide +kernel
theorem dX0_keep_46 : decode cX0_keep 46 = .ok (.iadd, 1) := by decide +kernel
theorem dX0_keep_47 : decode cX0_keep 47 = .ok (.putfield 23, 3) := by decide +kernel
theorem dX0_keep_50 : decode cX0_keep 50 = .ok (.iconst 1, 1) := by decide +kernel
theorem dX0_keep_51 : decode cX0_keep 51 = .ok (.ireturn, 1) := by decide +kernel
theorem dX0_takeBack_0 : decode cX0_takeBack 0 = .ok (.aload_n 0, 1) := by decide +kernel
theorem dX0_takeBack_1 : decode cX0_takeBack 1 = .ok (.getfield 23, 3) := by decide +kernel
theorem dX0_takeBack_4 : decode cX0_takeBack 4 = .ok (.ifCond .gt 5, 3) := by decide +kernel
theorem dX0_takeBack_7 : decode cX0_takeBack 7 = .ok (.iconst 0, 1) := by decide +kernel
theorem dX0_takeBack_8 : decode cX0_takeBack 8 = .ok (.ireturn, 1) := by decide +kernel
theorem dX0_takeBack_9 : decode cX0_takeBack 9 = .ok (.aload_n 0, 1) := by decide +kernel
theorem dX0_takeBack_10 : decode cX0_takeBack 10 = .ok (.dup, 1) := by decide +kernel
theorem dX0_takeBack_11 : decode cX0_takeBack 11 = .ok (.getfield 23, 3) := by decide +kernel
theorem dX0_takeBack_14 : decode cX0_takeBack 14 = .ok (.iconst 1, 1) := by decide +kernel
theorem dX0_takeBack_15 : decode cX0_takeBack 15 = .ok (.isub, 1) := by decide +kernel
theorem dX0_takeBack_16 : decode cX0_takeBack 16 = .ok (.putfield 23, 3) := by decide +kernel
theorem dX0_takeBack_19 : decode cX0_takeBack 19 = .ok (.aload_n 0, 1) := by decide +kernel
theorem dX0_takeBack_20 : decode cX0_takeBack 20 = .ok (.getfield 13, 3) := by decide +kernel
theorem dX0_takeBack_23 : decode cX0_takeBack 23 = .ok (.aload_n 0, 1) := by decide +kernel
theorem dX0_takeBack_24 : decode cX0_takeBack 24 = .ok (.getfield 23, 3) := by decide +kernel
theorem dX0_takeBack_27 : decode cX0_takeBack 27 = .ok (.aaload, 1) := by decide +kernel
theorem dX0_takeBack_28 : decode cX0_takeBack 28 = .ok (.iconst 0, 1) := by decide +kernel
theorem dX0_takeBack_29 : decode cX0_takeBack 29 = .ok (.aload_n 1, 1) := by decide +kernel
theorem dX0_takeBack_30 : decode cX0_takeBack 30 = .ok (.iconst 0, 1) := by decide +kernel
theorem dX0_takeBack_31 : decode cX0_takeBack 31 = .ok (.bipush 42, 2) := by decide +kernel
theorem dX0_takeBack_33 : decode cX0_takeBack 33 = .ok (.invokestatic 27, 3) := by decide +kernel
theorem dX0_takeBack_36 : decode cX0_takeBack 36 = .ok (.aload_n 2, 1) := by decide +kernel
theorem dX0_takeBack_37 : decode cX0_takeBack 37 = .ok (.aload_n 0, 1) := by decide +kernel
theorem dX0_takeBack_38 : decode cX0_takeBack 38 = .ok (.getfield 19, 3) := by decide +kernel
theorem dX0_takeBack_41 : decode cX0_takeBack 41 = .ok (.aload_n 0, 1) := by decide +kernel
theorem dX0_takeBack_42 : decode cX0_takeBack 42 = .ok (.getfield 23, 3) := by decide +kernel
theorem dX0_takeBack_45 : decode cX0_takeBack 45 = .ok (.aaload, 1) := by decide +kernel
theorem dX0_takeBack_46 : decode cX0_takeBack 46 = .ok (.invokevirtual 33, 3) := by decide +kernel
theorem dX0_takeBack_49 : decode cX0_takeBack 49 = .ok (.iconst 1, 1) := by decide +kernel
theorem dX0_takeBack_50 : decode cX0_takeBack 50 = .ok (.ireturn, 1) := by decide +kernel
theorem dX1_copy_0 : decode cX1_copy 0 = .ok (.aload_n 0, 1) := by decide +kernel
theorem dX1_copy_1 : decode cX1_copy 1 = .ok (.aload_n 1, 1) := by decide +kernel
theorem dX1_copy_2 : decode cX1_copy 2 = .ok (.getfield 18, 3) := by decide +kernel
theorem dX1_copy_5 : decode cX1_copy 5 = .ok (.putfield 18, 3) := by decide +kernel
theorem dX1_copy_8 : decode cX1_copy 8 = .ok (.iconst 0, 1) := by decide +kernel
theorem dX1_copy_9 : decode cX1_copy 9 = .ok (.istore_n 2, 1) := by decide +kernel
theorem dX1_copy_10 : decode cX1_copy 10 = .ok (.iload_n 2, 1) := by decide +kernel
theorem dX1_copy_11 : decode cX1_copy 11 = .ok (.bipush 8, 2) := by decide +kernel
theorem dX1_copy_13 : decode cX1_copy 13 = .ok (.if_icmp .ge 33, 3) := by decide +kernel
theorem dX1_copy_16 : decode cX1_copy 16 = .ok (.aload_n 0, 1) := by decide +kernel
theorem dX1_copy_17 : decode cX1_copy 17 = .ok (.getfield 11, 3) := by decide +kernel
theorem dX1_copy_20 : decode cX1_copy 20 = .ok (.iload_n 2, 1) := by decide +kernel
theorem dX1_copy_21 : decode cX1_copy 21 = .ok (.aload_n 1, 1) := by decide +kernel
theorem dX1_copy_22 : decode cX1_copy 22 = .ok (.getfield 11, 3) := by decide +kernel
theorem dX1_copy_25 : decode cX1_copy 25 = .ok (.iload_n 2, 1) := by decide +kernel
theorem dX1_copy_26 : decode cX1_copy 26 = .ok (.iaload, 1) := by decide +kernel
theorem dX1_copy_27 : decode cX1_copy 27 = .ok (.iastore, 1) := by decide +kernel
theorem dX1_copy_28 : decode cX1_copy 28 = .ok (.aload_n 0, 1) := by decide +kernel
theorem dX1_copy_29 : decode cX1_copy 29 = .ok (.getfield 15, 3) := by decide +kernel
theorem dX1_copy_32 : decode cX1_copy 32 = .ok (.iload_n 2, 1) := by decide +kernel
theorem dX1_copy_33 : decode cX1_copy 33 = .ok (.aload_n 1, 1) := by decide +kernel
theorem dX1_copy_34 : decode cX1_copy 34 = .ok (.getfield 15, 3) := by decide +kernel
theorem dX1_copy_37 : decode cX1_copy 37 = .ok (.iload_n 2, 1) := by decide +kernel
theorem dX1_copy_38 : decode cX1_copy 38 = .ok (.iaload, 1) := by decide +kernel
theorem dX1_copy_39 : decode cX1_copy 39 = .ok (.iastore, 1) := by decide +kernel
theorem dX1_copy_40 : decode cX1_copy 40 = .ok (.iinc 2 1, 3) := by decide +kernel
theorem dX1_copy_43 : decode cX1_copy 43 = .ok (.goto (-33), 3) := by decide +kernel
theorem dX1_copy_46 : decode cX1_copy 46 = .ok (.return_, 1) := by decide +kernel
theorem dX1_has_0 : decode cX1_has 0 = .ok (.iconst 0, 1) := by decide +kernel
theorem dX1_has_1 : decode cX1_has 1 = .ok (.istore_n 2, 1) := by decide +kernel
theorem dX1_has_2 : decode cX1_has 2 = .ok (.iload_n 2, 1) := by decide +kernel
theorem dX1_has_3 : decode cX1_has 3 = .ok (.aload_n 0, 1) := by decide +kernel
theorem dX1_has_4 : decode cX1_has 4 = .ok (.getfield 18, 3) := by decide +kernel
theorem dX1_has_7 : decode cX1_has 7 = .ok (.if_icmp .ge 21, 3) := by decide +kernel
theorem dX1_has_10 : decode cX1_has 10 = .ok (.aload_n 0, 1) := by decide +kernel
theorem dX1_has_11 : decode cX1_has 11 = .ok (.getfield 11, 3) := by decide +kernel
theorem dX1_has_14 : decode cX1_has 14 = .ok (.iload_n 2, 1) := by decide +kernel
theorem dX1_has_15 : decode cX1_has 15 = .ok (.iaload, 1) := by decide +kernel
theorem dX1_has_16 : decode cX1_has 16 = .ok (.iload_n 1, 1) := by decide +kernel
theorem dX1_has_17 : decode cX1_has 17 = .ok (.if_icmp .ne 5, 3) := by decide +kernel
theorem dX1_has_20 : decode cX1_has 20 = .ok (.iconst 1, 1) := by decide +kernel
theorem dX1_has_21 : decode cX1_has 21 = .ok (.ireturn, 1) := by decide +kernel
theorem dX1_has_22 : decode cX1_has 22 = .ok (.iinc 2 1, 3) := by decide +kernel
theorem dX1_has_25 : decode cX1_has 25 = .ok (.goto (-23), 3) := by decide +kernel
theorem dX1_has_28 : decode cX1_has 28 = .ok (.iconst 0, 1) := by decide +kernel
theorem dX1_has_29 : decode cX1_has 29 = .ok (.ireturn, 1) := by decide +kernel
theorem dX1_init_0 : decode cX1_init 0 = .ok (.aload_n 0, 1) := by decide +kernel
theorem dX1_init_1 : decode cX1_init 1 = .ok (.invokespecial 3, 3) := by decide +kernel
theorem dX1_init_4 : decode cX1_init 4 = .ok (.aload_n 0, 1) := by decide +kernel
theorem dX1_init_5 : decode cX1_init 5 = .ok (.bipush 8, 2) := by decide +kernel
theorem dX1_init_7 : decode cX1_init 7 = .ok (.newarray .int, 2) := by decide +kernel
theorem dX1_init_9 : decode cX1_init 9 = .ok (.putfield 11, 3) := by decide +kernel
theorem dX1_init_12 : decode cX1_init 12 = .ok (.aload_n 0, 1) := by decide +kernel
theorem dX1_init_13 : decode cX1_init 13 = .ok (.bipush 8, 2) := by decide +kernel
theorem dX1_init_15 : decode cX1_init 15 = .ok (.newarray .int, 2) := by decide +kernel
theorem dX1_init_17 : decode cX1_init 17 = .ok (.putfield 15, 3) := by decide +kernel
theorem dX1_init_20 : decode cX1_init 20 = .ok (.aload_n 0, 1) := by decide +kernel
theorem dX1_init_21 : decode cX1_init 21 = .ok (.iconst 0, 1) := by decide +kernel
theorem dX1_init_22 : decode cX1_init 22 = .ok (.putfield 18, 3) := by decide +kernel
theorem dX1_init_25 : decode cX1_init 25 = .ok (.return_, 1) := by decide +kernel
theorem dX1_read_0 : decode cX1_read 0 = .ok (.aload_n 0, 1) := by decide +kernel
theorem dX1_read_1 : decode cX1_read 1 = .ok (.iconst 0, 1) := by decide +kernel
theorem dX1_read_2 : decode cX1_read 2 = .ok (.putfield 18, 3) := by decide +kernel
theorem dX1_read_5 : decode cX1_read 5 = .ok (.iconst 0, 1) := by decide +kernel
theorem dX1_read_6 : decode cX1_read 6 = .ok (.istore_n 2, 1) := by decide +kernel
theorem dX1_read_7 : decode cX1_read 7 = .ok (.iload_n 2, 1) := by decide +kernel
theorem dX1_read_8 : decode cX1_read 8 = .ok (.bipush 8, 2) := by decide +kernel
theorem dX1_read_10 : decode cX1_read 10 = .ok (.if_icmp .gt 127, 3) := by decide +kernel
theorem dX1_read_13 : decode cX1_read 13 = .ok (.aload_n 1, 1) := by decide +kernel
theorem dX1_read_14 : decode cX1_read 14 = .ok (.invokevirtual 22, 3) := by decide +kernel
theorem dX1_read_17 : decode cX1_read 17 = .ok (.iconst (-1), 1) := by decide +kernel
theorem dX1_read_18 : decode cX1_read 18 = .ok (.if_icmp .eq 119, 3) := by decide +kernel
theorem dX1_read_21 : decode cX1_read 21 = .ok (.aload_n 1, 1) := by decide +kernel
theorem dX1_read_22 : decode cX1_read 22 = .ok (.iconst 0, 1) := by decide +kernel
theorem dX1_read_23 : decode cX1_read 23 = .ok (.sipush 239, 3) := by decide +kernel
theorem dX1_read_26 : decode cX1_read 26 = .ok (.invokevirtual 28, 3) := by decide +kernel
theorem dX1_read_29 : decode cX1_read 29 = .ok (.istore_n 3, 1) := by decide +kernel
theorem dX1_read_30 : decode cX1_read 30 = .ok (.iload_n 3, 1) := by decide +kernel
theorem dX1_read_31 : decode cX1_read 31 = .ok (.iconst (-1), 1) := by decide +kernel
theorem dX1_read_32 : decode cX1_read 32 = .ok (.if_icmp .ne 5, 3) := by decide +kernel
theorem dX1_read_35 : decode cX1_read 35 = .ok (.iconst 0, 1) := by decide +kernel
theorem dX1_read_36 : decode cX1_read 36 = .ok (.ireturn, 1) := by decide +kernel
theorem dX1_read_37 : decode cX1_read 37 = .ok (.aload_n 0, 1) := by decide +kernel
theorem dX1_read_38 : decode cX1_read 38 = .ok (.iload_n 3, 1) := by decide +kernel
theorem dX1_read_39 : decode cX1_read 39 = .ok (.invokevirtual 32, 3) := by decide +kernel
theorem dX1_read_42 : decode cX1_read 42 = .ok (.ifCond .eq 13, 3) := by decide +kernel
theorem dX1_read_45 : decode cX1_read 45 = .ok (.aload_n 1, 1) := by decide +kernel
theorem dX1_read_46 : decode cX1_read 46 = .ok (.iconst 2, 1) := by decide +kernel
theorem dX1_read_47 : decode cX1_read 47 = .ok (.aload_n 1, 1) := by decide +kernel
theorem dX1_read_48 : decode cX1_read 48 = .ok (.getfield 36, 3) := by decide +kernel
theorem dX1_read_51 : decode cX1_read 51 = .ok (.invokevirtual 39, 3) := by decide +kernel
theorem dX1_read_54 : decode cX1_read 54 = .ok (.ireturn, 1) := by decide +kernel
theorem dX1_read_55 : decode cX1_read 55 = .ok (.aload_n 0, 1) := by decide +kernel
theorem dX1_read_56 : decode cX1_read 56 = .ok (.getfield 18, 3) := by decide +kernel
theorem dX1_read_59 : decode cX1_read 59 = .ok (.bipush 8, 2) := by decide +kernel
theorem dX1_read_61 : decode cX1_read 61 = .ok (.if_icmp .lt 13, 3) := by decide +kernel
theorem dX1_read_64 : decode cX1_read 64 = .ok (.aload_n 1, 1) := by decide +kernel
theorem dX1_read_65 : decode cX1_read 65 = .ok (.iconst 3, 1) := by decide +kernel
theorem dX1_read_66 : decode cX1_read 66 = .ok (.aload_n 1, 1) := by decide +kernel
theorem dX1_read_67 : decode cX1_read 67 = .ok (.getfield 36, 3) := by decide +kernel
theorem dX1_read_70 : decode cX1_read 70 = .ok (.invokevirtual 39, 3) := by decide +kernel
theorem dX1_read_73 : decode cX1_read 73 = .ok (.ireturn, 1) := by decide +kernel
theorem dX1_read_74 : decode cX1_read 74 = .ok (.aload_n 1, 1) := by decide +kernel
theorem dX1_read_75 : decode cX1_read 75 = .ok (.iconst 0, 1) := by decide +kernel
theorem dX1_read_76 : decode cX1_read 76 = .ok (.bipush 40, 2) := by decide +kernel
theorem dX1_read_78 : decode cX1_read 78 = .ok (.invokevirtual 28, 3) := by decide +kernel
theorem dX1_read_81 : decode cX1_read 81 = .ok (.istore 4, 2) := by decide +kernel
theorem dX1_read_83 : decode cX1_read 83 = .ok (.iload 4, 2) := by decide +kernel
theorem dX1_read_85 : decode cX1_read 85 = .ok (.iconst (-1), 1) := by decide +kernel
theorem dX1_read_86 : decode cX1_read 86 = .ok (.if_icmp .eq 12, 3) := by decide +kernel
theorem dX1_read_89 : decode cX1_read 89 = .ok (.aload_n 1, 1) := by decide +kernel
theorem dX1_read_90 : decode cX1_read 90 = .ok (.bipush 59, 2) := by decide +kernel
theorem dX1_read_92 : decode cX1_read 92 = .ok (.invokevirtual 43, 3) := by decide +kernel
theorem dX1_read_95 : decode cX1_read 95 = .ok (.ifCond .ne 5, 3) := by decide +kernel
theorem dX1_read_98 : decode cX1_read 98 = .ok (.iconst 0, 1) := by decide +kernel
theorem dX1_read_99 : decode cX1_read 99 = .ok (.ireturn, 1) := by decide +kernel
theorem dX1_read_100 : decode cX1_read 100 = .ok (.aload_n 0, 1) := by decide +kernel
theorem dX1_read_101 : decode cX1_read 101 = .ok (.getfield 11, 3) := by decide +kernel
theorem dX1_read_104 : decode cX1_read 104 = .ok (.aload_n 0, 1) := by decide +kernel
theorem dX1_read_105 : decode cX1_read 105 = .ok (.getfield 18, 3) := by decide +kernel
theorem dX1_read_108 : decode cX1_read 108 = .ok (.iload_n 3, 1) := by decide +kernel
theorem dX1_read_109 : decode cX1_read 109 = .ok (.iastore, 1) := by decide +kernel
theorem dX1_read_110 : decode cX1_read 110 = .ok (.aload_n 0, 1) := by decide +kernel
theorem dX1_read_111 : decode cX1_read 111 = .ok (.getfield 15, 3) := by decide +kernel
theorem dX1_read_114 : decode cX1_read 114 = .ok (.aload_n 0, 1) := by decide +kernel
theorem dX1_read_115 : decode cX1_read 115 = .ok (.getfield 18, 3) := by decide +kernel
theorem dX1_read_118 : decode cX1_read 118 = .ok (.iload 4, 2) := by decide +kernel
theorem dX1_read_120 : decode cX1_read 120 = .ok (.iastore, 1) := by decide +kernel
theorem dX1_read_121 : decode cX1_read 121 = .ok (.aload_n 0, 1) := by decide +kernel
theorem dX1_read_122 : decode cX1_read 122 = .ok (.dup, 1) := by decide +kernel
theorem dX1_read_123 : decode cX1_read 123 = .ok (.getfield 18, 3) := by decide +kernel
theorem dX1_read_126 : decode cX1_read 126 = .ok (.iconst 1, 1) := by decide +kernel
theorem dX1_read_127 : decode cX1_read 127 = .ok (.iadd, 1) := by decide +kernel
theorem dX1_read_128 : decode cX1_read 128 = .ok (.putfield 18, 3) := by decide +kernel
theorem dX1_read_131 : decode cX1_read 131 = .ok (.iinc 2 1, 3) := by decide +kernel
theorem dX1_read_134 : decode cX1_read 134 = .ok (.goto (-127), 3) := by decide +kernel
theorem dX1_read_137 : decode cX1_read 137 = .ok (.iconst 1, 1) := by decide +kernel
theorem dX1_read_138 : decode cX1_read 138 = .ok (.ireturn, 1) := by decide +kernel
theorem dX2_copy_0 : decode cX2_copy 0 = .ok (.aload_n 0, 1) := by decide +kernel
theorem dX2_copy_1 : decode cX2_copy 1 = .ok (.aload_n 1, 1) := by decide +kernel
theorem dX2_copy_2 : decode cX2_copy 2 = .ok (.getfield 16, 3) := by decide +kernel
theorem dX2_copy_5 : decode cX2_copy 5 = .ok (.putfield 16, 3) := by decide +kernel
theorem dX2_copy_8 : decode cX2_copy 8 = .ok (.iconst 0, 1) := by decide +kernel
theorem dX2_copy_9 : decode cX2_copy 9 = .ok (.istore_n 2, 1) := by decide +kernel
theorem dX2_copy_10 : decode cX2_copy 10 = .ok (.iload_n 2, 1) := by decide +kernel
theorem dX2_copy_11 : decode cX2_copy 11 = .ok (.aload_n 0, 1) := by decide +kernel
theorem dX2_copy_12 : decode cX2_copy 12 = .ok (.getfield 16, 3) := by decide +kernel
theorem dX2_copy_15 : decode cX2_copy 15 = .ok (.if_icmp .ge 28, 3) := by decide +kernel
theorem dX2_copy_18 : decode cX2_copy 18 = .ok (.aload_n 1, 1) := by decide +kernel
theorem dX2_copy_19 : decode cX2_copy 19 = .ok (.getfield 13, 3) := by decide +kernel
theorem dX2_copy_22 : decode cX2_copy 22 = .ok (.iload_n 2, 1) := by decide +kernel
theorem dX2_copy_23 : decode cX2_copy 23 = .ok (.aaload, 1) := by decide +kernel
theorem dX2_copy_24 : decode cX2_copy 24 = .ok (.iconst 0, 1) := by decide +kernel
theorem dX2_copy_25 : decode cX2_copy 25 = .ok (.aload_n 0, 1) := by decide +kernel
theorem dX2_copy_26 : decode cX2_copy 26 = .ok (.getfield 13, 3) := by decide +kernel
theorem dX2_copy_29 : decode cX2_copy 29 = .ok (.iload_n 2, 1) := by decide +kernel
theorem dX2_copy_30 : decode cX2_copy 30 = .ok (.aaload, 1) := by decide +kernel
theorem dX2_copy_31 : decode cX2_copy 31 = .ok (.iconst 0, 1) := by decide +kernel
theorem dX2_copy_32 : decode cX2_copy 32 = .ok (.bipush 42, 2) := by decide +kernel
theorem dX2_copy_34 : decode cX2_copy 34 = .ok (.invokestatic 20, 3) := by decide +kernel
theorem dX2_copy_37 : decode cX2_copy 37 = .ok (.iinc 2 1, 3) := by decide +kernel
theorem dX2_copy_40 : decode cX2_copy 40 = .ok (.goto (-30), 3) := by decide +kernel
theorem dX2_copy_43 : decode cX2_copy 43 = .ok (.return_, 1) := by decide +kernel
theorem dX2_init_0 : decode cX2_init 0 = .ok (.aload_n 0, 1) := by decide +kernel
theorem dX2_init_1 : decode cX2_init 1 = .ok (.invokespecial 1, 3) := by decide +kernel
theorem dX2_init_4 : decode cX2_init 4 = .ok (.aload_n 0, 1) := by decide +kernel
theorem dX2_init_5 : decode cX2_init 5 = .ok (.bipush 16, 2) := by decide +kernel
theorem dX2_init_7 : decode cX2_init 7 = .ok (.bipush 42, 2) := by decide +kernel
theorem dX2_init_9 : decode cX2_init 9 = .ok (.multianewarray 11 2, 4) := by decide +kernel
theorem dX2_init_13 : decode cX2_init 13 = .ok (.putfield 13, 3) := by decide +kernel
theorem dX2_init_16 : decode cX2_init 16 = .ok (.aload_n 0, 1) := by decide +kernel
theorem dX2_init_17 : decode cX2_init 17 = .ok (.iconst 0, 1) := by decide +kernel
theorem dX2_init_18 : decode cX2_init 18 = .ok (.putfield 16, 3) := by decide +kernel
theorem dX2_init_21 : decode cX2_init 21 = .ok (.return_, 1) := by decide +kernel
theorem dX2_isFull_0 : decode cX2_isFull 0 = .ok (.aload_n 0, 1) := by decide +kernel
theorem dX2_isFull_1 : decode cX2_isFull 1 = .ok (.getfield 16, 3) := by decide +kernel
theorem dX2_isFull_4 : decode cX2_isFull 4 = .ok (.bipush 16, 2) := by decide +kernel
theorem dX2_isFull_6 : decode cX2_isFull 6 = .ok (.if_icmp .lt 7, 3) := by decide +kernel
theorem dX2_isFull_9 : decode cX2_isFull 9 = .ok (.iconst 1, 1) := by decide +kernel
theorem dX2_isFull_10 : decode cX2_isFull 10 = .ok (.goto 4, 3) := by decide +kernel
theorem dX2_isFull_13 : decode cX2_isFull 13 = .ok (.iconst 0, 1) := by decide +kernel
theorem dX2_isFull_14 : decode cX2_isFull 14 = .ok (.ireturn, 1) := by decide +kernel
theorem dX2_keep_0 : decode cX2_keep 0 = .ok (.aload_n 0, 1) := by decide +kernel
theorem dX2_keep_1 : decode cX2_keep 1 = .ok (.getfield 16, 3) := by decide +kernel
theorem dX2_keep_4 : decode cX2_keep 4 = .ok (.bipush 16, 2) := by decide +kernel
theorem dX2_keep_6 : decode cX2_keep 6 = .ok (.if_icmp .ge 30, 3) := by decide +kernel
theorem dX2_keep_9 : decode cX2_keep 9 = .ok (.aload_n 1, 1) := by decide +kernel
theorem dX2_keep_10 : decode cX2_keep 10 = .ok (.iconst 0, 1) := by decide +kernel
theorem dX2_keep_11 : decode cX2_keep 11 = .ok (.aload_n 0, 1) := by decide +kernel
theorem dX2_keep_12 : decode cX2_keep 12 = .ok (.getfield 13, 3) := by decide +kernel
theorem dX2_keep_15 : decode cX2_keep 15 = .ok (.aload_n 0, 1) := by decide +kernel
theorem dX2_keep_16 : decode cX2_keep 16 = .ok (.getfield 16, 3) := by decide +kernel
theorem dX2_keep_19 : decode cX2_keep 19 = .ok (.aaload, 1) := by decide +kernel
theorem dX2_keep_20 : decode cX2_keep 20 = .ok (.iconst 0, 1) := by decide +kernel
theorem dX2_keep_21 : decode cX2_keep 21 = .ok (.bipush 42, 2) := by decide +kernel
theorem dX2_keep_23 : decode cX2_keep 23 = .ok (.invokestatic 20, 3) := by decide +kernel
theorem dX2_keep_26 : decode cX2_keep 26 = .ok (.aload_n 0, 1) := by decide +kernel
theorem dX2_keep_27 : decode cX2_keep 27 = .ok (.dup, 1) := by decide +kernel
theorem dX2_keep_28 : decode cX2_keep 28 = .ok (.getfield 16, 3) := by decide +kernel
theorem dX2_keep_31 : decode cX2_keep 31 = .ok (.iconst 1, 1) := by decide +kernel
theorem dX2_keep_32 : decode cX2_keep 32 = .ok (.iadd, 1) := by decide +kernel
theorem dX2_keep_33 : decode cX2_keep 33 = .ok (.putfield 16, 3) := by decide +kernel
theorem dX2_keep_36 : decode cX2_keep 36 = .ok (.return_, 1) := by decide +kernel
theorem dX2_takeBack_0 : decode cX2_takeBack 0 = .ok (.aload_n 0, 1) := by decide +kernel
theorem dX2_takeBack_1 : decode cX2_takeBack 1 = .ok (.getfield 16, 3) := by decide +kernel
theorem dX2_takeBack_4 : decode cX2_takeBack 4 = .ok (.ifCond .le 30, 3) := by decide +kernel
theorem dX2_takeBack_7 : decode cX2_takeBack 7 = .ok (.aload_n 0, 1) := by decide +kernel
theorem dX2_takeBack_8 : decode cX2_takeBack 8 = .ok (.dup, 1) := by decide +kernel
theorem dX2_takeBack_9 : decode cX2_takeBack 9 = .ok (.getfield 16, 3) := by decide +kernel
theorem dX2_takeBack_12 : decode cX2_takeBack 12 = .ok (.iconst 1, 1) := by decide +kernel
theorem dX2_takeBack_13 : decode cX2_takeBack 13 = .ok (.isub, 1) := by decide +kernel
theorem dX2_takeBack_14 : decode cX2_takeBack 14 = .ok (.putfield 16, 3) := by decide +kernel
theorem dX2_takeBack_17 : decode cX2_takeBack 17 = .ok (.aload_n 0, 1) := by decide +kernel
theorem dX2_takeBack_18 : decode cX2_takeBack 18 = .ok (.getfield 13, 3) := by decide +kernel
theorem dX2_takeBack_21 : decode cX2_takeBack 21 = .ok (.aload_n 0, 1) := by decide +kernel
theorem dX2_takeBack_22 : decode cX2_takeBack 22 = .ok (.getfield 16, 3) := by decide +kernel
theorem dX2_takeBack_25 : decode cX2_takeBack 25 = .ok (.aaload, 1) := by decide +kernel
theorem dX2_takeBack_26 : decode cX2_takeBack 26 = .ok (.iconst 0, 1) := by decide +kernel
theorem dX2_takeBack_27 : decode cX2_takeBack 27 = .ok (.aload_n 1, 1) := by decide +kernel
theorem dX2_takeBack_28 : decode cX2_takeBack 28 = .ok (.iconst 0, 1) := by decide +kernel
theorem dX2_takeBack_29 : decode cX2_takeBack 29 = .ok (.bipush 42, 2) := by decide +kernel
theorem dX2_takeBack_31 : decode cX2_takeBack 31 = .ok (.invokestatic 20, 3) := by decide +kernel
theorem dX2_takeBack_34 : decode cX2_takeBack 34 = .ok (.return_, 1) := by decide +kernel
theorem dX3_clear_0 : decode cX3_clear 0 = .ok (.aload_n 0, 1) := by decide +kernel
theorem dX3_clear_1 : decode cX3_clear 1 = .ok (.iconst 0, 1) := by decide +kernel
theorem dX3_clear_2 : decode cX3_clear 2 = .ok (.putfield 9, 3) := by decide +kernel
theorem dX3_clear_5 : decode cX3_clear 5 = .ok (.aload_n 0, 1) := by decide +kernel
theorem dX3_clear_6 : decode cX3_clear 6 = .ok (.iconst 0, 1) := by decide +kernel
theorem dX3_clear_7 : decode cX3_clear 7 = .ok (.putfield 43, 3) := by decide +kernel
theorem dX3_clear_10 : decode cX3_clear 10 = .ok (.aload_n 0, 1) := by decide +kernel
theorem dX3_clear_11 : decode cX3_clear 11 = .ok (.bipush 10, 2) := by decide +kernel
theorem dX3_clear_13 : decode cX3_clear 13 = .ok (.putfield 46, 3) := by decide +kernel
theorem dX3_clear_16 : decode cX3_clear 16 = .ok (.aload_n 0, 1) := by decide +kernel
theorem dX3_clear_17 : decode cX3_clear 17 = .ok (.bipush 9, 2) := by decide +kernel
theorem dX3_clear_19 : decode cX3_clear 19 = .ok (.putfield 49, 3) := by decide +kernel
theorem dX3_clear_22 : decode cX3_clear 22 = .ok (.iconst 0, 1) := by decide +kernel
theorem dX3_clear_23 : decode cX3_clear 23 = .ok (.istore_n 1, 1) := by decide +kernel
theorem dX3_clear_24 : decode cX3_clear 24 = .ok (.iload_n 1, 1) := by decide +kernel
theorem dX3_clear_25 : decode cX3_clear 25 = .ok (.bipush 60, 2) := by decide +kernel
theorem dX3_clear_27 : decode cX3_clear 27 = .ok (.if_icmp .ge 16, 3) := by decide +kernel
theorem dX3_clear_30 : decode cX3_clear 30 = .ok (.aload_n 0, 1) := by decide +kernel
theorem dX3_clear_31 : decode cX3_clear 31 = .ok (.getfield 40, 3) := by decide +kernel
theorem dX3_clear_34 : decode cX3_clear 34 = .ok (.iload_n 1, 1) := by decide +kernel
theorem dX3_clear_35 : decode cX3_clear 35 = .ok (.iconst 0, 1) := by decide +kernel
theorem dX3_clear_36 : decode cX3_clear 36 = .ok (.iastore, 1) := by decide +kernel
theorem dX3_clear_37 : decode cX3_clear 37 = .ok (.iinc 1 1, 3) := by decide +kernel
theorem dX3_clear_40 : decode cX3_clear 40 = .ok (.goto (-16), 3) := by decide +kernel
theorem dX3_clear_43 : decode cX3_clear 43 = .ok (.return_, 1) := by decide +kernel
theorem dX3_copy_0 : decode cX3_copy 0 = .ok (.aload_n 0, 1) := by decide +kernel
theorem dX3_copy_1 : decode cX3_copy 1 = .ok (.aload_n 1, 1) := by decide +kernel
theorem dX3_copy_2 : decode cX3_copy 2 = .ok (.getfield 9, 3) := by decide +kernel
theorem dX3_copy_5 : decode cX3_copy 5 = .ok (.putfield 9, 3) := by decide +kernel
theorem dX3_copy_8 : decode cX3_copy 8 = .ok (.aload_n 0, 1) := by decide +kernel
theorem dX3_copy_9 : decode cX3_copy 9 = .ok (.aload_n 1, 1) := by decide +kernel
theorem dX3_copy_10 : decode cX3_copy 10 = .ok (.getfield 43, 3) := by decide +kernel
theorem dX3_copy_13 : decode cX3_copy 13 = .ok (.putfield 43, 3) := by decide +kernel
theorem dX3_copy_16 : decode cX3_copy 16 = .ok (.aload_n 0, 1) := by decide +kernel
theorem dX3_copy_17 : decode cX3_copy 17 = .ok (.aload_n 1, 1) := by decide +kernel
theorem dX3_copy_18 : decode cX3_copy 18 = .ok (.getfield 46, 3) := by decide +kernel
theorem dX3_copy_21 : decode cX3_copy 21 = .ok (.putfield 46, 3) := by decide +kernel
theorem dX3_copy_24 : decode cX3_copy 24 = .ok (.aload_n 0, 1) := by decide +kernel
theorem dX3_copy_25 : decode cX3_copy 25 = .ok (.aload_n 1, 1) := by decide +kernel
theorem dX3_copy_26 : decode cX3_copy 26 = .ok (.getfield 49, 3) := by decide +kernel
theorem dX3_copy_29 : decode cX3_copy 29 = .ok (.putfield 49, 3) := by decide +kernel
theorem dX3_copy_32 : decode cX3_copy 32 = .ok (.iconst 0, 1) := by decide +kernel
theorem dX3_copy_33 : decode cX3_copy 33 = .ok (.istore_n 2, 1) := by decide +kernel
theorem dX3_copy_34 : decode cX3_copy 34 = .ok (.iload_n 2, 1) := by decide +kernel
theorem dX3_copy_35 : decode cX3_copy 35 = .ok (.iconst 5, 1) := by decide +kernel
theorem dX3_copy_36 : decode cX3_copy 36 = .ok (.if_icmp .ge 105, 3) := by decide +kernel
theorem dX3_copy_39 : decode cX3_copy 39 = .ok (.aload_n 0, 1) := by decide +kernel
theorem dX3_copy_40 : decode cX3_copy 40 = .ok (.getfield 15, 3) := by decide +kernel
theorem dX3_copy_43 : decode cX3_copy 43 = .ok (.iload_n 2, 1) := by decide +kernel
theorem dX3_copy_44 : decode cX3_copy 44 = .ok (.aload_n 1, 1) := by decide +kernel
theorem dX3_copy_45 : decode cX3_copy 45 = .ok (.getfield 15, 3) := by decide +kernel
theorem dX3_copy_48 : decode cX3_copy 48 = .ok (.iload_n 2, 1) := by decide +kernel
theorem dX3_copy_49 : decode cX3_copy 49 = .ok (.iaload, 1) := by decide +kernel
theorem dX3_copy_50 : decode cX3_copy 50 = .ok (.iastore, 1) := by decide +kernel
theorem dX3_copy_51 : decode cX3_copy 51 = .ok (.aload_n 0, 1) := by decide +kernel
theorem dX3_copy_52 : decode cX3_copy 52 = .ok (.getfield 19, 3) := by decide +kernel
theorem dX3_copy_55 : decode cX3_copy 55 = .ok (.iload_n 2, 1) := by decide +kernel
theorem dX3_copy_56 : decode cX3_copy 56 = .ok (.aload_n 1, 1) := by decide +kernel
theorem dX3_copy_57 : decode cX3_copy 57 = .ok (.getfield 19, 3) := by decide +kernel
theorem dX3_copy_60 : decode cX3_copy 60 = .ok (.iload_n 2, 1) := by decide +kernel
theorem dX3_copy_61 : decode cX3_copy 61 = .ok (.iaload, 1) := by decide +kernel
theorem dX3_copy_62 : decode cX3_copy 62 = .ok (.iastore, 1) := by decide +kernel
theorem dX3_copy_63 : decode cX3_copy 63 = .ok (.aload_n 0, 1) := by decide +kernel
theorem dX3_copy_64 : decode cX3_copy 64 = .ok (.getfield 22, 3) := by decide +kernel
theorem dX3_copy_67 : decode cX3_copy 67 = .ok (.iload_n 2, 1) := by decide +kernel
theorem dX3_copy_68 : decode cX3_copy 68 = .ok (.aload_n 1, 1) := by decide +kernel
theorem dX3_copy_69 : decode cX3_copy 69 = .ok (.getfield 22, 3) := by decide +kernel
theorem dX3_copy_72 : decode cX3_copy 72 = .ok (.iload_n 2, 1) := by decide +kernel
theorem dX3_copy_73 : decode cX3_copy 73 = .ok (.iaload, 1) := by decide +kernel
theorem dX3_copy_74 : decode cX3_copy 74 = .ok (.iastore, 1) := by decide +kernel
theorem dX3_copy_75 : decode cX3_copy 75 = .ok (.aload_n 0, 1) := by decide +kernel
theorem dX3_copy_76 : decode cX3_copy 76 = .ok (.getfield 25, 3) := by decide +kernel
theorem dX3_copy_79 : decode cX3_copy 79 = .ok (.iload_n 2, 1) := by decide +kernel
theorem dX3_copy_80 : decode cX3_copy 80 = .ok (.aload_n 1, 1) := by decide +kernel
theorem dX3_copy_81 : decode cX3_copy 81 = .ok (.getfield 25, 3) := by decide +kernel
theorem dX3_copy_84 : decode cX3_copy 84 = .ok (.iload_n 2, 1) := by decide +kernel
theorem dX3_copy_85 : decode cX3_copy 85 = .ok (.iaload, 1) := by decide +kernel
theorem dX3_copy_86 : decode cX3_copy 86 = .ok (.iastore, 1) := by decide +kernel
theorem dX3_copy_87 : decode cX3_copy 87 = .ok (.aload_n 0, 1) := by decide +kernel
theorem dX3_copy_88 : decode cX3_copy 88 = .ok (.getfield 28, 3) := by decide +kernel
theorem dX3_copy_91 : decode cX3_copy 91 = .ok (.iload_n 2, 1) := by decide +kernel
theorem dX3_copy_92 : decode cX3_copy 92 = .ok (.aload_n 1, 1) := by decide +kernel
theorem dX3_copy_93 : decode cX3_copy 93 = .ok (.getfield 28, 3) := by decide +kernel
theorem dX3_copy_96 : decode cX3_copy 96 = .ok (.iload_n 2, 1) := by decide +kernel
theorem dX3_copy_97 : decode cX3_copy 97 = .ok (.iaload, 1) := by decide +kernel
theorem dX3_copy_98 : decode cX3_copy 98 = .ok (.iastore, 1) := by decide +kernel
theorem dX3_copy_99 : decode cX3_copy 99 = .ok (.aload_n 0, 1) := by decide +kernel
theorem dX3_copy_100 : decode cX3_copy 100 = .ok (.getfield 31, 3) := by decide +kernel
theorem dX3_copy_103 : decode cX3_copy 103 = .ok (.iload_n 2, 1) := by decide +kernel
theorem dX3_copy_104 : decode cX3_copy 104 = .ok (.aload_n 1, 1) := by decide +kernel
theorem dX3_copy_105 : decode cX3_copy 105 = .ok (.getfield 31, 3) := by decide +kernel
theorem dX3_copy_108 : decode cX3_copy 108 = .ok (.iload_n 2, 1) := by decide +kernel
theorem dX3_copy_109 : decode cX3_copy 109 = .ok (.iaload, 1) := by decide +kernel
theorem dX3_copy_110 : decode cX3_copy 110 = .ok (.iastore, 1) := by decide +kernel
theorem dX3_copy_111 : decode cX3_copy 111 = .ok (.aload_n 0, 1) := by decide +kernel
theorem dX3_copy_112 : decode cX3_copy 112 = .ok (.getfield 34, 3) := by decide +kernel
theorem dX3_copy_115 : decode cX3_copy 115 = .ok (.iload_n 2, 1) := by decide +kernel
theorem dX3_copy_116 : decode cX3_copy 116 = .ok (.aload_n 1, 1) := by decide +kernel
theorem dX3_copy_117 : decode cX3_copy 117 = .ok (.getfield 34, 3) := by decide +kernel
theorem dX3_copy_120 : decode cX3_copy 120 = .ok (.iload_n 2, 1) := by decide +kernel
theorem dX3_copy_121 : decode cX3_copy 121 = .ok (.iaload, 1) := by decide +kernel
theorem dX3_copy_122 : decode cX3_copy 122 = .ok (.iastore, 1) := by decide +kernel
theorem dX3_copy_123 : decode cX3_copy 123 = .ok (.aload_n 0, 1) := by decide +kernel
theorem dX3_copy_124 : decode cX3_copy 124 = .ok (.getfield 37, 3) := by decide +kernel
theorem dX3_copy_127 : decode cX3_copy 127 = .ok (.iload_n 2, 1) := by decide +kernel
theorem dX3_copy_128 : decode cX3_copy 128 = .ok (.aload_n 1, 1) := by decide +kernel
theorem dX3_copy_129 : decode cX3_copy 129 = .ok (.getfield 37, 3) := by decide +kernel
theorem dX3_copy_132 : decode cX3_copy 132 = .ok (.iload_n 2, 1) := by decide +kernel
theorem dX3_copy_133 : decode cX3_copy 133 = .ok (.iaload, 1) := by decide +kernel
theorem dX3_copy_134 : decode cX3_copy 134 = .ok (.iastore, 1) := by decide +kernel
theorem dX3_copy_135 : decode cX3_copy 135 = .ok (.iinc 2 1, 3) := by decide +kernel
theorem dX3_copy_138 : decode cX3_copy 138 = .ok (.goto (-104), 3) := by decide +kernel
theorem dX3_copy_141 : decode cX3_copy 141 = .ok (.iconst 0, 1) := by decide +kernel
theorem dX3_copy_142 : decode cX3_copy 142 = .ok (.istore_n 2, 1) := by decide +kernel
theorem dX3_copy_143 : decode cX3_copy 143 = .ok (.iload_n 2, 1) := by decide +kernel
theorem dX3_copy_144 : decode cX3_copy 144 = .ok (.bipush 60, 2) := by decide +kernel
theorem dX3_copy_146 : decode cX3_copy 146 = .ok (.if_icmp .ge 21, 3) := by decide +kernel
theorem dX3_copy_149 : decode cX3_copy 149 = .ok (.aload_n 0, 1) := by decide +kernel
theorem dX3_copy_150 : decode cX3_copy 150 = .ok (.getfield 40, 3) := by decide +kernel
theorem dX3_copy_153 : decode cX3_copy 153 = .ok (.iload_n 2, 1) := by decide +kernel
theorem dX3_copy_154 : decode cX3_copy 154 = .ok (.aload_n 1, 1) := by decide +kernel
theorem dX3_copy_155 : decode cX3_copy 155 = .ok (.getfield 40, 3) := by decide +kernel
theorem dX3_copy_158 : decode cX3_copy 158 = .ok (.iload_n 2, 1) := by decide +kernel
theorem dX3_copy_159 : decode cX3_copy 159 = .ok (.iaload, 1) := by decide +kernel
theorem dX3_copy_160 : decode cX3_copy 160 = .ok (.iastore, 1) := by decide +kernel
theorem dX3_copy_161 : decode cX3_copy 161 = .ok (.iinc 2 1, 3) := by decide +kernel
theorem dX3_copy_164 : decode cX3_copy 164 = .ok (.goto (-21), 3) := by decide +kernel
theorem dX3_copy_167 : decode cX3_copy 167 = .ok (.return_, 1) := by decide +kernel
theorem dX3_init_0 : decode cX3_init 0 = .ok (.aload_n 0, 1) := by decide +kernel
theorem dX3_init_1 : decode cX3_init 1 = .ok (.invokespecial 3, 3) := by decide +kernel
theorem dX3_init_4 : decode cX3_init 4 = .ok (.aload_n 0, 1) := by decide +kernel
theorem dX3_init_5 : decode cX3_init 5 = .ok (.iconst 0, 1) := by decide +kernel
theorem dX3_init_6 : decode cX3_init 6 = .ok (.putfield 9, 3) := by decide +kernel
theorem dX3_init_9 : decode cX3_init 9 = .ok (.aload_n 0, 1) := by decide +kernel
theorem dX3_init_10 : decode cX3_init 10 = .ok (.iconst 5, 1) := by decide +kernel
theorem dX3_init_11 : decode cX3_init 11 = .ok (.newarray .int, 2) := by decide +kernel
theorem dX3_init_13 : decode cX3_init 13 = .ok (.putfield 15, 3) := by decide +kernel
theorem dX3_init_16 : decode cX3_init 16 = .ok (.aload_n 0, 1) := by decide +kernel
theorem dX3_init_17 : decode cX3_init 17 = .ok (.iconst 5, 1) := by decide +kernel
theorem dX3_init_18 : decode cX3_init 18 = .ok (.newarray .int, 2) := by decide +kernel
theorem dX3_init_20 : decode cX3_init 20 = .ok (.putfield 19, 3) := by decide +kernel
theorem dX3_init_23 : decode cX3_init 23 = .ok (.aload_n 0, 1) := by decide +kernel
theorem dX3_init_24 : decode cX3_init 24 = .ok (.iconst 5, 1) := by decide +kernel
theorem dX3_init_25 : decode cX3_init 25 = .ok (.newarray .int, 2) := by decide +kernel
theorem dX3_init_27 : decode cX3_init 27 = .ok (.putfield 22, 3) := by decide +kernel
theorem dX3_init_30 : decode cX3_init 30 = .ok (.aload_n 0, 1) := by decide +kernel
theorem dX3_init_31 : decode cX3_init 31 = .ok (.iconst 5, 1) := by decide +kernel
theorem dX3_init_32 : decode cX3_init 32 = .ok (.newarray .int, 2) := by decide +kernel
theorem dX3_init_34 : decode cX3_init 34 = .ok (.putfield 25, 3) := by decide +kernel
theorem dX3_init_37 : decode cX3_init 37 = .ok (.aload_n 0, 1) := by decide +kernel
theorem dX3_init_38 : decode cX3_init 38 = .ok (.iconst 5, 1) := by decide +kernel
theorem dX3_init_39 : decode cX3_init 39 = .ok (.newarray .int, 2) := by decide +kernel
theorem dX3_init_41 : decode cX3_init 41 = .ok (.putfield 28, 3) := by decide +kernel
theorem dX3_init_44 : decode cX3_init 44 = .ok (.aload_n 0, 1) := by decide +kernel
theorem dX3_init_45 : decode cX3_init 45 = .ok (.iconst 5, 1) := by decide +kernel
theorem dX3_init_46 : decode cX3_init 46 = .ok (.newarray .int, 2) := by decide +kernel
theorem dX3_init_48 : decode cX3_init 48 = .ok (.putfield 31, 3) := by decide +kernel
theorem dX3_init_51 : decode cX3_init 51 = .ok (.aload_n 0, 1) := by decide +kernel
theorem dX3_init_52 : decode cX3_init 52 = .ok (.iconst 5, 1) := by decide +kernel
theorem dX3_init_53 : decode cX3_init 53 = .ok (.newarray .int, 2) := by decide +kernel
theorem dX3_init_55 : decode cX3_init 55 = .ok (.putfield 34, 3) := by decide +kernel
theorem dX3_init_58 : decode cX3_init 58 = .ok (.aload_n 0, 1) := by decide +kernel
theorem dX3_init_59 : decode cX3_init 59 = .ok (.iconst 5, 1) := by decide +kernel
theorem dX3_init_60 : decode cX3_init 60 = .ok (.newarray .int, 2) := by decide +kernel
theorem dX3_init_62 : decode cX3_init 62 = .ok (.putfield 37, 3) := by decide +kernel
theorem dX3_init_65 : decode cX3_init 65 = .ok (.aload_n 0, 1) := by decide +kernel
theorem dX3_init_66 : decode cX3_init 66 = .ok (.bipush 60, 2) := by decide +kernel
theorem dX3_init_68 : decode cX3_init 68 = .ok (.newarray .int, 2) := by decide +kernel
theorem dX3_init_70 : decode cX3_init 70 = .ok (.putfield 40, 3) := by decide +kernel
theorem dX3_init_73 : decode cX3_init 73 = .ok (.aload_n 0, 1) := by decide +kernel
theorem dX3_init_74 : decode cX3_init 74 = .ok (.iconst 0, 1) := by decide +kernel
theorem dX3_init_75 : decode cX3_init 75 = .ok (.putfield 43, 3) := by decide +kernel
theorem dX3_init_78 : decode cX3_init 78 = .ok (.aload_n 0, 1) := by decide +kernel
theorem dX3_init_79 : decode cX3_init 79 = .ok (.bipush 10, 2) := by decide +kernel
theorem dX3_init_81 : decode cX3_init 81 = .ok (.putfield 46, 3) := by decide +kernel
theorem dX3_init_84 : decode cX3_init 84 = .ok (.aload_n 0, 1) := by decide +kernel
theorem dX3_init_85 : decode cX3_init 85 = .ok (.bipush 9, 2) := by decide +kernel
theorem dX3_init_87 : decode cX3_init 87 = .ok (.putfield 49, 3) := by decide +kernel
theorem dX3_init_90 : decode cX3_init 90 = .ok (.return_, 1) := by decide +kernel
theorem dX3_read_0 : decode cX3_read 0 = .ok (.aload_n 0, 1) := by decide +kernel
theorem dX3_read_1 : decode cX3_read 1 = .ok (.invokevirtual 52, 3) := by decide +kernel
theorem dX3_read_4 : decode cX3_read 4 = .ok (.iconst 0, 1) := by decide +kernel
theorem dX3_read_5 : decode cX3_read 5 = .ok (.istore_n 2, 1) := by decide +kernel
theorem dX3_read_6 : decode cX3_read 6 = .ok (.iload_n 2, 1) := by decide +kernel
theorem dX3_read_7 : decode cX3_read 7 = .ok (.bipush 60, 2) := by decide +kernel
theorem dX3_read_9 : decode cX3_read 9 = .ok (.if_icmp .gt 67, 3) := by decide +kernel
theorem dX3_read_12 : decode cX3_read 12 = .ok (.aload_n 1, 1) := by decide +kernel
theorem dX3_read_13 : decode cX3_read 13 = .ok (.invokevirtual 55, 3) := by decide +kernel
theorem dX3_read_16 : decode cX3_read 16 = .ok (.iconst (-1), 1) := by decide +kernel
theorem dX3_read_17 : decode cX3_read 17 = .ok (.if_icmp .eq 59, 3) := by decide +kernel
theorem dX3_read_20 : decode cX3_read 20 = .ok (.aload_n 1, 1) := by decide +kernel
theorem dX3_read_21 : decode cX3_read 21 = .ok (.ldc 61, 2) := by decide +kernel
theorem dX3_read_23 : decode cX3_read 23 = .ok (.invokevirtual 63, 3) := by decide +kernel
theorem dX3_read_26 : decode cX3_read 26 = .ok (.istore_n 3, 1) := by decide +kernel
theorem dX3_read_27 : decode cX3_read 27 = .ok (.iload_n 3, 1) := by decide +kernel
theorem dX3_read_28 : decode cX3_read 28 = .ok (.iconst (-1), 1) := by decide +kernel
theorem dX3_read_29 : decode cX3_read 29 = .ok (.if_icmp .ne 5, 3) := by decide +kernel
theorem dX3_read_32 : decode cX3_read 32 = .ok (.iconst 0, 1) := by decide +kernel
theorem dX3_read_33 : decode cX3_read 33 = .ok (.ireturn, 1) := by decide +kernel
theorem dX3_read_34 : decode cX3_read 34 = .ok (.iload_n 2, 1) := by decide +kernel
theorem dX3_read_35 : decode cX3_read 35 = .ok (.bipush 60, 2) := by decide +kernel
theorem dX3_read_37 : decode cX3_read 37 = .ok (.if_icmp .ne 13, 3) := by decide +kernel
theorem dX3_read_40 : decode cX3_read 40 = .ok (.aload_n 1, 1) := by decide +kernel
theorem dX3_read_41 : decode cX3_read 41 = .ok (.iconst 3, 1) := by decide +kernel
theorem dX3_read_42 : decode cX3_read 42 = .ok (.aload_n 1, 1) := by decide +kernel
theorem dX3_read_43 : decode cX3_read 43 = .ok (.getfield 67, 3) := by decide +kernel
theorem dX3_read_46 : decode cX3_read 46 = .ok (.invokevirtual 70, 3) := by decide +kernel
theorem dX3_read_49 : decode cX3_read 49 = .ok (.ireturn, 1) := by decide +kernel
theorem dX3_read_50 : decode cX3_read 50 = .ok (.aload_n 0, 1) := by decide +kernel
theorem dX3_read_51 : decode cX3_read 51 = .ok (.aload_n 1, 1) := by decide +kernel
theorem dX3_read_52 : decode cX3_read 52 = .ok (.iload_n 3, 1) := by decide +kernel
theorem dX3_read_53 : decode cX3_read 53 = .ok (.invokevirtual 74, 3) := by decide +kernel
theorem dX3_read_56 : decode cX3_read 56 = .ok (.ifCond .eq 12, 3) := by decide +kernel
theorem dX3_read_59 : decode cX3_read 59 = .ok (.aload_n 1, 1) := by decide +kernel
theorem dX3_read_60 : decode cX3_read 60 = .ok (.bipush 59, 2) := by decide +kernel
theorem dX3_read_62 : decode cX3_read 62 = .ok (.invokevirtual 78, 3) := by decide +kernel
theorem dX3_read_65 : decode cX3_read 65 = .ok (.ifCond .ne 5, 3) := by decide +kernel
theorem dX3_read_68 : decode cX3_read 68 = .ok (.iconst 0, 1) := by decide +kernel
theorem dX3_read_69 : decode cX3_read 69 = .ok (.ireturn, 1) := by decide +kernel
theorem dX3_read_70 : decode cX3_read 70 = .ok (.iinc 2 1, 3) := by decide +kernel
theorem dX3_read_73 : decode cX3_read 73 = .ok (.goto (-67), 3) := by decide +kernel
theorem dX3_read_76 : decode cX3_read 76 = .ok (.iconst 1, 1) := by decide +kernel
theorem dX3_read_77 : decode cX3_read 77 = .ok (.ireturn, 1) := by decide +kernel
theorem dX3_readClause_0 : decode cX3_readClause 0 = .ok (.iload_n 2, 1) := by decide +kernel
theorem dX3_readClause_1 : decode cX3_readClause 1 = .ok (.tableswitch 148 0 6 #[43, 49, 61, 73, 85, 98, 123], 43) := by decide +kernel
theorem dX3_readClause_44 : decode cX3_readClause 44 = .ok (.aload_n 0, 1) := by decide +kernel
theorem dX3_readClause_45 : decode cX3_readClause 45 = .ok (.aload_n 1, 1) := by decide +kernel
theorem dX3_readClause_46 : decode cX3_readClause 46 = .ok (.invokevirtual 82, 3) := by decide +kernel
theorem dX3_readClause_49 : decode cX3_readClause 49 = .ok (.ireturn, 1) := by decide +kernel
theorem dX3_readClause_50 : decode cX3_readClause 50 = .ok (.aload_n 0, 1) := by decide +kernel
theorem dX3_readClause_51 : decode cX3_readClause 51 = .ok (.aload_n 1, 1) := by decide +kernel
theorem dX3_readClause_52 : decode cX3_readClause 52 = .ok (.aload_n 0, 1) := by decide +kernel
theorem dX3_readClause_53 : decode cX3_readClause 53 = .ok (.getfield 28, 3) := by decide +kernel
theorem dX3_readClause_56 : decode cX3_readClause 56 = .ok (.bipush 9, 2) := by decide +kernel
theorem dX3_readClause_58 : decode cX3_readClause 58 = .ok (.invokevirtual 86, 3) := by decide +kernel
theorem dX3_readClause_61 : decode cX3_readClause 61 = .ok (.ireturn, 1) := by decide +kernel
theorem dX3_readClause_62 : decode cX3_readClause 62 = .ok (.aload_n 0, 1) := by decide +kernel
theorem dX3_readClause_63 : decode cX3_readClause 63 = .ok (.aload_n 1, 1) := by decide +kernel
theorem dX3_readClause_64 : decode cX3_readClause 64 = .ok (.aload_n 0, 1) := by decide +kernel
theorem dX3_readClause_65 : decode cX3_readClause 65 = .ok (.getfield 31, 3) := by decide +kernel
theorem dX3_readClause_68 : decode cX3_readClause 68 = .ok (.bipush 9, 2) := by decide +kernel
theorem dX3_readClause_70 : decode cX3_readClause 70 = .ok (.invokevirtual 86, 3) := by decide +kernel
theorem dX3_readClause_73 : decode cX3_readClause 73 = .ok (.ireturn, 1) := by decide +kernel
theorem dX3_readClause_74 : decode cX3_readClause 74 = .ok (.aload_n 0, 1) := by decide +kernel
theorem dX3_readClause_75 : decode cX3_readClause 75 = .ok (.aload_n 1, 1) := by decide +kernel
theorem dX3_readClause_76 : decode cX3_readClause 76 = .ok (.aload_n 0, 1) := by decide +kernel
theorem dX3_readClause_77 : decode cX3_readClause 77 = .ok (.getfield 34, 3) := by decide +kernel
theorem dX3_readClause_80 : decode cX3_readClause 80 = .ok (.bipush 20, 2) := by decide +kernel
theorem dX3_readClause_82 : decode cX3_readClause 82 = .ok (.invokevirtual 86, 3) := by decide +kernel
theorem dX3_readClause_85 : decode cX3_readClause 85 = .ok (.ireturn, 1) := by decide +kernel
theorem dX3_readClause_86 : decode cX3_readClause 86 = .ok (.aload_n 0, 1) := by decide +kernel
theorem dX3_readClause_87 : decode cX3_readClause 87 = .ok (.aload_n 1, 1) := by decide +kernel
theorem dX3_readClause_88 : decode cX3_readClause 88 = .ok (.aload_n 0, 1) := by decide +kernel
theorem dX3_readClause_89 : decode cX3_readClause 89 = .ok (.getfield 37, 3) := by decide +kernel
theorem dX3_readClause_92 : decode cX3_readClause 92 = .ok (.sipush 240, 3) := by decide +kernel
theorem dX3_readClause_95 : decode cX3_readClause 95 = .ok (.invokevirtual 86, 3) := by decide +kernel
theorem dX3_readClause_98 : decode cX3_readClause 98 = .ok (.ireturn, 1) := by decide +kernel
theorem dX3_readClause_99 : decode cX3_readClause 99 = .ok (.aload_n 0, 1) := by decide +kernel
theorem dX3_readClause_100 : decode cX3_readClause 100 = .ok (.aload_n 1, 1) := by decide +kernel
theorem dX3_readClause_101 : decode cX3_readClause 101 = .ok (.iconst 0, 1) := by decide +kernel
theorem dX3_readClause_102 : decode cX3_readClause 102 = .ok (.bipush 40, 2) := by decide +kernel
theorem dX3_readClause_104 : decode cX3_readClause 104 = .ok (.invokevirtual 90, 3) := by decide +kernel
theorem dX3_readClause_107 : decode cX3_readClause 107 = .ok (.putfield 46, 3) := by decide +kernel
theorem dX3_readClause_110 : decode cX3_readClause 110 = .ok (.aload_n 0, 1) := by decide +kernel
theorem dX3_readClause_111 : decode cX3_readClause 111 = .ok (.getfield 46, 3) := by decide +kernel
theorem dX3_readClause_114 : decode cX3_readClause 114 = .ok (.iconst (-1), 1) := by decide +kernel
theorem dX3_readClause_115 : decode cX3_readClause 115 = .ok (.if_icmp .eq 7, 3) := by decide +kernel
theorem dX3_readClause_118 : decode cX3_readClause 118 = .ok (.iconst 1, 1) := by decide +kernel
theorem dX3_readClause_119 : decode cX3_readClause 119 = .ok (.goto 4, 3) := by decide +kernel
theorem dX3_readClause_122 : decode cX3_readClause 122 = .ok (.iconst 0, 1) := by decide +kernel
theorem dX3_readClause_123 : decode cX3_readClause 123 = .ok (.ireturn, 1) := by decide +kernel
theorem dX3_readClause_124 : decode cX3_readClause 124 = .ok (.aload_n 0, 1) := by decide +kernel
theorem dX3_readClause_125 : decode cX3_readClause 125 = .ok (.aload_n 1, 1) := by decide +kernel
theorem dX3_readClause_126 : decode cX3_readClause 126 = .ok (.iconst 1, 1) := by decide +kernel
theorem dX3_readClause_127 : decode cX3_readClause 127 = .ok (.bipush 60, 2) := by decide +kernel
theorem dX3_readClause_129 : decode cX3_readClause 129 = .ok (.invokevirtual 90, 3) := by decide +kernel
theorem dX3_readClause_132 : decode cX3_readClause 132 = .ok (.putfield 49, 3) := by decide +kernel
theorem dX3_readClause_135 : decode cX3_readClause 135 = .ok (.aload_n 0, 1) := by decide +kernel
theorem dX3_readClause_136 : decode cX3_readClause 136 = .ok (.getfield 49, 3) := by decide +kernel
theorem dX3_readClause_139 : decode cX3_readClause 139 = .ok (.iconst (-1), 1) := by decide +kernel
theorem dX3_readClause_140 : decode cX3_readClause 140 = .ok (.if_icmp .eq 7, 3) := by decide +kernel
theorem dX3_readClause_143 : decode cX3_readClause 143 = .ok (.iconst 1, 1) := by decide +kernel
theorem dX3_readClause_144 : decode cX3_readClause 144 = .ok (.goto 4, 3) := by decide +kernel
theorem dX3_readClause_147 : decode cX3_readClause 147 = .ok (.iconst 0, 1) := by decide +kernel
theorem dX3_readClause_148 : decode cX3_readClause 148 = .ok (.ireturn, 1) := by decide +kernel
theorem dX3_readClause_149 : decode cX3_readClause 149 = .ok (.aload_n 0, 1) := by decide +kernel
theorem dX3_readClause_150 : decode cX3_readClause 150 = .ok (.aload_n 1, 1) := by decide +kernel
theorem dX3_readClause_151 : decode cX3_readClause 151 = .ok (.invokevirtual 94, 3) := by decide +kernel
theorem dX3_readClause_154 : decode cX3_readClause 154 = .ok (.ireturn, 1) := by decide +kernel
theorem dX3_readClock_0 : decode cX3_readClock 0 = .ok (.aload_n 0, 1) := by decide +kernel
theorem dX3_readClock_1 : decode cX3_readClock 1 = .ok (.getfield 43, 3) := by decide +kernel
theorem dX3_readClock_4 : decode cX3_readClock 4 = .ok (.bipush 6, 2) := by decide +kernel
theorem dX3_readClock_6 : decode cX3_readClock 6 = .ok (.if_icmp .lt 13, 3) := by decide +kernel
theorem dX3_readClock_9 : decode cX3_readClock 9 = .ok (.aload_n 1, 1) := by decide +kernel
theorem dX3_readClock_10 : decode cX3_readClock 10 = .ok (.iconst 3, 1) := by decide +kernel
theorem dX3_readClock_11 : decode cX3_readClock 11 = .ok (.aload_n 1, 1) := by decide +kernel
theorem dX3_readClock_12 : decode cX3_readClock 12 = .ok (.getfield 67, 3) := by decide +kernel
theorem dX3_readClock_15 : decode cX3_readClock 15 = .ok (.invokevirtual 70, 3) := by decide +kernel
theorem dX3_readClock_18 : decode cX3_readClock 18 = .ok (.ireturn, 1) := by decide +kernel
theorem dX3_readClock_19 : decode cX3_readClock 19 = .ok (.aload_n 0, 1) := by decide +kernel
theorem dX3_readClock_20 : decode cX3_readClock 20 = .ok (.dup, 1) := by decide +kernel
theorem dX3_readClock_21 : decode cX3_readClock 21 = .ok (.getfield 43, 3) := by decide +kernel
theorem dX3_readClock_24 : decode cX3_readClock 24 = .ok (.iconst 1, 1) := by decide +kernel
theorem dX3_readClock_25 : decode cX3_readClock 25 = .ok (.iadd, 1) := by decide +kernel
theorem dX3_readClock_26 : decode cX3_readClock 26 = .ok (.putfield 43, 3) := by decide +kernel
theorem dX3_readClock_29 : decode cX3_readClock 29 = .ok (.aload_n 1, 1) := by decide +kernel
theorem dX3_readClock_30 : decode cX3_readClock 30 = .ok (.iconst 0, 1) := by decide +kernel
theorem dX3_readClock_31 : decode cX3_readClock 31 = .ok (.bipush 59, 2) := by decide +kernel
theorem dX3_readClock_33 : decode cX3_readClock 33 = .ok (.invokevirtual 90, 3) := by decide +kernel
theorem dX3_readClock_36 : decode cX3_readClock 36 = .ok (.istore_n 2, 1) := by decide +kernel
theorem dX3_readClock_37 : decode cX3_readClock 37 = .ok (.iload_n 2, 1) := by decide +kernel
theorem dX3_readClock_38 : decode cX3_readClock 38 = .ok (.iconst (-1), 1) := by decide +kernel
theorem dX3_readClock_39 : decode cX3_readClock 39 = .ok (.if_icmp .ne 5, 3) := by decide +kernel
theorem dX3_readClock_42 : decode cX3_readClock 42 = .ok (.iconst 0, 1) := by decide +kernel
theorem dX3_readClock_43 : decode cX3_readClock 43 = .ok (.ireturn, 1) := by decide +kernel
theorem dX3_readClock_44 : decode cX3_readClock 44 = .ok (.aload_n 1, 1) := by decide +kernel
theorem dX3_readClock_45 : decode cX3_readClock 45 = .ok (.iconst 0, 1) := by decide +kernel
theorem dX3_readClock_46 : decode cX3_readClock 46 = .ok (.bipush 40, 2) := by decide +kernel
theorem dX3_readClock_48 : decode cX3_readClock 48 = .ok (.invokevirtual 90, 3) := by decide +kernel
theorem dX3_readClock_51 : decode cX3_readClock 51 = .ok (.istore_n 3, 1) := by decide +kernel
theorem dX3_readClock_52 : decode cX3_readClock 52 = .ok (.iload_n 3, 1) := by decide +kernel
theorem dX3_readClock_53 : decode cX3_readClock 53 = .ok (.iconst (-1), 1) := by decide +kernel
theorem dX3_readClock_54 : decode cX3_readClock 54 = .ok (.if_icmp .ne 5, 3) := by decide +kernel
theorem dX3_readClock_57 : decode cX3_readClock 57 = .ok (.iconst 0, 1) := by decide +kernel
theorem dX3_readClock_58 : decode cX3_readClock 58 = .ok (.ireturn, 1) := by decide +kernel
theorem dX3_readClock_59 : decode cX3_readClock 59 = .ok (.aload_n 0, 1) := by decide +kernel
theorem dX3_readClock_60 : decode cX3_readClock 60 = .ok (.getfield 40, 3) := by decide +kernel
theorem dX3_readClock_63 : decode cX3_readClock 63 = .ok (.iload_n 2, 1) := by decide +kernel
theorem dX3_readClock_64 : decode cX3_readClock 64 = .ok (.dup2, 1) := by decide +kernel
theorem dX3_readClock_65 : decode cX3_readClock 65 = .ok (.iaload, 1) := by decide +kernel
theorem dX3_readClock_66 : decode cX3_readClock 66 = .ok (.iload_n 3, 1) := by decide +kernel
theorem dX3_readClock_67 : decode cX3_readClock 67 = .ok (.iadd, 1) := by decide +kernel
theorem dX3_readClock_68 : decode cX3_readClock 68 = .ok (.iastore, 1) := by decide +kernel
theorem dX3_readClock_69 : decode cX3_readClock 69 = .ok (.iconst 1, 1) := by decide +kernel
theorem dX3_readClock_70 : decode cX3_readClock 70 = .ok (.ireturn, 1) := by decide +kernel
theorem dX3_readInto_0 : decode cX3_readInto 0 = .ok (.aload_n 0, 1) := by decide +kernel
theorem dX3_readInto_1 : decode cX3_readInto 1 = .ok (.iconst 0, 1) := by decide +kernel
theorem dX3_readInto_2 : decode cX3_readInto 2 = .ok (.iload_n 3, 1) := by decide +kernel
theorem dX3_readInto_3 : decode cX3_readInto 3 = .ok (.invokevirtual 90, 3) := by decide +kernel
theorem dX3_readInto_6 : decode cX3_readInto 6 = .ok (.istore 4, 2) := by decide +kernel
theorem dX3_readInto_8 : decode cX3_readInto 8 = .ok (.iload 4, 2) := by decide +kernel
theorem dX3_readInto_10 : decode cX3_readInto 10 = .ok (.iconst (-1), 1) := by decide +kernel
theorem dX3_readInto_11 : decode cX3_readInto 11 = .ok (.if_icmp .eq 13, 3) := by decide +kernel
theorem dX3_readInto_14 : decode cX3_readInto 14 = .ok (.iload_n 2, 1) := by decide +kernel
theorem dX3_readInto_15 : decode cX3_readInto 15 = .ok (.ifCond .lt 9, 3) := by decide +kernel
theorem dX3_readInto_18 : decode cX3_readInto 18 = .ok (.iload_n 2, 1) := by decide +kernel
theorem dX3_readInto_19 : decode cX3_readInto 19 = .ok (.aload_n 1, 1) := by decide +kernel
theorem dX3_readInto_20 : decode cX3_readInto 20 = .ok (.arraylength, 1) := by decide +kernel
theorem dX3_readInto_21 : decode cX3_readInto 21 = .ok (.if_icmp .lt 5, 3) := by decide +kernel
theorem dX3_readInto_24 : decode cX3_readInto 24 = .ok (.iconst 0, 1) := by decide +kernel
theorem dX3_readInto_25 : decode cX3_readInto 25 = .ok (.ireturn, 1) := by decide +kernel
theorem dX3_readInto_26 : decode cX3_readInto 26 = .ok (.aload_n 1, 1) := by decide +kernel
theorem dX3_readInto_27 : decode cX3_readInto 27 = .ok (.iload_n 2, 1) := by decide +kernel
theorem dX3_readInto_28 : decode cX3_readInto 28 = .ok (.iload 4, 2) := by decide +kernel
theorem dX3_readInto_30 : decode cX3_readInto 30 = .ok (.iastore, 1) := by decide +kernel
theorem dX3_readInto_31 : decode cX3_readInto 31 = .ok (.iconst 1, 1) := by decide +kernel
theorem dX3_readInto_32 : decode cX3_readInto 32 = .ok (.ireturn, 1) := by decide +kernel
theorem dX3_readOf_0 : decode cX3_readOf 0 = .ok (.aload_n 1, 1) := by decide +kernel
theorem dX3_readOf_1 : decode cX3_readOf 1 = .ok (.iconst 0, 1) := by decide +kernel
theorem dX3_readOf_2 : decode cX3_readOf 2 = .ok (.aload_n 0, 1) := by decide +kernel
theorem dX3_readOf_3 : decode cX3_readOf 3 = .ok (.getfield 9, 3) := by decide +kernel
theorem dX3_readOf_6 : decode cX3_readOf 6 = .ok (.iconst 1, 1) := by decide +kernel
theorem dX3_readOf_7 : decode cX3_readOf 7 = .ok (.isub, 1) := by decide +kernel
theorem dX3_readOf_8 : decode cX3_readOf 8 = .ok (.invokevirtual 90, 3) := by decide +kernel
theorem dX3_readOf_11 : decode cX3_readOf 11 = .ok (.istore 4, 2) := by decide +kernel
theorem dX3_readOf_13 : decode cX3_readOf 13 = .ok (.iload 4, 2) := by decide +kernel
theorem dX3_readOf_15 : decode cX3_readOf 15 = .ok (.iconst (-1), 1) := by decide +kernel
theorem dX3_readOf_16 : decode cX3_readOf 16 = .ok (.if_icmp .eq 18, 3) := by decide +kernel
theorem dX3_readOf_19 : decode cX3_readOf 19 = .ok (.aload_n 1, 1) := by decide +kernel
theorem dX3_readOf_20 : decode cX3_readOf 20 = .ok (.aload_n 2, 1) := by decide +kernel
theorem dX3_readOf_21 : decode cX3_readOf 21 = .ok (.iload 4, 2) := by decide +kernel
theorem dX3_readOf_23 : decode cX3_readOf 23 = .ok (.iload_n 3, 1) := by decide +kernel
theorem dX3_readOf_24 : decode cX3_readOf 24 = .ok (.invokestatic 97, 3) := by decide +kernel
theorem dX3_readOf_27 : decode cX3_readOf 27 = .ok (.ifCond .eq 7, 3) := by decide +kernel
theorem dX3_readOf_30 : decode cX3_readOf 30 = .ok (.iconst 1, 1) := by decide +kernel
theorem dX3_readOf_31 : decode cX3_readOf 31 = .ok (.goto 4, 3) := by decide +kernel
theorem dX3_readOf_34 : decode cX3_readOf 34 = .ok (.iconst 0, 1) := by decide +kernel
theorem dX3_readOf_35 : decode cX3_readOf 35 = .ok (.ireturn, 1) := by decide +kernel
theorem dX3_readSleeper_0 : decode cX3_readSleeper 0 = .ok (.aload_n 0, 1) := by decide +kernel
theorem dX3_readSleeper_1 : decode cX3_readSleeper 1 = .ok (.getfield 9, 3) := by decide +kernel
theorem dX3_readSleeper_4 : decode cX3_readSleeper 4 = .ok (.iconst 5, 1) := by decide +kernel
theorem dX3_readSleeper_5 : decode cX3_readSleeper 5 = .ok (.if_icmp .lt 13, 3) := by decide +kernel
theorem dX3_readSleeper_8 : decode cX3_readSleeper 8 = .ok (.aload_n 1, 1) := by decide +kernel
theorem dX3_readSleeper_9 : decode cX3_readSleeper 9 = .ok (.iconst 3, 1) := by decide +kernel
theorem dX3_readSleeper_10 : decode cX3_readSleeper 10 = .ok (.aload_n 1, 1) := by decide +kernel
theorem dX3_readSleeper_11 : decode cX3_readSleeper 11 = .ok (.getfield 67, 3) := by decide +kernel
theorem dX3_readSleeper_14 : decode cX3_readSleeper 14 = .ok (.invokevirtual 70, 3) := by decide +kernel
theorem dX3_readSleeper_17 : decode cX3_readSleeper 17 = .ok (.ireturn, 1) := by decide +kernel
theorem dX3_readSleeper_18 : decode cX3_readSleeper 18 = .ok (.aload_n 0, 1) := by decide +kernel
theorem dX3_readSleeper_19 : decode cX3_readSleeper 19 = .ok (.getfield 9, 3) := by decide +kernel
theorem dX3_readSleeper_22 : decode cX3_readSleeper 22 = .ok (.istore_n 2, 1) := by decide +kernel
theorem dX3_readSleeper_23 : decode cX3_readSleeper 23 = .ok (.aload_n 0, 1) := by decide +kernel
theorem dX3_readSleeper_24 : decode cX3_readSleeper 24 = .ok (.getfield 28, 3) := by decide +kernel
theorem dX3_readSleeper_27 : decode cX3_readSleeper 27 = .ok (.iload_n 2, 1) := by decide +kernel
theorem dX3_readSleeper_28 : decode cX3_readSleeper 28 = .ok (.iconst 0, 1) := by decide +kernel
theorem dX3_readSleeper_29 : decode cX3_readSleeper 29 = .ok (.iastore, 1) := by decide +kernel
theorem dX3_readSleeper_30 : decode cX3_readSleeper 30 = .ok (.aload_n 0, 1) := by decide +kernel
theorem dX3_readSleeper_31 : decode cX3_readSleeper 31 = .ok (.getfield 31, 3) := by decide +kernel
theorem dX3_readSleeper_34 : decode cX3_readSleeper 34 = .ok (.iload_n 2, 1) := by decide +kernel
theorem dX3_readSleeper_35 : decode cX3_readSleeper 35 = .ok (.iconst 0, 1) := by decide +kernel
theorem dX3_readSleeper_36 : decode cX3_readSleeper 36 = .ok (.iastore, 1) := by decide +kernel
theorem dX3_readSleeper_37 : decode cX3_readSleeper 37 = .ok (.aload_n 0, 1) := by decide +kernel
theorem dX3_readSleeper_38 : decode cX3_readSleeper 38 = .ok (.getfield 34, 3) := by decide +kernel
theorem dX3_readSleeper_41 : decode cX3_readSleeper 41 = .ok (.iload_n 2, 1) := by decide +kernel
theorem dX3_readSleeper_42 : decode cX3_readSleeper 42 = .ok (.iconst 0, 1) := by decide +kernel
theorem dX3_readSleeper_43 : decode cX3_readSleeper 43 = .ok (.iastore, 1) := by decide +kernel
theorem dX3_readSleeper_44 : decode cX3_readSleeper 44 = .ok (.aload_n 0, 1) := by decide +kernel
theorem dX3_readSleeper_45 : decode cX3_readSleeper 45 = .ok (.getfield 37, 3) := by decide +kernel
theorem dX3_readSleeper_48 : decode cX3_readSleeper 48 = .ok (.iload_n 2, 1) := by decide +kernel
theorem dX3_readSleeper_49 : decode cX3_readSleeper 49 = .ok (.iconst 0, 1) := by decide +kernel
theorem dX3_readSleeper_50 : decode cX3_readSleeper 50 = .ok (.iastore, 1) := by decide +kernel
theorem dX3_readSleeper_51 : decode cX3_readSleeper 51 = .ok (.aload_n 0, 1) := by decide +kernel
theorem dX3_readSleeper_52 : decode cX3_readSleeper 52 = .ok (.dup, 1) := by decide +kernel
theorem dX3_readSleeper_53 : decode cX3_readSleeper 53 = .ok (.getfield 9, 3) := by decide +kernel
theorem dX3_readSleeper_56 : decode cX3_readSleeper 56 = .ok (.iconst 1, 1) := by decide +kernel
theorem dX3_readSleeper_57 : decode cX3_readSleeper 57 = .ok (.iadd, 1) := by decide +kernel
theorem dX3_readSleeper_58 : decode cX3_readSleeper 58 = .ok (.putfield 9, 3) := by decide +kernel
theorem dX3_readSleeper_61 : decode cX3_readSleeper 61 = .ok (.aload_n 1, 1) := by decide +kernel
theorem dX3_readSleeper_62 : decode cX3_readSleeper 62 = .ok (.aload_n 0, 1) := by decide +kernel
theorem dX3_readSleeper_63 : decode cX3_readSleeper 63 = .ok (.getfield 15, 3) := by decide +kernel
theorem dX3_readSleeper_66 : decode cX3_readSleeper 66 = .ok (.iload_n 2, 1) := by decide +kernel
theorem dX3_readSleeper_67 : decode cX3_readSleeper 67 = .ok (.bipush 60, 2) := by decide +kernel
theorem dX3_readSleeper_69 : decode cX3_readSleeper 69 = .ok (.invokestatic 97, 3) := by decide +kernel
theorem dX3_readSleeper_72 : decode cX3_readSleeper 72 = .ok (.ifCond .eq 48, 3) := by decide +kernel
theorem dX3_readSleeper_75 : decode cX3_readSleeper 75 = .ok (.aload_n 1, 1) := by decide +kernel
theorem dX3_readSleeper_76 : decode cX3_readSleeper 76 = .ok (.aload_n 0, 1) := by decide +kernel
theorem dX3_readSleeper_77 : decode cX3_readSleeper 77 = .ok (.getfield 19, 3) := by decide +kernel
theorem dX3_readSleeper_80 : decode cX3_readSleeper 80 = .ok (.iload_n 2, 1) := by decide +kernel
theorem dX3_readSleeper_81 : decode cX3_readSleeper 81 = .ok (.bipush 20, 2) := by decide +kernel
theorem dX3_readSleeper_83 : decode cX3_readSleeper 83 = .ok (.invokestatic 97, 3) := by decide +kernel
theorem dX3_readSleeper_86 : decode cX3_readSleeper 86 = .ok (.ifCond .eq 34, 3) := by decide +kernel
theorem dX3_readSleeper_89 : decode cX3_readSleeper 89 = .ok (.aload_n 1, 1) := by decide +kernel
theorem dX3_readSleeper_90 : decode cX3_readSleeper 90 = .ok (.aload_n 0, 1) := by decide +kernel
theorem dX3_readSleeper_91 : decode cX3_readSleeper 91 = .ok (.getfield 22, 3) := by decide +kernel
theorem dX3_readSleeper_94 : decode cX3_readSleeper 94 = .ok (.iload_n 2, 1) := by decide +kernel
theorem dX3_readSleeper_95 : decode cX3_readSleeper 95 = .ok (.bipush 9, 2) := by decide +kernel
theorem dX3_readSleeper_97 : decode cX3_readSleeper 97 = .ok (.invokestatic 97, 3) := by decide +kernel
theorem dX3_readSleeper_100 : decode cX3_readSleeper 100 = .ok (.ifCond .eq 20, 3) := by decide +kernel
theorem dX3_readSleeper_103 : decode cX3_readSleeper 103 = .ok (.aload_n 1, 1) := by decide +kernel
theorem dX3_readSleeper_104 : decode cX3_readSleeper 104 = .ok (.aload_n 0, 1) := by decide +kernel
theorem dX3_readSleeper_105 : decode cX3_readSleeper 105 = .ok (.getfield 25, 3) := by decide +kernel
theorem dX3_readSleeper_108 : decode cX3_readSleeper 108 = .ok (.iload_n 2, 1) := by decide +kernel
theorem dX3_readSleeper_109 : decode cX3_readSleeper 109 = .ok (.iconst 1, 1) := by decide +kernel
theorem dX3_readSleeper_110 : decode cX3_readSleeper 110 = .ok (.invokestatic 97, 3) := by decide +kernel
theorem dX3_readSleeper_113 : decode cX3_readSleeper 113 = .ok (.ifCond .eq 7, 3) := by decide +kernel
theorem dX3_readSleeper_116 : decode cX3_readSleeper 116 = .ok (.iconst 1, 1) := by decide +kernel
theorem dX3_readSleeper_117 : decode cX3_readSleeper 117 = .ok (.goto 4, 3) := by decide +kernel
theorem dX3_readSleeper_120 : decode cX3_readSleeper 120 = .ok (.iconst 0, 1) := by decide +kernel
theorem dX3_readSleeper_121 : decode cX3_readSleeper 121 = .ok (.ireturn, 1) := by decide +kernel
theorem dX3_strikesIn_0 : decode cX3_strikesIn 0 = .ok (.iload_n 1, 1) := by decide +kernel
theorem dX3_strikesIn_1 : decode cX3_strikesIn 1 = .ok (.ifCond .lt 15, 3) := by decide +kernel
theorem dX3_strikesIn_4 : decode cX3_strikesIn 4 = .ok (.aload_n 0, 1) := by decide +kernel
theorem dX3_strikesIn_5 : decode cX3_strikesIn 5 = .ok (.getfield 40, 3) := by decide +kernel
theorem dX3_strikesIn_8 : decode cX3_strikesIn 8 = .ok (.iload_n 1, 1) := by decide +kernel
theorem dX3_strikesIn_9 : decode cX3_strikesIn 9 = .ok (.bipush 60, 2) := by decide +kernel
theorem dX3_strikesIn_11 : decode cX3_strikesIn 11 = .ok (.irem, 1) := by decide +kernel
theorem dX3_strikesIn_12 : decode cX3_strikesIn 12 = .ok (.iaload, 1) := by decide +kernel
theorem dX3_strikesIn_13 : decode cX3_strikesIn 13 = .ok (.goto 4, 3) := by decide +kernel
theorem dX3_strikesIn_16 : decode cX3_strikesIn 16 = .ok (.iconst 0, 1) := by decide +kernel
theorem dX3_strikesIn_17 : decode cX3_strikesIn 17 = .ok (.ireturn, 1) := by decide +kernel
theorem dX4_findRests_0 : decode cX4_findRests 0 = .ok (.aload_n 0, 1) := by decide +kernel
theorem dX4_findRests_1 : decode cX4_findRests 1 = .ok (.iconst 0, 1) := by decide +kernel
theorem dX4_findRests_2 : decode cX4_findRests 2 = .ok (.putfield 18, 3) := by decide +kernel
theorem dX4_findRests_5 : decode cX4_findRests 5 = .ok (.aload_n 0, 1) := by decide +kernel
theorem dX4_findRests_6 : decode cX4_findRests 6 = .ok (.iconst (-1), 1) := by decide +kernel
theorem dX4_findRests_7 : decode cX4_findRests 7 = .ok (.putfield 22, 3) := by decide +kernel
theorem dX4_findRests_10 : decode cX4_findRests 10 = .ok (.aload_n 0, 1) := by decide +kernel
theorem dX4_findRests_11 : decode cX4_findRests 11 = .ok (.iconst 0, 1) := by decide +kernel
theorem dX4_findRests_12 : decode cX4_findRests 12 = .ok (.putfield 25, 3) := by decide +kernel
theorem dX4_findRests_15 : decode cX4_findRests 15 = .ok (.iconst 0, 1) := by decide +kernel
theorem dX4_findRests_16 : decode cX4_findRests 16 = .ok (.istore_n 2, 1) := by decide +kernel
theorem dX4_findRests_17 : decode cX4_findRests 17 = .ok (.iload_n 2, 1) := by decide +kernel
theorem dX4_findRests_18 : decode cX4_findRests 18 = .ok (.iload_n 1, 1) := by decide +kernel
theorem dX4_findRests_19 : decode cX4_findRests 19 = .ok (.if_icmp .gt 101, 3) := by decide +kernel
theorem dX4_findRests_22 : decode cX4_findRests 22 = .ok (.iload_n 2, 1) := by decide +kernel
theorem dX4_findRests_23 : decode cX4_findRests 23 = .ok (.bipush 9, 2) := by decide +kernel
theorem dX4_findRests_25 : decode cX4_findRests 25 = .ok (.if_icmp .ge 95, 3) := by decide +kernel
theorem dX4_findRests_28 : decode cX4_findRests 28 = .ok (.iconst 0, 1) := by decide +kernel
theorem dX4_findRests_29 : decode cX4_findRests 29 = .ok (.istore_n 3, 1) := by decide +kernel
theorem dX4_findRests_30 : decode cX4_findRests 30 = .ok (.iload_n 3, 1) := by decide +kernel
theorem dX4_findRests_31 : decode cX4_findRests 31 = .ok (.iload_n 1, 1) := by decide +kernel
theorem dX4_findRests_32 : decode cX4_findRests 32 = .ok (.if_icmp .gt 82, 3) := by decide +kernel
theorem dX4_findRests_35 : decode cX4_findRests 35 = .ok (.iload_n 3, 1) := by decide +kernel
theorem dX4_findRests_36 : decode cX4_findRests 36 = .ok (.bipush 9, 2) := by decide +kernel
theorem dX4_findRests_38 : decode cX4_findRests 38 = .ok (.if_icmp .ge 76, 3) := by decide +kernel
theorem dX4_findRests_41 : decode cX4_findRests 41 = .ok (.aload_n 0, 1) := by decide +kernel
theorem dX4_findRests_42 : decode cX4_findRests 42 = .ok (.iload_n 2, 1) := by decide +kernel
theorem dX4_findRests_43 : decode cX4_findRests 43 = .ok (.iload_n 3, 1) := by decide +kernel
theorem dX4_findRests_44 : decode cX4_findRests 44 = .ok (.iload_n 1, 1) := by decide +kernel
theorem dX4_findRests_45 : decode cX4_findRests 45 = .ok (.invokevirtual 28, 3) := by decide +kernel
theorem dX4_findRests_48 : decode cX4_findRests 48 = .ok (.ifCond .ne 6, 3) := by decide +kernel
theorem dX4_findRests_51 : decode cX4_findRests 51 = .ok (.goto 57, 3) := by decide +kernel
theorem dX4_findRests_54 : decode cX4_findRests 54 = .ok (.aload_n 0, 1) := by decide +kernel
theorem dX4_findRests_55 : decode cX4_findRests 55 = .ok (.getfield 18, 3) := by decide +kernel
theorem dX4_findRests_58 : decode cX4_findRests 58 = .ok (.ifCond .ne 40, 3) := by decide +kernel
theorem dX4_findRests_61 : decode cX4_findRests 61 = .ok (.iload_n 2, 1) := by decide +kernel
theorem dX4_findRests_62 : decode cX4_findRests 62 = .ok (.bipush 9, 2) := by decide +kernel
theorem dX4_findRests_64 : decode cX4_findRests 64 = .ok (.imul, 1) := by decide +kernel
theorem dX4_findRests_65 : decode cX4_findRests 65 = .ok (.iload_n 3, 1) := by decide +kernel
theorem dX4_findRests_66 : decode cX4_findRests 66 = .ok (.iadd, 1) := by decide +kernel
theorem dX4_findRests_67 : decode cX4_findRests 67 = .ok (.istore 4, 2) := by decide +kernel
theorem dX4_findRests_69 : decode cX4_findRests 69 = .ok (.aload_n 0, 1) := by decide +kernel
theorem dX4_findRests_70 : decode cX4_findRests 70 = .ok (.bipush 100, 2) := by decide +kernel
theorem dX4_findRests_72 : decode cX4_findRests 72 = .ok (.iload_n 2, 1) := by decide +kernel
theorem dX4_findRests_73 : decode cX4_findRests 73 = .ok (.imul, 1) := by decide +kernel
theorem dX4_findRests_74 : decode cX4_findRests 74 = .ok (.iload_n 3, 1) := by decide +kernel
theorem dX4_findRests_75 : decode cX4_findRests 75 = .ok (.iadd, 1) := by decide +kernel
theorem dX4_findRests_76 : decode cX4_findRests 76 = .ok (.putfield 22, 3) := by decide +kernel
theorem dX4_findRests_79 : decode cX4_findRests 79 = .ok (.aload_n 0, 1) := by decide +kernel
theorem dX4_findRests_80 : decode cX4_findRests 80 = .ok (.aload_n 0, 1) := by decide +kernel
theorem dX4_findRests_81 : decode cX4_findRests 81 = .ok (.getfield 11, 3) := by decide +kernel
theorem dX4_findRests_84 : decode cX4_findRests 84 = .ok (.iload 4, 2) := by decide +kernel
theorem dX4_findRests_86 : decode cX4_findRests 86 = .ok (.iaload, 1) := by decide +kernel
theorem dX4_findRests_87 : decode cX4_findRests 87 = .ok (.aload_n 0, 1) := by decide +kernel
theorem dX4_findRests_88 : decode cX4_findRests 88 = .ok (.getfield 15, 3) := by decide +kernel
theorem dX4_findRests_91 : decode cX4_findRests 91 = .ok (.iload 4, 2) := by decide +kernel
theorem dX4_findRests_93 : decode cX4_findRests 93 = .ok (.iaload, 1) := by decide +kernel
theorem dX4_findRests_94 : decode cX4_findRests 94 = .ok (.iadd, 1) := by decide +kernel
theorem dX4_findRests_95 : decode cX4_findRests 95 = .ok (.putfield 25, 3) := by decide +kernel
theorem dX4_findRests_98 : decode cX4_findRests 98 = .ok (.aload_n 0, 1) := by decide +kernel
theorem dX4_findRests_99 : decode cX4_findRests 99 = .ok (.dup, 1) := by decide +kernel
theorem dX4_findRests_100 : decode cX4_findRests 100 = .ok (.getfield 18, 3) := by decide +kernel
theorem dX4_findRests_103 : decode cX4_findRests 103 = .ok (.iconst 1, 1) := by decide +kernel
theorem dX4_findRests_104 : decode cX4_findRests 104 = .ok (.iadd, 1) := by decide +kernel
theorem dX4_findRests_105 : decode cX4_findRests 105 = .ok (.putfield 18, 3) := by decide +kernel
theorem dX4_findRests_108 : decode cX4_findRests 108 = .ok (.iinc 3 1, 3) := by decide +kernel
theorem dX4_findRests_111 : decode cX4_findRests 111 = .ok (.goto (-81), 3) := by decide +kernel
theorem dX4_findRests_114 : decode cX4_findRests 114 = .ok (.iinc 2 1, 3) := by decide +kernel
theorem dX4_findRests_117 : decode cX4_findRests 117 = .ok (.goto (-100), 3) := by decide +kernel
theorem dX4_findRests_120 : decode cX4_findRests 120 = .ok (.return_, 1) := by decide +kernel
theorem dX4_init_0 : decode cX4_init 0 = .ok (.aload_n 0, 1) := by decide +kernel
theorem dX4_init_1 : decode cX4_init 1 = .ok (.invokespecial 3, 3) := by decide +kernel
theorem dX4_init_4 : decode cX4_init 4 = .ok (.aload_n 0, 1) := by decide +kernel
theorem dX4_init_5 : decode cX4_init 5 = .ok (.bipush 81, 2) := by decide +kernel
theorem dX4_init_7 : decode cX4_init 7 = .ok (.newarray .int, 2) := by decide +kernel
theorem dX4_init_9 : decode cX4_init 9 = .ok (.putfield 11, 3) := by decide +kernel
theorem dX4_init_12 : decode cX4_init 12 = .ok (.aload_n 0, 1) := by decide +kernel
theorem dX4_init_13 : decode cX4_init 13 = .ok (.bipush 81, 2) := by decide +kernel
theorem dX4_init_15 : decode cX4_init 15 = .ok (.newarray .int, 2) := by decide +kernel
theorem dX4_init_17 : decode cX4_init 17 = .ok (.putfield 15, 3) := by decide +kernel
theorem dX4_init_20 : decode cX4_init 20 = .ok (.aload_n 0, 1) := by decide +kernel
theorem dX4_init_21 : decode cX4_init 21 = .ok (.iconst 0, 1) := by decide +kernel
theorem dX4_init_22 : decode cX4_init 22 = .ok (.putfield 18, 3) := by decide +kernel
theorem dX4_init_25 : decode cX4_init 25 = .ok (.aload_n 0, 1) := by decide +kernel
theorem dX4_init_26 : decode cX4_init 26 = .ok (.iconst (-1), 1) := by decide +kernel
theorem dX4_init_27 : decode cX4_init 27 = .ok (.putfield 22, 3) := by decide +kernel
theorem dX4_init_30 : decode cX4_init 30 = .ok (.aload_n 0, 1) := by decide +kernel
theorem dX4_init_31 : decode cX4_init 31 = .ok (.iconst 0, 1) := by decide +kernel
theorem dX4_init_32 : decode cX4_init 32 = .ok (.putfield 25, 3) := by decide +kernel
theorem dX4_init_35 : decode cX4_init 35 = .ok (.return_, 1) := by decide +kernel
theorem dX4_isRest_0 : decode cX4_isRest 0 = .ok (.iload_n 1, 1) := by decide +kernel
theorem dX4_isRest_1 : decode cX4_isRest 1 = .ok (.bipush 9, 2) := by decide +kernel
theorem dX4_isRest_3 : decode cX4_isRest 3 = .ok (.imul, 1) := by decide +kernel
theorem dX4_isRest_4 : decode cX4_isRest 4 = .ok (.iload_n 2, 1) := by decide +kernel
theorem dX4_isRest_5 : decode cX4_isRest 5 = .ok (.iadd, 1) := by decide +kernel
theorem dX4_isRest_6 : decode cX4_isRest 6 = .ok (.istore 4, 2) := by decide +kernel
theorem dX4_isRest_8 : decode cX4_isRest 8 = .ok (.iconst 0, 1) := by decide +kernel
theorem dX4_isRest_9 : decode cX4_isRest 9 = .ok (.istore 5, 2) := by decide +kernel
theorem dX4_isRest_11 : decode cX4_isRest 11 = .ok (.iload 5, 2) := by decide +kernel
theorem dX4_isRest_13 : decode cX4_isRest 13 = .ok (.iload_n 3, 1) := by decide +kernel
theorem dX4_isRest_14 : decode cX4_isRest 14 = .ok (.if_icmp .gt 64, 3) := by decide +kernel
theorem dX4_isRest_17 : decode cX4_isRest 17 = .ok (.iload 5, 2) := by decide +kernel
theorem dX4_isRest_19 : decode cX4_isRest 19 = .ok (.bipush 9, 2) := by decide +kernel
theorem dX4_isRest_21 : decode cX4_isRest 21 = .ok (.if_icmp .ge 57, 3) := by decide +kernel
theorem dX4_isRest_24 : decode cX4_isRest 24 = .ok (.aload_n 0, 1) := by decide +kernel
theorem dX4_isRest_25 : decode cX4_isRest 25 = .ok (.getfield 11, 3) := by decide +kernel
theorem dX4_isRest_28 : decode cX4_isRest 28 = .ok (.iload 5, 2) := by decide +kernel
theorem dX4_isRest_30 : decode cX4_isRest 30 = .ok (.bipush 9, 2) := by decide +kernel
theorem dX4_isRest_32 : decode cX4_isRest 32 = .ok (.imul, 1) := by decide +kernel
theorem dX4_isRest_33 : decode cX4_isRest 33 = .ok (.iload_n 2, 1) := by decide +kernel
theorem dX4_isRest_34 : decode cX4_isRest 34 = .ok (.iadd, 1) := by decide +kernel
theorem dX4_isRest_35 : decode cX4_isRest 35 = .ok (.iaload, 1) := by decide +kernel
theorem dX4_isRest_36 : decode cX4_isRest 36 = .ok (.aload_n 0, 1) := by decide +kernel
theorem dX4_isRest_37 : decode cX4_isRest 37 = .ok (.getfield 11, 3) := by decide +kernel
theorem dX4_isRest_40 : decode cX4_isRest 40 = .ok (.iload 4, 2) := by decide +kernel
theorem dX4_isRest_42 : decode cX4_isRest 42 = .ok (.iaload, 1) := by decide +kernel
theorem dX4_isRest_43 : decode cX4_isRest 43 = .ok (.if_icmp .le 5, 3) := by decide +kernel
theorem dX4_isRest_46 : decode cX4_isRest 46 = .ok (.iconst 0, 1) := by decide +kernel
theorem dX4_isRest_47 : decode cX4_isRest 47 = .ok (.ireturn, 1) := by decide +kernel
theorem dX4_isRest_48 : decode cX4_isRest 48 = .ok (.aload_n 0, 1) := by decide +kernel
theorem dX4_isRest_49 : decode cX4_isRest 49 = .ok (.getfield 15, 3) := by decide +kernel
theorem dX4_isRest_52 : decode cX4_isRest 52 = .ok (.iload_n 1, 1) := by decide +kernel
theorem dX4_isRest_53 : decode cX4_isRest 53 = .ok (.bipush 9, 2) := by decide +kernel
theorem dX4_isRest_55 : decode cX4_isRest 55 = .ok (.imul, 1) := by decide +kernel
theorem dX4_isRest_56 : decode cX4_isRest 56 = .ok (.iload 5, 2) := by decide +kernel
theorem dX4_isRest_58 : decode cX4_isRest 58 = .ok (.iadd, 1) := by decide +kernel
theorem dX4_isRest_59 : decode cX4_isRest 59 = .ok (.iaload, 1) := by decide +kernel
theorem dX4_isRest_60 : decode cX4_isRest 60 = .ok (.aload_n 0, 1) := by decide +kernel
theorem dX4_isRest_61 : decode cX4_isRest 61 = .ok (.getfield 15, 3) := by decide +kernel
theorem dX4_isRest_64 : decode cX4_isRest 64 = .ok (.iload 4, 2) := by decide +kernel
theorem dX4_isRest_66 : decode cX4_isRest 66 = .ok (.iaload, 1) := by decide +kernel
theorem dX4_isRest_67 : decode cX4_isRest 67 = .ok (.if_icmp .le 5, 3) := by decide +kernel
theorem dX4_isRest_70 : decode cX4_isRest 70 = .ok (.iconst 0, 1) := by decide +kernel
theorem dX4_isRest_71 : decode cX4_isRest 71 = .ok (.ireturn, 1) := by decide +kernel
theorem dX4_isRest_72 : decode cX4_isRest 72 = .ok (.iinc 5 1, 3) := by decide +kernel
theorem dX4_isRest_75 : decode cX4_isRest 75 = .ok (.goto (-64), 3) := by decide +kernel
theorem dX4_isRest_78 : decode cX4_isRest 78 = .ok (.iconst 1, 1) := by decide +kernel
theorem dX4_isRest_79 : decode cX4_isRest 79 = .ok (.ireturn, 1) := by decide +kernel
theorem dX4_put_0 : decode cX4_put 0 = .ok (.iload_n 1, 1) := by decide +kernel
theorem dX4_put_1 : decode cX4_put 1 = .ok (.bipush 9, 2) := by decide +kernel
theorem dX4_put_3 : decode cX4_put 3 = .ok (.imul, 1) := by decide +kernel
theorem dX4_put_4 : decode cX4_put 4 = .ok (.iload_n 2, 1) := by decide +kernel
theorem dX4_put_5 : decode cX4_put 5 = .ok (.iadd, 1) := by decide +kernel
theorem dX4_put_6 : decode cX4_put 6 = .ok (.istore 5, 2) := by decide +kernel
theorem dX4_put_8 : decode cX4_put 8 = .ok (.iload 5, 2) := by decide +kernel
theorem dX4_put_10 : decode cX4_put 10 = .ok (.ifCond .lt 30, 3) := by decide +kernel
theorem dX4_put_13 : decode cX4_put 13 = .ok (.iload 5, 2) := by decide +kernel
theorem dX4_put_15 : decode cX4_put 15 = .ok (.aload_n 0, 1) := by decide +kernel
theorem dX4_put_16 : decode cX4_put 16 = .ok (.getfield 11, 3) := by decide +kernel
theorem dX4_put_19 : decode cX4_put 19 = .ok (.arraylength, 1) := by decide +kernel
theorem dX4_put_20 : decode cX4_put 20 = .ok (.if_icmp .ge 20, 3) := by decide +kernel
theorem dX4_put_23 : decode cX4_put 23 = .ok (.aload_n 0, 1) := by decide +kernel
theorem dX4_put_24 : decode cX4_put 24 = .ok (.getfield 11, 3) := by decide +kernel
theorem dX4_put_27 : decode cX4_put 27 = .ok (.iload 5, 2) := by decide +kernel
theorem dX4_put_29 : decode cX4_put 29 = .ok (.iload_n 3, 1) := by decide +kernel
theorem dX4_put_30 : decode cX4_put 30 = .ok (.iastore, 1) := by decide +kernel
theorem dX4_put_31 : decode cX4_put 31 = .ok (.aload_n 0, 1) := by decide +kernel
theorem dX4_put_32 : decode cX4_put 32 = .ok (.getfield 15, 3) := by decide +kernel
theorem dX4_put_35 : decode cX4_put 35 = .ok (.iload 5, 2) := by decide +kernel
theorem dX4_put_37 : decode cX4_put 37 = .ok (.iload 4, 2) := by decide +kernel
theorem dX4_put_39 : decode cX4_put 39 = .ok (.iastore, 1) := by decide +kernel
theorem dX4_put_40 : decode cX4_put 40 = .ok (.return_, 1) := by decide +kernel
theorem dX5_copy_0 : decode cX5_copy 0 = .ok (.aload_n 0, 1) := by decide +kernel
theorem dX5_copy_1 : decode cX5_copy 1 = .ok (.aload_n 1, 1) := by decide +kernel
theorem dX5_copy_2 : decode cX5_copy 2 = .ok (.getfield 9, 3) := by decide +kernel
theorem dX5_copy_5 : decode cX5_copy 5 = .ok (.aload_n 1, 1) := by decide +kernel
theorem dX5_copy_6 : decode cX5_copy 6 = .ok (.getfield 15, 3) := by decide +kernel
theorem dX5_copy_9 : decode cX5_copy 9 = .ok (.invokevirtual 25, 3) := by decide +kernel
theorem dX5_copy_12 : decode cX5_copy 12 = .ok (.return_, 1) := by decide +kernel
theorem dX5_init_0 : decode cX5_init 0 = .ok (.aload_n 0, 1) := by decide +kernel
theorem dX5_init_1 : decode cX5_init 1 = .ok (.invokespecial 3, 3) := by decide +kernel
theorem dX5_init_4 : decode cX5_init 4 = .ok (.aload_n 0, 1) := by decide +kernel
theorem dX5_init_5 : decode cX5_init 5 = .ok (.sipush 150, 3) := by decide +kernel
theorem dX5_init_8 : decode cX5_init 8 = .ok (.newarray .int, 2) := by decide +kernel
theorem dX5_init_10 : decode cX5_init 10 = .ok (.putfield 9, 3) := by decide +kernel
theorem dX5_init_13 : decode cX5_init 13 = .ok (.aload_n 0, 1) := by decide +kernel
theorem dX5_init_14 : decode cX5_init 14 = .ok (.iconst 0, 1) := by decide +kernel
theorem dX5_init_15 : decode cX5_init 15 = .ok (.putfield 15, 3) := by decide +kernel
theorem dX5_init_18 : decode cX5_init 18 = .ok (.aload_n 0, 1) := by decide +kernel
theorem dX5_init_19 : decode cX5_init 19 = .ok (.bipush 32, 2) := by decide +kernel
theorem dX5_init_21 : decode cX5_init 21 = .ok (.newarray .int, 2) := by decide +kernel
theorem dX5_init_23 : decode cX5_init 23 = .ok (.putfield 19, 3) := by decide +kernel
theorem dX5_init_26 : decode cX5_init 26 = .ok (.return_, 1) := by decide +kernel
theorem dX5_join_0 : decode cX5_join 0 = .ok (.iload_n 0, 1) := by decide +kernel
theorem dX5_join_1 : decode cX5_join 1 = .ok (.tableswitch 70 2000 2004 #[35, 39, 43, 47, 59], 35) := by decide +kernel
theorem dX5_join_36 : decode cX5_join 36 = .ok (.iload_n 1, 1) := by decide +kernel
theorem dX5_join_37 : decode cX5_join 37 = .ok (.iload_n 2, 1) := by decide +kernel
theorem dX5_join_38 : decode cX5_join 38 = .ok (.iadd, 1) := by decide +kernel
theorem dX5_join_39 : decode cX5_join 39 = .ok (.ireturn, 1) := by decide +kernel
theorem dX5_join_40 : decode cX5_join 40 = .ok (.iload_n 1, 1) := by decide +kernel
theorem dX5_join_41 : decode cX5_join 41 = .ok (.iload_n 2, 1) := by decide +kernel
theorem dX5_join_42 : decode cX5_join 42 = .ok (.isub, 1) := by decide +kernel
theorem dX5_join_43 : decode cX5_join 43 = .ok (.ireturn, 1) := by decide +kernel
theorem dX5_join_44 : decode cX5_join 44 = .ok (.iload_n 1, 1) := by decide +kernel
theorem dX5_join_45 : decode cX5_join 45 = .ok (.iload_n 2, 1) := by decide +kernel
theorem dX5_join_46 : decode cX5_join 46 = .ok (.imul, 1) := by decide +kernel
theorem dX5_join_47 : decode cX5_join 47 = .ok (.ireturn, 1) := by decide +kernel
theorem dX5_join_48 : decode cX5_join 48 = .ok (.iload_n 2, 1) := by decide +kernel
theorem dX5_join_49 : decode cX5_join 49 = .ok (.ifCond .ne 7, 3) := by decide +kernel
theorem dX5_join_52 : decode cX5_join 52 = .ok (.iconst 0, 1) := by decide +kernel
theorem dX5_join_53 : decode cX5_join 53 = .ok (.goto 6, 3) := by decide +kernel
theorem dX5_join_56 : decode cX5_join 56 = .ok (.iload_n 1, 1) := by decide +kernel
theorem dX5_join_57 : decode cX5_join 57 = .ok (.iload_n 2, 1) := by decide +kernel
theorem dX5_join_58 : decode cX5_join 58 = .ok (.idiv, 1) := by decide +kernel
theorem dX5_join_59 : decode cX5_join 59 = .ok (.ireturn, 1) := by decide +kernel
theorem dX5_join_60 : decode cX5_join 60 = .ok (.iload_n 1, 1) := by decide +kernel
theorem dX5_join_61 : decode cX5_join 61 = .ok (.iload_n 2, 1) := by decide +kernel
theorem dX5_join_62 : decode cX5_join 62 = .ok (.if_icmp .ge 7, 3) := by decide +kernel
theorem dX5_join_65 : decode cX5_join 65 = .ok (.iload_n 1, 1) := by decide +kernel
theorem dX5_join_66 : decode cX5_join 66 = .ok (.goto 4, 3) := by decide +kernel
theorem dX5_join_69 : decode cX5_join 69 = .ok (.iload_n 2, 1) := by decide +kernel
theorem dX5_join_70 : decode cX5_join 70 = .ok (.ireturn, 1) := by decide +kernel
theorem dX5_join_71 : decode cX5_join 71 = .ok (.iload_n 1, 1) := by decide +kernel
theorem dX5_join_72 : decode cX5_join 72 = .ok (.iload_n 2, 1) := by decide +kernel
theorem dX5_join_73 : decode cX5_join 73 = .ok (.if_icmp .le 7, 3) := by decide +kernel
theorem dX5_join_76 : decode cX5_join 76 = .ok (.iload_n 1, 1) := by decide +kernel
theorem dX5_join_77 : decode cX5_join 77 = .ok (.goto 4, 3) := by decide +kernel
theorem dX5_join_80 : decode cX5_join 80 = .ok (.iload_n 2, 1) := by decide +kernel
theorem dX5_join_81 : decode cX5_join 81 = .ok (.ireturn, 1) := by decide +kernel
theorem dX5_put_0 : decode cX5_put 0 = .ok (.aload_n 0, 1) := by decide +kernel
theorem dX5_put_1 : decode cX5_put 1 = .ok (.getfield 15, 3) := by decide +kernel
theorem dX5_put_4 : decode cX5_put 4 = .ok (.aload_n 0, 1) := by decide +kernel
theorem dX5_put_5 : decode cX5_put 5 = .ok (.getfield 9, 3) := by decide +kernel
theorem dX5_put_8 : decode cX5_put 8 = .ok (.arraylength, 1) := by decide +kernel
theorem dX5_put_9 : decode cX5_put 9 = .ok (.if_icmp .ge 23, 3) := by decide +kernel
theorem dX5_put_12 : decode cX5_put 12 = .ok (.aload_n 0, 1) := by decide +kernel
theorem dX5_put_13 : decode cX5_put 13 = .ok (.getfield 9, 3) := by decide +kernel
theorem dX5_put_16 : decode cX5_put 16 = .ok (.aload_n 0, 1) := by decide +kernel
theorem dX5_put_17 : decode cX5_put 17 = .ok (.getfield 15, 3) := by decide +kernel
theorem dX5_put_20 : decode cX5_put 20 = .ok (.iload_n 1, 1) := by decide +kernel
theorem dX5_put_21 : decode cX5_put 21 = .ok (.iastore, 1) := by decide +kernel
theorem dX5_put_22 : decode cX5_put 22 = .ok (.aload_n 0, 1) := by decide +kernel
theorem dX5_put_23 : decode cX5_put 23 = .ok (.dup, 1) := by decide +kernel
theorem dX5_put_24 : decode cX5_put 24 = .ok (.getfield 15, 3) := by decide +kernel
theorem dX5_put_27 : decode cX5_put 27 = .ok (.iconst 1, 1) := by decide +kernel
theorem dX5_put_28 : decode cX5_put 28 = .ok (.iadd, 1) := by decide +kernel
theorem dX5_put_29 : decode cX5_put 29 = .ok (.putfield 15, 3) := by decide +kernel
theorem dX5_put_32 : decode cX5_put 32 = .ok (.return_, 1) := by decide +kernel
theorem dX5_read_0 : decode cX5_read 0 = .ok (.aload_n 0, 1) := by decide +kernel
theorem dX5_read_1 : decode cX5_read 1 = .ok (.iconst 0, 1) := by decide +kernel
theorem dX5_read_2 : decode cX5_read 2 = .ok (.putfield 15, 3) := by decide +kernel
theorem dX5_read_5 : decode cX5_read 5 = .ok (.aload_n 0, 1) := by decide +kernel
theorem dX5_read_6 : decode cX5_read 6 = .ok (.aload_n 1, 1) := by decide +kernel
theorem dX5_read_7 : decode cX5_read 7 = .ok (.iconst 0, 1) := by decide +kernel
theorem dX5_read_8 : decode cX5_read 8 = .ok (.invokevirtual 38, 3) := by decide +kernel
theorem dX5_read_11 : decode cX5_read 11 = .ok (.ifCond .eq 14, 3) := by decide +kernel
theorem dX5_read_14 : decode cX5_read 14 = .ok (.aload_n 1, 1) := by decide +kernel
theorem dX5_read_15 : decode cX5_read 15 = .ok (.invokevirtual 42, 3) := by decide +kernel
theorem dX5_read_18 : decode cX5_read 18 = .ok (.ifCond .eq 7, 3) := by decide +kernel
theorem dX5_read_21 : decode cX5_read 21 = .ok (.iconst 1, 1) := by decide +kernel
theorem dX5_read_22 : decode cX5_read 22 = .ok (.goto 4, 3) := by decide +kernel
theorem dX5_read_25 : decode cX5_read 25 = .ok (.iconst 0, 1) := by decide +kernel
theorem dX5_read_26 : decode cX5_read 26 = .ok (.ireturn, 1) := by decide +kernel
theorem dX5_readNamed_0 : decode cX5_readNamed 0 = .ok (.aload_n 1, 1) := by decide +kernel
theorem dX5_readNamed_1 : decode cX5_readNamed 1 = .ok (.ldc 79, 2) := by decide +kernel
theorem dX5_readNamed_3 : decode cX5_readNamed 3 = .ok (.invokevirtual 81, 3) := by decide +kernel
theorem dX5_readNamed_6 : decode cX5_readNamed 6 = .ok (.istore_n 3, 1) := by decide +kernel
theorem dX5_readNamed_7 : decode cX5_readNamed 7 = .ok (.iload_n 3, 1) := by decide +kernel
theorem dX5_readNamed_8 : decode cX5_readNamed 8 = .ok (.iconst (-1), 1) := by decide +kernel
theorem dX5_readNamed_9 : decode cX5_readNamed 9 = .ok (.if_icmp .ne 5, 3) := by decide +kernel
theorem dX5_readNamed_12 : decode cX5_readNamed 12 = .ok (.iconst 0, 1) := by decide +kernel
theorem dX5_readNamed_13 : decode cX5_readNamed 13 = .ok (.ireturn, 1) := by decide +kernel
theorem dX5_readNamed_14 : decode cX5_readNamed 14 = .ok (.iload_n 3, 1) := by decide +kernel
theorem dX5_readNamed_15 : decode cX5_readNamed 15 = .ok (.bipush 9, 2) := by decide +kernel
theorem dX5_readNamed_17 : decode cX5_readNamed 17 = .ok (.if_icmp .ge 14, 3) := by decide +kernel
theorem dX5_readNamed_20 : decode cX5_readNamed 20 = .ok (.aload_n 0, 1) := by decide +kernel
theorem dX5_readNamed_21 : decode cX5_readNamed 21 = .ok (.sipush 1000, 3) := by decide +kernel
theorem dX5_readNamed_24 : decode cX5_readNamed 24 = .ok (.iload_n 3, 1) := by decide +kernel
theorem dX5_readNamed_25 : decode cX5_readNamed 25 = .ok (.iadd, 1) := by decide +kernel
theorem dX5_readNamed_26 : decode cX5_readNamed 26 = .ok (.invokevirtual 59, 3) := by decide +kernel
theorem dX5_readNamed_29 : decode cX5_readNamed 29 = .ok (.iconst 1, 1) := by decide +kernel
theorem dX5_readNamed_30 : decode cX5_readNamed 30 = .ok (.ireturn, 1) := by decide +kernel
theorem dX5_readNamed_31 : decode cX5_readNamed 31 = .ok (.iload_n 2, 1) := by decide +kernel
theorem dX5_readNamed_32 : decode cX5_readNamed 32 = .ok (.bipush 6, 2) := by decide +kernel
theorem dX5_readNamed_34 : decode cX5_readNamed 34 = .ok (.if_icmp .lt 13, 3) := by decide +kernel
theorem dX5_readNamed_37 : decode cX5_readNamed 37 = .ok (.aload_n 1, 1) := by decide +kernel
theorem dX5_readNamed_38 : decode cX5_readNamed 38 = .ok (.iconst 3, 1) := by decide +kernel
theorem dX5_readNamed_39 : decode cX5_readNamed 39 = .ok (.aload_n 1, 1) := by decide +kernel
theorem dX5_readNamed_40 : decode cX5_readNamed 40 = .ok (.getfield 85, 3) := by decide +kernel
theorem dX5_readNamed_43 : decode cX5_readNamed 43 = .ok (.invokevirtual 88, 3) := by decide +kernel
theorem dX5_readNamed_46 : decode cX5_readNamed 46 = .ok (.ireturn, 1) := by decide +kernel
theorem dX5_readNamed_47 : decode cX5_readNamed 47 = .ok (.aload_n 1, 1) := by decide +kernel
theorem dX5_readNamed_48 : decode cX5_readNamed 48 = .ok (.bipush 91, 2) := by decide +kernel
theorem dX5_readNamed_50 : decode cX5_readNamed 50 = .ok (.invokevirtual 55, 3) := by decide +kernel
theorem dX5_readNamed_53 : decode cX5_readNamed 53 = .ok (.ifCond .eq 14, 3) := by decide +kernel
theorem dX5_readNamed_56 : decode cX5_readNamed 56 = .ok (.aload_n 0, 1) := by decide +kernel
theorem dX5_readNamed_57 : decode cX5_readNamed 57 = .ok (.aload_n 1, 1) := by decide +kernel
theorem dX5_readNamed_58 : decode cX5_readNamed 58 = .ok (.iload_n 2, 1) := by decide +kernel
theorem dX5_readNamed_59 : decode cX5_readNamed 59 = .ok (.iconst 1, 1) := by decide +kernel
theorem dX5_readNamed_60 : decode cX5_readNamed 60 = .ok (.iadd, 1) := by decide +kernel
theorem dX5_readNamed_61 : decode cX5_readNamed 61 = .ok (.invokevirtual 38, 3) := by decide +kernel
theorem dX5_readNamed_64 : decode cX5_readNamed 64 = .ok (.ifCond .ne 5, 3) := by decide +kernel
theorem dX5_readNamed_67 : decode cX5_readNamed 67 = .ok (.iconst 0, 1) := by decide +kernel
theorem dX5_readNamed_68 : decode cX5_readNamed 68 = .ok (.ireturn, 1) := by decide +kernel
theorem dX5_readNamed_69 : decode cX5_readNamed 69 = .ok (.aload_n 1, 1) := by decide +kernel
theorem dX5_readNamed_70 : decode cX5_readNamed 70 = .ok (.bipush 44, 2) := by decide +kernel
theorem dX5_readNamed_72 : decode cX5_readNamed 72 = .ok (.invokevirtual 55, 3) := by decide +kernel
theorem dX5_readNamed_75 : decode cX5_readNamed 75 = .ok (.ifCond .eq 23, 3) := by decide +kernel
theorem dX5_readNamed_78 : decode cX5_readNamed 78 = .ok (.aload_n 0, 1) := by decide +kernel
theorem dX5_readNamed_79 : decode cX5_readNamed 79 = .ok (.aload_n 1, 1) := by decide +kernel
theorem dX5_readNamed_80 : decode cX5_readNamed 80 = .ok (.iload_n 2, 1) := by decide +kernel
theorem dX5_readNamed_81 : decode cX5_readNamed 81 = .ok (.iconst 1, 1) := by decide +kernel
theorem dX5_readNamed_82 : decode cX5_readNamed 82 = .ok (.iadd, 1) := by decide +kernel
theorem dX5_readNamed_83 : decode cX5_readNamed 83 = .ok (.invokevirtual 38, 3) := by decide +kernel
theorem dX5_readNamed_86 : decode cX5_readNamed 86 = .ok (.ifCond .eq 12, 3) := by decide +kernel
theorem dX5_readNamed_89 : decode cX5_readNamed 89 = .ok (.aload_n 1, 1) := by decide +kernel
theorem dX5_readNamed_90 : decode cX5_readNamed 90 = .ok (.bipush 93, 2) := by decide +kernel
theorem dX5_readNamed_92 : decode cX5_readNamed 92 = .ok (.invokevirtual 55, 3) := by decide +kernel
theorem dX5_readNamed_95 : decode cX5_readNamed 95 = .ok (.ifCond .ne 5, 3) := by decide +kernel
theorem dX5_readNamed_98 : decode cX5_readNamed 98 = .ok (.iconst 0, 1) := by decide +kernel
theorem dX5_readNamed_99 : decode cX5_readNamed 99 = .ok (.ireturn, 1) := by decide +kernel
theorem dX5_readNamed_100 : decode cX5_readNamed 100 = .ok (.aload_n 0, 1) := by decide +kernel
theorem dX5_readNamed_101 : decode cX5_readNamed 101 = .ok (.iload_n 3, 1) := by decide +kernel
theorem dX5_readNamed_102 : decode cX5_readNamed 102 = .ok (.bipush 9, 2) := by decide +kernel
theorem dX5_readNamed_104 : decode cX5_readNamed 104 = .ok (.if_icmp .ne 9, 3) := by decide +kernel
theorem dX5_readNamed_107 : decode cX5_readNamed 107 = .ok (.sipush 2004, 3) := by decide +kernel
theorem dX5_readNamed_110 : decode cX5_readNamed 110 = .ok (.goto 6, 3) := by decide +kernel
theorem dX5_readNamed_113 : decode cX5_readNamed 113 = .ok (.sipush 2005, 3) := by decide +kernel
theorem dX5_readNamed_116 : decode cX5_readNamed 116 = .ok (.invokevirtual 59, 3) := by decide +kernel
theorem dX5_readNamed_119 : decode cX5_readNamed 119 = .ok (.iconst 1, 1) := by decide +kernel
theorem dX5_readNamed_120 : decode cX5_readNamed 120 = .ok (.ireturn, 1) := by decide +kernel
theorem dX5_readProduct_0 : decode cX5_readProduct 0 = .ok (.aload_n 0, 1) := by decide +kernel
theorem dX5_readProduct_1 : decode cX5_readProduct 1 = .ok (.aload_n 1, 1) := by decide +kernel
theorem dX5_readProduct_2 : decode cX5_readProduct 2 = .ok (.iload_n 2, 1) := by decide +kernel
theorem dX5_readProduct_3 : decode cX5_readProduct 3 = .ok (.invokevirtual 63, 3) := by decide +kernel
theorem dX5_readProduct_6 : decode cX5_readProduct 6 = .ok (.ifCond .ne 5, 3) := by decide +kernel
theorem dX5_readProduct_9 : decode cX5_readProduct 9 = .ok (.iconst 0, 1) := by decide +kernel
theorem dX5_readProduct_10 : decode cX5_readProduct 10 = .ok (.ireturn, 1) := by decide +kernel
theorem dX5_readProduct_11 : decode cX5_readProduct 11 = .ok (.iconst 0, 1) := by decide +kernel
theorem dX5_readProduct_12 : decode cX5_readProduct 12 = .ok (.istore_n 3, 1) := by decide +kernel
theorem dX5_readProduct_13 : decode cX5_readProduct 13 = .ok (.iload_n 3, 1) := by decide +kernel
theorem dX5_readProduct_14 : decode cX5_readProduct 14 = .ok (.sipush 150, 3) := by decide +kernel
theorem dX5_readProduct_17 : decode cX5_readProduct 17 = .ok (.if_icmp .ge 72, 3) := by decide +kernel
theorem dX5_readProduct_20 : decode cX5_readProduct 20 = .ok (.aload_n 1, 1) := by decide +kernel
theorem dX5_readProduct_21 : decode cX5_readProduct 21 = .ok (.invokevirtual 51, 3) := by decide +kernel
theorem dX5_readProduct_24 : decode cX5_readProduct 24 = .ok (.istore 4, 2) := by decide +kernel
theorem dX5_readProduct_26 : decode cX5_readProduct 26 = .ok (.iload 4, 2) := by decide +kernel
theorem dX5_readProduct_28 : decode cX5_readProduct 28 = .ok (.bipush 42, 2) := by decide +kernel
theorem dX5_readProduct_30 : decode cX5_readProduct 30 = .ok (.if_icmp .eq 12, 3) := by decide +kernel
theorem dX5_readProduct_33 : decode cX5_readProduct 33 = .ok (.iload 4, 2) := by decide +kernel
theorem dX5_readProduct_35 : decode cX5_readProduct 35 = .ok (.bipush 47, 2) := by decide +kernel
theorem dX5_readProduct_37 : decode cX5_readProduct 37 = .ok (.if_icmp .eq 5, 3) := by decide +kernel
theorem dX5_readProduct_40 : decode cX5_readProduct 40 = .ok (.iconst 1, 1) := by decide +kernel
theorem dX5_readProduct_41 : decode cX5_readProduct 41 = .ok (.ireturn, 1) := by decide +kernel
theorem dX5_readProduct_42 : decode cX5_readProduct 42 = .ok (.aload_n 1, 1) := by decide +kernel
theorem dX5_readProduct_43 : decode cX5_readProduct 43 = .ok (.iload 4, 2) := by decide +kernel
theorem dX5_readProduct_45 : decode cX5_readProduct 45 = .ok (.i2c, 1) := by decide +kernel
theorem dX5_readProduct_46 : decode cX5_readProduct 46 = .ok (.invokevirtual 55, 3) := by decide +kernel
theorem dX5_readProduct_49 : decode cX5_readProduct 49 = .ok (.ifCond .eq 12, 3) := by decide +kernel
theorem dX5_readProduct_52 : decode cX5_readProduct 52 = .ok (.aload_n 0, 1) := by decide +kernel
theorem dX5_readProduct_53 : decode cX5_readProduct 53 = .ok (.aload_n 1, 1) := by decide +kernel
theorem dX5_readProduct_54 : decode cX5_readProduct 54 = .ok (.iload_n 2, 1) := by decide +kernel
theorem dX5_readProduct_55 : decode cX5_readProduct 55 = .ok (.invokevirtual 63, 3) := by decide +kernel
theorem dX5_readProduct_58 : decode cX5_readProduct 58 = .ok (.ifCond .ne 5, 3) := by decide +kernel
theorem dX5_readProduct_61 : decode cX5_readProduct 61 = .ok (.iconst 0, 1) := by decide +kernel
theorem dX5_readProduct_62 : decode cX5_readProduct 62 = .ok (.ireturn, 1) := by decide +kernel
theorem dX5_readProduct_63 : decode cX5_readProduct 63 = .ok (.aload_n 0, 1) := by decide +kernel
theorem dX5_readProduct_64 : decode cX5_readProduct 64 = .ok (.iload 4, 2) := by decide +kernel
theorem dX5_readProduct_66 : decode cX5_readProduct 66 = .ok (.bipush 42, 2) := by decide +kernel
theorem dX5_readProduct_68 : decode cX5_readProduct 68 = .ok (.if_icmp .ne 9, 3) := by decide +kernel
theorem dX5_readProduct_71 : decode cX5_readProduct 71 = .ok (.sipush 2002, 3) := by decide +kernel
theorem dX5_readProduct_74 : decode cX5_readProduct 74 = .ok (.goto 6, 3) := by decide +kernel
theorem dX5_readProduct_77 : decode cX5_readProduct 77 = .ok (.sipush 2003, 3) := by decide +kernel
theorem dX5_readProduct_80 : decode cX5_readProduct 80 = .ok (.invokevirtual 59, 3) := by decide +kernel
theorem dX5_readProduct_83 : decode cX5_readProduct 83 = .ok (.iinc 3 1, 3) := by decide +kernel
theorem dX5_readProduct_86 : decode cX5_readProduct 86 = .ok (.goto (-73), 3) := by decide +kernel
theorem dX5_readProduct_89 : decode cX5_readProduct 89 = .ok (.iconst 1, 1) := by decide +kernel
theorem dX5_readProduct_90 : decode cX5_readProduct 90 = .ok (.ireturn, 1) := by decide +kernel
theorem dX5_readSum_0 : decode cX5_readSum 0 = .ok (.aload_n 0, 1) := by decide +kernel
theorem dX5_readSum_1 : decode cX5_readSum 1 = .ok (.aload_n 1, 1) := by decide +kernel
theorem dX5_readSum_2 : decode cX5_readSum 2 = .ok (.iload_n 2, 1) := by decide +kernel
theorem dX5_readSum_3 : decode cX5_readSum 3 = .ok (.invokevirtual 48, 3) := by decide +kernel
theorem dX5_readSum_6 : decode cX5_readSum 6 = .ok (.ifCond .ne 5, 3) := by decide +kernel
theorem dX5_readSum_9 : decode cX5_readSum 9 = .ok (.iconst 0, 1) := by decide +kernel
theorem dX5_readSum_10 : decode cX5_readSum 10 = .ok (.ireturn, 1) := by decide +kernel
theorem dX5_readSum_11 : decode cX5_readSum 11 = .ok (.iconst 0, 1) := by decide +kernel
theorem dX5_readSum_12 : decode cX5_readSum 12 = .ok (.istore_n 3, 1) := by decide +kernel
theorem dX5_readSum_13 : decode cX5_readSum 13 = .ok (.iload_n 3, 1) := by decide +kernel
theorem dX5_readSum_14 : decode cX5_readSum 14 = .ok (.sipush 150, 3) := by decide +kernel
theorem dX5_readSum_17 : decode cX5_readSum 17 = .ok (.if_icmp .ge 72, 3) := by decide +kernel
theorem dX5_readSum_20 : decode cX5_readSum 20 = .ok (.aload_n 1, 1) := by decide +kernel
theorem dX5_readSum_21 : decode cX5_readSum 21 = .ok (.invokevirtual 51, 3) := by decide +kernel
theorem dX5_readSum_24 : decode cX5_readSum 24 = .ok (.istore 4, 2) := by decide +kernel
theorem dX5_readSum_26 : decode cX5_readSum 26 = .ok (.iload 4, 2) := by decide +kernel
theorem dX5_readSum_28 : decode cX5_readSum 28 = .ok (.bipush 43, 2) := by decide +kernel
theorem dX5_readSum_30 : decode cX5_readSum 30 = .ok (.if_icmp .eq 12, 3) := by decide +kernel
theorem dX5_readSum_33 : decode cX5_readSum 33 = .ok (.iload 4, 2) := by decide +kernel
theorem dX5_readSum_35 : decode cX5_readSum 35 = .ok (.bipush 45, 2) := by decide +kernel
theorem dX5_readSum_37 : decode cX5_readSum 37 = .ok (.if_icmp .eq 5, 3) := by decide +kernel
theorem dX5_readSum_40 : decode cX5_readSum 40 = .ok (.iconst 1, 1) := by decide +kernel
theorem dX5_readSum_41 : decode cX5_readSum 41 = .ok (.ireturn, 1) := by decide +kernel
theorem dX5_readSum_42 : decode cX5_readSum 42 = .ok (.aload_n 1, 1) := by decide +kernel
theorem dX5_readSum_43 : decode cX5_readSum 43 = .ok (.iload 4, 2) := by decide +kernel
theorem dX5_readSum_45 : decode cX5_readSum 45 = .ok (.i2c, 1) := by decide +kernel
theorem dX5_readSum_46 : decode cX5_readSum 46 = .ok (.invokevirtual 55, 3) := by decide +kernel
theorem dX5_readSum_49 : decode cX5_readSum 49 = .ok (.ifCond .eq 12, 3) := by decide +kernel
theorem dX5_readSum_52 : decode cX5_readSum 52 = .ok (.aload_n 0, 1) := by decide +kernel
theorem dX5_readSum_53 : decode cX5_readSum 53 = .ok (.aload_n 1, 1) := by decide +kernel
theorem dX5_readSum_54 : decode cX5_readSum 54 = .ok (.iload_n 2, 1) := by decide +kernel
theorem dX5_readSum_55 : decode cX5_readSum 55 = .ok (.invokevirtual 48, 3) := by decide +kernel
theorem dX5_readSum_58 : decode cX5_readSum 58 = .ok (.ifCond .ne 5, 3) := by decide +kernel
theorem dX5_readSum_61 : decode cX5_readSum 61 = .ok (.iconst 0, 1) := by decide +kernel
theorem dX5_readSum_62 : decode cX5_readSum 62 = .ok (.ireturn, 1) := by decide +kernel
theorem dX5_readSum_63 : decode cX5_readSum 63 = .ok (.aload_n 0, 1) := by decide +kernel
theorem dX5_readSum_64 : decode cX5_readSum 64 = .ok (.iload 4, 2) := by decide +kernel
theorem dX5_readSum_66 : decode cX5_readSum 66 = .ok (.bipush 43, 2) := by decide +kernel
theorem dX5_readSum_68 : decode cX5_readSum 68 = .ok (.if_icmp .ne 9, 3) := by decide +kernel
theorem dX5_readSum_71 : decode cX5_readSum 71 = .ok (.sipush 2000, 3) := by decide +kernel
theorem dX5_readSum_74 : decode cX5_readSum 74 = .ok (.goto 6, 3) := by decide +kernel
theorem dX5_readSum_77 : decode cX5_readSum 77 = .ok (.sipush 2001, 3) := by decide +kernel
theorem dX5_readSum_80 : decode cX5_readSum 80 = .ok (.invokevirtual 59, 3) := by decide +kernel
theorem dX5_readSum_83 : decode cX5_readSum 83 = .ok (.iinc 3 1, 3) := by decide +kernel
theorem dX5_readSum_86 : decode cX5_readSum 86 = .ok (.goto (-73), 3) := by decide +kernel
theorem dX5_readSum_89 : decode cX5_readSum 89 = .ok (.iconst 1, 1) := by decide +kernel
theorem dX5_readSum_90 : decode cX5_readSum 90 = .ok (.ireturn, 1) := by decide +kernel
theorem dX5_readUnit_0 : decode cX5_readUnit 0 = .ok (.aload_n 1, 1) := by decide +kernel
theorem dX5_readUnit_1 : decode cX5_readUnit 1 = .ok (.invokevirtual 51, 3) := by decide +kernel
theorem dX5_readUnit_4 : decode cX5_readUnit 4 = .ok (.istore_n 3, 1) := by decide +kernel
theorem dX5_readUnit_5 : decode cX5_readUnit 5 = .ok (.iload_n 3, 1) := by decide +kernel
theorem dX5_readUnit_6 : decode cX5_readUnit 6 = .ok (.bipush 40, 2) := by decide +kernel
theorem dX5_readUnit_8 : decode cX5_readUnit 8 = .ok (.if_icmp .ne 50, 3) := by decide +kernel
theorem dX5_readUnit_11 : decode cX5_readUnit 11 = .ok (.iload_n 2, 1) := by decide +kernel
theorem dX5_readUnit_12 : decode cX5_readUnit 12 = .ok (.bipush 6, 2) := by decide +kernel
theorem dX5_readUnit_14 : decode cX5_readUnit 14 = .ok (.if_icmp .lt 9, 3) := by decide +kernel
theorem dX5_readUnit_17 : decode cX5_readUnit 17 = .ok (.aload_n 1, 1) := by decide +kernel
theorem dX5_readUnit_18 : decode cX5_readUnit 18 = .ok (.iconst 3, 1) := by decide +kernel
theorem dX5_readUnit_19 : decode cX5_readUnit 19 = .ok (.invokevirtual 66, 3) := by decide +kernel
theorem dX5_readUnit_22 : decode cX5_readUnit 22 = .ok (.ireturn, 1) := by decide +kernel
theorem dX5_readUnit_23 : decode cX5_readUnit 23 = .ok (.aload_n 1, 1) := by decide +kernel
theorem dX5_readUnit_24 : decode cX5_readUnit 24 = .ok (.bipush 40, 2) := by decide +kernel
theorem dX5_readUnit_26 : decode cX5_readUnit 26 = .ok (.invokevirtual 55, 3) := by decide +kernel
theorem dX5_readUnit_29 : decode cX5_readUnit 29 = .ok (.ifCond .eq 27, 3) := by decide +kernel
theorem dX5_readUnit_32 : decode cX5_readUnit 32 = .ok (.aload_n 0, 1) := by decide +kernel
theorem dX5_readUnit_33 : decode cX5_readUnit 33 = .ok (.aload_n 1, 1) := by decide +kernel
theorem dX5_readUnit_34 : decode cX5_readUnit 34 = .ok (.iload_n 2, 1) := by decide +kernel
theorem dX5_readUnit_35 : decode cX5_readUnit 35 = .ok (.iconst 1, 1) := by decide +kernel
theorem dX5_readUnit_36 : decode cX5_readUnit 36 = .ok (.iadd, 1) := by decide +kernel
theorem dX5_readUnit_37 : decode cX5_readUnit 37 = .ok (.invokevirtual 38, 3) := by decide +kernel
theorem dX5_readUnit_40 : decode cX5_readUnit 40 = .ok (.ifCond .eq 16, 3) := by decide +kernel
theorem dX5_readUnit_43 : decode cX5_readUnit 43 = .ok (.aload_n 1, 1) := by decide +kernel
theorem dX5_readUnit_44 : decode cX5_readUnit 44 = .ok (.bipush 41, 2) := by decide +kernel
theorem dX5_readUnit_46 : decode cX5_readUnit 46 = .ok (.invokevirtual 55, 3) := by decide +kernel
theorem dX5_readUnit_49 : decode cX5_readUnit 49 = .ok (.ifCond .eq 7, 3) := by decide +kernel
theorem dX5_readUnit_52 : decode cX5_readUnit 52 = .ok (.iconst 1, 1) := by decide +kernel
theorem dX5_readUnit_53 : decode cX5_readUnit 53 = .ok (.goto 4, 3) := by decide +kernel
theorem dX5_readUnit_56 : decode cX5_readUnit 56 = .ok (.iconst 0, 1) := by decide +kernel
theorem dX5_readUnit_57 : decode cX5_readUnit 57 = .ok (.ireturn, 1) := by decide +kernel
theorem dX5_readUnit_58 : decode cX5_readUnit 58 = .ok (.iload_n 3, 1) := by decide +kernel
theorem dX5_readUnit_59 : decode cX5_readUnit 59 = .ok (.invokestatic 70, 3) := by decide +kernel
theorem dX5_readUnit_62 : decode cX5_readUnit 62 = .ok (.ifCond .ne 10, 3) := by decide +kernel
theorem dX5_readUnit_65 : decode cX5_readUnit 65 = .ok (.aload_n 0, 1) := by decide +kernel
theorem dX5_readUnit_66 : decode cX5_readUnit 66 = .ok (.aload_n 1, 1) := by decide +kernel
theorem dX5_readUnit_67 : decode cX5_readUnit 67 = .ok (.iload_n 2, 1) := by decide +kernel
theorem dX5_readUnit_68 : decode cX5_readUnit 68 = .ok (.invokevirtual 73, 3) := by decide +kernel
theorem dX5_readUnit_71 : decode cX5_readUnit 71 = .ok (.ireturn, 1) := by decide +kernel
theorem dX5_readUnit_72 : decode cX5_readUnit 72 = .ok (.aload_n 1, 1) := by decide +kernel
theorem dX5_readUnit_73 : decode cX5_readUnit 73 = .ok (.iconst 0, 1) := by decide +kernel
theorem dX5_readUnit_74 : decode cX5_readUnit 74 = .ok (.sipush 999, 3) := by decide +kernel
theorem dX5_readUnit_77 : decode cX5_readUnit 77 = .ok (.invokevirtual 76, 3) := by decide +kernel
theorem dX5_readUnit_80 : decode cX5_readUnit 80 = .ok (.istore 4, 2) := by decide +kernel
theorem dX5_readUnit_82 : decode cX5_readUnit 82 = .ok (.iload 4, 2) := by decide +kernel
theorem dX5_readUnit_84 : decode cX5_readUnit 84 = .ok (.iconst (-1), 1) := by decide +kernel
theorem dX5_readUnit_85 : decode cX5_readUnit 85 = .ok (.if_icmp .ne 5, 3) := by decide +kernel
theorem dX5_readUnit_88 : decode cX5_readUnit 88 = .ok (.iconst 0, 1) := by decide +kernel
theorem dX5_readUnit_89 : decode cX5_readUnit 89 = .ok (.ireturn, 1) := by decide +kernel
theorem dX5_readUnit_90 : decode cX5_readUnit 90 = .ok (.aload_n 0, 1) := by decide +kernel
theorem dX5_readUnit_91 : decode cX5_readUnit 91 = .ok (.iload 4, 2) := by decide +kernel
theorem dX5_readUnit_93 : decode cX5_readUnit 93 = .ok (.invokevirtual 59, 3) := by decide +kernel
theorem dX5_readUnit_96 : decode cX5_readUnit 96 = .ok (.iconst 1, 1) := by decide +kernel
theorem dX5_readUnit_97 : decode cX5_readUnit 97 = .ok (.ireturn, 1) := by decide +kernel
theorem dX5_takeCode_0 : decode cX5_takeCode 0 = .ok (.aload_n 0, 1) := by decide +kernel
theorem dX5_takeCode_1 : decode cX5_takeCode 1 = .ok (.iload_n 2, 1) := by decide +kernel
theorem dX5_takeCode_2 : decode cX5_takeCode 2 = .ok (.aload_n 1, 1) := by decide +kernel
theorem dX5_takeCode_3 : decode cX5_takeCode 3 = .ok (.arraylength, 1) := by decide +kernel
theorem dX5_takeCode_4 : decode cX5_takeCode 4 = .ok (.invokestatic 32, 3) := by decide +kernel
theorem dX5_takeCode_7 : decode cX5_takeCode 7 = .ok (.aload_n 0, 1) := by decide +kernel
theorem dX5_takeCode_8 : decode cX5_takeCode 8 = .ok (.getfield 9, 3) := by decide +kernel
theorem dX5_takeCode_11 : decode cX5_takeCode 11 = .ok (.arraylength, 1) := by decide +kernel
theorem dX5_takeCode_12 : decode cX5_takeCode 12 = .ok (.invokestatic 32, 3) := by decide +kernel
theorem dX5_takeCode_15 : decode cX5_takeCode 15 = .ok (.putfield 15, 3) := by decide +kernel
theorem dX5_takeCode_18 : decode cX5_takeCode 18 = .ok (.iconst 0, 1) := by decide +kernel
theorem dX5_takeCode_19 : decode cX5_takeCode 19 = .ok (.istore_n 3, 1) := by decide +kernel
theorem dX5_takeCode_20 : decode cX5_takeCode 20 = .ok (.iload_n 3, 1) := by decide +kernel
theorem dX5_takeCode_21 : decode cX5_takeCode 21 = .ok (.aload_n 0, 1) := by decide +kernel
theorem dX5_takeCode_22 : decode cX5_takeCode 22 = .ok (.getfield 15, 3) := by decide +kernel
theorem dX5_takeCode_25 : decode cX5_takeCode 25 = .ok (.if_icmp .ge 18, 3) := by decide +kernel
theorem dX5_takeCode_28 : decode cX5_takeCode 28 = .ok (.aload_n 0, 1) := by decide +kernel
theorem dX5_takeCode_29 : decode cX5_takeCode 29 = .ok (.getfield 9, 3) := by decide +kernel
theorem dX5_takeCode_32 : decode cX5_takeCode 32 = .ok (.iload_n 3, 1) := by decide +kernel
theorem dX5_takeCode_33 : decode cX5_takeCode 33 = .ok (.aload_n 1, 1) := by decide +kernel
theorem dX5_takeCode_34 : decode cX5_takeCode 34 = .ok (.iload_n 3, 1) := by decide +kernel
theorem dX5_takeCode_35 : decode cX5_takeCode 35 = .ok (.iaload, 1) := by decide +kernel
theorem dX5_takeCode_36 : decode cX5_takeCode 36 = .ok (.iastore, 1) := by decide +kernel
theorem dX5_takeCode_37 : decode cX5_takeCode 37 = .ok (.iinc 3 1, 3) := by decide +kernel
theorem dX5_takeCode_40 : decode cX5_takeCode 40 = .ok (.goto (-20), 3) := by decide +kernel
theorem dX5_takeCode_43 : decode cX5_takeCode 43 = .ok (.return_, 1) := by decide +kernel
theorem dX5_takeFallsWithout_0 : decode cX5_takeFallsWithout 0 = .ok (.aload_n 0, 1) := by decide +kernel
theorem dX5_takeFallsWithout_1 : decode cX5_takeFallsWithout 1 = .ok (.getstatic 29, 3) := by decide +kernel
theorem dX5_takeFallsWithout_4 : decode cX5_takeFallsWithout 4 = .ok (.getstatic 29, 3) := by decide +kernel
theorem dX5_takeFallsWithout_7 : decode cX5_takeFallsWithout 7 = .ok (.arraylength, 1) := by decide +kernel
theorem dX5_takeFallsWithout_8 : decode cX5_takeFallsWithout 8 = .ok (.invokevirtual 25, 3) := by decide +kernel
theorem dX5_takeFallsWithout_11 : decode cX5_takeFallsWithout 11 = .ok (.return_, 1) := by decide +kernel
theorem dX5_takeLoudWithout_0 : decode cX5_takeLoudWithout 0 = .ok (.aload_n 0, 1) := by decide +kernel
theorem dX5_takeLoudWithout_1 : decode cX5_takeLoudWithout 1 = .ok (.getstatic 22, 3) := by decide +kernel
theorem dX5_takeLoudWithout_4 : decode cX5_takeLoudWithout 4 = .ok (.getstatic 22, 3) := by decide +kernel
theorem dX5_takeLoudWithout_7 : decode cX5_takeLoudWithout 7 = .ok (.arraylength, 1) := by decide +kernel
theorem dX5_takeLoudWithout_8 : decode cX5_takeLoudWithout 8 = .ok (.invokevirtual 25, 3) := by decide +kernel
theorem dX5_takeLoudWithout_11 : decode cX5_takeLoudWithout 11 = .ok (.return_, 1) := by decide +kernel
theorem dX5_value_0 : decode cX5_value 0 = .ok (.iconst 0, 1) := by decide +kernel
theorem dX5_value_1 : decode cX5_value 1 = .ok (.istore_n 2, 1) := by decide +kernel
theorem dX5_value_2 : decode cX5_value 2 = .ok (.iconst 0, 1) := by decide +kernel
theorem dX5_value_3 : decode cX5_value 3 = .ok (.istore_n 3, 1) := by decide +kernel
theorem dX5_value_4 : decode cX5_value 4 = .ok (.iload_n 3, 1) := by decide +kernel
theorem dX5_value_5 : decode cX5_value 5 = .ok (.aload_n 0, 1) := by decide +kernel
theorem dX5_value_6 : decode cX5_value 6 = .ok (.getfield 15, 3) := by decide +kernel
theorem dX5_value_9 : decode cX5_value 9 = .ok (.if_icmp .ge 110, 3) := by decide +kernel
theorem dX5_value_12 : decode cX5_value 12 = .ok (.aload_n 0, 1) := by decide +kernel
theorem dX5_value_13 : decode cX5_value 13 = .ok (.getfield 9, 3) := by decide +kernel
theorem dX5_value_16 : decode cX5_value 16 = .ok (.iload_n 3, 1) := by decide +kernel
theorem dX5_value_17 : decode cX5_value 17 = .ok (.iaload, 1) := by decide +kernel
theorem dX5_value_18 : decode cX5_value 18 = .ok (.istore 4, 2) := by decide +kernel
theorem dX5_value_20 : decode cX5_value 20 = .ok (.iload 4, 2) := by decide +kernel
theorem dX5_value_22 : decode cX5_value 22 = .ok (.sipush 2000, 3) := by decide +kernel
theorem dX5_value_25 : decode cX5_value 25 = .ok (.if_icmp .lt 41, 3) := by decide +kernel
theorem dX5_value_28 : decode cX5_value 28 = .ok (.iload_n 2, 1) := by decide +kernel
theorem dX5_value_29 : decode cX5_value 29 = .ok (.iconst 2, 1) := by decide +kernel
theorem dX5_value_30 : decode cX5_value 30 = .ok (.if_icmp .lt 83, 3) := by decide +kernel
theorem dX5_value_33 : decode cX5_value 33 = .ok (.iinc 2 (-1), 3) := by decide +kernel
theorem dX5_value_36 : decode cX5_value 36 = .ok (.aload_n 0, 1) := by decide +kernel
theorem dX5_value_37 : decode cX5_value 37 = .ok (.getfield 19, 3) := by decide +kernel
theorem dX5_value_40 : decode cX5_value 40 = .ok (.iload_n 2, 1) := by decide +kernel
theorem dX5_value_41 : decode cX5_value 41 = .ok (.iconst 1, 1) := by decide +kernel
theorem dX5_value_42 : decode cX5_value 42 = .ok (.isub, 1) := by decide +kernel
theorem dX5_value_43 : decode cX5_value 43 = .ok (.iload 4, 2) := by decide +kernel
theorem dX5_value_45 : decode cX5_value 45 = .ok (.aload_n 0, 1) := by decide +kernel
theorem dX5_value_46 : decode cX5_value 46 = .ok (.getfield 19, 3) := by decide +kernel
theorem dX5_value_49 : decode cX5_value 49 = .ok (.iload_n 2, 1) := by decide +kernel
theorem dX5_value_50 : decode cX5_value 50 = .ok (.iconst 1, 1) := by decide +kernel
theorem dX5_value_51 : decode cX5_value 51 = .ok (.isub, 1) := by decide +kernel
theorem dX5_value_52 : decode cX5_value 52 = .ok (.iaload, 1) := by decide +kernel
theorem dX5_value_53 : decode cX5_value 53 = .ok (.aload_n 0, 1) := by decide +kernel
theorem dX5_value_54 : decode cX5_value 54 = .ok (.getfield 19, 3) := by decide +kernel
theorem dX5_value_57 : decode cX5_value 57 = .ok (.iload_n 2, 1) := by decide +kernel
theorem dX5_value_58 : decode cX5_value 58 = .ok (.iaload, 1) := by decide +kernel
theorem dX5_value_59 : decode cX5_value 59 = .ok (.invokestatic 92, 3) := by decide +kernel
theorem dX5_value_62 : decode cX5_value 62 = .ok (.iastore, 1) := by decide +kernel
theorem dX5_value_63 : decode cX5_value 63 = .ok (.goto 50, 3) := by decide +kernel
theorem dX5_value_66 : decode cX5_value 66 = .ok (.iload_n 2, 1) := by decide +kernel
theorem dX5_value_67 : decode cX5_value 67 = .ok (.aload_n 0, 1) := by decide +kernel
theorem dX5_value_68 : decode cX5_value 68 = .ok (.getfield 19, 3) := by decide +kernel
theorem dX5_value_71 : decode cX5_value 71 = .ok (.arraylength, 1) := by decide +kernel
theorem dX5_value_72 : decode cX5_value 72 = .ok (.if_icmp .ge 41, 3) := by decide +kernel
theorem dX5_value_75 : decode cX5_value 75 = .ok (.iload 4, 2) := by decide +kernel
theorem dX5_value_77 : decode cX5_value 77 = .ok (.sipush 1000, 3) := by decide +kernel
theorem dX5_value_80 : decode cX5_value 80 = .ok (.isub, 1) := by decide +kernel
theorem dX5_value_81 : decode cX5_value 81 = .ok (.istore 5, 2) := by decide +kernel
theorem dX5_value_83 : decode cX5_value 83 = .ok (.aload_n 0, 1) := by decide +kernel
theorem dX5_value_84 : decode cX5_value 84 = .ok (.getfield 19, 3) := by decide +kernel
theorem dX5_value_87 : decode cX5_value 87 = .ok (.iload_n 2, 1) := by decide +kernel
theorem dX5_value_88 : decode cX5_value 88 = .ok (.iload 5, 2) := by decide +kernel
theorem dX5_value_90 : decode cX5_value 90 = .ok (.ifCond .lt 17, 3) := by decide +kernel
theorem dX5_value_93 : decode cX5_value 93 = .ok (.iload 5, 2) := by decide +kernel
theorem dX5_value_95 : decode cX5_value 95 = .ok (.aload_n 1, 1) := by decide +kernel
theorem dX5_value_96 : decode cX5_value 96 = .ok (.arraylength, 1) := by decide +kernel
theorem dX5_value_97 : decode cX5_value 97 = .ok (.if_icmp .ge 10, 3) := by decide +kernel
theorem dX5_value_100 : decode cX5_value 100 = .ok (.aload_n 1, 1) := by decide +kernel
theorem dX5_value_101 : decode cX5_value 101 = .ok (.iload 5, 2) := by decide +kernel
theorem dX5_value_103 : decode cX5_value 103 = .ok (.iaload, 1) := by decide +kernel
theorem dX5_value_104 : decode cX5_value 104 = .ok (.goto 5, 3) := by decide +kernel
theorem dX5_value_107 : decode cX5_value 107 = .ok (.iload 4, 2) := by decide +kernel
theorem dX5_value_109 : decode cX5_value 109 = .ok (.iastore, 1) := by decide +kernel
theorem dX5_value_110 : decode cX5_value 110 = .ok (.iinc 2 1, 3) := by decide +kernel
theorem dX5_value_113 : decode cX5_value 113 = .ok (.iinc 3 1, 3) := by decide +kernel
theorem dX5_value_116 : decode cX5_value 116 = .ok (.goto (-112), 3) := by decide +kernel
theorem dX5_value_119 : decode cX5_value 119 = .ok (.iload_n 2, 1) := by decide +kernel
theorem dX5_value_120 : decode cX5_value 120 = .ok (.ifCond .le 12, 3) := by decide +kernel
theorem dX5_value_123 : decode cX5_value 123 = .ok (.aload_n 0, 1) := by decide +kernel
theorem dX5_value_124 : decode cX5_value 124 = .ok (.getfield 19, 3) := by decide +kernel
theorem dX5_value_127 : decode cX5_value 127 = .ok (.iconst 0, 1) := by decide +kernel
theorem dX5_value_128 : decode cX5_value 128 = .ok (.iaload, 1) := by decide +kernel
theorem dX5_value_129 : decode cX5_value 129 = .ok (.goto 4, 3) := by decide +kernel
theorem dX5_value_132 : decode cX5_value 132 = .ok (.iconst 0, 1) := by decide +kernel
theorem dX5_value_133 : decode cX5_value 133 = .ok (.ireturn, 1) := by decide +kernel
theorem dX6_asleepCount_0 : decode cX6_asleepCount 0 = .ok (.iconst 0, 1) := by decide +kernel
theorem dX6_asleepCount_1 : decode cX6_asleepCount 1 = .ok (.istore_n 1, 1) := by decide +kernel
theorem dX6_asleepCount_2 : decode cX6_asleepCount 2 = .ok (.iconst 0, 1) := by decide +kernel
theorem dX6_asleepCount_3 : decode cX6_asleepCount 3 = .ok (.istore_n 2, 1) := by decide +kernel
theorem dX6_asleepCount_4 : decode cX6_asleepCount 4 = .ok (.iload_n 2, 1) := by decide +kernel
theorem dX6_asleepCount_5 : decode cX6_asleepCount 5 = .ok (.aload_n 0, 1) := by decide +kernel
theorem dX6_asleepCount_6 : decode cX6_asleepCount 6 = .ok (.getfield 36, 3) := by decide +kernel
theorem dX6_asleepCount_9 : decode cX6_asleepCount 9 = .ok (.getfield 44, 3) := by decide +kernel
theorem dX6_asleepCount_12 : decode cX6_asleepCount 12 = .ok (.if_icmp .ge 25, 3) := by decide +kernel
theorem dX6_asleepCount_15 : decode cX6_asleepCount 15 = .ok (.iload_n 1, 1) := by decide +kernel
theorem dX6_asleepCount_16 : decode cX6_asleepCount 16 = .ok (.aload_n 0, 1) := by decide +kernel
theorem dX6_asleepCount_17 : decode cX6_asleepCount 17 = .ok (.iload_n 2, 1) := by decide +kernel
theorem dX6_asleepCount_18 : decode cX6_asleepCount 18 = .ok (.invokevirtual 67, 3) := by decide +kernel
theorem dX6_asleepCount_21 : decode cX6_asleepCount 21 = .ok (.ifCond .eq 7, 3) := by decide +kernel
theorem dX6_asleepCount_24 : decode cX6_asleepCount 24 = .ok (.iconst 1, 1) := by decide +kernel
theorem dX6_asleepCount_25 : decode cX6_asleepCount 25 = .ok (.goto 4, 3) := by decide +kernel
theorem dX6_asleepCount_28 : decode cX6_asleepCount 28 = .ok (.iconst 0, 1) := by decide +kernel
theorem dX6_asleepCount_29 : decode cX6_asleepCount 29 = .ok (.iadd, 1) := by decide +kernel
theorem dX6_asleepCount_30 : decode cX6_asleepCount 30 = .ok (.istore_n 1, 1) := by decide +kernel
theorem dX6_asleepCount_31 : decode cX6_asleepCount 31 = .ok (.iinc 2 1, 3) := by decide +kernel
theorem dX6_asleepCount_34 : decode cX6_asleepCount 34 = .ok (.goto (-30), 3) := by decide +kernel
theorem dX6_asleepCount_37 : decode cX6_asleepCount 37 = .ok (.iload_n 1, 1) := by decide +kernel
theorem dX6_asleepCount_38 : decode cX6_asleepCount 38 = .ok (.ireturn, 1) := by decide +kernel
theorem dX6_begin_0 : decode cX6_begin 0 = .ok (.iconst 0, 1) := by decide +kernel
theorem dX6_begin_1 : decode cX6_begin 1 = .ok (.istore_n 1, 1) := by decide +kernel
theorem dX6_begin_2 : decode cX6_begin 2 = .ok (.iload_n 1, 1) := by decide +kernel
theorem dX6_begin_3 : decode cX6_begin 3 = .ok (.bipush 42, 2) := by decide +kernel
theorem dX6_begin_5 : decode cX6_begin 5 = .ok (.if_icmp .ge 16, 3) := by decide +kernel
theorem dX6_begin_8 : decode cX6_begin 8 = .ok (.aload_n 0, 1) := by decide +kernel
theorem dX6_begin_9 : decode cX6_begin 9 = .ok (.getfield 11, 3) := by decide +kernel
theorem dX6_begin_12 : decode cX6_begin 12 = .ok (.iload_n 1, 1) := by decide +kernel
theorem dX6_begin_13 : decode cX6_begin 13 = .ok (.iconst 0, 1) := by decide +kernel
theorem dX6_begin_14 : decode cX6_begin 14 = .ok (.iastore, 1) := by decide +kernel
theorem dX6_begin_15 : decode cX6_begin 15 = .ok (.iinc 1 1, 3) := by decide +kernel
theorem dX6_begin_18 : decode cX6_begin 18 = .ok (.goto (-16), 3) := by decide +kernel
theorem dX6_begin_21 : decode cX6_begin 21 = .ok (.iconst 0, 1) := by decide +kernel
theorem dX6_begin_22 : decode cX6_begin 22 = .ok (.istore_n 1, 1) := by decide +kernel
theorem dX6_begin_23 : decode cX6_begin 23 = .ok (.iload_n 1, 1) := by decide +kernel
theorem dX6_begin_24 : decode cX6_begin 24 = .ok (.aload_n 0, 1) := by decide +kernel
theorem dX6_begin_25 : decode cX6_begin 25 = .ok (.getfield 36, 3) := by decide +kernel
theorem dX6_begin_28 : decode cX6_begin 28 = .ok (.getfield 44, 3) := by decide +kernel
theorem dX6_begin_31 : decode cX6_begin 31 = .ok (.if_icmp .ge 61, 3) := by decide +kernel
theorem dX6_begin_34 : decode cX6_begin 34 = .ok (.aload_n 0, 1) := by decide +kernel
theorem dX6_begin_35 : decode cX6_begin 35 = .ok (.getfield 11, 3) := by decide +kernel
theorem dX6_begin_38 : decode cX6_begin 38 = .ok (.iconst 0, 1) := by decide +kernel
theorem dX6_begin_39 : decode cX6_begin 39 = .ok (.iload_n 1, 1) := by decide +kernel
theorem dX6_begin_40 : decode cX6_begin 40 = .ok (.iadd, 1) := by decide +kernel
theorem dX6_begin_41 : decode cX6_begin 41 = .ok (.aload_n 0, 1) := by decide +kernel
theorem dX6_begin_42 : decode cX6_begin 42 = .ok (.getfield 36, 3) := by decide +kernel
theorem dX6_begin_45 : decode cX6_begin 45 = .ok (.getfield 49, 3) := by decide +kernel
theorem dX6_begin_48 : decode cX6_begin 48 = .ok (.iload_n 1, 1) := by decide +kernel
theorem dX6_begin_49 : decode cX6_begin 49 = .ok (.iaload, 1) := by decide +kernel
theorem dX6_begin_50 : decode cX6_begin 50 = .ok (.iastore, 1) := by decide +kernel
theorem dX6_begin_51 : decode cX6_begin 51 = .ok (.aload_n 0, 1) := by decide +kernel
theorem dX6_begin_52 : decode cX6_begin 52 = .ok (.getfield 11, 3) := by decide +kernel
theorem dX6_begin_55 : decode cX6_begin 55 = .ok (.iconst 5, 1) := by decide +kernel
theorem dX6_begin_56 : decode cX6_begin 56 = .ok (.iload_n 1, 1) := by decide +kernel
theorem dX6_begin_57 : decode cX6_begin 57 = .ok (.iadd, 1) := by decide +kernel
theorem dX6_begin_58 : decode cX6_begin 58 = .ok (.aload_n 0, 1) := by decide +kernel
theorem dX6_begin_59 : decode cX6_begin 59 = .ok (.getfield 36, 3) := by decide +kernel
theorem dX6_begin_62 : decode cX6_begin 62 = .ok (.getfield 52, 3) := by decide +kernel
theorem dX6_begin_65 : decode cX6_begin 65 = .ok (.iload_n 1, 1) := by decide +kernel
theorem dX6_begin_66 : decode cX6_begin 66 = .ok (.iaload, 1) := by decide +kernel
theorem dX6_begin_67 : decode cX6_begin 67 = .ok (.iastore, 1) := by decide +kernel
theorem dX6_begin_68 : decode cX6_begin 68 = .ok (.aload_n 0, 1) := by decide +kernel
theorem dX6_begin_69 : decode cX6_begin 69 = .ok (.getfield 11, 3) := by decide +kernel
theorem dX6_begin_72 : decode cX6_begin 72 = .ok (.bipush 35, 2) := by decide +kernel
theorem dX6_begin_74 : decode cX6_begin 74 = .ok (.iload_n 1, 1) := by decide +kernel
theorem dX6_begin_75 : decode cX6_begin 75 = .ok (.iadd, 1) := by decide +kernel
theorem dX6_begin_76 : decode cX6_begin 76 = .ok (.aload_n 0, 1) := by decide +kernel
theorem dX6_begin_77 : decode cX6_begin 77 = .ok (.getfield 36, 3) := by decide +kernel
theorem dX6_begin_80 : decode cX6_begin 80 = .ok (.getfield 55, 3) := by decide +kernel
theorem dX6_begin_83 : decode cX6_begin 83 = .ok (.iload_n 1, 1) := by decide +kernel
theorem dX6_begin_84 : decode cX6_begin 84 = .ok (.iaload, 1) := by decide +kernel
theorem dX6_begin_85 : decode cX6_begin 85 = .ok (.iastore, 1) := by decide +kernel
theorem dX6_begin_86 : decode cX6_begin 86 = .ok (.iinc 1 1, 3) := by decide +kernel
theorem dX6_begin_89 : decode cX6_begin 89 = .ok (.goto (-66), 3) := by decide +kernel
theorem dX6_begin_92 : decode cX6_begin 92 = .ok (.aload_n 0, 1) := by decide +kernel
theorem dX6_begin_93 : decode cX6_begin 93 = .ok (.aload_n 0, 1) := by decide +kernel
theorem dX6_begin_94 : decode cX6_begin 94 = .ok (.getfield 36, 3) := by decide +kernel
theorem dX6_begin_97 : decode cX6_begin 97 = .ok (.getfield 58, 3) := by decide +kernel
theorem dX6_begin_100 : decode cX6_begin 100 = .ok (.putfield 29, 3) := by decide +kernel
theorem dX6_begin_103 : decode cX6_begin 103 = .ok (.return_, 1) := by decide +kernel
theorem dX6_bounded_0 : decode cX6_bounded 0 = .ok (.iconst 0, 1) := by decide +kernel
theorem dX6_bounded_1 : decode cX6_bounded 1 = .ok (.bipush 40, 2) := by decide +kernel
theorem dX6_bounded_3 : decode cX6_bounded 3 = .ok (.iload_n 0, 1) := by decide +kernel
theorem dX6_bounded_4 : decode cX6_bounded 4 = .ok (.invokestatic 83, 3) := by decide +kernel
theorem dX6_bounded_7 : decode cX6_bounded 7 = .ok (.invokestatic 89, 3) := by decide +kernel
theorem dX6_bounded_10 : decode cX6_bounded 10 = .ok (.ireturn, 1) := by decide +kernel
theorem dX6_call_0 : decode cX6_call 0 = .ok (.aload_n 0, 1) := by decide +kernel
theorem dX6_call_1 : decode cX6_call 1 = .ok (.iload_n 1, 1) := by decide +kernel
theorem dX6_call_2 : decode cX6_call 2 = .ok (.invokevirtual 67, 3) := by decide +kernel
theorem dX6_call_5 : decode cX6_call 5 = .ok (.ifCond .ne 5, 3) := by decide +kernel
theorem dX6_call_8 : decode cX6_call 8 = .ok (.iconst 0, 1) := by decide +kernel
theorem dX6_call_9 : decode cX6_call 9 = .ok (.ireturn, 1) := by decide +kernel
theorem dX6_call_10 : decode cX6_call 10 = .ok (.aload_n 0, 1) := by decide +kernel
theorem dX6_call_11 : decode cX6_call 11 = .ok (.iload_n 1, 1) := by decide +kernel
theorem dX6_call_12 : decode cX6_call 12 = .ok (.invokevirtual 125, 3) := by decide +kernel
theorem dX6_call_15 : decode cX6_call 15 = .ok (.iconst 1, 1) := by decide +kernel
theorem dX6_call_16 : decode cX6_call 16 = .ok (.ireturn, 1) := by decide +kernel
theorem dX6_fallOrStay_0 : decode cX6_fallOrStay 0 = .ok (.aload_n 0, 1) := by decide +kernel
theorem dX6_fallOrStay_1 : decode cX6_fallOrStay 1 = .ok (.getfield 11, 3) := by decide +kernel
theorem dX6_fallOrStay_4 : decode cX6_fallOrStay 4 = .ok (.bipush 40, 2) := by decide +kernel
theorem dX6_fallOrStay_6 : decode cX6_fallOrStay 6 = .ok (.iaload, 1) := by decide +kernel
theorem dX6_fallOrStay_7 : decode cX6_fallOrStay 7 = .ok (.aload_n 0, 1) := by decide +kernel
theorem dX6_fallOrStay_8 : decode cX6_fallOrStay 8 = .ok (.getfield 15, 3) := by decide +kernel
theorem dX6_fallOrStay_11 : decode cX6_fallOrStay 11 = .ok (.iload_n 1, 1) := by decide +kernel
theorem dX6_fallOrStay_12 : decode cX6_fallOrStay 12 = .ok (.iaload, 1) := by decide +kernel
theorem dX6_fallOrStay_13 : decode cX6_fallOrStay 13 = .ok (.if_icmp .lt 42, 3) := by decide +kernel
theorem dX6_fallOrStay_16 : decode cX6_fallOrStay 16 = .ok (.aload_n 0, 1) := by decide +kernel
theorem dX6_fallOrStay_17 : decode cX6_fallOrStay 17 = .ok (.iload_n 1, 1) := by decide +kernel
theorem dX6_fallOrStay_18 : decode cX6_fallOrStay 18 = .ok (.invokevirtual 122, 3) := by decide +kernel
theorem dX6_fallOrStay_21 : decode cX6_fallOrStay 21 = .ok (.ifCond .eq 34, 3) := by decide +kernel
theorem dX6_fallOrStay_24 : decode cX6_fallOrStay 24 = .ok (.aload_n 0, 1) := by decide +kernel
theorem dX6_fallOrStay_25 : decode cX6_fallOrStay 25 = .ok (.getfield 11, 3) := by decide +kernel
theorem dX6_fallOrStay_28 : decode cX6_fallOrStay 28 = .ok (.bipush 10, 2) := by decide +kernel
theorem dX6_fallOrStay_30 : decode cX6_fallOrStay 30 = .ok (.iload_n 1, 1) := by decide +kernel
theorem dX6_fallOrStay_31 : decode cX6_fallOrStay 31 = .ok (.iadd, 1) := by decide +kernel
theorem dX6_fallOrStay_32 : decode cX6_fallOrStay 32 = .ok (.iconst 1, 1) := by decide +kernel
theorem dX6_fallOrStay_33 : decode cX6_fallOrStay 33 = .ok (.iastore, 1) := by decide +kernel
theorem dX6_fallOrStay_34 : decode cX6_fallOrStay 34 = .ok (.aload_n 0, 1) := by decide +kernel
theorem dX6_fallOrStay_35 : decode cX6_fallOrStay 35 = .ok (.getfield 11, 3) := by decide +kernel
theorem dX6_fallOrStay_38 : decode cX6_fallOrStay 38 = .ok (.bipush 20, 2) := by decide +kernel
theorem dX6_fallOrStay_40 : decode cX6_fallOrStay 40 = .ok (.iload_n 1, 1) := by decide +kernel
theorem dX6_fallOrStay_41 : decode cX6_fallOrStay 41 = .ok (.iadd, 1) := by decide +kernel
theorem dX6_fallOrStay_42 : decode cX6_fallOrStay 42 = .ok (.iconst 0, 1) := by decide +kernel
theorem dX6_fallOrStay_43 : decode cX6_fallOrStay 43 = .ok (.iastore, 1) := by decide +kernel
theorem dX6_fallOrStay_44 : decode cX6_fallOrStay 44 = .ok (.aload_n 0, 1) := by decide +kernel
theorem dX6_fallOrStay_45 : decode cX6_fallOrStay 45 = .ok (.getfield 11, 3) := by decide +kernel
theorem dX6_fallOrStay_48 : decode cX6_fallOrStay 48 = .ok (.bipush 30, 2) := by decide +kernel
theorem dX6_fallOrStay_50 : decode cX6_fallOrStay 50 = .ok (.iload_n 1, 1) := by decide +kernel
theorem dX6_fallOrStay_51 : decode cX6_fallOrStay 51 = .ok (.iadd, 1) := by decide +kernel
theorem dX6_fallOrStay_52 : decode cX6_fallOrStay 52 = .ok (.iconst 0, 1) := by decide +kernel
theorem dX6_fallOrStay_53 : decode cX6_fallOrStay 53 = .ok (.iastore, 1) := by decide +kernel
theorem dX6_fallOrStay_54 : decode cX6_fallOrStay 54 = .ok (.return_, 1) := by decide +kernel
theorem dX6_fallOrStay_55 : decode cX6_fallOrStay 55 = .ok (.aload_n 0, 1) := by decide +kernel
theorem dX6_fallOrStay_56 : decode cX6_fallOrStay 56 = .ok (.getfield 11, 3) := by decide +kernel
theorem dX6_fallOrStay_59 : decode cX6_fallOrStay 59 = .ok (.iconst 0, 1) := by decide +kernel
theorem dX6_fallOrStay_60 : decode cX6_fallOrStay 60 = .ok (.iload_n 1, 1) := by decide +kernel
theorem dX6_fallOrStay_61 : decode cX6_fallOrStay 61 = .ok (.iadd, 1) := by decide +kernel
theorem dX6_fallOrStay_62 : decode cX6_fallOrStay 62 = .ok (.bipush 99, 2) := by decide +kernel
theorem dX6_fallOrStay_64 : decode cX6_fallOrStay 64 = .ok (.aload_n 0, 1) := by decide +kernel
theorem dX6_fallOrStay_65 : decode cX6_fallOrStay 65 = .ok (.getfield 11, 3) := by decide +kernel
theorem dX6_fallOrStay_68 : decode cX6_fallOrStay 68 = .ok (.iconst 0, 1) := by decide +kernel
theorem dX6_fallOrStay_69 : decode cX6_fallOrStay 69 = .ok (.iload_n 1, 1) := by decide +kernel
theorem dX6_fallOrStay_70 : decode cX6_fallOrStay 70 = .ok (.iadd, 1) := by decide +kernel
theorem dX6_fallOrStay_71 : decode cX6_fallOrStay 71 = .ok (.iaload, 1) := by decide +kernel
theorem dX6_fallOrStay_72 : decode cX6_fallOrStay 72 = .ok (.iconst 1, 1) := by decide +kernel
theorem dX6_fallOrStay_73 : decode cX6_fallOrStay 73 = .ok (.iadd, 1) := by decide +kernel
theorem dX6_fallOrStay_74 : decode cX6_fallOrStay 74 = .ok (.invokestatic 83, 3) := by decide +kernel
theorem dX6_fallOrStay_77 : decode cX6_fallOrStay 77 = .ok (.iastore, 1) := by decide +kernel
theorem dX6_fallOrStay_78 : decode cX6_fallOrStay 78 = .ok (.aload_n 0, 1) := by decide +kernel
theorem dX6_fallOrStay_79 : decode cX6_fallOrStay 79 = .ok (.getfield 11, 3) := by decide +kernel
theorem dX6_fallOrStay_82 : decode cX6_fallOrStay 82 = .ok (.bipush 30, 2) := by decide +kernel
theorem dX6_fallOrStay_84 : decode cX6_fallOrStay 84 = .ok (.iload_n 1, 1) := by decide +kernel
theorem dX6_fallOrStay_85 : decode cX6_fallOrStay 85 = .ok (.iadd, 1) := by decide +kernel
theorem dX6_fallOrStay_86 : decode cX6_fallOrStay 86 = .ok (.dup2, 1) := by decide +kernel
theorem dX6_fallOrStay_87 : decode cX6_fallOrStay 87 = .ok (.iaload, 1) := by decide +kernel
theorem dX6_fallOrStay_88 : decode cX6_fallOrStay 88 = .ok (.iconst 1, 1) := by decide +kernel
theorem dX6_fallOrStay_89 : decode cX6_fallOrStay 89 = .ok (.iadd, 1) := by decide +kernel
theorem dX6_fallOrStay_90 : decode cX6_fallOrStay 90 = .ok (.iastore, 1) := by decide +kernel
theorem dX6_fallOrStay_91 : decode cX6_fallOrStay 91 = .ok (.return_, 1) := by decide +kernel
theorem dX6_falls_0 : decode cX6_falls 0 = .ok (.aload_n 0, 1) := by decide +kernel
theorem dX6_falls_1 : decode cX6_falls 1 = .ok (.iload_n 1, 1) := by decide +kernel
theorem dX6_falls_2 : decode cX6_falls 2 = .ok (.invokevirtual 71, 3) := by decide +kernel
theorem dX6_falls_5 : decode cX6_falls 5 = .ok (.aload_n 0, 1) := by decide +kernel
theorem dX6_falls_6 : decode cX6_falls 6 = .ok (.getfield 26, 3) := by decide +kernel
theorem dX6_falls_9 : decode cX6_falls 9 = .ok (.iconst 3, 1) := by decide +kernel
theorem dX6_falls_10 : decode cX6_falls 10 = .ok (.iconst 0, 1) := by decide +kernel
theorem dX6_falls_11 : decode cX6_falls 11 = .ok (.iastore, 1) := by decide +kernel
theorem dX6_falls_12 : decode cX6_falls 12 = .ok (.aload_n 0, 1) := by decide +kernel
theorem dX6_falls_13 : decode cX6_falls 13 = .ok (.getfield 26, 3) := by decide +kernel
theorem dX6_falls_16 : decode cX6_falls 16 = .ok (.iconst 4, 1) := by decide +kernel
theorem dX6_falls_17 : decode cX6_falls 17 = .ok (.aload_n 0, 1) := by decide +kernel
theorem dX6_falls_18 : decode cX6_falls 18 = .ok (.getfield 11, 3) := by decide +kernel
theorem dX6_falls_21 : decode cX6_falls 21 = .ok (.iconst 0, 1) := by decide +kernel
theorem dX6_falls_22 : decode cX6_falls 22 = .ok (.iload_n 1, 1) := by decide +kernel
theorem dX6_falls_23 : decode cX6_falls 23 = .ok (.iadd, 1) := by decide +kernel
theorem dX6_falls_24 : decode cX6_falls 24 = .ok (.iaload, 1) := by decide +kernel
theorem dX6_falls_25 : decode cX6_falls 25 = .ok (.iastore, 1) := by decide +kernel
theorem dX6_falls_26 : decode cX6_falls 26 = .ok (.aload_n 0, 1) := by decide +kernel
theorem dX6_falls_27 : decode cX6_falls 27 = .ok (.getfield 26, 3) := by decide +kernel
theorem dX6_falls_30 : decode cX6_falls 30 = .ok (.iconst 5, 1) := by decide +kernel
theorem dX6_falls_31 : decode cX6_falls 31 = .ok (.aload_n 0, 1) := by decide +kernel
theorem dX6_falls_32 : decode cX6_falls 32 = .ok (.getfield 21, 3) := by decide +kernel
theorem dX6_falls_35 : decode cX6_falls 35 = .ok (.iload_n 1, 1) := by decide +kernel
theorem dX6_falls_36 : decode cX6_falls 36 = .ok (.iaload, 1) := by decide +kernel
theorem dX6_falls_37 : decode cX6_falls 37 = .ok (.iastore, 1) := by decide +kernel
theorem dX6_falls_38 : decode cX6_falls 38 = .ok (.aload_n 0, 1) := by decide +kernel
theorem dX6_falls_39 : decode cX6_falls 39 = .ok (.getfield 26, 3) := by decide +kernel
theorem dX6_falls_42 : decode cX6_falls 42 = .ok (.bipush 7, 2) := by decide +kernel
theorem dX6_falls_44 : decode cX6_falls 44 = .ok (.aload_n 0, 1) := by decide +kernel
theorem dX6_falls_45 : decode cX6_falls 45 = .ok (.getfield 11, 3) := by decide +kernel
theorem dX6_falls_48 : decode cX6_falls 48 = .ok (.bipush 40, 2) := by decide +kernel
theorem dX6_falls_50 : decode cX6_falls 50 = .ok (.iaload, 1) := by decide +kernel
theorem dX6_falls_51 : decode cX6_falls 51 = .ok (.iastore, 1) := by decide +kernel
theorem dX6_falls_52 : decode cX6_falls 52 = .ok (.aload_n 0, 1) := by decide +kernel
theorem dX6_falls_53 : decode cX6_falls 53 = .ok (.getfield 26, 3) := by decide +kernel
theorem dX6_falls_56 : decode cX6_falls 56 = .ok (.bipush 8, 2) := by decide +kernel
theorem dX6_falls_58 : decode cX6_falls 58 = .ok (.aload_n 0, 1) := by decide +kernel
theorem dX6_falls_59 : decode cX6_falls 59 = .ok (.getfield 11, 3) := by decide +kernel
theorem dX6_falls_62 : decode cX6_falls 62 = .ok (.bipush 30, 2) := by decide +kernel
theorem dX6_falls_64 : decode cX6_falls 64 = .ok (.iload_n 1, 1) := by decide +kernel
theorem dX6_falls_65 : decode cX6_falls 65 = .ok (.iadd, 1) := by decide +kernel
theorem dX6_falls_66 : decode cX6_falls 66 = .ok (.iaload, 1) := by decide +kernel
theorem dX6_falls_67 : decode cX6_falls 67 = .ok (.iastore, 1) := by decide +kernel
theorem dX6_falls_68 : decode cX6_falls 68 = .ok (.aload_n 0, 1) := by decide +kernel
theorem dX6_falls_69 : decode cX6_falls 69 = .ok (.getfield 40, 3) := by decide +kernel
theorem dX6_falls_72 : decode cX6_falls 72 = .ok (.iconst 1, 1) := by decide +kernel
theorem dX6_falls_73 : decode cX6_falls 73 = .ok (.aaload, 1) := by decide +kernel
theorem dX6_falls_74 : decode cX6_falls 74 = .ok (.aload_n 0, 1) := by decide +kernel
theorem dX6_falls_75 : decode cX6_falls 75 = .ok (.getfield 26, 3) := by decide +kernel
theorem dX6_falls_78 : decode cX6_falls 78 = .ok (.invokevirtual 75, 3) := by decide +kernel
theorem dX6_falls_81 : decode cX6_falls 81 = .ok (.ifCond .le 7, 3) := by decide +kernel
theorem dX6_falls_84 : decode cX6_falls 84 = .ok (.iconst 1, 1) := by decide +kernel
theorem dX6_falls_85 : decode cX6_falls 85 = .ok (.goto 4, 3) := by decide +kernel
theorem dX6_falls_88 : decode cX6_falls 88 = .ok (.iconst 0, 1) := by decide +kernel
theorem dX6_falls_89 : decode cX6_falls 89 = .ok (.ireturn, 1) := by decide +kernel
theorem dX6_follow_0 : decode cX6_follow 0 = .ok (.aload_n 1, 1) := by decide +kernel
theorem dX6_follow_1 : decode cX6_follow 1 = .ok (.getfield 11, 3) := by decide +kernel
theorem dX6_follow_4 : decode cX6_follow 4 = .ok (.iconst 0, 1) := by decide +kernel
theorem dX6_follow_5 : decode cX6_follow 5 = .ok (.aload_n 0, 1) := by decide +kernel
theorem dX6_follow_6 : decode cX6_follow 6 = .ok (.getfield 11, 3) := by decide +kernel
theorem dX6_follow_9 : decode cX6_follow 9 = .ok (.iconst 0, 1) := by decide +kernel
theorem dX6_follow_10 : decode cX6_follow 10 = .ok (.bipush 42, 2) := by decide +kernel
theorem dX6_follow_12 : decode cX6_follow 12 = .ok (.invokestatic 61, 3) := by decide +kernel
theorem dX6_follow_15 : decode cX6_follow 15 = .ok (.iconst 0, 1) := by decide +kernel
theorem dX6_follow_16 : decode cX6_follow 16 = .ok (.istore_n 2, 1) := by decide +kernel
theorem dX6_follow_17 : decode cX6_follow 17 = .ok (.iload_n 2, 1) := by decide +kernel
theorem dX6_follow_18 : decode cX6_follow 18 = .ok (.iconst 5, 1) := by decide +kernel
theorem dX6_follow_19 : decode cX6_follow 19 = .ok (.if_icmp .ge 16, 3) := by decide +kernel
theorem dX6_follow_22 : decode cX6_follow 22 = .ok (.aload_n 0, 1) := by decide +kernel
theorem dX6_follow_23 : decode cX6_follow 23 = .ok (.getfield 15, 3) := by decide +kernel
theorem dX6_follow_26 : decode cX6_follow 26 = .ok (.iload_n 2, 1) := by decide +kernel
theorem dX6_follow_27 : decode cX6_follow 27 = .ok (.iconst 0, 1) := by decide +kernel
theorem dX6_follow_28 : decode cX6_follow 28 = .ok (.iastore, 1) := by decide +kernel
theorem dX6_follow_29 : decode cX6_follow 29 = .ok (.iinc 2 1, 3) := by decide +kernel
theorem dX6_follow_32 : decode cX6_follow 32 = .ok (.goto (-15), 3) := by decide +kernel
theorem dX6_follow_35 : decode cX6_follow 35 = .ok (.aload_n 0, 1) := by decide +kernel
theorem dX6_follow_36 : decode cX6_follow 36 = .ok (.aload_n 0, 1) := by decide +kernel
theorem dX6_follow_37 : decode cX6_follow 37 = .ok (.getfield 36, 3) := by decide +kernel
theorem dX6_follow_40 : decode cX6_follow 40 = .ok (.getfield 58, 3) := by decide +kernel
theorem dX6_follow_43 : decode cX6_follow 43 = .ok (.putfield 29, 3) := by decide +kernel
theorem dX6_follow_46 : decode cX6_follow 46 = .ok (.aload_n 0, 1) := by decide +kernel
theorem dX6_follow_47 : decode cX6_follow 47 = .ok (.iconst 0, 1) := by decide +kernel
theorem dX6_follow_48 : decode cX6_follow 48 = .ok (.putfield 33, 3) := by decide +kernel
theorem dX6_follow_51 : decode cX6_follow 51 = .ok (.return_, 1) := by decide +kernel
theorem dX6_giveTold_0 : decode cX6_giveTold 0 = .ok (.aload_n 0, 1) := by decide +kernel
theorem dX6_giveTold_1 : decode cX6_giveTold 1 = .ok (.getfield 26, 3) := by decide +kernel
theorem dX6_giveTold_4 : decode cX6_giveTold 4 = .ok (.iconst 0, 1) := by decide +kernel
theorem dX6_giveTold_5 : decode cX6_giveTold 5 = .ok (.aload_n 0, 1) := by decide +kernel
theorem dX6_giveTold_6 : decode cX6_giveTold 6 = .ok (.getfield 36, 3) := by decide +kernel
theorem dX6_giveTold_9 : decode cX6_giveTold 9 = .ok (.getfield 92, 3) := by decide +kernel
theorem dX6_giveTold_12 : decode cX6_giveTold 12 = .ok (.iload_n 1, 1) := by decide +kernel
theorem dX6_giveTold_13 : decode cX6_giveTold 13 = .ok (.iaload, 1) := by decide +kernel
theorem dX6_giveTold_14 : decode cX6_giveTold 14 = .ok (.iastore, 1) := by decide +kernel
theorem dX6_giveTold_15 : decode cX6_giveTold 15 = .ok (.aload_n 0, 1) := by decide +kernel
theorem dX6_giveTold_16 : decode cX6_giveTold 16 = .ok (.getfield 26, 3) := by decide +kernel
theorem dX6_giveTold_19 : decode cX6_giveTold 19 = .ok (.iconst 1, 1) := by decide +kernel
theorem dX6_giveTold_20 : decode cX6_giveTold 20 = .ok (.aload_n 0, 1) := by decide +kernel
theorem dX6_giveTold_21 : decode cX6_giveTold 21 = .ok (.getfield 36, 3) := by decide +kernel
theorem dX6_giveTold_24 : decode cX6_giveTold 24 = .ok (.getfield 95, 3) := by decide +kernel
theorem dX6_giveTold_27 : decode cX6_giveTold 27 = .ok (.iload_n 1, 1) := by decide +kernel
theorem dX6_giveTold_28 : decode cX6_giveTold 28 = .ok (.iaload, 1) := by decide +kernel
theorem dX6_giveTold_29 : decode cX6_giveTold 29 = .ok (.iastore, 1) := by decide +kernel
theorem dX6_giveTold_30 : decode cX6_giveTold 30 = .ok (.aload_n 0, 1) := by decide +kernel
theorem dX6_giveTold_31 : decode cX6_giveTold 31 = .ok (.getfield 26, 3) := by decide +kernel
theorem dX6_giveTold_34 : decode cX6_giveTold 34 = .ok (.iconst 2, 1) := by decide +kernel
theorem dX6_giveTold_35 : decode cX6_giveTold 35 = .ok (.aload_n 0, 1) := by decide +kernel
theorem dX6_giveTold_36 : decode cX6_giveTold 36 = .ok (.getfield 36, 3) := by decide +kernel
theorem dX6_giveTold_39 : decode cX6_giveTold 39 = .ok (.getfield 98, 3) := by decide +kernel
theorem dX6_giveTold_42 : decode cX6_giveTold 42 = .ok (.iload_n 1, 1) := by decide +kernel
theorem dX6_giveTold_43 : decode cX6_giveTold 43 = .ok (.iaload, 1) := by decide +kernel
theorem dX6_giveTold_44 : decode cX6_giveTold 44 = .ok (.iastore, 1) := by decide +kernel
theorem dX6_giveTold_45 : decode cX6_giveTold 45 = .ok (.aload_n 0, 1) := by decide +kernel
theorem dX6_giveTold_46 : decode cX6_giveTold 46 = .ok (.getfield 26, 3) := by decide +kernel
theorem dX6_giveTold_49 : decode cX6_giveTold 49 = .ok (.bipush 6, 2) := by decide +kernel
theorem dX6_giveTold_51 : decode cX6_giveTold 51 = .ok (.aload_n 0, 1) := by decide +kernel
theorem dX6_giveTold_52 : decode cX6_giveTold 52 = .ok (.getfield 36, 3) := by decide +kernel
theorem dX6_giveTold_55 : decode cX6_giveTold 55 = .ok (.getfield 101, 3) := by decide +kernel
theorem dX6_giveTold_58 : decode cX6_giveTold 58 = .ok (.iload_n 1, 1) := by decide +kernel
theorem dX6_giveTold_59 : decode cX6_giveTold 59 = .ok (.iaload, 1) := by decide +kernel
theorem dX6_giveTold_60 : decode cX6_giveTold 60 = .ok (.iastore, 1) := by decide +kernel
theorem dX6_giveTold_61 : decode cX6_giveTold 61 = .ok (.aload_n 0, 1) := by decide +kernel
theorem dX6_giveTold_62 : decode cX6_giveTold 62 = .ok (.getfield 26, 3) := by decide +kernel
theorem dX6_giveTold_65 : decode cX6_giveTold 65 = .ok (.iconst 5, 1) := by decide +kernel
theorem dX6_giveTold_66 : decode cX6_giveTold 66 = .ok (.iconst 0, 1) := by decide +kernel
theorem dX6_giveTold_67 : decode cX6_giveTold 67 = .ok (.iastore, 1) := by decide +kernel
theorem dX6_giveTold_68 : decode cX6_giveTold 68 = .ok (.aload_n 0, 1) := by decide +kernel
theorem dX6_giveTold_69 : decode cX6_giveTold 69 = .ok (.getfield 26, 3) := by decide +kernel
theorem dX6_giveTold_72 : decode cX6_giveTold 72 = .ok (.bipush 8, 2) := by decide +kernel
theorem dX6_giveTold_74 : decode cX6_giveTold 74 = .ok (.iconst 0, 1) := by decide +kernel
theorem dX6_giveTold_75 : decode cX6_giveTold 75 = .ok (.iastore, 1) := by decide +kernel
theorem dX6_giveTold_76 : decode cX6_giveTold 76 = .ok (.return_, 1) := by decide +kernel
theorem dX6_hearAll_0 : decode cX6_hearAll 0 = .ok (.iconst 0, 1) := by decide +kernel
theorem dX6_hearAll_1 : decode cX6_hearAll 1 = .ok (.istore_n 2, 1) := by decide +kernel
theorem dX6_hearAll_2 : decode cX6_hearAll 2 = .ok (.iload_n 2, 1) := by decide +kernel
theorem dX6_hearAll_3 : decode cX6_hearAll 3 = .ok (.aload_n 0, 1) := by decide +kernel
theorem dX6_hearAll_4 : decode cX6_hearAll 4 = .ok (.getfield 36, 3) := by decide +kernel
theorem dX6_hearAll_7 : decode cX6_hearAll 7 = .ok (.getfield 44, 3) := by decide +kernel
theorem dX6_hearAll_10 : decode cX6_hearAll 10 = .ok (.if_icmp .ge 44, 3) := by decide +kernel
theorem dX6_hearAll_13 : decode cX6_hearAll 13 = .ok (.aload_n 0, 1) := by decide +kernel
theorem dX6_hearAll_14 : decode cX6_hearAll 14 = .ok (.getfield 18, 3) := by decide +kernel
theorem dX6_hearAll_17 : decode cX6_hearAll 17 = .ok (.iload_n 2, 1) := by decide +kernel
theorem dX6_hearAll_18 : decode cX6_hearAll 18 = .ok (.aload_n 0, 1) := by decide +kernel
theorem dX6_hearAll_19 : decode cX6_hearAll 19 = .ok (.iload_n 2, 1) := by decide +kernel
theorem dX6_hearAll_20 : decode cX6_hearAll 20 = .ok (.invokevirtual 67, 3) := by decide +kernel
theorem dX6_hearAll_23 : decode cX6_hearAll 23 = .ok (.ifCond .eq 23, 3) := by decide +kernel
theorem dX6_hearAll_26 : decode cX6_hearAll 26 = .ok (.aload_n 0, 1) := by decide +kernel
theorem dX6_hearAll_27 : decode cX6_hearAll 27 = .ok (.getfield 11, 3) := by decide +kernel
theorem dX6_hearAll_30 : decode cX6_hearAll 30 = .ok (.bipush 15, 2) := by decide +kernel
theorem dX6_hearAll_32 : decode cX6_hearAll 32 = .ok (.iload_n 2, 1) := by decide +kernel
theorem dX6_hearAll_33 : decode cX6_hearAll 33 = .ok (.iadd, 1) := by decide +kernel
theorem dX6_hearAll_34 : decode cX6_hearAll 34 = .ok (.iaload, 1) := by decide +kernel
theorem dX6_hearAll_35 : decode cX6_hearAll 35 = .ok (.ifCond .ne 11, 3) := by decide +kernel
theorem dX6_hearAll_38 : decode cX6_hearAll 38 = .ok (.aload_n 0, 1) := by decide +kernel
theorem dX6_hearAll_39 : decode cX6_hearAll 39 = .ok (.iload_n 2, 1) := by decide +kernel
theorem dX6_hearAll_40 : decode cX6_hearAll 40 = .ok (.invokevirtual 104, 3) := by decide +kernel
theorem dX6_hearAll_43 : decode cX6_hearAll 43 = .ok (.goto 4, 3) := by decide +kernel
theorem dX6_hearAll_46 : decode cX6_hearAll 46 = .ok (.iconst 0, 1) := by decide +kernel
theorem dX6_hearAll_47 : decode cX6_hearAll 47 = .ok (.iastore, 1) := by decide +kernel
theorem dX6_hearAll_48 : decode cX6_hearAll 48 = .ok (.iinc 2 1, 3) := by decide +kernel
theorem dX6_hearAll_51 : decode cX6_hearAll 51 = .ok (.goto (-49), 3) := by decide +kernel
theorem dX6_hearAll_54 : decode cX6_hearAll 54 = .ok (.aload_n 0, 1) := by decide +kernel
theorem dX6_hearAll_55 : decode cX6_hearAll 55 = .ok (.getfield 36, 3) := by decide +kernel
theorem dX6_hearAll_58 : decode cX6_hearAll 58 = .ok (.aload_n 0, 1) := by decide +kernel
theorem dX6_hearAll_59 : decode cX6_hearAll 59 = .ok (.getfield 11, 3) := by decide +kernel
theorem dX6_hearAll_62 : decode cX6_hearAll 62 = .ok (.bipush 40, 2) := by decide +kernel
theorem dX6_hearAll_64 : decode cX6_hearAll 64 = .ok (.iaload, 1) := by decide +kernel
theorem dX6_hearAll_65 : decode cX6_hearAll 65 = .ok (.invokevirtual 107, 3) := by decide +kernel
theorem dX6_hearAll_68 : decode cX6_hearAll 68 = .ok (.iload_n 1, 1) := by decide +kernel
theorem dX6_hearAll_69 : decode cX6_hearAll 69 = .ok (.iadd, 1) := by decide +kernel
theorem dX6_hearAll_70 : decode cX6_hearAll 70 = .ok (.istore_n 2, 1) := by decide +kernel
theorem dX6_hearAll_71 : decode cX6_hearAll 71 = .ok (.iconst 0, 1) := by decide +kernel
theorem dX6_hearAll_72 : decode cX6_hearAll 72 = .ok (.istore_n 3, 1) := by decide +kernel
theorem dX6_hearAll_73 : decode cX6_hearAll 73 = .ok (.iload_n 3, 1) := by decide +kernel
theorem dX6_hearAll_74 : decode cX6_hearAll 74 = .ok (.aload_n 0, 1) := by decide +kernel
theorem dX6_hearAll_75 : decode cX6_hearAll 75 = .ok (.getfield 36, 3) := by decide +kernel
theorem dX6_hearAll_78 : decode cX6_hearAll 78 = .ok (.getfield 44, 3) := by decide +kernel
theorem dX6_hearAll_81 : decode cX6_hearAll 81 = .ok (.if_icmp .ge 67, 3) := by decide +kernel
theorem dX6_hearAll_84 : decode cX6_hearAll 84 = .ok (.iload_n 2, 1) := by decide +kernel
theorem dX6_hearAll_85 : decode cX6_hearAll 85 = .ok (.istore 4, 2) := by decide +kernel
theorem dX6_hearAll_87 : decode cX6_hearAll 87 = .ok (.iconst 0, 1) := by decide +kernel
theorem dX6_hearAll_88 : decode cX6_hearAll 88 = .ok (.istore 5, 2) := by decide +kernel
theorem dX6_hearAll_90 : decode cX6_hearAll 90 = .ok (.iload 5, 2) := by decide +kernel
theorem dX6_hearAll_92 : decode cX6_hearAll 92 = .ok (.aload_n 0, 1) := by decide +kernel
theorem dX6_hearAll_93 : decode cX6_hearAll 93 = .ok (.getfield 36, 3) := by decide +kernel
theorem dX6_hearAll_96 : decode cX6_hearAll 96 = .ok (.getfield 44, 3) := by decide +kernel
theorem dX6_hearAll_99 : decode cX6_hearAll 99 = .ok (.if_icmp .ge 21, 3) := by decide +kernel
theorem dX6_hearAll_102 : decode cX6_hearAll 102 = .ok (.iload 4, 2) := by decide +kernel
theorem dX6_hearAll_104 : decode cX6_hearAll 104 = .ok (.aload_n 0, 1) := by decide +kernel
theorem dX6_hearAll_105 : decode cX6_hearAll 105 = .ok (.iload_n 3, 1) := by decide +kernel
theorem dX6_hearAll_106 : decode cX6_hearAll 106 = .ok (.iload 5, 2) := by decide +kernel
theorem dX6_hearAll_108 : decode cX6_hearAll 108 = .ok (.invokevirtual 110, 3) := by decide +kernel
theorem dX6_hearAll_111 : decode cX6_hearAll 111 = .ok (.iadd, 1) := by decide +kernel
theorem dX6_hearAll_112 : decode cX6_hearAll 112 = .ok (.istore 4, 2) := by decide +kernel
theorem dX6_hearAll_114 : decode cX6_hearAll 114 = .ok (.iinc 5 1, 3) := by decide +kernel
theorem dX6_hearAll_117 : decode cX6_hearAll 117 = .ok (.goto (-27), 3) := by decide +kernel
theorem dX6_hearAll_120 : decode cX6_hearAll 120 = .ok (.aload_n 0, 1) := by decide +kernel
theorem dX6_hearAll_121 : decode cX6_hearAll 121 = .ok (.getfield 21, 3) := by decide +kernel
theorem dX6_hearAll_124 : decode cX6_hearAll 124 = .ok (.iload_n 3, 1) := by decide +kernel
theorem dX6_hearAll_125 : decode cX6_hearAll 125 = .ok (.iconst 0, 1) := by decide +kernel
theorem dX6_hearAll_126 : decode cX6_hearAll 126 = .ok (.iload 4, 2) := by decide +kernel
theorem dX6_hearAll_128 : decode cX6_hearAll 128 = .ok (.aload_n 0, 1) := by decide +kernel
theorem dX6_hearAll_129 : decode cX6_hearAll 129 = .ok (.getfield 11, 3) := by decide +kernel
theorem dX6_hearAll_132 : decode cX6_hearAll 132 = .ok (.bipush 35, 2) := by decide +kernel
theorem dX6_hearAll_134 : decode cX6_hearAll 134 = .ok (.iload_n 3, 1) := by decide +kernel
theorem dX6_hearAll_135 : decode cX6_hearAll 135 = .ok (.iadd, 1) := by decide +kernel
theorem dX6_hearAll_136 : decode cX6_hearAll 136 = .ok (.iaload, 1) := by decide +kernel
theorem dX6_hearAll_137 : decode cX6_hearAll 137 = .ok (.isub, 1) := by decide +kernel
theorem dX6_hearAll_138 : decode cX6_hearAll 138 = .ok (.invokestatic 89, 3) := by decide +kernel
theorem dX6_hearAll_141 : decode cX6_hearAll 141 = .ok (.iastore, 1) := by decide +kernel
theorem dX6_hearAll_142 : decode cX6_hearAll 142 = .ok (.iinc 3 1, 3) := by decide +kernel
theorem dX6_hearAll_145 : decode cX6_hearAll 145 = .ok (.goto (-72), 3) := by decide +kernel
theorem dX6_hearAll_148 : decode cX6_hearAll 148 = .ok (.return_, 1) := by decide +kernel
theorem dX6_init_0 : decode cX6_init 0 = .ok (.aload_n 0, 1) := by decide +kernel
theorem dX6_init_1 : decode cX6_init 1 = .ok (.invokespecial 3, 3) := by decide +kernel
theorem dX6_init_4 : decode cX6_init 4 = .ok (.aload_n 0, 1) := by decide +kernel
theorem dX6_init_5 : decode cX6_init 5 = .ok (.bipush 42, 2) := by decide +kernel
theorem dX6_init_7 : decode cX6_init 7 = .ok (.newarray .int, 2) := by decide +kernel
theorem dX6_init_9 : decode cX6_init 9 = .ok (.putfield 11, 3) := by decide +kernel
theorem dX6_init_12 : decode cX6_init 12 = .ok (.aload_n 0, 1) := by decide +kernel
theorem dX6_init_13 : decode cX6_init 13 = .ok (.iconst 5, 1) := by decide +kernel
theorem dX6_init_14 : decode cX6_init 14 = .ok (.newarray .int, 2) := by decide +kernel
theorem dX6_init_16 : decode cX6_init 16 = .ok (.putfield 15, 3) := by decide +kernel
theorem dX6_init_19 : decode cX6_init 19 = .ok (.aload_n 0, 1) := by decide +kernel
theorem dX6_init_20 : decode cX6_init 20 = .ok (.iconst 5, 1) := by decide +kernel
theorem dX6_init_21 : decode cX6_init 21 = .ok (.newarray .int, 2) := by decide +kernel
theorem dX6_init_23 : decode cX6_init 23 = .ok (.putfield 18, 3) := by decide +kernel
theorem dX6_init_26 : decode cX6_init 26 = .ok (.aload_n 0, 1) := by decide +kernel
theorem dX6_init_27 : decode cX6_init 27 = .ok (.iconst 5, 1) := by decide +kernel
theorem dX6_init_28 : decode cX6_init 28 = .ok (.newarray .int, 2) := by decide +kernel
theorem dX6_init_30 : decode cX6_init 30 = .ok (.putfield 21, 3) := by decide +kernel
theorem dX6_init_33 : decode cX6_init 33 = .ok (.aload_n 0, 1) := by decide +kernel
theorem dX6_init_34 : decode cX6_init 34 = .ok (.bipush 9, 2) := by decide +kernel
theorem dX6_init_36 : decode cX6_init 36 = .ok (.newarray .int, 2) := by decide +kernel
theorem dX6_init_38 : decode cX6_init 38 = .ok (.putfield 26, 3) := by decide +kernel
theorem dX6_init_41 : decode cX6_init 41 = .ok (.aload_n 0, 1) := by decide +kernel
theorem dX6_init_42 : decode cX6_init 42 = .ok (.iconst 0, 1) := by decide +kernel
theorem dX6_init_43 : decode cX6_init 43 = .ok (.putfield 29, 3) := by decide +kernel
theorem dX6_init_46 : decode cX6_init 46 = .ok (.aload_n 0, 1) := by decide +kernel
theorem dX6_init_47 : decode cX6_init 47 = .ok (.iconst 0, 1) := by decide +kernel
theorem dX6_init_48 : decode cX6_init 48 = .ok (.putfield 33, 3) := by decide +kernel
theorem dX6_init_51 : decode cX6_init 51 = .ok (.aload_n 0, 1) := by decide +kernel
theorem dX6_init_52 : decode cX6_init 52 = .ok (.aload_n 1, 1) := by decide +kernel
theorem dX6_init_53 : decode cX6_init 53 = .ok (.putfield 36, 3) := by decide +kernel
theorem dX6_init_56 : decode cX6_init 56 = .ok (.aload_n 0, 1) := by decide +kernel
theorem dX6_init_57 : decode cX6_init 57 = .ok (.aload_n 2, 1) := by decide +kernel
theorem dX6_init_58 : decode cX6_init 58 = .ok (.putfield 40, 3) := by decide +kernel
theorem dX6_init_61 : decode cX6_init 61 = .ok (.return_, 1) := by decide +kernel
theorem dX6_isAsleep_0 : decode cX6_isAsleep 0 = .ok (.aload_n 0, 1) := by decide +kernel
theorem dX6_isAsleep_1 : decode cX6_isAsleep 1 = .ok (.getfield 11, 3) := by decide +kernel
theorem dX6_isAsleep_4 : decode cX6_isAsleep 4 = .ok (.bipush 10, 2) := by decide +kernel
theorem dX6_isAsleep_6 : decode cX6_isAsleep 6 = .ok (.iload_n 1, 1) := by decide +kernel
theorem dX6_isAsleep_7 : decode cX6_isAsleep 7 = .ok (.iadd, 1) := by decide +kernel
theorem dX6_isAsleep_8 : decode cX6_isAsleep 8 = .ok (.iaload, 1) := by decide +kernel
theorem dX6_isAsleep_9 : decode cX6_isAsleep 9 = .ok (.ifCond .le 7, 3) := by decide +kernel
theorem dX6_isAsleep_12 : decode cX6_isAsleep 12 = .ok (.iconst 1, 1) := by decide +kernel
theorem dX6_isAsleep_13 : decode cX6_isAsleep 13 = .ok (.goto 4, 3) := by decide +kernel
theorem dX6_isAsleep_16 : decode cX6_isAsleep 16 = .ok (.iconst 0, 1) := by decide +kernel
theorem dX6_isAsleep_17 : decode cX6_isAsleep 17 = .ok (.ireturn, 1) := by decide +kernel
theorem dX6_keepAwake_0 : decode cX6_keepAwake 0 = .ok (.aload_n 0, 1) := by decide +kernel
theorem dX6_keepAwake_1 : decode cX6_keepAwake 1 = .ok (.getfield 15, 3) := by decide +kernel
theorem dX6_keepAwake_4 : decode cX6_keepAwake 4 = .ok (.iload_n 1, 1) := by decide +kernel
theorem dX6_keepAwake_5 : decode cX6_keepAwake 5 = .ok (.aload_n 0, 1) := by decide +kernel
theorem dX6_keepAwake_6 : decode cX6_keepAwake 6 = .ok (.getfield 11, 3) := by decide +kernel
theorem dX6_keepAwake_9 : decode cX6_keepAwake 9 = .ok (.bipush 40, 2) := by decide +kernel
theorem dX6_keepAwake_11 : decode cX6_keepAwake 11 = .ok (.iaload, 1) := by decide +kernel
theorem dX6_keepAwake_12 : decode cX6_keepAwake 12 = .ok (.iload_n 2, 1) := by decide +kernel
theorem dX6_keepAwake_13 : decode cX6_keepAwake 13 = .ok (.iadd, 1) := by decide +kernel
theorem dX6_keepAwake_14 : decode cX6_keepAwake 14 = .ok (.iastore, 1) := by decide +kernel
theorem dX6_keepAwake_15 : decode cX6_keepAwake 15 = .ok (.return_, 1) := by decide +kernel
theorem dX6_loudBy_0 : decode cX6_loudBy 0 = .ok (.aload_n 0, 1) := by decide +kernel
theorem dX6_loudBy_1 : decode cX6_loudBy 1 = .ok (.getfield 26, 3) := by decide +kernel
theorem dX6_loudBy_4 : decode cX6_loudBy 4 = .ok (.iconst 0, 1) := by decide +kernel
theorem dX6_loudBy_5 : decode cX6_loudBy 5 = .ok (.iload_n 1, 1) := by decide +kernel
theorem dX6_loudBy_6 : decode cX6_loudBy 6 = .ok (.iastore, 1) := by decide +kernel
theorem dX6_loudBy_7 : decode cX6_loudBy 7 = .ok (.aload_n 0, 1) := by decide +kernel
theorem dX6_loudBy_8 : decode cX6_loudBy 8 = .ok (.getfield 26, 3) := by decide +kernel
theorem dX6_loudBy_11 : decode cX6_loudBy 11 = .ok (.iconst 1, 1) := by decide +kernel
theorem dX6_loudBy_12 : decode cX6_loudBy 12 = .ok (.iload_n 2, 1) := by decide +kernel
theorem dX6_loudBy_13 : decode cX6_loudBy 13 = .ok (.iastore, 1) := by decide +kernel
theorem dX6_loudBy_14 : decode cX6_loudBy 14 = .ok (.aload_n 0, 1) := by decide +kernel
theorem dX6_loudBy_15 : decode cX6_loudBy 15 = .ok (.getfield 26, 3) := by decide +kernel
theorem dX6_loudBy_18 : decode cX6_loudBy 18 = .ok (.iconst 2, 1) := by decide +kernel
theorem dX6_loudBy_19 : decode cX6_loudBy 19 = .ok (.iload_n 3, 1) := by decide +kernel
theorem dX6_loudBy_20 : decode cX6_loudBy 20 = .ok (.iastore, 1) := by decide +kernel
theorem dX6_loudBy_21 : decode cX6_loudBy 21 = .ok (.aload_n 0, 1) := by decide +kernel
theorem dX6_loudBy_22 : decode cX6_loudBy 22 = .ok (.getfield 26, 3) := by decide +kernel
theorem dX6_loudBy_25 : decode cX6_loudBy 25 = .ok (.bipush 6, 2) := by decide +kernel
theorem dX6_loudBy_27 : decode cX6_loudBy 27 = .ok (.iconst 0, 1) := by decide +kernel
theorem dX6_loudBy_28 : decode cX6_loudBy 28 = .ok (.iastore, 1) := by decide +kernel
theorem dX6_loudBy_29 : decode cX6_loudBy 29 = .ok (.aload_n 0, 1) := by decide +kernel
theorem dX6_loudBy_30 : decode cX6_loudBy 30 = .ok (.getfield 26, 3) := by decide +kernel
theorem dX6_loudBy_33 : decode cX6_loudBy 33 = .ok (.iconst 5, 1) := by decide +kernel
theorem dX6_loudBy_34 : decode cX6_loudBy 34 = .ok (.iconst 0, 1) := by decide +kernel
theorem dX6_loudBy_35 : decode cX6_loudBy 35 = .ok (.iastore, 1) := by decide +kernel
theorem dX6_loudBy_36 : decode cX6_loudBy 36 = .ok (.aload_n 0, 1) := by decide +kernel
theorem dX6_loudBy_37 : decode cX6_loudBy 37 = .ok (.getfield 26, 3) := by decide +kernel
theorem dX6_loudBy_40 : decode cX6_loudBy 40 = .ok (.bipush 8, 2) := by decide +kernel
theorem dX6_loudBy_42 : decode cX6_loudBy 42 = .ok (.iconst 0, 1) := by decide +kernel
theorem dX6_loudBy_43 : decode cX6_loudBy 43 = .ok (.iastore, 1) := by decide +kernel
theorem dX6_loudBy_44 : decode cX6_loudBy 44 = .ok (.aload_n 0, 1) := by decide +kernel
theorem dX6_loudBy_45 : decode cX6_loudBy 45 = .ok (.getfield 26, 3) := by decide +kernel
theorem dX6_loudBy_48 : decode cX6_loudBy 48 = .ok (.iconst 3, 1) := by decide +kernel
theorem dX6_loudBy_49 : decode cX6_loudBy 49 = .ok (.iload 4, 2) := by decide +kernel
theorem dX6_loudBy_51 : decode cX6_loudBy 51 = .ok (.iastore, 1) := by decide +kernel
theorem dX6_loudBy_52 : decode cX6_loudBy 52 = .ok (.aload_n 0, 1) := by decide +kernel
theorem dX6_loudBy_53 : decode cX6_loudBy 53 = .ok (.getfield 26, 3) := by decide +kernel
theorem dX6_loudBy_56 : decode cX6_loudBy 56 = .ok (.iconst 4, 1) := by decide +kernel
theorem dX6_loudBy_57 : decode cX6_loudBy 57 = .ok (.iload 5, 2) := by decide +kernel
theorem dX6_loudBy_59 : decode cX6_loudBy 59 = .ok (.iastore, 1) := by decide +kernel
theorem dX6_loudBy_60 : decode cX6_loudBy 60 = .ok (.aload_n 0, 1) := by decide +kernel
theorem dX6_loudBy_61 : decode cX6_loudBy 61 = .ok (.getfield 26, 3) := by decide +kernel
theorem dX6_loudBy_64 : decode cX6_loudBy 64 = .ok (.bipush 7, 2) := by decide +kernel
theorem dX6_loudBy_66 : decode cX6_loudBy 66 = .ok (.iconst 0, 1) := by decide +kernel
theorem dX6_loudBy_67 : decode cX6_loudBy 67 = .ok (.iastore, 1) := by decide +kernel
theorem dX6_loudBy_68 : decode cX6_loudBy 68 = .ok (.aload_n 0, 1) := by decide +kernel
theorem dX6_loudBy_69 : decode cX6_loudBy 69 = .ok (.getfield 40, 3) := by decide +kernel
theorem dX6_loudBy_72 : decode cX6_loudBy 72 = .ok (.iconst 0, 1) := by decide +kernel
theorem dX6_loudBy_73 : decode cX6_loudBy 73 = .ok (.aaload, 1) := by decide +kernel
theorem dX6_loudBy_74 : decode cX6_loudBy 74 = .ok (.aload_n 0, 1) := by decide +kernel
theorem dX6_loudBy_75 : decode cX6_loudBy 75 = .ok (.getfield 26, 3) := by decide +kernel
theorem dX6_loudBy_78 : decode cX6_loudBy 78 = .ok (.invokevirtual 75, 3) := by decide +kernel
theorem dX6_loudBy_81 : decode cX6_loudBy 81 = .ok (.invokestatic 79, 3) := by decide +kernel
theorem dX6_loudBy_84 : decode cX6_loudBy 84 = .ok (.ireturn, 1) := by decide +kernel
theorem dX6_loudHad_0 : decode cX6_loudHad 0 = .ok (.aload_n 0, 1) := by decide +kernel
theorem dX6_loudHad_1 : decode cX6_loudHad 1 = .ok (.iload_n 1, 1) := by decide +kernel
theorem dX6_loudHad_2 : decode cX6_loudHad 2 = .ok (.invokevirtual 71, 3) := by decide +kernel
theorem dX6_loudHad_5 : decode cX6_loudHad 5 = .ok (.aload_n 0, 1) := by decide +kernel
theorem dX6_loudHad_6 : decode cX6_loudHad 6 = .ok (.getfield 26, 3) := by decide +kernel
theorem dX6_loudHad_9 : decode cX6_loudHad 9 = .ok (.iconst 0, 1) := by decide +kernel
theorem dX6_loudHad_10 : decode cX6_loudHad 10 = .ok (.iload_n 2, 1) := by decide +kernel
theorem dX6_loudHad_11 : decode cX6_loudHad 11 = .ok (.iastore, 1) := by decide +kernel
theorem dX6_loudHad_12 : decode cX6_loudHad 12 = .ok (.aload_n 0, 1) := by decide +kernel
theorem dX6_loudHad_13 : decode cX6_loudHad 13 = .ok (.getfield 26, 3) := by decide +kernel
theorem dX6_loudHad_16 : decode cX6_loudHad 16 = .ok (.iconst 3, 1) := by decide +kernel
theorem dX6_loudHad_17 : decode cX6_loudHad 17 = .ok (.bipush 9, 2) := by decide +kernel
theorem dX6_loudHad_19 : decode cX6_loudHad 19 = .ok (.iload_n 3, 1) := by decide +kernel
theorem dX6_loudHad_20 : decode cX6_loudHad 20 = .ok (.iconst 1, 1) := by decide +kernel
theorem dX6_loudHad_21 : decode cX6_loudHad 21 = .ok (.iadd, 1) := by decide +kernel
theorem dX6_loudHad_22 : decode cX6_loudHad 22 = .ok (.invokestatic 83, 3) := by decide +kernel
theorem dX6_loudHad_25 : decode cX6_loudHad 25 = .ok (.iastore, 1) := by decide +kernel
theorem dX6_loudHad_26 : decode cX6_loudHad 26 = .ok (.aload_n 0, 1) := by decide +kernel
theorem dX6_loudHad_27 : decode cX6_loudHad 27 = .ok (.getfield 26, 3) := by decide +kernel
theorem dX6_loudHad_30 : decode cX6_loudHad 30 = .ok (.iconst 4, 1) := by decide +kernel
theorem dX6_loudHad_31 : decode cX6_loudHad 31 = .ok (.iconst 0, 1) := by decide +kernel
theorem dX6_loudHad_32 : decode cX6_loudHad 32 = .ok (.aload_n 0, 1) := by decide +kernel
theorem dX6_loudHad_33 : decode cX6_loudHad 33 = .ok (.getfield 36, 3) := by decide +kernel
theorem dX6_loudHad_36 : decode cX6_loudHad 36 = .ok (.getfield 49, 3) := by decide +kernel
theorem dX6_loudHad_39 : decode cX6_loudHad 39 = .ok (.iload_n 1, 1) := by decide +kernel
theorem dX6_loudHad_40 : decode cX6_loudHad 40 = .ok (.iaload, 1) := by decide +kernel
theorem dX6_loudHad_41 : decode cX6_loudHad 41 = .ok (.iload_n 3, 1) := by decide +kernel
theorem dX6_loudHad_42 : decode cX6_loudHad 42 = .ok (.isub, 1) := by decide +kernel
theorem dX6_loudHad_43 : decode cX6_loudHad 43 = .ok (.invokestatic 89, 3) := by decide +kernel
theorem dX6_loudHad_46 : decode cX6_loudHad 46 = .ok (.iastore, 1) := by decide +kernel
theorem dX6_loudHad_47 : decode cX6_loudHad 47 = .ok (.aload_n 0, 1) := by decide +kernel
theorem dX6_loudHad_48 : decode cX6_loudHad 48 = .ok (.getfield 26, 3) := by decide +kernel
theorem dX6_loudHad_51 : decode cX6_loudHad 51 = .ok (.bipush 7, 2) := by decide +kernel
theorem dX6_loudHad_53 : decode cX6_loudHad 53 = .ok (.iload_n 3, 1) := by decide +kernel
theorem dX6_loudHad_54 : decode cX6_loudHad 54 = .ok (.iastore, 1) := by decide +kernel
theorem dX6_loudHad_55 : decode cX6_loudHad 55 = .ok (.aload_n 0, 1) := by decide +kernel
theorem dX6_loudHad_56 : decode cX6_loudHad 56 = .ok (.getfield 40, 3) := by decide +kernel
theorem dX6_loudHad_59 : decode cX6_loudHad 59 = .ok (.iconst 0, 1) := by decide +kernel
theorem dX6_loudHad_60 : decode cX6_loudHad 60 = .ok (.aaload, 1) := by decide +kernel
theorem dX6_loudHad_61 : decode cX6_loudHad 61 = .ok (.aload_n 0, 1) := by decide +kernel
theorem dX6_loudHad_62 : decode cX6_loudHad 62 = .ok (.getfield 26, 3) := by decide +kernel
theorem dX6_loudHad_65 : decode cX6_loudHad 65 = .ok (.invokevirtual 75, 3) := by decide +kernel
theorem dX6_loudHad_68 : decode cX6_loudHad 68 = .ok (.invokestatic 79, 3) := by decide +kernel
theorem dX6_loudHad_71 : decode cX6_loudHad 71 = .ok (.ireturn, 1) := by decide +kernel
theorem dX6_loudOf_0 : decode cX6_loudOf 0 = .ok (.aload_n 0, 1) := by decide +kernel
theorem dX6_loudOf_1 : decode cX6_loudOf 1 = .ok (.iload_n 1, 1) := by decide +kernel
theorem dX6_loudOf_2 : decode cX6_loudOf 2 = .ok (.invokevirtual 71, 3) := by decide +kernel
theorem dX6_loudOf_5 : decode cX6_loudOf 5 = .ok (.aload_n 0, 1) := by decide +kernel
theorem dX6_loudOf_6 : decode cX6_loudOf 6 = .ok (.getfield 26, 3) := by decide +kernel
theorem dX6_loudOf_9 : decode cX6_loudOf 9 = .ok (.iconst 3, 1) := by decide +kernel
theorem dX6_loudOf_10 : decode cX6_loudOf 10 = .ok (.aload_n 0, 1) := by decide +kernel
theorem dX6_loudOf_11 : decode cX6_loudOf 11 = .ok (.getfield 11, 3) := by decide +kernel
theorem dX6_loudOf_14 : decode cX6_loudOf 14 = .ok (.bipush 10, 2) := by decide +kernel
theorem dX6_loudOf_16 : decode cX6_loudOf 16 = .ok (.iload_n 1, 1) := by decide +kernel
theorem dX6_loudOf_17 : decode cX6_loudOf 17 = .ok (.iadd, 1) := by decide +kernel
theorem dX6_loudOf_18 : decode cX6_loudOf 18 = .ok (.iaload, 1) := by decide +kernel
theorem dX6_loudOf_19 : decode cX6_loudOf 19 = .ok (.iastore, 1) := by decide +kernel
theorem dX6_loudOf_20 : decode cX6_loudOf 20 = .ok (.aload_n 0, 1) := by decide +kernel
theorem dX6_loudOf_21 : decode cX6_loudOf 21 = .ok (.getfield 26, 3) := by decide +kernel
theorem dX6_loudOf_24 : decode cX6_loudOf 24 = .ok (.iconst 4, 1) := by decide +kernel
theorem dX6_loudOf_25 : decode cX6_loudOf 25 = .ok (.aload_n 0, 1) := by decide +kernel
theorem dX6_loudOf_26 : decode cX6_loudOf 26 = .ok (.getfield 11, 3) := by decide +kernel
theorem dX6_loudOf_29 : decode cX6_loudOf 29 = .ok (.iconst 0, 1) := by decide +kernel
theorem dX6_loudOf_30 : decode cX6_loudOf 30 = .ok (.iload_n 1, 1) := by decide +kernel
theorem dX6_loudOf_31 : decode cX6_loudOf 31 = .ok (.iadd, 1) := by decide +kernel
theorem dX6_loudOf_32 : decode cX6_loudOf 32 = .ok (.iaload, 1) := by decide +kernel
theorem dX6_loudOf_33 : decode cX6_loudOf 33 = .ok (.iastore, 1) := by decide +kernel
theorem dX6_loudOf_34 : decode cX6_loudOf 34 = .ok (.aload_n 0, 1) := by decide +kernel
theorem dX6_loudOf_35 : decode cX6_loudOf 35 = .ok (.getfield 26, 3) := by decide +kernel
theorem dX6_loudOf_38 : decode cX6_loudOf 38 = .ok (.bipush 7, 2) := by decide +kernel
theorem dX6_loudOf_40 : decode cX6_loudOf 40 = .ok (.aload_n 0, 1) := by decide +kernel
theorem dX6_loudOf_41 : decode cX6_loudOf 41 = .ok (.getfield 11, 3) := by decide +kernel
theorem dX6_loudOf_44 : decode cX6_loudOf 44 = .ok (.bipush 40, 2) := by decide +kernel
theorem dX6_loudOf_46 : decode cX6_loudOf 46 = .ok (.iaload, 1) := by decide +kernel
theorem dX6_loudOf_47 : decode cX6_loudOf 47 = .ok (.iastore, 1) := by decide +kernel
theorem dX6_loudOf_48 : decode cX6_loudOf 48 = .ok (.aload_n 0, 1) := by decide +kernel
theorem dX6_loudOf_49 : decode cX6_loudOf 49 = .ok (.getfield 40, 3) := by decide +kernel
theorem dX6_loudOf_52 : decode cX6_loudOf 52 = .ok (.iconst 0, 1) := by decide +kernel
theorem dX6_loudOf_53 : decode cX6_loudOf 53 = .ok (.aaload, 1) := by decide +kernel
theorem dX6_loudOf_54 : decode cX6_loudOf 54 = .ok (.aload_n 0, 1) := by decide +kernel
theorem dX6_loudOf_55 : decode cX6_loudOf 55 = .ok (.getfield 26, 3) := by decide +kernel
theorem dX6_loudOf_58 : decode cX6_loudOf 58 = .ok (.invokevirtual 75, 3) := by decide +kernel
theorem dX6_loudOf_61 : decode cX6_loudOf 61 = .ok (.invokestatic 79, 3) := by decide +kernel
theorem dX6_loudOf_64 : decode cX6_loudOf 64 = .ok (.ireturn, 1) := by decide +kernel
theorem dX6_nudge_0 : decode cX6_nudge 0 = .ok (.aload_n 0, 1) := by decide +kernel
theorem dX6_nudge_1 : decode cX6_nudge 1 = .ok (.getfield 11, 3) := by decide +kernel
theorem dX6_nudge_4 : decode cX6_nudge 4 = .ok (.iconst 5, 1) := by decide +kernel
theorem dX6_nudge_5 : decode cX6_nudge 5 = .ok (.iload_n 1, 1) := by decide +kernel
theorem dX6_nudge_6 : decode cX6_nudge 6 = .ok (.iadd, 1) := by decide +kernel
theorem dX6_nudge_7 : decode cX6_nudge 7 = .ok (.iaload, 1) := by decide +kernel
theorem dX6_nudge_8 : decode cX6_nudge 8 = .ok (.aload_n 0, 1) := by decide +kernel
theorem dX6_nudge_9 : decode cX6_nudge 9 = .ok (.getfield 11, 3) := by decide +kernel
theorem dX6_nudge_12 : decode cX6_nudge 12 = .ok (.iconst 5, 1) := by decide +kernel
theorem dX6_nudge_13 : decode cX6_nudge 13 = .ok (.iload_n 2, 1) := by decide +kernel
theorem dX6_nudge_14 : decode cX6_nudge 14 = .ok (.iadd, 1) := by decide +kernel
theorem dX6_nudge_15 : decode cX6_nudge 15 = .ok (.iaload, 1) := by decide +kernel
theorem dX6_nudge_16 : decode cX6_nudge 16 = .ok (.if_icmp .ne 7, 3) := by decide +kernel
theorem dX6_nudge_19 : decode cX6_nudge 19 = .ok (.iconst 1, 1) := by decide +kernel
theorem dX6_nudge_20 : decode cX6_nudge 20 = .ok (.goto 4, 3) := by decide +kernel
theorem dX6_nudge_23 : decode cX6_nudge 23 = .ok (.iconst 0, 1) := by decide +kernel
theorem dX6_nudge_24 : decode cX6_nudge 24 = .ok (.istore_n 3, 1) := by decide +kernel
theorem dX6_nudge_25 : decode cX6_nudge 25 = .ok (.aload_n 0, 1) := by decide +kernel
theorem dX6_nudge_26 : decode cX6_nudge 26 = .ok (.iload_n 1, 1) := by decide +kernel
theorem dX6_nudge_27 : decode cX6_nudge 27 = .ok (.invokevirtual 67, 3) := by decide +kernel
theorem dX6_nudge_30 : decode cX6_nudge 30 = .ok (.ifCond .ne 28, 3) := by decide +kernel
theorem dX6_nudge_33 : decode cX6_nudge 33 = .ok (.aload_n 0, 1) := by decide +kernel
theorem dX6_nudge_34 : decode cX6_nudge 34 = .ok (.iload_n 2, 1) := by decide +kernel
theorem dX6_nudge_35 : decode cX6_nudge 35 = .ok (.invokevirtual 67, 3) := by decide +kernel
theorem dX6_nudge_38 : decode cX6_nudge 38 = .ok (.ifCond .eq 20, 3) := by decide +kernel
theorem dX6_nudge_41 : decode cX6_nudge 41 = .ok (.iload_n 3, 1) := by decide +kernel
theorem dX6_nudge_42 : decode cX6_nudge 42 = .ok (.ifCond .eq 16, 3) := by decide +kernel
theorem dX6_nudge_45 : decode cX6_nudge 45 = .ok (.aload_n 0, 1) := by decide +kernel
theorem dX6_nudge_46 : decode cX6_nudge 46 = .ok (.getfield 11, 3) := by decide +kernel
theorem dX6_nudge_49 : decode cX6_nudge 49 = .ok (.bipush 15, 2) := by decide +kernel
theorem dX6_nudge_51 : decode cX6_nudge 51 = .ok (.iload_n 2, 1) := by decide +kernel
theorem dX6_nudge_52 : decode cX6_nudge 52 = .ok (.iadd, 1) := by decide +kernel
theorem dX6_nudge_53 : decode cX6_nudge 53 = .ok (.iaload, 1) := by decide +kernel
theorem dX6_nudge_54 : decode cX6_nudge 54 = .ok (.iconst 1, 1) := by decide +kernel
theorem dX6_nudge_55 : decode cX6_nudge 55 = .ok (.if_icmp .ne 5, 3) := by decide +kernel
theorem dX6_nudge_58 : decode cX6_nudge 58 = .ok (.iconst 0, 1) := by decide +kernel
theorem dX6_nudge_59 : decode cX6_nudge 59 = .ok (.ireturn, 1) := by decide +kernel
theorem dX6_nudge_60 : decode cX6_nudge 60 = .ok (.aload_n 0, 1) := by decide +kernel
theorem dX6_nudge_61 : decode cX6_nudge 61 = .ok (.getfield 11, 3) := by decide +kernel
theorem dX6_nudge_64 : decode cX6_nudge 64 = .ok (.bipush 10, 2) := by decide +kernel
theorem dX6_nudge_66 : decode cX6_nudge 66 = .ok (.iload_n 2, 1) := by decide +kernel
theorem dX6_nudge_67 : decode cX6_nudge 67 = .ok (.iadd, 1) := by decide +kernel
theorem dX6_nudge_68 : decode cX6_nudge 68 = .ok (.iaload, 1) := by decide +kernel
theorem dX6_nudge_69 : decode cX6_nudge 69 = .ok (.iconst 2, 1) := by decide +kernel
theorem dX6_nudge_70 : decode cX6_nudge 70 = .ok (.if_icmp .gt 10, 3) := by decide +kernel
theorem dX6_nudge_73 : decode cX6_nudge 73 = .ok (.aload_n 0, 1) := by decide +kernel
theorem dX6_nudge_74 : decode cX6_nudge 74 = .ok (.iload_n 2, 1) := by decide +kernel
theorem dX6_nudge_75 : decode cX6_nudge 75 = .ok (.invokevirtual 125, 3) := by decide +kernel
theorem dX6_nudge_78 : decode cX6_nudge 78 = .ok (.iconst 1, 1) := by decide +kernel
theorem dX6_nudge_79 : decode cX6_nudge 79 = .ok (.ireturn, 1) := by decide +kernel
theorem dX6_nudge_80 : decode cX6_nudge 80 = .ok (.aload_n 0, 1) := by decide +kernel
theorem dX6_nudge_81 : decode cX6_nudge 81 = .ok (.getfield 11, 3) := by decide +kernel
theorem dX6_nudge_84 : decode cX6_nudge 84 = .ok (.bipush 10, 2) := by decide +kernel
theorem dX6_nudge_86 : decode cX6_nudge 86 = .ok (.iload_n 2, 1) := by decide +kernel
theorem dX6_nudge_87 : decode cX6_nudge 87 = .ok (.iadd, 1) := by decide +kernel
theorem dX6_nudge_88 : decode cX6_nudge 88 = .ok (.dup2, 1) := by decide +kernel
theorem dX6_nudge_89 : decode cX6_nudge 89 = .ok (.iaload, 1) := by decide +kernel
theorem dX6_nudge_90 : decode cX6_nudge 90 = .ok (.iconst 2, 1) := by decide +kernel
theorem dX6_nudge_91 : decode cX6_nudge 91 = .ok (.isub, 1) := by decide +kernel
theorem dX6_nudge_92 : decode cX6_nudge 92 = .ok (.iastore, 1) := by decide +kernel
theorem dX6_nudge_93 : decode cX6_nudge 93 = .ok (.aload_n 0, 1) := by decide +kernel
theorem dX6_nudge_94 : decode cX6_nudge 94 = .ok (.getfield 11, 3) := by decide +kernel
theorem dX6_nudge_97 : decode cX6_nudge 97 = .ok (.bipush 15, 2) := by decide +kernel
theorem dX6_nudge_99 : decode cX6_nudge 99 = .ok (.iload_n 2, 1) := by decide +kernel
theorem dX6_nudge_100 : decode cX6_nudge 100 = .ok (.iadd, 1) := by decide +kernel
theorem dX6_nudge_101 : decode cX6_nudge 101 = .ok (.iconst 1, 1) := by decide +kernel
theorem dX6_nudge_102 : decode cX6_nudge 102 = .ok (.iastore, 1) := by decide +kernel
theorem dX6_nudge_103 : decode cX6_nudge 103 = .ok (.aload_n 0, 1) := by decide +kernel
theorem dX6_nudge_104 : decode cX6_nudge 104 = .ok (.getfield 11, 3) := by decide +kernel
theorem dX6_nudge_107 : decode cX6_nudge 107 = .ok (.bipush 20, 2) := by decide +kernel
theorem dX6_nudge_109 : decode cX6_nudge 109 = .ok (.iload_n 2, 1) := by decide +kernel
theorem dX6_nudge_110 : decode cX6_nudge 110 = .ok (.iadd, 1) := by decide +kernel
theorem dX6_nudge_111 : decode cX6_nudge 111 = .ok (.iconst 0, 1) := by decide +kernel
theorem dX6_nudge_112 : decode cX6_nudge 112 = .ok (.iastore, 1) := by decide +kernel
theorem dX6_nudge_113 : decode cX6_nudge 113 = .ok (.iconst 1, 1) := by decide +kernel
theorem dX6_nudge_114 : decode cX6_nudge 114 = .ok (.ireturn, 1) := by decide +kernel
theorem dX6_oneSleptInNext_0 : decode cX6_oneSleptInNext 0 = .ok (.aload_n 0, 1) := by decide +kernel
theorem dX6_oneSleptInNext_1 : decode cX6_oneSleptInNext 1 = .ok (.getfield 11, 3) := by decide +kernel
theorem dX6_oneSleptInNext_4 : decode cX6_oneSleptInNext 4 = .ok (.bipush 25, 2) := by decide +kernel
theorem dX6_oneSleptInNext_6 : decode cX6_oneSleptInNext 6 = .ok (.iload_n 1, 1) := by decide +kernel
theorem dX6_oneSleptInNext_7 : decode cX6_oneSleptInNext 7 = .ok (.iadd, 1) := by decide +kernel
theorem dX6_oneSleptInNext_8 : decode cX6_oneSleptInNext 8 = .ok (.iaload, 1) := by decide +kernel
theorem dX6_oneSleptInNext_9 : decode cX6_oneSleptInNext 9 = .ok (.istore_n 3, 1) := by decide +kernel
theorem dX6_oneSleptInNext_10 : decode cX6_oneSleptInNext 10 = .ok (.aload_n 0, 1) := by decide +kernel
theorem dX6_oneSleptInNext_11 : decode cX6_oneSleptInNext 11 = .ok (.iload_n 2, 1) := by decide +kernel
theorem dX6_oneSleptInNext_12 : decode cX6_oneSleptInNext 12 = .ok (.invokevirtual 138, 3) := by decide +kernel
theorem dX6_oneSleptInNext_15 : decode cX6_oneSleptInNext 15 = .ok (.pop, 1) := by decide +kernel
theorem dX6_oneSleptInNext_16 : decode cX6_oneSleptInNext 16 = .ok (.aload_n 0, 1) := by decide +kernel
theorem dX6_oneSleptInNext_17 : decode cX6_oneSleptInNext 17 = .ok (.getfield 11, 3) := by decide +kernel
theorem dX6_oneSleptInNext_20 : decode cX6_oneSleptInNext 20 = .ok (.bipush 25, 2) := by decide +kernel
theorem dX6_oneSleptInNext_22 : decode cX6_oneSleptInNext 22 = .ok (.iload_n 1, 1) := by decide +kernel
theorem dX6_oneSleptInNext_23 : decode cX6_oneSleptInNext 23 = .ok (.iadd, 1) := by decide +kernel
theorem dX6_oneSleptInNext_24 : decode cX6_oneSleptInNext 24 = .ok (.iaload, 1) := by decide +kernel
theorem dX6_oneSleptInNext_25 : decode cX6_oneSleptInNext 25 = .ok (.iload_n 3, 1) := by decide +kernel
theorem dX6_oneSleptInNext_26 : decode cX6_oneSleptInNext 26 = .ok (.isub, 1) := by decide +kernel
theorem dX6_oneSleptInNext_27 : decode cX6_oneSleptInNext 27 = .ok (.ireturn, 1) := by decide +kernel
theorem dX6_passMinute_0 : decode cX6_passMinute 0 = .ok (.aload_n 0, 1) := by decide +kernel
theorem dX6_passMinute_1 : decode cX6_passMinute 1 = .ok (.getfield 11, 3) := by decide +kernel
theorem dX6_passMinute_4 : decode cX6_passMinute 4 = .ok (.bipush 40, 2) := by decide +kernel
theorem dX6_passMinute_6 : decode cX6_passMinute 6 = .ok (.iaload, 1) := by decide +kernel
theorem dX6_passMinute_7 : decode cX6_passMinute 7 = .ok (.sipush 240, 3) := by decide +kernel
theorem dX6_passMinute_10 : decode cX6_passMinute 10 = .ok (.if_icmp .lt 5, 3) := by decide +kernel
theorem dX6_passMinute_13 : decode cX6_passMinute 13 = .ok (.iconst 0, 1) := by decide +kernel
theorem dX6_passMinute_14 : decode cX6_passMinute 14 = .ok (.ireturn, 1) := by decide +kernel
theorem dX6_passMinute_15 : decode cX6_passMinute 15 = .ok (.aload_n 0, 1) := by decide +kernel
theorem dX6_passMinute_16 : decode cX6_passMinute 16 = .ok (.iload_n 1, 1) := by decide +kernel
theorem dX6_passMinute_17 : decode cX6_passMinute 17 = .ok (.invokevirtual 113, 3) := by decide +kernel
theorem dX6_passMinute_20 : decode cX6_passMinute 20 = .ok (.iconst 0, 1) := by decide +kernel
theorem dX6_passMinute_21 : decode cX6_passMinute 21 = .ok (.istore_n 2, 1) := by decide +kernel
theorem dX6_passMinute_22 : decode cX6_passMinute 22 = .ok (.iload_n 2, 1) := by decide +kernel
theorem dX6_passMinute_23 : decode cX6_passMinute 23 = .ok (.aload_n 0, 1) := by decide +kernel
theorem dX6_passMinute_24 : decode cX6_passMinute 24 = .ok (.getfield 36, 3) := by decide +kernel
theorem dX6_passMinute_27 : decode cX6_passMinute 27 = .ok (.getfield 44, 3) := by decide +kernel
theorem dX6_passMinute_30 : decode cX6_passMinute 30 = .ok (.if_icmp .ge 30, 3) := by decide +kernel
theorem dX6_passMinute_33 : decode cX6_passMinute 33 = .ok (.aload_n 0, 1) := by decide +kernel
theorem dX6_passMinute_34 : decode cX6_passMinute 34 = .ok (.iload_n 2, 1) := by decide +kernel
theorem dX6_passMinute_35 : decode cX6_passMinute 35 = .ok (.invokevirtual 67, 3) := by decide +kernel
theorem dX6_passMinute_38 : decode cX6_passMinute 38 = .ok (.ifCond .eq 11, 3) := by decide +kernel
theorem dX6_passMinute_41 : decode cX6_passMinute 41 = .ok (.aload_n 0, 1) := by decide +kernel
theorem dX6_passMinute_42 : decode cX6_passMinute 42 = .ok (.iload_n 2, 1) := by decide +kernel
theorem dX6_passMinute_43 : decode cX6_passMinute 43 = .ok (.invokevirtual 116, 3) := by decide +kernel
theorem dX6_passMinute_46 : decode cX6_passMinute 46 = .ok (.goto 8, 3) := by decide +kernel
theorem dX6_passMinute_49 : decode cX6_passMinute 49 = .ok (.aload_n 0, 1) := by decide +kernel
theorem dX6_passMinute_50 : decode cX6_passMinute 50 = .ok (.iload_n 2, 1) := by decide +kernel
theorem dX6_passMinute_51 : decode cX6_passMinute 51 = .ok (.invokevirtual 119, 3) := by decide +kernel
theorem dX6_passMinute_54 : decode cX6_passMinute 54 = .ok (.iinc 2 1, 3) := by decide +kernel
theorem dX6_passMinute_57 : decode cX6_passMinute 57 = .ok (.goto (-35), 3) := by decide +kernel
theorem dX6_passMinute_60 : decode cX6_passMinute 60 = .ok (.aload_n 0, 1) := by decide +kernel
theorem dX6_passMinute_61 : decode cX6_passMinute 61 = .ok (.getfield 11, 3) := by decide +kernel
theorem dX6_passMinute_64 : decode cX6_passMinute 64 = .ok (.bipush 40, 2) := by decide +kernel
theorem dX6_passMinute_66 : decode cX6_passMinute 66 = .ok (.dup2, 1) := by decide +kernel
theorem dX6_passMinute_67 : decode cX6_passMinute 67 = .ok (.iaload, 1) := by decide +kernel
theorem dX6_passMinute_68 : decode cX6_passMinute 68 = .ok (.iconst 1, 1) := by decide +kernel
theorem dX6_passMinute_69 : decode cX6_passMinute 69 = .ok (.iadd, 1) := by decide +kernel
theorem dX6_passMinute_70 : decode cX6_passMinute 70 = .ok (.iastore, 1) := by decide +kernel
theorem dX6_passMinute_71 : decode cX6_passMinute 71 = .ok (.iconst 1, 1) := by decide +kernel
theorem dX6_passMinute_72 : decode cX6_passMinute 72 = .ok (.ireturn, 1) := by decide +kernel
theorem dX6_passWithCars_0 : decode cX6_passWithCars 0 = .ok (.iload_n 1, 1) := by decide +kernel
theorem dX6_passWithCars_1 : decode cX6_passWithCars 1 = .ok (.istore 5, 2) := by decide +kernel
theorem dX6_passWithCars_3 : decode cX6_passWithCars 3 = .ok (.iconst 0, 1) := by decide +kernel
theorem dX6_passWithCars_4 : decode cX6_passWithCars 4 = .ok (.istore 6, 2) := by decide +kernel
theorem dX6_passWithCars_6 : decode cX6_passWithCars 6 = .ok (.iload 6, 2) := by decide +kernel
theorem dX6_passWithCars_8 : decode cX6_passWithCars 8 = .ok (.iload 4, 2) := by decide +kernel
theorem dX6_passWithCars_10 : decode cX6_passWithCars 10 = .ok (.if_icmp .ge 77, 3) := by decide +kernel
theorem dX6_passWithCars_13 : decode cX6_passWithCars 13 = .ok (.iload 5, 2) := by decide +kernel
theorem dX6_passWithCars_15 : decode cX6_passWithCars 15 = .ok (.ldc 145, 2) := by decide +kernel
theorem dX6_passWithCars_17 : decode cX6_passWithCars 17 = .ok (.imul, 1) := by decide +kernel
theorem dX6_passWithCars_18 : decode cX6_passWithCars 18 = .ok (.sipush 12345, 3) := by decide +kernel
theorem dX6_passWithCars_21 : decode cX6_passWithCars 21 = .ok (.iadd, 1) := by decide +kernel
theorem dX6_passWithCars_22 : decode cX6_passWithCars 22 = .ok (.istore 5, 2) := by decide +kernel
theorem dX6_passWithCars_24 : decode cX6_passWithCars 24 = .ok (.iload 5, 2) := by decide +kernel
theorem dX6_passWithCars_26 : decode cX6_passWithCars 26 = .ok (.bipush 16, 2) := by decide +kernel
theorem dX6_passWithCars_28 : decode cX6_passWithCars 28 = .ok (.iushr, 1) := by decide +kernel
theorem dX6_passWithCars_29 : decode cX6_passWithCars 29 = .ok (.sipush 32767, 3) := by decide +kernel
theorem dX6_passWithCars_32 : decode cX6_passWithCars 32 = .ok (.iand, 1) := by decide +kernel
theorem dX6_passWithCars_33 : decode cX6_passWithCars 33 = .ok (.bipush 16, 2) := by decide +kernel
theorem dX6_passWithCars_35 : decode cX6_passWithCars 35 = .ok (.irem, 1) := by decide +kernel
theorem dX6_passWithCars_36 : decode cX6_passWithCars 36 = .ok (.iload_n 2, 1) := by decide +kernel
theorem dX6_passWithCars_37 : decode cX6_passWithCars 37 = .ok (.if_icmp .ge 7, 3) := by decide +kernel
theorem dX6_passWithCars_40 : decode cX6_passWithCars 40 = .ok (.iconst 1, 1) := by decide +kernel
theorem dX6_passWithCars_41 : decode cX6_passWithCars 41 = .ok (.goto 4, 3) := by decide +kernel
theorem dX6_passWithCars_44 : decode cX6_passWithCars 44 = .ok (.iconst 0, 1) := by decide +kernel
theorem dX6_passWithCars_45 : decode cX6_passWithCars 45 = .ok (.istore 7, 2) := by decide +kernel
theorem dX6_passWithCars_47 : decode cX6_passWithCars 47 = .ok (.aload_n 0, 1) := by decide +kernel
theorem dX6_passWithCars_48 : decode cX6_passWithCars 48 = .ok (.dup, 1) := by decide +kernel
theorem dX6_passWithCars_49 : decode cX6_passWithCars 49 = .ok (.getfield 33, 3) := by decide +kernel
theorem dX6_passWithCars_52 : decode cX6_passWithCars 52 = .ok (.iload 7, 2) := by decide +kernel
theorem dX6_passWithCars_54 : decode cX6_passWithCars 54 = .ok (.ifCond .eq 7, 3) := by decide +kernel
theorem dX6_passWithCars_57 : decode cX6_passWithCars 57 = .ok (.iconst 1, 1) := by decide +kernel
theorem dX6_passWithCars_58 : decode cX6_passWithCars 58 = .ok (.goto 4, 3) := by decide +kernel
theorem dX6_passWithCars_61 : decode cX6_passWithCars 61 = .ok (.iconst 0, 1) := by decide +kernel
theorem dX6_passWithCars_62 : decode cX6_passWithCars 62 = .ok (.iadd, 1) := by decide +kernel
theorem dX6_passWithCars_63 : decode cX6_passWithCars 63 = .ok (.putfield 33, 3) := by decide +kernel
theorem dX6_passWithCars_66 : decode cX6_passWithCars 66 = .ok (.aload_n 0, 1) := by decide +kernel
theorem dX6_passWithCars_67 : decode cX6_passWithCars 67 = .ok (.iload 7, 2) := by decide +kernel
theorem dX6_passWithCars_69 : decode cX6_passWithCars 69 = .ok (.ifCond .eq 7, 3) := by decide +kernel
theorem dX6_passWithCars_72 : decode cX6_passWithCars 72 = .ok (.iload_n 3, 1) := by decide +kernel
theorem dX6_passWithCars_73 : decode cX6_passWithCars 73 = .ok (.goto 4, 3) := by decide +kernel
theorem dX6_passWithCars_76 : decode cX6_passWithCars 76 = .ok (.iconst 0, 1) := by decide +kernel
theorem dX6_passWithCars_77 : decode cX6_passWithCars 77 = .ok (.invokevirtual 135, 3) := by decide +kernel
theorem dX6_passWithCars_80 : decode cX6_passWithCars 80 = .ok (.pop, 1) := by decide +kernel
theorem dX6_passWithCars_81 : decode cX6_passWithCars 81 = .ok (.iinc 6 1, 3) := by decide +kernel
theorem dX6_passWithCars_84 : decode cX6_passWithCars 84 = .ok (.goto (-78), 3) := by decide +kernel
theorem dX6_passWithCars_87 : decode cX6_passWithCars 87 = .ok (.return_, 1) := by decide +kernel
theorem dX6_perform_0 : decode cX6_perform 0 = .ok (.iload_n 1, 1) := by decide +kernel
theorem dX6_perform_1 : decode cX6_perform 1 = .ok (.lookupswitch 54 #[(0, 35), (4, 48), (5, 42)], 35) := by decide +kernel
theorem dX6_perform_36 : decode cX6_perform 36 = .ok (.aload_n 0, 1) := by decide +kernel
theorem dX6_perform_37 : decode cX6_perform 37 = .ok (.iload_n 2, 1) := by decide +kernel
theorem dX6_perform_38 : decode cX6_perform 38 = .ok (.iload_n 3, 1) := by decide +kernel
theorem dX6_perform_39 : decode cX6_perform 39 = .ok (.invokevirtual 141, 3) := by decide +kernel
theorem dX6_perform_42 : decode cX6_perform 42 = .ok (.ireturn, 1) := by decide +kernel
theorem dX6_perform_43 : decode cX6_perform 43 = .ok (.aload_n 0, 1) := by decide +kernel
theorem dX6_perform_44 : decode cX6_perform 44 = .ok (.iconst 0, 1) := by decide +kernel
theorem dX6_perform_45 : decode cX6_perform 45 = .ok (.invokevirtual 135, 3) := by decide +kernel
theorem dX6_perform_48 : decode cX6_perform 48 = .ok (.ireturn, 1) := by decide +kernel
theorem dX6_perform_49 : decode cX6_perform 49 = .ok (.aload_n 0, 1) := by decide +kernel
theorem dX6_perform_50 : decode cX6_perform 50 = .ok (.iload_n 2, 1) := by decide +kernel
theorem dX6_perform_51 : decode cX6_perform 51 = .ok (.invokevirtual 146, 3) := by decide +kernel
theorem dX6_perform_54 : decode cX6_perform 54 = .ok (.ireturn, 1) := by decide +kernel
theorem dX6_perform_55 : decode cX6_perform 55 = .ok (.aload_n 0, 1) := by decide +kernel
theorem dX6_perform_56 : decode cX6_perform 56 = .ok (.iload_n 2, 1) := by decide +kernel
theorem dX6_perform_57 : decode cX6_perform 57 = .ok (.invokevirtual 67, 3) := by decide +kernel
theorem dX6_perform_60 : decode cX6_perform 60 = .ok (.ifCond .ne 17, 3) := by decide +kernel
theorem dX6_perform_63 : decode cX6_perform 63 = .ok (.aload_n 0, 1) := by decide +kernel
theorem dX6_perform_64 : decode cX6_perform 64 = .ok (.iload_n 1, 1) := by decide +kernel
theorem dX6_perform_65 : decode cX6_perform 65 = .ok (.iload_n 2, 1) := by decide +kernel
theorem dX6_perform_66 : decode cX6_perform 66 = .ok (.iload_n 3, 1) := by decide +kernel
theorem dX6_perform_67 : decode cX6_perform 67 = .ok (.invokevirtual 149, 3) := by decide +kernel
theorem dX6_perform_70 : decode cX6_perform 70 = .ok (.ifCond .eq 7, 3) := by decide +kernel
theorem dX6_perform_73 : decode cX6_perform 73 = .ok (.iconst 1, 1) := by decide +kernel
theorem dX6_perform_74 : decode cX6_perform 74 = .ok (.goto 4, 3) := by decide +kernel
theorem dX6_perform_77 : decode cX6_perform 77 = .ok (.iconst 0, 1) := by decide +kernel
theorem dX6_perform_78 : decode cX6_perform 78 = .ok (.ireturn, 1) := by decide +kernel
theorem dX6_performAwake_0 : decode cX6_performAwake 0 = .ok (.iload_n 1, 1) := by decide +kernel
theorem dX6_performAwake_1 : decode cX6_performAwake 1 = .ok (.lookupswitch 69 #[(1, 27), (2, 49)], 27) := by decide +kernel
theorem dX6_performAwake_28 : decode cX6_performAwake 28 = .ok (.aload_n 0, 1) := by decide +kernel
theorem dX6_performAwake_29 : decode cX6_performAwake 29 = .ok (.getfield 11, 3) := by decide +kernel
theorem dX6_performAwake_32 : decode cX6_performAwake 32 = .ok (.bipush 15, 2) := by decide +kernel
theorem dX6_performAwake_34 : decode cX6_performAwake 34 = .ok (.iload_n 2, 1) := by decide +kernel
theorem dX6_performAwake_35 : decode cX6_performAwake 35 = .ok (.iadd, 1) := by decide +kernel
theorem dX6_performAwake_36 : decode cX6_performAwake 36 = .ok (.iconst 1, 1) := by decide +kernel
theorem dX6_performAwake_37 : decode cX6_performAwake 37 = .ok (.aload_n 0, 1) := by decide +kernel
theorem dX6_performAwake_38 : decode cX6_performAwake 38 = .ok (.getfield 11, 3) := by decide +kernel
theorem dX6_performAwake_41 : decode cX6_performAwake 41 = .ok (.bipush 15, 2) := by decide +kernel
theorem dX6_performAwake_43 : decode cX6_performAwake 43 = .ok (.iload_n 2, 1) := by decide +kernel
theorem dX6_performAwake_44 : decode cX6_performAwake 44 = .ok (.iadd, 1) := by decide +kernel
theorem dX6_performAwake_45 : decode cX6_performAwake 45 = .ok (.iaload, 1) := by decide +kernel
theorem dX6_performAwake_46 : decode cX6_performAwake 46 = .ok (.isub, 1) := by decide +kernel
theorem dX6_performAwake_47 : decode cX6_performAwake 47 = .ok (.iastore, 1) := by decide +kernel
theorem dX6_performAwake_48 : decode cX6_performAwake 48 = .ok (.iconst 1, 1) := by decide +kernel
theorem dX6_performAwake_49 : decode cX6_performAwake 49 = .ok (.ireturn, 1) := by decide +kernel
theorem dX6_performAwake_50 : decode cX6_performAwake 50 = .ok (.aload_n 0, 1) := by decide +kernel
theorem dX6_performAwake_51 : decode cX6_performAwake 51 = .ok (.getfield 11, 3) := by decide +kernel
theorem dX6_performAwake_54 : decode cX6_performAwake 54 = .ok (.iconst 5, 1) := by decide +kernel
theorem dX6_performAwake_55 : decode cX6_performAwake 55 = .ok (.iload_n 2, 1) := by decide +kernel
theorem dX6_performAwake_56 : decode cX6_performAwake 56 = .ok (.iadd, 1) := by decide +kernel
theorem dX6_performAwake_57 : decode cX6_performAwake 57 = .ok (.iconst 1, 1) := by decide +kernel
theorem dX6_performAwake_58 : decode cX6_performAwake 58 = .ok (.aload_n 0, 1) := by decide +kernel
theorem dX6_performAwake_59 : decode cX6_performAwake 59 = .ok (.getfield 11, 3) := by decide +kernel
theorem dX6_performAwake_62 : decode cX6_performAwake 62 = .ok (.iconst 5, 1) := by decide +kernel
theorem dX6_performAwake_63 : decode cX6_performAwake 63 = .ok (.iload_n 2, 1) := by decide +kernel
theorem dX6_performAwake_64 : decode cX6_performAwake 64 = .ok (.iadd, 1) := by decide +kernel
theorem dX6_performAwake_65 : decode cX6_performAwake 65 = .ok (.iaload, 1) := by decide +kernel
theorem dX6_performAwake_66 : decode cX6_performAwake 66 = .ok (.isub, 1) := by decide +kernel
theorem dX6_performAwake_67 : decode cX6_performAwake 67 = .ok (.iastore, 1) := by decide +kernel
theorem dX6_performAwake_68 : decode cX6_performAwake 68 = .ok (.iconst 1, 1) := by decide +kernel
theorem dX6_performAwake_69 : decode cX6_performAwake 69 = .ok (.ireturn, 1) := by decide +kernel
theorem dX6_performAwake_70 : decode cX6_performAwake 70 = .ok (.aload_n 0, 1) := by decide +kernel
theorem dX6_performAwake_71 : decode cX6_performAwake 71 = .ok (.getfield 11, 3) := by decide +kernel
theorem dX6_performAwake_74 : decode cX6_performAwake 74 = .ok (.bipush 35, 2) := by decide +kernel
theorem dX6_performAwake_76 : decode cX6_performAwake 76 = .ok (.iload_n 2, 1) := by decide +kernel
theorem dX6_performAwake_77 : decode cX6_performAwake 77 = .ok (.iadd, 1) := by decide +kernel
theorem dX6_performAwake_78 : decode cX6_performAwake 78 = .ok (.iaload, 1) := by decide +kernel
theorem dX6_performAwake_79 : decode cX6_performAwake 79 = .ok (.iload_n 3, 1) := by decide +kernel
theorem dX6_performAwake_80 : decode cX6_performAwake 80 = .ok (.if_icmp .ne 5, 3) := by decide +kernel
theorem dX6_performAwake_83 : decode cX6_performAwake 83 = .ok (.iconst 0, 1) := by decide +kernel
theorem dX6_performAwake_84 : decode cX6_performAwake 84 = .ok (.ireturn, 1) := by decide +kernel
theorem dX6_performAwake_85 : decode cX6_performAwake 85 = .ok (.aload_n 0, 1) := by decide +kernel
theorem dX6_performAwake_86 : decode cX6_performAwake 86 = .ok (.getfield 11, 3) := by decide +kernel
theorem dX6_performAwake_89 : decode cX6_performAwake 89 = .ok (.bipush 35, 2) := by decide +kernel
theorem dX6_performAwake_91 : decode cX6_performAwake 91 = .ok (.iload_n 2, 1) := by decide +kernel
theorem dX6_performAwake_92 : decode cX6_performAwake 92 = .ok (.iadd, 1) := by decide +kernel
theorem dX6_performAwake_93 : decode cX6_performAwake 93 = .ok (.iload_n 3, 1) := by decide +kernel
theorem dX6_performAwake_94 : decode cX6_performAwake 94 = .ok (.iastore, 1) := by decide +kernel
theorem dX6_performAwake_95 : decode cX6_performAwake 95 = .ok (.iconst 1, 1) := by decide +kernel
theorem dX6_performAwake_96 : decode cX6_performAwake 96 = .ok (.ireturn, 1) := by decide +kernel
theorem dX6_reaching_0 : decode cX6_reaching 0 = .ok (.iload_n 1, 1) := by decide +kernel
theorem dX6_reaching_1 : decode cX6_reaching 1 = .ok (.iload_n 2, 1) := by decide +kernel
theorem dX6_reaching_2 : decode cX6_reaching 2 = .ok (.if_icmp .ne 5, 3) := by decide +kernel
theorem dX6_reaching_5 : decode cX6_reaching 5 = .ok (.iconst 0, 1) := by decide +kernel
theorem dX6_reaching_6 : decode cX6_reaching 6 = .ok (.ireturn, 1) := by decide +kernel
theorem dX6_reaching_7 : decode cX6_reaching 7 = .ok (.aload_n 0, 1) := by decide +kernel
theorem dX6_reaching_8 : decode cX6_reaching 8 = .ok (.getfield 11, 3) := by decide +kernel
theorem dX6_reaching_11 : decode cX6_reaching 11 = .ok (.iconst 5, 1) := by decide +kernel
theorem dX6_reaching_12 : decode cX6_reaching 12 = .ok (.iload_n 1, 1) := by decide +kernel
theorem dX6_reaching_13 : decode cX6_reaching 13 = .ok (.iadd, 1) := by decide +kernel
theorem dX6_reaching_14 : decode cX6_reaching 14 = .ok (.iaload, 1) := by decide +kernel
theorem dX6_reaching_15 : decode cX6_reaching 15 = .ok (.aload_n 0, 1) := by decide +kernel
theorem dX6_reaching_16 : decode cX6_reaching 16 = .ok (.getfield 11, 3) := by decide +kernel
theorem dX6_reaching_19 : decode cX6_reaching 19 = .ok (.iconst 5, 1) := by decide +kernel
theorem dX6_reaching_20 : decode cX6_reaching 20 = .ok (.iload_n 2, 1) := by decide +kernel
theorem dX6_reaching_21 : decode cX6_reaching 21 = .ok (.iadd, 1) := by decide +kernel
theorem dX6_reaching_22 : decode cX6_reaching 22 = .ok (.iaload, 1) := by decide +kernel
theorem dX6_reaching_23 : decode cX6_reaching 23 = .ok (.if_icmp .ne 7, 3) := by decide +kernel
theorem dX6_reaching_26 : decode cX6_reaching 26 = .ok (.iconst 1, 1) := by decide +kernel
theorem dX6_reaching_27 : decode cX6_reaching 27 = .ok (.goto 4, 3) := by decide +kernel
theorem dX6_reaching_30 : decode cX6_reaching 30 = .ok (.iconst 0, 1) := by decide +kernel
theorem dX6_reaching_31 : decode cX6_reaching 31 = .ok (.istore_n 3, 1) := by decide +kernel
theorem dX6_reaching_32 : decode cX6_reaching 32 = .ok (.iload_n 3, 1) := by decide +kernel
theorem dX6_reaching_33 : decode cX6_reaching 33 = .ok (.ifCond .eq 12, 3) := by decide +kernel
theorem dX6_reaching_36 : decode cX6_reaching 36 = .ok (.aload_n 0, 1) := by decide +kernel
theorem dX6_reaching_37 : decode cX6_reaching 37 = .ok (.getfield 18, 3) := by decide +kernel
theorem dX6_reaching_40 : decode cX6_reaching 40 = .ok (.iload_n 2, 1) := by decide +kernel
theorem dX6_reaching_41 : decode cX6_reaching 41 = .ok (.iaload, 1) := by decide +kernel
theorem dX6_reaching_42 : decode cX6_reaching 42 = .ok (.goto 18, 3) := by decide +kernel
theorem dX6_reaching_45 : decode cX6_reaching 45 = .ok (.iconst 0, 1) := by decide +kernel
theorem dX6_reaching_46 : decode cX6_reaching 46 = .ok (.aload_n 0, 1) := by decide +kernel
theorem dX6_reaching_47 : decode cX6_reaching 47 = .ok (.getfield 18, 3) := by decide +kernel
theorem dX6_reaching_50 : decode cX6_reaching 50 = .ok (.iload_n 2, 1) := by decide +kernel
theorem dX6_reaching_51 : decode cX6_reaching 51 = .ok (.iaload, 1) := by decide +kernel
theorem dX6_reaching_52 : decode cX6_reaching 52 = .ok (.aload_n 0, 1) := by decide +kernel
theorem dX6_reaching_53 : decode cX6_reaching 53 = .ok (.getfield 29, 3) := by decide +kernel
theorem dX6_reaching_56 : decode cX6_reaching 56 = .ok (.isub, 1) := by decide +kernel
theorem dX6_reaching_57 : decode cX6_reaching 57 = .ok (.invokestatic 89, 3) := by decide +kernel
theorem dX6_reaching_60 : decode cX6_reaching 60 = .ok (.ireturn, 1) := by decide +kernel
theorem dX6_settle_0 : decode cX6_settle 0 = .ok (.iconst 0, 1) := by decide +kernel
theorem dX6_settle_1 : decode cX6_settle 1 = .ok (.istore_n 2, 1) := by decide +kernel
theorem dX6_settle_2 : decode cX6_settle 2 = .ok (.iload_n 2, 1) := by decide +kernel
theorem dX6_settle_3 : decode cX6_settle 3 = .ok (.aload_n 0, 1) := by decide +kernel
theorem dX6_settle_4 : decode cX6_settle 4 = .ok (.getfield 36, 3) := by decide +kernel
theorem dX6_settle_7 : decode cX6_settle 7 = .ok (.getfield 44, 3) := by decide +kernel
theorem dX6_settle_10 : decode cX6_settle 10 = .ok (.if_icmp .ge 46, 3) := by decide +kernel
theorem dX6_settle_13 : decode cX6_settle 13 = .ok (.iload_n 1, 1) := by decide +kernel
theorem dX6_settle_14 : decode cX6_settle 14 = .ok (.iload_n 2, 1) := by decide +kernel
theorem dX6_settle_15 : decode cX6_settle 15 = .ok (.ishr, 1) := by decide +kernel
theorem dX6_settle_16 : decode cX6_settle 16 = .ok (.iconst 1, 1) := by decide +kernel
theorem dX6_settle_17 : decode cX6_settle 17 = .ok (.iand, 1) := by decide +kernel
theorem dX6_settle_18 : decode cX6_settle 18 = .ok (.istore_n 3, 1) := by decide +kernel
theorem dX6_settle_19 : decode cX6_settle 19 = .ok (.aload_n 0, 1) := by decide +kernel
theorem dX6_settle_20 : decode cX6_settle 20 = .ok (.iload_n 2, 1) := by decide +kernel
theorem dX6_settle_21 : decode cX6_settle 21 = .ok (.invokevirtual 67, 3) := by decide +kernel
theorem dX6_settle_24 : decode cX6_settle 24 = .ok (.ifCond .eq 17, 3) := by decide +kernel
theorem dX6_settle_27 : decode cX6_settle 27 = .ok (.aload_n 0, 1) := by decide +kernel
theorem dX6_settle_28 : decode cX6_settle 28 = .ok (.getfield 11, 3) := by decide +kernel
theorem dX6_settle_31 : decode cX6_settle 31 = .ok (.iconst 5, 1) := by decide +kernel
theorem dX6_settle_32 : decode cX6_settle 32 = .ok (.iload_n 2, 1) := by decide +kernel
theorem dX6_settle_33 : decode cX6_settle 33 = .ok (.iadd, 1) := by decide +kernel
theorem dX6_settle_34 : decode cX6_settle 34 = .ok (.iaload, 1) := by decide +kernel
theorem dX6_settle_35 : decode cX6_settle 35 = .ok (.iload_n 3, 1) := by decide +kernel
theorem dX6_settle_36 : decode cX6_settle 36 = .ok (.if_icmp .eq 5, 3) := by decide +kernel
theorem dX6_settle_39 : decode cX6_settle 39 = .ok (.iconst 0, 1) := by decide +kernel
theorem dX6_settle_40 : decode cX6_settle 40 = .ok (.ireturn, 1) := by decide +kernel
theorem dX6_settle_41 : decode cX6_settle 41 = .ok (.aload_n 0, 1) := by decide +kernel
theorem dX6_settle_42 : decode cX6_settle 42 = .ok (.getfield 11, 3) := by decide +kernel
theorem dX6_settle_45 : decode cX6_settle 45 = .ok (.iconst 5, 1) := by decide +kernel
theorem dX6_settle_46 : decode cX6_settle 46 = .ok (.iload_n 2, 1) := by decide +kernel
theorem dX6_settle_47 : decode cX6_settle 47 = .ok (.iadd, 1) := by decide +kernel
theorem dX6_settle_48 : decode cX6_settle 48 = .ok (.iload_n 3, 1) := by decide +kernel
theorem dX6_settle_49 : decode cX6_settle 49 = .ok (.iastore, 1) := by decide +kernel
theorem dX6_settle_50 : decode cX6_settle 50 = .ok (.iinc 2 1, 3) := by decide +kernel
theorem dX6_settle_53 : decode cX6_settle 53 = .ok (.goto (-51), 3) := by decide +kernel
theorem dX6_settle_56 : decode cX6_settle 56 = .ok (.iconst 1, 1) := by decide +kernel
theorem dX6_settle_57 : decode cX6_settle 57 = .ok (.ireturn, 1) := by decide +kernel
theorem dX6_sleepOrWake_0 : decode cX6_sleepOrWake 0 = .ok (.aload_n 0, 1) := by decide +kernel
theorem dX6_sleepOrWake_1 : decode cX6_sleepOrWake 1 = .ok (.getfield 21, 3) := by decide +kernel
theorem dX6_sleepOrWake_4 : decode cX6_sleepOrWake 4 = .ok (.iload_n 1, 1) := by decide +kernel
theorem dX6_sleepOrWake_5 : decode cX6_sleepOrWake 5 = .ok (.iaload, 1) := by decide +kernel
theorem dX6_sleepOrWake_6 : decode cX6_sleepOrWake 6 = .ok (.aload_n 0, 1) := by decide +kernel
theorem dX6_sleepOrWake_7 : decode cX6_sleepOrWake 7 = .ok (.getfield 36, 3) := by decide +kernel
theorem dX6_sleepOrWake_10 : decode cX6_sleepOrWake 10 = .ok (.getfield 101, 3) := by decide +kernel
theorem dX6_sleepOrWake_13 : decode cX6_sleepOrWake 13 = .ok (.iload_n 1, 1) := by decide +kernel
theorem dX6_sleepOrWake_14 : decode cX6_sleepOrWake 14 = .ok (.iaload, 1) := by decide +kernel
theorem dX6_sleepOrWake_15 : decode cX6_sleepOrWake 15 = .ok (.aload_n 0, 1) := by decide +kernel
theorem dX6_sleepOrWake_16 : decode cX6_sleepOrWake 16 = .ok (.getfield 11, 3) := by decide +kernel
theorem dX6_sleepOrWake_19 : decode cX6_sleepOrWake 19 = .ok (.bipush 10, 2) := by decide +kernel
theorem dX6_sleepOrWake_21 : decode cX6_sleepOrWake 21 = .ok (.iload_n 1, 1) := by decide +kernel
theorem dX6_sleepOrWake_22 : decode cX6_sleepOrWake 22 = .ok (.iadd, 1) := by decide +kernel
theorem dX6_sleepOrWake_23 : decode cX6_sleepOrWake 23 = .ok (.iaload, 1) := by decide +kernel
theorem dX6_sleepOrWake_24 : decode cX6_sleepOrWake 24 = .ok (.iadd, 1) := by decide +kernel
theorem dX6_sleepOrWake_25 : decode cX6_sleepOrWake 25 = .ok (.if_icmp .le 9, 3) := by decide +kernel
theorem dX6_sleepOrWake_28 : decode cX6_sleepOrWake 28 = .ok (.aload_n 0, 1) := by decide +kernel
theorem dX6_sleepOrWake_29 : decode cX6_sleepOrWake 29 = .ok (.iload_n 1, 1) := by decide +kernel
theorem dX6_sleepOrWake_30 : decode cX6_sleepOrWake 30 = .ok (.invokevirtual 125, 3) := by decide +kernel
theorem dX6_sleepOrWake_33 : decode cX6_sleepOrWake 33 = .ok (.return_, 1) := by decide +kernel
theorem dX6_sleepOrWake_34 : decode cX6_sleepOrWake 34 = .ok (.aload_n 0, 1) := by decide +kernel
theorem dX6_sleepOrWake_35 : decode cX6_sleepOrWake 35 = .ok (.getfield 11, 3) := by decide +kernel
theorem dX6_sleepOrWake_38 : decode cX6_sleepOrWake 38 = .ok (.bipush 10, 2) := by decide +kernel
theorem dX6_sleepOrWake_40 : decode cX6_sleepOrWake 40 = .ok (.iload_n 1, 1) := by decide +kernel
theorem dX6_sleepOrWake_41 : decode cX6_sleepOrWake 41 = .ok (.iadd, 1) := by decide +kernel
theorem dX6_sleepOrWake_42 : decode cX6_sleepOrWake 42 = .ok (.bipush 9, 2) := by decide +kernel
theorem dX6_sleepOrWake_44 : decode cX6_sleepOrWake 44 = .ok (.aload_n 0, 1) := by decide +kernel
theorem dX6_sleepOrWake_45 : decode cX6_sleepOrWake 45 = .ok (.getfield 11, 3) := by decide +kernel
theorem dX6_sleepOrWake_48 : decode cX6_sleepOrWake 48 = .ok (.bipush 10, 2) := by decide +kernel
theorem dX6_sleepOrWake_50 : decode cX6_sleepOrWake 50 = .ok (.iload_n 1, 1) := by decide +kernel
theorem dX6_sleepOrWake_51 : decode cX6_sleepOrWake 51 = .ok (.iadd, 1) := by decide +kernel
theorem dX6_sleepOrWake_52 : decode cX6_sleepOrWake 52 = .ok (.iaload, 1) := by decide +kernel
theorem dX6_sleepOrWake_53 : decode cX6_sleepOrWake 53 = .ok (.iconst 1, 1) := by decide +kernel
theorem dX6_sleepOrWake_54 : decode cX6_sleepOrWake 54 = .ok (.iadd, 1) := by decide +kernel
theorem dX6_sleepOrWake_55 : decode cX6_sleepOrWake 55 = .ok (.invokestatic 83, 3) := by decide +kernel
theorem dX6_sleepOrWake_58 : decode cX6_sleepOrWake 58 = .ok (.iastore, 1) := by decide +kernel
theorem dX6_sleepOrWake_59 : decode cX6_sleepOrWake 59 = .ok (.aload_n 0, 1) := by decide +kernel
theorem dX6_sleepOrWake_60 : decode cX6_sleepOrWake 60 = .ok (.getfield 11, 3) := by decide +kernel
theorem dX6_sleepOrWake_63 : decode cX6_sleepOrWake 63 = .ok (.iconst 0, 1) := by decide +kernel
theorem dX6_sleepOrWake_64 : decode cX6_sleepOrWake 64 = .ok (.iload_n 1, 1) := by decide +kernel
theorem dX6_sleepOrWake_65 : decode cX6_sleepOrWake 65 = .ok (.iadd, 1) := by decide +kernel
theorem dX6_sleepOrWake_66 : decode cX6_sleepOrWake 66 = .ok (.iconst 0, 1) := by decide +kernel
theorem dX6_sleepOrWake_67 : decode cX6_sleepOrWake 67 = .ok (.aload_n 0, 1) := by decide +kernel
theorem dX6_sleepOrWake_68 : decode cX6_sleepOrWake 68 = .ok (.getfield 11, 3) := by decide +kernel
theorem dX6_sleepOrWake_71 : decode cX6_sleepOrWake 71 = .ok (.iconst 0, 1) := by decide +kernel
theorem dX6_sleepOrWake_72 : decode cX6_sleepOrWake 72 = .ok (.iload_n 1, 1) := by decide +kernel
theorem dX6_sleepOrWake_73 : decode cX6_sleepOrWake 73 = .ok (.iadd, 1) := by decide +kernel
theorem dX6_sleepOrWake_74 : decode cX6_sleepOrWake 74 = .ok (.iaload, 1) := by decide +kernel
theorem dX6_sleepOrWake_75 : decode cX6_sleepOrWake 75 = .ok (.iconst 1, 1) := by decide +kernel
theorem dX6_sleepOrWake_76 : decode cX6_sleepOrWake 76 = .ok (.isub, 1) := by decide +kernel
theorem dX6_sleepOrWake_77 : decode cX6_sleepOrWake 77 = .ok (.invokestatic 89, 3) := by decide +kernel
theorem dX6_sleepOrWake_80 : decode cX6_sleepOrWake 80 = .ok (.iastore, 1) := by decide +kernel
theorem dX6_sleepOrWake_81 : decode cX6_sleepOrWake 81 = .ok (.aload_n 0, 1) := by decide +kernel
theorem dX6_sleepOrWake_82 : decode cX6_sleepOrWake 82 = .ok (.getfield 11, 3) := by decide +kernel
theorem dX6_sleepOrWake_85 : decode cX6_sleepOrWake 85 = .ok (.bipush 25, 2) := by decide +kernel
theorem dX6_sleepOrWake_87 : decode cX6_sleepOrWake 87 = .ok (.iload_n 1, 1) := by decide +kernel
theorem dX6_sleepOrWake_88 : decode cX6_sleepOrWake 88 = .ok (.iadd, 1) := by decide +kernel
theorem dX6_sleepOrWake_89 : decode cX6_sleepOrWake 89 = .ok (.dup2, 1) := by decide +kernel
theorem dX6_sleepOrWake_90 : decode cX6_sleepOrWake 90 = .ok (.iaload, 1) := by decide +kernel
theorem dX6_sleepOrWake_91 : decode cX6_sleepOrWake 91 = .ok (.iconst 1, 1) := by decide +kernel
theorem dX6_sleepOrWake_92 : decode cX6_sleepOrWake 92 = .ok (.iadd, 1) := by decide +kernel
theorem dX6_sleepOrWake_93 : decode cX6_sleepOrWake 93 = .ok (.iastore, 1) := by decide +kernel
theorem dX6_sleepOrWake_94 : decode cX6_sleepOrWake 94 = .ok (.aload_n 0, 1) := by decide +kernel
theorem dX6_sleepOrWake_95 : decode cX6_sleepOrWake 95 = .ok (.getfield 11, 3) := by decide +kernel
theorem dX6_sleepOrWake_98 : decode cX6_sleepOrWake 98 = .ok (.bipush 15, 2) := by decide +kernel
theorem dX6_sleepOrWake_100 : decode cX6_sleepOrWake 100 = .ok (.iload_n 1, 1) := by decide +kernel
theorem dX6_sleepOrWake_101 : decode cX6_sleepOrWake 101 = .ok (.iadd, 1) := by decide +kernel
theorem dX6_sleepOrWake_102 : decode cX6_sleepOrWake 102 = .ok (.iaload, 1) := by decide +kernel
theorem dX6_sleepOrWake_103 : decode cX6_sleepOrWake 103 = .ok (.iconst 1, 1) := by decide +kernel
theorem dX6_sleepOrWake_104 : decode cX6_sleepOrWake 104 = .ok (.if_icmp .ne 45, 3) := by decide +kernel
theorem dX6_sleepOrWake_107 : decode cX6_sleepOrWake 107 = .ok (.aload_n 0, 1) := by decide +kernel
theorem dX6_sleepOrWake_108 : decode cX6_sleepOrWake 108 = .ok (.getfield 11, 3) := by decide +kernel
theorem dX6_sleepOrWake_111 : decode cX6_sleepOrWake 111 = .ok (.bipush 20, 2) := by decide +kernel
theorem dX6_sleepOrWake_113 : decode cX6_sleepOrWake 113 = .ok (.iload_n 1, 1) := by decide +kernel
theorem dX6_sleepOrWake_114 : decode cX6_sleepOrWake 114 = .ok (.iadd, 1) := by decide +kernel
theorem dX6_sleepOrWake_115 : decode cX6_sleepOrWake 115 = .ok (.dup2, 1) := by decide +kernel
theorem dX6_sleepOrWake_116 : decode cX6_sleepOrWake 116 = .ok (.iaload, 1) := by decide +kernel
theorem dX6_sleepOrWake_117 : decode cX6_sleepOrWake 117 = .ok (.iconst 1, 1) := by decide +kernel
theorem dX6_sleepOrWake_118 : decode cX6_sleepOrWake 118 = .ok (.iadd, 1) := by decide +kernel
theorem dX6_sleepOrWake_119 : decode cX6_sleepOrWake 119 = .ok (.iastore, 1) := by decide +kernel
theorem dX6_sleepOrWake_120 : decode cX6_sleepOrWake 120 = .ok (.aload_n 0, 1) := by decide +kernel
theorem dX6_sleepOrWake_121 : decode cX6_sleepOrWake 121 = .ok (.getfield 11, 3) := by decide +kernel
theorem dX6_sleepOrWake_124 : decode cX6_sleepOrWake 124 = .ok (.bipush 20, 2) := by decide +kernel
theorem dX6_sleepOrWake_126 : decode cX6_sleepOrWake 126 = .ok (.iload_n 1, 1) := by decide +kernel
theorem dX6_sleepOrWake_127 : decode cX6_sleepOrWake 127 = .ok (.iadd, 1) := by decide +kernel
theorem dX6_sleepOrWake_128 : decode cX6_sleepOrWake 128 = .ok (.iaload, 1) := by decide +kernel
theorem dX6_sleepOrWake_129 : decode cX6_sleepOrWake 129 = .ok (.aload_n 0, 1) := by decide +kernel
theorem dX6_sleepOrWake_130 : decode cX6_sleepOrWake 130 = .ok (.getfield 36, 3) := by decide +kernel
theorem dX6_sleepOrWake_133 : decode cX6_sleepOrWake 133 = .ok (.getfield 128, 3) := by decide +kernel
theorem dX6_sleepOrWake_136 : decode cX6_sleepOrWake 136 = .ok (.if_icmp .lt 13, 3) := by decide +kernel
theorem dX6_sleepOrWake_139 : decode cX6_sleepOrWake 139 = .ok (.aload_n 0, 1) := by decide +kernel
theorem dX6_sleepOrWake_140 : decode cX6_sleepOrWake 140 = .ok (.getfield 11, 3) := by decide +kernel
theorem dX6_sleepOrWake_143 : decode cX6_sleepOrWake 143 = .ok (.bipush 15, 2) := by decide +kernel
theorem dX6_sleepOrWake_145 : decode cX6_sleepOrWake 145 = .ok (.iload_n 1, 1) := by decide +kernel
theorem dX6_sleepOrWake_146 : decode cX6_sleepOrWake 146 = .ok (.iadd, 1) := by decide +kernel
theorem dX6_sleepOrWake_147 : decode cX6_sleepOrWake 147 = .ok (.iconst 0, 1) := by decide +kernel
theorem dX6_sleepOrWake_148 : decode cX6_sleepOrWake 148 = .ok (.iastore, 1) := by decide +kernel
theorem dX6_sleepOrWake_149 : decode cX6_sleepOrWake 149 = .ok (.return_, 1) := by decide +kernel
theorem dX6_sleptByAll_0 : decode cX6_sleptByAll 0 = .ok (.iconst 0, 1) := by decide +kernel
theorem dX6_sleptByAll_1 : decode cX6_sleptByAll 1 = .ok (.istore_n 1, 1) := by decide +kernel
theorem dX6_sleptByAll_2 : decode cX6_sleptByAll 2 = .ok (.iconst 0, 1) := by decide +kernel
theorem dX6_sleptByAll_3 : decode cX6_sleptByAll 3 = .ok (.istore_n 2, 1) := by decide +kernel
theorem dX6_sleptByAll_4 : decode cX6_sleptByAll 4 = .ok (.iload_n 2, 1) := by decide +kernel
theorem dX6_sleptByAll_5 : decode cX6_sleptByAll 5 = .ok (.aload_n 0, 1) := by decide +kernel
theorem dX6_sleptByAll_6 : decode cX6_sleptByAll 6 = .ok (.getfield 36, 3) := by decide +kernel
theorem dX6_sleptByAll_9 : decode cX6_sleptByAll 9 = .ok (.getfield 44, 3) := by decide +kernel
theorem dX6_sleptByAll_12 : decode cX6_sleptByAll 12 = .ok (.if_icmp .ge 21, 3) := by decide +kernel
theorem dX6_sleptByAll_15 : decode cX6_sleptByAll 15 = .ok (.iload_n 1, 1) := by decide +kernel
theorem dX6_sleptByAll_16 : decode cX6_sleptByAll 16 = .ok (.aload_n 0, 1) := by decide +kernel
theorem dX6_sleptByAll_17 : decode cX6_sleptByAll 17 = .ok (.getfield 11, 3) := by decide +kernel
theorem dX6_sleptByAll_20 : decode cX6_sleptByAll 20 = .ok (.bipush 25, 2) := by decide +kernel
theorem dX6_sleptByAll_22 : decode cX6_sleptByAll 22 = .ok (.iload_n 2, 1) := by decide +kernel
theorem dX6_sleptByAll_23 : decode cX6_sleptByAll 23 = .ok (.iadd, 1) := by decide +kernel
theorem dX6_sleptByAll_24 : decode cX6_sleptByAll 24 = .ok (.iaload, 1) := by decide +kernel
theorem dX6_sleptByAll_25 : decode cX6_sleptByAll 25 = .ok (.iadd, 1) := by decide +kernel
theorem dX6_sleptByAll_26 : decode cX6_sleptByAll 26 = .ok (.istore_n 1, 1) := by decide +kernel
theorem dX6_sleptByAll_27 : decode cX6_sleptByAll 27 = .ok (.iinc 2 1, 3) := by decide +kernel
theorem dX6_sleptByAll_30 : decode cX6_sleptByAll 30 = .ok (.goto (-26), 3) := by decide +kernel
theorem dX6_sleptByAll_33 : decode cX6_sleptByAll 33 = .ok (.iload_n 1, 1) := by decide +kernel
theorem dX6_sleptByAll_34 : decode cX6_sleptByAll 34 = .ok (.ireturn, 1) := by decide +kernel
theorem dX6_sleptInNext_0 : decode cX6_sleptInNext 0 = .ok (.aload_n 0, 1) := by decide +kernel
theorem dX6_sleptInNext_1 : decode cX6_sleptInNext 1 = .ok (.invokevirtual 131, 3) := by decide +kernel
theorem dX6_sleptInNext_4 : decode cX6_sleptInNext 4 = .ok (.istore_n 2, 1) := by decide +kernel
theorem dX6_sleptInNext_5 : decode cX6_sleptInNext 5 = .ok (.iconst 0, 1) := by decide +kernel
theorem dX6_sleptInNext_6 : decode cX6_sleptInNext 6 = .ok (.istore_n 3, 1) := by decide +kernel
theorem dX6_sleptInNext_7 : decode cX6_sleptInNext 7 = .ok (.iload_n 3, 1) := by decide +kernel
theorem dX6_sleptInNext_8 : decode cX6_sleptInNext 8 = .ok (.iload_n 1, 1) := by decide +kernel
theorem dX6_sleptInNext_9 : decode cX6_sleptInNext 9 = .ok (.if_icmp .ge 20, 3) := by decide +kernel
theorem dX6_sleptInNext_12 : decode cX6_sleptInNext 12 = .ok (.aload_n 0, 1) := by decide +kernel
theorem dX6_sleptInNext_13 : decode cX6_sleptInNext 13 = .ok (.iconst 0, 1) := by decide +kernel
theorem dX6_sleptInNext_14 : decode cX6_sleptInNext 14 = .ok (.invokevirtual 135, 3) := by decide +kernel
theorem dX6_sleptInNext_17 : decode cX6_sleptInNext 17 = .ok (.ifCond .ne 6, 3) := by decide +kernel
theorem dX6_sleptInNext_20 : decode cX6_sleptInNext 20 = .ok (.goto 9, 3) := by decide +kernel
theorem dX6_sleptInNext_23 : decode cX6_sleptInNext 23 = .ok (.iinc 3 1, 3) := by decide +kernel
theorem dX6_sleptInNext_26 : decode cX6_sleptInNext 26 = .ok (.goto (-19), 3) := by decide +kernel
theorem dX6_sleptInNext_29 : decode cX6_sleptInNext 29 = .ok (.aload_n 0, 1) := by decide +kernel
theorem dX6_sleptInNext_30 : decode cX6_sleptInNext 30 = .ok (.invokevirtual 131, 3) := by decide +kernel
theorem dX6_sleptInNext_33 : decode cX6_sleptInNext 33 = .ok (.iload_n 2, 1) := by decide +kernel
theorem dX6_sleptInNext_34 : decode cX6_sleptInNext 34 = .ok (.isub, 1) := by decide +kernel
theorem dX6_sleptInNext_35 : decode cX6_sleptInNext 35 = .ok (.ireturn, 1) := by decide +kernel
theorem dX6_sleptSince_0 : decode cX6_sleptSince 0 = .ok (.aload_n 0, 1) := by decide +kernel
theorem dX6_sleptSince_1 : decode cX6_sleptSince 1 = .ok (.getfield 11, 3) := by decide +kernel
theorem dX6_sleptSince_4 : decode cX6_sleptSince 4 = .ok (.bipush 25, 2) := by decide +kernel
theorem dX6_sleptSince_6 : decode cX6_sleptSince 6 = .ok (.iload_n 2, 1) := by decide +kernel
theorem dX6_sleptSince_7 : decode cX6_sleptSince 7 = .ok (.iadd, 1) := by decide +kernel
theorem dX6_sleptSince_8 : decode cX6_sleptSince 8 = .ok (.iaload, 1) := by decide +kernel
theorem dX6_sleptSince_9 : decode cX6_sleptSince 9 = .ok (.aload_n 1, 1) := by decide +kernel
theorem dX6_sleptSince_10 : decode cX6_sleptSince 10 = .ok (.getfield 11, 3) := by decide +kernel
theorem dX6_sleptSince_13 : decode cX6_sleptSince 13 = .ok (.bipush 25, 2) := by decide +kernel
theorem dX6_sleptSince_15 : decode cX6_sleptSince 15 = .ok (.iload_n 2, 1) := by decide +kernel
theorem dX6_sleptSince_16 : decode cX6_sleptSince 16 = .ok (.iadd, 1) := by decide +kernel
theorem dX6_sleptSince_17 : decode cX6_sleptSince 17 = .ok (.iaload, 1) := by decide +kernel
theorem dX6_sleptSince_18 : decode cX6_sleptSince 18 = .ok (.isub, 1) := by decide +kernel
theorem dX6_sleptSince_19 : decode cX6_sleptSince 19 = .ok (.ireturn, 1) := by decide +kernel
theorem dX6_sleptWithNudges_0 : decode cX6_sleptWithNudges 0 = .ok (.aload_n 0, 1) := by decide +kernel
theorem dX6_sleptWithNudges_1 : decode cX6_sleptWithNudges 1 = .ok (.invokevirtual 131, 3) := by decide +kernel
theorem dX6_sleptWithNudges_4 : decode cX6_sleptWithNudges 4 = .ok (.istore 5, 2) := by decide +kernel
theorem dX6_sleptWithNudges_6 : decode cX6_sleptWithNudges 6 = .ok (.iconst 0, 1) := by decide +kernel
theorem dX6_sleptWithNudges_7 : decode cX6_sleptWithNudges 7 = .ok (.istore 6, 2) := by decide +kernel
theorem dX6_sleptWithNudges_9 : decode cX6_sleptWithNudges 9 = .ok (.iload 6, 2) := by decide +kernel
theorem dX6_sleptWithNudges_11 : decode cX6_sleptWithNudges 11 = .ok (.iload 4, 2) := by decide +kernel
theorem dX6_sleptWithNudges_13 : decode cX6_sleptWithNudges 13 = .ok (.if_icmp .ge 44, 3) := by decide +kernel
theorem dX6_sleptWithNudges_16 : decode cX6_sleptWithNudges 16 = .ok (.iload 6, 2) := by decide +kernel
theorem dX6_sleptWithNudges_18 : decode cX6_sleptWithNudges 18 = .ok (.bipush 6, 2) := by decide +kernel
theorem dX6_sleptWithNudges_20 : decode cX6_sleptWithNudges 20 = .ok (.if_icmp .ge 20, 3) := by decide +kernel
theorem dX6_sleptWithNudges_23 : decode cX6_sleptWithNudges 23 = .ok (.iload_n 3, 1) := by decide +kernel
theorem dX6_sleptWithNudges_24 : decode cX6_sleptWithNudges 24 = .ok (.iload 6, 2) := by decide +kernel
theorem dX6_sleptWithNudges_26 : decode cX6_sleptWithNudges 26 = .ok (.ishr, 1) := by decide +kernel
theorem dX6_sleptWithNudges_27 : decode cX6_sleptWithNudges 27 = .ok (.iconst 1, 1) := by decide +kernel
theorem dX6_sleptWithNudges_28 : decode cX6_sleptWithNudges 28 = .ok (.iand, 1) := by decide +kernel
theorem dX6_sleptWithNudges_29 : decode cX6_sleptWithNudges 29 = .ok (.iconst 1, 1) := by decide +kernel
theorem dX6_sleptWithNudges_30 : decode cX6_sleptWithNudges 30 = .ok (.if_icmp .ne 10, 3) := by decide +kernel
theorem dX6_sleptWithNudges_33 : decode cX6_sleptWithNudges 33 = .ok (.aload_n 0, 1) := by decide +kernel
theorem dX6_sleptWithNudges_34 : decode cX6_sleptWithNudges 34 = .ok (.iload_n 1, 1) := by decide +kernel
theorem dX6_sleptWithNudges_35 : decode cX6_sleptWithNudges 35 = .ok (.iload_n 2, 1) := by decide +kernel
theorem dX6_sleptWithNudges_36 : decode cX6_sleptWithNudges 36 = .ok (.invokevirtual 141, 3) := by decide +kernel
theorem dX6_sleptWithNudges_39 : decode cX6_sleptWithNudges 39 = .ok (.pop, 1) := by decide +kernel
theorem dX6_sleptWithNudges_40 : decode cX6_sleptWithNudges 40 = .ok (.aload_n 0, 1) := by decide +kernel
theorem dX6_sleptWithNudges_41 : decode cX6_sleptWithNudges 41 = .ok (.iconst 0, 1) := by decide +kernel
theorem dX6_sleptWithNudges_42 : decode cX6_sleptWithNudges 42 = .ok (.invokevirtual 135, 3) := by decide +kernel
theorem dX6_sleptWithNudges_45 : decode cX6_sleptWithNudges 45 = .ok (.ifCond .ne 6, 3) := by decide +kernel
theorem dX6_sleptWithNudges_48 : decode cX6_sleptWithNudges 48 = .ok (.goto 9, 3) := by decide +kernel
theorem dX6_sleptWithNudges_51 : decode cX6_sleptWithNudges 51 = .ok (.iinc 6 1, 3) := by decide +kernel
theorem dX6_sleptWithNudges_54 : decode cX6_sleptWithNudges 54 = .ok (.goto (-45), 3) := by decide +kernel
theorem dX6_sleptWithNudges_57 : decode cX6_sleptWithNudges 57 = .ok (.aload_n 0, 1) := by decide +kernel
theorem dX6_sleptWithNudges_58 : decode cX6_sleptWithNudges 58 = .ok (.invokevirtual 131, 3) := by decide +kernel
theorem dX6_sleptWithNudges_61 : decode cX6_sleptWithNudges 61 = .ok (.iload 5, 2) := by decide +kernel
theorem dX6_sleptWithNudges_63 : decode cX6_sleptWithNudges 63 = .ok (.isub, 1) := by decide +kernel
theorem dX6_sleptWithNudges_64 : decode cX6_sleptWithNudges 64 = .ok (.ireturn, 1) := by decide +kernel
theorem dX6_wake_0 : decode cX6_wake 0 = .ok (.aload_n 0, 1) := by decide +kernel
theorem dX6_wake_1 : decode cX6_wake 1 = .ok (.getfield 11, 3) := by decide +kernel
theorem dX6_wake_4 : decode cX6_wake 4 = .ok (.bipush 10, 2) := by decide +kernel
theorem dX6_wake_6 : decode cX6_wake 6 = .ok (.iload_n 1, 1) := by decide +kernel
theorem dX6_wake_7 : decode cX6_wake 7 = .ok (.iadd, 1) := by decide +kernel
theorem dX6_wake_8 : decode cX6_wake 8 = .ok (.iconst 0, 1) := by decide +kernel
theorem dX6_wake_9 : decode cX6_wake 9 = .ok (.iastore, 1) := by decide +kernel
theorem dX6_wake_10 : decode cX6_wake 10 = .ok (.aload_n 0, 1) := by decide +kernel
theorem dX6_wake_11 : decode cX6_wake 11 = .ok (.getfield 11, 3) := by decide +kernel
theorem dX6_wake_14 : decode cX6_wake 14 = .ok (.bipush 15, 2) := by decide +kernel
theorem dX6_wake_16 : decode cX6_wake 16 = .ok (.iload_n 1, 1) := by decide +kernel
theorem dX6_wake_17 : decode cX6_wake 17 = .ok (.iadd, 1) := by decide +kernel
theorem dX6_wake_18 : decode cX6_wake 18 = .ok (.iconst 0, 1) := by decide +kernel
theorem dX6_wake_19 : decode cX6_wake 19 = .ok (.iastore, 1) := by decide +kernel
theorem dX6_wake_20 : decode cX6_wake 20 = .ok (.aload_n 0, 1) := by decide +kernel
theorem dX6_wake_21 : decode cX6_wake 21 = .ok (.getfield 11, 3) := by decide +kernel
theorem dX6_wake_24 : decode cX6_wake 24 = .ok (.bipush 30, 2) := by decide +kernel
theorem dX6_wake_26 : decode cX6_wake 26 = .ok (.iload_n 1, 1) := by decide +kernel
theorem dX6_wake_27 : decode cX6_wake 27 = .ok (.iadd, 1) := by decide +kernel
theorem dX6_wake_28 : decode cX6_wake 28 = .ok (.iconst 0, 1) := by decide +kernel
theorem dX6_wake_29 : decode cX6_wake 29 = .ok (.iastore, 1) := by decide +kernel
theorem dX6_wake_30 : decode cX6_wake 30 = .ok (.aload_n 0, 1) := by decide +kernel
theorem dX6_wake_31 : decode cX6_wake 31 = .ok (.getfield 11, 3) := by decide +kernel
theorem dX6_wake_34 : decode cX6_wake 34 = .ok (.bipush 41, 2) := by decide +kernel
theorem dX6_wake_36 : decode cX6_wake 36 = .ok (.dup2, 1) := by decide +kernel
theorem dX6_wake_37 : decode cX6_wake 37 = .ok (.iaload, 1) := by decide +kernel
theorem dX6_wake_38 : decode cX6_wake 38 = .ok (.iconst 1, 1) := by decide +kernel
theorem dX6_wake_39 : decode cX6_wake 39 = .ok (.iadd, 1) := by decide +kernel
theorem dX6_wake_40 : decode cX6_wake 40 = .ok (.iastore, 1) := by decide +kernel
theorem dX6_wake_41 : decode cX6_wake 41 = .ok (.return_, 1) := by decide +kernel
theorem dX7_carryOut_0 : decode cX7_carryOut 0 = .ok (.iload_n 2, 1) := by decide +kernel
theorem dX7_carryOut_1 : decode cX7_carryOut 1 = .ok (.istore 5, 2) := by decide +kernel
theorem dX7_carryOut_3 : decode cX7_carryOut 3 = .ok (.iload_n 2, 1) := by decide +kernel
theorem dX7_carryOut_4 : decode cX7_carryOut 4 = .ok (.istore 6, 2) := by decide +kernel
theorem dX7_carryOut_6 : decode cX7_carryOut 6 = .ok (.iload 6, 2) := by decide +kernel
theorem dX7_carryOut_8 : decode cX7_carryOut 8 = .ok (.iload_n 3, 1) := by decide +kernel
theorem dX7_carryOut_9 : decode cX7_carryOut 9 = .ok (.if_icmp .ge 182, 3) := by decide +kernel
theorem dX7_carryOut_12 : decode cX7_carryOut 12 = .ok (.iload 6, 2) := by decide +kernel
theorem dX7_carryOut_14 : decode cX7_carryOut 14 = .ok (.aload_n 0, 1) := by decide +kernel
theorem dX7_carryOut_15 : decode cX7_carryOut 15 = .ok (.getfield 9, 3) := by decide +kernel
theorem dX7_carryOut_18 : decode cX7_carryOut 18 = .ok (.arraylength, 1) := by decide +kernel
theorem dX7_carryOut_19 : decode cX7_carryOut 19 = .ok (.if_icmp .ge 172, 3) := by decide +kernel
theorem dX7_carryOut_22 : decode cX7_carryOut 22 = .ok (.aload_n 0, 1) := by decide +kernel
theorem dX7_carryOut_23 : decode cX7_carryOut 23 = .ok (.getfield 25, 3) := by decide +kernel
theorem dX7_carryOut_26 : decode cX7_carryOut 26 = .ok (.sipush 240, 3) := by decide +kernel
theorem dX7_carryOut_29 : decode cX7_carryOut 29 = .ok (.if_icmp .ge 162, 3) := by decide +kernel
theorem dX7_carryOut_32 : decode cX7_carryOut 32 = .ok (.iload 6, 2) := by decide +kernel
theorem dX7_carryOut_34 : decode cX7_carryOut 34 = .ok (.iload 5, 2) := by decide +kernel
theorem dX7_carryOut_36 : decode cX7_carryOut 36 = .ok (.if_icmp .ge 6, 3) := by decide +kernel
theorem dX7_carryOut_39 : decode cX7_carryOut 39 = .ok (.goto 146, 3) := by decide +kernel
theorem dX7_carryOut_42 : decode cX7_carryOut 42 = .ok (.aload_n 0, 1) := by decide +kernel
theorem dX7_carryOut_43 : decode cX7_carryOut 43 = .ok (.dup, 1) := by decide +kernel
theorem dX7_carryOut_44 : decode cX7_carryOut 44 = .ok (.getfield 25, 3) := by decide +kernel
theorem dX7_carryOut_47 : decode cX7_carryOut 47 = .ok (.iconst 1, 1) := by decide +kernel
theorem dX7_carryOut_48 : decode cX7_carryOut 48 = .ok (.iadd, 1) := by decide +kernel
theorem dX7_carryOut_49 : decode cX7_carryOut 49 = .ok (.putfield 25, 3) := by decide +kernel
theorem dX7_carryOut_52 : decode cX7_carryOut 52 = .ok (.aload_n 0, 1) := by decide +kernel
theorem dX7_carryOut_53 : decode cX7_carryOut 53 = .ok (.getfield 9, 3) := by decide +kernel
theorem dX7_carryOut_56 : decode cX7_carryOut 56 = .ok (.iload 6, 2) := by decide +kernel
theorem dX7_carryOut_58 : decode cX7_carryOut 58 = .ok (.iaload, 1) := by decide +kernel
theorem dX7_carryOut_59 : decode cX7_carryOut 59 = .ok (.bipush 6, 2) := by decide +kernel
theorem dX7_carryOut_61 : decode cX7_carryOut 61 = .ok (.if_icmp .ne 73, 3) := by decide +kernel
theorem dX7_carryOut_64 : decode cX7_carryOut 64 = .ok (.iconst 0, 1) := by decide +kernel
theorem dX7_carryOut_65 : decode cX7_carryOut 65 = .ok (.istore 7, 2) := by decide +kernel
theorem dX7_carryOut_67 : decode cX7_carryOut 67 = .ok (.iload 7, 2) := by decide +kernel
theorem dX7_carryOut_69 : decode cX7_carryOut 69 = .ok (.aload_n 0, 1) := by decide +kernel
theorem dX7_carryOut_70 : decode cX7_carryOut 70 = .ok (.getfield 15, 3) := by decide +kernel
theorem dX7_carryOut_73 : decode cX7_carryOut 73 = .ok (.iload 6, 2) := by decide +kernel
theorem dX7_carryOut_75 : decode cX7_carryOut 75 = .ok (.iaload, 1) := by decide +kernel
theorem dX7_carryOut_76 : decode cX7_carryOut 76 = .ok (.if_icmp .ge 46, 3) := by decide +kernel
theorem dX7_carryOut_79 : decode cX7_carryOut 79 = .ok (.iload 4, 2) := by decide +kernel
theorem dX7_carryOut_81 : decode cX7_carryOut 81 = .ok (.bipush 6, 2) := by decide +kernel
theorem dX7_carryOut_83 : decode cX7_carryOut 83 = .ok (.if_icmp .ge 39, 3) := by decide +kernel
theorem dX7_carryOut_86 : decode cX7_carryOut 86 = .ok (.aload_n 0, 1) := by decide +kernel
theorem dX7_carryOut_87 : decode cX7_carryOut 87 = .ok (.getfield 25, 3) := by decide +kernel
theorem dX7_carryOut_90 : decode cX7_carryOut 90 = .ok (.sipush 240, 3) := by decide +kernel
theorem dX7_carryOut_93 : decode cX7_carryOut 93 = .ok (.if_icmp .ge 29, 3) := by decide +kernel
theorem dX7_carryOut_96 : decode cX7_carryOut 96 = .ok (.aload_n 0, 1) := by decide +kernel
theorem dX7_carryOut_97 : decode cX7_carryOut 97 = .ok (.aload_n 1, 1) := by decide +kernel
theorem dX7_carryOut_98 : decode cX7_carryOut 98 = .ok (.iload 6, 2) := by decide +kernel
theorem dX7_carryOut_100 : decode cX7_carryOut 100 = .ok (.iconst 1, 1) := by decide +kernel
theorem dX7_carryOut_101 : decode cX7_carryOut 101 = .ok (.iadd, 1) := by decide +kernel
theorem dX7_carryOut_102 : decode cX7_carryOut 102 = .ok (.aload_n 0, 1) := by decide +kernel
theorem dX7_carryOut_103 : decode cX7_carryOut 103 = .ok (.getfield 18, 3) := by decide +kernel
theorem dX7_carryOut_106 : decode cX7_carryOut 106 = .ok (.iload 6, 2) := by decide +kernel
theorem dX7_carryOut_108 : decode cX7_carryOut 108 = .ok (.iaload, 1) := by decide +kernel
theorem dX7_carryOut_109 : decode cX7_carryOut 109 = .ok (.iload 4, 2) := by decide +kernel
theorem dX7_carryOut_111 : decode cX7_carryOut 111 = .ok (.iconst 1, 1) := by decide +kernel
theorem dX7_carryOut_112 : decode cX7_carryOut 112 = .ok (.iadd, 1) := by decide +kernel
theorem dX7_carryOut_113 : decode cX7_carryOut 113 = .ok (.invokevirtual 83, 3) := by decide +kernel
theorem dX7_carryOut_116 : decode cX7_carryOut 116 = .ok (.iinc 7 1, 3) := by decide +kernel
theorem dX7_carryOut_119 : decode cX7_carryOut 119 = .ok (.goto (-52), 3) := by decide +kernel
theorem dX7_carryOut_122 : decode cX7_carryOut 122 = .ok (.aload_n 0, 1) := by decide +kernel
theorem dX7_carryOut_123 : decode cX7_carryOut 123 = .ok (.getfield 18, 3) := by decide +kernel
theorem dX7_carryOut_126 : decode cX7_carryOut 126 = .ok (.iload 6, 2) := by decide +kernel
theorem dX7_carryOut_128 : decode cX7_carryOut 128 = .ok (.iaload, 1) := by decide +kernel
theorem dX7_carryOut_129 : decode cX7_carryOut 129 = .ok (.istore 5, 2) := by decide +kernel
theorem dX7_carryOut_131 : decode cX7_carryOut 131 = .ok (.goto 54, 3) := by decide +kernel
theorem dX7_carryOut_134 : decode cX7_carryOut 134 = .ok (.aload_n 1, 1) := by decide +kernel
theorem dX7_carryOut_135 : decode cX7_carryOut 135 = .ok (.aload_n 0, 1) := by decide +kernel
theorem dX7_carryOut_136 : decode cX7_carryOut 136 = .ok (.getfield 9, 3) := by decide +kernel
theorem dX7_carryOut_139 : decode cX7_carryOut 139 = .ok (.iload 6, 2) := by decide +kernel
theorem dX7_carryOut_141 : decode cX7_carryOut 141 = .ok (.iaload, 1) := by decide +kernel
theorem dX7_carryOut_142 : decode cX7_carryOut 142 = .ok (.aload_n 0, 1) := by decide +kernel
theorem dX7_carryOut_143 : decode cX7_carryOut 143 = .ok (.getfield 15, 3) := by decide +kernel
theorem dX7_carryOut_146 : decode cX7_carryOut 146 = .ok (.iload 6, 2) := by decide +kernel
theorem dX7_carryOut_148 : decode cX7_carryOut 148 = .ok (.iaload, 1) := by decide +kernel
theorem dX7_carryOut_149 : decode cX7_carryOut 149 = .ok (.aload_n 0, 1) := by decide +kernel
theorem dX7_carryOut_150 : decode cX7_carryOut 150 = .ok (.getfield 18, 3) := by decide +kernel
theorem dX7_carryOut_153 : decode cX7_carryOut 153 = .ok (.iload 6, 2) := by decide +kernel
theorem dX7_carryOut_155 : decode cX7_carryOut 155 = .ok (.iaload, 1) := by decide +kernel
theorem dX7_carryOut_156 : decode cX7_carryOut 156 = .ok (.invokevirtual 87, 3) := by decide +kernel
theorem dX7_carryOut_159 : decode cX7_carryOut 159 = .ok (.ifCond .eq 16, 3) := by decide +kernel
theorem dX7_carryOut_162 : decode cX7_carryOut 162 = .ok (.aload_n 0, 1) := by decide +kernel
theorem dX7_carryOut_163 : decode cX7_carryOut 163 = .ok (.dup, 1) := by decide +kernel
theorem dX7_carryOut_164 : decode cX7_carryOut 164 = .ok (.getfield 28, 3) := by decide +kernel
theorem dX7_carryOut_167 : decode cX7_carryOut 167 = .ok (.iconst 1, 1) := by decide +kernel
theorem dX7_carryOut_168 : decode cX7_carryOut 168 = .ok (.iadd, 1) := by decide +kernel
theorem dX7_carryOut_169 : decode cX7_carryOut 169 = .ok (.putfield 28, 3) := by decide +kernel
theorem dX7_carryOut_172 : decode cX7_carryOut 172 = .ok (.goto 13, 3) := by decide +kernel
theorem dX7_carryOut_175 : decode cX7_carryOut 175 = .ok (.aload_n 0, 1) := by decide +kernel
theorem dX7_carryOut_176 : decode cX7_carryOut 176 = .ok (.dup, 1) := by decide +kernel
theorem dX7_carryOut_177 : decode cX7_carryOut 177 = .ok (.getfield 31, 3) := by decide +kernel
theorem dX7_carryOut_180 : decode cX7_carryOut 180 = .ok (.iconst 1, 1) := by decide +kernel
theorem dX7_carryOut_181 : decode cX7_carryOut 181 = .ok (.iadd, 1) := by decide +kernel
theorem dX7_carryOut_182 : decode cX7_carryOut 182 = .ok (.putfield 31, 3) := by decide +kernel
theorem dX7_carryOut_185 : decode cX7_carryOut 185 = .ok (.iinc 6 1, 3) := by decide +kernel
theorem dX7_carryOut_188 : decode cX7_carryOut 188 = .ok (.goto (-182), 3) := by decide +kernel
theorem dX7_carryOut_191 : decode cX7_carryOut 191 = .ok (.return_, 1) := by decide +kernel
theorem dX7_init_0 : decode cX7_init 0 = .ok (.aload_n 0, 1) := by decide +kernel
theorem dX7_init_1 : decode cX7_init 1 = .ok (.invokespecial 3, 3) := by decide +kernel
theorem dX7_init_4 : decode cX7_init 4 = .ok (.aload_n 0, 1) := by decide +kernel
theorem dX7_init_5 : decode cX7_init 5 = .ok (.sipush 150, 3) := by decide +kernel
theorem dX7_init_8 : decode cX7_init 8 = .ok (.newarray .int, 2) := by decide +kernel
theorem dX7_init_10 : decode cX7_init 10 = .ok (.putfield 9, 3) := by decide +kernel
theorem dX7_init_13 : decode cX7_init 13 = .ok (.aload_n 0, 1) := by decide +kernel
theorem dX7_init_14 : decode cX7_init 14 = .ok (.sipush 150, 3) := by decide +kernel
theorem dX7_init_17 : decode cX7_init 17 = .ok (.newarray .int, 2) := by decide +kernel
theorem dX7_init_19 : decode cX7_init 19 = .ok (.putfield 15, 3) := by decide +kernel
theorem dX7_init_22 : decode cX7_init 22 = .ok (.aload_n 0, 1) := by decide +kernel
theorem dX7_init_23 : decode cX7_init 23 = .ok (.sipush 150, 3) := by decide +kernel
theorem dX7_init_26 : decode cX7_init 26 = .ok (.newarray .int, 2) := by decide +kernel
theorem dX7_init_28 : decode cX7_init 28 = .ok (.putfield 18, 3) := by decide +kernel
theorem dX7_init_31 : decode cX7_init 31 = .ok (.aload_n 0, 1) := by decide +kernel
theorem dX7_init_32 : decode cX7_init 32 = .ok (.iconst 0, 1) := by decide +kernel
theorem dX7_init_33 : decode cX7_init 33 = .ok (.putfield 21, 3) := by decide +kernel
theorem dX7_init_36 : decode cX7_init 36 = .ok (.aload_n 0, 1) := by decide +kernel
theorem dX7_init_37 : decode cX7_init 37 = .ok (.iconst 0, 1) := by decide +kernel
theorem dX7_init_38 : decode cX7_init 38 = .ok (.putfield 25, 3) := by decide +kernel
theorem dX7_init_41 : decode cX7_init 41 = .ok (.aload_n 0, 1) := by decide +kernel
theorem dX7_init_42 : decode cX7_init 42 = .ok (.iconst 0, 1) := by decide +kernel
theorem dX7_init_43 : decode cX7_init 43 = .ok (.putfield 28, 3) := by decide +kernel
theorem dX7_init_46 : decode cX7_init 46 = .ok (.aload_n 0, 1) := by decide +kernel
theorem dX7_init_47 : decode cX7_init 47 = .ok (.iconst 0, 1) := by decide +kernel
theorem dX7_init_48 : decode cX7_init 48 = .ok (.putfield 31, 3) := by decide +kernel
theorem dX7_init_51 : decode cX7_init 51 = .ok (.return_, 1) := by decide +kernel
theorem dX7_put_0 : decode cX7_put 0 = .ok (.aload_n 0, 1) := by decide +kernel
theorem dX7_put_1 : decode cX7_put 1 = .ok (.getfield 21, 3) := by decide +kernel
theorem dX7_put_4 : decode cX7_put 4 = .ok (.aload_n 0, 1) := by decide +kernel
theorem dX7_put_5 : decode cX7_put 5 = .ok (.getfield 9, 3) := by decide +kernel
theorem dX7_put_8 : decode cX7_put 8 = .ok (.arraylength, 1) := by decide +kernel
theorem dX7_put_9 : decode cX7_put 9 = .ok (.if_icmp .lt 5, 3) := by decide +kernel
theorem dX7_put_12 : decode cX7_put 12 = .ok (.iconst 0, 1) := by decide +kernel
theorem dX7_put_13 : decode cX7_put 13 = .ok (.ireturn, 1) := by decide +kernel
theorem dX7_put_14 : decode cX7_put 14 = .ok (.aload_n 0, 1) := by decide +kernel
theorem dX7_put_15 : decode cX7_put 15 = .ok (.getfield 9, 3) := by decide +kernel
theorem dX7_put_18 : decode cX7_put 18 = .ok (.aload_n 0, 1) := by decide +kernel
theorem dX7_put_19 : decode cX7_put 19 = .ok (.getfield 21, 3) := by decide +kernel
theorem dX7_put_22 : decode cX7_put 22 = .ok (.iload_n 1, 1) := by decide +kernel
theorem dX7_put_23 : decode cX7_put 23 = .ok (.iastore, 1) := by decide +kernel
theorem dX7_put_24 : decode cX7_put 24 = .ok (.aload_n 0, 1) := by decide +kernel
theorem dX7_put_25 : decode cX7_put 25 = .ok (.getfield 15, 3) := by decide +kernel
theorem dX7_put_28 : decode cX7_put 28 = .ok (.aload_n 0, 1) := by decide +kernel
theorem dX7_put_29 : decode cX7_put 29 = .ok (.getfield 21, 3) := by decide +kernel
theorem dX7_put_32 : decode cX7_put 32 = .ok (.iload_n 2, 1) := by decide +kernel
theorem dX7_put_33 : decode cX7_put 33 = .ok (.iastore, 1) := by decide +kernel
theorem dX7_put_34 : decode cX7_put 34 = .ok (.aload_n 0, 1) := by decide +kernel
theorem dX7_put_35 : decode cX7_put 35 = .ok (.getfield 18, 3) := by decide +kernel
theorem dX7_put_38 : decode cX7_put 38 = .ok (.aload_n 0, 1) := by decide +kernel
theorem dX7_put_39 : decode cX7_put 39 = .ok (.getfield 21, 3) := by decide +kernel
theorem dX7_put_42 : decode cX7_put 42 = .ok (.iload_n 3, 1) := by decide +kernel
theorem dX7_put_43 : decode cX7_put 43 = .ok (.iastore, 1) := by decide +kernel
theorem dX7_put_44 : decode cX7_put 44 = .ok (.aload_n 0, 1) := by decide +kernel
theorem dX7_put_45 : decode cX7_put 45 = .ok (.dup, 1) := by decide +kernel
theorem dX7_put_46 : decode cX7_put 46 = .ok (.getfield 21, 3) := by decide +kernel
theorem dX7_put_49 : decode cX7_put 49 = .ok (.iconst 1, 1) := by decide +kernel
theorem dX7_put_50 : decode cX7_put 50 = .ok (.iadd, 1) := by decide +kernel
theorem dX7_put_51 : decode cX7_put 51 = .ok (.putfield 21, 3) := by decide +kernel
theorem dX7_put_54 : decode cX7_put 54 = .ok (.iconst 1, 1) := by decide +kernel
theorem dX7_put_55 : decode cX7_put 55 = .ok (.ireturn, 1) := by decide +kernel
theorem dX7_read_0 : decode cX7_read 0 = .ok (.aload_n 0, 1) := by decide +kernel
theorem dX7_read_1 : decode cX7_read 1 = .ok (.iconst 0, 1) := by decide +kernel
theorem dX7_read_2 : decode cX7_read 2 = .ok (.putfield 21, 3) := by decide +kernel
theorem dX7_read_5 : decode cX7_read 5 = .ok (.aload_n 0, 1) := by decide +kernel
theorem dX7_read_6 : decode cX7_read 6 = .ok (.iconst 0, 1) := by decide +kernel
theorem dX7_read_7 : decode cX7_read 7 = .ok (.putfield 25, 3) := by decide +kernel
theorem dX7_read_10 : decode cX7_read 10 = .ok (.aload_n 0, 1) := by decide +kernel
theorem dX7_read_11 : decode cX7_read 11 = .ok (.iconst 0, 1) := by decide +kernel
theorem dX7_read_12 : decode cX7_read 12 = .ok (.putfield 28, 3) := by decide +kernel
theorem dX7_read_15 : decode cX7_read 15 = .ok (.aload_n 0, 1) := by decide +kernel
theorem dX7_read_16 : decode cX7_read 16 = .ok (.iconst 0, 1) := by decide +kernel
theorem dX7_read_17 : decode cX7_read 17 = .ok (.putfield 31, 3) := by decide +kernel
theorem dX7_read_20 : decode cX7_read 20 = .ok (.aload_n 0, 1) := by decide +kernel
theorem dX7_read_21 : decode cX7_read 21 = .ok (.aload_n 1, 1) := by decide +kernel
theorem dX7_read_22 : decode cX7_read 22 = .ok (.iload_n 2, 1) := by decide +kernel
theorem dX7_read_23 : decode cX7_read 23 = .ok (.iconst 0, 1) := by decide +kernel
theorem dX7_read_24 : decode cX7_read 24 = .ok (.invokevirtual 34, 3) := by decide +kernel
theorem dX7_read_27 : decode cX7_read 27 = .ok (.ifCond .eq 14, 3) := by decide +kernel
theorem dX7_read_30 : decode cX7_read 30 = .ok (.aload_n 1, 1) := by decide +kernel
theorem dX7_read_31 : decode cX7_read 31 = .ok (.invokevirtual 38, 3) := by decide +kernel
theorem dX7_read_34 : decode cX7_read 34 = .ok (.ifCond .eq 7, 3) := by decide +kernel
theorem dX7_read_37 : decode cX7_read 37 = .ok (.iconst 1, 1) := by decide +kernel
theorem dX7_read_38 : decode cX7_read 38 = .ok (.goto 4, 3) := by decide +kernel
theorem dX7_read_41 : decode cX7_read 41 = .ok (.iconst 0, 1) := by decide +kernel
theorem dX7_read_42 : decode cX7_read 42 = .ok (.ireturn, 1) := by decide +kernel
theorem dX7_readAgain_0 : decode cX7_readAgain 0 = .ok (.iload_n 3, 1) := by decide +kernel
theorem dX7_readAgain_1 : decode cX7_readAgain 1 = .ok (.bipush 6, 2) := by decide +kernel
theorem dX7_readAgain_3 : decode cX7_readAgain 3 = .ok (.if_icmp .lt 13, 3) := by decide +kernel
theorem dX7_readAgain_6 : decode cX7_readAgain 6 = .ok (.aload_n 1, 1) := by decide +kernel
theorem dX7_readAgain_7 : decode cX7_readAgain 7 = .ok (.iconst 3, 1) := by decide +kernel
theorem dX7_readAgain_8 : decode cX7_readAgain 8 = .ok (.aload_n 1, 1) := by decide +kernel
theorem dX7_readAgain_9 : decode cX7_readAgain 9 = .ok (.getfield 76, 3) := by decide +kernel
theorem dX7_readAgain_12 : decode cX7_readAgain 12 = .ok (.invokevirtual 79, 3) := by decide +kernel
theorem dX7_readAgain_15 : decode cX7_readAgain 15 = .ok (.ireturn, 1) := by decide +kernel
theorem dX7_readAgain_16 : decode cX7_readAgain 16 = .ok (.aload_n 1, 1) := by decide +kernel
theorem dX7_readAgain_17 : decode cX7_readAgain 17 = .ok (.iconst 0, 1) := by decide +kernel
theorem dX7_readAgain_18 : decode cX7_readAgain 18 = .ok (.bipush 60, 2) := by decide +kernel
theorem dX7_readAgain_20 : decode cX7_readAgain 20 = .ok (.invokevirtual 72, 3) := by decide +kernel
theorem dX7_readAgain_23 : decode cX7_readAgain 23 = .ok (.istore 4, 2) := by decide +kernel
theorem dX7_readAgain_25 : decode cX7_readAgain 25 = .ok (.aload_n 0, 1) := by decide +kernel
theorem dX7_readAgain_26 : decode cX7_readAgain 26 = .ok (.getfield 21, 3) := by decide +kernel
theorem dX7_readAgain_29 : decode cX7_readAgain 29 = .ok (.istore 5, 2) := by decide +kernel
theorem dX7_readAgain_31 : decode cX7_readAgain 31 = .ok (.iload 4, 2) := by decide +kernel
theorem dX7_readAgain_33 : decode cX7_readAgain 33 = .ok (.iconst (-1), 1) := by decide +kernel
theorem dX7_readAgain_34 : decode cX7_readAgain 34 = .ok (.if_icmp .eq 15, 3) := by decide +kernel
theorem dX7_readAgain_37 : decode cX7_readAgain 37 = .ok (.aload_n 0, 1) := by decide +kernel
theorem dX7_readAgain_38 : decode cX7_readAgain 38 = .ok (.bipush 6, 2) := by decide +kernel
theorem dX7_readAgain_40 : decode cX7_readAgain 40 = .ok (.iload 4, 2) := by decide +kernel
theorem dX7_readAgain_42 : decode cX7_readAgain 42 = .ok (.iconst 0, 1) := by decide +kernel
theorem dX7_readAgain_43 : decode cX7_readAgain 43 = .ok (.invokevirtual 68, 3) := by decide +kernel
theorem dX7_readAgain_46 : decode cX7_readAgain 46 = .ok (.ifCond .ne 5, 3) := by decide +kernel
theorem dX7_readAgain_49 : decode cX7_readAgain 49 = .ok (.iconst 0, 1) := by decide +kernel
theorem dX7_readAgain_50 : decode cX7_readAgain 50 = .ok (.ireturn, 1) := by decide +kernel
theorem dX7_readAgain_51 : decode cX7_readAgain 51 = .ok (.aload_n 1, 1) := by decide +kernel
theorem dX7_readAgain_52 : decode cX7_readAgain 52 = .ok (.bipush 91, 2) := by decide +kernel
theorem dX7_readAgain_54 : decode cX7_readAgain 54 = .ok (.invokevirtual 51, 3) := by decide +kernel
theorem dX7_readAgain_57 : decode cX7_readAgain 57 = .ok (.ifCond .eq 24, 3) := by decide +kernel
theorem dX7_readAgain_60 : decode cX7_readAgain 60 = .ok (.aload_n 0, 1) := by decide +kernel
theorem dX7_readAgain_61 : decode cX7_readAgain 61 = .ok (.aload_n 1, 1) := by decide +kernel
theorem dX7_readAgain_62 : decode cX7_readAgain 62 = .ok (.iload_n 2, 1) := by decide +kernel
theorem dX7_readAgain_63 : decode cX7_readAgain 63 = .ok (.iload_n 3, 1) := by decide +kernel
theorem dX7_readAgain_64 : decode cX7_readAgain 64 = .ok (.iconst 1, 1) := by decide +kernel
theorem dX7_readAgain_65 : decode cX7_readAgain 65 = .ok (.iadd, 1) := by decide +kernel
theorem dX7_readAgain_66 : decode cX7_readAgain 66 = .ok (.invokevirtual 34, 3) := by decide +kernel
theorem dX7_readAgain_69 : decode cX7_readAgain 69 = .ok (.ifCond .eq 12, 3) := by decide +kernel
theorem dX7_readAgain_72 : decode cX7_readAgain 72 = .ok (.aload_n 1, 1) := by decide +kernel
theorem dX7_readAgain_73 : decode cX7_readAgain 73 = .ok (.bipush 93, 2) := by decide +kernel
theorem dX7_readAgain_75 : decode cX7_readAgain 75 = .ok (.invokevirtual 51, 3) := by decide +kernel
theorem dX7_readAgain_78 : decode cX7_readAgain 78 = .ok (.ifCond .ne 5, 3) := by decide +kernel
theorem dX7_readAgain_81 : decode cX7_readAgain 81 = .ok (.iconst 0, 1) := by decide +kernel
theorem dX7_readAgain_82 : decode cX7_readAgain 82 = .ok (.ireturn, 1) := by decide +kernel
theorem dX7_readAgain_83 : decode cX7_readAgain 83 = .ok (.iload 5, 2) := by decide +kernel
theorem dX7_readAgain_85 : decode cX7_readAgain 85 = .ok (.aload_n 0, 1) := by decide +kernel
theorem dX7_readAgain_86 : decode cX7_readAgain 86 = .ok (.getfield 18, 3) := by decide +kernel
theorem dX7_readAgain_89 : decode cX7_readAgain 89 = .ok (.arraylength, 1) := by decide +kernel
theorem dX7_readAgain_90 : decode cX7_readAgain 90 = .ok (.if_icmp .ge 14, 3) := by decide +kernel
theorem dX7_readAgain_93 : decode cX7_readAgain 93 = .ok (.aload_n 0, 1) := by decide +kernel
theorem dX7_readAgain_94 : decode cX7_readAgain 94 = .ok (.getfield 18, 3) := by decide +kernel
theorem dX7_readAgain_97 : decode cX7_readAgain 97 = .ok (.iload 5, 2) := by decide +kernel
theorem dX7_readAgain_99 : decode cX7_readAgain 99 = .ok (.aload_n 0, 1) := by decide +kernel
theorem dX7_readAgain_100 : decode cX7_readAgain 100 = .ok (.getfield 21, 3) := by decide +kernel
theorem dX7_readAgain_103 : decode cX7_readAgain 103 = .ok (.iastore, 1) := by decide +kernel
theorem dX7_readAgain_104 : decode cX7_readAgain 104 = .ok (.iconst 1, 1) := by decide +kernel
theorem dX7_readAgain_105 : decode cX7_readAgain 105 = .ok (.ireturn, 1) := by decide +kernel
theorem dX7_readPair_0 : decode cX7_readPair 0 = .ok (.aload_n 1, 1) := by decide +kernel
theorem dX7_readPair_1 : decode cX7_readPair 1 = .ok (.iconst 0, 1) := by decide +kernel
theorem dX7_readPair_2 : decode cX7_readPair 2 = .ok (.iload_n 3, 1) := by decide +kernel
theorem dX7_readPair_3 : decode cX7_readPair 3 = .ok (.iconst 1, 1) := by decide +kernel
theorem dX7_readPair_4 : decode cX7_readPair 4 = .ok (.isub, 1) := by decide +kernel
theorem dX7_readPair_5 : decode cX7_readPair 5 = .ok (.invokevirtual 72, 3) := by decide +kernel
theorem dX7_readPair_8 : decode cX7_readPair 8 = .ok (.istore 5, 2) := by decide +kernel
theorem dX7_readPair_10 : decode cX7_readPair 10 = .ok (.iload 5, 2) := by decide +kernel
theorem dX7_readPair_12 : decode cX7_readPair 12 = .ok (.iconst (-1), 1) := by decide +kernel
theorem dX7_readPair_13 : decode cX7_readPair 13 = .ok (.if_icmp .ne 5, 3) := by decide +kernel
theorem dX7_readPair_16 : decode cX7_readPair 16 = .ok (.iconst 0, 1) := by decide +kernel
theorem dX7_readPair_17 : decode cX7_readPair 17 = .ok (.ireturn, 1) := by decide +kernel
theorem dX7_readPair_18 : decode cX7_readPair 18 = .ok (.aload_n 1, 1) := by decide +kernel
theorem dX7_readPair_19 : decode cX7_readPair 19 = .ok (.iconst 0, 1) := by decide +kernel
theorem dX7_readPair_20 : decode cX7_readPair 20 = .ok (.iload 4, 2) := by decide +kernel
theorem dX7_readPair_22 : decode cX7_readPair 22 = .ok (.invokevirtual 72, 3) := by decide +kernel
theorem dX7_readPair_25 : decode cX7_readPair 25 = .ok (.istore 6, 2) := by decide +kernel
theorem dX7_readPair_27 : decode cX7_readPair 27 = .ok (.iload 6, 2) := by decide +kernel
theorem dX7_readPair_29 : decode cX7_readPair 29 = .ok (.iconst (-1), 1) := by decide +kernel
theorem dX7_readPair_30 : decode cX7_readPair 30 = .ok (.if_icmp .eq 19, 3) := by decide +kernel
theorem dX7_readPair_33 : decode cX7_readPair 33 = .ok (.aload_n 0, 1) := by decide +kernel
theorem dX7_readPair_34 : decode cX7_readPair 34 = .ok (.iload_n 2, 1) := by decide +kernel
theorem dX7_readPair_35 : decode cX7_readPair 35 = .ok (.iload 5, 2) := by decide +kernel
theorem dX7_readPair_37 : decode cX7_readPair 37 = .ok (.iload 6, 2) := by decide +kernel
theorem dX7_readPair_39 : decode cX7_readPair 39 = .ok (.invokevirtual 68, 3) := by decide +kernel
theorem dX7_readPair_42 : decode cX7_readPair 42 = .ok (.ifCond .eq 7, 3) := by decide +kernel
theorem dX7_readPair_45 : decode cX7_readPair 45 = .ok (.iconst 1, 1) := by decide +kernel
theorem dX7_readPair_46 : decode cX7_readPair 46 = .ok (.goto 4, 3) := by decide +kernel
theorem dX7_readPair_49 : decode cX7_readPair 49 = .ok (.iconst 0, 1) := by decide +kernel
theorem dX7_readPair_50 : decode cX7_readPair 50 = .ok (.ireturn, 1) := by decide +kernel
theorem dX7_readStep_0 : decode cX7_readStep 0 = .ok (.aload_n 1, 1) := by decide +kernel
theorem dX7_readStep_1 : decode cX7_readStep 1 = .ok (.ldc 55, 2) := by decide +kernel
theorem dX7_readStep_3 : decode cX7_readStep 3 = .ok (.invokevirtual 57, 3) := by decide +kernel
theorem dX7_readStep_6 : decode cX7_readStep 6 = .ok (.istore 4, 2) := by decide +kernel
theorem dX7_readStep_8 : decode cX7_readStep 8 = .ok (.iload 4, 2) := by decide +kernel
theorem dX7_readStep_10 : decode cX7_readStep 10 = .ok (.tableswitch 88 (-1) 6 #[46, 48, 88, 88, 60, 88, 79, 71], 46) := by decide +kernel
theorem dX7_readStep_56 : decode cX7_readStep 56 = .ok (.iconst 0, 1) := by decide +kernel
theorem dX7_readStep_57 : decode cX7_readStep 57 = .ok (.ireturn, 1) := by decide +kernel
theorem dX7_readStep_58 : decode cX7_readStep 58 = .ok (.aload_n 0, 1) := by decide +kernel
theorem dX7_readStep_59 : decode cX7_readStep 59 = .ok (.aload_n 1, 1) := by decide +kernel
theorem dX7_readStep_60 : decode cX7_readStep 60 = .ok (.iload 4, 2) := by decide +kernel
theorem dX7_readStep_62 : decode cX7_readStep 62 = .ok (.iload_n 2, 1) := by decide +kernel
theorem dX7_readStep_63 : decode cX7_readStep 63 = .ok (.iload_n 2, 1) := by decide +kernel
theorem dX7_readStep_64 : decode cX7_readStep 64 = .ok (.iconst 1, 1) := by decide +kernel
theorem dX7_readStep_65 : decode cX7_readStep 65 = .ok (.isub, 1) := by decide +kernel
theorem dX7_readStep_66 : decode cX7_readStep 66 = .ok (.invokevirtual 61, 3) := by decide +kernel
theorem dX7_readStep_69 : decode cX7_readStep 69 = .ok (.ireturn, 1) := by decide +kernel
theorem dX7_readStep_70 : decode cX7_readStep 70 = .ok (.aload_n 0, 1) := by decide +kernel
theorem dX7_readStep_71 : decode cX7_readStep 71 = .ok (.aload_n 1, 1) := by decide +kernel
theorem dX7_readStep_72 : decode cX7_readStep 72 = .ok (.iload 4, 2) := by decide +kernel
theorem dX7_readStep_74 : decode cX7_readStep 74 = .ok (.iload_n 2, 1) := by decide +kernel
theorem dX7_readStep_75 : decode cX7_readStep 75 = .ok (.bipush 20, 2) := by decide +kernel
theorem dX7_readStep_77 : decode cX7_readStep 77 = .ok (.invokevirtual 61, 3) := by decide +kernel
theorem dX7_readStep_80 : decode cX7_readStep 80 = .ok (.ireturn, 1) := by decide +kernel
theorem dX7_readStep_81 : decode cX7_readStep 81 = .ok (.aload_n 0, 1) := by decide +kernel
theorem dX7_readStep_82 : decode cX7_readStep 82 = .ok (.aload_n 1, 1) := by decide +kernel
theorem dX7_readStep_83 : decode cX7_readStep 83 = .ok (.iload_n 2, 1) := by decide +kernel
theorem dX7_readStep_84 : decode cX7_readStep 84 = .ok (.iload_n 3, 1) := by decide +kernel
theorem dX7_readStep_85 : decode cX7_readStep 85 = .ok (.invokevirtual 65, 3) := by decide +kernel
theorem dX7_readStep_88 : decode cX7_readStep 88 = .ok (.ireturn, 1) := by decide +kernel
theorem dX7_readStep_89 : decode cX7_readStep 89 = .ok (.aload_n 0, 1) := by decide +kernel
theorem dX7_readStep_90 : decode cX7_readStep 90 = .ok (.iload 4, 2) := by decide +kernel
theorem dX7_readStep_92 : decode cX7_readStep 92 = .ok (.iconst 0, 1) := by decide +kernel
theorem dX7_readStep_93 : decode cX7_readStep 93 = .ok (.iconst 0, 1) := by decide +kernel
theorem dX7_readStep_94 : decode cX7_readStep 94 = .ok (.invokevirtual 68, 3) := by decide +kernel
theorem dX7_readStep_97 : decode cX7_readStep 97 = .ok (.ireturn, 1) := by decide +kernel
theorem dX7_readStep_98 : decode cX7_readStep 98 = .ok (.aload_n 1, 1) := by decide +kernel
theorem dX7_readStep_99 : decode cX7_readStep 99 = .ok (.iconst 0, 1) := by decide +kernel
theorem dX7_readStep_100 : decode cX7_readStep 100 = .ok (.iload_n 2, 1) := by decide +kernel
theorem dX7_readStep_101 : decode cX7_readStep 101 = .ok (.iconst 1, 1) := by decide +kernel
theorem dX7_readStep_102 : decode cX7_readStep 102 = .ok (.isub, 1) := by decide +kernel
theorem dX7_readStep_103 : decode cX7_readStep 103 = .ok (.invokevirtual 72, 3) := by decide +kernel
theorem dX7_readStep_106 : decode cX7_readStep 106 = .ok (.istore 5, 2) := by decide +kernel
theorem dX7_readStep_108 : decode cX7_readStep 108 = .ok (.iload 5, 2) := by decide +kernel
theorem dX7_readStep_110 : decode cX7_readStep 110 = .ok (.iconst (-1), 1) := by decide +kernel
theorem dX7_readStep_111 : decode cX7_readStep 111 = .ok (.if_icmp .eq 19, 3) := by decide +kernel
theorem dX7_readStep_114 : decode cX7_readStep 114 = .ok (.aload_n 0, 1) := by decide +kernel
theorem dX7_readStep_115 : decode cX7_readStep 115 = .ok (.iload 4, 2) := by decide +kernel
theorem dX7_readStep_117 : decode cX7_readStep 117 = .ok (.iload 5, 2) := by decide +kernel
theorem dX7_readStep_119 : decode cX7_readStep 119 = .ok (.iconst 0, 1) := by decide +kernel
theorem dX7_readStep_120 : decode cX7_readStep 120 = .ok (.invokevirtual 68, 3) := by decide +kernel
theorem dX7_readStep_123 : decode cX7_readStep 123 = .ok (.ifCond .eq 7, 3) := by decide +kernel
theorem dX7_readStep_126 : decode cX7_readStep 126 = .ok (.iconst 1, 1) := by decide +kernel
theorem dX7_readStep_127 : decode cX7_readStep 127 = .ok (.goto 4, 3) := by decide +kernel
theorem dX7_readStep_130 : decode cX7_readStep 130 = .ok (.iconst 0, 1) := by decide +kernel
theorem dX7_readStep_131 : decode cX7_readStep 131 = .ok (.ireturn, 1) := by decide +kernel
theorem dX7_readSteps_0 : decode cX7_readSteps 0 = .ok (.iconst 0, 1) := by decide +kernel
theorem dX7_readSteps_1 : decode cX7_readSteps 1 = .ok (.istore 4, 2) := by decide +kernel
theorem dX7_readSteps_3 : decode cX7_readSteps 3 = .ok (.iload 4, 2) := by decide +kernel
theorem dX7_readSteps_5 : decode cX7_readSteps 5 = .ok (.sipush 150, 3) := by decide +kernel
theorem dX7_readSteps_8 : decode cX7_readSteps 8 = .ok (.if_icmp .gt 51, 3) := by decide +kernel
theorem dX7_readSteps_11 : decode cX7_readSteps 11 = .ok (.aload_n 1, 1) := by decide +kernel
theorem dX7_readSteps_12 : decode cX7_readSteps 12 = .ok (.invokevirtual 44, 3) := by decide +kernel
theorem dX7_readSteps_15 : decode cX7_readSteps 15 = .ok (.istore 5, 2) := by decide +kernel
theorem dX7_readSteps_17 : decode cX7_readSteps 17 = .ok (.iload 5, 2) := by decide +kernel
theorem dX7_readSteps_19 : decode cX7_readSteps 19 = .ok (.iconst (-1), 1) := by decide +kernel
theorem dX7_readSteps_20 : decode cX7_readSteps 20 = .ok (.if_icmp .eq 10, 3) := by decide +kernel
theorem dX7_readSteps_23 : decode cX7_readSteps 23 = .ok (.iload 5, 2) := by decide +kernel
theorem dX7_readSteps_25 : decode cX7_readSteps 25 = .ok (.bipush 93, 2) := by decide +kernel
theorem dX7_readSteps_27 : decode cX7_readSteps 27 = .ok (.if_icmp .ne 5, 3) := by decide +kernel
theorem dX7_readSteps_30 : decode cX7_readSteps 30 = .ok (.iconst 1, 1) := by decide +kernel
theorem dX7_readSteps_31 : decode cX7_readSteps 31 = .ok (.ireturn, 1) := by decide +kernel
theorem dX7_readSteps_32 : decode cX7_readSteps 32 = .ok (.aload_n 0, 1) := by decide +kernel
theorem dX7_readSteps_33 : decode cX7_readSteps 33 = .ok (.aload_n 1, 1) := by decide +kernel
theorem dX7_readSteps_34 : decode cX7_readSteps 34 = .ok (.iload_n 2, 1) := by decide +kernel
theorem dX7_readSteps_35 : decode cX7_readSteps 35 = .ok (.iload_n 3, 1) := by decide +kernel
theorem dX7_readSteps_36 : decode cX7_readSteps 36 = .ok (.invokevirtual 48, 3) := by decide +kernel
theorem dX7_readSteps_39 : decode cX7_readSteps 39 = .ok (.ifCond .eq 12, 3) := by decide +kernel
theorem dX7_readSteps_42 : decode cX7_readSteps 42 = .ok (.aload_n 1, 1) := by decide +kernel
theorem dX7_readSteps_43 : decode cX7_readSteps 43 = .ok (.bipush 59, 2) := by decide +kernel
theorem dX7_readSteps_45 : decode cX7_readSteps 45 = .ok (.invokevirtual 51, 3) := by decide +kernel
theorem dX7_readSteps_48 : decode cX7_readSteps 48 = .ok (.ifCond .ne 5, 3) := by decide +kernel
theorem dX7_readSteps_51 : decode cX7_readSteps 51 = .ok (.iconst 0, 1) := by decide +kernel
theorem dX7_readSteps_52 : decode cX7_readSteps 52 = .ok (.ireturn, 1) := by decide +kernel
theorem dX7_readSteps_53 : decode cX7_readSteps 53 = .ok (.iinc 4 1, 3) := by decide +kernel
theorem dX7_readSteps_56 : decode cX7_readSteps 56 = .ok (.goto (-53), 3) := by decide +kernel
theorem dX7_readSteps_59 : decode cX7_readSteps 59 = .ok (.iconst 1, 1) := by decide +kernel
theorem dX7_readSteps_60 : decode cX7_readSteps 60 = .ok (.ireturn, 1) := by decide +kernel
theorem dX8_append_0 : decode cX8_append 0 = .ok (.bipush 24, 2) := by decide +kernel
theorem dX8_append_2 : decode cX8_append 2 = .ok (.istore_n 2, 1) := by decide +kernel
theorem dX8_append_3 : decode cX8_append 3 = .ok (.iload_n 2, 1) := by decide +kernel
theorem dX8_append_4 : decode cX8_append 4 = .ok (.ifCond .lt 54, 3) := by decide +kernel
theorem dX8_append_7 : decode cX8_append 7 = .ok (.aload_n 0, 1) := by decide +kernel
theorem dX8_append_8 : decode cX8_append 8 = .ok (.getfield 15, 3) := by decide +kernel
theorem dX8_append_11 : decode cX8_append 11 = .ok (.ifCond .lt 41, 3) := by decide +kernel
theorem dX8_append_14 : decode cX8_append 14 = .ok (.aload_n 0, 1) := by decide +kernel
theorem dX8_append_15 : decode cX8_append 15 = .ok (.getfield 15, 3) := by decide +kernel
theorem dX8_append_18 : decode cX8_append 18 = .ok (.aload_n 0, 1) := by decide +kernel
theorem dX8_append_19 : decode cX8_append 19 = .ok (.getfield 9, 3) := by decide +kernel
theorem dX8_append_22 : decode cX8_append 22 = .ok (.arraylength, 1) := by decide +kernel
theorem dX8_append_23 : decode cX8_append 23 = .ok (.if_icmp .ge 29, 3) := by decide +kernel
theorem dX8_append_26 : decode cX8_append 26 = .ok (.aload_n 0, 1) := by decide +kernel
theorem dX8_append_27 : decode cX8_append 27 = .ok (.getfield 9, 3) := by decide +kernel
theorem dX8_append_30 : decode cX8_append 30 = .ok (.aload_n 0, 1) := by decide +kernel
theorem dX8_append_31 : decode cX8_append 31 = .ok (.getfield 15, 3) := by decide +kernel
theorem dX8_append_34 : decode cX8_append 34 = .ok (.iload_n 1, 1) := by decide +kernel
theorem dX8_append_35 : decode cX8_append 35 = .ok (.iload_n 2, 1) := by decide +kernel
theorem dX8_append_36 : decode cX8_append 36 = .ok (.iushr, 1) := by decide +kernel
theorem dX8_append_37 : decode cX8_append 37 = .ok (.sipush 255, 3) := by decide +kernel
theorem dX8_append_40 : decode cX8_append 40 = .ok (.iand, 1) := by decide +kernel
theorem dX8_append_41 : decode cX8_append 41 = .ok (.iastore, 1) := by decide +kernel
theorem dX8_append_42 : decode cX8_append 42 = .ok (.aload_n 0, 1) := by decide +kernel
theorem dX8_append_43 : decode cX8_append 43 = .ok (.dup, 1) := by decide +kernel
theorem dX8_append_44 : decode cX8_append 44 = .ok (.getfield 15, 3) := by decide +kernel
theorem dX8_append_47 : decode cX8_append 47 = .ok (.iconst 1, 1) := by decide +kernel
theorem dX8_append_48 : decode cX8_append 48 = .ok (.iadd, 1) := by decide +kernel
theorem dX8_append_49 : decode cX8_append 49 = .ok (.putfield 15, 3) := by decide +kernel
theorem dX8_append_52 : decode cX8_append 52 = .ok (.iinc 2 (-8), 3) := by decide +kernel
theorem dX8_append_55 : decode cX8_append 55 = .ok (.goto (-52), 3) := by decide +kernel
theorem dX8_append_58 : decode cX8_append 58 = .ok (.return_, 1) := by decide +kernel
theorem dX8_fail_0 : decode cX8_fail 0 = .ok (.aload_n 0, 1) := by decide +kernel
theorem dX8_fail_1 : decode cX8_fail 1 = .ok (.iload_n 1, 1) := by decide +kernel
theorem dX8_fail_2 : decode cX8_fail 2 = .ok (.putfield 25, 3) := by decide +kernel
theorem dX8_fail_5 : decode cX8_fail 5 = .ok (.aload_n 0, 1) := by decide +kernel
theorem dX8_fail_6 : decode cX8_fail 6 = .ok (.iload_n 2, 1) := by decide +kernel
theorem dX8_fail_7 : decode cX8_fail 7 = .ok (.putfield 28, 3) := by decide +kernel
theorem dX8_fail_10 : decode cX8_fail 10 = .ok (.iconst 0, 1) := by decide +kernel
theorem dX8_fail_11 : decode cX8_fail 11 = .ok (.ireturn, 1) := by decide +kernel
theorem dX8_failHere_0 : decode cX8_failHere 0 = .ok (.aload_n 0, 1) := by decide +kernel
theorem dX8_failHere_1 : decode cX8_failHere 1 = .ok (.iload_n 1, 1) := by decide +kernel
theorem dX8_failHere_2 : decode cX8_failHere 2 = .ok (.aload_n 0, 1) := by decide +kernel
theorem dX8_failHere_3 : decode cX8_failHere 3 = .ok (.getfield 22, 3) := by decide +kernel
theorem dX8_failHere_6 : decode cX8_failHere 6 = .ok (.invokevirtual 40, 3) := by decide +kernel
theorem dX8_failHere_9 : decode cX8_failHere 9 = .ok (.ireturn, 1) := by decide +kernel
theorem dX8_hasRoom_0 : decode cX8_hasRoom 0 = .ok (.aload_n 0, 1) := by decide +kernel
theorem dX8_hasRoom_1 : decode cX8_hasRoom 1 = .ok (.getfield 15, 3) := by decide +kernel
theorem dX8_hasRoom_4 : decode cX8_hasRoom 4 = .ok (.bipush 20, 2) := by decide +kernel
theorem dX8_hasRoom_6 : decode cX8_hasRoom 6 = .ok (.iadd, 1) := by decide +kernel
theorem dX8_hasRoom_7 : decode cX8_hasRoom 7 = .ok (.sipush 600, 3) := by decide +kernel
theorem dX8_hasRoom_10 : decode cX8_hasRoom 10 = .ok (.if_icmp .gt 7, 3) := by decide +kernel
theorem dX8_hasRoom_13 : decode cX8_hasRoom 13 = .ok (.iconst 1, 1) := by decide +kernel
theorem dX8_hasRoom_14 : decode cX8_hasRoom 14 = .ok (.goto 4, 3) := by decide +kernel
theorem dX8_hasRoom_17 : decode cX8_hasRoom 17 = .ok (.iconst 0, 1) := by decide +kernel
theorem dX8_hasRoom_18 : decode cX8_hasRoom 18 = .ok (.ireturn, 1) := by decide +kernel
theorem dX8_init_0 : decode cX8_init 0 = .ok (.aload_n 0, 1) := by decide +kernel
theorem dX8_init_1 : decode cX8_init 1 = .ok (.invokespecial 3, 3) := by decide +kernel
theorem dX8_init_4 : decode cX8_init 4 = .ok (.aload_n 0, 1) := by decide +kernel
theorem dX8_init_5 : decode cX8_init 5 = .ok (.sipush 600, 3) := by decide +kernel
theorem dX8_init_8 : decode cX8_init 8 = .ok (.newarray .int, 2) := by decide +kernel
theorem dX8_init_10 : decode cX8_init 10 = .ok (.putfield 9, 3) := by decide +kernel
theorem dX8_init_13 : decode cX8_init 13 = .ok (.aload_n 0, 1) := by decide +kernel
theorem dX8_init_14 : decode cX8_init 14 = .ok (.iconst 0, 1) := by decide +kernel
theorem dX8_init_15 : decode cX8_init 15 = .ok (.putfield 15, 3) := by decide +kernel
theorem dX8_init_18 : decode cX8_init 18 = .ok (.aload_n 0, 1) := by decide +kernel
theorem dX8_init_19 : decode cX8_init 19 = .ok (.iconst 0, 1) := by decide +kernel
theorem dX8_init_20 : decode cX8_init 20 = .ok (.putfield 19, 3) := by decide +kernel
theorem dX8_init_23 : decode cX8_init 23 = .ok (.aload_n 0, 1) := by decide +kernel
theorem dX8_init_24 : decode cX8_init 24 = .ok (.iconst 0, 1) := by decide +kernel
theorem dX8_init_25 : decode cX8_init 25 = .ok (.putfield 22, 3) := by decide +kernel
theorem dX8_init_28 : decode cX8_init 28 = .ok (.aload_n 0, 1) := by decide +kernel
theorem dX8_init_29 : decode cX8_init 29 = .ok (.iconst 0, 1) := by decide +kernel
theorem dX8_init_30 : decode cX8_init 30 = .ok (.putfield 25, 3) := by decide +kernel
theorem dX8_init_33 : decode cX8_init 33 = .ok (.aload_n 0, 1) := by decide +kernel
theorem dX8_init_34 : decode cX8_init 34 = .ok (.iconst (-1), 1) := by decide +kernel
theorem dX8_init_35 : decode cX8_init 35 = .ok (.putfield 28, 3) := by decide +kernel
theorem dX8_init_38 : decode cX8_init 38 = .ok (.aload_n 0, 1) := by decide +kernel
theorem dX8_init_39 : decode cX8_init 39 = .ok (.iconst 0, 1) := by decide +kernel
theorem dX8_init_40 : decode cX8_init 40 = .ok (.putfield 31, 3) := by decide +kernel
theorem dX8_init_43 : decode cX8_init 43 = .ok (.return_, 1) := by decide +kernel
theorem dX8_isDigit_0 : decode cX8_isDigit 0 = .ok (.iload_n 0, 1) := by decide +kernel
theorem dX8_isDigit_1 : decode cX8_isDigit 1 = .ok (.bipush 48, 2) := by decide +kernel
theorem dX8_isDigit_3 : decode cX8_isDigit 3 = .ok (.if_icmp .lt 13, 3) := by decide +kernel
theorem dX8_isDigit_6 : decode cX8_isDigit 6 = .ok (.iload_n 0, 1) := by decide +kernel
theorem dX8_isDigit_7 : decode cX8_isDigit 7 = .ok (.bipush 57, 2) := by decide +kernel
theorem dX8_isDigit_9 : decode cX8_isDigit 9 = .ok (.if_icmp .gt 7, 3) := by decide +kernel
theorem dX8_isDigit_12 : decode cX8_isDigit 12 = .ok (.iconst 1, 1) := by decide +kernel
theorem dX8_isDigit_13 : decode cX8_isDigit 13 = .ok (.goto 4, 3) := by decide +kernel
theorem dX8_isDigit_16 : decode cX8_isDigit 16 = .ok (.iconst 0, 1) := by decide +kernel
theorem dX8_isDigit_17 : decode cX8_isDigit 17 = .ok (.ireturn, 1) := by decide +kernel
theorem dX8_isWord_0 : decode cX8_isWord 0 = .ok (.iload_n 3, 1) := by decide +kernel
theorem dX8_isWord_1 : decode cX8_isWord 1 = .ok (.iload_n 2, 1) := by decide +kernel
theorem dX8_isWord_2 : decode cX8_isWord 2 = .ok (.isub, 1) := by decide +kernel
theorem dX8_isWord_3 : decode cX8_isWord 3 = .ok (.aload_n 0, 1) := by decide +kernel
theorem dX8_isWord_4 : decode cX8_isWord 4 = .ok (.getfield 22, 3) := by decide +kernel
theorem dX8_isWord_7 : decode cX8_isWord 7 = .ok (.aload_n 0, 1) := by decide +kernel
theorem dX8_isWord_8 : decode cX8_isWord 8 = .ok (.getfield 31, 3) := by decide +kernel
theorem dX8_isWord_11 : decode cX8_isWord 11 = .ok (.isub, 1) := by decide +kernel
theorem dX8_isWord_12 : decode cX8_isWord 12 = .ok (.if_icmp .eq 5, 3) := by decide +kernel
theorem dX8_isWord_15 : decode cX8_isWord 15 = .ok (.iconst 0, 1) := by decide +kernel
theorem dX8_isWord_16 : decode cX8_isWord 16 = .ok (.ireturn, 1) := by decide +kernel
theorem dX8_isWord_17 : decode cX8_isWord 17 = .ok (.iconst 0, 1) := by decide +kernel
theorem dX8_isWord_18 : decode cX8_isWord 18 = .ok (.istore 4, 2) := by decide +kernel
theorem dX8_isWord_20 : decode cX8_isWord 20 = .ok (.iload 4, 2) := by decide +kernel
theorem dX8_isWord_22 : decode cX8_isWord 22 = .ok (.iload_n 3, 1) := by decide +kernel
theorem dX8_isWord_23 : decode cX8_isWord 23 = .ok (.iload_n 2, 1) := by decide +kernel
theorem dX8_isWord_24 : decode cX8_isWord 24 = .ok (.isub, 1) := by decide +kernel
theorem dX8_isWord_25 : decode cX8_isWord 25 = .ok (.if_icmp .ge 34, 3) := by decide +kernel
theorem dX8_isWord_28 : decode cX8_isWord 28 = .ok (.aload_n 1, 1) := by decide +kernel
theorem dX8_isWord_29 : decode cX8_isWord 29 = .ok (.iload_n 2, 1) := by decide +kernel
theorem dX8_isWord_30 : decode cX8_isWord 30 = .ok (.iload 4, 2) := by decide +kernel
theorem dX8_isWord_32 : decode cX8_isWord 32 = .ok (.iadd, 1) := by decide +kernel
theorem dX8_isWord_33 : decode cX8_isWord 33 = .ok (.invokevirtual 57, 3) := by decide +kernel
theorem dX8_isWord_36 : decode cX8_isWord 36 = .ok (.aload_n 0, 1) := by decide +kernel
theorem dX8_isWord_37 : decode cX8_isWord 37 = .ok (.getfield 9, 3) := by decide +kernel
theorem dX8_isWord_40 : decode cX8_isWord 40 = .ok (.aload_n 0, 1) := by decide +kernel
theorem dX8_isWord_41 : decode cX8_isWord 41 = .ok (.getfield 31, 3) := by decide +kernel
theorem dX8_isWord_44 : decode cX8_isWord 44 = .ok (.iload 4, 2) := by decide +kernel
theorem dX8_isWord_46 : decode cX8_isWord 46 = .ok (.iadd, 1) := by decide +kernel
theorem dX8_isWord_47 : decode cX8_isWord 47 = .ok (.iaload, 1) := by decide +kernel
theorem dX8_isWord_48 : decode cX8_isWord 48 = .ok (.if_icmp .eq 5, 3) := by decide +kernel
theorem dX8_isWord_51 : decode cX8_isWord 51 = .ok (.iconst 0, 1) := by decide +kernel
theorem dX8_isWord_52 : decode cX8_isWord 52 = .ok (.ireturn, 1) := by decide +kernel
theorem dX8_isWord_53 : decode cX8_isWord 53 = .ok (.iinc 4 1, 3) := by decide +kernel
theorem dX8_isWord_56 : decode cX8_isWord 56 = .ok (.goto (-36), 3) := by decide +kernel
theorem dX8_isWord_59 : decode cX8_isWord 59 = .ok (.iconst 1, 1) := by decide +kernel
theorem dX8_isWord_60 : decode cX8_isWord 60 = .ok (.ireturn, 1) := by decide +kernel
theorem dX8_next_0 : decode cX8_next 0 = .ok (.aload_n 0, 1) := by decide +kernel
theorem dX8_next_1 : decode cX8_next 1 = .ok (.getfield 22, 3) := by decide +kernel
theorem dX8_next_4 : decode cX8_next 4 = .ok (.aload_n 0, 1) := by decide +kernel
theorem dX8_next_5 : decode cX8_next 5 = .ok (.getfield 19, 3) := by decide +kernel
theorem dX8_next_8 : decode cX8_next 8 = .ok (.if_icmp .ge 30, 3) := by decide +kernel
theorem dX8_next_11 : decode cX8_next 11 = .ok (.aload_n 0, 1) := by decide +kernel
theorem dX8_next_12 : decode cX8_next 12 = .ok (.getfield 9, 3) := by decide +kernel
theorem dX8_next_15 : decode cX8_next 15 = .ok (.aload_n 0, 1) := by decide +kernel
theorem dX8_next_16 : decode cX8_next 16 = .ok (.getfield 22, 3) := by decide +kernel
theorem dX8_next_19 : decode cX8_next 19 = .ok (.iaload, 1) := by decide +kernel
theorem dX8_next_20 : decode cX8_next 20 = .ok (.bipush 32, 2) := by decide +kernel
theorem dX8_next_22 : decode cX8_next 22 = .ok (.if_icmp .ne 16, 3) := by decide +kernel
theorem dX8_next_25 : decode cX8_next 25 = .ok (.aload_n 0, 1) := by decide +kernel
theorem dX8_next_26 : decode cX8_next 26 = .ok (.dup, 1) := by decide +kernel
theorem dX8_next_27 : decode cX8_next 27 = .ok (.getfield 22, 3) := by decide +kernel
theorem dX8_next_30 : decode cX8_next 30 = .ok (.iconst 1, 1) := by decide +kernel
theorem dX8_next_31 : decode cX8_next 31 = .ok (.iadd, 1) := by decide +kernel
theorem dX8_next_32 : decode cX8_next 32 = .ok (.putfield 22, 3) := by decide +kernel
theorem dX8_next_35 : decode cX8_next 35 = .ok (.goto (-35), 3) := by decide +kernel
theorem dX8_next_38 : decode cX8_next 38 = .ok (.aload_n 0, 1) := by decide +kernel
theorem dX8_next_39 : decode cX8_next 39 = .ok (.getfield 22, 3) := by decide +kernel
theorem dX8_next_42 : decode cX8_next 42 = .ok (.aload_n 0, 1) := by decide +kernel
theorem dX8_next_43 : decode cX8_next 43 = .ok (.getfield 19, 3) := by decide +kernel
theorem dX8_next_46 : decode cX8_next 46 = .ok (.if_icmp .ge 15, 3) := by decide +kernel
theorem dX8_next_49 : decode cX8_next 49 = .ok (.aload_n 0, 1) := by decide +kernel
theorem dX8_next_50 : decode cX8_next 50 = .ok (.getfield 9, 3) := by decide +kernel
theorem dX8_next_53 : decode cX8_next 53 = .ok (.aload_n 0, 1) := by decide +kernel
theorem dX8_next_54 : decode cX8_next 54 = .ok (.getfield 22, 3) := by decide +kernel
theorem dX8_next_57 : decode cX8_next 57 = .ok (.iaload, 1) := by decide +kernel
theorem dX8_next_58 : decode cX8_next 58 = .ok (.goto 4, 3) := by decide +kernel
theorem dX8_next_61 : decode cX8_next 61 = .ok (.iconst (-1), 1) := by decide +kernel
theorem dX8_next_62 : decode cX8_next 62 = .ok (.ireturn, 1) := by decide +kernel
theorem dX8_nothingMore_0 : decode cX8_nothingMore 0 = .ok (.aload_n 0, 1) := by decide +kernel
theorem dX8_nothingMore_1 : decode cX8_nothingMore 1 = .ok (.invokevirtual 44, 3) := by decide +kernel
theorem dX8_nothingMore_4 : decode cX8_nothingMore 4 = .ok (.iconst (-1), 1) := by decide +kernel
theorem dX8_nothingMore_5 : decode cX8_nothingMore 5 = .ok (.if_icmp .eq 15, 3) := by decide +kernel
theorem dX8_nothingMore_8 : decode cX8_nothingMore 8 = .ok (.aload_n 0, 1) := by decide +kernel
theorem dX8_nothingMore_9 : decode cX8_nothingMore 9 = .ok (.iconst 1, 1) := by decide +kernel
theorem dX8_nothingMore_10 : decode cX8_nothingMore 10 = .ok (.aload_n 0, 1) := by decide +kernel
theorem dX8_nothingMore_11 : decode cX8_nothingMore 11 = .ok (.getfield 22, 3) := by decide +kernel
theorem dX8_nothingMore_14 : decode cX8_nothingMore 14 = .ok (.invokevirtual 40, 3) := by decide +kernel
theorem dX8_nothingMore_17 : decode cX8_nothingMore 17 = .ok (.ifCond .eq 7, 3) := by decide +kernel
theorem dX8_nothingMore_20 : decode cX8_nothingMore 20 = .ok (.iconst 1, 1) := by decide +kernel
theorem dX8_nothingMore_21 : decode cX8_nothingMore 21 = .ok (.goto 4, 3) := by decide +kernel
theorem dX8_nothingMore_24 : decode cX8_nothingMore 24 = .ok (.iconst 0, 1) := by decide +kernel
theorem dX8_nothingMore_25 : decode cX8_nothingMore 25 = .ok (.ireturn, 1) := by decide +kernel
theorem dX8_number_0 : decode cX8_number 0 = .ok (.aload_n 0, 1) := by decide +kernel
theorem dX8_number_1 : decode cX8_number 1 = .ok (.invokevirtual 44, 3) := by decide +kernel
theorem dX8_number_4 : decode cX8_number 4 = .ok (.invokestatic 48, 3) := by decide +kernel
theorem dX8_number_7 : decode cX8_number 7 = .ok (.ifCond .ne 15, 3) := by decide +kernel
theorem dX8_number_10 : decode cX8_number 10 = .ok (.aload_n 0, 1) := by decide +kernel
theorem dX8_number_11 : decode cX8_number 11 = .ok (.iconst 1, 1) := by decide +kernel
theorem dX8_number_12 : decode cX8_number 12 = .ok (.aload_n 0, 1) := by decide +kernel
theorem dX8_number_13 : decode cX8_number 13 = .ok (.getfield 22, 3) := by decide +kernel
theorem dX8_number_16 : decode cX8_number 16 = .ok (.invokevirtual 40, 3) := by decide +kernel
theorem dX8_number_19 : decode cX8_number 19 = .ok (.pop, 1) := by decide +kernel
theorem dX8_number_20 : decode cX8_number 20 = .ok (.iconst (-1), 1) := by decide +kernel
theorem dX8_number_21 : decode cX8_number 21 = .ok (.ireturn, 1) := by decide +kernel
theorem dX8_number_22 : decode cX8_number 22 = .ok (.aload_n 0, 1) := by decide +kernel
theorem dX8_number_23 : decode cX8_number 23 = .ok (.aload_n 0, 1) := by decide +kernel
theorem dX8_number_24 : decode cX8_number 24 = .ok (.getfield 22, 3) := by decide +kernel
theorem dX8_number_27 : decode cX8_number 27 = .ok (.putfield 31, 3) := by decide +kernel
theorem dX8_number_30 : decode cX8_number 30 = .ok (.iconst 0, 1) := by decide +kernel
theorem dX8_number_31 : decode cX8_number 31 = .ok (.istore_n 3, 1) := by decide +kernel
theorem dX8_number_32 : decode cX8_number 32 = .ok (.aload_n 0, 1) := by decide +kernel
theorem dX8_number_33 : decode cX8_number 33 = .ok (.getfield 22, 3) := by decide +kernel
theorem dX8_number_36 : decode cX8_number 36 = .ok (.aload_n 0, 1) := by decide +kernel
theorem dX8_number_37 : decode cX8_number 37 = .ok (.getfield 19, 3) := by decide +kernel
theorem dX8_number_40 : decode cX8_number 40 = .ok (.if_icmp .ge 59, 3) := by decide +kernel
theorem dX8_number_43 : decode cX8_number 43 = .ok (.aload_n 0, 1) := by decide +kernel
theorem dX8_number_44 : decode cX8_number 44 = .ok (.getfield 9, 3) := by decide +kernel
theorem dX8_number_47 : decode cX8_number 47 = .ok (.aload_n 0, 1) := by decide +kernel
theorem dX8_number_48 : decode cX8_number 48 = .ok (.getfield 22, 3) := by decide +kernel
theorem dX8_number_51 : decode cX8_number 51 = .ok (.iaload, 1) := by decide +kernel
theorem dX8_number_52 : decode cX8_number 52 = .ok (.invokestatic 48, 3) := by decide +kernel
theorem dX8_number_55 : decode cX8_number 55 = .ok (.ifCond .eq 44, 3) := by decide +kernel
theorem dX8_number_58 : decode cX8_number 58 = .ok (.iload_n 3, 1) := by decide +kernel
theorem dX8_number_59 : decode cX8_number 59 = .ok (.ldc 52, 2) := by decide +kernel
theorem dX8_number_61 : decode cX8_number 61 = .ok (.if_icmp .ge 23, 3) := by decide +kernel
theorem dX8_number_64 : decode cX8_number 64 = .ok (.iload_n 3, 1) := by decide +kernel
theorem dX8_number_65 : decode cX8_number 65 = .ok (.bipush 10, 2) := by decide +kernel
theorem dX8_number_67 : decode cX8_number 67 = .ok (.imul, 1) := by decide +kernel
theorem dX8_number_68 : decode cX8_number 68 = .ok (.aload_n 0, 1) := by decide +kernel
theorem dX8_number_69 : decode cX8_number 69 = .ok (.getfield 9, 3) := by decide +kernel
theorem dX8_number_72 : decode cX8_number 72 = .ok (.aload_n 0, 1) := by decide +kernel
theorem dX8_number_73 : decode cX8_number 73 = .ok (.getfield 22, 3) := by decide +kernel
theorem dX8_number_76 : decode cX8_number 76 = .ok (.iaload, 1) := by decide +kernel
theorem dX8_number_77 : decode cX8_number 77 = .ok (.iadd, 1) := by decide +kernel
theorem dX8_number_78 : decode cX8_number 78 = .ok (.bipush 48, 2) := by decide +kernel
theorem dX8_number_80 : decode cX8_number 80 = .ok (.isub, 1) := by decide +kernel
theorem dX8_number_81 : decode cX8_number 81 = .ok (.goto 4, 3) := by decide +kernel
theorem dX8_number_84 : decode cX8_number 84 = .ok (.iload_n 3, 1) := by decide +kernel
theorem dX8_number_85 : decode cX8_number 85 = .ok (.istore_n 3, 1) := by decide +kernel
theorem dX8_number_86 : decode cX8_number 86 = .ok (.aload_n 0, 1) := by decide +kernel
theorem dX8_number_87 : decode cX8_number 87 = .ok (.dup, 1) := by decide +kernel
theorem dX8_number_88 : decode cX8_number 88 = .ok (.getfield 22, 3) := by decide +kernel
theorem dX8_number_91 : decode cX8_number 91 = .ok (.iconst 1, 1) := by decide +kernel
theorem dX8_number_92 : decode cX8_number 92 = .ok (.iadd, 1) := by decide +kernel
theorem dX8_number_93 : decode cX8_number 93 = .ok (.putfield 22, 3) := by decide +kernel
theorem dX8_number_96 : decode cX8_number 96 = .ok (.goto (-64), 3) := by decide +kernel
theorem dX8_number_99 : decode cX8_number 99 = .ok (.iload_n 3, 1) := by decide +kernel
theorem dX8_number_100 : decode cX8_number 100 = .ok (.iload_n 1, 1) := by decide +kernel
theorem dX8_number_101 : decode cX8_number 101 = .ok (.if_icmp .lt 8, 3) := by decide +kernel
theorem dX8_number_104 : decode cX8_number 104 = .ok (.iload_n 3, 1) := by decide +kernel
theorem dX8_number_105 : decode cX8_number 105 = .ok (.iload_n 2, 1) := by decide +kernel
theorem dX8_number_106 : decode cX8_number 106 = .ok (.if_icmp .le 15, 3) := by decide +kernel
theorem dX8_number_109 : decode cX8_number 109 = .ok (.aload_n 0, 1) := by decide +kernel
theorem dX8_number_110 : decode cX8_number 110 = .ok (.iconst 2, 1) := by decide +kernel
theorem dX8_number_111 : decode cX8_number 111 = .ok (.aload_n 0, 1) := by decide +kernel
theorem dX8_number_112 : decode cX8_number 112 = .ok (.getfield 31, 3) := by decide +kernel
theorem dX8_number_115 : decode cX8_number 115 = .ok (.invokevirtual 40, 3) := by decide +kernel
theorem dX8_number_118 : decode cX8_number 118 = .ok (.pop, 1) := by decide +kernel
theorem dX8_number_119 : decode cX8_number 119 = .ok (.iconst (-1), 1) := by decide +kernel
theorem dX8_number_120 : decode cX8_number 120 = .ok (.ireturn, 1) := by decide +kernel
theorem dX8_number_121 : decode cX8_number 121 = .ok (.iload_n 3, 1) := by decide +kernel
theorem dX8_number_122 : decode cX8_number 122 = .ok (.ireturn, 1) := by decide +kernel
theorem dX8_open_0 : decode cX8_open 0 = .ok (.aload_n 0, 1) := by decide +kernel
theorem dX8_open_1 : decode cX8_open 1 = .ok (.iload_n 1, 1) := by decide +kernel
theorem dX8_open_2 : decode cX8_open 2 = .ok (.aload_n 0, 1) := by decide +kernel
theorem dX8_open_3 : decode cX8_open 3 = .ok (.getfield 9, 3) := by decide +kernel
theorem dX8_open_6 : decode cX8_open 6 = .ok (.arraylength, 1) := by decide +kernel
theorem dX8_open_7 : decode cX8_open 7 = .ok (.invokestatic 34, 3) := by decide +kernel
theorem dX8_open_10 : decode cX8_open 10 = .ok (.putfield 19, 3) := by decide +kernel
theorem dX8_open_13 : decode cX8_open 13 = .ok (.aload_n 0, 1) := by decide +kernel
theorem dX8_open_14 : decode cX8_open 14 = .ok (.iconst 0, 1) := by decide +kernel
theorem dX8_open_15 : decode cX8_open 15 = .ok (.putfield 22, 3) := by decide +kernel
theorem dX8_open_18 : decode cX8_open 18 = .ok (.aload_n 0, 1) := by decide +kernel
theorem dX8_open_19 : decode cX8_open 19 = .ok (.iconst 0, 1) := by decide +kernel
theorem dX8_open_20 : decode cX8_open 20 = .ok (.putfield 15, 3) := by decide +kernel
theorem dX8_open_23 : decode cX8_open 23 = .ok (.aload_n 0, 1) := by decide +kernel
theorem dX8_open_24 : decode cX8_open 24 = .ok (.iconst 0, 1) := by decide +kernel
theorem dX8_open_25 : decode cX8_open 25 = .ok (.putfield 25, 3) := by decide +kernel
theorem dX8_open_28 : decode cX8_open 28 = .ok (.aload_n 0, 1) := by decide +kernel
theorem dX8_open_29 : decode cX8_open 29 = .ok (.iconst (-1), 1) := by decide +kernel
theorem dX8_open_30 : decode cX8_open 30 = .ok (.putfield 28, 3) := by decide +kernel
theorem dX8_open_33 : decode cX8_open 33 = .ok (.return_, 1) := by decide +kernel
theorem dX8_take_0 : decode cX8_take 0 = .ok (.aload_n 0, 1) := by decide +kernel
theorem dX8_take_1 : decode cX8_take 1 = .ok (.invokevirtual 44, 3) := by decide +kernel
theorem dX8_take_4 : decode cX8_take 4 = .ok (.iload_n 1, 1) := by decide +kernel
theorem dX8_take_5 : decode cX8_take 5 = .ok (.if_icmp .eq 13, 3) := by decide +kernel
theorem dX8_take_8 : decode cX8_take 8 = .ok (.aload_n 0, 1) := by decide +kernel
theorem dX8_take_9 : decode cX8_take 9 = .ok (.iconst 1, 1) := by decide +kernel
theorem dX8_take_10 : decode cX8_take 10 = .ok (.aload_n 0, 1) := by decide +kernel
theorem dX8_take_11 : decode cX8_take 11 = .ok (.getfield 22, 3) := by decide +kernel
theorem dX8_take_14 : decode cX8_take 14 = .ok (.invokevirtual 40, 3) := by decide +kernel
theorem dX8_take_17 : decode cX8_take 17 = .ok (.ireturn, 1) := by decide +kernel
theorem dX8_take_18 : decode cX8_take 18 = .ok (.aload_n 0, 1) := by decide +kernel
theorem dX8_take_19 : decode cX8_take 19 = .ok (.dup, 1) := by decide +kernel
theorem dX8_take_20 : decode cX8_take 20 = .ok (.getfield 22, 3) := by decide +kernel
theorem dX8_take_23 : decode cX8_take 23 = .ok (.iconst 1, 1) := by decide +kernel
theorem dX8_take_24 : decode cX8_take 24 = .ok (.iadd, 1) := by decide +kernel
theorem dX8_take_25 : decode cX8_take 25 = .ok (.putfield 22, 3) := by decide +kernel
theorem dX8_take_28 : decode cX8_take 28 = .ok (.iconst 1, 1) := by decide +kernel
theorem dX8_take_29 : decode cX8_take 29 = .ok (.ireturn, 1) := by decide +kernel
theorem dX8_word_0 : decode cX8_word 0 = .ok (.aload_n 0, 1) := by decide +kernel
theorem dX8_word_1 : decode cX8_word 1 = .ok (.invokevirtual 44, 3) := by decide +kernel
theorem dX8_word_4 : decode cX8_word 4 = .ok (.pop, 1) := by decide +kernel
theorem dX8_word_5 : decode cX8_word 5 = .ok (.aload_n 0, 1) := by decide +kernel
theorem dX8_word_6 : decode cX8_word 6 = .ok (.aload_n 0, 1) := by decide +kernel
theorem dX8_word_7 : decode cX8_word 7 = .ok (.getfield 22, 3) := by decide +kernel
theorem dX8_word_10 : decode cX8_word 10 = .ok (.putfield 31, 3) := by decide +kernel
theorem dX8_word_13 : decode cX8_word 13 = .ok (.aload_n 0, 1) := by decide +kernel
theorem dX8_word_14 : decode cX8_word 14 = .ok (.getfield 22, 3) := by decide +kernel
theorem dX8_word_17 : decode cX8_word 17 = .ok (.aload_n 0, 1) := by decide +kernel
theorem dX8_word_18 : decode cX8_word 18 = .ok (.getfield 19, 3) := by decide +kernel
theorem dX8_word_21 : decode cX8_word 21 = .ok (.if_icmp .ge 44, 3) := by decide +kernel
theorem dX8_word_24 : decode cX8_word 24 = .ok (.aload_n 0, 1) := by decide +kernel
theorem dX8_word_25 : decode cX8_word 25 = .ok (.getfield 9, 3) := by decide +kernel
theorem dX8_word_28 : decode cX8_word 28 = .ok (.aload_n 0, 1) := by decide +kernel
theorem dX8_word_29 : decode cX8_word 29 = .ok (.getfield 22, 3) := by decide +kernel
theorem dX8_word_32 : decode cX8_word 32 = .ok (.iaload, 1) := by decide +kernel
theorem dX8_word_33 : decode cX8_word 33 = .ok (.bipush 97, 2) := by decide +kernel
theorem dX8_word_35 : decode cX8_word 35 = .ok (.if_icmp .lt 30, 3) := by decide +kernel
theorem dX8_word_38 : decode cX8_word 38 = .ok (.aload_n 0, 1) := by decide +kernel
theorem dX8_word_39 : decode cX8_word 39 = .ok (.getfield 9, 3) := by decide +kernel
theorem dX8_word_42 : decode cX8_word 42 = .ok (.aload_n 0, 1) := by decide +kernel
theorem dX8_word_43 : decode cX8_word 43 = .ok (.getfield 22, 3) := by decide +kernel
theorem dX8_word_46 : decode cX8_word 46 = .ok (.iaload, 1) := by decide +kernel
theorem dX8_word_47 : decode cX8_word 47 = .ok (.bipush 122, 2) := by decide +kernel
theorem dX8_word_49 : decode cX8_word 49 = .ok (.if_icmp .gt 16, 3) := by decide +kernel
theorem dX8_word_52 : decode cX8_word 52 = .ok (.aload_n 0, 1) := by decide +kernel
theorem dX8_word_53 : decode cX8_word 53 = .ok (.dup, 1) := by decide +kernel
theorem dX8_word_54 : decode cX8_word 54 = .ok (.getfield 22, 3) := by decide +kernel
theorem dX8_word_57 : decode cX8_word 57 = .ok (.iconst 1, 1) := by decide +kernel
theorem dX8_word_58 : decode cX8_word 58 = .ok (.iadd, 1) := by decide +kernel
theorem dX8_word_59 : decode cX8_word 59 = .ok (.putfield 22, 3) := by decide +kernel
theorem dX8_word_62 : decode cX8_word 62 = .ok (.goto (-49), 3) := by decide +kernel
theorem dX8_word_65 : decode cX8_word 65 = .ok (.iconst 0, 1) := by decide +kernel
theorem dX8_word_66 : decode cX8_word 66 = .ok (.istore_n 2, 1) := by decide +kernel
theorem dX8_word_67 : decode cX8_word 67 = .ok (.iconst 0, 1) := by decide +kernel
theorem dX8_word_68 : decode cX8_word 68 = .ok (.istore_n 3, 1) := by decide +kernel
theorem dX8_word_69 : decode cX8_word 69 = .ok (.iconst 0, 1) := by decide +kernel
theorem dX8_word_70 : decode cX8_word 70 = .ok (.istore 4, 2) := by decide +kernel
theorem dX8_word_72 : decode cX8_word 72 = .ok (.iload 4, 2) := by decide +kernel
theorem dX8_word_74 : decode cX8_word 74 = .ok (.aload_n 1, 1) := by decide +kernel
theorem dX8_word_75 : decode cX8_word 75 = .ok (.invokevirtual 53, 3) := by decide +kernel
theorem dX8_word_78 : decode cX8_word 78 = .ok (.if_icmp .gt 50, 3) := by decide +kernel
theorem dX8_word_81 : decode cX8_word 81 = .ok (.iload 4, 2) := by decide +kernel
theorem dX8_word_83 : decode cX8_word 83 = .ok (.aload_n 1, 1) := by decide +kernel
theorem dX8_word_84 : decode cX8_word 84 = .ok (.invokevirtual 53, 3) := by decide +kernel
theorem dX8_word_87 : decode cX8_word 87 = .ok (.if_icmp .eq 14, 3) := by decide +kernel
theorem dX8_word_90 : decode cX8_word 90 = .ok (.aload_n 1, 1) := by decide +kernel
theorem dX8_word_91 : decode cX8_word 91 = .ok (.iload 4, 2) := by decide +kernel
theorem dX8_word_93 : decode cX8_word 93 = .ok (.invokevirtual 57, 3) := by decide +kernel
theorem dX8_word_96 : decode cX8_word 96 = .ok (.bipush 32, 2) := by decide +kernel
theorem dX8_word_98 : decode cX8_word 98 = .ok (.if_icmp .ne 24, 3) := by decide +kernel
theorem dX8_word_101 : decode cX8_word 101 = .ok (.aload_n 0, 1) := by decide +kernel
theorem dX8_word_102 : decode cX8_word 102 = .ok (.aload_n 1, 1) := by decide +kernel
theorem dX8_word_103 : decode cX8_word 103 = .ok (.iload_n 3, 1) := by decide +kernel
theorem dX8_word_104 : decode cX8_word 104 = .ok (.iload 4, 2) := by decide +kernel
theorem dX8_word_106 : decode cX8_word 106 = .ok (.invokevirtual 61, 3) := by decide +kernel
theorem dX8_word_109 : decode cX8_word 109 = .ok (.ifCond .eq 5, 3) := by decide +kernel
theorem dX8_word_112 : decode cX8_word 112 = .ok (.iload_n 2, 1) := by decide +kernel
theorem dX8_word_113 : decode cX8_word 113 = .ok (.ireturn, 1) := by decide +kernel
theorem dX8_word_114 : decode cX8_word 114 = .ok (.iinc 2 1, 3) := by decide +kernel
theorem dX8_word_117 : decode cX8_word 117 = .ok (.iload 4, 2) := by decide +kernel
theorem dX8_word_119 : decode cX8_word 119 = .ok (.iconst 1, 1) := by decide +kernel
theorem dX8_word_120 : decode cX8_word 120 = .ok (.iadd, 1) := by decide +kernel
theorem dX8_word_121 : decode cX8_word 121 = .ok (.istore_n 3, 1) := by decide +kernel
theorem dX8_word_122 : decode cX8_word 122 = .ok (.iinc 4 1, 3) := by decide +kernel
theorem dX8_word_125 : decode cX8_word 125 = .ok (.goto (-53), 3) := by decide +kernel
theorem dX8_word_128 : decode cX8_word 128 = .ok (.aload_n 0, 1) := by decide +kernel
theorem dX8_word_129 : decode cX8_word 129 = .ok (.iconst 1, 1) := by decide +kernel
theorem dX8_word_130 : decode cX8_word 130 = .ok (.aload_n 0, 1) := by decide +kernel
theorem dX8_word_131 : decode cX8_word 131 = .ok (.getfield 31, 3) := by decide +kernel
theorem dX8_word_134 : decode cX8_word 134 = .ok (.invokevirtual 40, 3) := by decide +kernel
theorem dX8_word_137 : decode cX8_word 137 = .ok (.pop, 1) := by decide +kernel
theorem dX8_word_138 : decode cX8_word 138 = .ok (.iconst (-1), 1) := by decide +kernel
theorem dX8_word_139 : decode cX8_word 139 = .ok (.ireturn, 1) := by decide +kernel
theorem dX9_asked_0 : decode cX9_asked 0 = .ok (.aload_n 0, 1) := by decide +kernel
theorem dX9_asked_1 : decode cX9_asked 1 = .ok (.getfield 63, 3) := by decide +kernel
theorem dX9_asked_4 : decode cX9_asked 4 = .ok (.aload_n 0, 1) := by decide +kernel
theorem dX9_asked_5 : decode cX9_asked 5 = .ok (.getfield 59, 3) := by decide +kernel
theorem dX9_asked_8 : decode cX9_asked 8 = .ok (.invokevirtual 349, 3) := by decide +kernel
theorem dX9_asked_11 : decode cX9_asked 11 = .ok (.aload_n 0, 1) := by decide +kernel
theorem dX9_asked_12 : decode cX9_asked 12 = .ok (.getfield 63, 3) := by decide +kernel
theorem dX9_asked_15 : decode cX9_asked 15 = .ok (.areturn, 1) := by decide +kernel
theorem dX9_askedWhileReading_0 : decode cX9_askedWhileReading 0 = .ok (.aload_n 0, 1) := by decide +kernel
theorem dX9_askedWhileReading_1 : decode cX9_askedWhileReading 1 = .ok (.invokevirtual 218, 3) := by decide +kernel
theorem dX9_askedWhileReading_4 : decode cX9_askedWhileReading 4 = .ok (.astore 5, 2) := by decide +kernel
theorem dX9_askedWhileReading_6 : decode cX9_askedWhileReading 6 = .ok (.aload 5, 2) := by decide +kernel
theorem dX9_askedWhileReading_8 : decode cX9_askedWhileReading 8 = .ok (.iload_n 1, 1) := by decide +kernel
theorem dX9_askedWhileReading_9 : decode cX9_askedWhileReading 9 = .ok (.iload_n 3, 1) := by decide +kernel
theorem dX9_askedWhileReading_10 : decode cX9_askedWhileReading 10 = .ok (.invokevirtual 353, 3) := by decide +kernel
theorem dX9_askedWhileReading_13 : decode cX9_askedWhileReading 13 = .ok (.aload 5, 2) := by decide +kernel
theorem dX9_askedWhileReading_15 : decode cX9_askedWhileReading 15 = .ok (.iload_n 2, 1) := by decide +kernel
theorem dX9_askedWhileReading_16 : decode cX9_askedWhileReading 16 = .ok (.iload 4, 2) := by decide +kernel
theorem dX9_askedWhileReading_18 : decode cX9_askedWhileReading 18 = .ok (.invokevirtual 353, 3) := by decide +kernel
theorem dX9_askedWhileReading_21 : decode cX9_askedWhileReading 21 = .ok (.aload 5, 2) := by decide +kernel
theorem dX9_askedWhileReading_23 : decode cX9_askedWhileReading 23 = .ok (.areturn, 1) := by decide +kernel
theorem dX9_best_0 : decode cX9_best 0 = .ok (.aload_n 0, 1) := by decide +kernel
theorem dX9_best_1 : decode cX9_best 1 = .ok (.iload_n 1, 1) := by decide +kernel
theorem dX9_best_2 : decode cX9_best 2 = .ok (.invokevirtual 200, 3) := by decide +kernel
theorem dX9_best_5 : decode cX9_best 5 = .ok (.aload_n 0, 1) := by decide +kernel
theorem dX9_best_6 : decode cX9_best 6 = .ok (.iload_n 2, 1) := by decide +kernel
theorem dX9_best_7 : decode cX9_best 7 = .ok (.iconst 0, 1) := by decide +kernel
theorem dX9_best_8 : decode cX9_best 8 = .ok (.sipush 240, 3) := by decide +kernel
theorem dX9_best_11 : decode cX9_best 11 = .ok (.invokestatic 144, 3) := by decide +kernel
theorem dX9_best_14 : decode cX9_best 14 = .ok (.invokevirtual 148, 3) := by decide +kernel
theorem dX9_best_17 : decode cX9_best 17 = .ok (.iconst 0, 1) := by decide +kernel
theorem dX9_best_18 : decode cX9_best 18 = .ok (.istore_n 3, 1) := by decide +kernel
theorem dX9_best_19 : decode cX9_best 19 = .ok (.iconst (-1), 1) := by decide +kernel
theorem dX9_best_20 : decode cX9_best 20 = .ok (.istore 4, 2) := by decide +kernel
theorem dX9_best_22 : decode cX9_best 22 = .ok (.iconst 0, 1) := by decide +kernel
theorem dX9_best_23 : decode cX9_best 23 = .ok (.istore 5, 2) := by decide +kernel
theorem dX9_best_25 : decode cX9_best 25 = .ok (.iload 5, 2) := by decide +kernel
theorem dX9_best_27 : decode cX9_best 27 = .ok (.bipush 30, 2) := by decide +kernel
theorem dX9_best_29 : decode cX9_best 29 = .ok (.if_icmp .gt 33, 3) := by decide +kernel
theorem dX9_best_32 : decode cX9_best 32 = .ok (.aload_n 0, 1) := by decide +kernel
theorem dX9_best_33 : decode cX9_best 33 = .ok (.iload_n 1, 1) := by decide +kernel
theorem dX9_best_34 : decode cX9_best 34 = .ok (.iload 5, 2) := by decide +kernel
theorem dX9_best_36 : decode cX9_best 36 = .ok (.iload_n 2, 1) := by decide +kernel
theorem dX9_best_37 : decode cX9_best 37 = .ok (.invokevirtual 255, 3) := by decide +kernel
theorem dX9_best_40 : decode cX9_best 40 = .ok (.istore 6, 2) := by decide +kernel
theorem dX9_best_42 : decode cX9_best 42 = .ok (.iload 6, 2) := by decide +kernel
theorem dX9_best_44 : decode cX9_best 44 = .ok (.iload 4, 2) := by decide +kernel
theorem dX9_best_46 : decode cX9_best 46 = .ok (.if_icmp .le 10, 3) := by decide +kernel
theorem dX9_best_49 : decode cX9_best 49 = .ok (.iload 6, 2) := by decide +kernel
theorem dX9_best_51 : decode cX9_best 51 = .ok (.istore 4, 2) := by decide +kernel
theorem dX9_best_53 : decode cX9_best 53 = .ok (.iload 5, 2) := by decide +kernel
theorem dX9_best_55 : decode cX9_best 55 = .ok (.istore_n 3, 1) := by decide +kernel
theorem dX9_best_56 : decode cX9_best 56 = .ok (.iinc 5 1, 3) := by decide +kernel
theorem dX9_best_59 : decode cX9_best 59 = .ok (.goto (-34), 3) := by decide +kernel
theorem dX9_best_62 : decode cX9_best 62 = .ok (.iload_n 3, 1) := by decide +kernel
theorem dX9_best_63 : decode cX9_best 63 = .ok (.ireturn, 1) := by decide +kernel
theorem dX9_book_0 : decode cX9_book 0 = .ok (.aload_n 0, 1) := by decide +kernel
theorem dX9_book_1 : decode cX9_book 1 = .ok (.iload_n 1, 1) := by decide +kernel
theorem dX9_book_2 : decode cX9_book 2 = .ok (.bipush 100, 2) := by decide +kernel
theorem dX9_book_4 : decode cX9_book 4 = .ok (.invokevirtual 121, 3) := by decide +kernel
theorem dX9_book_7 : decode cX9_book 7 = .ok (.aload_n 0, 1) := by decide +kernel
theorem dX9_book_8 : decode cX9_book 8 = .ok (.getfield 44, 3) := by decide +kernel
theorem dX9_book_11 : decode cX9_book 11 = .ok (.aload_n 0, 1) := by decide +kernel
theorem dX9_book_12 : decode cX9_book 12 = .ok (.getfield 10, 3) := by decide +kernel
theorem dX9_book_15 : decode cX9_book 15 = .ok (.invokevirtual 180, 3) := by decide +kernel
theorem dX9_book_18 : decode cX9_book 18 = .ok (.ifCond .ne 14, 3) := by decide +kernel
theorem dX9_book_21 : decode cX9_book 21 = .ok (.aload_n 0, 1) := by decide +kernel
theorem dX9_book_22 : decode cX9_book 22 = .ok (.getfield 10, 3) := by decide +kernel
theorem dX9_book_25 : decode cX9_book 25 = .ok (.getfield 129, 3) := by decide +kernel
theorem dX9_book_28 : decode cX9_book 28 = .ok (.bipush 10, 2) := by decide +kernel
theorem dX9_book_30 : decode cX9_book 30 = .ok (.isub, 1) := by decide +kernel
theorem dX9_book_31 : decode cX9_book 31 = .ok (.ireturn, 1) := by decide +kernel
theorem dX9_book_32 : decode cX9_book 32 = .ok (.aload_n 0, 1) := by decide +kernel
theorem dX9_book_33 : decode cX9_book 33 = .ok (.getfield 40, 3) := by decide +kernel
theorem dX9_book_36 : decode cX9_book 36 = .ok (.aload_n 0, 1) := by decide +kernel
theorem dX9_book_37 : decode cX9_book 37 = .ok (.getfield 44, 3) := by decide +kernel
theorem dX9_book_40 : decode cX9_book 40 = .ok (.invokevirtual 181, 3) := by decide +kernel
theorem dX9_book_43 : decode cX9_book 43 = .ok (.aload_n 0, 1) := by decide +kernel
theorem dX9_book_44 : decode cX9_book 44 = .ok (.getfield 40, 3) := by decide +kernel
theorem dX9_book_47 : decode cX9_book 47 = .ok (.getfield 136, 3) := by decide +kernel
theorem dX9_book_50 : decode cX9_book 50 = .ok (.ireturn, 1) := by decide +kernel
theorem dX9_changes_0 : decode cX9_changes 0 = .ok (.aload_n 0, 1) := by decide +kernel
theorem dX9_changes_1 : decode cX9_changes 1 = .ok (.iload_n 1, 1) := by decide +kernel
theorem dX9_changes_2 : decode cX9_changes 2 = .ok (.invokevirtual 200, 3) := by decide +kernel
theorem dX9_changes_5 : decode cX9_changes 5 = .ok (.aload_n 0, 1) := by decide +kernel
theorem dX9_changes_6 : decode cX9_changes 6 = .ok (.invokevirtual 218, 3) := by decide +kernel
theorem dX9_changes_9 : decode cX9_changes 9 = .ok (.astore_n 2, 1) := by decide +kernel
theorem dX9_changes_10 : decode cX9_changes 10 = .ok (.aload_n 2, 1) := by decide +kernel
theorem dX9_changes_11 : decode cX9_changes 11 = .ok (.iload_n 1, 1) := by decide +kernel
theorem dX9_changes_12 : decode cX9_changes 12 = .ok (.invokevirtual 239, 3) := by decide +kernel
theorem dX9_changes_15 : decode cX9_changes 15 = .ok (.istore_n 3, 1) := by decide +kernel
theorem dX9_changes_16 : decode cX9_changes 16 = .ok (.aload_n 2, 1) := by decide +kernel
theorem dX9_changes_17 : decode cX9_changes 17 = .ok (.iconst 0, 1) := by decide +kernel
theorem dX9_changes_18 : decode cX9_changes 18 = .ok (.invokevirtual 243, 3) := by decide +kernel
theorem dX9_changes_21 : decode cX9_changes 21 = .ok (.pop, 1) := by decide +kernel
theorem dX9_changes_22 : decode cX9_changes 22 = .ok (.aload_n 2, 1) := by decide +kernel
theorem dX9_changes_23 : decode cX9_changes 23 = .ok (.iload_n 1, 1) := by decide +kernel
theorem dX9_changes_24 : decode cX9_changes 24 = .ok (.invokevirtual 239, 3) := by decide +kernel
theorem dX9_changes_27 : decode cX9_changes 27 = .ok (.iload_n 3, 1) := by decide +kernel
theorem dX9_changes_28 : decode cX9_changes 28 = .ok (.if_icmp .eq 7, 3) := by decide +kernel
theorem dX9_changes_31 : decode cX9_changes 31 = .ok (.iconst 1, 1) := by decide +kernel
theorem dX9_changes_32 : decode cX9_changes 32 = .ok (.goto 4, 3) := by decide +kernel
theorem dX9_changes_35 : decode cX9_changes 35 = .ok (.iconst 0, 1) := by decide +kernel
theorem dX9_changes_36 : decode cX9_changes 36 = .ok (.ireturn, 1) := by decide +kernel
theorem dX9_clock_0 : decode cX9_clock 0 = .ok (.aload_n 0, 1) := by decide +kernel
theorem dX9_clock_1 : decode cX9_clock 1 = .ok (.iload_n 1, 1) := by decide +kernel
theorem dX9_clock_2 : decode cX9_clock 2 = .ok (.iconst 0, 1) := by decide +kernel
theorem dX9_clock_3 : decode cX9_clock 3 = .ok (.sipush 240, 3) := by decide +kernel
theorem dX9_clock_6 : decode cX9_clock 6 = .ok (.invokestatic 144, 3) := by decide +kernel
theorem dX9_clock_9 : decode cX9_clock 9 = .ok (.invokevirtual 148, 3) := by decide +kernel
theorem dX9_clock_12 : decode cX9_clock 12 = .ok (.aload_n 0, 1) := by decide +kernel
theorem dX9_clock_13 : decode cX9_clock 13 = .ok (.getfield 19, 3) := by decide +kernel
theorem dX9_clock_16 : decode cX9_clock 16 = .ok (.iload_n 1, 1) := by decide +kernel
theorem dX9_clock_17 : decode cX9_clock 17 = .ok (.invokevirtual 236, 3) := by decide +kernel
theorem dX9_clock_20 : decode cX9_clock 20 = .ok (.ireturn, 1) := by decide +kernel
theorem dX9_count_0 : decode cX9_count 0 = .ok (.iload_n 1, 1) := by decide +kernel
theorem dX9_count_1 : decode cX9_count 1 = .ok (.tableswitch 51 0 2 #[27, 35, 43], 27) := by decide +kernel
theorem dX9_count_28 : decode cX9_count 28 = .ok (.aload_n 0, 1) := by decide +kernel
theorem dX9_count_29 : decode cX9_count 29 = .ok (.getfield 76, 3) := by decide +kernel
theorem dX9_count_32 : decode cX9_count 32 = .ok (.getfield 140, 3) := by decide +kernel
theorem dX9_count_35 : decode cX9_count 35 = .ok (.ireturn, 1) := by decide +kernel
theorem dX9_count_36 : decode cX9_count 36 = .ok (.aload_n 0, 1) := by decide +kernel
theorem dX9_count_37 : decode cX9_count 37 = .ok (.getfield 10, 3) := by decide +kernel
theorem dX9_count_40 : decode cX9_count 40 = .ok (.getfield 118, 3) := by decide +kernel
theorem dX9_count_43 : decode cX9_count 43 = .ok (.ireturn, 1) := by decide +kernel
theorem dX9_count_44 : decode cX9_count 44 = .ok (.aload_n 0, 1) := by decide +kernel
theorem dX9_count_45 : decode cX9_count 45 = .ok (.getfield 69, 3) := by decide +kernel
theorem dX9_count_48 : decode cX9_count 48 = .ok (.getfield 139, 3) := by decide +kernel
theorem dX9_count_51 : decode cX9_count 51 = .ok (.ireturn, 1) := by decide +kernel
theorem dX9_count_52 : decode cX9_count 52 = .ok (.iconst (-1), 1) := by decide +kernel
theorem dX9_count_53 : decode cX9_count 53 = .ok (.ireturn, 1) := by decide +kernel
theorem dX9_doctor_0 : decode cX9_doctor 0 = .ok (.aload_n 0, 1) := by decide +kernel
theorem dX9_doctor_1 : decode cX9_doctor 1 = .ok (.iload_n 1, 1) := by decide +kernel
theorem dX9_doctor_2 : decode cX9_doctor 2 = .ok (.iconst 1, 1) := by decide +kernel
theorem dX9_doctor_3 : decode cX9_doctor 3 = .ok (.iconst 4, 1) := by decide +kernel
theorem dX9_doctor_4 : decode cX9_doctor 4 = .ok (.invokestatic 144, 3) := by decide +kernel
theorem dX9_doctor_7 : decode cX9_doctor 7 = .ok (.ifCond .eq 17, 3) := by decide +kernel
theorem dX9_doctor_10 : decode cX9_doctor 10 = .ok (.iload_n 2, 1) := by decide +kernel
theorem dX9_doctor_11 : decode cX9_doctor 11 = .ok (.iconst 0, 1) := by decide +kernel
theorem dX9_doctor_12 : decode cX9_doctor 12 = .ok (.bipush 12, 2) := by decide +kernel
theorem dX9_doctor_14 : decode cX9_doctor 14 = .ok (.invokestatic 144, 3) := by decide +kernel
theorem dX9_doctor_17 : decode cX9_doctor 17 = .ok (.ifCond .eq 7, 3) := by decide +kernel
theorem dX9_doctor_20 : decode cX9_doctor 20 = .ok (.iconst 1, 1) := by decide +kernel
theorem dX9_doctor_21 : decode cX9_doctor 21 = .ok (.goto 4, 3) := by decide +kernel
theorem dX9_doctor_24 : decode cX9_doctor 24 = .ok (.iconst 0, 1) := by decide +kernel
theorem dX9_doctor_25 : decode cX9_doctor 25 = .ok (.invokevirtual 148, 3) := by decide +kernel
theorem dX9_doctor_28 : decode cX9_doctor 28 = .ok (.iconst 0, 1) := by decide +kernel
theorem dX9_doctor_29 : decode cX9_doctor 29 = .ok (.istore_n 3, 1) := by decide +kernel
theorem dX9_doctor_30 : decode cX9_doctor 30 = .ok (.iload_n 3, 1) := by decide +kernel
theorem dX9_doctor_31 : decode cX9_doctor 31 = .ok (.bipush 16, 2) := by decide +kernel
theorem dX9_doctor_33 : decode cX9_doctor 33 = .ok (.if_icmp .gt 25, 3) := by decide +kernel
theorem dX9_doctor_36 : decode cX9_doctor 36 = .ok (.iload_n 3, 1) := by decide +kernel
theorem dX9_doctor_37 : decode cX9_doctor 37 = .ok (.iload_n 1, 1) := by decide +kernel
theorem dX9_doctor_38 : decode cX9_doctor 38 = .ok (.iload_n 2, 1) := by decide +kernel
theorem dX9_doctor_39 : decode cX9_doctor 39 = .ok (.invokestatic 307, 3) := by decide +kernel
theorem dX9_doctor_42 : decode cX9_doctor 42 = .ok (.iload_n 1, 1) := by decide +kernel
theorem dX9_doctor_43 : decode cX9_doctor 43 = .ok (.invokestatic 311, 3) := by decide +kernel
theorem dX9_doctor_46 : decode cX9_doctor 46 = .ok (.lcmp, 1) := by decide +kernel
theorem dX9_doctor_47 : decode cX9_doctor 47 = .ok (.ifCond .lt 5, 3) := by decide +kernel
theorem dX9_doctor_50 : decode cX9_doctor 50 = .ok (.iload_n 3, 1) := by decide +kernel
theorem dX9_doctor_51 : decode cX9_doctor 51 = .ok (.ireturn, 1) := by decide +kernel
theorem dX9_doctor_52 : decode cX9_doctor 52 = .ok (.iinc 3 1, 3) := by decide +kernel
theorem dX9_doctor_55 : decode cX9_doctor 55 = .ok (.goto (-25), 3) := by decide +kernel
theorem dX9_doctor_58 : decode cX9_doctor 58 = .ok (.iconst (-1), 1) := by decide +kernel
theorem dX9_doctor_59 : decode cX9_doctor 59 = .ok (.ireturn, 1) := by decide +kernel
theorem dX9_fault_0 : decode cX9_fault 0 = .ok (.aload_n 0, 1) := by decide +kernel
theorem dX9_fault_1 : decode cX9_fault 1 = .ok (.getfield 10, 3) := by decide +kernel
theorem dX9_fault_4 : decode cX9_fault 4 = .ok (.getfield 184, 3) := by decide +kernel
theorem dX9_fault_7 : decode cX9_fault 7 = .ok (.ireturn, 1) := by decide +kernel
theorem dX9_feed_0 : decode cX9_feed 0 = .ok (.aload_n 0, 1) := by decide +kernel
theorem dX9_feed_1 : decode cX9_feed 1 = .ok (.getfield 10, 3) := by decide +kernel
theorem dX9_feed_4 : decode cX9_feed 4 = .ok (.invokevirtual 110, 3) := by decide +kernel
theorem dX9_feed_7 : decode cX9_feed 7 = .ok (.ifCond .ne 5, 3) := by decide +kernel
theorem dX9_feed_10 : decode cX9_feed 10 = .ok (.iconst (-1), 1) := by decide +kernel
theorem dX9_feed_11 : decode cX9_feed 11 = .ok (.ireturn, 1) := by decide +kernel
theorem dX9_feed_12 : decode cX9_feed 12 = .ok (.aload_n 0, 1) := by decide +kernel
theorem dX9_feed_13 : decode cX9_feed 13 = .ok (.getfield 10, 3) := by decide +kernel
theorem dX9_feed_16 : decode cX9_feed 16 = .ok (.iload_n 1, 1) := by decide +kernel
theorem dX9_feed_17 : decode cX9_feed 17 = .ok (.invokevirtual 114, 3) := by decide +kernel
theorem dX9_feed_20 : decode cX9_feed 20 = .ok (.aload_n 0, 1) := by decide +kernel
theorem dX9_feed_21 : decode cX9_feed 21 = .ok (.getfield 10, 3) := by decide +kernel
theorem dX9_feed_24 : decode cX9_feed 24 = .ok (.iload_n 2, 1) := by decide +kernel
theorem dX9_feed_25 : decode cX9_feed 25 = .ok (.invokevirtual 114, 3) := by decide +kernel
theorem dX9_feed_28 : decode cX9_feed 28 = .ok (.aload_n 0, 1) := by decide +kernel
theorem dX9_feed_29 : decode cX9_feed 29 = .ok (.getfield 10, 3) := by decide +kernel
theorem dX9_feed_32 : decode cX9_feed 32 = .ok (.iload_n 3, 1) := by decide +kernel
theorem dX9_feed_33 : decode cX9_feed 33 = .ok (.invokevirtual 114, 3) := by decide +kernel
theorem dX9_feed_36 : decode cX9_feed 36 = .ok (.aload_n 0, 1) := by decide +kernel
theorem dX9_feed_37 : decode cX9_feed 37 = .ok (.getfield 10, 3) := by decide +kernel
theorem dX9_feed_40 : decode cX9_feed 40 = .ok (.iload 4, 2) := by decide +kernel
theorem dX9_feed_42 : decode cX9_feed 42 = .ok (.invokevirtual 114, 3) := by decide +kernel
theorem dX9_feed_45 : decode cX9_feed 45 = .ok (.aload_n 0, 1) := by decide +kernel
theorem dX9_feed_46 : decode cX9_feed 46 = .ok (.getfield 10, 3) := by decide +kernel
theorem dX9_feed_49 : decode cX9_feed 49 = .ok (.iload 5, 2) := by decide +kernel
theorem dX9_feed_51 : decode cX9_feed 51 = .ok (.invokevirtual 114, 3) := by decide +kernel
theorem dX9_feed_54 : decode cX9_feed 54 = .ok (.aload_n 0, 1) := by decide +kernel
theorem dX9_feed_55 : decode cX9_feed 55 = .ok (.getfield 10, 3) := by decide +kernel
theorem dX9_feed_58 : decode cX9_feed 58 = .ok (.getfield 118, 3) := by decide +kernel
theorem dX9_feed_61 : decode cX9_feed 61 = .ok (.ireturn, 1) := by decide +kernel
theorem dX9_fits_0 : decode cX9_fits 0 = .ok (.aload_n 0, 1) := by decide +kernel
theorem dX9_fits_1 : decode cX9_fits 1 = .ok (.iload_n 1, 1) := by decide +kernel
theorem dX9_fits_2 : decode cX9_fits 2 = .ok (.invokevirtual 200, 3) := by decide +kernel
theorem dX9_fits_5 : decode cX9_fits 5 = .ok (.aload_n 0, 1) := by decide +kernel
theorem dX9_fits_6 : decode cX9_fits 6 = .ok (.iload_n 1, 1) := by decide +kernel
theorem dX9_fits_7 : decode cX9_fits 7 = .ok (.invokevirtual 298, 3) := by decide +kernel
theorem dX9_fits_10 : decode cX9_fits 10 = .ok (.ireturn, 1) := by decide +kernel
theorem dX9_fittingSnores_0 : decode cX9_fittingSnores 0 = .ok (.iconst 0, 1) := by decide +kernel
theorem dX9_fittingSnores_1 : decode cX9_fittingSnores 1 = .ok (.istore_n 2, 1) := by decide +kernel
theorem dX9_fittingSnores_2 : decode cX9_fittingSnores 2 = .ok (.iconst 0, 1) := by decide +kernel
theorem dX9_fittingSnores_3 : decode cX9_fittingSnores 3 = .ok (.istore_n 3, 1) := by decide +kernel
theorem dX9_fittingSnores_4 : decode cX9_fittingSnores 4 = .ok (.iload_n 3, 1) := by decide +kernel
theorem dX9_fittingSnores_5 : decode cX9_fittingSnores 5 = .ok (.bipush 9, 2) := by decide +kernel
theorem dX9_fittingSnores_7 : decode cX9_fittingSnores 7 = .ok (.if_icmp .gt 88, 3) := by decide +kernel
theorem dX9_fittingSnores_10 : decode cX9_fittingSnores 10 = .ok (.iconst 1, 1) := by decide +kernel
theorem dX9_fittingSnores_11 : decode cX9_fittingSnores 11 = .ok (.istore 4, 2) := by decide +kernel
theorem dX9_fittingSnores_13 : decode cX9_fittingSnores 13 = .ok (.iconst 0, 1) := by decide +kernel
theorem dX9_fittingSnores_14 : decode cX9_fittingSnores 14 = .ok (.istore 5, 2) := by decide +kernel
theorem dX9_fittingSnores_16 : decode cX9_fittingSnores 16 = .ok (.iload 5, 2) := by decide +kernel
theorem dX9_fittingSnores_18 : decode cX9_fittingSnores 18 = .ok (.aload_n 0, 1) := by decide +kernel
theorem dX9_fittingSnores_19 : decode cX9_fittingSnores 19 = .ok (.getfield 40, 3) := by decide +kernel
theorem dX9_fittingSnores_22 : decode cX9_fittingSnores 22 = .ok (.getfield 136, 3) := by decide +kernel
theorem dX9_fittingSnores_25 : decode cX9_fittingSnores 25 = .ok (.if_icmp .ge 53, 3) := by decide +kernel
theorem dX9_fittingSnores_28 : decode cX9_fittingSnores 28 = .ok (.iload 4, 2) := by decide +kernel
theorem dX9_fittingSnores_30 : decode cX9_fittingSnores 30 = .ok (.ifCond .eq 39, 3) := by decide +kernel
theorem dX9_fittingSnores_33 : decode cX9_fittingSnores 33 = .ok (.aload_n 0, 1) := by decide +kernel
theorem dX9_fittingSnores_34 : decode cX9_fittingSnores 34 = .ok (.getfield 63, 3) := by decide +kernel
theorem dX9_fittingSnores_37 : decode cX9_fittingSnores 37 = .ok (.iload_n 1, 1) := by decide +kernel
theorem dX9_fittingSnores_38 : decode cX9_fittingSnores 38 = .ok (.iload_n 3, 1) := by decide +kernel
theorem dX9_fittingSnores_39 : decode cX9_fittingSnores 39 = .ok (.aload_n 0, 1) := by decide +kernel
theorem dX9_fittingSnores_40 : decode cX9_fittingSnores 40 = .ok (.getfield 40, 3) := by decide +kernel
theorem dX9_fittingSnores_43 : decode cX9_fittingSnores 43 = .ok (.getfield 356, 3) := by decide +kernel
theorem dX9_fittingSnores_46 : decode cX9_fittingSnores 46 = .ok (.iload 5, 2) := by decide +kernel
theorem dX9_fittingSnores_48 : decode cX9_fittingSnores 48 = .ok (.iaload, 1) := by decide +kernel
theorem dX9_fittingSnores_49 : decode cX9_fittingSnores 49 = .ok (.invokevirtual 359, 3) := by decide +kernel
theorem dX9_fittingSnores_52 : decode cX9_fittingSnores 52 = .ok (.aload_n 0, 1) := by decide +kernel
theorem dX9_fittingSnores_53 : decode cX9_fittingSnores 53 = .ok (.getfield 40, 3) := by decide +kernel
theorem dX9_fittingSnores_56 : decode cX9_fittingSnores 56 = .ok (.getfield 362, 3) := by decide +kernel
theorem dX9_fittingSnores_59 : decode cX9_fittingSnores 59 = .ok (.iload 5, 2) := by decide +kernel
theorem dX9_fittingSnores_61 : decode cX9_fittingSnores 61 = .ok (.iaload, 1) := by decide +kernel
theorem dX9_fittingSnores_62 : decode cX9_fittingSnores 62 = .ok (.if_icmp .ne 7, 3) := by decide +kernel
theorem dX9_fittingSnores_65 : decode cX9_fittingSnores 65 = .ok (.iconst 1, 1) := by decide +kernel
theorem dX9_fittingSnores_66 : decode cX9_fittingSnores 66 = .ok (.goto 4, 3) := by decide +kernel
theorem dX9_fittingSnores_69 : decode cX9_fittingSnores 69 = .ok (.iconst 0, 1) := by decide +kernel
theorem dX9_fittingSnores_70 : decode cX9_fittingSnores 70 = .ok (.istore 4, 2) := by decide +kernel
theorem dX9_fittingSnores_72 : decode cX9_fittingSnores 72 = .ok (.iinc 5 1, 3) := by decide +kernel
theorem dX9_fittingSnores_75 : decode cX9_fittingSnores 75 = .ok (.goto (-59), 3) := by decide +kernel
theorem dX9_fittingSnores_78 : decode cX9_fittingSnores 78 = .ok (.iload 4, 2) := by decide +kernel
theorem dX9_fittingSnores_80 : decode cX9_fittingSnores 80 = .ok (.ifCond .eq 9, 3) := by decide +kernel
theorem dX9_fittingSnores_83 : decode cX9_fittingSnores 83 = .ok (.iload_n 2, 1) := by decide +kernel
theorem dX9_fittingSnores_84 : decode cX9_fittingSnores 84 = .ok (.iconst 1, 1) := by decide +kernel
theorem dX9_fittingSnores_85 : decode cX9_fittingSnores 85 = .ok (.iload_n 3, 1) := by decide +kernel
theorem dX9_fittingSnores_86 : decode cX9_fittingSnores 86 = .ok (.ishl, 1) := by decide +kernel
theorem dX9_fittingSnores_87 : decode cX9_fittingSnores 87 = .ok (.ior, 1) := by decide +kernel
theorem dX9_fittingSnores_88 : decode cX9_fittingSnores 88 = .ok (.istore_n 2, 1) := by decide +kernel
theorem dX9_fittingSnores_89 : decode cX9_fittingSnores 89 = .ok (.iinc 3 1, 3) := by decide +kernel
theorem dX9_fittingSnores_92 : decode cX9_fittingSnores 92 = .ok (.goto (-88), 3) := by decide +kernel
theorem dX9_fittingSnores_95 : decode cX9_fittingSnores 95 = .ok (.iload_n 2, 1) := by decide +kernel
theorem dX9_fittingSnores_96 : decode cX9_fittingSnores 96 = .ok (.ireturn, 1) := by decide +kernel
theorem dX9_greatestShared_0 : decode cX9_greatestShared 0 = .ok (.lload_n 0, 1) := by decide +kernel
theorem dX9_greatestShared_1 : decode cX9_greatestShared 1 = .ok (.lstore 4, 2) := by decide +kernel
theorem dX9_greatestShared_3 : decode cX9_greatestShared 3 = .ok (.lload_n 2, 1) := by decide +kernel
theorem dX9_greatestShared_4 : decode cX9_greatestShared 4 = .ok (.lstore 6, 2) := by decide +kernel
theorem dX9_greatestShared_6 : decode cX9_greatestShared 6 = .ok (.iconst 0, 1) := by decide +kernel
theorem dX9_greatestShared_7 : decode cX9_greatestShared 7 = .ok (.istore 8, 2) := by decide +kernel
theorem dX9_greatestShared_9 : decode cX9_greatestShared 9 = .ok (.iload 8, 2) := by decide +kernel
theorem dX9_greatestShared_11 : decode cX9_greatestShared 11 = .ok (.sipush 200, 3) := by decide +kernel
theorem dX9_greatestShared_14 : decode cX9_greatestShared 14 = .ok (.if_icmp .ge 31, 3) := by decide +kernel
theorem dX9_greatestShared_17 : decode cX9_greatestShared 17 = .ok (.lload 6, 2) := by decide +kernel
theorem dX9_greatestShared_19 : decode cX9_greatestShared 19 = .ok (.lconst 0, 1) := by decide +kernel
theorem dX9_greatestShared_20 : decode cX9_greatestShared 20 = .ok (.lcmp, 1) := by decide +kernel
theorem dX9_greatestShared_21 : decode cX9_greatestShared 21 = .ok (.ifCond .eq 24, 3) := by decide +kernel
theorem dX9_greatestShared_24 : decode cX9_greatestShared 24 = .ok (.lload 4, 2) := by decide +kernel
theorem dX9_greatestShared_26 : decode cX9_greatestShared 26 = .ok (.lload 6, 2) := by decide +kernel
theorem dX9_greatestShared_28 : decode cX9_greatestShared 28 = .ok (.lrem, 1) := by decide +kernel
theorem dX9_greatestShared_29 : decode cX9_greatestShared 29 = .ok (.lstore 9, 2) := by decide +kernel
theorem dX9_greatestShared_31 : decode cX9_greatestShared 31 = .ok (.lload 6, 2) := by decide +kernel
theorem dX9_greatestShared_33 : decode cX9_greatestShared 33 = .ok (.lstore 4, 2) := by decide +kernel
theorem dX9_greatestShared_35 : decode cX9_greatestShared 35 = .ok (.lload 9, 2) := by decide +kernel
theorem dX9_greatestShared_37 : decode cX9_greatestShared 37 = .ok (.lstore 6, 2) := by decide +kernel
theorem dX9_greatestShared_39 : decode cX9_greatestShared 39 = .ok (.iinc 8 1, 3) := by decide +kernel
theorem dX9_greatestShared_42 : decode cX9_greatestShared 42 = .ok (.goto (-33), 3) := by decide +kernel
theorem dX9_greatestShared_45 : decode cX9_greatestShared 45 = .ok (.lload 4, 2) := by decide +kernel
theorem dX9_greatestShared_47 : decode cX9_greatestShared 47 = .ok (.lreturn, 1) := by decide +kernel
theorem dX9_head_0 : decode cX9_head 0 = .ok (.aload_n 0, 1) := by decide +kernel
theorem dX9_head_1 : decode cX9_head 1 = .ok (.iload_n 1, 1) := by decide +kernel
theorem dX9_head_2 : decode cX9_head 2 = .ok (.invokevirtual 200, 3) := by decide +kernel
theorem dX9_head_5 : decode cX9_head 5 = .ok (.aload_n 0, 1) := by decide +kernel
theorem dX9_head_6 : decode cX9_head 6 = .ok (.iload_n 2, 1) := by decide +kernel
theorem dX9_head_7 : decode cX9_head 7 = .ok (.iconst 0, 1) := by decide +kernel
theorem dX9_head_8 : decode cX9_head 8 = .ok (.bipush 30, 2) := by decide +kernel
theorem dX9_head_10 : decode cX9_head 10 = .ok (.invokestatic 144, 3) := by decide +kernel
theorem dX9_head_13 : decode cX9_head 13 = .ok (.ifCond .eq 18, 3) := by decide +kernel
theorem dX9_head_16 : decode cX9_head 16 = .ok (.iload_n 3, 1) := by decide +kernel
theorem dX9_head_17 : decode cX9_head 17 = .ok (.iconst 0, 1) := by decide +kernel
theorem dX9_head_18 : decode cX9_head 18 = .ok (.sipush 240, 3) := by decide +kernel
theorem dX9_head_21 : decode cX9_head 21 = .ok (.invokestatic 144, 3) := by decide +kernel
theorem dX9_head_24 : decode cX9_head 24 = .ok (.ifCond .eq 7, 3) := by decide +kernel
theorem dX9_head_27 : decode cX9_head 27 = .ok (.iconst 1, 1) := by decide +kernel
theorem dX9_head_28 : decode cX9_head 28 = .ok (.goto 4, 3) := by decide +kernel
theorem dX9_head_31 : decode cX9_head 31 = .ok (.iconst 0, 1) := by decide +kernel
theorem dX9_head_32 : decode cX9_head 32 = .ok (.invokevirtual 148, 3) := by decide +kernel
theorem dX9_head_35 : decode cX9_head 35 = .ok (.aload_n 0, 1) := by decide +kernel
theorem dX9_head_36 : decode cX9_head 36 = .ok (.iload_n 1, 1) := by decide +kernel
theorem dX9_head_37 : decode cX9_head 37 = .ok (.iload_n 2, 1) := by decide +kernel
theorem dX9_head_38 : decode cX9_head 38 = .ok (.iload_n 3, 1) := by decide +kernel
theorem dX9_head_39 : decode cX9_head 39 = .ok (.invokevirtual 255, 3) := by decide +kernel
theorem dX9_head_42 : decode cX9_head 42 = .ok (.ireturn, 1) := by decide +kernel
theorem dX9_house_0 : decode cX9_house 0 = .ok (.aload_n 0, 1) := by decide +kernel
theorem dX9_house_1 : decode cX9_house 1 = .ok (.iload_n 1, 1) := by decide +kernel
theorem dX9_house_2 : decode cX9_house 2 = .ok (.sipush 600, 3) := by decide +kernel
theorem dX9_house_5 : decode cX9_house 5 = .ok (.invokevirtual 121, 3) := by decide +kernel
theorem dX9_house_8 : decode cX9_house 8 = .ok (.aload_n 0, 1) := by decide +kernel
theorem dX9_house_9 : decode cX9_house 9 = .ok (.getfield 23, 3) := by decide +kernel
theorem dX9_house_12 : decode cX9_house 12 = .ok (.aload_n 0, 1) := by decide +kernel
theorem dX9_house_13 : decode cX9_house 13 = .ok (.getfield 10, 3) := by decide +kernel
theorem dX9_house_16 : decode cX9_house 16 = .ok (.invokevirtual 125, 3) := by decide +kernel
theorem dX9_house_19 : decode cX9_house 19 = .ok (.ifCond .ne 14, 3) := by decide +kernel
theorem dX9_house_22 : decode cX9_house 22 = .ok (.aload_n 0, 1) := by decide +kernel
theorem dX9_house_23 : decode cX9_house 23 = .ok (.getfield 10, 3) := by decide +kernel
theorem dX9_house_26 : decode cX9_house 26 = .ok (.getfield 129, 3) := by decide +kernel
theorem dX9_house_29 : decode cX9_house 29 = .ok (.bipush 10, 2) := by decide +kernel
theorem dX9_house_31 : decode cX9_house 31 = .ok (.isub, 1) := by decide +kernel
theorem dX9_house_32 : decode cX9_house 32 = .ok (.ireturn, 1) := by decide +kernel
theorem dX9_house_33 : decode cX9_house 33 = .ok (.aload_n 0, 1) := by decide +kernel
theorem dX9_house_34 : decode cX9_house 34 = .ok (.getfield 19, 3) := by decide +kernel
theorem dX9_house_37 : decode cX9_house 37 = .ok (.aload_n 0, 1) := by decide +kernel
theorem dX9_house_38 : decode cX9_house 38 = .ok (.getfield 23, 3) := by decide +kernel
theorem dX9_house_41 : decode cX9_house 41 = .ok (.invokevirtual 132, 3) := by decide +kernel
theorem dX9_house_44 : decode cX9_house 44 = .ok (.aload_n 0, 1) := by decide +kernel
theorem dX9_house_45 : decode cX9_house 45 = .ok (.getfield 29, 3) := by decide +kernel
theorem dX9_house_48 : decode cX9_house 48 = .ok (.iconst 0, 1) := by decide +kernel
theorem dX9_house_49 : decode cX9_house 49 = .ok (.aaload, 1) := by decide +kernel
theorem dX9_house_50 : decode cX9_house 50 = .ok (.invokevirtual 101, 3) := by decide +kernel
theorem dX9_house_53 : decode cX9_house 53 = .ok (.aload_n 0, 1) := by decide +kernel
theorem dX9_house_54 : decode cX9_house 54 = .ok (.getfield 29, 3) := by decide +kernel
theorem dX9_house_57 : decode cX9_house 57 = .ok (.iconst 1, 1) := by decide +kernel
theorem dX9_house_58 : decode cX9_house 58 = .ok (.aaload, 1) := by decide +kernel
theorem dX9_house_59 : decode cX9_house 59 = .ok (.invokevirtual 104, 3) := by decide +kernel
theorem dX9_house_62 : decode cX9_house 62 = .ok (.aload_n 0, 1) := by decide +kernel
theorem dX9_house_63 : decode cX9_house 63 = .ok (.getfield 40, 3) := by decide +kernel
theorem dX9_house_66 : decode cX9_house 66 = .ok (.iconst 0, 1) := by decide +kernel
theorem dX9_house_67 : decode cX9_house 67 = .ok (.putfield 136, 3) := by decide +kernel
theorem dX9_house_70 : decode cX9_house 70 = .ok (.aload_n 0, 1) := by decide +kernel
theorem dX9_house_71 : decode cX9_house 71 = .ok (.getfield 69, 3) := by decide +kernel
theorem dX9_house_74 : decode cX9_house 74 = .ok (.iconst 0, 1) := by decide +kernel
theorem dX9_house_75 : decode cX9_house 75 = .ok (.putfield 139, 3) := by decide +kernel
theorem dX9_house_78 : decode cX9_house 78 = .ok (.aload_n 0, 1) := by decide +kernel
theorem dX9_house_79 : decode cX9_house 79 = .ok (.getfield 76, 3) := by decide +kernel
theorem dX9_house_82 : decode cX9_house 82 = .ok (.iconst 0, 1) := by decide +kernel
theorem dX9_house_83 : decode cX9_house 83 = .ok (.putfield 140, 3) := by decide +kernel
theorem dX9_house_86 : decode cX9_house 86 = .ok (.aload_n 0, 1) := by decide +kernel
theorem dX9_house_87 : decode cX9_house 87 = .ok (.iconst 0, 1) := by decide +kernel
theorem dX9_house_88 : decode cX9_house 88 = .ok (.putfield 91, 3) := by decide +kernel
theorem dX9_house_91 : decode cX9_house 91 = .ok (.aload_n 0, 1) := by decide +kernel
theorem dX9_house_92 : decode cX9_house 92 = .ok (.getfield 59, 3) := by decide +kernel
theorem dX9_house_95 : decode cX9_house 95 = .ok (.invokevirtual 107, 3) := by decide +kernel
theorem dX9_house_98 : decode cX9_house 98 = .ok (.aload_n 0, 1) := by decide +kernel
theorem dX9_house_99 : decode cX9_house 99 = .ok (.getfield 19, 3) := by decide +kernel
theorem dX9_house_102 : decode cX9_house 102 = .ok (.getfield 141, 3) := by decide +kernel
theorem dX9_house_105 : decode cX9_house 105 = .ok (.ireturn, 1) := by decide +kernel
theorem dX9_hurry_0 : decode cX9_hurry 0 = .ok (.aload_n 0, 1) := by decide +kernel
theorem dX9_hurry_1 : decode cX9_hurry 1 = .ok (.iload_n 1, 1) := by decide +kernel
theorem dX9_hurry_2 : decode cX9_hurry 2 = .ok (.invokevirtual 200, 3) := by decide +kernel
theorem dX9_hurry_5 : decode cX9_hurry 5 = .ok (.aload_n 0, 1) := by decide +kernel
theorem dX9_hurry_6 : decode cX9_hurry 6 = .ok (.iload_n 2, 1) := by decide +kernel
theorem dX9_hurry_7 : decode cX9_hurry 7 = .ok (.invokevirtual 200, 3) := by decide +kernel
theorem dX9_hurry_10 : decode cX9_hurry 10 = .ok (.aload_n 0, 1) := by decide +kernel
theorem dX9_hurry_11 : decode cX9_hurry 11 = .ok (.iload_n 1, 1) := by decide +kernel
theorem dX9_hurry_12 : decode cX9_hurry 12 = .ok (.iload_n 2, 1) := by decide +kernel
theorem dX9_hurry_13 : decode cX9_hurry 13 = .ok (.if_icmp .eq 17, 3) := by decide +kernel
theorem dX9_hurry_16 : decode cX9_hurry 16 = .ok (.iload_n 3, 1) := by decide +kernel
theorem dX9_hurry_17 : decode cX9_hurry 17 = .ok (.iconst 0, 1) := by decide +kernel
theorem dX9_hurry_18 : decode cX9_hurry 18 = .ok (.bipush 8, 2) := by decide +kernel
theorem dX9_hurry_20 : decode cX9_hurry 20 = .ok (.invokestatic 144, 3) := by decide +kernel
theorem dX9_hurry_23 : decode cX9_hurry 23 = .ok (.ifCond .eq 7, 3) := by decide +kernel
theorem dX9_hurry_26 : decode cX9_hurry 26 = .ok (.iconst 1, 1) := by decide +kernel
theorem dX9_hurry_27 : decode cX9_hurry 27 = .ok (.goto 4, 3) := by decide +kernel
theorem dX9_hurry_30 : decode cX9_hurry 30 = .ok (.iconst 0, 1) := by decide +kernel
theorem dX9_hurry_31 : decode cX9_hurry 31 = .ok (.invokevirtual 148, 3) := by decide +kernel
theorem dX9_hurry_34 : decode cX9_hurry 34 = .ok (.aload_n 0, 1) := by decide +kernel
theorem dX9_hurry_35 : decode cX9_hurry 35 = .ok (.iload 4, 2) := by decide +kernel
theorem dX9_hurry_37 : decode cX9_hurry 37 = .ok (.iconst 0, 1) := by decide +kernel
theorem dX9_hurry_38 : decode cX9_hurry 38 = .ok (.bipush 120, 2) := by decide +kernel
theorem dX9_hurry_40 : decode cX9_hurry 40 = .ok (.invokestatic 144, 3) := by decide +kernel
theorem dX9_hurry_43 : decode cX9_hurry 43 = .ok (.ifCond .eq 17, 3) := by decide +kernel
theorem dX9_hurry_46 : decode cX9_hurry 46 = .ok (.iload 5, 2) := by decide +kernel
theorem dX9_hurry_48 : decode cX9_hurry 48 = .ok (.iconst 0, 1) := by decide +kernel
theorem dX9_hurry_49 : decode cX9_hurry 49 = .ok (.iconst 2, 1) := by decide +kernel
theorem dX9_hurry_50 : decode cX9_hurry 50 = .ok (.invokestatic 144, 3) := by decide +kernel
theorem dX9_hurry_53 : decode cX9_hurry 53 = .ok (.ifCond .eq 7, 3) := by decide +kernel
theorem dX9_hurry_56 : decode cX9_hurry 56 = .ok (.iconst 1, 1) := by decide +kernel
theorem dX9_hurry_57 : decode cX9_hurry 57 = .ok (.goto 4, 3) := by decide +kernel
theorem dX9_hurry_60 : decode cX9_hurry 60 = .ok (.iconst 0, 1) := by decide +kernel
theorem dX9_hurry_61 : decode cX9_hurry 61 = .ok (.invokevirtual 148, 3) := by decide +kernel
theorem dX9_hurry_64 : decode cX9_hurry 64 = .ok (.iconst 0, 1) := by decide +kernel
theorem dX9_hurry_65 : decode cX9_hurry 65 = .ok (.istore 6, 2) := by decide +kernel
theorem dX9_hurry_67 : decode cX9_hurry 67 = .ok (.iload 6, 2) := by decide +kernel
theorem dX9_hurry_69 : decode cX9_hurry 69 = .ok (.iload_n 3, 1) := by decide +kernel
theorem dX9_hurry_70 : decode cX9_hurry 70 = .ok (.if_icmp .gt 75, 3) := by decide +kernel
theorem dX9_hurry_73 : decode cX9_hurry 73 = .ok (.iconst 0, 1) := by decide +kernel
theorem dX9_hurry_74 : decode cX9_hurry 74 = .ok (.istore 7, 2) := by decide +kernel
theorem dX9_hurry_76 : decode cX9_hurry 76 = .ok (.iload 7, 2) := by decide +kernel
theorem dX9_hurry_78 : decode cX9_hurry 78 = .ok (.iload_n 3, 1) := by decide +kernel
theorem dX9_hurry_79 : decode cX9_hurry 79 = .ok (.if_icmp .gt 60, 3) := by decide +kernel
theorem dX9_hurry_82 : decode cX9_hurry 82 = .ok (.aload_n 0, 1) := by decide +kernel
theorem dX9_hurry_83 : decode cX9_hurry 83 = .ok (.iload_n 1, 1) := by decide +kernel
theorem dX9_hurry_84 : decode cX9_hurry 84 = .ok (.iload_n 2, 1) := by decide +kernel
theorem dX9_hurry_85 : decode cX9_hurry 85 = .ok (.iload 6, 2) := by decide +kernel
theorem dX9_hurry_87 : decode cX9_hurry 87 = .ok (.iload 7, 2) := by decide +kernel
theorem dX9_hurry_89 : decode cX9_hurry 89 = .ok (.invokevirtual 259, 3) := by decide +kernel
theorem dX9_hurry_92 : decode cX9_hurry 92 = .ok (.astore 8, 2) := by decide +kernel
theorem dX9_hurry_94 : decode cX9_hurry 94 = .ok (.aload 8, 2) := by decide +kernel
theorem dX9_hurry_96 : decode cX9_hurry 96 = .ok (.iload 4, 2) := by decide +kernel
theorem dX9_hurry_98 : decode cX9_hurry 98 = .ok (.invokevirtual 249, 3) := by decide +kernel
theorem dX9_hurry_101 : decode cX9_hurry 101 = .ok (.pop, 1) := by decide +kernel
theorem dX9_hurry_102 : decode cX9_hurry 102 = .ok (.aload_n 0, 1) := by decide +kernel
theorem dX9_hurry_103 : decode cX9_hurry 103 = .ok (.getfield 83, 3) := by decide +kernel
theorem dX9_hurry_106 : decode cX9_hurry 106 = .ok (.iload 6, 2) := by decide +kernel
theorem dX9_hurry_108 : decode cX9_hurry 108 = .ok (.iload 7, 2) := by decide +kernel
theorem dX9_hurry_110 : decode cX9_hurry 110 = .ok (.aload 8, 2) := by decide +kernel
theorem dX9_hurry_112 : decode cX9_hurry 112 = .ok (.aload_n 0, 1) := by decide +kernel
theorem dX9_hurry_113 : decode cX9_hurry 113 = .ok (.getfield 59, 3) := by decide +kernel
theorem dX9_hurry_116 : decode cX9_hurry 116 = .ok (.iload_n 1, 1) := by decide +kernel
theorem dX9_hurry_117 : decode cX9_hurry 117 = .ok (.invokevirtual 263, 3) := by decide +kernel
theorem dX9_hurry_120 : decode cX9_hurry 120 = .ok (.aload 8, 2) := by decide +kernel
theorem dX9_hurry_122 : decode cX9_hurry 122 = .ok (.aload_n 0, 1) := by decide +kernel
theorem dX9_hurry_123 : decode cX9_hurry 123 = .ok (.getfield 59, 3) := by decide +kernel
theorem dX9_hurry_126 : decode cX9_hurry 126 = .ok (.iload_n 2, 1) := by decide +kernel
theorem dX9_hurry_127 : decode cX9_hurry 127 = .ok (.invokevirtual 263, 3) := by decide +kernel
theorem dX9_hurry_130 : decode cX9_hurry 130 = .ok (.invokevirtual 267, 3) := by decide +kernel
theorem dX9_hurry_133 : decode cX9_hurry 133 = .ok (.iinc 7 1, 3) := by decide +kernel
theorem dX9_hurry_136 : decode cX9_hurry 136 = .ok (.goto (-60), 3) := by decide +kernel
theorem dX9_hurry_139 : decode cX9_hurry 139 = .ok (.iinc 6 1, 3) := by decide +kernel
theorem dX9_hurry_142 : decode cX9_hurry 142 = .ok (.goto (-75), 3) := by decide +kernel
theorem dX9_hurry_145 : decode cX9_hurry 145 = .ok (.aload_n 0, 1) := by decide +kernel
theorem dX9_hurry_146 : decode cX9_hurry 146 = .ok (.getfield 83, 3) := by decide +kernel
theorem dX9_hurry_149 : decode cX9_hurry 149 = .ok (.iload_n 3, 1) := by decide +kernel
theorem dX9_hurry_150 : decode cX9_hurry 150 = .ok (.invokevirtual 271, 3) := by decide +kernel
theorem dX9_hurry_153 : decode cX9_hurry 153 = .ok (.iload 5, 2) := by decide +kernel
theorem dX9_hurry_155 : decode cX9_hurry 155 = .ok (.lookupswitch 41 #[(0, 25), (1, 33)], 25) := by decide +kernel
theorem dX9_hurry_180 : decode cX9_hurry 180 = .ok (.aload_n 0, 1) := by decide +kernel
theorem dX9_hurry_181 : decode cX9_hurry 181 = .ok (.getfield 83, 3) := by decide +kernel
theorem dX9_hurry_184 : decode cX9_hurry 184 = .ok (.getfield 274, 3) := by decide +kernel
theorem dX9_hurry_187 : decode cX9_hurry 187 = .ok (.ireturn, 1) := by decide +kernel
theorem dX9_hurry_188 : decode cX9_hurry 188 = .ok (.aload_n 0, 1) := by decide +kernel
theorem dX9_hurry_189 : decode cX9_hurry 189 = .ok (.getfield 83, 3) := by decide +kernel
theorem dX9_hurry_192 : decode cX9_hurry 192 = .ok (.getfield 277, 3) := by decide +kernel
theorem dX9_hurry_195 : decode cX9_hurry 195 = .ok (.ireturn, 1) := by decide +kernel
theorem dX9_hurry_196 : decode cX9_hurry 196 = .ok (.aload_n 0, 1) := by decide +kernel
theorem dX9_hurry_197 : decode cX9_hurry 197 = .ok (.getfield 83, 3) := by decide +kernel
theorem dX9_hurry_200 : decode cX9_hurry 200 = .ok (.getfield 280, 3) := by decide +kernel
theorem dX9_hurry_203 : decode cX9_hurry 203 = .ok (.ireturn, 1) := by decide +kernel
theorem dX9_image_0 : decode cX9_image 0 = .ok (.aload_n 0, 1) := by decide +kernel
theorem dX9_image_1 : decode cX9_image 1 = .ok (.getfield 76, 3) := by decide +kernel
theorem dX9_image_4 : decode cX9_image 4 = .ok (.aload_n 0, 1) := by decide +kernel
theorem dX9_image_5 : decode cX9_image 5 = .ok (.getfield 59, 3) := by decide +kernel
theorem dX9_image_8 : decode cX9_image 8 = .ok (.getfield 162, 3) := by decide +kernel
theorem dX9_image_11 : decode cX9_image 11 = .ok (.aload_n 0, 1) := by decide +kernel
theorem dX9_image_12 : decode cX9_image 12 = .ok (.getfield 69, 3) := by decide +kernel
theorem dX9_image_15 : decode cX9_image 15 = .ok (.invokevirtual 335, 3) := by decide +kernel
theorem dX9_image_18 : decode cX9_image 18 = .ok (.ifCond .eq 13, 3) := by decide +kernel
theorem dX9_image_21 : decode cX9_image 21 = .ok (.aload_n 0, 1) := by decide +kernel
theorem dX9_image_22 : decode cX9_image 22 = .ok (.getfield 76, 3) := by decide +kernel
theorem dX9_image_25 : decode cX9_image 25 = .ok (.getfield 140, 3) := by decide +kernel
theorem dX9_image_28 : decode cX9_image 28 = .ok (.goto 4, 3) := by decide +kernel
theorem dX9_image_31 : decode cX9_image 31 = .ok (.iconst (-1), 1) := by decide +kernel
theorem dX9_image_32 : decode cX9_image 32 = .ok (.ireturn, 1) := by decide +kernel
theorem dX9_inTurns_0 : decode cX9_inTurns 0 = .ok (.aload_n 0, 1) := by decide +kernel
theorem dX9_inTurns_1 : decode cX9_inTurns 1 = .ok (.iload_n 1, 1) := by decide +kernel
theorem dX9_inTurns_2 : decode cX9_inTurns 2 = .ok (.iconst 0, 1) := by decide +kernel
theorem dX9_inTurns_3 : decode cX9_inTurns 3 = .ok (.iconst 1, 1) := by decide +kernel
theorem dX9_inTurns_4 : decode cX9_inTurns 4 = .ok (.aload_n 0, 1) := by decide +kernel
theorem dX9_inTurns_5 : decode cX9_inTurns 5 = .ok (.getfield 19, 3) := by decide +kernel
theorem dX9_inTurns_8 : decode cX9_inTurns 8 = .ok (.getfield 141, 3) := by decide +kernel
theorem dX9_inTurns_11 : decode cX9_inTurns 11 = .ok (.ishl, 1) := by decide +kernel
theorem dX9_inTurns_12 : decode cX9_inTurns 12 = .ok (.iconst 1, 1) := by decide +kernel
theorem dX9_inTurns_13 : decode cX9_inTurns 13 = .ok (.isub, 1) := by decide +kernel
theorem dX9_inTurns_14 : decode cX9_inTurns 14 = .ok (.invokestatic 144, 3) := by decide +kernel
theorem dX9_inTurns_17 : decode cX9_inTurns 17 = .ok (.ifCond .eq 15, 3) := by decide +kernel
theorem dX9_inTurns_20 : decode cX9_inTurns 20 = .ok (.iload_n 1, 1) := by decide +kernel
theorem dX9_inTurns_21 : decode cX9_inTurns 21 = .ok (.invokestatic 290, 3) := by decide +kernel
theorem dX9_inTurns_24 : decode cX9_inTurns 24 = .ok (.iconst 2, 1) := by decide +kernel
theorem dX9_inTurns_25 : decode cX9_inTurns 25 = .ok (.if_icmp .lt 7, 3) := by decide +kernel
theorem dX9_inTurns_28 : decode cX9_inTurns 28 = .ok (.iconst 1, 1) := by decide +kernel
theorem dX9_inTurns_29 : decode cX9_inTurns 29 = .ok (.goto 4, 3) := by decide +kernel
theorem dX9_inTurns_32 : decode cX9_inTurns 32 = .ok (.iconst 0, 1) := by decide +kernel
theorem dX9_inTurns_33 : decode cX9_inTurns 33 = .ok (.invokevirtual 148, 3) := by decide +kernel
theorem dX9_inTurns_36 : decode cX9_inTurns 36 = .ok (.aload_n 0, 1) := by decide +kernel
theorem dX9_inTurns_37 : decode cX9_inTurns 37 = .ok (.iload_n 2, 1) := by decide +kernel
theorem dX9_inTurns_38 : decode cX9_inTurns 38 = .ok (.iconst 0, 1) := by decide +kernel
theorem dX9_inTurns_39 : decode cX9_inTurns 39 = .ok (.bipush 12, 2) := by decide +kernel
theorem dX9_inTurns_41 : decode cX9_inTurns 41 = .ok (.invokestatic 144, 3) := by decide +kernel
theorem dX9_inTurns_44 : decode cX9_inTurns 44 = .ok (.invokevirtual 148, 3) := by decide +kernel
theorem dX9_inTurns_47 : decode cX9_inTurns 47 = .ok (.bipush 8, 2) := by decide +kernel
theorem dX9_inTurns_49 : decode cX9_inTurns 49 = .ok (.iload_n 2, 1) := by decide +kernel
theorem dX9_inTurns_50 : decode cX9_inTurns 50 = .ok (.imul, 1) := by decide +kernel
theorem dX9_inTurns_51 : decode cX9_inTurns 51 = .ok (.istore_n 3, 1) := by decide +kernel
theorem dX9_inTurns_52 : decode cX9_inTurns 52 = .ok (.iload_n 3, 1) := by decide +kernel
theorem dX9_inTurns_53 : decode cX9_inTurns 53 = .ok (.ifCond .le 22, 3) := by decide +kernel
theorem dX9_inTurns_56 : decode cX9_inTurns 56 = .ok (.aload_n 0, 1) := by decide +kernel
theorem dX9_inTurns_57 : decode cX9_inTurns 57 = .ok (.iload_n 1, 1) := by decide +kernel
theorem dX9_inTurns_58 : decode cX9_inTurns 58 = .ok (.iload_n 2, 1) := by decide +kernel
theorem dX9_inTurns_59 : decode cX9_inTurns 59 = .ok (.iload_n 3, 1) := by decide +kernel
theorem dX9_inTurns_60 : decode cX9_inTurns 60 = .ok (.invokevirtual 295, 3) := by decide +kernel
theorem dX9_inTurns_63 : decode cX9_inTurns 63 = .ok (.iload_n 2, 1) := by decide +kernel
theorem dX9_inTurns_64 : decode cX9_inTurns 64 = .ok (.if_icmp .lt 5, 3) := by decide +kernel
theorem dX9_inTurns_67 : decode cX9_inTurns 67 = .ok (.iload_n 3, 1) := by decide +kernel
theorem dX9_inTurns_68 : decode cX9_inTurns 68 = .ok (.ireturn, 1) := by decide +kernel
theorem dX9_inTurns_69 : decode cX9_inTurns 69 = .ok (.iinc 3 (-1), 3) := by decide +kernel
theorem dX9_inTurns_72 : decode cX9_inTurns 72 = .ok (.goto (-20), 3) := by decide +kernel
theorem dX9_inTurns_75 : decode cX9_inTurns 75 = .ok (.iconst 0, 1) := by decide +kernel
theorem dX9_inTurns_76 : decode cX9_inTurns 76 = .ok (.ireturn, 1) := by decide +kernel
theorem dX9_init_0 : decode cX9_init 0 = .ok (.aload_n 0, 1) := by decide +kernel
theorem dX9_init_1 : decode cX9_init 1 = .ok (.invokespecial 1, 3) := by decide +kernel
theorem dX9_init_4 : decode cX9_init 4 = .ok (.aload_n 0, 1) := by decide +kernel
theorem dX9_init_5 : decode cX9_init 5 = .ok (.new 7, 3) := by decide +kernel
theorem dX9_init_8 : decode cX9_init 8 = .ok (.dup, 1) := by decide +kernel
theorem dX9_init_9 : decode cX9_init 9 = .ok (.invokespecial 9, 3) := by decide +kernel
theorem dX9_init_12 : decode cX9_init 12 = .ok (.putfield 10, 3) := by decide +kernel
theorem dX9_init_15 : decode cX9_init 15 = .ok (.aload_n 0, 1) := by decide +kernel
theorem dX9_init_16 : decode cX9_init 16 = .ok (.new 16, 3) := by decide +kernel
theorem dX9_init_19 : decode cX9_init 19 = .ok (.dup, 1) := by decide +kernel
theorem dX9_init_20 : decode cX9_init 20 = .ok (.invokespecial 18, 3) := by decide +kernel
theorem dX9_init_23 : decode cX9_init 23 = .ok (.putfield 19, 3) := by decide +kernel
theorem dX9_init_26 : decode cX9_init 26 = .ok (.aload_n 0, 1) := by decide +kernel
theorem dX9_init_27 : decode cX9_init 27 = .ok (.new 16, 3) := by decide +kernel
theorem dX9_init_30 : decode cX9_init 30 = .ok (.dup, 1) := by decide +kernel
theorem dX9_init_31 : decode cX9_init 31 = .ok (.invokespecial 18, 3) := by decide +kernel
theorem dX9_init_34 : decode cX9_init 34 = .ok (.putfield 23, 3) := by decide +kernel
theorem dX9_init_37 : decode cX9_init 37 = .ok (.aload_n 0, 1) := by decide +kernel
theorem dX9_init_38 : decode cX9_init 38 = .ok (.iconst 2, 1) := by decide +kernel
theorem dX9_init_39 : decode cX9_init 39 = .ok (.anewarray 26, 3) := by decide +kernel
theorem dX9_init_42 : decode cX9_init 42 = .ok (.dup, 1) := by decide +kernel
theorem dX9_init_43 : decode cX9_init 43 = .ok (.iconst 0, 1) := by decide +kernel
theorem dX9_init_44 : decode cX9_init 44 = .ok (.new 26, 3) := by decide +kernel
theorem dX9_init_47 : decode cX9_init 47 = .ok (.dup, 1) := by decide +kernel
theorem dX9_init_48 : decode cX9_init 48 = .ok (.invokespecial 28, 3) := by decide +kernel
theorem dX9_init_51 : decode cX9_init 51 = .ok (.aastore, 1) := by decide +kernel
theorem dX9_init_52 : decode cX9_init 52 = .ok (.dup, 1) := by decide +kernel
theorem dX9_init_53 : decode cX9_init 53 = .ok (.iconst 1, 1) := by decide +kernel
theorem dX9_init_54 : decode cX9_init 54 = .ok (.new 26, 3) := by decide +kernel
theorem dX9_init_57 : decode cX9_init 57 = .ok (.dup, 1) := by decide +kernel
theorem dX9_init_58 : decode cX9_init 58 = .ok (.invokespecial 28, 3) := by decide +kernel
theorem dX9_init_61 : decode cX9_init 61 = .ok (.aastore, 1) := by decide +kernel
theorem dX9_init_62 : decode cX9_init 62 = .ok (.putfield 29, 3) := by decide +kernel
theorem dX9_init_65 : decode cX9_init 65 = .ok (.aload_n 0, 1) := by decide +kernel
theorem dX9_init_66 : decode cX9_init 66 = .ok (.new 26, 3) := by decide +kernel
theorem dX9_init_69 : decode cX9_init 69 = .ok (.dup, 1) := by decide +kernel
theorem dX9_init_70 : decode cX9_init 70 = .ok (.invokespecial 28, 3) := by decide +kernel
theorem dX9_init_73 : decode cX9_init 73 = .ok (.putfield 33, 3) := by decide +kernel
theorem dX9_init_76 : decode cX9_init 76 = .ok (.aload_n 0, 1) := by decide +kernel
theorem dX9_init_77 : decode cX9_init 77 = .ok (.new 37, 3) := by decide +kernel
theorem dX9_init_80 : decode cX9_init 80 = .ok (.dup, 1) := by decide +kernel
theorem dX9_init_81 : decode cX9_init 81 = .ok (.invokespecial 39, 3) := by decide +kernel
theorem dX9_init_84 : decode cX9_init 84 = .ok (.putfield 40, 3) := by decide +kernel
theorem dX9_init_87 : decode cX9_init 87 = .ok (.aload_n 0, 1) := by decide +kernel
theorem dX9_init_88 : decode cX9_init 88 = .ok (.new 37, 3) := by decide +kernel
theorem dX9_init_91 : decode cX9_init 91 = .ok (.dup, 1) := by decide +kernel
theorem dX9_init_92 : decode cX9_init 92 = .ok (.invokespecial 39, 3) := by decide +kernel
theorem dX9_init_95 : decode cX9_init 95 = .ok (.putfield 44, 3) := by decide +kernel
theorem dX9_init_98 : decode cX9_init 98 = .ok (.aload_n 0, 1) := by decide +kernel
theorem dX9_init_99 : decode cX9_init 99 = .ok (.new 47, 3) := by decide +kernel
theorem dX9_init_102 : decode cX9_init 102 = .ok (.dup, 1) := by decide +kernel
theorem dX9_init_103 : decode cX9_init 103 = .ok (.invokespecial 49, 3) := by decide +kernel
theorem dX9_init_106 : decode cX9_init 106 = .ok (.putfield 50, 3) := by decide +kernel
theorem dX9_init_109 : decode cX9_init 109 = .ok (.aload_n 0, 1) := by decide +kernel
theorem dX9_init_110 : decode cX9_init 110 = .ok (.new 54, 3) := by decide +kernel
theorem dX9_init_113 : decode cX9_init 113 = .ok (.dup, 1) := by decide +kernel
theorem dX9_init_114 : decode cX9_init 114 = .ok (.aload_n 0, 1) := by decide +kernel
theorem dX9_init_115 : decode cX9_init 115 = .ok (.getfield 19, 3) := by decide +kernel
theorem dX9_init_118 : decode cX9_init 118 = .ok (.aload_n 0, 1) := by decide +kernel
theorem dX9_init_119 : decode cX9_init 119 = .ok (.getfield 29, 3) := by decide +kernel
theorem dX9_init_122 : decode cX9_init 122 = .ok (.invokespecial 56, 3) := by decide +kernel
theorem dX9_init_125 : decode cX9_init 125 = .ok (.putfield 59, 3) := by decide +kernel
theorem dX9_init_128 : decode cX9_init 128 = .ok (.aload_n 0, 1) := by decide +kernel
theorem dX9_init_129 : decode cX9_init 129 = .ok (.new 54, 3) := by decide +kernel
theorem dX9_init_132 : decode cX9_init 132 = .ok (.dup, 1) := by decide +kernel
theorem dX9_init_133 : decode cX9_init 133 = .ok (.aload_n 0, 1) := by decide +kernel
theorem dX9_init_134 : decode cX9_init 134 = .ok (.getfield 19, 3) := by decide +kernel
theorem dX9_init_137 : decode cX9_init 137 = .ok (.aload_n 0, 1) := by decide +kernel
theorem dX9_init_138 : decode cX9_init 138 = .ok (.getfield 29, 3) := by decide +kernel
theorem dX9_init_141 : decode cX9_init 141 = .ok (.invokespecial 56, 3) := by decide +kernel
theorem dX9_init_144 : decode cX9_init 144 = .ok (.putfield 63, 3) := by decide +kernel
theorem dX9_init_147 : decode cX9_init 147 = .ok (.aload_n 0, 1) := by decide +kernel
theorem dX9_init_148 : decode cX9_init 148 = .ok (.new 66, 3) := by decide +kernel
theorem dX9_init_151 : decode cX9_init 151 = .ok (.dup, 1) := by decide +kernel
theorem dX9_init_152 : decode cX9_init 152 = .ok (.invokespecial 68, 3) := by decide +kernel
theorem dX9_init_155 : decode cX9_init 155 = .ok (.putfield 69, 3) := by decide +kernel
theorem dX9_init_158 : decode cX9_init 158 = .ok (.aload_n 0, 1) := by decide +kernel
theorem dX9_init_159 : decode cX9_init 159 = .ok (.new 73, 3) := by decide +kernel
theorem dX9_init_162 : decode cX9_init 162 = .ok (.dup, 1) := by decide +kernel
theorem dX9_init_163 : decode cX9_init 163 = .ok (.invokespecial 75, 3) := by decide +kernel
theorem dX9_init_166 : decode cX9_init 166 = .ok (.putfield 76, 3) := by decide +kernel
theorem dX9_init_169 : decode cX9_init 169 = .ok (.aload_n 0, 1) := by decide +kernel
theorem dX9_init_170 : decode cX9_init 170 = .ok (.new 80, 3) := by decide +kernel
theorem dX9_init_173 : decode cX9_init 173 = .ok (.dup, 1) := by decide +kernel
theorem dX9_init_174 : decode cX9_init 174 = .ok (.invokespecial 82, 3) := by decide +kernel
theorem dX9_init_177 : decode cX9_init 177 = .ok (.putfield 83, 3) := by decide +kernel
theorem dX9_init_180 : decode cX9_init 180 = .ok (.aload_n 0, 1) := by decide +kernel
theorem dX9_init_181 : decode cX9_init 181 = .ok (.bipush 41, 2) := by decide +kernel
theorem dX9_init_183 : decode cX9_init 183 = .ok (.newarray .int, 2) := by decide +kernel
theorem dX9_init_185 : decode cX9_init 185 = .ok (.putfield 87, 3) := by decide +kernel
theorem dX9_init_188 : decode cX9_init 188 = .ok (.aload_n 0, 1) := by decide +kernel
theorem dX9_init_189 : decode cX9_init 189 = .ok (.iconst 0, 1) := by decide +kernel
theorem dX9_init_190 : decode cX9_init 190 = .ok (.putfield 91, 3) := by decide +kernel
theorem dX9_init_193 : decode cX9_init 193 = .ok (.aload_n 0, 1) := by decide +kernel
theorem dX9_init_194 : decode cX9_init 194 = .ok (.iconst 0, 1) := by decide +kernel
theorem dX9_init_195 : decode cX9_init 195 = .ok (.putfield 95, 3) := by decide +kernel
theorem dX9_init_198 : decode cX9_init 198 = .ok (.aload_n 0, 1) := by decide +kernel
theorem dX9_init_199 : decode cX9_init 199 = .ok (.iconst 0, 1) := by decide +kernel
theorem dX9_init_200 : decode cX9_init 200 = .ok (.putfield 98, 3) := by decide +kernel
theorem dX9_init_203 : decode cX9_init 203 = .ok (.aload_n 0, 1) := by decide +kernel
theorem dX9_init_204 : decode cX9_init 204 = .ok (.getfield 29, 3) := by decide +kernel
theorem dX9_init_207 : decode cX9_init 207 = .ok (.iconst 0, 1) := by decide +kernel
theorem dX9_init_208 : decode cX9_init 208 = .ok (.aaload, 1) := by decide +kernel
theorem dX9_init_209 : decode cX9_init 209 = .ok (.invokevirtual 101, 3) := by decide +kernel
theorem dX9_init_212 : decode cX9_init 212 = .ok (.aload_n 0, 1) := by decide +kernel
theorem dX9_init_213 : decode cX9_init 213 = .ok (.getfield 29, 3) := by decide +kernel
theorem dX9_init_216 : decode cX9_init 216 = .ok (.iconst 1, 1) := by decide +kernel
theorem dX9_init_217 : decode cX9_init 217 = .ok (.aaload, 1) := by decide +kernel
theorem dX9_init_218 : decode cX9_init 218 = .ok (.invokevirtual 104, 3) := by decide +kernel
theorem dX9_init_221 : decode cX9_init 221 = .ok (.aload_n 0, 1) := by decide +kernel
theorem dX9_init_222 : decode cX9_init 222 = .ok (.getfield 59, 3) := by decide +kernel
theorem dX9_init_225 : decode cX9_init 225 = .ok (.invokevirtual 107, 3) := by decide +kernel
theorem dX9_init_228 : decode cX9_init 228 = .ok (.return_, 1) := by decide +kernel
theorem dX9_law_0 : decode cX9_law 0 = .ok (.aload_n 0, 1) := by decide +kernel
theorem dX9_law_1 : decode cX9_law 1 = .ok (.iload_n 1, 1) := by decide +kernel
theorem dX9_law_2 : decode cX9_law 2 = .ok (.iconst 0, 1) := by decide +kernel
theorem dX9_law_3 : decode cX9_law 3 = .ok (.iconst 1, 1) := by decide +kernel
theorem dX9_law_4 : decode cX9_law 4 = .ok (.invokestatic 144, 3) := by decide +kernel
theorem dX9_law_7 : decode cX9_law 7 = .ok (.invokevirtual 148, 3) := by decide +kernel
theorem dX9_law_10 : decode cX9_law 10 = .ok (.aload_n 0, 1) := by decide +kernel
theorem dX9_law_11 : decode cX9_law 11 = .ok (.iload_n 2, 1) := by decide +kernel
theorem dX9_law_12 : decode cX9_law 12 = .ok (.sipush 150, 3) := by decide +kernel
theorem dX9_law_15 : decode cX9_law 15 = .ok (.invokevirtual 121, 3) := by decide +kernel
theorem dX9_law_18 : decode cX9_law 18 = .ok (.aload_n 0, 1) := by decide +kernel
theorem dX9_law_19 : decode cX9_law 19 = .ok (.getfield 33, 3) := by decide +kernel
theorem dX9_law_22 : decode cX9_law 22 = .ok (.aload_n 0, 1) := by decide +kernel
theorem dX9_law_23 : decode cX9_law 23 = .ok (.getfield 10, 3) := by decide +kernel
theorem dX9_law_26 : decode cX9_law 26 = .ok (.invokevirtual 152, 3) := by decide +kernel
theorem dX9_law_29 : decode cX9_law 29 = .ok (.ifCond .ne 14, 3) := by decide +kernel
theorem dX9_law_32 : decode cX9_law 32 = .ok (.aload_n 0, 1) := by decide +kernel
theorem dX9_law_33 : decode cX9_law 33 = .ok (.getfield 10, 3) := by decide +kernel
theorem dX9_law_36 : decode cX9_law 36 = .ok (.getfield 129, 3) := by decide +kernel
theorem dX9_law_39 : decode cX9_law 39 = .ok (.bipush 10, 2) := by decide +kernel
theorem dX9_law_41 : decode cX9_law 41 = .ok (.isub, 1) := by decide +kernel
theorem dX9_law_42 : decode cX9_law 42 = .ok (.ireturn, 1) := by decide +kernel
theorem dX9_law_43 : decode cX9_law 43 = .ok (.aload_n 0, 1) := by decide +kernel
theorem dX9_law_44 : decode cX9_law 44 = .ok (.getfield 29, 3) := by decide +kernel
theorem dX9_law_47 : decode cX9_law 47 = .ok (.iload_n 1, 1) := by decide +kernel
theorem dX9_law_48 : decode cX9_law 48 = .ok (.aaload, 1) := by decide +kernel
theorem dX9_law_49 : decode cX9_law 49 = .ok (.aload_n 0, 1) := by decide +kernel
theorem dX9_law_50 : decode cX9_law 50 = .ok (.getfield 33, 3) := by decide +kernel
theorem dX9_law_53 : decode cX9_law 53 = .ok (.invokevirtual 153, 3) := by decide +kernel
theorem dX9_law_56 : decode cX9_law 56 = .ok (.iconst 1, 1) := by decide +kernel
theorem dX9_law_57 : decode cX9_law 57 = .ok (.ireturn, 1) := by decide +kernel
theorem dX9_leftAtWorst_0 : decode cX9_leftAtWorst 0 = .ok (.iconst 0, 1) := by decide +kernel
theorem dX9_leftAtWorst_1 : decode cX9_leftAtWorst 1 = .ok (.istore 4, 2) := by decide +kernel
theorem dX9_leftAtWorst_3 : decode cX9_leftAtWorst 3 = .ok (.iload 4, 2) := by decide +kernel
theorem dX9_leftAtWorst_5 : decode cX9_leftAtWorst 5 = .ok (.aload_n 0, 1) := by decide +kernel
theorem dX9_leftAtWorst_6 : decode cX9_leftAtWorst 6 = .ok (.getfield 87, 3) := by decide +kernel
theorem dX9_leftAtWorst_9 : decode cX9_leftAtWorst 9 = .ok (.arraylength, 1) := by decide +kernel
theorem dX9_leftAtWorst_10 : decode cX9_leftAtWorst 10 = .ok (.if_icmp .ge 17, 3) := by decide +kernel
theorem dX9_leftAtWorst_13 : decode cX9_leftAtWorst 13 = .ok (.aload_n 0, 1) := by decide +kernel
theorem dX9_leftAtWorst_14 : decode cX9_leftAtWorst 14 = .ok (.getfield 87, 3) := by decide +kernel
theorem dX9_leftAtWorst_17 : decode cX9_leftAtWorst 17 = .ok (.iload 4, 2) := by decide +kernel
theorem dX9_leftAtWorst_19 : decode cX9_leftAtWorst 19 = .ok (.iconst 0, 1) := by decide +kernel
theorem dX9_leftAtWorst_20 : decode cX9_leftAtWorst 20 = .ok (.iastore, 1) := by decide +kernel
theorem dX9_leftAtWorst_21 : decode cX9_leftAtWorst 21 = .ok (.iinc 4 1, 3) := by decide +kernel
theorem dX9_leftAtWorst_24 : decode cX9_leftAtWorst 24 = .ok (.goto (-21), 3) := by decide +kernel
theorem dX9_leftAtWorst_27 : decode cX9_leftAtWorst 27 = .ok (.iconst 0, 1) := by decide +kernel
theorem dX9_leftAtWorst_28 : decode cX9_leftAtWorst 28 = .ok (.istore 4, 2) := by decide +kernel
theorem dX9_leftAtWorst_30 : decode cX9_leftAtWorst 30 = .ok (.iconst 0, 1) := by decide +kernel
theorem dX9_leftAtWorst_31 : decode cX9_leftAtWorst 31 = .ok (.istore 5, 2) := by decide +kernel
theorem dX9_leftAtWorst_33 : decode cX9_leftAtWorst 33 = .ok (.iload 5, 2) := by decide +kernel
theorem dX9_leftAtWorst_35 : decode cX9_leftAtWorst 35 = .ok (.bipush 9, 2) := by decide +kernel
theorem dX9_leftAtWorst_37 : decode cX9_leftAtWorst 37 = .ok (.if_icmp .gt 74, 3) := by decide +kernel
theorem dX9_leftAtWorst_40 : decode cX9_leftAtWorst 40 = .ok (.iload_n 2, 1) := by decide +kernel
theorem dX9_leftAtWorst_41 : decode cX9_leftAtWorst 41 = .ok (.iload 5, 2) := by decide +kernel
theorem dX9_leftAtWorst_43 : decode cX9_leftAtWorst 43 = .ok (.ishr, 1) := by decide +kernel
theorem dX9_leftAtWorst_44 : decode cX9_leftAtWorst 44 = .ok (.iconst 1, 1) := by decide +kernel
theorem dX9_leftAtWorst_45 : decode cX9_leftAtWorst 45 = .ok (.iand, 1) := by decide +kernel
theorem dX9_leftAtWorst_46 : decode cX9_leftAtWorst 46 = .ok (.ifCond .ne 6, 3) := by decide +kernel
theorem dX9_leftAtWorst_49 : decode cX9_leftAtWorst 49 = .ok (.goto 56, 3) := by decide +kernel
theorem dX9_leftAtWorst_52 : decode cX9_leftAtWorst 52 = .ok (.aload_n 0, 1) := by decide +kernel
theorem dX9_leftAtWorst_53 : decode cX9_leftAtWorst 53 = .ok (.getfield 63, 3) := by decide +kernel
theorem dX9_leftAtWorst_56 : decode cX9_leftAtWorst 56 = .ok (.iload_n 1, 1) := by decide +kernel
theorem dX9_leftAtWorst_57 : decode cX9_leftAtWorst 57 = .ok (.iload 5, 2) := by decide +kernel
theorem dX9_leftAtWorst_59 : decode cX9_leftAtWorst 59 = .ok (.iload_n 3, 1) := by decide +kernel
theorem dX9_leftAtWorst_60 : decode cX9_leftAtWorst 60 = .ok (.invokevirtual 359, 3) := by decide +kernel
theorem dX9_leftAtWorst_63 : decode cX9_leftAtWorst 63 = .ok (.istore 6, 2) := by decide +kernel
theorem dX9_leftAtWorst_65 : decode cX9_leftAtWorst 65 = .ok (.iload 6, 2) := by decide +kernel
theorem dX9_leftAtWorst_67 : decode cX9_leftAtWorst 67 = .ok (.ifCond .lt 38, 3) := by decide +kernel
theorem dX9_leftAtWorst_70 : decode cX9_leftAtWorst 70 = .ok (.iload 6, 2) := by decide +kernel
theorem dX9_leftAtWorst_72 : decode cX9_leftAtWorst 72 = .ok (.aload_n 0, 1) := by decide +kernel
theorem dX9_leftAtWorst_73 : decode cX9_leftAtWorst 73 = .ok (.getfield 87, 3) := by decide +kernel
theorem dX9_leftAtWorst_76 : decode cX9_leftAtWorst 76 = .ok (.arraylength, 1) := by decide +kernel
theorem dX9_leftAtWorst_77 : decode cX9_leftAtWorst 77 = .ok (.if_icmp .ge 28, 3) := by decide +kernel
theorem dX9_leftAtWorst_80 : decode cX9_leftAtWorst 80 = .ok (.aload_n 0, 1) := by decide +kernel
theorem dX9_leftAtWorst_81 : decode cX9_leftAtWorst 81 = .ok (.getfield 87, 3) := by decide +kernel
theorem dX9_leftAtWorst_84 : decode cX9_leftAtWorst 84 = .ok (.iload 6, 2) := by decide +kernel
theorem dX9_leftAtWorst_86 : decode cX9_leftAtWorst 86 = .ok (.dup2, 1) := by decide +kernel
theorem dX9_leftAtWorst_87 : decode cX9_leftAtWorst 87 = .ok (.iaload, 1) := by decide +kernel
theorem dX9_leftAtWorst_88 : decode cX9_leftAtWorst 88 = .ok (.iconst 1, 1) := by decide +kernel
theorem dX9_leftAtWorst_89 : decode cX9_leftAtWorst 89 = .ok (.iadd, 1) := by decide +kernel
theorem dX9_leftAtWorst_90 : decode cX9_leftAtWorst 90 = .ok (.iastore, 1) := by decide +kernel
theorem dX9_leftAtWorst_91 : decode cX9_leftAtWorst 91 = .ok (.iload 4, 2) := by decide +kernel
theorem dX9_leftAtWorst_93 : decode cX9_leftAtWorst 93 = .ok (.aload_n 0, 1) := by decide +kernel
theorem dX9_leftAtWorst_94 : decode cX9_leftAtWorst 94 = .ok (.getfield 87, 3) := by decide +kernel
theorem dX9_leftAtWorst_97 : decode cX9_leftAtWorst 97 = .ok (.iload 6, 2) := by decide +kernel
theorem dX9_leftAtWorst_99 : decode cX9_leftAtWorst 99 = .ok (.iaload, 1) := by decide +kernel
theorem dX9_leftAtWorst_100 : decode cX9_leftAtWorst 100 = .ok (.invokestatic 212, 3) := by decide +kernel
theorem dX9_leftAtWorst_103 : decode cX9_leftAtWorst 103 = .ok (.istore 4, 2) := by decide +kernel
theorem dX9_leftAtWorst_105 : decode cX9_leftAtWorst 105 = .ok (.iinc 5 1, 3) := by decide +kernel
theorem dX9_leftAtWorst_108 : decode cX9_leftAtWorst 108 = .ok (.goto (-75), 3) := by decide +kernel
theorem dX9_leftAtWorst_111 : decode cX9_leftAtWorst 111 = .ok (.iload 4, 2) := by decide +kernel
theorem dX9_leftAtWorst_113 : decode cX9_leftAtWorst 113 = .ok (.ireturn, 1) := by decide +kernel
theorem dX9_listen_0 : decode cX9_listen 0 = .ok (.aload_n 0, 1) := by decide +kernel
theorem dX9_listen_1 : decode cX9_listen 1 = .ok (.iload_n 1, 1) := by decide +kernel
theorem dX9_listen_2 : decode cX9_listen 2 = .ok (.invokevirtual 200, 3) := by decide +kernel
theorem dX9_listen_5 : decode cX9_listen 5 = .ok (.aload_n 0, 1) := by decide +kernel
theorem dX9_listen_6 : decode cX9_listen 6 = .ok (.iload_n 2, 1) := by decide +kernel
theorem dX9_listen_7 : decode cX9_listen 7 = .ok (.iconst 0, 1) := by decide +kernel
theorem dX9_listen_8 : decode cX9_listen 8 = .ok (.iconst 1, 1) := by decide +kernel
theorem dX9_listen_9 : decode cX9_listen 9 = .ok (.invokestatic 144, 3) := by decide +kernel
theorem dX9_listen_12 : decode cX9_listen 12 = .ok (.invokevirtual 148, 3) := by decide +kernel
theorem dX9_listen_15 : decode cX9_listen 15 = .ok (.aload_n 0, 1) := by decide +kernel
theorem dX9_listen_16 : decode cX9_listen 16 = .ok (.iload_n 1, 1) := by decide +kernel
theorem dX9_listen_17 : decode cX9_listen 17 = .ok (.invokevirtual 298, 3) := by decide +kernel
theorem dX9_listen_20 : decode cX9_listen 20 = .ok (.istore_n 3, 1) := by decide +kernel
theorem dX9_listen_21 : decode cX9_listen 21 = .ok (.iconst (-1), 1) := by decide +kernel
theorem dX9_listen_22 : decode cX9_listen 22 = .ok (.istore 4, 2) := by decide +kernel
theorem dX9_listen_24 : decode cX9_listen 24 = .ok (.bipush 11, 2) := by decide +kernel
theorem dX9_listen_26 : decode cX9_listen 26 = .ok (.istore 5, 2) := by decide +kernel
theorem dX9_listen_28 : decode cX9_listen 28 = .ok (.iconst 0, 1) := by decide +kernel
theorem dX9_listen_29 : decode cX9_listen 29 = .ok (.istore 6, 2) := by decide +kernel
theorem dX9_listen_31 : decode cX9_listen 31 = .ok (.iload 6, 2) := by decide +kernel
theorem dX9_listen_33 : decode cX9_listen 33 = .ok (.sipush 240, 3) := by decide +kernel
theorem dX9_listen_36 : decode cX9_listen 36 = .ok (.if_icmp .ge 49, 3) := by decide +kernel
theorem dX9_listen_39 : decode cX9_listen 39 = .ok (.aload_n 0, 1) := by decide +kernel
theorem dX9_listen_40 : decode cX9_listen 40 = .ok (.getfield 40, 3) := by decide +kernel
theorem dX9_listen_43 : decode cX9_listen 43 = .ok (.iload 6, 2) := by decide +kernel
theorem dX9_listen_45 : decode cX9_listen 45 = .ok (.invokevirtual 301, 3) := by decide +kernel
theorem dX9_listen_48 : decode cX9_listen 48 = .ok (.ifCond .eq 6, 3) := by decide +kernel
theorem dX9_listen_51 : decode cX9_listen 51 = .ok (.goto 28, 3) := by decide +kernel
theorem dX9_listen_54 : decode cX9_listen 54 = .ok (.aload_n 0, 1) := by decide +kernel
theorem dX9_listen_55 : decode cX9_listen 55 = .ok (.iload_n 1, 1) := by decide +kernel
theorem dX9_listen_56 : decode cX9_listen 56 = .ok (.iload_n 3, 1) := by decide +kernel
theorem dX9_listen_57 : decode cX9_listen 57 = .ok (.iload 6, 2) := by decide +kernel
theorem dX9_listen_59 : decode cX9_listen 59 = .ok (.invokevirtual 304, 3) := by decide +kernel
theorem dX9_listen_62 : decode cX9_listen 62 = .ok (.istore 7, 2) := by decide +kernel
theorem dX9_listen_64 : decode cX9_listen 64 = .ok (.iload 7, 2) := by decide +kernel
theorem dX9_listen_66 : decode cX9_listen 66 = .ok (.iload 5, 2) := by decide +kernel
theorem dX9_listen_68 : decode cX9_listen 68 = .ok (.if_icmp .ge 11, 3) := by decide +kernel
theorem dX9_listen_71 : decode cX9_listen 71 = .ok (.iload 7, 2) := by decide +kernel
theorem dX9_listen_73 : decode cX9_listen 73 = .ok (.istore 5, 2) := by decide +kernel
theorem dX9_listen_75 : decode cX9_listen 75 = .ok (.iload 6, 2) := by decide +kernel
theorem dX9_listen_77 : decode cX9_listen 77 = .ok (.istore 4, 2) := by decide +kernel
theorem dX9_listen_79 : decode cX9_listen 79 = .ok (.iinc 6 1, 3) := by decide +kernel
theorem dX9_listen_82 : decode cX9_listen 82 = .ok (.goto (-51), 3) := by decide +kernel
theorem dX9_listen_85 : decode cX9_listen 85 = .ok (.iload_n 2, 1) := by decide +kernel
theorem dX9_listen_86 : decode cX9_listen 86 = .ok (.ifCond .ne 8, 3) := by decide +kernel
theorem dX9_listen_89 : decode cX9_listen 89 = .ok (.iload 4, 2) := by decide +kernel
theorem dX9_listen_91 : decode cX9_listen 91 = .ok (.goto 5, 3) := by decide +kernel
theorem dX9_listen_94 : decode cX9_listen 94 = .ok (.iload 5, 2) := by decide +kernel
theorem dX9_listen_96 : decode cX9_listen 96 = .ok (.ireturn, 1) := by decide +kernel
theorem dX9_loud_0 : decode cX9_loud 0 = .ok (.aload_n 0, 1) := by decide +kernel
theorem dX9_loud_1 : decode cX9_loud 1 = .ok (.iload_n 1, 1) := by decide +kernel
theorem dX9_loud_2 : decode cX9_loud 2 = .ok (.invokevirtual 200, 3) := by decide +kernel
theorem dX9_loud_5 : decode cX9_loud 5 = .ok (.aload_n 0, 1) := by decide +kernel
theorem dX9_loud_6 : decode cX9_loud 6 = .ok (.invokevirtual 218, 3) := by decide +kernel
theorem dX9_loud_9 : decode cX9_loud 9 = .ok (.iload_n 1, 1) := by decide +kernel
theorem dX9_loud_10 : decode cX9_loud 10 = .ok (.invokevirtual 228, 3) := by decide +kernel
theorem dX9_loud_13 : decode cX9_loud 13 = .ok (.ireturn, 1) := by decide +kernel
theorem dX9_loudest_0 : decode cX9_loudest 0 = .ok (.aload_n 0, 1) := by decide +kernel
theorem dX9_loudest_1 : decode cX9_loudest 1 = .ok (.iload_n 1, 1) := by decide +kernel
theorem dX9_loudest_2 : decode cX9_loudest 2 = .ok (.invokevirtual 200, 3) := by decide +kernel
theorem dX9_loudest_5 : decode cX9_loudest 5 = .ok (.aload_n 0, 1) := by decide +kernel
theorem dX9_loudest_6 : decode cX9_loudest 6 = .ok (.invokevirtual 218, 3) := by decide +kernel
theorem dX9_loudest_9 : decode cX9_loudest 9 = .ok (.astore_n 2, 1) := by decide +kernel
theorem dX9_loudest_10 : decode cX9_loudest 10 = .ok (.aload_n 2, 1) := by decide +kernel
theorem dX9_loudest_11 : decode cX9_loudest 11 = .ok (.iconst 0, 1) := by decide +kernel
theorem dX9_loudest_12 : decode cX9_loudest 12 = .ok (.invokevirtual 222, 3) := by decide +kernel
theorem dX9_loudest_15 : decode cX9_loudest 15 = .ok (.iconst (-1), 1) := by decide +kernel
theorem dX9_loudest_16 : decode cX9_loudest 16 = .ok (.istore_n 3, 1) := by decide +kernel
theorem dX9_loudest_17 : decode cX9_loudest 17 = .ok (.iconst 0, 1) := by decide +kernel
theorem dX9_loudest_18 : decode cX9_loudest 18 = .ok (.istore 4, 2) := by decide +kernel
theorem dX9_loudest_20 : decode cX9_loudest 20 = .ok (.iconst 0, 1) := by decide +kernel
theorem dX9_loudest_21 : decode cX9_loudest 21 = .ok (.istore 5, 2) := by decide +kernel
theorem dX9_loudest_23 : decode cX9_loudest 23 = .ok (.iload 5, 2) := by decide +kernel
theorem dX9_loudest_25 : decode cX9_loudest 25 = .ok (.aload_n 0, 1) := by decide +kernel
theorem dX9_loudest_26 : decode cX9_loudest 26 = .ok (.getfield 19, 3) := by decide +kernel
theorem dX9_loudest_29 : decode cX9_loudest 29 = .ok (.getfield 141, 3) := by decide +kernel
theorem dX9_loudest_32 : decode cX9_loudest 32 = .ok (.if_icmp .ge 32, 3) := by decide +kernel
theorem dX9_loudest_35 : decode cX9_loudest 35 = .ok (.aload_n 2, 1) := by decide +kernel
theorem dX9_loudest_36 : decode cX9_loudest 36 = .ok (.iload_n 1, 1) := by decide +kernel
theorem dX9_loudest_37 : decode cX9_loudest 37 = .ok (.iload 5, 2) := by decide +kernel
theorem dX9_loudest_39 : decode cX9_loudest 39 = .ok (.invokevirtual 246, 3) := by decide +kernel
theorem dX9_loudest_42 : decode cX9_loudest 42 = .ok (.istore 6, 2) := by decide +kernel
theorem dX9_loudest_44 : decode cX9_loudest 44 = .ok (.iload 6, 2) := by decide +kernel
theorem dX9_loudest_46 : decode cX9_loudest 46 = .ok (.iload 4, 2) := by decide +kernel
theorem dX9_loudest_48 : decode cX9_loudest 48 = .ok (.if_icmp .le 10, 3) := by decide +kernel
theorem dX9_loudest_51 : decode cX9_loudest 51 = .ok (.iload 6, 2) := by decide +kernel
theorem dX9_loudest_53 : decode cX9_loudest 53 = .ok (.istore 4, 2) := by decide +kernel
theorem dX9_loudest_55 : decode cX9_loudest 55 = .ok (.iload 5, 2) := by decide +kernel
theorem dX9_loudest_57 : decode cX9_loudest 57 = .ok (.istore_n 3, 1) := by decide +kernel
theorem dX9_loudest_58 : decode cX9_loudest 58 = .ok (.iinc 5 1, 3) := by decide +kernel
theorem dX9_loudest_61 : decode cX9_loudest 61 = .ok (.goto (-38), 3) := by decide +kernel
theorem dX9_loudest_64 : decode cX9_loudest 64 = .ok (.iload_n 3, 1) := by decide +kernel
theorem dX9_loudest_65 : decode cX9_loudest 65 = .ok (.ireturn, 1) := by decide +kernel
theorem dX9_most_0 : decode cX9_most 0 = .ok (.aload_n 0, 1) := by decide +kernel
theorem dX9_most_1 : decode cX9_most 1 = .ok (.iload_n 1, 1) := by decide +kernel
theorem dX9_most_2 : decode cX9_most 2 = .ok (.iconst 0, 1) := by decide +kernel
theorem dX9_most_3 : decode cX9_most 3 = .ok (.iconst 1, 1) := by decide +kernel
theorem dX9_most_4 : decode cX9_most 4 = .ok (.invokestatic 144, 3) := by decide +kernel
theorem dX9_most_7 : decode cX9_most 7 = .ok (.invokevirtual 148, 3) := by decide +kernel
theorem dX9_most_10 : decode cX9_most 10 = .ok (.aload_n 0, 1) := by decide +kernel
theorem dX9_most_11 : decode cX9_most 11 = .ok (.invokevirtual 218, 3) := by decide +kernel
theorem dX9_most_14 : decode cX9_most 14 = .ok (.astore_n 2, 1) := by decide +kernel
theorem dX9_most_15 : decode cX9_most 15 = .ok (.iconst 0, 1) := by decide +kernel
theorem dX9_most_16 : decode cX9_most 16 = .ok (.istore_n 3, 1) := by decide +kernel
theorem dX9_most_17 : decode cX9_most 17 = .ok (.aload_n 2, 1) := by decide +kernel
theorem dX9_most_18 : decode cX9_most 18 = .ok (.invokevirtual 190, 3) := by decide +kernel
theorem dX9_most_21 : decode cX9_most 21 = .ok (.istore 4, 2) := by decide +kernel
theorem dX9_most_23 : decode cX9_most 23 = .ok (.iconst 1, 1) := by decide +kernel
theorem dX9_most_24 : decode cX9_most 24 = .ok (.istore 5, 2) := by decide +kernel
theorem dX9_most_26 : decode cX9_most 26 = .ok (.iload 5, 2) := by decide +kernel
theorem dX9_most_28 : decode cX9_most 28 = .ok (.bipush 120, 2) := by decide +kernel
theorem dX9_most_30 : decode cX9_most 30 = .ok (.if_icmp .gt 35, 3) := by decide +kernel
theorem dX9_most_33 : decode cX9_most 33 = .ok (.aload_n 2, 1) := by decide +kernel
theorem dX9_most_34 : decode cX9_most 34 = .ok (.iconst 0, 1) := by decide +kernel
theorem dX9_most_35 : decode cX9_most 35 = .ok (.invokevirtual 243, 3) := by decide +kernel
theorem dX9_most_38 : decode cX9_most 38 = .ok (.pop, 1) := by decide +kernel
theorem dX9_most_39 : decode cX9_most 39 = .ok (.aload_n 2, 1) := by decide +kernel
theorem dX9_most_40 : decode cX9_most 40 = .ok (.invokevirtual 190, 3) := by decide +kernel
theorem dX9_most_43 : decode cX9_most 43 = .ok (.istore 6, 2) := by decide +kernel
theorem dX9_most_45 : decode cX9_most 45 = .ok (.iload 6, 2) := by decide +kernel
theorem dX9_most_47 : decode cX9_most 47 = .ok (.iload 4, 2) := by decide +kernel
theorem dX9_most_49 : decode cX9_most 49 = .ok (.if_icmp .le 10, 3) := by decide +kernel
theorem dX9_most_52 : decode cX9_most 52 = .ok (.iload 6, 2) := by decide +kernel
theorem dX9_most_54 : decode cX9_most 54 = .ok (.istore 4, 2) := by decide +kernel
theorem dX9_most_56 : decode cX9_most 56 = .ok (.iload 5, 2) := by decide +kernel
theorem dX9_most_58 : decode cX9_most 58 = .ok (.istore_n 3, 1) := by decide +kernel
theorem dX9_most_59 : decode cX9_most 59 = .ok (.iinc 5 1, 3) := by decide +kernel
theorem dX9_most_62 : decode cX9_most 62 = .ok (.goto (-36), 3) := by decide +kernel
theorem dX9_most_65 : decode cX9_most 65 = .ok (.iload_n 1, 1) := by decide +kernel
theorem dX9_most_66 : decode cX9_most 66 = .ok (.ifCond .ne 7, 3) := by decide +kernel
theorem dX9_most_69 : decode cX9_most 69 = .ok (.iload_n 3, 1) := by decide +kernel
theorem dX9_most_70 : decode cX9_most 70 = .ok (.goto 5, 3) := by decide +kernel
theorem dX9_most_73 : decode cX9_most 73 = .ok (.iload 4, 2) := by decide +kernel
theorem dX9_most_75 : decode cX9_most 75 = .ok (.ireturn, 1) := by decide +kernel
theorem dX9_nights_0 : decode cX9_nights 0 = .ok (.aload_n 0, 1) := by decide +kernel
theorem dX9_nights_1 : decode cX9_nights 1 = .ok (.iload_n 2, 1) := by decide +kernel
theorem dX9_nights_2 : decode cX9_nights 2 = .ok (.iload_n 3, 1) := by decide +kernel
theorem dX9_nights_3 : decode cX9_nights 3 = .ok (.iload 4, 2) := by decide +kernel
theorem dX9_nights_5 : decode cX9_nights 5 = .ok (.invokevirtual 322, 3) := by decide +kernel
theorem dX9_nights_8 : decode cX9_nights 8 = .ok (.aload_n 0, 1) := by decide +kernel
theorem dX9_nights_9 : decode cX9_nights 9 = .ok (.iload 5, 2) := by decide +kernel
theorem dX9_nights_11 : decode cX9_nights 11 = .ok (.iconst 0, 1) := by decide +kernel
theorem dX9_nights_12 : decode cX9_nights 12 = .ok (.iconst 3, 1) := by decide +kernel
theorem dX9_nights_13 : decode cX9_nights 13 = .ok (.invokestatic 144, 3) := by decide +kernel
theorem dX9_nights_16 : decode cX9_nights 16 = .ok (.invokevirtual 148, 3) := by decide +kernel
theorem dX9_nights_19 : decode cX9_nights 19 = .ok (.aload_n 0, 1) := by decide +kernel
theorem dX9_nights_20 : decode cX9_nights 20 = .ok (.invokevirtual 218, 3) := by decide +kernel
theorem dX9_nights_23 : decode cX9_nights 23 = .ok (.astore 6, 2) := by decide +kernel
theorem dX9_nights_25 : decode cX9_nights 25 = .ok (.aload 6, 2) := by decide +kernel
theorem dX9_nights_27 : decode cX9_nights 27 = .ok (.iload_n 1, 1) := by decide +kernel
theorem dX9_nights_28 : decode cX9_nights 28 = .ok (.iload_n 2, 1) := by decide +kernel
theorem dX9_nights_29 : decode cX9_nights 29 = .ok (.iload_n 3, 1) := by decide +kernel
theorem dX9_nights_30 : decode cX9_nights 30 = .ok (.iload 4, 2) := by decide +kernel
theorem dX9_nights_32 : decode cX9_nights 32 = .ok (.invokevirtual 326, 3) := by decide +kernel
theorem dX9_nights_35 : decode cX9_nights 35 = .ok (.iload 5, 2) := by decide +kernel
theorem dX9_nights_37 : decode cX9_nights 37 = .ok (.tableswitch 67 0 2 #[27, 41, 61], 27) := by decide +kernel
theorem dX9_nights_64 : decode cX9_nights 64 = .ok (.aload 6, 2) := by decide +kernel
theorem dX9_nights_66 : decode cX9_nights 66 = .ok (.invokevirtual 194, 3) := by decide +kernel
theorem dX9_nights_69 : decode cX9_nights 69 = .ok (.aload_n 0, 1) := by decide +kernel
theorem dX9_nights_70 : decode cX9_nights 70 = .ok (.getfield 59, 3) := by decide +kernel
theorem dX9_nights_73 : decode cX9_nights 73 = .ok (.invokevirtual 194, 3) := by decide +kernel
theorem dX9_nights_76 : decode cX9_nights 76 = .ok (.isub, 1) := by decide +kernel
theorem dX9_nights_77 : decode cX9_nights 77 = .ok (.ireturn, 1) := by decide +kernel
theorem dX9_nights_78 : decode cX9_nights 78 = .ok (.aload 6, 2) := by decide +kernel
theorem dX9_nights_80 : decode cX9_nights 80 = .ok (.getfield 162, 3) := by decide +kernel
theorem dX9_nights_83 : decode cX9_nights 83 = .ok (.bipush 41, 2) := by decide +kernel
theorem dX9_nights_85 : decode cX9_nights 85 = .ok (.iaload, 1) := by decide +kernel
theorem dX9_nights_86 : decode cX9_nights 86 = .ok (.aload_n 0, 1) := by decide +kernel
theorem dX9_nights_87 : decode cX9_nights 87 = .ok (.getfield 59, 3) := by decide +kernel
theorem dX9_nights_90 : decode cX9_nights 90 = .ok (.getfield 162, 3) := by decide +kernel
theorem dX9_nights_93 : decode cX9_nights 93 = .ok (.bipush 41, 2) := by decide +kernel
theorem dX9_nights_95 : decode cX9_nights 95 = .ok (.iaload, 1) := by decide +kernel
theorem dX9_nights_96 : decode cX9_nights 96 = .ok (.isub, 1) := by decide +kernel
theorem dX9_nights_97 : decode cX9_nights 97 = .ok (.ireturn, 1) := by decide +kernel
theorem dX9_nights_98 : decode cX9_nights 98 = .ok (.aload 6, 2) := by decide +kernel
theorem dX9_nights_100 : decode cX9_nights 100 = .ok (.getfield 329, 3) := by decide +kernel
theorem dX9_nights_103 : decode cX9_nights 103 = .ok (.ireturn, 1) := by decide +kernel
theorem dX9_nights_104 : decode cX9_nights 104 = .ok (.aload 6, 2) := by decide +kernel
theorem dX9_nights_106 : decode cX9_nights 106 = .ok (.invokevirtual 190, 3) := by decide +kernel
theorem dX9_nights_109 : decode cX9_nights 109 = .ok (.ireturn, 1) := by decide +kernel
theorem dX9_nightsToListen_0 : decode cX9_nightsToListen 0 = .ok (.bipush 8, 2) := by decide +kernel
theorem dX9_nightsToListen_2 : decode cX9_nightsToListen 2 = .ok (.iload_n 2, 1) := by decide +kernel
theorem dX9_nightsToListen_3 : decode cX9_nightsToListen 3 = .ok (.imul, 1) := by decide +kernel
theorem dX9_nightsToListen_4 : decode cX9_nightsToListen 4 = .ok (.iload_n 3, 1) := by decide +kernel
theorem dX9_nightsToListen_5 : decode cX9_nightsToListen 5 = .ok (.isub, 1) := by decide +kernel
theorem dX9_nightsToListen_6 : decode cX9_nightsToListen 6 = .ok (.istore 4, 2) := by decide +kernel
theorem dX9_nightsToListen_8 : decode cX9_nightsToListen 8 = .ok (.iconst 0, 1) := by decide +kernel
theorem dX9_nightsToListen_9 : decode cX9_nightsToListen 9 = .ok (.istore 5, 2) := by decide +kernel
theorem dX9_nightsToListen_11 : decode cX9_nightsToListen 11 = .ok (.iconst 0, 1) := by decide +kernel
theorem dX9_nightsToListen_12 : decode cX9_nightsToListen 12 = .ok (.istore 6, 2) := by decide +kernel
theorem dX9_nightsToListen_14 : decode cX9_nightsToListen 14 = .ok (.iload 6, 2) := by decide +kernel
theorem dX9_nightsToListen_16 : decode cX9_nightsToListen 16 = .ok (.aload_n 0, 1) := by decide +kernel
theorem dX9_nightsToListen_17 : decode cX9_nightsToListen 17 = .ok (.getfield 19, 3) := by decide +kernel
theorem dX9_nightsToListen_20 : decode cX9_nightsToListen 20 = .ok (.getfield 141, 3) := by decide +kernel
theorem dX9_nightsToListen_23 : decode cX9_nightsToListen 23 = .ok (.if_icmp .ge 69, 3) := by decide +kernel
theorem dX9_nightsToListen_26 : decode cX9_nightsToListen 26 = .ok (.iload_n 1, 1) := by decide +kernel
theorem dX9_nightsToListen_27 : decode cX9_nightsToListen 27 = .ok (.iload 6, 2) := by decide +kernel
theorem dX9_nightsToListen_29 : decode cX9_nightsToListen 29 = .ok (.ishr, 1) := by decide +kernel
theorem dX9_nightsToListen_30 : decode cX9_nightsToListen 30 = .ok (.iconst 1, 1) := by decide +kernel
theorem dX9_nightsToListen_31 : decode cX9_nightsToListen 31 = .ok (.iand, 1) := by decide +kernel
theorem dX9_nightsToListen_32 : decode cX9_nightsToListen 32 = .ok (.ifCond .ne 6, 3) := by decide +kernel
theorem dX9_nightsToListen_35 : decode cX9_nightsToListen 35 = .ok (.goto 51, 3) := by decide +kernel
theorem dX9_nightsToListen_38 : decode cX9_nightsToListen 38 = .ok (.bipush 8, 2) := by decide +kernel
theorem dX9_nightsToListen_40 : decode cX9_nightsToListen 40 = .ok (.iconst 0, 1) := by decide +kernel
theorem dX9_nightsToListen_41 : decode cX9_nightsToListen 41 = .ok (.bipush 8, 2) := by decide +kernel
theorem dX9_nightsToListen_43 : decode cX9_nightsToListen 43 = .ok (.aload_n 0, 1) := by decide +kernel
theorem dX9_nightsToListen_44 : decode cX9_nightsToListen 44 = .ok (.getfield 19, 3) := by decide +kernel
theorem dX9_nightsToListen_47 : decode cX9_nightsToListen 47 = .ok (.getfield 209, 3) := by decide +kernel
theorem dX9_nightsToListen_50 : decode cX9_nightsToListen 50 = .ok (.iload 6, 2) := by decide +kernel
theorem dX9_nightsToListen_52 : decode cX9_nightsToListen 52 = .ok (.iaload, 1) := by decide +kernel
theorem dX9_nightsToListen_53 : decode cX9_nightsToListen 53 = .ok (.bipush 60, 2) := by decide +kernel
theorem dX9_nightsToListen_55 : decode cX9_nightsToListen 55 = .ok (.idiv, 1) := by decide +kernel
theorem dX9_nightsToListen_56 : decode cX9_nightsToListen 56 = .ok (.isub, 1) := by decide +kernel
theorem dX9_nightsToListen_57 : decode cX9_nightsToListen 57 = .ok (.invokestatic 212, 3) := by decide +kernel
theorem dX9_nightsToListen_60 : decode cX9_nightsToListen 60 = .ok (.isub, 1) := by decide +kernel
theorem dX9_nightsToListen_61 : decode cX9_nightsToListen 61 = .ok (.istore 7, 2) := by decide +kernel
theorem dX9_nightsToListen_63 : decode cX9_nightsToListen 63 = .ok (.iload 5, 2) := by decide +kernel
theorem dX9_nightsToListen_65 : decode cX9_nightsToListen 65 = .ok (.iload 7, 2) := by decide +kernel
theorem dX9_nightsToListen_67 : decode cX9_nightsToListen 67 = .ok (.ifCond .le 15, 3) := by decide +kernel
theorem dX9_nightsToListen_70 : decode cX9_nightsToListen 70 = .ok (.iload_n 2, 1) := by decide +kernel
theorem dX9_nightsToListen_71 : decode cX9_nightsToListen 71 = .ok (.iload 4, 2) := by decide +kernel
theorem dX9_nightsToListen_73 : decode cX9_nightsToListen 73 = .ok (.iload 7, 2) := by decide +kernel
theorem dX9_nightsToListen_75 : decode cX9_nightsToListen 75 = .ok (.idiv, 1) := by decide +kernel
theorem dX9_nightsToListen_76 : decode cX9_nightsToListen 76 = .ok (.invokestatic 332, 3) := by decide +kernel
theorem dX9_nightsToListen_79 : decode cX9_nightsToListen 79 = .ok (.goto 4, 3) := by decide +kernel
theorem dX9_nightsToListen_82 : decode cX9_nightsToListen 82 = .ok (.iload_n 2, 1) := by decide +kernel
theorem dX9_nightsToListen_83 : decode cX9_nightsToListen 83 = .ok (.iadd, 1) := by decide +kernel
theorem dX9_nightsToListen_84 : decode cX9_nightsToListen 84 = .ok (.istore 5, 2) := by decide +kernel
theorem dX9_nightsToListen_86 : decode cX9_nightsToListen 86 = .ok (.iinc 6 1, 3) := by decide +kernel
theorem dX9_nightsToListen_89 : decode cX9_nightsToListen 89 = .ok (.goto (-75), 3) := by decide +kernel
theorem dX9_nightsToListen_92 : decode cX9_nightsToListen 92 = .ok (.iload 5, 2) := by decide +kernel
theorem dX9_nightsToListen_94 : decode cX9_nightsToListen 94 = .ok (.ireturn, 1) := by decide +kernel
theorem dX9_noise_0 : decode cX9_noise 0 = .ok (.aload_n 0, 1) := by decide +kernel
theorem dX9_noise_1 : decode cX9_noise 1 = .ok (.iload_n 1, 1) := by decide +kernel
theorem dX9_noise_2 : decode cX9_noise 2 = .ok (.invokevirtual 200, 3) := by decide +kernel
theorem dX9_noise_5 : decode cX9_noise 5 = .ok (.aload_n 0, 1) := by decide +kernel
theorem dX9_noise_6 : decode cX9_noise 6 = .ok (.invokevirtual 218, 3) := by decide +kernel
theorem dX9_noise_9 : decode cX9_noise 9 = .ok (.astore_n 2, 1) := by decide +kernel
theorem dX9_noise_10 : decode cX9_noise 10 = .ok (.aload_n 2, 1) := by decide +kernel
theorem dX9_noise_11 : decode cX9_noise 11 = .ok (.iconst 0, 1) := by decide +kernel
theorem dX9_noise_12 : decode cX9_noise 12 = .ok (.invokevirtual 222, 3) := by decide +kernel
theorem dX9_noise_15 : decode cX9_noise 15 = .ok (.aload_n 2, 1) := by decide +kernel
theorem dX9_noise_16 : decode cX9_noise 16 = .ok (.getfield 225, 3) := by decide +kernel
theorem dX9_noise_19 : decode cX9_noise 19 = .ok (.iload_n 1, 1) := by decide +kernel
theorem dX9_noise_20 : decode cX9_noise 20 = .ok (.iaload, 1) := by decide +kernel
theorem dX9_noise_21 : decode cX9_noise 21 = .ok (.ireturn, 1) := by decide +kernel
theorem dX9_nudges_0 : decode cX9_nudges 0 = .ok (.aload_n 0, 1) := by decide +kernel
theorem dX9_nudges_1 : decode cX9_nudges 1 = .ok (.iload_n 1, 1) := by decide +kernel
theorem dX9_nudges_2 : decode cX9_nudges 2 = .ok (.invokevirtual 200, 3) := by decide +kernel
theorem dX9_nudges_5 : decode cX9_nudges 5 = .ok (.aload_n 0, 1) := by decide +kernel
theorem dX9_nudges_6 : decode cX9_nudges 6 = .ok (.iload_n 2, 1) := by decide +kernel
theorem dX9_nudges_7 : decode cX9_nudges 7 = .ok (.invokevirtual 200, 3) := by decide +kernel
theorem dX9_nudges_10 : decode cX9_nudges 10 = .ok (.aload_n 0, 1) := by decide +kernel
theorem dX9_nudges_11 : decode cX9_nudges 11 = .ok (.iload_n 1, 1) := by decide +kernel
theorem dX9_nudges_12 : decode cX9_nudges 12 = .ok (.iload_n 2, 1) := by decide +kernel
theorem dX9_nudges_13 : decode cX9_nudges 13 = .ok (.if_icmp .eq 27, 3) := by decide +kernel
theorem dX9_nudges_16 : decode cX9_nudges 16 = .ok (.iload_n 3, 1) := by decide +kernel
theorem dX9_nudges_17 : decode cX9_nudges 17 = .ok (.iconst 0, 1) := by decide +kernel
theorem dX9_nudges_18 : decode cX9_nudges 18 = .ok (.bipush 120, 2) := by decide +kernel
theorem dX9_nudges_20 : decode cX9_nudges 20 = .ok (.invokestatic 144, 3) := by decide +kernel
theorem dX9_nudges_23 : decode cX9_nudges 23 = .ok (.ifCond .eq 17, 3) := by decide +kernel
theorem dX9_nudges_26 : decode cX9_nudges 26 = .ok (.iload 4, 2) := by decide +kernel
theorem dX9_nudges_28 : decode cX9_nudges 28 = .ok (.iconst 0, 1) := by decide +kernel
theorem dX9_nudges_29 : decode cX9_nudges 29 = .ok (.iconst 1, 1) := by decide +kernel
theorem dX9_nudges_30 : decode cX9_nudges 30 = .ok (.invokestatic 144, 3) := by decide +kernel
theorem dX9_nudges_33 : decode cX9_nudges 33 = .ok (.ifCond .eq 7, 3) := by decide +kernel
theorem dX9_nudges_36 : decode cX9_nudges 36 = .ok (.iconst 1, 1) := by decide +kernel
theorem dX9_nudges_37 : decode cX9_nudges 37 = .ok (.goto 4, 3) := by decide +kernel
theorem dX9_nudges_40 : decode cX9_nudges 40 = .ok (.iconst 0, 1) := by decide +kernel
theorem dX9_nudges_41 : decode cX9_nudges 41 = .ok (.invokevirtual 148, 3) := by decide +kernel
theorem dX9_nudges_44 : decode cX9_nudges 44 = .ok (.iconst 0, 1) := by decide +kernel
theorem dX9_nudges_45 : decode cX9_nudges 45 = .ok (.istore 5, 2) := by decide +kernel
theorem dX9_nudges_47 : decode cX9_nudges 47 = .ok (.iconst (-1), 1) := by decide +kernel
theorem dX9_nudges_48 : decode cX9_nudges 48 = .ok (.istore 6, 2) := by decide +kernel
theorem dX9_nudges_50 : decode cX9_nudges 50 = .ok (.iconst 0, 1) := by decide +kernel
theorem dX9_nudges_51 : decode cX9_nudges 51 = .ok (.istore 7, 2) := by decide +kernel
theorem dX9_nudges_53 : decode cX9_nudges 53 = .ok (.iload 7, 2) := by decide +kernel
theorem dX9_nudges_55 : decode cX9_nudges 55 = .ok (.bipush 64, 2) := by decide +kernel
theorem dX9_nudges_57 : decode cX9_nudges 57 = .ok (.if_icmp .ge 38, 3) := by decide +kernel
theorem dX9_nudges_60 : decode cX9_nudges 60 = .ok (.aload_n 0, 1) := by decide +kernel
theorem dX9_nudges_61 : decode cX9_nudges 61 = .ok (.invokevirtual 218, 3) := by decide +kernel
theorem dX9_nudges_64 : decode cX9_nudges 64 = .ok (.iload_n 1, 1) := by decide +kernel
theorem dX9_nudges_65 : decode cX9_nudges 65 = .ok (.iload_n 2, 1) := by decide +kernel
theorem dX9_nudges_66 : decode cX9_nudges 66 = .ok (.iload 7, 2) := by decide +kernel
theorem dX9_nudges_68 : decode cX9_nudges 68 = .ok (.iload_n 3, 1) := by decide +kernel
theorem dX9_nudges_69 : decode cX9_nudges 69 = .ok (.invokevirtual 283, 3) := by decide +kernel
theorem dX9_nudges_72 : decode cX9_nudges 72 = .ok (.istore 8, 2) := by decide +kernel
theorem dX9_nudges_74 : decode cX9_nudges 74 = .ok (.iload 8, 2) := by decide +kernel
theorem dX9_nudges_76 : decode cX9_nudges 76 = .ok (.iload 6, 2) := by decide +kernel
theorem dX9_nudges_78 : decode cX9_nudges 78 = .ok (.if_icmp .le 11, 3) := by decide +kernel
theorem dX9_nudges_81 : decode cX9_nudges 81 = .ok (.iload 8, 2) := by decide +kernel
theorem dX9_nudges_83 : decode cX9_nudges 83 = .ok (.istore 6, 2) := by decide +kernel
theorem dX9_nudges_85 : decode cX9_nudges 85 = .ok (.iload 7, 2) := by decide +kernel
theorem dX9_nudges_87 : decode cX9_nudges 87 = .ok (.istore 5, 2) := by decide +kernel
theorem dX9_nudges_89 : decode cX9_nudges 89 = .ok (.iinc 7 1, 3) := by decide +kernel
theorem dX9_nudges_92 : decode cX9_nudges 92 = .ok (.goto (-39), 3) := by decide +kernel
theorem dX9_nudges_95 : decode cX9_nudges 95 = .ok (.iload 4, 2) := by decide +kernel
theorem dX9_nudges_97 : decode cX9_nudges 97 = .ok (.ifCond .ne 8, 3) := by decide +kernel
theorem dX9_nudges_100 : decode cX9_nudges 100 = .ok (.iload 6, 2) := by decide +kernel
theorem dX9_nudges_102 : decode cX9_nudges 102 = .ok (.goto 5, 3) := by decide +kernel
theorem dX9_nudges_105 : decode cX9_nudges 105 = .ok (.iload 5, 2) := by decide +kernel
theorem dX9_nudges_107 : decode cX9_nudges 107 = .ok (.ireturn, 1) := by decide +kernel
theorem dX9_openText_0 : decode cX9_openText 0 = .ok (.aload_n 0, 1) := by decide +kernel
theorem dX9_openText_1 : decode cX9_openText 1 = .ok (.iload_n 1, 1) := by decide +kernel
theorem dX9_openText_2 : decode cX9_openText 2 = .ok (.iconst 0, 1) := by decide +kernel
theorem dX9_openText_3 : decode cX9_openText 3 = .ok (.iload_n 2, 1) := by decide +kernel
theorem dX9_openText_4 : decode cX9_openText 4 = .ok (.aload_n 0, 1) := by decide +kernel
theorem dX9_openText_5 : decode cX9_openText 5 = .ok (.getfield 10, 3) := by decide +kernel
theorem dX9_openText_8 : decode cX9_openText 8 = .ok (.getfield 118, 3) := by decide +kernel
theorem dX9_openText_11 : decode cX9_openText 11 = .ok (.invokestatic 332, 3) := by decide +kernel
theorem dX9_openText_14 : decode cX9_openText 14 = .ok (.invokestatic 144, 3) := by decide +kernel
theorem dX9_openText_17 : decode cX9_openText 17 = .ok (.invokevirtual 148, 3) := by decide +kernel
theorem dX9_openText_20 : decode cX9_openText 20 = .ok (.aload_n 0, 1) := by decide +kernel
theorem dX9_openText_21 : decode cX9_openText 21 = .ok (.getfield 10, 3) := by decide +kernel
theorem dX9_openText_24 : decode cX9_openText 24 = .ok (.iload_n 1, 1) := by decide +kernel
theorem dX9_openText_25 : decode cX9_openText 25 = .ok (.invokevirtual 346, 3) := by decide +kernel
theorem dX9_openText_28 : decode cX9_openText 28 = .ok (.return_, 1) := by decide +kernel
theorem dX9_pauses_0 : decode cX9_pauses 0 = .ok (.aload_n 0, 1) := by decide +kernel
theorem dX9_pauses_1 : decode cX9_pauses 1 = .ok (.iload_n 1, 1) := by decide +kernel
theorem dX9_pauses_2 : decode cX9_pauses 2 = .ok (.iconst 0, 1) := by decide +kernel
theorem dX9_pauses_3 : decode cX9_pauses 3 = .ok (.bipush 16, 2) := by decide +kernel
theorem dX9_pauses_5 : decode cX9_pauses 5 = .ok (.invokestatic 144, 3) := by decide +kernel
theorem dX9_pauses_8 : decode cX9_pauses 8 = .ok (.ifCond .eq 16, 3) := by decide +kernel
theorem dX9_pauses_11 : decode cX9_pauses 11 = .ok (.iload_n 2, 1) := by decide +kernel
theorem dX9_pauses_12 : decode cX9_pauses 12 = .ok (.iconst 1, 1) := by decide +kernel
theorem dX9_pauses_13 : decode cX9_pauses 13 = .ok (.iconst 4, 1) := by decide +kernel
theorem dX9_pauses_14 : decode cX9_pauses 14 = .ok (.invokestatic 144, 3) := by decide +kernel
theorem dX9_pauses_17 : decode cX9_pauses 17 = .ok (.ifCond .eq 7, 3) := by decide +kernel
theorem dX9_pauses_20 : decode cX9_pauses 20 = .ok (.iconst 1, 1) := by decide +kernel
theorem dX9_pauses_21 : decode cX9_pauses 21 = .ok (.goto 4, 3) := by decide +kernel
theorem dX9_pauses_24 : decode cX9_pauses 24 = .ok (.iconst 0, 1) := by decide +kernel
theorem dX9_pauses_25 : decode cX9_pauses 25 = .ok (.invokevirtual 148, 3) := by decide +kernel
theorem dX9_pauses_28 : decode cX9_pauses 28 = .ok (.aload_n 0, 1) := by decide +kernel
theorem dX9_pauses_29 : decode cX9_pauses 29 = .ok (.iload_n 3, 1) := by decide +kernel
theorem dX9_pauses_30 : decode cX9_pauses 30 = .ok (.iconst 0, 1) := by decide +kernel
theorem dX9_pauses_31 : decode cX9_pauses 31 = .ok (.bipush 12, 2) := by decide +kernel
theorem dX9_pauses_33 : decode cX9_pauses 33 = .ok (.invokestatic 144, 3) := by decide +kernel
theorem dX9_pauses_36 : decode cX9_pauses 36 = .ok (.ifCond .eq 17, 3) := by decide +kernel
theorem dX9_pauses_39 : decode cX9_pauses 39 = .ok (.iload 4, 2) := by decide +kernel
theorem dX9_pauses_41 : decode cX9_pauses 41 = .ok (.iconst 0, 1) := by decide +kernel
theorem dX9_pauses_42 : decode cX9_pauses 42 = .ok (.iconst 1, 1) := by decide +kernel
theorem dX9_pauses_43 : decode cX9_pauses 43 = .ok (.invokestatic 144, 3) := by decide +kernel
theorem dX9_pauses_46 : decode cX9_pauses 46 = .ok (.ifCond .eq 7, 3) := by decide +kernel
theorem dX9_pauses_49 : decode cX9_pauses 49 = .ok (.iconst 1, 1) := by decide +kernel
theorem dX9_pauses_50 : decode cX9_pauses 50 = .ok (.goto 4, 3) := by decide +kernel
theorem dX9_pauses_53 : decode cX9_pauses 53 = .ok (.iconst 0, 1) := by decide +kernel
theorem dX9_pauses_54 : decode cX9_pauses 54 = .ok (.invokevirtual 148, 3) := by decide +kernel
theorem dX9_pauses_57 : decode cX9_pauses 57 = .ok (.iload_n 1, 1) := by decide +kernel
theorem dX9_pauses_58 : decode cX9_pauses 58 = .ok (.iload_n 2, 1) := by decide +kernel
theorem dX9_pauses_59 : decode cX9_pauses 59 = .ok (.iload_n 3, 1) := by decide +kernel
theorem dX9_pauses_60 : decode cX9_pauses 60 = .ok (.invokestatic 307, 3) := by decide +kernel
theorem dX9_pauses_63 : decode cX9_pauses 63 = .ok (.lstore 5, 2) := by decide +kernel
theorem dX9_pauses_65 : decode cX9_pauses 65 = .ok (.iload_n 2, 1) := by decide +kernel
theorem dX9_pauses_66 : decode cX9_pauses 66 = .ok (.invokestatic 311, 3) := by decide +kernel
theorem dX9_pauses_69 : decode cX9_pauses 69 = .ok (.lstore 7, 2) := by decide +kernel
theorem dX9_pauses_71 : decode cX9_pauses 71 = .ok (.lload 5, 2) := by decide +kernel
theorem dX9_pauses_73 : decode cX9_pauses 73 = .ok (.lload 7, 2) := by decide +kernel
theorem dX9_pauses_75 : decode cX9_pauses 75 = .ok (.invokestatic 315, 3) := by decide +kernel
theorem dX9_pauses_78 : decode cX9_pauses 78 = .ok (.lstore 9, 2) := by decide +kernel
theorem dX9_pauses_80 : decode cX9_pauses 80 = .ok (.lload 9, 2) := by decide +kernel
theorem dX9_pauses_82 : decode cX9_pauses 82 = .ok (.lconst 0, 1) := by decide +kernel
theorem dX9_pauses_83 : decode cX9_pauses 83 = .ok (.lcmp, 1) := by decide +kernel
theorem dX9_pauses_84 : decode cX9_pauses 84 = .ok (.ifCond .ne 5, 3) := by decide +kernel
theorem dX9_pauses_87 : decode cX9_pauses 87 = .ok (.lconst 0, 1) := by decide +kernel
theorem dX9_pauses_88 : decode cX9_pauses 88 = .ok (.lreturn, 1) := by decide +kernel
theorem dX9_pauses_89 : decode cX9_pauses 89 = .ok (.iload 4, 2) := by decide +kernel
theorem dX9_pauses_91 : decode cX9_pauses 91 = .ok (.ifCond .ne 11, 3) := by decide +kernel
theorem dX9_pauses_94 : decode cX9_pauses 94 = .ok (.lload 5, 2) := by decide +kernel
theorem dX9_pauses_96 : decode cX9_pauses 96 = .ok (.lload 9, 2) := by decide +kernel
theorem dX9_pauses_98 : decode cX9_pauses 98 = .ok (.ldiv, 1) := by decide +kernel
theorem dX9_pauses_99 : decode cX9_pauses 99 = .ok (.goto 8, 3) := by decide +kernel
theorem dX9_pauses_102 : decode cX9_pauses 102 = .ok (.lload 7, 2) := by decide +kernel
theorem dX9_pauses_104 : decode cX9_pauses 104 = .ok (.lload 9, 2) := by decide +kernel
theorem dX9_pauses_106 : decode cX9_pauses 106 = .ok (.ldiv, 1) := by decide +kernel
theorem dX9_pauses_107 : decode cX9_pauses 107 = .ok (.lreturn, 1) := by decide +kernel
theorem dX9_pausesAbove_0 : decode cX9_pausesAbove 0 = .ok (.iload_n 2, 1) := by decide +kernel
theorem dX9_pausesAbove_1 : decode cX9_pausesAbove 1 = .ok (.iload_n 1, 1) := by decide +kernel
theorem dX9_pausesAbove_2 : decode cX9_pausesAbove 2 = .ok (.if_icmp .ge 5, 3) := by decide +kernel
theorem dX9_pausesAbove_5 : decode cX9_pausesAbove 5 = .ok (.lconst 0, 1) := by decide +kernel
theorem dX9_pausesAbove_6 : decode cX9_pausesAbove 6 = .ok (.lreturn, 1) := by decide +kernel
theorem dX9_pausesAbove_7 : decode cX9_pausesAbove 7 = .ok (.ldc2_w 365, 3) := by decide +kernel
theorem dX9_pausesAbove_10 : decode cX9_pausesAbove 10 = .ok (.iload_n 2, 1) := by decide +kernel
theorem dX9_pausesAbove_11 : decode cX9_pausesAbove 11 = .ok (.iload_n 1, 1) := by decide +kernel
theorem dX9_pausesAbove_12 : decode cX9_pausesAbove 12 = .ok (.isub, 1) := by decide +kernel
theorem dX9_pausesAbove_13 : decode cX9_pausesAbove 13 = .ok (.i2l, 1) := by decide +kernel
theorem dX9_pausesAbove_14 : decode cX9_pausesAbove 14 = .ok (.bipush 16, 2) := by decide +kernel
theorem dX9_pausesAbove_16 : decode cX9_pausesAbove 16 = .ok (.iload_n 0, 1) := by decide +kernel
theorem dX9_pausesAbove_17 : decode cX9_pausesAbove 17 = .ok (.isub, 1) := by decide +kernel
theorem dX9_pausesAbove_18 : decode cX9_pausesAbove 18 = .ok (.i2l, 1) := by decide +kernel
theorem dX9_pausesAbove_19 : decode cX9_pausesAbove 19 = .ok (.lmul, 1) := by decide +kernel
theorem dX9_pausesAbove_20 : decode cX9_pausesAbove 20 = .ok (.ladd, 1) := by decide +kernel
theorem dX9_pausesAbove_21 : decode cX9_pausesAbove 21 = .ok (.lstore_n 3, 1) := by decide +kernel
theorem dX9_pausesAbove_22 : decode cX9_pausesAbove 22 = .ok (.iconst 0, 1) := by decide +kernel
theorem dX9_pausesAbove_23 : decode cX9_pausesAbove 23 = .ok (.istore 5, 2) := by decide +kernel
theorem dX9_pausesAbove_25 : decode cX9_pausesAbove 25 = .ok (.iload 5, 2) := by decide +kernel
theorem dX9_pausesAbove_27 : decode cX9_pausesAbove 27 = .ok (.iload_n 1, 1) := by decide +kernel
theorem dX9_pausesAbove_28 : decode cX9_pausesAbove 28 = .ok (.if_icmp .ge 14, 3) := by decide +kernel
theorem dX9_pausesAbove_31 : decode cX9_pausesAbove 31 = .ok (.lload_n 3, 1) := by decide +kernel
theorem dX9_pausesAbove_32 : decode cX9_pausesAbove 32 = .ok (.iload_n 0, 1) := by decide +kernel
theorem dX9_pausesAbove_33 : decode cX9_pausesAbove 33 = .ok (.i2l, 1) := by decide +kernel
theorem dX9_pausesAbove_34 : decode cX9_pausesAbove 34 = .ok (.lmul, 1) := by decide +kernel
theorem dX9_pausesAbove_35 : decode cX9_pausesAbove 35 = .ok (.lstore_n 3, 1) := by decide +kernel
theorem dX9_pausesAbove_36 : decode cX9_pausesAbove 36 = .ok (.iinc 5 1, 3) := by decide +kernel
theorem dX9_pausesAbove_39 : decode cX9_pausesAbove 39 = .ok (.goto (-14), 3) := by decide +kernel
theorem dX9_pausesAbove_42 : decode cX9_pausesAbove 42 = .ok (.lload_n 3, 1) := by decide +kernel
theorem dX9_pausesAbove_43 : decode cX9_pausesAbove 43 = .ok (.lreturn, 1) := by decide +kernel
theorem dX9_pausesBelow_0 : decode cX9_pausesBelow 0 = .ok (.lconst 1, 1) := by decide +kernel
theorem dX9_pausesBelow_1 : decode cX9_pausesBelow 1 = .ok (.iconst 4, 1) := by decide +kernel
theorem dX9_pausesBelow_2 : decode cX9_pausesBelow 2 = .ok (.iload_n 0, 1) := by decide +kernel
theorem dX9_pausesBelow_3 : decode cX9_pausesBelow 3 = .ok (.iconst 1, 1) := by decide +kernel
theorem dX9_pausesBelow_4 : decode cX9_pausesBelow 4 = .ok (.iadd, 1) := by decide +kernel
theorem dX9_pausesBelow_5 : decode cX9_pausesBelow 5 = .ok (.imul, 1) := by decide +kernel
theorem dX9_pausesBelow_6 : decode cX9_pausesBelow 6 = .ok (.lshl, 1) := by decide +kernel
theorem dX9_pausesBelow_7 : decode cX9_pausesBelow 7 = .ok (.lreturn, 1) := by decide +kernel
theorem dX9_plugs_0 : decode cX9_plugs 0 = .ok (.aload_n 0, 1) := by decide +kernel
theorem dX9_plugs_1 : decode cX9_plugs 1 = .ok (.iload_n 1, 1) := by decide +kernel
theorem dX9_plugs_2 : decode cX9_plugs 2 = .ok (.invokevirtual 200, 3) := by decide +kernel
theorem dX9_plugs_5 : decode cX9_plugs 5 = .ok (.aload_n 0, 1) := by decide +kernel
theorem dX9_plugs_6 : decode cX9_plugs 6 = .ok (.iload_n 2, 1) := by decide +kernel
theorem dX9_plugs_7 : decode cX9_plugs 7 = .ok (.iconst 0, 1) := by decide +kernel
theorem dX9_plugs_8 : decode cX9_plugs 8 = .ok (.sipush 240, 3) := by decide +kernel
theorem dX9_plugs_11 : decode cX9_plugs 11 = .ok (.invokestatic 144, 3) := by decide +kernel
theorem dX9_plugs_14 : decode cX9_plugs 14 = .ok (.ifCond .eq 18, 3) := by decide +kernel
theorem dX9_plugs_17 : decode cX9_plugs 17 = .ok (.iload_n 3, 1) := by decide +kernel
theorem dX9_plugs_18 : decode cX9_plugs 18 = .ok (.iconst 0, 1) := by decide +kernel
theorem dX9_plugs_19 : decode cX9_plugs 19 = .ok (.sipush 240, 3) := by decide +kernel
theorem dX9_plugs_22 : decode cX9_plugs 22 = .ok (.invokestatic 144, 3) := by decide +kernel
theorem dX9_plugs_25 : decode cX9_plugs 25 = .ok (.ifCond .eq 7, 3) := by decide +kernel
theorem dX9_plugs_28 : decode cX9_plugs 28 = .ok (.iconst 1, 1) := by decide +kernel
theorem dX9_plugs_29 : decode cX9_plugs 29 = .ok (.goto 4, 3) := by decide +kernel
theorem dX9_plugs_32 : decode cX9_plugs 32 = .ok (.iconst 0, 1) := by decide +kernel
theorem dX9_plugs_33 : decode cX9_plugs 33 = .ok (.invokevirtual 148, 3) := by decide +kernel
theorem dX9_plugs_36 : decode cX9_plugs 36 = .ok (.iconst 0, 1) := by decide +kernel
theorem dX9_plugs_37 : decode cX9_plugs 37 = .ok (.istore 4, 2) := by decide +kernel
theorem dX9_plugs_39 : decode cX9_plugs 39 = .ok (.iload 4, 2) := by decide +kernel
theorem dX9_plugs_41 : decode cX9_plugs 41 = .ok (.bipush 20, 2) := by decide +kernel
theorem dX9_plugs_43 : decode cX9_plugs 43 = .ok (.if_icmp .gt 41, 3) := by decide +kernel
theorem dX9_plugs_46 : decode cX9_plugs 46 = .ok (.aload_n 0, 1) := by decide +kernel
theorem dX9_plugs_47 : decode cX9_plugs 47 = .ok (.invokevirtual 218, 3) := by decide +kernel
theorem dX9_plugs_50 : decode cX9_plugs 50 = .ok (.astore 5, 2) := by decide +kernel
theorem dX9_plugs_52 : decode cX9_plugs 52 = .ok (.aload 5, 2) := by decide +kernel
theorem dX9_plugs_54 : decode cX9_plugs 54 = .ok (.getfield 162, 3) := by decide +kernel
theorem dX9_plugs_57 : decode cX9_plugs 57 = .ok (.bipush 35, 2) := by decide +kernel
theorem dX9_plugs_59 : decode cX9_plugs 59 = .ok (.iload_n 1, 1) := by decide +kernel
theorem dX9_plugs_60 : decode cX9_plugs 60 = .ok (.iadd, 1) := by decide +kernel
theorem dX9_plugs_61 : decode cX9_plugs 61 = .ok (.iload 4, 2) := by decide +kernel
theorem dX9_plugs_63 : decode cX9_plugs 63 = .ok (.iastore, 1) := by decide +kernel
theorem dX9_plugs_64 : decode cX9_plugs 64 = .ok (.aload 5, 2) := by decide +kernel
theorem dX9_plugs_66 : decode cX9_plugs 66 = .ok (.iload_n 1, 1) := by decide +kernel
theorem dX9_plugs_67 : decode cX9_plugs 67 = .ok (.iload_n 3, 1) := by decide +kernel
theorem dX9_plugs_68 : decode cX9_plugs 68 = .ok (.invokevirtual 252, 3) := by decide +kernel
theorem dX9_plugs_71 : decode cX9_plugs 71 = .ok (.iload_n 2, 1) := by decide +kernel
theorem dX9_plugs_72 : decode cX9_plugs 72 = .ok (.if_icmp .lt 6, 3) := by decide +kernel
theorem dX9_plugs_75 : decode cX9_plugs 75 = .ok (.iload 4, 2) := by decide +kernel
theorem dX9_plugs_77 : decode cX9_plugs 77 = .ok (.ireturn, 1) := by decide +kernel
theorem dX9_plugs_78 : decode cX9_plugs 78 = .ok (.iinc 4 1, 3) := by decide +kernel
theorem dX9_plugs_81 : decode cX9_plugs 81 = .ok (.goto (-42), 3) := by decide +kernel
theorem dX9_plugs_84 : decode cX9_plugs 84 = .ok (.iconst (-1), 1) := by decide +kernel
theorem dX9_plugs_85 : decode cX9_plugs 85 = .ok (.ireturn, 1) := by decide +kernel
theorem dX9_reads_0 : decode cX9_reads 0 = .ok (.aload_n 0, 1) := by decide +kernel
theorem dX9_reads_1 : decode cX9_reads 1 = .ok (.iload_n 1, 1) := by decide +kernel
theorem dX9_reads_2 : decode cX9_reads 2 = .ok (.invokevirtual 200, 3) := by decide +kernel
theorem dX9_reads_5 : decode cX9_reads 5 = .ok (.aload_n 0, 1) := by decide +kernel
theorem dX9_reads_6 : decode cX9_reads 6 = .ok (.iload_n 2, 1) := by decide +kernel
theorem dX9_reads_7 : decode cX9_reads 7 = .ok (.invokevirtual 200, 3) := by decide +kernel
theorem dX9_reads_10 : decode cX9_reads 10 = .ok (.aload_n 0, 1) := by decide +kernel
theorem dX9_reads_11 : decode cX9_reads 11 = .ok (.iload_n 1, 1) := by decide +kernel
theorem dX9_reads_12 : decode cX9_reads 12 = .ok (.iload_n 2, 1) := by decide +kernel
theorem dX9_reads_13 : decode cX9_reads 13 = .ok (.if_icmp .eq 28, 3) := by decide +kernel
theorem dX9_reads_16 : decode cX9_reads 16 = .ok (.iload_n 3, 1) := by decide +kernel
theorem dX9_reads_17 : decode cX9_reads 17 = .ok (.iconst 0, 1) := by decide +kernel
theorem dX9_reads_18 : decode cX9_reads 18 = .ok (.bipush 60, 2) := by decide +kernel
theorem dX9_reads_20 : decode cX9_reads 20 = .ok (.invokestatic 144, 3) := by decide +kernel
theorem dX9_reads_23 : decode cX9_reads 23 = .ok (.ifCond .eq 18, 3) := by decide +kernel
theorem dX9_reads_26 : decode cX9_reads 26 = .ok (.iload 4, 2) := by decide +kernel
theorem dX9_reads_28 : decode cX9_reads 28 = .ok (.iconst 0, 1) := by decide +kernel
theorem dX9_reads_29 : decode cX9_reads 29 = .ok (.bipush 60, 2) := by decide +kernel
theorem dX9_reads_31 : decode cX9_reads 31 = .ok (.invokestatic 144, 3) := by decide +kernel
theorem dX9_reads_34 : decode cX9_reads 34 = .ok (.ifCond .eq 7, 3) := by decide +kernel
theorem dX9_reads_37 : decode cX9_reads 37 = .ok (.iconst 1, 1) := by decide +kernel
theorem dX9_reads_38 : decode cX9_reads 38 = .ok (.goto 4, 3) := by decide +kernel
theorem dX9_reads_41 : decode cX9_reads 41 = .ok (.iconst 0, 1) := by decide +kernel
theorem dX9_reads_42 : decode cX9_reads 42 = .ok (.invokevirtual 148, 3) := by decide +kernel
theorem dX9_reads_45 : decode cX9_reads 45 = .ok (.aload_n 0, 1) := by decide +kernel
theorem dX9_reads_46 : decode cX9_reads 46 = .ok (.iload 5, 2) := by decide +kernel
theorem dX9_reads_48 : decode cX9_reads 48 = .ok (.iconst 0, 1) := by decide +kernel
theorem dX9_reads_49 : decode cX9_reads 49 = .ok (.bipush 120, 2) := by decide +kernel
theorem dX9_reads_51 : decode cX9_reads 51 = .ok (.invokestatic 144, 3) := by decide +kernel
theorem dX9_reads_54 : decode cX9_reads 54 = .ok (.invokevirtual 148, 3) := by decide +kernel
theorem dX9_reads_57 : decode cX9_reads 57 = .ok (.aload_n 0, 1) := by decide +kernel
theorem dX9_reads_58 : decode cX9_reads 58 = .ok (.iload_n 1, 1) := by decide +kernel
theorem dX9_reads_59 : decode cX9_reads 59 = .ok (.iload_n 2, 1) := by decide +kernel
theorem dX9_reads_60 : decode cX9_reads 60 = .ok (.iload_n 3, 1) := by decide +kernel
theorem dX9_reads_61 : decode cX9_reads 61 = .ok (.iload 4, 2) := by decide +kernel
theorem dX9_reads_63 : decode cX9_reads 63 = .ok (.invokevirtual 259, 3) := by decide +kernel
theorem dX9_reads_66 : decode cX9_reads 66 = .ok (.iload_n 1, 1) := by decide +kernel
theorem dX9_reads_67 : decode cX9_reads 67 = .ok (.iload 5, 2) := by decide +kernel
theorem dX9_reads_69 : decode cX9_reads 69 = .ok (.invokevirtual 252, 3) := by decide +kernel
theorem dX9_reads_72 : decode cX9_reads 72 = .ok (.ireturn, 1) := by decide +kernel
theorem dX9_require_0 : decode cX9_require 0 = .ok (.iload_n 1, 1) := by decide +kernel
theorem dX9_require_1 : decode cX9_require 1 = .ok (.ifCond .ne 21, 3) := by decide +kernel
theorem dX9_require_4 : decode cX9_require 4 = .ok (.aload_n 0, 1) := by decide +kernel
theorem dX9_require_5 : decode cX9_require 5 = .ok (.dup, 1) := by decide +kernel
theorem dX9_require_6 : decode cX9_require 6 = .ok (.getfield 98, 3) := by decide +kernel
theorem dX9_require_9 : decode cX9_require 9 = .ok (.iconst 1, 1) := by decide +kernel
theorem dX9_require_10 : decode cX9_require 10 = .ok (.iadd, 1) := by decide +kernel
theorem dX9_require_11 : decode cX9_require 11 = .ok (.putfield 98, 3) := by decide +kernel
theorem dX9_require_14 : decode cX9_require 14 = .ok (.new 340, 3) := by decide +kernel
theorem dX9_require_17 : decode cX9_require 17 = .ok (.dup, 1) := by decide +kernel
theorem dX9_require_18 : decode cX9_require 18 = .ok (.invokespecial 342, 3) := by decide +kernel
theorem dX9_require_21 : decode cX9_require 21 = .ok (.athrow, 1) := by decide +kernel
theorem dX9_require_22 : decode cX9_require 22 = .ok (.return_, 1) := by decide +kernel
theorem dX9_requireCars_0 : decode cX9_requireCars 0 = .ok (.aload_n 0, 1) := by decide +kernel
theorem dX9_requireCars_1 : decode cX9_requireCars 1 = .ok (.iload_n 1, 1) := by decide +kernel
theorem dX9_requireCars_2 : decode cX9_requireCars 2 = .ok (.iconst 0, 1) := by decide +kernel
theorem dX9_requireCars_3 : decode cX9_requireCars 3 = .ok (.bipush 16, 2) := by decide +kernel
theorem dX9_requireCars_5 : decode cX9_requireCars 5 = .ok (.invokestatic 144, 3) := by decide +kernel
theorem dX9_requireCars_8 : decode cX9_requireCars 8 = .ok (.ifCond .eq 28, 3) := by decide +kernel
theorem dX9_requireCars_11 : decode cX9_requireCars 11 = .ok (.iload_n 2, 1) := by decide +kernel
theorem dX9_requireCars_12 : decode cX9_requireCars 12 = .ok (.iconst 0, 1) := by decide +kernel
theorem dX9_requireCars_13 : decode cX9_requireCars 13 = .ok (.bipush 40, 2) := by decide +kernel
theorem dX9_requireCars_15 : decode cX9_requireCars 15 = .ok (.invokestatic 144, 3) := by decide +kernel
theorem dX9_requireCars_18 : decode cX9_requireCars 18 = .ok (.ifCond .eq 18, 3) := by decide +kernel
theorem dX9_requireCars_21 : decode cX9_requireCars 21 = .ok (.iload_n 3, 1) := by decide +kernel
theorem dX9_requireCars_22 : decode cX9_requireCars 22 = .ok (.iconst 1, 1) := by decide +kernel
theorem dX9_requireCars_23 : decode cX9_requireCars 23 = .ok (.sipush 240, 3) := by decide +kernel
theorem dX9_requireCars_26 : decode cX9_requireCars 26 = .ok (.invokestatic 144, 3) := by decide +kernel
theorem dX9_requireCars_29 : decode cX9_requireCars 29 = .ok (.ifCond .eq 7, 3) := by decide +kernel
theorem dX9_requireCars_32 : decode cX9_requireCars 32 = .ok (.iconst 1, 1) := by decide +kernel
theorem dX9_requireCars_33 : decode cX9_requireCars 33 = .ok (.goto 4, 3) := by decide +kernel
theorem dX9_requireCars_36 : decode cX9_requireCars 36 = .ok (.iconst 0, 1) := by decide +kernel
theorem dX9_requireCars_37 : decode cX9_requireCars 37 = .ok (.invokevirtual 148, 3) := by decide +kernel
theorem dX9_requireCars_40 : decode cX9_requireCars 40 = .ok (.return_, 1) := by decide +kernel
theorem dX9_requireSleeper_0 : decode cX9_requireSleeper 0 = .ok (.iload_n 1, 1) := by decide +kernel
theorem dX9_requireSleeper_1 : decode cX9_requireSleeper 1 = .ok (.iconst 0, 1) := by decide +kernel
theorem dX9_requireSleeper_2 : decode cX9_requireSleeper 2 = .ok (.aload_n 0, 1) := by decide +kernel
theorem dX9_requireSleeper_3 : decode cX9_requireSleeper 3 = .ok (.getfield 19, 3) := by decide +kernel
theorem dX9_requireSleeper_6 : decode cX9_requireSleeper 6 = .ok (.getfield 141, 3) := by decide +kernel
theorem dX9_requireSleeper_9 : decode cX9_requireSleeper 9 = .ok (.iconst 1, 1) := by decide +kernel
theorem dX9_requireSleeper_10 : decode cX9_requireSleeper 10 = .ok (.isub, 1) := by decide +kernel
theorem dX9_requireSleeper_11 : decode cX9_requireSleeper 11 = .ok (.invokestatic 144, 3) := by decide +kernel
theorem dX9_requireSleeper_14 : decode cX9_requireSleeper 14 = .ok (.ifCond .ne 21, 3) := by decide +kernel
theorem dX9_requireSleeper_17 : decode cX9_requireSleeper 17 = .ok (.aload_n 0, 1) := by decide +kernel
theorem dX9_requireSleeper_18 : decode cX9_requireSleeper 18 = .ok (.dup, 1) := by decide +kernel
theorem dX9_requireSleeper_19 : decode cX9_requireSleeper 19 = .ok (.getfield 95, 3) := by decide +kernel
theorem dX9_requireSleeper_22 : decode cX9_requireSleeper 22 = .ok (.iconst 1, 1) := by decide +kernel
theorem dX9_requireSleeper_23 : decode cX9_requireSleeper 23 = .ok (.iadd, 1) := by decide +kernel
theorem dX9_requireSleeper_24 : decode cX9_requireSleeper 24 = .ok (.putfield 95, 3) := by decide +kernel
theorem dX9_requireSleeper_27 : decode cX9_requireSleeper 27 = .ok (.new 343, 3) := by decide +kernel
theorem dX9_requireSleeper_30 : decode cX9_requireSleeper 30 = .ok (.dup, 1) := by decide +kernel
theorem dX9_requireSleeper_31 : decode cX9_requireSleeper 31 = .ok (.invokespecial 345, 3) := by decide +kernel
theorem dX9_requireSleeper_34 : decode cX9_requireSleeper 34 = .ok (.athrow, 1) := by decide +kernel
theorem dX9_requireSleeper_35 : decode cX9_requireSleeper 35 = .ok (.return_, 1) := by decide +kernel
theorem dX9_restore_0 : decode cX9_restore 0 = .ok (.aload_n 0, 1) := by decide +kernel
theorem dX9_restore_1 : decode cX9_restore 1 = .ok (.getfield 76, 3) := by decide +kernel
theorem dX9_restore_4 : decode cX9_restore 4 = .ok (.aload_n 0, 1) := by decide +kernel
theorem dX9_restore_5 : decode cX9_restore 5 = .ok (.getfield 59, 3) := by decide +kernel
theorem dX9_restore_8 : decode cX9_restore 8 = .ok (.getfield 162, 3) := by decide +kernel
theorem dX9_restore_11 : decode cX9_restore 11 = .ok (.aload_n 0, 1) := by decide +kernel
theorem dX9_restore_12 : decode cX9_restore 12 = .ok (.getfield 69, 3) := by decide +kernel
theorem dX9_restore_15 : decode cX9_restore 15 = .ok (.invokevirtual 338, 3) := by decide +kernel
theorem dX9_restore_18 : decode cX9_restore 18 = .ok (.ifCond .ne 5, 3) := by decide +kernel
theorem dX9_restore_21 : decode cX9_restore 21 = .ok (.iconst (-1), 1) := by decide +kernel
theorem dX9_restore_22 : decode cX9_restore 22 = .ok (.ireturn, 1) := by decide +kernel
theorem dX9_restore_23 : decode cX9_restore 23 = .ok (.aload_n 0, 1) := by decide +kernel
theorem dX9_restore_24 : decode cX9_restore 24 = .ok (.iconst 0, 1) := by decide +kernel
theorem dX9_restore_25 : decode cX9_restore 25 = .ok (.putfield 91, 3) := by decide +kernel
theorem dX9_restore_28 : decode cX9_restore 28 = .ok (.aload_n 0, 1) := by decide +kernel
theorem dX9_restore_29 : decode cX9_restore 29 = .ok (.getfield 76, 3) := by decide +kernel
theorem dX9_restore_32 : decode cX9_restore 32 = .ok (.getfield 140, 3) := by decide +kernel
theorem dX9_restore_35 : decode cX9_restore 35 = .ok (.ireturn, 1) := by decide +kernel
theorem dX9_rooms_0 : decode cX9_rooms 0 = .ok (.aload_n 0, 1) := by decide +kernel
theorem dX9_rooms_1 : decode cX9_rooms 1 = .ok (.iload_n 1, 1) := by decide +kernel
theorem dX9_rooms_2 : decode cX9_rooms 2 = .ok (.iconst 0, 1) := by decide +kernel
theorem dX9_rooms_3 : decode cX9_rooms 3 = .ok (.bipush 120, 2) := by decide +kernel
theorem dX9_rooms_5 : decode cX9_rooms 5 = .ok (.invokestatic 144, 3) := by decide +kernel
theorem dX9_rooms_8 : decode cX9_rooms 8 = .ok (.ifCond .eq 16, 3) := by decide +kernel
theorem dX9_rooms_11 : decode cX9_rooms 11 = .ok (.iload_n 2, 1) := by decide +kernel
theorem dX9_rooms_12 : decode cX9_rooms 12 = .ok (.iconst 0, 1) := by decide +kernel
theorem dX9_rooms_13 : decode cX9_rooms 13 = .ok (.iconst 1, 1) := by decide +kernel
theorem dX9_rooms_14 : decode cX9_rooms 14 = .ok (.invokestatic 144, 3) := by decide +kernel
theorem dX9_rooms_17 : decode cX9_rooms 17 = .ok (.ifCond .eq 7, 3) := by decide +kernel
theorem dX9_rooms_20 : decode cX9_rooms 20 = .ok (.iconst 1, 1) := by decide +kernel
theorem dX9_rooms_21 : decode cX9_rooms 21 = .ok (.goto 4, 3) := by decide +kernel
theorem dX9_rooms_24 : decode cX9_rooms 24 = .ok (.iconst 0, 1) := by decide +kernel
theorem dX9_rooms_25 : decode cX9_rooms 25 = .ok (.invokevirtual 148, 3) := by decide +kernel
theorem dX9_rooms_28 : decode cX9_rooms 28 = .ok (.iconst 0, 1) := by decide +kernel
theorem dX9_rooms_29 : decode cX9_rooms 29 = .ok (.istore_n 3, 1) := by decide +kernel
theorem dX9_rooms_30 : decode cX9_rooms 30 = .ok (.iconst (-1), 1) := by decide +kernel
theorem dX9_rooms_31 : decode cX9_rooms 31 = .ok (.istore 4, 2) := by decide +kernel
theorem dX9_rooms_33 : decode cX9_rooms 33 = .ok (.iconst 0, 1) := by decide +kernel
theorem dX9_rooms_34 : decode cX9_rooms 34 = .ok (.istore 5, 2) := by decide +kernel
theorem dX9_rooms_36 : decode cX9_rooms 36 = .ok (.iload 5, 2) := by decide +kernel
theorem dX9_rooms_38 : decode cX9_rooms 38 = .ok (.iconst 1, 1) := by decide +kernel
theorem dX9_rooms_39 : decode cX9_rooms 39 = .ok (.aload_n 0, 1) := by decide +kernel
theorem dX9_rooms_40 : decode cX9_rooms 40 = .ok (.getfield 19, 3) := by decide +kernel
theorem dX9_rooms_43 : decode cX9_rooms 43 = .ok (.getfield 141, 3) := by decide +kernel
theorem dX9_rooms_46 : decode cX9_rooms 46 = .ok (.ishl, 1) := by decide +kernel
theorem dX9_rooms_47 : decode cX9_rooms 47 = .ok (.if_icmp .ge 50, 3) := by decide +kernel
theorem dX9_rooms_50 : decode cX9_rooms 50 = .ok (.aload_n 0, 1) := by decide +kernel
theorem dX9_rooms_51 : decode cX9_rooms 51 = .ok (.invokevirtual 218, 3) := by decide +kernel
theorem dX9_rooms_54 : decode cX9_rooms 54 = .ok (.astore 6, 2) := by decide +kernel
theorem dX9_rooms_56 : decode cX9_rooms 56 = .ok (.aload 6, 2) := by decide +kernel
theorem dX9_rooms_58 : decode cX9_rooms 58 = .ok (.iload 5, 2) := by decide +kernel
theorem dX9_rooms_60 : decode cX9_rooms 60 = .ok (.invokevirtual 287, 3) := by decide +kernel
theorem dX9_rooms_63 : decode cX9_rooms 63 = .ok (.ifCond .ne 6, 3) := by decide +kernel
theorem dX9_rooms_66 : decode cX9_rooms 66 = .ok (.goto 25, 3) := by decide +kernel
theorem dX9_rooms_69 : decode cX9_rooms 69 = .ok (.aload 6, 2) := by decide +kernel
theorem dX9_rooms_71 : decode cX9_rooms 71 = .ok (.iload_n 1, 1) := by decide +kernel
theorem dX9_rooms_72 : decode cX9_rooms 72 = .ok (.invokevirtual 249, 3) := by decide +kernel
theorem dX9_rooms_75 : decode cX9_rooms 75 = .ok (.istore 7, 2) := by decide +kernel
theorem dX9_rooms_77 : decode cX9_rooms 77 = .ok (.iload 7, 2) := by decide +kernel
theorem dX9_rooms_79 : decode cX9_rooms 79 = .ok (.iload 4, 2) := by decide +kernel
theorem dX9_rooms_81 : decode cX9_rooms 81 = .ok (.if_icmp .le 10, 3) := by decide +kernel
theorem dX9_rooms_84 : decode cX9_rooms 84 = .ok (.iload 7, 2) := by decide +kernel
theorem dX9_rooms_86 : decode cX9_rooms 86 = .ok (.istore 4, 2) := by decide +kernel
theorem dX9_rooms_88 : decode cX9_rooms 88 = .ok (.iload 5, 2) := by decide +kernel
theorem dX9_rooms_90 : decode cX9_rooms 90 = .ok (.istore_n 3, 1) := by decide +kernel
theorem dX9_rooms_91 : decode cX9_rooms 91 = .ok (.iinc 5 1, 3) := by decide +kernel
theorem dX9_rooms_94 : decode cX9_rooms 94 = .ok (.goto (-58), 3) := by decide +kernel
theorem dX9_rooms_97 : decode cX9_rooms 97 = .ok (.iload_n 2, 1) := by decide +kernel
theorem dX9_rooms_98 : decode cX9_rooms 98 = .ok (.ifCond .ne 8, 3) := by decide +kernel
theorem dX9_rooms_101 : decode cX9_rooms 101 = .ok (.iload 4, 2) := by decide +kernel
theorem dX9_rooms_103 : decode cX9_rooms 103 = .ok (.goto 4, 3) := by decide +kernel
theorem dX9_rooms_106 : decode cX9_rooms 106 = .ok (.iload_n 3, 1) := by decide +kernel
theorem dX9_rooms_107 : decode cX9_rooms 107 = .ok (.ireturn, 1) := by decide +kernel
theorem dX9_sleeper_0 : decode cX9_sleeper 0 = .ok (.aload_n 0, 1) := by decide +kernel
theorem dX9_sleeper_1 : decode cX9_sleeper 1 = .ok (.iload_n 1, 1) := by decide +kernel
theorem dX9_sleeper_2 : decode cX9_sleeper 2 = .ok (.invokevirtual 200, 3) := by decide +kernel
theorem dX9_sleeper_5 : decode cX9_sleeper 5 = .ok (.aload_n 0, 1) := by decide +kernel
theorem dX9_sleeper_6 : decode cX9_sleeper 6 = .ok (.iload_n 2, 1) := by decide +kernel
theorem dX9_sleeper_7 : decode cX9_sleeper 7 = .ok (.iconst 0, 1) := by decide +kernel
theorem dX9_sleeper_8 : decode cX9_sleeper 8 = .ok (.bipush 9, 2) := by decide +kernel
theorem dX9_sleeper_10 : decode cX9_sleeper 10 = .ok (.invokestatic 144, 3) := by decide +kernel
theorem dX9_sleeper_13 : decode cX9_sleeper 13 = .ok (.invokevirtual 148, 3) := by decide +kernel
theorem dX9_sleeper_16 : decode cX9_sleeper 16 = .ok (.iload_n 2, 1) := by decide +kernel
theorem dX9_sleeper_17 : decode cX9_sleeper 17 = .ok (.tableswitch 160 0 8 #[51, 63, 73, 83, 95, 108, 121, 134, 147], 51) := by decide +kernel
theorem dX9_sleeper_68 : decode cX9_sleeper 68 = .ok (.aload_n 0, 1) := by decide +kernel
theorem dX9_sleeper_69 : decode cX9_sleeper 69 = .ok (.getfield 59, 3) := by decide +kernel
theorem dX9_sleeper_72 : decode cX9_sleeper 72 = .ok (.getfield 162, 3) := by decide +kernel
theorem dX9_sleeper_75 : decode cX9_sleeper 75 = .ok (.iconst 0, 1) := by decide +kernel
theorem dX9_sleeper_76 : decode cX9_sleeper 76 = .ok (.iload_n 1, 1) := by decide +kernel
theorem dX9_sleeper_77 : decode cX9_sleeper 77 = .ok (.iadd, 1) := by decide +kernel
theorem dX9_sleeper_78 : decode cX9_sleeper 78 = .ok (.iaload, 1) := by decide +kernel
theorem dX9_sleeper_79 : decode cX9_sleeper 79 = .ok (.ireturn, 1) := by decide +kernel
theorem dX9_sleeper_80 : decode cX9_sleeper 80 = .ok (.aload_n 0, 1) := by decide +kernel
theorem dX9_sleeper_81 : decode cX9_sleeper 81 = .ok (.getfield 19, 3) := by decide +kernel
theorem dX9_sleeper_84 : decode cX9_sleeper 84 = .ok (.getfield 203, 3) := by decide +kernel
theorem dX9_sleeper_87 : decode cX9_sleeper 87 = .ok (.iload_n 1, 1) := by decide +kernel
theorem dX9_sleeper_88 : decode cX9_sleeper 88 = .ok (.iaload, 1) := by decide +kernel
theorem dX9_sleeper_89 : decode cX9_sleeper 89 = .ok (.ireturn, 1) := by decide +kernel
theorem dX9_sleeper_90 : decode cX9_sleeper 90 = .ok (.aload_n 0, 1) := by decide +kernel
theorem dX9_sleeper_91 : decode cX9_sleeper 91 = .ok (.getfield 19, 3) := by decide +kernel
theorem dX9_sleeper_94 : decode cX9_sleeper 94 = .ok (.getfield 206, 3) := by decide +kernel
theorem dX9_sleeper_97 : decode cX9_sleeper 97 = .ok (.iload_n 1, 1) := by decide +kernel
theorem dX9_sleeper_98 : decode cX9_sleeper 98 = .ok (.iaload, 1) := by decide +kernel
theorem dX9_sleeper_99 : decode cX9_sleeper 99 = .ok (.ireturn, 1) := by decide +kernel
theorem dX9_sleeper_100 : decode cX9_sleeper 100 = .ok (.aload_n 0, 1) := by decide +kernel
theorem dX9_sleeper_101 : decode cX9_sleeper 101 = .ok (.getfield 59, 3) := by decide +kernel
theorem dX9_sleeper_104 : decode cX9_sleeper 104 = .ok (.getfield 162, 3) := by decide +kernel
theorem dX9_sleeper_107 : decode cX9_sleeper 107 = .ok (.iconst 5, 1) := by decide +kernel
theorem dX9_sleeper_108 : decode cX9_sleeper 108 = .ok (.iload_n 1, 1) := by decide +kernel
theorem dX9_sleeper_109 : decode cX9_sleeper 109 = .ok (.iadd, 1) := by decide +kernel
theorem dX9_sleeper_110 : decode cX9_sleeper 110 = .ok (.iaload, 1) := by decide +kernel
theorem dX9_sleeper_111 : decode cX9_sleeper 111 = .ok (.ireturn, 1) := by decide +kernel
theorem dX9_sleeper_112 : decode cX9_sleeper 112 = .ok (.aload_n 0, 1) := by decide +kernel
theorem dX9_sleeper_113 : decode cX9_sleeper 113 = .ok (.getfield 59, 3) := by decide +kernel
theorem dX9_sleeper_116 : decode cX9_sleeper 116 = .ok (.getfield 162, 3) := by decide +kernel
theorem dX9_sleeper_119 : decode cX9_sleeper 119 = .ok (.bipush 10, 2) := by decide +kernel
theorem dX9_sleeper_121 : decode cX9_sleeper 121 = .ok (.iload_n 1, 1) := by decide +kernel
theorem dX9_sleeper_122 : decode cX9_sleeper 122 = .ok (.iadd, 1) := by decide +kernel
theorem dX9_sleeper_123 : decode cX9_sleeper 123 = .ok (.iaload, 1) := by decide +kernel
theorem dX9_sleeper_124 : decode cX9_sleeper 124 = .ok (.ireturn, 1) := by decide +kernel
theorem dX9_sleeper_125 : decode cX9_sleeper 125 = .ok (.aload_n 0, 1) := by decide +kernel
theorem dX9_sleeper_126 : decode cX9_sleeper 126 = .ok (.getfield 59, 3) := by decide +kernel
theorem dX9_sleeper_129 : decode cX9_sleeper 129 = .ok (.getfield 162, 3) := by decide +kernel
theorem dX9_sleeper_132 : decode cX9_sleeper 132 = .ok (.bipush 15, 2) := by decide +kernel
theorem dX9_sleeper_134 : decode cX9_sleeper 134 = .ok (.iload_n 1, 1) := by decide +kernel
theorem dX9_sleeper_135 : decode cX9_sleeper 135 = .ok (.iadd, 1) := by decide +kernel
theorem dX9_sleeper_136 : decode cX9_sleeper 136 = .ok (.iaload, 1) := by decide +kernel
theorem dX9_sleeper_137 : decode cX9_sleeper 137 = .ok (.ireturn, 1) := by decide +kernel
theorem dX9_sleeper_138 : decode cX9_sleeper 138 = .ok (.aload_n 0, 1) := by decide +kernel
theorem dX9_sleeper_139 : decode cX9_sleeper 139 = .ok (.getfield 59, 3) := by decide +kernel
theorem dX9_sleeper_142 : decode cX9_sleeper 142 = .ok (.getfield 162, 3) := by decide +kernel
theorem dX9_sleeper_145 : decode cX9_sleeper 145 = .ok (.bipush 25, 2) := by decide +kernel
theorem dX9_sleeper_147 : decode cX9_sleeper 147 = .ok (.iload_n 1, 1) := by decide +kernel
theorem dX9_sleeper_148 : decode cX9_sleeper 148 = .ok (.iadd, 1) := by decide +kernel
theorem dX9_sleeper_149 : decode cX9_sleeper 149 = .ok (.iaload, 1) := by decide +kernel
theorem dX9_sleeper_150 : decode cX9_sleeper 150 = .ok (.ireturn, 1) := by decide +kernel
theorem dX9_sleeper_151 : decode cX9_sleeper 151 = .ok (.aload_n 0, 1) := by decide +kernel
theorem dX9_sleeper_152 : decode cX9_sleeper 152 = .ok (.getfield 59, 3) := by decide +kernel
theorem dX9_sleeper_155 : decode cX9_sleeper 155 = .ok (.getfield 162, 3) := by decide +kernel
theorem dX9_sleeper_158 : decode cX9_sleeper 158 = .ok (.bipush 30, 2) := by decide +kernel
theorem dX9_sleeper_160 : decode cX9_sleeper 160 = .ok (.iload_n 1, 1) := by decide +kernel
theorem dX9_sleeper_161 : decode cX9_sleeper 161 = .ok (.iadd, 1) := by decide +kernel
theorem dX9_sleeper_162 : decode cX9_sleeper 162 = .ok (.iaload, 1) := by decide +kernel
theorem dX9_sleeper_163 : decode cX9_sleeper 163 = .ok (.ireturn, 1) := by decide +kernel
theorem dX9_sleeper_164 : decode cX9_sleeper 164 = .ok (.aload_n 0, 1) := by decide +kernel
theorem dX9_sleeper_165 : decode cX9_sleeper 165 = .ok (.getfield 59, 3) := by decide +kernel
theorem dX9_sleeper_168 : decode cX9_sleeper 168 = .ok (.getfield 162, 3) := by decide +kernel
theorem dX9_sleeper_171 : decode cX9_sleeper 171 = .ok (.bipush 35, 2) := by decide +kernel
theorem dX9_sleeper_173 : decode cX9_sleeper 173 = .ok (.iload_n 1, 1) := by decide +kernel
theorem dX9_sleeper_174 : decode cX9_sleeper 174 = .ok (.iadd, 1) := by decide +kernel
theorem dX9_sleeper_175 : decode cX9_sleeper 175 = .ok (.iaload, 1) := by decide +kernel
theorem dX9_sleeper_176 : decode cX9_sleeper 176 = .ok (.ireturn, 1) := by decide +kernel
theorem dX9_sleeper_177 : decode cX9_sleeper 177 = .ok (.iconst 0, 1) := by decide +kernel
theorem dX9_sleeper_178 : decode cX9_sleeper 178 = .ok (.aload_n 0, 1) := by decide +kernel
theorem dX9_sleeper_179 : decode cX9_sleeper 179 = .ok (.getfield 19, 3) := by decide +kernel
theorem dX9_sleeper_182 : decode cX9_sleeper 182 = .ok (.getfield 209, 3) := by decide +kernel
theorem dX9_sleeper_185 : decode cX9_sleeper 185 = .ok (.iload_n 1, 1) := by decide +kernel
theorem dX9_sleeper_186 : decode cX9_sleeper 186 = .ok (.iaload, 1) := by decide +kernel
theorem dX9_sleeper_187 : decode cX9_sleeper 187 = .ok (.aload_n 0, 1) := by decide +kernel
theorem dX9_sleeper_188 : decode cX9_sleeper 188 = .ok (.getfield 59, 3) := by decide +kernel
theorem dX9_sleeper_191 : decode cX9_sleeper 191 = .ok (.getfield 162, 3) := by decide +kernel
theorem dX9_sleeper_194 : decode cX9_sleeper 194 = .ok (.bipush 25, 2) := by decide +kernel
theorem dX9_sleeper_196 : decode cX9_sleeper 196 = .ok (.iload_n 1, 1) := by decide +kernel
theorem dX9_sleeper_197 : decode cX9_sleeper 197 = .ok (.iadd, 1) := by decide +kernel
theorem dX9_sleeper_198 : decode cX9_sleeper 198 = .ok (.iaload, 1) := by decide +kernel
theorem dX9_sleeper_199 : decode cX9_sleeper 199 = .ok (.isub, 1) := by decide +kernel
theorem dX9_sleeper_200 : decode cX9_sleeper 200 = .ok (.invokestatic 212, 3) := by decide +kernel
theorem dX9_sleeper_203 : decode cX9_sleeper 203 = .ok (.ireturn, 1) := by decide +kernel
theorem dX9_sleeps_0 : decode cX9_sleeps 0 = .ok (.aload_n 0, 1) := by decide +kernel
theorem dX9_sleeps_1 : decode cX9_sleeps 1 = .ok (.iload_n 1, 1) := by decide +kernel
theorem dX9_sleeps_2 : decode cX9_sleeps 2 = .ok (.invokevirtual 200, 3) := by decide +kernel
theorem dX9_sleeps_5 : decode cX9_sleeps 5 = .ok (.aload_n 0, 1) := by decide +kernel
theorem dX9_sleeps_6 : decode cX9_sleeps 6 = .ok (.iload_n 2, 1) := by decide +kernel
theorem dX9_sleeps_7 : decode cX9_sleeps 7 = .ok (.iconst 0, 1) := by decide +kernel
theorem dX9_sleeps_8 : decode cX9_sleeps 8 = .ok (.sipush 240, 3) := by decide +kernel
theorem dX9_sleeps_11 : decode cX9_sleeps 11 = .ok (.invokestatic 144, 3) := by decide +kernel
theorem dX9_sleeps_14 : decode cX9_sleeps 14 = .ok (.invokevirtual 148, 3) := by decide +kernel
theorem dX9_sleeps_17 : decode cX9_sleeps 17 = .ok (.aload_n 0, 1) := by decide +kernel
theorem dX9_sleeps_18 : decode cX9_sleeps 18 = .ok (.invokevirtual 218, 3) := by decide +kernel
theorem dX9_sleeps_21 : decode cX9_sleeps 21 = .ok (.iload_n 1, 1) := by decide +kernel
theorem dX9_sleeps_22 : decode cX9_sleeps 22 = .ok (.iload_n 2, 1) := by decide +kernel
theorem dX9_sleeps_23 : decode cX9_sleeps 23 = .ok (.invokevirtual 252, 3) := by decide +kernel
theorem dX9_sleeps_26 : decode cX9_sleeps 26 = .ok (.ireturn, 1) := by decide +kernel
theorem dX9_slept_0 : decode cX9_slept 0 = .ok (.aload_n 0, 1) := by decide +kernel
theorem dX9_slept_1 : decode cX9_slept 1 = .ok (.iload_n 1, 1) := by decide +kernel
theorem dX9_slept_2 : decode cX9_slept 2 = .ok (.iconst 0, 1) := by decide +kernel
theorem dX9_slept_3 : decode cX9_slept 3 = .ok (.sipush 240, 3) := by decide +kernel
theorem dX9_slept_6 : decode cX9_slept 6 = .ok (.invokestatic 144, 3) := by decide +kernel
theorem dX9_slept_9 : decode cX9_slept 9 = .ok (.invokevirtual 148, 3) := by decide +kernel
theorem dX9_slept_12 : decode cX9_slept 12 = .ok (.aload_n 0, 1) := by decide +kernel
theorem dX9_slept_13 : decode cX9_slept 13 = .ok (.invokevirtual 218, 3) := by decide +kernel
theorem dX9_slept_16 : decode cX9_slept 16 = .ok (.iload_n 1, 1) := by decide +kernel
theorem dX9_slept_17 : decode cX9_slept 17 = .ok (.invokevirtual 249, 3) := by decide +kernel
theorem dX9_slept_20 : decode cX9_slept 20 = .ok (.ireturn, 1) := by decide +kernel
theorem dX9_sleptByHead_0 : decode cX9_sleptByHead 0 = .ok (.aload_n 0, 1) := by decide +kernel
theorem dX9_sleptByHead_1 : decode cX9_sleptByHead 1 = .ok (.invokevirtual 218, 3) := by decide +kernel
theorem dX9_sleptByHead_4 : decode cX9_sleptByHead 4 = .ok (.astore 4, 2) := by decide +kernel
theorem dX9_sleptByHead_6 : decode cX9_sleptByHead 6 = .ok (.iconst 0, 1) := by decide +kernel
theorem dX9_sleptByHead_7 : decode cX9_sleptByHead 7 = .ok (.istore 5, 2) := by decide +kernel
theorem dX9_sleptByHead_9 : decode cX9_sleptByHead 9 = .ok (.iload 5, 2) := by decide +kernel
theorem dX9_sleptByHead_11 : decode cX9_sleptByHead 11 = .ok (.aload_n 0, 1) := by decide +kernel
theorem dX9_sleptByHead_12 : decode cX9_sleptByHead 12 = .ok (.getfield 19, 3) := by decide +kernel
theorem dX9_sleptByHead_15 : decode cX9_sleptByHead 15 = .ok (.getfield 141, 3) := by decide +kernel
theorem dX9_sleptByHead_18 : decode cX9_sleptByHead 18 = .ok (.if_icmp .ge 33, 3) := by decide +kernel
theorem dX9_sleptByHead_21 : decode cX9_sleptByHead 21 = .ok (.iload 5, 2) := by decide +kernel
theorem dX9_sleptByHead_23 : decode cX9_sleptByHead 23 = .ok (.iload_n 1, 1) := by decide +kernel
theorem dX9_sleptByHead_24 : decode cX9_sleptByHead 24 = .ok (.if_icmp .eq 21, 3) := by decide +kernel
theorem dX9_sleptByHead_27 : decode cX9_sleptByHead 27 = .ok (.aload 4, 2) := by decide +kernel
theorem dX9_sleptByHead_29 : decode cX9_sleptByHead 29 = .ok (.iload 5, 2) := by decide +kernel
theorem dX9_sleptByHead_31 : decode cX9_sleptByHead 31 = .ok (.invokevirtual 239, 3) := by decide +kernel
theorem dX9_sleptByHead_34 : decode cX9_sleptByHead 34 = .ok (.ifCond .ne 11, 3) := by decide +kernel
theorem dX9_sleptByHead_37 : decode cX9_sleptByHead 37 = .ok (.aload 4, 2) := by decide +kernel
theorem dX9_sleptByHead_39 : decode cX9_sleptByHead 39 = .ok (.iload 5, 2) := by decide +kernel
theorem dX9_sleptByHead_41 : decode cX9_sleptByHead 41 = .ok (.iload_n 2, 1) := by decide +kernel
theorem dX9_sleptByHead_42 : decode cX9_sleptByHead 42 = .ok (.invokevirtual 353, 3) := by decide +kernel
theorem dX9_sleptByHead_45 : decode cX9_sleptByHead 45 = .ok (.iinc 5 1, 3) := by decide +kernel
theorem dX9_sleptByHead_48 : decode cX9_sleptByHead 48 = .ok (.goto (-39), 3) := by decide +kernel
theorem dX9_sleptByHead_51 : decode cX9_sleptByHead 51 = .ok (.aload 4, 2) := by decide +kernel
theorem dX9_sleptByHead_53 : decode cX9_sleptByHead 53 = .ok (.iload_n 3, 1) := by decide +kernel
theorem dX9_sleptByHead_54 : decode cX9_sleptByHead 54 = .ok (.invokevirtual 249, 3) := by decide +kernel
theorem dX9_sleptByHead_57 : decode cX9_sleptByHead 57 = .ok (.ireturn, 1) := by decide +kernel
theorem dX9_soon_0 : decode cX9_soon 0 = .ok (.aload_n 0, 1) := by decide +kernel
theorem dX9_soon_1 : decode cX9_soon 1 = .ok (.iload_n 1, 1) := by decide +kernel
theorem dX9_soon_2 : decode cX9_soon 2 = .ok (.invokevirtual 200, 3) := by decide +kernel
theorem dX9_soon_5 : decode cX9_soon 5 = .ok (.aload_n 0, 1) := by decide +kernel
theorem dX9_soon_6 : decode cX9_soon 6 = .ok (.invokevirtual 218, 3) := by decide +kernel
theorem dX9_soon_9 : decode cX9_soon 9 = .ok (.astore_n 2, 1) := by decide +kernel
theorem dX9_soon_10 : decode cX9_soon 10 = .ok (.iconst 0, 1) := by decide +kernel
theorem dX9_soon_11 : decode cX9_soon 11 = .ok (.istore_n 3, 1) := by decide +kernel
theorem dX9_soon_12 : decode cX9_soon 12 = .ok (.iload_n 3, 1) := by decide +kernel
theorem dX9_soon_13 : decode cX9_soon 13 = .ok (.bipush 120, 2) := by decide +kernel
theorem dX9_soon_15 : decode cX9_soon 15 = .ok (.if_icmp .gt 25, 3) := by decide +kernel
theorem dX9_soon_18 : decode cX9_soon 18 = .ok (.aload_n 2, 1) := by decide +kernel
theorem dX9_soon_19 : decode cX9_soon 19 = .ok (.iload_n 1, 1) := by decide +kernel
theorem dX9_soon_20 : decode cX9_soon 20 = .ok (.invokevirtual 239, 3) := by decide +kernel
theorem dX9_soon_23 : decode cX9_soon 23 = .ok (.ifCond .eq 5, 3) := by decide +kernel
theorem dX9_soon_26 : decode cX9_soon 26 = .ok (.iload_n 3, 1) := by decide +kernel
theorem dX9_soon_27 : decode cX9_soon 27 = .ok (.ireturn, 1) := by decide +kernel
theorem dX9_soon_28 : decode cX9_soon 28 = .ok (.aload_n 2, 1) := by decide +kernel
theorem dX9_soon_29 : decode cX9_soon 29 = .ok (.iconst 0, 1) := by decide +kernel
theorem dX9_soon_30 : decode cX9_soon 30 = .ok (.invokevirtual 243, 3) := by decide +kernel
theorem dX9_soon_33 : decode cX9_soon 33 = .ok (.pop, 1) := by decide +kernel
theorem dX9_soon_34 : decode cX9_soon 34 = .ok (.iinc 3 1, 3) := by decide +kernel
theorem dX9_soon_37 : decode cX9_soon 37 = .ok (.goto (-25), 3) := by decide +kernel
theorem dX9_soon_40 : decode cX9_soon 40 = .ok (.iconst (-1), 1) := by decide +kernel
theorem dX9_soon_41 : decode cX9_soon 41 = .ok (.ireturn, 1) := by decide +kernel
theorem dX9_span_0 : decode cX9_span 0 = .ok (.aload_n 0, 1) := by decide +kernel
theorem dX9_span_1 : decode cX9_span 1 = .ok (.iload_n 2, 1) := by decide +kernel
theorem dX9_span_2 : decode cX9_span 2 = .ok (.iconst 1, 1) := by decide +kernel
theorem dX9_span_3 : decode cX9_span 3 = .ok (.bipush 20, 2) := by decide +kernel
theorem dX9_span_5 : decode cX9_span 5 = .ok (.invokestatic 144, 3) := by decide +kernel
theorem dX9_span_8 : decode cX9_span 8 = .ok (.ifCond .eq 17, 3) := by decide +kernel
theorem dX9_span_11 : decode cX9_span 11 = .ok (.iload 6, 2) := by decide +kernel
theorem dX9_span_13 : decode cX9_span 13 = .ok (.iconst 0, 1) := by decide +kernel
theorem dX9_span_14 : decode cX9_span 14 = .ok (.iconst 2, 1) := by decide +kernel
theorem dX9_span_15 : decode cX9_span 15 = .ok (.invokestatic 144, 3) := by decide +kernel
theorem dX9_span_18 : decode cX9_span 18 = .ok (.ifCond .eq 7, 3) := by decide +kernel
theorem dX9_span_21 : decode cX9_span 21 = .ok (.iconst 1, 1) := by decide +kernel
theorem dX9_span_22 : decode cX9_span 22 = .ok (.goto 4, 3) := by decide +kernel
theorem dX9_span_25 : decode cX9_span 25 = .ok (.iconst 0, 1) := by decide +kernel
theorem dX9_span_26 : decode cX9_span 26 = .ok (.invokevirtual 148, 3) := by decide +kernel
theorem dX9_span_29 : decode cX9_span 29 = .ok (.aload_n 0, 1) := by decide +kernel
theorem dX9_span_30 : decode cX9_span 30 = .ok (.iload_n 3, 1) := by decide +kernel
theorem dX9_span_31 : decode cX9_span 31 = .ok (.iload 4, 2) := by decide +kernel
theorem dX9_span_33 : decode cX9_span 33 = .ok (.iload 5, 2) := by decide +kernel
theorem dX9_span_35 : decode cX9_span 35 = .ok (.invokevirtual 322, 3) := by decide +kernel
theorem dX9_span_38 : decode cX9_span 38 = .ok (.sipush 1200, 3) := by decide +kernel
theorem dX9_span_41 : decode cX9_span 41 = .ok (.istore 7, 2) := by decide +kernel
theorem dX9_span_43 : decode cX9_span 43 = .ok (.iconst 0, 1) := by decide +kernel
theorem dX9_span_44 : decode cX9_span 44 = .ok (.istore 8, 2) := by decide +kernel
theorem dX9_span_46 : decode cX9_span 46 = .ok (.iconst 0, 1) := by decide +kernel
theorem dX9_span_47 : decode cX9_span 47 = .ok (.istore 9, 2) := by decide +kernel
theorem dX9_span_49 : decode cX9_span 49 = .ok (.iconst 0, 1) := by decide +kernel
theorem dX9_span_50 : decode cX9_span 50 = .ok (.istore 10, 2) := by decide +kernel
theorem dX9_span_52 : decode cX9_span 52 = .ok (.iload 10, 2) := by decide +kernel
theorem dX9_span_54 : decode cX9_span 54 = .ok (.iload_n 2, 1) := by decide +kernel
theorem dX9_span_55 : decode cX9_span 55 = .ok (.if_icmp .ge 86, 3) := by decide +kernel
theorem dX9_span_58 : decode cX9_span 58 = .ok (.aload_n 0, 1) := by decide +kernel
theorem dX9_span_59 : decode cX9_span 59 = .ok (.invokevirtual 218, 3) := by decide +kernel
theorem dX9_span_62 : decode cX9_span 62 = .ok (.astore 11, 2) := by decide +kernel
theorem dX9_span_64 : decode cX9_span 64 = .ok (.aload 11, 2) := by decide +kernel
theorem dX9_span_66 : decode cX9_span 66 = .ok (.iload_n 1, 1) := by decide +kernel
theorem dX9_span_67 : decode cX9_span 67 = .ok (.iload 10, 2) := by decide +kernel
theorem dX9_span_69 : decode cX9_span 69 = .ok (.iadd, 1) := by decide +kernel
theorem dX9_span_70 : decode cX9_span 70 = .ok (.iload_n 3, 1) := by decide +kernel
theorem dX9_span_71 : decode cX9_span 71 = .ok (.iload 4, 2) := by decide +kernel
theorem dX9_span_73 : decode cX9_span 73 = .ok (.iload 5, 2) := by decide +kernel
theorem dX9_span_75 : decode cX9_span 75 = .ok (.invokevirtual 326, 3) := by decide +kernel
theorem dX9_span_78 : decode cX9_span 78 = .ok (.aload 11, 2) := by decide +kernel
theorem dX9_span_80 : decode cX9_span 80 = .ok (.invokevirtual 194, 3) := by decide +kernel
theorem dX9_span_83 : decode cX9_span 83 = .ok (.aload_n 0, 1) := by decide +kernel
theorem dX9_span_84 : decode cX9_span 84 = .ok (.getfield 59, 3) := by decide +kernel
theorem dX9_span_87 : decode cX9_span 87 = .ok (.invokevirtual 194, 3) := by decide +kernel
theorem dX9_span_90 : decode cX9_span 90 = .ok (.isub, 1) := by decide +kernel
theorem dX9_span_91 : decode cX9_span 91 = .ok (.istore 12, 2) := by decide +kernel
theorem dX9_span_93 : decode cX9_span 93 = .ok (.iload 7, 2) := by decide +kernel
theorem dX9_span_95 : decode cX9_span 95 = .ok (.iload 12, 2) := by decide +kernel
theorem dX9_span_97 : decode cX9_span 97 = .ok (.invokestatic 332, 3) := by decide +kernel
theorem dX9_span_100 : decode cX9_span 100 = .ok (.istore 7, 2) := by decide +kernel
theorem dX9_span_102 : decode cX9_span 102 = .ok (.iload 8, 2) := by decide +kernel
theorem dX9_span_104 : decode cX9_span 104 = .ok (.iload 12, 2) := by decide +kernel
theorem dX9_span_106 : decode cX9_span 106 = .ok (.invokestatic 212, 3) := by decide +kernel
theorem dX9_span_109 : decode cX9_span 109 = .ok (.istore 8, 2) := by decide +kernel
theorem dX9_span_111 : decode cX9_span 111 = .ok (.aload 11, 2) := by decide +kernel
theorem dX9_span_113 : decode cX9_span 113 = .ok (.getfield 162, 3) := by decide +kernel
theorem dX9_span_116 : decode cX9_span 116 = .ok (.bipush 41, 2) := by decide +kernel
theorem dX9_span_118 : decode cX9_span 118 = .ok (.iaload, 1) := by decide +kernel
theorem dX9_span_119 : decode cX9_span 119 = .ok (.aload_n 0, 1) := by decide +kernel
theorem dX9_span_120 : decode cX9_span 120 = .ok (.getfield 59, 3) := by decide +kernel
theorem dX9_span_123 : decode cX9_span 123 = .ok (.getfield 162, 3) := by decide +kernel
theorem dX9_span_126 : decode cX9_span 126 = .ok (.bipush 41, 2) := by decide +kernel
theorem dX9_span_128 : decode cX9_span 128 = .ok (.iaload, 1) := by decide +kernel
theorem dX9_span_129 : decode cX9_span 129 = .ok (.if_icmp .ne 6, 3) := by decide +kernel
theorem dX9_span_132 : decode cX9_span 132 = .ok (.iinc 9 1, 3) := by decide +kernel
theorem dX9_span_135 : decode cX9_span 135 = .ok (.iinc 10 1, 3) := by decide +kernel
theorem dX9_span_138 : decode cX9_span 138 = .ok (.goto (-86), 3) := by decide +kernel
theorem dX9_span_141 : decode cX9_span 141 = .ok (.iload 6, 2) := by decide +kernel
theorem dX9_span_143 : decode cX9_span 143 = .ok (.lookupswitch 31 #[(0, 25), (1, 28)], 25) := by decide +kernel
theorem dX9_span_168 : decode cX9_span 168 = .ok (.iload 7, 2) := by decide +kernel
theorem dX9_span_170 : decode cX9_span 170 = .ok (.ireturn, 1) := by decide +kernel
theorem dX9_span_171 : decode cX9_span 171 = .ok (.iload 8, 2) := by decide +kernel
theorem dX9_span_173 : decode cX9_span 173 = .ok (.ireturn, 1) := by decide +kernel
theorem dX9_span_174 : decode cX9_span 174 = .ok (.iload 9, 2) := by decide +kernel
theorem dX9_span_176 : decode cX9_span 176 = .ok (.ireturn, 1) := by decide +kernel
theorem dX9_status_0 : decode cX9_status 0 = .ok (.iload_n 1, 1) := by decide +kernel
theorem dX9_status_1 : decode cX9_status 1 = .ok (.lookupswitch 37 #[(0, 27), (1, 32)], 27) := by decide +kernel
theorem dX9_status_28 : decode cX9_status 28 = .ok (.aload_n 0, 1) := by decide +kernel
theorem dX9_status_29 : decode cX9_status 29 = .ok (.getfield 95, 3) := by decide +kernel
theorem dX9_status_32 : decode cX9_status 32 = .ok (.ireturn, 1) := by decide +kernel
theorem dX9_status_33 : decode cX9_status 33 = .ok (.aload_n 0, 1) := by decide +kernel
theorem dX9_status_34 : decode cX9_status 34 = .ok (.getfield 98, 3) := by decide +kernel
theorem dX9_status_37 : decode cX9_status 37 = .ok (.ireturn, 1) := by decide +kernel
theorem dX9_status_38 : decode cX9_status 38 = .ok (.iconst (-1), 1) := by decide +kernel
theorem dX9_status_39 : decode cX9_status 39 = .ok (.ireturn, 1) := by decide +kernel
theorem dX9_told_0 : decode cX9_told 0 = .ok (.aload_n 0, 1) := by decide +kernel
theorem dX9_told_1 : decode cX9_told 1 = .ok (.iload_n 1, 1) := by decide +kernel
theorem dX9_told_2 : decode cX9_told 2 = .ok (.iconst 0, 1) := by decide +kernel
theorem dX9_told_3 : decode cX9_told 3 = .ok (.bipush 7, 2) := by decide +kernel
theorem dX9_told_5 : decode cX9_told 5 = .ok (.invokestatic 144, 3) := by decide +kernel
theorem dX9_told_8 : decode cX9_told 8 = .ok (.invokevirtual 148, 3) := by decide +kernel
theorem dX9_told_11 : decode cX9_told 11 = .ok (.iload_n 1, 1) := by decide +kernel
theorem dX9_told_12 : decode cX9_told 12 = .ok (.tableswitch 103 0 6 #[44, 52, 63, 71, 79, 90, 98], 44) := by decide +kernel
theorem dX9_told_56 : decode cX9_told 56 = .ok (.aload_n 0, 1) := by decide +kernel
theorem dX9_told_57 : decode cX9_told 57 = .ok (.getfield 19, 3) := by decide +kernel
theorem dX9_told_60 : decode cX9_told 60 = .ok (.getfield 141, 3) := by decide +kernel
theorem dX9_told_63 : decode cX9_told 63 = .ok (.ireturn, 1) := by decide +kernel
theorem dX9_told_64 : decode cX9_told 64 = .ok (.aload_n 0, 1) := by decide +kernel
theorem dX9_told_65 : decode cX9_told 65 = .ok (.getfield 59, 3) := by decide +kernel
theorem dX9_told_68 : decode cX9_told 68 = .ok (.getfield 162, 3) := by decide +kernel
theorem dX9_told_71 : decode cX9_told 71 = .ok (.bipush 40, 2) := by decide +kernel
theorem dX9_told_73 : decode cX9_told 73 = .ok (.iaload, 1) := by decide +kernel
theorem dX9_told_74 : decode cX9_told 74 = .ok (.ireturn, 1) := by decide +kernel
theorem dX9_told_75 : decode cX9_told 75 = .ok (.aload_n 0, 1) := by decide +kernel
theorem dX9_told_76 : decode cX9_told 76 = .ok (.getfield 59, 3) := by decide +kernel
theorem dX9_told_79 : decode cX9_told 79 = .ok (.invokevirtual 190, 3) := by decide +kernel
theorem dX9_told_82 : decode cX9_told 82 = .ok (.ireturn, 1) := by decide +kernel
theorem dX9_told_83 : decode cX9_told 83 = .ok (.aload_n 0, 1) := by decide +kernel
theorem dX9_told_84 : decode cX9_told 84 = .ok (.getfield 59, 3) := by decide +kernel
theorem dX9_told_87 : decode cX9_told 87 = .ok (.invokevirtual 194, 3) := by decide +kernel
theorem dX9_told_90 : decode cX9_told 90 = .ok (.ireturn, 1) := by decide +kernel
theorem dX9_told_91 : decode cX9_told 91 = .ok (.aload_n 0, 1) := by decide +kernel
theorem dX9_told_92 : decode cX9_told 92 = .ok (.getfield 59, 3) := by decide +kernel
theorem dX9_told_95 : decode cX9_told 95 = .ok (.getfield 162, 3) := by decide +kernel
theorem dX9_told_98 : decode cX9_told 98 = .ok (.bipush 41, 2) := by decide +kernel
theorem dX9_told_100 : decode cX9_told 100 = .ok (.iaload, 1) := by decide +kernel
theorem dX9_told_101 : decode cX9_told 101 = .ok (.ireturn, 1) := by decide +kernel
theorem dX9_told_102 : decode cX9_told 102 = .ok (.aload_n 0, 1) := by decide +kernel
theorem dX9_told_103 : decode cX9_told 103 = .ok (.getfield 40, 3) := by decide +kernel
theorem dX9_told_106 : decode cX9_told 106 = .ok (.getfield 136, 3) := by decide +kernel
theorem dX9_told_109 : decode cX9_told 109 = .ok (.ireturn, 1) := by decide +kernel
theorem dX9_told_110 : decode cX9_told 110 = .ok (.aload_n 0, 1) := by decide +kernel
theorem dX9_told_111 : decode cX9_told 111 = .ok (.getfield 91, 3) := by decide +kernel
theorem dX9_told_114 : decode cX9_told 114 = .ok (.ireturn, 1) := by decide +kernel
theorem dX9_told_115 : decode cX9_told 115 = .ok (.aload_n 0, 1) := by decide +kernel
theorem dX9_told_116 : decode cX9_told 116 = .ok (.getfield 19, 3) := by decide +kernel
theorem dX9_told_119 : decode cX9_told 119 = .ok (.getfield 197, 3) := by decide +kernel
theorem dX9_told_122 : decode cX9_told 122 = .ok (.ireturn, 1) := by decide +kernel
theorem dX9_undo_0 : decode cX9_undo 0 = .ok (.aload_n 0, 1) := by decide +kernel
theorem dX9_undo_1 : decode cX9_undo 1 = .ok (.getfield 69, 3) := by decide +kernel
theorem dX9_undo_4 : decode cX9_undo 4 = .ok (.getfield 139, 3) := by decide +kernel
theorem dX9_undo_7 : decode cX9_undo 7 = .ok (.ifCond .ne 5, 3) := by decide +kernel
theorem dX9_undo_10 : decode cX9_undo 10 = .ok (.iconst (-1), 1) := by decide +kernel
theorem dX9_undo_11 : decode cX9_undo 11 = .ok (.ireturn, 1) := by decide +kernel
theorem dX9_undo_12 : decode cX9_undo 12 = .ok (.aload_n 0, 1) := by decide +kernel
theorem dX9_undo_13 : decode cX9_undo 13 = .ok (.getfield 69, 3) := by decide +kernel
theorem dX9_undo_16 : decode cX9_undo 16 = .ok (.aload_n 0, 1) := by decide +kernel
theorem dX9_undo_17 : decode cX9_undo 17 = .ok (.getfield 59, 3) := by decide +kernel
theorem dX9_undo_20 : decode cX9_undo 20 = .ok (.getfield 162, 3) := by decide +kernel
theorem dX9_undo_23 : decode cX9_undo 23 = .ok (.invokevirtual 187, 3) := by decide +kernel
theorem dX9_undo_26 : decode cX9_undo 26 = .ok (.aload_n 0, 1) := by decide +kernel
theorem dX9_undo_27 : decode cX9_undo 27 = .ok (.iconst 0, 1) := by decide +kernel
theorem dX9_undo_28 : decode cX9_undo 28 = .ok (.putfield 91, 3) := by decide +kernel
theorem dX9_undo_31 : decode cX9_undo 31 = .ok (.aload_n 0, 1) := by decide +kernel
theorem dX9_undo_32 : decode cX9_undo 32 = .ok (.getfield 69, 3) := by decide +kernel
theorem dX9_undo_35 : decode cX9_undo 35 = .ok (.getfield 139, 3) := by decide +kernel
theorem dX9_undo_38 : decode cX9_undo 38 = .ok (.ireturn, 1) := by decide +kernel
theorem dX9_wall_0 : decode cX9_wall 0 = .ok (.aload_n 0, 1) := by decide +kernel
theorem dX9_wall_1 : decode cX9_wall 1 = .ok (.iload_n 1, 1) := by decide +kernel
theorem dX9_wall_2 : decode cX9_wall 2 = .ok (.iconst 0, 1) := by decide +kernel
theorem dX9_wall_3 : decode cX9_wall 3 = .ok (.sipush 240, 3) := by decide +kernel
theorem dX9_wall_6 : decode cX9_wall 6 = .ok (.invokestatic 144, 3) := by decide +kernel
theorem dX9_wall_9 : decode cX9_wall 9 = .ok (.invokevirtual 148, 3) := by decide +kernel
theorem dX9_wall_12 : decode cX9_wall 12 = .ok (.iconst 0, 1) := by decide +kernel
theorem dX9_wall_13 : decode cX9_wall 13 = .ok (.istore_n 2, 1) := by decide +kernel
theorem dX9_wall_14 : decode cX9_wall 14 = .ok (.iconst (-1), 1) := by decide +kernel
theorem dX9_wall_15 : decode cX9_wall 15 = .ok (.istore_n 3, 1) := by decide +kernel
theorem dX9_wall_16 : decode cX9_wall 16 = .ok (.iconst 0, 1) := by decide +kernel
theorem dX9_wall_17 : decode cX9_wall 17 = .ok (.istore 4, 2) := by decide +kernel
theorem dX9_wall_19 : decode cX9_wall 19 = .ok (.iload 4, 2) := by decide +kernel
theorem dX9_wall_21 : decode cX9_wall 21 = .ok (.bipush 40, 2) := by decide +kernel
theorem dX9_wall_23 : decode cX9_wall 23 = .ok (.if_icmp .gt 42, 3) := by decide +kernel
theorem dX9_wall_26 : decode cX9_wall 26 = .ok (.aload_n 0, 1) := by decide +kernel
theorem dX9_wall_27 : decode cX9_wall 27 = .ok (.invokevirtual 218, 3) := by decide +kernel
theorem dX9_wall_30 : decode cX9_wall 30 = .ok (.astore 5, 2) := by decide +kernel
theorem dX9_wall_32 : decode cX9_wall 32 = .ok (.aload 5, 2) := by decide +kernel
theorem dX9_wall_34 : decode cX9_wall 34 = .ok (.iload 4, 2) := by decide +kernel
theorem dX9_wall_36 : decode cX9_wall 36 = .ok (.putfield 319, 3) := by decide +kernel
theorem dX9_wall_39 : decode cX9_wall 39 = .ok (.aload 5, 2) := by decide +kernel
theorem dX9_wall_41 : decode cX9_wall 41 = .ok (.iload_n 1, 1) := by decide +kernel
theorem dX9_wall_42 : decode cX9_wall 42 = .ok (.invokevirtual 249, 3) := by decide +kernel
theorem dX9_wall_45 : decode cX9_wall 45 = .ok (.istore 6, 2) := by decide +kernel
theorem dX9_wall_47 : decode cX9_wall 47 = .ok (.iload 6, 2) := by decide +kernel
theorem dX9_wall_49 : decode cX9_wall 49 = .ok (.iload_n 3, 1) := by decide +kernel
theorem dX9_wall_50 : decode cX9_wall 50 = .ok (.if_icmp .le 9, 3) := by decide +kernel
theorem dX9_wall_53 : decode cX9_wall 53 = .ok (.iload 6, 2) := by decide +kernel
theorem dX9_wall_55 : decode cX9_wall 55 = .ok (.istore_n 3, 1) := by decide +kernel
theorem dX9_wall_56 : decode cX9_wall 56 = .ok (.iload 4, 2) := by decide +kernel
theorem dX9_wall_58 : decode cX9_wall 58 = .ok (.istore_n 2, 1) := by decide +kernel
theorem dX9_wall_59 : decode cX9_wall 59 = .ok (.iinc 4 1, 3) := by decide +kernel
theorem dX9_wall_62 : decode cX9_wall 62 = .ok (.goto (-43), 3) := by decide +kernel
theorem dX9_wall_65 : decode cX9_wall 65 = .ok (.iload_n 2, 1) := by decide +kernel
theorem dX9_wall_66 : decode cX9_wall 66 = .ok (.ireturn, 1) := by decide +kernel
theorem dX9_within_0 : decode cX9_within 0 = .ok (.iload_n 0, 1) := by decide +kernel
theorem dX9_within_1 : decode cX9_within 1 = .ok (.iload_n 1, 1) := by decide +kernel
theorem dX9_within_2 : decode cX9_within 2 = .ok (.if_icmp .lt 12, 3) := by decide +kernel
theorem dX9_within_5 : decode cX9_within 5 = .ok (.iload_n 0, 1) := by decide +kernel
theorem dX9_within_6 : decode cX9_within 6 = .ok (.iload_n 2, 1) := by decide +kernel
theorem dX9_within_7 : decode cX9_within 7 = .ok (.if_icmp .gt 7, 3) := by decide +kernel
theorem dX9_within_10 : decode cX9_within 10 = .ok (.iconst 1, 1) := by decide +kernel
theorem dX9_within_11 : decode cX9_within 11 = .ok (.goto 4, 3) := by decide +kernel
theorem dX9_within_14 : decode cX9_within 14 = .ok (.iconst 0, 1) := by decide +kernel
theorem dX9_within_15 : decode cX9_within 15 = .ok (.ireturn, 1) := by decide +kernel
theorem dX9_work_0 : decode cX9_work 0 = .ok (.aload_n 0, 1) := by decide +kernel
theorem dX9_work_1 : decode cX9_work 1 = .ok (.iload_n 1, 1) := by decide +kernel
theorem dX9_work_2 : decode cX9_work 2 = .ok (.sipush 150, 3) := by decide +kernel
theorem dX9_work_5 : decode cX9_work 5 = .ok (.invokevirtual 121, 3) := by decide +kernel
theorem dX9_work_8 : decode cX9_work 8 = .ok (.aload_n 0, 1) := by decide +kernel
theorem dX9_work_9 : decode cX9_work 9 = .ok (.getfield 69, 3) := by decide +kernel
theorem dX9_work_12 : decode cX9_work 12 = .ok (.invokevirtual 156, 3) := by decide +kernel
theorem dX9_work_15 : decode cX9_work 15 = .ok (.ifCond .eq 6, 3) := by decide +kernel
theorem dX9_work_18 : decode cX9_work 18 = .ok (.bipush (-20), 2) := by decide +kernel
theorem dX9_work_20 : decode cX9_work 20 = .ok (.ireturn, 1) := by decide +kernel
theorem dX9_work_21 : decode cX9_work 21 = .ok (.aload_n 0, 1) := by decide +kernel
theorem dX9_work_22 : decode cX9_work 22 = .ok (.getfield 50, 3) := by decide +kernel
theorem dX9_work_25 : decode cX9_work 25 = .ok (.aload_n 0, 1) := by decide +kernel
theorem dX9_work_26 : decode cX9_work 26 = .ok (.getfield 10, 3) := by decide +kernel
theorem dX9_work_29 : decode cX9_work 29 = .ok (.aload_n 0, 1) := by decide +kernel
theorem dX9_work_30 : decode cX9_work 30 = .ok (.getfield 19, 3) := by decide +kernel
theorem dX9_work_33 : decode cX9_work 33 = .ok (.getfield 141, 3) := by decide +kernel
theorem dX9_work_36 : decode cX9_work 36 = .ok (.invokevirtual 159, 3) := by decide +kernel
theorem dX9_work_39 : decode cX9_work 39 = .ok (.ifCond .ne 14, 3) := by decide +kernel
theorem dX9_work_42 : decode cX9_work 42 = .ok (.aload_n 0, 1) := by decide +kernel
theorem dX9_work_43 : decode cX9_work 43 = .ok (.getfield 10, 3) := by decide +kernel
theorem dX9_work_46 : decode cX9_work 46 = .ok (.getfield 129, 3) := by decide +kernel
theorem dX9_work_49 : decode cX9_work 49 = .ok (.bipush 10, 2) := by decide +kernel
theorem dX9_work_51 : decode cX9_work 51 = .ok (.isub, 1) := by decide +kernel
theorem dX9_work_52 : decode cX9_work 52 = .ok (.ireturn, 1) := by decide +kernel
theorem dX9_work_53 : decode cX9_work 53 = .ok (.aload_n 0, 1) := by decide +kernel
theorem dX9_work_54 : decode cX9_work 54 = .ok (.getfield 69, 3) := by decide +kernel
theorem dX9_work_57 : decode cX9_work 57 = .ok (.aload_n 0, 1) := by decide +kernel
theorem dX9_work_58 : decode cX9_work 58 = .ok (.getfield 59, 3) := by decide +kernel
theorem dX9_work_61 : decode cX9_work 61 = .ok (.getfield 162, 3) := by decide +kernel
theorem dX9_work_64 : decode cX9_work 64 = .ok (.invokevirtual 165, 3) := by decide +kernel
theorem dX9_work_67 : decode cX9_work 67 = .ok (.aload_n 0, 1) := by decide +kernel
theorem dX9_work_68 : decode cX9_work 68 = .ok (.getfield 50, 3) := by decide +kernel
theorem dX9_work_71 : decode cX9_work 71 = .ok (.aload_n 0, 1) := by decide +kernel
theorem dX9_work_72 : decode cX9_work 72 = .ok (.getfield 59, 3) := by decide +kernel
theorem dX9_work_75 : decode cX9_work 75 = .ok (.iconst 0, 1) := by decide +kernel
theorem dX9_work_76 : decode cX9_work 76 = .ok (.aload_n 0, 1) := by decide +kernel
theorem dX9_work_77 : decode cX9_work 77 = .ok (.getfield 50, 3) := by decide +kernel
theorem dX9_work_80 : decode cX9_work 80 = .ok (.getfield 169, 3) := by decide +kernel
theorem dX9_work_83 : decode cX9_work 83 = .ok (.iconst 0, 1) := by decide +kernel
theorem dX9_work_84 : decode cX9_work 84 = .ok (.invokevirtual 170, 3) := by decide +kernel
theorem dX9_work_87 : decode cX9_work 87 = .ok (.aload_n 0, 1) := by decide +kernel
theorem dX9_work_88 : decode cX9_work 88 = .ok (.aload_n 0, 1) := by decide +kernel
theorem dX9_work_89 : decode cX9_work 89 = .ok (.getfield 50, 3) := by decide +kernel
theorem dX9_work_92 : decode cX9_work 92 = .ok (.getfield 174, 3) := by decide +kernel
theorem dX9_work_95 : decode cX9_work 95 = .ok (.putfield 91, 3) := by decide +kernel
theorem dX9_work_98 : decode cX9_work 98 = .ok (.aload_n 0, 1) := by decide +kernel
theorem dX9_work_99 : decode cX9_work 99 = .ok (.getfield 50, 3) := by decide +kernel
theorem dX9_work_102 : decode cX9_work 102 = .ok (.getfield 177, 3) := by decide +kernel
theorem dX9_work_105 : decode cX9_work 105 = .ok (.ireturn, 1) := by decide +kernel
theorem dX9_would_0 : decode cX9_would 0 = .ok (.aload_n 0, 1) := by decide +kernel
theorem dX9_would_1 : decode cX9_would 1 = .ok (.iload_n 1, 1) := by decide +kernel
theorem dX9_would_2 : decode cX9_would 2 = .ok (.iconst 0, 1) := by decide +kernel
theorem dX9_would_3 : decode cX9_would 3 = .ok (.bipush 9, 2) := by decide +kernel
theorem dX9_would_5 : decode cX9_would 5 = .ok (.invokestatic 144, 3) := by decide +kernel
theorem dX9_would_8 : decode cX9_would 8 = .ok (.ifCond .eq 27, 3) := by decide +kernel
theorem dX9_would_11 : decode cX9_would 11 = .ok (.iload_n 2, 1) := by decide +kernel
theorem dX9_would_12 : decode cX9_would 12 = .ok (.iconst 0, 1) := by decide +kernel
theorem dX9_would_13 : decode cX9_would 13 = .ok (.bipush 9, 2) := by decide +kernel
theorem dX9_would_15 : decode cX9_would 15 = .ok (.invokestatic 144, 3) := by decide +kernel
theorem dX9_would_18 : decode cX9_would 18 = .ok (.ifCond .eq 17, 3) := by decide +kernel
theorem dX9_would_21 : decode cX9_would 21 = .ok (.iload_n 3, 1) := by decide +kernel
theorem dX9_would_22 : decode cX9_would 22 = .ok (.iconst 0, 1) := by decide +kernel
theorem dX9_would_23 : decode cX9_would 23 = .ok (.bipush 9, 2) := by decide +kernel
theorem dX9_would_25 : decode cX9_would 25 = .ok (.invokestatic 144, 3) := by decide +kernel
theorem dX9_would_28 : decode cX9_would 28 = .ok (.ifCond .eq 7, 3) := by decide +kernel
theorem dX9_would_31 : decode cX9_would 31 = .ok (.iconst 1, 1) := by decide +kernel
theorem dX9_would_32 : decode cX9_would 32 = .ok (.goto 4, 3) := by decide +kernel
theorem dX9_would_35 : decode cX9_would 35 = .ok (.iconst 0, 1) := by decide +kernel
theorem dX9_would_36 : decode cX9_would 36 = .ok (.invokevirtual 148, 3) := by decide +kernel
theorem dX9_would_39 : decode cX9_would 39 = .ok (.aload_n 0, 1) := by decide +kernel
theorem dX9_would_40 : decode cX9_would 40 = .ok (.iload 4, 2) := by decide +kernel
theorem dX9_would_42 : decode cX9_would 42 = .ok (.iconst 0, 1) := by decide +kernel
theorem dX9_would_43 : decode cX9_would 43 = .ok (.bipush 9, 2) := by decide +kernel
theorem dX9_would_45 : decode cX9_would 45 = .ok (.invokestatic 144, 3) := by decide +kernel
theorem dX9_would_48 : decode cX9_would 48 = .ok (.ifCond .eq 18, 3) := by decide +kernel
theorem dX9_would_51 : decode cX9_would 51 = .ok (.iload 5, 2) := by decide +kernel
theorem dX9_would_53 : decode cX9_would 53 = .ok (.iconst 0, 1) := by decide +kernel
theorem dX9_would_54 : decode cX9_would 54 = .ok (.bipush 99, 2) := by decide +kernel
theorem dX9_would_56 : decode cX9_would 56 = .ok (.invokestatic 144, 3) := by decide +kernel
theorem dX9_would_59 : decode cX9_would 59 = .ok (.ifCond .eq 7, 3) := by decide +kernel
theorem dX9_would_62 : decode cX9_would 62 = .ok (.iconst 1, 1) := by decide +kernel
theorem dX9_would_63 : decode cX9_would 63 = .ok (.goto 4, 3) := by decide +kernel
theorem dX9_would_66 : decode cX9_would 66 = .ok (.iconst 0, 1) := by decide +kernel
theorem dX9_would_67 : decode cX9_would 67 = .ok (.invokevirtual 148, 3) := by decide +kernel
theorem dX9_would_70 : decode cX9_would 70 = .ok (.aload_n 0, 1) := by decide +kernel
theorem dX9_would_71 : decode cX9_would 71 = .ok (.getfield 63, 3) := by decide +kernel
theorem dX9_would_74 : decode cX9_would 74 = .ok (.iload_n 1, 1) := by decide +kernel
theorem dX9_would_75 : decode cX9_would 75 = .ok (.iload_n 2, 1) := by decide +kernel
theorem dX9_would_76 : decode cX9_would 76 = .ok (.iload_n 3, 1) := by decide +kernel
theorem dX9_would_77 : decode cX9_would 77 = .ok (.iload 4, 2) := by decide +kernel
theorem dX9_would_79 : decode cX9_would 79 = .ok (.iload 5, 2) := by decide +kernel
theorem dX9_would_81 : decode cX9_would 81 = .ok (.invokevirtual 232, 3) := by decide +kernel
theorem dX9_would_84 : decode cX9_would 84 = .ok (.ireturn, 1) := by decide +kernel
