theorem dX10_of_0 : decode cX10_of 0 = .ok (.iconst 0, 1) := by decide +kernel
theorem dX10_of_1 : decode cX10_of 1 = .ok (.istore_n 1, 1) := by decide +kernel
theorem dX10_of_2 : decode cX10_of 2 = .ok (.iconst 0, 1) := by decide +kernel
theorem dX10_of_3 : decode cX10_of 3 = .ok (.istore_n 2, 1) := by decide +kernel
theorem dX10_of_4 : decode cX10_of 4 = .ok (.iload_n 2, 1) := by decide +kernel
theorem dX10_of_5 : decode cX10_of 5 = .ok (.aload_n 0, 1) := by decide +kernel
theorem dX10_of_6 : decode cX10_of 6 = .ok (.invokevirtual 121, 3) := by decide +kernel
theorem dX10_of_9 : decode cX10_of 9 = .ok (.if_icmp .ge 22, 3) := by decide +kernel
theorem dX10_of_12 : decode cX10_of 12 = .ok (.iload_n 1, 1) := by decide +kernel
theorem dX10_of_13 : decode cX10_of 13 = .ok (.iconst 5, 1) := by decide +kernel
theorem dX10_of_14 : decode cX10_of 14 = .ok (.ishl, 1) := by decide +kernel
theorem dX10_of_15 : decode cX10_of 15 = .ok (.aload_n 0, 1) := by decide +kernel
theorem dX10_of_16 : decode cX10_of 16 = .ok (.iload_n 2, 1) := by decide +kernel
theorem dX10_of_17 : decode cX10_of 17 = .ok (.invokevirtual 126, 3) := by decide +kernel
theorem dX10_of_20 : decode cX10_of 20 = .ok (.bipush 96, 2) := by decide +kernel
theorem dX10_of_22 : decode cX10_of 22 = .ok (.isub, 1) := by decide +kernel
theorem dX10_of_23 : decode cX10_of 23 = .ok (.ior, 1) := by decide +kernel
theorem dX10_of_24 : decode cX10_of 24 = .ok (.istore_n 1, 1) := by decide +kernel
theorem dX10_of_25 : decode cX10_of 25 = .ok (.iinc 2 1, 3) := by decide +kernel
theorem dX10_of_28 : decode cX10_of 28 = .ok (.goto (-24), 3) := by decide +kernel
theorem dX10_of_31 : decode cX10_of 31 = .ok (.iload_n 1, 1) := by decide +kernel
theorem dX10_of_32 : decode cX10_of 32 = .ok (.ireturn, 1) := by decide +kernel
theorem dX10_opensOne_0 : decode cX10_opensOne 0 = .ok (.aload_n 0, 1) := by decide +kernel
theorem dX10_opensOne_1 : decode cX10_opensOne 1 = .ok (.invokevirtual 130, 3) := by decide +kernel
theorem dX10_opensOne_4 : decode cX10_opensOne 4 = .ok (.ifCond .eq 21, 3) := by decide +kernel
theorem dX10_opensOne_7 : decode cX10_opensOne 7 = .ok (.aload_n 0, 1) := by decide +kernel
theorem dX10_opensOne_8 : decode cX10_opensOne 8 = .ok (.getfield 141, 3) := by decide +kernel
theorem dX10_opensOne_11 : decode cX10_opensOne 11 = .ok (.bipush 6, 2) := by decide +kernel
theorem dX10_opensOne_13 : decode cX10_opensOne 13 = .ok (.if_icmp .ne 12, 3) := by decide +kernel
theorem dX10_opensOne_16 : decode cX10_opensOne 16 = .ok (.aload_n 0, 1) := by decide +kernel
theorem dX10_opensOne_17 : decode cX10_opensOne 17 = .ok (.iconst 3, 1) := by decide +kernel
theorem dX10_opensOne_18 : decode cX10_opensOne 18 = .ok (.aload_n 0, 1) := by decide +kernel
theorem dX10_opensOne_19 : decode cX10_opensOne 19 = .ok (.getfield 107, 3) := by decide +kernel
theorem dX10_opensOne_22 : decode cX10_opensOne 22 = .ok (.invokevirtual 137, 3) := by decide +kernel
theorem dX10_opensOne_25 : decode cX10_opensOne 25 = .ok (.aload_n 0, 1) := by decide +kernel
theorem dX10_opensOne_26 : decode cX10_opensOne 26 = .ok (.invokevirtual 130, 3) := by decide +kernel
theorem dX10_opensOne_29 : decode cX10_opensOne 29 = .ok (.ifCond .eq 13, 3) := by decide +kernel
theorem dX10_opensOne_32 : decode cX10_opensOne 32 = .ok (.aload_n 0, 1) := by decide +kernel
theorem dX10_opensOne_33 : decode cX10_opensOne 33 = .ok (.dup, 1) := by decide +kernel
theorem dX10_opensOne_34 : decode cX10_opensOne 34 = .ok (.getfield 107, 3) := by decide +kernel
theorem dX10_opensOne_37 : decode cX10_opensOne 37 = .ok (.iload_n 1, 1) := by decide +kernel
theorem dX10_opensOne_38 : decode cX10_opensOne 38 = .ok (.iadd, 1) := by decide +kernel
theorem dX10_opensOne_39 : decode cX10_opensOne 39 = .ok (.putfield 107, 3) := by decide +kernel
theorem dX10_opensOne_42 : decode cX10_opensOne 42 = .ok (.aload_n 0, 1) := by decide +kernel
theorem dX10_opensOne_43 : decode cX10_opensOne 43 = .ok (.dup, 1) := by decide +kernel
theorem dX10_opensOne_44 : decode cX10_opensOne 44 = .ok (.getfield 141, 3) := by decide +kernel
theorem dX10_opensOne_47 : decode cX10_opensOne 47 = .ok (.iconst 1, 1) := by decide +kernel
theorem dX10_opensOne_48 : decode cX10_opensOne 48 = .ok (.iadd, 1) := by decide +kernel
theorem dX10_opensOne_49 : decode cX10_opensOne 49 = .ok (.putfield 141, 3) := by decide +kernel
theorem dX10_opensOne_52 : decode cX10_opensOne 52 = .ok (.return_, 1) := by decide +kernel
theorem dX10_pass_0 : decode cX10_pass 0 = .ok (.aload_n 0, 1) := by decide +kernel
theorem dX10_pass_1 : decode cX10_pass 1 = .ok (.getfield 107, 3) := by decide +kernel
theorem dX10_pass_4 : decode cX10_pass 4 = .ok (.aload_n 0, 1) := by decide +kernel
theorem dX10_pass_5 : decode cX10_pass 5 = .ok (.getfield 110, 3) := by decide +kernel
theorem dX10_pass_8 : decode cX10_pass 8 = .ok (.if_icmp .ge 31, 3) := by decide +kernel
theorem dX10_pass_11 : decode cX10_pass 11 = .ok (.aload_n 0, 1) := by decide +kernel
theorem dX10_pass_12 : decode cX10_pass 12 = .ok (.getfield 20, 3) := by decide +kernel
theorem dX10_pass_15 : decode cX10_pass 15 = .ok (.aload_n 0, 1) := by decide +kernel
theorem dX10_pass_16 : decode cX10_pass 16 = .ok (.getfield 107, 3) := by decide +kernel
theorem dX10_pass_19 : decode cX10_pass 19 = .ok (.iaload, 1) := by decide +kernel
theorem dX10_pass_20 : decode cX10_pass 20 = .ok (.invokestatic 117, 3) := by decide +kernel
theorem dX10_pass_23 : decode cX10_pass 23 = .ok (.ifCond .eq 16, 3) := by decide +kernel
theorem dX10_pass_26 : decode cX10_pass 26 = .ok (.aload_n 0, 1) := by decide +kernel
theorem dX10_pass_27 : decode cX10_pass 27 = .ok (.dup, 1) := by decide +kernel
theorem dX10_pass_28 : decode cX10_pass 28 = .ok (.getfield 107, 3) := by decide +kernel
theorem dX10_pass_31 : decode cX10_pass 31 = .ok (.iconst 1, 1) := by decide +kernel
theorem dX10_pass_32 : decode cX10_pass 32 = .ok (.iadd, 1) := by decide +kernel
theorem dX10_pass_33 : decode cX10_pass 33 = .ok (.putfield 107, 3) := by decide +kernel
theorem dX10_pass_36 : decode cX10_pass 36 = .ok (.goto (-36), 3) := by decide +kernel
theorem dX10_pass_39 : decode cX10_pass 39 = .ok (.return_, 1) := by decide +kernel
theorem dX10_pauses_0 : decode cX10_pauses 0 = .ok (.aload_n 0, 1) := by decide +kernel
theorem dX10_pauses_1 : decode cX10_pauses 1 = .ok (.iconst 0, 1) := by decide +kernel
theorem dX10_pauses_2 : decode cX10_pauses 2 = .ok (.putfield 3, 3) := by decide +kernel
theorem dX10_pauses_5 : decode cX10_pauses 5 = .ok (.aload_n 0, 1) := by decide +kernel
theorem dX10_pauses_6 : decode cX10_pauses 6 = .ok (.iload_n 1, 1) := by decide +kernel
theorem dX10_pauses_7 : decode cX10_pauses 7 = .ok (.iconst 0, 1) := by decide +kernel
theorem dX10_pauses_8 : decode cX10_pauses 8 = .ok (.bipush 16, 2) := by decide +kernel
theorem dX10_pauses_10 : decode cX10_pauses 10 = .ok (.invokestatic 282, 3) := by decide +kernel
theorem dX10_pauses_13 : decode cX10_pauses 13 = .ok (.ifCond .eq 36, 3) := by decide +kernel
theorem dX10_pauses_16 : decode cX10_pauses 16 = .ok (.iload_n 2, 1) := by decide +kernel
theorem dX10_pauses_17 : decode cX10_pauses 17 = .ok (.iconst 1, 1) := by decide +kernel
theorem dX10_pauses_18 : decode cX10_pauses 18 = .ok (.iconst 4, 1) := by decide +kernel
theorem dX10_pauses_19 : decode cX10_pauses 19 = .ok (.invokestatic 282, 3) := by decide +kernel
theorem dX10_pauses_22 : decode cX10_pauses 22 = .ok (.ifCond .eq 27, 3) := by decide +kernel
theorem dX10_pauses_25 : decode cX10_pauses 25 = .ok (.iload_n 3, 1) := by decide +kernel
theorem dX10_pauses_26 : decode cX10_pauses 26 = .ok (.iconst 0, 1) := by decide +kernel
theorem dX10_pauses_27 : decode cX10_pauses 27 = .ok (.bipush 12, 2) := by decide +kernel
theorem dX10_pauses_29 : decode cX10_pauses 29 = .ok (.invokestatic 282, 3) := by decide +kernel
theorem dX10_pauses_32 : decode cX10_pauses 32 = .ok (.ifCond .eq 17, 3) := by decide +kernel
theorem dX10_pauses_35 : decode cX10_pauses 35 = .ok (.iload 4, 2) := by decide +kernel
theorem dX10_pauses_37 : decode cX10_pauses 37 = .ok (.iconst 0, 1) := by decide +kernel
theorem dX10_pauses_38 : decode cX10_pauses 38 = .ok (.iconst 1, 1) := by decide +kernel
theorem dX10_pauses_39 : decode cX10_pauses 39 = .ok (.invokestatic 282, 3) := by decide +kernel
theorem dX10_pauses_42 : decode cX10_pauses 42 = .ok (.ifCond .eq 7, 3) := by decide +kernel
theorem dX10_pauses_45 : decode cX10_pauses 45 = .ok (.iconst 1, 1) := by decide +kernel
theorem dX10_pauses_46 : decode cX10_pauses 46 = .ok (.goto 4, 3) := by decide +kernel
theorem dX10_pauses_49 : decode cX10_pauses 49 = .ok (.iconst 0, 1) := by decide +kernel
theorem dX10_pauses_50 : decode cX10_pauses 50 = .ok (.iconst 1, 1) := by decide +kernel
theorem dX10_pauses_51 : decode cX10_pauses 51 = .ok (.iconst 1, 1) := by decide +kernel
theorem dX10_pauses_52 : decode cX10_pauses 52 = .ok (.invokevirtual 203, 3) := by decide +kernel
theorem dX10_pauses_55 : decode cX10_pauses 55 = .ok (.ifCond .ne 5, 3) := by decide +kernel
theorem dX10_pauses_58 : decode cX10_pauses 58 = .ok (.lconst 0, 1) := by decide +kernel
theorem dX10_pauses_59 : decode cX10_pauses 59 = .ok (.lreturn, 1) := by decide +kernel
theorem dX10_pauses_60 : decode cX10_pauses 60 = .ok (.iload_n 1, 1) := by decide +kernel
theorem dX10_pauses_61 : decode cX10_pauses 61 = .ok (.iload_n 2, 1) := by decide +kernel
theorem dX10_pauses_62 : decode cX10_pauses 62 = .ok (.iload_n 3, 1) := by decide +kernel
theorem dX10_pauses_63 : decode cX10_pauses 63 = .ok (.invokestatic 436, 3) := by decide +kernel
theorem dX10_pauses_66 : decode cX10_pauses 66 = .ok (.ldc2_w 440, 3) := by decide +kernel
theorem dX10_pauses_69 : decode cX10_pauses 69 = .ok (.iload_n 2, 1) := by decide +kernel
theorem dX10_pauses_70 : decode cX10_pauses 70 = .ok (.iconst 1, 1) := by decide +kernel
theorem dX10_pauses_71 : decode cX10_pauses 71 = .ok (.iadd, 1) := by decide +kernel
theorem dX10_pauses_72 : decode cX10_pauses 72 = .ok (.invokestatic 432, 3) := by decide +kernel
theorem dX10_pauses_75 : decode cX10_pauses 75 = .ok (.iload 4, 2) := by decide +kernel
theorem dX10_pauses_77 : decode cX10_pauses 77 = .ok (.invokestatic 442, 3) := by decide +kernel
theorem dX10_pauses_80 : decode cX10_pauses 80 = .ok (.lreturn, 1) := by decide +kernel
theorem dX10_plugs_0 : decode cX10_plugs 0 = .ok (.aload_n 0, 1) := by decide +kernel
theorem dX10_plugs_1 : decode cX10_plugs 1 = .ok (.iconst 0, 1) := by decide +kernel
theorem dX10_plugs_2 : decode cX10_plugs 2 = .ok (.putfield 3, 3) := by decide +kernel
theorem dX10_plugs_5 : decode cX10_plugs 5 = .ok (.aload_n 0, 1) := by decide +kernel
theorem dX10_plugs_6 : decode cX10_plugs 6 = .ok (.iload_n 1, 1) := by decide +kernel
theorem dX10_plugs_7 : decode cX10_plugs 7 = .ok (.iconst 1, 1) := by decide +kernel
theorem dX10_plugs_8 : decode cX10_plugs 8 = .ok (.invokevirtual 383, 3) := by decide +kernel
theorem dX10_plugs_11 : decode cX10_plugs 11 = .ok (.ifCond .eq 31, 3) := by decide +kernel
theorem dX10_plugs_14 : decode cX10_plugs 14 = .ok (.aload_n 0, 1) := by decide +kernel
theorem dX10_plugs_15 : decode cX10_plugs 15 = .ok (.iload_n 2, 1) := by decide +kernel
theorem dX10_plugs_16 : decode cX10_plugs 16 = .ok (.invokestatic 386, 3) := by decide +kernel
theorem dX10_plugs_19 : decode cX10_plugs 19 = .ok (.ifCond .eq 14, 3) := by decide +kernel
theorem dX10_plugs_22 : decode cX10_plugs 22 = .ok (.iload_n 3, 1) := by decide +kernel
theorem dX10_plugs_23 : decode cX10_plugs 23 = .ok (.invokestatic 386, 3) := by decide +kernel
theorem dX10_plugs_26 : decode cX10_plugs 26 = .ok (.ifCond .eq 7, 3) := by decide +kernel
theorem dX10_plugs_29 : decode cX10_plugs 29 = .ok (.iconst 1, 1) := by decide +kernel
theorem dX10_plugs_30 : decode cX10_plugs 30 = .ok (.goto 4, 3) := by decide +kernel
theorem dX10_plugs_33 : decode cX10_plugs 33 = .ok (.iconst 0, 1) := by decide +kernel
theorem dX10_plugs_34 : decode cX10_plugs 34 = .ok (.iconst 2, 1) := by decide +kernel
theorem dX10_plugs_35 : decode cX10_plugs 35 = .ok (.iconst 1, 1) := by decide +kernel
theorem dX10_plugs_36 : decode cX10_plugs 36 = .ok (.invokevirtual 203, 3) := by decide +kernel
theorem dX10_plugs_39 : decode cX10_plugs 39 = .ok (.ifCond .ne 5, 3) := by decide +kernel
theorem dX10_plugs_42 : decode cX10_plugs 42 = .ok (.iconst 0, 1) := by decide +kernel
theorem dX10_plugs_43 : decode cX10_plugs 43 = .ok (.ireturn, 1) := by decide +kernel
theorem dX10_plugs_44 : decode cX10_plugs 44 = .ok (.iconst 0, 1) := by decide +kernel
theorem dX10_plugs_45 : decode cX10_plugs 45 = .ok (.istore 4, 2) := by decide +kernel
theorem dX10_plugs_47 : decode cX10_plugs 47 = .ok (.iload 4, 2) := by decide +kernel
theorem dX10_plugs_49 : decode cX10_plugs 49 = .ok (.bipush 20, 2) := by decide +kernel
theorem dX10_plugs_51 : decode cX10_plugs 51 = .ok (.if_icmp .gt 37, 3) := by decide +kernel
theorem dX10_plugs_54 : decode cX10_plugs 54 = .ok (.aload_n 0, 1) := by decide +kernel
theorem dX10_plugs_55 : decode cX10_plugs 55 = .ok (.invokevirtual 316, 3) := by decide +kernel
theorem dX10_plugs_58 : decode cX10_plugs 58 = .ok (.aload_n 0, 1) := by decide +kernel
theorem dX10_plugs_59 : decode cX10_plugs 59 = .ok (.getfield 65, 3) := by decide +kernel
theorem dX10_plugs_62 : decode cX10_plugs 62 = .ok (.bipush 10, 2) := by decide +kernel
theorem dX10_plugs_64 : decode cX10_plugs 64 = .ok (.iload_n 1, 1) := by decide +kernel
theorem dX10_plugs_65 : decode cX10_plugs 65 = .ok (.iadd, 1) := by decide +kernel
theorem dX10_plugs_66 : decode cX10_plugs 66 = .ok (.iload 4, 2) := by decide +kernel
theorem dX10_plugs_68 : decode cX10_plugs 68 = .ok (.iastore, 1) := by decide +kernel
theorem dX10_plugs_69 : decode cX10_plugs 69 = .ok (.aload_n 0, 1) := by decide +kernel
theorem dX10_plugs_70 : decode cX10_plugs 70 = .ok (.iload_n 1, 1) := by decide +kernel
theorem dX10_plugs_71 : decode cX10_plugs 71 = .ok (.iload_n 3, 1) := by decide +kernel
theorem dX10_plugs_72 : decode cX10_plugs 72 = .ok (.invokevirtual 392, 3) := by decide +kernel
theorem dX10_plugs_75 : decode cX10_plugs 75 = .ok (.iload_n 2, 1) := by decide +kernel
theorem dX10_plugs_76 : decode cX10_plugs 76 = .ok (.if_icmp .lt 6, 3) := by decide +kernel
theorem dX10_plugs_79 : decode cX10_plugs 79 = .ok (.iload 4, 2) := by decide +kernel
theorem dX10_plugs_81 : decode cX10_plugs 81 = .ok (.ireturn, 1) := by decide +kernel
theorem dX10_plugs_82 : decode cX10_plugs 82 = .ok (.iinc 4 1, 3) := by decide +kernel
theorem dX10_plugs_85 : decode cX10_plugs 85 = .ok (.goto (-38), 3) := by decide +kernel
theorem dX10_plugs_88 : decode cX10_plugs 88 = .ok (.iconst (-1), 1) := by decide +kernel
theorem dX10_plugs_89 : decode cX10_plugs 89 = .ok (.ireturn, 1) := by decide +kernel
theorem dX10_power_0 : decode cX10_power 0 = .ok (.lconst 1, 1) := by decide +kernel
theorem dX10_power_1 : decode cX10_power 1 = .ok (.lstore_n 3, 1) := by decide +kernel
theorem dX10_power_2 : decode cX10_power 2 = .ok (.iconst 0, 1) := by decide +kernel
theorem dX10_power_3 : decode cX10_power 3 = .ok (.istore 5, 2) := by decide +kernel
theorem dX10_power_5 : decode cX10_power 5 = .ok (.iload 5, 2) := by decide +kernel
theorem dX10_power_7 : decode cX10_power 7 = .ok (.iload_n 2, 1) := by decide +kernel
theorem dX10_power_8 : decode cX10_power 8 = .ok (.if_icmp .ge 13, 3) := by decide +kernel
theorem dX10_power_11 : decode cX10_power 11 = .ok (.lload_n 3, 1) := by decide +kernel
theorem dX10_power_12 : decode cX10_power 12 = .ok (.lload_n 0, 1) := by decide +kernel
theorem dX10_power_13 : decode cX10_power 13 = .ok (.lmul, 1) := by decide +kernel
theorem dX10_power_14 : decode cX10_power 14 = .ok (.lstore_n 3, 1) := by decide +kernel
theorem dX10_power_15 : decode cX10_power 15 = .ok (.iinc 5 1, 3) := by decide +kernel
theorem dX10_power_18 : decode cX10_power 18 = .ok (.goto (-13), 3) := by decide +kernel
theorem dX10_power_21 : decode cX10_power 21 = .ok (.lload_n 3, 1) := by decide +kernel
theorem dX10_power_22 : decode cX10_power 22 = .ok (.lreturn, 1) := by decide +kernel
theorem dX10_readNumber_0 : decode cX10_readNumber 0 = .ok (.aload_n 0, 1) := by decide +kernel
theorem dX10_readNumber_1 : decode cX10_readNumber 1 = .ok (.invokevirtual 130, 3) := by decide +kernel
theorem dX10_readNumber_4 : decode cX10_readNumber 4 = .ok (.ifCond .ne 5, 3) := by decide +kernel
theorem dX10_readNumber_7 : decode cX10_readNumber 7 = .ok (.iconst 0, 1) := by decide +kernel
theorem dX10_readNumber_8 : decode cX10_readNumber 8 = .ok (.ireturn, 1) := by decide +kernel
theorem dX10_readNumber_9 : decode cX10_readNumber 9 = .ok (.aload_n 0, 1) := by decide +kernel
theorem dX10_readNumber_10 : decode cX10_readNumber 10 = .ok (.invokevirtual 113, 3) := by decide +kernel
theorem dX10_readNumber_13 : decode cX10_readNumber 13 = .ok (.istore_n 3, 1) := by decide +kernel
theorem dX10_readNumber_14 : decode cX10_readNumber 14 = .ok (.aload_n 0, 1) := by decide +kernel
theorem dX10_readNumber_15 : decode cX10_readNumber 15 = .ok (.getfield 107, 3) := by decide +kernel
theorem dX10_readNumber_18 : decode cX10_readNumber 18 = .ok (.istore 4, 2) := by decide +kernel
theorem dX10_readNumber_20 : decode cX10_readNumber 20 = .ok (.iconst 0, 1) := by decide +kernel
theorem dX10_readNumber_21 : decode cX10_readNumber 21 = .ok (.istore 5, 2) := by decide +kernel
theorem dX10_readNumber_23 : decode cX10_readNumber 23 = .ok (.iload_n 3, 1) := by decide +kernel
theorem dX10_readNumber_24 : decode cX10_readNumber 24 = .ok (.invokestatic 134, 3) := by decide +kernel
theorem dX10_readNumber_27 : decode cX10_readNumber 27 = .ok (.ifCond .ne 14, 3) := by decide +kernel
theorem dX10_readNumber_30 : decode cX10_readNumber 30 = .ok (.aload_n 0, 1) := by decide +kernel
theorem dX10_readNumber_31 : decode cX10_readNumber 31 = .ok (.iconst 1, 1) := by decide +kernel
theorem dX10_readNumber_32 : decode cX10_readNumber 32 = .ok (.aload_n 0, 1) := by decide +kernel
theorem dX10_readNumber_33 : decode cX10_readNumber 33 = .ok (.getfield 107, 3) := by decide +kernel
theorem dX10_readNumber_36 : decode cX10_readNumber 36 = .ok (.invokevirtual 137, 3) := by decide +kernel
theorem dX10_readNumber_39 : decode cX10_readNumber 39 = .ok (.iconst 0, 1) := by decide +kernel
theorem dX10_readNumber_40 : decode cX10_readNumber 40 = .ok (.ireturn, 1) := by decide +kernel
theorem dX10_readNumber_41 : decode cX10_readNumber 41 = .ok (.aload_n 0, 1) := by decide +kernel
theorem dX10_readNumber_42 : decode cX10_readNumber 42 = .ok (.getfield 107, 3) := by decide +kernel
theorem dX10_readNumber_45 : decode cX10_readNumber 45 = .ok (.aload_n 0, 1) := by decide +kernel
theorem dX10_readNumber_46 : decode cX10_readNumber 46 = .ok (.getfield 110, 3) := by decide +kernel
theorem dX10_readNumber_49 : decode cX10_readNumber 49 = .ok (.if_icmp .ge 65, 3) := by decide +kernel
theorem dX10_readNumber_52 : decode cX10_readNumber 52 = .ok (.aload_n 0, 1) := by decide +kernel
theorem dX10_readNumber_53 : decode cX10_readNumber 53 = .ok (.getfield 20, 3) := by decide +kernel
theorem dX10_readNumber_56 : decode cX10_readNumber 56 = .ok (.aload_n 0, 1) := by decide +kernel
theorem dX10_readNumber_57 : decode cX10_readNumber 57 = .ok (.getfield 107, 3) := by decide +kernel
theorem dX10_readNumber_60 : decode cX10_readNumber 60 = .ok (.iaload, 1) := by decide +kernel
theorem dX10_readNumber_61 : decode cX10_readNumber 61 = .ok (.invokestatic 134, 3) := by decide +kernel
theorem dX10_readNumber_64 : decode cX10_readNumber 64 = .ok (.ifCond .eq 50, 3) := by decide +kernel
theorem dX10_readNumber_67 : decode cX10_readNumber 67 = .ok (.iload 5, 2) := by decide +kernel
theorem dX10_readNumber_69 : decode cX10_readNumber 69 = .ok (.sipush 9999, 3) := by decide +kernel
theorem dX10_readNumber_72 : decode cX10_readNumber 72 = .ok (.if_icmp .le 9, 3) := by decide +kernel
theorem dX10_readNumber_75 : decode cX10_readNumber 75 = .ok (.sipush 10000, 3) := by decide +kernel
theorem dX10_readNumber_78 : decode cX10_readNumber 78 = .ok (.goto 21, 3) := by decide +kernel
theorem dX10_readNumber_81 : decode cX10_readNumber 81 = .ok (.bipush 10, 2) := by decide +kernel
theorem dX10_readNumber_83 : decode cX10_readNumber 83 = .ok (.iload 5, 2) := by decide +kernel
theorem dX10_readNumber_85 : decode cX10_readNumber 85 = .ok (.imul, 1) := by decide +kernel
theorem dX10_readNumber_86 : decode cX10_readNumber 86 = .ok (.aload_n 0, 1) := by decide +kernel
theorem dX10_readNumber_87 : decode cX10_readNumber 87 = .ok (.getfield 20, 3) := by decide +kernel
theorem dX10_readNumber_90 : decode cX10_readNumber 90 = .ok (.aload_n 0, 1) := by decide +kernel
theorem dX10_readNumber_91 : decode cX10_readNumber 91 = .ok (.getfield 107, 3) := by decide +kernel
theorem dX10_readNumber_94 : decode cX10_readNumber 94 = .ok (.iaload, 1) := by decide +kernel
theorem dX10_readNumber_95 : decode cX10_readNumber 95 = .ok (.iadd, 1) := by decide +kernel
theorem dX10_readNumber_96 : decode cX10_readNumber 96 = .ok (.bipush 48, 2) := by decide +kernel
theorem dX10_readNumber_98 : decode cX10_readNumber 98 = .ok (.isub, 1) := by decide +kernel
theorem dX10_readNumber_99 : decode cX10_readNumber 99 = .ok (.istore 5, 2) := by decide +kernel
theorem dX10_readNumber_101 : decode cX10_readNumber 101 = .ok (.aload_n 0, 1) := by decide +kernel
theorem dX10_readNumber_102 : decode cX10_readNumber 102 = .ok (.dup, 1) := by decide +kernel
theorem dX10_readNumber_103 : decode cX10_readNumber 103 = .ok (.getfield 107, 3) := by decide +kernel
theorem dX10_readNumber_106 : decode cX10_readNumber 106 = .ok (.iconst 1, 1) := by decide +kernel
theorem dX10_readNumber_107 : decode cX10_readNumber 107 = .ok (.iadd, 1) := by decide +kernel
theorem dX10_readNumber_108 : decode cX10_readNumber 108 = .ok (.putfield 107, 3) := by decide +kernel
theorem dX10_readNumber_111 : decode cX10_readNumber 111 = .ok (.goto (-70), 3) := by decide +kernel
theorem dX10_readNumber_114 : decode cX10_readNumber 114 = .ok (.iload 5, 2) := by decide +kernel
theorem dX10_readNumber_116 : decode cX10_readNumber 116 = .ok (.iload_n 1, 1) := by decide +kernel
theorem dX10_readNumber_117 : decode cX10_readNumber 117 = .ok (.if_icmp .lt 9, 3) := by decide +kernel
theorem dX10_readNumber_120 : decode cX10_readNumber 120 = .ok (.iload 5, 2) := by decide +kernel
theorem dX10_readNumber_122 : decode cX10_readNumber 122 = .ok (.iload_n 2, 1) := by decide +kernel
theorem dX10_readNumber_123 : decode cX10_readNumber 123 = .ok (.if_icmp .le 12, 3) := by decide +kernel
theorem dX10_readNumber_126 : decode cX10_readNumber 126 = .ok (.aload_n 0, 1) := by decide +kernel
theorem dX10_readNumber_127 : decode cX10_readNumber 127 = .ok (.iconst 2, 1) := by decide +kernel
theorem dX10_readNumber_128 : decode cX10_readNumber 128 = .ok (.iload 4, 2) := by decide +kernel
theorem dX10_readNumber_130 : decode cX10_readNumber 130 = .ok (.invokevirtual 137, 3) := by decide +kernel
theorem dX10_readNumber_133 : decode cX10_readNumber 133 = .ok (.iconst 0, 1) := by decide +kernel
theorem dX10_readNumber_134 : decode cX10_readNumber 134 = .ok (.ireturn, 1) := by decide +kernel
theorem dX10_readNumber_135 : decode cX10_readNumber 135 = .ok (.iload 5, 2) := by decide +kernel
theorem dX10_readNumber_137 : decode cX10_readNumber 137 = .ok (.ireturn, 1) := by decide +kernel
theorem dX10_readOf_0 : decode cX10_readOf 0 = .ok (.aload_n 0, 1) := by decide +kernel
theorem dX10_readOf_1 : decode cX10_readOf 1 = .ok (.iconst 0, 1) := by decide +kernel
theorem dX10_readOf_2 : decode cX10_readOf 2 = .ok (.aload_n 0, 1) := by decide +kernel
theorem dX10_readOf_3 : decode cX10_readOf 3 = .ok (.getfield 144, 3) := by decide +kernel
theorem dX10_readOf_6 : decode cX10_readOf 6 = .ok (.iconst 1, 1) := by decide +kernel
theorem dX10_readOf_7 : decode cX10_readOf 7 = .ok (.isub, 1) := by decide +kernel
theorem dX10_readOf_8 : decode cX10_readOf 8 = .ok (.invokevirtual 181, 3) := by decide +kernel
theorem dX10_readOf_11 : decode cX10_readOf 11 = .ok (.istore_n 3, 1) := by decide +kernel
theorem dX10_readOf_12 : decode cX10_readOf 12 = .ok (.aload_n 0, 1) := by decide +kernel
theorem dX10_readOf_13 : decode cX10_readOf 13 = .ok (.iconst 0, 1) := by decide +kernel
theorem dX10_readOf_14 : decode cX10_readOf 14 = .ok (.iload_n 2, 1) := by decide +kernel
theorem dX10_readOf_15 : decode cX10_readOf 15 = .ok (.invokevirtual 181, 3) := by decide +kernel
theorem dX10_readOf_18 : decode cX10_readOf 18 = .ok (.istore 4, 2) := by decide +kernel
theorem dX10_readOf_20 : decode cX10_readOf 20 = .ok (.aload_n 0, 1) := by decide +kernel
theorem dX10_readOf_21 : decode cX10_readOf 21 = .ok (.invokevirtual 130, 3) := by decide +kernel
theorem dX10_readOf_24 : decode cX10_readOf 24 = .ok (.ifCond .eq 16, 3) := by decide +kernel
theorem dX10_readOf_27 : decode cX10_readOf 27 = .ok (.aload_n 0, 1) := by decide +kernel
theorem dX10_readOf_28 : decode cX10_readOf 28 = .ok (.getfield 23, 3) := by decide +kernel
theorem dX10_readOf_31 : decode cX10_readOf 31 = .ok (.bipush 8, 2) := by decide +kernel
theorem dX10_readOf_33 : decode cX10_readOf 33 = .ok (.iload_n 3, 1) := by decide +kernel
theorem dX10_readOf_34 : decode cX10_readOf 34 = .ok (.imul, 1) := by decide +kernel
theorem dX10_readOf_35 : decode cX10_readOf 35 = .ok (.iload_n 1, 1) := by decide +kernel
theorem dX10_readOf_36 : decode cX10_readOf 36 = .ok (.iadd, 1) := by decide +kernel
theorem dX10_readOf_37 : decode cX10_readOf 37 = .ok (.iload 4, 2) := by decide +kernel
theorem dX10_readOf_39 : decode cX10_readOf 39 = .ok (.iastore, 1) := by decide +kernel
theorem dX10_readOf_40 : decode cX10_readOf 40 = .ok (.return_, 1) := by decide +kernel
theorem dX10_readOne_0 : decode cX10_readOne 0 = .ok (.aload_n 0, 1) := by decide +kernel
theorem dX10_readOne_1 : decode cX10_readOne 1 = .ok (.iconst 0, 1) := by decide +kernel
theorem dX10_readOne_2 : decode cX10_readOne 2 = .ok (.aload_n 0, 1) := by decide +kernel
theorem dX10_readOne_3 : decode cX10_readOne 3 = .ok (.getfield 156, 3) := by decide +kernel
theorem dX10_readOne_6 : decode cX10_readOne 6 = .ok (.iconst 1, 1) := by decide +kernel
theorem dX10_readOne_7 : decode cX10_readOne 7 = .ok (.isub, 1) := by decide +kernel
theorem dX10_readOne_8 : decode cX10_readOne 8 = .ok (.invokevirtual 181, 3) := by decide +kernel
theorem dX10_readOne_11 : decode cX10_readOne 11 = .ok (.ireturn, 1) := by decide +kernel
theorem dX10_readProduct_0 : decode cX10_readProduct 0 = .ok (.aload_n 0, 1) := by decide +kernel
theorem dX10_readProduct_1 : decode cX10_readProduct 1 = .ok (.invokevirtual 250, 3) := by decide +kernel
theorem dX10_readProduct_4 : decode cX10_readProduct 4 = .ok (.aload_n 0, 1) := by decide +kernel
theorem dX10_readProduct_5 : decode cX10_readProduct 5 = .ok (.invokevirtual 130, 3) := by decide +kernel
theorem dX10_readProduct_8 : decode cX10_readProduct 8 = .ok (.ifCond .eq 59, 3) := by decide +kernel
theorem dX10_readProduct_11 : decode cX10_readProduct 11 = .ok (.aload_n 0, 1) := by decide +kernel
theorem dX10_readProduct_12 : decode cX10_readProduct 12 = .ok (.invokevirtual 113, 3) := by decide +kernel
theorem dX10_readProduct_15 : decode cX10_readProduct 15 = .ok (.bipush 42, 2) := by decide +kernel
theorem dX10_readProduct_17 : decode cX10_readProduct 17 = .ok (.if_icmp .eq 12, 3) := by decide +kernel
theorem dX10_readProduct_20 : decode cX10_readProduct 20 = .ok (.aload_n 0, 1) := by decide +kernel
theorem dX10_readProduct_21 : decode cX10_readProduct 21 = .ok (.invokevirtual 113, 3) := by decide +kernel
theorem dX10_readProduct_24 : decode cX10_readProduct 24 = .ok (.bipush 47, 2) := by decide +kernel
theorem dX10_readProduct_26 : decode cX10_readProduct 26 = .ok (.if_icmp .ne 41, 3) := by decide +kernel
theorem dX10_readProduct_29 : decode cX10_readProduct 29 = .ok (.aload_n 0, 1) := by decide +kernel
theorem dX10_readProduct_30 : decode cX10_readProduct 30 = .ok (.invokevirtual 113, 3) := by decide +kernel
theorem dX10_readProduct_33 : decode cX10_readProduct 33 = .ok (.bipush 42, 2) := by decide +kernel
theorem dX10_readProduct_35 : decode cX10_readProduct 35 = .ok (.if_icmp .ne 7, 3) := by decide +kernel
theorem dX10_readProduct_38 : decode cX10_readProduct 38 = .ok (.iconst 4, 1) := by decide +kernel
theorem dX10_readProduct_39 : decode cX10_readProduct 39 = .ok (.goto 4, 3) := by decide +kernel
theorem dX10_readProduct_42 : decode cX10_readProduct 42 = .ok (.iconst 5, 1) := by decide +kernel
theorem dX10_readProduct_43 : decode cX10_readProduct 43 = .ok (.istore_n 1, 1) := by decide +kernel
theorem dX10_readProduct_44 : decode cX10_readProduct 44 = .ok (.aload_n 0, 1) := by decide +kernel
theorem dX10_readProduct_45 : decode cX10_readProduct 45 = .ok (.dup, 1) := by decide +kernel
theorem dX10_readProduct_46 : decode cX10_readProduct 46 = .ok (.getfield 107, 3) := by decide +kernel
theorem dX10_readProduct_49 : decode cX10_readProduct 49 = .ok (.iconst 1, 1) := by decide +kernel
theorem dX10_readProduct_50 : decode cX10_readProduct 50 = .ok (.iadd, 1) := by decide +kernel
theorem dX10_readProduct_51 : decode cX10_readProduct 51 = .ok (.putfield 107, 3) := by decide +kernel
theorem dX10_readProduct_54 : decode cX10_readProduct 54 = .ok (.aload_n 0, 1) := by decide +kernel
theorem dX10_readProduct_55 : decode cX10_readProduct 55 = .ok (.invokevirtual 250, 3) := by decide +kernel
theorem dX10_readProduct_58 : decode cX10_readProduct 58 = .ok (.aload_n 0, 1) := by decide +kernel
theorem dX10_readProduct_59 : decode cX10_readProduct 59 = .ok (.iload_n 1, 1) := by decide +kernel
theorem dX10_readProduct_60 : decode cX10_readProduct 60 = .ok (.iconst 0, 1) := by decide +kernel
theorem dX10_readProduct_61 : decode cX10_readProduct 61 = .ok (.invokevirtual 247, 3) := by decide +kernel
theorem dX10_readProduct_64 : decode cX10_readProduct 64 = .ok (.goto (-60), 3) := by decide +kernel
theorem dX10_readProduct_67 : decode cX10_readProduct 67 = .ok (.return_, 1) := by decide +kernel
theorem dX10_readRow_0 : decode cX10_readRow 0 = .ok (.iload_n 1, 1) := by decide +kernel
theorem dX10_readRow_1 : decode cX10_readRow 1 = .ok (.ldc 185, 2) := by decide +kernel
theorem dX10_readRow_3 : decode cX10_readRow 3 = .ok (.invokestatic 187, 3) := by decide +kernel
theorem dX10_readRow_6 : decode cX10_readRow 6 = .ok (.if_icmp .ne 13, 3) := by decide +kernel
theorem dX10_readRow_9 : decode cX10_readRow 9 = .ok (.aload_n 0, 1) := by decide +kernel
theorem dX10_readRow_10 : decode cX10_readRow 10 = .ok (.iconst 4, 1) := by decide +kernel
theorem dX10_readRow_11 : decode cX10_readRow 11 = .ok (.bipush 9, 2) := by decide +kernel
theorem dX10_readRow_13 : decode cX10_readRow 13 = .ok (.invokevirtual 191, 3) := by decide +kernel
theorem dX10_readRow_16 : decode cX10_readRow 16 = .ok (.goto 152, 3) := by decide +kernel
theorem dX10_readRow_19 : decode cX10_readRow 19 = .ok (.iload_n 1, 1) := by decide +kernel
theorem dX10_readRow_20 : decode cX10_readRow 20 = .ok (.ldc 194, 2) := by decide +kernel
theorem dX10_readRow_22 : decode cX10_readRow 22 = .ok (.invokestatic 187, 3) := by decide +kernel
theorem dX10_readRow_25 : decode cX10_readRow 25 = .ok (.if_icmp .ne 13, 3) := by decide +kernel
theorem dX10_readRow_28 : decode cX10_readRow 28 = .ok (.aload_n 0, 1) := by decide +kernel
theorem dX10_readRow_29 : decode cX10_readRow 29 = .ok (.iconst 5, 1) := by decide +kernel
theorem dX10_readRow_30 : decode cX10_readRow 30 = .ok (.bipush 9, 2) := by decide +kernel
theorem dX10_readRow_32 : decode cX10_readRow 32 = .ok (.invokevirtual 191, 3) := by decide +kernel
theorem dX10_readRow_35 : decode cX10_readRow 35 = .ok (.goto 133, 3) := by decide +kernel
theorem dX10_readRow_38 : decode cX10_readRow 38 = .ok (.iload_n 1, 1) := by decide +kernel
theorem dX10_readRow_39 : decode cX10_readRow 39 = .ok (.ldc 196, 2) := by decide +kernel
theorem dX10_readRow_41 : decode cX10_readRow 41 = .ok (.invokestatic 187, 3) := by decide +kernel
theorem dX10_readRow_44 : decode cX10_readRow 44 = .ok (.if_icmp .ne 14, 3) := by decide +kernel
theorem dX10_readRow_47 : decode cX10_readRow 47 = .ok (.aload_n 0, 1) := by decide +kernel
theorem dX10_readRow_48 : decode cX10_readRow 48 = .ok (.bipush 6, 2) := by decide +kernel
theorem dX10_readRow_50 : decode cX10_readRow 50 = .ok (.bipush 20, 2) := by decide +kernel
theorem dX10_readRow_52 : decode cX10_readRow 52 = .ok (.invokevirtual 191, 3) := by decide +kernel
theorem dX10_readRow_55 : decode cX10_readRow 55 = .ok (.goto 113, 3) := by decide +kernel
theorem dX10_readRow_58 : decode cX10_readRow 58 = .ok (.iload_n 1, 1) := by decide +kernel
theorem dX10_readRow_59 : decode cX10_readRow 59 = .ok (.ldc 198, 2) := by decide +kernel
theorem dX10_readRow_61 : decode cX10_readRow 61 = .ok (.invokestatic 187, 3) := by decide +kernel
theorem dX10_readRow_64 : decode cX10_readRow 64 = .ok (.if_icmp .ne 15, 3) := by decide +kernel
theorem dX10_readRow_67 : decode cX10_readRow 67 = .ok (.aload_n 0, 1) := by decide +kernel
theorem dX10_readRow_68 : decode cX10_readRow 68 = .ok (.bipush 7, 2) := by decide +kernel
theorem dX10_readRow_70 : decode cX10_readRow 70 = .ok (.sipush 240, 3) := by decide +kernel
theorem dX10_readRow_73 : decode cX10_readRow 73 = .ok (.invokevirtual 191, 3) := by decide +kernel
theorem dX10_readRow_76 : decode cX10_readRow 76 = .ok (.goto 92, 3) := by decide +kernel
theorem dX10_readRow_79 : decode cX10_readRow 79 = .ok (.iload_n 1, 1) := by decide +kernel
theorem dX10_readRow_80 : decode cX10_readRow 80 = .ok (.ldc 200, 2) := by decide +kernel
theorem dX10_readRow_82 : decode cX10_readRow 82 = .ok (.invokestatic 187, 3) := by decide +kernel
theorem dX10_readRow_85 : decode cX10_readRow 85 = .ok (.if_icmp .ne 17, 3) := by decide +kernel
theorem dX10_readRow_88 : decode cX10_readRow 88 = .ok (.aload_n 0, 1) := by decide +kernel
theorem dX10_readRow_89 : decode cX10_readRow 89 = .ok (.aload_n 0, 1) := by decide +kernel
theorem dX10_readRow_90 : decode cX10_readRow 90 = .ok (.iconst 0, 1) := by decide +kernel
theorem dX10_readRow_91 : decode cX10_readRow 91 = .ok (.bipush 40, 2) := by decide +kernel
theorem dX10_readRow_93 : decode cX10_readRow 93 = .ok (.invokevirtual 181, 3) := by decide +kernel
theorem dX10_readRow_96 : decode cX10_readRow 96 = .ok (.putfield 150, 3) := by decide +kernel
theorem dX10_readRow_99 : decode cX10_readRow 99 = .ok (.goto 69, 3) := by decide +kernel
theorem dX10_readRow_102 : decode cX10_readRow 102 = .ok (.iload_n 1, 1) := by decide +kernel
theorem dX10_readRow_103 : decode cX10_readRow 103 = .ok (.ldc 201, 2) := by decide +kernel
theorem dX10_readRow_105 : decode cX10_readRow 105 = .ok (.invokestatic 187, 3) := by decide +kernel
theorem dX10_readRow_108 : decode cX10_readRow 108 = .ok (.if_icmp .ne 17, 3) := by decide +kernel
theorem dX10_readRow_111 : decode cX10_readRow 111 = .ok (.aload_n 0, 1) := by decide +kernel
theorem dX10_readRow_112 : decode cX10_readRow 112 = .ok (.aload_n 0, 1) := by decide +kernel
theorem dX10_readRow_113 : decode cX10_readRow 113 = .ok (.iconst 1, 1) := by decide +kernel
theorem dX10_readRow_114 : decode cX10_readRow 114 = .ok (.bipush 60, 2) := by decide +kernel
theorem dX10_readRow_116 : decode cX10_readRow 116 = .ok (.invokevirtual 181, 3) := by decide +kernel
theorem dX10_readRow_119 : decode cX10_readRow 119 = .ok (.putfield 153, 3) := by decide +kernel
theorem dX10_readRow_122 : decode cX10_readRow 122 = .ok (.goto 46, 3) := by decide +kernel
theorem dX10_readRow_125 : decode cX10_readRow 125 = .ok (.aload_n 0, 1) := by decide +kernel
theorem dX10_readRow_126 : decode cX10_readRow 126 = .ok (.iconst 0, 1) := by decide +kernel
theorem dX10_readRow_127 : decode cX10_readRow 127 = .ok (.bipush 59, 2) := by decide +kernel
theorem dX10_readRow_129 : decode cX10_readRow 129 = .ok (.invokevirtual 181, 3) := by decide +kernel
theorem dX10_readRow_132 : decode cX10_readRow 132 = .ok (.istore_n 2, 1) := by decide +kernel
theorem dX10_readRow_133 : decode cX10_readRow 133 = .ok (.aload_n 0, 1) := by decide +kernel
theorem dX10_readRow_134 : decode cX10_readRow 134 = .ok (.iconst 0, 1) := by decide +kernel
theorem dX10_readRow_135 : decode cX10_readRow 135 = .ok (.bipush 40, 2) := by decide +kernel
theorem dX10_readRow_137 : decode cX10_readRow 137 = .ok (.invokevirtual 181, 3) := by decide +kernel
theorem dX10_readRow_140 : decode cX10_readRow 140 = .ok (.istore_n 3, 1) := by decide +kernel
theorem dX10_readRow_141 : decode cX10_readRow 141 = .ok (.aload_n 0, 1) := by decide +kernel
theorem dX10_readRow_142 : decode cX10_readRow 142 = .ok (.invokevirtual 130, 3) := by decide +kernel
theorem dX10_readRow_145 : decode cX10_readRow 145 = .ok (.ifCond .eq 13, 3) := by decide +kernel
theorem dX10_readRow_148 : decode cX10_readRow 148 = .ok (.aload_n 0, 1) := by decide +kernel
theorem dX10_readRow_149 : decode cX10_readRow 149 = .ok (.getfield 26, 3) := by decide +kernel
theorem dX10_readRow_152 : decode cX10_readRow 152 = .ok (.iload_n 2, 1) := by decide +kernel
theorem dX10_readRow_153 : decode cX10_readRow 153 = .ok (.dup2, 1) := by decide +kernel
theorem dX10_readRow_154 : decode cX10_readRow 154 = .ok (.iaload, 1) := by decide +kernel
theorem dX10_readRow_155 : decode cX10_readRow 155 = .ok (.iload_n 3, 1) := by decide +kernel
theorem dX10_readRow_156 : decode cX10_readRow 156 = .ok (.iadd, 1) := by decide +kernel
theorem dX10_readRow_157 : decode cX10_readRow 157 = .ok (.iastore, 1) := by decide +kernel
theorem dX10_readRow_158 : decode cX10_readRow 158 = .ok (.aload_n 0, 1) := by decide +kernel
theorem dX10_readRow_159 : decode cX10_readRow 159 = .ok (.dup, 1) := by decide +kernel
theorem dX10_readRow_160 : decode cX10_readRow 160 = .ok (.getfield 147, 3) := by decide +kernel
theorem dX10_readRow_163 : decode cX10_readRow 163 = .ok (.iconst 1, 1) := by decide +kernel
theorem dX10_readRow_164 : decode cX10_readRow 164 = .ok (.iadd, 1) := by decide +kernel
theorem dX10_readRow_165 : decode cX10_readRow 165 = .ok (.putfield 147, 3) := by decide +kernel
theorem dX10_readRow_168 : decode cX10_readRow 168 = .ok (.return_, 1) := by decide +kernel
theorem dX10_readSleeper_0 : decode cX10_readSleeper 0 = .ok (.bipush 8, 2) := by decide +kernel
theorem dX10_readSleeper_2 : decode cX10_readSleeper 2 = .ok (.aload_n 0, 1) := by decide +kernel
theorem dX10_readSleeper_3 : decode cX10_readSleeper 3 = .ok (.getfield 144, 3) := by decide +kernel
theorem dX10_readSleeper_6 : decode cX10_readSleeper 6 = .ok (.imul, 1) := by decide +kernel
theorem dX10_readSleeper_7 : decode cX10_readSleeper 7 = .ok (.istore_n 1, 1) := by decide +kernel
theorem dX10_readSleeper_8 : decode cX10_readSleeper 8 = .ok (.aload_n 0, 1) := by decide +kernel
theorem dX10_readSleeper_9 : decode cX10_readSleeper 9 = .ok (.getfield 23, 3) := by decide +kernel
theorem dX10_readSleeper_12 : decode cX10_readSleeper 12 = .ok (.iload_n 1, 1) := by decide +kernel
theorem dX10_readSleeper_13 : decode cX10_readSleeper 13 = .ok (.iconst 0, 1) := by decide +kernel
theorem dX10_readSleeper_14 : decode cX10_readSleeper 14 = .ok (.iadd, 1) := by decide +kernel
theorem dX10_readSleeper_15 : decode cX10_readSleeper 15 = .ok (.aload_n 0, 1) := by decide +kernel
theorem dX10_readSleeper_16 : decode cX10_readSleeper 16 = .ok (.iconst 0, 1) := by decide +kernel
theorem dX10_readSleeper_17 : decode cX10_readSleeper 17 = .ok (.bipush 60, 2) := by decide +kernel
theorem dX10_readSleeper_19 : decode cX10_readSleeper 19 = .ok (.invokevirtual 181, 3) := by decide +kernel
theorem dX10_readSleeper_22 : decode cX10_readSleeper 22 = .ok (.iastore, 1) := by decide +kernel
theorem dX10_readSleeper_23 : decode cX10_readSleeper 23 = .ok (.aload_n 0, 1) := by decide +kernel
theorem dX10_readSleeper_24 : decode cX10_readSleeper 24 = .ok (.getfield 23, 3) := by decide +kernel
theorem dX10_readSleeper_27 : decode cX10_readSleeper 27 = .ok (.iload_n 1, 1) := by decide +kernel
theorem dX10_readSleeper_28 : decode cX10_readSleeper 28 = .ok (.iconst 1, 1) := by decide +kernel
theorem dX10_readSleeper_29 : decode cX10_readSleeper 29 = .ok (.iadd, 1) := by decide +kernel
theorem dX10_readSleeper_30 : decode cX10_readSleeper 30 = .ok (.aload_n 0, 1) := by decide +kernel
theorem dX10_readSleeper_31 : decode cX10_readSleeper 31 = .ok (.iconst 0, 1) := by decide +kernel
theorem dX10_readSleeper_32 : decode cX10_readSleeper 32 = .ok (.bipush 20, 2) := by decide +kernel
theorem dX10_readSleeper_34 : decode cX10_readSleeper 34 = .ok (.invokevirtual 181, 3) := by decide +kernel
theorem dX10_readSleeper_37 : decode cX10_readSleeper 37 = .ok (.iastore, 1) := by decide +kernel
theorem dX10_readSleeper_38 : decode cX10_readSleeper 38 = .ok (.aload_n 0, 1) := by decide +kernel
theorem dX10_readSleeper_39 : decode cX10_readSleeper 39 = .ok (.getfield 23, 3) := by decide +kernel
theorem dX10_readSleeper_42 : decode cX10_readSleeper 42 = .ok (.iload_n 1, 1) := by decide +kernel
theorem dX10_readSleeper_43 : decode cX10_readSleeper 43 = .ok (.iconst 2, 1) := by decide +kernel
theorem dX10_readSleeper_44 : decode cX10_readSleeper 44 = .ok (.iadd, 1) := by decide +kernel
theorem dX10_readSleeper_45 : decode cX10_readSleeper 45 = .ok (.aload_n 0, 1) := by decide +kernel
theorem dX10_readSleeper_46 : decode cX10_readSleeper 46 = .ok (.iconst 0, 1) := by decide +kernel
theorem dX10_readSleeper_47 : decode cX10_readSleeper 47 = .ok (.bipush 9, 2) := by decide +kernel
theorem dX10_readSleeper_49 : decode cX10_readSleeper 49 = .ok (.invokevirtual 181, 3) := by decide +kernel
theorem dX10_readSleeper_52 : decode cX10_readSleeper 52 = .ok (.iastore, 1) := by decide +kernel
theorem dX10_readSleeper_53 : decode cX10_readSleeper 53 = .ok (.aload_n 0, 1) := by decide +kernel
theorem dX10_readSleeper_54 : decode cX10_readSleeper 54 = .ok (.getfield 23, 3) := by decide +kernel
theorem dX10_readSleeper_57 : decode cX10_readSleeper 57 = .ok (.iload_n 1, 1) := by decide +kernel
theorem dX10_readSleeper_58 : decode cX10_readSleeper 58 = .ok (.iconst 3, 1) := by decide +kernel
theorem dX10_readSleeper_59 : decode cX10_readSleeper 59 = .ok (.iadd, 1) := by decide +kernel
theorem dX10_readSleeper_60 : decode cX10_readSleeper 60 = .ok (.aload_n 0, 1) := by decide +kernel
theorem dX10_readSleeper_61 : decode cX10_readSleeper 61 = .ok (.iconst 0, 1) := by decide +kernel
theorem dX10_readSleeper_62 : decode cX10_readSleeper 62 = .ok (.iconst 1, 1) := by decide +kernel
theorem dX10_readSleeper_63 : decode cX10_readSleeper 63 = .ok (.invokevirtual 181, 3) := by decide +kernel
theorem dX10_readSleeper_66 : decode cX10_readSleeper 66 = .ok (.iastore, 1) := by decide +kernel
theorem dX10_readSleeper_67 : decode cX10_readSleeper 67 = .ok (.iconst 4, 1) := by decide +kernel
theorem dX10_readSleeper_68 : decode cX10_readSleeper 68 = .ok (.istore_n 2, 1) := by decide +kernel
theorem dX10_readSleeper_69 : decode cX10_readSleeper 69 = .ok (.iload_n 2, 1) := by decide +kernel
theorem dX10_readSleeper_70 : decode cX10_readSleeper 70 = .ok (.bipush 7, 2) := by decide +kernel
theorem dX10_readSleeper_72 : decode cX10_readSleeper 72 = .ok (.if_icmp .gt 18, 3) := by decide +kernel
theorem dX10_readSleeper_75 : decode cX10_readSleeper 75 = .ok (.aload_n 0, 1) := by decide +kernel
theorem dX10_readSleeper_76 : decode cX10_readSleeper 76 = .ok (.getfield 23, 3) := by decide +kernel
theorem dX10_readSleeper_79 : decode cX10_readSleeper 79 = .ok (.iload_n 1, 1) := by decide +kernel
theorem dX10_readSleeper_80 : decode cX10_readSleeper 80 = .ok (.iload_n 2, 1) := by decide +kernel
theorem dX10_readSleeper_81 : decode cX10_readSleeper 81 = .ok (.iadd, 1) := by decide +kernel
theorem dX10_readSleeper_82 : decode cX10_readSleeper 82 = .ok (.iconst 0, 1) := by decide +kernel
theorem dX10_readSleeper_83 : decode cX10_readSleeper 83 = .ok (.iastore, 1) := by decide +kernel
theorem dX10_readSleeper_84 : decode cX10_readSleeper 84 = .ok (.iinc 2 1, 3) := by decide +kernel
theorem dX10_readSleeper_87 : decode cX10_readSleeper 87 = .ok (.goto (-18), 3) := by decide +kernel
theorem dX10_readSleeper_90 : decode cX10_readSleeper 90 = .ok (.aload_n 0, 1) := by decide +kernel
theorem dX10_readSleeper_91 : decode cX10_readSleeper 91 = .ok (.dup, 1) := by decide +kernel
theorem dX10_readSleeper_92 : decode cX10_readSleeper 92 = .ok (.getfield 144, 3) := by decide +kernel
theorem dX10_readSleeper_95 : decode cX10_readSleeper 95 = .ok (.iconst 1, 1) := by decide +kernel
theorem dX10_readSleeper_96 : decode cX10_readSleeper 96 = .ok (.iadd, 1) := by decide +kernel
theorem dX10_readSleeper_97 : decode cX10_readSleeper 97 = .ok (.putfield 144, 3) := by decide +kernel
theorem dX10_readSleeper_100 : decode cX10_readSleeper 100 = .ok (.return_, 1) := by decide +kernel
theorem dX10_readStep_0 : decode cX10_readStep 0 = .ok (.aload_n 0, 1) := by decide +kernel
theorem dX10_readStep_1 : decode cX10_readStep 1 = .ok (.invokevirtual 219, 3) := by decide +kernel
theorem dX10_readStep_4 : decode cX10_readStep 4 = .ok (.istore_n 1, 1) := by decide +kernel
theorem dX10_readStep_5 : decode cX10_readStep 5 = .ok (.iload_n 1, 1) := by decide +kernel
theorem dX10_readStep_6 : decode cX10_readStep 6 = .ok (.ldc_w 296, 3) := by decide +kernel
theorem dX10_readStep_9 : decode cX10_readStep 9 = .ok (.invokestatic 187, 3) := by decide +kernel
theorem dX10_readStep_12 : decode cX10_readStep 12 = .ok (.if_icmp .ne 25, 3) := by decide +kernel
theorem dX10_readStep_15 : decode cX10_readStep 15 = .ok (.aload_n 0, 1) := by decide +kernel
theorem dX10_readStep_16 : decode cX10_readStep 16 = .ok (.invokevirtual 225, 3) := by decide +kernel
theorem dX10_readStep_19 : decode cX10_readStep 19 = .ok (.aload_n 0, 1) := by decide +kernel
theorem dX10_readStep_20 : decode cX10_readStep 20 = .ok (.invokevirtual 298, 3) := by decide +kernel
theorem dX10_readStep_23 : decode cX10_readStep 23 = .ok (.istore_n 2, 1) := by decide +kernel
theorem dX10_readStep_24 : decode cX10_readStep 24 = .ok (.aload_n 0, 1) := by decide +kernel
theorem dX10_readStep_25 : decode cX10_readStep 25 = .ok (.iconst 0, 1) := by decide +kernel
theorem dX10_readStep_26 : decode cX10_readStep 26 = .ok (.iload_n 2, 1) := by decide +kernel
theorem dX10_readStep_27 : decode cX10_readStep 27 = .ok (.aload_n 0, 1) := by decide +kernel
theorem dX10_readStep_28 : decode cX10_readStep 28 = .ok (.invokevirtual 298, 3) := by decide +kernel
theorem dX10_readStep_31 : decode cX10_readStep 31 = .ok (.invokevirtual 301, 3) := by decide +kernel
theorem dX10_readStep_34 : decode cX10_readStep 34 = .ok (.goto 248, 3) := by decide +kernel
theorem dX10_readStep_37 : decode cX10_readStep 37 = .ok (.iload_n 1, 1) := by decide +kernel
theorem dX10_readStep_38 : decode cX10_readStep 38 = .ok (.ldc_w 305, 3) := by decide +kernel
theorem dX10_readStep_41 : decode cX10_readStep 41 = .ok (.invokestatic 187, 3) := by decide +kernel
theorem dX10_readStep_44 : decode cX10_readStep 44 = .ok (.if_icmp .eq 23, 3) := by decide +kernel
theorem dX10_readStep_47 : decode cX10_readStep 47 = .ok (.iload_n 1, 1) := by decide +kernel
theorem dX10_readStep_48 : decode cX10_readStep 48 = .ok (.ldc_w 307, 3) := by decide +kernel
theorem dX10_readStep_51 : decode cX10_readStep 51 = .ok (.invokestatic 187, 3) := by decide +kernel
theorem dX10_readStep_54 : decode cX10_readStep 54 = .ok (.if_icmp .eq 13, 3) := by decide +kernel
theorem dX10_readStep_57 : decode cX10_readStep 57 = .ok (.iload_n 1, 1) := by decide +kernel
theorem dX10_readStep_58 : decode cX10_readStep 58 = .ok (.ldc_w 309, 3) := by decide +kernel
theorem dX10_readStep_61 : decode cX10_readStep 61 = .ok (.invokestatic 187, 3) := by decide +kernel
theorem dX10_readStep_64 : decode cX10_readStep 64 = .ok (.if_icmp .ne 48, 3) := by decide +kernel
theorem dX10_readStep_67 : decode cX10_readStep 67 = .ok (.aload_n 0, 1) := by decide +kernel
theorem dX10_readStep_68 : decode cX10_readStep 68 = .ok (.invokevirtual 225, 3) := by decide +kernel
theorem dX10_readStep_71 : decode cX10_readStep 71 = .ok (.aload_n 0, 1) := by decide +kernel
theorem dX10_readStep_72 : decode cX10_readStep 72 = .ok (.iload_n 1, 1) := by decide +kernel
theorem dX10_readStep_73 : decode cX10_readStep 73 = .ok (.ldc_w 305, 3) := by decide +kernel
theorem dX10_readStep_76 : decode cX10_readStep 76 = .ok (.invokestatic 187, 3) := by decide +kernel
theorem dX10_readStep_79 : decode cX10_readStep 79 = .ok (.if_icmp .ne 7, 3) := by decide +kernel
theorem dX10_readStep_82 : decode cX10_readStep 82 = .ok (.iconst 1, 1) := by decide +kernel
theorem dX10_readStep_83 : decode cX10_readStep 83 = .ok (.goto 18, 3) := by decide +kernel
theorem dX10_readStep_86 : decode cX10_readStep 86 = .ok (.iload_n 1, 1) := by decide +kernel
theorem dX10_readStep_87 : decode cX10_readStep 87 = .ok (.ldc_w 307, 3) := by decide +kernel
theorem dX10_readStep_90 : decode cX10_readStep 90 = .ok (.invokestatic 187, 3) := by decide +kernel
theorem dX10_readStep_93 : decode cX10_readStep 93 = .ok (.if_icmp .ne 7, 3) := by decide +kernel
theorem dX10_readStep_96 : decode cX10_readStep 96 = .ok (.iconst 2, 1) := by decide +kernel
theorem dX10_readStep_97 : decode cX10_readStep 97 = .ok (.goto 4, 3) := by decide +kernel
theorem dX10_readStep_100 : decode cX10_readStep 100 = .ok (.iconst 4, 1) := by decide +kernel
theorem dX10_readStep_101 : decode cX10_readStep 101 = .ok (.aload_n 0, 1) := by decide +kernel
theorem dX10_readStep_102 : decode cX10_readStep 102 = .ok (.invokevirtual 298, 3) := by decide +kernel
theorem dX10_readStep_105 : decode cX10_readStep 105 = .ok (.iconst 0, 1) := by decide +kernel
theorem dX10_readStep_106 : decode cX10_readStep 106 = .ok (.invokevirtual 301, 3) := by decide +kernel
theorem dX10_readStep_109 : decode cX10_readStep 109 = .ok (.goto 173, 3) := by decide +kernel
theorem dX10_readStep_112 : decode cX10_readStep 112 = .ok (.iload_n 1, 1) := by decide +kernel
theorem dX10_readStep_113 : decode cX10_readStep 113 = .ok (.ldc 196, 2) := by decide +kernel
theorem dX10_readStep_115 : decode cX10_readStep 115 = .ok (.invokestatic 187, 3) := by decide +kernel
theorem dX10_readStep_118 : decode cX10_readStep 118 = .ok (.if_icmp .ne 28, 3) := by decide +kernel
theorem dX10_readStep_121 : decode cX10_readStep 121 = .ok (.aload_n 0, 1) := by decide +kernel
theorem dX10_readStep_122 : decode cX10_readStep 122 = .ok (.invokevirtual 225, 3) := by decide +kernel
theorem dX10_readStep_125 : decode cX10_readStep 125 = .ok (.aload_n 0, 1) := by decide +kernel
theorem dX10_readStep_126 : decode cX10_readStep 126 = .ok (.invokevirtual 298, 3) := by decide +kernel
theorem dX10_readStep_129 : decode cX10_readStep 129 = .ok (.istore_n 2, 1) := by decide +kernel
theorem dX10_readStep_130 : decode cX10_readStep 130 = .ok (.aload_n 0, 1) := by decide +kernel
theorem dX10_readStep_131 : decode cX10_readStep 131 = .ok (.iconst 3, 1) := by decide +kernel
theorem dX10_readStep_132 : decode cX10_readStep 132 = .ok (.iload_n 2, 1) := by decide +kernel
theorem dX10_readStep_133 : decode cX10_readStep 133 = .ok (.aload_n 0, 1) := by decide +kernel
theorem dX10_readStep_134 : decode cX10_readStep 134 = .ok (.iconst 0, 1) := by decide +kernel
theorem dX10_readStep_135 : decode cX10_readStep 135 = .ok (.bipush 20, 2) := by decide +kernel
theorem dX10_readStep_137 : decode cX10_readStep 137 = .ok (.invokevirtual 181, 3) := by decide +kernel
theorem dX10_readStep_140 : decode cX10_readStep 140 = .ok (.invokevirtual 301, 3) := by decide +kernel
theorem dX10_readStep_143 : decode cX10_readStep 143 = .ok (.goto 139, 3) := by decide +kernel
theorem dX10_readStep_146 : decode cX10_readStep 146 = .ok (.iload_n 1, 1) := by decide +kernel
theorem dX10_readStep_147 : decode cX10_readStep 147 = .ok (.ldc_w 268, 3) := by decide +kernel
theorem dX10_readStep_150 : decode cX10_readStep 150 = .ok (.invokestatic 187, 3) := by decide +kernel
theorem dX10_readStep_153 : decode cX10_readStep 153 = .ok (.if_icmp .ne 17, 3) := by decide +kernel
theorem dX10_readStep_156 : decode cX10_readStep 156 = .ok (.aload_n 0, 1) := by decide +kernel
theorem dX10_readStep_157 : decode cX10_readStep 157 = .ok (.invokevirtual 225, 3) := by decide +kernel
theorem dX10_readStep_160 : decode cX10_readStep 160 = .ok (.aload_n 0, 1) := by decide +kernel
theorem dX10_readStep_161 : decode cX10_readStep 161 = .ok (.iconst 5, 1) := by decide +kernel
theorem dX10_readStep_162 : decode cX10_readStep 162 = .ok (.iconst 0, 1) := by decide +kernel
theorem dX10_readStep_163 : decode cX10_readStep 163 = .ok (.iconst 0, 1) := by decide +kernel
theorem dX10_readStep_164 : decode cX10_readStep 164 = .ok (.invokevirtual 301, 3) := by decide +kernel
theorem dX10_readStep_167 : decode cX10_readStep 167 = .ok (.goto 115, 3) := by decide +kernel
theorem dX10_readStep_170 : decode cX10_readStep 170 = .ok (.iload_n 1, 1) := by decide +kernel
theorem dX10_readStep_171 : decode cX10_readStep 171 = .ok (.ldc_w 311, 3) := by decide +kernel
theorem dX10_readStep_174 : decode cX10_readStep 174 = .ok (.invokestatic 187, 3) := by decide +kernel
theorem dX10_readStep_177 : decode cX10_readStep 177 = .ok (.if_icmp .ne 96, 3) := by decide +kernel
theorem dX10_readStep_180 : decode cX10_readStep 180 = .ok (.aload_n 0, 1) := by decide +kernel
theorem dX10_readStep_181 : decode cX10_readStep 181 = .ok (.iconst 5, 1) := by decide +kernel
theorem dX10_readStep_182 : decode cX10_readStep 182 = .ok (.invokevirtual 253, 3) := by decide +kernel
theorem dX10_readStep_185 : decode cX10_readStep 185 = .ok (.aload_n 0, 1) := by decide +kernel
theorem dX10_readStep_186 : decode cX10_readStep 186 = .ok (.iconst 0, 1) := by decide +kernel
theorem dX10_readStep_187 : decode cX10_readStep 187 = .ok (.bipush 60, 2) := by decide +kernel
theorem dX10_readStep_189 : decode cX10_readStep 189 = .ok (.invokevirtual 181, 3) := by decide +kernel
theorem dX10_readStep_192 : decode cX10_readStep 192 = .ok (.istore_n 2, 1) := by decide +kernel
theorem dX10_readStep_193 : decode cX10_readStep 193 = .ok (.aload_n 0, 1) := by decide +kernel
theorem dX10_readStep_194 : decode cX10_readStep 194 = .ok (.bipush 91, 2) := by decide +kernel
theorem dX10_readStep_196 : decode cX10_readStep 196 = .ok (.invokevirtual 234, 3) := by decide +kernel
theorem dX10_readStep_199 : decode cX10_readStep 199 = .ok (.aload_n 0, 1) := by decide +kernel
theorem dX10_readStep_200 : decode cX10_readStep 200 = .ok (.getfield 293, 3) := by decide +kernel
theorem dX10_readStep_203 : decode cX10_readStep 203 = .ok (.istore_n 3, 1) := by decide +kernel
theorem dX10_readStep_204 : decode cX10_readStep 204 = .ok (.aload_n 0, 1) := by decide +kernel
theorem dX10_readStep_205 : decode cX10_readStep 205 = .ok (.bipush 6, 2) := by decide +kernel
theorem dX10_readStep_207 : decode cX10_readStep 207 = .ok (.iload_n 2, 1) := by decide +kernel
theorem dX10_readStep_208 : decode cX10_readStep 208 = .ok (.iconst 0, 1) := by decide +kernel
theorem dX10_readStep_209 : decode cX10_readStep 209 = .ok (.invokevirtual 301, 3) := by decide +kernel
theorem dX10_readStep_212 : decode cX10_readStep 212 = .ok (.aload_n 0, 1) := by decide +kernel
theorem dX10_readStep_213 : decode cX10_readStep 213 = .ok (.invokevirtual 130, 3) := by decide +kernel
theorem dX10_readStep_216 : decode cX10_readStep 216 = .ok (.ifCond .eq 19, 3) := by decide +kernel
theorem dX10_readStep_219 : decode cX10_readStep 219 = .ok (.aload_n 0, 1) := by decide +kernel
theorem dX10_readStep_220 : decode cX10_readStep 220 = .ok (.invokevirtual 113, 3) := by decide +kernel
theorem dX10_readStep_223 : decode cX10_readStep 223 = .ok (.bipush 93, 2) := by decide +kernel
theorem dX10_readStep_225 : decode cX10_readStep 225 = .ok (.if_icmp .eq 10, 3) := by decide +kernel
theorem dX10_readStep_228 : decode cX10_readStep 228 = .ok (.aload_n 0, 1) := by decide +kernel
theorem dX10_readStep_229 : decode cX10_readStep 229 = .ok (.invokevirtual 313, 3) := by decide +kernel
theorem dX10_readStep_232 : decode cX10_readStep 232 = .ok (.goto (-20), 3) := by decide +kernel
theorem dX10_readStep_235 : decode cX10_readStep 235 = .ok (.aload_n 0, 1) := by decide +kernel
theorem dX10_readStep_236 : decode cX10_readStep 236 = .ok (.bipush 93, 2) := by decide +kernel
theorem dX10_readStep_238 : decode cX10_readStep 238 = .ok (.invokevirtual 234, 3) := by decide +kernel
theorem dX10_readStep_241 : decode cX10_readStep 241 = .ok (.aload_n 0, 1) := by decide +kernel
theorem dX10_readStep_242 : decode cX10_readStep 242 = .ok (.dup, 1) := by decide +kernel
theorem dX10_readStep_243 : decode cX10_readStep 243 = .ok (.getfield 141, 3) := by decide +kernel
theorem dX10_readStep_246 : decode cX10_readStep 246 = .ok (.iconst 1, 1) := by decide +kernel
theorem dX10_readStep_247 : decode cX10_readStep 247 = .ok (.isub, 1) := by decide +kernel
theorem dX10_readStep_248 : decode cX10_readStep 248 = .ok (.putfield 141, 3) := by decide +kernel
theorem dX10_readStep_251 : decode cX10_readStep 251 = .ok (.aload_n 0, 1) := by decide +kernel
theorem dX10_readStep_252 : decode cX10_readStep 252 = .ok (.invokevirtual 130, 3) := by decide +kernel
theorem dX10_readStep_255 : decode cX10_readStep 255 = .ok (.ifCond .eq 15, 3) := by decide +kernel
theorem dX10_readStep_258 : decode cX10_readStep 258 = .ok (.aload_n 0, 1) := by decide +kernel
theorem dX10_readStep_259 : decode cX10_readStep 259 = .ok (.getfield 56, 3) := by decide +kernel
theorem dX10_readStep_262 : decode cX10_readStep 262 = .ok (.iload_n 3, 1) := by decide +kernel
theorem dX10_readStep_263 : decode cX10_readStep 263 = .ok (.iconst 2, 1) := by decide +kernel
theorem dX10_readStep_264 : decode cX10_readStep 264 = .ok (.iadd, 1) := by decide +kernel
theorem dX10_readStep_265 : decode cX10_readStep 265 = .ok (.aload_n 0, 1) := by decide +kernel
theorem dX10_readStep_266 : decode cX10_readStep 266 = .ok (.getfield 293, 3) := by decide +kernel
theorem dX10_readStep_269 : decode cX10_readStep 269 = .ok (.iastore, 1) := by decide +kernel
theorem dX10_readStep_270 : decode cX10_readStep 270 = .ok (.goto 12, 3) := by decide +kernel
theorem dX10_readStep_273 : decode cX10_readStep 273 = .ok (.aload_n 0, 1) := by decide +kernel
theorem dX10_readStep_274 : decode cX10_readStep 274 = .ok (.iconst 1, 1) := by decide +kernel
theorem dX10_readStep_275 : decode cX10_readStep 275 = .ok (.aload_n 0, 1) := by decide +kernel
theorem dX10_readStep_276 : decode cX10_readStep 276 = .ok (.getfield 107, 3) := by decide +kernel
theorem dX10_readStep_279 : decode cX10_readStep 279 = .ok (.invokevirtual 137, 3) := by decide +kernel
theorem dX10_readStep_282 : decode cX10_readStep 282 = .ok (.aload_n 0, 1) := by decide +kernel
theorem dX10_readStep_283 : decode cX10_readStep 283 = .ok (.bipush 59, 2) := by decide +kernel
theorem dX10_readStep_285 : decode cX10_readStep 285 = .ok (.invokevirtual 234, 3) := by decide +kernel
theorem dX10_readStep_288 : decode cX10_readStep 288 = .ok (.return_, 1) := by decide +kernel
theorem dX10_readSum_0 : decode cX10_readSum 0 = .ok (.aload_n 0, 1) := by decide +kernel
theorem dX10_readSum_1 : decode cX10_readSum 1 = .ok (.invokevirtual 244, 3) := by decide +kernel
theorem dX10_readSum_4 : decode cX10_readSum 4 = .ok (.aload_n 0, 1) := by decide +kernel
theorem dX10_readSum_5 : decode cX10_readSum 5 = .ok (.invokevirtual 130, 3) := by decide +kernel
theorem dX10_readSum_8 : decode cX10_readSum 8 = .ok (.ifCond .eq 59, 3) := by decide +kernel
theorem dX10_readSum_11 : decode cX10_readSum 11 = .ok (.aload_n 0, 1) := by decide +kernel
theorem dX10_readSum_12 : decode cX10_readSum 12 = .ok (.invokevirtual 113, 3) := by decide +kernel
theorem dX10_readSum_15 : decode cX10_readSum 15 = .ok (.bipush 43, 2) := by decide +kernel
theorem dX10_readSum_17 : decode cX10_readSum 17 = .ok (.if_icmp .eq 12, 3) := by decide +kernel
theorem dX10_readSum_20 : decode cX10_readSum 20 = .ok (.aload_n 0, 1) := by decide +kernel
theorem dX10_readSum_21 : decode cX10_readSum 21 = .ok (.invokevirtual 113, 3) := by decide +kernel
theorem dX10_readSum_24 : decode cX10_readSum 24 = .ok (.bipush 45, 2) := by decide +kernel
theorem dX10_readSum_26 : decode cX10_readSum 26 = .ok (.if_icmp .ne 41, 3) := by decide +kernel
theorem dX10_readSum_29 : decode cX10_readSum 29 = .ok (.aload_n 0, 1) := by decide +kernel
theorem dX10_readSum_30 : decode cX10_readSum 30 = .ok (.invokevirtual 113, 3) := by decide +kernel
theorem dX10_readSum_33 : decode cX10_readSum 33 = .ok (.bipush 43, 2) := by decide +kernel
theorem dX10_readSum_35 : decode cX10_readSum 35 = .ok (.if_icmp .ne 7, 3) := by decide +kernel
theorem dX10_readSum_38 : decode cX10_readSum 38 = .ok (.iconst 2, 1) := by decide +kernel
theorem dX10_readSum_39 : decode cX10_readSum 39 = .ok (.goto 4, 3) := by decide +kernel
theorem dX10_readSum_42 : decode cX10_readSum 42 = .ok (.iconst 3, 1) := by decide +kernel
theorem dX10_readSum_43 : decode cX10_readSum 43 = .ok (.istore_n 1, 1) := by decide +kernel
theorem dX10_readSum_44 : decode cX10_readSum 44 = .ok (.aload_n 0, 1) := by decide +kernel
theorem dX10_readSum_45 : decode cX10_readSum 45 = .ok (.dup, 1) := by decide +kernel
theorem dX10_readSum_46 : decode cX10_readSum 46 = .ok (.getfield 107, 3) := by decide +kernel
theorem dX10_readSum_49 : decode cX10_readSum 49 = .ok (.iconst 1, 1) := by decide +kernel
theorem dX10_readSum_50 : decode cX10_readSum 50 = .ok (.iadd, 1) := by decide +kernel
theorem dX10_readSum_51 : decode cX10_readSum 51 = .ok (.putfield 107, 3) := by decide +kernel
theorem dX10_readSum_54 : decode cX10_readSum 54 = .ok (.aload_n 0, 1) := by decide +kernel
theorem dX10_readSum_55 : decode cX10_readSum 55 = .ok (.invokevirtual 244, 3) := by decide +kernel
theorem dX10_readSum_58 : decode cX10_readSum 58 = .ok (.aload_n 0, 1) := by decide +kernel
theorem dX10_readSum_59 : decode cX10_readSum 59 = .ok (.iload_n 1, 1) := by decide +kernel
theorem dX10_readSum_60 : decode cX10_readSum 60 = .ok (.iconst 0, 1) := by decide +kernel
theorem dX10_readSum_61 : decode cX10_readSum 61 = .ok (.invokevirtual 247, 3) := by decide +kernel
theorem dX10_readSum_64 : decode cX10_readSum 64 = .ok (.goto (-60), 3) := by decide +kernel
theorem dX10_readSum_67 : decode cX10_readSum 67 = .ok (.return_, 1) := by decide +kernel
theorem dX10_readTwo_0 : decode cX10_readTwo 0 = .ok (.aload_n 0, 1) := by decide +kernel
theorem dX10_readTwo_1 : decode cX10_readTwo 1 = .ok (.iload_n 1, 1) := by decide +kernel
theorem dX10_readTwo_2 : decode cX10_readTwo 2 = .ok (.invokevirtual 253, 3) := by decide +kernel
theorem dX10_readTwo_5 : decode cX10_readTwo 5 = .ok (.aload_n 0, 1) := by decide +kernel
theorem dX10_readTwo_6 : decode cX10_readTwo 6 = .ok (.bipush 91, 2) := by decide +kernel
theorem dX10_readTwo_8 : decode cX10_readTwo 8 = .ok (.invokevirtual 234, 3) := by decide +kernel
theorem dX10_readTwo_11 : decode cX10_readTwo 11 = .ok (.aload_n 0, 1) := by decide +kernel
theorem dX10_readTwo_12 : decode cX10_readTwo 12 = .ok (.invokevirtual 256, 3) := by decide +kernel
theorem dX10_readTwo_15 : decode cX10_readTwo 15 = .ok (.aload_n 0, 1) := by decide +kernel
theorem dX10_readTwo_16 : decode cX10_readTwo 16 = .ok (.bipush 44, 2) := by decide +kernel
theorem dX10_readTwo_18 : decode cX10_readTwo 18 = .ok (.invokevirtual 234, 3) := by decide +kernel
theorem dX10_readTwo_21 : decode cX10_readTwo 21 = .ok (.aload_n 0, 1) := by decide +kernel
theorem dX10_readTwo_22 : decode cX10_readTwo 22 = .ok (.invokevirtual 256, 3) := by decide +kernel
theorem dX10_readTwo_25 : decode cX10_readTwo 25 = .ok (.aload_n 0, 1) := by decide +kernel
theorem dX10_readTwo_26 : decode cX10_readTwo 26 = .ok (.bipush 93, 2) := by decide +kernel
theorem dX10_readTwo_28 : decode cX10_readTwo 28 = .ok (.invokevirtual 234, 3) := by decide +kernel
theorem dX10_readTwo_31 : decode cX10_readTwo 31 = .ok (.aload_n 0, 1) := by decide +kernel
theorem dX10_readTwo_32 : decode cX10_readTwo 32 = .ok (.dup, 1) := by decide +kernel
theorem dX10_readTwo_33 : decode cX10_readTwo 33 = .ok (.getfield 141, 3) := by decide +kernel
theorem dX10_readTwo_36 : decode cX10_readTwo 36 = .ok (.iconst 1, 1) := by decide +kernel
theorem dX10_readTwo_37 : decode cX10_readTwo 37 = .ok (.isub, 1) := by decide +kernel
theorem dX10_readTwo_38 : decode cX10_readTwo 38 = .ok (.putfield 141, 3) := by decide +kernel
theorem dX10_readTwo_41 : decode cX10_readTwo 41 = .ok (.aload_n 0, 1) := by decide +kernel
theorem dX10_readTwo_42 : decode cX10_readTwo 42 = .ok (.iload_n 2, 1) := by decide +kernel
theorem dX10_readTwo_43 : decode cX10_readTwo 43 = .ok (.iconst 0, 1) := by decide +kernel
theorem dX10_readTwo_44 : decode cX10_readTwo 44 = .ok (.invokevirtual 247, 3) := by decide +kernel
theorem dX10_readTwo_47 : decode cX10_readTwo 47 = .ok (.return_, 1) := by decide +kernel
theorem dX10_readUnit_0 : decode cX10_readUnit 0 = .ok (.aload_n 0, 1) := by decide +kernel
theorem dX10_readUnit_1 : decode cX10_readUnit 1 = .ok (.invokevirtual 130, 3) := by decide +kernel
theorem dX10_readUnit_4 : decode cX10_readUnit 4 = .ok (.ifCond .ne 4, 3) := by decide +kernel
theorem dX10_readUnit_7 : decode cX10_readUnit 7 = .ok (.return_, 1) := by decide +kernel
theorem dX10_readUnit_8 : decode cX10_readUnit 8 = .ok (.aload_n 0, 1) := by decide +kernel
theorem dX10_readUnit_9 : decode cX10_readUnit 9 = .ok (.invokevirtual 113, 3) := by decide +kernel
theorem dX10_readUnit_12 : decode cX10_readUnit 12 = .ok (.bipush 40, 2) := by decide +kernel
theorem dX10_readUnit_14 : decode cX10_readUnit 14 = .ok (.if_icmp .ne 31, 3) := by decide +kernel
theorem dX10_readUnit_17 : decode cX10_readUnit 17 = .ok (.aload_n 0, 1) := by decide +kernel
theorem dX10_readUnit_18 : decode cX10_readUnit 18 = .ok (.iconst 1, 1) := by decide +kernel
theorem dX10_readUnit_19 : decode cX10_readUnit 19 = .ok (.invokevirtual 253, 3) := by decide +kernel
theorem dX10_readUnit_22 : decode cX10_readUnit 22 = .ok (.aload_n 0, 1) := by decide +kernel
theorem dX10_readUnit_23 : decode cX10_readUnit 23 = .ok (.invokevirtual 256, 3) := by decide +kernel
theorem dX10_readUnit_26 : decode cX10_readUnit 26 = .ok (.aload_n 0, 1) := by decide +kernel
theorem dX10_readUnit_27 : decode cX10_readUnit 27 = .ok (.bipush 41, 2) := by decide +kernel
theorem dX10_readUnit_29 : decode cX10_readUnit 29 = .ok (.invokevirtual 234, 3) := by decide +kernel
theorem dX10_readUnit_32 : decode cX10_readUnit 32 = .ok (.aload_n 0, 1) := by decide +kernel
theorem dX10_readUnit_33 : decode cX10_readUnit 33 = .ok (.dup, 1) := by decide +kernel
theorem dX10_readUnit_34 : decode cX10_readUnit 34 = .ok (.getfield 141, 3) := by decide +kernel
theorem dX10_readUnit_37 : decode cX10_readUnit 37 = .ok (.iconst 1, 1) := by decide +kernel
theorem dX10_readUnit_38 : decode cX10_readUnit 38 = .ok (.isub, 1) := by decide +kernel
theorem dX10_readUnit_39 : decode cX10_readUnit 39 = .ok (.putfield 141, 3) := by decide +kernel
theorem dX10_readUnit_42 : decode cX10_readUnit 42 = .ok (.goto 112, 3) := by decide +kernel
theorem dX10_readUnit_45 : decode cX10_readUnit 45 = .ok (.aload_n 0, 1) := by decide +kernel
theorem dX10_readUnit_46 : decode cX10_readUnit 46 = .ok (.invokevirtual 113, 3) := by decide +kernel
theorem dX10_readUnit_49 : decode cX10_readUnit 49 = .ok (.invokestatic 134, 3) := by decide +kernel
theorem dX10_readUnit_52 : decode cX10_readUnit 52 = .ok (.ifCond .eq 19, 3) := by decide +kernel
theorem dX10_readUnit_55 : decode cX10_readUnit 55 = .ok (.aload_n 0, 1) := by decide +kernel
theorem dX10_readUnit_56 : decode cX10_readUnit 56 = .ok (.iconst 0, 1) := by decide +kernel
theorem dX10_readUnit_57 : decode cX10_readUnit 57 = .ok (.aload_n 0, 1) := by decide +kernel
theorem dX10_readUnit_58 : decode cX10_readUnit 58 = .ok (.iconst 0, 1) := by decide +kernel
theorem dX10_readUnit_59 : decode cX10_readUnit 59 = .ok (.sipush 999, 3) := by decide +kernel
theorem dX10_readUnit_62 : decode cX10_readUnit 62 = .ok (.invokevirtual 181, 3) := by decide +kernel
theorem dX10_readUnit_65 : decode cX10_readUnit 65 = .ok (.invokevirtual 247, 3) := by decide +kernel
theorem dX10_readUnit_68 : decode cX10_readUnit 68 = .ok (.goto 86, 3) := by decide +kernel
theorem dX10_readUnit_71 : decode cX10_readUnit 71 = .ok (.aload_n 0, 1) := by decide +kernel
theorem dX10_readUnit_72 : decode cX10_readUnit 72 = .ok (.invokevirtual 219, 3) := by decide +kernel
theorem dX10_readUnit_75 : decode cX10_readUnit 75 = .ok (.ldc_w 272, 3) := by decide +kernel
theorem dX10_readUnit_78 : decode cX10_readUnit 78 = .ok (.invokestatic 187, 3) := by decide +kernel
theorem dX10_readUnit_81 : decode cX10_readUnit 81 = .ok (.if_icmp .ne 13, 3) := by decide +kernel
theorem dX10_readUnit_84 : decode cX10_readUnit 84 = .ok (.aload_n 0, 1) := by decide +kernel
theorem dX10_readUnit_85 : decode cX10_readUnit 85 = .ok (.iconst 5, 1) := by decide +kernel
theorem dX10_readUnit_86 : decode cX10_readUnit 86 = .ok (.bipush 6, 2) := by decide +kernel
theorem dX10_readUnit_88 : decode cX10_readUnit 88 = .ok (.invokevirtual 274, 3) := by decide +kernel
theorem dX10_readUnit_91 : decode cX10_readUnit 91 = .ok (.goto 63, 3) := by decide +kernel
theorem dX10_readUnit_94 : decode cX10_readUnit 94 = .ok (.aload_n 0, 1) := by decide +kernel
theorem dX10_readUnit_95 : decode cX10_readUnit 95 = .ok (.invokevirtual 219, 3) := by decide +kernel
theorem dX10_readUnit_98 : decode cX10_readUnit 98 = .ok (.ldc_w 277, 3) := by decide +kernel
theorem dX10_readUnit_101 : decode cX10_readUnit 101 = .ok (.invokestatic 187, 3) := by decide +kernel
theorem dX10_readUnit_104 : decode cX10_readUnit 104 = .ok (.if_icmp .ne 13, 3) := by decide +kernel
theorem dX10_readUnit_107 : decode cX10_readUnit 107 = .ok (.aload_n 0, 1) := by decide +kernel
theorem dX10_readUnit_108 : decode cX10_readUnit 108 = .ok (.iconst 4, 1) := by decide +kernel
theorem dX10_readUnit_109 : decode cX10_readUnit 109 = .ok (.bipush 7, 2) := by decide +kernel
theorem dX10_readUnit_111 : decode cX10_readUnit 111 = .ok (.invokevirtual 274, 3) := by decide +kernel
theorem dX10_readUnit_114 : decode cX10_readUnit 114 = .ok (.goto 40, 3) := by decide +kernel
theorem dX10_readUnit_117 : decode cX10_readUnit 117 = .ok (.aload_n 0, 1) := by decide +kernel
theorem dX10_readUnit_118 : decode cX10_readUnit 118 = .ok (.invokevirtual 279, 3) := by decide +kernel
theorem dX10_readUnit_121 : decode cX10_readUnit 121 = .ok (.istore_n 1, 1) := by decide +kernel
theorem dX10_readUnit_122 : decode cX10_readUnit 122 = .ok (.iload_n 1, 1) := by decide +kernel
theorem dX10_readUnit_123 : decode cX10_readUnit 123 = .ok (.iconst (-1), 1) := by decide +kernel
theorem dX10_readUnit_124 : decode cX10_readUnit 124 = .ok (.if_icmp .ne 12, 3) := by decide +kernel
theorem dX10_readUnit_127 : decode cX10_readUnit 127 = .ok (.aload_n 0, 1) := by decide +kernel
theorem dX10_readUnit_128 : decode cX10_readUnit 128 = .ok (.iconst 1, 1) := by decide +kernel
theorem dX10_readUnit_129 : decode cX10_readUnit 129 = .ok (.aload_n 0, 1) := by decide +kernel
theorem dX10_readUnit_130 : decode cX10_readUnit 130 = .ok (.getfield 107, 3) := by decide +kernel
theorem dX10_readUnit_133 : decode cX10_readUnit 133 = .ok (.invokevirtual 137, 3) := by decide +kernel
theorem dX10_readUnit_136 : decode cX10_readUnit 136 = .ok (.aload_n 0, 1) := by decide +kernel
theorem dX10_readUnit_137 : decode cX10_readUnit 137 = .ok (.invokevirtual 130, 3) := by decide +kernel
theorem dX10_readUnit_140 : decode cX10_readUnit 140 = .ok (.ifCond .ne 4, 3) := by decide +kernel
theorem dX10_readUnit_143 : decode cX10_readUnit 143 = .ok (.return_, 1) := by decide +kernel
theorem dX10_readUnit_144 : decode cX10_readUnit 144 = .ok (.aload_n 0, 1) := by decide +kernel
theorem dX10_readUnit_145 : decode cX10_readUnit 145 = .ok (.invokevirtual 225, 3) := by decide +kernel
theorem dX10_readUnit_148 : decode cX10_readUnit 148 = .ok (.aload_n 0, 1) := by decide +kernel
theorem dX10_readUnit_149 : decode cX10_readUnit 149 = .ok (.iconst 1, 1) := by decide +kernel
theorem dX10_readUnit_150 : decode cX10_readUnit 150 = .ok (.iload_n 1, 1) := by decide +kernel
theorem dX10_readUnit_151 : decode cX10_readUnit 151 = .ok (.invokevirtual 247, 3) := by decide +kernel
theorem dX10_readUnit_154 : decode cX10_readUnit 154 = .ok (.return_, 1) := by decide +kernel
theorem dX10_reads_0 : decode cX10_reads 0 = .ok (.aload_n 0, 1) := by decide +kernel
theorem dX10_reads_1 : decode cX10_reads 1 = .ok (.iconst 0, 1) := by decide +kernel
theorem dX10_reads_2 : decode cX10_reads 2 = .ok (.putfield 3, 3) := by decide +kernel
theorem dX10_reads_5 : decode cX10_reads 5 = .ok (.aload_n 0, 1) := by decide +kernel
theorem dX10_reads_6 : decode cX10_reads 6 = .ok (.iload_n 1, 1) := by decide +kernel
theorem dX10_reads_7 : decode cX10_reads 7 = .ok (.iconst 1, 1) := by decide +kernel
theorem dX10_reads_8 : decode cX10_reads 8 = .ok (.invokevirtual 383, 3) := by decide +kernel
theorem dX10_reads_11 : decode cX10_reads 11 = .ok (.ifCond .eq 60, 3) := by decide +kernel
theorem dX10_reads_14 : decode cX10_reads 14 = .ok (.aload_n 0, 1) := by decide +kernel
theorem dX10_reads_15 : decode cX10_reads 15 = .ok (.iload_n 2, 1) := by decide +kernel
theorem dX10_reads_16 : decode cX10_reads 16 = .ok (.iconst 1, 1) := by decide +kernel
theorem dX10_reads_17 : decode cX10_reads 17 = .ok (.invokevirtual 383, 3) := by decide +kernel
theorem dX10_reads_20 : decode cX10_reads 20 = .ok (.ifCond .eq 51, 3) := by decide +kernel
theorem dX10_reads_23 : decode cX10_reads 23 = .ok (.aload_n 0, 1) := by decide +kernel
theorem dX10_reads_24 : decode cX10_reads 24 = .ok (.iload_n 1, 1) := by decide +kernel
theorem dX10_reads_25 : decode cX10_reads 25 = .ok (.iload_n 2, 1) := by decide +kernel
theorem dX10_reads_26 : decode cX10_reads 26 = .ok (.if_icmp .eq 36, 3) := by decide +kernel
theorem dX10_reads_29 : decode cX10_reads 29 = .ok (.iload_n 3, 1) := by decide +kernel
theorem dX10_reads_30 : decode cX10_reads 30 = .ok (.iconst 0, 1) := by decide +kernel
theorem dX10_reads_31 : decode cX10_reads 31 = .ok (.bipush 60, 2) := by decide +kernel
theorem dX10_reads_33 : decode cX10_reads 33 = .ok (.invokestatic 282, 3) := by decide +kernel
theorem dX10_reads_36 : decode cX10_reads 36 = .ok (.ifCond .eq 26, 3) := by decide +kernel
theorem dX10_reads_39 : decode cX10_reads 39 = .ok (.iload 4, 2) := by decide +kernel
theorem dX10_reads_41 : decode cX10_reads 41 = .ok (.iconst 0, 1) := by decide +kernel
theorem dX10_reads_42 : decode cX10_reads 42 = .ok (.bipush 60, 2) := by decide +kernel
theorem dX10_reads_44 : decode cX10_reads 44 = .ok (.invokestatic 282, 3) := by decide +kernel
theorem dX10_reads_47 : decode cX10_reads 47 = .ok (.ifCond .eq 15, 3) := by decide +kernel
theorem dX10_reads_50 : decode cX10_reads 50 = .ok (.iload 5, 2) := by decide +kernel
theorem dX10_reads_52 : decode cX10_reads 52 = .ok (.invokestatic 401, 3) := by decide +kernel
theorem dX10_reads_55 : decode cX10_reads 55 = .ok (.ifCond .eq 7, 3) := by decide +kernel
theorem dX10_reads_58 : decode cX10_reads 58 = .ok (.iconst 1, 1) := by decide +kernel
theorem dX10_reads_59 : decode cX10_reads 59 = .ok (.goto 4, 3) := by decide +kernel
theorem dX10_reads_62 : decode cX10_reads 62 = .ok (.iconst 0, 1) := by decide +kernel
theorem dX10_reads_63 : decode cX10_reads 63 = .ok (.iconst 2, 1) := by decide +kernel
theorem dX10_reads_64 : decode cX10_reads 64 = .ok (.iconst 1, 1) := by decide +kernel
theorem dX10_reads_65 : decode cX10_reads 65 = .ok (.invokevirtual 203, 3) := by decide +kernel
theorem dX10_reads_68 : decode cX10_reads 68 = .ok (.ifCond .ne 5, 3) := by decide +kernel
theorem dX10_reads_71 : decode cX10_reads 71 = .ok (.iconst 0, 1) := by decide +kernel
theorem dX10_reads_72 : decode cX10_reads 72 = .ok (.ireturn, 1) := by decide +kernel
theorem dX10_reads_73 : decode cX10_reads 73 = .ok (.aload_n 0, 1) := by decide +kernel
theorem dX10_reads_74 : decode cX10_reads 74 = .ok (.iload_n 1, 1) := by decide +kernel
theorem dX10_reads_75 : decode cX10_reads 75 = .ok (.iload_n 2, 1) := by decide +kernel
theorem dX10_reads_76 : decode cX10_reads 76 = .ok (.iload_n 3, 1) := by decide +kernel
theorem dX10_reads_77 : decode cX10_reads 77 = .ok (.iload 4, 2) := by decide +kernel
theorem dX10_reads_79 : decode cX10_reads 79 = .ok (.iload 5, 2) := by decide +kernel
theorem dX10_reads_81 : decode cX10_reads 81 = .ok (.invokevirtual 404, 3) := by decide +kernel
theorem dX10_reads_84 : decode cX10_reads 84 = .ok (.aload_n 0, 1) := by decide +kernel
theorem dX10_reads_85 : decode cX10_reads 85 = .ok (.getfield 65, 3) := by decide +kernel
theorem dX10_reads_88 : decode cX10_reads 88 = .ok (.bipush 30, 2) := by decide +kernel
theorem dX10_reads_90 : decode cX10_reads 90 = .ok (.iload_n 1, 1) := by decide +kernel
theorem dX10_reads_91 : decode cX10_reads 91 = .ok (.iadd, 1) := by decide +kernel
theorem dX10_reads_92 : decode cX10_reads 92 = .ok (.iaload, 1) := by decide +kernel
theorem dX10_reads_93 : decode cX10_reads 93 = .ok (.aload_n 0, 1) := by decide +kernel
theorem dX10_reads_94 : decode cX10_reads 94 = .ok (.getfield 62, 3) := by decide +kernel
theorem dX10_reads_97 : decode cX10_reads 97 = .ok (.bipush 30, 2) := by decide +kernel
theorem dX10_reads_99 : decode cX10_reads 99 = .ok (.iload_n 1, 1) := by decide +kernel
theorem dX10_reads_100 : decode cX10_reads 100 = .ok (.iadd, 1) := by decide +kernel
theorem dX10_reads_101 : decode cX10_reads 101 = .ok (.iaload, 1) := by decide +kernel
theorem dX10_reads_102 : decode cX10_reads 102 = .ok (.isub, 1) := by decide +kernel
theorem dX10_reads_103 : decode cX10_reads 103 = .ok (.ireturn, 1) := by decide +kernel
theorem dX10_readsFor_0 : decode cX10_readsFor 0 = .ok (.aload_n 0, 1) := by decide +kernel
theorem dX10_readsFor_1 : decode cX10_readsFor 1 = .ok (.invokevirtual 316, 3) := by decide +kernel
theorem dX10_readsFor_4 : decode cX10_readsFor 4 = .ok (.aload_n 0, 1) := by decide +kernel
theorem dX10_readsFor_5 : decode cX10_readsFor 5 = .ok (.getfield 74, 3) := by decide +kernel
theorem dX10_readsFor_8 : decode cX10_readsFor 8 = .ok (.iload_n 1, 1) := by decide +kernel
theorem dX10_readsFor_9 : decode cX10_readsFor 9 = .ok (.iload_n 3, 1) := by decide +kernel
theorem dX10_readsFor_10 : decode cX10_readsFor 10 = .ok (.iastore, 1) := by decide +kernel
theorem dX10_readsFor_11 : decode cX10_readsFor 11 = .ok (.aload_n 0, 1) := by decide +kernel
theorem dX10_readsFor_12 : decode cX10_readsFor 12 = .ok (.getfield 74, 3) := by decide +kernel
theorem dX10_readsFor_15 : decode cX10_readsFor 15 = .ok (.iload_n 2, 1) := by decide +kernel
theorem dX10_readsFor_16 : decode cX10_readsFor 16 = .ok (.iload 4, 2) := by decide +kernel
theorem dX10_readsFor_18 : decode cX10_readsFor 18 = .ok (.iastore, 1) := by decide +kernel
theorem dX10_readsFor_19 : decode cX10_readsFor 19 = .ok (.aload_n 0, 1) := by decide +kernel
theorem dX10_readsFor_20 : decode cX10_readsFor 20 = .ok (.iload 5, 2) := by decide +kernel
theorem dX10_readsFor_22 : decode cX10_readsFor 22 = .ok (.invokevirtual 389, 3) := by decide +kernel
theorem dX10_readsFor_25 : decode cX10_readsFor 25 = .ok (.pop, 1) := by decide +kernel
theorem dX10_readsFor_26 : decode cX10_readsFor 26 = .ok (.return_, 1) := by decide +kernel
theorem dX10_restore_0 : decode cX10_restore 0 = .ok (.aload_n 0, 1) := by decide +kernel
theorem dX10_restore_1 : decode cX10_restore 1 = .ok (.iconst 0, 1) := by decide +kernel
theorem dX10_restore_2 : decode cX10_restore 2 = .ok (.putfield 3, 3) := by decide +kernel
theorem dX10_restore_5 : decode cX10_restore 5 = .ok (.aload_n 0, 1) := by decide +kernel
theorem dX10_restore_6 : decode cX10_restore 6 = .ok (.getfield 175, 3) := by decide +kernel
theorem dX10_restore_9 : decode cX10_restore 9 = .ok (.ifCond .ne 5, 3) := by decide +kernel
theorem dX10_restore_12 : decode cX10_restore 12 = .ok (.iconst (-1), 1) := by decide +kernel
theorem dX10_restore_13 : decode cX10_restore 13 = .ok (.ireturn, 1) := by decide +kernel
theorem dX10_restore_14 : decode cX10_restore 14 = .ok (.aload_n 0, 1) := by decide +kernel
theorem dX10_restore_15 : decode cX10_restore 15 = .ok (.dup, 1) := by decide +kernel
theorem dX10_restore_16 : decode cX10_restore 16 = .ok (.getfield 175, 3) := by decide +kernel
theorem dX10_restore_19 : decode cX10_restore 19 = .ok (.iconst 1, 1) := by decide +kernel
theorem dX10_restore_20 : decode cX10_restore 20 = .ok (.isub, 1) := by decide +kernel
theorem dX10_restore_21 : decode cX10_restore 21 = .ok (.putfield 175, 3) := by decide +kernel
theorem dX10_restore_24 : decode cX10_restore 24 = .ok (.aload_n 0, 1) := by decide +kernel
theorem dX10_restore_25 : decode cX10_restore 25 = .ok (.aload_n 0, 1) := by decide +kernel
theorem dX10_restore_26 : decode cX10_restore 26 = .ok (.getfield 175, 3) := by decide +kernel
theorem dX10_restore_29 : decode cX10_restore 29 = .ok (.iconst 0, 1) := by decide +kernel
theorem dX10_restore_30 : decode cX10_restore 30 = .ok (.invokevirtual 469, 3) := by decide +kernel
theorem dX10_restore_33 : decode cX10_restore 33 = .ok (.aload_n 0, 1) := by decide +kernel
theorem dX10_restore_34 : decode cX10_restore 34 = .ok (.iconst 0, 1) := by decide +kernel
theorem dX10_restore_35 : decode cX10_restore 35 = .ok (.putfield 178, 3) := by decide +kernel
theorem dX10_restore_38 : decode cX10_restore 38 = .ok (.aload_n 0, 1) := by decide +kernel
theorem dX10_restore_39 : decode cX10_restore 39 = .ok (.getfield 175, 3) := by decide +kernel
theorem dX10_restore_42 : decode cX10_restore 42 = .ok (.ireturn, 1) := by decide +kernel
theorem dX10_result_0 : decode cX10_result 0 = .ok (.aload_n 0, 1) := by decide +kernel
theorem dX10_result_1 : decode cX10_result 1 = .ok (.aload_n 0, 1) := by decide +kernel
theorem dX10_result_2 : decode cX10_result 2 = .ok (.getfield 101, 3) := by decide +kernel
theorem dX10_result_5 : decode cX10_result 5 = .ok (.putfield 17, 3) := by decide +kernel
theorem dX10_result_8 : decode cX10_result 8 = .ok (.aload_n 0, 1) := by decide +kernel
theorem dX10_result_9 : decode cX10_result 9 = .ok (.invokevirtual 130, 3) := by decide +kernel
theorem dX10_result_12 : decode cX10_result 12 = .ok (.ifCond .eq 7, 3) := by decide +kernel
theorem dX10_result_15 : decode cX10_result 15 = .ok (.iload_n 1, 1) := by decide +kernel
theorem dX10_result_16 : decode cX10_result 16 = .ok (.goto 10, 3) := by decide +kernel
theorem dX10_result_19 : decode cX10_result 19 = .ok (.aload_n 0, 1) := by decide +kernel
theorem dX10_result_20 : decode cX10_result 20 = .ok (.getfield 104, 3) := by decide +kernel
theorem dX10_result_23 : decode cX10_result 23 = .ok (.bipush 10, 2) := by decide +kernel
theorem dX10_result_25 : decode cX10_result 25 = .ok (.isub, 1) := by decide +kernel
theorem dX10_result_26 : decode cX10_result 26 = .ok (.ireturn, 1) := by decide +kernel
theorem dX10_rooms_0 : decode cX10_rooms 0 = .ok (.aload_n 0, 1) := by decide +kernel
theorem dX10_rooms_1 : decode cX10_rooms 1 = .ok (.iconst 0, 1) := by decide +kernel
theorem dX10_rooms_2 : decode cX10_rooms 2 = .ok (.putfield 3, 3) := by decide +kernel
theorem dX10_rooms_5 : decode cX10_rooms 5 = .ok (.aload_n 0, 1) := by decide +kernel
theorem dX10_rooms_6 : decode cX10_rooms 6 = .ok (.iload_n 1, 1) := by decide +kernel
theorem dX10_rooms_7 : decode cX10_rooms 7 = .ok (.invokestatic 401, 3) := by decide +kernel
theorem dX10_rooms_10 : decode cX10_rooms 10 = .ok (.ifCond .eq 16, 3) := by decide +kernel
theorem dX10_rooms_13 : decode cX10_rooms 13 = .ok (.iload_n 2, 1) := by decide +kernel
theorem dX10_rooms_14 : decode cX10_rooms 14 = .ok (.iconst 0, 1) := by decide +kernel
theorem dX10_rooms_15 : decode cX10_rooms 15 = .ok (.iconst 1, 1) := by decide +kernel
theorem dX10_rooms_16 : decode cX10_rooms 16 = .ok (.invokestatic 282, 3) := by decide +kernel
theorem dX10_rooms_19 : decode cX10_rooms 19 = .ok (.ifCond .eq 7, 3) := by decide +kernel
theorem dX10_rooms_22 : decode cX10_rooms 22 = .ok (.iconst 1, 1) := by decide +kernel
theorem dX10_rooms_23 : decode cX10_rooms 23 = .ok (.goto 4, 3) := by decide +kernel
theorem dX10_rooms_26 : decode cX10_rooms 26 = .ok (.iconst 0, 1) := by decide +kernel
theorem dX10_rooms_27 : decode cX10_rooms 27 = .ok (.iconst 1, 1) := by decide +kernel
theorem dX10_rooms_28 : decode cX10_rooms 28 = .ok (.iconst 1, 1) := by decide +kernel
theorem dX10_rooms_29 : decode cX10_rooms 29 = .ok (.invokevirtual 203, 3) := by decide +kernel
theorem dX10_rooms_32 : decode cX10_rooms 32 = .ok (.ifCond .ne 5, 3) := by decide +kernel
theorem dX10_rooms_35 : decode cX10_rooms 35 = .ok (.iconst 0, 1) := by decide +kernel
theorem dX10_rooms_36 : decode cX10_rooms 36 = .ok (.ireturn, 1) := by decide +kernel
theorem dX10_rooms_37 : decode cX10_rooms 37 = .ok (.iconst 0, 1) := by decide +kernel
theorem dX10_rooms_38 : decode cX10_rooms 38 = .ok (.istore_n 3, 1) := by decide +kernel
theorem dX10_rooms_39 : decode cX10_rooms 39 = .ok (.iconst (-1), 1) := by decide +kernel
theorem dX10_rooms_40 : decode cX10_rooms 40 = .ok (.istore 4, 2) := by decide +kernel
theorem dX10_rooms_42 : decode cX10_rooms 42 = .ok (.iconst 0, 1) := by decide +kernel
theorem dX10_rooms_43 : decode cX10_rooms 43 = .ok (.istore 5, 2) := by decide +kernel
theorem dX10_rooms_45 : decode cX10_rooms 45 = .ok (.iload 5, 2) := by decide +kernel
theorem dX10_rooms_47 : decode cX10_rooms 47 = .ok (.iconst 1, 1) := by decide +kernel
theorem dX10_rooms_48 : decode cX10_rooms 48 = .ok (.aload_n 0, 1) := by decide +kernel
theorem dX10_rooms_49 : decode cX10_rooms 49 = .ok (.getfield 156, 3) := by decide +kernel
theorem dX10_rooms_52 : decode cX10_rooms 52 = .ok (.ishl, 1) := by decide +kernel
theorem dX10_rooms_53 : decode cX10_rooms 53 = .ok (.if_icmp .ge 122, 3) := by decide +kernel
theorem dX10_rooms_56 : decode cX10_rooms 56 = .ok (.aload_n 0, 1) := by decide +kernel
theorem dX10_rooms_57 : decode cX10_rooms 57 = .ok (.invokevirtual 316, 3) := by decide +kernel
theorem dX10_rooms_60 : decode cX10_rooms 60 = .ok (.iconst 1, 1) := by decide +kernel
theorem dX10_rooms_61 : decode cX10_rooms 61 = .ok (.istore 6, 2) := by decide +kernel
theorem dX10_rooms_63 : decode cX10_rooms 63 = .ok (.iconst 0, 1) := by decide +kernel
theorem dX10_rooms_64 : decode cX10_rooms 64 = .ok (.istore 7, 2) := by decide +kernel
theorem dX10_rooms_66 : decode cX10_rooms 66 = .ok (.iload 7, 2) := by decide +kernel
theorem dX10_rooms_68 : decode cX10_rooms 68 = .ok (.aload_n 0, 1) := by decide +kernel
theorem dX10_rooms_69 : decode cX10_rooms 69 = .ok (.getfield 156, 3) := by decide +kernel
theorem dX10_rooms_72 : decode cX10_rooms 72 = .ok (.if_icmp .ge 65, 3) := by decide +kernel
theorem dX10_rooms_75 : decode cX10_rooms 75 = .ok (.iload 6, 2) := by decide +kernel
theorem dX10_rooms_77 : decode cX10_rooms 77 = .ok (.ifCond .eq 35, 3) := by decide +kernel
theorem dX10_rooms_80 : decode cX10_rooms 80 = .ok (.aload_n 0, 1) := by decide +kernel
theorem dX10_rooms_81 : decode cX10_rooms 81 = .ok (.iload 7, 2) := by decide +kernel
theorem dX10_rooms_83 : decode cX10_rooms 83 = .ok (.invokevirtual 343, 3) := by decide +kernel
theorem dX10_rooms_86 : decode cX10_rooms 86 = .ok (.ifCond .eq 22, 3) := by decide +kernel
theorem dX10_rooms_89 : decode cX10_rooms 89 = .ok (.aload_n 0, 1) := by decide +kernel
theorem dX10_rooms_90 : decode cX10_rooms 90 = .ok (.getfield 65, 3) := by decide +kernel
theorem dX10_rooms_93 : decode cX10_rooms 93 = .ok (.iconst 5, 1) := by decide +kernel
theorem dX10_rooms_94 : decode cX10_rooms 94 = .ok (.iload 7, 2) := by decide +kernel
theorem dX10_rooms_96 : decode cX10_rooms 96 = .ok (.iadd, 1) := by decide +kernel
theorem dX10_rooms_97 : decode cX10_rooms 97 = .ok (.iaload, 1) := by decide +kernel
theorem dX10_rooms_98 : decode cX10_rooms 98 = .ok (.iload 5, 2) := by decide +kernel
theorem dX10_rooms_100 : decode cX10_rooms 100 = .ok (.iload 7, 2) := by decide +kernel
theorem dX10_rooms_102 : decode cX10_rooms 102 = .ok (.ishr, 1) := by decide +kernel
theorem dX10_rooms_103 : decode cX10_rooms 103 = .ok (.iconst 1, 1) := by decide +kernel
theorem dX10_rooms_104 : decode cX10_rooms 104 = .ok (.iand, 1) := by decide +kernel
theorem dX10_rooms_105 : decode cX10_rooms 105 = .ok (.if_icmp .ne 7, 3) := by decide +kernel
theorem dX10_rooms_108 : decode cX10_rooms 108 = .ok (.iconst 1, 1) := by decide +kernel
theorem dX10_rooms_109 : decode cX10_rooms 109 = .ok (.goto 4, 3) := by decide +kernel
theorem dX10_rooms_112 : decode cX10_rooms 112 = .ok (.iconst 0, 1) := by decide +kernel
theorem dX10_rooms_113 : decode cX10_rooms 113 = .ok (.istore 6, 2) := by decide +kernel
theorem dX10_rooms_115 : decode cX10_rooms 115 = .ok (.aload_n 0, 1) := by decide +kernel
theorem dX10_rooms_116 : decode cX10_rooms 116 = .ok (.getfield 65, 3) := by decide +kernel
theorem dX10_rooms_119 : decode cX10_rooms 119 = .ok (.iconst 5, 1) := by decide +kernel
theorem dX10_rooms_120 : decode cX10_rooms 120 = .ok (.iload 7, 2) := by decide +kernel
theorem dX10_rooms_122 : decode cX10_rooms 122 = .ok (.iadd, 1) := by decide +kernel
theorem dX10_rooms_123 : decode cX10_rooms 123 = .ok (.iload 5, 2) := by decide +kernel
theorem dX10_rooms_125 : decode cX10_rooms 125 = .ok (.iload 7, 2) := by decide +kernel
theorem dX10_rooms_127 : decode cX10_rooms 127 = .ok (.ishr, 1) := by decide +kernel
theorem dX10_rooms_128 : decode cX10_rooms 128 = .ok (.iconst 1, 1) := by decide +kernel
theorem dX10_rooms_129 : decode cX10_rooms 129 = .ok (.iand, 1) := by decide +kernel
theorem dX10_rooms_130 : decode cX10_rooms 130 = .ok (.iastore, 1) := by decide +kernel
theorem dX10_rooms_131 : decode cX10_rooms 131 = .ok (.iinc 7 1, 3) := by decide +kernel
theorem dX10_rooms_134 : decode cX10_rooms 134 = .ok (.goto (-68), 3) := by decide +kernel
theorem dX10_rooms_137 : decode cX10_rooms 137 = .ok (.iload 6, 2) := by decide +kernel
theorem dX10_rooms_139 : decode cX10_rooms 139 = .ok (.ifCond .ne 6, 3) := by decide +kernel
theorem dX10_rooms_142 : decode cX10_rooms 142 = .ok (.goto 27, 3) := by decide +kernel
theorem dX10_rooms_145 : decode cX10_rooms 145 = .ok (.aload_n 0, 1) := by decide +kernel
theorem dX10_rooms_146 : decode cX10_rooms 146 = .ok (.iload_n 1, 1) := by decide +kernel
theorem dX10_rooms_147 : decode cX10_rooms 147 = .ok (.invokevirtual 389, 3) := by decide +kernel
theorem dX10_rooms_150 : decode cX10_rooms 150 = .ok (.istore 7, 2) := by decide +kernel
theorem dX10_rooms_152 : decode cX10_rooms 152 = .ok (.iload 7, 2) := by decide +kernel
theorem dX10_rooms_154 : decode cX10_rooms 154 = .ok (.iload 4, 2) := by decide +kernel
theorem dX10_rooms_156 : decode cX10_rooms 156 = .ok (.if_icmp .gt 6, 3) := by decide +kernel
theorem dX10_rooms_159 : decode cX10_rooms 159 = .ok (.goto 10, 3) := by decide +kernel
theorem dX10_rooms_162 : decode cX10_rooms 162 = .ok (.iload 5, 2) := by decide +kernel
theorem dX10_rooms_164 : decode cX10_rooms 164 = .ok (.istore_n 3, 1) := by decide +kernel
theorem dX10_rooms_165 : decode cX10_rooms 165 = .ok (.iload 7, 2) := by decide +kernel
theorem dX10_rooms_167 : decode cX10_rooms 167 = .ok (.istore 4, 2) := by decide +kernel
theorem dX10_rooms_169 : decode cX10_rooms 169 = .ok (.iinc 5 1, 3) := by decide +kernel
theorem dX10_rooms_172 : decode cX10_rooms 172 = .ok (.goto (-127), 3) := by decide +kernel
theorem dX10_rooms_175 : decode cX10_rooms 175 = .ok (.iload_n 2, 1) := by decide +kernel
theorem dX10_rooms_176 : decode cX10_rooms 176 = .ok (.ifCond .ne 8, 3) := by decide +kernel
theorem dX10_rooms_179 : decode cX10_rooms 179 = .ok (.iload 4, 2) := by decide +kernel
theorem dX10_rooms_181 : decode cX10_rooms 181 = .ok (.goto 4, 3) := by decide +kernel
theorem dX10_rooms_184 : decode cX10_rooms 184 = .ok (.iload_n 3, 1) := by decide +kernel
theorem dX10_rooms_185 : decode cX10_rooms 185 = .ok (.ireturn, 1) := by decide +kernel
theorem dX10_sets_0 : decode cX10_sets 0 = .ok (.aload_n 0, 1) := by decide +kernel
theorem dX10_sets_1 : decode cX10_sets 1 = .ok (.aload_n 0, 1) := by decide +kernel
theorem dX10_sets_2 : decode cX10_sets 2 = .ok (.getfield 144, 3) := by decide +kernel
theorem dX10_sets_5 : decode cX10_sets 5 = .ok (.putfield 156, 3) := by decide +kernel
theorem dX10_sets_8 : decode cX10_sets 8 = .ok (.aload_n 0, 1) := by decide +kernel
theorem dX10_sets_9 : decode cX10_sets 9 = .ok (.aload_n 0, 1) := by decide +kernel
theorem dX10_sets_10 : decode cX10_sets 10 = .ok (.getfield 150, 3) := by decide +kernel
theorem dX10_sets_13 : decode cX10_sets 13 = .ok (.putfield 159, 3) := by decide +kernel
theorem dX10_sets_16 : decode cX10_sets 16 = .ok (.aload_n 0, 1) := by decide +kernel
theorem dX10_sets_17 : decode cX10_sets 17 = .ok (.aload_n 0, 1) := by decide +kernel
theorem dX10_sets_18 : decode cX10_sets 18 = .ok (.getfield 153, 3) := by decide +kernel
theorem dX10_sets_21 : decode cX10_sets 21 = .ok (.putfield 162, 3) := by decide +kernel
theorem dX10_sets_24 : decode cX10_sets 24 = .ok (.aload_n 0, 1) := by decide +kernel
theorem dX10_sets_25 : decode cX10_sets 25 = .ok (.aload_n 0, 1) := by decide +kernel
theorem dX10_sets_26 : decode cX10_sets 26 = .ok (.getfield 23, 3) := by decide +kernel
theorem dX10_sets_29 : decode cX10_sets 29 = .ok (.aload_n 0, 1) := by decide +kernel
theorem dX10_sets_30 : decode cX10_sets 30 = .ok (.getfield 29, 3) := by decide +kernel
theorem dX10_sets_33 : decode cX10_sets 33 = .ok (.bipush 40, 2) := by decide +kernel
theorem dX10_sets_35 : decode cX10_sets 35 = .ok (.invokevirtual 165, 3) := by decide +kernel
theorem dX10_sets_38 : decode cX10_sets 38 = .ok (.aload_n 0, 1) := by decide +kernel
theorem dX10_sets_39 : decode cX10_sets 39 = .ok (.aload_n 0, 1) := by decide +kernel
theorem dX10_sets_40 : decode cX10_sets 40 = .ok (.getfield 26, 3) := by decide +kernel
theorem dX10_sets_43 : decode cX10_sets 43 = .ok (.aload_n 0, 1) := by decide +kernel
theorem dX10_sets_44 : decode cX10_sets 44 = .ok (.getfield 32, 3) := by decide +kernel
theorem dX10_sets_47 : decode cX10_sets 47 = .ok (.bipush 60, 2) := by decide +kernel
theorem dX10_sets_49 : decode cX10_sets 49 = .ok (.invokevirtual 165, 3) := by decide +kernel
theorem dX10_sets_52 : decode cX10_sets 52 = .ok (.aload_n 0, 1) := by decide +kernel
theorem dX10_sets_53 : decode cX10_sets 53 = .ok (.getfield 47, 3) := by decide +kernel
theorem dX10_sets_56 : decode cX10_sets 56 = .ok (.iconst 0, 1) := by decide +kernel
theorem dX10_sets_57 : decode cX10_sets 57 = .ok (.iconst 0, 1) := by decide +kernel
theorem dX10_sets_58 : decode cX10_sets 58 = .ok (.iastore, 1) := by decide +kernel
theorem dX10_sets_59 : decode cX10_sets 59 = .ok (.aload_n 0, 1) := by decide +kernel
theorem dX10_sets_60 : decode cX10_sets 60 = .ok (.getfield 47, 3) := by decide +kernel
theorem dX10_sets_63 : decode cX10_sets 63 = .ok (.iconst 1, 1) := by decide +kernel
theorem dX10_sets_64 : decode cX10_sets 64 = .ok (.iconst 0, 1) := by decide +kernel
theorem dX10_sets_65 : decode cX10_sets 65 = .ok (.iastore, 1) := by decide +kernel
theorem dX10_sets_66 : decode cX10_sets 66 = .ok (.aload_n 0, 1) := by decide +kernel
theorem dX10_sets_67 : decode cX10_sets 67 = .ok (.iconst 0, 1) := by decide +kernel
theorem dX10_sets_68 : decode cX10_sets 68 = .ok (.putfield 169, 3) := by decide +kernel
theorem dX10_sets_71 : decode cX10_sets 71 = .ok (.aload_n 0, 1) := by decide +kernel
theorem dX10_sets_72 : decode cX10_sets 72 = .ok (.iconst 0, 1) := by decide +kernel
theorem dX10_sets_73 : decode cX10_sets 73 = .ok (.putfield 172, 3) := by decide +kernel
theorem dX10_sets_76 : decode cX10_sets 76 = .ok (.aload_n 0, 1) := by decide +kernel
theorem dX10_sets_77 : decode cX10_sets 77 = .ok (.iconst 0, 1) := by decide +kernel
theorem dX10_sets_78 : decode cX10_sets 78 = .ok (.putfield 175, 3) := by decide +kernel
theorem dX10_sets_81 : decode cX10_sets 81 = .ok (.aload_n 0, 1) := by decide +kernel
theorem dX10_sets_82 : decode cX10_sets 82 = .ok (.iconst 0, 1) := by decide +kernel
theorem dX10_sets_83 : decode cX10_sets 83 = .ok (.putfield 178, 3) := by decide +kernel
theorem dX10_sets_86 : decode cX10_sets 86 = .ok (.iconst 0, 1) := by decide +kernel
theorem dX10_sets_87 : decode cX10_sets 87 = .ok (.istore_n 1, 1) := by decide +kernel
theorem dX10_sets_88 : decode cX10_sets 88 = .ok (.iload_n 1, 1) := by decide +kernel
theorem dX10_sets_89 : decode cX10_sets 89 = .ok (.bipush 42, 2) := by decide +kernel
theorem dX10_sets_91 : decode cX10_sets 91 = .ok (.if_icmp .ge 16, 3) := by decide +kernel
theorem dX10_sets_94 : decode cX10_sets 94 = .ok (.aload_n 0, 1) := by decide +kernel
theorem dX10_sets_95 : decode cX10_sets 95 = .ok (.getfield 62, 3) := by decide +kernel
theorem dX10_sets_98 : decode cX10_sets 98 = .ok (.iload_n 1, 1) := by decide +kernel
theorem dX10_sets_99 : decode cX10_sets 99 = .ok (.iconst 0, 1) := by decide +kernel
theorem dX10_sets_100 : decode cX10_sets 100 = .ok (.iastore, 1) := by decide +kernel
theorem dX10_sets_101 : decode cX10_sets 101 = .ok (.iinc 1 1, 3) := by decide +kernel
theorem dX10_sets_104 : decode cX10_sets 104 = .ok (.goto (-16), 3) := by decide +kernel
theorem dX10_sets_107 : decode cX10_sets 107 = .ok (.iconst 0, 1) := by decide +kernel
theorem dX10_sets_108 : decode cX10_sets 108 = .ok (.istore_n 1, 1) := by decide +kernel
theorem dX10_sets_109 : decode cX10_sets 109 = .ok (.iload_n 1, 1) := by decide +kernel
theorem dX10_sets_110 : decode cX10_sets 110 = .ok (.aload_n 0, 1) := by decide +kernel
theorem dX10_sets_111 : decode cX10_sets 111 = .ok (.getfield 156, 3) := by decide +kernel
theorem dX10_sets_114 : decode cX10_sets 114 = .ok (.if_icmp .ge 68, 3) := by decide +kernel
theorem dX10_sets_117 : decode cX10_sets 117 = .ok (.aload_n 0, 1) := by decide +kernel
theorem dX10_sets_118 : decode cX10_sets 118 = .ok (.getfield 62, 3) := by decide +kernel
theorem dX10_sets_121 : decode cX10_sets 121 = .ok (.iconst 0, 1) := by decide +kernel
theorem dX10_sets_122 : decode cX10_sets 122 = .ok (.iload_n 1, 1) := by decide +kernel
theorem dX10_sets_123 : decode cX10_sets 123 = .ok (.iadd, 1) := by decide +kernel
theorem dX10_sets_124 : decode cX10_sets 124 = .ok (.aload_n 0, 1) := by decide +kernel
theorem dX10_sets_125 : decode cX10_sets 125 = .ok (.getfield 29, 3) := by decide +kernel
theorem dX10_sets_128 : decode cX10_sets 128 = .ok (.bipush 8, 2) := by decide +kernel
theorem dX10_sets_130 : decode cX10_sets 130 = .ok (.iload_n 1, 1) := by decide +kernel
theorem dX10_sets_131 : decode cX10_sets 131 = .ok (.imul, 1) := by decide +kernel
theorem dX10_sets_132 : decode cX10_sets 132 = .ok (.iconst 0, 1) := by decide +kernel
theorem dX10_sets_133 : decode cX10_sets 133 = .ok (.iadd, 1) := by decide +kernel
theorem dX10_sets_134 : decode cX10_sets 134 = .ok (.iaload, 1) := by decide +kernel
theorem dX10_sets_135 : decode cX10_sets 135 = .ok (.iastore, 1) := by decide +kernel
theorem dX10_sets_136 : decode cX10_sets 136 = .ok (.aload_n 0, 1) := by decide +kernel
theorem dX10_sets_137 : decode cX10_sets 137 = .ok (.getfield 62, 3) := by decide +kernel
theorem dX10_sets_140 : decode cX10_sets 140 = .ok (.iconst 5, 1) := by decide +kernel
theorem dX10_sets_141 : decode cX10_sets 141 = .ok (.iload_n 1, 1) := by decide +kernel
theorem dX10_sets_142 : decode cX10_sets 142 = .ok (.iadd, 1) := by decide +kernel
theorem dX10_sets_143 : decode cX10_sets 143 = .ok (.aload_n 0, 1) := by decide +kernel
theorem dX10_sets_144 : decode cX10_sets 144 = .ok (.getfield 29, 3) := by decide +kernel
theorem dX10_sets_147 : decode cX10_sets 147 = .ok (.bipush 8, 2) := by decide +kernel
theorem dX10_sets_149 : decode cX10_sets 149 = .ok (.iload_n 1, 1) := by decide +kernel
theorem dX10_sets_150 : decode cX10_sets 150 = .ok (.imul, 1) := by decide +kernel
theorem dX10_sets_151 : decode cX10_sets 151 = .ok (.iconst 3, 1) := by decide +kernel
theorem dX10_sets_152 : decode cX10_sets 152 = .ok (.iadd, 1) := by decide +kernel
theorem dX10_sets_153 : decode cX10_sets 153 = .ok (.iaload, 1) := by decide +kernel
theorem dX10_sets_154 : decode cX10_sets 154 = .ok (.iastore, 1) := by decide +kernel
theorem dX10_sets_155 : decode cX10_sets 155 = .ok (.aload_n 0, 1) := by decide +kernel
theorem dX10_sets_156 : decode cX10_sets 156 = .ok (.getfield 62, 3) := by decide +kernel
theorem dX10_sets_159 : decode cX10_sets 159 = .ok (.bipush 10, 2) := by decide +kernel
theorem dX10_sets_161 : decode cX10_sets 161 = .ok (.iload_n 1, 1) := by decide +kernel
theorem dX10_sets_162 : decode cX10_sets 162 = .ok (.iadd, 1) := by decide +kernel
theorem dX10_sets_163 : decode cX10_sets 163 = .ok (.aload_n 0, 1) := by decide +kernel
theorem dX10_sets_164 : decode cX10_sets 164 = .ok (.getfield 29, 3) := by decide +kernel
theorem dX10_sets_167 : decode cX10_sets 167 = .ok (.bipush 8, 2) := by decide +kernel
theorem dX10_sets_169 : decode cX10_sets 169 = .ok (.iload_n 1, 1) := by decide +kernel
theorem dX10_sets_170 : decode cX10_sets 170 = .ok (.imul, 1) := by decide +kernel
theorem dX10_sets_171 : decode cX10_sets 171 = .ok (.bipush 6, 2) := by decide +kernel
theorem dX10_sets_173 : decode cX10_sets 173 = .ok (.iadd, 1) := by decide +kernel
theorem dX10_sets_174 : decode cX10_sets 174 = .ok (.iaload, 1) := by decide +kernel
theorem dX10_sets_175 : decode cX10_sets 175 = .ok (.iastore, 1) := by decide +kernel
theorem dX10_sets_176 : decode cX10_sets 176 = .ok (.iinc 1 1, 3) := by decide +kernel
theorem dX10_sets_179 : decode cX10_sets 179 = .ok (.goto (-70), 3) := by decide +kernel
theorem dX10_sets_182 : decode cX10_sets 182 = .ok (.return_, 1) := by decide +kernel
theorem dX10_sign_0 : decode cX10_sign 0 = .ok (.aload_n 0, 1) := by decide +kernel
theorem dX10_sign_1 : decode cX10_sign 1 = .ok (.invokevirtual 130, 3) := by decide +kernel
theorem dX10_sign_4 : decode cX10_sign 4 = .ok (.ifCond .eq 20, 3) := by decide +kernel
theorem dX10_sign_7 : decode cX10_sign 7 = .ok (.aload_n 0, 1) := by decide +kernel
theorem dX10_sign_8 : decode cX10_sign 8 = .ok (.invokevirtual 113, 3) := by decide +kernel
theorem dX10_sign_11 : decode cX10_sign 11 = .ok (.iload_n 1, 1) := by decide +kernel
theorem dX10_sign_12 : decode cX10_sign 12 = .ok (.if_icmp .eq 12, 3) := by decide +kernel
theorem dX10_sign_15 : decode cX10_sign 15 = .ok (.aload_n 0, 1) := by decide +kernel
theorem dX10_sign_16 : decode cX10_sign 16 = .ok (.iconst 1, 1) := by decide +kernel
theorem dX10_sign_17 : decode cX10_sign 17 = .ok (.aload_n 0, 1) := by decide +kernel
theorem dX10_sign_18 : decode cX10_sign 18 = .ok (.getfield 107, 3) := by decide +kernel
theorem dX10_sign_21 : decode cX10_sign 21 = .ok (.invokevirtual 137, 3) := by decide +kernel
theorem dX10_sign_24 : decode cX10_sign 24 = .ok (.aload_n 0, 1) := by decide +kernel
theorem dX10_sign_25 : decode cX10_sign 25 = .ok (.invokevirtual 130, 3) := by decide +kernel
theorem dX10_sign_28 : decode cX10_sign 28 = .ok (.ifCond .eq 13, 3) := by decide +kernel
theorem dX10_sign_31 : decode cX10_sign 31 = .ok (.aload_n 0, 1) := by decide +kernel
theorem dX10_sign_32 : decode cX10_sign 32 = .ok (.dup, 1) := by decide +kernel
theorem dX10_sign_33 : decode cX10_sign 33 = .ok (.getfield 107, 3) := by decide +kernel
theorem dX10_sign_36 : decode cX10_sign 36 = .ok (.iconst 1, 1) := by decide +kernel
theorem dX10_sign_37 : decode cX10_sign 37 = .ok (.iadd, 1) := by decide +kernel
theorem dX10_sign_38 : decode cX10_sign 38 = .ok (.putfield 107, 3) := by decide +kernel
theorem dX10_sign_41 : decode cX10_sign 41 = .ok (.return_, 1) := by decide +kernel
theorem dX10_sleeper_0 : decode cX10_sleeper 0 = .ok (.aload_n 0, 1) := by decide +kernel
theorem dX10_sleeper_1 : decode cX10_sleeper 1 = .ok (.iconst 0, 1) := by decide +kernel
theorem dX10_sleeper_2 : decode cX10_sleeper 2 = .ok (.putfield 3, 3) := by decide +kernel
theorem dX10_sleeper_5 : decode cX10_sleeper 5 = .ok (.aload_n 0, 1) := by decide +kernel
theorem dX10_sleeper_6 : decode cX10_sleeper 6 = .ok (.iload_n 1, 1) := by decide +kernel
theorem dX10_sleeper_7 : decode cX10_sleeper 7 = .ok (.iconst 1, 1) := by decide +kernel
theorem dX10_sleeper_8 : decode cX10_sleeper 8 = .ok (.invokevirtual 383, 3) := by decide +kernel
theorem dX10_sleeper_11 : decode cX10_sleeper 11 = .ok (.ifCond .eq 19, 3) := by decide +kernel
theorem dX10_sleeper_14 : decode cX10_sleeper 14 = .ok (.aload_n 0, 1) := by decide +kernel
theorem dX10_sleeper_15 : decode cX10_sleeper 15 = .ok (.iload_n 2, 1) := by decide +kernel
theorem dX10_sleeper_16 : decode cX10_sleeper 16 = .ok (.iconst 0, 1) := by decide +kernel
theorem dX10_sleeper_17 : decode cX10_sleeper 17 = .ok (.bipush 9, 2) := by decide +kernel
theorem dX10_sleeper_19 : decode cX10_sleeper 19 = .ok (.invokestatic 282, 3) := by decide +kernel
theorem dX10_sleeper_22 : decode cX10_sleeper 22 = .ok (.iconst 2, 1) := by decide +kernel
theorem dX10_sleeper_23 : decode cX10_sleeper 23 = .ok (.iconst 1, 1) := by decide +kernel
theorem dX10_sleeper_24 : decode cX10_sleeper 24 = .ok (.invokevirtual 203, 3) := by decide +kernel
theorem dX10_sleeper_27 : decode cX10_sleeper 27 = .ok (.ifCond .ne 5, 3) := by decide +kernel
theorem dX10_sleeper_30 : decode cX10_sleeper 30 = .ok (.iconst 0, 1) := by decide +kernel
theorem dX10_sleeper_31 : decode cX10_sleeper 31 = .ok (.ireturn, 1) := by decide +kernel
theorem dX10_sleeper_32 : decode cX10_sleeper 32 = .ok (.iload_n 2, 1) := by decide +kernel
theorem dX10_sleeper_33 : decode cX10_sleeper 33 = .ok (.iconst 3, 1) := by decide +kernel
theorem dX10_sleeper_34 : decode cX10_sleeper 34 = .ok (.if_icmp .ge 30, 3) := by decide +kernel
theorem dX10_sleeper_37 : decode cX10_sleeper 37 = .ok (.iload_n 2, 1) := by decide +kernel
theorem dX10_sleeper_38 : decode cX10_sleeper 38 = .ok (.ifCond .ne 14, 3) := by decide +kernel
theorem dX10_sleeper_41 : decode cX10_sleeper 41 = .ok (.aload_n 0, 1) := by decide +kernel
theorem dX10_sleeper_42 : decode cX10_sleeper 42 = .ok (.getfield 62, 3) := by decide +kernel
theorem dX10_sleeper_45 : decode cX10_sleeper 45 = .ok (.iconst 0, 1) := by decide +kernel
theorem dX10_sleeper_46 : decode cX10_sleeper 46 = .ok (.iload_n 1, 1) := by decide +kernel
theorem dX10_sleeper_47 : decode cX10_sleeper 47 = .ok (.iadd, 1) := by decide +kernel
theorem dX10_sleeper_48 : decode cX10_sleeper 48 = .ok (.iaload, 1) := by decide +kernel
theorem dX10_sleeper_49 : decode cX10_sleeper 49 = .ok (.goto 14, 3) := by decide +kernel
theorem dX10_sleeper_52 : decode cX10_sleeper 52 = .ok (.aload_n 0, 1) := by decide +kernel
theorem dX10_sleeper_53 : decode cX10_sleeper 53 = .ok (.getfield 29, 3) := by decide +kernel
theorem dX10_sleeper_56 : decode cX10_sleeper 56 = .ok (.bipush 8, 2) := by decide +kernel
theorem dX10_sleeper_58 : decode cX10_sleeper 58 = .ok (.iload_n 1, 1) := by decide +kernel
theorem dX10_sleeper_59 : decode cX10_sleeper 59 = .ok (.imul, 1) := by decide +kernel
theorem dX10_sleeper_60 : decode cX10_sleeper 60 = .ok (.iload_n 2, 1) := by decide +kernel
theorem dX10_sleeper_61 : decode cX10_sleeper 61 = .ok (.iadd, 1) := by decide +kernel
theorem dX10_sleeper_62 : decode cX10_sleeper 62 = .ok (.iaload, 1) := by decide +kernel
theorem dX10_sleeper_63 : decode cX10_sleeper 63 = .ok (.ireturn, 1) := by decide +kernel
theorem dX10_sleeper_64 : decode cX10_sleeper 64 = .ok (.iload_n 2, 1) := by decide +kernel
theorem dX10_sleeper_65 : decode cX10_sleeper 65 = .ok (.bipush 6, 2) := by decide +kernel
theorem dX10_sleeper_67 : decode cX10_sleeper 67 = .ok (.if_icmp .ge 46, 3) := by decide +kernel
theorem dX10_sleeper_70 : decode cX10_sleeper 70 = .ok (.iload_n 2, 1) := by decide +kernel
theorem dX10_sleeper_71 : decode cX10_sleeper 71 = .ok (.iconst 3, 1) := by decide +kernel
theorem dX10_sleeper_72 : decode cX10_sleeper 72 = .ok (.if_icmp .ne 14, 3) := by decide +kernel
theorem dX10_sleeper_75 : decode cX10_sleeper 75 = .ok (.aload_n 0, 1) := by decide +kernel
theorem dX10_sleeper_76 : decode cX10_sleeper 76 = .ok (.getfield 62, 3) := by decide +kernel
theorem dX10_sleeper_79 : decode cX10_sleeper 79 = .ok (.iconst 5, 1) := by decide +kernel
theorem dX10_sleeper_80 : decode cX10_sleeper 80 = .ok (.iload_n 1, 1) := by decide +kernel
theorem dX10_sleeper_81 : decode cX10_sleeper 81 = .ok (.iadd, 1) := by decide +kernel
theorem dX10_sleeper_82 : decode cX10_sleeper 82 = .ok (.iaload, 1) := by decide +kernel
theorem dX10_sleeper_83 : decode cX10_sleeper 83 = .ok (.goto 29, 3) := by decide +kernel
theorem dX10_sleeper_86 : decode cX10_sleeper 86 = .ok (.iload_n 2, 1) := by decide +kernel
theorem dX10_sleeper_87 : decode cX10_sleeper 87 = .ok (.iconst 4, 1) := by decide +kernel
theorem dX10_sleeper_88 : decode cX10_sleeper 88 = .ok (.if_icmp .ne 15, 3) := by decide +kernel
theorem dX10_sleeper_91 : decode cX10_sleeper 91 = .ok (.aload_n 0, 1) := by decide +kernel
theorem dX10_sleeper_92 : decode cX10_sleeper 92 = .ok (.getfield 62, 3) := by decide +kernel
theorem dX10_sleeper_95 : decode cX10_sleeper 95 = .ok (.bipush 15, 2) := by decide +kernel
theorem dX10_sleeper_97 : decode cX10_sleeper 97 = .ok (.iload_n 1, 1) := by decide +kernel
theorem dX10_sleeper_98 : decode cX10_sleeper 98 = .ok (.iadd, 1) := by decide +kernel
theorem dX10_sleeper_99 : decode cX10_sleeper 99 = .ok (.iaload, 1) := by decide +kernel
theorem dX10_sleeper_100 : decode cX10_sleeper 100 = .ok (.goto 12, 3) := by decide +kernel
theorem dX10_sleeper_103 : decode cX10_sleeper 103 = .ok (.aload_n 0, 1) := by decide +kernel
theorem dX10_sleeper_104 : decode cX10_sleeper 104 = .ok (.getfield 62, 3) := by decide +kernel
theorem dX10_sleeper_107 : decode cX10_sleeper 107 = .ok (.bipush 20, 2) := by decide +kernel
theorem dX10_sleeper_109 : decode cX10_sleeper 109 = .ok (.iload_n 1, 1) := by decide +kernel
theorem dX10_sleeper_110 : decode cX10_sleeper 110 = .ok (.iadd, 1) := by decide +kernel
theorem dX10_sleeper_111 : decode cX10_sleeper 111 = .ok (.iaload, 1) := by decide +kernel
theorem dX10_sleeper_112 : decode cX10_sleeper 112 = .ok (.ireturn, 1) := by decide +kernel
theorem dX10_sleeper_113 : decode cX10_sleeper 113 = .ok (.iload_n 2, 1) := by decide +kernel
theorem dX10_sleeper_114 : decode cX10_sleeper 114 = .ok (.bipush 9, 2) := by decide +kernel
theorem dX10_sleeper_116 : decode cX10_sleeper 116 = .ok (.if_icmp .ge 49, 3) := by decide +kernel
theorem dX10_sleeper_119 : decode cX10_sleeper 119 = .ok (.iload_n 2, 1) := by decide +kernel
theorem dX10_sleeper_120 : decode cX10_sleeper 120 = .ok (.bipush 6, 2) := by decide +kernel
theorem dX10_sleeper_122 : decode cX10_sleeper 122 = .ok (.if_icmp .ne 15, 3) := by decide +kernel
theorem dX10_sleeper_125 : decode cX10_sleeper 125 = .ok (.aload_n 0, 1) := by decide +kernel
theorem dX10_sleeper_126 : decode cX10_sleeper 126 = .ok (.getfield 62, 3) := by decide +kernel
theorem dX10_sleeper_129 : decode cX10_sleeper 129 = .ok (.bipush 30, 2) := by decide +kernel
theorem dX10_sleeper_131 : decode cX10_sleeper 131 = .ok (.iload_n 1, 1) := by decide +kernel
theorem dX10_sleeper_132 : decode cX10_sleeper 132 = .ok (.iadd, 1) := by decide +kernel
theorem dX10_sleeper_133 : decode cX10_sleeper 133 = .ok (.iaload, 1) := by decide +kernel
theorem dX10_sleeper_134 : decode cX10_sleeper 134 = .ok (.goto 30, 3) := by decide +kernel
theorem dX10_sleeper_137 : decode cX10_sleeper 137 = .ok (.iload_n 2, 1) := by decide +kernel
theorem dX10_sleeper_138 : decode cX10_sleeper 138 = .ok (.bipush 7, 2) := by decide +kernel
theorem dX10_sleeper_140 : decode cX10_sleeper 140 = .ok (.if_icmp .ne 15, 3) := by decide +kernel
theorem dX10_sleeper_143 : decode cX10_sleeper 143 = .ok (.aload_n 0, 1) := by decide +kernel
theorem dX10_sleeper_144 : decode cX10_sleeper 144 = .ok (.getfield 62, 3) := by decide +kernel
theorem dX10_sleeper_147 : decode cX10_sleeper 147 = .ok (.bipush 35, 2) := by decide +kernel
theorem dX10_sleeper_149 : decode cX10_sleeper 149 = .ok (.iload_n 1, 1) := by decide +kernel
theorem dX10_sleeper_150 : decode cX10_sleeper 150 = .ok (.iadd, 1) := by decide +kernel
theorem dX10_sleeper_151 : decode cX10_sleeper 151 = .ok (.iaload, 1) := by decide +kernel
theorem dX10_sleeper_152 : decode cX10_sleeper 152 = .ok (.goto 12, 3) := by decide +kernel
theorem dX10_sleeper_155 : decode cX10_sleeper 155 = .ok (.aload_n 0, 1) := by decide +kernel
theorem dX10_sleeper_156 : decode cX10_sleeper 156 = .ok (.getfield 62, 3) := by decide +kernel
theorem dX10_sleeper_159 : decode cX10_sleeper 159 = .ok (.bipush 10, 2) := by decide +kernel
theorem dX10_sleeper_161 : decode cX10_sleeper 161 = .ok (.iload_n 1, 1) := by decide +kernel
theorem dX10_sleeper_162 : decode cX10_sleeper 162 = .ok (.iadd, 1) := by decide +kernel
theorem dX10_sleeper_163 : decode cX10_sleeper 163 = .ok (.iaload, 1) := by decide +kernel
theorem dX10_sleeper_164 : decode cX10_sleeper 164 = .ok (.ireturn, 1) := by decide +kernel
theorem dX10_sleeper_165 : decode cX10_sleeper 165 = .ok (.aload_n 0, 1) := by decide +kernel
theorem dX10_sleeper_166 : decode cX10_sleeper 166 = .ok (.getfield 29, 3) := by decide +kernel
theorem dX10_sleeper_169 : decode cX10_sleeper 169 = .ok (.bipush 8, 2) := by decide +kernel
theorem dX10_sleeper_171 : decode cX10_sleeper 171 = .ok (.iload_n 1, 1) := by decide +kernel
theorem dX10_sleeper_172 : decode cX10_sleeper 172 = .ok (.imul, 1) := by decide +kernel
theorem dX10_sleeper_173 : decode cX10_sleeper 173 = .ok (.bipush 7, 2) := by decide +kernel
theorem dX10_sleeper_175 : decode cX10_sleeper 175 = .ok (.iadd, 1) := by decide +kernel
theorem dX10_sleeper_176 : decode cX10_sleeper 176 = .ok (.iaload, 1) := by decide +kernel
theorem dX10_sleeper_177 : decode cX10_sleeper 177 = .ok (.aload_n 0, 1) := by decide +kernel
theorem dX10_sleeper_178 : decode cX10_sleeper 178 = .ok (.getfield 62, 3) := by decide +kernel
theorem dX10_sleeper_181 : decode cX10_sleeper 181 = .ok (.bipush 30, 2) := by decide +kernel
theorem dX10_sleeper_183 : decode cX10_sleeper 183 = .ok (.iload_n 1, 1) := by decide +kernel
theorem dX10_sleeper_184 : decode cX10_sleeper 184 = .ok (.iadd, 1) := by decide +kernel
theorem dX10_sleeper_185 : decode cX10_sleeper 185 = .ok (.iaload, 1) := by decide +kernel
theorem dX10_sleeper_186 : decode cX10_sleeper 186 = .ok (.isub, 1) := by decide +kernel
theorem dX10_sleeper_187 : decode cX10_sleeper 187 = .ok (.istore_n 3, 1) := by decide +kernel
theorem dX10_sleeper_188 : decode cX10_sleeper 188 = .ok (.iload_n 3, 1) := by decide +kernel
theorem dX10_sleeper_189 : decode cX10_sleeper 189 = .ok (.ifCond .le 7, 3) := by decide +kernel
theorem dX10_sleeper_192 : decode cX10_sleeper 192 = .ok (.iload_n 3, 1) := by decide +kernel
theorem dX10_sleeper_193 : decode cX10_sleeper 193 = .ok (.goto 4, 3) := by decide +kernel
theorem dX10_sleeper_196 : decode cX10_sleeper 196 = .ok (.iconst 0, 1) := by decide +kernel
theorem dX10_sleeper_197 : decode cX10_sleeper 197 = .ok (.ireturn, 1) := by decide +kernel
theorem dX10_sleeps_0 : decode cX10_sleeps 0 = .ok (.aload_n 0, 1) := by decide +kernel
theorem dX10_sleeps_1 : decode cX10_sleeps 1 = .ok (.iconst 0, 1) := by decide +kernel
theorem dX10_sleeps_2 : decode cX10_sleeps 2 = .ok (.putfield 3, 3) := by decide +kernel
theorem dX10_sleeps_5 : decode cX10_sleeps 5 = .ok (.aload_n 0, 1) := by decide +kernel
theorem dX10_sleeps_6 : decode cX10_sleeps 6 = .ok (.iload_n 1, 1) := by decide +kernel
theorem dX10_sleeps_7 : decode cX10_sleeps 7 = .ok (.iconst 1, 1) := by decide +kernel
theorem dX10_sleeps_8 : decode cX10_sleeps 8 = .ok (.invokevirtual 383, 3) := by decide +kernel
theorem dX10_sleeps_11 : decode cX10_sleeps 11 = .ok (.ifCond .eq 16, 3) := by decide +kernel
theorem dX10_sleeps_14 : decode cX10_sleeps 14 = .ok (.aload_n 0, 1) := by decide +kernel
theorem dX10_sleeps_15 : decode cX10_sleeps 15 = .ok (.iload_n 2, 1) := by decide +kernel
theorem dX10_sleeps_16 : decode cX10_sleeps 16 = .ok (.invokestatic 386, 3) := by decide +kernel
theorem dX10_sleeps_19 : decode cX10_sleeps 19 = .ok (.iconst 2, 1) := by decide +kernel
theorem dX10_sleeps_20 : decode cX10_sleeps 20 = .ok (.iconst 1, 1) := by decide +kernel
theorem dX10_sleeps_21 : decode cX10_sleeps 21 = .ok (.invokevirtual 203, 3) := by decide +kernel
theorem dX10_sleeps_24 : decode cX10_sleeps 24 = .ok (.ifCond .ne 5, 3) := by decide +kernel
theorem dX10_sleeps_27 : decode cX10_sleeps 27 = .ok (.iconst 0, 1) := by decide +kernel
theorem dX10_sleeps_28 : decode cX10_sleeps 28 = .ok (.ireturn, 1) := by decide +kernel
theorem dX10_sleeps_29 : decode cX10_sleeps 29 = .ok (.aload_n 0, 1) := by decide +kernel
theorem dX10_sleeps_30 : decode cX10_sleeps 30 = .ok (.invokevirtual 316, 3) := by decide +kernel
theorem dX10_sleeps_33 : decode cX10_sleeps 33 = .ok (.aload_n 0, 1) := by decide +kernel
theorem dX10_sleeps_34 : decode cX10_sleeps 34 = .ok (.iload_n 1, 1) := by decide +kernel
theorem dX10_sleeps_35 : decode cX10_sleeps 35 = .ok (.iload_n 2, 1) := by decide +kernel
theorem dX10_sleeps_36 : decode cX10_sleeps 36 = .ok (.invokevirtual 392, 3) := by decide +kernel
theorem dX10_sleeps_39 : decode cX10_sleeps 39 = .ok (.ireturn, 1) := by decide +kernel
theorem dX10_sleepsIn_0 : decode cX10_sleepsIn 0 = .ok (.aload_n 0, 1) := by decide +kernel
theorem dX10_sleepsIn_1 : decode cX10_sleepsIn 1 = .ok (.getfield 65, 3) := by decide +kernel
theorem dX10_sleepsIn_4 : decode cX10_sleepsIn 4 = .ok (.bipush 30, 2) := by decide +kernel
theorem dX10_sleepsIn_6 : decode cX10_sleepsIn 6 = .ok (.iload_n 1, 1) := by decide +kernel
theorem dX10_sleepsIn_7 : decode cX10_sleepsIn 7 = .ok (.iadd, 1) := by decide +kernel
theorem dX10_sleepsIn_8 : decode cX10_sleepsIn 8 = .ok (.iaload, 1) := by decide +kernel
theorem dX10_sleepsIn_9 : decode cX10_sleepsIn 9 = .ok (.istore_n 3, 1) := by decide +kernel
theorem dX10_sleepsIn_10 : decode cX10_sleepsIn 10 = .ok (.aload_n 0, 1) := by decide +kernel
theorem dX10_sleepsIn_11 : decode cX10_sleepsIn 11 = .ok (.iload_n 2, 1) := by decide +kernel
theorem dX10_sleepsIn_12 : decode cX10_sleepsIn 12 = .ok (.invokevirtual 389, 3) := by decide +kernel
theorem dX10_sleepsIn_15 : decode cX10_sleepsIn 15 = .ok (.pop, 1) := by decide +kernel
theorem dX10_sleepsIn_16 : decode cX10_sleepsIn 16 = .ok (.aload_n 0, 1) := by decide +kernel
theorem dX10_sleepsIn_17 : decode cX10_sleepsIn 17 = .ok (.getfield 65, 3) := by decide +kernel
theorem dX10_sleepsIn_20 : decode cX10_sleepsIn 20 = .ok (.bipush 30, 2) := by decide +kernel
theorem dX10_sleepsIn_22 : decode cX10_sleepsIn 22 = .ok (.iload_n 1, 1) := by decide +kernel
theorem dX10_sleepsIn_23 : decode cX10_sleepsIn 23 = .ok (.iadd, 1) := by decide +kernel
theorem dX10_sleepsIn_24 : decode cX10_sleepsIn 24 = .ok (.iaload, 1) := by decide +kernel
theorem dX10_sleepsIn_25 : decode cX10_sleepsIn 25 = .ok (.iload_n 3, 1) := by decide +kernel
theorem dX10_sleepsIn_26 : decode cX10_sleepsIn 26 = .ok (.isub, 1) := by decide +kernel
theorem dX10_sleepsIn_27 : decode cX10_sleepsIn 27 = .ok (.ireturn, 1) := by decide +kernel
theorem dX10_sleepsOn_0 : decode cX10_sleepsOn 0 = .ok (.aload_n 0, 1) := by decide +kernel
theorem dX10_sleepsOn_1 : decode cX10_sleepsOn 1 = .ok (.getfield 65, 3) := by decide +kernel
theorem dX10_sleepsOn_4 : decode cX10_sleepsOn 4 = .ok (.bipush 15, 2) := by decide +kernel
theorem dX10_sleepsOn_6 : decode cX10_sleepsOn 6 = .ok (.iload_n 1, 1) := by decide +kernel
theorem dX10_sleepsOn_7 : decode cX10_sleepsOn 7 = .ok (.iadd, 1) := by decide +kernel
theorem dX10_sleepsOn_8 : decode cX10_sleepsOn 8 = .ok (.iaload, 1) := by decide +kernel
theorem dX10_sleepsOn_9 : decode cX10_sleepsOn 9 = .ok (.bipush 9, 2) := by decide +kernel
theorem dX10_sleepsOn_11 : decode cX10_sleepsOn 11 = .ok (.if_icmp .ge 16, 3) := by decide +kernel
theorem dX10_sleepsOn_14 : decode cX10_sleepsOn 14 = .ok (.aload_n 0, 1) := by decide +kernel
theorem dX10_sleepsOn_15 : decode cX10_sleepsOn 15 = .ok (.getfield 65, 3) := by decide +kernel
theorem dX10_sleepsOn_18 : decode cX10_sleepsOn 18 = .ok (.bipush 15, 2) := by decide +kernel
theorem dX10_sleepsOn_20 : decode cX10_sleepsOn 20 = .ok (.iload_n 1, 1) := by decide +kernel
theorem dX10_sleepsOn_21 : decode cX10_sleepsOn 21 = .ok (.iadd, 1) := by decide +kernel
theorem dX10_sleepsOn_22 : decode cX10_sleepsOn 22 = .ok (.dup2, 1) := by decide +kernel
theorem dX10_sleepsOn_23 : decode cX10_sleepsOn 23 = .ok (.iaload, 1) := by decide +kernel
theorem dX10_sleepsOn_24 : decode cX10_sleepsOn 24 = .ok (.iconst 1, 1) := by decide +kernel
theorem dX10_sleepsOn_25 : decode cX10_sleepsOn 25 = .ok (.iadd, 1) := by decide +kernel
theorem dX10_sleepsOn_26 : decode cX10_sleepsOn 26 = .ok (.iastore, 1) := by decide +kernel
theorem dX10_sleepsOn_27 : decode cX10_sleepsOn 27 = .ok (.aload_n 0, 1) := by decide +kernel
theorem dX10_sleepsOn_28 : decode cX10_sleepsOn 28 = .ok (.getfield 65, 3) := by decide +kernel
theorem dX10_sleepsOn_31 : decode cX10_sleepsOn 31 = .ok (.iconst 0, 1) := by decide +kernel
theorem dX10_sleepsOn_32 : decode cX10_sleepsOn 32 = .ok (.iload_n 1, 1) := by decide +kernel
theorem dX10_sleepsOn_33 : decode cX10_sleepsOn 33 = .ok (.iadd, 1) := by decide +kernel
theorem dX10_sleepsOn_34 : decode cX10_sleepsOn 34 = .ok (.iaload, 1) := by decide +kernel
theorem dX10_sleepsOn_35 : decode cX10_sleepsOn 35 = .ok (.ifCond .le 15, 3) := by decide +kernel
theorem dX10_sleepsOn_38 : decode cX10_sleepsOn 38 = .ok (.aload_n 0, 1) := by decide +kernel
theorem dX10_sleepsOn_39 : decode cX10_sleepsOn 39 = .ok (.getfield 65, 3) := by decide +kernel
theorem dX10_sleepsOn_42 : decode cX10_sleepsOn 42 = .ok (.iconst 0, 1) := by decide +kernel
theorem dX10_sleepsOn_43 : decode cX10_sleepsOn 43 = .ok (.iload_n 1, 1) := by decide +kernel
theorem dX10_sleepsOn_44 : decode cX10_sleepsOn 44 = .ok (.iadd, 1) := by decide +kernel
theorem dX10_sleepsOn_45 : decode cX10_sleepsOn 45 = .ok (.dup2, 1) := by decide +kernel
theorem dX10_sleepsOn_46 : decode cX10_sleepsOn 46 = .ok (.iaload, 1) := by decide +kernel
theorem dX10_sleepsOn_47 : decode cX10_sleepsOn 47 = .ok (.iconst 1, 1) := by decide +kernel
theorem dX10_sleepsOn_48 : decode cX10_sleepsOn 48 = .ok (.isub, 1) := by decide +kernel
theorem dX10_sleepsOn_49 : decode cX10_sleepsOn 49 = .ok (.iastore, 1) := by decide +kernel
theorem dX10_sleepsOn_50 : decode cX10_sleepsOn 50 = .ok (.aload_n 0, 1) := by decide +kernel
theorem dX10_sleepsOn_51 : decode cX10_sleepsOn 51 = .ok (.getfield 65, 3) := by decide +kernel
theorem dX10_sleepsOn_54 : decode cX10_sleepsOn 54 = .ok (.bipush 30, 2) := by decide +kernel
theorem dX10_sleepsOn_56 : decode cX10_sleepsOn 56 = .ok (.iload_n 1, 1) := by decide +kernel
theorem dX10_sleepsOn_57 : decode cX10_sleepsOn 57 = .ok (.iadd, 1) := by decide +kernel
theorem dX10_sleepsOn_58 : decode cX10_sleepsOn 58 = .ok (.dup2, 1) := by decide +kernel
theorem dX10_sleepsOn_59 : decode cX10_sleepsOn 59 = .ok (.iaload, 1) := by decide +kernel
theorem dX10_sleepsOn_60 : decode cX10_sleepsOn 60 = .ok (.iconst 1, 1) := by decide +kernel
theorem dX10_sleepsOn_61 : decode cX10_sleepsOn 61 = .ok (.iadd, 1) := by decide +kernel
theorem dX10_sleepsOn_62 : decode cX10_sleepsOn 62 = .ok (.iastore, 1) := by decide +kernel
theorem dX10_sleepsOn_63 : decode cX10_sleepsOn 63 = .ok (.aload_n 0, 1) := by decide +kernel
theorem dX10_sleepsOn_64 : decode cX10_sleepsOn 64 = .ok (.getfield 65, 3) := by decide +kernel
theorem dX10_sleepsOn_67 : decode cX10_sleepsOn 67 = .ok (.bipush 20, 2) := by decide +kernel
theorem dX10_sleepsOn_69 : decode cX10_sleepsOn 69 = .ok (.iload_n 1, 1) := by decide +kernel
theorem dX10_sleepsOn_70 : decode cX10_sleepsOn 70 = .ok (.iadd, 1) := by decide +kernel
theorem dX10_sleepsOn_71 : decode cX10_sleepsOn 71 = .ok (.iaload, 1) := by decide +kernel
theorem dX10_sleepsOn_72 : decode cX10_sleepsOn 72 = .ok (.ifCond .ne 4, 3) := by decide +kernel
theorem dX10_sleepsOn_75 : decode cX10_sleepsOn 75 = .ok (.return_, 1) := by decide +kernel
theorem dX10_sleepsOn_76 : decode cX10_sleepsOn 76 = .ok (.aload_n 0, 1) := by decide +kernel
theorem dX10_sleepsOn_77 : decode cX10_sleepsOn 77 = .ok (.getfield 65, 3) := by decide +kernel
theorem dX10_sleepsOn_80 : decode cX10_sleepsOn 80 = .ok (.bipush 25, 2) := by decide +kernel
theorem dX10_sleepsOn_82 : decode cX10_sleepsOn 82 = .ok (.iload_n 1, 1) := by decide +kernel
theorem dX10_sleepsOn_83 : decode cX10_sleepsOn 83 = .ok (.iadd, 1) := by decide +kernel
theorem dX10_sleepsOn_84 : decode cX10_sleepsOn 84 = .ok (.dup2, 1) := by decide +kernel
theorem dX10_sleepsOn_85 : decode cX10_sleepsOn 85 = .ok (.iaload, 1) := by decide +kernel
theorem dX10_sleepsOn_86 : decode cX10_sleepsOn 86 = .ok (.iconst 1, 1) := by decide +kernel
theorem dX10_sleepsOn_87 : decode cX10_sleepsOn 87 = .ok (.iadd, 1) := by decide +kernel
theorem dX10_sleepsOn_88 : decode cX10_sleepsOn 88 = .ok (.iastore, 1) := by decide +kernel
theorem dX10_sleepsOn_89 : decode cX10_sleepsOn 89 = .ok (.aload_n 0, 1) := by decide +kernel
theorem dX10_sleepsOn_90 : decode cX10_sleepsOn 90 = .ok (.getfield 65, 3) := by decide +kernel
theorem dX10_sleepsOn_93 : decode cX10_sleepsOn 93 = .ok (.bipush 25, 2) := by decide +kernel
theorem dX10_sleepsOn_95 : decode cX10_sleepsOn 95 = .ok (.iload_n 1, 1) := by decide +kernel
theorem dX10_sleepsOn_96 : decode cX10_sleepsOn 96 = .ok (.iadd, 1) := by decide +kernel
theorem dX10_sleepsOn_97 : decode cX10_sleepsOn 97 = .ok (.iaload, 1) := by decide +kernel
theorem dX10_sleepsOn_98 : decode cX10_sleepsOn 98 = .ok (.aload_n 0, 1) := by decide +kernel
theorem dX10_sleepsOn_99 : decode cX10_sleepsOn 99 = .ok (.getfield 162, 3) := by decide +kernel
theorem dX10_sleepsOn_102 : decode cX10_sleepsOn 102 = .ok (.if_icmp .ge 4, 3) := by decide +kernel
theorem dX10_sleepsOn_105 : decode cX10_sleepsOn 105 = .ok (.return_, 1) := by decide +kernel
theorem dX10_sleepsOn_106 : decode cX10_sleepsOn 106 = .ok (.aload_n 0, 1) := by decide +kernel
theorem dX10_sleepsOn_107 : decode cX10_sleepsOn 107 = .ok (.getfield 65, 3) := by decide +kernel
theorem dX10_sleepsOn_110 : decode cX10_sleepsOn 110 = .ok (.bipush 20, 2) := by decide +kernel
theorem dX10_sleepsOn_112 : decode cX10_sleepsOn 112 = .ok (.iload_n 1, 1) := by decide +kernel
theorem dX10_sleepsOn_113 : decode cX10_sleepsOn 113 = .ok (.iadd, 1) := by decide +kernel
theorem dX10_sleepsOn_114 : decode cX10_sleepsOn 114 = .ok (.iconst 0, 1) := by decide +kernel
theorem dX10_sleepsOn_115 : decode cX10_sleepsOn 115 = .ok (.iastore, 1) := by decide +kernel
theorem dX10_sleepsOn_116 : decode cX10_sleepsOn 116 = .ok (.aload_n 0, 1) := by decide +kernel
theorem dX10_sleepsOn_117 : decode cX10_sleepsOn 117 = .ok (.getfield 65, 3) := by decide +kernel
theorem dX10_sleepsOn_120 : decode cX10_sleepsOn 120 = .ok (.bipush 25, 2) := by decide +kernel
theorem dX10_sleepsOn_122 : decode cX10_sleepsOn 122 = .ok (.iload_n 1, 1) := by decide +kernel
theorem dX10_sleepsOn_123 : decode cX10_sleepsOn 123 = .ok (.iadd, 1) := by decide +kernel
theorem dX10_sleepsOn_124 : decode cX10_sleepsOn 124 = .ok (.iconst 0, 1) := by decide +kernel
theorem dX10_sleepsOn_125 : decode cX10_sleepsOn 125 = .ok (.iastore, 1) := by decide +kernel
theorem dX10_sleepsOn_126 : decode cX10_sleepsOn 126 = .ok (.return_, 1) := by decide +kernel
theorem dX10_slept_0 : decode cX10_slept 0 = .ok (.aload_n 0, 1) := by decide +kernel
theorem dX10_slept_1 : decode cX10_slept 1 = .ok (.iconst 0, 1) := by decide +kernel
theorem dX10_slept_2 : decode cX10_slept 2 = .ok (.putfield 3, 3) := by decide +kernel
theorem dX10_slept_5 : decode cX10_slept 5 = .ok (.aload_n 0, 1) := by decide +kernel
theorem dX10_slept_6 : decode cX10_slept 6 = .ok (.iload_n 1, 1) := by decide +kernel
theorem dX10_slept_7 : decode cX10_slept 7 = .ok (.invokestatic 386, 3) := by decide +kernel
theorem dX10_slept_10 : decode cX10_slept 10 = .ok (.iconst 1, 1) := by decide +kernel
theorem dX10_slept_11 : decode cX10_slept 11 = .ok (.iconst 1, 1) := by decide +kernel
theorem dX10_slept_12 : decode cX10_slept 12 = .ok (.invokevirtual 203, 3) := by decide +kernel
theorem dX10_slept_15 : decode cX10_slept 15 = .ok (.ifCond .ne 5, 3) := by decide +kernel
theorem dX10_slept_18 : decode cX10_slept 18 = .ok (.iconst 0, 1) := by decide +kernel
theorem dX10_slept_19 : decode cX10_slept 19 = .ok (.ireturn, 1) := by decide +kernel
theorem dX10_slept_20 : decode cX10_slept 20 = .ok (.aload_n 0, 1) := by decide +kernel
theorem dX10_slept_21 : decode cX10_slept 21 = .ok (.invokevirtual 316, 3) := by decide +kernel
theorem dX10_slept_24 : decode cX10_slept 24 = .ok (.aload_n 0, 1) := by decide +kernel
theorem dX10_slept_25 : decode cX10_slept 25 = .ok (.iload_n 1, 1) := by decide +kernel
theorem dX10_slept_26 : decode cX10_slept 26 = .ok (.invokevirtual 389, 3) := by decide +kernel
theorem dX10_slept_29 : decode cX10_slept 29 = .ok (.ireturn, 1) := by decide +kernel
theorem dX10_sleptAll_0 : decode cX10_sleptAll 0 = .ok (.iconst 0, 1) := by decide +kernel
theorem dX10_sleptAll_1 : decode cX10_sleptAll 1 = .ok (.istore_n 1, 1) := by decide +kernel
theorem dX10_sleptAll_2 : decode cX10_sleptAll 2 = .ok (.iconst 0, 1) := by decide +kernel
theorem dX10_sleptAll_3 : decode cX10_sleptAll 3 = .ok (.istore_n 2, 1) := by decide +kernel
theorem dX10_sleptAll_4 : decode cX10_sleptAll 4 = .ok (.iload_n 2, 1) := by decide +kernel
theorem dX10_sleptAll_5 : decode cX10_sleptAll 5 = .ok (.aload_n 0, 1) := by decide +kernel
theorem dX10_sleptAll_6 : decode cX10_sleptAll 6 = .ok (.getfield 156, 3) := by decide +kernel
theorem dX10_sleptAll_9 : decode cX10_sleptAll 9 = .ok (.if_icmp .ge 21, 3) := by decide +kernel
theorem dX10_sleptAll_12 : decode cX10_sleptAll 12 = .ok (.iload_n 1, 1) := by decide +kernel
theorem dX10_sleptAll_13 : decode cX10_sleptAll 13 = .ok (.aload_n 0, 1) := by decide +kernel
theorem dX10_sleptAll_14 : decode cX10_sleptAll 14 = .ok (.getfield 65, 3) := by decide +kernel
theorem dX10_sleptAll_17 : decode cX10_sleptAll 17 = .ok (.bipush 30, 2) := by decide +kernel
theorem dX10_sleptAll_19 : decode cX10_sleptAll 19 = .ok (.iload_n 2, 1) := by decide +kernel
theorem dX10_sleptAll_20 : decode cX10_sleptAll 20 = .ok (.iadd, 1) := by decide +kernel
theorem dX10_sleptAll_21 : decode cX10_sleptAll 21 = .ok (.iaload, 1) := by decide +kernel
theorem dX10_sleptAll_22 : decode cX10_sleptAll 22 = .ok (.iadd, 1) := by decide +kernel
theorem dX10_sleptAll_23 : decode cX10_sleptAll 23 = .ok (.istore_n 1, 1) := by decide +kernel
theorem dX10_sleptAll_24 : decode cX10_sleptAll 24 = .ok (.iinc 2 1, 3) := by decide +kernel
theorem dX10_sleptAll_27 : decode cX10_sleptAll 27 = .ok (.goto (-23), 3) := by decide +kernel
theorem dX10_sleptAll_30 : decode cX10_sleptAll 30 = .ok (.iload_n 1, 1) := by decide +kernel
theorem dX10_sleptAll_31 : decode cX10_sleptAll 31 = .ok (.ireturn, 1) := by decide +kernel
theorem dX10_sleptNow_0 : decode cX10_sleptNow 0 = .ok (.iconst 0, 1) := by decide +kernel
theorem dX10_sleptNow_1 : decode cX10_sleptNow 1 = .ok (.istore_n 1, 1) := by decide +kernel
theorem dX10_sleptNow_2 : decode cX10_sleptNow 2 = .ok (.iconst 0, 1) := by decide +kernel
theorem dX10_sleptNow_3 : decode cX10_sleptNow 3 = .ok (.istore_n 2, 1) := by decide +kernel
theorem dX10_sleptNow_4 : decode cX10_sleptNow 4 = .ok (.iload_n 2, 1) := by decide +kernel
theorem dX10_sleptNow_5 : decode cX10_sleptNow 5 = .ok (.aload_n 0, 1) := by decide +kernel
theorem dX10_sleptNow_6 : decode cX10_sleptNow 6 = .ok (.getfield 156, 3) := by decide +kernel
theorem dX10_sleptNow_9 : decode cX10_sleptNow 9 = .ok (.if_icmp .ge 31, 3) := by decide +kernel
theorem dX10_sleptNow_12 : decode cX10_sleptNow 12 = .ok (.iload_n 1, 1) := by decide +kernel
theorem dX10_sleptNow_13 : decode cX10_sleptNow 13 = .ok (.aload_n 0, 1) := by decide +kernel
theorem dX10_sleptNow_14 : decode cX10_sleptNow 14 = .ok (.getfield 65, 3) := by decide +kernel
theorem dX10_sleptNow_17 : decode cX10_sleptNow 17 = .ok (.bipush 30, 2) := by decide +kernel
theorem dX10_sleptNow_19 : decode cX10_sleptNow 19 = .ok (.iload_n 2, 1) := by decide +kernel
theorem dX10_sleptNow_20 : decode cX10_sleptNow 20 = .ok (.iadd, 1) := by decide +kernel
theorem dX10_sleptNow_21 : decode cX10_sleptNow 21 = .ok (.iaload, 1) := by decide +kernel
theorem dX10_sleptNow_22 : decode cX10_sleptNow 22 = .ok (.aload_n 0, 1) := by decide +kernel
theorem dX10_sleptNow_23 : decode cX10_sleptNow 23 = .ok (.getfield 62, 3) := by decide +kernel
theorem dX10_sleptNow_26 : decode cX10_sleptNow 26 = .ok (.bipush 30, 2) := by decide +kernel
theorem dX10_sleptNow_28 : decode cX10_sleptNow 28 = .ok (.iload_n 2, 1) := by decide +kernel
theorem dX10_sleptNow_29 : decode cX10_sleptNow 29 = .ok (.iadd, 1) := by decide +kernel
theorem dX10_sleptNow_30 : decode cX10_sleptNow 30 = .ok (.iaload, 1) := by decide +kernel
theorem dX10_sleptNow_31 : decode cX10_sleptNow 31 = .ok (.isub, 1) := by decide +kernel
theorem dX10_sleptNow_32 : decode cX10_sleptNow 32 = .ok (.iadd, 1) := by decide +kernel
theorem dX10_sleptNow_33 : decode cX10_sleptNow 33 = .ok (.istore_n 1, 1) := by decide +kernel
theorem dX10_sleptNow_34 : decode cX10_sleptNow 34 = .ok (.iinc 2 1, 3) := by decide +kernel
theorem dX10_sleptNow_37 : decode cX10_sleptNow 37 = .ok (.goto (-33), 3) := by decide +kernel
theorem dX10_sleptNow_40 : decode cX10_sleptNow 40 = .ok (.iload_n 1, 1) := by decide +kernel
theorem dX10_sleptNow_41 : decode cX10_sleptNow 41 = .ok (.ireturn, 1) := by decide +kernel
theorem dX10_soon_0 : decode cX10_soon 0 = .ok (.aload_n 0, 1) := by decide +kernel
theorem dX10_soon_1 : decode cX10_soon 1 = .ok (.iconst 0, 1) := by decide +kernel
theorem dX10_soon_2 : decode cX10_soon 2 = .ok (.putfield 3, 3) := by decide +kernel
theorem dX10_soon_5 : decode cX10_soon 5 = .ok (.aload_n 0, 1) := by decide +kernel
theorem dX10_soon_6 : decode cX10_soon 6 = .ok (.iload_n 1, 1) := by decide +kernel
theorem dX10_soon_7 : decode cX10_soon 7 = .ok (.iconst 1, 1) := by decide +kernel
theorem dX10_soon_8 : decode cX10_soon 8 = .ok (.invokevirtual 383, 3) := by decide +kernel
theorem dX10_soon_11 : decode cX10_soon 11 = .ok (.ifCond .ne 5, 3) := by decide +kernel
theorem dX10_soon_14 : decode cX10_soon 14 = .ok (.iconst 0, 1) := by decide +kernel
theorem dX10_soon_15 : decode cX10_soon 15 = .ok (.ireturn, 1) := by decide +kernel
theorem dX10_soon_16 : decode cX10_soon 16 = .ok (.aload_n 0, 1) := by decide +kernel
theorem dX10_soon_17 : decode cX10_soon 17 = .ok (.invokevirtual 316, 3) := by decide +kernel
theorem dX10_soon_20 : decode cX10_soon 20 = .ok (.iconst 0, 1) := by decide +kernel
theorem dX10_soon_21 : decode cX10_soon 21 = .ok (.istore_n 2, 1) := by decide +kernel
theorem dX10_soon_22 : decode cX10_soon 22 = .ok (.iload_n 2, 1) := by decide +kernel
theorem dX10_soon_23 : decode cX10_soon 23 = .ok (.bipush 120, 2) := by decide +kernel
theorem dX10_soon_25 : decode cX10_soon 25 = .ok (.if_icmp .gt 24, 3) := by decide +kernel
theorem dX10_soon_28 : decode cX10_soon 28 = .ok (.aload_n 0, 1) := by decide +kernel
theorem dX10_soon_29 : decode cX10_soon 29 = .ok (.iload_n 1, 1) := by decide +kernel
theorem dX10_soon_30 : decode cX10_soon 30 = .ok (.invokevirtual 343, 3) := by decide +kernel
theorem dX10_soon_33 : decode cX10_soon 33 = .ok (.ifCond .eq 5, 3) := by decide +kernel
theorem dX10_soon_36 : decode cX10_soon 36 = .ok (.iload_n 2, 1) := by decide +kernel
theorem dX10_soon_37 : decode cX10_soon 37 = .ok (.ireturn, 1) := by decide +kernel
theorem dX10_soon_38 : decode cX10_soon 38 = .ok (.aload_n 0, 1) := by decide +kernel
theorem dX10_soon_39 : decode cX10_soon 39 = .ok (.invokevirtual 372, 3) := by decide +kernel
theorem dX10_soon_42 : decode cX10_soon 42 = .ok (.pop, 1) := by decide +kernel
theorem dX10_soon_43 : decode cX10_soon 43 = .ok (.iinc 2 1, 3) := by decide +kernel
theorem dX10_soon_46 : decode cX10_soon 46 = .ok (.goto (-24), 3) := by decide +kernel
theorem dX10_soon_49 : decode cX10_soon 49 = .ok (.iconst (-1), 1) := by decide +kernel
theorem dX10_soon_50 : decode cX10_soon 50 = .ok (.ireturn, 1) := by decide +kernel
theorem dX10_span_0 : decode cX10_span 0 = .ok (.aload_n 0, 1) := by decide +kernel
theorem dX10_span_1 : decode cX10_span 1 = .ok (.iconst 0, 1) := by decide +kernel
theorem dX10_span_2 : decode cX10_span 2 = .ok (.putfield 3, 3) := by decide +kernel
theorem dX10_span_5 : decode cX10_span 5 = .ok (.aload_n 0, 1) := by decide +kernel
theorem dX10_span_6 : decode cX10_span 6 = .ok (.iload_n 2, 1) := by decide +kernel
theorem dX10_span_7 : decode cX10_span 7 = .ok (.iconst 1, 1) := by decide +kernel
theorem dX10_span_8 : decode cX10_span 8 = .ok (.bipush 20, 2) := by decide +kernel
theorem dX10_span_10 : decode cX10_span 10 = .ok (.invokestatic 282, 3) := by decide +kernel
theorem dX10_span_13 : decode cX10_span 13 = .ok (.ifCond .eq 28, 3) := by decide +kernel
theorem dX10_span_16 : decode cX10_span 16 = .ok (.iload_n 3, 1) := by decide +kernel
theorem dX10_span_17 : decode cX10_span 17 = .ok (.iload 4, 2) := by decide +kernel
theorem dX10_span_19 : decode cX10_span 19 = .ok (.iload 5, 2) := by decide +kernel
theorem dX10_span_21 : decode cX10_span 21 = .ok (.invokestatic 455, 3) := by decide +kernel
theorem dX10_span_24 : decode cX10_span 24 = .ok (.ifCond .eq 17, 3) := by decide +kernel
theorem dX10_span_27 : decode cX10_span 27 = .ok (.iload 6, 2) := by decide +kernel
theorem dX10_span_29 : decode cX10_span 29 = .ok (.iconst 0, 1) := by decide +kernel
theorem dX10_span_30 : decode cX10_span 30 = .ok (.iconst 2, 1) := by decide +kernel
theorem dX10_span_31 : decode cX10_span 31 = .ok (.invokestatic 282, 3) := by decide +kernel
theorem dX10_span_34 : decode cX10_span 34 = .ok (.ifCond .eq 7, 3) := by decide +kernel
theorem dX10_span_37 : decode cX10_span 37 = .ok (.iconst 1, 1) := by decide +kernel
theorem dX10_span_38 : decode cX10_span 38 = .ok (.goto 4, 3) := by decide +kernel
theorem dX10_span_41 : decode cX10_span 41 = .ok (.iconst 0, 1) := by decide +kernel
theorem dX10_span_42 : decode cX10_span 42 = .ok (.iconst 1, 1) := by decide +kernel
theorem dX10_span_43 : decode cX10_span 43 = .ok (.iconst 1, 1) := by decide +kernel
theorem dX10_span_44 : decode cX10_span 44 = .ok (.invokevirtual 203, 3) := by decide +kernel
theorem dX10_span_47 : decode cX10_span 47 = .ok (.ifCond .ne 5, 3) := by decide +kernel
theorem dX10_span_50 : decode cX10_span 50 = .ok (.iconst 0, 1) := by decide +kernel
theorem dX10_span_51 : decode cX10_span 51 = .ok (.ireturn, 1) := by decide +kernel
theorem dX10_span_52 : decode cX10_span 52 = .ok (.iconst (-1), 1) := by decide +kernel
theorem dX10_span_53 : decode cX10_span 53 = .ok (.istore 7, 2) := by decide +kernel
theorem dX10_span_55 : decode cX10_span 55 = .ok (.iconst 0, 1) := by decide +kernel
theorem dX10_span_56 : decode cX10_span 56 = .ok (.istore 8, 2) := by decide +kernel
theorem dX10_span_58 : decode cX10_span 58 = .ok (.iconst 0, 1) := by decide +kernel
theorem dX10_span_59 : decode cX10_span 59 = .ok (.istore 9, 2) := by decide +kernel
theorem dX10_span_61 : decode cX10_span 61 = .ok (.iconst 0, 1) := by decide +kernel
theorem dX10_span_62 : decode cX10_span 62 = .ok (.istore 10, 2) := by decide +kernel
theorem dX10_span_64 : decode cX10_span 64 = .ok (.iload 10, 2) := by decide +kernel
theorem dX10_span_66 : decode cX10_span 66 = .ok (.iload_n 2, 1) := by decide +kernel
theorem dX10_span_67 : decode cX10_span 67 = .ok (.if_icmp .ge 93, 3) := by decide +kernel
theorem dX10_span_70 : decode cX10_span 70 = .ok (.aload_n 0, 1) := by decide +kernel
theorem dX10_span_71 : decode cX10_span 71 = .ok (.iload_n 1, 1) := by decide +kernel
theorem dX10_span_72 : decode cX10_span 72 = .ok (.iload 10, 2) := by decide +kernel
theorem dX10_span_74 : decode cX10_span 74 = .ok (.iadd, 1) := by decide +kernel
theorem dX10_span_75 : decode cX10_span 75 = .ok (.iload_n 3, 1) := by decide +kernel
theorem dX10_span_76 : decode cX10_span 76 = .ok (.iload 4, 2) := by decide +kernel
theorem dX10_span_78 : decode cX10_span 78 = .ok (.iload 5, 2) := by decide +kernel
theorem dX10_span_80 : decode cX10_span 80 = .ok (.invokevirtual 458, 3) := by decide +kernel
theorem dX10_span_83 : decode cX10_span 83 = .ok (.aload_n 0, 1) := by decide +kernel
theorem dX10_span_84 : decode cX10_span 84 = .ok (.invokevirtual 462, 3) := by decide +kernel
theorem dX10_span_87 : decode cX10_span 87 = .ok (.istore 11, 2) := by decide +kernel
theorem dX10_span_89 : decode cX10_span 89 = .ok (.iload 7, 2) := by decide +kernel
theorem dX10_span_91 : decode cX10_span 91 = .ok (.iconst (-1), 1) := by decide +kernel
theorem dX10_span_92 : decode cX10_span 92 = .ok (.if_icmp .eq 10, 3) := by decide +kernel
theorem dX10_span_95 : decode cX10_span 95 = .ok (.iload 11, 2) := by decide +kernel
theorem dX10_span_97 : decode cX10_span 97 = .ok (.iload 7, 2) := by decide +kernel
theorem dX10_span_99 : decode cX10_span 99 = .ok (.if_icmp .ge 8, 3) := by decide +kernel
theorem dX10_span_102 : decode cX10_span 102 = .ok (.iload 11, 2) := by decide +kernel
theorem dX10_span_104 : decode cX10_span 104 = .ok (.goto 5, 3) := by decide +kernel
theorem dX10_span_107 : decode cX10_span 107 = .ok (.iload 7, 2) := by decide +kernel
theorem dX10_span_109 : decode cX10_span 109 = .ok (.istore 7, 2) := by decide +kernel
theorem dX10_span_111 : decode cX10_span 111 = .ok (.iload 11, 2) := by decide +kernel
theorem dX10_span_113 : decode cX10_span 113 = .ok (.iload 8, 2) := by decide +kernel
theorem dX10_span_115 : decode cX10_span 115 = .ok (.if_icmp .le 8, 3) := by decide +kernel
theorem dX10_span_118 : decode cX10_span 118 = .ok (.iload 11, 2) := by decide +kernel
theorem dX10_span_120 : decode cX10_span 120 = .ok (.goto 5, 3) := by decide +kernel
theorem dX10_span_123 : decode cX10_span 123 = .ok (.iload 8, 2) := by decide +kernel
theorem dX10_span_125 : decode cX10_span 125 = .ok (.istore 8, 2) := by decide +kernel
theorem dX10_span_127 : decode cX10_span 127 = .ok (.iload 9, 2) := by decide +kernel
theorem dX10_span_129 : decode cX10_span 129 = .ok (.aload_n 0, 1) := by decide +kernel
theorem dX10_span_130 : decode cX10_span 130 = .ok (.getfield 65, 3) := by decide +kernel
theorem dX10_span_133 : decode cX10_span 133 = .ok (.bipush 41, 2) := by decide +kernel
theorem dX10_span_135 : decode cX10_span 135 = .ok (.iaload, 1) := by decide +kernel
theorem dX10_span_136 : decode cX10_span 136 = .ok (.aload_n 0, 1) := by decide +kernel
theorem dX10_span_137 : decode cX10_span 137 = .ok (.getfield 62, 3) := by decide +kernel
theorem dX10_span_140 : decode cX10_span 140 = .ok (.bipush 41, 2) := by decide +kernel
theorem dX10_span_142 : decode cX10_span 142 = .ok (.iaload, 1) := by decide +kernel
theorem dX10_span_143 : decode cX10_span 143 = .ok (.if_icmp .ne 7, 3) := by decide +kernel
theorem dX10_span_146 : decode cX10_span 146 = .ok (.iconst 1, 1) := by decide +kernel
theorem dX10_span_147 : decode cX10_span 147 = .ok (.goto 4, 3) := by decide +kernel
theorem dX10_span_150 : decode cX10_span 150 = .ok (.iconst 0, 1) := by decide +kernel
theorem dX10_span_151 : decode cX10_span 151 = .ok (.iadd, 1) := by decide +kernel
theorem dX10_span_152 : decode cX10_span 152 = .ok (.istore 9, 2) := by decide +kernel
theorem dX10_span_154 : decode cX10_span 154 = .ok (.iinc 10 1, 3) := by decide +kernel
theorem dX10_span_157 : decode cX10_span 157 = .ok (.goto (-93), 3) := by decide +kernel
theorem dX10_span_160 : decode cX10_span 160 = .ok (.iload 6, 2) := by decide +kernel
theorem dX10_span_162 : decode cX10_span 162 = .ok (.ifCond .ne 8, 3) := by decide +kernel
theorem dX10_span_165 : decode cX10_span 165 = .ok (.iload 7, 2) := by decide +kernel
theorem dX10_span_167 : decode cX10_span 167 = .ok (.goto 16, 3) := by decide +kernel
theorem dX10_span_170 : decode cX10_span 170 = .ok (.iload 6, 2) := by decide +kernel
theorem dX10_span_172 : decode cX10_span 172 = .ok (.iconst 1, 1) := by decide +kernel
theorem dX10_span_173 : decode cX10_span 173 = .ok (.if_icmp .ne 8, 3) := by decide +kernel
theorem dX10_span_176 : decode cX10_span 176 = .ok (.iload 8, 2) := by decide +kernel
theorem dX10_span_178 : decode cX10_span 178 = .ok (.goto 5, 3) := by decide +kernel
theorem dX10_span_181 : decode cX10_span 181 = .ok (.iload 9, 2) := by decide +kernel
theorem dX10_span_183 : decode cX10_span 183 = .ok (.ireturn, 1) := by decide +kernel
theorem dX10_standsHere_0 : decode cX10_standsHere 0 = .ok (.aload_n 0, 1) := by decide +kernel
theorem dX10_standsHere_1 : decode cX10_standsHere 1 = .ok (.invokevirtual 113, 3) := by decide +kernel
theorem dX10_standsHere_4 : decode cX10_standsHere 4 = .ok (.pop, 1) := by decide +kernel
theorem dX10_standsHere_5 : decode cX10_standsHere 5 = .ok (.iconst 0, 1) := by decide +kernel
theorem dX10_standsHere_6 : decode cX10_standsHere 6 = .ok (.istore_n 2, 1) := by decide +kernel
theorem dX10_standsHere_7 : decode cX10_standsHere 7 = .ok (.iload_n 2, 1) := by decide +kernel
theorem dX10_standsHere_8 : decode cX10_standsHere 8 = .ok (.aload_n 1, 1) := by decide +kernel
theorem dX10_standsHere_9 : decode cX10_standsHere 9 = .ok (.invokevirtual 121, 3) := by decide +kernel
theorem dX10_standsHere_12 : decode cX10_standsHere 12 = .ok (.if_icmp .ge 43, 3) := by decide +kernel
theorem dX10_standsHere_15 : decode cX10_standsHere 15 = .ok (.aload_n 0, 1) := by decide +kernel
theorem dX10_standsHere_16 : decode cX10_standsHere 16 = .ok (.getfield 107, 3) := by decide +kernel
theorem dX10_standsHere_19 : decode cX10_standsHere 19 = .ok (.iload_n 2, 1) := by decide +kernel
theorem dX10_standsHere_20 : decode cX10_standsHere 20 = .ok (.iadd, 1) := by decide +kernel
theorem dX10_standsHere_21 : decode cX10_standsHere 21 = .ok (.aload_n 0, 1) := by decide +kernel
theorem dX10_standsHere_22 : decode cX10_standsHere 22 = .ok (.getfield 110, 3) := by decide +kernel
theorem dX10_standsHere_25 : decode cX10_standsHere 25 = .ok (.if_icmp .ge 22, 3) := by decide +kernel
theorem dX10_standsHere_28 : decode cX10_standsHere 28 = .ok (.aload_n 0, 1) := by decide +kernel
theorem dX10_standsHere_29 : decode cX10_standsHere 29 = .ok (.getfield 20, 3) := by decide +kernel
theorem dX10_standsHere_32 : decode cX10_standsHere 32 = .ok (.aload_n 0, 1) := by decide +kernel
theorem dX10_standsHere_33 : decode cX10_standsHere 33 = .ok (.getfield 107, 3) := by decide +kernel
theorem dX10_standsHere_36 : decode cX10_standsHere 36 = .ok (.iload_n 2, 1) := by decide +kernel
theorem dX10_standsHere_37 : decode cX10_standsHere 37 = .ok (.iadd, 1) := by decide +kernel
theorem dX10_standsHere_38 : decode cX10_standsHere 38 = .ok (.iaload, 1) := by decide +kernel
theorem dX10_standsHere_39 : decode cX10_standsHere 39 = .ok (.aload_n 1, 1) := by decide +kernel
theorem dX10_standsHere_40 : decode cX10_standsHere 40 = .ok (.iload_n 2, 1) := by decide +kernel
theorem dX10_standsHere_41 : decode cX10_standsHere 41 = .ok (.invokevirtual 126, 3) := by decide +kernel
theorem dX10_standsHere_44 : decode cX10_standsHere 44 = .ok (.if_icmp .eq 5, 3) := by decide +kernel
theorem dX10_standsHere_47 : decode cX10_standsHere 47 = .ok (.iconst 0, 1) := by decide +kernel
theorem dX10_standsHere_48 : decode cX10_standsHere 48 = .ok (.ireturn, 1) := by decide +kernel
theorem dX10_standsHere_49 : decode cX10_standsHere 49 = .ok (.iinc 2 1, 3) := by decide +kernel
theorem dX10_standsHere_52 : decode cX10_standsHere 52 = .ok (.goto (-45), 3) := by decide +kernel
theorem dX10_standsHere_55 : decode cX10_standsHere 55 = .ok (.aload_n 0, 1) := by decide +kernel
theorem dX10_standsHere_56 : decode cX10_standsHere 56 = .ok (.getfield 107, 3) := by decide +kernel
theorem dX10_standsHere_59 : decode cX10_standsHere 59 = .ok (.aload_n 1, 1) := by decide +kernel
theorem dX10_standsHere_60 : decode cX10_standsHere 60 = .ok (.invokevirtual 121, 3) := by decide +kernel
theorem dX10_standsHere_63 : decode cX10_standsHere 63 = .ok (.iadd, 1) := by decide +kernel
theorem dX10_standsHere_64 : decode cX10_standsHere 64 = .ok (.aload_n 0, 1) := by decide +kernel
theorem dX10_standsHere_65 : decode cX10_standsHere 65 = .ok (.getfield 110, 3) := by decide +kernel
theorem dX10_standsHere_68 : decode cX10_standsHere 68 = .ok (.if_icmp .ge 23, 3) := by decide +kernel
theorem dX10_standsHere_71 : decode cX10_standsHere 71 = .ok (.aload_n 0, 1) := by decide +kernel
theorem dX10_standsHere_72 : decode cX10_standsHere 72 = .ok (.getfield 20, 3) := by decide +kernel
theorem dX10_standsHere_75 : decode cX10_standsHere 75 = .ok (.aload_n 0, 1) := by decide +kernel
theorem dX10_standsHere_76 : decode cX10_standsHere 76 = .ok (.getfield 107, 3) := by decide +kernel
theorem dX10_standsHere_79 : decode cX10_standsHere 79 = .ok (.aload_n 1, 1) := by decide +kernel
theorem dX10_standsHere_80 : decode cX10_standsHere 80 = .ok (.invokevirtual 121, 3) := by decide +kernel
theorem dX10_standsHere_83 : decode cX10_standsHere 83 = .ok (.iadd, 1) := by decide +kernel
theorem dX10_standsHere_84 : decode cX10_standsHere 84 = .ok (.iaload, 1) := by decide +kernel
theorem dX10_standsHere_85 : decode cX10_standsHere 85 = .ok (.invokestatic 117, 3) := by decide +kernel
theorem dX10_standsHere_88 : decode cX10_standsHere 88 = .ok (.ifCond .ne 7, 3) := by decide +kernel
theorem dX10_standsHere_91 : decode cX10_standsHere 91 = .ok (.iconst 1, 1) := by decide +kernel
theorem dX10_standsHere_92 : decode cX10_standsHere 92 = .ok (.goto 4, 3) := by decide +kernel
theorem dX10_standsHere_95 : decode cX10_standsHere 95 = .ok (.iconst 0, 1) := by decide +kernel
theorem dX10_standsHere_96 : decode cX10_standsHere 96 = .ok (.ireturn, 1) := by decide +kernel
theorem dX10_status_0 : decode cX10_status 0 = .ok (.aload_n 0, 1) := by decide +kernel
theorem dX10_status_1 : decode cX10_status 1 = .ok (.iconst 0, 1) := by decide +kernel
theorem dX10_status_2 : decode cX10_status 2 = .ok (.putfield 3, 3) := by decide +kernel
theorem dX10_status_5 : decode cX10_status 5 = .ok (.iload_n 1, 1) := by decide +kernel
theorem dX10_status_6 : decode cX10_status 6 = .ok (.iconst 0, 1) := by decide +kernel
theorem dX10_status_7 : decode cX10_status 7 = .ok (.iconst 1, 1) := by decide +kernel
theorem dX10_status_8 : decode cX10_status 8 = .ok (.invokestatic 282, 3) := by decide +kernel
theorem dX10_status_11 : decode cX10_status 11 = .ok (.ifCond .eq 12, 3) := by decide +kernel
theorem dX10_status_14 : decode cX10_status 14 = .ok (.aload_n 0, 1) := by decide +kernel
theorem dX10_status_15 : decode cX10_status 15 = .ok (.getfield 7, 3) := by decide +kernel
theorem dX10_status_18 : decode cX10_status 18 = .ok (.iload_n 1, 1) := by decide +kernel
theorem dX10_status_19 : decode cX10_status 19 = .ok (.iaload, 1) := by decide +kernel
theorem dX10_status_20 : decode cX10_status 20 = .ok (.goto 4, 3) := by decide +kernel
theorem dX10_status_23 : decode cX10_status 23 = .ok (.iconst (-1), 1) := by decide +kernel
theorem dX10_status_24 : decode cX10_status 24 = .ok (.ireturn, 1) := by decide +kernel
theorem dX10_take_0 : decode cX10_take 0 = .ok (.aload_n 0, 1) := by decide +kernel
theorem dX10_take_1 : decode cX10_take 1 = .ok (.aload_n 0, 1) := by decide +kernel
theorem dX10_take_2 : decode cX10_take 2 = .ok (.getfield 62, 3) := by decide +kernel
theorem dX10_take_5 : decode cX10_take 5 = .ok (.aload_n 0, 1) := by decide +kernel
theorem dX10_take_6 : decode cX10_take 6 = .ok (.getfield 65, 3) := by decide +kernel
theorem dX10_take_9 : decode cX10_take 9 = .ok (.bipush 42, 2) := by decide +kernel
theorem dX10_take_11 : decode cX10_take 11 = .ok (.invokevirtual 165, 3) := by decide +kernel
theorem dX10_take_14 : decode cX10_take 14 = .ok (.aload_n 0, 1) := by decide +kernel
theorem dX10_take_15 : decode cX10_take 15 = .ok (.iconst 0, 1) := by decide +kernel
theorem dX10_take_16 : decode cX10_take 16 = .ok (.putfield 334, 3) := by decide +kernel
theorem dX10_take_19 : decode cX10_take 19 = .ok (.iconst 0, 1) := by decide +kernel
theorem dX10_take_20 : decode cX10_take 20 = .ok (.istore_n 1, 1) := by decide +kernel
theorem dX10_take_21 : decode cX10_take 21 = .ok (.iload_n 1, 1) := by decide +kernel
theorem dX10_take_22 : decode cX10_take 22 = .ok (.iconst 5, 1) := by decide +kernel
theorem dX10_take_23 : decode cX10_take 23 = .ok (.if_icmp .ge 16, 3) := by decide +kernel
theorem dX10_take_26 : decode cX10_take 26 = .ok (.aload_n 0, 1) := by decide +kernel
theorem dX10_take_27 : decode cX10_take 27 = .ok (.getfield 74, 3) := by decide +kernel
theorem dX10_take_30 : decode cX10_take 30 = .ok (.iload_n 1, 1) := by decide +kernel
theorem dX10_take_31 : decode cX10_take 31 = .ok (.iconst 0, 1) := by decide +kernel
theorem dX10_take_32 : decode cX10_take 32 = .ok (.iastore, 1) := by decide +kernel
theorem dX10_take_33 : decode cX10_take 33 = .ok (.iinc 1 1, 3) := by decide +kernel
theorem dX10_take_36 : decode cX10_take 36 = .ok (.goto (-15), 3) := by decide +kernel
theorem dX10_take_39 : decode cX10_take 39 = .ok (.return_, 1) := by decide +kernel
theorem dX10_tellsStep_0 : decode cX10_tellsStep 0 = .ok (.aload_n 0, 1) := by decide +kernel
theorem dX10_tellsStep_1 : decode cX10_tellsStep 1 = .ok (.invokevirtual 130, 3) := by decide +kernel
theorem dX10_tellsStep_4 : decode cX10_tellsStep 4 = .ok (.ifCond .ne 4, 3) := by decide +kernel
theorem dX10_tellsStep_7 : decode cX10_tellsStep 7 = .ok (.return_, 1) := by decide +kernel
theorem dX10_tellsStep_8 : decode cX10_tellsStep 8 = .ok (.aload_n 0, 1) := by decide +kernel
theorem dX10_tellsStep_9 : decode cX10_tellsStep 9 = .ok (.getfield 56, 3) := by decide +kernel
theorem dX10_tellsStep_12 : decode cX10_tellsStep 12 = .ok (.aload_n 0, 1) := by decide +kernel
theorem dX10_tellsStep_13 : decode cX10_tellsStep 13 = .ok (.getfield 293, 3) := by decide +kernel
theorem dX10_tellsStep_16 : decode cX10_tellsStep 16 = .ok (.iload_n 1, 1) := by decide +kernel
theorem dX10_tellsStep_17 : decode cX10_tellsStep 17 = .ok (.iastore, 1) := by decide +kernel
theorem dX10_tellsStep_18 : decode cX10_tellsStep 18 = .ok (.aload_n 0, 1) := by decide +kernel
theorem dX10_tellsStep_19 : decode cX10_tellsStep 19 = .ok (.getfield 56, 3) := by decide +kernel
theorem dX10_tellsStep_22 : decode cX10_tellsStep 22 = .ok (.aload_n 0, 1) := by decide +kernel
theorem dX10_tellsStep_23 : decode cX10_tellsStep 23 = .ok (.getfield 293, 3) := by decide +kernel
theorem dX10_tellsStep_26 : decode cX10_tellsStep 26 = .ok (.iconst 1, 1) := by decide +kernel
theorem dX10_tellsStep_27 : decode cX10_tellsStep 27 = .ok (.iadd, 1) := by decide +kernel
theorem dX10_tellsStep_28 : decode cX10_tellsStep 28 = .ok (.iload_n 2, 1) := by decide +kernel
theorem dX10_tellsStep_29 : decode cX10_tellsStep 29 = .ok (.iastore, 1) := by decide +kernel
theorem dX10_tellsStep_30 : decode cX10_tellsStep 30 = .ok (.aload_n 0, 1) := by decide +kernel
theorem dX10_tellsStep_31 : decode cX10_tellsStep 31 = .ok (.getfield 56, 3) := by decide +kernel
theorem dX10_tellsStep_34 : decode cX10_tellsStep 34 = .ok (.aload_n 0, 1) := by decide +kernel
theorem dX10_tellsStep_35 : decode cX10_tellsStep 35 = .ok (.getfield 293, 3) := by decide +kernel
theorem dX10_tellsStep_38 : decode cX10_tellsStep 38 = .ok (.iconst 2, 1) := by decide +kernel
theorem dX10_tellsStep_39 : decode cX10_tellsStep 39 = .ok (.iadd, 1) := by decide +kernel
theorem dX10_tellsStep_40 : decode cX10_tellsStep 40 = .ok (.iload_n 3, 1) := by decide +kernel
theorem dX10_tellsStep_41 : decode cX10_tellsStep 41 = .ok (.iastore, 1) := by decide +kernel
theorem dX10_tellsStep_42 : decode cX10_tellsStep 42 = .ok (.aload_n 0, 1) := by decide +kernel
theorem dX10_tellsStep_43 : decode cX10_tellsStep 43 = .ok (.dup, 1) := by decide +kernel
theorem dX10_tellsStep_44 : decode cX10_tellsStep 44 = .ok (.getfield 293, 3) := by decide +kernel
theorem dX10_tellsStep_47 : decode cX10_tellsStep 47 = .ok (.iconst 3, 1) := by decide +kernel
theorem dX10_tellsStep_48 : decode cX10_tellsStep 48 = .ok (.iadd, 1) := by decide +kernel
theorem dX10_tellsStep_49 : decode cX10_tellsStep 49 = .ok (.putfield 293, 3) := by decide +kernel
theorem dX10_tellsStep_52 : decode cX10_tellsStep 52 = .ok (.return_, 1) := by decide +kernel
theorem dX10_thrown_0 : decode cX10_thrown 0 = .ok (.aload_n 0, 1) := by decide +kernel
theorem dX10_thrown_1 : decode cX10_thrown 1 = .ok (.getfield 3, 3) := by decide +kernel
theorem dX10_thrown_4 : decode cX10_thrown 4 = .ok (.ireturn, 1) := by decide +kernel
theorem dX10_told_0 : decode cX10_told 0 = .ok (.aload_n 0, 1) := by decide +kernel
theorem dX10_told_1 : decode cX10_told 1 = .ok (.iconst 0, 1) := by decide +kernel
theorem dX10_told_2 : decode cX10_told 2 = .ok (.putfield 3, 3) := by decide +kernel
theorem dX10_told_5 : decode cX10_told 5 = .ok (.aload_n 0, 1) := by decide +kernel
theorem dX10_told_6 : decode cX10_told 6 = .ok (.iload_n 1, 1) := by decide +kernel
theorem dX10_told_7 : decode cX10_told 7 = .ok (.iconst 0, 1) := by decide +kernel
theorem dX10_told_8 : decode cX10_told 8 = .ok (.bipush 7, 2) := by decide +kernel
theorem dX10_told_10 : decode cX10_told 10 = .ok (.invokestatic 282, 3) := by decide +kernel
theorem dX10_told_13 : decode cX10_told 13 = .ok (.iconst 1, 1) := by decide +kernel
theorem dX10_told_14 : decode cX10_told 14 = .ok (.iconst 1, 1) := by decide +kernel
theorem dX10_told_15 : decode cX10_told 15 = .ok (.invokevirtual 203, 3) := by decide +kernel
theorem dX10_told_18 : decode cX10_told 18 = .ok (.ifCond .ne 5, 3) := by decide +kernel
theorem dX10_told_21 : decode cX10_told 21 = .ok (.iconst 0, 1) := by decide +kernel
theorem dX10_told_22 : decode cX10_told 22 = .ok (.ireturn, 1) := by decide +kernel
theorem dX10_told_23 : decode cX10_told 23 = .ok (.aload_n 0, 1) := by decide +kernel
theorem dX10_told_24 : decode cX10_told 24 = .ok (.invokevirtual 316, 3) := by decide +kernel
theorem dX10_told_27 : decode cX10_told 27 = .ok (.iload_n 1, 1) := by decide +kernel
theorem dX10_told_28 : decode cX10_told 28 = .ok (.iconst 3, 1) := by decide +kernel
theorem dX10_told_29 : decode cX10_told 29 = .ok (.if_icmp .ge 34, 3) := by decide +kernel
theorem dX10_told_32 : decode cX10_told 32 = .ok (.iload_n 1, 1) := by decide +kernel
theorem dX10_told_33 : decode cX10_told 33 = .ok (.ifCond .ne 10, 3) := by decide +kernel
theorem dX10_told_36 : decode cX10_told 36 = .ok (.aload_n 0, 1) := by decide +kernel
theorem dX10_told_37 : decode cX10_told 37 = .ok (.getfield 156, 3) := by decide +kernel
theorem dX10_told_40 : decode cX10_told 40 = .ok (.goto 22, 3) := by decide +kernel
theorem dX10_told_43 : decode cX10_told 43 = .ok (.iload_n 1, 1) := by decide +kernel
theorem dX10_told_44 : decode cX10_told 44 = .ok (.iconst 1, 1) := by decide +kernel
theorem dX10_told_45 : decode cX10_told 45 = .ok (.if_icmp .ne 13, 3) := by decide +kernel
theorem dX10_told_48 : decode cX10_told 48 = .ok (.aload_n 0, 1) := by decide +kernel
theorem dX10_told_49 : decode cX10_told 49 = .ok (.getfield 65, 3) := by decide +kernel
theorem dX10_told_52 : decode cX10_told 52 = .ok (.bipush 40, 2) := by decide +kernel
theorem dX10_told_54 : decode cX10_told 54 = .ok (.iaload, 1) := by decide +kernel
theorem dX10_told_55 : decode cX10_told 55 = .ok (.goto 7, 3) := by decide +kernel
theorem dX10_told_58 : decode cX10_told 58 = .ok (.aload_n 0, 1) := by decide +kernel
theorem dX10_told_59 : decode cX10_told 59 = .ok (.invokevirtual 380, 3) := by decide +kernel
theorem dX10_told_62 : decode cX10_told 62 = .ok (.ireturn, 1) := by decide +kernel
theorem dX10_told_63 : decode cX10_told 63 = .ok (.iload_n 1, 1) := by decide +kernel
theorem dX10_told_64 : decode cX10_told 64 = .ok (.iconst 5, 1) := by decide +kernel
theorem dX10_told_65 : decode cX10_told 65 = .ok (.if_icmp .ge 23, 3) := by decide +kernel
theorem dX10_told_68 : decode cX10_told 68 = .ok (.iload_n 1, 1) := by decide +kernel
theorem dX10_told_69 : decode cX10_told 69 = .ok (.iconst 3, 1) := by decide +kernel
theorem dX10_told_70 : decode cX10_told 70 = .ok (.if_icmp .ne 10, 3) := by decide +kernel
theorem dX10_told_73 : decode cX10_told 73 = .ok (.aload_n 0, 1) := by decide +kernel
theorem dX10_told_74 : decode cX10_told 74 = .ok (.invokevirtual 377, 3) := by decide +kernel
theorem dX10_told_77 : decode cX10_told 77 = .ok (.goto 10, 3) := by decide +kernel
theorem dX10_told_80 : decode cX10_told 80 = .ok (.aload_n 0, 1) := by decide +kernel
theorem dX10_told_81 : decode cX10_told 81 = .ok (.getfield 65, 3) := by decide +kernel
theorem dX10_told_84 : decode cX10_told 84 = .ok (.bipush 41, 2) := by decide +kernel
theorem dX10_told_86 : decode cX10_told 86 = .ok (.iaload, 1) := by decide +kernel
theorem dX10_told_87 : decode cX10_told 87 = .ok (.ireturn, 1) := by decide +kernel
theorem dX10_told_88 : decode cX10_told 88 = .ok (.iload_n 1, 1) := by decide +kernel
theorem dX10_told_89 : decode cX10_told 89 = .ok (.iconst 5, 1) := by decide +kernel
theorem dX10_told_90 : decode cX10_told 90 = .ok (.if_icmp .ne 10, 3) := by decide +kernel
theorem dX10_told_93 : decode cX10_told 93 = .ok (.aload_n 0, 1) := by decide +kernel
theorem dX10_told_94 : decode cX10_told 94 = .ok (.getfield 169, 3) := by decide +kernel
theorem dX10_told_97 : decode cX10_told 97 = .ok (.goto 20, 3) := by decide +kernel
theorem dX10_told_100 : decode cX10_told 100 = .ok (.iload_n 1, 1) := by decide +kernel
theorem dX10_told_101 : decode cX10_told 101 = .ok (.bipush 6, 2) := by decide +kernel
theorem dX10_told_103 : decode cX10_told 103 = .ok (.if_icmp .ne 10, 3) := by decide +kernel
theorem dX10_told_106 : decode cX10_told 106 = .ok (.aload_n 0, 1) := by decide +kernel
theorem dX10_told_107 : decode cX10_told 107 = .ok (.getfield 178, 3) := by decide +kernel
theorem dX10_told_110 : decode cX10_told 110 = .ok (.goto 7, 3) := by decide +kernel
theorem dX10_told_113 : decode cX10_told 113 = .ok (.aload_n 0, 1) := by decide +kernel
theorem dX10_told_114 : decode cX10_told 114 = .ok (.getfield 159, 3) := by decide +kernel
theorem dX10_told_117 : decode cX10_told 117 = .ok (.ireturn, 1) := by decide +kernel
theorem dX10_turnsOn_0 : decode cX10_turnsOn 0 = .ok (.iload_n 1, 1) := by decide +kernel
theorem dX10_turnsOn_1 : decode cX10_turnsOn 1 = .ok (.aload_n 0, 1) := by decide +kernel
theorem dX10_turnsOn_2 : decode cX10_turnsOn 2 = .ok (.getfield 156, 3) := by decide +kernel
theorem dX10_turnsOn_5 : decode cX10_turnsOn 5 = .ok (.if_icmp .ne 23, 3) := by decide +kernel
theorem dX10_turnsOn_8 : decode cX10_turnsOn 8 = .ok (.iload_n 3, 1) := by decide +kernel
theorem dX10_turnsOn_9 : decode cX10_turnsOn 9 = .ok (.ifCond .ne 18, 3) := by decide +kernel
theorem dX10_turnsOn_12 : decode cX10_turnsOn 12 = .ok (.iload 5, 2) := by decide +kernel
theorem dX10_turnsOn_14 : decode cX10_turnsOn 14 = .ok (.aload_n 0, 1) := by decide +kernel
theorem dX10_turnsOn_15 : decode cX10_turnsOn 15 = .ok (.getfield 411, 3) := by decide +kernel
theorem dX10_turnsOn_18 : decode cX10_turnsOn 18 = .ok (.if_icmp .le 9, 3) := by decide +kernel
theorem dX10_turnsOn_21 : decode cX10_turnsOn 21 = .ok (.aload_n 0, 1) := by decide +kernel
theorem dX10_turnsOn_22 : decode cX10_turnsOn 22 = .ok (.iload 5, 2) := by decide +kernel
theorem dX10_turnsOn_24 : decode cX10_turnsOn 24 = .ok (.putfield 411, 3) := by decide +kernel
theorem dX10_turnsOn_27 : decode cX10_turnsOn 27 = .ok (.return_, 1) := by decide +kernel
theorem dX10_turnsOn_28 : decode cX10_turnsOn 28 = .ok (.iload_n 2, 1) := by decide +kernel
theorem dX10_turnsOn_29 : decode cX10_turnsOn 29 = .ok (.iload_n 1, 1) := by decide +kernel
theorem dX10_turnsOn_30 : decode cX10_turnsOn 30 = .ok (.ishr, 1) := by decide +kernel
theorem dX10_turnsOn_31 : decode cX10_turnsOn 31 = .ok (.iconst 1, 1) := by decide +kernel
theorem dX10_turnsOn_32 : decode cX10_turnsOn 32 = .ok (.iand, 1) := by decide +kernel
theorem dX10_turnsOn_33 : decode cX10_turnsOn 33 = .ok (.ifCond .ne 17, 3) := by decide +kernel
theorem dX10_turnsOn_36 : decode cX10_turnsOn 36 = .ok (.aload_n 0, 1) := by decide +kernel
theorem dX10_turnsOn_37 : decode cX10_turnsOn 37 = .ok (.iload_n 1, 1) := by decide +kernel
theorem dX10_turnsOn_38 : decode cX10_turnsOn 38 = .ok (.iconst 1, 1) := by decide +kernel
theorem dX10_turnsOn_39 : decode cX10_turnsOn 39 = .ok (.iadd, 1) := by decide +kernel
theorem dX10_turnsOn_40 : decode cX10_turnsOn 40 = .ok (.iload_n 2, 1) := by decide +kernel
theorem dX10_turnsOn_41 : decode cX10_turnsOn 41 = .ok (.iload_n 3, 1) := by decide +kernel
theorem dX10_turnsOn_42 : decode cX10_turnsOn 42 = .ok (.iload 4, 2) := by decide +kernel
theorem dX10_turnsOn_44 : decode cX10_turnsOn 44 = .ok (.iload 5, 2) := by decide +kernel
theorem dX10_turnsOn_46 : decode cX10_turnsOn 46 = .ok (.invokevirtual 414, 3) := by decide +kernel
theorem dX10_turnsOn_49 : decode cX10_turnsOn 49 = .ok (.return_, 1) := by decide +kernel
theorem dX10_turnsOn_50 : decode cX10_turnsOn 50 = .ok (.bipush 8, 2) := by decide +kernel
theorem dX10_turnsOn_52 : decode cX10_turnsOn 52 = .ok (.aload_n 0, 1) := by decide +kernel
theorem dX10_turnsOn_53 : decode cX10_turnsOn 53 = .ok (.getfield 29, 3) := by decide +kernel
theorem dX10_turnsOn_56 : decode cX10_turnsOn 56 = .ok (.bipush 8, 2) := by decide +kernel
theorem dX10_turnsOn_58 : decode cX10_turnsOn 58 = .ok (.iload_n 1, 1) := by decide +kernel
theorem dX10_turnsOn_59 : decode cX10_turnsOn 59 = .ok (.imul, 1) := by decide +kernel
theorem dX10_turnsOn_60 : decode cX10_turnsOn 60 = .ok (.bipush 7, 2) := by decide +kernel
theorem dX10_turnsOn_62 : decode cX10_turnsOn 62 = .ok (.iadd, 1) := by decide +kernel
theorem dX10_turnsOn_63 : decode cX10_turnsOn 63 = .ok (.iaload, 1) := by decide +kernel
theorem dX10_turnsOn_64 : decode cX10_turnsOn 64 = .ok (.bipush 60, 2) := by decide +kernel
theorem dX10_turnsOn_66 : decode cX10_turnsOn 66 = .ok (.idiv, 1) := by decide +kernel
theorem dX10_turnsOn_67 : decode cX10_turnsOn 67 = .ok (.isub, 1) := by decide +kernel
theorem dX10_turnsOn_68 : decode cX10_turnsOn 68 = .ok (.istore 6, 2) := by decide +kernel
theorem dX10_turnsOn_70 : decode cX10_turnsOn 70 = .ok (.iconst 0, 1) := by decide +kernel
theorem dX10_turnsOn_71 : decode cX10_turnsOn 71 = .ok (.istore 7, 2) := by decide +kernel
theorem dX10_turnsOn_73 : decode cX10_turnsOn 73 = .ok (.iload 7, 2) := by decide +kernel
theorem dX10_turnsOn_75 : decode cX10_turnsOn 75 = .ok (.iload_n 3, 1) := by decide +kernel
theorem dX10_turnsOn_76 : decode cX10_turnsOn 76 = .ok (.if_icmp .gt 62, 3) := by decide +kernel
theorem dX10_turnsOn_79 : decode cX10_turnsOn 79 = .ok (.bipush 8, 2) := by decide +kernel
theorem dX10_turnsOn_81 : decode cX10_turnsOn 81 = .ok (.iload 4, 2) := by decide +kernel
theorem dX10_turnsOn_83 : decode cX10_turnsOn 83 = .ok (.iload 7, 2) := by decide +kernel
theorem dX10_turnsOn_85 : decode cX10_turnsOn 85 = .ok (.isub, 1) := by decide +kernel
theorem dX10_turnsOn_86 : decode cX10_turnsOn 86 = .ok (.imul, 1) := by decide +kernel
theorem dX10_turnsOn_87 : decode cX10_turnsOn 87 = .ok (.iload 6, 2) := by decide +kernel
theorem dX10_turnsOn_89 : decode cX10_turnsOn 89 = .ok (.ifCond .le 8, 3) := by decide +kernel
theorem dX10_turnsOn_92 : decode cX10_turnsOn 92 = .ok (.iload 6, 2) := by decide +kernel
theorem dX10_turnsOn_94 : decode cX10_turnsOn 94 = .ok (.goto 4, 3) := by decide +kernel
theorem dX10_turnsOn_97 : decode cX10_turnsOn 97 = .ok (.iconst 0, 1) := by decide +kernel
theorem dX10_turnsOn_98 : decode cX10_turnsOn 98 = .ok (.iload 7, 2) := by decide +kernel
theorem dX10_turnsOn_100 : decode cX10_turnsOn 100 = .ok (.imul, 1) := by decide +kernel
theorem dX10_turnsOn_101 : decode cX10_turnsOn 101 = .ok (.iadd, 1) := by decide +kernel
theorem dX10_turnsOn_102 : decode cX10_turnsOn 102 = .ok (.istore 8, 2) := by decide +kernel
theorem dX10_turnsOn_104 : decode cX10_turnsOn 104 = .ok (.aload_n 0, 1) := by decide +kernel
theorem dX10_turnsOn_105 : decode cX10_turnsOn 105 = .ok (.iload_n 1, 1) := by decide +kernel
theorem dX10_turnsOn_106 : decode cX10_turnsOn 106 = .ok (.iconst 1, 1) := by decide +kernel
theorem dX10_turnsOn_107 : decode cX10_turnsOn 107 = .ok (.iadd, 1) := by decide +kernel
theorem dX10_turnsOn_108 : decode cX10_turnsOn 108 = .ok (.iload_n 2, 1) := by decide +kernel
theorem dX10_turnsOn_109 : decode cX10_turnsOn 109 = .ok (.iload_n 3, 1) := by decide +kernel
theorem dX10_turnsOn_110 : decode cX10_turnsOn 110 = .ok (.iload 7, 2) := by decide +kernel
theorem dX10_turnsOn_112 : decode cX10_turnsOn 112 = .ok (.isub, 1) := by decide +kernel
theorem dX10_turnsOn_113 : decode cX10_turnsOn 113 = .ok (.iload 4, 2) := by decide +kernel
theorem dX10_turnsOn_115 : decode cX10_turnsOn 115 = .ok (.iload 8, 2) := by decide +kernel
theorem dX10_turnsOn_117 : decode cX10_turnsOn 117 = .ok (.iload 5, 2) := by decide +kernel
theorem dX10_turnsOn_119 : decode cX10_turnsOn 119 = .ok (.if_icmp .ge 8, 3) := by decide +kernel
theorem dX10_turnsOn_122 : decode cX10_turnsOn 122 = .ok (.iload 8, 2) := by decide +kernel
theorem dX10_turnsOn_124 : decode cX10_turnsOn 124 = .ok (.goto 5, 3) := by decide +kernel
theorem dX10_turnsOn_127 : decode cX10_turnsOn 127 = .ok (.iload 5, 2) := by decide +kernel
theorem dX10_turnsOn_129 : decode cX10_turnsOn 129 = .ok (.invokevirtual 414, 3) := by decide +kernel
theorem dX10_turnsOn_132 : decode cX10_turnsOn 132 = .ok (.iinc 7 1, 3) := by decide +kernel
theorem dX10_turnsOn_135 : decode cX10_turnsOn 135 = .ok (.goto (-62), 3) := by decide +kernel
theorem dX10_turnsOn_138 : decode cX10_turnsOn 138 = .ok (.return_, 1) := by decide +kernel
theorem dX10_undo_0 : decode cX10_undo 0 = .ok (.aload_n 0, 1) := by decide +kernel
theorem dX10_undo_1 : decode cX10_undo 1 = .ok (.iconst 0, 1) := by decide +kernel
theorem dX10_undo_2 : decode cX10_undo 2 = .ok (.putfield 3, 3) := by decide +kernel
theorem dX10_undo_5 : decode cX10_undo 5 = .ok (.aload_n 0, 1) := by decide +kernel
theorem dX10_undo_6 : decode cX10_undo 6 = .ok (.getfield 172, 3) := by decide +kernel
theorem dX10_undo_9 : decode cX10_undo 9 = .ok (.ifCond .ne 5, 3) := by decide +kernel
theorem dX10_undo_12 : decode cX10_undo 12 = .ok (.iconst (-1), 1) := by decide +kernel
theorem dX10_undo_13 : decode cX10_undo 13 = .ok (.ireturn, 1) := by decide +kernel
theorem dX10_undo_14 : decode cX10_undo 14 = .ok (.aload_n 0, 1) := by decide +kernel
theorem dX10_undo_15 : decode cX10_undo 15 = .ok (.dup, 1) := by decide +kernel
theorem dX10_undo_16 : decode cX10_undo 16 = .ok (.getfield 172, 3) := by decide +kernel
theorem dX10_undo_19 : decode cX10_undo 19 = .ok (.iconst 1, 1) := by decide +kernel
theorem dX10_undo_20 : decode cX10_undo 20 = .ok (.isub, 1) := by decide +kernel
theorem dX10_undo_21 : decode cX10_undo 21 = .ok (.putfield 172, 3) := by decide +kernel
theorem dX10_undo_24 : decode cX10_undo 24 = .ok (.iconst 0, 1) := by decide +kernel
theorem dX10_undo_25 : decode cX10_undo 25 = .ok (.istore_n 1, 1) := by decide +kernel
theorem dX10_undo_26 : decode cX10_undo 26 = .ok (.iload_n 1, 1) := by decide +kernel
theorem dX10_undo_27 : decode cX10_undo 27 = .ok (.bipush 42, 2) := by decide +kernel
theorem dX10_undo_29 : decode cX10_undo 29 = .ok (.if_icmp .ge 29, 3) := by decide +kernel
theorem dX10_undo_32 : decode cX10_undo 32 = .ok (.aload_n 0, 1) := by decide +kernel
theorem dX10_undo_33 : decode cX10_undo 33 = .ok (.getfield 62, 3) := by decide +kernel
theorem dX10_undo_36 : decode cX10_undo 36 = .ok (.iload_n 1, 1) := by decide +kernel
theorem dX10_undo_37 : decode cX10_undo 37 = .ok (.aload_n 0, 1) := by decide +kernel
theorem dX10_undo_38 : decode cX10_undo 38 = .ok (.getfield 68, 3) := by decide +kernel
theorem dX10_undo_41 : decode cX10_undo 41 = .ok (.bipush 42, 2) := by decide +kernel
theorem dX10_undo_43 : decode cX10_undo 43 = .ok (.aload_n 0, 1) := by decide +kernel
theorem dX10_undo_44 : decode cX10_undo 44 = .ok (.getfield 172, 3) := by decide +kernel
theorem dX10_undo_47 : decode cX10_undo 47 = .ok (.imul, 1) := by decide +kernel
theorem dX10_undo_48 : decode cX10_undo 48 = .ok (.iload_n 1, 1) := by decide +kernel
theorem dX10_undo_49 : decode cX10_undo 49 = .ok (.iadd, 1) := by decide +kernel
theorem dX10_undo_50 : decode cX10_undo 50 = .ok (.iaload, 1) := by decide +kernel
theorem dX10_undo_51 : decode cX10_undo 51 = .ok (.iastore, 1) := by decide +kernel
theorem dX10_undo_52 : decode cX10_undo 52 = .ok (.iinc 1 1, 3) := by decide +kernel
theorem dX10_undo_55 : decode cX10_undo 55 = .ok (.goto (-29), 3) := by decide +kernel
theorem dX10_undo_58 : decode cX10_undo 58 = .ok (.aload_n 0, 1) := by decide +kernel
theorem dX10_undo_59 : decode cX10_undo 59 = .ok (.iconst 0, 1) := by decide +kernel
theorem dX10_undo_60 : decode cX10_undo 60 = .ok (.putfield 178, 3) := by decide +kernel
theorem dX10_undo_63 : decode cX10_undo 63 = .ok (.aload_n 0, 1) := by decide +kernel
theorem dX10_undo_64 : decode cX10_undo 64 = .ok (.getfield 172, 3) := by decide +kernel
theorem dX10_undo_67 : decode cX10_undo 67 = .ok (.ireturn, 1) := by decide +kernel
theorem dX10_valueOf_0 : decode cX10_valueOf 0 = .ok (.iconst 0, 1) := by decide +kernel
theorem dX10_valueOf_1 : decode cX10_valueOf 1 = .ok (.istore_n 2, 1) := by decide +kernel
theorem dX10_valueOf_2 : decode cX10_valueOf 2 = .ok (.sipush 150, 3) := by decide +kernel
theorem dX10_valueOf_5 : decode cX10_valueOf 5 = .ok (.iload_n 1, 1) := by decide +kernel
theorem dX10_valueOf_6 : decode cX10_valueOf 6 = .ok (.imul, 1) := by decide +kernel
theorem dX10_valueOf_7 : decode cX10_valueOf 7 = .ok (.istore_n 3, 1) := by decide +kernel
theorem dX10_valueOf_8 : decode cX10_valueOf 8 = .ok (.iload_n 3, 1) := by decide +kernel
theorem dX10_valueOf_9 : decode cX10_valueOf 9 = .ok (.sipush 150, 3) := by decide +kernel
theorem dX10_valueOf_12 : decode cX10_valueOf 12 = .ok (.iload_n 1, 1) := by decide +kernel
theorem dX10_valueOf_13 : decode cX10_valueOf 13 = .ok (.imul, 1) := by decide +kernel
theorem dX10_valueOf_14 : decode cX10_valueOf 14 = .ok (.aload_n 0, 1) := by decide +kernel
theorem dX10_valueOf_15 : decode cX10_valueOf 15 = .ok (.getfield 47, 3) := by decide +kernel
theorem dX10_valueOf_18 : decode cX10_valueOf 18 = .ok (.iload_n 1, 1) := by decide +kernel
theorem dX10_valueOf_19 : decode cX10_valueOf 19 = .ok (.iaload, 1) := by decide +kernel
theorem dX10_valueOf_20 : decode cX10_valueOf 20 = .ok (.iadd, 1) := by decide +kernel
theorem dX10_valueOf_21 : decode cX10_valueOf 21 = .ok (.if_icmp .ge 90, 3) := by decide +kernel
theorem dX10_valueOf_24 : decode cX10_valueOf 24 = .ok (.aload_n 0, 1) := by decide +kernel
theorem dX10_valueOf_25 : decode cX10_valueOf 25 = .ok (.getfield 41, 3) := by decide +kernel
theorem dX10_valueOf_28 : decode cX10_valueOf 28 = .ok (.iload_n 3, 1) := by decide +kernel
theorem dX10_valueOf_29 : decode cX10_valueOf 29 = .ok (.iaload, 1) := by decide +kernel
theorem dX10_valueOf_30 : decode cX10_valueOf 30 = .ok (.istore 4, 2) := by decide +kernel
theorem dX10_valueOf_32 : decode cX10_valueOf 32 = .ok (.iload 4, 2) := by decide +kernel
theorem dX10_valueOf_34 : decode cX10_valueOf 34 = .ok (.iconst 1, 1) := by decide +kernel
theorem dX10_valueOf_35 : decode cX10_valueOf 35 = .ok (.if_icmp .gt 40, 3) := by decide +kernel
theorem dX10_valueOf_38 : decode cX10_valueOf 38 = .ok (.aload_n 0, 1) := by decide +kernel
theorem dX10_valueOf_39 : decode cX10_valueOf 39 = .ok (.getfield 50, 3) := by decide +kernel
theorem dX10_valueOf_42 : decode cX10_valueOf 42 = .ok (.iload_n 2, 1) := by decide +kernel
theorem dX10_valueOf_43 : decode cX10_valueOf 43 = .ok (.iload 4, 2) := by decide +kernel
theorem dX10_valueOf_45 : decode cX10_valueOf 45 = .ok (.ifCond .ne 12, 3) := by decide +kernel
theorem dX10_valueOf_48 : decode cX10_valueOf 48 = .ok (.aload_n 0, 1) := by decide +kernel
theorem dX10_valueOf_49 : decode cX10_valueOf 49 = .ok (.getfield 44, 3) := by decide +kernel
theorem dX10_valueOf_52 : decode cX10_valueOf 52 = .ok (.iload_n 3, 1) := by decide +kernel
theorem dX10_valueOf_53 : decode cX10_valueOf 53 = .ok (.iaload, 1) := by decide +kernel
theorem dX10_valueOf_54 : decode cX10_valueOf 54 = .ok (.goto 14, 3) := by decide +kernel
theorem dX10_valueOf_57 : decode cX10_valueOf 57 = .ok (.aload_n 0, 1) := by decide +kernel
theorem dX10_valueOf_58 : decode cX10_valueOf 58 = .ok (.getfield 53, 3) := by decide +kernel
theorem dX10_valueOf_61 : decode cX10_valueOf 61 = .ok (.aload_n 0, 1) := by decide +kernel
theorem dX10_valueOf_62 : decode cX10_valueOf 62 = .ok (.getfield 44, 3) := by decide +kernel
theorem dX10_valueOf_65 : decode cX10_valueOf 65 = .ok (.iload_n 3, 1) := by decide +kernel
theorem dX10_valueOf_66 : decode cX10_valueOf 66 = .ok (.iaload, 1) := by decide +kernel
theorem dX10_valueOf_67 : decode cX10_valueOf 67 = .ok (.iaload, 1) := by decide +kernel
theorem dX10_valueOf_68 : decode cX10_valueOf 68 = .ok (.iastore, 1) := by decide +kernel
theorem dX10_valueOf_69 : decode cX10_valueOf 69 = .ok (.iinc 2 1, 3) := by decide +kernel
theorem dX10_valueOf_72 : decode cX10_valueOf 72 = .ok (.goto 33, 3) := by decide +kernel
theorem dX10_valueOf_75 : decode cX10_valueOf 75 = .ok (.iinc 2 (-1), 3) := by decide +kernel
theorem dX10_valueOf_78 : decode cX10_valueOf 78 = .ok (.aload_n 0, 1) := by decide +kernel
theorem dX10_valueOf_79 : decode cX10_valueOf 79 = .ok (.getfield 50, 3) := by decide +kernel
theorem dX10_valueOf_82 : decode cX10_valueOf 82 = .ok (.iload_n 2, 1) := by decide +kernel
theorem dX10_valueOf_83 : decode cX10_valueOf 83 = .ok (.iconst 1, 1) := by decide +kernel
theorem dX10_valueOf_84 : decode cX10_valueOf 84 = .ok (.isub, 1) := by decide +kernel
theorem dX10_valueOf_85 : decode cX10_valueOf 85 = .ok (.iload 4, 2) := by decide +kernel
theorem dX10_valueOf_87 : decode cX10_valueOf 87 = .ok (.aload_n 0, 1) := by decide +kernel
theorem dX10_valueOf_88 : decode cX10_valueOf 88 = .ok (.getfield 50, 3) := by decide +kernel
theorem dX10_valueOf_91 : decode cX10_valueOf 91 = .ok (.iload_n 2, 1) := by decide +kernel
theorem dX10_valueOf_92 : decode cX10_valueOf 92 = .ok (.iconst 1, 1) := by decide +kernel
theorem dX10_valueOf_93 : decode cX10_valueOf 93 = .ok (.isub, 1) := by decide +kernel
theorem dX10_valueOf_94 : decode cX10_valueOf 94 = .ok (.iaload, 1) := by decide +kernel
theorem dX10_valueOf_95 : decode cX10_valueOf 95 = .ok (.aload_n 0, 1) := by decide +kernel
theorem dX10_valueOf_96 : decode cX10_valueOf 96 = .ok (.getfield 50, 3) := by decide +kernel
theorem dX10_valueOf_99 : decode cX10_valueOf 99 = .ok (.iload_n 2, 1) := by decide +kernel
theorem dX10_valueOf_100 : decode cX10_valueOf 100 = .ok (.iaload, 1) := by decide +kernel
theorem dX10_valueOf_101 : decode cX10_valueOf 101 = .ok (.invokestatic 286, 3) := by decide +kernel
theorem dX10_valueOf_104 : decode cX10_valueOf 104 = .ok (.iastore, 1) := by decide +kernel
theorem dX10_valueOf_105 : decode cX10_valueOf 105 = .ok (.iinc 3 1, 3) := by decide +kernel
theorem dX10_valueOf_108 : decode cX10_valueOf 108 = .ok (.goto (-100), 3) := by decide +kernel
theorem dX10_valueOf_111 : decode cX10_valueOf 111 = .ok (.aload_n 0, 1) := by decide +kernel
theorem dX10_valueOf_112 : decode cX10_valueOf 112 = .ok (.getfield 50, 3) := by decide +kernel
theorem dX10_valueOf_115 : decode cX10_valueOf 115 = .ok (.iconst 0, 1) := by decide +kernel
theorem dX10_valueOf_116 : decode cX10_valueOf 116 = .ok (.iaload, 1) := by decide +kernel
theorem dX10_valueOf_117 : decode cX10_valueOf 117 = .ok (.ireturn, 1) := by decide +kernel
theorem dX10_wakes_0 : decode cX10_wakes 0 = .ok (.aload_n 0, 1) := by decide +kernel
theorem dX10_wakes_1 : decode cX10_wakes 1 = .ok (.getfield 65, 3) := by decide +kernel
theorem dX10_wakes_4 : decode cX10_wakes 4 = .ok (.bipush 15, 2) := by decide +kernel
theorem dX10_wakes_6 : decode cX10_wakes 6 = .ok (.iload_n 1, 1) := by decide +kernel
theorem dX10_wakes_7 : decode cX10_wakes 7 = .ok (.iadd, 1) := by decide +kernel
theorem dX10_wakes_8 : decode cX10_wakes 8 = .ok (.iconst 0, 1) := by decide +kernel
theorem dX10_wakes_9 : decode cX10_wakes 9 = .ok (.iastore, 1) := by decide +kernel
theorem dX10_wakes_10 : decode cX10_wakes 10 = .ok (.aload_n 0, 1) := by decide +kernel
theorem dX10_wakes_11 : decode cX10_wakes 11 = .ok (.getfield 65, 3) := by decide +kernel
theorem dX10_wakes_14 : decode cX10_wakes 14 = .ok (.bipush 20, 2) := by decide +kernel
theorem dX10_wakes_16 : decode cX10_wakes 16 = .ok (.iload_n 1, 1) := by decide +kernel
theorem dX10_wakes_17 : decode cX10_wakes 17 = .ok (.iadd, 1) := by decide +kernel
theorem dX10_wakes_18 : decode cX10_wakes 18 = .ok (.iconst 0, 1) := by decide +kernel
theorem dX10_wakes_19 : decode cX10_wakes 19 = .ok (.iastore, 1) := by decide +kernel
theorem dX10_wakes_20 : decode cX10_wakes 20 = .ok (.aload_n 0, 1) := by decide +kernel
theorem dX10_wakes_21 : decode cX10_wakes 21 = .ok (.getfield 65, 3) := by decide +kernel
theorem dX10_wakes_24 : decode cX10_wakes 24 = .ok (.bipush 25, 2) := by decide +kernel
theorem dX10_wakes_26 : decode cX10_wakes 26 = .ok (.iload_n 1, 1) := by decide +kernel
theorem dX10_wakes_27 : decode cX10_wakes 27 = .ok (.iadd, 1) := by decide +kernel
theorem dX10_wakes_28 : decode cX10_wakes 28 = .ok (.iconst 0, 1) := by decide +kernel
theorem dX10_wakes_29 : decode cX10_wakes 29 = .ok (.iastore, 1) := by decide +kernel
theorem dX10_wakes_30 : decode cX10_wakes 30 = .ok (.aload_n 0, 1) := by decide +kernel
theorem dX10_wakes_31 : decode cX10_wakes 31 = .ok (.getfield 65, 3) := by decide +kernel
theorem dX10_wakes_34 : decode cX10_wakes 34 = .ok (.bipush 35, 2) := by decide +kernel
theorem dX10_wakes_36 : decode cX10_wakes 36 = .ok (.iload_n 1, 1) := by decide +kernel
theorem dX10_wakes_37 : decode cX10_wakes 37 = .ok (.iadd, 1) := by decide +kernel
theorem dX10_wakes_38 : decode cX10_wakes 38 = .ok (.iconst 0, 1) := by decide +kernel
theorem dX10_wakes_39 : decode cX10_wakes 39 = .ok (.iastore, 1) := by decide +kernel
theorem dX10_wakes_40 : decode cX10_wakes 40 = .ok (.aload_n 0, 1) := by decide +kernel
theorem dX10_wakes_41 : decode cX10_wakes 41 = .ok (.getfield 65, 3) := by decide +kernel
theorem dX10_wakes_44 : decode cX10_wakes 44 = .ok (.bipush 41, 2) := by decide +kernel
theorem dX10_wakes_46 : decode cX10_wakes 46 = .ok (.dup2, 1) := by decide +kernel
theorem dX10_wakes_47 : decode cX10_wakes 47 = .ok (.iaload, 1) := by decide +kernel
theorem dX10_wakes_48 : decode cX10_wakes 48 = .ok (.iconst 1, 1) := by decide +kernel
theorem dX10_wakes_49 : decode cX10_wakes 49 = .ok (.iadd, 1) := by decide +kernel
theorem dX10_wakes_50 : decode cX10_wakes 50 = .ok (.iastore, 1) := by decide +kernel
theorem dX10_wakes_51 : decode cX10_wakes 51 = .ok (.return_, 1) := by decide +kernel
theorem dX10_wall_0 : decode cX10_wall 0 = .ok (.aload_n 0, 1) := by decide +kernel
theorem dX10_wall_1 : decode cX10_wall 1 = .ok (.iconst 0, 1) := by decide +kernel
theorem dX10_wall_2 : decode cX10_wall 2 = .ok (.putfield 3, 3) := by decide +kernel
theorem dX10_wall_5 : decode cX10_wall 5 = .ok (.aload_n 0, 1) := by decide +kernel
theorem dX10_wall_6 : decode cX10_wall 6 = .ok (.iload_n 1, 1) := by decide +kernel
theorem dX10_wall_7 : decode cX10_wall 7 = .ok (.invokestatic 386, 3) := by decide +kernel
theorem dX10_wall_10 : decode cX10_wall 10 = .ok (.iconst 1, 1) := by decide +kernel
theorem dX10_wall_11 : decode cX10_wall 11 = .ok (.iconst 1, 1) := by decide +kernel
theorem dX10_wall_12 : decode cX10_wall 12 = .ok (.invokevirtual 203, 3) := by decide +kernel
theorem dX10_wall_15 : decode cX10_wall 15 = .ok (.ifCond .ne 5, 3) := by decide +kernel
theorem dX10_wall_18 : decode cX10_wall 18 = .ok (.iconst 0, 1) := by decide +kernel
theorem dX10_wall_19 : decode cX10_wall 19 = .ok (.ireturn, 1) := by decide +kernel
theorem dX10_wall_20 : decode cX10_wall 20 = .ok (.aload_n 0, 1) := by decide +kernel
theorem dX10_wall_21 : decode cX10_wall 21 = .ok (.getfield 159, 3) := by decide +kernel
theorem dX10_wall_24 : decode cX10_wall 24 = .ok (.istore_n 2, 1) := by decide +kernel
theorem dX10_wall_25 : decode cX10_wall 25 = .ok (.iconst 0, 1) := by decide +kernel
theorem dX10_wall_26 : decode cX10_wall 26 = .ok (.istore_n 3, 1) := by decide +kernel
theorem dX10_wall_27 : decode cX10_wall 27 = .ok (.iconst (-1), 1) := by decide +kernel
theorem dX10_wall_28 : decode cX10_wall 28 = .ok (.istore 4, 2) := by decide +kernel
theorem dX10_wall_30 : decode cX10_wall 30 = .ok (.iconst 0, 1) := by decide +kernel
theorem dX10_wall_31 : decode cX10_wall 31 = .ok (.istore 5, 2) := by decide +kernel
theorem dX10_wall_33 : decode cX10_wall 33 = .ok (.iload 5, 2) := by decide +kernel
theorem dX10_wall_35 : decode cX10_wall 35 = .ok (.bipush 40, 2) := by decide +kernel
theorem dX10_wall_37 : decode cX10_wall 37 = .ok (.if_icmp .gt 43, 3) := by decide +kernel
theorem dX10_wall_40 : decode cX10_wall 40 = .ok (.aload_n 0, 1) := by decide +kernel
theorem dX10_wall_41 : decode cX10_wall 41 = .ok (.iload 5, 2) := by decide +kernel
theorem dX10_wall_43 : decode cX10_wall 43 = .ok (.putfield 159, 3) := by decide +kernel
theorem dX10_wall_46 : decode cX10_wall 46 = .ok (.aload_n 0, 1) := by decide +kernel
theorem dX10_wall_47 : decode cX10_wall 47 = .ok (.invokevirtual 316, 3) := by decide +kernel
theorem dX10_wall_50 : decode cX10_wall 50 = .ok (.aload_n 0, 1) := by decide +kernel
theorem dX10_wall_51 : decode cX10_wall 51 = .ok (.iload_n 1, 1) := by decide +kernel
theorem dX10_wall_52 : decode cX10_wall 52 = .ok (.invokevirtual 389, 3) := by decide +kernel
theorem dX10_wall_55 : decode cX10_wall 55 = .ok (.istore 6, 2) := by decide +kernel
theorem dX10_wall_57 : decode cX10_wall 57 = .ok (.iload 6, 2) := by decide +kernel
theorem dX10_wall_59 : decode cX10_wall 59 = .ok (.iload 4, 2) := by decide +kernel
theorem dX10_wall_61 : decode cX10_wall 61 = .ok (.if_icmp .gt 6, 3) := by decide +kernel
theorem dX10_wall_64 : decode cX10_wall 64 = .ok (.goto 10, 3) := by decide +kernel
theorem dX10_wall_67 : decode cX10_wall 67 = .ok (.iload 5, 2) := by decide +kernel
theorem dX10_wall_69 : decode cX10_wall 69 = .ok (.istore_n 3, 1) := by decide +kernel
theorem dX10_wall_70 : decode cX10_wall 70 = .ok (.iload 6, 2) := by decide +kernel
theorem dX10_wall_72 : decode cX10_wall 72 = .ok (.istore 4, 2) := by decide +kernel
theorem dX10_wall_74 : decode cX10_wall 74 = .ok (.iinc 5 1, 3) := by decide +kernel
theorem dX10_wall_77 : decode cX10_wall 77 = .ok (.goto (-44), 3) := by decide +kernel
theorem dX10_wall_80 : decode cX10_wall 80 = .ok (.aload_n 0, 1) := by decide +kernel
theorem dX10_wall_81 : decode cX10_wall 81 = .ok (.iload_n 2, 1) := by decide +kernel
theorem dX10_wall_82 : decode cX10_wall 82 = .ok (.putfield 159, 3) := by decide +kernel
theorem dX10_wall_85 : decode cX10_wall 85 = .ok (.iload_n 3, 1) := by decide +kernel
theorem dX10_wall_86 : decode cX10_wall 86 = .ok (.ireturn, 1) := by decide +kernel
theorem dX10_within_0 : decode cX10_within 0 = .ok (.iload_n 0, 1) := by decide +kernel
theorem dX10_within_1 : decode cX10_within 1 = .ok (.iload_n 1, 1) := by decide +kernel
theorem dX10_within_2 : decode cX10_within 2 = .ok (.if_icmp .lt 12, 3) := by decide +kernel
theorem dX10_within_5 : decode cX10_within 5 = .ok (.iload_n 0, 1) := by decide +kernel
theorem dX10_within_6 : decode cX10_within 6 = .ok (.iload_n 2, 1) := by decide +kernel
theorem dX10_within_7 : decode cX10_within 7 = .ok (.if_icmp .gt 7, 3) := by decide +kernel
theorem dX10_within_10 : decode cX10_within 10 = .ok (.iconst 1, 1) := by decide +kernel
theorem dX10_within_11 : decode cX10_within 11 = .ok (.goto 4, 3) := by decide +kernel
theorem dX10_within_14 : decode cX10_within 14 = .ok (.iconst 0, 1) := by decide +kernel
theorem dX10_within_15 : decode cX10_within 15 = .ok (.ireturn, 1) := by decide +kernel
theorem dX10_word_0 : decode cX10_word 0 = .ok (.aload_n 0, 1) := by decide +kernel
theorem dX10_word_1 : decode cX10_word 1 = .ok (.invokevirtual 113, 3) := by decide +kernel
theorem dX10_word_4 : decode cX10_word 4 = .ok (.pop, 1) := by decide +kernel
theorem dX10_word_5 : decode cX10_word 5 = .ok (.iconst 0, 1) := by decide +kernel
theorem dX10_word_6 : decode cX10_word 6 = .ok (.istore_n 1, 1) := by decide +kernel
theorem dX10_word_7 : decode cX10_word 7 = .ok (.iconst 0, 1) := by decide +kernel
theorem dX10_word_8 : decode cX10_word 8 = .ok (.istore_n 2, 1) := by decide +kernel
theorem dX10_word_9 : decode cX10_word 9 = .ok (.aload_n 0, 1) := by decide +kernel
theorem dX10_word_10 : decode cX10_word 10 = .ok (.getfield 107, 3) := by decide +kernel
theorem dX10_word_13 : decode cX10_word 13 = .ok (.istore_n 3, 1) := by decide +kernel
theorem dX10_word_14 : decode cX10_word 14 = .ok (.iload_n 3, 1) := by decide +kernel
theorem dX10_word_15 : decode cX10_word 15 = .ok (.aload_n 0, 1) := by decide +kernel
theorem dX10_word_16 : decode cX10_word 16 = .ok (.getfield 110, 3) := by decide +kernel
theorem dX10_word_19 : decode cX10_word 19 = .ok (.if_icmp .ge 48, 3) := by decide +kernel
theorem dX10_word_22 : decode cX10_word 22 = .ok (.aload_n 0, 1) := by decide +kernel
theorem dX10_word_23 : decode cX10_word 23 = .ok (.getfield 20, 3) := by decide +kernel
theorem dX10_word_26 : decode cX10_word 26 = .ok (.iload_n 3, 1) := by decide +kernel
theorem dX10_word_27 : decode cX10_word 27 = .ok (.iaload, 1) := by decide +kernel
theorem dX10_word_28 : decode cX10_word 28 = .ok (.invokestatic 117, 3) := by decide +kernel
theorem dX10_word_31 : decode cX10_word 31 = .ok (.ifCond .eq 36, 3) := by decide +kernel
theorem dX10_word_34 : decode cX10_word 34 = .ok (.iload_n 2, 1) := by decide +kernel
theorem dX10_word_35 : decode cX10_word 35 = .ok (.bipush 6, 2) := by decide +kernel
theorem dX10_word_37 : decode cX10_word 37 = .ok (.if_icmp .ge 19, 3) := by decide +kernel
theorem dX10_word_40 : decode cX10_word 40 = .ok (.iload_n 1, 1) := by decide +kernel
theorem dX10_word_41 : decode cX10_word 41 = .ok (.iconst 5, 1) := by decide +kernel
theorem dX10_word_42 : decode cX10_word 42 = .ok (.ishl, 1) := by decide +kernel
theorem dX10_word_43 : decode cX10_word 43 = .ok (.aload_n 0, 1) := by decide +kernel
theorem dX10_word_44 : decode cX10_word 44 = .ok (.getfield 20, 3) := by decide +kernel
theorem dX10_word_47 : decode cX10_word 47 = .ok (.iload_n 3, 1) := by decide +kernel
theorem dX10_word_48 : decode cX10_word 48 = .ok (.iaload, 1) := by decide +kernel
theorem dX10_word_49 : decode cX10_word 49 = .ok (.bipush 96, 2) := by decide +kernel
theorem dX10_word_51 : decode cX10_word 51 = .ok (.isub, 1) := by decide +kernel
theorem dX10_word_52 : decode cX10_word 52 = .ok (.ior, 1) := by decide +kernel
theorem dX10_word_53 : decode cX10_word 53 = .ok (.goto 4, 3) := by decide +kernel
theorem dX10_word_56 : decode cX10_word 56 = .ok (.iconst 0, 1) := by decide +kernel
theorem dX10_word_57 : decode cX10_word 57 = .ok (.istore_n 1, 1) := by decide +kernel
theorem dX10_word_58 : decode cX10_word 58 = .ok (.iinc 2 1, 3) := by decide +kernel
theorem dX10_word_61 : decode cX10_word 61 = .ok (.iinc 3 1, 3) := by decide +kernel
theorem dX10_word_64 : decode cX10_word 64 = .ok (.goto (-50), 3) := by decide +kernel
theorem dX10_word_67 : decode cX10_word 67 = .ok (.iload_n 2, 1) := by decide +kernel
theorem dX10_word_68 : decode cX10_word 68 = .ok (.bipush 6, 2) := by decide +kernel
theorem dX10_word_70 : decode cX10_word 70 = .ok (.if_icmp .le 7, 3) := by decide +kernel
theorem dX10_word_73 : decode cX10_word 73 = .ok (.iconst 0, 1) := by decide +kernel
theorem dX10_word_74 : decode cX10_word 74 = .ok (.goto 4, 3) := by decide +kernel
theorem dX10_word_77 : decode cX10_word 77 = .ok (.iload_n 1, 1) := by decide +kernel
theorem dX10_word_78 : decode cX10_word 78 = .ok (.ireturn, 1) := by decide +kernel
theorem dX10_work_0 : decode cX10_work 0 = .ok (.aload_n 0, 1) := by decide +kernel
theorem dX10_work_1 : decode cX10_work 1 = .ok (.iconst 0, 1) := by decide +kernel
theorem dX10_work_2 : decode cX10_work 2 = .ok (.putfield 3, 3) := by decide +kernel
theorem dX10_work_5 : decode cX10_work 5 = .ok (.aload_n 0, 1) := by decide +kernel
theorem dX10_work_6 : decode cX10_work 6 = .ok (.iload_n 1, 1) := by decide +kernel
theorem dX10_work_7 : decode cX10_work 7 = .ok (.ifCond .lt 22, 3) := by decide +kernel
theorem dX10_work_10 : decode cX10_work 10 = .ok (.iload_n 1, 1) := by decide +kernel
theorem dX10_work_11 : decode cX10_work 11 = .ok (.aload_n 0, 1) := by decide +kernel
theorem dX10_work_12 : decode cX10_work 12 = .ok (.getfield 98, 3) := by decide +kernel
theorem dX10_work_15 : decode cX10_work 15 = .ok (.if_icmp .gt 14, 3) := by decide +kernel
theorem dX10_work_18 : decode cX10_work 18 = .ok (.iload_n 1, 1) := by decide +kernel
theorem dX10_work_19 : decode cX10_work 19 = .ok (.sipush 150, 3) := by decide +kernel
theorem dX10_work_22 : decode cX10_work 22 = .ok (.if_icmp .gt 7, 3) := by decide +kernel
theorem dX10_work_25 : decode cX10_work 25 = .ok (.iconst 1, 1) := by decide +kernel
theorem dX10_work_26 : decode cX10_work 26 = .ok (.goto 4, 3) := by decide +kernel
theorem dX10_work_29 : decode cX10_work 29 = .ok (.iconst 0, 1) := by decide +kernel
theorem dX10_work_30 : decode cX10_work 30 = .ok (.iconst 1, 1) := by decide +kernel
theorem dX10_work_31 : decode cX10_work 31 = .ok (.iconst 1, 1) := by decide +kernel
theorem dX10_work_32 : decode cX10_work 32 = .ok (.invokevirtual 203, 3) := by decide +kernel
theorem dX10_work_35 : decode cX10_work 35 = .ok (.ifCond .ne 5, 3) := by decide +kernel
theorem dX10_work_38 : decode cX10_work 38 = .ok (.iconst 0, 1) := by decide +kernel
theorem dX10_work_39 : decode cX10_work 39 = .ok (.ireturn, 1) := by decide +kernel
theorem dX10_work_40 : decode cX10_work 40 = .ok (.aload_n 0, 1) := by decide +kernel
theorem dX10_work_41 : decode cX10_work 41 = .ok (.iload_n 1, 1) := by decide +kernel
theorem dX10_work_42 : decode cX10_work 42 = .ok (.invokevirtual 207, 3) := by decide +kernel
theorem dX10_work_45 : decode cX10_work 45 = .ok (.aload_n 0, 1) := by decide +kernel
theorem dX10_work_46 : decode cX10_work 46 = .ok (.getfield 172, 3) := by decide +kernel
theorem dX10_work_49 : decode cX10_work 49 = .ok (.bipush 16, 2) := by decide +kernel
theorem dX10_work_51 : decode cX10_work 51 = .ok (.if_icmp .ne 12, 3) := by decide +kernel
theorem dX10_work_54 : decode cX10_work 54 = .ok (.aload_n 0, 1) := by decide +kernel
theorem dX10_work_55 : decode cX10_work 55 = .ok (.iconst 0, 1) := by decide +kernel
theorem dX10_work_56 : decode cX10_work 56 = .ok (.invokevirtual 237, 3) := by decide +kernel
theorem dX10_work_59 : decode cX10_work 59 = .ok (.pop, 1) := by decide +kernel
theorem dX10_work_60 : decode cX10_work 60 = .ok (.bipush (-20), 2) := by decide +kernel
theorem dX10_work_62 : decode cX10_work 62 = .ok (.ireturn, 1) := by decide +kernel
theorem dX10_work_63 : decode cX10_work 63 = .ok (.aload_n 0, 1) := by decide +kernel
theorem dX10_work_64 : decode cX10_work 64 = .ok (.iconst 0, 1) := by decide +kernel
theorem dX10_work_65 : decode cX10_work 65 = .ok (.putfield 293, 3) := by decide +kernel
theorem dX10_work_68 : decode cX10_work 68 = .ok (.aload_n 0, 1) := by decide +kernel
theorem dX10_work_69 : decode cX10_work 69 = .ok (.invokevirtual 130, 3) := by decide +kernel
theorem dX10_work_72 : decode cX10_work 72 = .ok (.ifCond .eq 17, 3) := by decide +kernel
theorem dX10_work_75 : decode cX10_work 75 = .ok (.aload_n 0, 1) := by decide +kernel
theorem dX10_work_76 : decode cX10_work 76 = .ok (.invokevirtual 211, 3) := by decide +kernel
theorem dX10_work_79 : decode cX10_work 79 = .ok (.ifCond .eq 10, 3) := by decide +kernel
theorem dX10_work_82 : decode cX10_work 82 = .ok (.aload_n 0, 1) := by decide +kernel
theorem dX10_work_83 : decode cX10_work 83 = .ok (.invokevirtual 313, 3) := by decide +kernel
theorem dX10_work_86 : decode cX10_work 86 = .ok (.goto (-18), 3) := by decide +kernel
theorem dX10_work_89 : decode cX10_work 89 = .ok (.aload_n 0, 1) := by decide +kernel
theorem dX10_work_90 : decode cX10_work 90 = .ok (.iconst 0, 1) := by decide +kernel
theorem dX10_work_91 : decode cX10_work 91 = .ok (.invokevirtual 237, 3) := by decide +kernel
theorem dX10_work_94 : decode cX10_work 94 = .ok (.istore_n 2, 1) := by decide +kernel
theorem dX10_work_95 : decode cX10_work 95 = .ok (.aload_n 0, 1) := by decide +kernel
theorem dX10_work_96 : decode cX10_work 96 = .ok (.getfield 101, 3) := by decide +kernel
theorem dX10_work_99 : decode cX10_work 99 = .ok (.iconst (-1), 1) := by decide +kernel
theorem dX10_work_100 : decode cX10_work 100 = .ok (.if_icmp .eq 5, 3) := by decide +kernel
theorem dX10_work_103 : decode cX10_work 103 = .ok (.iload_n 2, 1) := by decide +kernel
theorem dX10_work_104 : decode cX10_work 104 = .ok (.ireturn, 1) := by decide +kernel
theorem dX10_work_105 : decode cX10_work 105 = .ok (.aload_n 0, 1) := by decide +kernel
theorem dX10_work_106 : decode cX10_work 106 = .ok (.aload_n 0, 1) := by decide +kernel
theorem dX10_work_107 : decode cX10_work 107 = .ok (.getfield 56, 3) := by decide +kernel
theorem dX10_work_110 : decode cX10_work 110 = .ok (.aload_n 0, 1) := by decide +kernel
theorem dX10_work_111 : decode cX10_work 111 = .ok (.getfield 59, 3) := by decide +kernel
theorem dX10_work_114 : decode cX10_work 114 = .ok (.aload_n 0, 1) := by decide +kernel
theorem dX10_work_115 : decode cX10_work 115 = .ok (.getfield 293, 3) := by decide +kernel
theorem dX10_work_118 : decode cX10_work 118 = .ok (.invokevirtual 165, 3) := by decide +kernel
theorem dX10_work_121 : decode cX10_work 121 = .ok (.iconst 0, 1) := by decide +kernel
theorem dX10_work_122 : decode cX10_work 122 = .ok (.istore_n 3, 1) := by decide +kernel
theorem dX10_work_123 : decode cX10_work 123 = .ok (.iload_n 3, 1) := by decide +kernel
theorem dX10_work_124 : decode cX10_work 124 = .ok (.bipush 42, 2) := by decide +kernel
theorem dX10_work_126 : decode cX10_work 126 = .ok (.if_icmp .ge 29, 3) := by decide +kernel
theorem dX10_work_129 : decode cX10_work 129 = .ok (.aload_n 0, 1) := by decide +kernel
theorem dX10_work_130 : decode cX10_work 130 = .ok (.getfield 68, 3) := by decide +kernel
theorem dX10_work_133 : decode cX10_work 133 = .ok (.bipush 42, 2) := by decide +kernel
theorem dX10_work_135 : decode cX10_work 135 = .ok (.aload_n 0, 1) := by decide +kernel
theorem dX10_work_136 : decode cX10_work 136 = .ok (.getfield 172, 3) := by decide +kernel
theorem dX10_work_139 : decode cX10_work 139 = .ok (.imul, 1) := by decide +kernel
theorem dX10_work_140 : decode cX10_work 140 = .ok (.iload_n 3, 1) := by decide +kernel
theorem dX10_work_141 : decode cX10_work 141 = .ok (.iadd, 1) := by decide +kernel
theorem dX10_work_142 : decode cX10_work 142 = .ok (.aload_n 0, 1) := by decide +kernel
theorem dX10_work_143 : decode cX10_work 143 = .ok (.getfield 62, 3) := by decide +kernel
theorem dX10_work_146 : decode cX10_work 146 = .ok (.iload_n 3, 1) := by decide +kernel
theorem dX10_work_147 : decode cX10_work 147 = .ok (.iaload, 1) := by decide +kernel
theorem dX10_work_148 : decode cX10_work 148 = .ok (.iastore, 1) := by decide +kernel
theorem dX10_work_149 : decode cX10_work 149 = .ok (.iinc 3 1, 3) := by decide +kernel
theorem dX10_work_152 : decode cX10_work 152 = .ok (.goto (-29), 3) := by decide +kernel
theorem dX10_work_155 : decode cX10_work 155 = .ok (.aload_n 0, 1) := by decide +kernel
theorem dX10_work_156 : decode cX10_work 156 = .ok (.dup, 1) := by decide +kernel
theorem dX10_work_157 : decode cX10_work 157 = .ok (.getfield 172, 3) := by decide +kernel
theorem dX10_work_160 : decode cX10_work 160 = .ok (.iconst 1, 1) := by decide +kernel
theorem dX10_work_161 : decode cX10_work 161 = .ok (.iadd, 1) := by decide +kernel
theorem dX10_work_162 : decode cX10_work 162 = .ok (.putfield 172, 3) := by decide +kernel
theorem dX10_work_165 : decode cX10_work 165 = .ok (.aload_n 0, 1) := by decide +kernel
theorem dX10_work_166 : decode cX10_work 166 = .ok (.invokevirtual 316, 3) := by decide +kernel
theorem dX10_work_169 : decode cX10_work 169 = .ok (.aload_n 0, 1) := by decide +kernel
theorem dX10_work_170 : decode cX10_work 170 = .ok (.iconst 0, 1) := by decide +kernel
theorem dX10_work_171 : decode cX10_work 171 = .ok (.putfield 319, 3) := by decide +kernel
theorem dX10_work_174 : decode cX10_work 174 = .ok (.aload_n 0, 1) := by decide +kernel
theorem dX10_work_175 : decode cX10_work 175 = .ok (.iconst 0, 1) := by decide +kernel
theorem dX10_work_176 : decode cX10_work 176 = .ok (.putfield 322, 3) := by decide +kernel
theorem dX10_work_179 : decode cX10_work 179 = .ok (.aload_n 0, 1) := by decide +kernel
theorem dX10_work_180 : decode cX10_work 180 = .ok (.iconst 0, 1) := by decide +kernel
theorem dX10_work_181 : decode cX10_work 181 = .ok (.putfield 325, 3) := by decide +kernel
theorem dX10_work_184 : decode cX10_work 184 = .ok (.aload_n 0, 1) := by decide +kernel
theorem dX10_work_185 : decode cX10_work 185 = .ok (.iconst 0, 1) := by decide +kernel
theorem dX10_work_186 : decode cX10_work 186 = .ok (.aload_n 0, 1) := by decide +kernel
theorem dX10_work_187 : decode cX10_work 187 = .ok (.getfield 293, 3) := by decide +kernel
theorem dX10_work_190 : decode cX10_work 190 = .ok (.invokevirtual 328, 3) := by decide +kernel
theorem dX10_work_193 : decode cX10_work 193 = .ok (.aload_n 0, 1) := by decide +kernel
theorem dX10_work_194 : decode cX10_work 194 = .ok (.aload_n 0, 1) := by decide +kernel
theorem dX10_work_195 : decode cX10_work 195 = .ok (.getfield 65, 3) := by decide +kernel
theorem dX10_work_198 : decode cX10_work 198 = .ok (.aload_n 0, 1) := by decide +kernel
theorem dX10_work_199 : decode cX10_work 199 = .ok (.getfield 62, 3) := by decide +kernel
theorem dX10_work_202 : decode cX10_work 202 = .ok (.bipush 42, 2) := by decide +kernel
theorem dX10_work_204 : decode cX10_work 204 = .ok (.invokevirtual 165, 3) := by decide +kernel
theorem dX10_work_207 : decode cX10_work 207 = .ok (.aload_n 0, 1) := by decide +kernel
theorem dX10_work_208 : decode cX10_work 208 = .ok (.aload_n 0, 1) := by decide +kernel
theorem dX10_work_209 : decode cX10_work 209 = .ok (.getfield 325, 3) := by decide +kernel
theorem dX10_work_212 : decode cX10_work 212 = .ok (.putfield 178, 3) := by decide +kernel
theorem dX10_work_215 : decode cX10_work 215 = .ok (.aload_n 0, 1) := by decide +kernel
theorem dX10_work_216 : decode cX10_work 216 = .ok (.getfield 322, 3) := by decide +kernel
theorem dX10_work_219 : decode cX10_work 219 = .ok (.ireturn, 1) := by decide +kernel
theorem dX10_worstAt_0 : decode cX10_worstAt 0 = .ok (.iconst 0, 1) := by decide +kernel
theorem dX10_worstAt_1 : decode cX10_worstAt 1 = .ok (.istore 4, 2) := by decide +kernel
theorem dX10_worstAt_3 : decode cX10_worstAt 3 = .ok (.iload 4, 2) := by decide +kernel
theorem dX10_worstAt_5 : decode cX10_worstAt 5 = .ok (.bipush 40, 2) := by decide +kernel
theorem dX10_worstAt_7 : decode cX10_worstAt 7 = .ok (.if_icmp .gt 17, 3) := by decide +kernel
theorem dX10_worstAt_10 : decode cX10_worstAt 10 = .ok (.aload_n 0, 1) := by decide +kernel
theorem dX10_worstAt_11 : decode cX10_worstAt 11 = .ok (.getfield 86, 3) := by decide +kernel
theorem dX10_worstAt_14 : decode cX10_worstAt 14 = .ok (.iload 4, 2) := by decide +kernel
theorem dX10_worstAt_16 : decode cX10_worstAt 16 = .ok (.iconst 0, 1) := by decide +kernel
theorem dX10_worstAt_17 : decode cX10_worstAt 17 = .ok (.iastore, 1) := by decide +kernel
theorem dX10_worstAt_18 : decode cX10_worstAt 18 = .ok (.iinc 4 1, 3) := by decide +kernel
theorem dX10_worstAt_21 : decode cX10_worstAt 21 = .ok (.goto (-18), 3) := by decide +kernel
theorem dX10_worstAt_24 : decode cX10_worstAt 24 = .ok (.iconst 0, 1) := by decide +kernel
theorem dX10_worstAt_25 : decode cX10_worstAt 25 = .ok (.istore 4, 2) := by decide +kernel
theorem dX10_worstAt_27 : decode cX10_worstAt 27 = .ok (.iconst 0, 1) := by decide +kernel
theorem dX10_worstAt_28 : decode cX10_worstAt 28 = .ok (.istore 5, 2) := by decide +kernel
theorem dX10_worstAt_30 : decode cX10_worstAt 30 = .ok (.iload 5, 2) := by decide +kernel
theorem dX10_worstAt_32 : decode cX10_worstAt 32 = .ok (.bipush 9, 2) := by decide +kernel
theorem dX10_worstAt_34 : decode cX10_worstAt 34 = .ok (.if_icmp .gt 68, 3) := by decide +kernel
theorem dX10_worstAt_37 : decode cX10_worstAt 37 = .ok (.iload_n 3, 1) := by decide +kernel
theorem dX10_worstAt_38 : decode cX10_worstAt 38 = .ok (.iload 5, 2) := by decide +kernel
theorem dX10_worstAt_40 : decode cX10_worstAt 40 = .ok (.ishr, 1) := by decide +kernel
theorem dX10_worstAt_41 : decode cX10_worstAt 41 = .ok (.iconst 1, 1) := by decide +kernel
theorem dX10_worstAt_42 : decode cX10_worstAt 42 = .ok (.iand, 1) := by decide +kernel
theorem dX10_worstAt_43 : decode cX10_worstAt 43 = .ok (.ifCond .ne 6, 3) := by decide +kernel
theorem dX10_worstAt_46 : decode cX10_worstAt 46 = .ok (.goto 50, 3) := by decide +kernel
theorem dX10_worstAt_49 : decode cX10_worstAt 49 = .ok (.aload_n 0, 1) := by decide +kernel
theorem dX10_worstAt_50 : decode cX10_worstAt 50 = .ok (.iload_n 1, 1) := by decide +kernel
theorem dX10_worstAt_51 : decode cX10_worstAt 51 = .ok (.iload 5, 2) := by decide +kernel
theorem dX10_worstAt_53 : decode cX10_worstAt 53 = .ok (.iload_n 2, 1) := by decide +kernel
theorem dX10_worstAt_54 : decode cX10_worstAt 54 = .ok (.invokevirtual 420, 3) := by decide +kernel
theorem dX10_worstAt_57 : decode cX10_worstAt 57 = .ok (.istore 6, 2) := by decide +kernel
theorem dX10_worstAt_59 : decode cX10_worstAt 59 = .ok (.aload_n 0, 1) := by decide +kernel
theorem dX10_worstAt_60 : decode cX10_worstAt 60 = .ok (.getfield 86, 3) := by decide +kernel
theorem dX10_worstAt_63 : decode cX10_worstAt 63 = .ok (.iload 6, 2) := by decide +kernel
theorem dX10_worstAt_65 : decode cX10_worstAt 65 = .ok (.dup2, 1) := by decide +kernel
theorem dX10_worstAt_66 : decode cX10_worstAt 66 = .ok (.iaload, 1) := by decide +kernel
theorem dX10_worstAt_67 : decode cX10_worstAt 67 = .ok (.iconst 1, 1) := by decide +kernel
theorem dX10_worstAt_68 : decode cX10_worstAt 68 = .ok (.iadd, 1) := by decide +kernel
theorem dX10_worstAt_69 : decode cX10_worstAt 69 = .ok (.iastore, 1) := by decide +kernel
theorem dX10_worstAt_70 : decode cX10_worstAt 70 = .ok (.aload_n 0, 1) := by decide +kernel
theorem dX10_worstAt_71 : decode cX10_worstAt 71 = .ok (.getfield 86, 3) := by decide +kernel
theorem dX10_worstAt_74 : decode cX10_worstAt 74 = .ok (.iload 6, 2) := by decide +kernel
theorem dX10_worstAt_76 : decode cX10_worstAt 76 = .ok (.iaload, 1) := by decide +kernel
theorem dX10_worstAt_77 : decode cX10_worstAt 77 = .ok (.iload 4, 2) := by decide +kernel
theorem dX10_worstAt_79 : decode cX10_worstAt 79 = .ok (.if_icmp .le 13, 3) := by decide +kernel
theorem dX10_worstAt_82 : decode cX10_worstAt 82 = .ok (.aload_n 0, 1) := by decide +kernel
theorem dX10_worstAt_83 : decode cX10_worstAt 83 = .ok (.getfield 86, 3) := by decide +kernel
theorem dX10_worstAt_86 : decode cX10_worstAt 86 = .ok (.iload 6, 2) := by decide +kernel
theorem dX10_worstAt_88 : decode cX10_worstAt 88 = .ok (.iaload, 1) := by decide +kernel
theorem dX10_worstAt_89 : decode cX10_worstAt 89 = .ok (.goto 5, 3) := by decide +kernel
theorem dX10_worstAt_92 : decode cX10_worstAt 92 = .ok (.iload 4, 2) := by decide +kernel
theorem dX10_worstAt_94 : decode cX10_worstAt 94 = .ok (.istore 4, 2) := by decide +kernel
theorem dX10_worstAt_96 : decode cX10_worstAt 96 = .ok (.iinc 5 1, 3) := by decide +kernel
theorem dX10_worstAt_99 : decode cX10_worstAt 99 = .ok (.goto (-69), 3) := by decide +kernel
theorem dX10_worstAt_102 : decode cX10_worstAt 102 = .ok (.iload 4, 2) := by decide +kernel
theorem dX10_worstAt_104 : decode cX10_worstAt 104 = .ok (.ireturn, 1) := by decide +kernel
theorem dX10_would_0 : decode cX10_would 0 = .ok (.aload_n 0, 1) := by decide +kernel
theorem dX10_would_1 : decode cX10_would 1 = .ok (.iconst 0, 1) := by decide +kernel
theorem dX10_would_2 : decode cX10_would 2 = .ok (.putfield 3, 3) := by decide +kernel
theorem dX10_would_5 : decode cX10_would 5 = .ok (.aload_n 0, 1) := by decide +kernel
theorem dX10_would_6 : decode cX10_would 6 = .ok (.iload_n 1, 1) := by decide +kernel
theorem dX10_would_7 : decode cX10_would 7 = .ok (.iconst 0, 1) := by decide +kernel
theorem dX10_would_8 : decode cX10_would 8 = .ok (.bipush 9, 2) := by decide +kernel
theorem dX10_would_10 : decode cX10_would 10 = .ok (.invokestatic 282, 3) := by decide +kernel
theorem dX10_would_13 : decode cX10_would 13 = .ok (.ifCond .eq 49, 3) := by decide +kernel
theorem dX10_would_16 : decode cX10_would 16 = .ok (.iload_n 2, 1) := by decide +kernel
theorem dX10_would_17 : decode cX10_would 17 = .ok (.iconst 0, 1) := by decide +kernel
theorem dX10_would_18 : decode cX10_would 18 = .ok (.bipush 9, 2) := by decide +kernel
theorem dX10_would_20 : decode cX10_would 20 = .ok (.invokestatic 282, 3) := by decide +kernel
theorem dX10_would_23 : decode cX10_would 23 = .ok (.ifCond .eq 39, 3) := by decide +kernel
theorem dX10_would_26 : decode cX10_would 26 = .ok (.iload_n 3, 1) := by decide +kernel
theorem dX10_would_27 : decode cX10_would 27 = .ok (.iconst 0, 1) := by decide +kernel
theorem dX10_would_28 : decode cX10_would 28 = .ok (.bipush 9, 2) := by decide +kernel
theorem dX10_would_30 : decode cX10_would 30 = .ok (.invokestatic 282, 3) := by decide +kernel
theorem dX10_would_33 : decode cX10_would 33 = .ok (.ifCond .eq 29, 3) := by decide +kernel
theorem dX10_would_36 : decode cX10_would 36 = .ok (.iload 4, 2) := by decide +kernel
theorem dX10_would_38 : decode cX10_would 38 = .ok (.iconst 0, 1) := by decide +kernel
theorem dX10_would_39 : decode cX10_would 39 = .ok (.bipush 9, 2) := by decide +kernel
theorem dX10_would_41 : decode cX10_would 41 = .ok (.invokestatic 282, 3) := by decide +kernel
theorem dX10_would_44 : decode cX10_would 44 = .ok (.ifCond .eq 18, 3) := by decide +kernel
theorem dX10_would_47 : decode cX10_would 47 = .ok (.iload 5, 2) := by decide +kernel
theorem dX10_would_49 : decode cX10_would 49 = .ok (.iconst 0, 1) := by decide +kernel
theorem dX10_would_50 : decode cX10_would 50 = .ok (.bipush 99, 2) := by decide +kernel
theorem dX10_would_52 : decode cX10_would 52 = .ok (.invokestatic 282, 3) := by decide +kernel
theorem dX10_would_55 : decode cX10_would 55 = .ok (.ifCond .eq 7, 3) := by decide +kernel
theorem dX10_would_58 : decode cX10_would 58 = .ok (.iconst 1, 1) := by decide +kernel
theorem dX10_would_59 : decode cX10_would 59 = .ok (.goto 4, 3) := by decide +kernel
theorem dX10_would_62 : decode cX10_would 62 = .ok (.iconst 0, 1) := by decide +kernel
theorem dX10_would_63 : decode cX10_would 63 = .ok (.iconst 1, 1) := by decide +kernel
theorem dX10_would_64 : decode cX10_would 64 = .ok (.iconst 1, 1) := by decide +kernel
theorem dX10_would_65 : decode cX10_would 65 = .ok (.invokevirtual 203, 3) := by decide +kernel
theorem dX10_would_68 : decode cX10_would 68 = .ok (.ifCond .ne 5, 3) := by decide +kernel
theorem dX10_would_71 : decode cX10_would 71 = .ok (.iconst 0, 1) := by decide +kernel
theorem dX10_would_72 : decode cX10_would 72 = .ok (.ireturn, 1) := by decide +kernel
theorem dX10_would_73 : decode cX10_would 73 = .ok (.iconst 0, 1) := by decide +kernel
theorem dX10_would_74 : decode cX10_would 74 = .ok (.istore 6, 2) := by decide +kernel
theorem dX10_would_76 : decode cX10_would 76 = .ok (.iload 6, 2) := by decide +kernel
theorem dX10_would_78 : decode cX10_would 78 = .ok (.bipush 9, 2) := by decide +kernel
theorem dX10_would_80 : decode cX10_would 80 = .ok (.if_icmp .ge 17, 3) := by decide +kernel
theorem dX10_would_83 : decode cX10_would 83 = .ok (.aload_n 0, 1) := by decide +kernel
theorem dX10_would_84 : decode cX10_would 84 = .ok (.getfield 53, 3) := by decide +kernel
theorem dX10_would_87 : decode cX10_would 87 = .ok (.iload 6, 2) := by decide +kernel
theorem dX10_would_89 : decode cX10_would 89 = .ok (.iconst 0, 1) := by decide +kernel
theorem dX10_would_90 : decode cX10_would 90 = .ok (.iastore, 1) := by decide +kernel
theorem dX10_would_91 : decode cX10_would 91 = .ok (.iinc 6 1, 3) := by decide +kernel
theorem dX10_would_94 : decode cX10_would 94 = .ok (.goto (-18), 3) := by decide +kernel
theorem dX10_would_97 : decode cX10_would 97 = .ok (.aload_n 0, 1) := by decide +kernel
theorem dX10_would_98 : decode cX10_would 98 = .ok (.getfield 53, 3) := by decide +kernel
theorem dX10_would_101 : decode cX10_would 101 = .ok (.iconst 0, 1) := by decide +kernel
theorem dX10_would_102 : decode cX10_would 102 = .ok (.iload_n 1, 1) := by decide +kernel
theorem dX10_would_103 : decode cX10_would 103 = .ok (.iastore, 1) := by decide +kernel
theorem dX10_would_104 : decode cX10_would 104 = .ok (.aload_n 0, 1) := by decide +kernel
theorem dX10_would_105 : decode cX10_would 105 = .ok (.getfield 53, 3) := by decide +kernel
theorem dX10_would_108 : decode cX10_would 108 = .ok (.iconst 1, 1) := by decide +kernel
theorem dX10_would_109 : decode cX10_would 109 = .ok (.iload_n 2, 1) := by decide +kernel
theorem dX10_would_110 : decode cX10_would 110 = .ok (.iastore, 1) := by decide +kernel
theorem dX10_would_111 : decode cX10_would 111 = .ok (.aload_n 0, 1) := by decide +kernel
theorem dX10_would_112 : decode cX10_would 112 = .ok (.getfield 53, 3) := by decide +kernel
theorem dX10_would_115 : decode cX10_would 115 = .ok (.iconst 2, 1) := by decide +kernel
theorem dX10_would_116 : decode cX10_would 116 = .ok (.iload_n 3, 1) := by decide +kernel
theorem dX10_would_117 : decode cX10_would 117 = .ok (.iastore, 1) := by decide +kernel
theorem dX10_would_118 : decode cX10_would 118 = .ok (.aload_n 0, 1) := by decide +kernel
theorem dX10_would_119 : decode cX10_would 119 = .ok (.getfield 53, 3) := by decide +kernel
theorem dX10_would_122 : decode cX10_would 122 = .ok (.iconst 3, 1) := by decide +kernel
theorem dX10_would_123 : decode cX10_would 123 = .ok (.iload 4, 2) := by decide +kernel
theorem dX10_would_125 : decode cX10_would 125 = .ok (.iastore, 1) := by decide +kernel
theorem dX10_would_126 : decode cX10_would 126 = .ok (.aload_n 0, 1) := by decide +kernel
theorem dX10_would_127 : decode cX10_would 127 = .ok (.getfield 53, 3) := by decide +kernel
theorem dX10_would_130 : decode cX10_would 130 = .ok (.iconst 4, 1) := by decide +kernel
theorem dX10_would_131 : decode cX10_would 131 = .ok (.iload 5, 2) := by decide +kernel
theorem dX10_would_133 : decode cX10_would 133 = .ok (.iastore, 1) := by decide +kernel
theorem dX10_would_134 : decode cX10_would 134 = .ok (.aload_n 0, 1) := by decide +kernel
theorem dX10_would_135 : decode cX10_would 135 = .ok (.invokevirtual 340, 3) := by decide +kernel
theorem dX10_would_138 : decode cX10_would 138 = .ok (.ireturn, 1) := by decide +kernel
theorem dX10_wrong_0 : decode cX10_wrong 0 = .ok (.aload_n 0, 1) := by decide +kernel
theorem dX10_wrong_1 : decode cX10_wrong 1 = .ok (.getfield 101, 3) := by decide +kernel
theorem dX10_wrong_4 : decode cX10_wrong 4 = .ok (.iconst (-1), 1) := by decide +kernel
theorem dX10_wrong_5 : decode cX10_wrong 5 = .ok (.if_icmp .eq 4, 3) := by decide +kernel
theorem dX10_wrong_8 : decode cX10_wrong 8 = .ok (.return_, 1) := by decide +kernel
theorem dX10_wrong_9 : decode cX10_wrong 9 = .ok (.aload_n 0, 1) := by decide +kernel
theorem dX10_wrong_10 : decode cX10_wrong 10 = .ok (.iload_n 2, 1) := by decide +kernel
theorem dX10_wrong_11 : decode cX10_wrong 11 = .ok (.putfield 101, 3) := by decide +kernel
theorem dX10_wrong_14 : decode cX10_wrong 14 = .ok (.aload_n 0, 1) := by decide +kernel
theorem dX10_wrong_15 : decode cX10_wrong 15 = .ok (.iload_n 1, 1) := by decide +kernel
theorem dX10_wrong_16 : decode cX10_wrong 16 = .ok (.putfield 104, 3) := by decide +kernel
theorem dX10_wrong_19 : decode cX10_wrong 19 = .ok (.return_, 1) := by decide +kernel
