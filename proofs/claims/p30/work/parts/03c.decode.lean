theorem dX0_init_0 : decode cX0_init 0 = .ok (.aload_n 0, 1) := by decide +kernel
theorem dX0_init_1 : decode cX0_init 1 = .ok (.invokespecial 3, 3) := by decide +kernel
theorem dX0_init_4 : decode cX0_init 4 = .ok (.aload_n 0, 1) := by decide +kernel
theorem dX0_init_5 : decode cX0_init 5 = .ok (.bipush 12, 2) := by decide +kernel
theorem dX0_init_7 : decode cX0_init 7 = .ok (.newarray .int, 2) := by decide +kernel
theorem dX0_init_9 : decode cX0_init 9 = .ok (.putfield 9, 3) := by decide +kernel
theorem dX0_init_12 : decode cX0_init 12 = .ok (.aload_n 0, 1) := by decide +kernel
theorem dX0_init_13 : decode cX0_init 13 = .ok (.bipush 12, 2) := by decide +kernel
theorem dX0_init_15 : decode cX0_init 15 = .ok (.sipush 200, 3) := by decide +kernel
theorem dX0_init_18 : decode cX0_init 18 = .ok (.multianewarray 15 2, 4) := by decide +kernel
theorem dX0_init_22 : decode cX0_init 22 = .ok (.putfield 17, 3) := by decide +kernel
theorem dX0_init_25 : decode cX0_init 25 = .ok (.aload_n 0, 1) := by decide +kernel
theorem dX0_init_26 : decode cX0_init 26 = .ok (.bipush 12, 2) := by decide +kernel
theorem dX0_init_28 : decode cX0_init 28 = .ok (.sipush 200, 3) := by decide +kernel
theorem dX0_init_31 : decode cX0_init 31 = .ok (.multianewarray 15 2, 4) := by decide +kernel
theorem dX0_init_35 : decode cX0_init 35 = .ok (.putfield 20, 3) := by decide +kernel
theorem dX0_init_38 : decode cX0_init 38 = .ok (.aload_n 0, 1) := by decide +kernel
theorem dX0_init_39 : decode cX0_init 39 = .ok (.bipush 12, 2) := by decide +kernel
theorem dX0_init_41 : decode cX0_init 41 = .ok (.bipush 40, 2) := by decide +kernel
theorem dX0_init_43 : decode cX0_init 43 = .ok (.multianewarray 15 2, 4) := by decide +kernel
theorem dX0_init_47 : decode cX0_init 47 = .ok (.putfield 23, 3) := by decide +kernel
theorem dX0_init_50 : decode cX0_init 50 = .ok (.aload_n 0, 1) := by decide +kernel
theorem dX0_init_51 : decode cX0_init 51 = .ok (.bipush 12, 2) := by decide +kernel
theorem dX0_init_53 : decode cX0_init 53 = .ok (.bipush 40, 2) := by decide +kernel
theorem dX0_init_55 : decode cX0_init 55 = .ok (.multianewarray 15 2, 4) := by decide +kernel
theorem dX0_init_59 : decode cX0_init 59 = .ok (.putfield 26, 3) := by decide +kernel
theorem dX0_init_62 : decode cX0_init 62 = .ok (.return_, 1) := by decide +kernel
theorem dX0_add_0 : decode cX0_add 0 = .ok (.aload_n 0, 1) := by decide +kernel
theorem dX0_add_1 : decode cX0_add 1 = .ok (.getfield 9, 3) := by decide +kernel
theorem dX0_add_4 : decode cX0_add 4 = .ok (.iload_n 1, 1) := by decide +kernel
theorem dX0_add_5 : decode cX0_add 5 = .ok (.iaload, 1) := by decide +kernel
theorem dX0_add_6 : decode cX0_add 6 = .ok (.istore 4, 2) := by decide +kernel
theorem dX0_add_8 : decode cX0_add 8 = .ok (.iload 4, 2) := by decide +kernel
theorem dX0_add_10 : decode cX0_add 10 = .ok (.sipush 200, 3) := by decide +kernel
theorem dX0_add_13 : decode cX0_add 13 = .ok (.if_icmp .lt 5, 3) := by decide +kernel
theorem dX0_add_16 : decode cX0_add 16 = .ok (.iconst 0, 1) := by decide +kernel
theorem dX0_add_17 : decode cX0_add 17 = .ok (.ireturn, 1) := by decide +kernel
theorem dX0_add_18 : decode cX0_add 18 = .ok (.aload_n 0, 1) := by decide +kernel
theorem dX0_add_19 : decode cX0_add 19 = .ok (.getfield 17, 3) := by decide +kernel
theorem dX0_add_22 : decode cX0_add 22 = .ok (.iload_n 1, 1) := by decide +kernel
theorem dX0_add_23 : decode cX0_add 23 = .ok (.aaload, 1) := by decide +kernel
theorem dX0_add_24 : decode cX0_add 24 = .ok (.iload 4, 2) := by decide +kernel
theorem dX0_add_26 : decode cX0_add 26 = .ok (.iload_n 2, 1) := by decide +kernel
theorem dX0_add_27 : decode cX0_add 27 = .ok (.iastore, 1) := by decide +kernel
theorem dX0_add_28 : decode cX0_add 28 = .ok (.aload_n 0, 1) := by decide +kernel
theorem dX0_add_29 : decode cX0_add 29 = .ok (.getfield 20, 3) := by decide +kernel
theorem dX0_add_32 : decode cX0_add 32 = .ok (.iload_n 1, 1) := by decide +kernel
theorem dX0_add_33 : decode cX0_add 33 = .ok (.aaload, 1) := by decide +kernel
theorem dX0_add_34 : decode cX0_add 34 = .ok (.iload 4, 2) := by decide +kernel
theorem dX0_add_36 : decode cX0_add 36 = .ok (.iload_n 3, 1) := by decide +kernel
theorem dX0_add_37 : decode cX0_add 37 = .ok (.ifCond .eq 7, 3) := by decide +kernel
theorem dX0_add_40 : decode cX0_add 40 = .ok (.iconst 1, 1) := by decide +kernel
theorem dX0_add_41 : decode cX0_add 41 = .ok (.goto 4, 3) := by decide +kernel
theorem dX0_add_44 : decode cX0_add 44 = .ok (.iconst 0, 1) := by decide +kernel
theorem dX0_add_45 : decode cX0_add 45 = .ok (.iastore, 1) := by decide +kernel
theorem dX0_add_46 : decode cX0_add 46 = .ok (.iload_n 3, 1) := by decide +kernel
theorem dX0_add_47 : decode cX0_add 47 = .ok (.ifCond .eq 18, 3) := by decide +kernel
theorem dX0_add_50 : decode cX0_add 50 = .ok (.aload_n 0, 1) := by decide +kernel
theorem dX0_add_51 : decode cX0_add 51 = .ok (.getfield 23, 3) := by decide +kernel
theorem dX0_add_54 : decode cX0_add 54 = .ok (.iload_n 1, 1) := by decide +kernel
theorem dX0_add_55 : decode cX0_add 55 = .ok (.aaload, 1) := by decide +kernel
theorem dX0_add_56 : decode cX0_add 56 = .ok (.iload_n 2, 1) := by decide +kernel
theorem dX0_add_57 : decode cX0_add 57 = .ok (.dup2, 1) := by decide +kernel
theorem dX0_add_58 : decode cX0_add 58 = .ok (.iaload, 1) := by decide +kernel
theorem dX0_add_59 : decode cX0_add 59 = .ok (.iconst 1, 1) := by decide +kernel
theorem dX0_add_60 : decode cX0_add 60 = .ok (.iadd, 1) := by decide +kernel
theorem dX0_add_61 : decode cX0_add 61 = .ok (.iastore, 1) := by decide +kernel
theorem dX0_add_62 : decode cX0_add 62 = .ok (.goto 15, 3) := by decide +kernel
theorem dX0_add_65 : decode cX0_add 65 = .ok (.aload_n 0, 1) := by decide +kernel
theorem dX0_add_66 : decode cX0_add 66 = .ok (.getfield 26, 3) := by decide +kernel
theorem dX0_add_69 : decode cX0_add 69 = .ok (.iload_n 1, 1) := by decide +kernel
theorem dX0_add_70 : decode cX0_add 70 = .ok (.aaload, 1) := by decide +kernel
theorem dX0_add_71 : decode cX0_add 71 = .ok (.iload_n 2, 1) := by decide +kernel
theorem dX0_add_72 : decode cX0_add 72 = .ok (.dup2, 1) := by decide +kernel
theorem dX0_add_73 : decode cX0_add 73 = .ok (.iaload, 1) := by decide +kernel
theorem dX0_add_74 : decode cX0_add 74 = .ok (.iconst 1, 1) := by decide +kernel
theorem dX0_add_75 : decode cX0_add 75 = .ok (.iadd, 1) := by decide +kernel
theorem dX0_add_76 : decode cX0_add 76 = .ok (.iastore, 1) := by decide +kernel
theorem dX0_add_77 : decode cX0_add 77 = .ok (.aload_n 0, 1) := by decide +kernel
theorem dX0_add_78 : decode cX0_add 78 = .ok (.getfield 9, 3) := by decide +kernel
theorem dX0_add_81 : decode cX0_add 81 = .ok (.iload_n 1, 1) := by decide +kernel
theorem dX0_add_82 : decode cX0_add 82 = .ok (.iload 4, 2) := by decide +kernel
theorem dX0_add_84 : decode cX0_add 84 = .ok (.iconst 1, 1) := by decide +kernel
theorem dX0_add_85 : decode cX0_add 85 = .ok (.iadd, 1) := by decide +kernel
theorem dX0_add_86 : decode cX0_add 86 = .ok (.iastore, 1) := by decide +kernel
theorem dX0_add_87 : decode cX0_add 87 = .ok (.iconst 1, 1) := by decide +kernel
theorem dX0_add_88 : decode cX0_add 88 = .ok (.ireturn, 1) := by decide +kernel
theorem dX0_countOf_0 : decode cX0_countOf 0 = .ok (.aload_n 0, 1) := by decide +kernel
theorem dX0_countOf_1 : decode cX0_countOf 1 = .ok (.getfield 9, 3) := by decide +kernel
theorem dX0_countOf_4 : decode cX0_countOf 4 = .ok (.iload_n 1, 1) := by decide +kernel
theorem dX0_countOf_5 : decode cX0_countOf 5 = .ok (.iaload, 1) := by decide +kernel
theorem dX0_countOf_6 : decode cX0_countOf 6 = .ok (.ireturn, 1) := by decide +kernel
theorem dX0_countAt_0 : decode cX0_countAt 0 = .ok (.aload_n 0, 1) := by decide +kernel
theorem dX0_countAt_1 : decode cX0_countAt 1 = .ok (.getfield 23, 3) := by decide +kernel
theorem dX0_countAt_4 : decode cX0_countAt 4 = .ok (.iload_n 1, 1) := by decide +kernel
theorem dX0_countAt_5 : decode cX0_countAt 5 = .ok (.aaload, 1) := by decide +kernel
theorem dX0_countAt_6 : decode cX0_countAt 6 = .ok (.iload_n 2, 1) := by decide +kernel
theorem dX0_countAt_7 : decode cX0_countAt 7 = .ok (.iaload, 1) := by decide +kernel
theorem dX0_countAt_8 : decode cX0_countAt 8 = .ok (.aload_n 0, 1) := by decide +kernel
theorem dX0_countAt_9 : decode cX0_countAt 9 = .ok (.getfield 26, 3) := by decide +kernel
theorem dX0_countAt_12 : decode cX0_countAt 12 = .ok (.iload_n 1, 1) := by decide +kernel
theorem dX0_countAt_13 : decode cX0_countAt 13 = .ok (.aaload, 1) := by decide +kernel
theorem dX0_countAt_14 : decode cX0_countAt 14 = .ok (.iload_n 2, 1) := by decide +kernel
theorem dX0_countAt_15 : decode cX0_countAt 15 = .ok (.iaload, 1) := by decide +kernel
theorem dX0_countAt_16 : decode cX0_countAt 16 = .ok (.iadd, 1) := by decide +kernel
theorem dX0_countAt_17 : decode cX0_countAt 17 = .ok (.ireturn, 1) := by decide +kernel
theorem dX0_failuresOf_0 : decode cX0_failuresOf 0 = .ok (.iconst 0, 1) := by decide +kernel
theorem dX0_failuresOf_1 : decode cX0_failuresOf 1 = .ok (.istore_n 2, 1) := by decide +kernel
theorem dX0_failuresOf_2 : decode cX0_failuresOf 2 = .ok (.iconst 0, 1) := by decide +kernel
theorem dX0_failuresOf_3 : decode cX0_failuresOf 3 = .ok (.istore_n 3, 1) := by decide +kernel
theorem dX0_failuresOf_4 : decode cX0_failuresOf 4 = .ok (.iload_n 3, 1) := by decide +kernel
theorem dX0_failuresOf_5 : decode cX0_failuresOf 5 = .ok (.bipush 40, 2) := by decide +kernel
theorem dX0_failuresOf_7 : decode cX0_failuresOf 7 = .ok (.if_icmp .ge 20, 3) := by decide +kernel
theorem dX0_failuresOf_10 : decode cX0_failuresOf 10 = .ok (.iload_n 2, 1) := by decide +kernel
theorem dX0_failuresOf_11 : decode cX0_failuresOf 11 = .ok (.aload_n 0, 1) := by decide +kernel
theorem dX0_failuresOf_12 : decode cX0_failuresOf 12 = .ok (.getfield 26, 3) := by decide +kernel
theorem dX0_failuresOf_15 : decode cX0_failuresOf 15 = .ok (.iload_n 1, 1) := by decide +kernel
theorem dX0_failuresOf_16 : decode cX0_failuresOf 16 = .ok (.aaload, 1) := by decide +kernel
theorem dX0_failuresOf_17 : decode cX0_failuresOf 17 = .ok (.iload_n 3, 1) := by decide +kernel
theorem dX0_failuresOf_18 : decode cX0_failuresOf 18 = .ok (.iaload, 1) := by decide +kernel
theorem dX0_failuresOf_19 : decode cX0_failuresOf 19 = .ok (.iadd, 1) := by decide +kernel
theorem dX0_failuresOf_20 : decode cX0_failuresOf 20 = .ok (.istore_n 2, 1) := by decide +kernel
theorem dX0_failuresOf_21 : decode cX0_failuresOf 21 = .ok (.iinc 3 1, 3) := by decide +kernel
theorem dX0_failuresOf_24 : decode cX0_failuresOf 24 = .ok (.goto (-20), 3) := by decide +kernel
theorem dX0_failuresOf_27 : decode cX0_failuresOf 27 = .ok (.iload_n 2, 1) := by decide +kernel
theorem dX0_failuresOf_28 : decode cX0_failuresOf 28 = .ok (.ireturn, 1) := by decide +kernel
theorem dX0_verdictAt_0 : decode cX0_verdictAt 0 = .ok (.aload_n 0, 1) := by decide +kernel
theorem dX0_verdictAt_1 : decode cX0_verdictAt 1 = .ok (.getfield 23, 3) := by decide +kernel
theorem dX0_verdictAt_4 : decode cX0_verdictAt 4 = .ok (.iload_n 1, 1) := by decide +kernel
theorem dX0_verdictAt_5 : decode cX0_verdictAt 5 = .ok (.aaload, 1) := by decide +kernel
theorem dX0_verdictAt_6 : decode cX0_verdictAt 6 = .ok (.iload_n 2, 1) := by decide +kernel
theorem dX0_verdictAt_7 : decode cX0_verdictAt 7 = .ok (.iaload, 1) := by decide +kernel
theorem dX0_verdictAt_8 : decode cX0_verdictAt 8 = .ok (.ifCond .le 7, 3) := by decide +kernel
theorem dX0_verdictAt_11 : decode cX0_verdictAt 11 = .ok (.iconst 1, 1) := by decide +kernel
theorem dX0_verdictAt_12 : decode cX0_verdictAt 12 = .ok (.goto 4, 3) := by decide +kernel
theorem dX0_verdictAt_15 : decode cX0_verdictAt 15 = .ok (.iconst 0, 1) := by decide +kernel
theorem dX0_verdictAt_16 : decode cX0_verdictAt 16 = .ok (.aload_n 0, 1) := by decide +kernel
theorem dX0_verdictAt_17 : decode cX0_verdictAt 17 = .ok (.getfield 26, 3) := by decide +kernel
theorem dX0_verdictAt_20 : decode cX0_verdictAt 20 = .ok (.iload_n 1, 1) := by decide +kernel
theorem dX0_verdictAt_21 : decode cX0_verdictAt 21 = .ok (.aaload, 1) := by decide +kernel
theorem dX0_verdictAt_22 : decode cX0_verdictAt 22 = .ok (.iload_n 2, 1) := by decide +kernel
theorem dX0_verdictAt_23 : decode cX0_verdictAt 23 = .ok (.iaload, 1) := by decide +kernel
theorem dX0_verdictAt_24 : decode cX0_verdictAt 24 = .ok (.ifCond .le 7, 3) := by decide +kernel
theorem dX0_verdictAt_27 : decode cX0_verdictAt 27 = .ok (.iconst 2, 1) := by decide +kernel
theorem dX0_verdictAt_28 : decode cX0_verdictAt 28 = .ok (.goto 4, 3) := by decide +kernel
theorem dX0_verdictAt_31 : decode cX0_verdictAt 31 = .ok (.iconst 0, 1) := by decide +kernel
theorem dX0_verdictAt_32 : decode cX0_verdictAt 32 = .ok (.iadd, 1) := by decide +kernel
theorem dX0_verdictAt_33 : decode cX0_verdictAt 33 = .ok (.ireturn, 1) := by decide +kernel
theorem dX0_contradicting_0 : decode cX0_contradicting 0 = .ok (.iconst 0, 1) := by decide +kernel
theorem dX0_contradicting_1 : decode cX0_contradicting 1 = .ok (.istore 5, 2) := by decide +kernel
theorem dX0_contradicting_3 : decode cX0_contradicting 3 = .ok (.iconst 0, 1) := by decide +kernel
theorem dX0_contradicting_4 : decode cX0_contradicting 4 = .ok (.istore 6, 2) := by decide +kernel
theorem dX0_contradicting_6 : decode cX0_contradicting 6 = .ok (.iload 6, 2) := by decide +kernel
theorem dX0_contradicting_8 : decode cX0_contradicting 8 = .ok (.aload_n 0, 1) := by decide +kernel
theorem dX0_contradicting_9 : decode cX0_contradicting 9 = .ok (.getfield 9, 3) := by decide +kernel
theorem dX0_contradicting_12 : decode cX0_contradicting 12 = .ok (.iload_n 1, 1) := by decide +kernel
theorem dX0_contradicting_13 : decode cX0_contradicting 13 = .ok (.iaload, 1) := by decide +kernel
theorem dX0_contradicting_14 : decode cX0_contradicting 14 = .ok (.if_icmp .ge 88, 3) := by decide +kernel
theorem dX0_contradicting_17 : decode cX0_contradicting 17 = .ok (.aload_n 0, 1) := by decide +kernel
theorem dX0_contradicting_18 : decode cX0_contradicting 18 = .ok (.getfield 17, 3) := by decide +kernel
theorem dX0_contradicting_21 : decode cX0_contradicting 21 = .ok (.iload_n 1, 1) := by decide +kernel
theorem dX0_contradicting_22 : decode cX0_contradicting 22 = .ok (.aaload, 1) := by decide +kernel
theorem dX0_contradicting_23 : decode cX0_contradicting 23 = .ok (.iload 6, 2) := by decide +kernel
theorem dX0_contradicting_25 : decode cX0_contradicting 25 = .ok (.iaload, 1) := by decide +kernel
theorem dX0_contradicting_26 : decode cX0_contradicting 26 = .ok (.istore 7, 2) := by decide +kernel
theorem dX0_contradicting_28 : decode cX0_contradicting 28 = .ok (.iload 7, 2) := by decide +kernel
theorem dX0_contradicting_30 : decode cX0_contradicting 30 = .ok (.iload_n 2, 1) := by decide +kernel
theorem dX0_contradicting_31 : decode cX0_contradicting 31 = .ok (.if_icmp .lt 13, 3) := by decide +kernel
theorem dX0_contradicting_34 : decode cX0_contradicting 34 = .ok (.iload 7, 2) := by decide +kernel
theorem dX0_contradicting_36 : decode cX0_contradicting 36 = .ok (.iload_n 3, 1) := by decide +kernel
theorem dX0_contradicting_37 : decode cX0_contradicting 37 = .ok (.if_icmp .gt 7, 3) := by decide +kernel
theorem dX0_contradicting_40 : decode cX0_contradicting 40 = .ok (.iconst 1, 1) := by decide +kernel
theorem dX0_contradicting_41 : decode cX0_contradicting 41 = .ok (.goto 4, 3) := by decide +kernel
theorem dX0_contradicting_44 : decode cX0_contradicting 44 = .ok (.iconst 0, 1) := by decide +kernel
theorem dX0_contradicting_45 : decode cX0_contradicting 45 = .ok (.istore 8, 2) := by decide +kernel
theorem dX0_contradicting_47 : decode cX0_contradicting 47 = .ok (.aload_n 0, 1) := by decide +kernel
theorem dX0_contradicting_48 : decode cX0_contradicting 48 = .ok (.getfield 20, 3) := by decide +kernel
theorem dX0_contradicting_51 : decode cX0_contradicting 51 = .ok (.iload_n 1, 1) := by decide +kernel
theorem dX0_contradicting_52 : decode cX0_contradicting 52 = .ok (.aaload, 1) := by decide +kernel
theorem dX0_contradicting_53 : decode cX0_contradicting 53 = .ok (.iload 6, 2) := by decide +kernel
theorem dX0_contradicting_55 : decode cX0_contradicting 55 = .ok (.iaload, 1) := by decide +kernel
theorem dX0_contradicting_56 : decode cX0_contradicting 56 = .ok (.iconst 1, 1) := by decide +kernel
theorem dX0_contradicting_57 : decode cX0_contradicting 57 = .ok (.if_icmp .ne 7, 3) := by decide +kernel
theorem dX0_contradicting_60 : decode cX0_contradicting 60 = .ok (.iconst 1, 1) := by decide +kernel
theorem dX0_contradicting_61 : decode cX0_contradicting 61 = .ok (.goto 4, 3) := by decide +kernel
theorem dX0_contradicting_64 : decode cX0_contradicting 64 = .ok (.iconst 0, 1) := by decide +kernel
theorem dX0_contradicting_65 : decode cX0_contradicting 65 = .ok (.istore 9, 2) := by decide +kernel
theorem dX0_contradicting_67 : decode cX0_contradicting 67 = .ok (.iload 7, 2) := by decide +kernel
theorem dX0_contradicting_69 : decode cX0_contradicting 69 = .ok (.iload 4, 2) := by decide +kernel
theorem dX0_contradicting_71 : decode cX0_contradicting 71 = .ok (.if_icmp .lt 7, 3) := by decide +kernel
theorem dX0_contradicting_74 : decode cX0_contradicting 74 = .ok (.iconst 1, 1) := by decide +kernel
theorem dX0_contradicting_75 : decode cX0_contradicting 75 = .ok (.goto 4, 3) := by decide +kernel
theorem dX0_contradicting_78 : decode cX0_contradicting 78 = .ok (.iconst 0, 1) := by decide +kernel
theorem dX0_contradicting_79 : decode cX0_contradicting 79 = .ok (.istore 10, 2) := by decide +kernel
theorem dX0_contradicting_81 : decode cX0_contradicting 81 = .ok (.iload 8, 2) := by decide +kernel
theorem dX0_contradicting_83 : decode cX0_contradicting 83 = .ok (.ifCond .eq 13, 3) := by decide +kernel
theorem dX0_contradicting_86 : decode cX0_contradicting 86 = .ok (.iload 9, 2) := by decide +kernel
theorem dX0_contradicting_88 : decode cX0_contradicting 88 = .ok (.iload 10, 2) := by decide +kernel
theorem dX0_contradicting_90 : decode cX0_contradicting 90 = .ok (.if_icmp .ne 6, 3) := by decide +kernel
theorem dX0_contradicting_93 : decode cX0_contradicting 93 = .ok (.iinc 5 1, 3) := by decide +kernel
theorem dX0_contradicting_96 : decode cX0_contradicting 96 = .ok (.iinc 6 1, 3) := by decide +kernel
theorem dX0_contradicting_99 : decode cX0_contradicting 99 = .ok (.goto (-93), 3) := by decide +kernel
theorem dX0_contradicting_102 : decode cX0_contradicting 102 = .ok (.iload 5, 2) := by decide +kernel
theorem dX0_contradicting_104 : decode cX0_contradicting 104 = .ok (.ireturn, 1) := by decide +kernel
theorem dX0_passesWithin_0 : decode cX0_passesWithin 0 = .ok (.iconst 0, 1) := by decide +kernel
theorem dX0_passesWithin_1 : decode cX0_passesWithin 1 = .ok (.istore 4, 2) := by decide +kernel
theorem dX0_passesWithin_3 : decode cX0_passesWithin 3 = .ok (.iload_n 2, 1) := by decide +kernel
theorem dX0_passesWithin_4 : decode cX0_passesWithin 4 = .ok (.istore 5, 2) := by decide +kernel
theorem dX0_passesWithin_6 : decode cX0_passesWithin 6 = .ok (.iload 5, 2) := by decide +kernel
theorem dX0_passesWithin_8 : decode cX0_passesWithin 8 = .ok (.iload_n 3, 1) := by decide +kernel
theorem dX0_passesWithin_9 : decode cX0_passesWithin 9 = .ok (.if_icmp .gt 23, 3) := by decide +kernel
theorem dX0_passesWithin_12 : decode cX0_passesWithin 12 = .ok (.iload 4, 2) := by decide +kernel
theorem dX0_passesWithin_14 : decode cX0_passesWithin 14 = .ok (.aload_n 0, 1) := by decide +kernel
theorem dX0_passesWithin_15 : decode cX0_passesWithin 15 = .ok (.getfield 23, 3) := by decide +kernel
theorem dX0_passesWithin_18 : decode cX0_passesWithin 18 = .ok (.iload_n 1, 1) := by decide +kernel
theorem dX0_passesWithin_19 : decode cX0_passesWithin 19 = .ok (.aaload, 1) := by decide +kernel
theorem dX0_passesWithin_20 : decode cX0_passesWithin 20 = .ok (.iload 5, 2) := by decide +kernel
theorem dX0_passesWithin_22 : decode cX0_passesWithin 22 = .ok (.iaload, 1) := by decide +kernel
theorem dX0_passesWithin_23 : decode cX0_passesWithin 23 = .ok (.iadd, 1) := by decide +kernel
theorem dX0_passesWithin_24 : decode cX0_passesWithin 24 = .ok (.istore 4, 2) := by decide +kernel
theorem dX0_passesWithin_26 : decode cX0_passesWithin 26 = .ok (.iinc 5 1, 3) := by decide +kernel
theorem dX0_passesWithin_29 : decode cX0_passesWithin 29 = .ok (.goto (-23), 3) := by decide +kernel
theorem dX0_passesWithin_32 : decode cX0_passesWithin 32 = .ok (.iload 4, 2) := by decide +kernel
theorem dX0_passesWithin_34 : decode cX0_passesWithin 34 = .ok (.ireturn, 1) := by decide +kernel
theorem dX0_riseBehind_0 : decode cX0_riseBehind 0 = .ok (.aload_n 0, 1) := by decide +kernel
theorem dX0_riseBehind_1 : decode cX0_riseBehind 1 = .ok (.getfield 26, 3) := by decide +kernel
theorem dX0_riseBehind_4 : decode cX0_riseBehind 4 = .ok (.iload_n 1, 1) := by decide +kernel
theorem dX0_riseBehind_5 : decode cX0_riseBehind 5 = .ok (.aaload, 1) := by decide +kernel
theorem dX0_riseBehind_6 : decode cX0_riseBehind 6 = .ok (.iload_n 2, 1) := by decide +kernel
theorem dX0_riseBehind_7 : decode cX0_riseBehind 7 = .ok (.iaload, 1) := by decide +kernel
theorem dX0_riseBehind_8 : decode cX0_riseBehind 8 = .ok (.aload_n 0, 1) := by decide +kernel
theorem dX0_riseBehind_9 : decode cX0_riseBehind 9 = .ok (.getfield 23, 3) := by decide +kernel
theorem dX0_riseBehind_12 : decode cX0_riseBehind 12 = .ok (.iload_n 1, 1) := by decide +kernel
theorem dX0_riseBehind_13 : decode cX0_riseBehind 13 = .ok (.aaload, 1) := by decide +kernel
theorem dX0_riseBehind_14 : decode cX0_riseBehind 14 = .ok (.iload_n 2, 1) := by decide +kernel
theorem dX0_riseBehind_15 : decode cX0_riseBehind 15 = .ok (.iaload, 1) := by decide +kernel
theorem dX0_riseBehind_16 : decode cX0_riseBehind 16 = .ok (.isub, 1) := by decide +kernel
theorem dX0_riseBehind_17 : decode cX0_riseBehind 17 = .ok (.ireturn, 1) := by decide +kernel
theorem dX1_init_0 : decode cX1_init 0 = .ok (.aload_n 0, 1) := by decide +kernel
theorem dX1_init_1 : decode cX1_init 1 = .ok (.invokespecial 1, 3) := by decide +kernel
theorem dX1_init_4 : decode cX1_init 4 = .ok (.aload_n 0, 1) := by decide +kernel
theorem dX1_init_5 : decode cX1_init 5 = .ok (.bipush 16, 2) := by decide +kernel
theorem dX1_init_7 : decode cX1_init 7 = .ok (.newarray .int, 2) := by decide +kernel
theorem dX1_init_9 : decode cX1_init 9 = .ok (.putfield 9, 3) := by decide +kernel
theorem dX1_init_12 : decode cX1_init 12 = .ok (.aload_n 0, 1) := by decide +kernel
theorem dX1_init_13 : decode cX1_init 13 = .ok (.bipush 40, 2) := by decide +kernel
theorem dX1_init_15 : decode cX1_init 15 = .ok (.newarray .int, 2) := by decide +kernel
theorem dX1_init_17 : decode cX1_init 17 = .ok (.putfield 13, 3) := by decide +kernel
theorem dX1_init_20 : decode cX1_init 20 = .ok (.aload_n 0, 1) := by decide +kernel
theorem dX1_init_21 : decode cX1_init 21 = .ok (.bipush 12, 2) := by decide +kernel
theorem dX1_init_23 : decode cX1_init 23 = .ok (.newarray .int, 2) := by decide +kernel
theorem dX1_init_25 : decode cX1_init 25 = .ok (.putfield 16, 3) := by decide +kernel
theorem dX1_init_28 : decode cX1_init 28 = .ok (.aload_n 0, 1) := by decide +kernel
theorem dX1_init_29 : decode cX1_init 29 = .ok (.new 19, 3) := by decide +kernel
theorem dX1_init_32 : decode cX1_init 32 = .ok (.dup, 1) := by decide +kernel
theorem dX1_init_33 : decode cX1_init 33 = .ok (.invokespecial 21, 3) := by decide +kernel
theorem dX1_init_36 : decode cX1_init 36 = .ok (.putfield 22, 3) := by decide +kernel
theorem dX1_init_39 : decode cX1_init 39 = .ok (.aload_n 0, 1) := by decide +kernel
theorem dX1_init_40 : decode cX1_init 40 = .ok (.bipush 12, 2) := by decide +kernel
theorem dX1_init_42 : decode cX1_init 42 = .ok (.newarray .boolean, 2) := by decide +kernel
theorem dX1_init_44 : decode cX1_init 44 = .ok (.putfield 26, 3) := by decide +kernel
theorem dX1_init_47 : decode cX1_init 47 = .ok (.aload_n 0, 1) := by decide +kernel
theorem dX1_init_48 : decode cX1_init 48 = .ok (.bipush 12, 2) := by decide +kernel
theorem dX1_init_50 : decode cX1_init 50 = .ok (.newarray .int, 2) := by decide +kernel
theorem dX1_init_52 : decode cX1_init 52 = .ok (.putfield 30, 3) := by decide +kernel
theorem dX1_init_55 : decode cX1_init 55 = .ok (.aload_n 0, 1) := by decide +kernel
theorem dX1_init_56 : decode cX1_init 56 = .ok (.bipush 12, 2) := by decide +kernel
theorem dX1_init_58 : decode cX1_init 58 = .ok (.newarray .int, 2) := by decide +kernel
theorem dX1_init_60 : decode cX1_init 60 = .ok (.putfield 33, 3) := by decide +kernel
theorem dX1_init_63 : decode cX1_init 63 = .ok (.aload_n 0, 1) := by decide +kernel
theorem dX1_init_64 : decode cX1_init 64 = .ok (.bipush 12, 2) := by decide +kernel
theorem dX1_init_66 : decode cX1_init 66 = .ok (.newarray .int, 2) := by decide +kernel
theorem dX1_init_68 : decode cX1_init 68 = .ok (.putfield 36, 3) := by decide +kernel
theorem dX1_init_71 : decode cX1_init 71 = .ok (.aload_n 0, 1) := by decide +kernel
theorem dX1_init_72 : decode cX1_init 72 = .ok (.iconst 0, 1) := by decide +kernel
theorem dX1_init_73 : decode cX1_init 73 = .ok (.putfield 39, 3) := by decide +kernel
theorem dX1_init_76 : decode cX1_init 76 = .ok (.aload_n 0, 1) := by decide +kernel
theorem dX1_init_77 : decode cX1_init 77 = .ok (.iconst 0, 1) := by decide +kernel
theorem dX1_init_78 : decode cX1_init 78 = .ok (.putfield 43, 3) := by decide +kernel
theorem dX1_init_81 : decode cX1_init 81 = .ok (.aload_n 0, 1) := by decide +kernel
theorem dX1_init_82 : decode cX1_init 82 = .ok (.iconst 0, 1) := by decide +kernel
theorem dX1_init_83 : decode cX1_init 83 = .ok (.putfield 46, 3) := by decide +kernel
theorem dX1_init_86 : decode cX1_init 86 = .ok (.aload_n 0, 1) := by decide +kernel
theorem dX1_init_87 : decode cX1_init 87 = .ok (.iconst 2, 1) := by decide +kernel
theorem dX1_init_88 : decode cX1_init 88 = .ok (.putfield 49, 3) := by decide +kernel
theorem dX1_init_91 : decode cX1_init 91 = .ok (.aload_n 0, 1) := by decide +kernel
theorem dX1_init_92 : decode cX1_init 92 = .ok (.bipush 10, 2) := by decide +kernel
theorem dX1_init_94 : decode cX1_init 94 = .ok (.putfield 52, 3) := by decide +kernel
theorem dX1_init_97 : decode cX1_init 97 = .ok (.aload_n 0, 1) := by decide +kernel
theorem dX1_init_98 : decode cX1_init 98 = .ok (.iconst 0, 1) := by decide +kernel
theorem dX1_init_99 : decode cX1_init 99 = .ok (.putfield 55, 3) := by decide +kernel
theorem dX1_init_102 : decode cX1_init 102 = .ok (.aload_n 0, 1) := by decide +kernel
theorem dX1_init_103 : decode cX1_init 103 = .ok (.iconst 0, 1) := by decide +kernel
theorem dX1_init_104 : decode cX1_init 104 = .ok (.putfield 58, 3) := by decide +kernel
theorem dX1_init_107 : decode cX1_init 107 = .ok (.return_, 1) := by decide +kernel
theorem dX1_setUses_0 : decode cX1_setUses 0 = .ok (.iload_n 1, 1) := by decide +kernel
theorem dX1_setUses_1 : decode cX1_setUses 1 = .ok (.ifCond .lt 9, 3) := by decide +kernel
theorem dX1_setUses_4 : decode cX1_setUses 4 = .ok (.iload_n 1, 1) := by decide +kernel
theorem dX1_setUses_5 : decode cX1_setUses 5 = .ok (.bipush 16, 2) := by decide +kernel
theorem dX1_setUses_7 : decode cX1_setUses 7 = .ok (.if_icmp .lt 13, 3) := by decide +kernel
theorem dX1_setUses_10 : decode cX1_setUses 10 = .ok (.new 61, 3) := by decide +kernel
theorem dX1_setUses_13 : decode cX1_setUses 13 = .ok (.dup, 1) := by decide +kernel
theorem dX1_setUses_14 : decode cX1_setUses 14 = .ok (.ldc 63, 2) := by decide +kernel
theorem dX1_setUses_16 : decode cX1_setUses 16 = .ok (.invokespecial 65, 3) := by decide +kernel
theorem dX1_setUses_19 : decode cX1_setUses 19 = .ok (.athrow, 1) := by decide +kernel
theorem dX1_setUses_20 : decode cX1_setUses 20 = .ok (.iload_n 2, 1) := by decide +kernel
theorem dX1_setUses_21 : decode cX1_setUses 21 = .ok (.invokestatic 68, 3) := by decide +kernel
theorem dX1_setUses_24 : decode cX1_setUses 24 = .ok (.aload_n 0, 1) := by decide +kernel
theorem dX1_setUses_25 : decode cX1_setUses 25 = .ok (.getfield 9, 3) := by decide +kernel
theorem dX1_setUses_28 : decode cX1_setUses 28 = .ok (.iload_n 1, 1) := by decide +kernel
theorem dX1_setUses_29 : decode cX1_setUses 29 = .ok (.iaload, 1) := by decide +kernel
theorem dX1_setUses_30 : decode cX1_setUses 30 = .ok (.istore_n 3, 1) := by decide +kernel
theorem dX1_setUses_31 : decode cX1_setUses 31 = .ok (.aload_n 0, 1) := by decide +kernel
theorem dX1_setUses_32 : decode cX1_setUses 32 = .ok (.getfield 9, 3) := by decide +kernel
theorem dX1_setUses_35 : decode cX1_setUses 35 = .ok (.iload_n 1, 1) := by decide +kernel
theorem dX1_setUses_36 : decode cX1_setUses 36 = .ok (.iload_n 2, 1) := by decide +kernel
theorem dX1_setUses_37 : decode cX1_setUses 37 = .ok (.iastore, 1) := by decide +kernel
theorem dX1_setUses_38 : decode cX1_setUses 38 = .ok (.iload_n 3, 1) := by decide +kernel
theorem dX1_setUses_39 : decode cX1_setUses 39 = .ok (.ireturn, 1) := by decide +kernel
theorem dX1_addCommit_0 : decode cX1_addCommit 0 = .ok (.iload_n 1, 1) := by decide +kernel
theorem dX1_addCommit_1 : decode cX1_addCommit 1 = .ok (.invokestatic 68, 3) := by decide +kernel
theorem dX1_addCommit_4 : decode cX1_addCommit 4 = .ok (.aload_n 0, 1) := by decide +kernel
theorem dX1_addCommit_5 : decode cX1_addCommit 5 = .ok (.getfield 43, 3) := by decide +kernel
theorem dX1_addCommit_8 : decode cX1_addCommit 8 = .ok (.istore_n 2, 1) := by decide +kernel
theorem dX1_addCommit_9 : decode cX1_addCommit 9 = .ok (.iload_n 2, 1) := by decide +kernel
theorem dX1_addCommit_10 : decode cX1_addCommit 10 = .ok (.bipush 40, 2) := by decide +kernel
theorem dX1_addCommit_12 : decode cX1_addCommit 12 = .ok (.if_icmp .lt 13, 3) := by decide +kernel
theorem dX1_addCommit_15 : decode cX1_addCommit 15 = .ok (.new 72, 3) := by decide +kernel
theorem dX1_addCommit_18 : decode cX1_addCommit 18 = .ok (.dup, 1) := by decide +kernel
theorem dX1_addCommit_19 : decode cX1_addCommit 19 = .ok (.ldc 74, 2) := by decide +kernel
theorem dX1_addCommit_21 : decode cX1_addCommit 21 = .ok (.invokespecial 76, 3) := by decide +kernel
theorem dX1_addCommit_24 : decode cX1_addCommit 24 = .ok (.athrow, 1) := by decide +kernel
theorem dX1_addCommit_25 : decode cX1_addCommit 25 = .ok (.aload_n 0, 1) := by decide +kernel
theorem dX1_addCommit_26 : decode cX1_addCommit 26 = .ok (.getfield 13, 3) := by decide +kernel
theorem dX1_addCommit_29 : decode cX1_addCommit 29 = .ok (.iload_n 2, 1) := by decide +kernel
theorem dX1_addCommit_30 : decode cX1_addCommit 30 = .ok (.iload_n 1, 1) := by decide +kernel
theorem dX1_addCommit_31 : decode cX1_addCommit 31 = .ok (.iastore, 1) := by decide +kernel
theorem dX1_addCommit_32 : decode cX1_addCommit 32 = .ok (.aload_n 0, 1) := by decide +kernel
theorem dX1_addCommit_33 : decode cX1_addCommit 33 = .ok (.iload_n 2, 1) := by decide +kernel
theorem dX1_addCommit_34 : decode cX1_addCommit 34 = .ok (.iconst 1, 1) := by decide +kernel
theorem dX1_addCommit_35 : decode cX1_addCommit 35 = .ok (.iadd, 1) := by decide +kernel
theorem dX1_addCommit_36 : decode cX1_addCommit 36 = .ok (.putfield 43, 3) := by decide +kernel
theorem dX1_addCommit_39 : decode cX1_addCommit 39 = .ok (.iload_n 2, 1) := by decide +kernel
theorem dX1_addCommit_40 : decode cX1_addCommit 40 = .ok (.ireturn, 1) := by decide +kernel
theorem dX1_addTest_0 : decode cX1_addTest 0 = .ok (.iload_n 1, 1) := by decide +kernel
theorem dX1_addTest_1 : decode cX1_addTest 1 = .ok (.invokestatic 68, 3) := by decide +kernel
theorem dX1_addTest_4 : decode cX1_addTest 4 = .ok (.aload_n 0, 1) := by decide +kernel
theorem dX1_addTest_5 : decode cX1_addTest 5 = .ok (.getfield 46, 3) := by decide +kernel
theorem dX1_addTest_8 : decode cX1_addTest 8 = .ok (.istore_n 2, 1) := by decide +kernel
theorem dX1_addTest_9 : decode cX1_addTest 9 = .ok (.iload_n 2, 1) := by decide +kernel
theorem dX1_addTest_10 : decode cX1_addTest 10 = .ok (.bipush 12, 2) := by decide +kernel
theorem dX1_addTest_12 : decode cX1_addTest 12 = .ok (.if_icmp .lt 13, 3) := by decide +kernel
theorem dX1_addTest_15 : decode cX1_addTest 15 = .ok (.new 72, 3) := by decide +kernel
theorem dX1_addTest_18 : decode cX1_addTest 18 = .ok (.dup, 1) := by decide +kernel
theorem dX1_addTest_19 : decode cX1_addTest 19 = .ok (.ldc 77, 2) := by decide +kernel
theorem dX1_addTest_21 : decode cX1_addTest 21 = .ok (.invokespecial 76, 3) := by decide +kernel
theorem dX1_addTest_24 : decode cX1_addTest 24 = .ok (.athrow, 1) := by decide +kernel
theorem dX1_addTest_25 : decode cX1_addTest 25 = .ok (.aload_n 0, 1) := by decide +kernel
theorem dX1_addTest_26 : decode cX1_addTest 26 = .ok (.getfield 16, 3) := by decide +kernel
theorem dX1_addTest_29 : decode cX1_addTest 29 = .ok (.iload_n 2, 1) := by decide +kernel
theorem dX1_addTest_30 : decode cX1_addTest 30 = .ok (.iload_n 1, 1) := by decide +kernel
theorem dX1_addTest_31 : decode cX1_addTest 31 = .ok (.iastore, 1) := by decide +kernel
theorem dX1_addTest_32 : decode cX1_addTest 32 = .ok (.aload_n 0, 1) := by decide +kernel
theorem dX1_addTest_33 : decode cX1_addTest 33 = .ok (.iload_n 2, 1) := by decide +kernel
theorem dX1_addTest_34 : decode cX1_addTest 34 = .ok (.iconst 1, 1) := by decide +kernel
theorem dX1_addTest_35 : decode cX1_addTest 35 = .ok (.iadd, 1) := by decide +kernel
theorem dX1_addTest_36 : decode cX1_addTest 36 = .ok (.putfield 46, 3) := by decide +kernel
theorem dX1_addTest_39 : decode cX1_addTest 39 = .ok (.iload_n 2, 1) := by decide +kernel
theorem dX1_addTest_40 : decode cX1_addTest 40 = .ok (.ireturn, 1) := by decide +kernel
theorem dX1_setQuarantine_0 : decode cX1_setQuarantine 0 = .ok (.iload_n 1, 1) := by decide +kernel
theorem dX1_setQuarantine_1 : decode cX1_setQuarantine 1 = .ok (.iconst 1, 1) := by decide +kernel
theorem dX1_setQuarantine_2 : decode cX1_setQuarantine 2 = .ok (.if_icmp .lt 9, 3) := by decide +kernel
theorem dX1_setQuarantine_5 : decode cX1_setQuarantine 5 = .ok (.iload_n 1, 1) := by decide +kernel
theorem dX1_setQuarantine_6 : decode cX1_setQuarantine 6 = .ok (.bipush 10, 2) := by decide +kernel
theorem dX1_setQuarantine_8 : decode cX1_setQuarantine 8 = .ok (.if_icmp .le 13, 3) := by decide +kernel
theorem dX1_setQuarantine_11 : decode cX1_setQuarantine 11 = .ok (.new 79, 3) := by decide +kernel
theorem dX1_setQuarantine_14 : decode cX1_setQuarantine 14 = .ok (.dup, 1) := by decide +kernel
theorem dX1_setQuarantine_15 : decode cX1_setQuarantine 15 = .ok (.ldc 81, 2) := by decide +kernel
theorem dX1_setQuarantine_17 : decode cX1_setQuarantine 17 = .ok (.invokespecial 83, 3) := by decide +kernel
theorem dX1_setQuarantine_20 : decode cX1_setQuarantine 20 = .ok (.athrow, 1) := by decide +kernel
theorem dX1_setQuarantine_21 : decode cX1_setQuarantine 21 = .ok (.iload_n 2, 1) := by decide +kernel
theorem dX1_setQuarantine_22 : decode cX1_setQuarantine 22 = .ok (.iconst 1, 1) := by decide +kernel
theorem dX1_setQuarantine_23 : decode cX1_setQuarantine 23 = .ok (.if_icmp .lt 9, 3) := by decide +kernel
theorem dX1_setQuarantine_26 : decode cX1_setQuarantine 26 = .ok (.iload_n 2, 1) := by decide +kernel
theorem dX1_setQuarantine_27 : decode cX1_setQuarantine 27 = .ok (.bipush 40, 2) := by decide +kernel
theorem dX1_setQuarantine_29 : decode cX1_setQuarantine 29 = .ok (.if_icmp .le 13, 3) := by decide +kernel
theorem dX1_setQuarantine_32 : decode cX1_setQuarantine 32 = .ok (.new 79, 3) := by decide +kernel
theorem dX1_setQuarantine_35 : decode cX1_setQuarantine 35 = .ok (.dup, 1) := by decide +kernel
theorem dX1_setQuarantine_36 : decode cX1_setQuarantine 36 = .ok (.ldc 84, 2) := by decide +kernel
theorem dX1_setQuarantine_38 : decode cX1_setQuarantine 38 = .ok (.invokespecial 83, 3) := by decide +kernel
theorem dX1_setQuarantine_41 : decode cX1_setQuarantine 41 = .ok (.athrow, 1) := by decide +kernel
theorem dX1_setQuarantine_42 : decode cX1_setQuarantine 42 = .ok (.aload_n 0, 1) := by decide +kernel
theorem dX1_setQuarantine_43 : decode cX1_setQuarantine 43 = .ok (.iload_n 1, 1) := by decide +kernel
theorem dX1_setQuarantine_44 : decode cX1_setQuarantine 44 = .ok (.putfield 49, 3) := by decide +kernel
theorem dX1_setQuarantine_47 : decode cX1_setQuarantine 47 = .ok (.aload_n 0, 1) := by decide +kernel
theorem dX1_setQuarantine_48 : decode cX1_setQuarantine 48 = .ok (.iload_n 2, 1) := by decide +kernel
theorem dX1_setQuarantine_49 : decode cX1_setQuarantine 49 = .ok (.putfield 52, 3) := by decide +kernel
theorem dX1_setQuarantine_52 : decode cX1_setQuarantine 52 = .ok (.return_, 1) := by decide +kernel
theorem dX1_setNoise_0 : decode cX1_setNoise 0 = .ok (.iload_n 1, 1) := by decide +kernel
theorem dX1_setNoise_1 : decode cX1_setNoise 1 = .ok (.ifCond .lt 9, 3) := by decide +kernel
theorem dX1_setNoise_4 : decode cX1_setNoise 4 = .ok (.iload_n 1, 1) := by decide +kernel
theorem dX1_setNoise_5 : decode cX1_setNoise 5 = .ok (.bipush 20, 2) := by decide +kernel
theorem dX1_setNoise_7 : decode cX1_setNoise 7 = .ok (.if_icmp .le 13, 3) := by decide +kernel
theorem dX1_setNoise_10 : decode cX1_setNoise 10 = .ok (.new 79, 3) := by decide +kernel
theorem dX1_setNoise_13 : decode cX1_setNoise 13 = .ok (.dup, 1) := by decide +kernel
theorem dX1_setNoise_14 : decode cX1_setNoise 14 = .ok (.ldc 86, 2) := by decide +kernel
theorem dX1_setNoise_16 : decode cX1_setNoise 16 = .ok (.invokespecial 83, 3) := by decide +kernel
theorem dX1_setNoise_19 : decode cX1_setNoise 19 = .ok (.athrow, 1) := by decide +kernel
theorem dX1_setNoise_20 : decode cX1_setNoise 20 = .ok (.aload_n 0, 1) := by decide +kernel
theorem dX1_setNoise_21 : decode cX1_setNoise 21 = .ok (.getfield 55, 3) := by decide +kernel
theorem dX1_setNoise_24 : decode cX1_setNoise 24 = .ok (.istore_n 2, 1) := by decide +kernel
theorem dX1_setNoise_25 : decode cX1_setNoise 25 = .ok (.aload_n 0, 1) := by decide +kernel
theorem dX1_setNoise_26 : decode cX1_setNoise 26 = .ok (.iload_n 1, 1) := by decide +kernel
theorem dX1_setNoise_27 : decode cX1_setNoise 27 = .ok (.putfield 55, 3) := by decide +kernel
theorem dX1_setNoise_30 : decode cX1_setNoise 30 = .ok (.iload_n 2, 1) := by decide +kernel
theorem dX1_setNoise_31 : decode cX1_setNoise 31 = .ok (.ireturn, 1) := by decide +kernel
theorem dX1_record_0 : decode cX1_record 0 = .ok (.aload_n 0, 1) := by decide +kernel
theorem dX1_record_1 : decode cX1_record 1 = .ok (.iload_n 1, 1) := by decide +kernel
theorem dX1_record_2 : decode cX1_record 2 = .ok (.invokevirtual 88, 3) := by decide +kernel
theorem dX1_record_5 : decode cX1_record 5 = .ok (.aload_n 0, 1) := by decide +kernel
theorem dX1_record_6 : decode cX1_record 6 = .ok (.iload_n 2, 1) := by decide +kernel
theorem dX1_record_7 : decode cX1_record 7 = .ok (.invokevirtual 91, 3) := by decide +kernel
theorem dX1_record_10 : decode cX1_record 10 = .ok (.aload_n 0, 1) := by decide +kernel
theorem dX1_record_11 : decode cX1_record 11 = .ok (.getfield 22, 3) := by decide +kernel
theorem dX1_record_14 : decode cX1_record 14 = .ok (.iload_n 1, 1) := by decide +kernel
theorem dX1_record_15 : decode cX1_record 15 = .ok (.iload_n 2, 1) := by decide +kernel
theorem dX1_record_16 : decode cX1_record 16 = .ok (.iload_n 3, 1) := by decide +kernel
theorem dX1_record_17 : decode cX1_record 17 = .ok (.invokevirtual 94, 3) := by decide +kernel
theorem dX1_record_20 : decode cX1_record 20 = .ok (.ifCond .ne 13, 3) := by decide +kernel
theorem dX1_record_23 : decode cX1_record 23 = .ok (.new 72, 3) := by decide +kernel
theorem dX1_record_26 : decode cX1_record 26 = .ok (.dup, 1) := by decide +kernel
theorem dX1_record_27 : decode cX1_record 27 = .ok (.ldc 98, 2) := by decide +kernel
theorem dX1_record_29 : decode cX1_record 29 = .ok (.invokespecial 76, 3) := by decide +kernel
theorem dX1_record_32 : decode cX1_record 32 = .ok (.athrow, 1) := by decide +kernel
theorem dX1_record_33 : decode cX1_record 33 = .ok (.aload_n 0, 1) := by decide +kernel
theorem dX1_record_34 : decode cX1_record 34 = .ok (.getfield 22, 3) := by decide +kernel
theorem dX1_record_37 : decode cX1_record 37 = .ok (.iload_n 1, 1) := by decide +kernel
theorem dX1_record_38 : decode cX1_record 38 = .ok (.iload_n 2, 1) := by decide +kernel
theorem dX1_record_39 : decode cX1_record 39 = .ok (.invokevirtual 100, 3) := by decide +kernel
theorem dX1_record_42 : decode cX1_record 42 = .ok (.ireturn, 1) := by decide +kernel
theorem dX1_triage_0 : decode cX1_triage 0 = .ok (.aload_n 0, 1) := by decide +kernel
theorem dX1_triage_1 : decode cX1_triage 1 = .ok (.iload_n 1, 1) := by decide +kernel
theorem dX1_triage_2 : decode cX1_triage 2 = .ok (.invokevirtual 88, 3) := by decide +kernel
theorem dX1_triage_5 : decode cX1_triage 5 = .ok (.aload_n 0, 1) := by decide +kernel
theorem dX1_triage_6 : decode cX1_triage 6 = .ok (.iload_n 2, 1) := by decide +kernel
theorem dX1_triage_7 : decode cX1_triage 7 = .ok (.invokevirtual 91, 3) := by decide +kernel
theorem dX1_triage_10 : decode cX1_triage 10 = .ok (.aload_n 0, 1) := by decide +kernel
theorem dX1_triage_11 : decode cX1_triage 11 = .ok (.iload_n 3, 1) := by decide +kernel
theorem dX1_triage_12 : decode cX1_triage 12 = .ok (.invokevirtual 91, 3) := by decide +kernel
theorem dX1_triage_15 : decode cX1_triage 15 = .ok (.iload_n 3, 1) := by decide +kernel
theorem dX1_triage_16 : decode cX1_triage 16 = .ok (.iload_n 2, 1) := by decide +kernel
theorem dX1_triage_17 : decode cX1_triage 17 = .ok (.if_icmp .gt 13, 3) := by decide +kernel
theorem dX1_triage_20 : decode cX1_triage 20 = .ok (.new 79, 3) := by decide +kernel
theorem dX1_triage_23 : decode cX1_triage 23 = .ok (.dup, 1) := by decide +kernel
theorem dX1_triage_24 : decode cX1_triage 24 = .ok (.ldc 104, 2) := by decide +kernel
theorem dX1_triage_26 : decode cX1_triage 26 = .ok (.invokespecial 83, 3) := by decide +kernel
theorem dX1_triage_29 : decode cX1_triage 29 = .ok (.athrow, 1) := by decide +kernel
theorem dX1_triage_30 : decode cX1_triage 30 = .ok (.aload_n 0, 1) := by decide +kernel
theorem dX1_triage_31 : decode cX1_triage 31 = .ok (.getfield 26, 3) := by decide +kernel
theorem dX1_triage_34 : decode cX1_triage 34 = .ok (.iload_n 1, 1) := by decide +kernel
theorem dX1_triage_35 : decode cX1_triage 35 = .ok (.iconst 1, 1) := by decide +kernel
theorem dX1_triage_36 : decode cX1_triage 36 = .ok (.bastore, 1) := by decide +kernel
theorem dX1_triage_37 : decode cX1_triage 37 = .ok (.aload_n 0, 1) := by decide +kernel
theorem dX1_triage_38 : decode cX1_triage 38 = .ok (.getfield 30, 3) := by decide +kernel
theorem dX1_triage_41 : decode cX1_triage 41 = .ok (.iload_n 1, 1) := by decide +kernel
theorem dX1_triage_42 : decode cX1_triage 42 = .ok (.iload_n 2, 1) := by decide +kernel
theorem dX1_triage_43 : decode cX1_triage 43 = .ok (.iastore, 1) := by decide +kernel
theorem dX1_triage_44 : decode cX1_triage 44 = .ok (.aload_n 0, 1) := by decide +kernel
theorem dX1_triage_45 : decode cX1_triage 45 = .ok (.getfield 33, 3) := by decide +kernel
theorem dX1_triage_48 : decode cX1_triage 48 = .ok (.iload_n 1, 1) := by decide +kernel
theorem dX1_triage_49 : decode cX1_triage 49 = .ok (.iload_n 3, 1) := by decide +kernel
theorem dX1_triage_50 : decode cX1_triage 50 = .ok (.iastore, 1) := by decide +kernel
theorem dX1_triage_51 : decode cX1_triage 51 = .ok (.aload_n 0, 1) := by decide +kernel
theorem dX1_triage_52 : decode cX1_triage 52 = .ok (.iload_n 1, 1) := by decide +kernel
theorem dX1_triage_53 : decode cX1_triage 53 = .ok (.invokevirtual 106, 3) := by decide +kernel
theorem dX1_triage_56 : decode cX1_triage 56 = .ok (.invokestatic 110, 3) := by decide +kernel
theorem dX1_triage_59 : decode cX1_triage 59 = .ok (.ireturn, 1) := by decide +kernel
theorem dX1_close_0 : decode cX1_close 0 = .ok (.aload_n 0, 1) := by decide +kernel
theorem dX1_close_1 : decode cX1_close 1 = .ok (.iload_n 1, 1) := by decide +kernel
theorem dX1_close_2 : decode cX1_close 2 = .ok (.invokevirtual 88, 3) := by decide +kernel
theorem dX1_close_5 : decode cX1_close 5 = .ok (.aload_n 0, 1) := by decide +kernel
theorem dX1_close_6 : decode cX1_close 6 = .ok (.iload_n 1, 1) := by decide +kernel
theorem dX1_close_7 : decode cX1_close 7 = .ok (.invokevirtual 116, 3) := by decide +kernel
theorem dX1_close_10 : decode cX1_close 10 = .ok (.aload_n 0, 1) := by decide +kernel
theorem dX1_close_11 : decode cX1_close 11 = .ok (.iload_n 1, 1) := by decide +kernel
theorem dX1_close_12 : decode cX1_close 12 = .ok (.invokevirtual 106, 3) := by decide +kernel
theorem dX1_close_15 : decode cX1_close 15 = .ok (.invokestatic 110, 3) := by decide +kernel
theorem dX1_close_18 : decode cX1_close 18 = .ok (.iconst 1, 1) := by decide +kernel
theorem dX1_close_19 : decode cX1_close 19 = .ok (.if_icmp .ne 11, 3) := by decide +kernel
theorem dX1_close_22 : decode cX1_close 22 = .ok (.aload_n 0, 1) := by decide +kernel
theorem dX1_close_23 : decode cX1_close 23 = .ok (.iload_n 1, 1) := by decide +kernel
theorem dX1_close_24 : decode cX1_close 24 = .ok (.invokevirtual 119, 3) := by decide +kernel
theorem dX1_close_27 : decode cX1_close 27 = .ok (.goto 4, 3) := by decide +kernel
theorem dX1_close_30 : decode cX1_close 30 = .ok (.iconst (-1), 1) := by decide +kernel
theorem dX1_close_31 : decode cX1_close 31 = .ok (.istore_n 2, 1) := by decide +kernel
theorem dX1_close_32 : decode cX1_close 32 = .ok (.aload_n 0, 1) := by decide +kernel
theorem dX1_close_33 : decode cX1_close 33 = .ok (.iload_n 1, 1) := by decide +kernel
theorem dX1_close_34 : decode cX1_close 34 = .ok (.invokevirtual 123, 3) := by decide +kernel
theorem dX1_close_37 : decode cX1_close 37 = .ok (.aload_n 0, 1) := by decide +kernel
theorem dX1_close_38 : decode cX1_close 38 = .ok (.getfield 26, 3) := by decide +kernel
theorem dX1_close_41 : decode cX1_close 41 = .ok (.iload_n 1, 1) := by decide +kernel
theorem dX1_close_42 : decode cX1_close 42 = .ok (.iconst 0, 1) := by decide +kernel
theorem dX1_close_43 : decode cX1_close 43 = .ok (.bastore, 1) := by decide +kernel
theorem dX1_close_44 : decode cX1_close 44 = .ok (.iload_n 2, 1) := by decide +kernel
theorem dX1_close_45 : decode cX1_close 45 = .ok (.ireturn, 1) := by decide +kernel
theorem dX1_enqueue_0 : decode cX1_enqueue 0 = .ok (.aload_n 0, 1) := by decide +kernel
theorem dX1_enqueue_1 : decode cX1_enqueue 1 = .ok (.iload_n 1, 1) := by decide +kernel
theorem dX1_enqueue_2 : decode cX1_enqueue 2 = .ok (.invokevirtual 88, 3) := by decide +kernel
theorem dX1_enqueue_5 : decode cX1_enqueue 5 = .ok (.aload_n 0, 1) := by decide +kernel
theorem dX1_enqueue_6 : decode cX1_enqueue 6 = .ok (.iload_n 1, 1) := by decide +kernel
theorem dX1_enqueue_7 : decode cX1_enqueue 7 = .ok (.invokevirtual 116, 3) := by decide +kernel
theorem dX1_enqueue_10 : decode cX1_enqueue 10 = .ok (.aload_n 0, 1) := by decide +kernel
theorem dX1_enqueue_11 : decode cX1_enqueue 11 = .ok (.getfield 36, 3) := by decide +kernel
theorem dX1_enqueue_14 : decode cX1_enqueue 14 = .ok (.iload_n 1, 1) := by decide +kernel
theorem dX1_enqueue_15 : decode cX1_enqueue 15 = .ok (.iaload, 1) := by decide +kernel
theorem dX1_enqueue_16 : decode cX1_enqueue 16 = .ok (.ifCond .eq 13, 3) := by decide +kernel
theorem dX1_enqueue_19 : decode cX1_enqueue 19 = .ok (.new 72, 3) := by decide +kernel
theorem dX1_enqueue_22 : decode cX1_enqueue 22 = .ok (.dup, 1) := by decide +kernel
theorem dX1_enqueue_23 : decode cX1_enqueue 23 = .ok (.ldc 126, 2) := by decide +kernel
theorem dX1_enqueue_25 : decode cX1_enqueue 25 = .ok (.invokespecial 76, 3) := by decide +kernel
theorem dX1_enqueue_28 : decode cX1_enqueue 28 = .ok (.athrow, 1) := by decide +kernel
theorem dX1_enqueue_29 : decode cX1_enqueue 29 = .ok (.aload_n 0, 1) := by decide +kernel
theorem dX1_enqueue_30 : decode cX1_enqueue 30 = .ok (.iload_n 1, 1) := by decide +kernel
theorem dX1_enqueue_31 : decode cX1_enqueue 31 = .ok (.invokevirtual 128, 3) := by decide +kernel
theorem dX1_enqueue_34 : decode cX1_enqueue 34 = .ok (.aload_n 0, 1) := by decide +kernel
theorem dX1_enqueue_35 : decode cX1_enqueue 35 = .ok (.getfield 39, 3) := by decide +kernel
theorem dX1_enqueue_38 : decode cX1_enqueue 38 = .ok (.ireturn, 1) := by decide +kernel
theorem dX1_newDay_0 : decode cX1_newDay 0 = .ok (.iload_n 1, 1) := by decide +kernel
theorem dX1_newDay_1 : decode cX1_newDay 1 = .ok (.ifCond .lt 9, 3) := by decide +kernel
theorem dX1_newDay_4 : decode cX1_newDay 4 = .ok (.iload_n 1, 1) := by decide +kernel
theorem dX1_newDay_5 : decode cX1_newDay 5 = .ok (.bipush 100, 2) := by decide +kernel
theorem dX1_newDay_7 : decode cX1_newDay 7 = .ok (.if_icmp .le 13, 3) := by decide +kernel
theorem dX1_newDay_10 : decode cX1_newDay 10 = .ok (.new 79, 3) := by decide +kernel
theorem dX1_newDay_13 : decode cX1_newDay 13 = .ok (.dup, 1) := by decide +kernel
theorem dX1_newDay_14 : decode cX1_newDay 14 = .ok (.ldc 131, 2) := by decide +kernel
theorem dX1_newDay_16 : decode cX1_newDay 16 = .ok (.invokespecial 83, 3) := by decide +kernel
theorem dX1_newDay_19 : decode cX1_newDay 19 = .ok (.athrow, 1) := by decide +kernel
theorem dX1_newDay_20 : decode cX1_newDay 20 = .ok (.aload_n 0, 1) := by decide +kernel
theorem dX1_newDay_21 : decode cX1_newDay 21 = .ok (.getfield 58, 3) := by decide +kernel
theorem dX1_newDay_24 : decode cX1_newDay 24 = .ok (.istore_n 2, 1) := by decide +kernel
theorem dX1_newDay_25 : decode cX1_newDay 25 = .ok (.aload_n 0, 1) := by decide +kernel
theorem dX1_newDay_26 : decode cX1_newDay 26 = .ok (.iload_n 1, 1) := by decide +kernel
theorem dX1_newDay_27 : decode cX1_newDay 27 = .ok (.putfield 58, 3) := by decide +kernel
theorem dX1_newDay_30 : decode cX1_newDay 30 = .ok (.iload_n 2, 1) := by decide +kernel
theorem dX1_newDay_31 : decode cX1_newDay 31 = .ok (.ireturn, 1) := by decide +kernel
theorem dX1_take_0 : decode cX1_take 0 = .ok (.aload_n 0, 1) := by decide +kernel
theorem dX1_take_1 : decode cX1_take 1 = .ok (.invokevirtual 133, 3) := by decide +kernel
theorem dX1_take_4 : decode cX1_take 4 = .ok (.istore_n 1, 1) := by decide +kernel
theorem dX1_take_5 : decode cX1_take 5 = .ok (.iload_n 1, 1) := by decide +kernel
theorem dX1_take_6 : decode cX1_take 6 = .ok (.ifCond .ge 13, 3) := by decide +kernel
theorem dX1_take_9 : decode cX1_take 9 = .ok (.new 72, 3) := by decide +kernel
theorem dX1_take_12 : decode cX1_take 12 = .ok (.dup, 1) := by decide +kernel
theorem dX1_take_13 : decode cX1_take 13 = .ok (.ldc 137, 2) := by decide +kernel
theorem dX1_take_15 : decode cX1_take 15 = .ok (.invokespecial 76, 3) := by decide +kernel
theorem dX1_take_18 : decode cX1_take 18 = .ok (.athrow, 1) := by decide +kernel
theorem dX1_take_19 : decode cX1_take 19 = .ok (.aload_n 0, 1) := by decide +kernel
theorem dX1_take_20 : decode cX1_take 20 = .ok (.getfield 58, 3) := by decide +kernel
theorem dX1_take_23 : decode cX1_take 23 = .ok (.ifCond .ne 13, 3) := by decide +kernel
theorem dX1_take_26 : decode cX1_take 26 = .ok (.new 72, 3) := by decide +kernel
theorem dX1_take_29 : decode cX1_take 29 = .ok (.dup, 1) := by decide +kernel
theorem dX1_take_30 : decode cX1_take 30 = .ok (.ldc 139, 2) := by decide +kernel
theorem dX1_take_32 : decode cX1_take 32 = .ok (.invokespecial 76, 3) := by decide +kernel
theorem dX1_take_35 : decode cX1_take 35 = .ok (.athrow, 1) := by decide +kernel
theorem dX1_take_36 : decode cX1_take 36 = .ok (.aload_n 0, 1) := by decide +kernel
theorem dX1_take_37 : decode cX1_take 37 = .ok (.dup, 1) := by decide +kernel
theorem dX1_take_38 : decode cX1_take 38 = .ok (.getfield 58, 3) := by decide +kernel
theorem dX1_take_41 : decode cX1_take 41 = .ok (.iconst 1, 1) := by decide +kernel
theorem dX1_take_42 : decode cX1_take 42 = .ok (.isub, 1) := by decide +kernel
theorem dX1_take_43 : decode cX1_take 43 = .ok (.putfield 58, 3) := by decide +kernel
theorem dX1_take_46 : decode cX1_take 46 = .ok (.aload_n 0, 1) := by decide +kernel
theorem dX1_take_47 : decode cX1_take 47 = .ok (.iload_n 1, 1) := by decide +kernel
theorem dX1_take_48 : decode cX1_take 48 = .ok (.invokevirtual 123, 3) := by decide +kernel
theorem dX1_take_51 : decode cX1_take 51 = .ok (.aload_n 0, 1) := by decide +kernel
theorem dX1_take_52 : decode cX1_take 52 = .ok (.iload_n 1, 1) := by decide +kernel
theorem dX1_take_53 : decode cX1_take 53 = .ok (.invokevirtual 106, 3) := by decide +kernel
theorem dX1_take_56 : decode cX1_take 56 = .ok (.invokestatic 110, 3) := by decide +kernel
theorem dX1_take_59 : decode cX1_take 59 = .ok (.iconst 1, 1) := by decide +kernel
theorem dX1_take_60 : decode cX1_take 60 = .ok (.if_icmp .le 8, 3) := by decide +kernel
theorem dX1_take_63 : decode cX1_take 63 = .ok (.aload_n 0, 1) := by decide +kernel
theorem dX1_take_64 : decode cX1_take 64 = .ok (.iload_n 1, 1) := by decide +kernel
theorem dX1_take_65 : decode cX1_take 65 = .ok (.invokevirtual 128, 3) := by decide +kernel
theorem dX1_take_68 : decode cX1_take 68 = .ok (.iload_n 1, 1) := by decide +kernel
theorem dX1_take_69 : decode cX1_take 69 = .ok (.ireturn, 1) := by decide +kernel
theorem dX1_commits_0 : decode cX1_commits 0 = .ok (.aload_n 0, 1) := by decide +kernel
theorem dX1_commits_1 : decode cX1_commits 1 = .ok (.getfield 43, 3) := by decide +kernel
theorem dX1_commits_4 : decode cX1_commits 4 = .ok (.ireturn, 1) := by decide +kernel
theorem dX1_tests_0 : decode cX1_tests 0 = .ok (.aload_n 0, 1) := by decide +kernel
theorem dX1_tests_1 : decode cX1_tests 1 = .ok (.getfield 46, 3) := by decide +kernel
theorem dX1_tests_4 : decode cX1_tests 4 = .ok (.ireturn, 1) := by decide +kernel
theorem dX1_budget_0 : decode cX1_budget 0 = .ok (.aload_n 0, 1) := by decide +kernel
theorem dX1_budget_1 : decode cX1_budget 1 = .ok (.getfield 58, 3) := by decide +kernel
theorem dX1_budget_4 : decode cX1_budget 4 = .ok (.ireturn, 1) := by decide +kernel
theorem dX1_queued_0 : decode cX1_queued 0 = .ok (.aload_n 0, 1) := by decide +kernel
theorem dX1_queued_1 : decode cX1_queued 1 = .ok (.getfield 39, 3) := by decide +kernel
theorem dX1_queued_4 : decode cX1_queued 4 = .ok (.ireturn, 1) := by decide +kernel
theorem dX1_partsOf_0 : decode cX1_partsOf 0 = .ok (.aload_n 0, 1) := by decide +kernel
theorem dX1_partsOf_1 : decode cX1_partsOf 1 = .ok (.iload_n 1, 1) := by decide +kernel
theorem dX1_partsOf_2 : decode cX1_partsOf 2 = .ok (.invokevirtual 88, 3) := by decide +kernel
theorem dX1_partsOf_5 : decode cX1_partsOf 5 = .ok (.aload_n 0, 1) := by decide +kernel
theorem dX1_partsOf_6 : decode cX1_partsOf 6 = .ok (.iload_n 1, 1) := by decide +kernel
theorem dX1_partsOf_7 : decode cX1_partsOf 7 = .ok (.invokevirtual 141, 3) := by decide +kernel
theorem dX1_partsOf_10 : decode cX1_partsOf 10 = .ok (.ireturn, 1) := by decide +kernel
theorem dX1_touches_0 : decode cX1_touches 0 = .ok (.aload_n 0, 1) := by decide +kernel
theorem dX1_touches_1 : decode cX1_touches 1 = .ok (.iload_n 1, 1) := by decide +kernel
theorem dX1_touches_2 : decode cX1_touches 2 = .ok (.invokevirtual 91, 3) := by decide +kernel
theorem dX1_touches_5 : decode cX1_touches 5 = .ok (.iconst 0, 1) := by decide +kernel
theorem dX1_touches_6 : decode cX1_touches 6 = .ok (.istore_n 2, 1) := by decide +kernel
theorem dX1_touches_7 : decode cX1_touches 7 = .ok (.iconst 0, 1) := by decide +kernel
theorem dX1_touches_8 : decode cX1_touches 8 = .ok (.istore_n 3, 1) := by decide +kernel
theorem dX1_touches_9 : decode cX1_touches 9 = .ok (.iload_n 3, 1) := by decide +kernel
theorem dX1_touches_10 : decode cX1_touches 10 = .ok (.aload_n 0, 1) := by decide +kernel
theorem dX1_touches_11 : decode cX1_touches 11 = .ok (.getfield 46, 3) := by decide +kernel
theorem dX1_touches_14 : decode cX1_touches 14 = .ok (.if_icmp .ge 30, 3) := by decide +kernel
theorem dX1_touches_17 : decode cX1_touches 17 = .ok (.aload_n 0, 1) := by decide +kernel
theorem dX1_touches_18 : decode cX1_touches 18 = .ok (.getfield 13, 3) := by decide +kernel
theorem dX1_touches_21 : decode cX1_touches 21 = .ok (.iload_n 1, 1) := by decide +kernel
theorem dX1_touches_22 : decode cX1_touches 22 = .ok (.iaload, 1) := by decide +kernel
theorem dX1_touches_23 : decode cX1_touches 23 = .ok (.aload_n 0, 1) := by decide +kernel
theorem dX1_touches_24 : decode cX1_touches 24 = .ok (.iload_n 3, 1) := by decide +kernel
theorem dX1_touches_25 : decode cX1_touches 25 = .ok (.invokevirtual 141, 3) := by decide +kernel
theorem dX1_touches_28 : decode cX1_touches 28 = .ok (.iand, 1) := by decide +kernel
theorem dX1_touches_29 : decode cX1_touches 29 = .ok (.ifCond .eq 9, 3) := by decide +kernel
theorem dX1_touches_32 : decode cX1_touches 32 = .ok (.iload_n 2, 1) := by decide +kernel
theorem dX1_touches_33 : decode cX1_touches 33 = .ok (.iconst 1, 1) := by decide +kernel
theorem dX1_touches_34 : decode cX1_touches 34 = .ok (.iload_n 3, 1) := by decide +kernel
theorem dX1_touches_35 : decode cX1_touches 35 = .ok (.ishl, 1) := by decide +kernel
theorem dX1_touches_36 : decode cX1_touches 36 = .ok (.ior, 1) := by decide +kernel
theorem dX1_touches_37 : decode cX1_touches 37 = .ok (.istore_n 2, 1) := by decide +kernel
theorem dX1_touches_38 : decode cX1_touches 38 = .ok (.iinc 3 1, 3) := by decide +kernel
theorem dX1_touches_41 : decode cX1_touches 41 = .ok (.goto (-32), 3) := by decide +kernel
theorem dX1_touches_44 : decode cX1_touches 44 = .ok (.iload_n 2, 1) := by decide +kernel
theorem dX1_touches_45 : decode cX1_touches 45 = .ok (.ireturn, 1) := by decide +kernel
theorem dX1_runs_0 : decode cX1_runs 0 = .ok (.aload_n 0, 1) := by decide +kernel
theorem dX1_runs_1 : decode cX1_runs 1 = .ok (.iload_n 1, 1) := by decide +kernel
theorem dX1_runs_2 : decode cX1_runs 2 = .ok (.invokevirtual 88, 3) := by decide +kernel
theorem dX1_runs_5 : decode cX1_runs 5 = .ok (.aload_n 0, 1) := by decide +kernel
theorem dX1_runs_6 : decode cX1_runs 6 = .ok (.getfield 22, 3) := by decide +kernel
theorem dX1_runs_9 : decode cX1_runs 9 = .ok (.iload_n 1, 1) := by decide +kernel
theorem dX1_runs_10 : decode cX1_runs 10 = .ok (.invokevirtual 144, 3) := by decide +kernel
theorem dX1_runs_13 : decode cX1_runs 13 = .ok (.ireturn, 1) := by decide +kernel
theorem dX1_verdict_0 : decode cX1_verdict 0 = .ok (.aload_n 0, 1) := by decide +kernel
theorem dX1_verdict_1 : decode cX1_verdict 1 = .ok (.iload_n 1, 1) := by decide +kernel
theorem dX1_verdict_2 : decode cX1_verdict 2 = .ok (.invokevirtual 88, 3) := by decide +kernel
theorem dX1_verdict_5 : decode cX1_verdict 5 = .ok (.aload_n 0, 1) := by decide +kernel
theorem dX1_verdict_6 : decode cX1_verdict 6 = .ok (.iload_n 2, 1) := by decide +kernel
theorem dX1_verdict_7 : decode cX1_verdict 7 = .ok (.invokevirtual 91, 3) := by decide +kernel
theorem dX1_verdict_10 : decode cX1_verdict 10 = .ok (.aload_n 0, 1) := by decide +kernel
theorem dX1_verdict_11 : decode cX1_verdict 11 = .ok (.getfield 22, 3) := by decide +kernel
theorem dX1_verdict_14 : decode cX1_verdict 14 = .ok (.iload_n 1, 1) := by decide +kernel
theorem dX1_verdict_15 : decode cX1_verdict 15 = .ok (.iload_n 2, 1) := by decide +kernel
theorem dX1_verdict_16 : decode cX1_verdict 16 = .ok (.invokevirtual 100, 3) := by decide +kernel
theorem dX1_verdict_19 : decode cX1_verdict 19 = .ok (.ireturn, 1) := by decide +kernel
theorem dX1_failing_0 : decode cX1_failing 0 = .ok (.aload_n 0, 1) := by decide +kernel
theorem dX1_failing_1 : decode cX1_failing 1 = .ok (.iload_n 1, 1) := by decide +kernel
theorem dX1_failing_2 : decode cX1_failing 2 = .ok (.invokevirtual 88, 3) := by decide +kernel
theorem dX1_failing_5 : decode cX1_failing 5 = .ok (.aload_n 0, 1) := by decide +kernel
theorem dX1_failing_6 : decode cX1_failing 6 = .ok (.getfield 22, 3) := by decide +kernel
theorem dX1_failing_9 : decode cX1_failing 9 = .ok (.iload_n 1, 1) := by decide +kernel
theorem dX1_failing_10 : decode cX1_failing 10 = .ok (.invokevirtual 144, 3) := by decide +kernel
theorem dX1_failing_13 : decode cX1_failing 13 = .ok (.istore_n 2, 1) := by decide +kernel
theorem dX1_failing_14 : decode cX1_failing 14 = .ok (.iload_n 2, 1) := by decide +kernel
theorem dX1_failing_15 : decode cX1_failing 15 = .ok (.ifCond .ne 7, 3) := by decide +kernel
theorem dX1_failing_18 : decode cX1_failing 18 = .ok (.iconst 0, 1) := by decide +kernel
theorem dX1_failing_19 : decode cX1_failing 19 = .ok (.goto 16, 3) := by decide +kernel
theorem dX1_failing_22 : decode cX1_failing 22 = .ok (.bipush 100, 2) := by decide +kernel
theorem dX1_failing_24 : decode cX1_failing 24 = .ok (.aload_n 0, 1) := by decide +kernel
theorem dX1_failing_25 : decode cX1_failing 25 = .ok (.getfield 22, 3) := by decide +kernel
theorem dX1_failing_28 : decode cX1_failing 28 = .ok (.iload_n 1, 1) := by decide +kernel
theorem dX1_failing_29 : decode cX1_failing 29 = .ok (.invokevirtual 147, 3) := by decide +kernel
theorem dX1_failing_32 : decode cX1_failing 32 = .ok (.imul, 1) := by decide +kernel
theorem dX1_failing_33 : decode cX1_failing 33 = .ok (.iload_n 2, 1) := by decide +kernel
theorem dX1_failing_34 : decode cX1_failing 34 = .ok (.idiv, 1) := by decide +kernel
theorem dX1_failing_35 : decode cX1_failing 35 = .ok (.ireturn, 1) := by decide +kernel
theorem dX1_isQuarantined_0 : decode cX1_isQuarantined 0 = .ok (.aload_n 0, 1) := by decide +kernel
theorem dX1_isQuarantined_1 : decode cX1_isQuarantined 1 = .ok (.iload_n 1, 1) := by decide +kernel
theorem dX1_isQuarantined_2 : decode cX1_isQuarantined 2 = .ok (.invokevirtual 88, 3) := by decide +kernel
theorem dX1_isQuarantined_5 : decode cX1_isQuarantined 5 = .ok (.aload_n 0, 1) := by decide +kernel
theorem dX1_isQuarantined_6 : decode cX1_isQuarantined 6 = .ok (.iload_n 1, 1) := by decide +kernel
theorem dX1_isQuarantined_7 : decode cX1_isQuarantined 7 = .ok (.invokevirtual 150, 3) := by decide +kernel
theorem dX1_isQuarantined_10 : decode cX1_isQuarantined 10 = .ok (.ireturn, 1) := by decide +kernel
theorem dX1_broken_0 : decode cX1_broken 0 = .ok (.aload_n 0, 1) := by decide +kernel
theorem dX1_broken_1 : decode cX1_broken 1 = .ok (.iload_n 1, 1) := by decide +kernel
theorem dX1_broken_2 : decode cX1_broken 2 = .ok (.invokevirtual 91, 3) := by decide +kernel
theorem dX1_broken_5 : decode cX1_broken 5 = .ok (.iconst 0, 1) := by decide +kernel
theorem dX1_broken_6 : decode cX1_broken 6 = .ok (.istore_n 2, 1) := by decide +kernel
theorem dX1_broken_7 : decode cX1_broken 7 = .ok (.iconst 0, 1) := by decide +kernel
theorem dX1_broken_8 : decode cX1_broken 8 = .ok (.istore_n 3, 1) := by decide +kernel
theorem dX1_broken_9 : decode cX1_broken 9 = .ok (.iload_n 3, 1) := by decide +kernel
theorem dX1_broken_10 : decode cX1_broken 10 = .ok (.aload_n 0, 1) := by decide +kernel
theorem dX1_broken_11 : decode cX1_broken 11 = .ok (.getfield 46, 3) := by decide +kernel
theorem dX1_broken_14 : decode cX1_broken 14 = .ok (.if_icmp .ge 36, 3) := by decide +kernel
theorem dX1_broken_17 : decode cX1_broken 17 = .ok (.aload_n 0, 1) := by decide +kernel
theorem dX1_broken_18 : decode cX1_broken 18 = .ok (.getfield 22, 3) := by decide +kernel
theorem dX1_broken_21 : decode cX1_broken 21 = .ok (.iload_n 3, 1) := by decide +kernel
theorem dX1_broken_22 : decode cX1_broken 22 = .ok (.iload_n 1, 1) := by decide +kernel
theorem dX1_broken_23 : decode cX1_broken 23 = .ok (.invokevirtual 100, 3) := by decide +kernel
theorem dX1_broken_26 : decode cX1_broken 26 = .ok (.iconst 2, 1) := by decide +kernel
theorem dX1_broken_27 : decode cX1_broken 27 = .ok (.if_icmp .ne 17, 3) := by decide +kernel
theorem dX1_broken_30 : decode cX1_broken 30 = .ok (.aload_n 0, 1) := by decide +kernel
theorem dX1_broken_31 : decode cX1_broken 31 = .ok (.iload_n 3, 1) := by decide +kernel
theorem dX1_broken_32 : decode cX1_broken 32 = .ok (.invokevirtual 150, 3) := by decide +kernel
theorem dX1_broken_35 : decode cX1_broken 35 = .ok (.ifCond .ne 9, 3) := by decide +kernel
theorem dX1_broken_38 : decode cX1_broken 38 = .ok (.iload_n 2, 1) := by decide +kernel
theorem dX1_broken_39 : decode cX1_broken 39 = .ok (.iconst 1, 1) := by decide +kernel
theorem dX1_broken_40 : decode cX1_broken 40 = .ok (.iload_n 3, 1) := by decide +kernel
theorem dX1_broken_41 : decode cX1_broken 41 = .ok (.ishl, 1) := by decide +kernel
theorem dX1_broken_42 : decode cX1_broken 42 = .ok (.ior, 1) := by decide +kernel
theorem dX1_broken_43 : decode cX1_broken 43 = .ok (.istore_n 2, 1) := by decide +kernel
theorem dX1_broken_44 : decode cX1_broken 44 = .ok (.iinc 3 1, 3) := by decide +kernel
theorem dX1_broken_47 : decode cX1_broken 47 = .ok (.goto (-38), 3) := by decide +kernel
theorem dX1_broken_50 : decode cX1_broken 50 = .ok (.iload_n 2, 1) := by decide +kernel
theorem dX1_broken_51 : decode cX1_broken 51 = .ok (.ireturn, 1) := by decide +kernel
theorem dX1_suspects_0 : decode cX1_suspects 0 = .ok (.aload_n 0, 1) := by decide +kernel
theorem dX1_suspects_1 : decode cX1_suspects 1 = .ok (.iload_n 1, 1) := by decide +kernel
theorem dX1_suspects_2 : decode cX1_suspects 2 = .ok (.invokevirtual 88, 3) := by decide +kernel
theorem dX1_suspects_5 : decode cX1_suspects 5 = .ok (.aload_n 0, 1) := by decide +kernel
theorem dX1_suspects_6 : decode cX1_suspects 6 = .ok (.iload_n 1, 1) := by decide +kernel
theorem dX1_suspects_7 : decode cX1_suspects 7 = .ok (.invokevirtual 116, 3) := by decide +kernel
theorem dX1_suspects_10 : decode cX1_suspects 10 = .ok (.aload_n 0, 1) := by decide +kernel
theorem dX1_suspects_11 : decode cX1_suspects 11 = .ok (.iload_n 1, 1) := by decide +kernel
theorem dX1_suspects_12 : decode cX1_suspects 12 = .ok (.invokevirtual 154, 3) := by decide +kernel
theorem dX1_suspects_15 : decode cX1_suspects 15 = .ok (.lreturn, 1) := by decide +kernel
theorem dX1_contradictions_0 : decode cX1_contradictions 0 = .ok (.aload_n 0, 1) := by decide +kernel
theorem dX1_contradictions_1 : decode cX1_contradictions 1 = .ok (.iload_n 1, 1) := by decide +kernel
theorem dX1_contradictions_2 : decode cX1_contradictions 2 = .ok (.invokevirtual 88, 3) := by decide +kernel
theorem dX1_contradictions_5 : decode cX1_contradictions 5 = .ok (.aload_n 0, 1) := by decide +kernel
theorem dX1_contradictions_6 : decode cX1_contradictions 6 = .ok (.iload_n 2, 1) := by decide +kernel
theorem dX1_contradictions_7 : decode cX1_contradictions 7 = .ok (.invokevirtual 91, 3) := by decide +kernel
theorem dX1_contradictions_10 : decode cX1_contradictions 10 = .ok (.aload_n 0, 1) := by decide +kernel
theorem dX1_contradictions_11 : decode cX1_contradictions 11 = .ok (.iload_n 1, 1) := by decide +kernel
theorem dX1_contradictions_12 : decode cX1_contradictions 12 = .ok (.invokevirtual 116, 3) := by decide +kernel
theorem dX1_contradictions_15 : decode cX1_contradictions 15 = .ok (.aload_n 0, 1) := by decide +kernel
theorem dX1_contradictions_16 : decode cX1_contradictions 16 = .ok (.iload_n 1, 1) := by decide +kernel
theorem dX1_contradictions_17 : decode cX1_contradictions 17 = .ok (.invokevirtual 154, 3) := by decide +kernel
theorem dX1_contradictions_20 : decode cX1_contradictions 20 = .ok (.iload_n 2, 1) := by decide +kernel
theorem dX1_contradictions_21 : decode cX1_contradictions 21 = .ok (.invokestatic 157, 3) := by decide +kernel
theorem dX1_contradictions_24 : decode cX1_contradictions 24 = .ok (.ifCond .ne 5, 3) := by decide +kernel
theorem dX1_contradictions_27 : decode cX1_contradictions 27 = .ok (.iconst (-1), 1) := by decide +kernel
theorem dX1_contradictions_28 : decode cX1_contradictions 28 = .ok (.ireturn, 1) := by decide +kernel
theorem dX1_contradictions_29 : decode cX1_contradictions 29 = .ok (.aload_n 0, 1) := by decide +kernel
theorem dX1_contradictions_30 : decode cX1_contradictions 30 = .ok (.getfield 22, 3) := by decide +kernel
theorem dX1_contradictions_33 : decode cX1_contradictions 33 = .ok (.iload_n 1, 1) := by decide +kernel
theorem dX1_contradictions_34 : decode cX1_contradictions 34 = .ok (.aload_n 0, 1) := by decide +kernel
theorem dX1_contradictions_35 : decode cX1_contradictions 35 = .ok (.getfield 30, 3) := by decide +kernel
theorem dX1_contradictions_38 : decode cX1_contradictions 38 = .ok (.iload_n 1, 1) := by decide +kernel
theorem dX1_contradictions_39 : decode cX1_contradictions 39 = .ok (.iaload, 1) := by decide +kernel
theorem dX1_contradictions_40 : decode cX1_contradictions 40 = .ok (.aload_n 0, 1) := by decide +kernel
theorem dX1_contradictions_41 : decode cX1_contradictions 41 = .ok (.getfield 33, 3) := by decide +kernel
theorem dX1_contradictions_44 : decode cX1_contradictions 44 = .ok (.iload_n 1, 1) := by decide +kernel
theorem dX1_contradictions_45 : decode cX1_contradictions 45 = .ok (.iaload, 1) := by decide +kernel
theorem dX1_contradictions_46 : decode cX1_contradictions 46 = .ok (.iload_n 2, 1) := by decide +kernel
theorem dX1_contradictions_47 : decode cX1_contradictions 47 = .ok (.invokevirtual 161, 3) := by decide +kernel
theorem dX1_contradictions_50 : decode cX1_contradictions 50 = .ok (.ireturn, 1) := by decide +kernel
theorem dX1_candidates_0 : decode cX1_candidates 0 = .ok (.aload_n 0, 1) := by decide +kernel
theorem dX1_candidates_1 : decode cX1_candidates 1 = .ok (.iload_n 1, 1) := by decide +kernel
theorem dX1_candidates_2 : decode cX1_candidates 2 = .ok (.invokevirtual 88, 3) := by decide +kernel
theorem dX1_candidates_5 : decode cX1_candidates 5 = .ok (.aload_n 0, 1) := by decide +kernel
theorem dX1_candidates_6 : decode cX1_candidates 6 = .ok (.iload_n 1, 1) := by decide +kernel
theorem dX1_candidates_7 : decode cX1_candidates 7 = .ok (.invokevirtual 116, 3) := by decide +kernel
theorem dX1_candidates_10 : decode cX1_candidates 10 = .ok (.aload_n 0, 1) := by decide +kernel
theorem dX1_candidates_11 : decode cX1_candidates 11 = .ok (.iload_n 1, 1) := by decide +kernel
theorem dX1_candidates_12 : decode cX1_candidates 12 = .ok (.invokevirtual 106, 3) := by decide +kernel
theorem dX1_candidates_15 : decode cX1_candidates 15 = .ok (.lreturn, 1) := by decide +kernel
theorem dX1_likeliest_0 : decode cX1_likeliest 0 = .ok (.aload_n 0, 1) := by decide +kernel
theorem dX1_likeliest_1 : decode cX1_likeliest 1 = .ok (.iload_n 1, 1) := by decide +kernel
theorem dX1_likeliest_2 : decode cX1_likeliest 2 = .ok (.invokevirtual 88, 3) := by decide +kernel
theorem dX1_likeliest_5 : decode cX1_likeliest 5 = .ok (.aload_n 0, 1) := by decide +kernel
theorem dX1_likeliest_6 : decode cX1_likeliest 6 = .ok (.iload_n 1, 1) := by decide +kernel
theorem dX1_likeliest_7 : decode cX1_likeliest 7 = .ok (.invokevirtual 116, 3) := by decide +kernel
theorem dX1_likeliest_10 : decode cX1_likeliest 10 = .ok (.aload_n 0, 1) := by decide +kernel
theorem dX1_likeliest_11 : decode cX1_likeliest 11 = .ok (.iload_n 1, 1) := by decide +kernel
theorem dX1_likeliest_12 : decode cX1_likeliest 12 = .ok (.invokevirtual 119, 3) := by decide +kernel
theorem dX1_likeliest_15 : decode cX1_likeliest 15 = .ok (.ireturn, 1) := by decide +kernel
theorem dX1_next_0 : decode cX1_next 0 = .ok (.aload_n 0, 1) := by decide +kernel
theorem dX1_next_1 : decode cX1_next 1 = .ok (.iload_n 1, 1) := by decide +kernel
theorem dX1_next_2 : decode cX1_next 2 = .ok (.invokevirtual 88, 3) := by decide +kernel
theorem dX1_next_5 : decode cX1_next 5 = .ok (.aload_n 0, 1) := by decide +kernel
theorem dX1_next_6 : decode cX1_next 6 = .ok (.iload_n 1, 1) := by decide +kernel
theorem dX1_next_7 : decode cX1_next 7 = .ok (.invokevirtual 116, 3) := by decide +kernel
theorem dX1_next_10 : decode cX1_next 10 = .ok (.aload_n 0, 1) := by decide +kernel
theorem dX1_next_11 : decode cX1_next 11 = .ok (.iload_n 1, 1) := by decide +kernel
theorem dX1_next_12 : decode cX1_next 12 = .ok (.invokevirtual 106, 3) := by decide +kernel
theorem dX1_next_15 : decode cX1_next 15 = .ok (.lstore_n 2, 1) := by decide +kernel
theorem dX1_next_16 : decode cX1_next 16 = .ok (.iconst (-1), 1) := by decide +kernel
theorem dX1_next_17 : decode cX1_next 17 = .ok (.istore 4, 2) := by decide +kernel
theorem dX1_next_19 : decode cX1_next 19 = .ok (.iconst 0, 1) := by decide +kernel
theorem dX1_next_20 : decode cX1_next 20 = .ok (.istore 5, 2) := by decide +kernel
theorem dX1_next_22 : decode cX1_next 22 = .ok (.iconst 0, 1) := by decide +kernel
theorem dX1_next_23 : decode cX1_next 23 = .ok (.istore 6, 2) := by decide +kernel
theorem dX1_next_25 : decode cX1_next 25 = .ok (.aload_n 0, 1) := by decide +kernel
theorem dX1_next_26 : decode cX1_next 26 = .ok (.getfield 30, 3) := by decide +kernel
theorem dX1_next_29 : decode cX1_next 29 = .ok (.iload_n 1, 1) := by decide +kernel
theorem dX1_next_30 : decode cX1_next 30 = .ok (.iaload, 1) := by decide +kernel
theorem dX1_next_31 : decode cX1_next 31 = .ok (.iconst 1, 1) := by decide +kernel
theorem dX1_next_32 : decode cX1_next 32 = .ok (.iadd, 1) := by decide +kernel
theorem dX1_next_33 : decode cX1_next 33 = .ok (.istore 7, 2) := by decide +kernel
theorem dX1_next_35 : decode cX1_next 35 = .ok (.iload 7, 2) := by decide +kernel
theorem dX1_next_37 : decode cX1_next 37 = .ok (.aload_n 0, 1) := by decide +kernel
theorem dX1_next_38 : decode cX1_next 38 = .ok (.getfield 33, 3) := by decide +kernel
theorem dX1_next_41 : decode cX1_next 41 = .ok (.iload_n 1, 1) := by decide +kernel
theorem dX1_next_42 : decode cX1_next 42 = .ok (.iaload, 1) := by decide +kernel
theorem dX1_next_43 : decode cX1_next 43 = .ok (.if_icmp .ge 67, 3) := by decide +kernel
theorem dX1_next_46 : decode cX1_next 46 = .ok (.lload_n 2, 1) := by decide +kernel
theorem dX1_next_47 : decode cX1_next 47 = .ok (.iload 7, 2) := by decide +kernel
theorem dX1_next_49 : decode cX1_next 49 = .ok (.invokestatic 165, 3) := by decide +kernel
theorem dX1_next_52 : decode cX1_next 52 = .ok (.istore 8, 2) := by decide +kernel
theorem dX1_next_54 : decode cX1_next 54 = .ok (.aload_n 0, 1) := by decide +kernel
theorem dX1_next_55 : decode cX1_next 55 = .ok (.getfield 22, 3) := by decide +kernel
theorem dX1_next_58 : decode cX1_next 58 = .ok (.iload_n 1, 1) := by decide +kernel
theorem dX1_next_59 : decode cX1_next 59 = .ok (.iload 7, 2) := by decide +kernel
theorem dX1_next_61 : decode cX1_next 61 = .ok (.invokevirtual 169, 3) := by decide +kernel
theorem dX1_next_64 : decode cX1_next 64 = .ok (.istore 9, 2) := by decide +kernel
theorem dX1_next_66 : decode cX1_next 66 = .ok (.iload 4, 2) := by decide +kernel
theorem dX1_next_68 : decode cX1_next 68 = .ok (.ifCond .lt 24, 3) := by decide +kernel
theorem dX1_next_71 : decode cX1_next 71 = .ok (.iload 8, 2) := by decide +kernel
theorem dX1_next_73 : decode cX1_next 73 = .ok (.iload 5, 2) := by decide +kernel
theorem dX1_next_75 : decode cX1_next 75 = .ok (.if_icmp .lt 17, 3) := by decide +kernel
theorem dX1_next_78 : decode cX1_next 78 = .ok (.iload 8, 2) := by decide +kernel
theorem dX1_next_80 : decode cX1_next 80 = .ok (.iload 5, 2) := by decide +kernel
theorem dX1_next_82 : decode cX1_next 82 = .ok (.if_icmp .ne 22, 3) := by decide +kernel
theorem dX1_next_85 : decode cX1_next 85 = .ok (.iload 9, 2) := by decide +kernel
theorem dX1_next_87 : decode cX1_next 87 = .ok (.iload 6, 2) := by decide +kernel
theorem dX1_next_89 : decode cX1_next 89 = .ok (.if_icmp .ge 15, 3) := by decide +kernel
theorem dX1_next_92 : decode cX1_next 92 = .ok (.iload 7, 2) := by decide +kernel
theorem dX1_next_94 : decode cX1_next 94 = .ok (.istore 4, 2) := by decide +kernel
theorem dX1_next_96 : decode cX1_next 96 = .ok (.iload 8, 2) := by decide +kernel
theorem dX1_next_98 : decode cX1_next 98 = .ok (.istore 5, 2) := by decide +kernel
theorem dX1_next_100 : decode cX1_next 100 = .ok (.iload 9, 2) := by decide +kernel
theorem dX1_next_102 : decode cX1_next 102 = .ok (.istore 6, 2) := by decide +kernel
theorem dX1_next_104 : decode cX1_next 104 = .ok (.iinc 7 1, 3) := by decide +kernel
theorem dX1_next_107 : decode cX1_next 107 = .ok (.goto (-72), 3) := by decide +kernel
theorem dX1_next_110 : decode cX1_next 110 = .ok (.iload 4, 2) := by decide +kernel
theorem dX1_next_112 : decode cX1_next 112 = .ok (.ireturn, 1) := by decide +kernel
theorem dX1_needParts_0 : decode cX1_needParts 0 = .ok (.iload_n 0, 1) := by decide +kernel
theorem dX1_needParts_1 : decode cX1_needParts 1 = .ok (.ifCond .lt 9, 3) := by decide +kernel
theorem dX1_needParts_4 : decode cX1_needParts 4 = .ok (.iload_n 0, 1) := by decide +kernel
theorem dX1_needParts_5 : decode cX1_needParts 5 = .ok (.ldc 172, 2) := by decide +kernel
theorem dX1_needParts_7 : decode cX1_needParts 7 = .ok (.if_icmp .le 13, 3) := by decide +kernel
theorem dX1_needParts_10 : decode cX1_needParts 10 = .ok (.new 79, 3) := by decide +kernel
theorem dX1_needParts_13 : decode cX1_needParts 13 = .ok (.dup, 1) := by decide +kernel
theorem dX1_needParts_14 : decode cX1_needParts 14 = .ok (.ldc 173, 2) := by decide +kernel
theorem dX1_needParts_16 : decode cX1_needParts 16 = .ok (.invokespecial 83, 3) := by decide +kernel
theorem dX1_needParts_19 : decode cX1_needParts 19 = .ok (.athrow, 1) := by decide +kernel
theorem dX1_needParts_20 : decode cX1_needParts 20 = .ok (.return_, 1) := by decide +kernel
theorem dX1_needTest_0 : decode cX1_needTest 0 = .ok (.iload_n 1, 1) := by decide +kernel
theorem dX1_needTest_1 : decode cX1_needTest 1 = .ok (.ifCond .lt 11, 3) := by decide +kernel
theorem dX1_needTest_4 : decode cX1_needTest 4 = .ok (.iload_n 1, 1) := by decide +kernel
theorem dX1_needTest_5 : decode cX1_needTest 5 = .ok (.aload_n 0, 1) := by decide +kernel
theorem dX1_needTest_6 : decode cX1_needTest 6 = .ok (.getfield 46, 3) := by decide +kernel
theorem dX1_needTest_9 : decode cX1_needTest 9 = .ok (.if_icmp .lt 13, 3) := by decide +kernel
theorem dX1_needTest_12 : decode cX1_needTest 12 = .ok (.new 61, 3) := by decide +kernel
theorem dX1_needTest_15 : decode cX1_needTest 15 = .ok (.dup, 1) := by decide +kernel
theorem dX1_needTest_16 : decode cX1_needTest 16 = .ok (.ldc 175, 2) := by decide +kernel
theorem dX1_needTest_18 : decode cX1_needTest 18 = .ok (.invokespecial 65, 3) := by decide +kernel
theorem dX1_needTest_21 : decode cX1_needTest 21 = .ok (.athrow, 1) := by decide +kernel
theorem dX1_needTest_22 : decode cX1_needTest 22 = .ok (.return_, 1) := by decide +kernel
theorem dX1_needCommit_0 : decode cX1_needCommit 0 = .ok (.iload_n 1, 1) := by decide +kernel
theorem dX1_needCommit_1 : decode cX1_needCommit 1 = .ok (.ifCond .lt 11, 3) := by decide +kernel
theorem dX1_needCommit_4 : decode cX1_needCommit 4 = .ok (.iload_n 1, 1) := by decide +kernel
theorem dX1_needCommit_5 : decode cX1_needCommit 5 = .ok (.aload_n 0, 1) := by decide +kernel
theorem dX1_needCommit_6 : decode cX1_needCommit 6 = .ok (.getfield 43, 3) := by decide +kernel
theorem dX1_needCommit_9 : decode cX1_needCommit 9 = .ok (.if_icmp .lt 13, 3) := by decide +kernel
theorem dX1_needCommit_12 : decode cX1_needCommit 12 = .ok (.new 61, 3) := by decide +kernel
theorem dX1_needCommit_15 : decode cX1_needCommit 15 = .ok (.dup, 1) := by decide +kernel
theorem dX1_needCommit_16 : decode cX1_needCommit 16 = .ok (.ldc 177, 2) := by decide +kernel
theorem dX1_needCommit_18 : decode cX1_needCommit 18 = .ok (.invokespecial 65, 3) := by decide +kernel
theorem dX1_needCommit_21 : decode cX1_needCommit 21 = .ok (.athrow, 1) := by decide +kernel
theorem dX1_needCommit_22 : decode cX1_needCommit 22 = .ok (.return_, 1) := by decide +kernel
theorem dX1_needTriage_0 : decode cX1_needTriage 0 = .ok (.aload_n 0, 1) := by decide +kernel
theorem dX1_needTriage_1 : decode cX1_needTriage 1 = .ok (.getfield 26, 3) := by decide +kernel
theorem dX1_needTriage_4 : decode cX1_needTriage 4 = .ok (.iload_n 1, 1) := by decide +kernel
theorem dX1_needTriage_5 : decode cX1_needTriage 5 = .ok (.baload, 1) := by decide +kernel
theorem dX1_needTriage_6 : decode cX1_needTriage 6 = .ok (.ifCond .ne 13, 3) := by decide +kernel
theorem dX1_needTriage_9 : decode cX1_needTriage 9 = .ok (.new 72, 3) := by decide +kernel
theorem dX1_needTriage_12 : decode cX1_needTriage 12 = .ok (.dup, 1) := by decide +kernel
theorem dX1_needTriage_13 : decode cX1_needTriage 13 = .ok (.ldc 179, 2) := by decide +kernel
theorem dX1_needTriage_15 : decode cX1_needTriage 15 = .ok (.invokespecial 76, 3) := by decide +kernel
theorem dX1_needTriage_18 : decode cX1_needTriage 18 = .ok (.athrow, 1) := by decide +kernel
theorem dX1_needTriage_19 : decode cX1_needTriage 19 = .ok (.return_, 1) := by decide +kernel
theorem dX1_has_0 : decode cX1_has 0 = .ok (.lload_n 0, 1) := by decide +kernel
theorem dX1_has_1 : decode cX1_has 1 = .ok (.iload_n 2, 1) := by decide +kernel
theorem dX1_has_2 : decode cX1_has 2 = .ok (.lshr, 1) := by decide +kernel
theorem dX1_has_3 : decode cX1_has 3 = .ok (.lconst 1, 1) := by decide +kernel
theorem dX1_has_4 : decode cX1_has 4 = .ok (.land, 1) := by decide +kernel
theorem dX1_has_5 : decode cX1_has 5 = .ok (.lconst 0, 1) := by decide +kernel
theorem dX1_has_6 : decode cX1_has 6 = .ok (.lcmp, 1) := by decide +kernel
theorem dX1_has_7 : decode cX1_has 7 = .ok (.ifCond .eq 7, 3) := by decide +kernel
theorem dX1_has_10 : decode cX1_has 10 = .ok (.iconst 1, 1) := by decide +kernel
theorem dX1_has_11 : decode cX1_has 11 = .ok (.goto 4, 3) := by decide +kernel
theorem dX1_has_14 : decode cX1_has 14 = .ok (.iconst 0, 1) := by decide +kernel
theorem dX1_has_15 : decode cX1_has 15 = .ok (.ireturn, 1) := by decide +kernel
theorem dX1_allPartsOf_0 : decode cX1_allPartsOf 0 = .ok (.aload_n 0, 1) := by decide +kernel
theorem dX1_allPartsOf_1 : decode cX1_allPartsOf 1 = .ok (.getfield 16, 3) := by decide +kernel
theorem dX1_allPartsOf_4 : decode cX1_allPartsOf 4 = .ok (.iload_n 1, 1) := by decide +kernel
theorem dX1_allPartsOf_5 : decode cX1_allPartsOf 5 = .ok (.iaload, 1) := by decide +kernel
theorem dX1_allPartsOf_6 : decode cX1_allPartsOf 6 = .ok (.istore_n 2, 1) := by decide +kernel
theorem dX1_allPartsOf_7 : decode cX1_allPartsOf 7 = .ok (.iconst 0, 1) := by decide +kernel
theorem dX1_allPartsOf_8 : decode cX1_allPartsOf 8 = .ok (.istore_n 3, 1) := by decide +kernel
theorem dX1_allPartsOf_9 : decode cX1_allPartsOf 9 = .ok (.iload_n 3, 1) := by decide +kernel
theorem dX1_allPartsOf_10 : decode cX1_allPartsOf 10 = .ok (.bipush 16, 2) := by decide +kernel
theorem dX1_allPartsOf_12 : decode cX1_allPartsOf 12 = .ok (.if_icmp .ge 62, 3) := by decide +kernel
theorem dX1_allPartsOf_15 : decode cX1_allPartsOf 15 = .ok (.iload_n 2, 1) := by decide +kernel
theorem dX1_allPartsOf_16 : decode cX1_allPartsOf 16 = .ok (.istore 4, 2) := by decide +kernel
theorem dX1_allPartsOf_18 : decode cX1_allPartsOf 18 = .ok (.iconst 0, 1) := by decide +kernel
theorem dX1_allPartsOf_19 : decode cX1_allPartsOf 19 = .ok (.istore 5, 2) := by decide +kernel
theorem dX1_allPartsOf_21 : decode cX1_allPartsOf 21 = .ok (.iload 5, 2) := by decide +kernel
theorem dX1_allPartsOf_23 : decode cX1_allPartsOf 23 = .ok (.bipush 16, 2) := by decide +kernel
theorem dX1_allPartsOf_25 : decode cX1_allPartsOf 25 = .ok (.if_icmp .ge 31, 3) := by decide +kernel
theorem dX1_allPartsOf_28 : decode cX1_allPartsOf 28 = .ok (.iload_n 2, 1) := by decide +kernel
theorem dX1_allPartsOf_29 : decode cX1_allPartsOf 29 = .ok (.i2l, 1) := by decide +kernel
theorem dX1_allPartsOf_30 : decode cX1_allPartsOf 30 = .ok (.iload 5, 2) := by decide +kernel
theorem dX1_allPartsOf_32 : decode cX1_allPartsOf 32 = .ok (.invokestatic 157, 3) := by decide +kernel
theorem dX1_allPartsOf_35 : decode cX1_allPartsOf 35 = .ok (.ifCond .eq 15, 3) := by decide +kernel
theorem dX1_allPartsOf_38 : decode cX1_allPartsOf 38 = .ok (.iload 4, 2) := by decide +kernel
theorem dX1_allPartsOf_40 : decode cX1_allPartsOf 40 = .ok (.aload_n 0, 1) := by decide +kernel
theorem dX1_allPartsOf_41 : decode cX1_allPartsOf 41 = .ok (.getfield 9, 3) := by decide +kernel
theorem dX1_allPartsOf_44 : decode cX1_allPartsOf 44 = .ok (.iload 5, 2) := by decide +kernel
theorem dX1_allPartsOf_46 : decode cX1_allPartsOf 46 = .ok (.iaload, 1) := by decide +kernel
theorem dX1_allPartsOf_47 : decode cX1_allPartsOf 47 = .ok (.ior, 1) := by decide +kernel
theorem dX1_allPartsOf_48 : decode cX1_allPartsOf 48 = .ok (.istore 4, 2) := by decide +kernel
theorem dX1_allPartsOf_50 : decode cX1_allPartsOf 50 = .ok (.iinc 5 1, 3) := by decide +kernel
theorem dX1_allPartsOf_53 : decode cX1_allPartsOf 53 = .ok (.goto (-32), 3) := by decide +kernel
theorem dX1_allPartsOf_56 : decode cX1_allPartsOf 56 = .ok (.iload 4, 2) := by decide +kernel
theorem dX1_allPartsOf_58 : decode cX1_allPartsOf 58 = .ok (.iload_n 2, 1) := by decide +kernel
theorem dX1_allPartsOf_59 : decode cX1_allPartsOf 59 = .ok (.if_icmp .ne 6, 3) := by decide +kernel
theorem dX1_allPartsOf_62 : decode cX1_allPartsOf 62 = .ok (.goto 12, 3) := by decide +kernel
theorem dX1_allPartsOf_65 : decode cX1_allPartsOf 65 = .ok (.iload 4, 2) := by decide +kernel
theorem dX1_allPartsOf_67 : decode cX1_allPartsOf 67 = .ok (.istore_n 2, 1) := by decide +kernel
theorem dX1_allPartsOf_68 : decode cX1_allPartsOf 68 = .ok (.iinc 3 1, 3) := by decide +kernel
theorem dX1_allPartsOf_71 : decode cX1_allPartsOf 71 = .ok (.goto (-62), 3) := by decide +kernel
theorem dX1_allPartsOf_74 : decode cX1_allPartsOf 74 = .ok (.iload_n 2, 1) := by decide +kernel
theorem dX1_allPartsOf_75 : decode cX1_allPartsOf 75 = .ok (.ireturn, 1) := by decide +kernel
theorem dX1_isUnsteady_0 : decode cX1_isUnsteady 0 = .ok (.iconst 0, 1) := by decide +kernel
theorem dX1_isUnsteady_1 : decode cX1_isUnsteady 1 = .ok (.istore_n 2, 1) := by decide +kernel
theorem dX1_isUnsteady_2 : decode cX1_isUnsteady 2 = .ok (.iconst 0, 1) := by decide +kernel
theorem dX1_isUnsteady_3 : decode cX1_isUnsteady 3 = .ok (.aload_n 0, 1) := by decide +kernel
theorem dX1_isUnsteady_4 : decode cX1_isUnsteady 4 = .ok (.getfield 43, 3) := by decide +kernel
theorem dX1_isUnsteady_7 : decode cX1_isUnsteady 7 = .ok (.aload_n 0, 1) := by decide +kernel
theorem dX1_isUnsteady_8 : decode cX1_isUnsteady 8 = .ok (.getfield 52, 3) := by decide +kernel
theorem dX1_isUnsteady_11 : decode cX1_isUnsteady 11 = .ok (.isub, 1) := by decide +kernel
theorem dX1_isUnsteady_12 : decode cX1_isUnsteady 12 = .ok (.invokestatic 181, 3) := by decide +kernel
theorem dX1_isUnsteady_15 : decode cX1_isUnsteady 15 = .ok (.istore_n 3, 1) := by decide +kernel
theorem dX1_isUnsteady_16 : decode cX1_isUnsteady 16 = .ok (.iload_n 3, 1) := by decide +kernel
theorem dX1_isUnsteady_17 : decode cX1_isUnsteady 17 = .ok (.aload_n 0, 1) := by decide +kernel
theorem dX1_isUnsteady_18 : decode cX1_isUnsteady 18 = .ok (.getfield 43, 3) := by decide +kernel
theorem dX1_isUnsteady_21 : decode cX1_isUnsteady 21 = .ok (.if_icmp .ge 25, 3) := by decide +kernel
theorem dX1_isUnsteady_24 : decode cX1_isUnsteady 24 = .ok (.aload_n 0, 1) := by decide +kernel
theorem dX1_isUnsteady_25 : decode cX1_isUnsteady 25 = .ok (.getfield 22, 3) := by decide +kernel
theorem dX1_isUnsteady_28 : decode cX1_isUnsteady 28 = .ok (.iload_n 1, 1) := by decide +kernel
theorem dX1_isUnsteady_29 : decode cX1_isUnsteady 29 = .ok (.iload_n 3, 1) := by decide +kernel
theorem dX1_isUnsteady_30 : decode cX1_isUnsteady 30 = .ok (.invokevirtual 100, 3) := by decide +kernel
theorem dX1_isUnsteady_33 : decode cX1_isUnsteady 33 = .ok (.iconst 3, 1) := by decide +kernel
theorem dX1_isUnsteady_34 : decode cX1_isUnsteady 34 = .ok (.if_icmp .ne 6, 3) := by decide +kernel
theorem dX1_isUnsteady_37 : decode cX1_isUnsteady 37 = .ok (.iinc 2 1, 3) := by decide +kernel
theorem dX1_isUnsteady_40 : decode cX1_isUnsteady 40 = .ok (.iinc 3 1, 3) := by decide +kernel
theorem dX1_isUnsteady_43 : decode cX1_isUnsteady 43 = .ok (.goto (-27), 3) := by decide +kernel
theorem dX1_isUnsteady_46 : decode cX1_isUnsteady 46 = .ok (.iload_n 2, 1) := by decide +kernel
theorem dX1_isUnsteady_47 : decode cX1_isUnsteady 47 = .ok (.aload_n 0, 1) := by decide +kernel
theorem dX1_isUnsteady_48 : decode cX1_isUnsteady 48 = .ok (.getfield 49, 3) := by decide +kernel
theorem dX1_isUnsteady_51 : decode cX1_isUnsteady 51 = .ok (.if_icmp .lt 7, 3) := by decide +kernel
theorem dX1_isUnsteady_54 : decode cX1_isUnsteady 54 = .ok (.iconst 1, 1) := by decide +kernel
theorem dX1_isUnsteady_55 : decode cX1_isUnsteady 55 = .ok (.goto 4, 3) := by decide +kernel
theorem dX1_isUnsteady_58 : decode cX1_isUnsteady 58 = .ok (.iconst 0, 1) := by decide +kernel
theorem dX1_isUnsteady_59 : decode cX1_isUnsteady 59 = .ok (.ireturn, 1) := by decide +kernel
theorem dX1_suspectsOf_0 : decode cX1_suspectsOf 0 = .ok (.aload_n 0, 1) := by decide +kernel
theorem dX1_suspectsOf_1 : decode cX1_suspectsOf 1 = .ok (.iload_n 1, 1) := by decide +kernel
theorem dX1_suspectsOf_2 : decode cX1_suspectsOf 2 = .ok (.invokevirtual 141, 3) := by decide +kernel
theorem dX1_suspectsOf_5 : decode cX1_suspectsOf 5 = .ok (.istore_n 2, 1) := by decide +kernel
theorem dX1_suspectsOf_6 : decode cX1_suspectsOf 6 = .ok (.lconst 0, 1) := by decide +kernel
theorem dX1_suspectsOf_7 : decode cX1_suspectsOf 7 = .ok (.lstore_n 3, 1) := by decide +kernel
theorem dX1_suspectsOf_8 : decode cX1_suspectsOf 8 = .ok (.aload_n 0, 1) := by decide +kernel
theorem dX1_suspectsOf_9 : decode cX1_suspectsOf 9 = .ok (.getfield 30, 3) := by decide +kernel
theorem dX1_suspectsOf_12 : decode cX1_suspectsOf 12 = .ok (.iload_n 1, 1) := by decide +kernel
theorem dX1_suspectsOf_13 : decode cX1_suspectsOf 13 = .ok (.iaload, 1) := by decide +kernel
theorem dX1_suspectsOf_14 : decode cX1_suspectsOf 14 = .ok (.iconst 1, 1) := by decide +kernel
theorem dX1_suspectsOf_15 : decode cX1_suspectsOf 15 = .ok (.iadd, 1) := by decide +kernel
theorem dX1_suspectsOf_16 : decode cX1_suspectsOf 16 = .ok (.istore 5, 2) := by decide +kernel
theorem dX1_suspectsOf_18 : decode cX1_suspectsOf 18 = .ok (.iload 5, 2) := by decide +kernel
theorem dX1_suspectsOf_20 : decode cX1_suspectsOf 20 = .ok (.aload_n 0, 1) := by decide +kernel
theorem dX1_suspectsOf_21 : decode cX1_suspectsOf 21 = .ok (.getfield 33, 3) := by decide +kernel
theorem dX1_suspectsOf_24 : decode cX1_suspectsOf 24 = .ok (.iload_n 1, 1) := by decide +kernel
theorem dX1_suspectsOf_25 : decode cX1_suspectsOf 25 = .ok (.iaload, 1) := by decide +kernel
theorem dX1_suspectsOf_26 : decode cX1_suspectsOf 26 = .ok (.if_icmp .gt 28, 3) := by decide +kernel
theorem dX1_suspectsOf_29 : decode cX1_suspectsOf 29 = .ok (.aload_n 0, 1) := by decide +kernel
theorem dX1_suspectsOf_30 : decode cX1_suspectsOf 30 = .ok (.getfield 13, 3) := by decide +kernel
theorem dX1_suspectsOf_33 : decode cX1_suspectsOf 33 = .ok (.iload 5, 2) := by decide +kernel
theorem dX1_suspectsOf_35 : decode cX1_suspectsOf 35 = .ok (.iaload, 1) := by decide +kernel
theorem dX1_suspectsOf_36 : decode cX1_suspectsOf 36 = .ok (.iload_n 2, 1) := by decide +kernel
theorem dX1_suspectsOf_37 : decode cX1_suspectsOf 37 = .ok (.iand, 1) := by decide +kernel
theorem dX1_suspectsOf_38 : decode cX1_suspectsOf 38 = .ok (.ifCond .eq 10, 3) := by decide +kernel
theorem dX1_suspectsOf_41 : decode cX1_suspectsOf 41 = .ok (.lload_n 3, 1) := by decide +kernel
theorem dX1_suspectsOf_42 : decode cX1_suspectsOf 42 = .ok (.lconst 1, 1) := by decide +kernel
theorem dX1_suspectsOf_43 : decode cX1_suspectsOf 43 = .ok (.iload 5, 2) := by decide +kernel
theorem dX1_suspectsOf_45 : decode cX1_suspectsOf 45 = .ok (.lshl, 1) := by decide +kernel
theorem dX1_suspectsOf_46 : decode cX1_suspectsOf 46 = .ok (.lor, 1) := by decide +kernel
theorem dX1_suspectsOf_47 : decode cX1_suspectsOf 47 = .ok (.lstore_n 3, 1) := by decide +kernel
theorem dX1_suspectsOf_48 : decode cX1_suspectsOf 48 = .ok (.iinc 5 1, 3) := by decide +kernel
theorem dX1_suspectsOf_51 : decode cX1_suspectsOf 51 = .ok (.goto (-33), 3) := by decide +kernel
theorem dX1_suspectsOf_54 : decode cX1_suspectsOf 54 = .ok (.lload_n 3, 1) := by decide +kernel
theorem dX1_suspectsOf_55 : decode cX1_suspectsOf 55 = .ok (.lreturn, 1) := by decide +kernel
theorem dX1_candidatesOf_0 : decode cX1_candidatesOf 0 = .ok (.aload_n 0, 1) := by decide +kernel
theorem dX1_candidatesOf_1 : decode cX1_candidatesOf 1 = .ok (.iload_n 1, 1) := by decide +kernel
theorem dX1_candidatesOf_2 : decode cX1_candidatesOf 2 = .ok (.invokevirtual 154, 3) := by decide +kernel
theorem dX1_candidatesOf_5 : decode cX1_candidatesOf 5 = .ok (.lstore_n 2, 1) := by decide +kernel
theorem dX1_candidatesOf_6 : decode cX1_candidatesOf 6 = .ok (.aload_n 0, 1) := by decide +kernel
theorem dX1_candidatesOf_7 : decode cX1_candidatesOf 7 = .ok (.getfield 30, 3) := by decide +kernel
theorem dX1_candidatesOf_10 : decode cX1_candidatesOf 10 = .ok (.iload_n 1, 1) := by decide +kernel
theorem dX1_candidatesOf_11 : decode cX1_candidatesOf 11 = .ok (.iaload, 1) := by decide +kernel
theorem dX1_candidatesOf_12 : decode cX1_candidatesOf 12 = .ok (.istore 4, 2) := by decide +kernel
theorem dX1_candidatesOf_14 : decode cX1_candidatesOf 14 = .ok (.aload_n 0, 1) := by decide +kernel
theorem dX1_candidatesOf_15 : decode cX1_candidatesOf 15 = .ok (.getfield 33, 3) := by decide +kernel
theorem dX1_candidatesOf_18 : decode cX1_candidatesOf 18 = .ok (.iload_n 1, 1) := by decide +kernel
theorem dX1_candidatesOf_19 : decode cX1_candidatesOf 19 = .ok (.iaload, 1) := by decide +kernel
theorem dX1_candidatesOf_20 : decode cX1_candidatesOf 20 = .ok (.istore 5, 2) := by decide +kernel
theorem dX1_candidatesOf_22 : decode cX1_candidatesOf 22 = .ok (.lconst 0, 1) := by decide +kernel
theorem dX1_candidatesOf_23 : decode cX1_candidatesOf 23 = .ok (.lstore 6, 2) := by decide +kernel
theorem dX1_candidatesOf_25 : decode cX1_candidatesOf 25 = .ok (.aload_n 0, 1) := by decide +kernel
theorem dX1_candidatesOf_26 : decode cX1_candidatesOf 26 = .ok (.getfield 22, 3) := by decide +kernel
theorem dX1_candidatesOf_29 : decode cX1_candidatesOf 29 = .ok (.iload_n 1, 1) := by decide +kernel
theorem dX1_candidatesOf_30 : decode cX1_candidatesOf 30 = .ok (.iload 4, 2) := by decide +kernel
theorem dX1_candidatesOf_32 : decode cX1_candidatesOf 32 = .ok (.iload 5, 2) := by decide +kernel
theorem dX1_candidatesOf_34 : decode cX1_candidatesOf 34 = .ok (.invokevirtual 186, 3) := by decide +kernel
theorem dX1_candidatesOf_37 : decode cX1_candidatesOf 37 = .ok (.istore 8, 2) := by decide +kernel
theorem dX1_candidatesOf_39 : decode cX1_candidatesOf 39 = .ok (.iload 4, 2) := by decide +kernel
theorem dX1_candidatesOf_41 : decode cX1_candidatesOf 41 = .ok (.iconst 1, 1) := by decide +kernel
theorem dX1_candidatesOf_42 : decode cX1_candidatesOf 42 = .ok (.iadd, 1) := by decide +kernel
theorem dX1_candidatesOf_43 : decode cX1_candidatesOf 43 = .ok (.istore 9, 2) := by decide +kernel
theorem dX1_candidatesOf_45 : decode cX1_candidatesOf 45 = .ok (.iload 9, 2) := by decide +kernel
theorem dX1_candidatesOf_47 : decode cX1_candidatesOf 47 = .ok (.iload 5, 2) := by decide +kernel
theorem dX1_candidatesOf_49 : decode cX1_candidatesOf 49 = .ok (.if_icmp .gt 53, 3) := by decide +kernel
theorem dX1_candidatesOf_52 : decode cX1_candidatesOf 52 = .ok (.iload 8, 2) := by decide +kernel
theorem dX1_candidatesOf_54 : decode cX1_candidatesOf 54 = .ok (.aload_n 0, 1) := by decide +kernel
theorem dX1_candidatesOf_55 : decode cX1_candidatesOf 55 = .ok (.getfield 22, 3) := by decide +kernel
theorem dX1_candidatesOf_58 : decode cX1_candidatesOf 58 = .ok (.iload_n 1, 1) := by decide +kernel
theorem dX1_candidatesOf_59 : decode cX1_candidatesOf 59 = .ok (.iload 9, 2) := by decide +kernel
theorem dX1_candidatesOf_61 : decode cX1_candidatesOf 61 = .ok (.iconst 1, 1) := by decide +kernel
theorem dX1_candidatesOf_62 : decode cX1_candidatesOf 62 = .ok (.isub, 1) := by decide +kernel
theorem dX1_candidatesOf_63 : decode cX1_candidatesOf 63 = .ok (.invokevirtual 190, 3) := by decide +kernel
theorem dX1_candidatesOf_66 : decode cX1_candidatesOf 66 = .ok (.iadd, 1) := by decide +kernel
theorem dX1_candidatesOf_67 : decode cX1_candidatesOf 67 = .ok (.istore 8, 2) := by decide +kernel
theorem dX1_candidatesOf_69 : decode cX1_candidatesOf 69 = .ok (.lload_n 2, 1) := by decide +kernel
theorem dX1_candidatesOf_70 : decode cX1_candidatesOf 70 = .ok (.iload 9, 2) := by decide +kernel
theorem dX1_candidatesOf_72 : decode cX1_candidatesOf 72 = .ok (.invokestatic 157, 3) := by decide +kernel
theorem dX1_candidatesOf_75 : decode cX1_candidatesOf 75 = .ok (.ifCond .eq 21, 3) := by decide +kernel
theorem dX1_candidatesOf_78 : decode cX1_candidatesOf 78 = .ok (.iload 8, 2) := by decide +kernel
theorem dX1_candidatesOf_80 : decode cX1_candidatesOf 80 = .ok (.aload_n 0, 1) := by decide +kernel
theorem dX1_candidatesOf_81 : decode cX1_candidatesOf 81 = .ok (.getfield 55, 3) := by decide +kernel
theorem dX1_candidatesOf_84 : decode cX1_candidatesOf 84 = .ok (.if_icmp .gt 12, 3) := by decide +kernel
theorem dX1_candidatesOf_87 : decode cX1_candidatesOf 87 = .ok (.lload 6, 2) := by decide +kernel
theorem dX1_candidatesOf_89 : decode cX1_candidatesOf 89 = .ok (.lconst 1, 1) := by decide +kernel
theorem dX1_candidatesOf_90 : decode cX1_candidatesOf 90 = .ok (.iload 9, 2) := by decide +kernel
theorem dX1_candidatesOf_92 : decode cX1_candidatesOf 92 = .ok (.lshl, 1) := by decide +kernel
theorem dX1_candidatesOf_93 : decode cX1_candidatesOf 93 = .ok (.lor, 1) := by decide +kernel
theorem dX1_candidatesOf_94 : decode cX1_candidatesOf 94 = .ok (.lstore 6, 2) := by decide +kernel
theorem dX1_candidatesOf_96 : decode cX1_candidatesOf 96 = .ok (.iinc 9 1, 3) := by decide +kernel
theorem dX1_candidatesOf_99 : decode cX1_candidatesOf 99 = .ok (.goto (-54), 3) := by decide +kernel
theorem dX1_candidatesOf_102 : decode cX1_candidatesOf 102 = .ok (.lload 6, 2) := by decide +kernel
theorem dX1_candidatesOf_104 : decode cX1_candidatesOf 104 = .ok (.lreturn, 1) := by decide +kernel
theorem dX1_likeliestOf_0 : decode cX1_likeliestOf 0 = .ok (.aload_n 0, 1) := by decide +kernel
theorem dX1_likeliestOf_1 : decode cX1_likeliestOf 1 = .ok (.iload_n 1, 1) := by decide +kernel
theorem dX1_likeliestOf_2 : decode cX1_likeliestOf 2 = .ok (.invokevirtual 154, 3) := by decide +kernel
theorem dX1_likeliestOf_5 : decode cX1_likeliestOf 5 = .ok (.lstore_n 2, 1) := by decide +kernel
theorem dX1_likeliestOf_6 : decode cX1_likeliestOf 6 = .ok (.aload_n 0, 1) := by decide +kernel
theorem dX1_likeliestOf_7 : decode cX1_likeliestOf 7 = .ok (.getfield 30, 3) := by decide +kernel
theorem dX1_likeliestOf_10 : decode cX1_likeliestOf 10 = .ok (.iload_n 1, 1) := by decide +kernel
theorem dX1_likeliestOf_11 : decode cX1_likeliestOf 11 = .ok (.iaload, 1) := by decide +kernel
theorem dX1_likeliestOf_12 : decode cX1_likeliestOf 12 = .ok (.istore 4, 2) := by decide +kernel
theorem dX1_likeliestOf_14 : decode cX1_likeliestOf 14 = .ok (.aload_n 0, 1) := by decide +kernel
theorem dX1_likeliestOf_15 : decode cX1_likeliestOf 15 = .ok (.getfield 33, 3) := by decide +kernel
theorem dX1_likeliestOf_18 : decode cX1_likeliestOf 18 = .ok (.iload_n 1, 1) := by decide +kernel
theorem dX1_likeliestOf_19 : decode cX1_likeliestOf 19 = .ok (.iaload, 1) := by decide +kernel
theorem dX1_likeliestOf_20 : decode cX1_likeliestOf 20 = .ok (.istore 5, 2) := by decide +kernel
theorem dX1_likeliestOf_22 : decode cX1_likeliestOf 22 = .ok (.iconst (-1), 1) := by decide +kernel
theorem dX1_likeliestOf_23 : decode cX1_likeliestOf 23 = .ok (.istore 6, 2) := by decide +kernel
theorem dX1_likeliestOf_25 : decode cX1_likeliestOf 25 = .ok (.iconst 0, 1) := by decide +kernel
theorem dX1_likeliestOf_26 : decode cX1_likeliestOf 26 = .ok (.istore 7, 2) := by decide +kernel
theorem dX1_likeliestOf_28 : decode cX1_likeliestOf 28 = .ok (.aload_n 0, 1) := by decide +kernel
theorem dX1_likeliestOf_29 : decode cX1_likeliestOf 29 = .ok (.getfield 22, 3) := by decide +kernel
theorem dX1_likeliestOf_32 : decode cX1_likeliestOf 32 = .ok (.iload_n 1, 1) := by decide +kernel
theorem dX1_likeliestOf_33 : decode cX1_likeliestOf 33 = .ok (.iload 4, 2) := by decide +kernel
theorem dX1_likeliestOf_35 : decode cX1_likeliestOf 35 = .ok (.iload 5, 2) := by decide +kernel
theorem dX1_likeliestOf_37 : decode cX1_likeliestOf 37 = .ok (.invokevirtual 186, 3) := by decide +kernel
theorem dX1_likeliestOf_40 : decode cX1_likeliestOf 40 = .ok (.istore 8, 2) := by decide +kernel
theorem dX1_likeliestOf_42 : decode cX1_likeliestOf 42 = .ok (.iload 4, 2) := by decide +kernel
theorem dX1_likeliestOf_44 : decode cX1_likeliestOf 44 = .ok (.iconst 1, 1) := by decide +kernel
theorem dX1_likeliestOf_45 : decode cX1_likeliestOf 45 = .ok (.iadd, 1) := by decide +kernel
theorem dX1_likeliestOf_46 : decode cX1_likeliestOf 46 = .ok (.istore 9, 2) := by decide +kernel
theorem dX1_likeliestOf_48 : decode cX1_likeliestOf 48 = .ok (.iload 9, 2) := by decide +kernel
theorem dX1_likeliestOf_50 : decode cX1_likeliestOf 50 = .ok (.iload 5, 2) := by decide +kernel
theorem dX1_likeliestOf_52 : decode cX1_likeliestOf 52 = .ok (.if_icmp .gt 55, 3) := by decide +kernel
theorem dX1_likeliestOf_55 : decode cX1_likeliestOf 55 = .ok (.iload 8, 2) := by decide +kernel
theorem dX1_likeliestOf_57 : decode cX1_likeliestOf 57 = .ok (.aload_n 0, 1) := by decide +kernel
theorem dX1_likeliestOf_58 : decode cX1_likeliestOf 58 = .ok (.getfield 22, 3) := by decide +kernel
theorem dX1_likeliestOf_61 : decode cX1_likeliestOf 61 = .ok (.iload_n 1, 1) := by decide +kernel
theorem dX1_likeliestOf_62 : decode cX1_likeliestOf 62 = .ok (.iload 9, 2) := by decide +kernel
theorem dX1_likeliestOf_64 : decode cX1_likeliestOf 64 = .ok (.iconst 1, 1) := by decide +kernel
theorem dX1_likeliestOf_65 : decode cX1_likeliestOf 65 = .ok (.isub, 1) := by decide +kernel
theorem dX1_likeliestOf_66 : decode cX1_likeliestOf 66 = .ok (.invokevirtual 190, 3) := by decide +kernel
theorem dX1_likeliestOf_69 : decode cX1_likeliestOf 69 = .ok (.iadd, 1) := by decide +kernel
theorem dX1_likeliestOf_70 : decode cX1_likeliestOf 70 = .ok (.istore 8, 2) := by decide +kernel
theorem dX1_likeliestOf_72 : decode cX1_likeliestOf 72 = .ok (.lload_n 2, 1) := by decide +kernel
theorem dX1_likeliestOf_73 : decode cX1_likeliestOf 73 = .ok (.iload 9, 2) := by decide +kernel
theorem dX1_likeliestOf_75 : decode cX1_likeliestOf 75 = .ok (.invokestatic 157, 3) := by decide +kernel
theorem dX1_likeliestOf_78 : decode cX1_likeliestOf 78 = .ok (.ifCond .eq 23, 3) := by decide +kernel
theorem dX1_likeliestOf_81 : decode cX1_likeliestOf 81 = .ok (.iload 6, 2) := by decide +kernel
theorem dX1_likeliestOf_83 : decode cX1_likeliestOf 83 = .ok (.ifCond .lt 10, 3) := by decide +kernel
theorem dX1_likeliestOf_86 : decode cX1_likeliestOf 86 = .ok (.iload 8, 2) := by decide +kernel
theorem dX1_likeliestOf_88 : decode cX1_likeliestOf 88 = .ok (.iload 7, 2) := by decide +kernel
theorem dX1_likeliestOf_90 : decode cX1_likeliestOf 90 = .ok (.if_icmp .ge 11, 3) := by decide +kernel
theorem dX1_likeliestOf_93 : decode cX1_likeliestOf 93 = .ok (.iload 9, 2) := by decide +kernel
theorem dX1_likeliestOf_95 : decode cX1_likeliestOf 95 = .ok (.istore 6, 2) := by decide +kernel
theorem dX1_likeliestOf_97 : decode cX1_likeliestOf 97 = .ok (.iload 8, 2) := by decide +kernel
theorem dX1_likeliestOf_99 : decode cX1_likeliestOf 99 = .ok (.istore 7, 2) := by decide +kernel
theorem dX1_likeliestOf_101 : decode cX1_likeliestOf 101 = .ok (.iinc 9 1, 3) := by decide +kernel
theorem dX1_likeliestOf_104 : decode cX1_likeliestOf 104 = .ok (.goto (-56), 3) := by decide +kernel
theorem dX1_likeliestOf_107 : decode cX1_likeliestOf 107 = .ok (.iload 6, 2) := by decide +kernel
theorem dX1_likeliestOf_109 : decode cX1_likeliestOf 109 = .ok (.ireturn, 1) := by decide +kernel
theorem dX1_weightAt_0 : decode cX1_weightAt 0 = .ok (.lload_n 0, 1) := by decide +kernel
theorem dX1_weightAt_1 : decode cX1_weightAt 1 = .ok (.iload_n 2, 1) := by decide +kernel
theorem dX1_weightAt_2 : decode cX1_weightAt 2 = .ok (.iconst 1, 1) := by decide +kernel
theorem dX1_weightAt_3 : decode cX1_weightAt 3 = .ok (.iadd, 1) := by decide +kernel
theorem dX1_weightAt_4 : decode cX1_weightAt 4 = .ok (.lshr, 1) := by decide +kernel
theorem dX1_weightAt_5 : decode cX1_weightAt 5 = .ok (.invokestatic 110, 3) := by decide +kernel
theorem dX1_weightAt_8 : decode cX1_weightAt 8 = .ok (.istore_n 3, 1) := by decide +kernel
theorem dX1_weightAt_9 : decode cX1_weightAt 9 = .ok (.lload_n 0, 1) := by decide +kernel
theorem dX1_weightAt_10 : decode cX1_weightAt 10 = .ok (.invokestatic 110, 3) := by decide +kernel
theorem dX1_weightAt_13 : decode cX1_weightAt 13 = .ok (.iload_n 3, 1) := by decide +kernel
theorem dX1_weightAt_14 : decode cX1_weightAt 14 = .ok (.isub, 1) := by decide +kernel
theorem dX1_weightAt_15 : decode cX1_weightAt 15 = .ok (.istore 4, 2) := by decide +kernel
theorem dX1_weightAt_17 : decode cX1_weightAt 17 = .ok (.iload 4, 2) := by decide +kernel
theorem dX1_weightAt_19 : decode cX1_weightAt 19 = .ok (.iload_n 3, 1) := by decide +kernel
theorem dX1_weightAt_20 : decode cX1_weightAt 20 = .ok (.invokestatic 181, 3) := by decide +kernel
theorem dX1_weightAt_23 : decode cX1_weightAt 23 = .ok (.ireturn, 1) := by decide +kernel
theorem dX1_firstInQueue_0 : decode cX1_firstInQueue 0 = .ok (.iconst 0, 1) := by decide +kernel
theorem dX1_firstInQueue_1 : decode cX1_firstInQueue 1 = .ok (.istore_n 1, 1) := by decide +kernel
theorem dX1_firstInQueue_2 : decode cX1_firstInQueue 2 = .ok (.iload_n 1, 1) := by decide +kernel
theorem dX1_firstInQueue_3 : decode cX1_firstInQueue 3 = .ok (.aload_n 0, 1) := by decide +kernel
theorem dX1_firstInQueue_4 : decode cX1_firstInQueue 4 = .ok (.getfield 46, 3) := by decide +kernel
theorem dX1_firstInQueue_7 : decode cX1_firstInQueue 7 = .ok (.if_icmp .ge 21, 3) := by decide +kernel
theorem dX1_firstInQueue_10 : decode cX1_firstInQueue 10 = .ok (.aload_n 0, 1) := by decide +kernel
theorem dX1_firstInQueue_11 : decode cX1_firstInQueue 11 = .ok (.getfield 36, 3) := by decide +kernel
theorem dX1_firstInQueue_14 : decode cX1_firstInQueue 14 = .ok (.iload_n 1, 1) := by decide +kernel
theorem dX1_firstInQueue_15 : decode cX1_firstInQueue 15 = .ok (.iaload, 1) := by decide +kernel
theorem dX1_firstInQueue_16 : decode cX1_firstInQueue 16 = .ok (.iconst 1, 1) := by decide +kernel
theorem dX1_firstInQueue_17 : decode cX1_firstInQueue 17 = .ok (.if_icmp .ne 5, 3) := by decide +kernel
theorem dX1_firstInQueue_20 : decode cX1_firstInQueue 20 = .ok (.iload_n 1, 1) := by decide +kernel
theorem dX1_firstInQueue_21 : decode cX1_firstInQueue 21 = .ok (.ireturn, 1) := by decide +kernel
theorem dX1_firstInQueue_22 : decode cX1_firstInQueue 22 = .ok (.iinc 1 1, 3) := by decide +kernel
theorem dX1_firstInQueue_25 : decode cX1_firstInQueue 25 = .ok (.goto (-23), 3) := by decide +kernel
theorem dX1_firstInQueue_28 : decode cX1_firstInQueue 28 = .ok (.iconst (-1), 1) := by decide +kernel
theorem dX1_firstInQueue_29 : decode cX1_firstInQueue 29 = .ok (.ireturn, 1) := by decide +kernel
theorem dX1_joinQueue_0 : decode cX1_joinQueue 0 = .ok (.aload_n 0, 1) := by decide +kernel
theorem dX1_joinQueue_1 : decode cX1_joinQueue 1 = .ok (.dup, 1) := by decide +kernel
theorem dX1_joinQueue_2 : decode cX1_joinQueue 2 = .ok (.getfield 39, 3) := by decide +kernel
theorem dX1_joinQueue_5 : decode cX1_joinQueue 5 = .ok (.iconst 1, 1) := by decide +kernel
theorem dX1_joinQueue_6 : decode cX1_joinQueue 6 = .ok (.iadd, 1) := by decide +kernel
theorem dX1_joinQueue_7 : decode cX1_joinQueue 7 = .ok (.putfield 39, 3) := by decide +kernel
theorem dX1_joinQueue_10 : decode cX1_joinQueue 10 = .ok (.aload_n 0, 1) := by decide +kernel
theorem dX1_joinQueue_11 : decode cX1_joinQueue 11 = .ok (.getfield 36, 3) := by decide +kernel
theorem dX1_joinQueue_14 : decode cX1_joinQueue 14 = .ok (.iload_n 1, 1) := by decide +kernel
theorem dX1_joinQueue_15 : decode cX1_joinQueue 15 = .ok (.aload_n 0, 1) := by decide +kernel
theorem dX1_joinQueue_16 : decode cX1_joinQueue 16 = .ok (.getfield 39, 3) := by decide +kernel
theorem dX1_joinQueue_19 : decode cX1_joinQueue 19 = .ok (.iastore, 1) := by decide +kernel
theorem dX1_joinQueue_20 : decode cX1_joinQueue 20 = .ok (.return_, 1) := by decide +kernel
theorem dX1_leaveQueue_0 : decode cX1_leaveQueue 0 = .ok (.aload_n 0, 1) := by decide +kernel
theorem dX1_leaveQueue_1 : decode cX1_leaveQueue 1 = .ok (.getfield 36, 3) := by decide +kernel
theorem dX1_leaveQueue_4 : decode cX1_leaveQueue 4 = .ok (.iload_n 1, 1) := by decide +kernel
theorem dX1_leaveQueue_5 : decode cX1_leaveQueue 5 = .ok (.iaload, 1) := by decide +kernel
theorem dX1_leaveQueue_6 : decode cX1_leaveQueue 6 = .ok (.istore_n 2, 1) := by decide +kernel
theorem dX1_leaveQueue_7 : decode cX1_leaveQueue 7 = .ok (.iload_n 2, 1) := by decide +kernel
theorem dX1_leaveQueue_8 : decode cX1_leaveQueue 8 = .ok (.ifCond .ne 4, 3) := by decide +kernel
theorem dX1_leaveQueue_11 : decode cX1_leaveQueue 11 = .ok (.return_, 1) := by decide +kernel
theorem dX1_leaveQueue_12 : decode cX1_leaveQueue 12 = .ok (.iconst 0, 1) := by decide +kernel
theorem dX1_leaveQueue_13 : decode cX1_leaveQueue 13 = .ok (.istore_n 3, 1) := by decide +kernel
theorem dX1_leaveQueue_14 : decode cX1_leaveQueue 14 = .ok (.iload_n 3, 1) := by decide +kernel
theorem dX1_leaveQueue_15 : decode cX1_leaveQueue 15 = .ok (.aload_n 0, 1) := by decide +kernel
theorem dX1_leaveQueue_16 : decode cX1_leaveQueue 16 = .ok (.getfield 46, 3) := by decide +kernel
theorem dX1_leaveQueue_19 : decode cX1_leaveQueue 19 = .ok (.if_icmp .ge 29, 3) := by decide +kernel
theorem dX1_leaveQueue_22 : decode cX1_leaveQueue 22 = .ok (.aload_n 0, 1) := by decide +kernel
theorem dX1_leaveQueue_23 : decode cX1_leaveQueue 23 = .ok (.getfield 36, 3) := by decide +kernel
theorem dX1_leaveQueue_26 : decode cX1_leaveQueue 26 = .ok (.iload_n 3, 1) := by decide +kernel
theorem dX1_leaveQueue_27 : decode cX1_leaveQueue 27 = .ok (.iaload, 1) := by decide +kernel
theorem dX1_leaveQueue_28 : decode cX1_leaveQueue 28 = .ok (.iload_n 2, 1) := by decide +kernel
theorem dX1_leaveQueue_29 : decode cX1_leaveQueue 29 = .ok (.if_icmp .le 13, 3) := by decide +kernel
theorem dX1_leaveQueue_32 : decode cX1_leaveQueue 32 = .ok (.aload_n 0, 1) := by decide +kernel
theorem dX1_leaveQueue_33 : decode cX1_leaveQueue 33 = .ok (.getfield 36, 3) := by decide +kernel
theorem dX1_leaveQueue_36 : decode cX1_leaveQueue 36 = .ok (.iload_n 3, 1) := by decide +kernel
theorem dX1_leaveQueue_37 : decode cX1_leaveQueue 37 = .ok (.dup2, 1) := by decide +kernel
theorem dX1_leaveQueue_38 : decode cX1_leaveQueue 38 = .ok (.iaload, 1) := by decide +kernel
theorem dX1_leaveQueue_39 : decode cX1_leaveQueue 39 = .ok (.iconst 1, 1) := by decide +kernel
theorem dX1_leaveQueue_40 : decode cX1_leaveQueue 40 = .ok (.isub, 1) := by decide +kernel
theorem dX1_leaveQueue_41 : decode cX1_leaveQueue 41 = .ok (.iastore, 1) := by decide +kernel
theorem dX1_leaveQueue_42 : decode cX1_leaveQueue 42 = .ok (.iinc 3 1, 3) := by decide +kernel
theorem dX1_leaveQueue_45 : decode cX1_leaveQueue 45 = .ok (.goto (-31), 3) := by decide +kernel
theorem dX1_leaveQueue_48 : decode cX1_leaveQueue 48 = .ok (.aload_n 0, 1) := by decide +kernel
theorem dX1_leaveQueue_49 : decode cX1_leaveQueue 49 = .ok (.getfield 36, 3) := by decide +kernel
theorem dX1_leaveQueue_52 : decode cX1_leaveQueue 52 = .ok (.iload_n 1, 1) := by decide +kernel
theorem dX1_leaveQueue_53 : decode cX1_leaveQueue 53 = .ok (.iconst 0, 1) := by decide +kernel
theorem dX1_leaveQueue_54 : decode cX1_leaveQueue 54 = .ok (.iastore, 1) := by decide +kernel
theorem dX1_leaveQueue_55 : decode cX1_leaveQueue 55 = .ok (.aload_n 0, 1) := by decide +kernel
theorem dX1_leaveQueue_56 : decode cX1_leaveQueue 56 = .ok (.dup, 1) := by decide +kernel
theorem dX1_leaveQueue_57 : decode cX1_leaveQueue 57 = .ok (.getfield 39, 3) := by decide +kernel
theorem dX1_leaveQueue_60 : decode cX1_leaveQueue 60 = .ok (.iconst 1, 1) := by decide +kernel
theorem dX1_leaveQueue_61 : decode cX1_leaveQueue 61 = .ok (.isub, 1) := by decide +kernel
theorem dX1_leaveQueue_62 : decode cX1_leaveQueue 62 = .ok (.putfield 39, 3) := by decide +kernel
theorem dX1_leaveQueue_65 : decode cX1_leaveQueue 65 = .ok (.return_, 1) := by decide +kernel
theorem dJ13_bitCount_95d88_0 : decode cJ13_bitCount_95d88 0 = .ok (.lload_n 0, 1) := by decide +kernel
theorem dJ13_bitCount_95d88_1 : decode cJ13_bitCount_95d88 1 = .ok (.lload_n 0, 1) := by decide +kernel
theorem dJ13_bitCount_95d88_2 : decode cJ13_bitCount_95d88 2 = .ok (.iconst 1, 1) := by decide +kernel
theorem dJ13_bitCount_95d88_3 : decode cJ13_bitCount_95d88 3 = .ok (.lushr, 1) := by decide +kernel
theorem dJ13_bitCount_95d88_4 : decode cJ13_bitCount_95d88 4 = .ok (.ldc2_w 314, 3) := by decide +kernel
theorem dJ13_bitCount_95d88_7 : decode cJ13_bitCount_95d88 7 = .ok (.land, 1) := by decide +kernel
theorem dJ13_bitCount_95d88_8 : decode cJ13_bitCount_95d88 8 = .ok (.lsub, 1) := by decide +kernel
theorem dJ13_bitCount_95d88_9 : decode cJ13_bitCount_95d88 9 = .ok (.lstore_n 0, 1) := by decide +kernel
theorem dJ13_bitCount_95d88_10 : decode cJ13_bitCount_95d88 10 = .ok (.lload_n 0, 1) := by decide +kernel
theorem dJ13_bitCount_95d88_11 : decode cJ13_bitCount_95d88 11 = .ok (.ldc2_w 316, 3) := by decide +kernel
theorem dJ13_bitCount_95d88_14 : decode cJ13_bitCount_95d88 14 = .ok (.land, 1) := by decide +kernel
theorem dJ13_bitCount_95d88_15 : decode cJ13_bitCount_95d88 15 = .ok (.lload_n 0, 1) := by decide +kernel
theorem dJ13_bitCount_95d88_16 : decode cJ13_bitCount_95d88 16 = .ok (.iconst 2, 1) := by decide +kernel
theorem dJ13_bitCount_95d88_17 : decode cJ13_bitCount_95d88 17 = .ok (.lushr, 1) := by decide +kernel
theorem dJ13_bitCount_95d88_18 : decode cJ13_bitCount_95d88 18 = .ok (.ldc2_w 316, 3) := by decide +kernel
theorem dJ13_bitCount_95d88_21 : decode cJ13_bitCount_95d88 21 = .ok (.land, 1) := by decide +kernel
theorem dJ13_bitCount_95d88_22 : decode cJ13_bitCount_95d88 22 = .ok (.ladd, 1) := by decide +kernel
theorem dJ13_bitCount_95d88_23 : decode cJ13_bitCount_95d88 23 = .ok (.lstore_n 0, 1) := by decide +kernel
theorem dJ13_bitCount_95d88_24 : decode cJ13_bitCount_95d88 24 = .ok (.lload_n 0, 1) := by decide +kernel
theorem dJ13_bitCount_95d88_25 : decode cJ13_bitCount_95d88 25 = .ok (.lload_n 0, 1) := by decide +kernel
theorem dJ13_bitCount_95d88_26 : decode cJ13_bitCount_95d88 26 = .ok (.iconst 4, 1) := by decide +kernel
theorem dJ13_bitCount_95d88_27 : decode cJ13_bitCount_95d88 27 = .ok (.lushr, 1) := by decide +kernel
theorem dJ13_bitCount_95d88_28 : decode cJ13_bitCount_95d88 28 = .ok (.ladd, 1) := by decide +kernel
theorem dJ13_bitCount_95d88_29 : decode cJ13_bitCount_95d88 29 = .ok (.ldc2_w 318, 3) := by decide +kernel
theorem dJ13_bitCount_95d88_32 : decode cJ13_bitCount_95d88 32 = .ok (.land, 1) := by decide +kernel
theorem dJ13_bitCount_95d88_33 : decode cJ13_bitCount_95d88 33 = .ok (.lstore_n 0, 1) := by decide +kernel
theorem dJ13_bitCount_95d88_34 : decode cJ13_bitCount_95d88 34 = .ok (.lload_n 0, 1) := by decide +kernel
theorem dJ13_bitCount_95d88_35 : decode cJ13_bitCount_95d88 35 = .ok (.lload_n 0, 1) := by decide +kernel
theorem dJ13_bitCount_95d88_36 : decode cJ13_bitCount_95d88 36 = .ok (.bipush 8, 2) := by decide +kernel
theorem dJ13_bitCount_95d88_38 : decode cJ13_bitCount_95d88 38 = .ok (.lushr, 1) := by decide +kernel
theorem dJ13_bitCount_95d88_39 : decode cJ13_bitCount_95d88 39 = .ok (.ladd, 1) := by decide +kernel
theorem dJ13_bitCount_95d88_40 : decode cJ13_bitCount_95d88 40 = .ok (.lstore_n 0, 1) := by decide +kernel
theorem dJ13_bitCount_95d88_41 : decode cJ13_bitCount_95d88 41 = .ok (.lload_n 0, 1) := by decide +kernel
theorem dJ13_bitCount_95d88_42 : decode cJ13_bitCount_95d88 42 = .ok (.lload_n 0, 1) := by decide +kernel
theorem dJ13_bitCount_95d88_43 : decode cJ13_bitCount_95d88 43 = .ok (.bipush 16, 2) := by decide +kernel
theorem dJ13_bitCount_95d88_45 : decode cJ13_bitCount_95d88 45 = .ok (.lushr, 1) := by decide +kernel
theorem dJ13_bitCount_95d88_46 : decode cJ13_bitCount_95d88 46 = .ok (.ladd, 1) := by decide +kernel
theorem dJ13_bitCount_95d88_47 : decode cJ13_bitCount_95d88 47 = .ok (.lstore_n 0, 1) := by decide +kernel
theorem dJ13_bitCount_95d88_48 : decode cJ13_bitCount_95d88 48 = .ok (.lload_n 0, 1) := by decide +kernel
theorem dJ13_bitCount_95d88_49 : decode cJ13_bitCount_95d88 49 = .ok (.lload_n 0, 1) := by decide +kernel
theorem dJ13_bitCount_95d88_50 : decode cJ13_bitCount_95d88 50 = .ok (.bipush 32, 2) := by decide +kernel
theorem dJ13_bitCount_95d88_52 : decode cJ13_bitCount_95d88 52 = .ok (.lushr, 1) := by decide +kernel
theorem dJ13_bitCount_95d88_53 : decode cJ13_bitCount_95d88 53 = .ok (.ladd, 1) := by decide +kernel
theorem dJ13_bitCount_95d88_54 : decode cJ13_bitCount_95d88 54 = .ok (.lstore_n 0, 1) := by decide +kernel
theorem dJ13_bitCount_95d88_55 : decode cJ13_bitCount_95d88 55 = .ok (.lload_n 0, 1) := by decide +kernel
theorem dJ13_bitCount_95d88_56 : decode cJ13_bitCount_95d88 56 = .ok (.l2i, 1) := by decide +kernel
theorem dJ13_bitCount_95d88_57 : decode cJ13_bitCount_95d88 57 = .ok (.bipush 127, 2) := by decide +kernel
theorem dJ13_bitCount_95d88_59 : decode cJ13_bitCount_95d88 59 = .ok (.iand, 1) := by decide +kernel
theorem dJ13_bitCount_95d88_60 : decode cJ13_bitCount_95d88 60 = .ok (.ireturn, 1) := by decide +kernel
theorem dJ9_max_7cf53_0 : decode cJ9_max_7cf53 0 = .ok (.iload_n 0, 1) := by decide +kernel
theorem dJ9_max_7cf53_1 : decode cJ9_max_7cf53 1 = .ok (.iload_n 1, 1) := by decide +kernel
theorem dJ9_max_7cf53_2 : decode cJ9_max_7cf53 2 = .ok (.if_icmp .lt 7, 3) := by decide +kernel
theorem dJ9_max_7cf53_5 : decode cJ9_max_7cf53 5 = .ok (.iload_n 0, 1) := by decide +kernel
theorem dJ9_max_7cf53_6 : decode cJ9_max_7cf53 6 = .ok (.goto 4, 3) := by decide +kernel
theorem dJ9_max_7cf53_9 : decode cJ9_max_7cf53 9 = .ok (.iload_n 1, 1) := by decide +kernel
theorem dJ9_max_7cf53_10 : decode cJ9_max_7cf53 10 = .ok (.ireturn, 1) := by decide +kernel
