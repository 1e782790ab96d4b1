theorem dX0_init_0 : decode cX0_init 0 = .ok (.aload_n 0, 1) := by decide +kernel
theorem dX0_init_1 : decode cX0_init 1 = .ok (.invokespecial 3, 3) := by decide +kernel
theorem dX0_init_4 : decode cX0_init 4 = .ok (.aload_n 0, 1) := by decide +kernel
theorem dX0_init_5 : decode cX0_init 5 = .ok (.sipush 256, 3) := by decide +kernel
theorem dX0_init_8 : decode cX0_init 8 = .ok (.newarray .boolean, 2) := by decide +kernel
theorem dX0_init_10 : decode cX0_init 10 = .ok (.putfield 9, 3) := by decide +kernel
theorem dX0_init_13 : decode cX0_init 13 = .ok (.aload_n 0, 1) := by decide +kernel
theorem dX0_init_14 : decode cX0_init 14 = .ok (.bipush 16, 2) := by decide +kernel
theorem dX0_init_16 : decode cX0_init 16 = .ok (.anewarray 15, 3) := by decide +kernel
theorem dX0_init_19 : decode cX0_init 19 = .ok (.putfield 17, 3) := by decide +kernel
theorem dX0_init_22 : decode cX0_init 22 = .ok (.aload_n 0, 1) := by decide +kernel
theorem dX0_init_23 : decode cX0_init 23 = .ok (.new 21, 3) := by decide +kernel
theorem dX0_init_26 : decode cX0_init 26 = .ok (.dup, 1) := by decide +kernel
theorem dX0_init_27 : decode cX0_init 27 = .ok (.invokespecial 23, 3) := by decide +kernel
theorem dX0_init_30 : decode cX0_init 30 = .ok (.putfield 24, 3) := by decide +kernel
theorem dX0_init_33 : decode cX0_init 33 = .ok (.aload_n 0, 1) := by decide +kernel
theorem dX0_init_34 : decode cX0_init 34 = .ok (.new 21, 3) := by decide +kernel
theorem dX0_init_37 : decode cX0_init 37 = .ok (.dup, 1) := by decide +kernel
theorem dX0_init_38 : decode cX0_init 38 = .ok (.invokespecial 23, 3) := by decide +kernel
theorem dX0_init_41 : decode cX0_init 41 = .ok (.putfield 28, 3) := by decide +kernel
theorem dX0_init_44 : decode cX0_init 44 = .ok (.aload_n 0, 1) := by decide +kernel
theorem dX0_init_45 : decode cX0_init 45 = .ok (.iconst 0, 1) := by decide +kernel
theorem dX0_init_46 : decode cX0_init 46 = .ok (.putfield 31, 3) := by decide +kernel
theorem dX0_init_49 : decode cX0_init 49 = .ok (.iconst 0, 1) := by decide +kernel
theorem dX0_init_50 : decode cX0_init 50 = .ok (.istore_n 1, 1) := by decide +kernel
theorem dX0_init_51 : decode cX0_init 51 = .ok (.iload_n 1, 1) := by decide +kernel
theorem dX0_init_52 : decode cX0_init 52 = .ok (.bipush 16, 2) := by decide +kernel
theorem dX0_init_54 : decode cX0_init 54 = .ok (.if_icmp .ge 22, 3) := by decide +kernel
theorem dX0_init_57 : decode cX0_init 57 = .ok (.aload_n 0, 1) := by decide +kernel
theorem dX0_init_58 : decode cX0_init 58 = .ok (.getfield 17, 3) := by decide +kernel
theorem dX0_init_61 : decode cX0_init 61 = .ok (.iload_n 1, 1) := by decide +kernel
theorem dX0_init_62 : decode cX0_init 62 = .ok (.new 15, 3) := by decide +kernel
theorem dX0_init_65 : decode cX0_init 65 = .ok (.dup, 1) := by decide +kernel
theorem dX0_init_66 : decode cX0_init 66 = .ok (.invokespecial 35, 3) := by decide +kernel
theorem dX0_init_69 : decode cX0_init 69 = .ok (.aastore, 1) := by decide +kernel
theorem dX0_init_70 : decode cX0_init 70 = .ok (.iinc 1 1, 3) := by decide +kernel
theorem dX0_init_73 : decode cX0_init 73 = .ok (.goto (-22), 3) := by decide +kernel
theorem dX0_init_76 : decode cX0_init 76 = .ok (.return_, 1) := by decide +kernel
theorem dX0_forget_0 : decode cX0_forget 0 = .ok (.aload_n 0, 1) := by decide +kernel
theorem dX0_forget_1 : decode cX0_forget 1 = .ok (.iconst 0, 1) := by decide +kernel
theorem dX0_forget_2 : decode cX0_forget 2 = .ok (.putfield 31, 3) := by decide +kernel
theorem dX0_forget_5 : decode cX0_forget 5 = .ok (.return_, 1) := by decide +kernel
theorem dX0_learn_0 : decode cX0_learn 0 = .ok (.aload_n 0, 1) := by decide +kernel
theorem dX0_learn_1 : decode cX0_learn 1 = .ok (.getfield 31, 3) := by decide +kernel
theorem dX0_learn_4 : decode cX0_learn 4 = .ok (.ifCond .eq 4, 3) := by decide +kernel
theorem dX0_learn_7 : decode cX0_learn 7 = .ok (.return_, 1) := by decide +kernel
theorem dX0_learn_8 : decode cX0_learn 8 = .ok (.aload_n 3, 1) := by decide +kernel
theorem dX0_learn_9 : decode cX0_learn 9 = .ok (.getfield 36, 3) := by decide +kernel
theorem dX0_learn_12 : decode cX0_learn 12 = .ok (.bipush (-9), 2) := by decide +kernel
theorem dX0_learn_14 : decode cX0_learn 14 = .ok (.iand, 1) := by decide +kernel
theorem dX0_learn_15 : decode cX0_learn 15 = .ok (.istore 4, 2) := by decide +kernel
theorem dX0_learn_17 : decode cX0_learn 17 = .ok (.aload_n 2, 1) := by decide +kernel
theorem dX0_learn_18 : decode cX0_learn 18 = .ok (.iload 4, 2) := by decide +kernel
theorem dX0_learn_20 : decode cX0_learn 20 = .ok (.invokevirtual 42, 3) := by decide +kernel
theorem dX0_learn_23 : decode cX0_learn 23 = .ok (.istore 5, 2) := by decide +kernel
theorem dX0_learn_25 : decode cX0_learn 25 = .ok (.iconst 0, 1) := by decide +kernel
theorem dX0_learn_26 : decode cX0_learn 26 = .ok (.istore 6, 2) := by decide +kernel
theorem dX0_learn_28 : decode cX0_learn 28 = .ok (.iload 6, 2) := by decide +kernel
theorem dX0_learn_30 : decode cX0_learn 30 = .ok (.sipush 256, 3) := by decide +kernel
theorem dX0_learn_33 : decode cX0_learn 33 = .ok (.if_icmp .ge 17, 3) := by decide +kernel
theorem dX0_learn_36 : decode cX0_learn 36 = .ok (.aload_n 0, 1) := by decide +kernel
theorem dX0_learn_37 : decode cX0_learn 37 = .ok (.getfield 9, 3) := by decide +kernel
theorem dX0_learn_40 : decode cX0_learn 40 = .ok (.iload 6, 2) := by decide +kernel
theorem dX0_learn_42 : decode cX0_learn 42 = .ok (.iconst 1, 1) := by decide +kernel
theorem dX0_learn_43 : decode cX0_learn 43 = .ok (.bastore, 1) := by decide +kernel
theorem dX0_learn_44 : decode cX0_learn 44 = .ok (.iinc 6 1, 3) := by decide +kernel
theorem dX0_learn_47 : decode cX0_learn 47 = .ok (.goto (-19), 3) := by decide +kernel
theorem dX0_learn_50 : decode cX0_learn 50 = .ok (.iconst 0, 1) := by decide +kernel
theorem dX0_learn_51 : decode cX0_learn 51 = .ok (.istore 6, 2) := by decide +kernel
theorem dX0_learn_53 : decode cX0_learn 53 = .ok (.iload 6, 2) := by decide +kernel
theorem dX0_learn_55 : decode cX0_learn 55 = .ok (.bipush 16, 2) := by decide +kernel
theorem dX0_learn_57 : decode cX0_learn 57 = .ok (.if_icmp .ge 36, 3) := by decide +kernel
theorem dX0_learn_60 : decode cX0_learn 60 = .ok (.aload_n 0, 1) := by decide +kernel
theorem dX0_learn_61 : decode cX0_learn 61 = .ok (.aload_n 1, 1) := by decide +kernel
theorem dX0_learn_62 : decode cX0_learn 62 = .ok (.aload_n 2, 1) := by decide +kernel
theorem dX0_learn_63 : decode cX0_learn 63 = .ok (.aload_n 3, 1) := by decide +kernel
theorem dX0_learn_64 : decode cX0_learn 64 = .ok (.iload 6, 2) := by decide +kernel
theorem dX0_learn_66 : decode cX0_learn 66 = .ok (.invokevirtual 48, 3) := by decide +kernel
theorem dX0_learn_69 : decode cX0_learn 69 = .ok (.istore 7, 2) := by decide +kernel
theorem dX0_learn_71 : decode cX0_learn 71 = .ok (.iload 7, 2) := by decide +kernel
theorem dX0_learn_73 : decode cX0_learn 73 = .ok (.iconst 1, 1) := by decide +kernel
theorem dX0_learn_74 : decode cX0_learn 74 = .ok (.if_icmp .le 13, 3) := by decide +kernel
theorem dX0_learn_77 : decode cX0_learn 77 = .ok (.aload_n 0, 1) := by decide +kernel
theorem dX0_learn_78 : decode cX0_learn 78 = .ok (.iload 7, 2) := by decide +kernel
theorem dX0_learn_80 : decode cX0_learn 80 = .ok (.iload 4, 2) := by decide +kernel
theorem dX0_learn_82 : decode cX0_learn 82 = .ok (.iload 5, 2) := by decide +kernel
theorem dX0_learn_84 : decode cX0_learn 84 = .ok (.invokevirtual 52, 3) := by decide +kernel
theorem dX0_learn_87 : decode cX0_learn 87 = .ok (.iinc 6 1, 3) := by decide +kernel
theorem dX0_learn_90 : decode cX0_learn 90 = .ok (.goto (-37), 3) := by decide +kernel
theorem dX0_learn_93 : decode cX0_learn 93 = .ok (.iconst 0, 1) := by decide +kernel
theorem dX0_learn_94 : decode cX0_learn 94 = .ok (.istore 6, 2) := by decide +kernel
theorem dX0_learn_96 : decode cX0_learn 96 = .ok (.iload 6, 2) := by decide +kernel
theorem dX0_learn_98 : decode cX0_learn 98 = .ok (.sipush 256, 3) := by decide +kernel
theorem dX0_learn_101 : decode cX0_learn 101 = .ok (.if_icmp .ge 26, 3) := by decide +kernel
theorem dX0_learn_104 : decode cX0_learn 104 = .ok (.aload_n 0, 1) := by decide +kernel
theorem dX0_learn_105 : decode cX0_learn 105 = .ok (.getfield 9, 3) := by decide +kernel
theorem dX0_learn_108 : decode cX0_learn 108 = .ok (.iload 6, 2) := by decide +kernel
theorem dX0_learn_110 : decode cX0_learn 110 = .ok (.aload_n 0, 1) := by decide +kernel
theorem dX0_learn_111 : decode cX0_learn 111 = .ok (.getfield 9, 3) := by decide +kernel
theorem dX0_learn_114 : decode cX0_learn 114 = .ok (.iload 6, 2) := by decide +kernel
theorem dX0_learn_116 : decode cX0_learn 116 = .ok (.iload 5, 2) := by decide +kernel
theorem dX0_learn_118 : decode cX0_learn 118 = .ok (.iand, 1) := by decide +kernel
theorem dX0_learn_119 : decode cX0_learn 119 = .ok (.baload, 1) := by decide +kernel
theorem dX0_learn_120 : decode cX0_learn 120 = .ok (.bastore, 1) := by decide +kernel
theorem dX0_learn_121 : decode cX0_learn 121 = .ok (.iinc 6 1, 3) := by decide +kernel
theorem dX0_learn_124 : decode cX0_learn 124 = .ok (.goto (-28), 3) := by decide +kernel
theorem dX0_learn_127 : decode cX0_learn 127 = .ok (.aload_n 0, 1) := by decide +kernel
theorem dX0_learn_128 : decode cX0_learn 128 = .ok (.iconst 1, 1) := by decide +kernel
theorem dX0_learn_129 : decode cX0_learn 129 = .ok (.putfield 31, 3) := by decide +kernel
theorem dX0_learn_132 : decode cX0_learn 132 = .ok (.return_, 1) := by decide +kernel
theorem dX0_gatherRuns_0 : decode cX0_gatherRuns 0 = .ok (.iconst 0, 1) := by decide +kernel
theorem dX0_gatherRuns_1 : decode cX0_gatherRuns 1 = .ok (.istore 5, 2) := by decide +kernel
theorem dX0_gatherRuns_3 : decode cX0_gatherRuns 3 = .ok (.iconst 0, 1) := by decide +kernel
theorem dX0_gatherRuns_4 : decode cX0_gatherRuns 4 = .ok (.istore 6, 2) := by decide +kernel
theorem dX0_gatherRuns_6 : decode cX0_gatherRuns 6 = .ok (.iload 6, 2) := by decide +kernel
theorem dX0_gatherRuns_8 : decode cX0_gatherRuns 8 = .ok (.bipush 16, 2) := by decide +kernel
theorem dX0_gatherRuns_10 : decode cX0_gatherRuns 10 = .ok (.if_icmp .ge 42, 3) := by decide +kernel
theorem dX0_gatherRuns_13 : decode cX0_gatherRuns 13 = .ok (.aload_n 1, 1) := by decide +kernel
theorem dX0_gatherRuns_14 : decode cX0_gatherRuns 14 = .ok (.aload_n 2, 1) := by decide +kernel
theorem dX0_gatherRuns_15 : decode cX0_gatherRuns 15 = .ok (.aload_n 3, 1) := by decide +kernel
theorem dX0_gatherRuns_16 : decode cX0_gatherRuns 16 = .ok (.iload 4, 2) := by decide +kernel
theorem dX0_gatherRuns_18 : decode cX0_gatherRuns 18 = .ok (.iload 6, 2) := by decide +kernel
theorem dX0_gatherRuns_20 : decode cX0_gatherRuns 20 = .ok (.aload_n 0, 1) := by decide +kernel
theorem dX0_gatherRuns_21 : decode cX0_gatherRuns 21 = .ok (.getfield 17, 3) := by decide +kernel
theorem dX0_gatherRuns_24 : decode cX0_gatherRuns 24 = .ok (.iload 5, 2) := by decide +kernel
theorem dX0_gatherRuns_26 : decode cX0_gatherRuns 26 = .ok (.aaload, 1) := by decide +kernel
theorem dX0_gatherRuns_27 : decode cX0_gatherRuns 27 = .ok (.invokevirtual 56, 3) := by decide +kernel
theorem dX0_gatherRuns_30 : decode cX0_gatherRuns 30 = .ok (.aload_n 0, 1) := by decide +kernel
theorem dX0_gatherRuns_31 : decode cX0_gatherRuns 31 = .ok (.iload 5, 2) := by decide +kernel
theorem dX0_gatherRuns_33 : decode cX0_gatherRuns 33 = .ok (.aload_n 3, 1) := by decide +kernel
theorem dX0_gatherRuns_34 : decode cX0_gatherRuns 34 = .ok (.getfield 36, 3) := by decide +kernel
theorem dX0_gatherRuns_37 : decode cX0_gatherRuns 37 = .ok (.invokevirtual 62, 3) := by decide +kernel
theorem dX0_gatherRuns_40 : decode cX0_gatherRuns 40 = .ok (.ifCond .eq 6, 3) := by decide +kernel
theorem dX0_gatherRuns_43 : decode cX0_gatherRuns 43 = .ok (.iinc 5 1, 3) := by decide +kernel
theorem dX0_gatherRuns_46 : decode cX0_gatherRuns 46 = .ok (.iinc 6 1, 3) := by decide +kernel
theorem dX0_gatherRuns_49 : decode cX0_gatherRuns 49 = .ok (.goto (-43), 3) := by decide +kernel
theorem dX0_gatherRuns_52 : decode cX0_gatherRuns 52 = .ok (.iload 5, 2) := by decide +kernel
theorem dX0_gatherRuns_54 : decode cX0_gatherRuns 54 = .ok (.ireturn, 1) := by decide +kernel
theorem dX0_isNew_0 : decode cX0_isNew 0 = .ok (.iconst 0, 1) := by decide +kernel
theorem dX0_isNew_1 : decode cX0_isNew 1 = .ok (.istore_n 3, 1) := by decide +kernel
theorem dX0_isNew_2 : decode cX0_isNew 2 = .ok (.iload_n 3, 1) := by decide +kernel
theorem dX0_isNew_3 : decode cX0_isNew 3 = .ok (.iload_n 1, 1) := by decide +kernel
theorem dX0_isNew_4 : decode cX0_isNew 4 = .ok (.if_icmp .ge 30, 3) := by decide +kernel
theorem dX0_isNew_7 : decode cX0_isNew 7 = .ok (.aload_n 0, 1) := by decide +kernel
theorem dX0_isNew_8 : decode cX0_isNew 8 = .ok (.getfield 17, 3) := by decide +kernel
theorem dX0_isNew_11 : decode cX0_isNew 11 = .ok (.iload_n 1, 1) := by decide +kernel
theorem dX0_isNew_12 : decode cX0_isNew 12 = .ok (.aaload, 1) := by decide +kernel
theorem dX0_isNew_13 : decode cX0_isNew 13 = .ok (.aload_n 0, 1) := by decide +kernel
theorem dX0_isNew_14 : decode cX0_isNew 14 = .ok (.getfield 17, 3) := by decide +kernel
theorem dX0_isNew_17 : decode cX0_isNew 17 = .ok (.iload_n 3, 1) := by decide +kernel
theorem dX0_isNew_18 : decode cX0_isNew 18 = .ok (.aaload, 1) := by decide +kernel
theorem dX0_isNew_19 : decode cX0_isNew 19 = .ok (.iload_n 2, 1) := by decide +kernel
theorem dX0_isNew_20 : decode cX0_isNew 20 = .ok (.invokevirtual 66, 3) := by decide +kernel
theorem dX0_isNew_23 : decode cX0_isNew 23 = .ok (.ifCond .eq 5, 3) := by decide +kernel
theorem dX0_isNew_26 : decode cX0_isNew 26 = .ok (.iconst 0, 1) := by decide +kernel
theorem dX0_isNew_27 : decode cX0_isNew 27 = .ok (.ireturn, 1) := by decide +kernel
theorem dX0_isNew_28 : decode cX0_isNew 28 = .ok (.iinc 3 1, 3) := by decide +kernel
theorem dX0_isNew_31 : decode cX0_isNew 31 = .ok (.goto (-29), 3) := by decide +kernel
theorem dX0_isNew_34 : decode cX0_isNew 34 = .ok (.iconst 1, 1) := by decide +kernel
theorem dX0_isNew_35 : decode cX0_isNew 35 = .ok (.ireturn, 1) := by decide +kernel
theorem dX0_sift_0 : decode cX0_sift 0 = .ok (.iconst 0, 1) := by decide +kernel
theorem dX0_sift_1 : decode cX0_sift 1 = .ok (.istore 4, 2) := by decide +kernel
theorem dX0_sift_3 : decode cX0_sift 3 = .ok (.iload 4, 2) := by decide +kernel
theorem dX0_sift_5 : decode cX0_sift 5 = .ok (.sipush 256, 3) := by decide +kernel
theorem dX0_sift_8 : decode cX0_sift 8 = .ok (.if_icmp .ge 43, 3) := by decide +kernel
theorem dX0_sift_11 : decode cX0_sift 11 = .ok (.iload 4, 2) := by decide +kernel
theorem dX0_sift_13 : decode cX0_sift 13 = .ok (.iload_n 3, 1) := by decide +kernel
theorem dX0_sift_14 : decode cX0_sift 14 = .ok (.iconst (-1), 1) := by decide +kernel
theorem dX0_sift_15 : decode cX0_sift 15 = .ok (.ixor, 1) := by decide +kernel
theorem dX0_sift_16 : decode cX0_sift 16 = .ok (.iand, 1) := by decide +kernel
theorem dX0_sift_17 : decode cX0_sift 17 = .ok (.ifCond .ne 28, 3) := by decide +kernel
theorem dX0_sift_20 : decode cX0_sift 20 = .ok (.aload_n 0, 1) := by decide +kernel
theorem dX0_sift_21 : decode cX0_sift 21 = .ok (.getfield 9, 3) := by decide +kernel
theorem dX0_sift_24 : decode cX0_sift 24 = .ok (.iload 4, 2) := by decide +kernel
theorem dX0_sift_26 : decode cX0_sift 26 = .ok (.baload, 1) := by decide +kernel
theorem dX0_sift_27 : decode cX0_sift 27 = .ok (.ifCond .eq 18, 3) := by decide +kernel
theorem dX0_sift_30 : decode cX0_sift 30 = .ok (.aload_n 0, 1) := by decide +kernel
theorem dX0_sift_31 : decode cX0_sift 31 = .ok (.getfield 9, 3) := by decide +kernel
theorem dX0_sift_34 : decode cX0_sift 34 = .ok (.iload 4, 2) := by decide +kernel
theorem dX0_sift_36 : decode cX0_sift 36 = .ok (.aload_n 0, 1) := by decide +kernel
theorem dX0_sift_37 : decode cX0_sift 37 = .ok (.iload_n 1, 1) := by decide +kernel
theorem dX0_sift_38 : decode cX0_sift 38 = .ok (.iload_n 2, 1) := by decide +kernel
theorem dX0_sift_39 : decode cX0_sift 39 = .ok (.iload 4, 2) := by decide +kernel
theorem dX0_sift_41 : decode cX0_sift 41 = .ok (.invokevirtual 70, 3) := by decide +kernel
theorem dX0_sift_44 : decode cX0_sift 44 = .ok (.bastore, 1) := by decide +kernel
theorem dX0_sift_45 : decode cX0_sift 45 = .ok (.iinc 4 1, 3) := by decide +kernel
theorem dX0_sift_48 : decode cX0_sift 48 = .ok (.goto (-45), 3) := by decide +kernel
theorem dX0_sift_51 : decode cX0_sift 51 = .ok (.return_, 1) := by decide +kernel
theorem dX0_seenAlike_0 : decode cX0_seenAlike 0 = .ok (.aload_n 0, 1) := by decide +kernel
theorem dX0_seenAlike_1 : decode cX0_seenAlike 1 = .ok (.getfield 24, 3) := by decide +kernel
theorem dX0_seenAlike_4 : decode cX0_seenAlike 4 = .ok (.aload_n 0, 1) := by decide +kernel
theorem dX0_seenAlike_5 : decode cX0_seenAlike 5 = .ok (.getfield 17, 3) := by decide +kernel
theorem dX0_seenAlike_8 : decode cX0_seenAlike 8 = .ok (.iconst 0, 1) := by decide +kernel
theorem dX0_seenAlike_9 : decode cX0_seenAlike 9 = .ok (.aaload, 1) := by decide +kernel
theorem dX0_seenAlike_10 : decode cX0_seenAlike 10 = .ok (.iload_n 2, 1) := by decide +kernel
theorem dX0_seenAlike_11 : decode cX0_seenAlike 11 = .ok (.iload_n 3, 1) := by decide +kernel
theorem dX0_seenAlike_12 : decode cX0_seenAlike 12 = .ok (.invokevirtual 74, 3) := by decide +kernel
theorem dX0_seenAlike_15 : decode cX0_seenAlike 15 = .ok (.iconst 1, 1) := by decide +kernel
theorem dX0_seenAlike_16 : decode cX0_seenAlike 16 = .ok (.istore 4, 2) := by decide +kernel
theorem dX0_seenAlike_18 : decode cX0_seenAlike 18 = .ok (.iload 4, 2) := by decide +kernel
theorem dX0_seenAlike_20 : decode cX0_seenAlike 20 = .ok (.iload_n 1, 1) := by decide +kernel
theorem dX0_seenAlike_21 : decode cX0_seenAlike 21 = .ok (.if_icmp .ge 42, 3) := by decide +kernel
theorem dX0_seenAlike_24 : decode cX0_seenAlike 24 = .ok (.aload_n 0, 1) := by decide +kernel
theorem dX0_seenAlike_25 : decode cX0_seenAlike 25 = .ok (.getfield 28, 3) := by decide +kernel
theorem dX0_seenAlike_28 : decode cX0_seenAlike 28 = .ok (.aload_n 0, 1) := by decide +kernel
theorem dX0_seenAlike_29 : decode cX0_seenAlike 29 = .ok (.getfield 17, 3) := by decide +kernel
theorem dX0_seenAlike_32 : decode cX0_seenAlike 32 = .ok (.iload 4, 2) := by decide +kernel
theorem dX0_seenAlike_34 : decode cX0_seenAlike 34 = .ok (.aaload, 1) := by decide +kernel
theorem dX0_seenAlike_35 : decode cX0_seenAlike 35 = .ok (.iload_n 2, 1) := by decide +kernel
theorem dX0_seenAlike_36 : decode cX0_seenAlike 36 = .ok (.iload_n 3, 1) := by decide +kernel
theorem dX0_seenAlike_37 : decode cX0_seenAlike 37 = .ok (.invokevirtual 74, 3) := by decide +kernel
theorem dX0_seenAlike_40 : decode cX0_seenAlike 40 = .ok (.aload_n 0, 1) := by decide +kernel
theorem dX0_seenAlike_41 : decode cX0_seenAlike 41 = .ok (.getfield 24, 3) := by decide +kernel
theorem dX0_seenAlike_44 : decode cX0_seenAlike 44 = .ok (.aload_n 0, 1) := by decide +kernel
theorem dX0_seenAlike_45 : decode cX0_seenAlike 45 = .ok (.getfield 28, 3) := by decide +kernel
theorem dX0_seenAlike_48 : decode cX0_seenAlike 48 = .ok (.invokevirtual 78, 3) := by decide +kernel
theorem dX0_seenAlike_51 : decode cX0_seenAlike 51 = .ok (.iconst (-1), 1) := by decide +kernel
theorem dX0_seenAlike_52 : decode cX0_seenAlike 52 = .ok (.if_icmp .eq 5, 3) := by decide +kernel
theorem dX0_seenAlike_55 : decode cX0_seenAlike 55 = .ok (.iconst 0, 1) := by decide +kernel
theorem dX0_seenAlike_56 : decode cX0_seenAlike 56 = .ok (.ireturn, 1) := by decide +kernel
theorem dX0_seenAlike_57 : decode cX0_seenAlike 57 = .ok (.iinc 4 1, 3) := by decide +kernel
theorem dX0_seenAlike_60 : decode cX0_seenAlike 60 = .ok (.goto (-42), 3) := by decide +kernel
theorem dX0_seenAlike_63 : decode cX0_seenAlike 63 = .ok (.iconst 1, 1) := by decide +kernel
theorem dX0_seenAlike_64 : decode cX0_seenAlike 64 = .ok (.ireturn, 1) := by decide +kernel
theorem dX0_cheapest_0 : decode cX0_cheapest 0 = .ok (.iconst 1, 1) := by decide +kernel
theorem dX0_cheapest_1 : decode cX0_cheapest 1 = .ok (.aload_n 1, 1) := by decide +kernel
theorem dX0_cheapest_2 : decode cX0_cheapest 2 = .ok (.getfield 82, 3) := by decide +kernel
theorem dX0_cheapest_5 : decode cX0_cheapest 5 = .ok (.ishl, 1) := by decide +kernel
theorem dX0_cheapest_6 : decode cX0_cheapest 6 = .ok (.istore_n 2, 1) := by decide +kernel
theorem dX0_cheapest_7 : decode cX0_cheapest 7 = .ok (.iconst (-1), 1) := by decide +kernel
theorem dX0_cheapest_8 : decode cX0_cheapest 8 = .ok (.istore_n 3, 1) := by decide +kernel
theorem dX0_cheapest_9 : decode cX0_cheapest 9 = .ok (.iconst 0, 1) := by decide +kernel
theorem dX0_cheapest_10 : decode cX0_cheapest 10 = .ok (.istore 4, 2) := by decide +kernel
theorem dX0_cheapest_12 : decode cX0_cheapest 12 = .ok (.iload 4, 2) := by decide +kernel
theorem dX0_cheapest_14 : decode cX0_cheapest 14 = .ok (.iload_n 2, 1) := by decide +kernel
theorem dX0_cheapest_15 : decode cX0_cheapest 15 = .ok (.if_icmp .ge 37, 3) := by decide +kernel
theorem dX0_cheapest_18 : decode cX0_cheapest 18 = .ok (.aload_n 0, 1) := by decide +kernel
theorem dX0_cheapest_19 : decode cX0_cheapest 19 = .ok (.getfield 9, 3) := by decide +kernel
theorem dX0_cheapest_22 : decode cX0_cheapest 22 = .ok (.iload 4, 2) := by decide +kernel
theorem dX0_cheapest_24 : decode cX0_cheapest 24 = .ok (.baload, 1) := by decide +kernel
theorem dX0_cheapest_25 : decode cX0_cheapest 25 = .ok (.ifCond .eq 21, 3) := by decide +kernel
theorem dX0_cheapest_28 : decode cX0_cheapest 28 = .ok (.iload_n 3, 1) := by decide +kernel
theorem dX0_cheapest_29 : decode cX0_cheapest 29 = .ok (.iconst (-1), 1) := by decide +kernel
theorem dX0_cheapest_30 : decode cX0_cheapest 30 = .ok (.if_icmp .eq 13, 3) := by decide +kernel
theorem dX0_cheapest_33 : decode cX0_cheapest 33 = .ok (.aload_n 1, 1) := by decide +kernel
theorem dX0_cheapest_34 : decode cX0_cheapest 34 = .ok (.iload 4, 2) := by decide +kernel
theorem dX0_cheapest_36 : decode cX0_cheapest 36 = .ok (.iload_n 3, 1) := by decide +kernel
theorem dX0_cheapest_37 : decode cX0_cheapest 37 = .ok (.invokestatic 85, 3) := by decide +kernel
theorem dX0_cheapest_40 : decode cX0_cheapest 40 = .ok (.ifCond .eq 6, 3) := by decide +kernel
theorem dX0_cheapest_43 : decode cX0_cheapest 43 = .ok (.iload 4, 2) := by decide +kernel
theorem dX0_cheapest_45 : decode cX0_cheapest 45 = .ok (.istore_n 3, 1) := by decide +kernel
theorem dX0_cheapest_46 : decode cX0_cheapest 46 = .ok (.iinc 4 1, 3) := by decide +kernel
theorem dX0_cheapest_49 : decode cX0_cheapest 49 = .ok (.goto (-37), 3) := by decide +kernel
theorem dX0_cheapest_52 : decode cX0_cheapest 52 = .ok (.iload_n 3, 1) := by decide +kernel
theorem dX0_cheapest_53 : decode cX0_cheapest 53 = .ok (.ireturn, 1) := by decide +kernel
theorem dX0_isBetter_0 : decode cX0_isBetter 0 = .ok (.aload_n 0, 1) := by decide +kernel
theorem dX0_isBetter_1 : decode cX0_isBetter 1 = .ok (.iload_n 1, 1) := by decide +kernel
theorem dX0_isBetter_2 : decode cX0_isBetter 2 = .ok (.invokevirtual 89, 3) := by decide +kernel
theorem dX0_isBetter_5 : decode cX0_isBetter 5 = .ok (.istore_n 3, 1) := by decide +kernel
theorem dX0_isBetter_6 : decode cX0_isBetter 6 = .ok (.aload_n 0, 1) := by decide +kernel
theorem dX0_isBetter_7 : decode cX0_isBetter 7 = .ok (.iload_n 2, 1) := by decide +kernel
theorem dX0_isBetter_8 : decode cX0_isBetter 8 = .ok (.invokevirtual 89, 3) := by decide +kernel
theorem dX0_isBetter_11 : decode cX0_isBetter 11 = .ok (.istore 4, 2) := by decide +kernel
theorem dX0_isBetter_13 : decode cX0_isBetter 13 = .ok (.iload_n 3, 1) := by decide +kernel
theorem dX0_isBetter_14 : decode cX0_isBetter 14 = .ok (.iload 4, 2) := by decide +kernel
theorem dX0_isBetter_16 : decode cX0_isBetter 16 = .ok (.if_icmp .eq 15, 3) := by decide +kernel
theorem dX0_isBetter_19 : decode cX0_isBetter 19 = .ok (.iload_n 3, 1) := by decide +kernel
theorem dX0_isBetter_20 : decode cX0_isBetter 20 = .ok (.iload 4, 2) := by decide +kernel
theorem dX0_isBetter_22 : decode cX0_isBetter 22 = .ok (.if_icmp .ge 7, 3) := by decide +kernel
theorem dX0_isBetter_25 : decode cX0_isBetter 25 = .ok (.iconst 1, 1) := by decide +kernel
theorem dX0_isBetter_26 : decode cX0_isBetter 26 = .ok (.goto 4, 3) := by decide +kernel
theorem dX0_isBetter_29 : decode cX0_isBetter 29 = .ok (.iconst 0, 1) := by decide +kernel
theorem dX0_isBetter_30 : decode cX0_isBetter 30 = .ok (.ireturn, 1) := by decide +kernel
theorem dX0_isBetter_31 : decode cX0_isBetter 31 = .ok (.iload_n 1, 1) := by decide +kernel
theorem dX0_isBetter_32 : decode cX0_isBetter 32 = .ok (.invokestatic 92, 3) := by decide +kernel
theorem dX0_isBetter_35 : decode cX0_isBetter 35 = .ok (.iload_n 2, 1) := by decide +kernel
theorem dX0_isBetter_36 : decode cX0_isBetter 36 = .ok (.invokestatic 92, 3) := by decide +kernel
theorem dX0_isBetter_39 : decode cX0_isBetter 39 = .ok (.if_icmp .ge 7, 3) := by decide +kernel
theorem dX0_isBetter_42 : decode cX0_isBetter 42 = .ok (.iconst 1, 1) := by decide +kernel
theorem dX0_isBetter_43 : decode cX0_isBetter 43 = .ok (.goto 4, 3) := by decide +kernel
theorem dX0_isBetter_46 : decode cX0_isBetter 46 = .ok (.iconst 0, 1) := by decide +kernel
theorem dX0_isBetter_47 : decode cX0_isBetter 47 = .ok (.ireturn, 1) := by decide +kernel
theorem dX0_howMany_0 : decode cX0_howMany 0 = .ok (.iconst 1, 1) := by decide +kernel
theorem dX0_howMany_1 : decode cX0_howMany 1 = .ok (.aload_n 1, 1) := by decide +kernel
theorem dX0_howMany_2 : decode cX0_howMany 2 = .ok (.getfield 82, 3) := by decide +kernel
theorem dX0_howMany_5 : decode cX0_howMany 5 = .ok (.ishl, 1) := by decide +kernel
theorem dX0_howMany_6 : decode cX0_howMany 6 = .ok (.istore_n 2, 1) := by decide +kernel
theorem dX0_howMany_7 : decode cX0_howMany 7 = .ok (.iconst 0, 1) := by decide +kernel
theorem dX0_howMany_8 : decode cX0_howMany 8 = .ok (.istore_n 3, 1) := by decide +kernel
theorem dX0_howMany_9 : decode cX0_howMany 9 = .ok (.iconst 0, 1) := by decide +kernel
theorem dX0_howMany_10 : decode cX0_howMany 10 = .ok (.istore 4, 2) := by decide +kernel
theorem dX0_howMany_12 : decode cX0_howMany 12 = .ok (.iload 4, 2) := by decide +kernel
theorem dX0_howMany_14 : decode cX0_howMany 14 = .ok (.iload_n 2, 1) := by decide +kernel
theorem dX0_howMany_15 : decode cX0_howMany 15 = .ok (.if_icmp .ge 22, 3) := by decide +kernel
theorem dX0_howMany_18 : decode cX0_howMany 18 = .ok (.aload_n 0, 1) := by decide +kernel
theorem dX0_howMany_19 : decode cX0_howMany 19 = .ok (.getfield 9, 3) := by decide +kernel
theorem dX0_howMany_22 : decode cX0_howMany 22 = .ok (.iload 4, 2) := by decide +kernel
theorem dX0_howMany_24 : decode cX0_howMany 24 = .ok (.baload, 1) := by decide +kernel
theorem dX0_howMany_25 : decode cX0_howMany 25 = .ok (.ifCond .eq 6, 3) := by decide +kernel
theorem dX0_howMany_28 : decode cX0_howMany 28 = .ok (.iinc 3 1, 3) := by decide +kernel
theorem dX0_howMany_31 : decode cX0_howMany 31 = .ok (.iinc 4 1, 3) := by decide +kernel
theorem dX0_howMany_34 : decode cX0_howMany 34 = .ok (.goto (-22), 3) := by decide +kernel
theorem dX0_howMany_37 : decode cX0_howMany 37 = .ok (.iload_n 3, 1) := by decide +kernel
theorem dX0_howMany_38 : decode cX0_howMany 38 = .ok (.ireturn, 1) := by decide +kernel
theorem dX1_init_0 : decode cX1_init 0 = .ok (.aload_n 0, 1) := by decide +kernel
theorem dX1_init_1 : decode cX1_init 1 = .ok (.invokespecial 3, 3) := by decide +kernel
theorem dX1_init_4 : decode cX1_init 4 = .ok (.aload_n 0, 1) := by decide +kernel
theorem dX1_init_5 : decode cX1_init 5 = .ok (.iconst 4, 1) := by decide +kernel
theorem dX1_init_6 : decode cX1_init 6 = .ok (.newarray .int, 2) := by decide +kernel
theorem dX1_init_8 : decode cX1_init 8 = .ok (.putfield 9, 3) := by decide +kernel
theorem dX1_init_11 : decode cX1_init 11 = .ok (.aload_n 0, 1) := by decide +kernel
theorem dX1_init_12 : decode cX1_init 12 = .ok (.bipush 8, 2) := by decide +kernel
theorem dX1_init_14 : decode cX1_init 14 = .ok (.newarray .int, 2) := by decide +kernel
theorem dX1_init_16 : decode cX1_init 16 = .ok (.putfield 15, 3) := by decide +kernel
theorem dX1_init_19 : decode cX1_init 19 = .ok (.aload_n 0, 1) := by decide +kernel
theorem dX1_init_20 : decode cX1_init 20 = .ok (.iconst 0, 1) := by decide +kernel
theorem dX1_init_21 : decode cX1_init 21 = .ok (.putfield 18, 3) := by decide +kernel
theorem dX1_init_24 : decode cX1_init 24 = .ok (.return_, 1) := by decide +kernel
theorem dX1_go_0 : decode cX1_go 0 = .ok (.aload_n 0, 1) := by decide +kernel
theorem dX1_go_1 : decode cX1_go 1 = .ok (.aload_n 1, 1) := by decide +kernel
theorem dX1_go_2 : decode cX1_go 2 = .ok (.iload_n 3, 1) := by decide +kernel
theorem dX1_go_3 : decode cX1_go 3 = .ok (.iload 4, 2) := by decide +kernel
theorem dX1_go_5 : decode cX1_go 5 = .ok (.invokevirtual 22, 3) := by decide +kernel
theorem dX1_go_8 : decode cX1_go 8 = .ok (.aload 5, 2) := by decide +kernel
theorem dX1_go_10 : decode cX1_go 10 = .ok (.invokevirtual 26, 3) := by decide +kernel
theorem dX1_go_13 : decode cX1_go 13 = .ok (.iconst 0, 1) := by decide +kernel
theorem dX1_go_14 : decode cX1_go 14 = .ok (.istore 6, 2) := by decide +kernel
theorem dX1_go_16 : decode cX1_go 16 = .ok (.iload 6, 2) := by decide +kernel
theorem dX1_go_18 : decode cX1_go 18 = .ok (.bipush 40, 2) := by decide +kernel
theorem dX1_go_20 : decode cX1_go 20 = .ok (.if_icmp .ge 63, 3) := by decide +kernel
theorem dX1_go_23 : decode cX1_go 23 = .ok (.aload_n 1, 1) := by decide +kernel
theorem dX1_go_24 : decode cX1_go 24 = .ok (.aload_n 0, 1) := by decide +kernel
theorem dX1_go_25 : decode cX1_go 25 = .ok (.getfield 18, 3) := by decide +kernel
theorem dX1_go_28 : decode cX1_go 28 = .ok (.invokevirtual 30, 3) := by decide +kernel
theorem dX1_go_31 : decode cX1_go 31 = .ok (.ifCond .eq 52, 3) := by decide +kernel
theorem dX1_go_34 : decode cX1_go 34 = .ok (.aload 5, 2) := by decide +kernel
theorem dX1_go_36 : decode cX1_go 36 = .ok (.dup, 1) := by decide +kernel
theorem dX1_go_37 : decode cX1_go 37 = .ok (.getfield 36, 3) := by decide +kernel
theorem dX1_go_40 : decode cX1_go 40 = .ok (.iconst 1, 1) := by decide +kernel
theorem dX1_go_41 : decode cX1_go 41 = .ok (.aload_n 0, 1) := by decide +kernel
theorem dX1_go_42 : decode cX1_go 42 = .ok (.getfield 18, 3) := by decide +kernel
theorem dX1_go_45 : decode cX1_go 45 = .ok (.ishl, 1) := by decide +kernel
theorem dX1_go_46 : decode cX1_go 46 = .ok (.ior, 1) := by decide +kernel
theorem dX1_go_47 : decode cX1_go 47 = .ok (.putfield 36, 3) := by decide +kernel
theorem dX1_go_50 : decode cX1_go 50 = .ok (.aload 5, 2) := by decide +kernel
theorem dX1_go_52 : decode cX1_go 52 = .ok (.dup, 1) := by decide +kernel
theorem dX1_go_53 : decode cX1_go 53 = .ok (.getfield 39, 3) := by decide +kernel
theorem dX1_go_56 : decode cX1_go 56 = .ok (.iconst 1, 1) := by decide +kernel
theorem dX1_go_57 : decode cX1_go 57 = .ok (.iadd, 1) := by decide +kernel
theorem dX1_go_58 : decode cX1_go 58 = .ok (.putfield 39, 3) := by decide +kernel
theorem dX1_go_61 : decode cX1_go 61 = .ok (.aload_n 0, 1) := by decide +kernel
theorem dX1_go_62 : decode cX1_go 62 = .ok (.aload_n 1, 1) := by decide +kernel
theorem dX1_go_63 : decode cX1_go 63 = .ok (.getfield 42, 3) := by decide +kernel
theorem dX1_go_66 : decode cX1_go 66 = .ok (.aload_n 0, 1) := by decide +kernel
theorem dX1_go_67 : decode cX1_go 67 = .ok (.getfield 18, 3) := by decide +kernel
theorem dX1_go_70 : decode cX1_go 70 = .ok (.iaload, 1) := by decide +kernel
theorem dX1_go_71 : decode cX1_go 71 = .ok (.aload_n 2, 1) := by decide +kernel
theorem dX1_go_72 : decode cX1_go 72 = .ok (.aload 5, 2) := by decide +kernel
theorem dX1_go_74 : decode cX1_go 74 = .ok (.invokevirtual 45, 3) := by decide +kernel
theorem dX1_go_77 : decode cX1_go 77 = .ok (.iinc 6 1, 3) := by decide +kernel
theorem dX1_go_80 : decode cX1_go 80 = .ok (.goto (-64), 3) := by decide +kernel
theorem dX1_go_83 : decode cX1_go 83 = .ok (.aload 5, 2) := by decide +kernel
theorem dX1_go_85 : decode cX1_go 85 = .ok (.aload_n 1, 1) := by decide +kernel
theorem dX1_go_86 : decode cX1_go 86 = .ok (.aload_n 0, 1) := by decide +kernel
theorem dX1_go_87 : decode cX1_go 87 = .ok (.getfield 18, 3) := by decide +kernel
theorem dX1_go_90 : decode cX1_go 90 = .ok (.invokevirtual 30, 3) := by decide +kernel
theorem dX1_go_93 : decode cX1_go 93 = .ok (.putfield 49, 3) := by decide +kernel
theorem dX1_go_96 : decode cX1_go 96 = .ok (.aload 5, 2) := by decide +kernel
theorem dX1_go_98 : decode cX1_go 98 = .ok (.getfield 49, 3) := by decide +kernel
theorem dX1_go_101 : decode cX1_go 101 = .ok (.ifCond .eq 19, 3) := by decide +kernel
theorem dX1_go_104 : decode cX1_go 104 = .ok (.aload 5, 2) := by decide +kernel
theorem dX1_go_106 : decode cX1_go 106 = .ok (.dup, 1) := by decide +kernel
theorem dX1_go_107 : decode cX1_go 107 = .ok (.getfield 36, 3) := by decide +kernel
theorem dX1_go_110 : decode cX1_go 110 = .ok (.iconst 1, 1) := by decide +kernel
theorem dX1_go_111 : decode cX1_go 111 = .ok (.aload_n 0, 1) := by decide +kernel
theorem dX1_go_112 : decode cX1_go 112 = .ok (.getfield 18, 3) := by decide +kernel
theorem dX1_go_115 : decode cX1_go 115 = .ok (.ishl, 1) := by decide +kernel
theorem dX1_go_116 : decode cX1_go 116 = .ok (.ior, 1) := by decide +kernel
theorem dX1_go_117 : decode cX1_go 117 = .ok (.putfield 36, 3) := by decide +kernel
theorem dX1_go_120 : decode cX1_go 120 = .ok (.aload 5, 2) := by decide +kernel
theorem dX1_go_122 : decode cX1_go 122 = .ok (.aload_n 0, 1) := by decide +kernel
theorem dX1_go_123 : decode cX1_go 123 = .ok (.getfield 9, 3) := by decide +kernel
theorem dX1_go_126 : decode cX1_go 126 = .ok (.iconst 0, 1) := by decide +kernel
theorem dX1_go_127 : decode cX1_go 127 = .ok (.iaload, 1) := by decide +kernel
theorem dX1_go_128 : decode cX1_go 128 = .ok (.putfield 53, 3) := by decide +kernel
theorem dX1_go_131 : decode cX1_go 131 = .ok (.return_, 1) := by decide +kernel
theorem dX1_begin_0 : decode cX1_begin 0 = .ok (.aload_n 0, 1) := by decide +kernel
theorem dX1_begin_1 : decode cX1_begin 1 = .ok (.iconst 0, 1) := by decide +kernel
theorem dX1_begin_2 : decode cX1_begin 2 = .ok (.putfield 18, 3) := by decide +kernel
theorem dX1_begin_5 : decode cX1_begin 5 = .ok (.aload_n 0, 1) := by decide +kernel
theorem dX1_begin_6 : decode cX1_begin 6 = .ok (.getfield 9, 3) := by decide +kernel
theorem dX1_begin_9 : decode cX1_begin 9 = .ok (.iconst 0, 1) := by decide +kernel
theorem dX1_begin_10 : decode cX1_begin 10 = .ok (.iload_n 2, 1) := by decide +kernel
theorem dX1_begin_11 : decode cX1_begin 11 = .ok (.iconst 3, 1) := by decide +kernel
theorem dX1_begin_12 : decode cX1_begin 12 = .ok (.iand, 1) := by decide +kernel
theorem dX1_begin_13 : decode cX1_begin 13 = .ok (.iastore, 1) := by decide +kernel
theorem dX1_begin_14 : decode cX1_begin 14 = .ok (.aload_n 0, 1) := by decide +kernel
theorem dX1_begin_15 : decode cX1_begin 15 = .ok (.getfield 9, 3) := by decide +kernel
theorem dX1_begin_18 : decode cX1_begin 18 = .ok (.iconst 1, 1) := by decide +kernel
theorem dX1_begin_19 : decode cX1_begin 19 = .ok (.iload_n 2, 1) := by decide +kernel
theorem dX1_begin_20 : decode cX1_begin 20 = .ok (.iconst 2, 1) := by decide +kernel
theorem dX1_begin_21 : decode cX1_begin 21 = .ok (.ishr, 1) := by decide +kernel
theorem dX1_begin_22 : decode cX1_begin 22 = .ok (.iconst 3, 1) := by decide +kernel
theorem dX1_begin_23 : decode cX1_begin 23 = .ok (.iand, 1) := by decide +kernel
theorem dX1_begin_24 : decode cX1_begin 24 = .ok (.iastore, 1) := by decide +kernel
theorem dX1_begin_25 : decode cX1_begin 25 = .ok (.aload_n 0, 1) := by decide +kernel
theorem dX1_begin_26 : decode cX1_begin 26 = .ok (.getfield 9, 3) := by decide +kernel
theorem dX1_begin_29 : decode cX1_begin 29 = .ok (.iconst 2, 1) := by decide +kernel
theorem dX1_begin_30 : decode cX1_begin 30 = .ok (.iload_n 3, 1) := by decide +kernel
theorem dX1_begin_31 : decode cX1_begin 31 = .ok (.iconst 3, 1) := by decide +kernel
theorem dX1_begin_32 : decode cX1_begin 32 = .ok (.iand, 1) := by decide +kernel
theorem dX1_begin_33 : decode cX1_begin 33 = .ok (.iastore, 1) := by decide +kernel
theorem dX1_begin_34 : decode cX1_begin 34 = .ok (.aload_n 0, 1) := by decide +kernel
theorem dX1_begin_35 : decode cX1_begin 35 = .ok (.getfield 9, 3) := by decide +kernel
theorem dX1_begin_38 : decode cX1_begin 38 = .ok (.iconst 3, 1) := by decide +kernel
theorem dX1_begin_39 : decode cX1_begin 39 = .ok (.iload_n 3, 1) := by decide +kernel
theorem dX1_begin_40 : decode cX1_begin 40 = .ok (.iconst 2, 1) := by decide +kernel
theorem dX1_begin_41 : decode cX1_begin 41 = .ok (.ishr, 1) := by decide +kernel
theorem dX1_begin_42 : decode cX1_begin 42 = .ok (.iconst 3, 1) := by decide +kernel
theorem dX1_begin_43 : decode cX1_begin 43 = .ok (.iand, 1) := by decide +kernel
theorem dX1_begin_44 : decode cX1_begin 44 = .ok (.iastore, 1) := by decide +kernel
theorem dX1_begin_45 : decode cX1_begin 45 = .ok (.iconst 0, 1) := by decide +kernel
theorem dX1_begin_46 : decode cX1_begin 46 = .ok (.istore 4, 2) := by decide +kernel
theorem dX1_begin_48 : decode cX1_begin 48 = .ok (.iload 4, 2) := by decide +kernel
theorem dX1_begin_50 : decode cX1_begin 50 = .ok (.bipush 8, 2) := by decide +kernel
theorem dX1_begin_52 : decode cX1_begin 52 = .ok (.if_icmp .ge 23, 3) := by decide +kernel
theorem dX1_begin_55 : decode cX1_begin 55 = .ok (.aload_n 0, 1) := by decide +kernel
theorem dX1_begin_56 : decode cX1_begin 56 = .ok (.getfield 15, 3) := by decide +kernel
theorem dX1_begin_59 : decode cX1_begin 59 = .ok (.iload 4, 2) := by decide +kernel
theorem dX1_begin_61 : decode cX1_begin 61 = .ok (.aload_n 1, 1) := by decide +kernel
theorem dX1_begin_62 : decode cX1_begin 62 = .ok (.getfield 56, 3) := by decide +kernel
theorem dX1_begin_65 : decode cX1_begin 65 = .ok (.iload 4, 2) := by decide +kernel
theorem dX1_begin_67 : decode cX1_begin 67 = .ok (.iaload, 1) := by decide +kernel
theorem dX1_begin_68 : decode cX1_begin 68 = .ok (.iastore, 1) := by decide +kernel
theorem dX1_begin_69 : decode cX1_begin 69 = .ok (.iinc 4 1, 3) := by decide +kernel
theorem dX1_begin_72 : decode cX1_begin 72 = .ok (.goto (-24), 3) := by decide +kernel
theorem dX1_begin_75 : decode cX1_begin 75 = .ok (.return_, 1) := by decide +kernel
theorem dX1_doOrder_0 : decode cX1_doOrder 0 = .ok (.aload_n 0, 1) := by decide +kernel
theorem dX1_doOrder_1 : decode cX1_doOrder 1 = .ok (.getfield 18, 3) := by decide +kernel
theorem dX1_doOrder_4 : decode cX1_doOrder 4 = .ok (.istore 4, 2) := by decide +kernel
theorem dX1_doOrder_6 : decode cX1_doOrder 6 = .ok (.iload_n 1, 1) := by decide +kernel
theorem dX1_doOrder_7 : decode cX1_doOrder 7 = .ok (.bipush 12, 2) := by decide +kernel
theorem dX1_doOrder_9 : decode cX1_doOrder 9 = .ok (.ishr, 1) := by decide +kernel
theorem dX1_doOrder_10 : decode cX1_doOrder 10 = .ok (.istore 5, 2) := by decide +kernel
theorem dX1_doOrder_12 : decode cX1_doOrder 12 = .ok (.iload_n 1, 1) := by decide +kernel
theorem dX1_doOrder_13 : decode cX1_doOrder 13 = .ok (.bipush 8, 2) := by decide +kernel
theorem dX1_doOrder_15 : decode cX1_doOrder 15 = .ok (.ishr, 1) := by decide +kernel
theorem dX1_doOrder_16 : decode cX1_doOrder 16 = .ok (.iconst 3, 1) := by decide +kernel
theorem dX1_doOrder_17 : decode cX1_doOrder 17 = .ok (.iand, 1) := by decide +kernel
theorem dX1_doOrder_18 : decode cX1_doOrder 18 = .ok (.istore 6, 2) := by decide +kernel
theorem dX1_doOrder_20 : decode cX1_doOrder 20 = .ok (.aload_n 0, 1) := by decide +kernel
theorem dX1_doOrder_21 : decode cX1_doOrder 21 = .ok (.getfield 9, 3) := by decide +kernel
theorem dX1_doOrder_24 : decode cX1_doOrder 24 = .ok (.iload_n 1, 1) := by decide +kernel
theorem dX1_doOrder_25 : decode cX1_doOrder 25 = .ok (.iconst 4, 1) := by decide +kernel
theorem dX1_doOrder_26 : decode cX1_doOrder 26 = .ok (.ishr, 1) := by decide +kernel
theorem dX1_doOrder_27 : decode cX1_doOrder 27 = .ok (.iconst 3, 1) := by decide +kernel
theorem dX1_doOrder_28 : decode cX1_doOrder 28 = .ok (.iand, 1) := by decide +kernel
theorem dX1_doOrder_29 : decode cX1_doOrder 29 = .ok (.iaload, 1) := by decide +kernel
theorem dX1_doOrder_30 : decode cX1_doOrder 30 = .ok (.istore 7, 2) := by decide +kernel
theorem dX1_doOrder_32 : decode cX1_doOrder 32 = .ok (.iload_n 1, 1) := by decide +kernel
theorem dX1_doOrder_33 : decode cX1_doOrder 33 = .ok (.bipush 15, 2) := by decide +kernel
theorem dX1_doOrder_35 : decode cX1_doOrder 35 = .ok (.iand, 1) := by decide +kernel
theorem dX1_doOrder_36 : decode cX1_doOrder 36 = .ok (.istore 8, 2) := by decide +kernel
theorem dX1_doOrder_38 : decode cX1_doOrder 38 = .ok (.iload 5, 2) := by decide +kernel
theorem dX1_doOrder_40 : decode cX1_doOrder 40 = .ok (.iconst 4, 1) := by decide +kernel
theorem dX1_doOrder_41 : decode cX1_doOrder 41 = .ok (.if_icmp .ne 7, 3) := by decide +kernel
theorem dX1_doOrder_44 : decode cX1_doOrder 44 = .ok (.iconst 1, 1) := by decide +kernel
theorem dX1_doOrder_45 : decode cX1_doOrder 45 = .ok (.goto 4, 3) := by decide +kernel
theorem dX1_doOrder_48 : decode cX1_doOrder 48 = .ok (.iconst 0, 1) := by decide +kernel
theorem dX1_doOrder_49 : decode cX1_doOrder 49 = .ok (.istore 9, 2) := by decide +kernel
theorem dX1_doOrder_51 : decode cX1_doOrder 51 = .ok (.aload_n 3, 1) := by decide +kernel
theorem dX1_doOrder_52 : decode cX1_doOrder 52 = .ok (.getfield 59, 3) := by decide +kernel
theorem dX1_doOrder_55 : decode cX1_doOrder 55 = .ok (.iload 4, 2) := by decide +kernel
theorem dX1_doOrder_57 : decode cX1_doOrder 57 = .ok (.dup2, 1) := by decide +kernel
theorem dX1_doOrder_58 : decode cX1_doOrder 58 = .ok (.iaload, 1) := by decide +kernel
theorem dX1_doOrder_59 : decode cX1_doOrder 59 = .ok (.iload 9, 2) := by decide +kernel
theorem dX1_doOrder_61 : decode cX1_doOrder 61 = .ok (.ifCond .eq 13, 3) := by decide +kernel
theorem dX1_doOrder_64 : decode cX1_doOrder 64 = .ok (.iconst 1, 1) := by decide +kernel
theorem dX1_doOrder_65 : decode cX1_doOrder 65 = .ok (.iload 7, 2) := by decide +kernel
theorem dX1_doOrder_67 : decode cX1_doOrder 67 = .ok (.invokestatic 62, 3) := by decide +kernel
theorem dX1_doOrder_70 : decode cX1_doOrder 70 = .ok (.iadd, 1) := by decide +kernel
theorem dX1_doOrder_71 : decode cX1_doOrder 71 = .ok (.goto 4, 3) := by decide +kernel
theorem dX1_doOrder_74 : decode cX1_doOrder 74 = .ok (.iconst 1, 1) := by decide +kernel
theorem dX1_doOrder_75 : decode cX1_doOrder 75 = .ok (.iadd, 1) := by decide +kernel
theorem dX1_doOrder_76 : decode cX1_doOrder 76 = .ok (.iastore, 1) := by decide +kernel
theorem dX1_doOrder_77 : decode cX1_doOrder 77 = .ok (.aload_n 3, 1) := by decide +kernel
theorem dX1_doOrder_78 : decode cX1_doOrder 78 = .ok (.getfield 66, 3) := by decide +kernel
theorem dX1_doOrder_81 : decode cX1_doOrder 81 = .ok (.iload 4, 2) := by decide +kernel
theorem dX1_doOrder_83 : decode cX1_doOrder 83 = .ok (.dup2, 1) := by decide +kernel
theorem dX1_doOrder_84 : decode cX1_doOrder 84 = .ok (.iaload, 1) := by decide +kernel
theorem dX1_doOrder_85 : decode cX1_doOrder 85 = .ok (.iload 9, 2) := by decide +kernel
theorem dX1_doOrder_87 : decode cX1_doOrder 87 = .ok (.ifCond .eq 8, 3) := by decide +kernel
theorem dX1_doOrder_90 : decode cX1_doOrder 90 = .ok (.bipush 33, 2) := by decide +kernel
theorem dX1_doOrder_92 : decode cX1_doOrder 92 = .ok (.goto 4, 3) := by decide +kernel
theorem dX1_doOrder_95 : decode cX1_doOrder 95 = .ok (.iconst 1, 1) := by decide +kernel
theorem dX1_doOrder_96 : decode cX1_doOrder 96 = .ok (.iadd, 1) := by decide +kernel
theorem dX1_doOrder_97 : decode cX1_doOrder 97 = .ok (.iastore, 1) := by decide +kernel
theorem dX1_doOrder_98 : decode cX1_doOrder 98 = .ok (.aload_n 0, 1) := by decide +kernel
theorem dX1_doOrder_99 : decode cX1_doOrder 99 = .ok (.iload 5, 2) := by decide +kernel
theorem dX1_doOrder_101 : decode cX1_doOrder 101 = .ok (.aload_n 0, 1) := by decide +kernel
theorem dX1_doOrder_102 : decode cX1_doOrder 102 = .ok (.getfield 9, 3) := by decide +kernel
theorem dX1_doOrder_105 : decode cX1_doOrder 105 = .ok (.iload 6, 2) := by decide +kernel
theorem dX1_doOrder_107 : decode cX1_doOrder 107 = .ok (.iaload, 1) := by decide +kernel
theorem dX1_doOrder_108 : decode cX1_doOrder 108 = .ok (.iload 7, 2) := by decide +kernel
theorem dX1_doOrder_110 : decode cX1_doOrder 110 = .ok (.aload_n 2, 1) := by decide +kernel
theorem dX1_doOrder_111 : decode cX1_doOrder 111 = .ok (.aload_n 3, 1) := by decide +kernel
theorem dX1_doOrder_112 : decode cX1_doOrder 112 = .ok (.invokevirtual 69, 3) := by decide +kernel
theorem dX1_doOrder_115 : decode cX1_doOrder 115 = .ok (.aload_n 0, 1) := by decide +kernel
theorem dX1_doOrder_116 : decode cX1_doOrder 116 = .ok (.aload_n 0, 1) := by decide +kernel
theorem dX1_doOrder_117 : decode cX1_doOrder 117 = .ok (.iload 5, 2) := by decide +kernel
theorem dX1_doOrder_119 : decode cX1_doOrder 119 = .ok (.aload_n 0, 1) := by decide +kernel
theorem dX1_doOrder_120 : decode cX1_doOrder 120 = .ok (.getfield 9, 3) := by decide +kernel
theorem dX1_doOrder_123 : decode cX1_doOrder 123 = .ok (.iload 6, 2) := by decide +kernel
theorem dX1_doOrder_125 : decode cX1_doOrder 125 = .ok (.iaload, 1) := by decide +kernel
theorem dX1_doOrder_126 : decode cX1_doOrder 126 = .ok (.iload 8, 2) := by decide +kernel
theorem dX1_doOrder_128 : decode cX1_doOrder 128 = .ok (.invokevirtual 73, 3) := by decide +kernel
theorem dX1_doOrder_131 : decode cX1_doOrder 131 = .ok (.putfield 18, 3) := by decide +kernel
theorem dX1_doOrder_134 : decode cX1_doOrder 134 = .ok (.aload_n 0, 1) := by decide +kernel
theorem dX1_doOrder_135 : decode cX1_doOrder 135 = .ok (.iload 5, 2) := by decide +kernel
theorem dX1_doOrder_137 : decode cX1_doOrder 137 = .ok (.iload 6, 2) := by decide +kernel
theorem dX1_doOrder_139 : decode cX1_doOrder 139 = .ok (.iload 7, 2) := by decide +kernel
theorem dX1_doOrder_141 : decode cX1_doOrder 141 = .ok (.iload 8, 2) := by decide +kernel
theorem dX1_doOrder_143 : decode cX1_doOrder 143 = .ok (.invokevirtual 77, 3) := by decide +kernel
theorem dX1_doOrder_146 : decode cX1_doOrder 146 = .ok (.return_, 1) := by decide +kernel
theorem dX1_tellOf_0 : decode cX1_tellOf 0 = .ok (.iload_n 1, 1) := by decide +kernel
theorem dX1_tellOf_1 : decode cX1_tellOf 1 = .ok (.iconst 5, 1) := by decide +kernel
theorem dX1_tellOf_2 : decode cX1_tellOf 2 = .ok (.if_icmp .eq 9, 3) := by decide +kernel
theorem dX1_tellOf_5 : decode cX1_tellOf 5 = .ok (.iload_n 1, 1) := by decide +kernel
theorem dX1_tellOf_6 : decode cX1_tellOf 6 = .ok (.bipush 6, 2) := by decide +kernel
theorem dX1_tellOf_8 : decode cX1_tellOf 8 = .ok (.if_icmp .ne 7, 3) := by decide +kernel
theorem dX1_tellOf_11 : decode cX1_tellOf 11 = .ok (.iconst 1, 1) := by decide +kernel
theorem dX1_tellOf_12 : decode cX1_tellOf 12 = .ok (.goto 4, 3) := by decide +kernel
theorem dX1_tellOf_15 : decode cX1_tellOf 15 = .ok (.iconst 0, 1) := by decide +kernel
theorem dX1_tellOf_16 : decode cX1_tellOf 16 = .ok (.istore 6, 2) := by decide +kernel
theorem dX1_tellOf_18 : decode cX1_tellOf 18 = .ok (.iload 6, 2) := by decide +kernel
theorem dX1_tellOf_20 : decode cX1_tellOf 20 = .ok (.ifCond .eq 41, 3) := by decide +kernel
theorem dX1_tellOf_23 : decode cX1_tellOf 23 = .ok (.aload 4, 2) := by decide +kernel
theorem dX1_tellOf_25 : decode cX1_tellOf 25 = .ok (.getfield 81, 3) := by decide +kernel
theorem dX1_tellOf_28 : decode cX1_tellOf 28 = .ok (.iconst 2, 1) := by decide +kernel
theorem dX1_tellOf_29 : decode cX1_tellOf 29 = .ok (.iand, 1) := by decide +kernel
theorem dX1_tellOf_30 : decode cX1_tellOf 30 = .ok (.ifCond .eq 31, 3) := by decide +kernel
theorem dX1_tellOf_33 : decode cX1_tellOf 33 = .ok (.aload 4, 2) := by decide +kernel
theorem dX1_tellOf_35 : decode cX1_tellOf 35 = .ok (.getfield 86, 3) := by decide +kernel
theorem dX1_tellOf_38 : decode cX1_tellOf 38 = .ok (.ifCond .le 23, 3) := by decide +kernel
theorem dX1_tellOf_41 : decode cX1_tellOf 41 = .ok (.aload 5, 2) := by decide +kernel
theorem dX1_tellOf_43 : decode cX1_tellOf 43 = .ok (.aload_n 0, 1) := by decide +kernel
theorem dX1_tellOf_44 : decode cX1_tellOf 44 = .ok (.getfield 18, 3) := by decide +kernel
theorem dX1_tellOf_47 : decode cX1_tellOf 47 = .ok (.iconst 2, 1) := by decide +kernel
theorem dX1_tellOf_48 : decode cX1_tellOf 48 = .ok (.iload_n 3, 1) := by decide +kernel
theorem dX1_tellOf_49 : decode cX1_tellOf 49 = .ok (.bipush 7, 2) := by decide +kernel
theorem dX1_tellOf_51 : decode cX1_tellOf 51 = .ok (.iand, 1) := by decide +kernel
theorem dX1_tellOf_52 : decode cX1_tellOf 52 = .ok (.aload 4, 2) := by decide +kernel
theorem dX1_tellOf_54 : decode cX1_tellOf 54 = .ok (.getfield 86, 3) := by decide +kernel
theorem dX1_tellOf_57 : decode cX1_tellOf 57 = .ok (.idiv, 1) := by decide +kernel
theorem dX1_tellOf_58 : decode cX1_tellOf 58 = .ok (.invokevirtual 89, 3) := by decide +kernel
theorem dX1_tellOf_61 : decode cX1_tellOf 61 = .ok (.iload_n 1, 1) := by decide +kernel
theorem dX1_tellOf_62 : decode cX1_tellOf 62 = .ok (.bipush 7, 2) := by decide +kernel
theorem dX1_tellOf_64 : decode cX1_tellOf 64 = .ok (.if_icmp .ne 32, 3) := by decide +kernel
theorem dX1_tellOf_67 : decode cX1_tellOf 67 = .ok (.aload 4, 2) := by decide +kernel
theorem dX1_tellOf_69 : decode cX1_tellOf 69 = .ok (.getfield 81, 3) := by decide +kernel
theorem dX1_tellOf_72 : decode cX1_tellOf 72 = .ok (.iconst 4, 1) := by decide +kernel
theorem dX1_tellOf_73 : decode cX1_tellOf 73 = .ok (.iand, 1) := by decide +kernel
theorem dX1_tellOf_74 : decode cX1_tellOf 74 = .ok (.ifCond .eq 22, 3) := by decide +kernel
theorem dX1_tellOf_77 : decode cX1_tellOf 77 = .ok (.aload 5, 2) := by decide +kernel
theorem dX1_tellOf_79 : decode cX1_tellOf 79 = .ok (.aload_n 0, 1) := by decide +kernel
theorem dX1_tellOf_80 : decode cX1_tellOf 80 = .ok (.getfield 18, 3) := by decide +kernel
theorem dX1_tellOf_83 : decode cX1_tellOf 83 = .ok (.iconst 4, 1) := by decide +kernel
theorem dX1_tellOf_84 : decode cX1_tellOf 84 = .ok (.iload_n 2, 1) := by decide +kernel
theorem dX1_tellOf_85 : decode cX1_tellOf 85 = .ok (.ifCond .ne 7, 3) := by decide +kernel
theorem dX1_tellOf_88 : decode cX1_tellOf 88 = .ok (.iconst 1, 1) := by decide +kernel
theorem dX1_tellOf_89 : decode cX1_tellOf 89 = .ok (.goto 4, 3) := by decide +kernel
theorem dX1_tellOf_92 : decode cX1_tellOf 92 = .ok (.iconst 0, 1) := by decide +kernel
theorem dX1_tellOf_93 : decode cX1_tellOf 93 = .ok (.invokevirtual 89, 3) := by decide +kernel
theorem dX1_tellOf_96 : decode cX1_tellOf 96 = .ok (.return_, 1) := by decide +kernel
theorem dX1_next_0 : decode cX1_next 0 = .ok (.iload_n 1, 1) := by decide +kernel
theorem dX1_next_1 : decode cX1_next 1 = .ok (.lookupswitch 54 #[(0, 35), (7, 37), (8, 52)], 35) := by decide +kernel
theorem dX1_next_36 : decode cX1_next 36 = .ok (.iconst (-1), 1) := by decide +kernel
theorem dX1_next_37 : decode cX1_next 37 = .ok (.ireturn, 1) := by decide +kernel
theorem dX1_next_38 : decode cX1_next 38 = .ok (.iload_n 2, 1) := by decide +kernel
theorem dX1_next_39 : decode cX1_next 39 = .ok (.ifCond .ne 7, 3) := by decide +kernel
theorem dX1_next_42 : decode cX1_next 42 = .ok (.iload_n 3, 1) := by decide +kernel
theorem dX1_next_43 : decode cX1_next 43 = .ok (.goto 9, 3) := by decide +kernel
theorem dX1_next_46 : decode cX1_next 46 = .ok (.aload_n 0, 1) := by decide +kernel
theorem dX1_next_47 : decode cX1_next 47 = .ok (.getfield 18, 3) := by decide +kernel
theorem dX1_next_50 : decode cX1_next 50 = .ok (.iconst 1, 1) := by decide +kernel
theorem dX1_next_51 : decode cX1_next 51 = .ok (.iadd, 1) := by decide +kernel
theorem dX1_next_52 : decode cX1_next 52 = .ok (.ireturn, 1) := by decide +kernel
theorem dX1_next_53 : decode cX1_next 53 = .ok (.iload_n 3, 1) := by decide +kernel
theorem dX1_next_54 : decode cX1_next 54 = .ok (.ireturn, 1) := by decide +kernel
theorem dX1_next_55 : decode cX1_next 55 = .ok (.aload_n 0, 1) := by decide +kernel
theorem dX1_next_56 : decode cX1_next 56 = .ok (.getfield 18, 3) := by decide +kernel
theorem dX1_next_59 : decode cX1_next 59 = .ok (.iconst 1, 1) := by decide +kernel
theorem dX1_next_60 : decode cX1_next 60 = .ok (.iadd, 1) := by decide +kernel
theorem dX1_next_61 : decode cX1_next 61 = .ok (.ireturn, 1) := by decide +kernel
theorem dX1_work_0 : decode cX1_work 0 = .ok (.iload_n 1, 1) := by decide +kernel
theorem dX1_work_1 : decode cX1_work 1 = .ok (.tableswitch 159 1 9 #[51, 62, 75, 88, 101, 119, 159, 159, 137], 51) := by decide +kernel
theorem dX1_work_52 : decode cX1_work 52 = .ok (.aload_n 0, 1) := by decide +kernel
theorem dX1_work_53 : decode cX1_work 53 = .ok (.getfield 9, 3) := by decide +kernel
theorem dX1_work_56 : decode cX1_work 56 = .ok (.iload_n 2, 1) := by decide +kernel
theorem dX1_work_57 : decode cX1_work 57 = .ok (.iload 4, 2) := by decide +kernel
theorem dX1_work_59 : decode cX1_work 59 = .ok (.iastore, 1) := by decide +kernel
theorem dX1_work_60 : decode cX1_work 60 = .ok (.goto 100, 3) := by decide +kernel
theorem dX1_work_63 : decode cX1_work 63 = .ok (.aload_n 0, 1) := by decide +kernel
theorem dX1_work_64 : decode cX1_work 64 = .ok (.getfield 9, 3) := by decide +kernel
theorem dX1_work_67 : decode cX1_work 67 = .ok (.iload_n 2, 1) := by decide +kernel
theorem dX1_work_68 : decode cX1_work 68 = .ok (.dup2, 1) := by decide +kernel
theorem dX1_work_69 : decode cX1_work 69 = .ok (.iaload, 1) := by decide +kernel
theorem dX1_work_70 : decode cX1_work 70 = .ok (.iload_n 3, 1) := by decide +kernel
theorem dX1_work_71 : decode cX1_work 71 = .ok (.iadd, 1) := by decide +kernel
theorem dX1_work_72 : decode cX1_work 72 = .ok (.iastore, 1) := by decide +kernel
theorem dX1_work_73 : decode cX1_work 73 = .ok (.goto 87, 3) := by decide +kernel
theorem dX1_work_76 : decode cX1_work 76 = .ok (.aload_n 0, 1) := by decide +kernel
theorem dX1_work_77 : decode cX1_work 77 = .ok (.getfield 9, 3) := by decide +kernel
theorem dX1_work_80 : decode cX1_work 80 = .ok (.iload_n 2, 1) := by decide +kernel
theorem dX1_work_81 : decode cX1_work 81 = .ok (.dup2, 1) := by decide +kernel
theorem dX1_work_82 : decode cX1_work 82 = .ok (.iaload, 1) := by decide +kernel
theorem dX1_work_83 : decode cX1_work 83 = .ok (.iload_n 3, 1) := by decide +kernel
theorem dX1_work_84 : decode cX1_work 84 = .ok (.ixor, 1) := by decide +kernel
theorem dX1_work_85 : decode cX1_work 85 = .ok (.iastore, 1) := by decide +kernel
theorem dX1_work_86 : decode cX1_work 86 = .ok (.goto 74, 3) := by decide +kernel
theorem dX1_work_89 : decode cX1_work 89 = .ok (.aload_n 0, 1) := by decide +kernel
theorem dX1_work_90 : decode cX1_work 90 = .ok (.getfield 9, 3) := by decide +kernel
theorem dX1_work_93 : decode cX1_work 93 = .ok (.iload_n 2, 1) := by decide +kernel
theorem dX1_work_94 : decode cX1_work 94 = .ok (.dup2, 1) := by decide +kernel
theorem dX1_work_95 : decode cX1_work 95 = .ok (.iaload, 1) := by decide +kernel
theorem dX1_work_96 : decode cX1_work 96 = .ok (.iload_n 3, 1) := by decide +kernel
theorem dX1_work_97 : decode cX1_work 97 = .ok (.imul, 1) := by decide +kernel
theorem dX1_work_98 : decode cX1_work 98 = .ok (.iastore, 1) := by decide +kernel
theorem dX1_work_99 : decode cX1_work 99 = .ok (.goto 61, 3) := by decide +kernel
theorem dX1_work_102 : decode cX1_work 102 = .ok (.aload_n 0, 1) := by decide +kernel
theorem dX1_work_103 : decode cX1_work 103 = .ok (.getfield 9, 3) := by decide +kernel
theorem dX1_work_106 : decode cX1_work 106 = .ok (.iload_n 2, 1) := by decide +kernel
theorem dX1_work_107 : decode cX1_work 107 = .ok (.aload_n 0, 1) := by decide +kernel
theorem dX1_work_108 : decode cX1_work 108 = .ok (.getfield 15, 3) := by decide +kernel
theorem dX1_work_111 : decode cX1_work 111 = .ok (.iload_n 3, 1) := by decide +kernel
theorem dX1_work_112 : decode cX1_work 112 = .ok (.bipush 7, 2) := by decide +kernel
theorem dX1_work_114 : decode cX1_work 114 = .ok (.iand, 1) := by decide +kernel
theorem dX1_work_115 : decode cX1_work 115 = .ok (.iaload, 1) := by decide +kernel
theorem dX1_work_116 : decode cX1_work 116 = .ok (.iastore, 1) := by decide +kernel
theorem dX1_work_117 : decode cX1_work 117 = .ok (.goto 43, 3) := by decide +kernel
theorem dX1_work_120 : decode cX1_work 120 = .ok (.aload_n 0, 1) := by decide +kernel
theorem dX1_work_121 : decode cX1_work 121 = .ok (.getfield 15, 3) := by decide +kernel
theorem dX1_work_124 : decode cX1_work 124 = .ok (.iload_n 3, 1) := by decide +kernel
theorem dX1_work_125 : decode cX1_work 125 = .ok (.bipush 7, 2) := by decide +kernel
theorem dX1_work_127 : decode cX1_work 127 = .ok (.iand, 1) := by decide +kernel
theorem dX1_work_128 : decode cX1_work 128 = .ok (.aload_n 0, 1) := by decide +kernel
theorem dX1_work_129 : decode cX1_work 129 = .ok (.getfield 9, 3) := by decide +kernel
theorem dX1_work_132 : decode cX1_work 132 = .ok (.iload_n 2, 1) := by decide +kernel
theorem dX1_work_133 : decode cX1_work 133 = .ok (.iaload, 1) := by decide +kernel
theorem dX1_work_134 : decode cX1_work 134 = .ok (.iastore, 1) := by decide +kernel
theorem dX1_work_135 : decode cX1_work 135 = .ok (.goto 25, 3) := by decide +kernel
theorem dX1_work_138 : decode cX1_work 138 = .ok (.aload_n 0, 1) := by decide +kernel
theorem dX1_work_139 : decode cX1_work 139 = .ok (.getfield 9, 3) := by decide +kernel
theorem dX1_work_142 : decode cX1_work 142 = .ok (.iload_n 2, 1) := by decide +kernel
theorem dX1_work_143 : decode cX1_work 143 = .ok (.dup2, 1) := by decide +kernel
theorem dX1_work_144 : decode cX1_work 144 = .ok (.iaload, 1) := by decide +kernel
theorem dX1_work_145 : decode cX1_work 145 = .ok (.iload_n 3, 1) := by decide +kernel
theorem dX1_work_146 : decode cX1_work 146 = .ok (.ifCond .eq 8, 3) := by decide +kernel
theorem dX1_work_149 : decode cX1_work 149 = .ok (.iload 4, 2) := by decide +kernel
theorem dX1_work_151 : decode cX1_work 151 = .ok (.goto 4, 3) := by decide +kernel
theorem dX1_work_154 : decode cX1_work 154 = .ok (.iconst 0, 1) := by decide +kernel
theorem dX1_work_155 : decode cX1_work 155 = .ok (.iadd, 1) := by decide +kernel
theorem dX1_work_156 : decode cX1_work 156 = .ok (.iastore, 1) := by decide +kernel
theorem dX1_work_157 : decode cX1_work 157 = .ok (.goto 3, 3) := by decide +kernel
theorem dX1_work_160 : decode cX1_work 160 = .ok (.return_, 1) := by decide +kernel
theorem dX1_bitsOf_0 : decode cX1_bitsOf 0 = .ok (.bipush 32, 2) := by decide +kernel
theorem dX1_bitsOf_2 : decode cX1_bitsOf 2 = .ok (.iload_n 0, 1) := by decide +kernel
theorem dX1_bitsOf_3 : decode cX1_bitsOf 3 = .ok (.invokestatic 93, 3) := by decide +kernel
theorem dX1_bitsOf_6 : decode cX1_bitsOf 6 = .ok (.isub, 1) := by decide +kernel
theorem dX1_bitsOf_7 : decode cX1_bitsOf 7 = .ok (.ireturn, 1) := by decide +kernel
theorem dX2_init_0 : decode cX2_init 0 = .ok (.aload_n 0, 1) := by decide +kernel
theorem dX2_init_1 : decode cX2_init 1 = .ok (.invokespecial 3, 3) := by decide +kernel
theorem dX2_init_4 : decode cX2_init 4 = .ok (.aload_n 0, 1) := by decide +kernel
theorem dX2_init_5 : decode cX2_init 5 = .ok (.bipush 16, 2) := by decide +kernel
theorem dX2_init_7 : decode cX2_init 7 = .ok (.bipush 16, 2) := by decide +kernel
theorem dX2_init_9 : decode cX2_init 9 = .ok (.multianewarray 9 2, 4) := by decide +kernel
theorem dX2_init_13 : decode cX2_init 13 = .ok (.putfield 11, 3) := by decide +kernel
theorem dX2_init_16 : decode cX2_init 16 = .ok (.aload_n 0, 1) := by decide +kernel
theorem dX2_init_17 : decode cX2_init 17 = .ok (.bipush 16, 2) := by decide +kernel
theorem dX2_init_19 : decode cX2_init 19 = .ok (.newarray .int, 2) := by decide +kernel
theorem dX2_init_21 : decode cX2_init 21 = .ok (.putfield 16, 3) := by decide +kernel
theorem dX2_init_24 : decode cX2_init 24 = .ok (.aload_n 0, 1) := by decide +kernel
theorem dX2_init_25 : decode cX2_init 25 = .ok (.new 20, 3) := by decide +kernel
theorem dX2_init_28 : decode cX2_init 28 = .ok (.dup, 1) := by decide +kernel
theorem dX2_init_29 : decode cX2_init 29 = .ok (.invokespecial 22, 3) := by decide +kernel
theorem dX2_init_32 : decode cX2_init 32 = .ok (.putfield 23, 3) := by decide +kernel
theorem dX2_init_35 : decode cX2_init 35 = .ok (.aload_n 0, 1) := by decide +kernel
theorem dX2_init_36 : decode cX2_init 36 = .ok (.bipush 16, 2) := by decide +kernel
theorem dX2_init_38 : decode cX2_init 38 = .ok (.anewarray 27, 3) := by decide +kernel
theorem dX2_init_41 : decode cX2_init 41 = .ok (.putfield 29, 3) := by decide +kernel
theorem dX2_init_44 : decode cX2_init 44 = .ok (.iconst 0, 1) := by decide +kernel
theorem dX2_init_45 : decode cX2_init 45 = .ok (.istore_n 1, 1) := by decide +kernel
theorem dX2_init_46 : decode cX2_init 46 = .ok (.iload_n 1, 1) := by decide +kernel
theorem dX2_init_47 : decode cX2_init 47 = .ok (.bipush 16, 2) := by decide +kernel
theorem dX2_init_49 : decode cX2_init 49 = .ok (.if_icmp .ge 22, 3) := by decide +kernel
theorem dX2_init_52 : decode cX2_init 52 = .ok (.aload_n 0, 1) := by decide +kernel
theorem dX2_init_53 : decode cX2_init 53 = .ok (.getfield 29, 3) := by decide +kernel
theorem dX2_init_56 : decode cX2_init 56 = .ok (.iload_n 1, 1) := by decide +kernel
theorem dX2_init_57 : decode cX2_init 57 = .ok (.new 27, 3) := by decide +kernel
theorem dX2_init_60 : decode cX2_init 60 = .ok (.dup, 1) := by decide +kernel
