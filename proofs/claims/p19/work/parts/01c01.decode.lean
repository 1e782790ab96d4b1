theorem dX2_init_61 : decode cX2_init 61 = .ok (.invokespecial 33, 3) := by decide +kernel
theorem dX2_init_64 : decode cX2_init 64 = .ok (.aastore, 1) := by decide +kernel
theorem dX2_init_65 : decode cX2_init 65 = .ok (.iinc 1 1, 3) := by decide +kernel
theorem dX2_init_68 : decode cX2_init 68 = .ok (.goto (-22), 3) := by decide +kernel
theorem dX2_init_71 : decode cX2_init 71 = .ok (.return_, 1) := by decide +kernel
theorem dX2_forget_0 : decode cX2_forget 0 = .ok (.iconst 0, 1) := by decide +kernel
theorem dX2_forget_1 : decode cX2_forget 1 = .ok (.istore_n 1, 1) := by decide +kernel
theorem dX2_forget_2 : decode cX2_forget 2 = .ok (.iload_n 1, 1) := by decide +kernel
theorem dX2_forget_3 : decode cX2_forget 3 = .ok (.bipush 16, 2) := by decide +kernel
theorem dX2_forget_5 : decode cX2_forget 5 = .ok (.if_icmp .ge 16, 3) := by decide +kernel
theorem dX2_forget_8 : decode cX2_forget 8 = .ok (.aload_n 0, 1) := by decide +kernel
theorem dX2_forget_9 : decode cX2_forget 9 = .ok (.getfield 16, 3) := by decide +kernel
theorem dX2_forget_12 : decode cX2_forget 12 = .ok (.iload_n 1, 1) := by decide +kernel
theorem dX2_forget_13 : decode cX2_forget 13 = .ok (.iconst 0, 1) := by decide +kernel
theorem dX2_forget_14 : decode cX2_forget 14 = .ok (.iastore, 1) := by decide +kernel
theorem dX2_forget_15 : decode cX2_forget 15 = .ok (.iinc 1 1, 3) := by decide +kernel
theorem dX2_forget_18 : decode cX2_forget 18 = .ok (.goto (-16), 3) := by decide +kernel
theorem dX2_forget_21 : decode cX2_forget 21 = .ok (.return_, 1) := by decide +kernel
theorem dX2_learn_0 : decode cX2_learn 0 = .ok (.aload_n 0, 1) := by decide +kernel
theorem dX2_learn_1 : decode cX2_learn 1 = .ok (.getfield 16, 3) := by decide +kernel
theorem dX2_learn_4 : decode cX2_learn 4 = .ok (.iload 4, 2) := by decide +kernel
theorem dX2_learn_6 : decode cX2_learn 6 = .ok (.iaload, 1) := by decide +kernel
theorem dX2_learn_7 : decode cX2_learn 7 = .ok (.ifCond .le 4, 3) := by decide +kernel
theorem dX2_learn_10 : decode cX2_learn 10 = .ok (.return_, 1) := by decide +kernel
theorem dX2_learn_11 : decode cX2_learn 11 = .ok (.iconst 0, 1) := by decide +kernel
theorem dX2_learn_12 : decode cX2_learn 12 = .ok (.istore 5, 2) := by decide +kernel
theorem dX2_learn_14 : decode cX2_learn 14 = .ok (.iconst 0, 1) := by decide +kernel
theorem dX2_learn_15 : decode cX2_learn 15 = .ok (.istore 6, 2) := by decide +kernel
theorem dX2_learn_17 : decode cX2_learn 17 = .ok (.iload 6, 2) := by decide +kernel
theorem dX2_learn_19 : decode cX2_learn 19 = .ok (.bipush 16, 2) := by decide +kernel
theorem dX2_learn_21 : decode cX2_learn 21 = .ok (.if_icmp .ge 81, 3) := by decide +kernel
theorem dX2_learn_24 : decode cX2_learn 24 = .ok (.aload_n 0, 1) := by decide +kernel
theorem dX2_learn_25 : decode cX2_learn 25 = .ok (.getfield 29, 3) := by decide +kernel
theorem dX2_learn_28 : decode cX2_learn 28 = .ok (.iload 5, 2) := by decide +kernel
theorem dX2_learn_30 : decode cX2_learn 30 = .ok (.aaload, 1) := by decide +kernel
theorem dX2_learn_31 : decode cX2_learn 31 = .ok (.astore 7, 2) := by decide +kernel
theorem dX2_learn_33 : decode cX2_learn 33 = .ok (.aload_n 1, 1) := by decide +kernel
theorem dX2_learn_34 : decode cX2_learn 34 = .ok (.aload_n 2, 1) := by decide +kernel
theorem dX2_learn_35 : decode cX2_learn 35 = .ok (.aload_n 3, 1) := by decide +kernel
theorem dX2_learn_36 : decode cX2_learn 36 = .ok (.iload 4, 2) := by decide +kernel
theorem dX2_learn_38 : decode cX2_learn 38 = .ok (.iload 6, 2) := by decide +kernel
theorem dX2_learn_40 : decode cX2_learn 40 = .ok (.aload_n 0, 1) := by decide +kernel
theorem dX2_learn_41 : decode cX2_learn 41 = .ok (.getfield 23, 3) := by decide +kernel
theorem dX2_learn_44 : decode cX2_learn 44 = .ok (.invokevirtual 34, 3) := by decide +kernel
theorem dX2_learn_47 : decode cX2_learn 47 = .ok (.aload 7, 2) := by decide +kernel
theorem dX2_learn_49 : decode cX2_learn 49 = .ok (.aload_n 0, 1) := by decide +kernel
theorem dX2_learn_50 : decode cX2_learn 50 = .ok (.getfield 23, 3) := by decide +kernel
theorem dX2_learn_53 : decode cX2_learn 53 = .ok (.aload_n 3, 1) := by decide +kernel
theorem dX2_learn_54 : decode cX2_learn 54 = .ok (.getfield 40, 3) := by decide +kernel
theorem dX2_learn_57 : decode cX2_learn 57 = .ok (.aload_n 3, 1) := by decide +kernel
theorem dX2_learn_58 : decode cX2_learn 58 = .ok (.getfield 46, 3) := by decide +kernel
theorem dX2_learn_61 : decode cX2_learn 61 = .ok (.invokevirtual 49, 3) := by decide +kernel
theorem dX2_learn_64 : decode cX2_learn 64 = .ok (.aload_n 0, 1) := by decide +kernel
theorem dX2_learn_65 : decode cX2_learn 65 = .ok (.aload 7, 2) := by decide +kernel
theorem dX2_learn_67 : decode cX2_learn 67 = .ok (.iload 5, 2) := by decide +kernel
theorem dX2_learn_69 : decode cX2_learn 69 = .ok (.invokevirtual 53, 3) := by decide +kernel
theorem dX2_learn_72 : decode cX2_learn 72 = .ok (.istore 8, 2) := by decide +kernel
theorem dX2_learn_74 : decode cX2_learn 74 = .ok (.aload_n 0, 1) := by decide +kernel
theorem dX2_learn_75 : decode cX2_learn 75 = .ok (.getfield 11, 3) := by decide +kernel
theorem dX2_learn_78 : decode cX2_learn 78 = .ok (.iload 4, 2) := by decide +kernel
theorem dX2_learn_80 : decode cX2_learn 80 = .ok (.aaload, 1) := by decide +kernel
theorem dX2_learn_81 : decode cX2_learn 81 = .ok (.iload 6, 2) := by decide +kernel
theorem dX2_learn_83 : decode cX2_learn 83 = .ok (.iload 8, 2) := by decide +kernel
theorem dX2_learn_85 : decode cX2_learn 85 = .ok (.iastore, 1) := by decide +kernel
theorem dX2_learn_86 : decode cX2_learn 86 = .ok (.iload 8, 2) := by decide +kernel
theorem dX2_learn_88 : decode cX2_learn 88 = .ok (.iload 5, 2) := by decide +kernel
theorem dX2_learn_90 : decode cX2_learn 90 = .ok (.if_icmp .ne 6, 3) := by decide +kernel
theorem dX2_learn_93 : decode cX2_learn 93 = .ok (.iinc 5 1, 3) := by decide +kernel
theorem dX2_learn_96 : decode cX2_learn 96 = .ok (.iinc 6 1, 3) := by decide +kernel
theorem dX2_learn_99 : decode cX2_learn 99 = .ok (.goto (-82), 3) := by decide +kernel
theorem dX2_learn_102 : decode cX2_learn 102 = .ok (.aload_n 0, 1) := by decide +kernel
theorem dX2_learn_103 : decode cX2_learn 103 = .ok (.getfield 16, 3) := by decide +kernel
theorem dX2_learn_106 : decode cX2_learn 106 = .ok (.iload 4, 2) := by decide +kernel
theorem dX2_learn_108 : decode cX2_learn 108 = .ok (.iload 5, 2) := by decide +kernel
theorem dX2_learn_110 : decode cX2_learn 110 = .ok (.iastore, 1) := by decide +kernel
theorem dX2_learn_111 : decode cX2_learn 111 = .ok (.return_, 1) := by decide +kernel
theorem dX2_classAmong_0 : decode cX2_classAmong 0 = .ok (.iconst 0, 1) := by decide +kernel
theorem dX2_classAmong_1 : decode cX2_classAmong 1 = .ok (.istore_n 3, 1) := by decide +kernel
theorem dX2_classAmong_2 : decode cX2_classAmong 2 = .ok (.iload_n 3, 1) := by decide +kernel
theorem dX2_classAmong_3 : decode cX2_classAmong 3 = .ok (.iload_n 2, 1) := by decide +kernel
theorem dX2_classAmong_4 : decode cX2_classAmong 4 = .ok (.if_icmp .ge 25, 3) := by decide +kernel
theorem dX2_classAmong_7 : decode cX2_classAmong 7 = .ok (.aload_n 1, 1) := by decide +kernel
theorem dX2_classAmong_8 : decode cX2_classAmong 8 = .ok (.aload_n 0, 1) := by decide +kernel
theorem dX2_classAmong_9 : decode cX2_classAmong 9 = .ok (.getfield 29, 3) := by decide +kernel
theorem dX2_classAmong_12 : decode cX2_classAmong 12 = .ok (.iload_n 3, 1) := by decide +kernel
theorem dX2_classAmong_13 : decode cX2_classAmong 13 = .ok (.aaload, 1) := by decide +kernel
theorem dX2_classAmong_14 : decode cX2_classAmong 14 = .ok (.invokevirtual 57, 3) := by decide +kernel
theorem dX2_classAmong_17 : decode cX2_classAmong 17 = .ok (.iconst (-1), 1) := by decide +kernel
theorem dX2_classAmong_18 : decode cX2_classAmong 18 = .ok (.if_icmp .ne 5, 3) := by decide +kernel
theorem dX2_classAmong_21 : decode cX2_classAmong 21 = .ok (.iload_n 3, 1) := by decide +kernel
theorem dX2_classAmong_22 : decode cX2_classAmong 22 = .ok (.ireturn, 1) := by decide +kernel
theorem dX2_classAmong_23 : decode cX2_classAmong 23 = .ok (.iinc 3 1, 3) := by decide +kernel
theorem dX2_classAmong_26 : decode cX2_classAmong 26 = .ok (.goto (-24), 3) := by decide +kernel
theorem dX2_classAmong_29 : decode cX2_classAmong 29 = .ok (.iload_n 2, 1) := by decide +kernel
theorem dX2_classAmong_30 : decode cX2_classAmong 30 = .ok (.ireturn, 1) := by decide +kernel
theorem dX2_firstParted_0 : decode cX2_firstParted 0 = .ok (.iconst 1, 1) := by decide +kernel
theorem dX2_firstParted_1 : decode cX2_firstParted 1 = .ok (.istore_n 2, 1) := by decide +kernel
theorem dX2_firstParted_2 : decode cX2_firstParted 2 = .ok (.iload_n 2, 1) := by decide +kernel
theorem dX2_firstParted_3 : decode cX2_firstParted 3 = .ok (.bipush 16, 2) := by decide +kernel
theorem dX2_firstParted_5 : decode cX2_firstParted 5 = .ok (.if_icmp .ge 22, 3) := by decide +kernel
theorem dX2_firstParted_8 : decode cX2_firstParted 8 = .ok (.aload_n 0, 1) := by decide +kernel
theorem dX2_firstParted_9 : decode cX2_firstParted 9 = .ok (.getfield 11, 3) := by decide +kernel
theorem dX2_firstParted_12 : decode cX2_firstParted 12 = .ok (.iload_n 1, 1) := by decide +kernel
theorem dX2_firstParted_13 : decode cX2_firstParted 13 = .ok (.aaload, 1) := by decide +kernel
theorem dX2_firstParted_14 : decode cX2_firstParted 14 = .ok (.iload_n 2, 1) := by decide +kernel
theorem dX2_firstParted_15 : decode cX2_firstParted 15 = .ok (.iaload, 1) := by decide +kernel
theorem dX2_firstParted_16 : decode cX2_firstParted 16 = .ok (.ifCond .eq 5, 3) := by decide +kernel
theorem dX2_firstParted_19 : decode cX2_firstParted 19 = .ok (.iload_n 2, 1) := by decide +kernel
theorem dX2_firstParted_20 : decode cX2_firstParted 20 = .ok (.ireturn, 1) := by decide +kernel
theorem dX2_firstParted_21 : decode cX2_firstParted 21 = .ok (.iinc 2 1, 3) := by decide +kernel
theorem dX2_firstParted_24 : decode cX2_firstParted 24 = .ok (.goto (-22), 3) := by decide +kernel
theorem dX2_firstParted_27 : decode cX2_firstParted 27 = .ok (.iconst (-1), 1) := by decide +kernel
theorem dX2_firstParted_28 : decode cX2_firstParted 28 = .ok (.ireturn, 1) := by decide +kernel
theorem dX3_init_0 : decode cX3_init 0 = .ok (.aload_n 0, 1) := by decide +kernel
theorem dX3_init_1 : decode cX3_init 1 = .ok (.invokespecial 3, 3) := by decide +kernel
theorem dX3_init_4 : decode cX3_init 4 = .ok (.aload_n 0, 1) := by decide +kernel
theorem dX3_init_5 : decode cX3_init 5 = .ok (.bipush 8, 2) := by decide +kernel
theorem dX3_init_7 : decode cX3_init 7 = .ok (.newarray .int, 2) := by decide +kernel
theorem dX3_init_9 : decode cX3_init 9 = .ok (.putfield 9, 3) := by decide +kernel
theorem dX3_init_12 : decode cX3_init 12 = .ok (.aload_n 0, 1) := by decide +kernel
theorem dX3_init_13 : decode cX3_init 13 = .ok (.bipush 8, 2) := by decide +kernel
theorem dX3_init_15 : decode cX3_init 15 = .ok (.newarray .int, 2) := by decide +kernel
theorem dX3_init_17 : decode cX3_init 17 = .ok (.putfield 15, 3) := by decide +kernel
theorem dX3_init_20 : decode cX3_init 20 = .ok (.aload_n 0, 1) := by decide +kernel
theorem dX3_init_21 : decode cX3_init 21 = .ok (.bipush 8, 2) := by decide +kernel
theorem dX3_init_23 : decode cX3_init 23 = .ok (.newarray .int, 2) := by decide +kernel
theorem dX3_init_25 : decode cX3_init 25 = .ok (.putfield 18, 3) := by decide +kernel
theorem dX3_init_28 : decode cX3_init 28 = .ok (.aload_n 0, 1) := by decide +kernel
theorem dX3_init_29 : decode cX3_init 29 = .ok (.iconst 0, 1) := by decide +kernel
theorem dX3_init_30 : decode cX3_init 30 = .ok (.putfield 21, 3) := by decide +kernel
theorem dX3_init_33 : decode cX3_init 33 = .ok (.return_, 1) := by decide +kernel
theorem dX3_has_0 : decode cX3_has 0 = .ok (.iload_n 1, 1) := by decide +kernel
theorem dX3_has_1 : decode cX3_has 1 = .ok (.ifCond .lt 15, 3) := by decide +kernel
theorem dX3_has_4 : decode cX3_has 4 = .ok (.iload_n 1, 1) := by decide +kernel
theorem dX3_has_5 : decode cX3_has 5 = .ok (.aload_n 0, 1) := by decide +kernel
theorem dX3_has_6 : decode cX3_has 6 = .ok (.getfield 21, 3) := by decide +kernel
theorem dX3_has_9 : decode cX3_has 9 = .ok (.if_icmp .ge 7, 3) := by decide +kernel
theorem dX3_has_12 : decode cX3_has 12 = .ok (.iconst 1, 1) := by decide +kernel
theorem dX3_has_13 : decode cX3_has 13 = .ok (.goto 4, 3) := by decide +kernel
theorem dX3_has_16 : decode cX3_has 16 = .ok (.iconst 0, 1) := by decide +kernel
theorem dX3_has_17 : decode cX3_has 17 = .ok (.ireturn, 1) := by decide +kernel
theorem dX3_append_0 : decode cX3_append 0 = .ok (.aload_n 0, 1) := by decide +kernel
theorem dX3_append_1 : decode cX3_append 1 = .ok (.getfield 21, 3) := by decide +kernel
theorem dX3_append_4 : decode cX3_append 4 = .ok (.bipush 8, 2) := by decide +kernel
theorem dX3_append_6 : decode cX3_append 6 = .ok (.if_icmp .lt 5, 3) := by decide +kernel
theorem dX3_append_9 : decode cX3_append 9 = .ok (.iconst (-1), 1) := by decide +kernel
theorem dX3_append_10 : decode cX3_append 10 = .ok (.ireturn, 1) := by decide +kernel
theorem dX3_append_11 : decode cX3_append 11 = .ok (.aload_n 0, 1) := by decide +kernel
theorem dX3_append_12 : decode cX3_append 12 = .ok (.getfield 9, 3) := by decide +kernel
theorem dX3_append_15 : decode cX3_append 15 = .ok (.aload_n 0, 1) := by decide +kernel
theorem dX3_append_16 : decode cX3_append 16 = .ok (.getfield 21, 3) := by decide +kernel
theorem dX3_append_19 : decode cX3_append 19 = .ok (.iload_n 1, 1) := by decide +kernel
theorem dX3_append_20 : decode cX3_append 20 = .ok (.iastore, 1) := by decide +kernel
theorem dX3_append_21 : decode cX3_append 21 = .ok (.aload_n 0, 1) := by decide +kernel
theorem dX3_append_22 : decode cX3_append 22 = .ok (.getfield 15, 3) := by decide +kernel
theorem dX3_append_25 : decode cX3_append 25 = .ok (.aload_n 0, 1) := by decide +kernel
theorem dX3_append_26 : decode cX3_append 26 = .ok (.getfield 21, 3) := by decide +kernel
theorem dX3_append_29 : decode cX3_append 29 = .ok (.iconst 1, 1) := by decide +kernel
theorem dX3_append_30 : decode cX3_append 30 = .ok (.iastore, 1) := by decide +kernel
theorem dX3_append_31 : decode cX3_append 31 = .ok (.aload_n 0, 1) := by decide +kernel
theorem dX3_append_32 : decode cX3_append 32 = .ok (.dup, 1) := by decide +kernel
theorem dX3_append_33 : decode cX3_append 33 = .ok (.getfield 21, 3) := by decide +kernel
theorem dX3_append_36 : decode cX3_append 36 = .ok (.iconst 1, 1) := by decide +kernel
theorem dX3_append_37 : decode cX3_append 37 = .ok (.iadd, 1) := by decide +kernel
theorem dX3_append_38 : decode cX3_append 38 = .ok (.putfield 21, 3) := by decide +kernel
theorem dX3_append_41 : decode cX3_append 41 = .ok (.aload_n 0, 1) := by decide +kernel
theorem dX3_append_42 : decode cX3_append 42 = .ok (.getfield 21, 3) := by decide +kernel
theorem dX3_append_45 : decode cX3_append 45 = .ok (.iconst 1, 1) := by decide +kernel
theorem dX3_append_46 : decode cX3_append 46 = .ok (.isub, 1) := by decide +kernel
theorem dX3_append_47 : decode cX3_append 47 = .ok (.ireturn, 1) := by decide +kernel
theorem dX3_empty_0 : decode cX3_empty 0 = .ok (.aload_n 0, 1) := by decide +kernel
theorem dX3_empty_1 : decode cX3_empty 1 = .ok (.iconst 0, 1) := by decide +kernel
theorem dX3_empty_2 : decode cX3_empty 2 = .ok (.putfield 21, 3) := by decide +kernel
theorem dX3_empty_5 : decode cX3_empty 5 = .ok (.return_, 1) := by decide +kernel
theorem dX3_allPlaces_0 : decode cX3_allPlaces 0 = .ok (.iconst 1, 1) := by decide +kernel
theorem dX3_allPlaces_1 : decode cX3_allPlaces 1 = .ok (.aload_n 0, 1) := by decide +kernel
theorem dX3_allPlaces_2 : decode cX3_allPlaces 2 = .ok (.getfield 21, 3) := by decide +kernel
theorem dX3_allPlaces_5 : decode cX3_allPlaces 5 = .ok (.ishl, 1) := by decide +kernel
theorem dX3_allPlaces_6 : decode cX3_allPlaces 6 = .ok (.iconst 1, 1) := by decide +kernel
theorem dX3_allPlaces_7 : decode cX3_allPlaces 7 = .ok (.isub, 1) := by decide +kernel
theorem dX3_allPlaces_8 : decode cX3_allPlaces 8 = .ok (.ireturn, 1) := by decide +kernel
theorem dX3_priceOf_0 : decode cX3_priceOf 0 = .ok (.iconst 0, 1) := by decide +kernel
theorem dX3_priceOf_1 : decode cX3_priceOf 1 = .ok (.istore_n 2, 1) := by decide +kernel
theorem dX3_priceOf_2 : decode cX3_priceOf 2 = .ok (.iconst 0, 1) := by decide +kernel
theorem dX3_priceOf_3 : decode cX3_priceOf 3 = .ok (.istore_n 3, 1) := by decide +kernel
theorem dX3_priceOf_4 : decode cX3_priceOf 4 = .ok (.iload_n 3, 1) := by decide +kernel
theorem dX3_priceOf_5 : decode cX3_priceOf 5 = .ok (.aload_n 0, 1) := by decide +kernel
theorem dX3_priceOf_6 : decode cX3_priceOf 6 = .ok (.getfield 21, 3) := by decide +kernel
theorem dX3_priceOf_9 : decode cX3_priceOf 9 = .ok (.if_icmp .ge 26, 3) := by decide +kernel
theorem dX3_priceOf_12 : decode cX3_priceOf 12 = .ok (.iload_n 1, 1) := by decide +kernel
theorem dX3_priceOf_13 : decode cX3_priceOf 13 = .ok (.iload_n 3, 1) := by decide +kernel
theorem dX3_priceOf_14 : decode cX3_priceOf 14 = .ok (.ishr, 1) := by decide +kernel
theorem dX3_priceOf_15 : decode cX3_priceOf 15 = .ok (.iconst 1, 1) := by decide +kernel
theorem dX3_priceOf_16 : decode cX3_priceOf 16 = .ok (.iand, 1) := by decide +kernel
theorem dX3_priceOf_17 : decode cX3_priceOf 17 = .ok (.ifCond .eq 12, 3) := by decide +kernel
theorem dX3_priceOf_20 : decode cX3_priceOf 20 = .ok (.iload_n 2, 1) := by decide +kernel
theorem dX3_priceOf_21 : decode cX3_priceOf 21 = .ok (.aload_n 0, 1) := by decide +kernel
theorem dX3_priceOf_22 : decode cX3_priceOf 22 = .ok (.getfield 15, 3) := by decide +kernel
theorem dX3_priceOf_25 : decode cX3_priceOf 25 = .ok (.iload_n 3, 1) := by decide +kernel
theorem dX3_priceOf_26 : decode cX3_priceOf 26 = .ok (.iaload, 1) := by decide +kernel
theorem dX3_priceOf_27 : decode cX3_priceOf 27 = .ok (.iadd, 1) := by decide +kernel
theorem dX3_priceOf_28 : decode cX3_priceOf 28 = .ok (.istore_n 2, 1) := by decide +kernel
theorem dX3_priceOf_29 : decode cX3_priceOf 29 = .ok (.iinc 3 1, 3) := by decide +kernel
theorem dX3_priceOf_32 : decode cX3_priceOf 32 = .ok (.goto (-28), 3) := by decide +kernel
theorem dX3_priceOf_35 : decode cX3_priceOf 35 = .ok (.iload_n 2, 1) := by decide +kernel
theorem dX3_priceOf_36 : decode cX3_priceOf 36 = .ok (.ireturn, 1) := by decide +kernel
theorem dX3_placesUnder_0 : decode cX3_placesUnder 0 = .ok (.iconst 0, 1) := by decide +kernel
theorem dX3_placesUnder_1 : decode cX3_placesUnder 1 = .ok (.istore_n 2, 1) := by decide +kernel
theorem dX3_placesUnder_2 : decode cX3_placesUnder 2 = .ok (.iconst 0, 1) := by decide +kernel
theorem dX3_placesUnder_3 : decode cX3_placesUnder 3 = .ok (.istore_n 3, 1) := by decide +kernel
theorem dX3_placesUnder_4 : decode cX3_placesUnder 4 = .ok (.iload_n 3, 1) := by decide +kernel
theorem dX3_placesUnder_5 : decode cX3_placesUnder 5 = .ok (.aload_n 0, 1) := by decide +kernel
theorem dX3_placesUnder_6 : decode cX3_placesUnder 6 = .ok (.getfield 21, 3) := by decide +kernel
theorem dX3_placesUnder_9 : decode cX3_placesUnder 9 = .ok (.if_icmp .ge 32, 3) := by decide +kernel
theorem dX3_placesUnder_12 : decode cX3_placesUnder 12 = .ok (.aload_n 0, 1) := by decide +kernel
theorem dX3_placesUnder_13 : decode cX3_placesUnder 13 = .ok (.getfield 9, 3) := by decide +kernel
theorem dX3_placesUnder_16 : decode cX3_placesUnder 16 = .ok (.iload_n 3, 1) := by decide +kernel
theorem dX3_placesUnder_17 : decode cX3_placesUnder 17 = .ok (.iaload, 1) := by decide +kernel
theorem dX3_placesUnder_18 : decode cX3_placesUnder 18 = .ok (.bipush 12, 2) := by decide +kernel
theorem dX3_placesUnder_20 : decode cX3_placesUnder 20 = .ok (.ishr, 1) := by decide +kernel
theorem dX3_placesUnder_21 : decode cX3_placesUnder 21 = .ok (.invokestatic 25, 3) := by decide +kernel
theorem dX3_placesUnder_24 : decode cX3_placesUnder 24 = .ok (.iload_n 1, 1) := by decide +kernel
theorem dX3_placesUnder_25 : decode cX3_placesUnder 25 = .ok (.iand, 1) := by decide +kernel
theorem dX3_placesUnder_26 : decode cX3_placesUnder 26 = .ok (.ifCond .eq 9, 3) := by decide +kernel
theorem dX3_placesUnder_29 : decode cX3_placesUnder 29 = .ok (.iload_n 2, 1) := by decide +kernel
theorem dX3_placesUnder_30 : decode cX3_placesUnder 30 = .ok (.iconst 1, 1) := by decide +kernel
theorem dX3_placesUnder_31 : decode cX3_placesUnder 31 = .ok (.iload_n 3, 1) := by decide +kernel
theorem dX3_placesUnder_32 : decode cX3_placesUnder 32 = .ok (.ishl, 1) := by decide +kernel
theorem dX3_placesUnder_33 : decode cX3_placesUnder 33 = .ok (.ior, 1) := by decide +kernel
theorem dX3_placesUnder_34 : decode cX3_placesUnder 34 = .ok (.istore_n 2, 1) := by decide +kernel
theorem dX3_placesUnder_35 : decode cX3_placesUnder 35 = .ok (.iinc 3 1, 3) := by decide +kernel
theorem dX3_placesUnder_38 : decode cX3_placesUnder 38 = .ok (.goto (-34), 3) := by decide +kernel
theorem dX3_placesUnder_41 : decode cX3_placesUnder 41 = .ok (.iload_n 2, 1) := by decide +kernel
theorem dX3_placesUnder_42 : decode cX3_placesUnder 42 = .ok (.ireturn, 1) := by decide +kernel
theorem dX3_eyeOn_0 : decode cX3_eyeOn 0 = .ok (.iload_n 0, 1) := by decide +kernel
theorem dX3_eyeOn_1 : decode cX3_eyeOn 1 = .ok (.tableswitch 37 4 7 #[31, 33, 33, 35], 31) := by decide +kernel
theorem dX3_eyeOn_32 : decode cX3_eyeOn 32 = .ok (.iconst 1, 1) := by decide +kernel
theorem dX3_eyeOn_33 : decode cX3_eyeOn 33 = .ok (.ireturn, 1) := by decide +kernel
theorem dX3_eyeOn_34 : decode cX3_eyeOn 34 = .ok (.iconst 2, 1) := by decide +kernel
theorem dX3_eyeOn_35 : decode cX3_eyeOn 35 = .ok (.ireturn, 1) := by decide +kernel
theorem dX3_eyeOn_36 : decode cX3_eyeOn 36 = .ok (.iconst 4, 1) := by decide +kernel
theorem dX3_eyeOn_37 : decode cX3_eyeOn 37 = .ok (.ireturn, 1) := by decide +kernel
theorem dX3_eyeOn_38 : decode cX3_eyeOn 38 = .ok (.iconst 0, 1) := by decide +kernel
theorem dX3_eyeOn_39 : decode cX3_eyeOn 39 = .ok (.ireturn, 1) := by decide +kernel
theorem dX4_init_0 : decode cX4_init 0 = .ok (.aload_n 0, 1) := by decide +kernel
theorem dX4_init_1 : decode cX4_init 1 = .ok (.invokespecial 3, 3) := by decide +kernel
theorem dX4_init_4 : decode cX4_init 4 = .ok (.aload_n 0, 1) := by decide +kernel
theorem dX4_init_5 : decode cX4_init 5 = .ok (.bipush 42, 2) := by decide +kernel
theorem dX4_init_7 : decode cX4_init 7 = .ok (.newarray .int, 2) := by decide +kernel
theorem dX4_init_9 : decode cX4_init 9 = .ok (.putfield 11, 3) := by decide +kernel
theorem dX4_init_12 : decode cX4_init 12 = .ok (.aload_n 0, 1) := by decide +kernel
theorem dX4_init_13 : decode cX4_init 13 = .ok (.bipush 42, 2) := by decide +kernel
theorem dX4_init_15 : decode cX4_init 15 = .ok (.newarray .int, 2) := by decide +kernel
theorem dX4_init_17 : decode cX4_init 17 = .ok (.putfield 15, 3) := by decide +kernel
theorem dX4_init_20 : decode cX4_init 20 = .ok (.aload_n 0, 1) := by decide +kernel
theorem dX4_init_21 : decode cX4_init 21 = .ok (.bipush 42, 2) := by decide +kernel
theorem dX4_init_23 : decode cX4_init 23 = .ok (.newarray .int, 2) := by decide +kernel
theorem dX4_init_25 : decode cX4_init 25 = .ok (.putfield 18, 3) := by decide +kernel
theorem dX4_init_28 : decode cX4_init 28 = .ok (.aload_n 0, 1) := by decide +kernel
theorem dX4_init_29 : decode cX4_init 29 = .ok (.iconst 0, 1) := by decide +kernel
theorem dX4_init_30 : decode cX4_init 30 = .ok (.putfield 21, 3) := by decide +kernel
theorem dX4_init_33 : decode cX4_init 33 = .ok (.return_, 1) := by decide +kernel
theorem dX4_has_0 : decode cX4_has 0 = .ok (.iload_n 1, 1) := by decide +kernel
theorem dX4_has_1 : decode cX4_has 1 = .ok (.ifCond .lt 15, 3) := by decide +kernel
theorem dX4_has_4 : decode cX4_has 4 = .ok (.iload_n 1, 1) := by decide +kernel
theorem dX4_has_5 : decode cX4_has 5 = .ok (.aload_n 0, 1) := by decide +kernel
theorem dX4_has_6 : decode cX4_has 6 = .ok (.getfield 21, 3) := by decide +kernel
theorem dX4_has_9 : decode cX4_has 9 = .ok (.if_icmp .ge 7, 3) := by decide +kernel
theorem dX4_has_12 : decode cX4_has 12 = .ok (.iconst 1, 1) := by decide +kernel
theorem dX4_has_13 : decode cX4_has 13 = .ok (.goto 4, 3) := by decide +kernel
theorem dX4_has_16 : decode cX4_has 16 = .ok (.iconst 0, 1) := by decide +kernel
theorem dX4_has_17 : decode cX4_has 17 = .ok (.ireturn, 1) := by decide +kernel
theorem dX4_fill_0 : decode cX4_fill 0 = .ok (.aload_n 0, 1) := by decide +kernel
theorem dX4_fill_1 : decode cX4_fill 1 = .ok (.iconst 0, 1) := by decide +kernel
theorem dX4_fill_2 : decode cX4_fill 2 = .ok (.putfield 21, 3) := by decide +kernel
theorem dX4_fill_5 : decode cX4_fill 5 = .ok (.iconst 0, 1) := by decide +kernel
theorem dX4_fill_6 : decode cX4_fill 6 = .ok (.istore 4, 2) := by decide +kernel
theorem dX4_fill_8 : decode cX4_fill 8 = .ok (.iload 4, 2) := by decide +kernel
theorem dX4_fill_10 : decode cX4_fill 10 = .ok (.aload_n 1, 1) := by decide +kernel
theorem dX4_fill_11 : decode cX4_fill 11 = .ok (.getfield 25, 3) := by decide +kernel
theorem dX4_fill_14 : decode cX4_fill 14 = .ok (.if_icmp .ge 48, 3) := by decide +kernel
theorem dX4_fill_17 : decode cX4_fill 17 = .ok (.iload_n 3, 1) := by decide +kernel
theorem dX4_fill_18 : decode cX4_fill 18 = .ok (.aload_n 1, 1) := by decide +kernel
theorem dX4_fill_19 : decode cX4_fill 19 = .ok (.getfield 28, 3) := by decide +kernel
theorem dX4_fill_22 : decode cX4_fill 22 = .ok (.iload 4, 2) := by decide +kernel
theorem dX4_fill_24 : decode cX4_fill 24 = .ok (.iaload, 1) := by decide +kernel
theorem dX4_fill_25 : decode cX4_fill 25 = .ok (.ishr, 1) := by decide +kernel
theorem dX4_fill_26 : decode cX4_fill 26 = .ok (.iconst 1, 1) := by decide +kernel
theorem dX4_fill_27 : decode cX4_fill 27 = .ok (.iand, 1) := by decide +kernel
theorem dX4_fill_28 : decode cX4_fill 28 = .ok (.ifCond .ne 28, 3) := by decide +kernel
theorem dX4_fill_31 : decode cX4_fill 31 = .ok (.aload_n 0, 1) := by decide +kernel
theorem dX4_fill_32 : decode cX4_fill 32 = .ok (.aload_n 1, 1) := by decide +kernel
theorem dX4_fill_33 : decode cX4_fill 33 = .ok (.getfield 28, 3) := by decide +kernel
theorem dX4_fill_36 : decode cX4_fill 36 = .ok (.iload 4, 2) := by decide +kernel
theorem dX4_fill_38 : decode cX4_fill 38 = .ok (.iaload, 1) := by decide +kernel
theorem dX4_fill_39 : decode cX4_fill 39 = .ok (.aload_n 1, 1) := by decide +kernel
theorem dX4_fill_40 : decode cX4_fill 40 = .ok (.getfield 29, 3) := by decide +kernel
theorem dX4_fill_43 : decode cX4_fill 43 = .ok (.iload 4, 2) := by decide +kernel
theorem dX4_fill_45 : decode cX4_fill 45 = .ok (.iaload, 1) := by decide +kernel
theorem dX4_fill_46 : decode cX4_fill 46 = .ok (.aload_n 1, 1) := by decide +kernel
theorem dX4_fill_47 : decode cX4_fill 47 = .ok (.getfield 30, 3) := by decide +kernel
theorem dX4_fill_50 : decode cX4_fill 50 = .ok (.iload 4, 2) := by decide +kernel
theorem dX4_fill_52 : decode cX4_fill 52 = .ok (.iaload, 1) := by decide +kernel
theorem dX4_fill_53 : decode cX4_fill 53 = .ok (.invokevirtual 31, 3) := by decide +kernel
theorem dX4_fill_56 : decode cX4_fill 56 = .ok (.iinc 4 1, 3) := by decide +kernel
theorem dX4_fill_59 : decode cX4_fill 59 = .ok (.goto (-51), 3) := by decide +kernel
theorem dX4_fill_62 : decode cX4_fill 62 = .ok (.iload_n 2, 1) := by decide +kernel
theorem dX4_fill_63 : decode cX4_fill 63 = .ok (.iconst 1, 1) := by decide +kernel
theorem dX4_fill_64 : decode cX4_fill 64 = .ok (.iand, 1) := by decide +kernel
theorem dX4_fill_65 : decode cX4_fill 65 = .ok (.ifCond .eq 29, 3) := by decide +kernel
theorem dX4_fill_68 : decode cX4_fill 68 = .ok (.aload_n 0, 1) := by decide +kernel
theorem dX4_fill_69 : decode cX4_fill 69 = .ok (.iconst (-1), 1) := by decide +kernel
theorem dX4_fill_70 : decode cX4_fill 70 = .ok (.iconst 1, 1) := by decide +kernel
theorem dX4_fill_71 : decode cX4_fill 71 = .ok (.iconst 2, 1) := by decide +kernel
theorem dX4_fill_72 : decode cX4_fill 72 = .ok (.aload_n 1, 1) := by decide +kernel
theorem dX4_fill_73 : decode cX4_fill 73 = .ok (.iload_n 3, 1) := by decide +kernel
theorem dX4_fill_74 : decode cX4_fill 74 = .ok (.invokevirtual 35, 3) := by decide +kernel
theorem dX4_fill_77 : decode cX4_fill 77 = .ok (.imul, 1) := by decide +kernel
theorem dX4_fill_78 : decode cX4_fill 78 = .ok (.aload_n 1, 1) := by decide +kernel
theorem dX4_fill_79 : decode cX4_fill 79 = .ok (.getfield 39, 3) := by decide +kernel
theorem dX4_fill_82 : decode cX4_fill 82 = .ok (.ifCond .eq 7, 3) := by decide +kernel
theorem dX4_fill_85 : decode cX4_fill 85 = .ok (.iconst 1, 1) := by decide +kernel
theorem dX4_fill_86 : decode cX4_fill 86 = .ok (.goto 4, 3) := by decide +kernel
theorem dX4_fill_89 : decode cX4_fill 89 = .ok (.iconst 0, 1) := by decide +kernel
theorem dX4_fill_90 : decode cX4_fill 90 = .ok (.iadd, 1) := by decide +kernel
theorem dX4_fill_91 : decode cX4_fill 91 = .ok (.invokevirtual 31, 3) := by decide +kernel
theorem dX4_fill_94 : decode cX4_fill 94 = .ok (.iload_n 2, 1) := by decide +kernel
theorem dX4_fill_95 : decode cX4_fill 95 = .ok (.bipush 8, 2) := by decide +kernel
theorem dX4_fill_97 : decode cX4_fill 97 = .ok (.iand, 1) := by decide +kernel
theorem dX4_fill_98 : decode cX4_fill 98 = .ok (.ifCond .eq 14, 3) := by decide +kernel
theorem dX4_fill_101 : decode cX4_fill 101 = .ok (.aload_n 0, 1) := by decide +kernel
theorem dX4_fill_102 : decode cX4_fill 102 = .ok (.iconst (-1), 1) := by decide +kernel
theorem dX4_fill_103 : decode cX4_fill 103 = .ok (.bipush 8, 2) := by decide +kernel
theorem dX4_fill_105 : decode cX4_fill 105 = .ok (.aload_n 1, 1) := by decide +kernel
theorem dX4_fill_106 : decode cX4_fill 106 = .ok (.getfield 43, 3) := by decide +kernel
theorem dX4_fill_109 : decode cX4_fill 109 = .ok (.invokevirtual 31, 3) := by decide +kernel
theorem dX4_fill_112 : decode cX4_fill 112 = .ok (.return_, 1) := by decide +kernel
theorem dX4_add_0 : decode cX4_add 0 = .ok (.aload_n 0, 1) := by decide +kernel
theorem dX4_add_1 : decode cX4_add 1 = .ok (.getfield 21, 3) := by decide +kernel
theorem dX4_add_4 : decode cX4_add 4 = .ok (.bipush 42, 2) := by decide +kernel
theorem dX4_add_6 : decode cX4_add 6 = .ok (.if_icmp .lt 4, 3) := by decide +kernel
theorem dX4_add_9 : decode cX4_add 9 = .ok (.return_, 1) := by decide +kernel
theorem dX4_add_10 : decode cX4_add 10 = .ok (.aload_n 0, 1) := by decide +kernel
theorem dX4_add_11 : decode cX4_add 11 = .ok (.getfield 11, 3) := by decide +kernel
theorem dX4_add_14 : decode cX4_add 14 = .ok (.aload_n 0, 1) := by decide +kernel
theorem dX4_add_15 : decode cX4_add 15 = .ok (.getfield 21, 3) := by decide +kernel
theorem dX4_add_18 : decode cX4_add 18 = .ok (.iload_n 1, 1) := by decide +kernel
theorem dX4_add_19 : decode cX4_add 19 = .ok (.iastore, 1) := by decide +kernel
theorem dX4_add_20 : decode cX4_add 20 = .ok (.aload_n 0, 1) := by decide +kernel
theorem dX4_add_21 : decode cX4_add 21 = .ok (.getfield 15, 3) := by decide +kernel
theorem dX4_add_24 : decode cX4_add 24 = .ok (.aload_n 0, 1) := by decide +kernel
theorem dX4_add_25 : decode cX4_add 25 = .ok (.getfield 21, 3) := by decide +kernel
theorem dX4_add_28 : decode cX4_add 28 = .ok (.iload_n 2, 1) := by decide +kernel
theorem dX4_add_29 : decode cX4_add 29 = .ok (.iastore, 1) := by decide +kernel
theorem dX4_add_30 : decode cX4_add 30 = .ok (.aload_n 0, 1) := by decide +kernel
theorem dX4_add_31 : decode cX4_add 31 = .ok (.getfield 18, 3) := by decide +kernel
theorem dX4_add_34 : decode cX4_add 34 = .ok (.aload_n 0, 1) := by decide +kernel
theorem dX4_add_35 : decode cX4_add 35 = .ok (.getfield 21, 3) := by decide +kernel
theorem dX4_add_38 : decode cX4_add 38 = .ok (.iload_n 3, 1) := by decide +kernel
theorem dX4_add_39 : decode cX4_add 39 = .ok (.iastore, 1) := by decide +kernel
theorem dX4_add_40 : decode cX4_add 40 = .ok (.aload_n 0, 1) := by decide +kernel
theorem dX4_add_41 : decode cX4_add 41 = .ok (.dup, 1) := by decide +kernel
theorem dX4_add_42 : decode cX4_add 42 = .ok (.getfield 21, 3) := by decide +kernel
theorem dX4_add_45 : decode cX4_add 45 = .ok (.iconst 1, 1) := by decide +kernel
theorem dX4_add_46 : decode cX4_add 46 = .ok (.iadd, 1) := by decide +kernel
theorem dX4_add_47 : decode cX4_add 47 = .ok (.putfield 21, 3) := by decide +kernel
theorem dX4_add_50 : decode cX4_add 50 = .ok (.return_, 1) := by decide +kernel
theorem dX4_firstOtherwise_0 : decode cX4_firstOtherwise 0 = .ok (.aload_n 0, 1) := by decide +kernel
theorem dX4_firstOtherwise_1 : decode cX4_firstOtherwise 1 = .ok (.getfield 21, 3) := by decide +kernel
theorem dX4_firstOtherwise_4 : decode cX4_firstOtherwise 4 = .ok (.aload_n 1, 1) := by decide +kernel
theorem dX4_firstOtherwise_5 : decode cX4_firstOtherwise 5 = .ok (.getfield 21, 3) := by decide +kernel
theorem dX4_firstOtherwise_8 : decode cX4_firstOtherwise 8 = .ok (.invokestatic 46, 3) := by decide +kernel
theorem dX4_firstOtherwise_11 : decode cX4_firstOtherwise 11 = .ok (.istore_n 2, 1) := by decide +kernel
theorem dX4_firstOtherwise_12 : decode cX4_firstOtherwise 12 = .ok (.iconst 0, 1) := by decide +kernel
theorem dX4_firstOtherwise_13 : decode cX4_firstOtherwise 13 = .ok (.istore_n 3, 1) := by decide +kernel
theorem dX4_firstOtherwise_14 : decode cX4_firstOtherwise 14 = .ok (.iload_n 3, 1) := by decide +kernel
theorem dX4_firstOtherwise_15 : decode cX4_firstOtherwise 15 = .ok (.iload_n 2, 1) := by decide +kernel
theorem dX4_firstOtherwise_16 : decode cX4_firstOtherwise 16 = .ok (.if_icmp .ge 41, 3) := by decide +kernel
theorem dX4_firstOtherwise_19 : decode cX4_firstOtherwise 19 = .ok (.aload_n 0, 1) := by decide +kernel
theorem dX4_firstOtherwise_20 : decode cX4_firstOtherwise 20 = .ok (.getfield 15, 3) := by decide +kernel
theorem dX4_firstOtherwise_23 : decode cX4_firstOtherwise 23 = .ok (.iload_n 3, 1) := by decide +kernel
theorem dX4_firstOtherwise_24 : decode cX4_firstOtherwise 24 = .ok (.iaload, 1) := by decide +kernel
theorem dX4_firstOtherwise_25 : decode cX4_firstOtherwise 25 = .ok (.aload_n 1, 1) := by decide +kernel
theorem dX4_firstOtherwise_26 : decode cX4_firstOtherwise 26 = .ok (.getfield 15, 3) := by decide +kernel
theorem dX4_firstOtherwise_29 : decode cX4_firstOtherwise 29 = .ok (.iload_n 3, 1) := by decide +kernel
theorem dX4_firstOtherwise_30 : decode cX4_firstOtherwise 30 = .ok (.iaload, 1) := by decide +kernel
theorem dX4_firstOtherwise_31 : decode cX4_firstOtherwise 31 = .ok (.if_icmp .ne 18, 3) := by decide +kernel
theorem dX4_firstOtherwise_34 : decode cX4_firstOtherwise 34 = .ok (.aload_n 0, 1) := by decide +kernel
theorem dX4_firstOtherwise_35 : decode cX4_firstOtherwise 35 = .ok (.getfield 18, 3) := by decide +kernel
theorem dX4_firstOtherwise_38 : decode cX4_firstOtherwise 38 = .ok (.iload_n 3, 1) := by decide +kernel
theorem dX4_firstOtherwise_39 : decode cX4_firstOtherwise 39 = .ok (.iaload, 1) := by decide +kernel
theorem dX4_firstOtherwise_40 : decode cX4_firstOtherwise 40 = .ok (.aload_n 1, 1) := by decide +kernel
theorem dX4_firstOtherwise_41 : decode cX4_firstOtherwise 41 = .ok (.getfield 18, 3) := by decide +kernel
theorem dX4_firstOtherwise_44 : decode cX4_firstOtherwise 44 = .ok (.iload_n 3, 1) := by decide +kernel
theorem dX4_firstOtherwise_45 : decode cX4_firstOtherwise 45 = .ok (.iaload, 1) := by decide +kernel
theorem dX4_firstOtherwise_46 : decode cX4_firstOtherwise 46 = .ok (.if_icmp .eq 5, 3) := by decide +kernel
theorem dX4_firstOtherwise_49 : decode cX4_firstOtherwise 49 = .ok (.iload_n 3, 1) := by decide +kernel
theorem dX4_firstOtherwise_50 : decode cX4_firstOtherwise 50 = .ok (.ireturn, 1) := by decide +kernel
theorem dX4_firstOtherwise_51 : decode cX4_firstOtherwise 51 = .ok (.iinc 3 1, 3) := by decide +kernel
theorem dX4_firstOtherwise_54 : decode cX4_firstOtherwise 54 = .ok (.goto (-40), 3) := by decide +kernel
theorem dX4_firstOtherwise_57 : decode cX4_firstOtherwise 57 = .ok (.aload_n 0, 1) := by decide +kernel
theorem dX4_firstOtherwise_58 : decode cX4_firstOtherwise 58 = .ok (.getfield 21, 3) := by decide +kernel
theorem dX4_firstOtherwise_61 : decode cX4_firstOtherwise 61 = .ok (.aload_n 1, 1) := by decide +kernel
theorem dX4_firstOtherwise_62 : decode cX4_firstOtherwise 62 = .ok (.getfield 21, 3) := by decide +kernel
theorem dX4_firstOtherwise_65 : decode cX4_firstOtherwise 65 = .ok (.if_icmp .ne 7, 3) := by decide +kernel
theorem dX4_firstOtherwise_68 : decode cX4_firstOtherwise 68 = .ok (.iconst (-1), 1) := by decide +kernel
theorem dX4_firstOtherwise_69 : decode cX4_firstOtherwise 69 = .ok (.goto 4, 3) := by decide +kernel
theorem dX4_firstOtherwise_72 : decode cX4_firstOtherwise 72 = .ok (.iload_n 2, 1) := by decide +kernel
theorem dX4_firstOtherwise_73 : decode cX4_firstOtherwise 73 = .ok (.ireturn, 1) := by decide +kernel
theorem dX5_init_0 : decode cX5_init 0 = .ok (.aload_n 0, 1) := by decide +kernel
theorem dX5_init_1 : decode cX5_init 1 = .ok (.invokespecial 3, 3) := by decide +kernel
theorem dX5_init_4 : decode cX5_init 4 = .ok (.aload_n 0, 1) := by decide +kernel
theorem dX5_init_5 : decode cX5_init 5 = .ok (.bipush 40, 2) := by decide +kernel
theorem dX5_init_7 : decode cX5_init 7 = .ok (.newarray .int, 2) := by decide +kernel
theorem dX5_init_9 : decode cX5_init 9 = .ok (.putfield 9, 3) := by decide +kernel
theorem dX5_init_12 : decode cX5_init 12 = .ok (.aload_n 0, 1) := by decide +kernel
theorem dX5_init_13 : decode cX5_init 13 = .ok (.bipush 40, 2) := by decide +kernel
theorem dX5_init_15 : decode cX5_init 15 = .ok (.newarray .int, 2) := by decide +kernel
theorem dX5_init_17 : decode cX5_init 17 = .ok (.putfield 15, 3) := by decide +kernel
theorem dX5_init_20 : decode cX5_init 20 = .ok (.aload_n 0, 1) := by decide +kernel
theorem dX5_init_21 : decode cX5_init 21 = .ok (.bipush 40, 2) := by decide +kernel
theorem dX5_init_23 : decode cX5_init 23 = .ok (.newarray .int, 2) := by decide +kernel
theorem dX5_init_25 : decode cX5_init 25 = .ok (.putfield 18, 3) := by decide +kernel
theorem dX5_init_28 : decode cX5_init 28 = .ok (.aload_n 0, 1) := by decide +kernel
theorem dX5_init_29 : decode cX5_init 29 = .ok (.bipush 8, 2) := by decide +kernel
theorem dX5_init_31 : decode cX5_init 31 = .ok (.newarray .int, 2) := by decide +kernel
theorem dX5_init_33 : decode cX5_init 33 = .ok (.putfield 21, 3) := by decide +kernel
theorem dX5_init_36 : decode cX5_init 36 = .ok (.aload_n 0, 1) := by decide +kernel
theorem dX5_init_37 : decode cX5_init 37 = .ok (.bipush 8, 2) := by decide +kernel
theorem dX5_init_39 : decode cX5_init 39 = .ok (.newarray .int, 2) := by decide +kernel
theorem dX5_init_41 : decode cX5_init 41 = .ok (.putfield 24, 3) := by decide +kernel
theorem dX5_init_44 : decode cX5_init 44 = .ok (.aload_n 0, 1) := by decide +kernel
theorem dX5_init_45 : decode cX5_init 45 = .ok (.iconst 0, 1) := by decide +kernel
theorem dX5_init_46 : decode cX5_init 46 = .ok (.putfield 27, 3) := by decide +kernel
theorem dX5_init_49 : decode cX5_init 49 = .ok (.aload_n 0, 1) := by decide +kernel
theorem dX5_init_50 : decode cX5_init 50 = .ok (.iconst 0, 1) := by decide +kernel
theorem dX5_init_51 : decode cX5_init 51 = .ok (.putfield 31, 3) := by decide +kernel
theorem dX5_init_54 : decode cX5_init 54 = .ok (.aload_n 0, 1) := by decide +kernel
theorem dX5_init_55 : decode cX5_init 55 = .ok (.iconst 0, 1) := by decide +kernel
theorem dX5_init_56 : decode cX5_init 56 = .ok (.putfield 34, 3) := by decide +kernel
theorem dX5_init_59 : decode cX5_init 59 = .ok (.aload_n 0, 1) := by decide +kernel
theorem dX5_init_60 : decode cX5_init 60 = .ok (.iconst 0, 1) := by decide +kernel
theorem dX5_init_61 : decode cX5_init 61 = .ok (.putfield 37, 3) := by decide +kernel
theorem dX5_init_64 : decode cX5_init 64 = .ok (.aload_n 0, 1) := by decide +kernel
theorem dX5_init_65 : decode cX5_init 65 = .ok (.iconst 0, 1) := by decide +kernel
theorem dX5_init_66 : decode cX5_init 66 = .ok (.putfield 40, 3) := by decide +kernel
theorem dX5_init_69 : decode cX5_init 69 = .ok (.return_, 1) := by decide +kernel
theorem dX5_begin_0 : decode cX5_begin 0 = .ok (.aload_n 0, 1) := by decide +kernel
theorem dX5_begin_1 : decode cX5_begin 1 = .ok (.iconst 0, 1) := by decide +kernel
theorem dX5_begin_2 : decode cX5_begin 2 = .ok (.putfield 27, 3) := by decide +kernel
theorem dX5_begin_5 : decode cX5_begin 5 = .ok (.aload_n 0, 1) := by decide +kernel
theorem dX5_begin_6 : decode cX5_begin 6 = .ok (.iconst 0, 1) := by decide +kernel
theorem dX5_begin_7 : decode cX5_begin 7 = .ok (.putfield 31, 3) := by decide +kernel
theorem dX5_begin_10 : decode cX5_begin 10 = .ok (.aload_n 0, 1) := by decide +kernel
theorem dX5_begin_11 : decode cX5_begin 11 = .ok (.iconst 0, 1) := by decide +kernel
theorem dX5_begin_12 : decode cX5_begin 12 = .ok (.putfield 34, 3) := by decide +kernel
theorem dX5_begin_15 : decode cX5_begin 15 = .ok (.iconst 0, 1) := by decide +kernel
theorem dX5_begin_16 : decode cX5_begin 16 = .ok (.istore_n 1, 1) := by decide +kernel
theorem dX5_begin_17 : decode cX5_begin 17 = .ok (.iload_n 1, 1) := by decide +kernel
theorem dX5_begin_18 : decode cX5_begin 18 = .ok (.bipush 8, 2) := by decide +kernel
theorem dX5_begin_20 : decode cX5_begin 20 = .ok (.if_icmp .ge 23, 3) := by decide +kernel
theorem dX5_begin_23 : decode cX5_begin 23 = .ok (.aload_n 0, 1) := by decide +kernel
theorem dX5_begin_24 : decode cX5_begin 24 = .ok (.getfield 21, 3) := by decide +kernel
theorem dX5_begin_27 : decode cX5_begin 27 = .ok (.iload_n 1, 1) := by decide +kernel
theorem dX5_begin_28 : decode cX5_begin 28 = .ok (.iconst 0, 1) := by decide +kernel
theorem dX5_begin_29 : decode cX5_begin 29 = .ok (.iastore, 1) := by decide +kernel
theorem dX5_begin_30 : decode cX5_begin 30 = .ok (.aload_n 0, 1) := by decide +kernel
theorem dX5_begin_31 : decode cX5_begin 31 = .ok (.getfield 24, 3) := by decide +kernel
theorem dX5_begin_34 : decode cX5_begin 34 = .ok (.iload_n 1, 1) := by decide +kernel
theorem dX5_begin_35 : decode cX5_begin 35 = .ok (.iconst 0, 1) := by decide +kernel
theorem dX5_begin_36 : decode cX5_begin 36 = .ok (.iastore, 1) := by decide +kernel
theorem dX5_begin_37 : decode cX5_begin 37 = .ok (.iinc 1 1, 3) := by decide +kernel
theorem dX5_begin_40 : decode cX5_begin 40 = .ok (.goto (-23), 3) := by decide +kernel
theorem dX5_begin_43 : decode cX5_begin 43 = .ok (.return_, 1) := by decide +kernel
theorem dX5_tell_0 : decode cX5_tell 0 = .ok (.aload_n 0, 1) := by decide +kernel
theorem dX5_tell_1 : decode cX5_tell 1 = .ok (.getfield 27, 3) := by decide +kernel
theorem dX5_tell_4 : decode cX5_tell 4 = .ok (.bipush 40, 2) := by decide +kernel
theorem dX5_tell_6 : decode cX5_tell 6 = .ok (.if_icmp .lt 4, 3) := by decide +kernel
theorem dX5_tell_9 : decode cX5_tell 9 = .ok (.return_, 1) := by decide +kernel
theorem dX5_tell_10 : decode cX5_tell 10 = .ok (.aload_n 0, 1) := by decide +kernel
theorem dX5_tell_11 : decode cX5_tell 11 = .ok (.getfield 9, 3) := by decide +kernel
theorem dX5_tell_14 : decode cX5_tell 14 = .ok (.aload_n 0, 1) := by decide +kernel
theorem dX5_tell_15 : decode cX5_tell 15 = .ok (.getfield 27, 3) := by decide +kernel
theorem dX5_tell_18 : decode cX5_tell 18 = .ok (.iload_n 1, 1) := by decide +kernel
theorem dX5_tell_19 : decode cX5_tell 19 = .ok (.iastore, 1) := by decide +kernel
theorem dX5_tell_20 : decode cX5_tell 20 = .ok (.aload_n 0, 1) := by decide +kernel
theorem dX5_tell_21 : decode cX5_tell 21 = .ok (.getfield 15, 3) := by decide +kernel
theorem dX5_tell_24 : decode cX5_tell 24 = .ok (.aload_n 0, 1) := by decide +kernel
theorem dX5_tell_25 : decode cX5_tell 25 = .ok (.getfield 27, 3) := by decide +kernel
theorem dX5_tell_28 : decode cX5_tell 28 = .ok (.iload_n 2, 1) := by decide +kernel
theorem dX5_tell_29 : decode cX5_tell 29 = .ok (.iastore, 1) := by decide +kernel
theorem dX5_tell_30 : decode cX5_tell 30 = .ok (.aload_n 0, 1) := by decide +kernel
theorem dX5_tell_31 : decode cX5_tell 31 = .ok (.getfield 18, 3) := by decide +kernel
theorem dX5_tell_34 : decode cX5_tell 34 = .ok (.aload_n 0, 1) := by decide +kernel
theorem dX5_tell_35 : decode cX5_tell 35 = .ok (.getfield 27, 3) := by decide +kernel
theorem dX5_tell_38 : decode cX5_tell 38 = .ok (.iload_n 3, 1) := by decide +kernel
theorem dX5_tell_39 : decode cX5_tell 39 = .ok (.iastore, 1) := by decide +kernel
theorem dX5_tell_40 : decode cX5_tell 40 = .ok (.aload_n 0, 1) := by decide +kernel
theorem dX5_tell_41 : decode cX5_tell 41 = .ok (.dup, 1) := by decide +kernel
theorem dX5_tell_42 : decode cX5_tell 42 = .ok (.getfield 27, 3) := by decide +kernel
theorem dX5_tell_45 : decode cX5_tell 45 = .ok (.iconst 1, 1) := by decide +kernel
theorem dX5_tell_46 : decode cX5_tell 46 = .ok (.iadd, 1) := by decide +kernel
theorem dX5_tell_47 : decode cX5_tell 47 = .ok (.putfield 27, 3) := by decide +kernel
theorem dX5_tell_50 : decode cX5_tell 50 = .ok (.return_, 1) := by decide +kernel
theorem dX5_costWith_0 : decode cX5_costWith 0 = .ok (.iconst 0, 1) := by decide +kernel
theorem dX5_costWith_1 : decode cX5_costWith 1 = .ok (.istore_n 2, 1) := by decide +kernel
theorem dX5_costWith_2 : decode cX5_costWith 2 = .ok (.iconst 0, 1) := by decide +kernel
theorem dX5_costWith_3 : decode cX5_costWith 3 = .ok (.istore_n 3, 1) := by decide +kernel
theorem dX5_costWith_4 : decode cX5_costWith 4 = .ok (.iload_n 3, 1) := by decide +kernel
theorem dX5_costWith_5 : decode cX5_costWith 5 = .ok (.bipush 8, 2) := by decide +kernel
theorem dX5_costWith_7 : decode cX5_costWith 7 = .ok (.if_icmp .ge 35, 3) := by decide +kernel
theorem dX5_costWith_10 : decode cX5_costWith 10 = .ok (.iload_n 2, 1) := by decide +kernel
theorem dX5_costWith_11 : decode cX5_costWith 11 = .ok (.iload_n 1, 1) := by decide +kernel
theorem dX5_costWith_12 : decode cX5_costWith 12 = .ok (.iload_n 3, 1) := by decide +kernel
theorem dX5_costWith_13 : decode cX5_costWith 13 = .ok (.ishr, 1) := by decide +kernel
theorem dX5_costWith_14 : decode cX5_costWith 14 = .ok (.iconst 1, 1) := by decide +kernel
theorem dX5_costWith_15 : decode cX5_costWith 15 = .ok (.iand, 1) := by decide +kernel
theorem dX5_costWith_16 : decode cX5_costWith 16 = .ok (.ifCond .eq 12, 3) := by decide +kernel
theorem dX5_costWith_19 : decode cX5_costWith 19 = .ok (.aload_n 0, 1) := by decide +kernel
theorem dX5_costWith_20 : decode cX5_costWith 20 = .ok (.getfield 24, 3) := by decide +kernel
theorem dX5_costWith_23 : decode cX5_costWith 23 = .ok (.iload_n 3, 1) := by decide +kernel
theorem dX5_costWith_24 : decode cX5_costWith 24 = .ok (.iaload, 1) := by decide +kernel
theorem dX5_costWith_25 : decode cX5_costWith 25 = .ok (.goto 9, 3) := by decide +kernel
theorem dX5_costWith_28 : decode cX5_costWith 28 = .ok (.aload_n 0, 1) := by decide +kernel
theorem dX5_costWith_29 : decode cX5_costWith 29 = .ok (.getfield 21, 3) := by decide +kernel
theorem dX5_costWith_32 : decode cX5_costWith 32 = .ok (.iload_n 3, 1) := by decide +kernel
theorem dX5_costWith_33 : decode cX5_costWith 33 = .ok (.iaload, 1) := by decide +kernel
theorem dX5_costWith_34 : decode cX5_costWith 34 = .ok (.iadd, 1) := by decide +kernel
theorem dX5_costWith_35 : decode cX5_costWith 35 = .ok (.istore_n 2, 1) := by decide +kernel
theorem dX5_costWith_36 : decode cX5_costWith 36 = .ok (.iinc 3 1, 3) := by decide +kernel
theorem dX5_costWith_39 : decode cX5_costWith 39 = .ok (.goto (-35), 3) := by decide +kernel
theorem dX5_costWith_42 : decode cX5_costWith 42 = .ok (.iload_n 2, 1) := by decide +kernel
theorem dX5_costWith_43 : decode cX5_costWith 43 = .ok (.ireturn, 1) := by decide +kernel
theorem dX5_alwaysSeenAs_0 : decode cX5_alwaysSeenAs 0 = .ok (.iload_n 2, 1) := by decide +kernel
theorem dX5_alwaysSeenAs_1 : decode cX5_alwaysSeenAs 1 = .ok (.iconst 1, 1) := by decide +kernel
theorem dX5_alwaysSeenAs_2 : decode cX5_alwaysSeenAs 2 = .ok (.iand, 1) := by decide +kernel
theorem dX5_alwaysSeenAs_3 : decode cX5_alwaysSeenAs 3 = .ok (.ifCond .eq 13, 3) := by decide +kernel
theorem dX5_alwaysSeenAs_6 : decode cX5_alwaysSeenAs 6 = .ok (.aload_n 0, 1) := by decide +kernel
theorem dX5_alwaysSeenAs_7 : decode cX5_alwaysSeenAs 7 = .ok (.aload_n 1, 1) := by decide +kernel
theorem dX5_alwaysSeenAs_8 : decode cX5_alwaysSeenAs 8 = .ok (.invokevirtual 44, 3) := by decide +kernel
theorem dX5_alwaysSeenAs_11 : decode cX5_alwaysSeenAs 11 = .ok (.ifCond .ne 5, 3) := by decide +kernel
theorem dX5_alwaysSeenAs_14 : decode cX5_alwaysSeenAs 14 = .ok (.iconst 0, 1) := by decide +kernel
theorem dX5_alwaysSeenAs_15 : decode cX5_alwaysSeenAs 15 = .ok (.ireturn, 1) := by decide +kernel
theorem dX5_alwaysSeenAs_16 : decode cX5_alwaysSeenAs 16 = .ok (.aload_n 0, 1) := by decide +kernel
theorem dX5_alwaysSeenAs_17 : decode cX5_alwaysSeenAs 17 = .ok (.getfield 27, 3) := by decide +kernel
theorem dX5_alwaysSeenAs_20 : decode cX5_alwaysSeenAs 20 = .ok (.aload_n 1, 1) := by decide +kernel
theorem dX5_alwaysSeenAs_21 : decode cX5_alwaysSeenAs 21 = .ok (.getfield 27, 3) := by decide +kernel
theorem dX5_alwaysSeenAs_24 : decode cX5_alwaysSeenAs 24 = .ok (.if_icmp .eq 5, 3) := by decide +kernel
theorem dX5_alwaysSeenAs_27 : decode cX5_alwaysSeenAs 27 = .ok (.iconst 0, 1) := by decide +kernel
theorem dX5_alwaysSeenAs_28 : decode cX5_alwaysSeenAs 28 = .ok (.ireturn, 1) := by decide +kernel
theorem dX5_alwaysSeenAs_29 : decode cX5_alwaysSeenAs 29 = .ok (.iconst 0, 1) := by decide +kernel
theorem dX5_alwaysSeenAs_30 : decode cX5_alwaysSeenAs 30 = .ok (.istore_n 3, 1) := by decide +kernel
theorem dX5_alwaysSeenAs_31 : decode cX5_alwaysSeenAs 31 = .ok (.iload_n 3, 1) := by decide +kernel
theorem dX5_alwaysSeenAs_32 : decode cX5_alwaysSeenAs 32 = .ok (.aload_n 0, 1) := by decide +kernel
theorem dX5_alwaysSeenAs_33 : decode cX5_alwaysSeenAs 33 = .ok (.getfield 27, 3) := by decide +kernel
theorem dX5_alwaysSeenAs_36 : decode cX5_alwaysSeenAs 36 = .ok (.if_icmp .ge 56, 3) := by decide +kernel
theorem dX5_alwaysSeenAs_39 : decode cX5_alwaysSeenAs 39 = .ok (.aload_n 0, 1) := by decide +kernel
theorem dX5_alwaysSeenAs_40 : decode cX5_alwaysSeenAs 40 = .ok (.getfield 9, 3) := by decide +kernel
theorem dX5_alwaysSeenAs_43 : decode cX5_alwaysSeenAs 43 = .ok (.iload_n 3, 1) := by decide +kernel
theorem dX5_alwaysSeenAs_44 : decode cX5_alwaysSeenAs 44 = .ok (.iaload, 1) := by decide +kernel
theorem dX5_alwaysSeenAs_45 : decode cX5_alwaysSeenAs 45 = .ok (.aload_n 1, 1) := by decide +kernel
theorem dX5_alwaysSeenAs_46 : decode cX5_alwaysSeenAs 46 = .ok (.getfield 9, 3) := by decide +kernel
theorem dX5_alwaysSeenAs_49 : decode cX5_alwaysSeenAs 49 = .ok (.iload_n 3, 1) := by decide +kernel
theorem dX5_alwaysSeenAs_50 : decode cX5_alwaysSeenAs 50 = .ok (.iaload, 1) := by decide +kernel
theorem dX5_alwaysSeenAs_51 : decode cX5_alwaysSeenAs 51 = .ok (.if_icmp .ne 33, 3) := by decide +kernel
theorem dX5_alwaysSeenAs_54 : decode cX5_alwaysSeenAs 54 = .ok (.aload_n 0, 1) := by decide +kernel
theorem dX5_alwaysSeenAs_55 : decode cX5_alwaysSeenAs 55 = .ok (.getfield 15, 3) := by decide +kernel
theorem dX5_alwaysSeenAs_58 : decode cX5_alwaysSeenAs 58 = .ok (.iload_n 3, 1) := by decide +kernel
theorem dX5_alwaysSeenAs_59 : decode cX5_alwaysSeenAs 59 = .ok (.iaload, 1) := by decide +kernel
theorem dX5_alwaysSeenAs_60 : decode cX5_alwaysSeenAs 60 = .ok (.aload_n 1, 1) := by decide +kernel
theorem dX5_alwaysSeenAs_61 : decode cX5_alwaysSeenAs 61 = .ok (.getfield 15, 3) := by decide +kernel
theorem dX5_alwaysSeenAs_64 : decode cX5_alwaysSeenAs 64 = .ok (.iload_n 3, 1) := by decide +kernel
theorem dX5_alwaysSeenAs_65 : decode cX5_alwaysSeenAs 65 = .ok (.iaload, 1) := by decide +kernel
theorem dX5_alwaysSeenAs_66 : decode cX5_alwaysSeenAs 66 = .ok (.if_icmp .ne 18, 3) := by decide +kernel
theorem dX5_alwaysSeenAs_69 : decode cX5_alwaysSeenAs 69 = .ok (.aload_n 0, 1) := by decide +kernel
theorem dX5_alwaysSeenAs_70 : decode cX5_alwaysSeenAs 70 = .ok (.getfield 18, 3) := by decide +kernel
theorem dX5_alwaysSeenAs_73 : decode cX5_alwaysSeenAs 73 = .ok (.iload_n 3, 1) := by decide +kernel
theorem dX5_alwaysSeenAs_74 : decode cX5_alwaysSeenAs 74 = .ok (.iaload, 1) := by decide +kernel
theorem dX5_alwaysSeenAs_75 : decode cX5_alwaysSeenAs 75 = .ok (.aload_n 1, 1) := by decide +kernel
theorem dX5_alwaysSeenAs_76 : decode cX5_alwaysSeenAs 76 = .ok (.getfield 18, 3) := by decide +kernel
theorem dX5_alwaysSeenAs_79 : decode cX5_alwaysSeenAs 79 = .ok (.iload_n 3, 1) := by decide +kernel
theorem dX5_alwaysSeenAs_80 : decode cX5_alwaysSeenAs 80 = .ok (.iaload, 1) := by decide +kernel
theorem dX5_alwaysSeenAs_81 : decode cX5_alwaysSeenAs 81 = .ok (.if_icmp .eq 5, 3) := by decide +kernel
theorem dX5_alwaysSeenAs_84 : decode cX5_alwaysSeenAs 84 = .ok (.iconst 0, 1) := by decide +kernel
theorem dX5_alwaysSeenAs_85 : decode cX5_alwaysSeenAs 85 = .ok (.ireturn, 1) := by decide +kernel
theorem dX5_alwaysSeenAs_86 : decode cX5_alwaysSeenAs 86 = .ok (.iinc 3 1, 3) := by decide +kernel
theorem dX5_alwaysSeenAs_89 : decode cX5_alwaysSeenAs 89 = .ok (.goto (-58), 3) := by decide +kernel
theorem dX5_alwaysSeenAs_92 : decode cX5_alwaysSeenAs 92 = .ok (.iconst 1, 1) := by decide +kernel
theorem dX5_alwaysSeenAs_93 : decode cX5_alwaysSeenAs 93 = .ok (.ireturn, 1) := by decide +kernel
theorem dX5_costsAs_0 : decode cX5_costsAs 0 = .ok (.aload_n 0, 1) := by decide +kernel
theorem dX5_costsAs_1 : decode cX5_costsAs 1 = .ok (.getfield 40, 3) := by decide +kernel
theorem dX5_costsAs_4 : decode cX5_costsAs 4 = .ok (.aload_n 1, 1) := by decide +kernel
theorem dX5_costsAs_5 : decode cX5_costsAs 5 = .ok (.getfield 40, 3) := by decide +kernel
theorem dX5_costsAs_8 : decode cX5_costsAs 8 = .ok (.if_icmp .eq 5, 3) := by decide +kernel
theorem dX5_costsAs_11 : decode cX5_costsAs 11 = .ok (.iconst 0, 1) := by decide +kernel
theorem dX5_costsAs_12 : decode cX5_costsAs 12 = .ok (.ireturn, 1) := by decide +kernel
theorem dX5_costsAs_13 : decode cX5_costsAs 13 = .ok (.iconst 0, 1) := by decide +kernel
theorem dX5_costsAs_14 : decode cX5_costsAs 14 = .ok (.istore_n 2, 1) := by decide +kernel
theorem dX5_costsAs_15 : decode cX5_costsAs 15 = .ok (.iload_n 2, 1) := by decide +kernel
theorem dX5_costsAs_16 : decode cX5_costsAs 16 = .ok (.bipush 8, 2) := by decide +kernel
theorem dX5_costsAs_18 : decode cX5_costsAs 18 = .ok (.if_icmp .ge 41, 3) := by decide +kernel
theorem dX5_costsAs_21 : decode cX5_costsAs 21 = .ok (.aload_n 0, 1) := by decide +kernel
theorem dX5_costsAs_22 : decode cX5_costsAs 22 = .ok (.getfield 21, 3) := by decide +kernel
theorem dX5_costsAs_25 : decode cX5_costsAs 25 = .ok (.iload_n 2, 1) := by decide +kernel
theorem dX5_costsAs_26 : decode cX5_costsAs 26 = .ok (.iaload, 1) := by decide +kernel
theorem dX5_costsAs_27 : decode cX5_costsAs 27 = .ok (.aload_n 1, 1) := by decide +kernel
theorem dX5_costsAs_28 : decode cX5_costsAs 28 = .ok (.getfield 21, 3) := by decide +kernel
theorem dX5_costsAs_31 : decode cX5_costsAs 31 = .ok (.iload_n 2, 1) := by decide +kernel
theorem dX5_costsAs_32 : decode cX5_costsAs 32 = .ok (.iaload, 1) := by decide +kernel
theorem dX5_costsAs_33 : decode cX5_costsAs 33 = .ok (.if_icmp .ne 18, 3) := by decide +kernel
theorem dX5_costsAs_36 : decode cX5_costsAs 36 = .ok (.aload_n 0, 1) := by decide +kernel
theorem dX5_costsAs_37 : decode cX5_costsAs 37 = .ok (.getfield 24, 3) := by decide +kernel
theorem dX5_costsAs_40 : decode cX5_costsAs 40 = .ok (.iload_n 2, 1) := by decide +kernel
theorem dX5_costsAs_41 : decode cX5_costsAs 41 = .ok (.iaload, 1) := by decide +kernel
theorem dX5_costsAs_42 : decode cX5_costsAs 42 = .ok (.aload_n 1, 1) := by decide +kernel
theorem dX5_costsAs_43 : decode cX5_costsAs 43 = .ok (.getfield 24, 3) := by decide +kernel
theorem dX5_costsAs_46 : decode cX5_costsAs 46 = .ok (.iload_n 2, 1) := by decide +kernel
theorem dX5_costsAs_47 : decode cX5_costsAs 47 = .ok (.iaload, 1) := by decide +kernel
theorem dX5_costsAs_48 : decode cX5_costsAs 48 = .ok (.if_icmp .eq 5, 3) := by decide +kernel
theorem dX5_costsAs_51 : decode cX5_costsAs 51 = .ok (.iconst 0, 1) := by decide +kernel
theorem dX5_costsAs_52 : decode cX5_costsAs 52 = .ok (.ireturn, 1) := by decide +kernel
theorem dX5_costsAs_53 : decode cX5_costsAs 53 = .ok (.iinc 2 1, 3) := by decide +kernel
theorem dX5_costsAs_56 : decode cX5_costsAs 56 = .ok (.goto (-41), 3) := by decide +kernel
theorem dX5_costsAs_59 : decode cX5_costsAs 59 = .ok (.iconst 1, 1) := by decide +kernel
theorem dX5_costsAs_60 : decode cX5_costsAs 60 = .ok (.ireturn, 1) := by decide +kernel
theorem dX6_init_0 : decode cX6_init 0 = .ok (.aload_n 0, 1) := by decide +kernel
theorem dX6_init_1 : decode cX6_init 1 = .ok (.invokespecial 3, 3) := by decide +kernel
theorem dX6_init_4 : decode cX6_init 4 = .ok (.aload_n 0, 1) := by decide +kernel
theorem dX6_init_5 : decode cX6_init 5 = .ok (.bipush 15, 2) := by decide +kernel
theorem dX6_init_7 : decode cX6_init 7 = .ok (.putfield 9, 3) := by decide +kernel
theorem dX6_init_10 : decode cX6_init 10 = .ok (.aload_n 0, 1) := by decide +kernel
theorem dX6_init_11 : decode cX6_init 11 = .ok (.iconst 1, 1) := by decide +kernel
theorem dX6_init_12 : decode cX6_init 12 = .ok (.putfield 15, 3) := by decide +kernel
theorem dX6_init_15 : decode cX6_init 15 = .ok (.aload_n 0, 1) := by decide +kernel
theorem dX6_init_16 : decode cX6_init 16 = .ok (.iconst 0, 1) := by decide +kernel
theorem dX6_init_17 : decode cX6_init 17 = .ok (.putfield 18, 3) := by decide +kernel
theorem dX6_init_20 : decode cX6_init 20 = .ok (.return_, 1) := by decide +kernel
theorem dX6_holdsEven_0 : decode cX6_holdsEven 0 = .ok (.aload_n 0, 1) := by decide +kernel
theorem dX6_holdsEven_1 : decode cX6_holdsEven 1 = .ok (.getfield 18, 3) := by decide +kernel
theorem dX6_holdsEven_4 : decode cX6_holdsEven 4 = .ok (.iload_n 1, 1) := by decide +kernel
theorem dX6_holdsEven_5 : decode cX6_holdsEven 5 = .ok (.ishr, 1) := by decide +kernel
theorem dX6_holdsEven_6 : decode cX6_holdsEven 6 = .ok (.iconst 1, 1) := by decide +kernel
theorem dX6_holdsEven_7 : decode cX6_holdsEven 7 = .ok (.iand, 1) := by decide +kernel
theorem dX6_holdsEven_8 : decode cX6_holdsEven 8 = .ok (.ifCond .eq 7, 3) := by decide +kernel
theorem dX6_holdsEven_11 : decode cX6_holdsEven 11 = .ok (.iconst 1, 1) := by decide +kernel
theorem dX6_holdsEven_12 : decode cX6_holdsEven 12 = .ok (.goto 4, 3) := by decide +kernel
theorem dX6_holdsEven_15 : decode cX6_holdsEven 15 = .ok (.iconst 0, 1) := by decide +kernel
theorem dX6_holdsEven_16 : decode cX6_holdsEven 16 = .ok (.ireturn, 1) := by decide +kernel
theorem dX7_init_0 : decode cX7_init 0 = .ok (.aload_n 0, 1) := by decide +kernel
theorem dX7_init_1 : decode cX7_init 1 = .ok (.invokespecial 3, 3) := by decide +kernel
theorem dX7_init_4 : decode cX7_init 4 = .ok (.aload_n 0, 1) := by decide +kernel
theorem dX7_init_5 : decode cX7_init 5 = .ok (.new 9, 3) := by decide +kernel
theorem dX7_init_8 : decode cX7_init 8 = .ok (.dup, 1) := by decide +kernel
theorem dX7_init_9 : decode cX7_init 9 = .ok (.invokespecial 11, 3) := by decide +kernel
theorem dX7_init_12 : decode cX7_init 12 = .ok (.putfield 12, 3) := by decide +kernel
theorem dX7_init_15 : decode cX7_init 15 = .ok (.aload_n 0, 1) := by decide +kernel
theorem dX7_init_16 : decode cX7_init 16 = .ok (.new 16, 3) := by decide +kernel
theorem dX7_init_19 : decode cX7_init 19 = .ok (.dup, 1) := by decide +kernel
theorem dX7_init_20 : decode cX7_init 20 = .ok (.invokespecial 18, 3) := by decide +kernel
theorem dX7_init_23 : decode cX7_init 23 = .ok (.putfield 19, 3) := by decide +kernel
theorem dX7_init_26 : decode cX7_init 26 = .ok (.aload_n 0, 1) := by decide +kernel
theorem dX7_init_27 : decode cX7_init 27 = .ok (.new 23, 3) := by decide +kernel
theorem dX7_init_30 : decode cX7_init 30 = .ok (.dup, 1) := by decide +kernel
theorem dX7_init_31 : decode cX7_init 31 = .ok (.invokespecial 25, 3) := by decide +kernel
theorem dX7_init_34 : decode cX7_init 34 = .ok (.putfield 26, 3) := by decide +kernel
theorem dX7_init_37 : decode cX7_init 37 = .ok (.aload_n 0, 1) := by decide +kernel
theorem dX7_init_38 : decode cX7_init 38 = .ok (.new 30, 3) := by decide +kernel
theorem dX7_init_41 : decode cX7_init 41 = .ok (.dup, 1) := by decide +kernel
theorem dX7_init_42 : decode cX7_init 42 = .ok (.invokespecial 32, 3) := by decide +kernel
theorem dX7_init_45 : decode cX7_init 45 = .ok (.putfield 33, 3) := by decide +kernel
theorem dX7_init_48 : decode cX7_init 48 = .ok (.aload_n 0, 1) := by decide +kernel
theorem dX7_init_49 : decode cX7_init 49 = .ok (.new 37, 3) := by decide +kernel
theorem dX7_init_52 : decode cX7_init 52 = .ok (.dup, 1) := by decide +kernel
theorem dX7_init_53 : decode cX7_init 53 = .ok (.invokespecial 39, 3) := by decide +kernel
theorem dX7_init_56 : decode cX7_init 56 = .ok (.putfield 40, 3) := by decide +kernel
theorem dX7_init_59 : decode cX7_init 59 = .ok (.aload_n 0, 1) := by decide +kernel
theorem dX7_init_60 : decode cX7_init 60 = .ok (.new 37, 3) := by decide +kernel
theorem dX7_init_63 : decode cX7_init 63 = .ok (.dup, 1) := by decide +kernel
theorem dX7_init_64 : decode cX7_init 64 = .ok (.invokespecial 39, 3) := by decide +kernel
theorem dX7_init_67 : decode cX7_init 67 = .ok (.putfield 44, 3) := by decide +kernel
theorem dX7_init_70 : decode cX7_init 70 = .ok (.aload_n 0, 1) := by decide +kernel
theorem dX7_init_71 : decode cX7_init 71 = .ok (.new 47, 3) := by decide +kernel
theorem dX7_init_74 : decode cX7_init 74 = .ok (.dup, 1) := by decide +kernel
theorem dX7_init_75 : decode cX7_init 75 = .ok (.invokespecial 49, 3) := by decide +kernel
theorem dX7_init_78 : decode cX7_init 78 = .ok (.putfield 50, 3) := by decide +kernel
theorem dX7_init_81 : decode cX7_init 81 = .ok (.aload_n 0, 1) := by decide +kernel
theorem dX7_init_82 : decode cX7_init 82 = .ok (.new 54, 3) := by decide +kernel
theorem dX7_init_85 : decode cX7_init 85 = .ok (.dup, 1) := by decide +kernel
theorem dX7_init_86 : decode cX7_init 86 = .ok (.invokespecial 56, 3) := by decide +kernel
theorem dX7_init_89 : decode cX7_init 89 = .ok (.putfield 57, 3) := by decide +kernel
theorem dX7_init_92 : decode cX7_init 92 = .ok (.aload_n 0, 1) := by decide +kernel
theorem dX7_init_93 : decode cX7_init 93 = .ok (.iconst (-1), 1) := by decide +kernel
theorem dX7_init_94 : decode cX7_init 94 = .ok (.putfield 61, 3) := by decide +kernel
theorem dX7_init_97 : decode cX7_init 97 = .ok (.return_, 1) := by decide +kernel
theorem dX7_order_0 : decode cX7_order 0 = .ok (.iload_n 1, 1) := by decide +kernel
theorem dX7_order_1 : decode cX7_order 1 = .ok (.invokestatic 65, 3) := by decide +kernel
theorem dX7_order_4 : decode cX7_order 4 = .ok (.ifCond .eq 15, 3) := by decide +kernel
theorem dX7_order_7 : decode cX7_order 7 = .ok (.aload_n 0, 1) := by decide +kernel
theorem dX7_order_8 : decode cX7_order 8 = .ok (.getfield 12, 3) := by decide +kernel
theorem dX7_order_11 : decode cX7_order 11 = .ok (.getfield 69, 3) := by decide +kernel
