theorem dX7_order_14 : decode cX7_order 14 = .ok (.bipush 8, 2) := by decide +kernel
theorem dX7_order_16 : decode cX7_order 16 = .ok (.if_icmp .lt 5, 3) := by decide +kernel
theorem dX7_order_19 : decode cX7_order 19 = .ok (.iconst (-1), 1) := by decide +kernel
theorem dX7_order_20 : decode cX7_order 20 = .ok (.ireturn, 1) := by decide +kernel
theorem dX7_order_21 : decode cX7_order 21 = .ok (.aload_n 0, 1) := by decide +kernel
theorem dX7_order_22 : decode cX7_order 22 = .ok (.getfield 12, 3) := by decide +kernel
theorem dX7_order_25 : decode cX7_order 25 = .ok (.iload_n 1, 1) := by decide +kernel
theorem dX7_order_26 : decode cX7_order 26 = .ok (.invokevirtual 72, 3) := by decide +kernel
theorem dX7_order_29 : decode cX7_order 29 = .ok (.istore_n 2, 1) := by decide +kernel
theorem dX7_order_30 : decode cX7_order 30 = .ok (.aload_n 0, 1) := by decide +kernel
theorem dX7_order_31 : decode cX7_order 31 = .ok (.invokevirtual 76, 3) := by decide +kernel
theorem dX7_order_34 : decode cX7_order 34 = .ok (.iload_n 2, 1) := by decide +kernel
theorem dX7_order_35 : decode cX7_order 35 = .ok (.ireturn, 1) := by decide +kernel
theorem dX7_change_0 : decode cX7_change 0 = .ok (.iload_n 2, 1) := by decide +kernel
theorem dX7_change_1 : decode cX7_change 1 = .ok (.invokestatic 65, 3) := by decide +kernel
theorem dX7_change_4 : decode cX7_change 4 = .ok (.ifCond .eq 14, 3) := by decide +kernel
theorem dX7_change_7 : decode cX7_change 7 = .ok (.aload_n 0, 1) := by decide +kernel
theorem dX7_change_8 : decode cX7_change 8 = .ok (.getfield 12, 3) := by decide +kernel
theorem dX7_change_11 : decode cX7_change 11 = .ok (.iload_n 1, 1) := by decide +kernel
theorem dX7_change_12 : decode cX7_change 12 = .ok (.invokevirtual 79, 3) := by decide +kernel
theorem dX7_change_15 : decode cX7_change 15 = .ok (.ifCond .ne 5, 3) := by decide +kernel
theorem dX7_change_18 : decode cX7_change 18 = .ok (.iconst 0, 1) := by decide +kernel
theorem dX7_change_19 : decode cX7_change 19 = .ok (.ireturn, 1) := by decide +kernel
theorem dX7_change_20 : decode cX7_change 20 = .ok (.aload_n 0, 1) := by decide +kernel
theorem dX7_change_21 : decode cX7_change 21 = .ok (.getfield 12, 3) := by decide +kernel
theorem dX7_change_24 : decode cX7_change 24 = .ok (.getfield 82, 3) := by decide +kernel
theorem dX7_change_27 : decode cX7_change 27 = .ok (.iload_n 1, 1) := by decide +kernel
theorem dX7_change_28 : decode cX7_change 28 = .ok (.iload_n 2, 1) := by decide +kernel
theorem dX7_change_29 : decode cX7_change 29 = .ok (.iastore, 1) := by decide +kernel
theorem dX7_change_30 : decode cX7_change 30 = .ok (.aload_n 0, 1) := by decide +kernel
theorem dX7_change_31 : decode cX7_change 31 = .ok (.invokevirtual 76, 3) := by decide +kernel
theorem dX7_change_34 : decode cX7_change 34 = .ok (.iconst 1, 1) := by decide +kernel
theorem dX7_change_35 : decode cX7_change 35 = .ok (.ireturn, 1) := by decide +kernel
theorem dX7_clear_0 : decode cX7_clear 0 = .ok (.aload_n 0, 1) := by decide +kernel
theorem dX7_clear_1 : decode cX7_clear 1 = .ok (.getfield 12, 3) := by decide +kernel
theorem dX7_clear_4 : decode cX7_clear 4 = .ok (.invokevirtual 86, 3) := by decide +kernel
theorem dX7_clear_7 : decode cX7_clear 7 = .ok (.aload_n 0, 1) := by decide +kernel
theorem dX7_clear_8 : decode cX7_clear 8 = .ok (.getfield 19, 3) := by decide +kernel
theorem dX7_clear_11 : decode cX7_clear 11 = .ok (.iconst 0, 1) := by decide +kernel
theorem dX7_clear_12 : decode cX7_clear 12 = .ok (.putfield 89, 3) := by decide +kernel
theorem dX7_clear_15 : decode cX7_clear 15 = .ok (.aload_n 0, 1) := by decide +kernel
theorem dX7_clear_16 : decode cX7_clear 16 = .ok (.invokevirtual 76, 3) := by decide +kernel
theorem dX7_clear_19 : decode cX7_clear 19 = .ok (.return_, 1) := by decide +kernel
theorem dX7_word_0 : decode cX7_word 0 = .ok (.iload_n 1, 1) := by decide +kernel
theorem dX7_word_1 : decode cX7_word 1 = .ok (.ifCond .lt 9, 3) := by decide +kernel
theorem dX7_word_4 : decode cX7_word 4 = .ok (.iload_n 1, 1) := by decide +kernel
theorem dX7_word_5 : decode cX7_word 5 = .ok (.bipush 8, 2) := by decide +kernel
theorem dX7_word_7 : decode cX7_word 7 = .ok (.if_icmp .lt 5, 3) := by decide +kernel
theorem dX7_word_10 : decode cX7_word 10 = .ok (.iconst 0, 1) := by decide +kernel
theorem dX7_word_11 : decode cX7_word 11 = .ok (.ireturn, 1) := by decide +kernel
theorem dX7_word_12 : decode cX7_word 12 = .ok (.aload_n 0, 1) := by decide +kernel
theorem dX7_word_13 : decode cX7_word 13 = .ok (.getfield 12, 3) := by decide +kernel
theorem dX7_word_16 : decode cX7_word 16 = .ok (.getfield 92, 3) := by decide +kernel
theorem dX7_word_19 : decode cX7_word 19 = .ok (.iload_n 1, 1) := by decide +kernel
theorem dX7_word_20 : decode cX7_word 20 = .ok (.iload_n 2, 1) := by decide +kernel
theorem dX7_word_21 : decode cX7_word 21 = .ok (.iastore, 1) := by decide +kernel
theorem dX7_word_22 : decode cX7_word 22 = .ok (.aload_n 0, 1) := by decide +kernel
theorem dX7_word_23 : decode cX7_word 23 = .ok (.invokevirtual 76, 3) := by decide +kernel
theorem dX7_word_26 : decode cX7_word 26 = .ok (.iconst 1, 1) := by decide +kernel
theorem dX7_word_27 : decode cX7_word 27 = .ok (.ireturn, 1) := by decide +kernel
theorem dX7_watch_0 : decode cX7_watch 0 = .ok (.iload_n 1, 1) := by decide +kernel
theorem dX7_watch_1 : decode cX7_watch 1 = .ok (.ifCond .lt 16, 3) := by decide +kernel
theorem dX7_watch_4 : decode cX7_watch 4 = .ok (.iload_n 1, 1) := by decide +kernel
theorem dX7_watch_5 : decode cX7_watch 5 = .ok (.bipush 15, 2) := by decide +kernel
theorem dX7_watch_7 : decode cX7_watch 7 = .ok (.if_icmp .gt 10, 3) := by decide +kernel
theorem dX7_watch_10 : decode cX7_watch 10 = .ok (.iload_n 2, 1) := by decide +kernel
theorem dX7_watch_11 : decode cX7_watch 11 = .ok (.invokestatic 95, 3) := by decide +kernel
theorem dX7_watch_14 : decode cX7_watch 14 = .ok (.ifCond .ne 5, 3) := by decide +kernel
theorem dX7_watch_17 : decode cX7_watch 17 = .ok (.iconst 0, 1) := by decide +kernel
theorem dX7_watch_18 : decode cX7_watch 18 = .ok (.ireturn, 1) := by decide +kernel
theorem dX7_watch_19 : decode cX7_watch 19 = .ok (.aload_n 0, 1) := by decide +kernel
theorem dX7_watch_20 : decode cX7_watch 20 = .ok (.getfield 19, 3) := by decide +kernel
theorem dX7_watch_23 : decode cX7_watch 23 = .ok (.iload_n 1, 1) := by decide +kernel
theorem dX7_watch_24 : decode cX7_watch 24 = .ok (.putfield 98, 3) := by decide +kernel
theorem dX7_watch_27 : decode cX7_watch 27 = .ok (.aload_n 0, 1) := by decide +kernel
theorem dX7_watch_28 : decode cX7_watch 28 = .ok (.getfield 19, 3) := by decide +kernel
theorem dX7_watch_31 : decode cX7_watch 31 = .ok (.iload_n 2, 1) := by decide +kernel
theorem dX7_watch_32 : decode cX7_watch 32 = .ok (.putfield 101, 3) := by decide +kernel
theorem dX7_watch_35 : decode cX7_watch 35 = .ok (.aload_n 0, 1) := by decide +kernel
theorem dX7_watch_36 : decode cX7_watch 36 = .ok (.invokevirtual 76, 3) := by decide +kernel
theorem dX7_watch_39 : decode cX7_watch 39 = .ok (.iconst 1, 1) := by decide +kernel
theorem dX7_watch_40 : decode cX7_watch 40 = .ok (.ireturn, 1) := by decide +kernel
theorem dX7_even_0 : decode cX7_even 0 = .ok (.aload_n 0, 1) := by decide +kernel
theorem dX7_even_1 : decode cX7_even 1 = .ok (.getfield 12, 3) := by decide +kernel
theorem dX7_even_4 : decode cX7_even 4 = .ok (.iload_n 1, 1) := by decide +kernel
theorem dX7_even_5 : decode cX7_even 5 = .ok (.invokevirtual 79, 3) := by decide +kernel
theorem dX7_even_8 : decode cX7_even 8 = .ok (.ifCond .eq 15, 3) := by decide +kernel
theorem dX7_even_11 : decode cX7_even 11 = .ok (.aload_n 0, 1) := by decide +kernel
theorem dX7_even_12 : decode cX7_even 12 = .ok (.getfield 19, 3) := by decide +kernel
theorem dX7_even_15 : decode cX7_even 15 = .ok (.iload_n 1, 1) := by decide +kernel
theorem dX7_even_16 : decode cX7_even 16 = .ok (.invokevirtual 104, 3) := by decide +kernel
theorem dX7_even_19 : decode cX7_even 19 = .ok (.iload_n 2, 1) := by decide +kernel
theorem dX7_even_20 : decode cX7_even 20 = .ok (.if_icmp .ne 5, 3) := by decide +kernel
theorem dX7_even_23 : decode cX7_even 23 = .ok (.iconst 0, 1) := by decide +kernel
theorem dX7_even_24 : decode cX7_even 24 = .ok (.ireturn, 1) := by decide +kernel
theorem dX7_even_25 : decode cX7_even 25 = .ok (.aload_n 0, 1) := by decide +kernel
theorem dX7_even_26 : decode cX7_even 26 = .ok (.getfield 19, 3) := by decide +kernel
theorem dX7_even_29 : decode cX7_even 29 = .ok (.dup, 1) := by decide +kernel
theorem dX7_even_30 : decode cX7_even 30 = .ok (.getfield 89, 3) := by decide +kernel
theorem dX7_even_33 : decode cX7_even 33 = .ok (.iconst 1, 1) := by decide +kernel
theorem dX7_even_34 : decode cX7_even 34 = .ok (.iload_n 1, 1) := by decide +kernel
theorem dX7_even_35 : decode cX7_even 35 = .ok (.ishl, 1) := by decide +kernel
theorem dX7_even_36 : decode cX7_even 36 = .ok (.ixor, 1) := by decide +kernel
theorem dX7_even_37 : decode cX7_even 37 = .ok (.putfield 89, 3) := by decide +kernel
theorem dX7_even_40 : decode cX7_even 40 = .ok (.aload_n 0, 1) := by decide +kernel
theorem dX7_even_41 : decode cX7_even 41 = .ok (.getfield 50, 3) := by decide +kernel
theorem dX7_even_44 : decode cX7_even 44 = .ok (.invokevirtual 107, 3) := by decide +kernel
theorem dX7_even_47 : decode cX7_even 47 = .ok (.iconst 1, 1) := by decide +kernel
theorem dX7_even_48 : decode cX7_even 48 = .ok (.ireturn, 1) := by decide +kernel
theorem dX7_price_0 : decode cX7_price 0 = .ok (.aload_n 0, 1) := by decide +kernel
theorem dX7_price_1 : decode cX7_price 1 = .ok (.getfield 12, 3) := by decide +kernel
theorem dX7_price_4 : decode cX7_price 4 = .ok (.iload_n 1, 1) := by decide +kernel
theorem dX7_price_5 : decode cX7_price 5 = .ok (.invokevirtual 79, 3) := by decide +kernel
theorem dX7_price_8 : decode cX7_price 8 = .ok (.ifCond .eq 13, 3) := by decide +kernel
theorem dX7_price_11 : decode cX7_price 11 = .ok (.iload_n 2, 1) := by decide +kernel
theorem dX7_price_12 : decode cX7_price 12 = .ok (.ifCond .lt 9, 3) := by decide +kernel
theorem dX7_price_15 : decode cX7_price 15 = .ok (.iload_n 2, 1) := by decide +kernel
theorem dX7_price_16 : decode cX7_price 16 = .ok (.bipush 99, 2) := by decide +kernel
theorem dX7_price_18 : decode cX7_price 18 = .ok (.if_icmp .le 5, 3) := by decide +kernel
theorem dX7_price_21 : decode cX7_price 21 = .ok (.iconst 0, 1) := by decide +kernel
theorem dX7_price_22 : decode cX7_price 22 = .ok (.ireturn, 1) := by decide +kernel
theorem dX7_price_23 : decode cX7_price 23 = .ok (.aload_n 0, 1) := by decide +kernel
theorem dX7_price_24 : decode cX7_price 24 = .ok (.getfield 12, 3) := by decide +kernel
theorem dX7_price_27 : decode cX7_price 27 = .ok (.getfield 110, 3) := by decide +kernel
theorem dX7_price_30 : decode cX7_price 30 = .ok (.iload_n 1, 1) := by decide +kernel
theorem dX7_price_31 : decode cX7_price 31 = .ok (.iload_n 2, 1) := by decide +kernel
theorem dX7_price_32 : decode cX7_price 32 = .ok (.iastore, 1) := by decide +kernel
theorem dX7_price_33 : decode cX7_price 33 = .ok (.iconst 1, 1) := by decide +kernel
theorem dX7_price_34 : decode cX7_price 34 = .ok (.ireturn, 1) := by decide +kernel
theorem dX7_look_0 : decode cX7_look 0 = .ok (.iload_n 1, 1) := by decide +kernel
theorem dX7_look_1 : decode cX7_look 1 = .ok (.tableswitch 63 0 3 #[31, 39, 47, 55], 31) := by decide +kernel
theorem dX7_look_32 : decode cX7_look 32 = .ok (.aload_n 0, 1) := by decide +kernel
theorem dX7_look_33 : decode cX7_look 33 = .ok (.getfield 12, 3) := by decide +kernel
theorem dX7_look_36 : decode cX7_look 36 = .ok (.getfield 69, 3) := by decide +kernel
theorem dX7_look_39 : decode cX7_look 39 = .ok (.ireturn, 1) := by decide +kernel
theorem dX7_look_40 : decode cX7_look 40 = .ok (.aload_n 0, 1) := by decide +kernel
theorem dX7_look_41 : decode cX7_look 41 = .ok (.getfield 19, 3) := by decide +kernel
theorem dX7_look_44 : decode cX7_look 44 = .ok (.getfield 98, 3) := by decide +kernel
theorem dX7_look_47 : decode cX7_look 47 = .ok (.ireturn, 1) := by decide +kernel
theorem dX7_look_48 : decode cX7_look 48 = .ok (.aload_n 0, 1) := by decide +kernel
theorem dX7_look_49 : decode cX7_look 49 = .ok (.getfield 19, 3) := by decide +kernel
theorem dX7_look_52 : decode cX7_look 52 = .ok (.getfield 101, 3) := by decide +kernel
theorem dX7_look_55 : decode cX7_look 55 = .ok (.ireturn, 1) := by decide +kernel
theorem dX7_look_56 : decode cX7_look 56 = .ok (.aload_n 0, 1) := by decide +kernel
theorem dX7_look_57 : decode cX7_look 57 = .ok (.getfield 19, 3) := by decide +kernel
theorem dX7_look_60 : decode cX7_look 60 = .ok (.getfield 89, 3) := by decide +kernel
theorem dX7_look_63 : decode cX7_look 63 = .ok (.ireturn, 1) := by decide +kernel
theorem dX7_look_64 : decode cX7_look 64 = .ok (.aload_n 0, 1) := by decide +kernel
theorem dX7_look_65 : decode cX7_look 65 = .ok (.iload_n 1, 1) := by decide +kernel
theorem dX7_look_66 : decode cX7_look 66 = .ok (.invokevirtual 113, 3) := by decide +kernel
theorem dX7_look_69 : decode cX7_look 69 = .ok (.ireturn, 1) := by decide +kernel
theorem dX7_lookInRows_0 : decode cX7_lookInRows 0 = .ok (.iload_n 1, 1) := by decide +kernel
theorem dX7_lookInRows_1 : decode cX7_lookInRows 1 = .ok (.bipush 10, 2) := by decide +kernel
theorem dX7_lookInRows_3 : decode cX7_lookInRows 3 = .ok (.if_icmp .lt 30, 3) := by decide +kernel
theorem dX7_lookInRows_6 : decode cX7_lookInRows 6 = .ok (.iload_n 1, 1) := by decide +kernel
theorem dX7_lookInRows_7 : decode cX7_lookInRows 7 = .ok (.bipush 10, 2) := by decide +kernel
theorem dX7_lookInRows_9 : decode cX7_lookInRows 9 = .ok (.aload_n 0, 1) := by decide +kernel
theorem dX7_lookInRows_10 : decode cX7_lookInRows 10 = .ok (.getfield 12, 3) := by decide +kernel
theorem dX7_lookInRows_13 : decode cX7_lookInRows 13 = .ok (.getfield 69, 3) := by decide +kernel
theorem dX7_lookInRows_16 : decode cX7_lookInRows 16 = .ok (.iadd, 1) := by decide +kernel
theorem dX7_lookInRows_17 : decode cX7_lookInRows 17 = .ok (.if_icmp .ge 16, 3) := by decide +kernel
theorem dX7_lookInRows_20 : decode cX7_lookInRows 20 = .ok (.aload_n 0, 1) := by decide +kernel
theorem dX7_lookInRows_21 : decode cX7_lookInRows 21 = .ok (.getfield 12, 3) := by decide +kernel
theorem dX7_lookInRows_24 : decode cX7_lookInRows 24 = .ok (.getfield 82, 3) := by decide +kernel
theorem dX7_lookInRows_27 : decode cX7_lookInRows 27 = .ok (.iload_n 1, 1) := by decide +kernel
theorem dX7_lookInRows_28 : decode cX7_lookInRows 28 = .ok (.bipush 10, 2) := by decide +kernel
theorem dX7_lookInRows_30 : decode cX7_lookInRows 30 = .ok (.isub, 1) := by decide +kernel
theorem dX7_lookInRows_31 : decode cX7_lookInRows 31 = .ok (.iaload, 1) := by decide +kernel
theorem dX7_lookInRows_32 : decode cX7_lookInRows 32 = .ok (.ireturn, 1) := by decide +kernel
theorem dX7_lookInRows_33 : decode cX7_lookInRows 33 = .ok (.iload_n 1, 1) := by decide +kernel
theorem dX7_lookInRows_34 : decode cX7_lookInRows 34 = .ok (.bipush 30, 2) := by decide +kernel
theorem dX7_lookInRows_36 : decode cX7_lookInRows 36 = .ok (.if_icmp .lt 30, 3) := by decide +kernel
theorem dX7_lookInRows_39 : decode cX7_lookInRows 39 = .ok (.iload_n 1, 1) := by decide +kernel
theorem dX7_lookInRows_40 : decode cX7_lookInRows 40 = .ok (.bipush 30, 2) := by decide +kernel
theorem dX7_lookInRows_42 : decode cX7_lookInRows 42 = .ok (.aload_n 0, 1) := by decide +kernel
theorem dX7_lookInRows_43 : decode cX7_lookInRows 43 = .ok (.getfield 12, 3) := by decide +kernel
theorem dX7_lookInRows_46 : decode cX7_lookInRows 46 = .ok (.getfield 69, 3) := by decide +kernel
theorem dX7_lookInRows_49 : decode cX7_lookInRows 49 = .ok (.iadd, 1) := by decide +kernel
theorem dX7_lookInRows_50 : decode cX7_lookInRows 50 = .ok (.if_icmp .ge 16, 3) := by decide +kernel
theorem dX7_lookInRows_53 : decode cX7_lookInRows 53 = .ok (.aload_n 0, 1) := by decide +kernel
theorem dX7_lookInRows_54 : decode cX7_lookInRows 54 = .ok (.getfield 12, 3) := by decide +kernel
theorem dX7_lookInRows_57 : decode cX7_lookInRows 57 = .ok (.getfield 110, 3) := by decide +kernel
theorem dX7_lookInRows_60 : decode cX7_lookInRows 60 = .ok (.iload_n 1, 1) := by decide +kernel
theorem dX7_lookInRows_61 : decode cX7_lookInRows 61 = .ok (.bipush 30, 2) := by decide +kernel
theorem dX7_lookInRows_63 : decode cX7_lookInRows 63 = .ok (.isub, 1) := by decide +kernel
theorem dX7_lookInRows_64 : decode cX7_lookInRows 64 = .ok (.iaload, 1) := by decide +kernel
theorem dX7_lookInRows_65 : decode cX7_lookInRows 65 = .ok (.ireturn, 1) := by decide +kernel
theorem dX7_lookInRows_66 : decode cX7_lookInRows 66 = .ok (.iload_n 1, 1) := by decide +kernel
theorem dX7_lookInRows_67 : decode cX7_lookInRows 67 = .ok (.bipush 50, 2) := by decide +kernel
theorem dX7_lookInRows_69 : decode cX7_lookInRows 69 = .ok (.if_icmp .lt 22, 3) := by decide +kernel
theorem dX7_lookInRows_72 : decode cX7_lookInRows 72 = .ok (.iload_n 1, 1) := by decide +kernel
theorem dX7_lookInRows_73 : decode cX7_lookInRows 73 = .ok (.bipush 58, 2) := by decide +kernel
theorem dX7_lookInRows_75 : decode cX7_lookInRows 75 = .ok (.if_icmp .ge 16, 3) := by decide +kernel
theorem dX7_lookInRows_78 : decode cX7_lookInRows 78 = .ok (.aload_n 0, 1) := by decide +kernel
theorem dX7_lookInRows_79 : decode cX7_lookInRows 79 = .ok (.getfield 12, 3) := by decide +kernel
theorem dX7_lookInRows_82 : decode cX7_lookInRows 82 = .ok (.getfield 92, 3) := by decide +kernel
theorem dX7_lookInRows_85 : decode cX7_lookInRows 85 = .ok (.iload_n 1, 1) := by decide +kernel
theorem dX7_lookInRows_86 : decode cX7_lookInRows 86 = .ok (.bipush 50, 2) := by decide +kernel
theorem dX7_lookInRows_88 : decode cX7_lookInRows 88 = .ok (.isub, 1) := by decide +kernel
theorem dX7_lookInRows_89 : decode cX7_lookInRows 89 = .ok (.iaload, 1) := by decide +kernel
theorem dX7_lookInRows_90 : decode cX7_lookInRows 90 = .ok (.ireturn, 1) := by decide +kernel
theorem dX7_lookInRows_91 : decode cX7_lookInRows 91 = .ok (.sipush (-1001), 3) := by decide +kernel
theorem dX7_lookInRows_94 : decode cX7_lookInRows 94 = .ok (.ireturn, 1) := by decide +kernel
theorem dX7_run_0 : decode cX7_run 0 = .ok (.iload_n 1, 1) := by decide +kernel
theorem dX7_run_1 : decode cX7_run 1 = .ok (.invokestatic 116, 3) := by decide +kernel
theorem dX7_run_4 : decode cX7_run 4 = .ok (.ifCond .eq 19, 3) := by decide +kernel
theorem dX7_run_7 : decode cX7_run 7 = .ok (.iload_n 2, 1) := by decide +kernel
theorem dX7_run_8 : decode cX7_run 8 = .ok (.invokestatic 116, 3) := by decide +kernel
theorem dX7_run_11 : decode cX7_run 11 = .ok (.ifCond .eq 12, 3) := by decide +kernel
theorem dX7_run_14 : decode cX7_run 14 = .ok (.iload_n 3, 1) := by decide +kernel
theorem dX7_run_15 : decode cX7_run 15 = .ok (.ifCond .lt 8, 3) := by decide +kernel
theorem dX7_run_18 : decode cX7_run 18 = .ok (.iload_n 3, 1) := by decide +kernel
theorem dX7_run_19 : decode cX7_run 19 = .ok (.iconst 4, 1) := by decide +kernel
theorem dX7_run_20 : decode cX7_run 20 = .ok (.if_icmp .le 7, 3) := by decide +kernel
theorem dX7_run_23 : decode cX7_run 23 = .ok (.sipush (-1001), 3) := by decide +kernel
theorem dX7_run_26 : decode cX7_run 26 = .ok (.ireturn, 1) := by decide +kernel
theorem dX7_run_27 : decode cX7_run 27 = .ok (.aload_n 0, 1) := by decide +kernel
theorem dX7_run_28 : decode cX7_run 28 = .ok (.aload_n 0, 1) := by decide +kernel
theorem dX7_run_29 : decode cX7_run 29 = .ok (.getfield 40, 3) := by decide +kernel
theorem dX7_run_32 : decode cX7_run 32 = .ok (.iload_n 1, 1) := by decide +kernel
theorem dX7_run_33 : decode cX7_run 33 = .ok (.iload_n 2, 1) := by decide +kernel
theorem dX7_run_34 : decode cX7_run 34 = .ok (.invokevirtual 119, 3) := by decide +kernel
theorem dX7_run_37 : decode cX7_run 37 = .ok (.iload_n 3, 1) := by decide +kernel
theorem dX7_run_38 : decode cX7_run 38 = .ok (.tableswitch 77 0 3 #[30, 38, 53, 61], 30) := by decide +kernel
theorem dX7_run_68 : decode cX7_run 68 = .ok (.aload_n 0, 1) := by decide +kernel
theorem dX7_run_69 : decode cX7_run 69 = .ok (.getfield 33, 3) := by decide +kernel
theorem dX7_run_72 : decode cX7_run 72 = .ok (.getfield 123, 3) := by decide +kernel
theorem dX7_run_75 : decode cX7_run 75 = .ok (.ireturn, 1) := by decide +kernel
theorem dX7_run_76 : decode cX7_run 76 = .ok (.aload_n 0, 1) := by decide +kernel
theorem dX7_run_77 : decode cX7_run 77 = .ok (.getfield 33, 3) := by decide +kernel
theorem dX7_run_80 : decode cX7_run 80 = .ok (.aload_n 0, 1) := by decide +kernel
theorem dX7_run_81 : decode cX7_run 81 = .ok (.getfield 19, 3) := by decide +kernel
theorem dX7_run_84 : decode cX7_run 84 = .ok (.getfield 89, 3) := by decide +kernel
theorem dX7_run_87 : decode cX7_run 87 = .ok (.invokevirtual 126, 3) := by decide +kernel
theorem dX7_run_90 : decode cX7_run 90 = .ok (.ireturn, 1) := by decide +kernel
theorem dX7_run_91 : decode cX7_run 91 = .ok (.aload_n 0, 1) := by decide +kernel
theorem dX7_run_92 : decode cX7_run 92 = .ok (.getfield 33, 3) := by decide +kernel
theorem dX7_run_95 : decode cX7_run 95 = .ok (.getfield 129, 3) := by decide +kernel
theorem dX7_run_98 : decode cX7_run 98 = .ok (.ireturn, 1) := by decide +kernel
theorem dX7_run_99 : decode cX7_run 99 = .ok (.aload_n 0, 1) := by decide +kernel
theorem dX7_run_100 : decode cX7_run 100 = .ok (.getfield 33, 3) := by decide +kernel
theorem dX7_run_103 : decode cX7_run 103 = .ok (.getfield 132, 3) := by decide +kernel
theorem dX7_run_106 : decode cX7_run 106 = .ok (.ifCond .eq 7, 3) := by decide +kernel
theorem dX7_run_109 : decode cX7_run 109 = .ok (.iconst 1, 1) := by decide +kernel
theorem dX7_run_110 : decode cX7_run 110 = .ok (.goto 4, 3) := by decide +kernel
theorem dX7_run_113 : decode cX7_run 113 = .ok (.iconst 0, 1) := by decide +kernel
theorem dX7_run_114 : decode cX7_run 114 = .ok (.ireturn, 1) := by decide +kernel
theorem dX7_run_115 : decode cX7_run 115 = .ok (.aload_n 0, 1) := by decide +kernel
theorem dX7_run_116 : decode cX7_run 116 = .ok (.getfield 40, 3) := by decide +kernel
theorem dX7_run_119 : decode cX7_run 119 = .ok (.getfield 136, 3) := by decide +kernel
theorem dX7_run_122 : decode cX7_run 122 = .ok (.ireturn, 1) := by decide +kernel
theorem dX7_seen_0 : decode cX7_seen 0 = .ok (.iload_n 1, 1) := by decide +kernel
theorem dX7_seen_1 : decode cX7_seen 1 = .ok (.invokestatic 116, 3) := by decide +kernel
theorem dX7_seen_4 : decode cX7_seen 4 = .ok (.ifCond .eq 21, 3) := by decide +kernel
theorem dX7_seen_7 : decode cX7_seen 7 = .ok (.iload_n 2, 1) := by decide +kernel
theorem dX7_seen_8 : decode cX7_seen 8 = .ok (.invokestatic 116, 3) := by decide +kernel
theorem dX7_seen_11 : decode cX7_seen 11 = .ok (.ifCond .eq 14, 3) := by decide +kernel
theorem dX7_seen_14 : decode cX7_seen 14 = .ok (.iload 4, 2) := by decide +kernel
theorem dX7_seen_16 : decode cX7_seen 16 = .ok (.ifCond .lt 9, 3) := by decide +kernel
theorem dX7_seen_19 : decode cX7_seen 19 = .ok (.iload 4, 2) := by decide +kernel
theorem dX7_seen_21 : decode cX7_seen 21 = .ok (.iconst 2, 1) := by decide +kernel
theorem dX7_seen_22 : decode cX7_seen 22 = .ok (.if_icmp .le 7, 3) := by decide +kernel
theorem dX7_seen_25 : decode cX7_seen 25 = .ok (.sipush (-1001), 3) := by decide +kernel
theorem dX7_seen_28 : decode cX7_seen 28 = .ok (.ireturn, 1) := by decide +kernel
theorem dX7_seen_29 : decode cX7_seen 29 = .ok (.aload_n 0, 1) := by decide +kernel
theorem dX7_seen_30 : decode cX7_seen 30 = .ok (.aload_n 0, 1) := by decide +kernel
theorem dX7_seen_31 : decode cX7_seen 31 = .ok (.getfield 40, 3) := by decide +kernel
theorem dX7_seen_34 : decode cX7_seen 34 = .ok (.iload_n 1, 1) := by decide +kernel
theorem dX7_seen_35 : decode cX7_seen 35 = .ok (.iload_n 2, 1) := by decide +kernel
theorem dX7_seen_36 : decode cX7_seen 36 = .ok (.invokevirtual 119, 3) := by decide +kernel
theorem dX7_seen_39 : decode cX7_seen 39 = .ok (.aload_n 0, 1) := by decide +kernel
theorem dX7_seen_40 : decode cX7_seen 40 = .ok (.getfield 40, 3) := by decide +kernel
theorem dX7_seen_43 : decode cX7_seen 43 = .ok (.iload_n 3, 1) := by decide +kernel
theorem dX7_seen_44 : decode cX7_seen 44 = .ok (.invokevirtual 139, 3) := by decide +kernel
theorem dX7_seen_47 : decode cX7_seen 47 = .ok (.ifCond .ne 7, 3) := by decide +kernel
theorem dX7_seen_50 : decode cX7_seen 50 = .ok (.sipush (-1001), 3) := by decide +kernel
theorem dX7_seen_53 : decode cX7_seen 53 = .ok (.ireturn, 1) := by decide +kernel
theorem dX7_seen_54 : decode cX7_seen 54 = .ok (.iload 4, 2) := by decide +kernel
theorem dX7_seen_56 : decode cX7_seen 56 = .ok (.lookupswitch 48 #[(0, 28), (1, 38)], 28) := by decide +kernel
theorem dX7_seen_84 : decode cX7_seen 84 = .ok (.aload_n 0, 1) := by decide +kernel
theorem dX7_seen_85 : decode cX7_seen 85 = .ok (.getfield 40, 3) := by decide +kernel
theorem dX7_seen_88 : decode cX7_seen 88 = .ok (.getfield 140, 3) := by decide +kernel
theorem dX7_seen_91 : decode cX7_seen 91 = .ok (.iload_n 3, 1) := by decide +kernel
theorem dX7_seen_92 : decode cX7_seen 92 = .ok (.iaload, 1) := by decide +kernel
theorem dX7_seen_93 : decode cX7_seen 93 = .ok (.ireturn, 1) := by decide +kernel
theorem dX7_seen_94 : decode cX7_seen 94 = .ok (.aload_n 0, 1) := by decide +kernel
theorem dX7_seen_95 : decode cX7_seen 95 = .ok (.getfield 40, 3) := by decide +kernel
theorem dX7_seen_98 : decode cX7_seen 98 = .ok (.getfield 143, 3) := by decide +kernel
theorem dX7_seen_101 : decode cX7_seen 101 = .ok (.iload_n 3, 1) := by decide +kernel
theorem dX7_seen_102 : decode cX7_seen 102 = .ok (.iaload, 1) := by decide +kernel
theorem dX7_seen_103 : decode cX7_seen 103 = .ok (.ireturn, 1) := by decide +kernel
theorem dX7_seen_104 : decode cX7_seen 104 = .ok (.aload_n 0, 1) := by decide +kernel
theorem dX7_seen_105 : decode cX7_seen 105 = .ok (.getfield 40, 3) := by decide +kernel
theorem dX7_seen_108 : decode cX7_seen 108 = .ok (.getfield 146, 3) := by decide +kernel
theorem dX7_seen_111 : decode cX7_seen 111 = .ok (.iload_n 3, 1) := by decide +kernel
theorem dX7_seen_112 : decode cX7_seen 112 = .ok (.iaload, 1) := by decide +kernel
theorem dX7_seen_113 : decode cX7_seen 113 = .ok (.ireturn, 1) := by decide +kernel
theorem dX7_classes_0 : decode cX7_classes 0 = .ok (.iload_n 1, 1) := by decide +kernel
theorem dX7_classes_1 : decode cX7_classes 1 = .ok (.invokestatic 116, 3) := by decide +kernel
theorem dX7_classes_4 : decode cX7_classes 4 = .ok (.ifCond .ne 5, 3) := by decide +kernel
theorem dX7_classes_7 : decode cX7_classes 7 = .ok (.iconst (-1), 1) := by decide +kernel
theorem dX7_classes_8 : decode cX7_classes 8 = .ok (.ireturn, 1) := by decide +kernel
theorem dX7_classes_9 : decode cX7_classes 9 = .ok (.aload_n 0, 1) := by decide +kernel
theorem dX7_classes_10 : decode cX7_classes 10 = .ok (.getfield 50, 3) := by decide +kernel
theorem dX7_classes_13 : decode cX7_classes 13 = .ok (.aload_n 0, 1) := by decide +kernel
theorem dX7_classes_14 : decode cX7_classes 14 = .ok (.getfield 26, 3) := by decide +kernel
theorem dX7_classes_17 : decode cX7_classes 17 = .ok (.aload_n 0, 1) := by decide +kernel
theorem dX7_classes_18 : decode cX7_classes 18 = .ok (.getfield 12, 3) := by decide +kernel
theorem dX7_classes_21 : decode cX7_classes 21 = .ok (.aload_n 0, 1) := by decide +kernel
theorem dX7_classes_22 : decode cX7_classes 22 = .ok (.getfield 19, 3) := by decide +kernel
theorem dX7_classes_25 : decode cX7_classes 25 = .ok (.iload_n 1, 1) := by decide +kernel
theorem dX7_classes_26 : decode cX7_classes 26 = .ok (.invokevirtual 149, 3) := by decide +kernel
theorem dX7_classes_29 : decode cX7_classes 29 = .ok (.aload_n 0, 1) := by decide +kernel
theorem dX7_classes_30 : decode cX7_classes 30 = .ok (.getfield 50, 3) := by decide +kernel
theorem dX7_classes_33 : decode cX7_classes 33 = .ok (.getfield 153, 3) := by decide +kernel
theorem dX7_classes_36 : decode cX7_classes 36 = .ok (.iload_n 1, 1) := by decide +kernel
theorem dX7_classes_37 : decode cX7_classes 37 = .ok (.iaload, 1) := by decide +kernel
theorem dX7_classes_38 : decode cX7_classes 38 = .ok (.ireturn, 1) := by decide +kernel
theorem dX7_classOf_0 : decode cX7_classOf 0 = .ok (.iload_n 1, 1) := by decide +kernel
theorem dX7_classOf_1 : decode cX7_classOf 1 = .ok (.invokestatic 116, 3) := by decide +kernel
theorem dX7_classOf_4 : decode cX7_classOf 4 = .ok (.ifCond .eq 10, 3) := by decide +kernel
theorem dX7_classOf_7 : decode cX7_classOf 7 = .ok (.iload_n 2, 1) := by decide +kernel
theorem dX7_classOf_8 : decode cX7_classOf 8 = .ok (.invokestatic 116, 3) := by decide +kernel
theorem dX7_classOf_11 : decode cX7_classOf 11 = .ok (.ifCond .ne 5, 3) := by decide +kernel
theorem dX7_classOf_14 : decode cX7_classOf 14 = .ok (.iconst (-1), 1) := by decide +kernel
theorem dX7_classOf_15 : decode cX7_classOf 15 = .ok (.ireturn, 1) := by decide +kernel
theorem dX7_classOf_16 : decode cX7_classOf 16 = .ok (.aload_n 0, 1) := by decide +kernel
theorem dX7_classOf_17 : decode cX7_classOf 17 = .ok (.getfield 50, 3) := by decide +kernel
theorem dX7_classOf_20 : decode cX7_classOf 20 = .ok (.aload_n 0, 1) := by decide +kernel
theorem dX7_classOf_21 : decode cX7_classOf 21 = .ok (.getfield 26, 3) := by decide +kernel
theorem dX7_classOf_24 : decode cX7_classOf 24 = .ok (.aload_n 0, 1) := by decide +kernel
theorem dX7_classOf_25 : decode cX7_classOf 25 = .ok (.getfield 12, 3) := by decide +kernel
theorem dX7_classOf_28 : decode cX7_classOf 28 = .ok (.aload_n 0, 1) := by decide +kernel
theorem dX7_classOf_29 : decode cX7_classOf 29 = .ok (.getfield 19, 3) := by decide +kernel
theorem dX7_classOf_32 : decode cX7_classOf 32 = .ok (.iload_n 1, 1) := by decide +kernel
theorem dX7_classOf_33 : decode cX7_classOf 33 = .ok (.invokevirtual 149, 3) := by decide +kernel
theorem dX7_classOf_36 : decode cX7_classOf 36 = .ok (.aload_n 0, 1) := by decide +kernel
theorem dX7_classOf_37 : decode cX7_classOf 37 = .ok (.getfield 50, 3) := by decide +kernel
theorem dX7_classOf_40 : decode cX7_classOf 40 = .ok (.getfield 156, 3) := by decide +kernel
theorem dX7_classOf_43 : decode cX7_classOf 43 = .ok (.iload_n 1, 1) := by decide +kernel
theorem dX7_classOf_44 : decode cX7_classOf 44 = .ok (.aaload, 1) := by decide +kernel
theorem dX7_classOf_45 : decode cX7_classOf 45 = .ok (.iload_n 2, 1) := by decide +kernel
theorem dX7_classOf_46 : decode cX7_classOf 46 = .ok (.iaload, 1) := by decide +kernel
theorem dX7_classOf_47 : decode cX7_classOf 47 = .ok (.ireturn, 1) := by decide +kernel
theorem dX7_most_0 : decode cX7_most 0 = .ok (.iconst 0, 1) := by decide +kernel
theorem dX7_most_1 : decode cX7_most 1 = .ok (.istore_n 1, 1) := by decide +kernel
theorem dX7_most_2 : decode cX7_most 2 = .ok (.iconst 0, 1) := by decide +kernel
theorem dX7_most_3 : decode cX7_most 3 = .ok (.istore_n 2, 1) := by decide +kernel
theorem dX7_most_4 : decode cX7_most 4 = .ok (.iload_n 2, 1) := by decide +kernel
theorem dX7_most_5 : decode cX7_most 5 = .ok (.bipush 16, 2) := by decide +kernel
theorem dX7_most_7 : decode cX7_most 7 = .ok (.if_icmp .ge 43, 3) := by decide +kernel
theorem dX7_most_10 : decode cX7_most 10 = .ok (.aload_n 0, 1) := by decide +kernel
theorem dX7_most_11 : decode cX7_most 11 = .ok (.getfield 50, 3) := by decide +kernel
theorem dX7_most_14 : decode cX7_most 14 = .ok (.aload_n 0, 1) := by decide +kernel
theorem dX7_most_15 : decode cX7_most 15 = .ok (.getfield 26, 3) := by decide +kernel
theorem dX7_most_18 : decode cX7_most 18 = .ok (.aload_n 0, 1) := by decide +kernel
theorem dX7_most_19 : decode cX7_most 19 = .ok (.getfield 12, 3) := by decide +kernel
theorem dX7_most_22 : decode cX7_most 22 = .ok (.aload_n 0, 1) := by decide +kernel
theorem dX7_most_23 : decode cX7_most 23 = .ok (.getfield 19, 3) := by decide +kernel
theorem dX7_most_26 : decode cX7_most 26 = .ok (.iload_n 2, 1) := by decide +kernel
theorem dX7_most_27 : decode cX7_most 27 = .ok (.invokevirtual 149, 3) := by decide +kernel
theorem dX7_most_30 : decode cX7_most 30 = .ok (.iload_n 1, 1) := by decide +kernel
theorem dX7_most_31 : decode cX7_most 31 = .ok (.aload_n 0, 1) := by decide +kernel
theorem dX7_most_32 : decode cX7_most 32 = .ok (.getfield 50, 3) := by decide +kernel
theorem dX7_most_35 : decode cX7_most 35 = .ok (.getfield 153, 3) := by decide +kernel
theorem dX7_most_38 : decode cX7_most 38 = .ok (.iload_n 2, 1) := by decide +kernel
theorem dX7_most_39 : decode cX7_most 39 = .ok (.iaload, 1) := by decide +kernel
theorem dX7_most_40 : decode cX7_most 40 = .ok (.invokestatic 160, 3) := by decide +kernel
theorem dX7_most_43 : decode cX7_most 43 = .ok (.istore_n 1, 1) := by decide +kernel
theorem dX7_most_44 : decode cX7_most 44 = .ok (.iinc 2 1, 3) := by decide +kernel
theorem dX7_most_47 : decode cX7_most 47 = .ok (.goto (-43), 3) := by decide +kernel
theorem dX7_most_50 : decode cX7_most 50 = .ok (.iload_n 1, 1) := by decide +kernel
theorem dX7_most_51 : decode cX7_most 51 = .ok (.ireturn, 1) := by decide +kernel
theorem dX7_silent_0 : decode cX7_silent 0 = .ok (.aload_n 0, 1) := by decide +kernel
theorem dX7_silent_1 : decode cX7_silent 1 = .ok (.invokevirtual 166, 3) := by decide +kernel
theorem dX7_silent_4 : decode cX7_silent 4 = .ok (.iconst (-1), 1) := by decide +kernel
theorem dX7_silent_5 : decode cX7_silent 5 = .ok (.if_icmp .ne 7, 3) := by decide +kernel
theorem dX7_silent_8 : decode cX7_silent 8 = .ok (.iconst 1, 1) := by decide +kernel
theorem dX7_silent_9 : decode cX7_silent 9 = .ok (.goto 4, 3) := by decide +kernel
theorem dX7_silent_12 : decode cX7_silent 12 = .ok (.iconst 0, 1) := by decide +kernel
theorem dX7_silent_13 : decode cX7_silent 13 = .ok (.ireturn, 1) := by decide +kernel
theorem dX7_pair_0 : decode cX7_pair 0 = .ok (.iload_n 1, 1) := by decide +kernel
theorem dX7_pair_1 : decode cX7_pair 1 = .ok (.ifCond .lt 8, 3) := by decide +kernel
theorem dX7_pair_4 : decode cX7_pair 4 = .ok (.iload_n 1, 1) := by decide +kernel
theorem dX7_pair_5 : decode cX7_pair 5 = .ok (.iconst 4, 1) := by decide +kernel
theorem dX7_pair_6 : decode cX7_pair 6 = .ok (.if_icmp .le 7, 3) := by decide +kernel
theorem dX7_pair_9 : decode cX7_pair 9 = .ok (.sipush (-1001), 3) := by decide +kernel
theorem dX7_pair_12 : decode cX7_pair 12 = .ok (.ireturn, 1) := by decide +kernel
theorem dX7_pair_13 : decode cX7_pair 13 = .ok (.aload_n 0, 1) := by decide +kernel
theorem dX7_pair_14 : decode cX7_pair 14 = .ok (.invokevirtual 166, 3) := by decide +kernel
theorem dX7_pair_17 : decode cX7_pair 17 = .ok (.istore_n 2, 1) := by decide +kernel
theorem dX7_pair_18 : decode cX7_pair 18 = .ok (.iload_n 2, 1) := by decide +kernel
theorem dX7_pair_19 : decode cX7_pair 19 = .ok (.iconst (-1), 1) := by decide +kernel
theorem dX7_pair_20 : decode cX7_pair 20 = .ok (.if_icmp .ne 7, 3) := by decide +kernel
theorem dX7_pair_23 : decode cX7_pair 23 = .ok (.sipush (-1001), 3) := by decide +kernel
theorem dX7_pair_26 : decode cX7_pair 26 = .ok (.ireturn, 1) := by decide +kernel
theorem dX7_pair_27 : decode cX7_pair 27 = .ok (.aload_n 0, 1) := by decide +kernel
theorem dX7_pair_28 : decode cX7_pair 28 = .ok (.getfield 50, 3) := by decide +kernel
theorem dX7_pair_31 : decode cX7_pair 31 = .ok (.iload_n 2, 1) := by decide +kernel
theorem dX7_pair_32 : decode cX7_pair 32 = .ok (.invokevirtual 170, 3) := by decide +kernel
theorem dX7_pair_35 : decode cX7_pair 35 = .ok (.istore_n 3, 1) := by decide +kernel
theorem dX7_pair_36 : decode cX7_pair 36 = .ok (.iload_n 1, 1) := by decide +kernel
theorem dX7_pair_37 : decode cX7_pair 37 = .ok (.ifCond .ne 5, 3) := by decide +kernel
theorem dX7_pair_40 : decode cX7_pair 40 = .ok (.iload_n 2, 1) := by decide +kernel
theorem dX7_pair_41 : decode cX7_pair 41 = .ok (.ireturn, 1) := by decide +kernel
theorem dX7_pair_42 : decode cX7_pair 42 = .ok (.iload_n 1, 1) := by decide +kernel
theorem dX7_pair_43 : decode cX7_pair 43 = .ok (.iconst 1, 1) := by decide +kernel
theorem dX7_pair_44 : decode cX7_pair 44 = .ok (.if_icmp .ne 5, 3) := by decide +kernel
theorem dX7_pair_47 : decode cX7_pair 47 = .ok (.iload_n 3, 1) := by decide +kernel
theorem dX7_pair_48 : decode cX7_pair 48 = .ok (.ireturn, 1) := by decide +kernel
theorem dX7_pair_49 : decode cX7_pair 49 = .ok (.aload_n 0, 1) := by decide +kernel
theorem dX7_pair_50 : decode cX7_pair 50 = .ok (.iload_n 2, 1) := by decide +kernel
theorem dX7_pair_51 : decode cX7_pair 51 = .ok (.iload_n 3, 1) := by decide +kernel
theorem dX7_pair_52 : decode cX7_pair 52 = .ok (.iload_n 1, 1) := by decide +kernel
theorem dX7_pair_53 : decode cX7_pair 53 = .ok (.invokevirtual 173, 3) := by decide +kernel
theorem dX7_pair_56 : decode cX7_pair 56 = .ok (.ireturn, 1) := by decide +kernel
theorem dX7_cure_0 : decode cX7_cure 0 = .ok (.iload_n 1, 1) := by decide +kernel
theorem dX7_cure_1 : decode cX7_cure 1 = .ok (.ifCond .lt 8, 3) := by decide +kernel
theorem dX7_cure_4 : decode cX7_cure 4 = .ok (.iload_n 1, 1) := by decide +kernel
theorem dX7_cure_5 : decode cX7_cure 5 = .ok (.iconst 2, 1) := by decide +kernel
theorem dX7_cure_6 : decode cX7_cure 6 = .ok (.if_icmp .le 5, 3) := by decide +kernel
theorem dX7_cure_9 : decode cX7_cure 9 = .ok (.iconst (-1), 1) := by decide +kernel
theorem dX7_cure_10 : decode cX7_cure 10 = .ok (.ireturn, 1) := by decide +kernel
theorem dX7_cure_11 : decode cX7_cure 11 = .ok (.aload_n 0, 1) := by decide +kernel
theorem dX7_cure_12 : decode cX7_cure 12 = .ok (.getfield 57, 3) := by decide +kernel
theorem dX7_cure_15 : decode cX7_cure 15 = .ok (.aload_n 0, 1) := by decide +kernel
theorem dX7_cure_16 : decode cX7_cure 16 = .ok (.getfield 26, 3) := by decide +kernel
theorem dX7_cure_19 : decode cX7_cure 19 = .ok (.aload_n 0, 1) := by decide +kernel
theorem dX7_cure_20 : decode cX7_cure 20 = .ok (.getfield 12, 3) := by decide +kernel
theorem dX7_cure_23 : decode cX7_cure 23 = .ok (.aload_n 0, 1) := by decide +kernel
theorem dX7_cure_24 : decode cX7_cure 24 = .ok (.getfield 19, 3) := by decide +kernel
theorem dX7_cure_27 : decode cX7_cure 27 = .ok (.invokevirtual 177, 3) := by decide +kernel
theorem dX7_cure_30 : decode cX7_cure 30 = .ok (.aload_n 0, 1) := by decide +kernel
theorem dX7_cure_31 : decode cX7_cure 31 = .ok (.getfield 57, 3) := by decide +kernel
theorem dX7_cure_34 : decode cX7_cure 34 = .ok (.aload_n 0, 1) := by decide +kernel
theorem dX7_cure_35 : decode cX7_cure 35 = .ok (.getfield 12, 3) := by decide +kernel
theorem dX7_cure_38 : decode cX7_cure 38 = .ok (.invokevirtual 180, 3) := by decide +kernel
theorem dX7_cure_41 : decode cX7_cure 41 = .ok (.istore_n 2, 1) := by decide +kernel
theorem dX7_cure_42 : decode cX7_cure 42 = .ok (.iload_n 2, 1) := by decide +kernel
theorem dX7_cure_43 : decode cX7_cure 43 = .ok (.iconst (-1), 1) := by decide +kernel
theorem dX7_cure_44 : decode cX7_cure 44 = .ok (.if_icmp .ne 5, 3) := by decide +kernel
theorem dX7_cure_47 : decode cX7_cure 47 = .ok (.iconst (-1), 1) := by decide +kernel
theorem dX7_cure_48 : decode cX7_cure 48 = .ok (.ireturn, 1) := by decide +kernel
theorem dX7_cure_49 : decode cX7_cure 49 = .ok (.iload_n 1, 1) := by decide +kernel
theorem dX7_cure_50 : decode cX7_cure 50 = .ok (.lookupswitch 37 #[(0, 26), (1, 35)], 26) := by decide +kernel
theorem dX7_cure_76 : decode cX7_cure 76 = .ok (.aload_n 0, 1) := by decide +kernel
theorem dX7_cure_77 : decode cX7_cure 77 = .ok (.getfield 12, 3) := by decide +kernel
theorem dX7_cure_80 : decode cX7_cure 80 = .ok (.iload_n 2, 1) := by decide +kernel
theorem dX7_cure_81 : decode cX7_cure 81 = .ok (.invokevirtual 184, 3) := by decide +kernel
theorem dX7_cure_84 : decode cX7_cure 84 = .ok (.ireturn, 1) := by decide +kernel
theorem dX7_cure_85 : decode cX7_cure 85 = .ok (.iload_n 2, 1) := by decide +kernel
theorem dX7_cure_86 : decode cX7_cure 86 = .ok (.ireturn, 1) := by decide +kernel
theorem dX7_cure_87 : decode cX7_cure 87 = .ok (.aload_n 0, 1) := by decide +kernel
theorem dX7_cure_88 : decode cX7_cure 88 = .ok (.getfield 57, 3) := by decide +kernel
theorem dX7_cure_91 : decode cX7_cure 91 = .ok (.aload_n 0, 1) := by decide +kernel
theorem dX7_cure_92 : decode cX7_cure 92 = .ok (.getfield 12, 3) := by decide +kernel
theorem dX7_cure_95 : decode cX7_cure 95 = .ok (.invokevirtual 187, 3) := by decide +kernel
theorem dX7_cure_98 : decode cX7_cure 98 = .ok (.ireturn, 1) := by decide +kernel
theorem dX7_reached_0 : decode cX7_reached 0 = .ok (.aload_n 0, 1) := by decide +kernel
theorem dX7_reached_1 : decode cX7_reached 1 = .ok (.getfield 61, 3) := by decide +kernel
theorem dX7_reached_4 : decode cX7_reached 4 = .ok (.iconst (-1), 1) := by decide +kernel
theorem dX7_reached_5 : decode cX7_reached 5 = .ok (.if_icmp .ne 11, 3) := by decide +kernel
theorem dX7_reached_8 : decode cX7_reached 8 = .ok (.aload_n 0, 1) := by decide +kernel
theorem dX7_reached_9 : decode cX7_reached 9 = .ok (.aload_n 0, 1) := by decide +kernel
theorem dX7_reached_10 : decode cX7_reached 10 = .ok (.invokevirtual 190, 3) := by decide +kernel
theorem dX7_reached_13 : decode cX7_reached 13 = .ok (.putfield 61, 3) := by decide +kernel
theorem dX7_reached_16 : decode cX7_reached 16 = .ok (.aload_n 0, 1) := by decide +kernel
theorem dX7_reached_17 : decode cX7_reached 17 = .ok (.getfield 61, 3) := by decide +kernel
theorem dX7_reached_20 : decode cX7_reached 20 = .ok (.ireturn, 1) := by decide +kernel
theorem dX7_tellers_0 : decode cX7_tellers 0 = .ok (.aload_n 0, 1) := by decide +kernel
theorem dX7_tellers_1 : decode cX7_tellers 1 = .ok (.getfield 57, 3) := by decide +kernel
theorem dX7_tellers_4 : decode cX7_tellers 4 = .ok (.aload_n 0, 1) := by decide +kernel
theorem dX7_tellers_5 : decode cX7_tellers 5 = .ok (.getfield 26, 3) := by decide +kernel
theorem dX7_tellers_8 : decode cX7_tellers 8 = .ok (.aload_n 0, 1) := by decide +kernel
theorem dX7_tellers_9 : decode cX7_tellers 9 = .ok (.getfield 12, 3) := by decide +kernel
theorem dX7_tellers_12 : decode cX7_tellers 12 = .ok (.aload_n 0, 1) := by decide +kernel
theorem dX7_tellers_13 : decode cX7_tellers 13 = .ok (.getfield 19, 3) := by decide +kernel
theorem dX7_tellers_16 : decode cX7_tellers 16 = .ok (.invokevirtual 177, 3) := by decide +kernel
theorem dX7_tellers_19 : decode cX7_tellers 19 = .ok (.aload_n 0, 1) := by decide +kernel
theorem dX7_tellers_20 : decode cX7_tellers 20 = .ok (.getfield 12, 3) := by decide +kernel
theorem dX7_tellers_23 : decode cX7_tellers 23 = .ok (.invokevirtual 193, 3) := by decide +kernel
theorem dX7_tellers_26 : decode cX7_tellers 26 = .ok (.istore_n 1, 1) := by decide +kernel
theorem dX7_tellers_27 : decode cX7_tellers 27 = .ok (.iconst 0, 1) := by decide +kernel
theorem dX7_tellers_28 : decode cX7_tellers 28 = .ok (.istore_n 2, 1) := by decide +kernel
theorem dX7_tellers_29 : decode cX7_tellers 29 = .ok (.iconst 0, 1) := by decide +kernel
theorem dX7_tellers_30 : decode cX7_tellers 30 = .ok (.istore_n 3, 1) := by decide +kernel
theorem dX7_tellers_31 : decode cX7_tellers 31 = .ok (.iload_n 3, 1) := by decide +kernel
theorem dX7_tellers_32 : decode cX7_tellers 32 = .ok (.aload_n 0, 1) := by decide +kernel
theorem dX7_tellers_33 : decode cX7_tellers 33 = .ok (.getfield 12, 3) := by decide +kernel
theorem dX7_tellers_36 : decode cX7_tellers 36 = .ok (.getfield 69, 3) := by decide +kernel
theorem dX7_tellers_39 : decode cX7_tellers 39 = .ok (.if_icmp .ge 33, 3) := by decide +kernel
theorem dX7_tellers_42 : decode cX7_tellers 42 = .ok (.aload_n 0, 1) := by decide +kernel
theorem dX7_tellers_43 : decode cX7_tellers 43 = .ok (.getfield 57, 3) := by decide +kernel
theorem dX7_tellers_46 : decode cX7_tellers 46 = .ok (.getfield 196, 3) := by decide +kernel
theorem dX7_tellers_49 : decode cX7_tellers 49 = .ok (.iload_n 1, 1) := by decide +kernel
theorem dX7_tellers_50 : decode cX7_tellers 50 = .ok (.iconst 1, 1) := by decide +kernel
theorem dX7_tellers_51 : decode cX7_tellers 51 = .ok (.iload_n 3, 1) := by decide +kernel
theorem dX7_tellers_52 : decode cX7_tellers 52 = .ok (.ishl, 1) := by decide +kernel
theorem dX7_tellers_53 : decode cX7_tellers 53 = .ok (.iconst (-1), 1) := by decide +kernel
theorem dX7_tellers_54 : decode cX7_tellers 54 = .ok (.ixor, 1) := by decide +kernel
theorem dX7_tellers_55 : decode cX7_tellers 55 = .ok (.iand, 1) := by decide +kernel
theorem dX7_tellers_56 : decode cX7_tellers 56 = .ok (.baload, 1) := by decide +kernel
theorem dX7_tellers_57 : decode cX7_tellers 57 = .ok (.ifCond .ne 9, 3) := by decide +kernel
theorem dX7_tellers_60 : decode cX7_tellers 60 = .ok (.iload_n 2, 1) := by decide +kernel
theorem dX7_tellers_61 : decode cX7_tellers 61 = .ok (.iconst 1, 1) := by decide +kernel
theorem dX7_tellers_62 : decode cX7_tellers 62 = .ok (.iload_n 3, 1) := by decide +kernel
theorem dX7_tellers_63 : decode cX7_tellers 63 = .ok (.ishl, 1) := by decide +kernel
theorem dX7_tellers_64 : decode cX7_tellers 64 = .ok (.ior, 1) := by decide +kernel
theorem dX7_tellers_65 : decode cX7_tellers 65 = .ok (.istore_n 2, 1) := by decide +kernel
theorem dX7_tellers_66 : decode cX7_tellers 66 = .ok (.iinc 3 1, 3) := by decide +kernel
theorem dX7_tellers_69 : decode cX7_tellers 69 = .ok (.goto (-38), 3) := by decide +kernel
theorem dX7_tellers_72 : decode cX7_tellers 72 = .ok (.iload_n 2, 1) := by decide +kernel
theorem dX7_tellers_73 : decode cX7_tellers 73 = .ok (.ireturn, 1) := by decide +kernel
theorem dX7_isOrder_0 : decode cX7_isOrder 0 = .ok (.iload_n 0, 1) := by decide +kernel
theorem dX7_isOrder_1 : decode cX7_isOrder 1 = .ok (.ifCond .lt 13, 3) := by decide +kernel
theorem dX7_isOrder_4 : decode cX7_isOrder 4 = .ok (.iload_n 0, 1) := by decide +kernel
theorem dX7_isOrder_5 : decode cX7_isOrder 5 = .ok (.ldc 200, 2) := by decide +kernel
theorem dX7_isOrder_7 : decode cX7_isOrder 7 = .ok (.if_icmp .ge 7, 3) := by decide +kernel
theorem dX7_isOrder_10 : decode cX7_isOrder 10 = .ok (.iconst 1, 1) := by decide +kernel
theorem dX7_isOrder_11 : decode cX7_isOrder 11 = .ok (.goto 4, 3) := by decide +kernel
theorem dX7_isOrder_14 : decode cX7_isOrder 14 = .ok (.iconst 0, 1) := by decide +kernel
theorem dX7_isOrder_15 : decode cX7_isOrder 15 = .ok (.ireturn, 1) := by decide +kernel
theorem dX7_isInput_0 : decode cX7_isInput 0 = .ok (.iload_n 0, 1) := by decide +kernel
theorem dX7_isInput_1 : decode cX7_isInput 1 = .ok (.ifCond .lt 13, 3) := by decide +kernel
theorem dX7_isInput_4 : decode cX7_isInput 4 = .ok (.iload_n 0, 1) := by decide +kernel
theorem dX7_isInput_5 : decode cX7_isInput 5 = .ok (.bipush 16, 2) := by decide +kernel
theorem dX7_isInput_7 : decode cX7_isInput 7 = .ok (.if_icmp .ge 7, 3) := by decide +kernel
theorem dX7_isInput_10 : decode cX7_isInput 10 = .ok (.iconst 1, 1) := by decide +kernel
theorem dX7_isInput_11 : decode cX7_isInput 11 = .ok (.goto 4, 3) := by decide +kernel
theorem dX7_isInput_14 : decode cX7_isInput 14 = .ok (.iconst 0, 1) := by decide +kernel
theorem dX7_isInput_15 : decode cX7_isInput 15 = .ok (.ireturn, 1) := by decide +kernel
theorem dX7_isWidth_0 : decode cX7_isWidth 0 = .ok (.iload_n 0, 1) := by decide +kernel
theorem dX7_isWidth_1 : decode cX7_isWidth 1 = .ok (.iconst 1, 1) := by decide +kernel
theorem dX7_isWidth_2 : decode cX7_isWidth 2 = .ok (.if_icmp .eq 19, 3) := by decide +kernel
theorem dX7_isWidth_5 : decode cX7_isWidth 5 = .ok (.iload_n 0, 1) := by decide +kernel
theorem dX7_isWidth_6 : decode cX7_isWidth 6 = .ok (.iconst 2, 1) := by decide +kernel
theorem dX7_isWidth_7 : decode cX7_isWidth 7 = .ok (.if_icmp .eq 14, 3) := by decide +kernel
theorem dX7_isWidth_10 : decode cX7_isWidth 10 = .ok (.iload_n 0, 1) := by decide +kernel
theorem dX7_isWidth_11 : decode cX7_isWidth 11 = .ok (.iconst 4, 1) := by decide +kernel
theorem dX7_isWidth_12 : decode cX7_isWidth 12 = .ok (.if_icmp .eq 9, 3) := by decide +kernel
theorem dX7_isWidth_15 : decode cX7_isWidth 15 = .ok (.iload_n 0, 1) := by decide +kernel
theorem dX7_isWidth_16 : decode cX7_isWidth 16 = .ok (.bipush 8, 2) := by decide +kernel
theorem dX7_isWidth_18 : decode cX7_isWidth 18 = .ok (.if_icmp .ne 7, 3) := by decide +kernel
theorem dX7_isWidth_21 : decode cX7_isWidth 21 = .ok (.iconst 1, 1) := by decide +kernel
theorem dX7_isWidth_22 : decode cX7_isWidth 22 = .ok (.goto 4, 3) := by decide +kernel
theorem dX7_isWidth_25 : decode cX7_isWidth 25 = .ok (.iconst 0, 1) := by decide +kernel
theorem dX7_isWidth_26 : decode cX7_isWidth 26 = .ok (.ireturn, 1) := by decide +kernel
theorem dX7_forgetRuns_0 : decode cX7_forgetRuns 0 = .ok (.aload_n 0, 1) := by decide +kernel
theorem dX7_forgetRuns_1 : decode cX7_forgetRuns 1 = .ok (.iconst (-1), 1) := by decide +kernel
theorem dX7_forgetRuns_2 : decode cX7_forgetRuns 2 = .ok (.putfield 61, 3) := by decide +kernel
theorem dX7_forgetRuns_5 : decode cX7_forgetRuns 5 = .ok (.aload_n 0, 1) := by decide +kernel
theorem dX7_forgetRuns_6 : decode cX7_forgetRuns 6 = .ok (.getfield 50, 3) := by decide +kernel
theorem dX7_forgetRuns_9 : decode cX7_forgetRuns 9 = .ok (.invokevirtual 107, 3) := by decide +kernel
theorem dX7_forgetRuns_12 : decode cX7_forgetRuns 12 = .ok (.aload_n 0, 1) := by decide +kernel
theorem dX7_forgetRuns_13 : decode cX7_forgetRuns 13 = .ok (.getfield 57, 3) := by decide +kernel
theorem dX7_forgetRuns_16 : decode cX7_forgetRuns 16 = .ok (.invokevirtual 201, 3) := by decide +kernel
theorem dX7_forgetRuns_19 : decode cX7_forgetRuns 19 = .ok (.return_, 1) := by decide +kernel
theorem dX7_fillRow_0 : decode cX7_fillRow 0 = .ok (.aload_n 0, 1) := by decide +kernel
theorem dX7_fillRow_1 : decode cX7_fillRow 1 = .ok (.getfield 26, 3) := by decide +kernel
theorem dX7_fillRow_4 : decode cX7_fillRow 4 = .ok (.aload_n 0, 1) := by decide +kernel
theorem dX7_fillRow_5 : decode cX7_fillRow 5 = .ok (.getfield 12, 3) := by decide +kernel
theorem dX7_fillRow_8 : decode cX7_fillRow 8 = .ok (.aload_n 0, 1) := by decide +kernel
theorem dX7_fillRow_9 : decode cX7_fillRow 9 = .ok (.getfield 19, 3) := by decide +kernel
theorem dX7_fillRow_12 : decode cX7_fillRow 12 = .ok (.iload_n 2, 1) := by decide +kernel
theorem dX7_fillRow_13 : decode cX7_fillRow 13 = .ok (.iload_n 3, 1) := by decide +kernel
theorem dX7_fillRow_14 : decode cX7_fillRow 14 = .ok (.aload_n 0, 1) := by decide +kernel
theorem dX7_fillRow_15 : decode cX7_fillRow 15 = .ok (.getfield 33, 3) := by decide +kernel
theorem dX7_fillRow_18 : decode cX7_fillRow 18 = .ok (.invokevirtual 202, 3) := by decide +kernel
theorem dX7_fillRow_21 : decode cX7_fillRow 21 = .ok (.aload_n 1, 1) := by decide +kernel
theorem dX7_fillRow_22 : decode cX7_fillRow 22 = .ok (.aload_n 0, 1) := by decide +kernel
theorem dX7_fillRow_23 : decode cX7_fillRow 23 = .ok (.getfield 33, 3) := by decide +kernel
theorem dX7_fillRow_26 : decode cX7_fillRow 26 = .ok (.aload_n 0, 1) := by decide +kernel
theorem dX7_fillRow_27 : decode cX7_fillRow 27 = .ok (.getfield 19, 3) := by decide +kernel
theorem dX7_fillRow_30 : decode cX7_fillRow 30 = .ok (.getfield 98, 3) := by decide +kernel
theorem dX7_fillRow_33 : decode cX7_fillRow 33 = .ok (.aload_n 0, 1) := by decide +kernel
theorem dX7_fillRow_34 : decode cX7_fillRow 34 = .ok (.getfield 19, 3) := by decide +kernel
theorem dX7_fillRow_37 : decode cX7_fillRow 37 = .ok (.getfield 89, 3) := by decide +kernel
theorem dX7_fillRow_40 : decode cX7_fillRow 40 = .ok (.invokevirtual 206, 3) := by decide +kernel
theorem dX7_fillRow_43 : decode cX7_fillRow 43 = .ok (.return_, 1) := by decide +kernel
theorem dX7_firstToldOpen_0 : decode cX7_firstToldOpen 0 = .ok (.iconst 0, 1) := by decide +kernel
theorem dX7_firstToldOpen_1 : decode cX7_firstToldOpen 1 = .ok (.istore_n 1, 1) := by decide +kernel
theorem dX7_firstToldOpen_2 : decode cX7_firstToldOpen 2 = .ok (.iload_n 1, 1) := by decide +kernel
theorem dX7_firstToldOpen_3 : decode cX7_firstToldOpen 3 = .ok (.bipush 16, 2) := by decide +kernel
theorem dX7_firstToldOpen_5 : decode cX7_firstToldOpen 5 = .ok (.if_icmp .ge 44, 3) := by decide +kernel
theorem dX7_firstToldOpen_8 : decode cX7_firstToldOpen 8 = .ok (.aload_n 0, 1) := by decide +kernel
theorem dX7_firstToldOpen_9 : decode cX7_firstToldOpen 9 = .ok (.getfield 50, 3) := by decide +kernel
theorem dX7_firstToldOpen_12 : decode cX7_firstToldOpen 12 = .ok (.aload_n 0, 1) := by decide +kernel
theorem dX7_firstToldOpen_13 : decode cX7_firstToldOpen 13 = .ok (.getfield 26, 3) := by decide +kernel
theorem dX7_firstToldOpen_16 : decode cX7_firstToldOpen 16 = .ok (.aload_n 0, 1) := by decide +kernel
theorem dX7_firstToldOpen_17 : decode cX7_firstToldOpen 17 = .ok (.getfield 12, 3) := by decide +kernel
theorem dX7_firstToldOpen_20 : decode cX7_firstToldOpen 20 = .ok (.aload_n 0, 1) := by decide +kernel
theorem dX7_firstToldOpen_21 : decode cX7_firstToldOpen 21 = .ok (.getfield 19, 3) := by decide +kernel
theorem dX7_firstToldOpen_24 : decode cX7_firstToldOpen 24 = .ok (.iload_n 1, 1) := by decide +kernel
theorem dX7_firstToldOpen_25 : decode cX7_firstToldOpen 25 = .ok (.invokevirtual 149, 3) := by decide +kernel
theorem dX7_firstToldOpen_28 : decode cX7_firstToldOpen 28 = .ok (.aload_n 0, 1) := by decide +kernel
theorem dX7_firstToldOpen_29 : decode cX7_firstToldOpen 29 = .ok (.getfield 50, 3) := by decide +kernel
theorem dX7_firstToldOpen_32 : decode cX7_firstToldOpen 32 = .ok (.getfield 153, 3) := by decide +kernel
theorem dX7_firstToldOpen_35 : decode cX7_firstToldOpen 35 = .ok (.iload_n 1, 1) := by decide +kernel
theorem dX7_firstToldOpen_36 : decode cX7_firstToldOpen 36 = .ok (.iaload, 1) := by decide +kernel
theorem dX7_firstToldOpen_37 : decode cX7_firstToldOpen 37 = .ok (.iconst 1, 1) := by decide +kernel
theorem dX7_firstToldOpen_38 : decode cX7_firstToldOpen 38 = .ok (.if_icmp .le 5, 3) := by decide +kernel
theorem dX7_firstToldOpen_41 : decode cX7_firstToldOpen 41 = .ok (.iload_n 1, 1) := by decide +kernel
theorem dX7_firstToldOpen_42 : decode cX7_firstToldOpen 42 = .ok (.ireturn, 1) := by decide +kernel
theorem dX7_firstToldOpen_43 : decode cX7_firstToldOpen 43 = .ok (.iinc 1 1, 3) := by decide +kernel
theorem dX7_firstToldOpen_46 : decode cX7_firstToldOpen 46 = .ok (.goto (-44), 3) := by decide +kernel
theorem dX7_firstToldOpen_49 : decode cX7_firstToldOpen 49 = .ok (.iconst (-1), 1) := by decide +kernel
theorem dX7_firstToldOpen_50 : decode cX7_firstToldOpen 50 = .ok (.ireturn, 1) := by decide +kernel
theorem dX7_firstTold_0 : decode cX7_firstTold 0 = .ok (.aload_n 0, 1) := by decide +kernel
theorem dX7_firstTold_1 : decode cX7_firstTold 1 = .ok (.aload_n 0, 1) := by decide +kernel
theorem dX7_firstTold_2 : decode cX7_firstTold 2 = .ok (.getfield 40, 3) := by decide +kernel
theorem dX7_firstTold_5 : decode cX7_firstTold 5 = .ok (.iload_n 1, 1) := by decide +kernel
theorem dX7_firstTold_6 : decode cX7_firstTold 6 = .ok (.iconst 0, 1) := by decide +kernel
theorem dX7_firstTold_7 : decode cX7_firstTold 7 = .ok (.invokevirtual 119, 3) := by decide +kernel
theorem dX7_firstTold_10 : decode cX7_firstTold 10 = .ok (.aload_n 0, 1) := by decide +kernel
theorem dX7_firstTold_11 : decode cX7_firstTold 11 = .ok (.aload_n 0, 1) := by decide +kernel
theorem dX7_firstTold_12 : decode cX7_firstTold 12 = .ok (.getfield 44, 3) := by decide +kernel
theorem dX7_firstTold_15 : decode cX7_firstTold 15 = .ok (.iload_n 1, 1) := by decide +kernel
theorem dX7_firstTold_16 : decode cX7_firstTold 16 = .ok (.iload_n 2, 1) := by decide +kernel
theorem dX7_firstTold_17 : decode cX7_firstTold 17 = .ok (.invokevirtual 119, 3) := by decide +kernel
theorem dX7_firstTold_20 : decode cX7_firstTold 20 = .ok (.aload_n 0, 1) := by decide +kernel
theorem dX7_firstTold_21 : decode cX7_firstTold 21 = .ok (.getfield 40, 3) := by decide +kernel
theorem dX7_firstTold_24 : decode cX7_firstTold 24 = .ok (.aload_n 0, 1) := by decide +kernel
theorem dX7_firstTold_25 : decode cX7_firstTold 25 = .ok (.getfield 44, 3) := by decide +kernel
theorem dX7_firstTold_28 : decode cX7_firstTold 28 = .ok (.invokevirtual 210, 3) := by decide +kernel
theorem dX7_firstTold_31 : decode cX7_firstTold 31 = .ok (.istore 4, 2) := by decide +kernel
theorem dX7_firstTold_33 : decode cX7_firstTold 33 = .ok (.aload_n 0, 1) := by decide +kernel
theorem dX7_firstTold_34 : decode cX7_firstTold 34 = .ok (.getfield 40, 3) := by decide +kernel
theorem dX7_firstTold_37 : decode cX7_firstTold 37 = .ok (.iload 4, 2) := by decide +kernel
theorem dX7_firstTold_39 : decode cX7_firstTold 39 = .ok (.invokevirtual 139, 3) := by decide +kernel
theorem dX7_firstTold_42 : decode cX7_firstTold 42 = .ok (.ifCond .eq 10, 3) := by decide +kernel
theorem dX7_firstTold_45 : decode cX7_firstTold 45 = .ok (.aload_n 0, 1) := by decide +kernel
theorem dX7_firstTold_46 : decode cX7_firstTold 46 = .ok (.getfield 40, 3) := by decide +kernel
theorem dX7_firstTold_49 : decode cX7_firstTold 49 = .ok (.goto 7, 3) := by decide +kernel
theorem dX7_firstTold_52 : decode cX7_firstTold 52 = .ok (.aload_n 0, 1) := by decide +kernel
theorem dX7_firstTold_53 : decode cX7_firstTold 53 = .ok (.getfield 44, 3) := by decide +kernel
theorem dX7_firstTold_56 : decode cX7_firstTold 56 = .ok (.astore 5, 2) := by decide +kernel
theorem dX7_firstTold_58 : decode cX7_firstTold 58 = .ok (.aload 5, 2) := by decide +kernel
theorem dX7_firstTold_60 : decode cX7_firstTold 60 = .ok (.iload 4, 2) := by decide +kernel
theorem dX7_firstTold_62 : decode cX7_firstTold 62 = .ok (.invokevirtual 139, 3) := by decide +kernel
theorem dX7_firstTold_65 : decode cX7_firstTold 65 = .ok (.ifCond .ne 7, 3) := by decide +kernel
theorem dX7_firstTold_68 : decode cX7_firstTold 68 = .ok (.sipush (-1001), 3) := by decide +kernel
theorem dX7_firstTold_71 : decode cX7_firstTold 71 = .ok (.ireturn, 1) := by decide +kernel
theorem dX7_firstTold_72 : decode cX7_firstTold 72 = .ok (.iload_n 3, 1) := by decide +kernel
theorem dX7_firstTold_73 : decode cX7_firstTold 73 = .ok (.lookupswitch 39 #[(2, 27), (3, 30)], 27) := by decide +kernel
theorem dX7_firstTold_100 : decode cX7_firstTold 100 = .ok (.iload 4, 2) := by decide +kernel
theorem dX7_firstTold_102 : decode cX7_firstTold 102 = .ok (.ireturn, 1) := by decide +kernel
theorem dX7_firstTold_103 : decode cX7_firstTold 103 = .ok (.aload 5, 2) := by decide +kernel
theorem dX7_firstTold_105 : decode cX7_firstTold 105 = .ok (.getfield 140, 3) := by decide +kernel
theorem dX7_firstTold_108 : decode cX7_firstTold 108 = .ok (.iload 4, 2) := by decide +kernel
theorem dX7_firstTold_110 : decode cX7_firstTold 110 = .ok (.iaload, 1) := by decide +kernel
theorem dX7_firstTold_111 : decode cX7_firstTold 111 = .ok (.ireturn, 1) := by decide +kernel
theorem dX7_firstTold_112 : decode cX7_firstTold 112 = .ok (.aload 5, 2) := by decide +kernel
theorem dX7_firstTold_114 : decode cX7_firstTold 114 = .ok (.getfield 143, 3) := by decide +kernel
theorem dX7_firstTold_117 : decode cX7_firstTold 117 = .ok (.iload 4, 2) := by decide +kernel
theorem dX7_firstTold_119 : decode cX7_firstTold 119 = .ok (.iaload, 1) := by decide +kernel
theorem dX7_firstTold_120 : decode cX7_firstTold 120 = .ok (.ireturn, 1) := by decide +kernel
theorem dX7_visitedByAll_0 : decode cX7_visitedByAll 0 = .ok (.iconst 0, 1) := by decide +kernel
theorem dX7_visitedByAll_1 : decode cX7_visitedByAll 1 = .ok (.istore_n 1, 1) := by decide +kernel
theorem dX7_visitedByAll_2 : decode cX7_visitedByAll 2 = .ok (.iconst 0, 1) := by decide +kernel
theorem dX7_visitedByAll_3 : decode cX7_visitedByAll 3 = .ok (.istore_n 2, 1) := by decide +kernel
theorem dX7_visitedByAll_4 : decode cX7_visitedByAll 4 = .ok (.iload_n 2, 1) := by decide +kernel
theorem dX7_visitedByAll_5 : decode cX7_visitedByAll 5 = .ok (.bipush 16, 2) := by decide +kernel
theorem dX7_visitedByAll_7 : decode cX7_visitedByAll 7 = .ok (.if_icmp .ge 54, 3) := by decide +kernel
theorem dX7_visitedByAll_10 : decode cX7_visitedByAll 10 = .ok (.iconst 0, 1) := by decide +kernel
theorem dX7_visitedByAll_11 : decode cX7_visitedByAll 11 = .ok (.istore_n 3, 1) := by decide +kernel
theorem dX7_visitedByAll_12 : decode cX7_visitedByAll 12 = .ok (.iload_n 3, 1) := by decide +kernel
theorem dX7_visitedByAll_13 : decode cX7_visitedByAll 13 = .ok (.bipush 16, 2) := by decide +kernel
theorem dX7_visitedByAll_15 : decode cX7_visitedByAll 15 = .ok (.if_icmp .ge 40, 3) := by decide +kernel
theorem dX7_visitedByAll_18 : decode cX7_visitedByAll 18 = .ok (.aload_n 0, 1) := by decide +kernel
theorem dX7_visitedByAll_19 : decode cX7_visitedByAll 19 = .ok (.getfield 26, 3) := by decide +kernel
theorem dX7_visitedByAll_22 : decode cX7_visitedByAll 22 = .ok (.aload_n 0, 1) := by decide +kernel
theorem dX7_visitedByAll_23 : decode cX7_visitedByAll 23 = .ok (.getfield 12, 3) := by decide +kernel
theorem dX7_visitedByAll_26 : decode cX7_visitedByAll 26 = .ok (.aload_n 0, 1) := by decide +kernel
theorem dX7_visitedByAll_27 : decode cX7_visitedByAll 27 = .ok (.getfield 19, 3) := by decide +kernel
theorem dX7_visitedByAll_30 : decode cX7_visitedByAll 30 = .ok (.iload_n 2, 1) := by decide +kernel
theorem dX7_visitedByAll_31 : decode cX7_visitedByAll 31 = .ok (.iload_n 3, 1) := by decide +kernel
theorem dX7_visitedByAll_32 : decode cX7_visitedByAll 32 = .ok (.aload_n 0, 1) := by decide +kernel
theorem dX7_visitedByAll_33 : decode cX7_visitedByAll 33 = .ok (.getfield 33, 3) := by decide +kernel
theorem dX7_visitedByAll_36 : decode cX7_visitedByAll 36 = .ok (.invokevirtual 202, 3) := by decide +kernel
theorem dX7_visitedByAll_39 : decode cX7_visitedByAll 39 = .ok (.iload_n 1, 1) := by decide +kernel
theorem dX7_visitedByAll_40 : decode cX7_visitedByAll 40 = .ok (.aload_n 0, 1) := by decide +kernel
theorem dX7_visitedByAll_41 : decode cX7_visitedByAll 41 = .ok (.getfield 33, 3) := by decide +kernel
theorem dX7_visitedByAll_44 : decode cX7_visitedByAll 44 = .ok (.getfield 214, 3) := by decide +kernel
theorem dX7_visitedByAll_47 : decode cX7_visitedByAll 47 = .ok (.ior, 1) := by decide +kernel
theorem dX7_visitedByAll_48 : decode cX7_visitedByAll 48 = .ok (.istore_n 1, 1) := by decide +kernel
theorem dX7_visitedByAll_49 : decode cX7_visitedByAll 49 = .ok (.iinc 3 1, 3) := by decide +kernel
theorem dX7_visitedByAll_52 : decode cX7_visitedByAll 52 = .ok (.goto (-40), 3) := by decide +kernel
theorem dX7_visitedByAll_55 : decode cX7_visitedByAll 55 = .ok (.iinc 2 1, 3) := by decide +kernel
theorem dX7_visitedByAll_58 : decode cX7_visitedByAll 58 = .ok (.goto (-54), 3) := by decide +kernel
theorem dX7_visitedByAll_61 : decode cX7_visitedByAll 61 = .ok (.iload_n 1, 1) := by decide +kernel
theorem dX7_visitedByAll_62 : decode cX7_visitedByAll 62 = .ok (.ireturn, 1) := by decide +kernel
theorem dX8_init_0 : decode cX8_init 0 = .ok (.aload_n 0, 1) := by decide +kernel
theorem dX8_init_1 : decode cX8_init 1 = .ok (.invokespecial 1, 3) := by decide +kernel
theorem dX8_init_4 : decode cX8_init 4 = .ok (.aload_n 0, 1) := by decide +kernel
theorem dX8_init_5 : decode cX8_init 5 = .ok (.bipush 10, 2) := by decide +kernel
theorem dX8_init_7 : decode cX8_init 7 = .ok (.newarray .int, 2) := by decide +kernel
theorem dX8_init_9 : decode cX8_init 9 = .ok (.putfield 7, 3) := by decide +kernel
theorem dX8_init_12 : decode cX8_init 12 = .ok (.aload_n 0, 1) := by decide +kernel
theorem dX8_init_13 : decode cX8_init 13 = .ok (.bipush 10, 2) := by decide +kernel
theorem dX8_init_15 : decode cX8_init 15 = .ok (.newarray .int, 2) := by decide +kernel
