theorem dX8_init_17 : decode cX8_init 17 = .ok (.dup, 1) := by decide +kernel
theorem dX8_init_18 : decode cX8_init 18 = .ok (.iconst 0, 1) := by decide +kernel
theorem dX8_init_19 : decode cX8_init 19 = .ok (.iconst 1, 1) := by decide +kernel
theorem dX8_init_20 : decode cX8_init 20 = .ok (.iastore, 1) := by decide +kernel
theorem dX8_init_21 : decode cX8_init 21 = .ok (.dup, 1) := by decide +kernel
theorem dX8_init_22 : decode cX8_init 22 = .ok (.iconst 1, 1) := by decide +kernel
theorem dX8_init_23 : decode cX8_init 23 = .ok (.iconst 1, 1) := by decide +kernel
theorem dX8_init_24 : decode cX8_init 24 = .ok (.iastore, 1) := by decide +kernel
theorem dX8_init_25 : decode cX8_init 25 = .ok (.dup, 1) := by decide +kernel
theorem dX8_init_26 : decode cX8_init 26 = .ok (.iconst 2, 1) := by decide +kernel
theorem dX8_init_27 : decode cX8_init 27 = .ok (.iconst 1, 1) := by decide +kernel
theorem dX8_init_28 : decode cX8_init 28 = .ok (.iastore, 1) := by decide +kernel
theorem dX8_init_29 : decode cX8_init 29 = .ok (.dup, 1) := by decide +kernel
theorem dX8_init_30 : decode cX8_init 30 = .ok (.iconst 3, 1) := by decide +kernel
theorem dX8_init_31 : decode cX8_init 31 = .ok (.iconst 1, 1) := by decide +kernel
theorem dX8_init_32 : decode cX8_init 32 = .ok (.iastore, 1) := by decide +kernel
theorem dX8_init_33 : decode cX8_init 33 = .ok (.dup, 1) := by decide +kernel
theorem dX8_init_34 : decode cX8_init 34 = .ok (.iconst 4, 1) := by decide +kernel
theorem dX8_init_35 : decode cX8_init 35 = .ok (.iconst 1, 1) := by decide +kernel
theorem dX8_init_36 : decode cX8_init 36 = .ok (.iastore, 1) := by decide +kernel
theorem dX8_init_37 : decode cX8_init 37 = .ok (.dup, 1) := by decide +kernel
theorem dX8_init_38 : decode cX8_init 38 = .ok (.iconst 5, 1) := by decide +kernel
theorem dX8_init_39 : decode cX8_init 39 = .ok (.iconst 1, 1) := by decide +kernel
theorem dX8_init_40 : decode cX8_init 40 = .ok (.iastore, 1) := by decide +kernel
theorem dX8_init_41 : decode cX8_init 41 = .ok (.dup, 1) := by decide +kernel
theorem dX8_init_42 : decode cX8_init 42 = .ok (.bipush 6, 2) := by decide +kernel
theorem dX8_init_44 : decode cX8_init 44 = .ok (.iconst 1, 1) := by decide +kernel
theorem dX8_init_45 : decode cX8_init 45 = .ok (.iastore, 1) := by decide +kernel
theorem dX8_init_46 : decode cX8_init 46 = .ok (.dup, 1) := by decide +kernel
theorem dX8_init_47 : decode cX8_init 47 = .ok (.bipush 7, 2) := by decide +kernel
theorem dX8_init_49 : decode cX8_init 49 = .ok (.iconst 1, 1) := by decide +kernel
theorem dX8_init_50 : decode cX8_init 50 = .ok (.iastore, 1) := by decide +kernel
theorem dX8_init_51 : decode cX8_init 51 = .ok (.dup, 1) := by decide +kernel
theorem dX8_init_52 : decode cX8_init 52 = .ok (.bipush 8, 2) := by decide +kernel
theorem dX8_init_54 : decode cX8_init 54 = .ok (.iconst 1, 1) := by decide +kernel
theorem dX8_init_55 : decode cX8_init 55 = .ok (.iastore, 1) := by decide +kernel
theorem dX8_init_56 : decode cX8_init 56 = .ok (.dup, 1) := by decide +kernel
theorem dX8_init_57 : decode cX8_init 57 = .ok (.bipush 9, 2) := by decide +kernel
theorem dX8_init_59 : decode cX8_init 59 = .ok (.iconst 1, 1) := by decide +kernel
theorem dX8_init_60 : decode cX8_init 60 = .ok (.iastore, 1) := by decide +kernel
theorem dX8_init_61 : decode cX8_init 61 = .ok (.putfield 13, 3) := by decide +kernel
theorem dX8_init_64 : decode cX8_init 64 = .ok (.aload_n 0, 1) := by decide +kernel
theorem dX8_init_65 : decode cX8_init 65 = .ok (.bipush 8, 2) := by decide +kernel
theorem dX8_init_67 : decode cX8_init 67 = .ok (.newarray .int, 2) := by decide +kernel
theorem dX8_init_69 : decode cX8_init 69 = .ok (.putfield 16, 3) := by decide +kernel
theorem dX8_init_72 : decode cX8_init 72 = .ok (.aload_n 0, 1) := by decide +kernel
theorem dX8_init_73 : decode cX8_init 73 = .ok (.bipush 15, 2) := by decide +kernel
theorem dX8_init_75 : decode cX8_init 75 = .ok (.putfield 19, 3) := by decide +kernel
theorem dX8_init_78 : decode cX8_init 78 = .ok (.aload_n 0, 1) := by decide +kernel
theorem dX8_init_79 : decode cX8_init 79 = .ok (.iconst 1, 1) := by decide +kernel
theorem dX8_init_80 : decode cX8_init 80 = .ok (.putfield 23, 3) := by decide +kernel
theorem dX8_init_83 : decode cX8_init 83 = .ok (.aload_n 0, 1) := by decide +kernel
theorem dX8_init_84 : decode cX8_init 84 = .ok (.iconst 4, 1) := by decide +kernel
theorem dX8_init_85 : decode cX8_init 85 = .ok (.newarray .int, 2) := by decide +kernel
theorem dX8_init_87 : decode cX8_init 87 = .ok (.putfield 26, 3) := by decide +kernel
theorem dX8_init_90 : decode cX8_init 90 = .ok (.aload_n 0, 1) := by decide +kernel
theorem dX8_init_91 : decode cX8_init 91 = .ok (.bipush 8, 2) := by decide +kernel
theorem dX8_init_93 : decode cX8_init 93 = .ok (.newarray .int, 2) := by decide +kernel
theorem dX8_init_95 : decode cX8_init 95 = .ok (.putfield 29, 3) := by decide +kernel
theorem dX8_init_98 : decode cX8_init 98 = .ok (.aload_n 0, 1) := by decide +kernel
theorem dX8_init_99 : decode cX8_init 99 = .ok (.sipush 256, 3) := by decide +kernel
theorem dX8_init_102 : decode cX8_init 102 = .ok (.newarray .int, 2) := by decide +kernel
theorem dX8_init_104 : decode cX8_init 104 = .ok (.putfield 32, 3) := by decide +kernel
theorem dX8_init_107 : decode cX8_init 107 = .ok (.aload_n 0, 1) := by decide +kernel
theorem dX8_init_108 : decode cX8_init 108 = .ok (.sipush 256, 3) := by decide +kernel
theorem dX8_init_111 : decode cX8_init 111 = .ok (.newarray .int, 2) := by decide +kernel
theorem dX8_init_113 : decode cX8_init 113 = .ok (.putfield 35, 3) := by decide +kernel
theorem dX8_init_116 : decode cX8_init 116 = .ok (.aload_n 0, 1) := by decide +kernel
theorem dX8_init_117 : decode cX8_init 117 = .ok (.sipush 256, 3) := by decide +kernel
theorem dX8_init_120 : decode cX8_init 120 = .ok (.newarray .boolean, 2) := by decide +kernel
theorem dX8_init_122 : decode cX8_init 122 = .ok (.putfield 38, 3) := by decide +kernel
theorem dX8_init_125 : decode cX8_init 125 = .ok (.aload_n 0, 1) := by decide +kernel
theorem dX8_init_126 : decode cX8_init 126 = .ok (.sipush 10240, 3) := by decide +kernel
theorem dX8_init_129 : decode cX8_init 129 = .ok (.newarray .int, 2) := by decide +kernel
theorem dX8_init_131 : decode cX8_init 131 = .ok (.putfield 42, 3) := by decide +kernel
theorem dX8_init_134 : decode cX8_init 134 = .ok (.aload_n 0, 1) := by decide +kernel
theorem dX8_init_135 : decode cX8_init 135 = .ok (.sipush 10240, 3) := by decide +kernel
theorem dX8_init_138 : decode cX8_init 138 = .ok (.newarray .int, 2) := by decide +kernel
theorem dX8_init_140 : decode cX8_init 140 = .ok (.putfield 45, 3) := by decide +kernel
theorem dX8_init_143 : decode cX8_init 143 = .ok (.aload_n 0, 1) := by decide +kernel
theorem dX8_init_144 : decode cX8_init 144 = .ok (.sipush 10240, 3) := by decide +kernel
theorem dX8_init_147 : decode cX8_init 147 = .ok (.newarray .int, 2) := by decide +kernel
theorem dX8_init_149 : decode cX8_init 149 = .ok (.putfield 48, 3) := by decide +kernel
theorem dX8_init_152 : decode cX8_init 152 = .ok (.aload_n 0, 1) := by decide +kernel
theorem dX8_init_153 : decode cX8_init 153 = .ok (.iconst 2, 1) := by decide +kernel
theorem dX8_init_154 : decode cX8_init 154 = .ok (.newarray .int, 2) := by decide +kernel
theorem dX8_init_156 : decode cX8_init 156 = .ok (.putfield 51, 3) := by decide +kernel
theorem dX8_init_159 : decode cX8_init 159 = .ok (.aload_n 0, 1) := by decide +kernel
theorem dX8_init_160 : decode cX8_init 160 = .ok (.bipush 84, 2) := by decide +kernel
theorem dX8_init_162 : decode cX8_init 162 = .ok (.newarray .int, 2) := by decide +kernel
theorem dX8_init_164 : decode cX8_init 164 = .ok (.putfield 54, 3) := by decide +kernel
theorem dX8_init_167 : decode cX8_init 167 = .ok (.aload_n 0, 1) := by decide +kernel
theorem dX8_init_168 : decode cX8_init 168 = .ok (.bipush 84, 2) := by decide +kernel
theorem dX8_init_170 : decode cX8_init 170 = .ok (.newarray .int, 2) := by decide +kernel
theorem dX8_init_172 : decode cX8_init 172 = .ok (.putfield 57, 3) := by decide +kernel
theorem dX8_init_175 : decode cX8_init 175 = .ok (.aload_n 0, 1) := by decide +kernel
theorem dX8_init_176 : decode cX8_init 176 = .ok (.bipush 84, 2) := by decide +kernel
theorem dX8_init_178 : decode cX8_init 178 = .ok (.newarray .int, 2) := by decide +kernel
theorem dX8_init_180 : decode cX8_init 180 = .ok (.putfield 60, 3) := by decide +kernel
theorem dX8_init_183 : decode cX8_init 183 = .ok (.aload_n 0, 1) := by decide +kernel
theorem dX8_init_184 : decode cX8_init 184 = .ok (.bipush 16, 2) := by decide +kernel
theorem dX8_init_186 : decode cX8_init 186 = .ok (.newarray .int, 2) := by decide +kernel
theorem dX8_init_188 : decode cX8_init 188 = .ok (.putfield 63, 3) := by decide +kernel
theorem dX8_init_191 : decode cX8_init 191 = .ok (.return_, 1) := by decide +kernel
theorem dX8_isOrder_0 : decode cX8_isOrder 0 = .ok (.iload_n 1, 1) := by decide +kernel
theorem dX8_isOrder_1 : decode cX8_isOrder 1 = .ok (.ifCond .lt 13, 3) := by decide +kernel
theorem dX8_isOrder_4 : decode cX8_isOrder 4 = .ok (.iload_n 1, 1) := by decide +kernel
theorem dX8_isOrder_5 : decode cX8_isOrder 5 = .ok (.ldc 69, 2) := by decide +kernel
theorem dX8_isOrder_7 : decode cX8_isOrder 7 = .ok (.if_icmp .ge 7, 3) := by decide +kernel
theorem dX8_isOrder_10 : decode cX8_isOrder 10 = .ok (.iconst 1, 1) := by decide +kernel
theorem dX8_isOrder_11 : decode cX8_isOrder 11 = .ok (.goto 4, 3) := by decide +kernel
theorem dX8_isOrder_14 : decode cX8_isOrder 14 = .ok (.iconst 0, 1) := by decide +kernel
theorem dX8_isOrder_15 : decode cX8_isOrder 15 = .ok (.ireturn, 1) := by decide +kernel
theorem dX8_isPlace_0 : decode cX8_isPlace 0 = .ok (.iload_n 1, 1) := by decide +kernel
theorem dX8_isPlace_1 : decode cX8_isPlace 1 = .ok (.ifCond .lt 15, 3) := by decide +kernel
theorem dX8_isPlace_4 : decode cX8_isPlace 4 = .ok (.iload_n 1, 1) := by decide +kernel
theorem dX8_isPlace_5 : decode cX8_isPlace 5 = .ok (.aload_n 0, 1) := by decide +kernel
theorem dX8_isPlace_6 : decode cX8_isPlace 6 = .ok (.getfield 70, 3) := by decide +kernel
theorem dX8_isPlace_9 : decode cX8_isPlace 9 = .ok (.if_icmp .ge 7, 3) := by decide +kernel
theorem dX8_isPlace_12 : decode cX8_isPlace 12 = .ok (.iconst 1, 1) := by decide +kernel
theorem dX8_isPlace_13 : decode cX8_isPlace 13 = .ok (.goto 4, 3) := by decide +kernel
theorem dX8_isPlace_16 : decode cX8_isPlace 16 = .ok (.iconst 0, 1) := by decide +kernel
theorem dX8_isPlace_17 : decode cX8_isPlace 17 = .ok (.ireturn, 1) := by decide +kernel
theorem dX8_order_0 : decode cX8_order 0 = .ok (.aload_n 0, 1) := by decide +kernel
theorem dX8_order_1 : decode cX8_order 1 = .ok (.iconst 0, 1) := by decide +kernel
theorem dX8_order_2 : decode cX8_order 2 = .ok (.putfield 66, 3) := by decide +kernel
theorem dX8_order_5 : decode cX8_order 5 = .ok (.aload_n 0, 1) := by decide +kernel
theorem dX8_order_6 : decode cX8_order 6 = .ok (.iload_n 1, 1) := by decide +kernel
theorem dX8_order_7 : decode cX8_order 7 = .ok (.invokevirtual 73, 3) := by decide +kernel
theorem dX8_order_10 : decode cX8_order 10 = .ok (.ifCond .eq 12, 3) := by decide +kernel
theorem dX8_order_13 : decode cX8_order 13 = .ok (.aload_n 0, 1) := by decide +kernel
theorem dX8_order_14 : decode cX8_order 14 = .ok (.getfield 70, 3) := by decide +kernel
theorem dX8_order_17 : decode cX8_order 17 = .ok (.bipush 8, 2) := by decide +kernel
theorem dX8_order_19 : decode cX8_order 19 = .ok (.if_icmp .ne 5, 3) := by decide +kernel
theorem dX8_order_22 : decode cX8_order 22 = .ok (.iconst (-1), 1) := by decide +kernel
theorem dX8_order_23 : decode cX8_order 23 = .ok (.ireturn, 1) := by decide +kernel
theorem dX8_order_24 : decode cX8_order 24 = .ok (.aload_n 0, 1) := by decide +kernel
theorem dX8_order_25 : decode cX8_order 25 = .ok (.getfield 7, 3) := by decide +kernel
theorem dX8_order_28 : decode cX8_order 28 = .ok (.aload_n 0, 1) := by decide +kernel
theorem dX8_order_29 : decode cX8_order 29 = .ok (.getfield 70, 3) := by decide +kernel
theorem dX8_order_32 : decode cX8_order 32 = .ok (.iload_n 1, 1) := by decide +kernel
theorem dX8_order_33 : decode cX8_order 33 = .ok (.iastore, 1) := by decide +kernel
theorem dX8_order_34 : decode cX8_order 34 = .ok (.aload_n 0, 1) := by decide +kernel
theorem dX8_order_35 : decode cX8_order 35 = .ok (.aload_n 0, 1) := by decide +kernel
theorem dX8_order_36 : decode cX8_order 36 = .ok (.getfield 70, 3) := by decide +kernel
theorem dX8_order_39 : decode cX8_order 39 = .ok (.iconst 1, 1) := by decide +kernel
theorem dX8_order_40 : decode cX8_order 40 = .ok (.iadd, 1) := by decide +kernel
theorem dX8_order_41 : decode cX8_order 41 = .ok (.putfield 70, 3) := by decide +kernel
theorem dX8_order_44 : decode cX8_order 44 = .ok (.aload_n 0, 1) := by decide +kernel
theorem dX8_order_45 : decode cX8_order 45 = .ok (.getfield 70, 3) := by decide +kernel
theorem dX8_order_48 : decode cX8_order 48 = .ok (.iconst 1, 1) := by decide +kernel
theorem dX8_order_49 : decode cX8_order 49 = .ok (.isub, 1) := by decide +kernel
theorem dX8_order_50 : decode cX8_order 50 = .ok (.ireturn, 1) := by decide +kernel
theorem dX8_change_0 : decode cX8_change 0 = .ok (.aload_n 0, 1) := by decide +kernel
theorem dX8_change_1 : decode cX8_change 1 = .ok (.iconst 0, 1) := by decide +kernel
theorem dX8_change_2 : decode cX8_change 2 = .ok (.putfield 66, 3) := by decide +kernel
theorem dX8_change_5 : decode cX8_change 5 = .ok (.aload_n 0, 1) := by decide +kernel
theorem dX8_change_6 : decode cX8_change 6 = .ok (.iload_n 1, 1) := by decide +kernel
theorem dX8_change_7 : decode cX8_change 7 = .ok (.invokevirtual 77, 3) := by decide +kernel
theorem dX8_change_10 : decode cX8_change 10 = .ok (.ifCond .eq 11, 3) := by decide +kernel
theorem dX8_change_13 : decode cX8_change 13 = .ok (.aload_n 0, 1) := by decide +kernel
theorem dX8_change_14 : decode cX8_change 14 = .ok (.iload_n 2, 1) := by decide +kernel
theorem dX8_change_15 : decode cX8_change 15 = .ok (.invokevirtual 73, 3) := by decide +kernel
theorem dX8_change_18 : decode cX8_change 18 = .ok (.ifCond .ne 5, 3) := by decide +kernel
theorem dX8_change_21 : decode cX8_change 21 = .ok (.iconst 0, 1) := by decide +kernel
theorem dX8_change_22 : decode cX8_change 22 = .ok (.ireturn, 1) := by decide +kernel
theorem dX8_change_23 : decode cX8_change 23 = .ok (.aload_n 0, 1) := by decide +kernel
theorem dX8_change_24 : decode cX8_change 24 = .ok (.getfield 7, 3) := by decide +kernel
theorem dX8_change_27 : decode cX8_change 27 = .ok (.iload_n 1, 1) := by decide +kernel
theorem dX8_change_28 : decode cX8_change 28 = .ok (.iload_n 2, 1) := by decide +kernel
theorem dX8_change_29 : decode cX8_change 29 = .ok (.iastore, 1) := by decide +kernel
theorem dX8_change_30 : decode cX8_change 30 = .ok (.iconst 1, 1) := by decide +kernel
theorem dX8_change_31 : decode cX8_change 31 = .ok (.ireturn, 1) := by decide +kernel
theorem dX8_clear_0 : decode cX8_clear 0 = .ok (.aload_n 0, 1) := by decide +kernel
theorem dX8_clear_1 : decode cX8_clear 1 = .ok (.iconst 0, 1) := by decide +kernel
theorem dX8_clear_2 : decode cX8_clear 2 = .ok (.putfield 66, 3) := by decide +kernel
theorem dX8_clear_5 : decode cX8_clear 5 = .ok (.aload_n 0, 1) := by decide +kernel
theorem dX8_clear_6 : decode cX8_clear 6 = .ok (.iconst 0, 1) := by decide +kernel
theorem dX8_clear_7 : decode cX8_clear 7 = .ok (.putfield 70, 3) := by decide +kernel
theorem dX8_clear_10 : decode cX8_clear 10 = .ok (.aload_n 0, 1) := by decide +kernel
theorem dX8_clear_11 : decode cX8_clear 11 = .ok (.iconst 0, 1) := by decide +kernel
theorem dX8_clear_12 : decode cX8_clear 12 = .ok (.putfield 80, 3) := by decide +kernel
theorem dX8_clear_15 : decode cX8_clear 15 = .ok (.iconst 0, 1) := by decide +kernel
theorem dX8_clear_16 : decode cX8_clear 16 = .ok (.istore_n 1, 1) := by decide +kernel
theorem dX8_clear_17 : decode cX8_clear 17 = .ok (.iload_n 1, 1) := by decide +kernel
theorem dX8_clear_18 : decode cX8_clear 18 = .ok (.bipush 10, 2) := by decide +kernel
theorem dX8_clear_20 : decode cX8_clear 20 = .ok (.if_icmp .ge 16, 3) := by decide +kernel
theorem dX8_clear_23 : decode cX8_clear 23 = .ok (.aload_n 0, 1) := by decide +kernel
theorem dX8_clear_24 : decode cX8_clear 24 = .ok (.getfield 13, 3) := by decide +kernel
theorem dX8_clear_27 : decode cX8_clear 27 = .ok (.iload_n 1, 1) := by decide +kernel
theorem dX8_clear_28 : decode cX8_clear 28 = .ok (.iconst 1, 1) := by decide +kernel
theorem dX8_clear_29 : decode cX8_clear 29 = .ok (.iastore, 1) := by decide +kernel
theorem dX8_clear_30 : decode cX8_clear 30 = .ok (.iinc 1 1, 3) := by decide +kernel
theorem dX8_clear_33 : decode cX8_clear 33 = .ok (.goto (-16), 3) := by decide +kernel
theorem dX8_clear_36 : decode cX8_clear 36 = .ok (.return_, 1) := by decide +kernel
theorem dX8_word_0 : decode cX8_word 0 = .ok (.aload_n 0, 1) := by decide +kernel
theorem dX8_word_1 : decode cX8_word 1 = .ok (.iconst 0, 1) := by decide +kernel
theorem dX8_word_2 : decode cX8_word 2 = .ok (.putfield 66, 3) := by decide +kernel
theorem dX8_word_5 : decode cX8_word 5 = .ok (.iload_n 1, 1) := by decide +kernel
theorem dX8_word_6 : decode cX8_word 6 = .ok (.ifCond .lt 9, 3) := by decide +kernel
theorem dX8_word_9 : decode cX8_word 9 = .ok (.iload_n 1, 1) := by decide +kernel
theorem dX8_word_10 : decode cX8_word 10 = .ok (.bipush 7, 2) := by decide +kernel
theorem dX8_word_12 : decode cX8_word 12 = .ok (.if_icmp .le 5, 3) := by decide +kernel
theorem dX8_word_15 : decode cX8_word 15 = .ok (.iconst 0, 1) := by decide +kernel
theorem dX8_word_16 : decode cX8_word 16 = .ok (.ireturn, 1) := by decide +kernel
theorem dX8_word_17 : decode cX8_word 17 = .ok (.aload_n 0, 1) := by decide +kernel
theorem dX8_word_18 : decode cX8_word 18 = .ok (.getfield 16, 3) := by decide +kernel
theorem dX8_word_21 : decode cX8_word 21 = .ok (.iload_n 1, 1) := by decide +kernel
theorem dX8_word_22 : decode cX8_word 22 = .ok (.iload_n 2, 1) := by decide +kernel
theorem dX8_word_23 : decode cX8_word 23 = .ok (.iastore, 1) := by decide +kernel
theorem dX8_word_24 : decode cX8_word 24 = .ok (.iconst 1, 1) := by decide +kernel
theorem dX8_word_25 : decode cX8_word 25 = .ok (.ireturn, 1) := by decide +kernel
theorem dX8_watch_0 : decode cX8_watch 0 = .ok (.aload_n 0, 1) := by decide +kernel
theorem dX8_watch_1 : decode cX8_watch 1 = .ok (.iconst 0, 1) := by decide +kernel
theorem dX8_watch_2 : decode cX8_watch 2 = .ok (.putfield 66, 3) := by decide +kernel
theorem dX8_watch_5 : decode cX8_watch 5 = .ok (.iload_n 1, 1) := by decide +kernel
theorem dX8_watch_6 : decode cX8_watch 6 = .ok (.ifCond .lt 30, 3) := by decide +kernel
theorem dX8_watch_9 : decode cX8_watch 9 = .ok (.iload_n 1, 1) := by decide +kernel
theorem dX8_watch_10 : decode cX8_watch 10 = .ok (.bipush 15, 2) := by decide +kernel
theorem dX8_watch_12 : decode cX8_watch 12 = .ok (.if_icmp .gt 24, 3) := by decide +kernel
theorem dX8_watch_15 : decode cX8_watch 15 = .ok (.iload_n 2, 1) := by decide +kernel
theorem dX8_watch_16 : decode cX8_watch 16 = .ok (.iconst 1, 1) := by decide +kernel
theorem dX8_watch_17 : decode cX8_watch 17 = .ok (.if_icmp .eq 21, 3) := by decide +kernel
theorem dX8_watch_20 : decode cX8_watch 20 = .ok (.iload_n 2, 1) := by decide +kernel
theorem dX8_watch_21 : decode cX8_watch 21 = .ok (.iconst 2, 1) := by decide +kernel
theorem dX8_watch_22 : decode cX8_watch 22 = .ok (.if_icmp .eq 16, 3) := by decide +kernel
theorem dX8_watch_25 : decode cX8_watch 25 = .ok (.iload_n 2, 1) := by decide +kernel
theorem dX8_watch_26 : decode cX8_watch 26 = .ok (.iconst 4, 1) := by decide +kernel
theorem dX8_watch_27 : decode cX8_watch 27 = .ok (.if_icmp .eq 11, 3) := by decide +kernel
theorem dX8_watch_30 : decode cX8_watch 30 = .ok (.iload_n 2, 1) := by decide +kernel
theorem dX8_watch_31 : decode cX8_watch 31 = .ok (.bipush 8, 2) := by decide +kernel
theorem dX8_watch_33 : decode cX8_watch 33 = .ok (.if_icmp .eq 5, 3) := by decide +kernel
theorem dX8_watch_36 : decode cX8_watch 36 = .ok (.iconst 0, 1) := by decide +kernel
theorem dX8_watch_37 : decode cX8_watch 37 = .ok (.ireturn, 1) := by decide +kernel
theorem dX8_watch_38 : decode cX8_watch 38 = .ok (.aload_n 0, 1) := by decide +kernel
theorem dX8_watch_39 : decode cX8_watch 39 = .ok (.iload_n 1, 1) := by decide +kernel
theorem dX8_watch_40 : decode cX8_watch 40 = .ok (.putfield 19, 3) := by decide +kernel
theorem dX8_watch_43 : decode cX8_watch 43 = .ok (.aload_n 0, 1) := by decide +kernel
theorem dX8_watch_44 : decode cX8_watch 44 = .ok (.iload_n 2, 1) := by decide +kernel
theorem dX8_watch_45 : decode cX8_watch 45 = .ok (.putfield 23, 3) := by decide +kernel
theorem dX8_watch_48 : decode cX8_watch 48 = .ok (.iconst 1, 1) := by decide +kernel
theorem dX8_watch_49 : decode cX8_watch 49 = .ok (.ireturn, 1) := by decide +kernel
theorem dX8_even_0 : decode cX8_even 0 = .ok (.aload_n 0, 1) := by decide +kernel
theorem dX8_even_1 : decode cX8_even 1 = .ok (.iconst 0, 1) := by decide +kernel
theorem dX8_even_2 : decode cX8_even 2 = .ok (.putfield 66, 3) := by decide +kernel
theorem dX8_even_5 : decode cX8_even 5 = .ok (.aload_n 0, 1) := by decide +kernel
theorem dX8_even_6 : decode cX8_even 6 = .ok (.iload_n 1, 1) := by decide +kernel
theorem dX8_even_7 : decode cX8_even 7 = .ok (.invokevirtual 77, 3) := by decide +kernel
theorem dX8_even_10 : decode cX8_even 10 = .ok (.ifCond .eq 24, 3) := by decide +kernel
theorem dX8_even_13 : decode cX8_even 13 = .ok (.aload_n 0, 1) := by decide +kernel
theorem dX8_even_14 : decode cX8_even 14 = .ok (.getfield 80, 3) := by decide +kernel
theorem dX8_even_17 : decode cX8_even 17 = .ok (.iload_n 1, 1) := by decide +kernel
theorem dX8_even_18 : decode cX8_even 18 = .ok (.ishr, 1) := by decide +kernel
theorem dX8_even_19 : decode cX8_even 19 = .ok (.iconst 1, 1) := by decide +kernel
theorem dX8_even_20 : decode cX8_even 20 = .ok (.iand, 1) := by decide +kernel
theorem dX8_even_21 : decode cX8_even 21 = .ok (.iconst 1, 1) := by decide +kernel
theorem dX8_even_22 : decode cX8_even 22 = .ok (.if_icmp .ne 7, 3) := by decide +kernel
theorem dX8_even_25 : decode cX8_even 25 = .ok (.iconst 1, 1) := by decide +kernel
theorem dX8_even_26 : decode cX8_even 26 = .ok (.goto 4, 3) := by decide +kernel
theorem dX8_even_29 : decode cX8_even 29 = .ok (.iconst 0, 1) := by decide +kernel
theorem dX8_even_30 : decode cX8_even 30 = .ok (.iload_n 2, 1) := by decide +kernel
theorem dX8_even_31 : decode cX8_even 31 = .ok (.if_icmp .ne 5, 3) := by decide +kernel
theorem dX8_even_34 : decode cX8_even 34 = .ok (.iconst 0, 1) := by decide +kernel
theorem dX8_even_35 : decode cX8_even 35 = .ok (.ireturn, 1) := by decide +kernel
theorem dX8_even_36 : decode cX8_even 36 = .ok (.aload_n 0, 1) := by decide +kernel
theorem dX8_even_37 : decode cX8_even 37 = .ok (.aload_n 0, 1) := by decide +kernel
theorem dX8_even_38 : decode cX8_even 38 = .ok (.getfield 80, 3) := by decide +kernel
theorem dX8_even_41 : decode cX8_even 41 = .ok (.iconst 1, 1) := by decide +kernel
theorem dX8_even_42 : decode cX8_even 42 = .ok (.iload_n 1, 1) := by decide +kernel
theorem dX8_even_43 : decode cX8_even 43 = .ok (.ishl, 1) := by decide +kernel
theorem dX8_even_44 : decode cX8_even 44 = .ok (.ixor, 1) := by decide +kernel
theorem dX8_even_45 : decode cX8_even 45 = .ok (.putfield 80, 3) := by decide +kernel
theorem dX8_even_48 : decode cX8_even 48 = .ok (.iconst 1, 1) := by decide +kernel
theorem dX8_even_49 : decode cX8_even 49 = .ok (.ireturn, 1) := by decide +kernel
theorem dX8_price_0 : decode cX8_price 0 = .ok (.aload_n 0, 1) := by decide +kernel
theorem dX8_price_1 : decode cX8_price 1 = .ok (.iconst 0, 1) := by decide +kernel
theorem dX8_price_2 : decode cX8_price 2 = .ok (.putfield 66, 3) := by decide +kernel
theorem dX8_price_5 : decode cX8_price 5 = .ok (.aload_n 0, 1) := by decide +kernel
theorem dX8_price_6 : decode cX8_price 6 = .ok (.iload_n 1, 1) := by decide +kernel
theorem dX8_price_7 : decode cX8_price 7 = .ok (.invokevirtual 77, 3) := by decide +kernel
theorem dX8_price_10 : decode cX8_price 10 = .ok (.ifCond .eq 13, 3) := by decide +kernel
theorem dX8_price_13 : decode cX8_price 13 = .ok (.iload_n 2, 1) := by decide +kernel
theorem dX8_price_14 : decode cX8_price 14 = .ok (.ifCond .lt 9, 3) := by decide +kernel
theorem dX8_price_17 : decode cX8_price 17 = .ok (.iload_n 2, 1) := by decide +kernel
theorem dX8_price_18 : decode cX8_price 18 = .ok (.bipush 99, 2) := by decide +kernel
theorem dX8_price_20 : decode cX8_price 20 = .ok (.if_icmp .le 5, 3) := by decide +kernel
theorem dX8_price_23 : decode cX8_price 23 = .ok (.iconst 0, 1) := by decide +kernel
theorem dX8_price_24 : decode cX8_price 24 = .ok (.ireturn, 1) := by decide +kernel
theorem dX8_price_25 : decode cX8_price 25 = .ok (.aload_n 0, 1) := by decide +kernel
theorem dX8_price_26 : decode cX8_price 26 = .ok (.getfield 13, 3) := by decide +kernel
theorem dX8_price_29 : decode cX8_price 29 = .ok (.iload_n 1, 1) := by decide +kernel
theorem dX8_price_30 : decode cX8_price 30 = .ok (.iload_n 2, 1) := by decide +kernel
theorem dX8_price_31 : decode cX8_price 31 = .ok (.iastore, 1) := by decide +kernel
theorem dX8_price_32 : decode cX8_price 32 = .ok (.iconst 1, 1) := by decide +kernel
theorem dX8_price_33 : decode cX8_price 33 = .ok (.ireturn, 1) := by decide +kernel
theorem dX8_look_0 : decode cX8_look 0 = .ok (.aload_n 0, 1) := by decide +kernel
theorem dX8_look_1 : decode cX8_look 1 = .ok (.iconst 0, 1) := by decide +kernel
theorem dX8_look_2 : decode cX8_look 2 = .ok (.putfield 66, 3) := by decide +kernel
theorem dX8_look_5 : decode cX8_look 5 = .ok (.iload_n 1, 1) := by decide +kernel
theorem dX8_look_6 : decode cX8_look 6 = .ok (.ifCond .ne 8, 3) := by decide +kernel
theorem dX8_look_9 : decode cX8_look 9 = .ok (.aload_n 0, 1) := by decide +kernel
theorem dX8_look_10 : decode cX8_look 10 = .ok (.getfield 70, 3) := by decide +kernel
theorem dX8_look_13 : decode cX8_look 13 = .ok (.ireturn, 1) := by decide +kernel
theorem dX8_look_14 : decode cX8_look 14 = .ok (.iload_n 1, 1) := by decide +kernel
theorem dX8_look_15 : decode cX8_look 15 = .ok (.iconst 1, 1) := by decide +kernel
theorem dX8_look_16 : decode cX8_look 16 = .ok (.if_icmp .ne 8, 3) := by decide +kernel
theorem dX8_look_19 : decode cX8_look 19 = .ok (.aload_n 0, 1) := by decide +kernel
theorem dX8_look_20 : decode cX8_look 20 = .ok (.getfield 19, 3) := by decide +kernel
theorem dX8_look_23 : decode cX8_look 23 = .ok (.ireturn, 1) := by decide +kernel
theorem dX8_look_24 : decode cX8_look 24 = .ok (.iload_n 1, 1) := by decide +kernel
theorem dX8_look_25 : decode cX8_look 25 = .ok (.iconst 2, 1) := by decide +kernel
theorem dX8_look_26 : decode cX8_look 26 = .ok (.if_icmp .ne 8, 3) := by decide +kernel
theorem dX8_look_29 : decode cX8_look 29 = .ok (.aload_n 0, 1) := by decide +kernel
theorem dX8_look_30 : decode cX8_look 30 = .ok (.getfield 23, 3) := by decide +kernel
theorem dX8_look_33 : decode cX8_look 33 = .ok (.ireturn, 1) := by decide +kernel
theorem dX8_look_34 : decode cX8_look 34 = .ok (.iload_n 1, 1) := by decide +kernel
theorem dX8_look_35 : decode cX8_look 35 = .ok (.iconst 3, 1) := by decide +kernel
theorem dX8_look_36 : decode cX8_look 36 = .ok (.if_icmp .ne 8, 3) := by decide +kernel
theorem dX8_look_39 : decode cX8_look 39 = .ok (.aload_n 0, 1) := by decide +kernel
theorem dX8_look_40 : decode cX8_look 40 = .ok (.getfield 80, 3) := by decide +kernel
theorem dX8_look_43 : decode cX8_look 43 = .ok (.ireturn, 1) := by decide +kernel
theorem dX8_look_44 : decode cX8_look 44 = .ok (.iload_n 1, 1) := by decide +kernel
theorem dX8_look_45 : decode cX8_look 45 = .ok (.bipush 10, 2) := by decide +kernel
theorem dX8_look_47 : decode cX8_look 47 = .ok (.if_icmp .lt 24, 3) := by decide +kernel
theorem dX8_look_50 : decode cX8_look 50 = .ok (.aload_n 0, 1) := by decide +kernel
theorem dX8_look_51 : decode cX8_look 51 = .ok (.iload_n 1, 1) := by decide +kernel
theorem dX8_look_52 : decode cX8_look 52 = .ok (.bipush 10, 2) := by decide +kernel
theorem dX8_look_54 : decode cX8_look 54 = .ok (.isub, 1) := by decide +kernel
theorem dX8_look_55 : decode cX8_look 55 = .ok (.invokevirtual 77, 3) := by decide +kernel
theorem dX8_look_58 : decode cX8_look 58 = .ok (.ifCond .eq 13, 3) := by decide +kernel
theorem dX8_look_61 : decode cX8_look 61 = .ok (.aload_n 0, 1) := by decide +kernel
theorem dX8_look_62 : decode cX8_look 62 = .ok (.getfield 7, 3) := by decide +kernel
theorem dX8_look_65 : decode cX8_look 65 = .ok (.iload_n 1, 1) := by decide +kernel
theorem dX8_look_66 : decode cX8_look 66 = .ok (.bipush 10, 2) := by decide +kernel
theorem dX8_look_68 : decode cX8_look 68 = .ok (.isub, 1) := by decide +kernel
theorem dX8_look_69 : decode cX8_look 69 = .ok (.iaload, 1) := by decide +kernel
theorem dX8_look_70 : decode cX8_look 70 = .ok (.ireturn, 1) := by decide +kernel
theorem dX8_look_71 : decode cX8_look 71 = .ok (.iload_n 1, 1) := by decide +kernel
theorem dX8_look_72 : decode cX8_look 72 = .ok (.bipush 30, 2) := by decide +kernel
theorem dX8_look_74 : decode cX8_look 74 = .ok (.if_icmp .lt 24, 3) := by decide +kernel
theorem dX8_look_77 : decode cX8_look 77 = .ok (.aload_n 0, 1) := by decide +kernel
theorem dX8_look_78 : decode cX8_look 78 = .ok (.iload_n 1, 1) := by decide +kernel
theorem dX8_look_79 : decode cX8_look 79 = .ok (.bipush 30, 2) := by decide +kernel
theorem dX8_look_81 : decode cX8_look 81 = .ok (.isub, 1) := by decide +kernel
theorem dX8_look_82 : decode cX8_look 82 = .ok (.invokevirtual 77, 3) := by decide +kernel
theorem dX8_look_85 : decode cX8_look 85 = .ok (.ifCond .eq 13, 3) := by decide +kernel
theorem dX8_look_88 : decode cX8_look 88 = .ok (.aload_n 0, 1) := by decide +kernel
theorem dX8_look_89 : decode cX8_look 89 = .ok (.getfield 13, 3) := by decide +kernel
theorem dX8_look_92 : decode cX8_look 92 = .ok (.iload_n 1, 1) := by decide +kernel
theorem dX8_look_93 : decode cX8_look 93 = .ok (.bipush 30, 2) := by decide +kernel
theorem dX8_look_95 : decode cX8_look 95 = .ok (.isub, 1) := by decide +kernel
theorem dX8_look_96 : decode cX8_look 96 = .ok (.iaload, 1) := by decide +kernel
theorem dX8_look_97 : decode cX8_look 97 = .ok (.ireturn, 1) := by decide +kernel
theorem dX8_look_98 : decode cX8_look 98 = .ok (.iload_n 1, 1) := by decide +kernel
theorem dX8_look_99 : decode cX8_look 99 = .ok (.bipush 50, 2) := by decide +kernel
theorem dX8_look_101 : decode cX8_look 101 = .ok (.if_icmp .lt 21, 3) := by decide +kernel
theorem dX8_look_104 : decode cX8_look 104 = .ok (.iload_n 1, 1) := by decide +kernel
theorem dX8_look_105 : decode cX8_look 105 = .ok (.bipush 58, 2) := by decide +kernel
theorem dX8_look_107 : decode cX8_look 107 = .ok (.if_icmp .ge 15, 3) := by decide +kernel
theorem dX8_look_110 : decode cX8_look 110 = .ok (.aload_n 0, 1) := by decide +kernel
theorem dX8_look_111 : decode cX8_look 111 = .ok (.getfield 16, 3) := by decide +kernel
theorem dX8_look_114 : decode cX8_look 114 = .ok (.iload_n 1, 1) := by decide +kernel
theorem dX8_look_115 : decode cX8_look 115 = .ok (.bipush 50, 2) := by decide +kernel
theorem dX8_look_117 : decode cX8_look 117 = .ok (.isub, 1) := by decide +kernel
theorem dX8_look_118 : decode cX8_look 118 = .ok (.iaload, 1) := by decide +kernel
theorem dX8_look_119 : decode cX8_look 119 = .ok (.goto 6, 3) := by decide +kernel
theorem dX8_look_122 : decode cX8_look 122 = .ok (.sipush (-1001), 3) := by decide +kernel
theorem dX8_look_125 : decode cX8_look 125 = .ok (.ireturn, 1) := by decide +kernel
theorem dX8_bits_0 : decode cX8_bits 0 = .ok (.iconst 0, 1) := by decide +kernel
theorem dX8_bits_1 : decode cX8_bits 1 = .ok (.istore_n 2, 1) := by decide +kernel
theorem dX8_bits_2 : decode cX8_bits 2 = .ok (.iload_n 1, 1) := by decide +kernel
theorem dX8_bits_3 : decode cX8_bits 3 = .ok (.istore_n 3, 1) := by decide +kernel
theorem dX8_bits_4 : decode cX8_bits 4 = .ok (.iload_n 3, 1) := by decide +kernel
theorem dX8_bits_5 : decode cX8_bits 5 = .ok (.ifCond .eq 14, 3) := by decide +kernel
theorem dX8_bits_8 : decode cX8_bits 8 = .ok (.iload_n 2, 1) := by decide +kernel
theorem dX8_bits_9 : decode cX8_bits 9 = .ok (.iconst 1, 1) := by decide +kernel
theorem dX8_bits_10 : decode cX8_bits 10 = .ok (.iadd, 1) := by decide +kernel
theorem dX8_bits_11 : decode cX8_bits 11 = .ok (.istore_n 2, 1) := by decide +kernel
theorem dX8_bits_12 : decode cX8_bits 12 = .ok (.iload_n 3, 1) := by decide +kernel
theorem dX8_bits_13 : decode cX8_bits 13 = .ok (.iconst 1, 1) := by decide +kernel
theorem dX8_bits_14 : decode cX8_bits 14 = .ok (.iushr, 1) := by decide +kernel
theorem dX8_bits_15 : decode cX8_bits 15 = .ok (.istore_n 3, 1) := by decide +kernel
theorem dX8_bits_16 : decode cX8_bits 16 = .ok (.goto (-12), 3) := by decide +kernel
theorem dX8_bits_19 : decode cX8_bits 19 = .ok (.iload_n 2, 1) := by decide +kernel
theorem dX8_bits_20 : decode cX8_bits 20 = .ok (.ireturn, 1) := by decide +kernel
theorem dX8_goes_0 : decode cX8_goes 0 = .ok (.aload_n 0, 1) := by decide +kernel
theorem dX8_goes_1 : decode cX8_goes 1 = .ok (.getfield 26, 3) := by decide +kernel
theorem dX8_goes_4 : decode cX8_goes 4 = .ok (.iconst 0, 1) := by decide +kernel
theorem dX8_goes_5 : decode cX8_goes 5 = .ok (.iload_n 1, 1) := by decide +kernel
theorem dX8_goes_6 : decode cX8_goes 6 = .ok (.bipush 16, 2) := by decide +kernel
theorem dX8_goes_8 : decode cX8_goes 8 = .ok (.idiv, 1) := by decide +kernel
theorem dX8_goes_9 : decode cX8_goes 9 = .ok (.iconst 4, 1) := by decide +kernel
theorem dX8_goes_10 : decode cX8_goes 10 = .ok (.irem, 1) := by decide +kernel
theorem dX8_goes_11 : decode cX8_goes 11 = .ok (.iastore, 1) := by decide +kernel
theorem dX8_goes_12 : decode cX8_goes 12 = .ok (.aload_n 0, 1) := by decide +kernel
theorem dX8_goes_13 : decode cX8_goes 13 = .ok (.getfield 26, 3) := by decide +kernel
theorem dX8_goes_16 : decode cX8_goes 16 = .ok (.iconst 1, 1) := by decide +kernel
theorem dX8_goes_17 : decode cX8_goes 17 = .ok (.iload_n 1, 1) := by decide +kernel
theorem dX8_goes_18 : decode cX8_goes 18 = .ok (.bipush 64, 2) := by decide +kernel
theorem dX8_goes_20 : decode cX8_goes 20 = .ok (.idiv, 1) := by decide +kernel
theorem dX8_goes_21 : decode cX8_goes 21 = .ok (.iastore, 1) := by decide +kernel
theorem dX8_goes_22 : decode cX8_goes 22 = .ok (.aload_n 0, 1) := by decide +kernel
theorem dX8_goes_23 : decode cX8_goes 23 = .ok (.getfield 26, 3) := by decide +kernel
theorem dX8_goes_26 : decode cX8_goes 26 = .ok (.iconst 2, 1) := by decide +kernel
theorem dX8_goes_27 : decode cX8_goes 27 = .ok (.iload_n 1, 1) := by decide +kernel
theorem dX8_goes_28 : decode cX8_goes 28 = .ok (.iconst 4, 1) := by decide +kernel
theorem dX8_goes_29 : decode cX8_goes 29 = .ok (.irem, 1) := by decide +kernel
theorem dX8_goes_30 : decode cX8_goes 30 = .ok (.iastore, 1) := by decide +kernel
theorem dX8_goes_31 : decode cX8_goes 31 = .ok (.aload_n 0, 1) := by decide +kernel
theorem dX8_goes_32 : decode cX8_goes 32 = .ok (.getfield 26, 3) := by decide +kernel
theorem dX8_goes_35 : decode cX8_goes 35 = .ok (.iconst 3, 1) := by decide +kernel
theorem dX8_goes_36 : decode cX8_goes 36 = .ok (.iload_n 1, 1) := by decide +kernel
theorem dX8_goes_37 : decode cX8_goes 37 = .ok (.iconst 4, 1) := by decide +kernel
theorem dX8_goes_38 : decode cX8_goes 38 = .ok (.idiv, 1) := by decide +kernel
theorem dX8_goes_39 : decode cX8_goes 39 = .ok (.iconst 4, 1) := by decide +kernel
theorem dX8_goes_40 : decode cX8_goes 40 = .ok (.irem, 1) := by decide +kernel
theorem dX8_goes_41 : decode cX8_goes 41 = .ok (.iastore, 1) := by decide +kernel
theorem dX8_goes_42 : decode cX8_goes 42 = .ok (.iconst 0, 1) := by decide +kernel
theorem dX8_goes_43 : decode cX8_goes 43 = .ok (.istore_n 2, 1) := by decide +kernel
theorem dX8_goes_44 : decode cX8_goes 44 = .ok (.iload_n 2, 1) := by decide +kernel
theorem dX8_goes_45 : decode cX8_goes 45 = .ok (.bipush 8, 2) := by decide +kernel
theorem dX8_goes_47 : decode cX8_goes 47 = .ok (.if_icmp .ge 21, 3) := by decide +kernel
theorem dX8_goes_50 : decode cX8_goes 50 = .ok (.aload_n 0, 1) := by decide +kernel
theorem dX8_goes_51 : decode cX8_goes 51 = .ok (.getfield 29, 3) := by decide +kernel
theorem dX8_goes_54 : decode cX8_goes 54 = .ok (.iload_n 2, 1) := by decide +kernel
theorem dX8_goes_55 : decode cX8_goes 55 = .ok (.aload_n 0, 1) := by decide +kernel
theorem dX8_goes_56 : decode cX8_goes 56 = .ok (.getfield 16, 3) := by decide +kernel
theorem dX8_goes_59 : decode cX8_goes 59 = .ok (.iload_n 2, 1) := by decide +kernel
theorem dX8_goes_60 : decode cX8_goes 60 = .ok (.iaload, 1) := by decide +kernel
theorem dX8_goes_61 : decode cX8_goes 61 = .ok (.iastore, 1) := by decide +kernel
theorem dX8_goes_62 : decode cX8_goes 62 = .ok (.iinc 2 1, 3) := by decide +kernel
theorem dX8_goes_65 : decode cX8_goes 65 = .ok (.goto (-21), 3) := by decide +kernel
theorem dX8_goes_68 : decode cX8_goes 68 = .ok (.aload_n 0, 1) := by decide +kernel
theorem dX8_goes_69 : decode cX8_goes 69 = .ok (.getfield 32, 3) := by decide +kernel
theorem dX8_goes_72 : decode cX8_goes 72 = .ok (.iload_n 1, 1) := by decide +kernel
theorem dX8_goes_73 : decode cX8_goes 73 = .ok (.iconst 0, 1) := by decide +kernel
theorem dX8_goes_74 : decode cX8_goes 74 = .ok (.iastore, 1) := by decide +kernel
theorem dX8_goes_75 : decode cX8_goes 75 = .ok (.aload_n 0, 1) := by decide +kernel
theorem dX8_goes_76 : decode cX8_goes 76 = .ok (.getfield 38, 3) := by decide +kernel
theorem dX8_goes_79 : decode cX8_goes 79 = .ok (.iload_n 1, 1) := by decide +kernel
theorem dX8_goes_80 : decode cX8_goes 80 = .ok (.iconst 0, 1) := by decide +kernel
theorem dX8_goes_81 : decode cX8_goes 81 = .ok (.bastore, 1) := by decide +kernel
theorem dX8_goes_82 : decode cX8_goes 82 = .ok (.iconst 0, 1) := by decide +kernel
theorem dX8_goes_83 : decode cX8_goes 83 = .ok (.istore_n 2, 1) := by decide +kernel
theorem dX8_goes_84 : decode cX8_goes 84 = .ok (.iconst 1, 1) := by decide +kernel
theorem dX8_goes_85 : decode cX8_goes 85 = .ok (.istore_n 3, 1) := by decide +kernel
theorem dX8_goes_86 : decode cX8_goes 86 = .ok (.iload_n 3, 1) := by decide +kernel
theorem dX8_goes_87 : decode cX8_goes 87 = .ok (.ifCond .eq 96, 3) := by decide +kernel
theorem dX8_goes_90 : decode cX8_goes 90 = .ok (.aload_n 0, 1) := by decide +kernel
theorem dX8_goes_91 : decode cX8_goes 91 = .ok (.iload_n 2, 1) := by decide +kernel
theorem dX8_goes_92 : decode cX8_goes 92 = .ok (.invokevirtual 77, 3) := by decide +kernel
theorem dX8_goes_95 : decode cX8_goes 95 = .ok (.ifCond .ne 8, 3) := by decide +kernel
theorem dX8_goes_98 : decode cX8_goes 98 = .ok (.iconst 0, 1) := by decide +kernel
theorem dX8_goes_99 : decode cX8_goes 99 = .ok (.istore_n 3, 1) := by decide +kernel
theorem dX8_goes_100 : decode cX8_goes 100 = .ok (.goto (-14), 3) := by decide +kernel
theorem dX8_goes_103 : decode cX8_goes 103 = .ok (.aload_n 0, 1) := by decide +kernel
theorem dX8_goes_104 : decode cX8_goes 104 = .ok (.getfield 32, 3) := by decide +kernel
theorem dX8_goes_107 : decode cX8_goes 107 = .ok (.iload_n 1, 1) := by decide +kernel
theorem dX8_goes_108 : decode cX8_goes 108 = .ok (.iaload, 1) := by decide +kernel
theorem dX8_goes_109 : decode cX8_goes 109 = .ok (.bipush 40, 2) := by decide +kernel
theorem dX8_goes_111 : decode cX8_goes 111 = .ok (.if_icmp .ne 15, 3) := by decide +kernel
theorem dX8_goes_114 : decode cX8_goes 114 = .ok (.aload_n 0, 1) := by decide +kernel
theorem dX8_goes_115 : decode cX8_goes 115 = .ok (.getfield 38, 3) := by decide +kernel
theorem dX8_goes_118 : decode cX8_goes 118 = .ok (.iload_n 1, 1) := by decide +kernel
theorem dX8_goes_119 : decode cX8_goes 119 = .ok (.iconst 1, 1) := by decide +kernel
theorem dX8_goes_120 : decode cX8_goes 120 = .ok (.bastore, 1) := by decide +kernel
theorem dX8_goes_121 : decode cX8_goes 121 = .ok (.iconst 0, 1) := by decide +kernel
theorem dX8_goes_122 : decode cX8_goes 122 = .ok (.istore_n 3, 1) := by decide +kernel
theorem dX8_goes_123 : decode cX8_goes 123 = .ok (.goto (-37), 3) := by decide +kernel
theorem dX8_goes_126 : decode cX8_goes 126 = .ok (.bipush 40, 2) := by decide +kernel
theorem dX8_goes_128 : decode cX8_goes 128 = .ok (.iload_n 1, 1) := by decide +kernel
theorem dX8_goes_129 : decode cX8_goes 129 = .ok (.imul, 1) := by decide +kernel
theorem dX8_goes_130 : decode cX8_goes 130 = .ok (.aload_n 0, 1) := by decide +kernel
theorem dX8_goes_131 : decode cX8_goes 131 = .ok (.getfield 32, 3) := by decide +kernel
theorem dX8_goes_134 : decode cX8_goes 134 = .ok (.iload_n 1, 1) := by decide +kernel
theorem dX8_goes_135 : decode cX8_goes 135 = .ok (.iaload, 1) := by decide +kernel
theorem dX8_goes_136 : decode cX8_goes 136 = .ok (.iadd, 1) := by decide +kernel
theorem dX8_goes_137 : decode cX8_goes 137 = .ok (.istore 4, 2) := by decide +kernel
theorem dX8_goes_139 : decode cX8_goes 139 = .ok (.aload_n 0, 1) := by decide +kernel
theorem dX8_goes_140 : decode cX8_goes 140 = .ok (.getfield 32, 3) := by decide +kernel
theorem dX8_goes_143 : decode cX8_goes 143 = .ok (.iload_n 1, 1) := by decide +kernel
theorem dX8_goes_144 : decode cX8_goes 144 = .ok (.aload_n 0, 1) := by decide +kernel
theorem dX8_goes_145 : decode cX8_goes 145 = .ok (.getfield 32, 3) := by decide +kernel
theorem dX8_goes_148 : decode cX8_goes 148 = .ok (.iload_n 1, 1) := by decide +kernel
theorem dX8_goes_149 : decode cX8_goes 149 = .ok (.iaload, 1) := by decide +kernel
theorem dX8_goes_150 : decode cX8_goes 150 = .ok (.iconst 1, 1) := by decide +kernel
theorem dX8_goes_151 : decode cX8_goes 151 = .ok (.iadd, 1) := by decide +kernel
theorem dX8_goes_152 : decode cX8_goes 152 = .ok (.iastore, 1) := by decide +kernel
theorem dX8_goes_153 : decode cX8_goes 153 = .ok (.aload_n 0, 1) := by decide +kernel
theorem dX8_goes_154 : decode cX8_goes 154 = .ok (.getfield 42, 3) := by decide +kernel
theorem dX8_goes_157 : decode cX8_goes 157 = .ok (.iload 4, 2) := by decide +kernel
theorem dX8_goes_159 : decode cX8_goes 159 = .ok (.iload_n 2, 1) := by decide +kernel
theorem dX8_goes_160 : decode cX8_goes 160 = .ok (.iastore, 1) := by decide +kernel
theorem dX8_goes_161 : decode cX8_goes 161 = .ok (.aload_n 0, 1) := by decide +kernel
theorem dX8_goes_162 : decode cX8_goes 162 = .ok (.iload 4, 2) := by decide +kernel
theorem dX8_goes_164 : decode cX8_goes 164 = .ok (.iload_n 2, 1) := by decide +kernel
theorem dX8_goes_165 : decode cX8_goes 165 = .ok (.invokevirtual 83, 3) := by decide +kernel
theorem dX8_goes_168 : decode cX8_goes 168 = .ok (.istore_n 2, 1) := by decide +kernel
theorem dX8_goes_169 : decode cX8_goes 169 = .ok (.iload_n 2, 1) := by decide +kernel
theorem dX8_goes_170 : decode cX8_goes 170 = .ok (.iconst (-1), 1) := by decide +kernel
theorem dX8_goes_171 : decode cX8_goes 171 = .ok (.if_icmp .eq 7, 3) := by decide +kernel
theorem dX8_goes_174 : decode cX8_goes 174 = .ok (.iconst 1, 1) := by decide +kernel
theorem dX8_goes_175 : decode cX8_goes 175 = .ok (.goto 4, 3) := by decide +kernel
theorem dX8_goes_178 : decode cX8_goes 178 = .ok (.iconst 0, 1) := by decide +kernel
theorem dX8_goes_179 : decode cX8_goes 179 = .ok (.istore_n 3, 1) := by decide +kernel
theorem dX8_goes_180 : decode cX8_goes 180 = .ok (.goto (-94), 3) := by decide +kernel
theorem dX8_goes_183 : decode cX8_goes 183 = .ok (.aload_n 0, 1) := by decide +kernel
theorem dX8_goes_184 : decode cX8_goes 184 = .ok (.getfield 35, 3) := by decide +kernel
theorem dX8_goes_187 : decode cX8_goes 187 = .ok (.iload_n 1, 1) := by decide +kernel
theorem dX8_goes_188 : decode cX8_goes 188 = .ok (.aload_n 0, 1) := by decide +kernel
theorem dX8_goes_189 : decode cX8_goes 189 = .ok (.getfield 26, 3) := by decide +kernel
theorem dX8_goes_192 : decode cX8_goes 192 = .ok (.iconst 0, 1) := by decide +kernel
theorem dX8_goes_193 : decode cX8_goes 193 = .ok (.iaload, 1) := by decide +kernel
theorem dX8_goes_194 : decode cX8_goes 194 = .ok (.iastore, 1) := by decide +kernel
theorem dX8_goes_195 : decode cX8_goes 195 = .ok (.return_, 1) := by decide +kernel
theorem dX8_step_0 : decode cX8_step 0 = .ok (.aload_n 0, 1) := by decide +kernel
theorem dX8_step_1 : decode cX8_step 1 = .ok (.getfield 7, 3) := by decide +kernel
theorem dX8_step_4 : decode cX8_step 4 = .ok (.iload_n 2, 1) := by decide +kernel
theorem dX8_step_5 : decode cX8_step 5 = .ok (.iaload, 1) := by decide +kernel
theorem dX8_step_6 : decode cX8_step 6 = .ok (.sipush 4096, 3) := by decide +kernel
theorem dX8_step_9 : decode cX8_step 9 = .ok (.idiv, 1) := by decide +kernel
theorem dX8_step_10 : decode cX8_step 10 = .ok (.istore_n 3, 1) := by decide +kernel
theorem dX8_step_11 : decode cX8_step 11 = .ok (.aload_n 0, 1) := by decide +kernel
theorem dX8_step_12 : decode cX8_step 12 = .ok (.getfield 7, 3) := by decide +kernel
theorem dX8_step_15 : decode cX8_step 15 = .ok (.iload_n 2, 1) := by decide +kernel
theorem dX8_step_16 : decode cX8_step 16 = .ok (.iaload, 1) := by decide +kernel
theorem dX8_step_17 : decode cX8_step 17 = .ok (.sipush 256, 3) := by decide +kernel
theorem dX8_step_20 : decode cX8_step 20 = .ok (.idiv, 1) := by decide +kernel
theorem dX8_step_21 : decode cX8_step 21 = .ok (.iconst 4, 1) := by decide +kernel
theorem dX8_step_22 : decode cX8_step 22 = .ok (.irem, 1) := by decide +kernel
theorem dX8_step_23 : decode cX8_step 23 = .ok (.istore 4, 2) := by decide +kernel
theorem dX8_step_25 : decode cX8_step 25 = .ok (.aload_n 0, 1) := by decide +kernel
theorem dX8_step_26 : decode cX8_step 26 = .ok (.getfield 7, 3) := by decide +kernel
theorem dX8_step_29 : decode cX8_step 29 = .ok (.iload_n 2, 1) := by decide +kernel
theorem dX8_step_30 : decode cX8_step 30 = .ok (.iaload, 1) := by decide +kernel
theorem dX8_step_31 : decode cX8_step 31 = .ok (.bipush 16, 2) := by decide +kernel
theorem dX8_step_33 : decode cX8_step 33 = .ok (.idiv, 1) := by decide +kernel
theorem dX8_step_34 : decode cX8_step 34 = .ok (.iconst 4, 1) := by decide +kernel
theorem dX8_step_35 : decode cX8_step 35 = .ok (.irem, 1) := by decide +kernel
theorem dX8_step_36 : decode cX8_step 36 = .ok (.istore 5, 2) := by decide +kernel
theorem dX8_step_38 : decode cX8_step 38 = .ok (.aload_n 0, 1) := by decide +kernel
theorem dX8_step_39 : decode cX8_step 39 = .ok (.getfield 7, 3) := by decide +kernel
theorem dX8_step_42 : decode cX8_step 42 = .ok (.iload_n 2, 1) := by decide +kernel
theorem dX8_step_43 : decode cX8_step 43 = .ok (.iaload, 1) := by decide +kernel
theorem dX8_step_44 : decode cX8_step 44 = .ok (.bipush 16, 2) := by decide +kernel
theorem dX8_step_46 : decode cX8_step 46 = .ok (.irem, 1) := by decide +kernel
theorem dX8_step_47 : decode cX8_step 47 = .ok (.istore 6, 2) := by decide +kernel
theorem dX8_step_49 : decode cX8_step 49 = .ok (.aload_n 0, 1) := by decide +kernel
theorem dX8_step_50 : decode cX8_step 50 = .ok (.getfield 26, 3) := by decide +kernel
theorem dX8_step_53 : decode cX8_step 53 = .ok (.iload 5, 2) := by decide +kernel
theorem dX8_step_55 : decode cX8_step 55 = .ok (.iaload, 1) := by decide +kernel
theorem dX8_step_56 : decode cX8_step 56 = .ok (.istore 7, 2) := by decide +kernel
theorem dX8_step_58 : decode cX8_step 58 = .ok (.aload_n 0, 1) := by decide +kernel
theorem dX8_step_59 : decode cX8_step 59 = .ok (.getfield 48, 3) := by decide +kernel
theorem dX8_step_62 : decode cX8_step 62 = .ok (.iload_n 1, 1) := by decide +kernel
theorem dX8_step_63 : decode cX8_step 63 = .ok (.iload_n 3, 1) := by decide +kernel
theorem dX8_step_64 : decode cX8_step 64 = .ok (.iconst 4, 1) := by decide +kernel
theorem dX8_step_65 : decode cX8_step 65 = .ok (.if_icmp .ne 14, 3) := by decide +kernel
theorem dX8_step_68 : decode cX8_step 68 = .ok (.iconst 1, 1) := by decide +kernel
theorem dX8_step_69 : decode cX8_step 69 = .ok (.aload_n 0, 1) := by decide +kernel
theorem dX8_step_70 : decode cX8_step 70 = .ok (.iload 7, 2) := by decide +kernel
theorem dX8_step_72 : decode cX8_step 72 = .ok (.invokevirtual 87, 3) := by decide +kernel
theorem dX8_step_75 : decode cX8_step 75 = .ok (.iadd, 1) := by decide +kernel
theorem dX8_step_76 : decode cX8_step 76 = .ok (.goto 4, 3) := by decide +kernel
theorem dX8_step_79 : decode cX8_step 79 = .ok (.iconst 1, 1) := by decide +kernel
theorem dX8_step_80 : decode cX8_step 80 = .ok (.iastore, 1) := by decide +kernel
theorem dX8_step_81 : decode cX8_step 81 = .ok (.aload_n 0, 1) := by decide +kernel
theorem dX8_step_82 : decode cX8_step 82 = .ok (.getfield 45, 3) := by decide +kernel
theorem dX8_step_85 : decode cX8_step 85 = .ok (.iload_n 1, 1) := by decide +kernel
theorem dX8_step_86 : decode cX8_step 86 = .ok (.iconst 0, 1) := by decide +kernel
theorem dX8_step_87 : decode cX8_step 87 = .ok (.iastore, 1) := by decide +kernel
theorem dX8_step_88 : decode cX8_step 88 = .ok (.iload_n 3, 1) := by decide +kernel
theorem dX8_step_89 : decode cX8_step 89 = .ok (.ifCond .ne 5, 3) := by decide +kernel
theorem dX8_step_92 : decode cX8_step 92 = .ok (.iconst (-1), 1) := by decide +kernel
theorem dX8_step_93 : decode cX8_step 93 = .ok (.ireturn, 1) := by decide +kernel
theorem dX8_step_94 : decode cX8_step 94 = .ok (.iload_n 3, 1) := by decide +kernel
theorem dX8_step_95 : decode cX8_step 95 = .ok (.iconst 1, 1) := by decide +kernel
theorem dX8_step_96 : decode cX8_step 96 = .ok (.if_icmp .ne 12, 3) := by decide +kernel
theorem dX8_step_99 : decode cX8_step 99 = .ok (.aload_n 0, 1) := by decide +kernel
theorem dX8_step_100 : decode cX8_step 100 = .ok (.getfield 26, 3) := by decide +kernel
theorem dX8_step_103 : decode cX8_step 103 = .ok (.iload 4, 2) := by decide +kernel
theorem dX8_step_105 : decode cX8_step 105 = .ok (.iload 6, 2) := by decide +kernel
theorem dX8_step_107 : decode cX8_step 107 = .ok (.iastore, 1) := by decide +kernel
theorem dX8_step_108 : decode cX8_step 108 = .ok (.iload_n 3, 1) := by decide +kernel
theorem dX8_step_109 : decode cX8_step 109 = .ok (.iconst 2, 1) := by decide +kernel
theorem dX8_step_110 : decode cX8_step 110 = .ok (.if_icmp .ne 20, 3) := by decide +kernel
theorem dX8_step_113 : decode cX8_step 113 = .ok (.aload_n 0, 1) := by decide +kernel
theorem dX8_step_114 : decode cX8_step 114 = .ok (.getfield 26, 3) := by decide +kernel
theorem dX8_step_117 : decode cX8_step 117 = .ok (.iload 4, 2) := by decide +kernel
theorem dX8_step_119 : decode cX8_step 119 = .ok (.aload_n 0, 1) := by decide +kernel
theorem dX8_step_120 : decode cX8_step 120 = .ok (.getfield 26, 3) := by decide +kernel
theorem dX8_step_123 : decode cX8_step 123 = .ok (.iload 4, 2) := by decide +kernel
theorem dX8_step_125 : decode cX8_step 125 = .ok (.iaload, 1) := by decide +kernel
theorem dX8_step_126 : decode cX8_step 126 = .ok (.iload 7, 2) := by decide +kernel
theorem dX8_step_128 : decode cX8_step 128 = .ok (.iadd, 1) := by decide +kernel
theorem dX8_step_129 : decode cX8_step 129 = .ok (.iastore, 1) := by decide +kernel
theorem dX8_step_130 : decode cX8_step 130 = .ok (.iload_n 3, 1) := by decide +kernel
theorem dX8_step_131 : decode cX8_step 131 = .ok (.iconst 3, 1) := by decide +kernel
theorem dX8_step_132 : decode cX8_step 132 = .ok (.if_icmp .ne 20, 3) := by decide +kernel
theorem dX8_step_135 : decode cX8_step 135 = .ok (.aload_n 0, 1) := by decide +kernel
theorem dX8_step_136 : decode cX8_step 136 = .ok (.getfield 26, 3) := by decide +kernel
theorem dX8_step_139 : decode cX8_step 139 = .ok (.iload 4, 2) := by decide +kernel
theorem dX8_step_141 : decode cX8_step 141 = .ok (.aload_n 0, 1) := by decide +kernel
theorem dX8_step_142 : decode cX8_step 142 = .ok (.getfield 26, 3) := by decide +kernel
theorem dX8_step_145 : decode cX8_step 145 = .ok (.iload 4, 2) := by decide +kernel
theorem dX8_step_147 : decode cX8_step 147 = .ok (.iaload, 1) := by decide +kernel
theorem dX8_step_148 : decode cX8_step 148 = .ok (.iload 7, 2) := by decide +kernel
theorem dX8_step_150 : decode cX8_step 150 = .ok (.ixor, 1) := by decide +kernel
theorem dX8_step_151 : decode cX8_step 151 = .ok (.iastore, 1) := by decide +kernel
theorem dX8_step_152 : decode cX8_step 152 = .ok (.iload_n 3, 1) := by decide +kernel
theorem dX8_step_153 : decode cX8_step 153 = .ok (.iconst 4, 1) := by decide +kernel
theorem dX8_step_154 : decode cX8_step 154 = .ok (.if_icmp .ne 20, 3) := by decide +kernel
theorem dX8_step_157 : decode cX8_step 157 = .ok (.aload_n 0, 1) := by decide +kernel
theorem dX8_step_158 : decode cX8_step 158 = .ok (.getfield 26, 3) := by decide +kernel
theorem dX8_step_161 : decode cX8_step 161 = .ok (.iload 4, 2) := by decide +kernel
theorem dX8_step_163 : decode cX8_step 163 = .ok (.aload_n 0, 1) := by decide +kernel
theorem dX8_step_164 : decode cX8_step 164 = .ok (.getfield 26, 3) := by decide +kernel
theorem dX8_step_167 : decode cX8_step 167 = .ok (.iload 4, 2) := by decide +kernel
theorem dX8_step_169 : decode cX8_step 169 = .ok (.iaload, 1) := by decide +kernel
theorem dX8_step_170 : decode cX8_step 170 = .ok (.iload 7, 2) := by decide +kernel
theorem dX8_step_172 : decode cX8_step 172 = .ok (.imul, 1) := by decide +kernel
theorem dX8_step_173 : decode cX8_step 173 = .ok (.iastore, 1) := by decide +kernel
theorem dX8_step_174 : decode cX8_step 174 = .ok (.iload_n 3, 1) := by decide +kernel
theorem dX8_step_175 : decode cX8_step 175 = .ok (.iconst 5, 1) := by decide +kernel
theorem dX8_step_176 : decode cX8_step 176 = .ok (.if_icmp .ne 20, 3) := by decide +kernel
theorem dX8_step_179 : decode cX8_step 179 = .ok (.aload_n 0, 1) := by decide +kernel
theorem dX8_step_180 : decode cX8_step 180 = .ok (.getfield 26, 3) := by decide +kernel
theorem dX8_step_183 : decode cX8_step 183 = .ok (.iload 4, 2) := by decide +kernel
theorem dX8_step_185 : decode cX8_step 185 = .ok (.aload_n 0, 1) := by decide +kernel
theorem dX8_step_186 : decode cX8_step 186 = .ok (.getfield 29, 3) := by decide +kernel
theorem dX8_step_189 : decode cX8_step 189 = .ok (.iload 7, 2) := by decide +kernel
theorem dX8_step_191 : decode cX8_step 191 = .ok (.bipush 7, 2) := by decide +kernel
theorem dX8_step_193 : decode cX8_step 193 = .ok (.iand, 1) := by decide +kernel
theorem dX8_step_194 : decode cX8_step 194 = .ok (.iaload, 1) := by decide +kernel
theorem dX8_step_195 : decode cX8_step 195 = .ok (.iastore, 1) := by decide +kernel
theorem dX8_step_196 : decode cX8_step 196 = .ok (.iload_n 3, 1) := by decide +kernel
theorem dX8_step_197 : decode cX8_step 197 = .ok (.bipush 6, 2) := by decide +kernel
theorem dX8_step_199 : decode cX8_step 199 = .ok (.if_icmp .ne 20, 3) := by decide +kernel
theorem dX8_step_202 : decode cX8_step 202 = .ok (.aload_n 0, 1) := by decide +kernel
theorem dX8_step_203 : decode cX8_step 203 = .ok (.getfield 29, 3) := by decide +kernel
theorem dX8_step_206 : decode cX8_step 206 = .ok (.iload 7, 2) := by decide +kernel
theorem dX8_step_208 : decode cX8_step 208 = .ok (.bipush 7, 2) := by decide +kernel
theorem dX8_step_210 : decode cX8_step 210 = .ok (.iand, 1) := by decide +kernel
theorem dX8_step_211 : decode cX8_step 211 = .ok (.aload_n 0, 1) := by decide +kernel
theorem dX8_step_212 : decode cX8_step 212 = .ok (.getfield 26, 3) := by decide +kernel
theorem dX8_step_215 : decode cX8_step 215 = .ok (.iload 4, 2) := by decide +kernel
theorem dX8_step_217 : decode cX8_step 217 = .ok (.iaload, 1) := by decide +kernel
theorem dX8_step_218 : decode cX8_step 218 = .ok (.iastore, 1) := by decide +kernel
theorem dX8_step_219 : decode cX8_step 219 = .ok (.iload_n 3, 1) := by decide +kernel
theorem dX8_step_220 : decode cX8_step 220 = .ok (.iconst 5, 1) := by decide +kernel
theorem dX8_step_221 : decode cX8_step 221 = .ok (.if_icmp .eq 9, 3) := by decide +kernel
theorem dX8_step_224 : decode cX8_step 224 = .ok (.iload_n 3, 1) := by decide +kernel
theorem dX8_step_225 : decode cX8_step 225 = .ok (.bipush 6, 2) := by decide +kernel
theorem dX8_step_227 : decode cX8_step 227 = .ok (.if_icmp .ne 14, 3) := by decide +kernel
theorem dX8_step_230 : decode cX8_step 230 = .ok (.aload_n 0, 1) := by decide +kernel
theorem dX8_step_231 : decode cX8_step 231 = .ok (.getfield 45, 3) := by decide +kernel
theorem dX8_step_234 : decode cX8_step 234 = .ok (.iload_n 1, 1) := by decide +kernel
theorem dX8_step_235 : decode cX8_step 235 = .ok (.iload 7, 2) := by decide +kernel
theorem dX8_step_237 : decode cX8_step 237 = .ok (.bipush 7, 2) := by decide +kernel
theorem dX8_step_239 : decode cX8_step 239 = .ok (.iand, 1) := by decide +kernel
theorem dX8_step_240 : decode cX8_step 240 = .ok (.iastore, 1) := by decide +kernel
theorem dX8_step_241 : decode cX8_step 241 = .ok (.iload_n 3, 1) := by decide +kernel
theorem dX8_step_242 : decode cX8_step 242 = .ok (.bipush 7, 2) := by decide +kernel
theorem dX8_step_244 : decode cX8_step 244 = .ok (.if_icmp .ne 20, 3) := by decide +kernel
theorem dX8_step_247 : decode cX8_step 247 = .ok (.aload_n 0, 1) := by decide +kernel
theorem dX8_step_248 : decode cX8_step 248 = .ok (.getfield 26, 3) := by decide +kernel
theorem dX8_step_251 : decode cX8_step 251 = .ok (.iload 4, 2) := by decide +kernel
theorem dX8_step_253 : decode cX8_step 253 = .ok (.iaload, 1) := by decide +kernel
theorem dX8_step_254 : decode cX8_step 254 = .ok (.ifCond .ne 10, 3) := by decide +kernel
theorem dX8_step_257 : decode cX8_step 257 = .ok (.aload_n 0, 1) := by decide +kernel
theorem dX8_step_258 : decode cX8_step 258 = .ok (.getfield 45, 3) := by decide +kernel
theorem dX8_step_261 : decode cX8_step 261 = .ok (.iload_n 1, 1) := by decide +kernel
theorem dX8_step_262 : decode cX8_step 262 = .ok (.iconst 1, 1) := by decide +kernel
theorem dX8_step_263 : decode cX8_step 263 = .ok (.iastore, 1) := by decide +kernel
theorem dX8_step_264 : decode cX8_step 264 = .ok (.iload_n 3, 1) := by decide +kernel
theorem dX8_step_265 : decode cX8_step 265 = .ok (.bipush 9, 2) := by decide +kernel
theorem dX8_step_267 : decode cX8_step 267 = .ok (.if_icmp .ne 25, 3) := by decide +kernel
theorem dX8_step_270 : decode cX8_step 270 = .ok (.iload 7, 2) := by decide +kernel
theorem dX8_step_272 : decode cX8_step 272 = .ok (.ifCond .eq 20, 3) := by decide +kernel
theorem dX8_step_275 : decode cX8_step 275 = .ok (.aload_n 0, 1) := by decide +kernel
theorem dX8_step_276 : decode cX8_step 276 = .ok (.getfield 26, 3) := by decide +kernel
theorem dX8_step_279 : decode cX8_step 279 = .ok (.iload 4, 2) := by decide +kernel
theorem dX8_step_281 : decode cX8_step 281 = .ok (.aload_n 0, 1) := by decide +kernel
theorem dX8_step_282 : decode cX8_step 282 = .ok (.getfield 26, 3) := by decide +kernel
theorem dX8_step_285 : decode cX8_step 285 = .ok (.iload 4, 2) := by decide +kernel
theorem dX8_step_287 : decode cX8_step 287 = .ok (.iaload, 1) := by decide +kernel
theorem dX8_step_288 : decode cX8_step 288 = .ok (.iload 6, 2) := by decide +kernel
theorem dX8_step_290 : decode cX8_step 290 = .ok (.iadd, 1) := by decide +kernel
theorem dX8_step_291 : decode cX8_step 291 = .ok (.iastore, 1) := by decide +kernel
theorem dX8_step_292 : decode cX8_step 292 = .ok (.iload_n 3, 1) := by decide +kernel
theorem dX8_step_293 : decode cX8_step 293 = .ok (.bipush 8, 2) := by decide +kernel
theorem dX8_step_295 : decode cX8_step 295 = .ok (.if_icmp .eq 19, 3) := by decide +kernel
theorem dX8_step_298 : decode cX8_step 298 = .ok (.iload_n 3, 1) := by decide +kernel
theorem dX8_step_299 : decode cX8_step 299 = .ok (.bipush 7, 2) := by decide +kernel
theorem dX8_step_301 : decode cX8_step 301 = .ok (.if_icmp .ne 18, 3) := by decide +kernel
theorem dX8_step_304 : decode cX8_step 304 = .ok (.aload_n 0, 1) := by decide +kernel
theorem dX8_step_305 : decode cX8_step 305 = .ok (.getfield 45, 3) := by decide +kernel
theorem dX8_step_308 : decode cX8_step 308 = .ok (.iload_n 1, 1) := by decide +kernel
theorem dX8_step_309 : decode cX8_step 309 = .ok (.iaload, 1) := by decide +kernel
theorem dX8_step_310 : decode cX8_step 310 = .ok (.iconst 1, 1) := by decide +kernel
