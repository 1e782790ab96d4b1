theorem dX8_step_311 : decode cX8_step 311 = .ok (.if_icmp .ne 8, 3) := by decide +kernel
theorem dX8_step_314 : decode cX8_step 314 = .ok (.iload 6, 2) := by decide +kernel
theorem dX8_step_316 : decode cX8_step 316 = .ok (.goto 6, 3) := by decide +kernel
theorem dX8_step_319 : decode cX8_step 319 = .ok (.iload_n 2, 1) := by decide +kernel
theorem dX8_step_320 : decode cX8_step 320 = .ok (.iconst 1, 1) := by decide +kernel
theorem dX8_step_321 : decode cX8_step 321 = .ok (.iadd, 1) := by decide +kernel
theorem dX8_step_322 : decode cX8_step 322 = .ok (.ireturn, 1) := by decide +kernel
theorem dX8_goAll_0 : decode cX8_goAll 0 = .ok (.iconst 0, 1) := by decide +kernel
theorem dX8_goAll_1 : decode cX8_goAll 1 = .ok (.istore_n 1, 1) := by decide +kernel
theorem dX8_goAll_2 : decode cX8_goAll 2 = .ok (.iload_n 1, 1) := by decide +kernel
theorem dX8_goAll_3 : decode cX8_goAll 3 = .ok (.sipush 256, 3) := by decide +kernel
theorem dX8_goAll_6 : decode cX8_goAll 6 = .ok (.if_icmp .ge 14, 3) := by decide +kernel
theorem dX8_goAll_9 : decode cX8_goAll 9 = .ok (.aload_n 0, 1) := by decide +kernel
theorem dX8_goAll_10 : decode cX8_goAll 10 = .ok (.iload_n 1, 1) := by decide +kernel
theorem dX8_goAll_11 : decode cX8_goAll 11 = .ok (.invokevirtual 91, 3) := by decide +kernel
theorem dX8_goAll_14 : decode cX8_goAll 14 = .ok (.iinc 1 1, 3) := by decide +kernel
theorem dX8_goAll_17 : decode cX8_goAll 17 = .ok (.goto (-15), 3) := by decide +kernel
theorem dX8_goAll_20 : decode cX8_goAll 20 = .ok (.return_, 1) := by decide +kernel
theorem dX8_isInput_0 : decode cX8_isInput 0 = .ok (.iload_n 1, 1) := by decide +kernel
theorem dX8_isInput_1 : decode cX8_isInput 1 = .ok (.ifCond .lt 13, 3) := by decide +kernel
theorem dX8_isInput_4 : decode cX8_isInput 4 = .ok (.iload_n 1, 1) := by decide +kernel
theorem dX8_isInput_5 : decode cX8_isInput 5 = .ok (.bipush 16, 2) := by decide +kernel
theorem dX8_isInput_7 : decode cX8_isInput 7 = .ok (.if_icmp .ge 7, 3) := by decide +kernel
theorem dX8_isInput_10 : decode cX8_isInput 10 = .ok (.iconst 1, 1) := by decide +kernel
theorem dX8_isInput_11 : decode cX8_isInput 11 = .ok (.goto 4, 3) := by decide +kernel
theorem dX8_isInput_14 : decode cX8_isInput 14 = .ok (.iconst 0, 1) := by decide +kernel
theorem dX8_isInput_15 : decode cX8_isInput 15 = .ok (.ireturn, 1) := by decide +kernel
theorem dX8_sees_0 : decode cX8_sees 0 = .ok (.bipush 42, 2) := by decide +kernel
theorem dX8_sees_2 : decode cX8_sees 2 = .ok (.iload_n 1, 1) := by decide +kernel
theorem dX8_sees_3 : decode cX8_sees 3 = .ok (.imul, 1) := by decide +kernel
theorem dX8_sees_4 : decode cX8_sees 4 = .ok (.aload_n 0, 1) := by decide +kernel
theorem dX8_sees_5 : decode cX8_sees 5 = .ok (.getfield 51, 3) := by decide +kernel
theorem dX8_sees_8 : decode cX8_sees 8 = .ok (.iload_n 1, 1) := by decide +kernel
theorem dX8_sees_9 : decode cX8_sees 9 = .ok (.iaload, 1) := by decide +kernel
theorem dX8_sees_10 : decode cX8_sees 10 = .ok (.iadd, 1) := by decide +kernel
theorem dX8_sees_11 : decode cX8_sees 11 = .ok (.istore 5, 2) := by decide +kernel
theorem dX8_sees_13 : decode cX8_sees 13 = .ok (.aload_n 0, 1) := by decide +kernel
theorem dX8_sees_14 : decode cX8_sees 14 = .ok (.getfield 54, 3) := by decide +kernel
theorem dX8_sees_17 : decode cX8_sees 17 = .ok (.iload 5, 2) := by decide +kernel
theorem dX8_sees_19 : decode cX8_sees 19 = .ok (.iload_n 2, 1) := by decide +kernel
theorem dX8_sees_20 : decode cX8_sees 20 = .ok (.iastore, 1) := by decide +kernel
theorem dX8_sees_21 : decode cX8_sees 21 = .ok (.aload_n 0, 1) := by decide +kernel
theorem dX8_sees_22 : decode cX8_sees 22 = .ok (.getfield 57, 3) := by decide +kernel
theorem dX8_sees_25 : decode cX8_sees 25 = .ok (.iload 5, 2) := by decide +kernel
theorem dX8_sees_27 : decode cX8_sees 27 = .ok (.iload_n 3, 1) := by decide +kernel
theorem dX8_sees_28 : decode cX8_sees 28 = .ok (.iastore, 1) := by decide +kernel
theorem dX8_sees_29 : decode cX8_sees 29 = .ok (.aload_n 0, 1) := by decide +kernel
theorem dX8_sees_30 : decode cX8_sees 30 = .ok (.getfield 60, 3) := by decide +kernel
theorem dX8_sees_33 : decode cX8_sees 33 = .ok (.iload 5, 2) := by decide +kernel
theorem dX8_sees_35 : decode cX8_sees 35 = .ok (.iload 4, 2) := by decide +kernel
theorem dX8_sees_37 : decode cX8_sees 37 = .ok (.iastore, 1) := by decide +kernel
theorem dX8_sees_38 : decode cX8_sees 38 = .ok (.aload_n 0, 1) := by decide +kernel
theorem dX8_sees_39 : decode cX8_sees 39 = .ok (.getfield 51, 3) := by decide +kernel
theorem dX8_sees_42 : decode cX8_sees 42 = .ok (.iload_n 1, 1) := by decide +kernel
theorem dX8_sees_43 : decode cX8_sees 43 = .ok (.aload_n 0, 1) := by decide +kernel
theorem dX8_sees_44 : decode cX8_sees 44 = .ok (.getfield 51, 3) := by decide +kernel
theorem dX8_sees_47 : decode cX8_sees 47 = .ok (.iload_n 1, 1) := by decide +kernel
theorem dX8_sees_48 : decode cX8_sees 48 = .ok (.iaload, 1) := by decide +kernel
theorem dX8_sees_49 : decode cX8_sees 49 = .ok (.iconst 1, 1) := by decide +kernel
theorem dX8_sees_50 : decode cX8_sees 50 = .ok (.iadd, 1) := by decide +kernel
theorem dX8_sees_51 : decode cX8_sees 51 = .ok (.iastore, 1) := by decide +kernel
theorem dX8_sees_52 : decode cX8_sees 52 = .ok (.return_, 1) := by decide +kernel
theorem dX8_kindAt_0 : decode cX8_kindAt 0 = .ok (.aload_n 0, 1) := by decide +kernel
theorem dX8_kindAt_1 : decode cX8_kindAt 1 = .ok (.getfield 7, 3) := by decide +kernel
theorem dX8_kindAt_4 : decode cX8_kindAt 4 = .ok (.aload_n 0, 1) := by decide +kernel
theorem dX8_kindAt_5 : decode cX8_kindAt 5 = .ok (.getfield 42, 3) := by decide +kernel
theorem dX8_kindAt_8 : decode cX8_kindAt 8 = .ok (.iload_n 1, 1) := by decide +kernel
theorem dX8_kindAt_9 : decode cX8_kindAt 9 = .ok (.iaload, 1) := by decide +kernel
theorem dX8_kindAt_10 : decode cX8_kindAt 10 = .ok (.iaload, 1) := by decide +kernel
theorem dX8_kindAt_11 : decode cX8_kindAt 11 = .ok (.sipush 4096, 3) := by decide +kernel
theorem dX8_kindAt_14 : decode cX8_kindAt 14 = .ok (.idiv, 1) := by decide +kernel
theorem dX8_kindAt_15 : decode cX8_kindAt 15 = .ok (.ireturn, 1) := by decide +kernel
theorem dX8_cost_0 : decode cX8_cost 0 = .ok (.iconst 0, 1) := by decide +kernel
theorem dX8_cost_1 : decode cX8_cost 1 = .ok (.istore_n 3, 1) := by decide +kernel
theorem dX8_cost_2 : decode cX8_cost 2 = .ok (.bipush 40, 2) := by decide +kernel
theorem dX8_cost_4 : decode cX8_cost 4 = .ok (.iload_n 1, 1) := by decide +kernel
theorem dX8_cost_5 : decode cX8_cost 5 = .ok (.imul, 1) := by decide +kernel
theorem dX8_cost_6 : decode cX8_cost 6 = .ok (.istore 4, 2) := by decide +kernel
theorem dX8_cost_8 : decode cX8_cost 8 = .ok (.iload 4, 2) := by decide +kernel
theorem dX8_cost_10 : decode cX8_cost 10 = .ok (.bipush 40, 2) := by decide +kernel
theorem dX8_cost_12 : decode cX8_cost 12 = .ok (.iload_n 1, 1) := by decide +kernel
theorem dX8_cost_13 : decode cX8_cost 13 = .ok (.imul, 1) := by decide +kernel
theorem dX8_cost_14 : decode cX8_cost 14 = .ok (.aload_n 0, 1) := by decide +kernel
theorem dX8_cost_15 : decode cX8_cost 15 = .ok (.getfield 32, 3) := by decide +kernel
theorem dX8_cost_18 : decode cX8_cost 18 = .ok (.iload_n 1, 1) := by decide +kernel
theorem dX8_cost_19 : decode cX8_cost 19 = .ok (.iaload, 1) := by decide +kernel
theorem dX8_cost_20 : decode cX8_cost 20 = .ok (.iadd, 1) := by decide +kernel
theorem dX8_cost_21 : decode cX8_cost 21 = .ok (.if_icmp .ge 61, 3) := by decide +kernel
theorem dX8_cost_24 : decode cX8_cost 24 = .ok (.iload_n 2, 1) := by decide +kernel
theorem dX8_cost_25 : decode cX8_cost 25 = .ok (.aload_n 0, 1) := by decide +kernel
theorem dX8_cost_26 : decode cX8_cost 26 = .ok (.getfield 42, 3) := by decide +kernel
theorem dX8_cost_29 : decode cX8_cost 29 = .ok (.iload 4, 2) := by decide +kernel
theorem dX8_cost_31 : decode cX8_cost 31 = .ok (.iaload, 1) := by decide +kernel
theorem dX8_cost_32 : decode cX8_cost 32 = .ok (.ishr, 1) := by decide +kernel
theorem dX8_cost_33 : decode cX8_cost 33 = .ok (.iconst 1, 1) := by decide +kernel
theorem dX8_cost_34 : decode cX8_cost 34 = .ok (.iand, 1) := by decide +kernel
theorem dX8_cost_35 : decode cX8_cost 35 = .ok (.iconst 1, 1) := by decide +kernel
theorem dX8_cost_36 : decode cX8_cost 36 = .ok (.if_icmp .ne 7, 3) := by decide +kernel
theorem dX8_cost_39 : decode cX8_cost 39 = .ok (.iconst 1, 1) := by decide +kernel
theorem dX8_cost_40 : decode cX8_cost 40 = .ok (.goto 4, 3) := by decide +kernel
theorem dX8_cost_43 : decode cX8_cost 43 = .ok (.iconst 0, 1) := by decide +kernel
theorem dX8_cost_44 : decode cX8_cost 44 = .ok (.istore 5, 2) := by decide +kernel
theorem dX8_cost_46 : decode cX8_cost 46 = .ok (.iload_n 3, 1) := by decide +kernel
theorem dX8_cost_47 : decode cX8_cost 47 = .ok (.iload 5, 2) := by decide +kernel
theorem dX8_cost_49 : decode cX8_cost 49 = .ok (.ifCond .eq 18, 3) := by decide +kernel
theorem dX8_cost_52 : decode cX8_cost 52 = .ok (.aload_n 0, 1) := by decide +kernel
theorem dX8_cost_53 : decode cX8_cost 53 = .ok (.iload 4, 2) := by decide +kernel
theorem dX8_cost_55 : decode cX8_cost 55 = .ok (.invokevirtual 95, 3) := by decide +kernel
theorem dX8_cost_58 : decode cX8_cost 58 = .ok (.iconst 4, 1) := by decide +kernel
theorem dX8_cost_59 : decode cX8_cost 59 = .ok (.if_icmp .ne 8, 3) := by decide +kernel
theorem dX8_cost_62 : decode cX8_cost 62 = .ok (.bipush 33, 2) := by decide +kernel
theorem dX8_cost_64 : decode cX8_cost 64 = .ok (.goto 10, 3) := by decide +kernel
theorem dX8_cost_67 : decode cX8_cost 67 = .ok (.aload_n 0, 1) := by decide +kernel
theorem dX8_cost_68 : decode cX8_cost 68 = .ok (.getfield 48, 3) := by decide +kernel
theorem dX8_cost_71 : decode cX8_cost 71 = .ok (.iload 4, 2) := by decide +kernel
theorem dX8_cost_73 : decode cX8_cost 73 = .ok (.iaload, 1) := by decide +kernel
theorem dX8_cost_74 : decode cX8_cost 74 = .ok (.iadd, 1) := by decide +kernel
theorem dX8_cost_75 : decode cX8_cost 75 = .ok (.istore_n 3, 1) := by decide +kernel
theorem dX8_cost_76 : decode cX8_cost 76 = .ok (.iinc 4 1, 3) := by decide +kernel
theorem dX8_cost_79 : decode cX8_cost 79 = .ok (.goto (-71), 3) := by decide +kernel
theorem dX8_cost_82 : decode cX8_cost 82 = .ok (.iload_n 3, 1) := by decide +kernel
theorem dX8_cost_83 : decode cX8_cost 83 = .ok (.ireturn, 1) := by decide +kernel
theorem dX8_look__0 : decode cX8_look_ 0 = .ok (.aload_n 0, 1) := by decide +kernel
theorem dX8_look__1 : decode cX8_look_ 1 = .ok (.getfield 51, 3) := by decide +kernel
theorem dX8_look__4 : decode cX8_look_ 4 = .ok (.iload_n 1, 1) := by decide +kernel
theorem dX8_look__5 : decode cX8_look_ 5 = .ok (.iconst 0, 1) := by decide +kernel
theorem dX8_look__6 : decode cX8_look_ 6 = .ok (.iastore, 1) := by decide +kernel
theorem dX8_look__7 : decode cX8_look_ 7 = .ok (.bipush 40, 2) := by decide +kernel
theorem dX8_look__9 : decode cX8_look_ 9 = .ok (.iload_n 2, 1) := by decide +kernel
theorem dX8_look__10 : decode cX8_look_ 10 = .ok (.imul, 1) := by decide +kernel
theorem dX8_look__11 : decode cX8_look_ 11 = .ok (.istore 5, 2) := by decide +kernel
theorem dX8_look__13 : decode cX8_look_ 13 = .ok (.iload 5, 2) := by decide +kernel
theorem dX8_look__15 : decode cX8_look_ 15 = .ok (.bipush 40, 2) := by decide +kernel
theorem dX8_look__17 : decode cX8_look_ 17 = .ok (.iload_n 2, 1) := by decide +kernel
theorem dX8_look__18 : decode cX8_look_ 18 = .ok (.imul, 1) := by decide +kernel
theorem dX8_look__19 : decode cX8_look_ 19 = .ok (.aload_n 0, 1) := by decide +kernel
theorem dX8_look__20 : decode cX8_look_ 20 = .ok (.getfield 32, 3) := by decide +kernel
theorem dX8_look__23 : decode cX8_look_ 23 = .ok (.iload_n 2, 1) := by decide +kernel
theorem dX8_look__24 : decode cX8_look_ 24 = .ok (.iaload, 1) := by decide +kernel
theorem dX8_look__25 : decode cX8_look_ 25 = .ok (.iadd, 1) := by decide +kernel
theorem dX8_look__26 : decode cX8_look_ 26 = .ok (.if_icmp .ge 114, 3) := by decide +kernel
theorem dX8_look__29 : decode cX8_look_ 29 = .ok (.iload_n 3, 1) := by decide +kernel
theorem dX8_look__30 : decode cX8_look_ 30 = .ok (.aload_n 0, 1) := by decide +kernel
theorem dX8_look__31 : decode cX8_look_ 31 = .ok (.getfield 42, 3) := by decide +kernel
theorem dX8_look__34 : decode cX8_look_ 34 = .ok (.iload 5, 2) := by decide +kernel
theorem dX8_look__36 : decode cX8_look_ 36 = .ok (.iaload, 1) := by decide +kernel
theorem dX8_look__37 : decode cX8_look_ 37 = .ok (.ishr, 1) := by decide +kernel
theorem dX8_look__38 : decode cX8_look_ 38 = .ok (.iconst 1, 1) := by decide +kernel
theorem dX8_look__39 : decode cX8_look_ 39 = .ok (.iand, 1) := by decide +kernel
theorem dX8_look__40 : decode cX8_look_ 40 = .ok (.iconst 1, 1) := by decide +kernel
theorem dX8_look__41 : decode cX8_look_ 41 = .ok (.if_icmp .ne 6, 3) := by decide +kernel
theorem dX8_look__44 : decode cX8_look_ 44 = .ok (.goto 90, 3) := by decide +kernel
theorem dX8_look__47 : decode cX8_look_ 47 = .ok (.aload_n 0, 1) := by decide +kernel
theorem dX8_look__48 : decode cX8_look_ 48 = .ok (.iload 5, 2) := by decide +kernel
theorem dX8_look__50 : decode cX8_look_ 50 = .ok (.invokevirtual 95, 3) := by decide +kernel
theorem dX8_look__53 : decode cX8_look_ 53 = .ok (.istore 6, 2) := by decide +kernel
theorem dX8_look__55 : decode cX8_look_ 55 = .ok (.iload 6, 2) := by decide +kernel
theorem dX8_look__57 : decode cX8_look_ 57 = .ok (.iconst 5, 1) := by decide +kernel
theorem dX8_look__58 : decode cX8_look_ 58 = .ok (.if_icmp .eq 10, 3) := by decide +kernel
theorem dX8_look__61 : decode cX8_look_ 61 = .ok (.iload 6, 2) := by decide +kernel
theorem dX8_look__63 : decode cX8_look_ 63 = .ok (.bipush 6, 2) := by decide +kernel
theorem dX8_look__65 : decode cX8_look_ 65 = .ok (.if_icmp .ne 35, 3) := by decide +kernel
theorem dX8_look__68 : decode cX8_look_ 68 = .ok (.iload 4, 2) := by decide +kernel
theorem dX8_look__70 : decode cX8_look_ 70 = .ok (.iconst 2, 1) := by decide +kernel
theorem dX8_look__71 : decode cX8_look_ 71 = .ok (.iand, 1) := by decide +kernel
theorem dX8_look__72 : decode cX8_look_ 72 = .ok (.ifCond .eq 28, 3) := by decide +kernel
theorem dX8_look__75 : decode cX8_look_ 75 = .ok (.aload_n 0, 1) := by decide +kernel
theorem dX8_look__76 : decode cX8_look_ 76 = .ok (.iload_n 1, 1) := by decide +kernel
theorem dX8_look__77 : decode cX8_look_ 77 = .ok (.iconst 2, 1) := by decide +kernel
theorem dX8_look__78 : decode cX8_look_ 78 = .ok (.aload_n 0, 1) := by decide +kernel
theorem dX8_look__79 : decode cX8_look_ 79 = .ok (.getfield 45, 3) := by decide +kernel
theorem dX8_look__82 : decode cX8_look_ 82 = .ok (.iload 5, 2) := by decide +kernel
theorem dX8_look__84 : decode cX8_look_ 84 = .ok (.iaload, 1) := by decide +kernel
theorem dX8_look__85 : decode cX8_look_ 85 = .ok (.aload_n 0, 1) := by decide +kernel
theorem dX8_look__86 : decode cX8_look_ 86 = .ok (.getfield 23, 3) := by decide +kernel
theorem dX8_look__89 : decode cX8_look_ 89 = .ok (.idiv, 1) := by decide +kernel
theorem dX8_look__90 : decode cX8_look_ 90 = .ok (.aload_n 0, 1) := by decide +kernel
theorem dX8_look__91 : decode cX8_look_ 91 = .ok (.getfield 42, 3) := by decide +kernel
theorem dX8_look__94 : decode cX8_look_ 94 = .ok (.iload 5, 2) := by decide +kernel
theorem dX8_look__96 : decode cX8_look_ 96 = .ok (.iaload, 1) := by decide +kernel
theorem dX8_look__97 : decode cX8_look_ 97 = .ok (.invokevirtual 98, 3) := by decide +kernel
theorem dX8_look__100 : decode cX8_look_ 100 = .ok (.iload 6, 2) := by decide +kernel
theorem dX8_look__102 : decode cX8_look_ 102 = .ok (.bipush 7, 2) := by decide +kernel
theorem dX8_look__104 : decode cX8_look_ 104 = .ok (.if_icmp .ne 30, 3) := by decide +kernel
theorem dX8_look__107 : decode cX8_look_ 107 = .ok (.iload 4, 2) := by decide +kernel
theorem dX8_look__109 : decode cX8_look_ 109 = .ok (.iconst 4, 1) := by decide +kernel
theorem dX8_look__110 : decode cX8_look_ 110 = .ok (.iand, 1) := by decide +kernel
theorem dX8_look__111 : decode cX8_look_ 111 = .ok (.ifCond .eq 23, 3) := by decide +kernel
theorem dX8_look__114 : decode cX8_look_ 114 = .ok (.aload_n 0, 1) := by decide +kernel
theorem dX8_look__115 : decode cX8_look_ 115 = .ok (.iload_n 1, 1) := by decide +kernel
theorem dX8_look__116 : decode cX8_look_ 116 = .ok (.iconst 4, 1) := by decide +kernel
theorem dX8_look__117 : decode cX8_look_ 117 = .ok (.aload_n 0, 1) := by decide +kernel
theorem dX8_look__118 : decode cX8_look_ 118 = .ok (.getfield 45, 3) := by decide +kernel
theorem dX8_look__121 : decode cX8_look_ 121 = .ok (.iload 5, 2) := by decide +kernel
theorem dX8_look__123 : decode cX8_look_ 123 = .ok (.iaload, 1) := by decide +kernel
theorem dX8_look__124 : decode cX8_look_ 124 = .ok (.aload_n 0, 1) := by decide +kernel
theorem dX8_look__125 : decode cX8_look_ 125 = .ok (.getfield 42, 3) := by decide +kernel
theorem dX8_look__128 : decode cX8_look_ 128 = .ok (.iload 5, 2) := by decide +kernel
theorem dX8_look__130 : decode cX8_look_ 130 = .ok (.iaload, 1) := by decide +kernel
theorem dX8_look__131 : decode cX8_look_ 131 = .ok (.invokevirtual 98, 3) := by decide +kernel
theorem dX8_look__134 : decode cX8_look_ 134 = .ok (.iinc 5 1, 3) := by decide +kernel
theorem dX8_look__137 : decode cX8_look_ 137 = .ok (.goto (-124), 3) := by decide +kernel
theorem dX8_look__140 : decode cX8_look_ 140 = .ok (.iload 4, 2) := by decide +kernel
theorem dX8_look__142 : decode cX8_look_ 142 = .ok (.iconst 1, 1) := by decide +kernel
theorem dX8_look__143 : decode cX8_look_ 143 = .ok (.iand, 1) := by decide +kernel
theorem dX8_look__144 : decode cX8_look_ 144 = .ok (.ifCond .eq 33, 3) := by decide +kernel
theorem dX8_look__147 : decode cX8_look_ 147 = .ok (.aload_n 0, 1) := by decide +kernel
theorem dX8_look__148 : decode cX8_look_ 148 = .ok (.iload_n 1, 1) := by decide +kernel
theorem dX8_look__149 : decode cX8_look_ 149 = .ok (.iconst 1, 1) := by decide +kernel
theorem dX8_look__150 : decode cX8_look_ 150 = .ok (.iconst 2, 1) := by decide +kernel
theorem dX8_look__151 : decode cX8_look_ 151 = .ok (.aload_n 0, 1) := by decide +kernel
theorem dX8_look__152 : decode cX8_look_ 152 = .ok (.iload_n 2, 1) := by decide +kernel
theorem dX8_look__153 : decode cX8_look_ 153 = .ok (.iload_n 3, 1) := by decide +kernel
theorem dX8_look__154 : decode cX8_look_ 154 = .ok (.invokevirtual 102, 3) := by decide +kernel
theorem dX8_look__157 : decode cX8_look_ 157 = .ok (.imul, 1) := by decide +kernel
theorem dX8_look__158 : decode cX8_look_ 158 = .ok (.aload_n 0, 1) := by decide +kernel
theorem dX8_look__159 : decode cX8_look_ 159 = .ok (.getfield 38, 3) := by decide +kernel
theorem dX8_look__162 : decode cX8_look_ 162 = .ok (.iload_n 2, 1) := by decide +kernel
theorem dX8_look__163 : decode cX8_look_ 163 = .ok (.baload, 1) := by decide +kernel
theorem dX8_look__164 : decode cX8_look_ 164 = .ok (.ifCond .eq 7, 3) := by decide +kernel
theorem dX8_look__167 : decode cX8_look_ 167 = .ok (.iconst 1, 1) := by decide +kernel
theorem dX8_look__168 : decode cX8_look_ 168 = .ok (.goto 4, 3) := by decide +kernel
theorem dX8_look__171 : decode cX8_look_ 171 = .ok (.iconst 0, 1) := by decide +kernel
theorem dX8_look__172 : decode cX8_look_ 172 = .ok (.iadd, 1) := by decide +kernel
theorem dX8_look__173 : decode cX8_look_ 173 = .ok (.iconst (-1), 1) := by decide +kernel
theorem dX8_look__174 : decode cX8_look_ 174 = .ok (.invokevirtual 98, 3) := by decide +kernel
theorem dX8_look__177 : decode cX8_look_ 177 = .ok (.iload 4, 2) := by decide +kernel
theorem dX8_look__179 : decode cX8_look_ 179 = .ok (.bipush 8, 2) := by decide +kernel
theorem dX8_look__181 : decode cX8_look_ 181 = .ok (.iand, 1) := by decide +kernel
theorem dX8_look__182 : decode cX8_look_ 182 = .ok (.ifCond .eq 17, 3) := by decide +kernel
theorem dX8_look__185 : decode cX8_look_ 185 = .ok (.aload_n 0, 1) := by decide +kernel
theorem dX8_look__186 : decode cX8_look_ 186 = .ok (.iload_n 1, 1) := by decide +kernel
theorem dX8_look__187 : decode cX8_look_ 187 = .ok (.bipush 8, 2) := by decide +kernel
theorem dX8_look__189 : decode cX8_look_ 189 = .ok (.aload_n 0, 1) := by decide +kernel
theorem dX8_look__190 : decode cX8_look_ 190 = .ok (.getfield 35, 3) := by decide +kernel
theorem dX8_look__193 : decode cX8_look_ 193 = .ok (.iload_n 2, 1) := by decide +kernel
theorem dX8_look__194 : decode cX8_look_ 194 = .ok (.iaload, 1) := by decide +kernel
theorem dX8_look__195 : decode cX8_look_ 195 = .ok (.iconst (-1), 1) := by decide +kernel
theorem dX8_look__196 : decode cX8_look_ 196 = .ok (.invokevirtual 98, 3) := by decide +kernel
theorem dX8_look__199 : decode cX8_look_ 199 = .ok (.return_, 1) := by decide +kernel
theorem dX8_unlike_0 : decode cX8_unlike 0 = .ok (.aload_n 0, 1) := by decide +kernel
theorem dX8_unlike_1 : decode cX8_unlike 1 = .ok (.iconst 0, 1) := by decide +kernel
theorem dX8_unlike_2 : decode cX8_unlike 2 = .ok (.iload_n 1, 1) := by decide +kernel
theorem dX8_unlike_3 : decode cX8_unlike 3 = .ok (.iload_n 3, 1) := by decide +kernel
theorem dX8_unlike_4 : decode cX8_unlike 4 = .ok (.iload 4, 2) := by decide +kernel
theorem dX8_unlike_6 : decode cX8_unlike 6 = .ok (.invokevirtual 105, 3) := by decide +kernel
theorem dX8_unlike_9 : decode cX8_unlike 9 = .ok (.aload_n 0, 1) := by decide +kernel
theorem dX8_unlike_10 : decode cX8_unlike 10 = .ok (.iconst 1, 1) := by decide +kernel
theorem dX8_unlike_11 : decode cX8_unlike 11 = .ok (.iload_n 2, 1) := by decide +kernel
theorem dX8_unlike_12 : decode cX8_unlike 12 = .ok (.iload_n 3, 1) := by decide +kernel
theorem dX8_unlike_13 : decode cX8_unlike 13 = .ok (.iload 4, 2) := by decide +kernel
theorem dX8_unlike_15 : decode cX8_unlike 15 = .ok (.invokevirtual 105, 3) := by decide +kernel
theorem dX8_unlike_18 : decode cX8_unlike 18 = .ok (.iconst 0, 1) := by decide +kernel
theorem dX8_unlike_19 : decode cX8_unlike 19 = .ok (.istore 5, 2) := by decide +kernel
theorem dX8_unlike_21 : decode cX8_unlike 21 = .ok (.iload 5, 2) := by decide +kernel
theorem dX8_unlike_23 : decode cX8_unlike 23 = .ok (.aload_n 0, 1) := by decide +kernel
theorem dX8_unlike_24 : decode cX8_unlike 24 = .ok (.getfield 51, 3) := by decide +kernel
theorem dX8_unlike_27 : decode cX8_unlike 27 = .ok (.iconst 0, 1) := by decide +kernel
theorem dX8_unlike_28 : decode cX8_unlike 28 = .ok (.iaload, 1) := by decide +kernel
theorem dX8_unlike_29 : decode cX8_unlike 29 = .ok (.if_icmp .ge 63, 3) := by decide +kernel
theorem dX8_unlike_32 : decode cX8_unlike 32 = .ok (.iload 5, 2) := by decide +kernel
theorem dX8_unlike_34 : decode cX8_unlike 34 = .ok (.aload_n 0, 1) := by decide +kernel
theorem dX8_unlike_35 : decode cX8_unlike 35 = .ok (.getfield 51, 3) := by decide +kernel
theorem dX8_unlike_38 : decode cX8_unlike 38 = .ok (.iconst 1, 1) := by decide +kernel
theorem dX8_unlike_39 : decode cX8_unlike 39 = .ok (.iaload, 1) := by decide +kernel
theorem dX8_unlike_40 : decode cX8_unlike 40 = .ok (.if_icmp .ge 52, 3) := by decide +kernel
theorem dX8_unlike_43 : decode cX8_unlike 43 = .ok (.aload_n 0, 1) := by decide +kernel
theorem dX8_unlike_44 : decode cX8_unlike 44 = .ok (.getfield 54, 3) := by decide +kernel
theorem dX8_unlike_47 : decode cX8_unlike 47 = .ok (.iload 5, 2) := by decide +kernel
theorem dX8_unlike_49 : decode cX8_unlike 49 = .ok (.iaload, 1) := by decide +kernel
theorem dX8_unlike_50 : decode cX8_unlike 50 = .ok (.aload_n 0, 1) := by decide +kernel
theorem dX8_unlike_51 : decode cX8_unlike 51 = .ok (.getfield 54, 3) := by decide +kernel
theorem dX8_unlike_54 : decode cX8_unlike 54 = .ok (.bipush 42, 2) := by decide +kernel
theorem dX8_unlike_56 : decode cX8_unlike 56 = .ok (.iload 5, 2) := by decide +kernel
theorem dX8_unlike_58 : decode cX8_unlike 58 = .ok (.iadd, 1) := by decide +kernel
theorem dX8_unlike_59 : decode cX8_unlike 59 = .ok (.iaload, 1) := by decide +kernel
theorem dX8_unlike_60 : decode cX8_unlike 60 = .ok (.if_icmp .ne 32, 3) := by decide +kernel
theorem dX8_unlike_63 : decode cX8_unlike 63 = .ok (.aload_n 0, 1) := by decide +kernel
theorem dX8_unlike_64 : decode cX8_unlike 64 = .ok (.getfield 57, 3) := by decide +kernel
theorem dX8_unlike_67 : decode cX8_unlike 67 = .ok (.iload 5, 2) := by decide +kernel
theorem dX8_unlike_69 : decode cX8_unlike 69 = .ok (.iaload, 1) := by decide +kernel
theorem dX8_unlike_70 : decode cX8_unlike 70 = .ok (.aload_n 0, 1) := by decide +kernel
theorem dX8_unlike_71 : decode cX8_unlike 71 = .ok (.getfield 57, 3) := by decide +kernel
theorem dX8_unlike_74 : decode cX8_unlike 74 = .ok (.bipush 42, 2) := by decide +kernel
theorem dX8_unlike_76 : decode cX8_unlike 76 = .ok (.iload 5, 2) := by decide +kernel
theorem dX8_unlike_78 : decode cX8_unlike 78 = .ok (.iadd, 1) := by decide +kernel
theorem dX8_unlike_79 : decode cX8_unlike 79 = .ok (.iaload, 1) := by decide +kernel
theorem dX8_unlike_80 : decode cX8_unlike 80 = .ok (.if_icmp .ne 12, 3) := by decide +kernel
theorem dX8_unlike_83 : decode cX8_unlike 83 = .ok (.iload 5, 2) := by decide +kernel
theorem dX8_unlike_85 : decode cX8_unlike 85 = .ok (.iconst 1, 1) := by decide +kernel
theorem dX8_unlike_86 : decode cX8_unlike 86 = .ok (.iadd, 1) := by decide +kernel
theorem dX8_unlike_87 : decode cX8_unlike 87 = .ok (.istore 5, 2) := by decide +kernel
theorem dX8_unlike_89 : decode cX8_unlike 89 = .ok (.goto (-68), 3) := by decide +kernel
theorem dX8_unlike_92 : decode cX8_unlike 92 = .ok (.iload 5, 2) := by decide +kernel
theorem dX8_unlike_94 : decode cX8_unlike 94 = .ok (.aload_n 0, 1) := by decide +kernel
theorem dX8_unlike_95 : decode cX8_unlike 95 = .ok (.getfield 51, 3) := by decide +kernel
theorem dX8_unlike_98 : decode cX8_unlike 98 = .ok (.iconst 0, 1) := by decide +kernel
theorem dX8_unlike_99 : decode cX8_unlike 99 = .ok (.iaload, 1) := by decide +kernel
theorem dX8_unlike_100 : decode cX8_unlike 100 = .ok (.if_icmp .ne 18, 3) := by decide +kernel
theorem dX8_unlike_103 : decode cX8_unlike 103 = .ok (.iload 5, 2) := by decide +kernel
theorem dX8_unlike_105 : decode cX8_unlike 105 = .ok (.aload_n 0, 1) := by decide +kernel
theorem dX8_unlike_106 : decode cX8_unlike 106 = .ok (.getfield 51, 3) := by decide +kernel
theorem dX8_unlike_109 : decode cX8_unlike 109 = .ok (.iconst 1, 1) := by decide +kernel
theorem dX8_unlike_110 : decode cX8_unlike 110 = .ok (.iaload, 1) := by decide +kernel
theorem dX8_unlike_111 : decode cX8_unlike 111 = .ok (.if_icmp .ne 7, 3) := by decide +kernel
theorem dX8_unlike_114 : decode cX8_unlike 114 = .ok (.iconst (-1), 1) := by decide +kernel
theorem dX8_unlike_115 : decode cX8_unlike 115 = .ok (.goto 5, 3) := by decide +kernel
theorem dX8_unlike_118 : decode cX8_unlike 118 = .ok (.iload 5, 2) := by decide +kernel
theorem dX8_unlike_120 : decode cX8_unlike 120 = .ok (.ireturn, 1) := by decide +kernel
theorem dX8_run_0 : decode cX8_run 0 = .ok (.aload_n 0, 1) := by decide +kernel
theorem dX8_run_1 : decode cX8_run 1 = .ok (.iconst 0, 1) := by decide +kernel
theorem dX8_run_2 : decode cX8_run 2 = .ok (.putfield 66, 3) := by decide +kernel
theorem dX8_run_5 : decode cX8_run 5 = .ok (.aload_n 0, 1) := by decide +kernel
theorem dX8_run_6 : decode cX8_run 6 = .ok (.iload_n 1, 1) := by decide +kernel
theorem dX8_run_7 : decode cX8_run 7 = .ok (.invokevirtual 108, 3) := by decide +kernel
theorem dX8_run_10 : decode cX8_run 10 = .ok (.ifCond .eq 20, 3) := by decide +kernel
theorem dX8_run_13 : decode cX8_run 13 = .ok (.aload_n 0, 1) := by decide +kernel
theorem dX8_run_14 : decode cX8_run 14 = .ok (.iload_n 2, 1) := by decide +kernel
theorem dX8_run_15 : decode cX8_run 15 = .ok (.invokevirtual 108, 3) := by decide +kernel
theorem dX8_run_18 : decode cX8_run 18 = .ok (.ifCond .eq 12, 3) := by decide +kernel
theorem dX8_run_21 : decode cX8_run 21 = .ok (.iload_n 3, 1) := by decide +kernel
theorem dX8_run_22 : decode cX8_run 22 = .ok (.ifCond .lt 8, 3) := by decide +kernel
theorem dX8_run_25 : decode cX8_run 25 = .ok (.iload_n 3, 1) := by decide +kernel
theorem dX8_run_26 : decode cX8_run 26 = .ok (.iconst 4, 1) := by decide +kernel
theorem dX8_run_27 : decode cX8_run 27 = .ok (.if_icmp .le 7, 3) := by decide +kernel
theorem dX8_run_30 : decode cX8_run 30 = .ok (.sipush (-1001), 3) := by decide +kernel
theorem dX8_run_33 : decode cX8_run 33 = .ok (.ireturn, 1) := by decide +kernel
theorem dX8_run_34 : decode cX8_run 34 = .ok (.bipush 16, 2) := by decide +kernel
theorem dX8_run_36 : decode cX8_run 36 = .ok (.iload_n 1, 1) := by decide +kernel
theorem dX8_run_37 : decode cX8_run 37 = .ok (.imul, 1) := by decide +kernel
theorem dX8_run_38 : decode cX8_run 38 = .ok (.iload_n 2, 1) := by decide +kernel
theorem dX8_run_39 : decode cX8_run 39 = .ok (.iadd, 1) := by decide +kernel
theorem dX8_run_40 : decode cX8_run 40 = .ok (.istore 4, 2) := by decide +kernel
theorem dX8_run_42 : decode cX8_run 42 = .ok (.aload_n 0, 1) := by decide +kernel
theorem dX8_run_43 : decode cX8_run 43 = .ok (.iload 4, 2) := by decide +kernel
theorem dX8_run_45 : decode cX8_run 45 = .ok (.invokevirtual 91, 3) := by decide +kernel
theorem dX8_run_48 : decode cX8_run 48 = .ok (.iload_n 3, 1) := by decide +kernel
theorem dX8_run_49 : decode cX8_run 49 = .ok (.ifCond .ne 11, 3) := by decide +kernel
theorem dX8_run_52 : decode cX8_run 52 = .ok (.aload_n 0, 1) := by decide +kernel
theorem dX8_run_53 : decode cX8_run 53 = .ok (.getfield 35, 3) := by decide +kernel
theorem dX8_run_56 : decode cX8_run 56 = .ok (.iload 4, 2) := by decide +kernel
theorem dX8_run_58 : decode cX8_run 58 = .ok (.iaload, 1) := by decide +kernel
theorem dX8_run_59 : decode cX8_run 59 = .ok (.ireturn, 1) := by decide +kernel
theorem dX8_run_60 : decode cX8_run 60 = .ok (.iload_n 3, 1) := by decide +kernel
theorem dX8_run_61 : decode cX8_run 61 = .ok (.iconst 1, 1) := by decide +kernel
theorem dX8_run_62 : decode cX8_run 62 = .ok (.if_icmp .ne 14, 3) := by decide +kernel
theorem dX8_run_65 : decode cX8_run 65 = .ok (.aload_n 0, 1) := by decide +kernel
theorem dX8_run_66 : decode cX8_run 66 = .ok (.iload 4, 2) := by decide +kernel
theorem dX8_run_68 : decode cX8_run 68 = .ok (.aload_n 0, 1) := by decide +kernel
theorem dX8_run_69 : decode cX8_run 69 = .ok (.getfield 80, 3) := by decide +kernel
theorem dX8_run_72 : decode cX8_run 72 = .ok (.invokevirtual 102, 3) := by decide +kernel
theorem dX8_run_75 : decode cX8_run 75 = .ok (.ireturn, 1) := by decide +kernel
theorem dX8_run_76 : decode cX8_run 76 = .ok (.iload_n 3, 1) := by decide +kernel
theorem dX8_run_77 : decode cX8_run 77 = .ok (.iconst 2, 1) := by decide +kernel
theorem dX8_run_78 : decode cX8_run 78 = .ok (.if_icmp .ne 11, 3) := by decide +kernel
theorem dX8_run_81 : decode cX8_run 81 = .ok (.aload_n 0, 1) := by decide +kernel
theorem dX8_run_82 : decode cX8_run 82 = .ok (.getfield 32, 3) := by decide +kernel
theorem dX8_run_85 : decode cX8_run 85 = .ok (.iload 4, 2) := by decide +kernel
theorem dX8_run_87 : decode cX8_run 87 = .ok (.iaload, 1) := by decide +kernel
theorem dX8_run_88 : decode cX8_run 88 = .ok (.ireturn, 1) := by decide +kernel
theorem dX8_run_89 : decode cX8_run 89 = .ok (.iload_n 3, 1) := by decide +kernel
theorem dX8_run_90 : decode cX8_run 90 = .ok (.iconst 3, 1) := by decide +kernel
theorem dX8_run_91 : decode cX8_run 91 = .ok (.if_icmp .ne 19, 3) := by decide +kernel
theorem dX8_run_94 : decode cX8_run 94 = .ok (.aload_n 0, 1) := by decide +kernel
theorem dX8_run_95 : decode cX8_run 95 = .ok (.getfield 38, 3) := by decide +kernel
theorem dX8_run_98 : decode cX8_run 98 = .ok (.iload 4, 2) := by decide +kernel
theorem dX8_run_100 : decode cX8_run 100 = .ok (.baload, 1) := by decide +kernel
theorem dX8_run_101 : decode cX8_run 101 = .ok (.ifCond .eq 7, 3) := by decide +kernel
theorem dX8_run_104 : decode cX8_run 104 = .ok (.iconst 1, 1) := by decide +kernel
theorem dX8_run_105 : decode cX8_run 105 = .ok (.goto 4, 3) := by decide +kernel
theorem dX8_run_108 : decode cX8_run 108 = .ok (.iconst 0, 1) := by decide +kernel
theorem dX8_run_109 : decode cX8_run 109 = .ok (.ireturn, 1) := by decide +kernel
theorem dX8_run_110 : decode cX8_run 110 = .ok (.aload_n 0, 1) := by decide +kernel
theorem dX8_run_111 : decode cX8_run 111 = .ok (.iconst 0, 1) := by decide +kernel
theorem dX8_run_112 : decode cX8_run 112 = .ok (.iload 4, 2) := by decide +kernel
theorem dX8_run_114 : decode cX8_run 114 = .ok (.aload_n 0, 1) := by decide +kernel
theorem dX8_run_115 : decode cX8_run 115 = .ok (.getfield 80, 3) := by decide +kernel
theorem dX8_run_118 : decode cX8_run 118 = .ok (.aload_n 0, 1) := by decide +kernel
theorem dX8_run_119 : decode cX8_run 119 = .ok (.getfield 19, 3) := by decide +kernel
theorem dX8_run_122 : decode cX8_run 122 = .ok (.invokevirtual 105, 3) := by decide +kernel
theorem dX8_run_125 : decode cX8_run 125 = .ok (.aload_n 0, 1) := by decide +kernel
theorem dX8_run_126 : decode cX8_run 126 = .ok (.getfield 51, 3) := by decide +kernel
theorem dX8_run_129 : decode cX8_run 129 = .ok (.iconst 0, 1) := by decide +kernel
theorem dX8_run_130 : decode cX8_run 130 = .ok (.iaload, 1) := by decide +kernel
theorem dX8_run_131 : decode cX8_run 131 = .ok (.ireturn, 1) := by decide +kernel
theorem dX8_seen_0 : decode cX8_seen 0 = .ok (.aload_n 0, 1) := by decide +kernel
theorem dX8_seen_1 : decode cX8_seen 1 = .ok (.iconst 0, 1) := by decide +kernel
theorem dX8_seen_2 : decode cX8_seen 2 = .ok (.putfield 66, 3) := by decide +kernel
theorem dX8_seen_5 : decode cX8_seen 5 = .ok (.aload_n 0, 1) := by decide +kernel
theorem dX8_seen_6 : decode cX8_seen 6 = .ok (.iload_n 1, 1) := by decide +kernel
theorem dX8_seen_7 : decode cX8_seen 7 = .ok (.invokevirtual 108, 3) := by decide +kernel
theorem dX8_seen_10 : decode cX8_seen 10 = .ok (.ifCond .eq 22, 3) := by decide +kernel
theorem dX8_seen_13 : decode cX8_seen 13 = .ok (.aload_n 0, 1) := by decide +kernel
theorem dX8_seen_14 : decode cX8_seen 14 = .ok (.iload_n 2, 1) := by decide +kernel
theorem dX8_seen_15 : decode cX8_seen 15 = .ok (.invokevirtual 108, 3) := by decide +kernel
theorem dX8_seen_18 : decode cX8_seen 18 = .ok (.ifCond .eq 14, 3) := by decide +kernel
theorem dX8_seen_21 : decode cX8_seen 21 = .ok (.iload 4, 2) := by decide +kernel
theorem dX8_seen_23 : decode cX8_seen 23 = .ok (.ifCond .lt 9, 3) := by decide +kernel
theorem dX8_seen_26 : decode cX8_seen 26 = .ok (.iload 4, 2) := by decide +kernel
theorem dX8_seen_28 : decode cX8_seen 28 = .ok (.iconst 2, 1) := by decide +kernel
theorem dX8_seen_29 : decode cX8_seen 29 = .ok (.if_icmp .le 7, 3) := by decide +kernel
theorem dX8_seen_32 : decode cX8_seen 32 = .ok (.sipush (-1001), 3) := by decide +kernel
theorem dX8_seen_35 : decode cX8_seen 35 = .ok (.ireturn, 1) := by decide +kernel
theorem dX8_seen_36 : decode cX8_seen 36 = .ok (.bipush 16, 2) := by decide +kernel
theorem dX8_seen_38 : decode cX8_seen 38 = .ok (.iload_n 1, 1) := by decide +kernel
theorem dX8_seen_39 : decode cX8_seen 39 = .ok (.imul, 1) := by decide +kernel
theorem dX8_seen_40 : decode cX8_seen 40 = .ok (.iload_n 2, 1) := by decide +kernel
theorem dX8_seen_41 : decode cX8_seen 41 = .ok (.iadd, 1) := by decide +kernel
theorem dX8_seen_42 : decode cX8_seen 42 = .ok (.istore 5, 2) := by decide +kernel
theorem dX8_seen_44 : decode cX8_seen 44 = .ok (.aload_n 0, 1) := by decide +kernel
theorem dX8_seen_45 : decode cX8_seen 45 = .ok (.iload 5, 2) := by decide +kernel
theorem dX8_seen_47 : decode cX8_seen 47 = .ok (.invokevirtual 91, 3) := by decide +kernel
theorem dX8_seen_50 : decode cX8_seen 50 = .ok (.aload_n 0, 1) := by decide +kernel
theorem dX8_seen_51 : decode cX8_seen 51 = .ok (.iconst 0, 1) := by decide +kernel
theorem dX8_seen_52 : decode cX8_seen 52 = .ok (.iload 5, 2) := by decide +kernel
theorem dX8_seen_54 : decode cX8_seen 54 = .ok (.aload_n 0, 1) := by decide +kernel
theorem dX8_seen_55 : decode cX8_seen 55 = .ok (.getfield 80, 3) := by decide +kernel
theorem dX8_seen_58 : decode cX8_seen 58 = .ok (.aload_n 0, 1) := by decide +kernel
theorem dX8_seen_59 : decode cX8_seen 59 = .ok (.getfield 19, 3) := by decide +kernel
theorem dX8_seen_62 : decode cX8_seen 62 = .ok (.invokevirtual 105, 3) := by decide +kernel
theorem dX8_seen_65 : decode cX8_seen 65 = .ok (.iload_n 3, 1) := by decide +kernel
theorem dX8_seen_66 : decode cX8_seen 66 = .ok (.ifCond .lt 13, 3) := by decide +kernel
theorem dX8_seen_69 : decode cX8_seen 69 = .ok (.iload_n 3, 1) := by decide +kernel
theorem dX8_seen_70 : decode cX8_seen 70 = .ok (.aload_n 0, 1) := by decide +kernel
theorem dX8_seen_71 : decode cX8_seen 71 = .ok (.getfield 51, 3) := by decide +kernel
theorem dX8_seen_74 : decode cX8_seen 74 = .ok (.iconst 0, 1) := by decide +kernel
theorem dX8_seen_75 : decode cX8_seen 75 = .ok (.iaload, 1) := by decide +kernel
theorem dX8_seen_76 : decode cX8_seen 76 = .ok (.if_icmp .lt 7, 3) := by decide +kernel
theorem dX8_seen_79 : decode cX8_seen 79 = .ok (.sipush (-1001), 3) := by decide +kernel
theorem dX8_seen_82 : decode cX8_seen 82 = .ok (.ireturn, 1) := by decide +kernel
theorem dX8_seen_83 : decode cX8_seen 83 = .ok (.iload 4, 2) := by decide +kernel
theorem dX8_seen_85 : decode cX8_seen 85 = .ok (.ifCond .ne 12, 3) := by decide +kernel
theorem dX8_seen_88 : decode cX8_seen 88 = .ok (.aload_n 0, 1) := by decide +kernel
theorem dX8_seen_89 : decode cX8_seen 89 = .ok (.getfield 60, 3) := by decide +kernel
theorem dX8_seen_92 : decode cX8_seen 92 = .ok (.iload_n 3, 1) := by decide +kernel
theorem dX8_seen_93 : decode cX8_seen 93 = .ok (.iaload, 1) := by decide +kernel
theorem dX8_seen_94 : decode cX8_seen 94 = .ok (.goto 24, 3) := by decide +kernel
theorem dX8_seen_97 : decode cX8_seen 97 = .ok (.iload 4, 2) := by decide +kernel
theorem dX8_seen_99 : decode cX8_seen 99 = .ok (.iconst 1, 1) := by decide +kernel
theorem dX8_seen_100 : decode cX8_seen 100 = .ok (.if_icmp .ne 12, 3) := by decide +kernel
theorem dX8_seen_103 : decode cX8_seen 103 = .ok (.aload_n 0, 1) := by decide +kernel
theorem dX8_seen_104 : decode cX8_seen 104 = .ok (.getfield 54, 3) := by decide +kernel
theorem dX8_seen_107 : decode cX8_seen 107 = .ok (.iload_n 3, 1) := by decide +kernel
theorem dX8_seen_108 : decode cX8_seen 108 = .ok (.iaload, 1) := by decide +kernel
theorem dX8_seen_109 : decode cX8_seen 109 = .ok (.goto 9, 3) := by decide +kernel
theorem dX8_seen_112 : decode cX8_seen 112 = .ok (.aload_n 0, 1) := by decide +kernel
theorem dX8_seen_113 : decode cX8_seen 113 = .ok (.getfield 57, 3) := by decide +kernel
theorem dX8_seen_116 : decode cX8_seen 116 = .ok (.iload_n 3, 1) := by decide +kernel
theorem dX8_seen_117 : decode cX8_seen 117 = .ok (.iaload, 1) := by decide +kernel
theorem dX8_seen_118 : decode cX8_seen 118 = .ok (.ireturn, 1) := by decide +kernel
theorem dX8_classesOf_0 : decode cX8_classesOf 0 = .ok (.iconst 0, 1) := by decide +kernel
theorem dX8_classesOf_1 : decode cX8_classesOf 1 = .ok (.istore_n 2, 1) := by decide +kernel
theorem dX8_classesOf_2 : decode cX8_classesOf 2 = .ok (.iconst 0, 1) := by decide +kernel
theorem dX8_classesOf_3 : decode cX8_classesOf 3 = .ok (.istore_n 3, 1) := by decide +kernel
theorem dX8_classesOf_4 : decode cX8_classesOf 4 = .ok (.iload_n 3, 1) := by decide +kernel
theorem dX8_classesOf_5 : decode cX8_classesOf 5 = .ok (.bipush 16, 2) := by decide +kernel
theorem dX8_classesOf_7 : decode cX8_classesOf 7 = .ok (.if_icmp .ge 107, 3) := by decide +kernel
theorem dX8_classesOf_10 : decode cX8_classesOf 10 = .ok (.aload_n 0, 1) := by decide +kernel
theorem dX8_classesOf_11 : decode cX8_classesOf 11 = .ok (.getfield 63, 3) := by decide +kernel
theorem dX8_classesOf_14 : decode cX8_classesOf 14 = .ok (.iload_n 3, 1) := by decide +kernel
theorem dX8_classesOf_15 : decode cX8_classesOf 15 = .ok (.iconst (-1), 1) := by decide +kernel
theorem dX8_classesOf_16 : decode cX8_classesOf 16 = .ok (.iastore, 1) := by decide +kernel
theorem dX8_classesOf_17 : decode cX8_classesOf 17 = .ok (.iconst 0, 1) := by decide +kernel
theorem dX8_classesOf_18 : decode cX8_classesOf 18 = .ok (.istore 4, 2) := by decide +kernel
theorem dX8_classesOf_20 : decode cX8_classesOf 20 = .ok (.iload 4, 2) := by decide +kernel
theorem dX8_classesOf_22 : decode cX8_classesOf 22 = .ok (.iload_n 3, 1) := by decide +kernel
theorem dX8_classesOf_23 : decode cX8_classesOf 23 = .ok (.if_icmp .ge 61, 3) := by decide +kernel
theorem dX8_classesOf_26 : decode cX8_classesOf 26 = .ok (.aload_n 0, 1) := by decide +kernel
theorem dX8_classesOf_27 : decode cX8_classesOf 27 = .ok (.getfield 63, 3) := by decide +kernel
theorem dX8_classesOf_30 : decode cX8_classesOf 30 = .ok (.iload_n 3, 1) := by decide +kernel
theorem dX8_classesOf_31 : decode cX8_classesOf 31 = .ok (.iaload, 1) := by decide +kernel
theorem dX8_classesOf_32 : decode cX8_classesOf 32 = .ok (.iconst (-1), 1) := by decide +kernel
theorem dX8_classesOf_33 : decode cX8_classesOf 33 = .ok (.if_icmp .ne 51, 3) := by decide +kernel
theorem dX8_classesOf_36 : decode cX8_classesOf 36 = .ok (.aload_n 0, 1) := by decide +kernel
theorem dX8_classesOf_37 : decode cX8_classesOf 37 = .ok (.bipush 16, 2) := by decide +kernel
theorem dX8_classesOf_39 : decode cX8_classesOf 39 = .ok (.iload_n 1, 1) := by decide +kernel
theorem dX8_classesOf_40 : decode cX8_classesOf 40 = .ok (.imul, 1) := by decide +kernel
theorem dX8_classesOf_41 : decode cX8_classesOf 41 = .ok (.iload 4, 2) := by decide +kernel
theorem dX8_classesOf_43 : decode cX8_classesOf 43 = .ok (.iadd, 1) := by decide +kernel
theorem dX8_classesOf_44 : decode cX8_classesOf 44 = .ok (.bipush 16, 2) := by decide +kernel
theorem dX8_classesOf_46 : decode cX8_classesOf 46 = .ok (.iload_n 1, 1) := by decide +kernel
theorem dX8_classesOf_47 : decode cX8_classesOf 47 = .ok (.imul, 1) := by decide +kernel
theorem dX8_classesOf_48 : decode cX8_classesOf 48 = .ok (.iload_n 3, 1) := by decide +kernel
theorem dX8_classesOf_49 : decode cX8_classesOf 49 = .ok (.iadd, 1) := by decide +kernel
theorem dX8_classesOf_50 : decode cX8_classesOf 50 = .ok (.aload_n 0, 1) := by decide +kernel
theorem dX8_classesOf_51 : decode cX8_classesOf 51 = .ok (.getfield 80, 3) := by decide +kernel
theorem dX8_classesOf_54 : decode cX8_classesOf 54 = .ok (.aload_n 0, 1) := by decide +kernel
theorem dX8_classesOf_55 : decode cX8_classesOf 55 = .ok (.getfield 19, 3) := by decide +kernel
theorem dX8_classesOf_58 : decode cX8_classesOf 58 = .ok (.invokevirtual 111, 3) := by decide +kernel
theorem dX8_classesOf_61 : decode cX8_classesOf 61 = .ok (.iconst (-1), 1) := by decide +kernel
theorem dX8_classesOf_62 : decode cX8_classesOf 62 = .ok (.if_icmp .ne 16, 3) := by decide +kernel
theorem dX8_classesOf_65 : decode cX8_classesOf 65 = .ok (.aload_n 0, 1) := by decide +kernel
theorem dX8_classesOf_66 : decode cX8_classesOf 66 = .ok (.getfield 63, 3) := by decide +kernel
theorem dX8_classesOf_69 : decode cX8_classesOf 69 = .ok (.iload_n 3, 1) := by decide +kernel
theorem dX8_classesOf_70 : decode cX8_classesOf 70 = .ok (.aload_n 0, 1) := by decide +kernel
theorem dX8_classesOf_71 : decode cX8_classesOf 71 = .ok (.getfield 63, 3) := by decide +kernel
theorem dX8_classesOf_74 : decode cX8_classesOf 74 = .ok (.iload 4, 2) := by decide +kernel
theorem dX8_classesOf_76 : decode cX8_classesOf 76 = .ok (.iaload, 1) := by decide +kernel
theorem dX8_classesOf_77 : decode cX8_classesOf 77 = .ok (.iastore, 1) := by decide +kernel
theorem dX8_classesOf_78 : decode cX8_classesOf 78 = .ok (.iinc 4 1, 3) := by decide +kernel
theorem dX8_classesOf_81 : decode cX8_classesOf 81 = .ok (.goto (-61), 3) := by decide +kernel
theorem dX8_classesOf_84 : decode cX8_classesOf 84 = .ok (.aload_n 0, 1) := by decide +kernel
theorem dX8_classesOf_85 : decode cX8_classesOf 85 = .ok (.getfield 63, 3) := by decide +kernel
theorem dX8_classesOf_88 : decode cX8_classesOf 88 = .ok (.iload_n 3, 1) := by decide +kernel
theorem dX8_classesOf_89 : decode cX8_classesOf 89 = .ok (.iaload, 1) := by decide +kernel
theorem dX8_classesOf_90 : decode cX8_classesOf 90 = .ok (.iconst (-1), 1) := by decide +kernel
theorem dX8_classesOf_91 : decode cX8_classesOf 91 = .ok (.if_icmp .eq 6, 3) := by decide +kernel
theorem dX8_classesOf_94 : decode cX8_classesOf 94 = .ok (.goto 14, 3) := by decide +kernel
theorem dX8_classesOf_97 : decode cX8_classesOf 97 = .ok (.aload_n 0, 1) := by decide +kernel
theorem dX8_classesOf_98 : decode cX8_classesOf 98 = .ok (.getfield 63, 3) := by decide +kernel
theorem dX8_classesOf_101 : decode cX8_classesOf 101 = .ok (.iload_n 3, 1) := by decide +kernel
theorem dX8_classesOf_102 : decode cX8_classesOf 102 = .ok (.iload_n 2, 1) := by decide +kernel
theorem dX8_classesOf_103 : decode cX8_classesOf 103 = .ok (.iastore, 1) := by decide +kernel
theorem dX8_classesOf_104 : decode cX8_classesOf 104 = .ok (.iload_n 2, 1) := by decide +kernel
theorem dX8_classesOf_105 : decode cX8_classesOf 105 = .ok (.iconst 1, 1) := by decide +kernel
theorem dX8_classesOf_106 : decode cX8_classesOf 106 = .ok (.iadd, 1) := by decide +kernel
theorem dX8_classesOf_107 : decode cX8_classesOf 107 = .ok (.istore_n 2, 1) := by decide +kernel
theorem dX8_classesOf_108 : decode cX8_classesOf 108 = .ok (.iinc 3 1, 3) := by decide +kernel
theorem dX8_classesOf_111 : decode cX8_classesOf 111 = .ok (.goto (-107), 3) := by decide +kernel
theorem dX8_classesOf_114 : decode cX8_classesOf 114 = .ok (.iload_n 2, 1) := by decide +kernel
theorem dX8_classesOf_115 : decode cX8_classesOf 115 = .ok (.ireturn, 1) := by decide +kernel
theorem dX8_classes_0 : decode cX8_classes 0 = .ok (.aload_n 0, 1) := by decide +kernel
theorem dX8_classes_1 : decode cX8_classes 1 = .ok (.iconst 0, 1) := by decide +kernel
theorem dX8_classes_2 : decode cX8_classes 2 = .ok (.putfield 66, 3) := by decide +kernel
theorem dX8_classes_5 : decode cX8_classes 5 = .ok (.aload_n 0, 1) := by decide +kernel
theorem dX8_classes_6 : decode cX8_classes 6 = .ok (.iload_n 1, 1) := by decide +kernel
theorem dX8_classes_7 : decode cX8_classes 7 = .ok (.invokevirtual 108, 3) := by decide +kernel
theorem dX8_classes_10 : decode cX8_classes 10 = .ok (.ifCond .ne 5, 3) := by decide +kernel
theorem dX8_classes_13 : decode cX8_classes 13 = .ok (.iconst (-1), 1) := by decide +kernel
theorem dX8_classes_14 : decode cX8_classes 14 = .ok (.ireturn, 1) := by decide +kernel
theorem dX8_classes_15 : decode cX8_classes 15 = .ok (.aload_n 0, 1) := by decide +kernel
theorem dX8_classes_16 : decode cX8_classes 16 = .ok (.invokevirtual 115, 3) := by decide +kernel
theorem dX8_classes_19 : decode cX8_classes 19 = .ok (.aload_n 0, 1) := by decide +kernel
theorem dX8_classes_20 : decode cX8_classes 20 = .ok (.iload_n 1, 1) := by decide +kernel
theorem dX8_classes_21 : decode cX8_classes 21 = .ok (.invokevirtual 118, 3) := by decide +kernel
theorem dX8_classes_24 : decode cX8_classes 24 = .ok (.ireturn, 1) := by decide +kernel
theorem dX8_classOf_0 : decode cX8_classOf 0 = .ok (.aload_n 0, 1) := by decide +kernel
theorem dX8_classOf_1 : decode cX8_classOf 1 = .ok (.iconst 0, 1) := by decide +kernel
theorem dX8_classOf_2 : decode cX8_classOf 2 = .ok (.putfield 66, 3) := by decide +kernel
theorem dX8_classOf_5 : decode cX8_classOf 5 = .ok (.aload_n 0, 1) := by decide +kernel
theorem dX8_classOf_6 : decode cX8_classOf 6 = .ok (.iload_n 1, 1) := by decide +kernel
theorem dX8_classOf_7 : decode cX8_classOf 7 = .ok (.invokevirtual 108, 3) := by decide +kernel
theorem dX8_classOf_10 : decode cX8_classOf 10 = .ok (.ifCond .eq 11, 3) := by decide +kernel
theorem dX8_classOf_13 : decode cX8_classOf 13 = .ok (.aload_n 0, 1) := by decide +kernel
theorem dX8_classOf_14 : decode cX8_classOf 14 = .ok (.iload_n 2, 1) := by decide +kernel
theorem dX8_classOf_15 : decode cX8_classOf 15 = .ok (.invokevirtual 108, 3) := by decide +kernel
theorem dX8_classOf_18 : decode cX8_classOf 18 = .ok (.ifCond .ne 5, 3) := by decide +kernel
theorem dX8_classOf_21 : decode cX8_classOf 21 = .ok (.iconst (-1), 1) := by decide +kernel
theorem dX8_classOf_22 : decode cX8_classOf 22 = .ok (.ireturn, 1) := by decide +kernel
theorem dX8_classOf_23 : decode cX8_classOf 23 = .ok (.aload_n 0, 1) := by decide +kernel
theorem dX8_classOf_24 : decode cX8_classOf 24 = .ok (.invokevirtual 115, 3) := by decide +kernel
theorem dX8_classOf_27 : decode cX8_classOf 27 = .ok (.aload_n 0, 1) := by decide +kernel
theorem dX8_classOf_28 : decode cX8_classOf 28 = .ok (.iload_n 1, 1) := by decide +kernel
theorem dX8_classOf_29 : decode cX8_classOf 29 = .ok (.invokevirtual 118, 3) := by decide +kernel
theorem dX8_classOf_32 : decode cX8_classOf 32 = .ok (.pop, 1) := by decide +kernel
theorem dX8_classOf_33 : decode cX8_classOf 33 = .ok (.aload_n 0, 1) := by decide +kernel
theorem dX8_classOf_34 : decode cX8_classOf 34 = .ok (.getfield 63, 3) := by decide +kernel
theorem dX8_classOf_37 : decode cX8_classOf 37 = .ok (.iload_n 2, 1) := by decide +kernel
theorem dX8_classOf_38 : decode cX8_classOf 38 = .ok (.iaload, 1) := by decide +kernel
theorem dX8_classOf_39 : decode cX8_classOf 39 = .ok (.ireturn, 1) := by decide +kernel
theorem dX8_most_0 : decode cX8_most 0 = .ok (.aload_n 0, 1) := by decide +kernel
theorem dX8_most_1 : decode cX8_most 1 = .ok (.iconst 0, 1) := by decide +kernel
theorem dX8_most_2 : decode cX8_most 2 = .ok (.putfield 66, 3) := by decide +kernel
theorem dX8_most_5 : decode cX8_most 5 = .ok (.aload_n 0, 1) := by decide +kernel
theorem dX8_most_6 : decode cX8_most 6 = .ok (.invokevirtual 115, 3) := by decide +kernel
theorem dX8_most_9 : decode cX8_most 9 = .ok (.iconst 0, 1) := by decide +kernel
theorem dX8_most_10 : decode cX8_most 10 = .ok (.istore_n 1, 1) := by decide +kernel
theorem dX8_most_11 : decode cX8_most 11 = .ok (.iconst 0, 1) := by decide +kernel
theorem dX8_most_12 : decode cX8_most 12 = .ok (.istore_n 2, 1) := by decide +kernel
theorem dX8_most_13 : decode cX8_most 13 = .ok (.iload_n 2, 1) := by decide +kernel
theorem dX8_most_14 : decode cX8_most 14 = .ok (.bipush 16, 2) := by decide +kernel
theorem dX8_most_16 : decode cX8_most 16 = .ok (.if_icmp .ge 22, 3) := by decide +kernel
theorem dX8_most_19 : decode cX8_most 19 = .ok (.aload_n 0, 1) := by decide +kernel
theorem dX8_most_20 : decode cX8_most 20 = .ok (.iload_n 2, 1) := by decide +kernel
theorem dX8_most_21 : decode cX8_most 21 = .ok (.invokevirtual 118, 3) := by decide +kernel
theorem dX8_most_24 : decode cX8_most 24 = .ok (.istore_n 3, 1) := by decide +kernel
theorem dX8_most_25 : decode cX8_most 25 = .ok (.iload_n 3, 1) := by decide +kernel
theorem dX8_most_26 : decode cX8_most 26 = .ok (.iload_n 1, 1) := by decide +kernel
theorem dX8_most_27 : decode cX8_most 27 = .ok (.if_icmp .le 5, 3) := by decide +kernel
theorem dX8_most_30 : decode cX8_most 30 = .ok (.iload_n 3, 1) := by decide +kernel
theorem dX8_most_31 : decode cX8_most 31 = .ok (.istore_n 1, 1) := by decide +kernel
theorem dX8_most_32 : decode cX8_most 32 = .ok (.iinc 2 1, 3) := by decide +kernel
theorem dX8_most_35 : decode cX8_most 35 = .ok (.goto (-22), 3) := by decide +kernel
theorem dX8_most_38 : decode cX8_most 38 = .ok (.iload_n 1, 1) := by decide +kernel
theorem dX8_most_39 : decode cX8_most 39 = .ok (.ireturn, 1) := by decide +kernel
theorem dX8_isSilent_0 : decode cX8_isSilent 0 = .ok (.iconst 0, 1) := by decide +kernel
theorem dX8_isSilent_1 : decode cX8_isSilent 1 = .ok (.istore_n 3, 1) := by decide +kernel
theorem dX8_isSilent_2 : decode cX8_isSilent 2 = .ok (.iload_n 3, 1) := by decide +kernel
theorem dX8_isSilent_3 : decode cX8_isSilent 3 = .ok (.sipush 256, 3) := by decide +kernel
theorem dX8_isSilent_6 : decode cX8_isSilent 6 = .ok (.if_icmp .ge 55, 3) := by decide +kernel
theorem dX8_isSilent_9 : decode cX8_isSilent 9 = .ok (.iload_n 3, 1) := by decide +kernel
theorem dX8_isSilent_10 : decode cX8_isSilent 10 = .ok (.bipush 16, 2) := by decide +kernel
theorem dX8_isSilent_12 : decode cX8_isSilent 12 = .ok (.irem, 1) := by decide +kernel
theorem dX8_isSilent_13 : decode cX8_isSilent 13 = .ok (.ifCond .eq 42, 3) := by decide +kernel
theorem dX8_isSilent_16 : decode cX8_isSilent 16 = .ok (.aload_n 0, 1) := by decide +kernel
theorem dX8_isSilent_17 : decode cX8_isSilent 17 = .ok (.iload_n 3, 1) := by decide +kernel
theorem dX8_isSilent_18 : decode cX8_isSilent 18 = .ok (.bipush 16, 2) := by decide +kernel
theorem dX8_isSilent_20 : decode cX8_isSilent 20 = .ok (.idiv, 1) := by decide +kernel
theorem dX8_isSilent_21 : decode cX8_isSilent 21 = .ok (.bipush 16, 2) := by decide +kernel
theorem dX8_isSilent_23 : decode cX8_isSilent 23 = .ok (.imul, 1) := by decide +kernel
theorem dX8_isSilent_24 : decode cX8_isSilent 24 = .ok (.iload_n 3, 1) := by decide +kernel
theorem dX8_isSilent_25 : decode cX8_isSilent 25 = .ok (.iload_n 1, 1) := by decide +kernel
theorem dX8_isSilent_26 : decode cX8_isSilent 26 = .ok (.iload_n 2, 1) := by decide +kernel
theorem dX8_isSilent_27 : decode cX8_isSilent 27 = .ok (.invokevirtual 111, 3) := by decide +kernel
theorem dX8_isSilent_30 : decode cX8_isSilent 30 = .ok (.iconst (-1), 1) := by decide +kernel
theorem dX8_isSilent_31 : decode cX8_isSilent 31 = .ok (.if_icmp .ne 6, 3) := by decide +kernel
theorem dX8_isSilent_34 : decode cX8_isSilent 34 = .ok (.goto 21, 3) := by decide +kernel
theorem dX8_isSilent_37 : decode cX8_isSilent 37 = .ok (.aload_n 0, 1) := by decide +kernel
theorem dX8_isSilent_38 : decode cX8_isSilent 38 = .ok (.iload_n 3, 1) := by decide +kernel
theorem dX8_isSilent_39 : decode cX8_isSilent 39 = .ok (.bipush 16, 2) := by decide +kernel
theorem dX8_isSilent_41 : decode cX8_isSilent 41 = .ok (.idiv, 1) := by decide +kernel
theorem dX8_isSilent_42 : decode cX8_isSilent 42 = .ok (.putfield 121, 3) := by decide +kernel
theorem dX8_isSilent_45 : decode cX8_isSilent 45 = .ok (.aload_n 0, 1) := by decide +kernel
theorem dX8_isSilent_46 : decode cX8_isSilent 46 = .ok (.iload_n 3, 1) := by decide +kernel
theorem dX8_isSilent_47 : decode cX8_isSilent 47 = .ok (.bipush 16, 2) := by decide +kernel
theorem dX8_isSilent_49 : decode cX8_isSilent 49 = .ok (.irem, 1) := by decide +kernel
theorem dX8_isSilent_50 : decode cX8_isSilent 50 = .ok (.putfield 124, 3) := by decide +kernel
theorem dX8_isSilent_53 : decode cX8_isSilent 53 = .ok (.iconst 0, 1) := by decide +kernel
theorem dX8_isSilent_54 : decode cX8_isSilent 54 = .ok (.ireturn, 1) := by decide +kernel
theorem dX8_isSilent_55 : decode cX8_isSilent 55 = .ok (.iinc 3 1, 3) := by decide +kernel
theorem dX8_isSilent_58 : decode cX8_isSilent 58 = .ok (.goto (-56), 3) := by decide +kernel
theorem dX8_isSilent_61 : decode cX8_isSilent 61 = .ok (.iconst 1, 1) := by decide +kernel
theorem dX8_isSilent_62 : decode cX8_isSilent 62 = .ok (.ireturn, 1) := by decide +kernel
theorem dX8_silent_0 : decode cX8_silent 0 = .ok (.aload_n 0, 1) := by decide +kernel
theorem dX8_silent_1 : decode cX8_silent 1 = .ok (.iconst 0, 1) := by decide +kernel
theorem dX8_silent_2 : decode cX8_silent 2 = .ok (.putfield 66, 3) := by decide +kernel
theorem dX8_silent_5 : decode cX8_silent 5 = .ok (.aload_n 0, 1) := by decide +kernel
theorem dX8_silent_6 : decode cX8_silent 6 = .ok (.invokevirtual 115, 3) := by decide +kernel
theorem dX8_silent_9 : decode cX8_silent 9 = .ok (.aload_n 0, 1) := by decide +kernel
theorem dX8_silent_10 : decode cX8_silent 10 = .ok (.aload_n 0, 1) := by decide +kernel
theorem dX8_silent_11 : decode cX8_silent 11 = .ok (.getfield 80, 3) := by decide +kernel
theorem dX8_silent_14 : decode cX8_silent 14 = .ok (.aload_n 0, 1) := by decide +kernel
theorem dX8_silent_15 : decode cX8_silent 15 = .ok (.getfield 19, 3) := by decide +kernel
theorem dX8_silent_18 : decode cX8_silent 18 = .ok (.invokevirtual 127, 3) := by decide +kernel
theorem dX8_silent_21 : decode cX8_silent 21 = .ok (.ireturn, 1) := by decide +kernel
theorem dX8_pair_0 : decode cX8_pair 0 = .ok (.aload_n 0, 1) := by decide +kernel
theorem dX8_pair_1 : decode cX8_pair 1 = .ok (.iconst 0, 1) := by decide +kernel
theorem dX8_pair_2 : decode cX8_pair 2 = .ok (.putfield 66, 3) := by decide +kernel
theorem dX8_pair_5 : decode cX8_pair 5 = .ok (.iload_n 1, 1) := by decide +kernel
theorem dX8_pair_6 : decode cX8_pair 6 = .ok (.ifCond .lt 8, 3) := by decide +kernel
theorem dX8_pair_9 : decode cX8_pair 9 = .ok (.iload_n 1, 1) := by decide +kernel
theorem dX8_pair_10 : decode cX8_pair 10 = .ok (.iconst 4, 1) := by decide +kernel
theorem dX8_pair_11 : decode cX8_pair 11 = .ok (.if_icmp .le 7, 3) := by decide +kernel
theorem dX8_pair_14 : decode cX8_pair 14 = .ok (.sipush (-1001), 3) := by decide +kernel
theorem dX8_pair_17 : decode cX8_pair 17 = .ok (.ireturn, 1) := by decide +kernel
theorem dX8_pair_18 : decode cX8_pair 18 = .ok (.aload_n 0, 1) := by decide +kernel
theorem dX8_pair_19 : decode cX8_pair 19 = .ok (.invokevirtual 115, 3) := by decide +kernel
theorem dX8_pair_22 : decode cX8_pair 22 = .ok (.aload_n 0, 1) := by decide +kernel
theorem dX8_pair_23 : decode cX8_pair 23 = .ok (.aload_n 0, 1) := by decide +kernel
theorem dX8_pair_24 : decode cX8_pair 24 = .ok (.getfield 80, 3) := by decide +kernel
theorem dX8_pair_27 : decode cX8_pair 27 = .ok (.aload_n 0, 1) := by decide +kernel
theorem dX8_pair_28 : decode cX8_pair 28 = .ok (.getfield 19, 3) := by decide +kernel
theorem dX8_pair_31 : decode cX8_pair 31 = .ok (.invokevirtual 127, 3) := by decide +kernel
theorem dX8_pair_34 : decode cX8_pair 34 = .ok (.ifCond .eq 7, 3) := by decide +kernel
theorem dX8_pair_37 : decode cX8_pair 37 = .ok (.sipush (-1001), 3) := by decide +kernel
theorem dX8_pair_40 : decode cX8_pair 40 = .ok (.ireturn, 1) := by decide +kernel
theorem dX8_pair_41 : decode cX8_pair 41 = .ok (.iload_n 1, 1) := by decide +kernel
theorem dX8_pair_42 : decode cX8_pair 42 = .ok (.ifCond .ne 8, 3) := by decide +kernel
theorem dX8_pair_45 : decode cX8_pair 45 = .ok (.aload_n 0, 1) := by decide +kernel
theorem dX8_pair_46 : decode cX8_pair 46 = .ok (.getfield 121, 3) := by decide +kernel
theorem dX8_pair_49 : decode cX8_pair 49 = .ok (.ireturn, 1) := by decide +kernel
theorem dX8_pair_50 : decode cX8_pair 50 = .ok (.iload_n 1, 1) := by decide +kernel
theorem dX8_pair_51 : decode cX8_pair 51 = .ok (.iconst 1, 1) := by decide +kernel
theorem dX8_pair_52 : decode cX8_pair 52 = .ok (.if_icmp .ne 8, 3) := by decide +kernel
theorem dX8_pair_55 : decode cX8_pair 55 = .ok (.aload_n 0, 1) := by decide +kernel
theorem dX8_pair_56 : decode cX8_pair 56 = .ok (.getfield 124, 3) := by decide +kernel
theorem dX8_pair_59 : decode cX8_pair 59 = .ok (.ireturn, 1) := by decide +kernel
theorem dX8_pair_60 : decode cX8_pair 60 = .ok (.aload_n 0, 1) := by decide +kernel
theorem dX8_pair_61 : decode cX8_pair 61 = .ok (.bipush 16, 2) := by decide +kernel
theorem dX8_pair_63 : decode cX8_pair 63 = .ok (.aload_n 0, 1) := by decide +kernel
theorem dX8_pair_64 : decode cX8_pair 64 = .ok (.getfield 121, 3) := by decide +kernel
theorem dX8_pair_67 : decode cX8_pair 67 = .ok (.imul, 1) := by decide +kernel
theorem dX8_pair_68 : decode cX8_pair 68 = .ok (.bipush 16, 2) := by decide +kernel
theorem dX8_pair_70 : decode cX8_pair 70 = .ok (.aload_n 0, 1) := by decide +kernel
theorem dX8_pair_71 : decode cX8_pair 71 = .ok (.getfield 121, 3) := by decide +kernel
theorem dX8_pair_74 : decode cX8_pair 74 = .ok (.imul, 1) := by decide +kernel
theorem dX8_pair_75 : decode cX8_pair 75 = .ok (.aload_n 0, 1) := by decide +kernel
theorem dX8_pair_76 : decode cX8_pair 76 = .ok (.getfield 124, 3) := by decide +kernel
theorem dX8_pair_79 : decode cX8_pair 79 = .ok (.iadd, 1) := by decide +kernel
theorem dX8_pair_80 : decode cX8_pair 80 = .ok (.aload_n 0, 1) := by decide +kernel
theorem dX8_pair_81 : decode cX8_pair 81 = .ok (.getfield 80, 3) := by decide +kernel
theorem dX8_pair_84 : decode cX8_pair 84 = .ok (.aload_n 0, 1) := by decide +kernel
theorem dX8_pair_85 : decode cX8_pair 85 = .ok (.getfield 19, 3) := by decide +kernel
theorem dX8_pair_88 : decode cX8_pair 88 = .ok (.invokevirtual 111, 3) := by decide +kernel
theorem dX8_pair_91 : decode cX8_pair 91 = .ok (.istore_n 2, 1) := by decide +kernel
theorem dX8_pair_92 : decode cX8_pair 92 = .ok (.iload_n 1, 1) := by decide +kernel
theorem dX8_pair_93 : decode cX8_pair 93 = .ok (.iconst 2, 1) := by decide +kernel
theorem dX8_pair_94 : decode cX8_pair 94 = .ok (.if_icmp .ne 5, 3) := by decide +kernel
theorem dX8_pair_97 : decode cX8_pair 97 = .ok (.iload_n 2, 1) := by decide +kernel
theorem dX8_pair_98 : decode cX8_pair 98 = .ok (.ireturn, 1) := by decide +kernel
theorem dX8_pair_99 : decode cX8_pair 99 = .ok (.iload_n 2, 1) := by decide +kernel
theorem dX8_pair_100 : decode cX8_pair 100 = .ok (.aload_n 0, 1) := by decide +kernel
theorem dX8_pair_101 : decode cX8_pair 101 = .ok (.getfield 51, 3) := by decide +kernel
theorem dX8_pair_104 : decode cX8_pair 104 = .ok (.iconst 0, 1) := by decide +kernel
theorem dX8_pair_105 : decode cX8_pair 105 = .ok (.iaload, 1) := by decide +kernel
theorem dX8_pair_106 : decode cX8_pair 106 = .ok (.if_icmp .ge 7, 3) := by decide +kernel
theorem dX8_pair_109 : decode cX8_pair 109 = .ok (.iload_n 2, 1) := by decide +kernel
theorem dX8_pair_110 : decode cX8_pair 110 = .ok (.goto 7, 3) := by decide +kernel
theorem dX8_pair_113 : decode cX8_pair 113 = .ok (.bipush 42, 2) := by decide +kernel
theorem dX8_pair_115 : decode cX8_pair 115 = .ok (.iload_n 2, 1) := by decide +kernel
