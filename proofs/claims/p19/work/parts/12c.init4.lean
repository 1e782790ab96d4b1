set_option maxHeartbeats 1000000 in
set_option maxRecDepth 100000 in
theorem c2_X7_init (l : Launch) (D : va_G) (t : Gx) (B : Nat) (g : Nat → va_E) (e0 : g 0 = .inr (7, [.null, .null, .null, .null, .null, .null, .null, .null, .int 0])) : Cv l D t B 1 220 219 5859 yX7_init cX7_init 1 3 53 g [.ref (B + 0)] (fun g' => Cst t B g' zz zz zz 0 15 1 0 ∧ X2P t B g' ∧ X0P t B g') := by
  refine Cv.start (by decide) (Nat.le_of_ble_eq_true rfl) ?_
  intro p e s m below meth c ls C hr hlocks hnm hS hl
  replace C : Cx D t p s m [.ref (B + 0)].toArray c cX7_init 1 RX7 := C
  replace hl : lv_has ls 1 [(0, .ref (B + 0))] := hl
  refine lv_aload_n C.x C.b dX7_init_0 rfl (lv_at hl 0 rfl) ?_
  refine r_objInit mlX7_3 im_objectInit co_objectInit C hl.1 dX7_init_1 (by decide) (by decide) ?_
  refine lv_aload_n C.x C.b dX7_init_4 rfl (lv_at hl 0 rfl) ?_
  refine r_new ck3 clX7_9 ins_X3 ini_X3 df3 C hS (by decide) (by decide) dX7_init_5 (fun g_1 H e_2 o_3 hS => ?_)
  replace e_2 : g_1 1 = .inr (3, [.null, .null, .null, .int 0]) := e_2
  replace hS : St D B s.heap 2 g_1 H _ := hS
  refine lv_dup C.x C.b dX7_init_8 rfl ?_
  refine r_callIN (b := 1) (As := []) (rest := [.ref (B + 1), .ref (B + 0)]) (c_X3_init l D t B g_1 1 e_2) mf_yX3_init (show (RX7, 11, yX3_init) ∈ nestL by decide) im_yX3_init rfl (by decide) C hS rfl hl.1 rfl (Nat.le_of_ble_eq_true rfl) dX7_init_9 (by decide) (fun g_4 H locs w_5 hS => ?_)
  replace hS : St D B s.heap 5 g_4 H _ := hS
  obtain ⟨⟨e_7, e_8, e_9, e_10⟩, o_6⟩ := w_5
  replace e_7 : g_4 1 = .inr (3, [.ref (B + 2), .ref (B + 3), .ref (B + 4), .int (nI 0)]) := e_7
  replace e_8 : g_4 2 = .inl (t.1, 8, .inl zz) := e_8
  replace e_9 : g_4 3 = .inl (t.1, 8, .inl zz) := e_9
  replace e_10 : g_4 4 = .inl (t.1, 8, .inl zz) := e_10
  have e_11 : g_1 0 = .inr (7, [.null, .null, .null, .null, .null, .null, .null, .null, .int 0]) := (o_3 _ (by omega)).trans e0
  have e_12 : g_4 0 = .inr (7, [.null, .null, .null, .null, .null, .null, .null, .null, .int 0]) := (o_6 _ (by omega)).trans e_11
  refine r_putF ck7 flX7_12 C hS (by omega) e_12 (by decide) rfl hnm rfl rfl rfl (Nat.le_of_ble_eq_true rfl) dX7_init_12 (fun g_13 H locs e_14 o_15 hS => ?_)
  replace e_14 : g_13 0 = .inr (7, [.ref (B + 1), .null, .null, .null, .null, .null, .null, .null, .int 0]) := e_14
  refine lv_aload_n C.x C.b dX7_init_15 rfl (lv_at hl 0 rfl) ?_
  refine r_new ck6 clX7_16 ins_X6 ini_X6 df6 C hS (by decide) (by decide) dX7_init_16 (fun g_16 H e_17 o_18 hS => ?_)
  replace e_17 : g_16 5 = .inr (6, [.int 0, .int 0, .int 0]) := e_17
  replace hS : St D B s.heap 6 g_16 H _ := hS
  refine lv_dup C.x C.b dX7_init_19 rfl ?_
  refine r_callIN (b := 5) (As := []) (rest := [.ref (B + 5), .ref (B + 0)]) (c_X6_init l D t B g_16 5 e_17) mf_yX6_init (show (RX7, 18, yX6_init) ∈ nestL by decide) im_yX6_init rfl (by decide) C hS rfl hl.1 rfl (Nat.le_of_ble_eq_true rfl) dX7_init_20 (by decide) (fun g_19 H locs w_20 hS => ?_)
  replace hS : St D B s.heap 6 g_19 H _ := hS
  obtain ⟨e_22, o_21⟩ := w_20
  replace e_22 : g_19 5 = .inr (6, [.int 15, .int 1, .int 0]) := e_22
  have e_23 : g_16 0 = .inr (7, [.ref (B + 1), .null, .null, .null, .null, .null, .null, .null, .int 0]) := (o_18 _ (by omega)).trans e_14
  have e_24 : g_19 0 = .inr (7, [.ref (B + 1), .null, .null, .null, .null, .null, .null, .null, .int 0]) := (o_21 _ (by omega)).trans e_23
  refine r_putF ck7 flX7_19 C hS (by omega) e_24 (by decide) rfl hnm rfl rfl rfl (Nat.le_of_ble_eq_true rfl) dX7_init_23 (fun g_25 H locs e_26 o_27 hS => ?_)
  replace e_26 : g_25 0 = .inr (7, [.ref (B + 1), .ref (B + 5), .null, .null, .null, .null, .null, .null, .int 0]) := e_26
  refine lv_aload_n C.x C.b dX7_init_26 rfl (lv_at hl 0 rfl) ?_
  refine r_new ck1 clX7_23 ins_X1 ini_X1 df1 C hS (by decide) (by decide) dX7_init_27 (fun g_28 H e_29 o_30 hS => ?_)
  replace e_29 : g_28 6 = .inr (1, [.null, .null, .int 0]) := e_29
  replace hS : St D B s.heap 7 g_28 H _ := hS
  refine lv_dup C.x C.b dX7_init_30 rfl ?_
  refine r_callIN (b := 6) (As := []) (rest := [.ref (B + 6), .ref (B + 0)]) (c_X1_init l D t B g_28 6 e_29) mf_yX1_init (show (RX7, 25, yX1_init) ∈ nestL by decide) im_yX1_init rfl (by decide) C hS rfl hl.1 rfl (Nat.le_of_ble_eq_true rfl) dX7_init_31 (by decide) (fun g_31 H locs w_32 hS => ?_)
  replace hS : St D B s.heap 9 g_31 H _ := hS
  obtain ⟨⟨e_34, e_35, e_36⟩, o_33⟩ := w_32
  replace e_34 : g_31 6 = .inr (1, [.ref (B + 7), .ref (B + 8), .int 0]) := e_34
  replace e_35 : g_31 7 = .inl (t.1, 4, .inl zz) := e_35
  replace e_36 : g_31 8 = .inl (t.1, 8, .inl zz) := e_36
  have e_37 : g_28 0 = .inr (7, [.ref (B + 1), .ref (B + 5), .null, .null, .null, .null, .null, .null, .int 0]) := (o_30 _ (by omega)).trans e_26
  have e_38 : g_31 0 = .inr (7, [.ref (B + 1), .ref (B + 5), .null, .null, .null, .null, .null, .null, .int 0]) := (o_33 _ (by omega)).trans e_37
  refine r_putF ck7 flX7_26 C hS (by omega) e_38 (by decide) rfl hnm rfl rfl rfl (Nat.le_of_ble_eq_true rfl) dX7_init_34 (fun g_39 H locs e_40 o_41 hS => ?_)
  replace e_40 : g_39 0 = .inr (7, [.ref (B + 1), .ref (B + 5), .ref (B + 6), .null, .null, .null, .null, .null, .int 0]) := e_40
  refine lv_aload_n C.x C.b dX7_init_37 rfl (lv_at hl 0 rfl) ?_
  refine r_new ck5 clX7_30 ins_X5 ini_X5 df5 C hS (by decide) (by decide) dX7_init_38 (fun g_42 H e_43 o_44 hS => ?_)
  replace e_43 : g_42 9 = .inr (5, [.null, .null, .null, .null, .null, .int 0, .int 0, .int 0, .int 0, .int 0]) := e_43
  replace hS : St D B s.heap 10 g_42 H _ := hS
  refine lv_dup C.x C.b dX7_init_41 rfl ?_
  refine r_callIN (b := 9) (As := []) (rest := [.ref (B + 9), .ref (B + 0)]) (c_X5_init l D t B g_42 9 e_43) mf_yX5_init (show (RX7, 32, yX5_init) ∈ nestL by decide) im_yX5_init rfl (by decide) C hS rfl hl.1 rfl (Nat.le_of_ble_eq_true rfl) dX7_init_42 (by decide) (fun g_45 H locs w_46 hS => ?_)
  replace hS : St D B s.heap 15 g_45 H _ := hS
  obtain ⟨⟨e_48, e_49, e_50, e_51, e_52, e_53⟩, o_47⟩ := w_46
  replace e_48 : g_45 9 = .inr (5, [.ref (B + 10), .ref (B + 11), .ref (B + 12), .ref (B + 13), .ref (B + 14), .int (nI 0), .int 0, .int 0, .int 0, .int 0]) := e_48
  replace e_49 : g_45 10 = .inl (t.1, 40, .inl zz) := e_49
  replace e_50 : g_45 11 = .inl (t.1, 40, .inl zz) := e_50
  replace e_51 : g_45 12 = .inl (t.1, 40, .inl zz) := e_51
  replace e_52 : g_45 13 = .inl (t.1, 8, .inl zz) := e_52
  replace e_53 : g_45 14 = .inl (t.1, 8, .inl zz) := e_53
  have e_54 : g_42 0 = .inr (7, [.ref (B + 1), .ref (B + 5), .ref (B + 6), .null, .null, .null, .null, .null, .int 0]) := (o_44 _ (by omega)).trans e_40
  have e_55 : g_45 0 = .inr (7, [.ref (B + 1), .ref (B + 5), .ref (B + 6), .null, .null, .null, .null, .null, .int 0]) := (o_47 _ (by omega)).trans e_54
  refine r_putF ck7 flX7_33 C hS (by omega) e_55 (by decide) rfl hnm rfl rfl rfl (Nat.le_of_ble_eq_true rfl) dX7_init_45 (fun g_56 H locs e_57 o_58 hS => ?_)
  replace e_57 : g_56 0 = .inr (7, [.ref (B + 1), .ref (B + 5), .ref (B + 6), .ref (B + 9), .null, .null, .null, .null, .int 0]) := e_57
  refine lv_aload_n C.x C.b dX7_init_48 rfl (lv_at hl 0 rfl) ?_
  refine r_new ck4 clX7_37 ins_X4 ini_X4 df4 C hS (by decide) (by decide) dX7_init_49 (fun g_59 H e_60 o_61 hS => ?_)
  replace e_60 : g_59 15 = .inr (4, [.null, .null, .null, .int 0]) := e_60
  replace hS : St D B s.heap 16 g_59 H _ := hS
  refine lv_dup C.x C.b dX7_init_52 rfl ?_
  refine r_callIN (b := 15) (As := []) (rest := [.ref (B + 15), .ref (B + 0)]) (c_X4_init l D t B g_59 15 e_60) mf_yX4_init (show (RX7, 39, yX4_init) ∈ nestL by decide) im_yX4_init rfl (by decide) C hS rfl hl.1 rfl (Nat.le_of_ble_eq_true rfl) dX7_init_53 (by decide) (fun g_62 H locs w_63 hS => ?_)
  replace hS : St D B s.heap 19 g_62 H _ := hS
  obtain ⟨⟨e_65, e_66, e_67, e_68⟩, o_64⟩ := w_63
  replace e_65 : g_62 15 = .inr (4, [.ref (B + 16), .ref (B + 17), .ref (B + 18), .int (nI 0)]) := e_65
  replace e_66 : g_62 16 = .inl (t.1, 42, .inl zz) := e_66
  replace e_67 : g_62 17 = .inl (t.1, 42, .inl zz) := e_67
  replace e_68 : g_62 18 = .inl (t.1, 42, .inl zz) := e_68
  have e_69 : g_59 0 = .inr (7, [.ref (B + 1), .ref (B + 5), .ref (B + 6), .ref (B + 9), .null, .null, .null, .null, .int 0]) := (o_61 _ (by omega)).trans e_57
  have e_70 : g_62 0 = .inr (7, [.ref (B + 1), .ref (B + 5), .ref (B + 6), .ref (B + 9), .null, .null, .null, .null, .int 0]) := (o_64 _ (by omega)).trans e_69
  refine r_putF ck7 flX7_40 C hS (by omega) e_70 (by decide) rfl hnm rfl rfl rfl (Nat.le_of_ble_eq_true rfl) dX7_init_56 (fun g_71 H locs e_72 o_73 hS => ?_)
  replace e_72 : g_71 0 = .inr (7, [.ref (B + 1), .ref (B + 5), .ref (B + 6), .ref (B + 9), .ref (B + 15), .null, .null, .null, .int 0]) := e_72
  refine lv_aload_n C.x C.b dX7_init_59 rfl (lv_at hl 0 rfl) ?_
  refine r_new ck4 clX7_37 ins_X4 ini_X4 df4 C hS (by decide) (by decide) dX7_init_60 (fun g_74 H e_75 o_76 hS => ?_)
  replace e_75 : g_74 19 = .inr (4, [.null, .null, .null, .int 0]) := e_75
  replace hS : St D B s.heap 20 g_74 H _ := hS
  refine lv_dup C.x C.b dX7_init_63 rfl ?_
  refine r_callIN (b := 19) (As := []) (rest := [.ref (B + 19), .ref (B + 0)]) (c_X4_init l D t B g_74 19 e_75) mf_yX4_init (show (RX7, 39, yX4_init) ∈ nestL by decide) im_yX4_init rfl (by decide) C hS rfl hl.1 rfl (Nat.le_of_ble_eq_true rfl) dX7_init_64 (by decide) (fun g_77 H locs w_78 hS => ?_)
  replace hS : St D B s.heap 23 g_77 H _ := hS
  obtain ⟨⟨e_80, e_81, e_82, e_83⟩, o_79⟩ := w_78
  replace e_80 : g_77 19 = .inr (4, [.ref (B + 20), .ref (B + 21), .ref (B + 22), .int (nI 0)]) := e_80
  replace e_81 : g_77 20 = .inl (t.1, 42, .inl zz) := e_81
  replace e_82 : g_77 21 = .inl (t.1, 42, .inl zz) := e_82
  replace e_83 : g_77 22 = .inl (t.1, 42, .inl zz) := e_83
  have e_84 : g_74 0 = .inr (7, [.ref (B + 1), .ref (B + 5), .ref (B + 6), .ref (B + 9), .ref (B + 15), .null, .null, .null, .int 0]) := (o_76 _ (by omega)).trans e_72
  have e_85 : g_77 0 = .inr (7, [.ref (B + 1), .ref (B + 5), .ref (B + 6), .ref (B + 9), .ref (B + 15), .null, .null, .null, .int 0]) := (o_79 _ (by omega)).trans e_84
  refine r_putF ck7 flX7_44 C hS (by omega) e_85 (by decide) rfl hnm rfl rfl rfl (Nat.le_of_ble_eq_true rfl) dX7_init_67 (fun g_86 H locs e_87 o_88 hS => ?_)
  replace e_87 : g_86 0 = .inr (7, [.ref (B + 1), .ref (B + 5), .ref (B + 6), .ref (B + 9), .ref (B + 15), .ref (B + 19), .null, .null, .int 0]) := e_87
  refine lv_aload_n C.x C.b dX7_init_70 rfl (lv_at hl 0 rfl) ?_
  refine r_new ck2 clX7_47 ins_X2 ini_X2 df2 C hS (by decide) (by decide) dX7_init_71 (fun g_89 H e_90 o_91 hS => ?_)
  replace e_90 : g_89 23 = .inr (2, [.null, .null, .null, .null]) := e_90
  replace hS : St D B s.heap 24 g_89 H _ := hS
  refine lv_dup C.x C.b dX7_init_74 rfl ?_
  refine r_callI (b := 23) (As := []) (rest := [.ref (B + 23), .ref (B + 0)]) (c_X2_init l D t B g_89 e_90) mf_yX2_init mlX7_49 im_yX2_init rfl (by decide) C hS rfl hl.1 rfl (Nat.le_of_ble_eq_true rfl) dX7_init_75 (by decide) (fun g_92 H locs w_93 hS => ?_)
  replace hS : St D B s.heap 113 g_92 H _ := hS
  obtain ⟨X2p, o_94⟩ := w_93
  have e_95 : g_89 0 = .inr (7, [.ref (B + 1), .ref (B + 5), .ref (B + 6), .ref (B + 9), .ref (B + 15), .ref (B + 19), .null, .null, .int 0]) := (o_91 _ (by omega)).trans e_87
  have e_96 : g_92 0 = .inr (7, [.ref (B + 1), .ref (B + 5), .ref (B + 6), .ref (B + 9), .ref (B + 15), .ref (B + 19), .null, .null, .int 0]) := (o_94 _ (by omega)).trans e_95
  refine r_putF ck7 flX7_50 C hS (by omega) e_96 (by decide) rfl hnm rfl rfl rfl (Nat.le_of_ble_eq_true rfl) dX7_init_78 (fun g_97 H locs e_98 o_99 hS => ?_)
  replace e_98 : g_97 0 = .inr (7, [.ref (B + 1), .ref (B + 5), .ref (B + 6), .ref (B + 9), .ref (B + 15), .ref (B + 19), .ref (B + 23), .null, .int 0]) := e_98
  refine lv_aload_n C.x C.b dX7_init_81 rfl (lv_at hl 0 rfl) ?_
  refine r_new ck0 clX7_54 ins_X0 ini_X0 df0 C hS (by decide) (by decide) dX7_init_82 (fun g_100 H e_101 o_102 hS => ?_)
  replace e_101 : g_100 113 = .inr (0, [.null, .null, .null, .null, .int 0]) := e_101
  replace hS : St D B s.heap 114 g_100 H _ := hS
  refine lv_dup C.x C.b dX7_init_85 rfl ?_
  refine r_callI (b := 113) (As := []) (rest := [.ref (B + 113), .ref (B + 0)]) (c_X0_init l D t B g_100 e_101) mf_yX0_init mlX7_56 im_yX0_init rfl (by decide) C hS rfl hl.1 rfl (Nat.le_of_ble_eq_true rfl) dX7_init_86 (by decide) (fun g_103 H locs w_104 hS => ?_)
  replace hS : St D B s.heap 220 g_103 H _ := hS
  obtain ⟨X0p, o_105⟩ := w_104
  have e_106 : g_100 0 = .inr (7, [.ref (B + 1), .ref (B + 5), .ref (B + 6), .ref (B + 9), .ref (B + 15), .ref (B + 19), .ref (B + 23), .null, .int 0]) := (o_102 _ (by omega)).trans e_98
  have e_107 : g_103 0 = .inr (7, [.ref (B + 1), .ref (B + 5), .ref (B + 6), .ref (B + 9), .ref (B + 15), .ref (B + 19), .ref (B + 23), .null, .int 0]) := (o_105 _ (by omega)).trans e_106
  refine r_putF ck7 flX7_57 C hS (by omega) e_107 (by decide) rfl hnm rfl rfl rfl (Nat.le_of_ble_eq_true rfl) dX7_init_89 (fun g_108 H locs e_109 o_110 hS => ?_)
  replace e_109 : g_108 0 = .inr (7, [.ref (B + 1), .ref (B + 5), .ref (B + 6), .ref (B + 9), .ref (B + 15), .ref (B + 19), .ref (B + 23), .ref (B + 113), .int 0]) := e_109
  refine lv_aload_n C.x C.b dX7_init_92 rfl (lv_at hl 0 rfl) ?_
  refine lv_iconst (v := (-1)) C.x C.b dX7_init_93 (by decide) ?_
  refine r_put ck7 flX7_61 C hS (by omega) e_109 (by decide) rfl rfl rfl (Nat.le_of_ble_eq_true rfl) dX7_init_94 (fun g_111 H locs e_112 o_113 hS => ?_)
  replace e_112 : g_111 0 = .inr (7, [.ref (B + 1), .ref (B + 5), .ref (B + 6), .ref (B + 9), .ref (B + 15), .ref (B + 19), .ref (B + 23), .ref (B + 113), .int (-1)]) := e_112
  have e_114 : g_13 1 = .inr (3, [.ref (B + 2), .ref (B + 3), .ref (B + 4), .int (nI 0)]) := (o_15 _ (by omega)).trans e_7
  have e_115 : g_16 1 = .inr (3, [.ref (B + 2), .ref (B + 3), .ref (B + 4), .int (nI 0)]) := (o_18 _ (by omega)).trans e_114
  have e_116 : g_19 1 = .inr (3, [.ref (B + 2), .ref (B + 3), .ref (B + 4), .int (nI 0)]) := (o_21 _ (by omega)).trans e_115
  have e_117 : g_25 1 = .inr (3, [.ref (B + 2), .ref (B + 3), .ref (B + 4), .int (nI 0)]) := (o_27 _ (by omega)).trans e_116
  have e_118 : g_28 1 = .inr (3, [.ref (B + 2), .ref (B + 3), .ref (B + 4), .int (nI 0)]) := (o_30 _ (by omega)).trans e_117
  have e_119 : g_31 1 = .inr (3, [.ref (B + 2), .ref (B + 3), .ref (B + 4), .int (nI 0)]) := (o_33 _ (by omega)).trans e_118
  have e_120 : g_39 1 = .inr (3, [.ref (B + 2), .ref (B + 3), .ref (B + 4), .int (nI 0)]) := (o_41 _ (by omega)).trans e_119
  have e_121 : g_42 1 = .inr (3, [.ref (B + 2), .ref (B + 3), .ref (B + 4), .int (nI 0)]) := (o_44 _ (by omega)).trans e_120
  have e_122 : g_45 1 = .inr (3, [.ref (B + 2), .ref (B + 3), .ref (B + 4), .int (nI 0)]) := (o_47 _ (by omega)).trans e_121
  have e_123 : g_56 1 = .inr (3, [.ref (B + 2), .ref (B + 3), .ref (B + 4), .int (nI 0)]) := (o_58 _ (by omega)).trans e_122
  have e_124 : g_59 1 = .inr (3, [.ref (B + 2), .ref (B + 3), .ref (B + 4), .int (nI 0)]) := (o_61 _ (by omega)).trans e_123
  have e_125 : g_62 1 = .inr (3, [.ref (B + 2), .ref (B + 3), .ref (B + 4), .int (nI 0)]) := (o_64 _ (by omega)).trans e_124
  have e_126 : g_71 1 = .inr (3, [.ref (B + 2), .ref (B + 3), .ref (B + 4), .int (nI 0)]) := (o_73 _ (by omega)).trans e_125
  have e_127 : g_74 1 = .inr (3, [.ref (B + 2), .ref (B + 3), .ref (B + 4), .int (nI 0)]) := (o_76 _ (by omega)).trans e_126
  have e_128 : g_77 1 = .inr (3, [.ref (B + 2), .ref (B + 3), .ref (B + 4), .int (nI 0)]) := (o_79 _ (by omega)).trans e_127
  have e_129 : g_86 1 = .inr (3, [.ref (B + 2), .ref (B + 3), .ref (B + 4), .int (nI 0)]) := (o_88 _ (by omega)).trans e_128
  have e_130 : g_89 1 = .inr (3, [.ref (B + 2), .ref (B + 3), .ref (B + 4), .int (nI 0)]) := (o_91 _ (by omega)).trans e_129
  have e_131 : g_92 1 = .inr (3, [.ref (B + 2), .ref (B + 3), .ref (B + 4), .int (nI 0)]) := (o_94 _ (by omega)).trans e_130
  have e_132 : g_97 1 = .inr (3, [.ref (B + 2), .ref (B + 3), .ref (B + 4), .int (nI 0)]) := (o_99 _ (by omega)).trans e_131
  have e_133 : g_100 1 = .inr (3, [.ref (B + 2), .ref (B + 3), .ref (B + 4), .int (nI 0)]) := (o_102 _ (by omega)).trans e_132
  have e_134 : g_103 1 = .inr (3, [.ref (B + 2), .ref (B + 3), .ref (B + 4), .int (nI 0)]) := (o_105 _ (by omega)).trans e_133
  have e_135 : g_108 1 = .inr (3, [.ref (B + 2), .ref (B + 3), .ref (B + 4), .int (nI 0)]) := (o_110 _ (by omega)).trans e_134
  have e_136 : g_111 1 = .inr (3, [.ref (B + 2), .ref (B + 3), .ref (B + 4), .int (nI 0)]) := (o_113 _ (by omega)).trans e_135
  have e_137 : g_13 2 = .inl (t.1, 8, .inl zz) := (o_15 _ (by omega)).trans e_8
  have e_138 : g_16 2 = .inl (t.1, 8, .inl zz) := (o_18 _ (by omega)).trans e_137
  have e_139 : g_19 2 = .inl (t.1, 8, .inl zz) := (o_21 _ (by omega)).trans e_138
  have e_140 : g_25 2 = .inl (t.1, 8, .inl zz) := (o_27 _ (by omega)).trans e_139
  have e_141 : g_28 2 = .inl (t.1, 8, .inl zz) := (o_30 _ (by omega)).trans e_140
  have e_142 : g_31 2 = .inl (t.1, 8, .inl zz) := (o_33 _ (by omega)).trans e_141
  have e_143 : g_39 2 = .inl (t.1, 8, .inl zz) := (o_41 _ (by omega)).trans e_142
  have e_144 : g_42 2 = .inl (t.1, 8, .inl zz) := (o_44 _ (by omega)).trans e_143
  have e_145 : g_45 2 = .inl (t.1, 8, .inl zz) := (o_47 _ (by omega)).trans e_144
  have e_146 : g_56 2 = .inl (t.1, 8, .inl zz) := (o_58 _ (by omega)).trans e_145
  have e_147 : g_59 2 = .inl (t.1, 8, .inl zz) := (o_61 _ (by omega)).trans e_146
  have e_148 : g_62 2 = .inl (t.1, 8, .inl zz) := (o_64 _ (by omega)).trans e_147
  have e_149 : g_71 2 = .inl (t.1, 8, .inl zz) := (o_73 _ (by omega)).trans e_148
  have e_150 : g_74 2 = .inl (t.1, 8, .inl zz) := (o_76 _ (by omega)).trans e_149
  have e_151 : g_77 2 = .inl (t.1, 8, .inl zz) := (o_79 _ (by omega)).trans e_150
  have e_152 : g_86 2 = .inl (t.1, 8, .inl zz) := (o_88 _ (by omega)).trans e_151
  have e_153 : g_89 2 = .inl (t.1, 8, .inl zz) := (o_91 _ (by omega)).trans e_152
  have e_154 : g_92 2 = .inl (t.1, 8, .inl zz) := (o_94 _ (by omega)).trans e_153
  have e_155 : g_97 2 = .inl (t.1, 8, .inl zz) := (o_99 _ (by omega)).trans e_154
  have e_156 : g_100 2 = .inl (t.1, 8, .inl zz) := (o_102 _ (by omega)).trans e_155
  have e_157 : g_103 2 = .inl (t.1, 8, .inl zz) := (o_105 _ (by omega)).trans e_156
  have e_158 : g_108 2 = .inl (t.1, 8, .inl zz) := (o_110 _ (by omega)).trans e_157
  have e_159 : g_111 2 = .inl (t.1, 8, .inl zz) := (o_113 _ (by omega)).trans e_158
  have e_160 : g_13 3 = .inl (t.1, 8, .inl zz) := (o_15 _ (by omega)).trans e_9
  have e_161 : g_16 3 = .inl (t.1, 8, .inl zz) := (o_18 _ (by omega)).trans e_160
  have e_162 : g_19 3 = .inl (t.1, 8, .inl zz) := (o_21 _ (by omega)).trans e_161
  have e_163 : g_25 3 = .inl (t.1, 8, .inl zz) := (o_27 _ (by omega)).trans e_162
  have e_164 : g_28 3 = .inl (t.1, 8, .inl zz) := (o_30 _ (by omega)).trans e_163
  have e_165 : g_31 3 = .inl (t.1, 8, .inl zz) := (o_33 _ (by omega)).trans e_164
  have e_166 : g_39 3 = .inl (t.1, 8, .inl zz) := (o_41 _ (by omega)).trans e_165
  have e_167 : g_42 3 = .inl (t.1, 8, .inl zz) := (o_44 _ (by omega)).trans e_166
  have e_168 : g_45 3 = .inl (t.1, 8, .inl zz) := (o_47 _ (by omega)).trans e_167
  have e_169 : g_56 3 = .inl (t.1, 8, .inl zz) := (o_58 _ (by omega)).trans e_168
  have e_170 : g_59 3 = .inl (t.1, 8, .inl zz) := (o_61 _ (by omega)).trans e_169
  have e_171 : g_62 3 = .inl (t.1, 8, .inl zz) := (o_64 _ (by omega)).trans e_170
  have e_172 : g_71 3 = .inl (t.1, 8, .inl zz) := (o_73 _ (by omega)).trans e_171
  have e_173 : g_74 3 = .inl (t.1, 8, .inl zz) := (o_76 _ (by omega)).trans e_172
  have e_174 : g_77 3 = .inl (t.1, 8, .inl zz) := (o_79 _ (by omega)).trans e_173
  have e_175 : g_86 3 = .inl (t.1, 8, .inl zz) := (o_88 _ (by omega)).trans e_174
  have e_176 : g_89 3 = .inl (t.1, 8, .inl zz) := (o_91 _ (by omega)).trans e_175
  have e_177 : g_92 3 = .inl (t.1, 8, .inl zz) := (o_94 _ (by omega)).trans e_176
  have e_178 : g_97 3 = .inl (t.1, 8, .inl zz) := (o_99 _ (by omega)).trans e_177
  have e_179 : g_100 3 = .inl (t.1, 8, .inl zz) := (o_102 _ (by omega)).trans e_178
  have e_180 : g_103 3 = .inl (t.1, 8, .inl zz) := (o_105 _ (by omega)).trans e_179
  have e_181 : g_108 3 = .inl (t.1, 8, .inl zz) := (o_110 _ (by omega)).trans e_180
  have e_182 : g_111 3 = .inl (t.1, 8, .inl zz) := (o_113 _ (by omega)).trans e_181
  have e_183 : g_13 4 = .inl (t.1, 8, .inl zz) := (o_15 _ (by omega)).trans e_10
  have e_184 : g_16 4 = .inl (t.1, 8, .inl zz) := (o_18 _ (by omega)).trans e_183
  have e_185 : g_19 4 = .inl (t.1, 8, .inl zz) := (o_21 _ (by omega)).trans e_184
  have e_186 : g_25 4 = .inl (t.1, 8, .inl zz) := (o_27 _ (by omega)).trans e_185
  have e_187 : g_28 4 = .inl (t.1, 8, .inl zz) := (o_30 _ (by omega)).trans e_186
  have e_188 : g_31 4 = .inl (t.1, 8, .inl zz) := (o_33 _ (by omega)).trans e_187
  have e_189 : g_39 4 = .inl (t.1, 8, .inl zz) := (o_41 _ (by omega)).trans e_188
  have e_190 : g_42 4 = .inl (t.1, 8, .inl zz) := (o_44 _ (by omega)).trans e_189
  have e_191 : g_45 4 = .inl (t.1, 8, .inl zz) := (o_47 _ (by omega)).trans e_190
  have e_192 : g_56 4 = .inl (t.1, 8, .inl zz) := (o_58 _ (by omega)).trans e_191
  have e_193 : g_59 4 = .inl (t.1, 8, .inl zz) := (o_61 _ (by omega)).trans e_192
  have e_194 : g_62 4 = .inl (t.1, 8, .inl zz) := (o_64 _ (by omega)).trans e_193
  have e_195 : g_71 4 = .inl (t.1, 8, .inl zz) := (o_73 _ (by omega)).trans e_194
  have e_196 : g_74 4 = .inl (t.1, 8, .inl zz) := (o_76 _ (by omega)).trans e_195
  have e_197 : g_77 4 = .inl (t.1, 8, .inl zz) := (o_79 _ (by omega)).trans e_196
  have e_198 : g_86 4 = .inl (t.1, 8, .inl zz) := (o_88 _ (by omega)).trans e_197
  have e_199 : g_89 4 = .inl (t.1, 8, .inl zz) := (o_91 _ (by omega)).trans e_198
  have e_200 : g_92 4 = .inl (t.1, 8, .inl zz) := (o_94 _ (by omega)).trans e_199
  have e_201 : g_97 4 = .inl (t.1, 8, .inl zz) := (o_99 _ (by omega)).trans e_200
  have e_202 : g_100 4 = .inl (t.1, 8, .inl zz) := (o_102 _ (by omega)).trans e_201
  have e_203 : g_103 4 = .inl (t.1, 8, .inl zz) := (o_105 _ (by omega)).trans e_202
  have e_204 : g_108 4 = .inl (t.1, 8, .inl zz) := (o_110 _ (by omega)).trans e_203
  have e_205 : g_111 4 = .inl (t.1, 8, .inl zz) := (o_113 _ (by omega)).trans e_204
  have e_206 : g_25 5 = .inr (6, [.int 15, .int 1, .int 0]) := (o_27 _ (by omega)).trans e_22
  have e_207 : g_28 5 = .inr (6, [.int 15, .int 1, .int 0]) := (o_30 _ (by omega)).trans e_206
  have e_208 : g_31 5 = .inr (6, [.int 15, .int 1, .int 0]) := (o_33 _ (by omega)).trans e_207
  have e_209 : g_39 5 = .inr (6, [.int 15, .int 1, .int 0]) := (o_41 _ (by omega)).trans e_208
  have e_210 : g_42 5 = .inr (6, [.int 15, .int 1, .int 0]) := (o_44 _ (by omega)).trans e_209
  have e_211 : g_45 5 = .inr (6, [.int 15, .int 1, .int 0]) := (o_47 _ (by omega)).trans e_210
  have e_212 : g_56 5 = .inr (6, [.int 15, .int 1, .int 0]) := (o_58 _ (by omega)).trans e_211
  have e_213 : g_59 5 = .inr (6, [.int 15, .int 1, .int 0]) := (o_61 _ (by omega)).trans e_212
  have e_214 : g_62 5 = .inr (6, [.int 15, .int 1, .int 0]) := (o_64 _ (by omega)).trans e_213
  have e_215 : g_71 5 = .inr (6, [.int 15, .int 1, .int 0]) := (o_73 _ (by omega)).trans e_214
  have e_216 : g_74 5 = .inr (6, [.int 15, .int 1, .int 0]) := (o_76 _ (by omega)).trans e_215
  have e_217 : g_77 5 = .inr (6, [.int 15, .int 1, .int 0]) := (o_79 _ (by omega)).trans e_216
  have e_218 : g_86 5 = .inr (6, [.int 15, .int 1, .int 0]) := (o_88 _ (by omega)).trans e_217
  have e_219 : g_89 5 = .inr (6, [.int 15, .int 1, .int 0]) := (o_91 _ (by omega)).trans e_218
  have e_220 : g_92 5 = .inr (6, [.int 15, .int 1, .int 0]) := (o_94 _ (by omega)).trans e_219
  have e_221 : g_97 5 = .inr (6, [.int 15, .int 1, .int 0]) := (o_99 _ (by omega)).trans e_220
  have e_222 : g_100 5 = .inr (6, [.int 15, .int 1, .int 0]) := (o_102 _ (by omega)).trans e_221
  have e_223 : g_103 5 = .inr (6, [.int 15, .int 1, .int 0]) := (o_105 _ (by omega)).trans e_222
  have e_224 : g_108 5 = .inr (6, [.int 15, .int 1, .int 0]) := (o_110 _ (by omega)).trans e_223
  have e_225 : g_111 5 = .inr (6, [.int 15, .int 1, .int 0]) := (o_113 _ (by omega)).trans e_224
  have e_226 : g_39 6 = .inr (1, [.ref (B + 7), .ref (B + 8), .int 0]) := (o_41 _ (by omega)).trans e_34
  have e_227 : g_42 6 = .inr (1, [.ref (B + 7), .ref (B + 8), .int 0]) := (o_44 _ (by omega)).trans e_226
  have e_228 : g_45 6 = .inr (1, [.ref (B + 7), .ref (B + 8), .int 0]) := (o_47 _ (by omega)).trans e_227
  have e_229 : g_56 6 = .inr (1, [.ref (B + 7), .ref (B + 8), .int 0]) := (o_58 _ (by omega)).trans e_228
  have e_230 : g_59 6 = .inr (1, [.ref (B + 7), .ref (B + 8), .int 0]) := (o_61 _ (by omega)).trans e_229
  have e_231 : g_62 6 = .inr (1, [.ref (B + 7), .ref (B + 8), .int 0]) := (o_64 _ (by omega)).trans e_230
  have e_232 : g_71 6 = .inr (1, [.ref (B + 7), .ref (B + 8), .int 0]) := (o_73 _ (by omega)).trans e_231
  have e_233 : g_74 6 = .inr (1, [.ref (B + 7), .ref (B + 8), .int 0]) := (o_76 _ (by omega)).trans e_232
  have e_234 : g_77 6 = .inr (1, [.ref (B + 7), .ref (B + 8), .int 0]) := (o_79 _ (by omega)).trans e_233
  have e_235 : g_86 6 = .inr (1, [.ref (B + 7), .ref (B + 8), .int 0]) := (o_88 _ (by omega)).trans e_234
  have e_236 : g_89 6 = .inr (1, [.ref (B + 7), .ref (B + 8), .int 0]) := (o_91 _ (by omega)).trans e_235
  have e_237 : g_92 6 = .inr (1, [.ref (B + 7), .ref (B + 8), .int 0]) := (o_94 _ (by omega)).trans e_236
  have e_238 : g_97 6 = .inr (1, [.ref (B + 7), .ref (B + 8), .int 0]) := (o_99 _ (by omega)).trans e_237
  have e_239 : g_100 6 = .inr (1, [.ref (B + 7), .ref (B + 8), .int 0]) := (o_102 _ (by omega)).trans e_238
  have e_240 : g_103 6 = .inr (1, [.ref (B + 7), .ref (B + 8), .int 0]) := (o_105 _ (by omega)).trans e_239
  have e_241 : g_108 6 = .inr (1, [.ref (B + 7), .ref (B + 8), .int 0]) := (o_110 _ (by omega)).trans e_240
  have e_242 : g_111 6 = .inr (1, [.ref (B + 7), .ref (B + 8), .int 0]) := (o_113 _ (by omega)).trans e_241
  have e_243 : g_39 7 = .inl (t.1, 4, .inl zz) := (o_41 _ (by omega)).trans e_35
  have e_244 : g_42 7 = .inl (t.1, 4, .inl zz) := (o_44 _ (by omega)).trans e_243
  have e_245 : g_45 7 = .inl (t.1, 4, .inl zz) := (o_47 _ (by omega)).trans e_244
  have e_246 : g_56 7 = .inl (t.1, 4, .inl zz) := (o_58 _ (by omega)).trans e_245
  have e_247 : g_59 7 = .inl (t.1, 4, .inl zz) := (o_61 _ (by omega)).trans e_246
  have e_248 : g_62 7 = .inl (t.1, 4, .inl zz) := (o_64 _ (by omega)).trans e_247
  have e_249 : g_71 7 = .inl (t.1, 4, .inl zz) := (o_73 _ (by omega)).trans e_248
  have e_250 : g_74 7 = .inl (t.1, 4, .inl zz) := (o_76 _ (by omega)).trans e_249
  have e_251 : g_77 7 = .inl (t.1, 4, .inl zz) := (o_79 _ (by omega)).trans e_250
  have e_252 : g_86 7 = .inl (t.1, 4, .inl zz) := (o_88 _ (by omega)).trans e_251
  have e_253 : g_89 7 = .inl (t.1, 4, .inl zz) := (o_91 _ (by omega)).trans e_252
  have e_254 : g_92 7 = .inl (t.1, 4, .inl zz) := (o_94 _ (by omega)).trans e_253
  have e_255 : g_97 7 = .inl (t.1, 4, .inl zz) := (o_99 _ (by omega)).trans e_254
  have e_256 : g_100 7 = .inl (t.1, 4, .inl zz) := (o_102 _ (by omega)).trans e_255
  have e_257 : g_103 7 = .inl (t.1, 4, .inl zz) := (o_105 _ (by omega)).trans e_256
  have e_258 : g_108 7 = .inl (t.1, 4, .inl zz) := (o_110 _ (by omega)).trans e_257
  have e_259 : g_111 7 = .inl (t.1, 4, .inl zz) := (o_113 _ (by omega)).trans e_258
  have e_260 : g_39 8 = .inl (t.1, 8, .inl zz) := (o_41 _ (by omega)).trans e_36
  have e_261 : g_42 8 = .inl (t.1, 8, .inl zz) := (o_44 _ (by omega)).trans e_260
  have e_262 : g_45 8 = .inl (t.1, 8, .inl zz) := (o_47 _ (by omega)).trans e_261
  have e_263 : g_56 8 = .inl (t.1, 8, .inl zz) := (o_58 _ (by omega)).trans e_262
  have e_264 : g_59 8 = .inl (t.1, 8, .inl zz) := (o_61 _ (by omega)).trans e_263
  have e_265 : g_62 8 = .inl (t.1, 8, .inl zz) := (o_64 _ (by omega)).trans e_264
  have e_266 : g_71 8 = .inl (t.1, 8, .inl zz) := (o_73 _ (by omega)).trans e_265
  have e_267 : g_74 8 = .inl (t.1, 8, .inl zz) := (o_76 _ (by omega)).trans e_266
  have e_268 : g_77 8 = .inl (t.1, 8, .inl zz) := (o_79 _ (by omega)).trans e_267
  have e_269 : g_86 8 = .inl (t.1, 8, .inl zz) := (o_88 _ (by omega)).trans e_268
  have e_270 : g_89 8 = .inl (t.1, 8, .inl zz) := (o_91 _ (by omega)).trans e_269
  have e_271 : g_92 8 = .inl (t.1, 8, .inl zz) := (o_94 _ (by omega)).trans e_270
  have e_272 : g_97 8 = .inl (t.1, 8, .inl zz) := (o_99 _ (by omega)).trans e_271
  have e_273 : g_100 8 = .inl (t.1, 8, .inl zz) := (o_102 _ (by omega)).trans e_272
  have e_274 : g_103 8 = .inl (t.1, 8, .inl zz) := (o_105 _ (by omega)).trans e_273
  have e_275 : g_108 8 = .inl (t.1, 8, .inl zz) := (o_110 _ (by omega)).trans e_274
  have e_276 : g_111 8 = .inl (t.1, 8, .inl zz) := (o_113 _ (by omega)).trans e_275
  have e_277 : g_56 9 = .inr (5, [.ref (B + 10), .ref (B + 11), .ref (B + 12), .ref (B + 13), .ref (B + 14), .int (nI 0), .int 0, .int 0, .int 0, .int 0]) := (o_58 _ (by omega)).trans e_48
  have e_278 : g_59 9 = .inr (5, [.ref (B + 10), .ref (B + 11), .ref (B + 12), .ref (B + 13), .ref (B + 14), .int (nI 0), .int 0, .int 0, .int 0, .int 0]) := (o_61 _ (by omega)).trans e_277
  have e_279 : g_62 9 = .inr (5, [.ref (B + 10), .ref (B + 11), .ref (B + 12), .ref (B + 13), .ref (B + 14), .int (nI 0), .int 0, .int 0, .int 0, .int 0]) := (o_64 _ (by omega)).trans e_278
  have e_280 : g_71 9 = .inr (5, [.ref (B + 10), .ref (B + 11), .ref (B + 12), .ref (B + 13), .ref (B + 14), .int (nI 0), .int 0, .int 0, .int 0, .int 0]) := (o_73 _ (by omega)).trans e_279
  have e_281 : g_74 9 = .inr (5, [.ref (B + 10), .ref (B + 11), .ref (B + 12), .ref (B + 13), .ref (B + 14), .int (nI 0), .int 0, .int 0, .int 0, .int 0]) := (o_76 _ (by omega)).trans e_280
  have e_282 : g_77 9 = .inr (5, [.ref (B + 10), .ref (B + 11), .ref (B + 12), .ref (B + 13), .ref (B + 14), .int (nI 0), .int 0, .int 0, .int 0, .int 0]) := (o_79 _ (by omega)).trans e_281
  have e_283 : g_86 9 = .inr (5, [.ref (B + 10), .ref (B + 11), .ref (B + 12), .ref (B + 13), .ref (B + 14), .int (nI 0), .int 0, .int 0, .int 0, .int 0]) := (o_88 _ (by omega)).trans e_282
  have e_284 : g_89 9 = .inr (5, [.ref (B + 10), .ref (B + 11), .ref (B + 12), .ref (B + 13), .ref (B + 14), .int (nI 0), .int 0, .int 0, .int 0, .int 0]) := (o_91 _ (by omega)).trans e_283
  have e_285 : g_92 9 = .inr (5, [.ref (B + 10), .ref (B + 11), .ref (B + 12), .ref (B + 13), .ref (B + 14), .int (nI 0), .int 0, .int 0, .int 0, .int 0]) := (o_94 _ (by omega)).trans e_284
  have e_286 : g_97 9 = .inr (5, [.ref (B + 10), .ref (B + 11), .ref (B + 12), .ref (B + 13), .ref (B + 14), .int (nI 0), .int 0, .int 0, .int 0, .int 0]) := (o_99 _ (by omega)).trans e_285
  have e_287 : g_100 9 = .inr (5, [.ref (B + 10), .ref (B + 11), .ref (B + 12), .ref (B + 13), .ref (B + 14), .int (nI 0), .int 0, .int 0, .int 0, .int 0]) := (o_102 _ (by omega)).trans e_286
  have e_288 : g_103 9 = .inr (5, [.ref (B + 10), .ref (B + 11), .ref (B + 12), .ref (B + 13), .ref (B + 14), .int (nI 0), .int 0, .int 0, .int 0, .int 0]) := (o_105 _ (by omega)).trans e_287
  have e_289 : g_108 9 = .inr (5, [.ref (B + 10), .ref (B + 11), .ref (B + 12), .ref (B + 13), .ref (B + 14), .int (nI 0), .int 0, .int 0, .int 0, .int 0]) := (o_110 _ (by omega)).trans e_288
  have e_290 : g_111 9 = .inr (5, [.ref (B + 10), .ref (B + 11), .ref (B + 12), .ref (B + 13), .ref (B + 14), .int (nI 0), .int 0, .int 0, .int 0, .int 0]) := (o_113 _ (by omega)).trans e_289
  have e_291 : g_56 10 = .inl (t.1, 40, .inl zz) := (o_58 _ (by omega)).trans e_49
  have e_292 : g_59 10 = .inl (t.1, 40, .inl zz) := (o_61 _ (by omega)).trans e_291
  have e_293 : g_62 10 = .inl (t.1, 40, .inl zz) := (o_64 _ (by omega)).trans e_292
  have e_294 : g_71 10 = .inl (t.1, 40, .inl zz) := (o_73 _ (by omega)).trans e_293
  have e_295 : g_74 10 = .inl (t.1, 40, .inl zz) := (o_76 _ (by omega)).trans e_294
  have e_296 : g_77 10 = .inl (t.1, 40, .inl zz) := (o_79 _ (by omega)).trans e_295
  have e_297 : g_86 10 = .inl (t.1, 40, .inl zz) := (o_88 _ (by omega)).trans e_296
  have e_298 : g_89 10 = .inl (t.1, 40, .inl zz) := (o_91 _ (by omega)).trans e_297
  have e_299 : g_92 10 = .inl (t.1, 40, .inl zz) := (o_94 _ (by omega)).trans e_298
  have e_300 : g_97 10 = .inl (t.1, 40, .inl zz) := (o_99 _ (by omega)).trans e_299
  have e_301 : g_100 10 = .inl (t.1, 40, .inl zz) := (o_102 _ (by omega)).trans e_300
  have e_302 : g_103 10 = .inl (t.1, 40, .inl zz) := (o_105 _ (by omega)).trans e_301
  have e_303 : g_108 10 = .inl (t.1, 40, .inl zz) := (o_110 _ (by omega)).trans e_302
  have e_304 : g_111 10 = .inl (t.1, 40, .inl zz) := (o_113 _ (by omega)).trans e_303
  have e_305 : g_56 11 = .inl (t.1, 40, .inl zz) := (o_58 _ (by omega)).trans e_50
  have e_306 : g_59 11 = .inl (t.1, 40, .inl zz) := (o_61 _ (by omega)).trans e_305
  have e_307 : g_62 11 = .inl (t.1, 40, .inl zz) := (o_64 _ (by omega)).trans e_306
  have e_308 : g_71 11 = .inl (t.1, 40, .inl zz) := (o_73 _ (by omega)).trans e_307
  have e_309 : g_74 11 = .inl (t.1, 40, .inl zz) := (o_76 _ (by omega)).trans e_308
  have e_310 : g_77 11 = .inl (t.1, 40, .inl zz) := (o_79 _ (by omega)).trans e_309
  have e_311 : g_86 11 = .inl (t.1, 40, .inl zz) := (o_88 _ (by omega)).trans e_310
  have e_312 : g_89 11 = .inl (t.1, 40, .inl zz) := (o_91 _ (by omega)).trans e_311
  have e_313 : g_92 11 = .inl (t.1, 40, .inl zz) := (o_94 _ (by omega)).trans e_312
  have e_314 : g_97 11 = .inl (t.1, 40, .inl zz) := (o_99 _ (by omega)).trans e_313
  have e_315 : g_100 11 = .inl (t.1, 40, .inl zz) := (o_102 _ (by omega)).trans e_314
  have e_316 : g_103 11 = .inl (t.1, 40, .inl zz) := (o_105 _ (by omega)).trans e_315
  have e_317 : g_108 11 = .inl (t.1, 40, .inl zz) := (o_110 _ (by omega)).trans e_316
  have e_318 : g_111 11 = .inl (t.1, 40, .inl zz) := (o_113 _ (by omega)).trans e_317
  have e_319 : g_56 12 = .inl (t.1, 40, .inl zz) := (o_58 _ (by omega)).trans e_51
  have e_320 : g_59 12 = .inl (t.1, 40, .inl zz) := (o_61 _ (by omega)).trans e_319
  have e_321 : g_62 12 = .inl (t.1, 40, .inl zz) := (o_64 _ (by omega)).trans e_320
  have e_322 : g_71 12 = .inl (t.1, 40, .inl zz) := (o_73 _ (by omega)).trans e_321
  have e_323 : g_74 12 = .inl (t.1, 40, .inl zz) := (o_76 _ (by omega)).trans e_322
  have e_324 : g_77 12 = .inl (t.1, 40, .inl zz) := (o_79 _ (by omega)).trans e_323
  have e_325 : g_86 12 = .inl (t.1, 40, .inl zz) := (o_88 _ (by omega)).trans e_324
  have e_326 : g_89 12 = .inl (t.1, 40, .inl zz) := (o_91 _ (by omega)).trans e_325
  have e_327 : g_92 12 = .inl (t.1, 40, .inl zz) := (o_94 _ (by omega)).trans e_326
  have e_328 : g_97 12 = .inl (t.1, 40, .inl zz) := (o_99 _ (by omega)).trans e_327
  have e_329 : g_100 12 = .inl (t.1, 40, .inl zz) := (o_102 _ (by omega)).trans e_328
  have e_330 : g_103 12 = .inl (t.1, 40, .inl zz) := (o_105 _ (by omega)).trans e_329
  have e_331 : g_108 12 = .inl (t.1, 40, .inl zz) := (o_110 _ (by omega)).trans e_330
  have e_332 : g_111 12 = .inl (t.1, 40, .inl zz) := (o_113 _ (by omega)).trans e_331
  have e_333 : g_56 13 = .inl (t.1, 8, .inl zz) := (o_58 _ (by omega)).trans e_52
  have e_334 : g_59 13 = .inl (t.1, 8, .inl zz) := (o_61 _ (by omega)).trans e_333
  have e_335 : g_62 13 = .inl (t.1, 8, .inl zz) := (o_64 _ (by omega)).trans e_334
  have e_336 : g_71 13 = .inl (t.1, 8, .inl zz) := (o_73 _ (by omega)).trans e_335
  have e_337 : g_74 13 = .inl (t.1, 8, .inl zz) := (o_76 _ (by omega)).trans e_336
  have e_338 : g_77 13 = .inl (t.1, 8, .inl zz) := (o_79 _ (by omega)).trans e_337
  have e_339 : g_86 13 = .inl (t.1, 8, .inl zz) := (o_88 _ (by omega)).trans e_338
  have e_340 : g_89 13 = .inl (t.1, 8, .inl zz) := (o_91 _ (by omega)).trans e_339
  have e_341 : g_92 13 = .inl (t.1, 8, .inl zz) := (o_94 _ (by omega)).trans e_340
  have e_342 : g_97 13 = .inl (t.1, 8, .inl zz) := (o_99 _ (by omega)).trans e_341
  have e_343 : g_100 13 = .inl (t.1, 8, .inl zz) := (o_102 _ (by omega)).trans e_342
  have e_344 : g_103 13 = .inl (t.1, 8, .inl zz) := (o_105 _ (by omega)).trans e_343
  have e_345 : g_108 13 = .inl (t.1, 8, .inl zz) := (o_110 _ (by omega)).trans e_344
  have e_346 : g_111 13 = .inl (t.1, 8, .inl zz) := (o_113 _ (by omega)).trans e_345
  have e_347 : g_56 14 = .inl (t.1, 8, .inl zz) := (o_58 _ (by omega)).trans e_53
  have e_348 : g_59 14 = .inl (t.1, 8, .inl zz) := (o_61 _ (by omega)).trans e_347
  have e_349 : g_62 14 = .inl (t.1, 8, .inl zz) := (o_64 _ (by omega)).trans e_348
  have e_350 : g_71 14 = .inl (t.1, 8, .inl zz) := (o_73 _ (by omega)).trans e_349
  have e_351 : g_74 14 = .inl (t.1, 8, .inl zz) := (o_76 _ (by omega)).trans e_350
  have e_352 : g_77 14 = .inl (t.1, 8, .inl zz) := (o_79 _ (by omega)).trans e_351
  have e_353 : g_86 14 = .inl (t.1, 8, .inl zz) := (o_88 _ (by omega)).trans e_352
  have e_354 : g_89 14 = .inl (t.1, 8, .inl zz) := (o_91 _ (by omega)).trans e_353
  have e_355 : g_92 14 = .inl (t.1, 8, .inl zz) := (o_94 _ (by omega)).trans e_354
  have e_356 : g_97 14 = .inl (t.1, 8, .inl zz) := (o_99 _ (by omega)).trans e_355
  have e_357 : g_100 14 = .inl (t.1, 8, .inl zz) := (o_102 _ (by omega)).trans e_356
  have e_358 : g_103 14 = .inl (t.1, 8, .inl zz) := (o_105 _ (by omega)).trans e_357
  have e_359 : g_108 14 = .inl (t.1, 8, .inl zz) := (o_110 _ (by omega)).trans e_358
  have e_360 : g_111 14 = .inl (t.1, 8, .inl zz) := (o_113 _ (by omega)).trans e_359
  have e_361 : g_71 15 = .inr (4, [.ref (B + 16), .ref (B + 17), .ref (B + 18), .int (nI 0)]) := (o_73 _ (by omega)).trans e_65
  have e_362 : g_74 15 = .inr (4, [.ref (B + 16), .ref (B + 17), .ref (B + 18), .int (nI 0)]) := (o_76 _ (by omega)).trans e_361
  have e_363 : g_77 15 = .inr (4, [.ref (B + 16), .ref (B + 17), .ref (B + 18), .int (nI 0)]) := (o_79 _ (by omega)).trans e_362
  have e_364 : g_86 15 = .inr (4, [.ref (B + 16), .ref (B + 17), .ref (B + 18), .int (nI 0)]) := (o_88 _ (by omega)).trans e_363
  have e_365 : g_89 15 = .inr (4, [.ref (B + 16), .ref (B + 17), .ref (B + 18), .int (nI 0)]) := (o_91 _ (by omega)).trans e_364
  have e_366 : g_92 15 = .inr (4, [.ref (B + 16), .ref (B + 17), .ref (B + 18), .int (nI 0)]) := (o_94 _ (by omega)).trans e_365
  have e_367 : g_97 15 = .inr (4, [.ref (B + 16), .ref (B + 17), .ref (B + 18), .int (nI 0)]) := (o_99 _ (by omega)).trans e_366
  have e_368 : g_100 15 = .inr (4, [.ref (B + 16), .ref (B + 17), .ref (B + 18), .int (nI 0)]) := (o_102 _ (by omega)).trans e_367
  have e_369 : g_103 15 = .inr (4, [.ref (B + 16), .ref (B + 17), .ref (B + 18), .int (nI 0)]) := (o_105 _ (by omega)).trans e_368
  have e_370 : g_108 15 = .inr (4, [.ref (B + 16), .ref (B + 17), .ref (B + 18), .int (nI 0)]) := (o_110 _ (by omega)).trans e_369
  have e_371 : g_111 15 = .inr (4, [.ref (B + 16), .ref (B + 17), .ref (B + 18), .int (nI 0)]) := (o_113 _ (by omega)).trans e_370
  have e_372 : g_71 16 = .inl (t.1, 42, .inl zz) := (o_73 _ (by omega)).trans e_66
  have e_373 : g_74 16 = .inl (t.1, 42, .inl zz) := (o_76 _ (by omega)).trans e_372
  have e_374 : g_77 16 = .inl (t.1, 42, .inl zz) := (o_79 _ (by omega)).trans e_373
  have e_375 : g_86 16 = .inl (t.1, 42, .inl zz) := (o_88 _ (by omega)).trans e_374
  have e_376 : g_89 16 = .inl (t.1, 42, .inl zz) := (o_91 _ (by omega)).trans e_375
  have e_377 : g_92 16 = .inl (t.1, 42, .inl zz) := (o_94 _ (by omega)).trans e_376
  have e_378 : g_97 16 = .inl (t.1, 42, .inl zz) := (o_99 _ (by omega)).trans e_377
  have e_379 : g_100 16 = .inl (t.1, 42, .inl zz) := (o_102 _ (by omega)).trans e_378
  have e_380 : g_103 16 = .inl (t.1, 42, .inl zz) := (o_105 _ (by omega)).trans e_379
  have e_381 : g_108 16 = .inl (t.1, 42, .inl zz) := (o_110 _ (by omega)).trans e_380
  have e_382 : g_111 16 = .inl (t.1, 42, .inl zz) := (o_113 _ (by omega)).trans e_381
  have e_383 : g_71 17 = .inl (t.1, 42, .inl zz) := (o_73 _ (by omega)).trans e_67
  have e_384 : g_74 17 = .inl (t.1, 42, .inl zz) := (o_76 _ (by omega)).trans e_383
  have e_385 : g_77 17 = .inl (t.1, 42, .inl zz) := (o_79 _ (by omega)).trans e_384
  have e_386 : g_86 17 = .inl (t.1, 42, .inl zz) := (o_88 _ (by omega)).trans e_385
  have e_387 : g_89 17 = .inl (t.1, 42, .inl zz) := (o_91 _ (by omega)).trans e_386
  have e_388 : g_92 17 = .inl (t.1, 42, .inl zz) := (o_94 _ (by omega)).trans e_387
  have e_389 : g_97 17 = .inl (t.1, 42, .inl zz) := (o_99 _ (by omega)).trans e_388
  have e_390 : g_100 17 = .inl (t.1, 42, .inl zz) := (o_102 _ (by omega)).trans e_389
  have e_391 : g_103 17 = .inl (t.1, 42, .inl zz) := (o_105 _ (by omega)).trans e_390
  have e_392 : g_108 17 = .inl (t.1, 42, .inl zz) := (o_110 _ (by omega)).trans e_391
  have e_393 : g_111 17 = .inl (t.1, 42, .inl zz) := (o_113 _ (by omega)).trans e_392
  have e_394 : g_71 18 = .inl (t.1, 42, .inl zz) := (o_73 _ (by omega)).trans e_68
  have e_395 : g_74 18 = .inl (t.1, 42, .inl zz) := (o_76 _ (by omega)).trans e_394
  have e_396 : g_77 18 = .inl (t.1, 42, .inl zz) := (o_79 _ (by omega)).trans e_395
  have e_397 : g_86 18 = .inl (t.1, 42, .inl zz) := (o_88 _ (by omega)).trans e_396
  have e_398 : g_89 18 = .inl (t.1, 42, .inl zz) := (o_91 _ (by omega)).trans e_397
  have e_399 : g_92 18 = .inl (t.1, 42, .inl zz) := (o_94 _ (by omega)).trans e_398
  have e_400 : g_97 18 = .inl (t.1, 42, .inl zz) := (o_99 _ (by omega)).trans e_399
  have e_401 : g_100 18 = .inl (t.1, 42, .inl zz) := (o_102 _ (by omega)).trans e_400
  have e_402 : g_103 18 = .inl (t.1, 42, .inl zz) := (o_105 _ (by omega)).trans e_401
  have e_403 : g_108 18 = .inl (t.1, 42, .inl zz) := (o_110 _ (by omega)).trans e_402
  have e_404 : g_111 18 = .inl (t.1, 42, .inl zz) := (o_113 _ (by omega)).trans e_403
  have e_405 : g_86 19 = .inr (4, [.ref (B + 20), .ref (B + 21), .ref (B + 22), .int (nI 0)]) := (o_88 _ (by omega)).trans e_80
  have e_406 : g_89 19 = .inr (4, [.ref (B + 20), .ref (B + 21), .ref (B + 22), .int (nI 0)]) := (o_91 _ (by omega)).trans e_405
  have e_407 : g_92 19 = .inr (4, [.ref (B + 20), .ref (B + 21), .ref (B + 22), .int (nI 0)]) := (o_94 _ (by omega)).trans e_406
  have e_408 : g_97 19 = .inr (4, [.ref (B + 20), .ref (B + 21), .ref (B + 22), .int (nI 0)]) := (o_99 _ (by omega)).trans e_407
  have e_409 : g_100 19 = .inr (4, [.ref (B + 20), .ref (B + 21), .ref (B + 22), .int (nI 0)]) := (o_102 _ (by omega)).trans e_408
  have e_410 : g_103 19 = .inr (4, [.ref (B + 20), .ref (B + 21), .ref (B + 22), .int (nI 0)]) := (o_105 _ (by omega)).trans e_409
  have e_411 : g_108 19 = .inr (4, [.ref (B + 20), .ref (B + 21), .ref (B + 22), .int (nI 0)]) := (o_110 _ (by omega)).trans e_410
  have e_412 : g_111 19 = .inr (4, [.ref (B + 20), .ref (B + 21), .ref (B + 22), .int (nI 0)]) := (o_113 _ (by omega)).trans e_411
  have e_413 : g_86 20 = .inl (t.1, 42, .inl zz) := (o_88 _ (by omega)).trans e_81
  have e_414 : g_89 20 = .inl (t.1, 42, .inl zz) := (o_91 _ (by omega)).trans e_413
  have e_415 : g_92 20 = .inl (t.1, 42, .inl zz) := (o_94 _ (by omega)).trans e_414
  have e_416 : g_97 20 = .inl (t.1, 42, .inl zz) := (o_99 _ (by omega)).trans e_415
  have e_417 : g_100 20 = .inl (t.1, 42, .inl zz) := (o_102 _ (by omega)).trans e_416
  have e_418 : g_103 20 = .inl (t.1, 42, .inl zz) := (o_105 _ (by omega)).trans e_417
  have e_419 : g_108 20 = .inl (t.1, 42, .inl zz) := (o_110 _ (by omega)).trans e_418
  have e_420 : g_111 20 = .inl (t.1, 42, .inl zz) := (o_113 _ (by omega)).trans e_419
  have e_421 : g_86 21 = .inl (t.1, 42, .inl zz) := (o_88 _ (by omega)).trans e_82
  have e_422 : g_89 21 = .inl (t.1, 42, .inl zz) := (o_91 _ (by omega)).trans e_421
  have e_423 : g_92 21 = .inl (t.1, 42, .inl zz) := (o_94 _ (by omega)).trans e_422
  have e_424 : g_97 21 = .inl (t.1, 42, .inl zz) := (o_99 _ (by omega)).trans e_423
  have e_425 : g_100 21 = .inl (t.1, 42, .inl zz) := (o_102 _ (by omega)).trans e_424
  have e_426 : g_103 21 = .inl (t.1, 42, .inl zz) := (o_105 _ (by omega)).trans e_425
  have e_427 : g_108 21 = .inl (t.1, 42, .inl zz) := (o_110 _ (by omega)).trans e_426
  have e_428 : g_111 21 = .inl (t.1, 42, .inl zz) := (o_113 _ (by omega)).trans e_427
  have e_429 : g_86 22 = .inl (t.1, 42, .inl zz) := (o_88 _ (by omega)).trans e_83
  have e_430 : g_89 22 = .inl (t.1, 42, .inl zz) := (o_91 _ (by omega)).trans e_429
  have e_431 : g_92 22 = .inl (t.1, 42, .inl zz) := (o_94 _ (by omega)).trans e_430
  have e_432 : g_97 22 = .inl (t.1, 42, .inl zz) := (o_99 _ (by omega)).trans e_431
  have e_433 : g_100 22 = .inl (t.1, 42, .inl zz) := (o_102 _ (by omega)).trans e_432
  have e_434 : g_103 22 = .inl (t.1, 42, .inl zz) := (o_105 _ (by omega)).trans e_433
  have e_435 : g_108 22 = .inl (t.1, 42, .inl zz) := (o_110 _ (by omega)).trans e_434
  have e_436 : g_111 22 = .inl (t.1, 42, .inl zz) := (o_113 _ (by omega)).trans e_435
  exact r_vret C hr hlocks hS ⟨⟨⟨e_136, e_159, e_182, e_205⟩, by omega, e_225, scr0 ⟨_, e_112⟩ ⟨e_242, e_259, e_276⟩ ⟨e_290, e_304, e_318, e_332, e_346, e_360⟩ ⟨e_371, e_382, e_393, e_404⟩ ⟨e_412, e_420, e_428, e_436⟩ (x2_keep X2p (fun j h1 h2 => (o_113 j (by omega)).trans ((o_110 j (by omega)).trans ((o_105 j (by omega)).trans ((o_102 j (by omega)).trans ((o_99 j (by omega)))))))) (x0_keep X0p (fun j h1 h2 => (o_113 j (by omega)).trans ((o_110 j (by omega)))))⟩, x2_keep X2p (fun j h1 h2 => (o_113 j (by omega)).trans ((o_110 j (by omega)).trans ((o_105 j (by omega)).trans ((o_102 j (by omega)).trans ((o_99 j (by omega))))))), x0_keep X0p (fun j h1 h2 => (o_113 j (by omega)).trans ((o_110 j (by omega))))⟩ dX7_init_97
