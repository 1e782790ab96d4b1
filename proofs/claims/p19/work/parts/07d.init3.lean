abbrev X2P (t : Gx) (B : Nat) (g' : Nat → va_E) : Prop := sFix2 t B g' ∧ sCnt0 t g' ∧ (∀ k, k < 16 → g' (25 + k) = .inl (t.1, 16, .inl zz)) ∧ isRun t B g' 42 zz zz zz zz zz 0 0 0 0 0 ∧ ∀ k, k < 16 → isRow t B g' (49 + 4 * k) zz zz zz 0
abbrev X0P (t : Gx) (B : Nat) (g' : Nat → va_E) : Prop := (g' 113 = .inr (0, [.ref (B + 114), .ref (B + 115), .ref (B + 116), .ref (B + 120), .int 0]) ∧ g' 114 = .inl (t.2.1, 256, .inl zz) ∧ g' 115 = .inl (t.2.2.2.1, 16, .inr (.inr (.inr (.inr (ruQ B)))))) ∧ isRow t B g' 116 zz zz zz 0 ∧ isRow t B g' 120 zz zz zz 0 ∧ ∀ k, k < 16 → isRun t B g' (124 + 6 * k) zz zz zz zz zz 0 0 0 0 0
theorem x2_keep {t : Gx} {B : Nat} {g g' : Nat → va_E} (h : X2P t B g) (k : ∀ j, 23 ≤ j → j < 113 → g' j = g j) : X2P t B g' :=
  ⟨⟨(k _ (by omega) (by omega)).trans h.1.1, (k _ (by omega) (by omega)).trans h.1.2.1, (k _ (by omega) (by omega)).trans h.1.2.2⟩, (k _ (by omega) (by omega)).trans h.2.1, fun q hq => (k _ (by omega) (by omega)).trans (h.2.2.1 q hq), h.2.2.2.1.keep (fun j h1 h2 => k _ (by omega) (by omega)), fun q hq => (h.2.2.2.2 q hq).keep (fun j h1 h2 => k _ (by omega) (by omega))⟩
theorem x0_keep {t : Gx} {B : Nat} {g g' : Nat → va_E} (h : X0P t B g) (k : ∀ j, 113 ≤ j → j < 220 → g' j = g j) : X0P t B g' :=
  ⟨⟨(k _ (by omega) (by omega)).trans h.1.1, (k _ (by omega) (by omega)).trans h.1.2.1, (k _ (by omega) (by omega)).trans h.1.2.2⟩, h.2.1.keep (fun j h1 h2 => k _ (by omega) (by omega)), h.2.2.1.keep (fun j h1 h2 => k _ (by omega) (by omega)), fun q hq => (h.2.2.2 q hq).keep (fun j h1 h2 => k _ (by omega) (by omega))⟩
theorem sRun0 {t : Gx} {B i : Nat} {g : Nat → va_E} (h : isRun t B g i zz zz zz zz zz 0 0 0 0 0) : sRun t B g i := ⟨zz, zz, zz, zz, zz, 0, 0, 0, 0, 0, h, by omega, Or.inl rfl⟩
theorem sRow0 {t : Gx} {B i : Nat} {g : Nat → va_E} (h : isRow t B g i zz zz zz 0) : sRow t B g i := ⟨zz, zz, zz, 0, h, by omega⟩
theorem scr0 {t : Gx} {B : Nat} {g : Nat → va_E} (h0 : sTop B g) (hM : isMach t B g 6 zz zz 0) (h9 : isRun t B g 9 zz zz zz zz zz 0 0 0 0 0) (h15 : isRow t B g 15 zz zz zz 0) (h19 : isRow t B g 19 zz zz zz 0) (hP : X2P t B g) (hC : X0P t B g) : Scr t B g := by
  refine ⟨h0, ⟨zz, zz, 0, hM⟩, ?_, ?_, ⟨hP.1.1, hP.1.2.1, hP.1.2.2, hC.1.2.2⟩, ⟨zz, hP.2.1⟩, fun k hk => ⟨zz, hP.2.2.1 k hk⟩, ⟨0, hC.1.1, Or.inl rfl⟩, ⟨zz, hC.1.2.1, fun _ => Or.inl rfl⟩⟩
  · intro i hi
    rcases hi with rfl | rfl | ⟨k, hk, rfl⟩
    · exact sRun0 h9
    · exact sRun0 hP.2.2.2.1
    · exact sRun0 (hC.2.2.2 k hk)
  · intro i hi
    rcases hi with rfl | rfl | rfl | rfl | ⟨k, hk, rfl⟩
    · exact sRow0 h15
    · exact sRow0 h19
    · exact sRow0 hC.2.1
    · exact sRow0 hC.2.2.1
    · exact sRow0 (hP.2.2.2.2 k hk)

set_option maxHeartbeats 1000000 in
set_option maxRecDepth 100000 in
theorem c_X7_init (l : Launch) (D : va_G) (t : Gx) (B : Nat) (g : Nat → va_E) (e0 : g 0 = .inr (7, [.null, .null, .null, .null, .null, .null, .null, .null, .int 0])) : Cv l D t B 1 220 219 5859 yX7_init cX7_init 1 3 53 g [.ref (B + 0)] (fun g' => Cst t B g' zz zz zz 0 15 1 0) := by
  refine Cv.start (by decide) (Nat.le_of_ble_eq_true rfl) ?_
  intro p e s m below meth c ls C hr hlocks hnm hS hl
  replace C : Cx D t p s m [.ref (B + 0)].toArray c cX7_init 1 RX7 := C
  replace hl : lv_has ls 1 [(0, .ref (B + 0))] := hl
  refine lv_aload_n C.x C.b dX7_init_0 rfl (lv_at hl 0 rfl) ?_
  refine r_objInit mlX7_3 im_objectInit co_objectInit C hl.1 dX7_init_1 (by decide) (by decide) ?_
  refine lv_aload_n C.x C.b dX7_init_4 rfl (lv_at hl 0 rfl) ?_
  refine r_new ck3 clX7_9 ins_X3 ini_X3 df3 C hS (by decide) (by decide) dX7_init_5 (fun g_1 H e_2 o_3 hS => ?_)
  replace e_2 : g_1 1 = .inr (3, [.null, .null, .null, .int 0]) := e_2
  replace hS : St D B s.heap 2 g_1 H _ := hS
  refine lv_dup C.x C.b dX7_init_8 rfl ?_
  refine r_callIN (b := 1) (As := []) (rest := [.ref (B + 1), .ref (B + 0)]) (c_X3_init l D t B g_1 1 e_2) mf_yX3_init (show (RX7, 11, yX3_init) ∈ nestL by decide) im_yX3_init rfl (by decide) C hS rfl hl.1 rfl (Nat.le_of_ble_eq_true rfl) dX7_init_9 (by decide) (fun g_4 H locs w_5 hS => ?_)
  replace hS : St D B s.heap 5 g_4 H _ := hS
  obtain ⟨⟨e_7, e_8, e_9, e_10⟩, o_6⟩ := w_5
  replace e_7 : g_4 1 = .inr (3, [.ref (B + 2), .ref (B + 3), .ref (B + 4), .int (nI 0)]) := e_7
  replace e_8 : g_4 2 = .inl (t.1, 8, .inl zz) := e_8
  replace e_9 : g_4 3 = .inl (t.1, 8, .inl zz) := e_9
  replace e_10 : g_4 4 = .inl (t.1, 8, .inl zz) := e_10
  have e_11 : g_1 0 = .inr (7, [.null, .null, .null, .null, .null, .null, .null, .null, .int 0]) := (o_3 _ (by omega)).trans e0
  have e_12 : g_4 0 = .inr (7, [.null, .null, .null, .null, .null, .null, .null, .null, .int 0]) := (o_6 _ (by omega)).trans e_11
  refine r_putF ck7 flX7_12 C hS (by omega) e_12 (by decide) rfl hnm rfl rfl rfl (Nat.le_of_ble_eq_true rfl) dX7_init_12 (fun g_13 H locs e_14 o_15 hS => ?_)
  replace e_14 : g_13 0 = .inr (7, [.ref (B + 1), .null, .null, .null, .null, .null, .null, .null, .int 0]) := e_14
  refine lv_aload_n C.x C.b dX7_init_15 rfl (lv_at hl 0 rfl) ?_
  refine r_new ck6 clX7_16 ins_X6 ini_X6 df6 C hS (by decide) (by decide) dX7_init_16 (fun g_16 H e_17 o_18 hS => ?_)
  replace e_17 : g_16 5 = .inr (6, [.int 0, .int 0, .int 0]) := e_17
  replace hS : St D B s.heap 6 g_16 H _ := hS
  refine lv_dup C.x C.b dX7_init_19 rfl ?_
  refine r_callIN (b := 5) (As := []) (rest := [.ref (B + 5), .ref (B + 0)]) (c_X6_init l D t B g_16 5 e_17) mf_yX6_init (show (RX7, 18, yX6_init) ∈ nestL by decide) im_yX6_init rfl (by decide) C hS rfl hl.1 rfl (Nat.le_of_ble_eq_true rfl) dX7_init_20 (by decide) (fun g_19 H locs w_20 hS => ?_)
  replace hS : St D B s.heap 6 g_19 H _ := hS
  obtain ⟨e_22, o_21⟩ := w_20
  replace e_22 : g_19 5 = .inr (6, [.int 15, .int 1, .int 0]) := e_22
  have e_23 : g_16 0 = .inr (7, [.ref (B + 1), .null, .null, .null, .null, .null, .null, .null, .int 0]) := (o_18 _ (by omega)).trans e_14
  have e_24 : g_19 0 = .inr (7, [.ref (B + 1), .null, .null, .null, .null, .null, .null, .null, .int 0]) := (o_21 _ (by omega)).trans e_23
  refine r_putF ck7 flX7_19 C hS (by omega) e_24 (by decide) rfl hnm rfl rfl rfl (Nat.le_of_ble_eq_true rfl) dX7_init_23 (fun g_25 H locs e_26 o_27 hS => ?_)
  replace e_26 : g_25 0 = .inr (7, [.ref (B + 1), .ref (B + 5), .null, .null, .null, .null, .null, .null, .int 0]) := e_26
  refine lv_aload_n C.x C.b dX7_init_26 rfl (lv_at hl 0 rfl) ?_
  refine r_new ck1 clX7_23 ins_X1 ini_X1 df1 C hS (by decide) (by decide) dX7_init_27 (fun g_28 H e_29 o_30 hS => ?_)
  replace e_29 : g_28 6 = .inr (1, [.null, .null, .int 0]) := e_29
  replace hS : St D B s.heap 7 g_28 H _ := hS
  refine lv_dup C.x C.b dX7_init_30 rfl ?_
  refine r_callIN (b := 6) (As := []) (rest := [.ref (B + 6), .ref (B + 0)]) (c_X1_init l D t B g_28 6 e_29) mf_yX1_init (show (RX7, 25, yX1_init) ∈ nestL by decide) im_yX1_init rfl (by decide) C hS rfl hl.1 rfl (Nat.le_of_ble_eq_true rfl) dX7_init_31 (by decide) (fun g_31 H locs w_32 hS => ?_)
  replace hS : St D B s.heap 9 g_31 H _ := hS
  obtain ⟨⟨e_34, e_35, e_36⟩, o_33⟩ := w_32
  replace e_34 : g_31 6 = .inr (1, [.ref (B + 7), .ref (B + 8), .int 0]) := e_34
  replace e_35 : g_31 7 = .inl (t.1, 4, .inl zz) := e_35
  replace e_36 : g_31 8 = .inl (t.1, 8, .inl zz) := e_36
  have e_37 : g_28 0 = .inr (7, [.ref (B + 1), .ref (B + 5), .null, .null, .null, .null, .null, .null, .int 0]) := (o_30 _ (by omega)).trans e_26
  have e_38 : g_31 0 = .inr (7, [.ref (B + 1), .ref (B + 5), .null, .null, .null, .null, .null, .null, .int 0]) := (o_33 _ (by omega)).trans e_37
  refine r_putF ck7 flX7_26 C hS (by omega) e_38 (by decide) rfl hnm rfl rfl rfl (Nat.le_of_ble_eq_true rfl) dX7_init_34 (fun g_39 H locs e_40 o_41 hS => ?_)
  replace e_40 : g_39 0 = .inr (7, [.ref (B + 1), .ref (B + 5), .ref (B + 6), .null, .null, .null, .null, .null, .int 0]) := e_40
  refine lv_aload_n C.x C.b dX7_init_37 rfl (lv_at hl 0 rfl) ?_
  refine r_new ck5 clX7_30 ins_X5 ini_X5 df5 C hS (by decide) (by decide) dX7_init_38 (fun g_42 H e_43 o_44 hS => ?_)
  replace e_43 : g_42 9 = .inr (5, [.null, .null, .null, .null, .null, .int 0, .int 0, .int 0, .int 0, .int 0]) := e_43
  replace hS : St D B s.heap 10 g_42 H _ := hS
  refine lv_dup C.x C.b dX7_init_41 rfl ?_
  refine r_callIN (b := 9) (As := []) (rest := [.ref (B + 9), .ref (B + 0)]) (c_X5_init l D t B g_42 9 e_43) mf_yX5_init (show (RX7, 32, yX5_init) ∈ nestL by decide) im_yX5_init rfl (by decide) C hS rfl hl.1 rfl (Nat.le_of_ble_eq_true rfl) dX7_init_42 (by decide) (fun g_45 H locs w_46 hS => ?_)
  replace hS : St D B s.heap 15 g_45 H _ := hS
  obtain ⟨⟨e_48, e_49, e_50, e_51, e_52, e_53⟩, o_47⟩ := w_46
  replace e_48 : g_45 9 = .inr (5, [.ref (B + 10), .ref (B + 11), .ref (B + 12), .ref (B + 13), .ref (B + 14), .int (nI 0), .int 0, .int 0, .int 0, .int 0]) := e_48
  replace e_49 : g_45 10 = .inl (t.1, 40, .inl zz) := e_49
  replace e_50 : g_45 11 = .inl (t.1, 40, .inl zz) := e_50
  replace e_51 : g_45 12 = .inl (t.1, 40, .inl zz) := e_51
  replace e_52 : g_45 13 = .inl (t.1, 8, .inl zz) := e_52
  replace e_53 : g_45 14 = .inl (t.1, 8, .inl zz) := e_53
  have e_54 : g_42 0 = .inr (7, [.ref (B + 1), .ref (B + 5), .ref (B + 6), .null, .null, .null, .null, .null, .int 0]) := (o_44 _ (by omega)).trans e_40
  have e_55 : g_45 0 = .inr (7, [.ref (B + 1), .ref (B + 5), .ref (B + 6), .null, .null, .null, .null, .null, .int 0]) := (o_47 _ (by omega)).trans e_54
  refine r_putF ck7 flX7_33 C hS (by omega) e_55 (by decide) rfl hnm rfl rfl rfl (Nat.le_of_ble_eq_true rfl) dX7_init_45 (fun g_56 H locs e_57 o_58 hS => ?_)
  replace e_57 : g_56 0 = .inr (7, [.ref (B + 1), .ref (B + 5), .ref (B + 6), .ref (B + 9), .null, .null, .null, .null, .int 0]) := e_57
  refine lv_aload_n C.x C.b dX7_init_48 rfl (lv_at hl 0 rfl) ?_
  refine r_new ck4 clX7_37 ins_X4 ini_X4 df4 C hS (by decide) (by decide) dX7_init_49 (fun g_59 H e_60 o_61 hS => ?_)
  replace e_60 : g_59 15 = .inr (4, [.null, .null, .null, .int 0]) := e_60
  replace hS : St D B s.heap 16 g_59 H _ := hS
  refine lv_dup C.x C.b dX7_init_52 rfl ?_
  refine r_callIN (b := 15) (As := []) (rest := [.ref (B + 15), .ref (B + 0)]) (c_X4_init l D t B g_59 15 e_60) mf_yX4_init (show (RX7, 39, yX4_init) ∈ nestL by decide) im_yX4_init rfl (by decide) C hS rfl hl.1 rfl (Nat.le_of_ble_eq_true rfl) dX7_init_53 (by decide) (fun g_62 H locs w_63 hS => ?_)
  replace hS : St D B s.heap 19 g_62 H _ := hS
  obtain ⟨⟨e_65, e_66, e_67, e_68⟩, o_64⟩ := w_63
  replace e_65 : g_62 15 = .inr (4, [.ref (B + 16), .ref (B + 17), .ref (B + 18), .int (nI 0)]) := e_65
  replace e_66 : g_62 16 = .inl (t.1, 42, .inl zz) := e_66
  replace e_67 : g_62 17 = .inl (t.1, 42, .inl zz) := e_67
  replace e_68 : g_62 18 = .inl (t.1, 42, .inl zz) := e_68
  have e_69 : g_59 0 = .inr (7, [.ref (B + 1), .ref (B + 5), .ref (B + 6), .ref (B + 9), .null, .null, .null, .null, .int 0]) := (o_61 _ (by omega)).trans e_57
  have e_70 : g_62 0 = .inr (7, [.ref (B + 1), .ref (B + 5), .ref (B + 6), .ref (B + 9), .null, .null, .null, .null, .int 0]) := (o_64 _ (by omega)).trans e_69
  refine r_putF ck7 flX7_40 C hS (by omega) e_70 (by decide) rfl hnm rfl rfl rfl (Nat.le_of_ble_eq_true rfl) dX7_init_56 (fun g_71 H locs e_72 o_73 hS => ?_)
  replace e_72 : g_71 0 = .inr (7, [.ref (B + 1), .ref (B + 5), .ref (B + 6), .ref (B + 9), .ref (B + 15), .null, .null, .null, .int 0]) := e_72
  refine lv_aload_n C.x C.b dX7_init_59 rfl (lv_at hl 0 rfl) ?_
  refine r_new ck4 clX7_37 ins_X4 ini_X4 df4 C hS (by decide) (by decide) dX7_init_60 (fun g_74 H e_75 o_76 hS => ?_)
  replace e_75 : g_74 19 = .inr (4, [.null, .null, .null, .int 0]) := e_75
  replace hS : St D B s.heap 20 g_74 H _ := hS
  refine lv_dup C.x C.b dX7_init_63 rfl ?_
  refine r_callIN (b := 19) (As := []) (rest := [.ref (B + 19), .ref (B + 0)]) (c_X4_init l D t B g_74 19 e_75) mf_yX4_init (show (RX7, 39, yX4_init) ∈ nestL by decide) im_yX4_init rfl (by decide) C hS rfl hl.1 rfl (Nat.le_of_ble_eq_true rfl) dX7_init_64 (by decide) (fun g_77 H locs w_78 hS => ?_)
  replace hS : St D B s.heap 23 g_77 H _ := hS
  obtain ⟨⟨e_80, e_81, e_82, e_83⟩, o_79⟩ := w_78
  replace e_80 : g_77 19 = .inr (4, [.ref (B + 20), .ref (B + 21), .ref (B + 22), .int (nI 0)]) := e_80
  replace e_81 : g_77 20 = .inl (t.1, 42, .inl zz) := e_81
  replace e_82 : g_77 21 = .inl (t.1, 42, .inl zz) := e_82
  replace e_83 : g_77 22 = .inl (t.1, 42, .inl zz) := e_83
  have e_84 : g_74 0 = .inr (7, [.ref (B + 1), .ref (B + 5), .ref (B + 6), .ref (B + 9), .ref (B + 15), .null, .null, .null, .int 0]) := (o_76 _ (by omega)).trans e_72
  have e_85 : g_77 0 = .inr (7, [.ref (B + 1), .ref (B + 5), .ref (B + 6), .ref (B + 9), .ref (B + 15), .null, .null, .null, .int 0]) := (o_79 _ (by omega)).trans e_84
  refine r_putF ck7 flX7_44 C hS (by omega) e_85 (by decide) rfl hnm rfl rfl rfl (Nat.le_of_ble_eq_true rfl) dX7_init_67 (fun g_86 H locs e_87 o_88 hS => ?_)
  replace e_87 : g_86 0 = .inr (7, [.ref (B + 1), .ref (B + 5), .ref (B + 6), .ref (B + 9), .ref (B + 15), .ref (B + 19), .null, .null, .int 0]) := e_87
  refine lv_aload_n C.x C.b dX7_init_70 rfl (lv_at hl 0 rfl) ?_
  refine r_new ck2 clX7_47 ins_X2 ini_X2 df2 C hS (by decide) (by decide) dX7_init_71 (fun g_89 H e_90 o_91 hS => ?_)
  replace e_90 : g_89 23 = .inr (2, [.null, .null, .null, .null]) := e_90
  replace hS : St D B s.heap 24 g_89 H _ := hS
  refine lv_dup C.x C.b dX7_init_74 rfl ?_
  refine r_callI (b := 23) (As := []) (rest := [.ref (B + 23), .ref (B + 0)]) (c_X2_init l D t B g_89 e_90) mf_yX2_init mlX7_49 im_yX2_init rfl (by decide) C hS rfl hl.1 rfl (Nat.le_of_ble_eq_true rfl) dX7_init_75 (by decide) (fun g_92 H locs w_93 hS => ?_)
  replace hS : St D B s.heap 113 g_92 H _ := hS
  obtain ⟨X2p, o_94⟩ := w_93
  have e_95 : g_89 0 = .inr (7, [.ref (B + 1), .ref (B + 5), .ref (B + 6), .ref (B + 9), .ref (B + 15), .ref (B + 19), .null, .null, .int 0]) := (o_91 _ (by omega)).trans e_87
  have e_96 : g_92 0 = .inr (7, [.ref (B + 1), .ref (B + 5), .ref (B + 6), .ref (B + 9), .ref (B + 15), .ref (B + 19), .null, .null, .int 0]) := (o_94 _ (by omega)).trans e_95
  refine r_putF ck7 flX7_50 C hS (by omega) e_96 (by decide) rfl hnm rfl rfl rfl (Nat.le_of_ble_eq_true rfl) dX7_init_78 (fun g_97 H locs e_98 o_99 hS => ?_)
  replace e_98 : g_97 0 = .inr (7, [.ref (B + 1), .ref (B + 5), .ref (B + 6), .ref (B + 9), .ref (B + 15), .ref (B + 19), .ref (B + 23), .null, .int 0]) := e_98
  refine lv_aload_n C.x C.b dX7_init_81 rfl (lv_at hl 0 rfl) ?_
  refine r_new ck0 clX7_54 ins_X0 ini_X0 df0 C hS (by decide) (by decide) dX7_init_82 (fun g_100 H e_101 o_102 hS => ?_)
  replace e_101 : g_100 113 = .inr (0, [.null, .null, .null, .null, .int 0]) := e_101
  replace hS : St D B s.heap 114 g_100 H _ := hS
  refine lv_dup C.x C.b dX7_init_85 rfl ?_
  refine r_callI (b := 113) (As := []) (rest := [.ref (B + 113), .ref (B + 0)]) (c_X0_init l D t B g_100 e_101) mf_yX0_init mlX7_56 im_yX0_init rfl (by decide) C hS rfl hl.1 rfl (Nat.le_of_ble_eq_true rfl) dX7_init_86 (by decide) (fun g_103 H locs w_104 hS => ?_)
  replace hS : St D B s.heap 220 g_103 H _ := hS
  obtain ⟨X0p, o_105⟩ := w_104
  have e_106 : g_100 0 = .inr (7, [.ref (B + 1), .ref (B + 5), .ref (B + 6), .ref (B + 9), .ref (B + 15), .ref (B + 19), .ref (B + 23), .null, .int 0]) := (o_102 _ (by omega)).trans e_98
  have e_107 : g_103 0 = .inr (7, [.ref (B + 1), .ref (B + 5), .ref (B + 6), .ref (B + 9), .ref (B + 15), .ref (B + 19), .ref (B + 23), .null, .int 0]) := (o_105 _ (by omega)).trans e_106
  refine r_putF ck7 flX7_57 C hS (by omega) e_107 (by decide) rfl hnm rfl rfl rfl (Nat.le_of_ble_eq_true rfl) dX7_init_89 (fun g_108 H locs e_109 o_110 hS => ?_)
  replace e_109 : g_108 0 = .inr (7, [.ref (B + 1), .ref (B + 5), .ref (B + 6), .ref (B + 9), .ref (B + 15), .ref (B + 19), .ref (B + 23), .ref (B + 113), .int 0]) := e_109
  refine lv_aload_n C.x C.b dX7_init_92 rfl (lv_at hl 0 rfl) ?_
  refine lv_iconst (v := (-1)) C.x C.b dX7_init_93 (by decide) ?_
  refine r_put ck7 flX7_61 C hS (by omega) e_109 (by decide) rfl rfl rfl (Nat.le_of_ble_eq_true rfl) dX7_init_94 (fun g_111 H locs e_112 o_113 hS => ?_)
  replace e_112 : g_111 0 = .inr (7, [.ref (B + 1), .ref (B + 5), .ref (B + 6), .ref (B + 9), .ref (B + 15), .ref (B + 19), .ref (B + 23), .ref (B + 113), .int (-1)]) := e_112
  have e_114 : g_13 1 = .inr (3, [.ref (B + 2), .ref (B + 3), .ref (B + 4), .int (nI 0)]) := (o_15 _ (by omega)).trans e_7
  have e_115 : g_16 1 = .inr (3, [.ref (B + 2), .ref (B + 3), .ref (B + 4), .int (nI 0)]) := (o_18 _ (by omega)).trans e_114
  have e_116 : g_19 1 = .inr (3, [.ref (B + 2), .ref (B + 3), .ref (B + 4), .int (nI 0)]) := (o_21 _ (by omega)).trans e_115
  have e_117 : g_25 1 = .inr (3, [.ref (B + 2), .ref (B + 3), .ref (B + 4), .int (nI 0)]) := (o_27 _ (by omega)).trans e_116
  have e_118 : g_28 1 = .inr (3, [.ref (B + 2), .ref (B + 3), .ref (B + 4), .int (nI 0)]) := (o_30 _ (by omega)).trans e_117
  have e_119 : g_31 1 = .inr (3, [.ref (B + 2), .ref (B + 3), .ref (B + 4), .int (nI 0)]) := (o_33 _ (by omega)).trans e_118
  have e_120 : g_39 1 = .inr (3, [.ref (B + 2), .ref (B + 3), .ref (B + 4), .int (nI 0)]) := (o_41 _ (by omega)).trans e_119
  have e_121 : g_42 1 = .inr (3, [.ref (B + 2), .ref (B + 3), .ref (B + 4), .int (nI 0)]) := (o_44 _ (by omega)).trans e_120
  have e_122 : g_45 1 = .inr (3, [.ref (B + 2), .ref (B + 3), .ref (B + 4), .int (nI 0)]) := (o_47 _ (by omega)).trans e_121
  have e_123 : g_56 1 = .inr (3, [.ref (B + 2), .ref (B + 3), .ref (B + 4), .int (nI 0)]) := (o_58 _ (by omega)).trans e_122
  have e_124 : g_59 1 = .inr (3, [.ref (B + 2), .ref (B + 3), .ref (B + 4), .int (nI 0)]) := (o_61 _ (by omega)).trans e_123
  have e_125 : g_62 1 = .inr (3, [.ref (B + 2), .ref (B + 3), .ref (B + 4), .int (nI 0)]) := (o_64 _ (by omega)).trans e_124
  have e_126 : g_71 1 = .inr (3, [.ref (B + 2), .ref (B + 3), .ref (B + 4), .int (nI 0)]) := (o_73 _ (by omega)).trans e_125
  have e_127 : g_74 1 = .inr (3, [.ref (B + 2), .ref (B + 3), .ref (B + 4), .int (nI 0)]) := (o_76 _ (by omega)).trans e_126
  have e_128 : g_77 1 = .inr (3, [.ref (B + 2), .ref (B + 3), .ref (B + 4), .int (nI 0)]) := (o_79 _ (by omega)).trans e_127
  have e_129 : g_86 1 = .inr (3, [.ref (B + 2), .ref (B + 3), .ref (B + 4), .int (nI 0)]) := (o_88 _ (by omega)).trans e_128
  have e_130 : g_89 1 = .inr (3, [.ref (B + 2), .ref (B + 3), .ref (B + 4), .int (nI 0)]) := (o_91 _ (by omega)).trans e_129
  have e_131 : g_92 1 = .inr (3, [.ref (B + 2), .ref (B + 3), .ref (B + 4), .int (nI 0)]) := (o_94 _ (by omega)).trans e_130
  have e_132 : g_97 1 = .inr (3, [.ref (B + 2), .ref (B + 3), .ref (B + 4), .int (nI 0)]) := (o_99 _ (by omega)).trans e_131
  have e_133 : g_100 1 = .inr (3, [.ref (B + 2), .ref (B + 3), .ref (B + 4), .int (nI 0)]) := (o_102 _ (by omega)).trans e_132
  have e_134 : g_103 1 = .inr (3, [.ref (B + 2), .ref (B + 3), .ref (B + 4), .int (nI 0)]) := (o_105 _ (by omega)).trans e_133
  have e_135 : g_108 1 = .inr (3, [.ref (B + 2), .ref (B + 3), .ref (B + 4), .int (nI 0)]) := (o_110 _ (by omega)).trans e_134
  have e_136 : g_111 1 = .inr (3, [.ref (B + 2), .ref (B + 3), .ref (B + 4), .int (nI 0)]) := (o_113 _ (by omega)).trans e_135
  have e_137 : g_13 2 = .inl (t.1, 8, .inl zz) := (o_15 _ (by omega)).trans e_8
  have e_138 : g_16 2 = .inl (t.1, 8, .inl zz) := (o_18 _ (by omega)).trans e_137
  have e_139 : g_19 2 = .inl (t.1, 8, .inl zz) := (o_21 _ (by omega)).trans e_138
  have e_140 : g_25 2 = .inl (t.1, 8, .inl zz) := (o_27 _ (by omega)).trans e_139
  have e_141 : g_28 2 = .inl (t.1, 8, .inl zz) := (o_30 _ (by omega)).trans e_140
  have e_142 : g_31 2 = .inl (t.1, 8, .inl zz) := (o_33 _ (by omega)).trans e_141
  have e_143 : g_39 2 = .inl (t.1, 8, .inl zz) := (o_41 _ (by omega)).trans e_142
  have e_144 : g_42 2 = .inl (t.1, 8, .inl zz) := (o_44 _ (by omega)).trans e_143
  have e_145 : g_45 2 = .inl (t.1, 8, .inl zz) := (o_47 _ (by omega)).trans e_144
  have e_146 : g_56 2 = .inl (t.1, 8, .inl zz) := (o_58 _ (by omega)).trans e_145
  have e_147 : g_59 2 = .inl (t.1, 8, .inl zz) := (o_61 _ (by omega)).trans e_146
  have e_148 : g_62 2 = .inl (t.1, 8, .inl zz) := (o_64 _ (by omega)).trans e_147
  have e_149 : g_71 2 = .inl (t.1, 8, .inl zz) := (o_73 _ (by omega)).trans e_148
  have e_150 : g_74 2 = .inl (t.1, 8, .inl zz) := (o_76 _ (by omega)).trans e_149
  have e_151 : g_77 2 = .inl (t.1, 8, .inl zz) := (o_79 _ (by omega)).trans e_150
  have e_152 : g_86 2 = .inl (t.1, 8, .inl zz) := (o_88 _ (by omega)).trans e_151
  have e_153 : g_89 2 = .inl (t.1, 8, .inl zz) := (o_91 _ (by omega)).trans e_152
  have e_154 : g_92 2 = .inl (t.1, 8, .inl zz) := (o_94 _ (by omega)).trans e_153
  have e_155 : g_97 2 = .inl (t.1, 8, .inl zz) := (o_99 _ (by omega)).trans e_154
  have e_156 : g_100 2 = .inl (t.1, 8, .inl zz) := (o_102 _ (by omega)).trans e_155
  have e_157 : g_103 2 = .inl (t.1, 8, .inl zz) := (o_105 _ (by omega)).trans e_156
  have e_158 : g_108 2 = .inl (t.1, 8, .inl zz) := (o_110 _ (by omega)).trans e_157
  have e_159 : g_111 2 = .inl (t.1, 8, .inl zz) := (o_113 _ (by omega)).trans e_158
  have e_160 : g_13 3 = .inl (t.1, 8, .inl zz) := (o_15 _ (by omega)).trans e_9
  have e_161 : g_16 3 = .inl (t.1, 8, .inl zz) := (o_18 _ (by omega)).trans e_160
  have e_162 : g_19 3 = .inl (t.1, 8, .inl zz) := (o_21 _ (by omega)).trans e_161
  have e_163 : g_25 3 = .inl (t.1, 8, .inl zz) := (o_27 _ (by omega)).trans e_162
  have e_164 : g_28 3 = .inl (t.1, 8, .inl zz) := (o_30 _ (by omega)).trans e_163
  have e_165 : g_31 3 = .inl (t.1, 8, .inl zz) := (o_33 _ (by omega)).trans e_164
  have e_166 : g_39 3 = .inl (t.1, 8, .inl zz) := (o_41 _ (by omega)).trans e_165
  have e_167 : g_42 3 = .inl (t.1, 8, .inl zz) := (o_44 _ (by omega)).trans e_166
  have e_168 : g_45 3 = .inl (t.1, 8, .inl zz) := (o_47 _ (by omega)).trans e_167
  have e_169 : g_56 3 = .inl (t.1, 8, .inl zz) := (o_58 _ (by omega)).trans e_168
  have e_170 : g_59 3 = .inl (t.1, 8, .inl zz) := (o_61 _ (by omega)).trans e_169
  have e_171 : g_62 3 = .inl (t.1, 8, .inl zz) := (o_64 _ (by omega)).trans e_170
  have e_172 : g_71 3 = .inl (t.1, 8, .inl zz) := (o_73 _ (by omega)).trans e_171
  have e_173 : g_74 3 = .inl (t.1, 8, .inl zz) := (o_76 _ (by omega)).trans e_172
  have e_174 : g_77 3 = .inl (t.1, 8, .inl zz) := (o_79 _ (by omega)).trans e_173
  have e_175 : g_86 3 = .inl (t.1, 8, .inl zz) := (o_88 _ (by omega)).trans e_174
  have e_176 : g_89 3 = .inl (t.1, 8, .inl zz) := (o_91 _ (by omega)).trans e_175
  have e_177 : g_92 3 = .inl (t.1, 8, .inl zz) := (o_94 _ (by omega)).trans e_176
  have e_178 : g_97 3 = .inl (t.1, 8, .inl zz) := (o_99 _ (by omega)).trans e_177
  have e_179 : g_100 3 = .inl (t.1, 8, .inl zz) := (o_102 _ (by omega)).trans e_178
  have e_180 : g_103 3 = .inl (t.1, 8, .inl zz) := (o_105 _ (by omega)).trans e_179
  have e_181 : g_108 3 = .inl (t.1, 8, .inl zz) := (o_110 _ (by omega)).trans e_180
  have e_182 : g_111 3 = .inl (t.1, 8, .inl zz) := (o_113 _ (by omega)).trans e_181
  have e_183 : g_13 4 = .inl (t.1, 8, .inl zz) := (o_15 _ (by omega)).trans e_10
  have e_184 : g_16 4 = .inl (t.1, 8, .inl zz) := (o_18 _ (by omega)).trans e_183
  have e_185 : g_19 4 = .inl (t.1, 8, .inl zz) := (o_21 _ (by omega)).trans e_184
  have e_186 : g_25 4 = .inl (t.1, 8, .inl zz) := (o_27 _ (by omega)).trans e_185
  have e_187 : g_28 4 = .inl (t.1, 8, .inl zz) := (o_30 _ (by omega)).trans e_186
  have e_188 : g_31 4 = .inl (t.1, 8, .inl zz) := (o_33 _ (by omega)).trans e_187
  have e_189 : g_39 4 = .inl (t.1, 8, .inl zz) := (o_41 _ (by omega)).trans e_188
  have e_190 : g_42 4 = .inl (t.1, 8, .inl zz) := (o_44 _ (by omega)).trans e_189
  have e_191 : g_45 4 = .inl (t.1, 8, .inl zz) := (o_47 _ (by omega)).trans e_190
  have e_192 : g_56 4 = .inl (t.1, 8, .inl zz) := (o_58 _ (by omega)).trans e_191
  have e_193 : g_59 4 = .inl (t.1, 8, .inl zz) := (o_61 _ (by omega)).trans e_192
  have e_194 : g_62 4 = .inl (t.1, 8, .inl zz) := (o_64 _ (by omega)).trans e_193
  have e_195 : g_71 4 = .inl (t.1, 8, .inl zz) := (o_73 _ (by omega)).trans e_194
  have e_196 : g_74 4 = .inl (t.1, 8, .inl zz) := (o_76 _ (by omega)).trans e_195
  have e_197 : g_77 4 = .inl (t.1, 8, .inl zz) := (o_79 _ (by omega)).trans e_196
  have e_198 : g_86 4 = .inl (t.1, 8, .inl zz) := (o_88 _ (by omega)).trans e_197
  have e_199 : g_89 4 = .inl (t.1, 8, .inl zz) := (o_91 _ (by omega)).trans e_198
  have e_200 : g_92 4 = .inl (t.1, 8, .inl zz) := (o_94 _ (by omega)).trans e_199
  have e_201 : g_97 4 = .inl (t.1, 8, .inl zz) := (o_99 _ (by omega)).trans e_200
  have e_202 : g_100 4 = .inl (t.1, 8, .inl zz) := (o_102 _ (by omega)).trans e_201
  have e_203 : g_103 4 = .inl (t.1, 8, .inl zz) := (o_105 _ (by omega)).trans e_202
  have e_204 : g_108 4 = .inl (t.1, 8, .inl zz) := (o_110 _ (by omega)).trans e_203
  have e_205 : g_111 4 = .inl (t.1, 8, .inl zz) := (o_113 _ (by omega)).trans e_204
  have e_206 : g_25 5 = .inr (6, [.int 15, .int 1, .int 0]) := (o_27 _ (by omega)).trans e_22
  have e_207 : g_28 5 = .inr (6, [.int 15, .int 1, .int 0]) := (o_30 _ (by omega)).trans e_206
  have e_208 : g_31 5 = .inr (6, [.int 15, .int 1, .int 0]) := (o_33 _ (by omega)).trans e_207
  have e_209 : g_39 5 = .inr (6, [.int 15, .int 1, .int 0]) := (o_41 _ (by omega)).trans e_208
  have e_210 : g_42 5 = .inr (6, [.int 15, .int 1, .int 0]) := (o_44 _ (by omega)).trans e_209
  have e_211 : g_45 5 = .inr (6, [.int 15, .int 1, .int 0]) := (o_47 _ (by omega)).trans e_210
  have e_212 : g_56 5 = .inr (6, [.int 15, .int 1, .int 0]) := (o_58 _ (by omega)).trans e_211
  have e_213 : g_59 5 = .inr (6, [.int 15, .int 1, .int 0]) := (o_61 _ (by omega)).trans e_212
  have e_214 : g_62 5 = .inr (6, [.int 15, .int 1, .int 0]) := (o_64 _ (by omega)).trans e_213
  have e_215 : g_71 5 = .inr (6, [.int 15, .int 1, .int 0]) := (o_73 _ (by omega)).trans e_214
  have e_216 : g_74 5 = .inr (6, [.int 15, .int 1, .int 0]) := (o_76 _ (by omega)).trans e_215
  have e_217 : g_77 5 = .inr (6, [.int 15, .int 1, .int 0]) := (o_79 _ (by omega)).trans e_216
  have e_218 : g_86 5 = .inr (6, [.int 15, .int 1, .int 0]) := (o_88 _ (by omega)).trans e_217
  have e_219 : g_89 5 = .inr (6, [.int 15, .int 1, .int 0]) := (o_91 _ (by omega)).trans e_218
  have e_220 : g_92 5 = .inr (6, [.int 15, .int 1, .int 0]) := (o_94 _ (by omega)).trans e_219
  have e_221 : g_97 5 = .inr (6, [.int 15, .int 1, .int 0]) := (o_99 _ (by omega)).trans e_220
  have e_222 : g_100 5 = .inr (6, [.int 15, .int 1, .int 0]) := (o_102 _ (by omega)).trans e_221
  have e_223 : g_103 5 = .inr (6, [.int 15, .int 1, .int 0]) := (o_105 _ (by omega)).trans e_222
  have e_224 : g_108 5 = .inr (6, [.int 15, .int 1, .int 0]) := (o_110 _ (by omega)).trans e_223
  have e_225 : g_111 5 = .inr (6, [.int 15, .int 1, .int 0]) := (o_113 _ (by omega)).trans e_224
  have e_226 : g_39 6 = .inr (1, [.ref (B + 7), .ref (B + 8), .int 0]) := (o_41 _ (by omega)).trans e_34
  have e_227 : g_42 6 = .inr (1, [.ref (B + 7), .ref (B + 8), .int 0]) := (o_44 _ (by omega)).trans e_226
  have e_228 : g_45 6 = .inr (1, [.ref (B + 7), .ref (B + 8), .int 0]) := (o_47 _ (by omega)).trans e_227
  have e_229 : g_56 6 = .inr (1, [.ref (B + 7), .ref (B + 8), .int 0]) := (o_58 _ (by omega)).trans e_228
  have e_230 : g_59 6 = .inr (1, [.ref (B + 7), .ref (B + 8), .int 0]) := (o_61 _ (by omega)).trans e_229
  have e_231 : g_62 6 = .inr (1, [.ref (B + 7), .ref (B + 8), .int 0]) := (o_64 _ (by omega)).trans e_230
  have e_232 : g_71 6 = .inr (1, [.ref (B + 7), .ref (B + 8), .int 0]) := (o_73 _ (by omega)).trans e_231
  have e_233 : g_74 6 = .inr (1, [.ref (B + 7), .ref (B + 8), .int 0]) := (o_76 _ (by omega)).trans e_232
  have e_234 : g_77 6 = .inr (1, [.ref (B + 7), .ref (B + 8), .int 0]) := (o_79 _ (by omega)).trans e_233
  have e_235 : g_86 6 = .inr (1, [.ref (B + 7), .ref (B + 8), .int 0]) := (o_88 _ (by omega)).trans e_234
  have e_236 : g_89 6 = .inr (1, [.ref (B + 7), .ref (B + 8), .int 0]) := (o_91 _ (by omega)).trans e_235
  have e_237 : g_92 6 = .inr (1, [.ref (B + 7), .ref (B + 8), .int 0]) := (o_94 _ (by omega)).trans e_236
  have e_238 : g_97 6 = .inr (1, [.ref (B + 7), .ref (B + 8), .int 0]) := (o_99 _ (by omega)).trans e_237
  have e_239 : g_100 6 = .inr (1, [.ref (B + 7), .ref (B + 8), .int 0]) := (o_102 _ (by omega)).trans e_238
  have e_240 : g_103 6 = .inr (1, [.ref (B + 7), .ref (B + 8), .int 0]) := (o_105 _ (by omega)).trans e_239
  have e_241 : g_108 6 = .inr (1, [.ref (B + 7), .ref (B + 8), .int 0]) := (o_110 _ (by omega)).trans e_240
  have e_242 : g_111 6 = .inr (1, [.ref (B + 7), .ref (B + 8), .int 0]) := (o_113 _ (by omega)).trans e_241
  have e_243 : g_39 7 = .inl (t.1, 4, .inl zz) := (o_41 _ (by omega)).trans e_35
  have e_244 : g_42 7 = .inl (t.1, 4, .inl zz) := (o_44 _ (by omega)).trans e_243
  have e_245 : g_45 7 = .inl (t.1, 4, .inl zz) := (o_47 _ (by omega)).trans e_244
  have e_246 : g_56 7 = .inl (t.1, 4, .inl zz) := (o_58 _ (by omega)).trans e_245
  have e_247 : g_59 7 = .inl (t.1, 4, .inl zz) := (o_61 _ (by omega)).trans e_246
  have e_248 : g_62 7 = .inl (t.1, 4, .inl zz) := (o_64 _ (by omega)).trans e_247
  have e_249 : g_71 7 = .inl (t.1, 4, .inl zz) := (o_73 _ (by omega)).trans e_248
  have e_250 : g_74 7 = .inl (t.1, 4, .inl zz) := (o_76 _ (by omega)).trans e_249
  have e_251 : g_77 7 = .inl (t.1, 4, .inl zz) := (o_79 _ (by omega)).trans e_250
  have e_252 : g_86 7 = .inl (t.1, 4, .inl zz) := (o_88 _ (by omega)).trans e_251
  have e_253 : g_89 7 = .inl (t.1, 4, .inl zz) := (o_91 _ (by omega)).trans e_252
  have e_254 : g_92 7 = .inl (t.1, 4, .inl zz) := (o_94 _ (by omega)).trans e_253
  have e_255 : g_97 7 = .inl (t.1, 4, .inl zz) := (o_99 _ (by omega)).trans e_254
  have e_256 : g_100 7 = .inl (t.1, 4, .inl zz) := (o_102 _ (by omega)).trans e_255
  have e_257 : g_103 7 = .inl (t.1, 4, .inl zz) := (o_105 _ (by omega)).trans e_256
  have e_258 : g_108 7 = .inl (t.1, 4, .inl zz) := (o_110 _ (by omega)).trans e_257
  have e_259 : g_111 7 = .inl (t.1, 4, .inl zz) := (o_113 _ (by omega)).trans e_258
  have e_260 : g_39 8 = .inl (t.1, 8, .inl zz) := (o_41 _ (by omega)).trans e_36
  have e_261 : g_42 8 = .inl (t.1, 8, .inl zz) := (o_44 _ (by omega)).trans e_260
  have e_262 : g_45 8 = .inl (t.1, 8, .inl zz) := (o_47 _ (by omega)).trans e_261
  have e_263 : g_56 8 = .inl (t.1, 8, .inl zz) := (o_58 _ (by omega)).trans e_262
  have e_264 : g_59 8 = .inl (t.1, 8, .inl zz) := (o_61 _ (by omega)).trans e_263
  have e_265 : g_62 8 = .inl (t.1, 8, .inl zz) := (o_64 _ (by omega)).trans e_264
  have e_266 : g_71 8 = .inl (t.1, 8, .inl zz) := (o_73 _ (by omega)).trans e_265
  have e_267 : g_74 8 = .inl (t.1, 8, .inl zz) := (o_76 _ (by omega)).trans e_266
  have e_268 : g_77 8 = .inl (t.1, 8, .inl zz) := (o_79 _ (by omega)).trans e_267
  have e_269 : g_86 8 = .inl (t.1, 8, .inl zz) := (o_88 _ (by omega)).trans e_268
  have e_270 : g_89 8 = .inl (t.1, 8, .inl zz) := (o_91 _ (by omega)).trans e_269
  have e_271 : g_92 8 = .inl (t.1, 8, .inl zz) := (o_94 _ (by omega)).trans e_270
  have e_272 : g_97 8 = .inl (t.1, 8, .inl zz) := (o_99 _ (by omega)).trans e_271
  have e_273 : g_100 8 = .inl (t.1, 8, .inl zz) := (o_102 _ (by omega)).trans e_272
  have e_274 : g_103 8 = .inl (t.1, 8, .inl zz) := (o_105 _ (by omega)).trans e_273
  have e_275 : g_108 8 = .inl (t.1, 8, .inl zz) := (o_110 _ (by omega)).trans e_274
  have e_276 : g_111 8 = .inl (t.1, 8, .inl zz) := (o_113 _ (by omega)).trans e_275
  have e_277 : g_56 9 = .inr (5, [.ref (B + 10), .ref (B + 11), .ref (B + 12), .ref (B + 13), .ref (B + 14), .int (nI 0), .int 0, .int 0, .int 0, .int 0]) := (o_58 _ (by omega)).trans e_48
  have e_278 : g_59 9 = .inr (5, [.ref (B + 10), .ref (B + 11), .ref (B + 12), .ref (B + 13), .ref (B + 14), .int (nI 0), .int 0, .int 0, .int 0, .int 0]) := (o_61 _ (by omega)).trans e_277
  have e_279 : g_62 9 = .inr (5, [.ref (B + 10), .ref (B + 11), .ref (B + 12), .ref (B + 13), .ref (B + 14), .int (nI 0), .int 0, .int 0, .int 0, .int 0]) := (o_64 _ (by omega)).trans e_278
  have e_280 : g_71 9 = .inr (5, [.ref (B + 10), .ref (B + 11), .ref (B + 12), .ref (B + 13), .ref (B + 14), .int (nI 0), .int 0, .int 0, .int 0, .int 0]) := (o_73 _ (by omega)).trans e_279
  have e_281 : g_74 9 = .inr (5, [.ref (B + 10), .ref (B + 11), .ref (B + 12), .ref (B + 13), .ref (B + 14), .int (nI 0), .int 0, .int 0, .int 0, .int 0]) := (o_76 _ (by omega)).trans e_280
  have e_282 : g_77 9 = .inr (5, [.ref (B + 10), .ref (B + 11), .ref (B + 12), .ref (B + 13), .ref (B + 14), .int (nI 0), .int 0, .int 0, .int 0, .int 0]) := (o_79 _ (by omega)).trans e_281
  have e_283 : g_86 9 = .inr (5, [.ref (B + 10), .ref (B + 11), .ref (B + 12), .ref (B + 13), .ref (B + 14), .int (nI 0), .int 0, .int 0, .int 0, .int 0]) := (o_88 _ (by omega)).trans e_282
  have e_284 : g_89 9 = .inr (5, [.ref (B + 10), .ref (B + 11), .ref (B + 12), .ref (B + 13), .ref (B + 14), .int (nI 0), .int 0, .int 0, .int 0, .int 0]) := (o_91 _ (by omega)).trans e_283
  have e_285 : g_92 9 = .inr (5, [.ref (B + 10), .ref (B + 11), .ref (B + 12), .ref (B + 13), .ref (B + 14), .int (nI 0), .int 0, .int 0, .int 0, .int 0]) := (o_94 _ (by omega)).trans e_284
  have e_286 : g_97 9 = .inr (5, [.ref (B + 10), .ref (B + 11), .ref (B + 12), .ref (B + 13), .ref (B + 14), .int (nI 0), .int 0, .int 0, .int 0, .int 0]) := (o_99 _ (by omega)).trans e_285
  have e_287 : g_100 9 = .inr (5, [.ref (B + 10), .ref (B + 11), .ref (B + 12), .ref (B + 13), .ref (B + 14), .int (nI 0), .int 0, .int 0, .int 0, .int 0]) := (o_102 _ (by omega)).trans e_286
  have e_288 : g_103 9 = .inr (5, [.ref (B + 10), .ref (B + 11), .ref (B + 12), .ref (B + 13), .ref (B + 14), .int (nI 0), .int 0, .int 0, .int 0, .int 0]) := (o_105 _ (by omega)).trans e_287
  have e_289 : g_108 9 = .inr (5, [.ref (B + 10), .ref (B + 11), .ref (B + 12), .ref (B + 13), .ref (B + 14), .int (nI 0), .int 0, .int 0, .int 0, .int 0]) := (o_110 _ (by omega)).trans e_288
  have e_290 : g_111 9 = .inr (5, [.ref (B + 10), .ref (B + 11), .ref (B + 12), .ref (B + 13), .ref (B + 14), .int (nI 0), .int 0, .int 0, .int 0, .int 0]) := (o_113 _ (by omega)).trans e_289
  have e_291 : g_56 10 = .inl (t.1, 40, .inl zz) := (o_58 _ (by omega)).trans e_49
  have e_292 : g_59 10 = .inl (t.1, 40, .inl zz) := (o_61 _ (by omega)).trans e_291
  have e_293 : g_62 10 = .inl (t.1, 40, .inl zz) := (o_64 _ (by omega)).trans e_292
  have e_294 : g_71 10 = .inl (t.1, 40, .inl zz) := (o_73 _ (by omega)).trans e_293
  have e_295 : g_74 10 = .inl (t.1, 40, .inl zz) := (o_76 _ (by omega)).trans e_294
  have e_296 : g_77 10 = .inl (t.1, 40, .inl zz) := (o_79 _ (by omega)).trans e_295
  have e_297 : g_86 10 = .inl (t.1, 40, .inl zz) := (o_88 _ (by omega)).trans e_296
  have e_298 : g_89 10 = .inl (t.1, 40, .inl zz) := (o_91 _ (by omega)).trans e_297
  have e_299 : g_92 10 = .inl (t.1, 40, .inl zz) := (o_94 _ (by omega)).trans e_298
  have e_300 : g_97 10 = .inl (t.1, 40, .inl zz) := (o_99 _ (by omega)).trans e_299
  have e_301 : g_100 10 = .inl (t.1, 40, .inl zz) := (o_102 _ (by omega)).trans e_300
  have e_302 : g_103 10 = .inl (t.1, 40, .inl zz) := (o_105 _ (by omega)).trans e_301
  have e_303 : g_108 10 = .inl (t.1, 40, .inl zz) := (o_110 _ (by omega)).trans e_302
  have e_304 : g_111 10 = .inl (t.1, 40, .inl zz) := (o_113 _ (by omega)).trans e_303
  have e_305 : g_56 11 = .inl (t.1, 40, .inl zz) := (o_58 _ (by omega)).trans e_50
  have e_306 : g_59 11 = .inl (t.1, 40, .inl zz) := (o_61 _ (by omega)).trans e_305
  have e_307 : g_62 11 = .inl (t.1, 40, .inl zz) := (o_64 _ (by omega)).trans e_306
  have e_308 : g_71 11 = .inl (t.1, 40, .inl zz) := (o_73 _ (by omega)).trans e_307
  have e_309 : g_74 11 = .inl (t.1, 40, .inl zz) := (o_76 _ (by omega)).trans e_308
  have e_310 : g_77 11 = .inl (t.1, 40, .inl zz) := (o_79 _ (by omega)).trans e_309
  have e_311 : g_86 11 = .inl (t.1, 40, .inl zz) := (o_88 _ (by omega)).trans e_310
  have e_312 : g_89 11 = .inl (t.1, 40, .inl zz) := (o_91 _ (by omega)).trans e_311
  have e_313 : g_92 11 = .inl (t.1, 40, .inl zz) := (o_94 _ (by omega)).trans e_312
  have e_314 : g_97 11 = .inl (t.1, 40, .inl zz) := (o_99 _ (by omega)).trans e_313
  have e_315 : g_100 11 = .inl (t.1, 40, .inl zz) := (o_102 _ (by omega)).trans e_314
  have e_316 : g_103 11 = .inl (t.1, 40, .inl zz) := (o_105 _ (by omega)).trans e_315
  have e_317 : g_108 11 = .inl (t.1, 40, .inl zz) := (o_110 _ (by omega)).trans e_316
  have e_318 : g_111 11 = .inl (t.1, 40, .inl zz) := (o_113 _ (by omega)).trans e_317
  have e_319 : g_56 12 = .inl (t.1, 40, .inl zz) := (o_58 _ (by omega)).trans e_51
  have e_320 : g_59 12 = .inl (t.1, 40, .inl zz) := (o_61 _ (by omega)).trans e_319
  have e_321 : g_62 12 = .inl (t.1, 40, .inl zz) := (o_64 _ (by omega)).trans e_320
  have e_322 : g_71 12 = .inl (t.1, 40, .inl zz) := (o_73 _ (by omega)).trans e_321
  have e_323 : g_74 12 = .inl (t.1, 40, .inl zz) := (o_76 _ (by omega)).trans e_322
  have e_324 : g_77 12 = .inl (t.1, 40, .inl zz) := (o_79 _ (by omega)).trans e_323
  have e_325 : g_86 12 = .inl (t.1, 40, .inl zz) := (o_88 _ (by omega)).trans e_324
  have e_326 : g_89 12 = .inl (t.1, 40, .inl zz) := (o_91 _ (by omega)).trans e_325
  have e_327 : g_92 12 = .inl (t.1, 40, .inl zz) := (o_94 _ (by omega)).trans e_326
  have e_328 : g_97 12 = .inl (t.1, 40, .inl zz) := (o_99 _ (by omega)).trans e_327
  have e_329 : g_100 12 = .inl (t.1, 40, .inl zz) := (o_102 _ (by omega)).trans e_328
  have e_330 : g_103 12 = .inl (t.1, 40, .inl zz) := (o_105 _ (by omega)).trans e_329
  have e_331 : g_108 12 = .inl (t.1, 40, .inl zz) := (o_110 _ (by omega)).trans e_330
  have e_332 : g_111 12 = .inl (t.1, 40, .inl zz) := (o_113 _ (by omega)).trans e_331
  have e_333 : g_56 13 = .inl (t.1, 8, .inl zz) := (o_58 _ (by omega)).trans e_52
  have e_334 : g_59 13 = .inl (t.1, 8, .inl zz) := (o_61 _ (by omega)).trans e_333
  have e_335 : g_62 13 = .inl (t.1, 8, .inl zz) := (o_64 _ (by omega)).trans e_334
  have e_336 : g_71 13 = .inl (t.1, 8, .inl zz) := (o_73 _ (by omega)).trans e_335
  have e_337 : g_74 13 = .inl (t.1, 8, .inl zz) := (o_76 _ (by omega)).trans e_336
  have e_338 : g_77 13 = .inl (t.1, 8, .inl zz) := (o_79 _ (by omega)).trans e_337
  have e_339 : g_86 13 = .inl (t.1, 8, .inl zz) := (o_88 _ (by omega)).trans e_338
  have e_340 : g_89 13 = .inl (t.1, 8, .inl zz) := (o_91 _ (by omega)).trans e_339
  have e_341 : g_92 13 = .inl (t.1, 8, .inl zz) := (o_94 _ (by omega)).trans e_340
  have e_342 : g_97 13 = .inl (t.1, 8, .inl zz) := (o_99 _ (by omega)).trans e_341
  have e_343 : g_100 13 = .inl (t.1, 8, .inl zz) := (o_102 _ (by omega)).trans e_342
  have e_344 : g_103 13 = .inl (t.1, 8, .inl zz) := (o_105 _ (by omega)).trans e_343
  have e_345 : g_108 13 = .inl (t.1, 8, .inl zz) := (o_110 _ (by omega)).trans e_344
  have e_346 : g_111 13 = .inl (t.1, 8, .inl zz) := (o_113 _ (by omega)).trans e_345
  have e_347 : g_56 14 = .inl (t.1, 8, .inl zz) := (o_58 _ (by omega)).trans e_53
  have e_348 : g_59 14 = .inl (t.1, 8, .inl zz) := (o_61 _ (by omega)).trans e_347
  have e_349 : g_62 14 = .inl (t.1, 8, .inl zz) := (o_64 _ (by omega)).trans e_348
  have e_350 : g_71 14 = .inl (t.1, 8, .inl zz) := (o_73 _ (by omega)).trans e_349
  have e_351 : g_74 14 = .inl (t.1, 8, .inl zz) := (o_76 _ (by omega)).trans e_350
  have e_352 : g_77 14 = .inl (t.1, 8, .inl zz) := (o_79 _ (by omega)).trans e_351
  have e_353 : g_86 14 = .inl (t.1, 8, .inl zz) := (o_88 _ (by omega)).trans e_352
  have e_354 : g_89 14 = .inl (t.1, 8, .inl zz) := (o_91 _ (by omega)).trans e_353
  have e_355 : g_92 14 = .inl (t.1, 8, .inl zz) := (o_94 _ (by omega)).trans e_354
  have e_356 : g_97 14 = .inl (t.1, 8, .inl zz) := (o_99 _ (by omega)).trans e_355
  have e_357 : g_100 14 = .inl (t.1, 8, .inl zz) := (o_102 _ (by omega)).trans e_356
  have e_358 : g_103 14 = .inl (t.1, 8, .inl zz) := (o_105 _ (by omega)).trans e_357
  have e_359 : g_108 14 = .inl (t.1, 8, .inl zz) := (o_110 _ (by omega)).trans e_358
  have e_360 : g_111 14 = .inl (t.1, 8, .inl zz) := (o_113 _ (by omega)).trans e_359
  have e_361 : g_71 15 = .inr (4, [.ref (B + 16), .ref (B + 17), .ref (B + 18), .int (nI 0)]) := (o_73 _ (by omega)).trans e_65
  have e_362 : g_74 15 = .inr (4, [.ref (B + 16), .ref (B + 17), .ref (B + 18), .int (nI 0)]) := (o_76 _ (by omega)).trans e_361
  have e_363 : g_77 15 = .inr (4, [.ref (B + 16), .ref (B + 17), .ref (B + 18), .int (nI 0)]) := (o_79 _ (by omega)).trans e_362
  have e_364 : g_86 15 = .inr (4, [.ref (B + 16), .ref (B + 17), .ref (B + 18), .int (nI 0)]) := (o_88 _ (by omega)).trans e_363
  have e_365 : g_89 15 = .inr (4, [.ref (B + 16), .ref (B + 17), .ref (B + 18), .int (nI 0)]) := (o_91 _ (by omega)).trans e_364
  have e_366 : g_92 15 = .inr (4, [.ref (B + 16), .ref (B + 17), .ref (B + 18), .int (nI 0)]) := (o_94 _ (by omega)).trans e_365
  have e_367 : g_97 15 = .inr (4, [.ref (B + 16), .ref (B + 17), .ref (B + 18), .int (nI 0)]) := (o_99 _ (by omega)).trans e_366
  have e_368 : g_100 15 = .inr (4, [.ref (B + 16), .ref (B + 17), .ref (B + 18), .int (nI 0)]) := (o_102 _ (by omega)).trans e_367
  have e_369 : g_103 15 = .inr (4, [.ref (B + 16), .ref (B + 17), .ref (B + 18), .int (nI 0)]) := (o_105 _ (by omega)).trans e_368
  have e_370 : g_108 15 = .inr (4, [.ref (B + 16), .ref (B + 17), .ref (B + 18), .int (nI 0)]) := (o_110 _ (by omega)).trans e_369
  have e_371 : g_111 15 = .inr (4, [.ref (B + 16), .ref (B + 17), .ref (B + 18), .int (nI 0)]) := (o_113 _ (by omega)).trans e_370
  have e_372 : g_71 16 = .inl (t.1, 42, .inl zz) := (o_73 _ (by omega)).trans e_66
  have e_373 : g_74 16 = .inl (t.1, 42, .inl zz) := (o_76 _ (by omega)).trans e_372
  have e_374 : g_77 16 = .inl (t.1, 42, .inl zz) := (o_79 _ (by omega)).trans e_373
  have e_375 : g_86 16 = .inl (t.1, 42, .inl zz) := (o_88 _ (by omega)).trans e_374
  have e_376 : g_89 16 = .inl (t.1, 42, .inl zz) := (o_91 _ (by omega)).trans e_375
  have e_377 : g_92 16 = .inl (t.1, 42, .inl zz) := (o_94 _ (by omega)).trans e_376
  have e_378 : g_97 16 = .inl (t.1, 42, .inl zz) := (o_99 _ (by omega)).trans e_377
  have e_379 : g_100 16 = .inl (t.1, 42, .inl zz) := (o_102 _ (by omega)).trans e_378
  have e_380 : g_103 16 = .inl (t.1, 42, .inl zz) := (o_105 _ (by omega)).trans e_379
  have e_381 : g_108 16 = .inl (t.1, 42, .inl zz) := (o_110 _ (by omega)).trans e_380
  have e_382 : g_111 16 = .inl (t.1, 42, .inl zz) := (o_113 _ (by omega)).trans e_381
  have e_383 : g_71 17 = .inl (t.1, 42, .inl zz) := (o_73 _ (by omega)).trans e_67
  have e_384 : g_74 17 = .inl (t.1, 42, .inl zz) := (o_76 _ (by omega)).trans e_383
  have e_385 : g_77 17 = .inl (t.1, 42, .inl zz) := (o_79 _ (by omega)).trans e_384
  have e_386 : g_86 17 = .inl (t.1, 42, .inl zz) := (o_88 _ (by omega)).trans e_385
  have e_387 : g_89 17 = .inl (t.1, 42, .inl zz) := (o_91 _ (by omega)).trans e_386
  have e_388 : g_92 17 = .inl (t.1, 42, .inl zz) := (o_94 _ (by omega)).trans e_387
  have e_389 : g_97 17 = .inl (t.1, 42, .inl zz) := (o_99 _ (by omega)).trans e_388
  have e_390 : g_100 17 = .inl (t.1, 42, .inl zz) := (o_102 _ (by omega)).trans e_389
  have e_391 : g_103 17 = .inl (t.1, 42, .inl zz) := (o_105 _ (by omega)).trans e_390
  have e_392 : g_108 17 = .inl (t.1, 42, .inl zz) := (o_110 _ (by omega)).trans e_391
  have e_393 : g_111 17 = .inl (t.1, 42, .inl zz) := (o_113 _ (by omega)).trans e_392
  have e_394 : g_71 18 = .inl (t.1, 42, .inl zz) := (o_73 _ (by omega)).trans e_68
  have e_395 : g_74 18 = .inl (t.1, 42, .inl zz) := (o_76 _ (by omega)).trans e_394
  have e_396 : g_77 18 = .inl (t.1, 42, .inl zz) := (o_79 _ (by omega)).trans e_395
  have e_397 : g_86 18 = .inl (t.1, 42, .inl zz) := (o_88 _ (by omega)).trans e_396
  have e_398 : g_89 18 = .inl (t.1, 42, .inl zz) := (o_91 _ (by omega)).trans e_397
  have e_399 : g_92 18 = .inl (t.1, 42, .inl zz) := (o_94 _ (by omega)).trans e_398
  have e_400 : g_97 18 = .inl (t.1, 42, .inl zz) := (o_99 _ (by omega)).trans e_399
  have e_401 : g_100 18 = .inl (t.1, 42, .inl zz) := (o_102 _ (by omega)).trans e_400
  have e_402 : g_103 18 = .inl (t.1, 42, .inl zz) := (o_105 _ (by omega)).trans e_401
  have e_403 : g_108 18 = .inl (t.1, 42, .inl zz) := (o_110 _ (by omega)).trans e_402
  have e_404 : g_111 18 = .inl (t.1, 42, .inl zz) := (o_113 _ (by omega)).trans e_403
  have e_405 : g_86 19 = .inr (4, [.ref (B + 20), .ref (B + 21), .ref (B + 22), .int (nI 0)]) := (o_88 _ (by omega)).trans e_80
  have e_406 : g_89 19 = .inr (4, [.ref (B + 20), .ref (B + 21), .ref (B + 22), .int (nI 0)]) := (o_91 _ (by omega)).trans e_405
  have e_407 : g_92 19 = .inr (4, [.ref (B + 20), .ref (B + 21), .ref (B + 22), .int (nI 0)]) := (o_94 _ (by omega)).trans e_406
  have e_408 : g_97 19 = .inr (4, [.ref (B + 20), .ref (B + 21), .ref (B + 22), .int (nI 0)]) := (o_99 _ (by omega)).trans e_407
  have e_409 : g_100 19 = .inr (4, [.ref (B + 20), .ref (B + 21), .ref (B + 22), .int (nI 0)]) := (o_102 _ (by omega)).trans e_408
  have e_410 : g_103 19 = .inr (4, [.ref (B + 20), .ref (B + 21), .ref (B + 22), .int (nI 0)]) := (o_105 _ (by omega)).trans e_409
  have e_411 : g_108 19 = .inr (4, [.ref (B + 20), .ref (B + 21), .ref (B + 22), .int (nI 0)]) := (o_110 _ (by omega)).trans e_410
  have e_412 : g_111 19 = .inr (4, [.ref (B + 20), .ref (B + 21), .ref (B + 22), .int (nI 0)]) := (o_113 _ (by omega)).trans e_411
  have e_413 : g_86 20 = .inl (t.1, 42, .inl zz) := (o_88 _ (by omega)).trans e_81
  have e_414 : g_89 20 = .inl (t.1, 42, .inl zz) := (o_91 _ (by omega)).trans e_413
  have e_415 : g_92 20 = .inl (t.1, 42, .inl zz) := (o_94 _ (by omega)).trans e_414
  have e_416 : g_97 20 = .inl (t.1, 42, .inl zz) := (o_99 _ (by omega)).trans e_415
  have e_417 : g_100 20 = .inl (t.1, 42, .inl zz) := (o_102 _ (by omega)).trans e_416
  have e_418 : g_103 20 = .inl (t.1, 42, .inl zz) := (o_105 _ (by omega)).trans e_417
  have e_419 : g_108 20 = .inl (t.1, 42, .inl zz) := (o_110 _ (by omega)).trans e_418
  have e_420 : g_111 20 = .inl (t.1, 42, .inl zz) := (o_113 _ (by omega)).trans e_419
  have e_421 : g_86 21 = .inl (t.1, 42, .inl zz) := (o_88 _ (by omega)).trans e_82
  have e_422 : g_89 21 = .inl (t.1, 42, .inl zz) := (o_91 _ (by omega)).trans e_421
  have e_423 : g_92 21 = .inl (t.1, 42, .inl zz) := (o_94 _ (by omega)).trans e_422
  have e_424 : g_97 21 = .inl (t.1, 42, .inl zz) := (o_99 _ (by omega)).trans e_423
  have e_425 : g_100 21 = .inl (t.1, 42, .inl zz) := (o_102 _ (by omega)).trans e_424
  have e_426 : g_103 21 = .inl (t.1, 42, .inl zz) := (o_105 _ (by omega)).trans e_425
  have e_427 : g_108 21 = .inl (t.1, 42, .inl zz) := (o_110 _ (by omega)).trans e_426
  have e_428 : g_111 21 = .inl (t.1, 42, .inl zz) := (o_113 _ (by omega)).trans e_427
  have e_429 : g_86 22 = .inl (t.1, 42, .inl zz) := (o_88 _ (by omega)).trans e_83
  have e_430 : g_89 22 = .inl (t.1, 42, .inl zz) := (o_91 _ (by omega)).trans e_429
  have e_431 : g_92 22 = .inl (t.1, 42, .inl zz) := (o_94 _ (by omega)).trans e_430
  have e_432 : g_97 22 = .inl (t.1, 42, .inl zz) := (o_99 _ (by omega)).trans e_431
  have e_433 : g_100 22 = .inl (t.1, 42, .inl zz) := (o_102 _ (by omega)).trans e_432
  have e_434 : g_103 22 = .inl (t.1, 42, .inl zz) := (o_105 _ (by omega)).trans e_433
  have e_435 : g_108 22 = .inl (t.1, 42, .inl zz) := (o_110 _ (by omega)).trans e_434
  have e_436 : g_111 22 = .inl (t.1, 42, .inl zz) := (o_113 _ (by omega)).trans e_435
  exact r_vret C hr hlocks hS ⟨⟨e_136, e_159, e_182, e_205⟩, by omega, e_225, scr0 ⟨_, e_112⟩ ⟨e_242, e_259, e_276⟩ ⟨e_290, e_304, e_318, e_332, e_346, e_360⟩ ⟨e_371, e_382, e_393, e_404⟩ ⟨e_412, e_420, e_428, e_436⟩ (x2_keep X2p (fun j h1 h2 => (o_113 j (by omega)).trans ((o_110 j (by omega)).trans ((o_105 j (by omega)).trans ((o_102 j (by omega)).trans ((o_99 j (by omega)))))))) (x0_keep X0p (fun j h1 h2 => (o_113 j (by omega)).trans ((o_110 j (by omega)))))⟩ dX7_init_97
set_option maxHeartbeats 1000000 in
set_option maxRecDepth 100000 in
theorem c_X8_init (l : Launch) (D : va_G) (t : Gx) (B : Nat) (g : Nat → va_E) (e0 : g 220 = .inr (8, [.int 0, .int 0, .null, .null, .null, .int 0, .int 0, .int 0, .null, .null, .null, .null, .null, .null, .null, .null, .null, .null, .null, .null, .null, .int 0, .int 0])) : Cv l D t B 221 237 16 31798 yX8_init cX8_init 1 1 12 g [.ref (B + 220)] (fun g' => Msh t B g' 0 15 1 0 zz (upd (upd (upd (upd (upd (upd (upd (upd (upd (upd zz 0 1) 1 1) 2 1) 3 1) 4 1) 5 1) 6 1) 7 1) 8 1) 9 1) zz ∧ ∀ j, j < 220 → g' j = g j) := by
  refine Cv.start (by decide) (Nat.le_of_ble_eq_true rfl) ?_
  intro p e s m below meth c ls C hr hlocks hnm hS hl
  replace C : Cx D t p s m [.ref (B + 220)].toArray c cX8_init 1 RX8 := C
  replace hl : lv_has ls 1 [(0, .ref (B + 220))] := hl
  refine lv_aload_n C.x C.b dX8_init_0 rfl (lv_at hl 0 rfl) ?_
  refine r_objInit mlX8_1 im_objectInit co_objectInit C hl.1 dX8_init_1 (by decide) (by decide) ?_
  refine lv_aload_n C.x C.b dX8_init_4 rfl (lv_at hl 0 rfl) ?_
  refine lv_bipush (v := 10) C.x C.b dX8_init_5 (by decide) ?_
  refine r_newI (n' := 10) ac_int C hS rfl (by decide) (by decide) (by decide) dX8_init_7 (fun g_1 H e_2 o_3 hS => ?_)
  replace e_2 : g_1 221 = .inl (t.1, 10, .inl zz) := e_2
  replace hS : St D B s.heap 222 g_1 H _ := hS
  have e_4 : g_1 220 = .inr (8, [.int 0, .int 0, .null, .null, .null, .int 0, .int 0, .int 0, .null, .null, .null, .null, .null, .null, .null, .null, .null, .null, .null, .null, .null, .int 0, .int 0]) := (o_3 _ (by omega)).trans e0
  refine r_putF ck8 flX8_7 C hS (by omega) e_4 (by decide) rfl hnm rfl rfl rfl (Nat.le_of_ble_eq_true rfl) dX8_init_9 (fun g_5 H locs e_6 o_7 hS => ?_)
  replace e_6 : g_5 220 = .inr (8, [.int 0, .int 0, .ref (B + 221), .null, .null, .int 0, .int 0, .int 0, .null, .null, .null, .null, .null, .null, .null, .null, .null, .null, .null, .null, .null, .int 0, .int 0]) := e_6
  refine lv_aload_n C.x C.b dX8_init_12 rfl (lv_at hl 0 rfl) ?_
  refine lv_bipush (v := 10) C.x C.b dX8_init_13 (by decide) ?_
  refine r_newI (n' := 10) ac_int C hS rfl (by decide) (by decide) (by decide) dX8_init_15 (fun g_8 H e_9 o_10 hS => ?_)
  replace e_9 : g_8 222 = .inl (t.1, 10, .inl zz) := e_9
  replace hS : St D B s.heap 223 g_8 H _ := hS
  refine lv_dup C.x C.b dX8_init_17 rfl ?_
  refine lv_iconst (v := 0) C.x C.b dX8_init_18 (by decide) ?_
  refine lv_iconst (v := 1) C.x C.b dX8_init_19 (by decide) ?_
  refine r_iastN 0 rfl (by omega) (by decide) C hS (by omega) e_9 dX8_init_20 (fun g_11 H locs e_12 o_13 hS => ?_)
  replace e_12 : g_11 222 = .inl (t.1, 10, .inl (upd zz 0 1)) := e_12
  refine lv_dup C.x C.b dX8_init_21 rfl ?_
  refine lv_iconst (v := 1) C.x C.b dX8_init_22 (by decide) ?_
  refine lv_iconst (v := 1) C.x C.b dX8_init_23 (by decide) ?_
  refine r_iastN 1 rfl (by omega) (by decide) C hS (by omega) e_12 dX8_init_24 (fun g_14 H locs e_15 o_16 hS => ?_)
  replace e_15 : g_14 222 = .inl (t.1, 10, .inl (upd (upd zz 0 1) 1 1)) := e_15
  refine lv_dup C.x C.b dX8_init_25 rfl ?_
  refine lv_iconst (v := 2) C.x C.b dX8_init_26 (by decide) ?_
  refine lv_iconst (v := 1) C.x C.b dX8_init_27 (by decide) ?_
  refine r_iastN 2 rfl (by omega) (by decide) C hS (by omega) e_15 dX8_init_28 (fun g_17 H locs e_18 o_19 hS => ?_)
  replace e_18 : g_17 222 = .inl (t.1, 10, .inl (upd (upd (upd zz 0 1) 1 1) 2 1)) := e_18
  refine lv_dup C.x C.b dX8_init_29 rfl ?_
  refine lv_iconst (v := 3) C.x C.b dX8_init_30 (by decide) ?_
  refine lv_iconst (v := 1) C.x C.b dX8_init_31 (by decide) ?_
  refine r_iastN 3 rfl (by omega) (by decide) C hS (by omega) e_18 dX8_init_32 (fun g_20 H locs e_21 o_22 hS => ?_)
  replace e_21 : g_20 222 = .inl (t.1, 10, .inl (upd (upd (upd (upd zz 0 1) 1 1) 2 1) 3 1)) := e_21
  refine lv_dup C.x C.b dX8_init_33 rfl ?_
  refine lv_iconst (v := 4) C.x C.b dX8_init_34 (by decide) ?_
  refine lv_iconst (v := 1) C.x C.b dX8_init_35 (by decide) ?_
  refine r_iastN 4 rfl (by omega) (by decide) C hS (by omega) e_21 dX8_init_36 (fun g_23 H locs e_24 o_25 hS => ?_)
  replace e_24 : g_23 222 = .inl (t.1, 10, .inl (upd (upd (upd (upd (upd zz 0 1) 1 1) 2 1) 3 1) 4 1)) := e_24
  refine lv_dup C.x C.b dX8_init_37 rfl ?_
  refine lv_iconst (v := 5) C.x C.b dX8_init_38 (by decide) ?_
  refine lv_iconst (v := 1) C.x C.b dX8_init_39 (by decide) ?_
  refine r_iastN 5 rfl (by omega) (by decide) C hS (by omega) e_24 dX8_init_40 (fun g_26 H locs e_27 o_28 hS => ?_)
  replace e_27 : g_26 222 = .inl (t.1, 10, .inl (upd (upd (upd (upd (upd (upd zz 0 1) 1 1) 2 1) 3 1) 4 1) 5 1)) := e_27
  refine lv_dup C.x C.b dX8_init_41 rfl ?_
  refine lv_bipush (v := 6) C.x C.b dX8_init_42 (by decide) ?_
  refine lv_iconst (v := 1) C.x C.b dX8_init_44 (by decide) ?_
  refine r_iastN 6 rfl (by omega) (by decide) C hS (by omega) e_27 dX8_init_45 (fun g_29 H locs e_30 o_31 hS => ?_)
  replace e_30 : g_29 222 = .inl (t.1, 10, .inl (upd (upd (upd (upd (upd (upd (upd zz 0 1) 1 1) 2 1) 3 1) 4 1) 5 1) 6 1)) := e_30
  refine lv_dup C.x C.b dX8_init_46 rfl ?_
  refine lv_bipush (v := 7) C.x C.b dX8_init_47 (by decide) ?_
  refine lv_iconst (v := 1) C.x C.b dX8_init_49 (by decide) ?_
  refine r_iastN 7 rfl (by omega) (by decide) C hS (by omega) e_30 dX8_init_50 (fun g_32 H locs e_33 o_34 hS => ?_)
  replace e_33 : g_32 222 = .inl (t.1, 10, .inl (upd (upd (upd (upd (upd (upd (upd (upd zz 0 1) 1 1) 2 1) 3 1) 4 1) 5 1) 6 1) 7 1)) := e_33
  refine lv_dup C.x C.b dX8_init_51 rfl ?_
  refine lv_bipush (v := 8) C.x C.b dX8_init_52 (by decide) ?_
  refine lv_iconst (v := 1) C.x C.b dX8_init_54 (by decide) ?_
  refine r_iastN 8 rfl (by omega) (by decide) C hS (by omega) e_33 dX8_init_55 (fun g_35 H locs e_36 o_37 hS => ?_)
  replace e_36 : g_35 222 = .inl (t.1, 10, .inl (upd (upd (upd (upd (upd (upd (upd (upd (upd zz 0 1) 1 1) 2 1) 3 1) 4 1) 5 1) 6 1) 7 1) 8 1)) := e_36
  refine lv_dup C.x C.b dX8_init_56 rfl ?_
  refine lv_bipush (v := 9) C.x C.b dX8_init_57 (by decide) ?_
  refine lv_iconst (v := 1) C.x C.b dX8_init_59 (by decide) ?_
  refine r_iastN 9 rfl (by omega) (by decide) C hS (by omega) e_36 dX8_init_60 (fun g_38 H locs e_39 o_40 hS => ?_)
  replace e_39 : g_38 222 = .inl (t.1, 10, .inl (upd (upd (upd (upd (upd (upd (upd (upd (upd (upd zz 0 1) 1 1) 2 1) 3 1) 4 1) 5 1) 6 1) 7 1) 8 1) 9 1)) := e_39
  have e_41 : g_8 220 = .inr (8, [.int 0, .int 0, .ref (B + 221), .null, .null, .int 0, .int 0, .int 0, .null, .null, .null, .null, .null, .null, .null, .null, .null, .null, .null, .null, .null, .int 0, .int 0]) := (o_10 _ (by omega)).trans e_6
  have e_42 : g_11 220 = .inr (8, [.int 0, .int 0, .ref (B + 221), .null, .null, .int 0, .int 0, .int 0, .null, .null, .null, .null, .null, .null, .null, .null, .null, .null, .null, .null, .null, .int 0, .int 0]) := (o_13 _ (by omega)).trans e_41
  have e_43 : g_14 220 = .inr (8, [.int 0, .int 0, .ref (B + 221), .null, .null, .int 0, .int 0, .int 0, .null, .null, .null, .null, .null, .null, .null, .null, .null, .null, .null, .null, .null, .int 0, .int 0]) := (o_16 _ (by omega)).trans e_42
  have e_44 : g_17 220 = .inr (8, [.int 0, .int 0, .ref (B + 221), .null, .null, .int 0, .int 0, .int 0, .null, .null, .null, .null, .null, .null, .null, .null, .null, .null, .null, .null, .null, .int 0, .int 0]) := (o_19 _ (by omega)).trans e_43
  have e_45 : g_20 220 = .inr (8, [.int 0, .int 0, .ref (B + 221), .null, .null, .int 0, .int 0, .int 0, .null, .null, .null, .null, .null, .null, .null, .null, .null, .null, .null, .null, .null, .int 0, .int 0]) := (o_22 _ (by omega)).trans e_44
  have e_46 : g_23 220 = .inr (8, [.int 0, .int 0, .ref (B + 221), .null, .null, .int 0, .int 0, .int 0, .null, .null, .null, .null, .null, .null, .null, .null, .null, .null, .null, .null, .null, .int 0, .int 0]) := (o_25 _ (by omega)).trans e_45
  have e_47 : g_26 220 = .inr (8, [.int 0, .int 0, .ref (B + 221), .null, .null, .int 0, .int 0, .int 0, .null, .null, .null, .null, .null, .null, .null, .null, .null, .null, .null, .null, .null, .int 0, .int 0]) := (o_28 _ (by omega)).trans e_46
  have e_48 : g_29 220 = .inr (8, [.int 0, .int 0, .ref (B + 221), .null, .null, .int 0, .int 0, .int 0, .null, .null, .null, .null, .null, .null, .null, .null, .null, .null, .null, .null, .null, .int 0, .int 0]) := (o_31 _ (by omega)).trans e_47
  have e_49 : g_32 220 = .inr (8, [.int 0, .int 0, .ref (B + 221), .null, .null, .int 0, .int 0, .int 0, .null, .null, .null, .null, .null, .null, .null, .null, .null, .null, .null, .null, .null, .int 0, .int 0]) := (o_34 _ (by omega)).trans e_48
  have e_50 : g_35 220 = .inr (8, [.int 0, .int 0, .ref (B + 221), .null, .null, .int 0, .int 0, .int 0, .null, .null, .null, .null, .null, .null, .null, .null, .null, .null, .null, .null, .null, .int 0, .int 0]) := (o_37 _ (by omega)).trans e_49
  have e_51 : g_38 220 = .inr (8, [.int 0, .int 0, .ref (B + 221), .null, .null, .int 0, .int 0, .int 0, .null, .null, .null, .null, .null, .null, .null, .null, .null, .null, .null, .null, .null, .int 0, .int 0]) := (o_40 _ (by omega)).trans e_50
  refine r_putF ck8 flX8_13 C hS (by omega) e_51 (by decide) rfl hnm rfl rfl rfl (Nat.le_of_ble_eq_true rfl) dX8_init_61 (fun g_52 H locs e_53 o_54 hS => ?_)
  replace e_53 : g_52 220 = .inr (8, [.int 0, .int 0, .ref (B + 221), .ref (B + 222), .null, .int 0, .int 0, .int 0, .null, .null, .null, .null, .null, .null, .null, .null, .null, .null, .null, .null, .null, .int 0, .int 0]) := e_53
  refine lv_aload_n C.x C.b dX8_init_64 rfl (lv_at hl 0 rfl) ?_
  refine lv_bipush (v := 8) C.x C.b dX8_init_65 (by decide) ?_
  refine r_newI (n' := 8) ac_int C hS rfl (by decide) (by decide) (by decide) dX8_init_67 (fun g_55 H e_56 o_57 hS => ?_)
  replace e_56 : g_55 223 = .inl (t.1, 8, .inl zz) := e_56
  replace hS : St D B s.heap 224 g_55 H _ := hS
  have e_58 : g_55 220 = .inr (8, [.int 0, .int 0, .ref (B + 221), .ref (B + 222), .null, .int 0, .int 0, .int 0, .null, .null, .null, .null, .null, .null, .null, .null, .null, .null, .null, .null, .null, .int 0, .int 0]) := (o_57 _ (by omega)).trans e_53
  refine r_putF ck8 flX8_16 C hS (by omega) e_58 (by decide) rfl hnm rfl rfl rfl (Nat.le_of_ble_eq_true rfl) dX8_init_69 (fun g_59 H locs e_60 o_61 hS => ?_)
  replace e_60 : g_59 220 = .inr (8, [.int 0, .int 0, .ref (B + 221), .ref (B + 222), .ref (B + 223), .int 0, .int 0, .int 0, .null, .null, .null, .null, .null, .null, .null, .null, .null, .null, .null, .null, .null, .int 0, .int 0]) := e_60
  refine lv_aload_n C.x C.b dX8_init_72 rfl (lv_at hl 0 rfl) ?_
  refine lv_bipush (v := 15) C.x C.b dX8_init_73 (by decide) ?_
  refine r_put ck8 flX8_19 C hS (by omega) e_60 (by decide) rfl rfl rfl (Nat.le_of_ble_eq_true rfl) dX8_init_75 (fun g_62 H locs e_63 o_64 hS => ?_)
  replace e_63 : g_62 220 = .inr (8, [.int 0, .int 0, .ref (B + 221), .ref (B + 222), .ref (B + 223), .int 15, .int 0, .int 0, .null, .null, .null, .null, .null, .null, .null, .null, .null, .null, .null, .null, .null, .int 0, .int 0]) := e_63
  refine lv_aload_n C.x C.b dX8_init_78 rfl (lv_at hl 0 rfl) ?_
  refine lv_iconst (v := 1) C.x C.b dX8_init_79 (by decide) ?_
  refine r_put ck8 flX8_23 C hS (by omega) e_63 (by decide) rfl rfl rfl (Nat.le_of_ble_eq_true rfl) dX8_init_80 (fun g_65 H locs e_66 o_67 hS => ?_)
  replace e_66 : g_65 220 = .inr (8, [.int 0, .int 0, .ref (B + 221), .ref (B + 222), .ref (B + 223), .int 15, .int 1, .int 0, .null, .null, .null, .null, .null, .null, .null, .null, .null, .null, .null, .null, .null, .int 0, .int 0]) := e_66
  refine lv_aload_n C.x C.b dX8_init_83 rfl (lv_at hl 0 rfl) ?_
  refine lv_iconst (v := 4) C.x C.b dX8_init_84 (by decide) ?_
  refine r_newI (n' := 4) ac_int C hS rfl (by decide) (by decide) (by decide) dX8_init_85 (fun g_68 H e_69 o_70 hS => ?_)
  replace e_69 : g_68 224 = .inl (t.1, 4, .inl zz) := e_69
  replace hS : St D B s.heap 225 g_68 H _ := hS
  have e_71 : g_68 220 = .inr (8, [.int 0, .int 0, .ref (B + 221), .ref (B + 222), .ref (B + 223), .int 15, .int 1, .int 0, .null, .null, .null, .null, .null, .null, .null, .null, .null, .null, .null, .null, .null, .int 0, .int 0]) := (o_70 _ (by omega)).trans e_66
  refine r_putF ck8 flX8_26 C hS (by omega) e_71 (by decide) rfl hnm rfl rfl rfl (Nat.le_of_ble_eq_true rfl) dX8_init_87 (fun g_72 H locs e_73 o_74 hS => ?_)
  replace e_73 : g_72 220 = .inr (8, [.int 0, .int 0, .ref (B + 221), .ref (B + 222), .ref (B + 223), .int 15, .int 1, .int 0, .ref (B + 224), .null, .null, .null, .null, .null, .null, .null, .null, .null, .null, .null, .null, .int 0, .int 0]) := e_73
  refine lv_aload_n C.x C.b dX8_init_90 rfl (lv_at hl 0 rfl) ?_
  refine lv_bipush (v := 8) C.x C.b dX8_init_91 (by decide) ?_
  refine r_newI (n' := 8) ac_int C hS rfl (by decide) (by decide) (by decide) dX8_init_93 (fun g_75 H e_76 o_77 hS => ?_)
  replace e_76 : g_75 225 = .inl (t.1, 8, .inl zz) := e_76
  replace hS : St D B s.heap 226 g_75 H _ := hS
  have e_78 : g_75 220 = .inr (8, [.int 0, .int 0, .ref (B + 221), .ref (B + 222), .ref (B + 223), .int 15, .int 1, .int 0, .ref (B + 224), .null, .null, .null, .null, .null, .null, .null, .null, .null, .null, .null, .null, .int 0, .int 0]) := (o_77 _ (by omega)).trans e_73
  refine r_putF ck8 flX8_29 C hS (by omega) e_78 (by decide) rfl hnm rfl rfl rfl (Nat.le_of_ble_eq_true rfl) dX8_init_95 (fun g_79 H locs e_80 o_81 hS => ?_)
  replace e_80 : g_79 220 = .inr (8, [.int 0, .int 0, .ref (B + 221), .ref (B + 222), .ref (B + 223), .int 15, .int 1, .int 0, .ref (B + 224), .ref (B + 225), .null, .null, .null, .null, .null, .null, .null, .null, .null, .null, .null, .int 0, .int 0]) := e_80
  refine lv_aload_n C.x C.b dX8_init_98 rfl (lv_at hl 0 rfl) ?_
  refine lv_sipush (v := 256) C.x C.b dX8_init_99 (by decide) ?_
  refine r_newI (n' := 256) ac_int C hS rfl (by decide) (by decide) (by decide) dX8_init_102 (fun g_82 H e_83 o_84 hS => ?_)
  replace e_83 : g_82 226 = .inl (t.1, 256, .inl zz) := e_83
  replace hS : St D B s.heap 227 g_82 H _ := hS
  have e_85 : g_82 220 = .inr (8, [.int 0, .int 0, .ref (B + 221), .ref (B + 222), .ref (B + 223), .int 15, .int 1, .int 0, .ref (B + 224), .ref (B + 225), .null, .null, .null, .null, .null, .null, .null, .null, .null, .null, .null, .int 0, .int 0]) := (o_84 _ (by omega)).trans e_80
  refine r_putF ck8 flX8_32 C hS (by omega) e_85 (by decide) rfl hnm rfl rfl rfl (Nat.le_of_ble_eq_true rfl) dX8_init_104 (fun g_86 H locs e_87 o_88 hS => ?_)
  replace e_87 : g_86 220 = .inr (8, [.int 0, .int 0, .ref (B + 221), .ref (B + 222), .ref (B + 223), .int 15, .int 1, .int 0, .ref (B + 224), .ref (B + 225), .ref (B + 226), .null, .null, .null, .null, .null, .null, .null, .null, .null, .null, .int 0, .int 0]) := e_87
  refine lv_aload_n C.x C.b dX8_init_107 rfl (lv_at hl 0 rfl) ?_
  refine lv_sipush (v := 256) C.x C.b dX8_init_108 (by decide) ?_
  refine r_newI (n' := 256) ac_int C hS rfl (by decide) (by decide) (by decide) dX8_init_111 (fun g_89 H e_90 o_91 hS => ?_)
  replace e_90 : g_89 227 = .inl (t.1, 256, .inl zz) := e_90
  replace hS : St D B s.heap 228 g_89 H _ := hS
  have e_92 : g_89 220 = .inr (8, [.int 0, .int 0, .ref (B + 221), .ref (B + 222), .ref (B + 223), .int 15, .int 1, .int 0, .ref (B + 224), .ref (B + 225), .ref (B + 226), .null, .null, .null, .null, .null, .null, .null, .null, .null, .null, .int 0, .int 0]) := (o_91 _ (by omega)).trans e_87
  refine r_putF ck8 flX8_35 C hS (by omega) e_92 (by decide) rfl hnm rfl rfl rfl (Nat.le_of_ble_eq_true rfl) dX8_init_113 (fun g_93 H locs e_94 o_95 hS => ?_)
  replace e_94 : g_93 220 = .inr (8, [.int 0, .int 0, .ref (B + 221), .ref (B + 222), .ref (B + 223), .int 15, .int 1, .int 0, .ref (B + 224), .ref (B + 225), .ref (B + 226), .ref (B + 227), .null, .null, .null, .null, .null, .null, .null, .null, .null, .int 0, .int 0]) := e_94
  refine lv_aload_n C.x C.b dX8_init_116 rfl (lv_at hl 0 rfl) ?_
  refine lv_sipush (v := 256) C.x C.b dX8_init_117 (by decide) ?_
  refine r_newZ (n' := 256) ac_boolean C hS rfl (by decide) (by decide) (by decide) dX8_init_120 (fun g_96 H e_97 o_98 hS => ?_)
  replace e_97 : g_96 228 = .inl (t.2.1, 256, .inl zz) := e_97
  replace hS : St D B s.heap 229 g_96 H _ := hS
  have e_99 : g_96 220 = .inr (8, [.int 0, .int 0, .ref (B + 221), .ref (B + 222), .ref (B + 223), .int 15, .int 1, .int 0, .ref (B + 224), .ref (B + 225), .ref (B + 226), .ref (B + 227), .null, .null, .null, .null, .null, .null, .null, .null, .null, .int 0, .int 0]) := (o_98 _ (by omega)).trans e_94
  refine r_putF ck8 flX8_38 C hS (by omega) e_99 (by decide) rfl hnm rfl rfl rfl (Nat.le_of_ble_eq_true rfl) dX8_init_122 (fun g_100 H locs e_101 o_102 hS => ?_)
  replace e_101 : g_100 220 = .inr (8, [.int 0, .int 0, .ref (B + 221), .ref (B + 222), .ref (B + 223), .int 15, .int 1, .int 0, .ref (B + 224), .ref (B + 225), .ref (B + 226), .ref (B + 227), .ref (B + 228), .null, .null, .null, .null, .null, .null, .null, .null, .int 0, .int 0]) := e_101
  refine lv_aload_n C.x C.b dX8_init_125 rfl (lv_at hl 0 rfl) ?_
  refine lv_sipush (v := 10240) C.x C.b dX8_init_126 (by decide) ?_
  refine r_newI (n' := 10240) ac_int C hS rfl (by decide) (by decide) (by decide) dX8_init_129 (fun g_103 H e_104 o_105 hS => ?_)
  replace e_104 : g_103 229 = .inl (t.1, 10240, .inl zz) := e_104
  replace hS : St D B s.heap 230 g_103 H _ := hS
  have e_106 : g_103 220 = .inr (8, [.int 0, .int 0, .ref (B + 221), .ref (B + 222), .ref (B + 223), .int 15, .int 1, .int 0, .ref (B + 224), .ref (B + 225), .ref (B + 226), .ref (B + 227), .ref (B + 228), .null, .null, .null, .null, .null, .null, .null, .null, .int 0, .int 0]) := (o_105 _ (by omega)).trans e_101
  refine r_putF ck8 flX8_42 C hS (by omega) e_106 (by decide) rfl hnm rfl rfl rfl (Nat.le_of_ble_eq_true rfl) dX8_init_131 (fun g_107 H locs e_108 o_109 hS => ?_)
  replace e_108 : g_107 220 = .inr (8, [.int 0, .int 0, .ref (B + 221), .ref (B + 222), .ref (B + 223), .int 15, .int 1, .int 0, .ref (B + 224), .ref (B + 225), .ref (B + 226), .ref (B + 227), .ref (B + 228), .ref (B + 229), .null, .null, .null, .null, .null, .null, .null, .int 0, .int 0]) := e_108
  refine lv_aload_n C.x C.b dX8_init_134 rfl (lv_at hl 0 rfl) ?_
  refine lv_sipush (v := 10240) C.x C.b dX8_init_135 (by decide) ?_
  refine r_newI (n' := 10240) ac_int C hS rfl (by decide) (by decide) (by decide) dX8_init_138 (fun g_110 H e_111 o_112 hS => ?_)
  replace e_111 : g_110 230 = .inl (t.1, 10240, .inl zz) := e_111
  replace hS : St D B s.heap 231 g_110 H _ := hS
  have e_113 : g_110 220 = .inr (8, [.int 0, .int 0, .ref (B + 221), .ref (B + 222), .ref (B + 223), .int 15, .int 1, .int 0, .ref (B + 224), .ref (B + 225), .ref (B + 226), .ref (B + 227), .ref (B + 228), .ref (B + 229), .null, .null, .null, .null, .null, .null, .null, .int 0, .int 0]) := (o_112 _ (by omega)).trans e_108
  refine r_putF ck8 flX8_45 C hS (by omega) e_113 (by decide) rfl hnm rfl rfl rfl (Nat.le_of_ble_eq_true rfl) dX8_init_140 (fun g_114 H locs e_115 o_116 hS => ?_)
  replace e_115 : g_114 220 = .inr (8, [.int 0, .int 0, .ref (B + 221), .ref (B + 222), .ref (B + 223), .int 15, .int 1, .int 0, .ref (B + 224), .ref (B + 225), .ref (B + 226), .ref (B + 227), .ref (B + 228), .ref (B + 229), .ref (B + 230), .null, .null, .null, .null, .null, .null, .int 0, .int 0]) := e_115
  refine lv_aload_n C.x C.b dX8_init_143 rfl (lv_at hl 0 rfl) ?_
  refine lv_sipush (v := 10240) C.x C.b dX8_init_144 (by decide) ?_
  refine r_newI (n' := 10240) ac_int C hS rfl (by decide) (by decide) (by decide) dX8_init_147 (fun g_117 H e_118 o_119 hS => ?_)
  replace e_118 : g_117 231 = .inl (t.1, 10240, .inl zz) := e_118
  replace hS : St D B s.heap 232 g_117 H _ := hS
  have e_120 : g_117 220 = .inr (8, [.int 0, .int 0, .ref (B + 221), .ref (B + 222), .ref (B + 223), .int 15, .int 1, .int 0, .ref (B + 224), .ref (B + 225), .ref (B + 226), .ref (B + 227), .ref (B + 228), .ref (B + 229), .ref (B + 230), .null, .null, .null, .null, .null, .null, .int 0, .int 0]) := (o_119 _ (by omega)).trans e_115
  refine r_putF ck8 flX8_48 C hS (by omega) e_120 (by decide) rfl hnm rfl rfl rfl (Nat.le_of_ble_eq_true rfl) dX8_init_149 (fun g_121 H locs e_122 o_123 hS => ?_)
  replace e_122 : g_121 220 = .inr (8, [.int 0, .int 0, .ref (B + 221), .ref (B + 222), .ref (B + 223), .int 15, .int 1, .int 0, .ref (B + 224), .ref (B + 225), .ref (B + 226), .ref (B + 227), .ref (B + 228), .ref (B + 229), .ref (B + 230), .ref (B + 231), .null, .null, .null, .null, .null, .int 0, .int 0]) := e_122
  refine lv_aload_n C.x C.b dX8_init_152 rfl (lv_at hl 0 rfl) ?_
  refine lv_iconst (v := 2) C.x C.b dX8_init_153 (by decide) ?_
  refine r_newI (n' := 2) ac_int C hS rfl (by decide) (by decide) (by decide) dX8_init_154 (fun g_124 H e_125 o_126 hS => ?_)
  replace e_125 : g_124 232 = .inl (t.1, 2, .inl zz) := e_125
  replace hS : St D B s.heap 233 g_124 H _ := hS
  have e_127 : g_124 220 = .inr (8, [.int 0, .int 0, .ref (B + 221), .ref (B + 222), .ref (B + 223), .int 15, .int 1, .int 0, .ref (B + 224), .ref (B + 225), .ref (B + 226), .ref (B + 227), .ref (B + 228), .ref (B + 229), .ref (B + 230), .ref (B + 231), .null, .null, .null, .null, .null, .int 0, .int 0]) := (o_126 _ (by omega)).trans e_122
  refine r_putF ck8 flX8_51 C hS (by omega) e_127 (by decide) rfl hnm rfl rfl rfl (Nat.le_of_ble_eq_true rfl) dX8_init_156 (fun g_128 H locs e_129 o_130 hS => ?_)
  replace e_129 : g_128 220 = .inr (8, [.int 0, .int 0, .ref (B + 221), .ref (B + 222), .ref (B + 223), .int 15, .int 1, .int 0, .ref (B + 224), .ref (B + 225), .ref (B + 226), .ref (B + 227), .ref (B + 228), .ref (B + 229), .ref (B + 230), .ref (B + 231), .ref (B + 232), .null, .null, .null, .null, .int 0, .int 0]) := e_129
  refine lv_aload_n C.x C.b dX8_init_159 rfl (lv_at hl 0 rfl) ?_
  refine lv_bipush (v := 84) C.x C.b dX8_init_160 (by decide) ?_
  refine r_newI (n' := 84) ac_int C hS rfl (by decide) (by decide) (by decide) dX8_init_162 (fun g_131 H e_132 o_133 hS => ?_)
  replace e_132 : g_131 233 = .inl (t.1, 84, .inl zz) := e_132
  replace hS : St D B s.heap 234 g_131 H _ := hS
  have e_134 : g_131 220 = .inr (8, [.int 0, .int 0, .ref (B + 221), .ref (B + 222), .ref (B + 223), .int 15, .int 1, .int 0, .ref (B + 224), .ref (B + 225), .ref (B + 226), .ref (B + 227), .ref (B + 228), .ref (B + 229), .ref (B + 230), .ref (B + 231), .ref (B + 232), .null, .null, .null, .null, .int 0, .int 0]) := (o_133 _ (by omega)).trans e_129
  refine r_putF ck8 flX8_54 C hS (by omega) e_134 (by decide) rfl hnm rfl rfl rfl (Nat.le_of_ble_eq_true rfl) dX8_init_164 (fun g_135 H locs e_136 o_137 hS => ?_)
  replace e_136 : g_135 220 = .inr (8, [.int 0, .int 0, .ref (B + 221), .ref (B + 222), .ref (B + 223), .int 15, .int 1, .int 0, .ref (B + 224), .ref (B + 225), .ref (B + 226), .ref (B + 227), .ref (B + 228), .ref (B + 229), .ref (B + 230), .ref (B + 231), .ref (B + 232), .ref (B + 233), .null, .null, .null, .int 0, .int 0]) := e_136
  refine lv_aload_n C.x C.b dX8_init_167 rfl (lv_at hl 0 rfl) ?_
  refine lv_bipush (v := 84) C.x C.b dX8_init_168 (by decide) ?_
  refine r_newI (n' := 84) ac_int C hS rfl (by decide) (by decide) (by decide) dX8_init_170 (fun g_138 H e_139 o_140 hS => ?_)
  replace e_139 : g_138 234 = .inl (t.1, 84, .inl zz) := e_139
  replace hS : St D B s.heap 235 g_138 H _ := hS
  have e_141 : g_138 220 = .inr (8, [.int 0, .int 0, .ref (B + 221), .ref (B + 222), .ref (B + 223), .int 15, .int 1, .int 0, .ref (B + 224), .ref (B + 225), .ref (B + 226), .ref (B + 227), .ref (B + 228), .ref (B + 229), .ref (B + 230), .ref (B + 231), .ref (B + 232), .ref (B + 233), .null, .null, .null, .int 0, .int 0]) := (o_140 _ (by omega)).trans e_136
  refine r_putF ck8 flX8_57 C hS (by omega) e_141 (by decide) rfl hnm rfl rfl rfl (Nat.le_of_ble_eq_true rfl) dX8_init_172 (fun g_142 H locs e_143 o_144 hS => ?_)
  replace e_143 : g_142 220 = .inr (8, [.int 0, .int 0, .ref (B + 221), .ref (B + 222), .ref (B + 223), .int 15, .int 1, .int 0, .ref (B + 224), .ref (B + 225), .ref (B + 226), .ref (B + 227), .ref (B + 228), .ref (B + 229), .ref (B + 230), .ref (B + 231), .ref (B + 232), .ref (B + 233), .ref (B + 234), .null, .null, .int 0, .int 0]) := e_143
  refine lv_aload_n C.x C.b dX8_init_175 rfl (lv_at hl 0 rfl) ?_
  refine lv_bipush (v := 84) C.x C.b dX8_init_176 (by decide) ?_
  refine r_newI (n' := 84) ac_int C hS rfl (by decide) (by decide) (by decide) dX8_init_178 (fun g_145 H e_146 o_147 hS => ?_)
  replace e_146 : g_145 235 = .inl (t.1, 84, .inl zz) := e_146
  replace hS : St D B s.heap 236 g_145 H _ := hS
  have e_148 : g_145 220 = .inr (8, [.int 0, .int 0, .ref (B + 221), .ref (B + 222), .ref (B + 223), .int 15, .int 1, .int 0, .ref (B + 224), .ref (B + 225), .ref (B + 226), .ref (B + 227), .ref (B + 228), .ref (B + 229), .ref (B + 230), .ref (B + 231), .ref (B + 232), .ref (B + 233), .ref (B + 234), .null, .null, .int 0, .int 0]) := (o_147 _ (by omega)).trans e_143
  refine r_putF ck8 flX8_60 C hS (by omega) e_148 (by decide) rfl hnm rfl rfl rfl (Nat.le_of_ble_eq_true rfl) dX8_init_180 (fun g_149 H locs e_150 o_151 hS => ?_)
  replace e_150 : g_149 220 = .inr (8, [.int 0, .int 0, .ref (B + 221), .ref (B + 222), .ref (B + 223), .int 15, .int 1, .int 0, .ref (B + 224), .ref (B + 225), .ref (B + 226), .ref (B + 227), .ref (B + 228), .ref (B + 229), .ref (B + 230), .ref (B + 231), .ref (B + 232), .ref (B + 233), .ref (B + 234), .ref (B + 235), .null, .int 0, .int 0]) := e_150
  refine lv_aload_n C.x C.b dX8_init_183 rfl (lv_at hl 0 rfl) ?_
  refine lv_bipush (v := 16) C.x C.b dX8_init_184 (by decide) ?_
  refine r_newI (n' := 16) ac_int C hS rfl (by decide) (by decide) (by decide) dX8_init_186 (fun g_152 H e_153 o_154 hS => ?_)
  replace e_153 : g_152 236 = .inl (t.1, 16, .inl zz) := e_153
  replace hS : St D B s.heap 237 g_152 H _ := hS
  have e_155 : g_152 220 = .inr (8, [.int 0, .int 0, .ref (B + 221), .ref (B + 222), .ref (B + 223), .int 15, .int 1, .int 0, .ref (B + 224), .ref (B + 225), .ref (B + 226), .ref (B + 227), .ref (B + 228), .ref (B + 229), .ref (B + 230), .ref (B + 231), .ref (B + 232), .ref (B + 233), .ref (B + 234), .ref (B + 235), .null, .int 0, .int 0]) := (o_154 _ (by omega)).trans e_150
  refine r_putF ck8 flX8_63 C hS (by omega) e_155 (by decide) rfl hnm rfl rfl rfl (Nat.le_of_ble_eq_true rfl) dX8_init_188 (fun g_156 H locs e_157 o_158 hS => ?_)
  replace e_157 : g_156 220 = .inr (8, [.int 0, .int 0, .ref (B + 221), .ref (B + 222), .ref (B + 223), .int 15, .int 1, .int 0, .ref (B + 224), .ref (B + 225), .ref (B + 226), .ref (B + 227), .ref (B + 228), .ref (B + 229), .ref (B + 230), .ref (B + 231), .ref (B + 232), .ref (B + 233), .ref (B + 234), .ref (B + 235), .ref (B + 236), .int 0, .int 0]) := e_157
  replace e_157 : g_156 220 = mObj B 0 0 15 1 0 0 0 := e_157
  have e_159 : g_5 221 = .inl (t.1, 10, .inl zz) := (o_7 _ (by omega)).trans e_2
  have e_160 : g_8 221 = .inl (t.1, 10, .inl zz) := (o_10 _ (by omega)).trans e_159
  have e_161 : g_11 221 = .inl (t.1, 10, .inl zz) := (o_13 _ (by omega)).trans e_160
  have e_162 : g_14 221 = .inl (t.1, 10, .inl zz) := (o_16 _ (by omega)).trans e_161
  have e_163 : g_17 221 = .inl (t.1, 10, .inl zz) := (o_19 _ (by omega)).trans e_162
  have e_164 : g_20 221 = .inl (t.1, 10, .inl zz) := (o_22 _ (by omega)).trans e_163
  have e_165 : g_23 221 = .inl (t.1, 10, .inl zz) := (o_25 _ (by omega)).trans e_164
  have e_166 : g_26 221 = .inl (t.1, 10, .inl zz) := (o_28 _ (by omega)).trans e_165
  have e_167 : g_29 221 = .inl (t.1, 10, .inl zz) := (o_31 _ (by omega)).trans e_166
  have e_168 : g_32 221 = .inl (t.1, 10, .inl zz) := (o_34 _ (by omega)).trans e_167
  have e_169 : g_35 221 = .inl (t.1, 10, .inl zz) := (o_37 _ (by omega)).trans e_168
  have e_170 : g_38 221 = .inl (t.1, 10, .inl zz) := (o_40 _ (by omega)).trans e_169
  have e_171 : g_52 221 = .inl (t.1, 10, .inl zz) := (o_54 _ (by omega)).trans e_170
  have e_172 : g_55 221 = .inl (t.1, 10, .inl zz) := (o_57 _ (by omega)).trans e_171
  have e_173 : g_59 221 = .inl (t.1, 10, .inl zz) := (o_61 _ (by omega)).trans e_172
  have e_174 : g_62 221 = .inl (t.1, 10, .inl zz) := (o_64 _ (by omega)).trans e_173
  have e_175 : g_65 221 = .inl (t.1, 10, .inl zz) := (o_67 _ (by omega)).trans e_174
  have e_176 : g_68 221 = .inl (t.1, 10, .inl zz) := (o_70 _ (by omega)).trans e_175
  have e_177 : g_72 221 = .inl (t.1, 10, .inl zz) := (o_74 _ (by omega)).trans e_176
  have e_178 : g_75 221 = .inl (t.1, 10, .inl zz) := (o_77 _ (by omega)).trans e_177
  have e_179 : g_79 221 = .inl (t.1, 10, .inl zz) := (o_81 _ (by omega)).trans e_178
  have e_180 : g_82 221 = .inl (t.1, 10, .inl zz) := (o_84 _ (by omega)).trans e_179
  have e_181 : g_86 221 = .inl (t.1, 10, .inl zz) := (o_88 _ (by omega)).trans e_180
  have e_182 : g_89 221 = .inl (t.1, 10, .inl zz) := (o_91 _ (by omega)).trans e_181
  have e_183 : g_93 221 = .inl (t.1, 10, .inl zz) := (o_95 _ (by omega)).trans e_182
  have e_184 : g_96 221 = .inl (t.1, 10, .inl zz) := (o_98 _ (by omega)).trans e_183
  have e_185 : g_100 221 = .inl (t.1, 10, .inl zz) := (o_102 _ (by omega)).trans e_184
  have e_186 : g_103 221 = .inl (t.1, 10, .inl zz) := (o_105 _ (by omega)).trans e_185
  have e_187 : g_107 221 = .inl (t.1, 10, .inl zz) := (o_109 _ (by omega)).trans e_186
  have e_188 : g_110 221 = .inl (t.1, 10, .inl zz) := (o_112 _ (by omega)).trans e_187
  have e_189 : g_114 221 = .inl (t.1, 10, .inl zz) := (o_116 _ (by omega)).trans e_188
  have e_190 : g_117 221 = .inl (t.1, 10, .inl zz) := (o_119 _ (by omega)).trans e_189
  have e_191 : g_121 221 = .inl (t.1, 10, .inl zz) := (o_123 _ (by omega)).trans e_190
  have e_192 : g_124 221 = .inl (t.1, 10, .inl zz) := (o_126 _ (by omega)).trans e_191
  have e_193 : g_128 221 = .inl (t.1, 10, .inl zz) := (o_130 _ (by omega)).trans e_192
  have e_194 : g_131 221 = .inl (t.1, 10, .inl zz) := (o_133 _ (by omega)).trans e_193
  have e_195 : g_135 221 = .inl (t.1, 10, .inl zz) := (o_137 _ (by omega)).trans e_194
  have e_196 : g_138 221 = .inl (t.1, 10, .inl zz) := (o_140 _ (by omega)).trans e_195
  have e_197 : g_142 221 = .inl (t.1, 10, .inl zz) := (o_144 _ (by omega)).trans e_196
  have e_198 : g_145 221 = .inl (t.1, 10, .inl zz) := (o_147 _ (by omega)).trans e_197
  have e_199 : g_149 221 = .inl (t.1, 10, .inl zz) := (o_151 _ (by omega)).trans e_198
  have e_200 : g_152 221 = .inl (t.1, 10, .inl zz) := (o_154 _ (by omega)).trans e_199
  have e_201 : g_156 221 = .inl (t.1, 10, .inl zz) := (o_158 _ (by omega)).trans e_200
  have e_202 : g_52 222 = .inl (t.1, 10, .inl (upd (upd (upd (upd (upd (upd (upd (upd (upd (upd zz 0 1) 1 1) 2 1) 3 1) 4 1) 5 1) 6 1) 7 1) 8 1) 9 1)) := (o_54 _ (by omega)).trans e_39
  have e_203 : g_55 222 = .inl (t.1, 10, .inl (upd (upd (upd (upd (upd (upd (upd (upd (upd (upd zz 0 1) 1 1) 2 1) 3 1) 4 1) 5 1) 6 1) 7 1) 8 1) 9 1)) := (o_57 _ (by omega)).trans e_202
  have e_204 : g_59 222 = .inl (t.1, 10, .inl (upd (upd (upd (upd (upd (upd (upd (upd (upd (upd zz 0 1) 1 1) 2 1) 3 1) 4 1) 5 1) 6 1) 7 1) 8 1) 9 1)) := (o_61 _ (by omega)).trans e_203
  have e_205 : g_62 222 = .inl (t.1, 10, .inl (upd (upd (upd (upd (upd (upd (upd (upd (upd (upd zz 0 1) 1 1) 2 1) 3 1) 4 1) 5 1) 6 1) 7 1) 8 1) 9 1)) := (o_64 _ (by omega)).trans e_204
  have e_206 : g_65 222 = .inl (t.1, 10, .inl (upd (upd (upd (upd (upd (upd (upd (upd (upd (upd zz 0 1) 1 1) 2 1) 3 1) 4 1) 5 1) 6 1) 7 1) 8 1) 9 1)) := (o_67 _ (by omega)).trans e_205
  have e_207 : g_68 222 = .inl (t.1, 10, .inl (upd (upd (upd (upd (upd (upd (upd (upd (upd (upd zz 0 1) 1 1) 2 1) 3 1) 4 1) 5 1) 6 1) 7 1) 8 1) 9 1)) := (o_70 _ (by omega)).trans e_206
  have e_208 : g_72 222 = .inl (t.1, 10, .inl (upd (upd (upd (upd (upd (upd (upd (upd (upd (upd zz 0 1) 1 1) 2 1) 3 1) 4 1) 5 1) 6 1) 7 1) 8 1) 9 1)) := (o_74 _ (by omega)).trans e_207
  have e_209 : g_75 222 = .inl (t.1, 10, .inl (upd (upd (upd (upd (upd (upd (upd (upd (upd (upd zz 0 1) 1 1) 2 1) 3 1) 4 1) 5 1) 6 1) 7 1) 8 1) 9 1)) := (o_77 _ (by omega)).trans e_208
  have e_210 : g_79 222 = .inl (t.1, 10, .inl (upd (upd (upd (upd (upd (upd (upd (upd (upd (upd zz 0 1) 1 1) 2 1) 3 1) 4 1) 5 1) 6 1) 7 1) 8 1) 9 1)) := (o_81 _ (by omega)).trans e_209
  have e_211 : g_82 222 = .inl (t.1, 10, .inl (upd (upd (upd (upd (upd (upd (upd (upd (upd (upd zz 0 1) 1 1) 2 1) 3 1) 4 1) 5 1) 6 1) 7 1) 8 1) 9 1)) := (o_84 _ (by omega)).trans e_210
  have e_212 : g_86 222 = .inl (t.1, 10, .inl (upd (upd (upd (upd (upd (upd (upd (upd (upd (upd zz 0 1) 1 1) 2 1) 3 1) 4 1) 5 1) 6 1) 7 1) 8 1) 9 1)) := (o_88 _ (by omega)).trans e_211
  have e_213 : g_89 222 = .inl (t.1, 10, .inl (upd (upd (upd (upd (upd (upd (upd (upd (upd (upd zz 0 1) 1 1) 2 1) 3 1) 4 1) 5 1) 6 1) 7 1) 8 1) 9 1)) := (o_91 _ (by omega)).trans e_212
  have e_214 : g_93 222 = .inl (t.1, 10, .inl (upd (upd (upd (upd (upd (upd (upd (upd (upd (upd zz 0 1) 1 1) 2 1) 3 1) 4 1) 5 1) 6 1) 7 1) 8 1) 9 1)) := (o_95 _ (by omega)).trans e_213
  have e_215 : g_96 222 = .inl (t.1, 10, .inl (upd (upd (upd (upd (upd (upd (upd (upd (upd (upd zz 0 1) 1 1) 2 1) 3 1) 4 1) 5 1) 6 1) 7 1) 8 1) 9 1)) := (o_98 _ (by omega)).trans e_214
  have e_216 : g_100 222 = .inl (t.1, 10, .inl (upd (upd (upd (upd (upd (upd (upd (upd (upd (upd zz 0 1) 1 1) 2 1) 3 1) 4 1) 5 1) 6 1) 7 1) 8 1) 9 1)) := (o_102 _ (by omega)).trans e_215
  have e_217 : g_103 222 = .inl (t.1, 10, .inl (upd (upd (upd (upd (upd (upd (upd (upd (upd (upd zz 0 1) 1 1) 2 1) 3 1) 4 1) 5 1) 6 1) 7 1) 8 1) 9 1)) := (o_105 _ (by omega)).trans e_216
  have e_218 : g_107 222 = .inl (t.1, 10, .inl (upd (upd (upd (upd (upd (upd (upd (upd (upd (upd zz 0 1) 1 1) 2 1) 3 1) 4 1) 5 1) 6 1) 7 1) 8 1) 9 1)) := (o_109 _ (by omega)).trans e_217
  have e_219 : g_110 222 = .inl (t.1, 10, .inl (upd (upd (upd (upd (upd (upd (upd (upd (upd (upd zz 0 1) 1 1) 2 1) 3 1) 4 1) 5 1) 6 1) 7 1) 8 1) 9 1)) := (o_112 _ (by omega)).trans e_218
  have e_220 : g_114 222 = .inl (t.1, 10, .inl (upd (upd (upd (upd (upd (upd (upd (upd (upd (upd zz 0 1) 1 1) 2 1) 3 1) 4 1) 5 1) 6 1) 7 1) 8 1) 9 1)) := (o_116 _ (by omega)).trans e_219
  have e_221 : g_117 222 = .inl (t.1, 10, .inl (upd (upd (upd (upd (upd (upd (upd (upd (upd (upd zz 0 1) 1 1) 2 1) 3 1) 4 1) 5 1) 6 1) 7 1) 8 1) 9 1)) := (o_119 _ (by omega)).trans e_220
  have e_222 : g_121 222 = .inl (t.1, 10, .inl (upd (upd (upd (upd (upd (upd (upd (upd (upd (upd zz 0 1) 1 1) 2 1) 3 1) 4 1) 5 1) 6 1) 7 1) 8 1) 9 1)) := (o_123 _ (by omega)).trans e_221
  have e_223 : g_124 222 = .inl (t.1, 10, .inl (upd (upd (upd (upd (upd (upd (upd (upd (upd (upd zz 0 1) 1 1) 2 1) 3 1) 4 1) 5 1) 6 1) 7 1) 8 1) 9 1)) := (o_126 _ (by omega)).trans e_222
  have e_224 : g_128 222 = .inl (t.1, 10, .inl (upd (upd (upd (upd (upd (upd (upd (upd (upd (upd zz 0 1) 1 1) 2 1) 3 1) 4 1) 5 1) 6 1) 7 1) 8 1) 9 1)) := (o_130 _ (by omega)).trans e_223
  have e_225 : g_131 222 = .inl (t.1, 10, .inl (upd (upd (upd (upd (upd (upd (upd (upd (upd (upd zz 0 1) 1 1) 2 1) 3 1) 4 1) 5 1) 6 1) 7 1) 8 1) 9 1)) := (o_133 _ (by omega)).trans e_224
  have e_226 : g_135 222 = .inl (t.1, 10, .inl (upd (upd (upd (upd (upd (upd (upd (upd (upd (upd zz 0 1) 1 1) 2 1) 3 1) 4 1) 5 1) 6 1) 7 1) 8 1) 9 1)) := (o_137 _ (by omega)).trans e_225
  have e_227 : g_138 222 = .inl (t.1, 10, .inl (upd (upd (upd (upd (upd (upd (upd (upd (upd (upd zz 0 1) 1 1) 2 1) 3 1) 4 1) 5 1) 6 1) 7 1) 8 1) 9 1)) := (o_140 _ (by omega)).trans e_226
  have e_228 : g_142 222 = .inl (t.1, 10, .inl (upd (upd (upd (upd (upd (upd (upd (upd (upd (upd zz 0 1) 1 1) 2 1) 3 1) 4 1) 5 1) 6 1) 7 1) 8 1) 9 1)) := (o_144 _ (by omega)).trans e_227
  have e_229 : g_145 222 = .inl (t.1, 10, .inl (upd (upd (upd (upd (upd (upd (upd (upd (upd (upd zz 0 1) 1 1) 2 1) 3 1) 4 1) 5 1) 6 1) 7 1) 8 1) 9 1)) := (o_147 _ (by omega)).trans e_228
  have e_230 : g_149 222 = .inl (t.1, 10, .inl (upd (upd (upd (upd (upd (upd (upd (upd (upd (upd zz 0 1) 1 1) 2 1) 3 1) 4 1) 5 1) 6 1) 7 1) 8 1) 9 1)) := (o_151 _ (by omega)).trans e_229
  have e_231 : g_152 222 = .inl (t.1, 10, .inl (upd (upd (upd (upd (upd (upd (upd (upd (upd (upd zz 0 1) 1 1) 2 1) 3 1) 4 1) 5 1) 6 1) 7 1) 8 1) 9 1)) := (o_154 _ (by omega)).trans e_230
  have e_232 : g_156 222 = .inl (t.1, 10, .inl (upd (upd (upd (upd (upd (upd (upd (upd (upd (upd zz 0 1) 1 1) 2 1) 3 1) 4 1) 5 1) 6 1) 7 1) 8 1) 9 1)) := (o_158 _ (by omega)).trans e_231
  have e_233 : g_59 223 = .inl (t.1, 8, .inl zz) := (o_61 _ (by omega)).trans e_56
  have e_234 : g_62 223 = .inl (t.1, 8, .inl zz) := (o_64 _ (by omega)).trans e_233
  have e_235 : g_65 223 = .inl (t.1, 8, .inl zz) := (o_67 _ (by omega)).trans e_234
  have e_236 : g_68 223 = .inl (t.1, 8, .inl zz) := (o_70 _ (by omega)).trans e_235
  have e_237 : g_72 223 = .inl (t.1, 8, .inl zz) := (o_74 _ (by omega)).trans e_236
  have e_238 : g_75 223 = .inl (t.1, 8, .inl zz) := (o_77 _ (by omega)).trans e_237
  have e_239 : g_79 223 = .inl (t.1, 8, .inl zz) := (o_81 _ (by omega)).trans e_238
  have e_240 : g_82 223 = .inl (t.1, 8, .inl zz) := (o_84 _ (by omega)).trans e_239
  have e_241 : g_86 223 = .inl (t.1, 8, .inl zz) := (o_88 _ (by omega)).trans e_240
  have e_242 : g_89 223 = .inl (t.1, 8, .inl zz) := (o_91 _ (by omega)).trans e_241
  have e_243 : g_93 223 = .inl (t.1, 8, .inl zz) := (o_95 _ (by omega)).trans e_242
  have e_244 : g_96 223 = .inl (t.1, 8, .inl zz) := (o_98 _ (by omega)).trans e_243
  have e_245 : g_100 223 = .inl (t.1, 8, .inl zz) := (o_102 _ (by omega)).trans e_244
  have e_246 : g_103 223 = .inl (t.1, 8, .inl zz) := (o_105 _ (by omega)).trans e_245
  have e_247 : g_107 223 = .inl (t.1, 8, .inl zz) := (o_109 _ (by omega)).trans e_246
  have e_248 : g_110 223 = .inl (t.1, 8, .inl zz) := (o_112 _ (by omega)).trans e_247
  have e_249 : g_114 223 = .inl (t.1, 8, .inl zz) := (o_116 _ (by omega)).trans e_248
  have e_250 : g_117 223 = .inl (t.1, 8, .inl zz) := (o_119 _ (by omega)).trans e_249
  have e_251 : g_121 223 = .inl (t.1, 8, .inl zz) := (o_123 _ (by omega)).trans e_250
  have e_252 : g_124 223 = .inl (t.1, 8, .inl zz) := (o_126 _ (by omega)).trans e_251
  have e_253 : g_128 223 = .inl (t.1, 8, .inl zz) := (o_130 _ (by omega)).trans e_252
  have e_254 : g_131 223 = .inl (t.1, 8, .inl zz) := (o_133 _ (by omega)).trans e_253
  have e_255 : g_135 223 = .inl (t.1, 8, .inl zz) := (o_137 _ (by omega)).trans e_254
  have e_256 : g_138 223 = .inl (t.1, 8, .inl zz) := (o_140 _ (by omega)).trans e_255
  have e_257 : g_142 223 = .inl (t.1, 8, .inl zz) := (o_144 _ (by omega)).trans e_256
  have e_258 : g_145 223 = .inl (t.1, 8, .inl zz) := (o_147 _ (by omega)).trans e_257
  have e_259 : g_149 223 = .inl (t.1, 8, .inl zz) := (o_151 _ (by omega)).trans e_258
  have e_260 : g_152 223 = .inl (t.1, 8, .inl zz) := (o_154 _ (by omega)).trans e_259
  have e_261 : g_156 223 = .inl (t.1, 8, .inl zz) := (o_158 _ (by omega)).trans e_260
  have e_262 : g_72 224 = .inl (t.1, 4, .inl zz) := (o_74 _ (by omega)).trans e_69
  have e_263 : g_75 224 = .inl (t.1, 4, .inl zz) := (o_77 _ (by omega)).trans e_262
  have e_264 : g_79 224 = .inl (t.1, 4, .inl zz) := (o_81 _ (by omega)).trans e_263
  have e_265 : g_82 224 = .inl (t.1, 4, .inl zz) := (o_84 _ (by omega)).trans e_264
  have e_266 : g_86 224 = .inl (t.1, 4, .inl zz) := (o_88 _ (by omega)).trans e_265
  have e_267 : g_89 224 = .inl (t.1, 4, .inl zz) := (o_91 _ (by omega)).trans e_266
  have e_268 : g_93 224 = .inl (t.1, 4, .inl zz) := (o_95 _ (by omega)).trans e_267
  have e_269 : g_96 224 = .inl (t.1, 4, .inl zz) := (o_98 _ (by omega)).trans e_268
  have e_270 : g_100 224 = .inl (t.1, 4, .inl zz) := (o_102 _ (by omega)).trans e_269
  have e_271 : g_103 224 = .inl (t.1, 4, .inl zz) := (o_105 _ (by omega)).trans e_270
  have e_272 : g_107 224 = .inl (t.1, 4, .inl zz) := (o_109 _ (by omega)).trans e_271
  have e_273 : g_110 224 = .inl (t.1, 4, .inl zz) := (o_112 _ (by omega)).trans e_272
  have e_274 : g_114 224 = .inl (t.1, 4, .inl zz) := (o_116 _ (by omega)).trans e_273
  have e_275 : g_117 224 = .inl (t.1, 4, .inl zz) := (o_119 _ (by omega)).trans e_274
  have e_276 : g_121 224 = .inl (t.1, 4, .inl zz) := (o_123 _ (by omega)).trans e_275
  have e_277 : g_124 224 = .inl (t.1, 4, .inl zz) := (o_126 _ (by omega)).trans e_276
  have e_278 : g_128 224 = .inl (t.1, 4, .inl zz) := (o_130 _ (by omega)).trans e_277
  have e_279 : g_131 224 = .inl (t.1, 4, .inl zz) := (o_133 _ (by omega)).trans e_278
  have e_280 : g_135 224 = .inl (t.1, 4, .inl zz) := (o_137 _ (by omega)).trans e_279
  have e_281 : g_138 224 = .inl (t.1, 4, .inl zz) := (o_140 _ (by omega)).trans e_280
  have e_282 : g_142 224 = .inl (t.1, 4, .inl zz) := (o_144 _ (by omega)).trans e_281
  have e_283 : g_145 224 = .inl (t.1, 4, .inl zz) := (o_147 _ (by omega)).trans e_282
  have e_284 : g_149 224 = .inl (t.1, 4, .inl zz) := (o_151 _ (by omega)).trans e_283
  have e_285 : g_152 224 = .inl (t.1, 4, .inl zz) := (o_154 _ (by omega)).trans e_284
  have e_286 : g_156 224 = .inl (t.1, 4, .inl zz) := (o_158 _ (by omega)).trans e_285
  have e_287 : g_79 225 = .inl (t.1, 8, .inl zz) := (o_81 _ (by omega)).trans e_76
  have e_288 : g_82 225 = .inl (t.1, 8, .inl zz) := (o_84 _ (by omega)).trans e_287
  have e_289 : g_86 225 = .inl (t.1, 8, .inl zz) := (o_88 _ (by omega)).trans e_288
  have e_290 : g_89 225 = .inl (t.1, 8, .inl zz) := (o_91 _ (by omega)).trans e_289
  have e_291 : g_93 225 = .inl (t.1, 8, .inl zz) := (o_95 _ (by omega)).trans e_290
  have e_292 : g_96 225 = .inl (t.1, 8, .inl zz) := (o_98 _ (by omega)).trans e_291
  have e_293 : g_100 225 = .inl (t.1, 8, .inl zz) := (o_102 _ (by omega)).trans e_292
  have e_294 : g_103 225 = .inl (t.1, 8, .inl zz) := (o_105 _ (by omega)).trans e_293
  have e_295 : g_107 225 = .inl (t.1, 8, .inl zz) := (o_109 _ (by omega)).trans e_294
  have e_296 : g_110 225 = .inl (t.1, 8, .inl zz) := (o_112 _ (by omega)).trans e_295
  have e_297 : g_114 225 = .inl (t.1, 8, .inl zz) := (o_116 _ (by omega)).trans e_296
  have e_298 : g_117 225 = .inl (t.1, 8, .inl zz) := (o_119 _ (by omega)).trans e_297
  have e_299 : g_121 225 = .inl (t.1, 8, .inl zz) := (o_123 _ (by omega)).trans e_298
  have e_300 : g_124 225 = .inl (t.1, 8, .inl zz) := (o_126 _ (by omega)).trans e_299
  have e_301 : g_128 225 = .inl (t.1, 8, .inl zz) := (o_130 _ (by omega)).trans e_300
  have e_302 : g_131 225 = .inl (t.1, 8, .inl zz) := (o_133 _ (by omega)).trans e_301
  have e_303 : g_135 225 = .inl (t.1, 8, .inl zz) := (o_137 _ (by omega)).trans e_302
  have e_304 : g_138 225 = .inl (t.1, 8, .inl zz) := (o_140 _ (by omega)).trans e_303
  have e_305 : g_142 225 = .inl (t.1, 8, .inl zz) := (o_144 _ (by omega)).trans e_304
  have e_306 : g_145 225 = .inl (t.1, 8, .inl zz) := (o_147 _ (by omega)).trans e_305
  have e_307 : g_149 225 = .inl (t.1, 8, .inl zz) := (o_151 _ (by omega)).trans e_306
  have e_308 : g_152 225 = .inl (t.1, 8, .inl zz) := (o_154 _ (by omega)).trans e_307
  have e_309 : g_156 225 = .inl (t.1, 8, .inl zz) := (o_158 _ (by omega)).trans e_308
  have e_310 : g_86 226 = .inl (t.1, 256, .inl zz) := (o_88 _ (by omega)).trans e_83
  have e_311 : g_89 226 = .inl (t.1, 256, .inl zz) := (o_91 _ (by omega)).trans e_310
  have e_312 : g_93 226 = .inl (t.1, 256, .inl zz) := (o_95 _ (by omega)).trans e_311
  have e_313 : g_96 226 = .inl (t.1, 256, .inl zz) := (o_98 _ (by omega)).trans e_312
  have e_314 : g_100 226 = .inl (t.1, 256, .inl zz) := (o_102 _ (by omega)).trans e_313
  have e_315 : g_103 226 = .inl (t.1, 256, .inl zz) := (o_105 _ (by omega)).trans e_314
  have e_316 : g_107 226 = .inl (t.1, 256, .inl zz) := (o_109 _ (by omega)).trans e_315
  have e_317 : g_110 226 = .inl (t.1, 256, .inl zz) := (o_112 _ (by omega)).trans e_316
  have e_318 : g_114 226 = .inl (t.1, 256, .inl zz) := (o_116 _ (by omega)).trans e_317
  have e_319 : g_117 226 = .inl (t.1, 256, .inl zz) := (o_119 _ (by omega)).trans e_318
  have e_320 : g_121 226 = .inl (t.1, 256, .inl zz) := (o_123 _ (by omega)).trans e_319
  have e_321 : g_124 226 = .inl (t.1, 256, .inl zz) := (o_126 _ (by omega)).trans e_320
  have e_322 : g_128 226 = .inl (t.1, 256, .inl zz) := (o_130 _ (by omega)).trans e_321
  have e_323 : g_131 226 = .inl (t.1, 256, .inl zz) := (o_133 _ (by omega)).trans e_322
  have e_324 : g_135 226 = .inl (t.1, 256, .inl zz) := (o_137 _ (by omega)).trans e_323
  have e_325 : g_138 226 = .inl (t.1, 256, .inl zz) := (o_140 _ (by omega)).trans e_324
  have e_326 : g_142 226 = .inl (t.1, 256, .inl zz) := (o_144 _ (by omega)).trans e_325
  have e_327 : g_145 226 = .inl (t.1, 256, .inl zz) := (o_147 _ (by omega)).trans e_326
  have e_328 : g_149 226 = .inl (t.1, 256, .inl zz) := (o_151 _ (by omega)).trans e_327
  have e_329 : g_152 226 = .inl (t.1, 256, .inl zz) := (o_154 _ (by omega)).trans e_328
  have e_330 : g_156 226 = .inl (t.1, 256, .inl zz) := (o_158 _ (by omega)).trans e_329
  have e_331 : g_93 227 = .inl (t.1, 256, .inl zz) := (o_95 _ (by omega)).trans e_90
  have e_332 : g_96 227 = .inl (t.1, 256, .inl zz) := (o_98 _ (by omega)).trans e_331
  have e_333 : g_100 227 = .inl (t.1, 256, .inl zz) := (o_102 _ (by omega)).trans e_332
  have e_334 : g_103 227 = .inl (t.1, 256, .inl zz) := (o_105 _ (by omega)).trans e_333
  have e_335 : g_107 227 = .inl (t.1, 256, .inl zz) := (o_109 _ (by omega)).trans e_334
  have e_336 : g_110 227 = .inl (t.1, 256, .inl zz) := (o_112 _ (by omega)).trans e_335
  have e_337 : g_114 227 = .inl (t.1, 256, .inl zz) := (o_116 _ (by omega)).trans e_336
  have e_338 : g_117 227 = .inl (t.1, 256, .inl zz) := (o_119 _ (by omega)).trans e_337
  have e_339 : g_121 227 = .inl (t.1, 256, .inl zz) := (o_123 _ (by omega)).trans e_338
  have e_340 : g_124 227 = .inl (t.1, 256, .inl zz) := (o_126 _ (by omega)).trans e_339
  have e_341 : g_128 227 = .inl (t.1, 256, .inl zz) := (o_130 _ (by omega)).trans e_340
  have e_342 : g_131 227 = .inl (t.1, 256, .inl zz) := (o_133 _ (by omega)).trans e_341
  have e_343 : g_135 227 = .inl (t.1, 256, .inl zz) := (o_137 _ (by omega)).trans e_342
  have e_344 : g_138 227 = .inl (t.1, 256, .inl zz) := (o_140 _ (by omega)).trans e_343
  have e_345 : g_142 227 = .inl (t.1, 256, .inl zz) := (o_144 _ (by omega)).trans e_344
  have e_346 : g_145 227 = .inl (t.1, 256, .inl zz) := (o_147 _ (by omega)).trans e_345
  have e_347 : g_149 227 = .inl (t.1, 256, .inl zz) := (o_151 _ (by omega)).trans e_346
  have e_348 : g_152 227 = .inl (t.1, 256, .inl zz) := (o_154 _ (by omega)).trans e_347
  have e_349 : g_156 227 = .inl (t.1, 256, .inl zz) := (o_158 _ (by omega)).trans e_348
  have e_350 : g_100 228 = .inl (t.2.1, 256, .inl zz) := (o_102 _ (by omega)).trans e_97
  have e_351 : g_103 228 = .inl (t.2.1, 256, .inl zz) := (o_105 _ (by omega)).trans e_350
  have e_352 : g_107 228 = .inl (t.2.1, 256, .inl zz) := (o_109 _ (by omega)).trans e_351
  have e_353 : g_110 228 = .inl (t.2.1, 256, .inl zz) := (o_112 _ (by omega)).trans e_352
  have e_354 : g_114 228 = .inl (t.2.1, 256, .inl zz) := (o_116 _ (by omega)).trans e_353
  have e_355 : g_117 228 = .inl (t.2.1, 256, .inl zz) := (o_119 _ (by omega)).trans e_354
  have e_356 : g_121 228 = .inl (t.2.1, 256, .inl zz) := (o_123 _ (by omega)).trans e_355
  have e_357 : g_124 228 = .inl (t.2.1, 256, .inl zz) := (o_126 _ (by omega)).trans e_356
  have e_358 : g_128 228 = .inl (t.2.1, 256, .inl zz) := (o_130 _ (by omega)).trans e_357
  have e_359 : g_131 228 = .inl (t.2.1, 256, .inl zz) := (o_133 _ (by omega)).trans e_358
  have e_360 : g_135 228 = .inl (t.2.1, 256, .inl zz) := (o_137 _ (by omega)).trans e_359
  have e_361 : g_138 228 = .inl (t.2.1, 256, .inl zz) := (o_140 _ (by omega)).trans e_360
  have e_362 : g_142 228 = .inl (t.2.1, 256, .inl zz) := (o_144 _ (by omega)).trans e_361
  have e_363 : g_145 228 = .inl (t.2.1, 256, .inl zz) := (o_147 _ (by omega)).trans e_362
  have e_364 : g_149 228 = .inl (t.2.1, 256, .inl zz) := (o_151 _ (by omega)).trans e_363
  have e_365 : g_152 228 = .inl (t.2.1, 256, .inl zz) := (o_154 _ (by omega)).trans e_364
  have e_366 : g_156 228 = .inl (t.2.1, 256, .inl zz) := (o_158 _ (by omega)).trans e_365
  have e_367 : g_107 229 = .inl (t.1, 10240, .inl zz) := (o_109 _ (by omega)).trans e_104
  have e_368 : g_110 229 = .inl (t.1, 10240, .inl zz) := (o_112 _ (by omega)).trans e_367
  have e_369 : g_114 229 = .inl (t.1, 10240, .inl zz) := (o_116 _ (by omega)).trans e_368
  have e_370 : g_117 229 = .inl (t.1, 10240, .inl zz) := (o_119 _ (by omega)).trans e_369
  have e_371 : g_121 229 = .inl (t.1, 10240, .inl zz) := (o_123 _ (by omega)).trans e_370
  have e_372 : g_124 229 = .inl (t.1, 10240, .inl zz) := (o_126 _ (by omega)).trans e_371
  have e_373 : g_128 229 = .inl (t.1, 10240, .inl zz) := (o_130 _ (by omega)).trans e_372
  have e_374 : g_131 229 = .inl (t.1, 10240, .inl zz) := (o_133 _ (by omega)).trans e_373
  have e_375 : g_135 229 = .inl (t.1, 10240, .inl zz) := (o_137 _ (by omega)).trans e_374
  have e_376 : g_138 229 = .inl (t.1, 10240, .inl zz) := (o_140 _ (by omega)).trans e_375
  have e_377 : g_142 229 = .inl (t.1, 10240, .inl zz) := (o_144 _ (by omega)).trans e_376
  have e_378 : g_145 229 = .inl (t.1, 10240, .inl zz) := (o_147 _ (by omega)).trans e_377
  have e_379 : g_149 229 = .inl (t.1, 10240, .inl zz) := (o_151 _ (by omega)).trans e_378
  have e_380 : g_152 229 = .inl (t.1, 10240, .inl zz) := (o_154 _ (by omega)).trans e_379
  have e_381 : g_156 229 = .inl (t.1, 10240, .inl zz) := (o_158 _ (by omega)).trans e_380
  have e_382 : g_114 230 = .inl (t.1, 10240, .inl zz) := (o_116 _ (by omega)).trans e_111
  have e_383 : g_117 230 = .inl (t.1, 10240, .inl zz) := (o_119 _ (by omega)).trans e_382
  have e_384 : g_121 230 = .inl (t.1, 10240, .inl zz) := (o_123 _ (by omega)).trans e_383
  have e_385 : g_124 230 = .inl (t.1, 10240, .inl zz) := (o_126 _ (by omega)).trans e_384
  have e_386 : g_128 230 = .inl (t.1, 10240, .inl zz) := (o_130 _ (by omega)).trans e_385
  have e_387 : g_131 230 = .inl (t.1, 10240, .inl zz) := (o_133 _ (by omega)).trans e_386
  have e_388 : g_135 230 = .inl (t.1, 10240, .inl zz) := (o_137 _ (by omega)).trans e_387
  have e_389 : g_138 230 = .inl (t.1, 10240, .inl zz) := (o_140 _ (by omega)).trans e_388
  have e_390 : g_142 230 = .inl (t.1, 10240, .inl zz) := (o_144 _ (by omega)).trans e_389
  have e_391 : g_145 230 = .inl (t.1, 10240, .inl zz) := (o_147 _ (by omega)).trans e_390
  have e_392 : g_149 230 = .inl (t.1, 10240, .inl zz) := (o_151 _ (by omega)).trans e_391
  have e_393 : g_152 230 = .inl (t.1, 10240, .inl zz) := (o_154 _ (by omega)).trans e_392
  have e_394 : g_156 230 = .inl (t.1, 10240, .inl zz) := (o_158 _ (by omega)).trans e_393
  have e_395 : g_121 231 = .inl (t.1, 10240, .inl zz) := (o_123 _ (by omega)).trans e_118
  have e_396 : g_124 231 = .inl (t.1, 10240, .inl zz) := (o_126 _ (by omega)).trans e_395
  have e_397 : g_128 231 = .inl (t.1, 10240, .inl zz) := (o_130 _ (by omega)).trans e_396
  have e_398 : g_131 231 = .inl (t.1, 10240, .inl zz) := (o_133 _ (by omega)).trans e_397
  have e_399 : g_135 231 = .inl (t.1, 10240, .inl zz) := (o_137 _ (by omega)).trans e_398
  have e_400 : g_138 231 = .inl (t.1, 10240, .inl zz) := (o_140 _ (by omega)).trans e_399
  have e_401 : g_142 231 = .inl (t.1, 10240, .inl zz) := (o_144 _ (by omega)).trans e_400
  have e_402 : g_145 231 = .inl (t.1, 10240, .inl zz) := (o_147 _ (by omega)).trans e_401
  have e_403 : g_149 231 = .inl (t.1, 10240, .inl zz) := (o_151 _ (by omega)).trans e_402
  have e_404 : g_152 231 = .inl (t.1, 10240, .inl zz) := (o_154 _ (by omega)).trans e_403
  have e_405 : g_156 231 = .inl (t.1, 10240, .inl zz) := (o_158 _ (by omega)).trans e_404
  have e_406 : g_128 232 = .inl (t.1, 2, .inl zz) := (o_130 _ (by omega)).trans e_125
  have e_407 : g_131 232 = .inl (t.1, 2, .inl zz) := (o_133 _ (by omega)).trans e_406
  have e_408 : g_135 232 = .inl (t.1, 2, .inl zz) := (o_137 _ (by omega)).trans e_407
  have e_409 : g_138 232 = .inl (t.1, 2, .inl zz) := (o_140 _ (by omega)).trans e_408
  have e_410 : g_142 232 = .inl (t.1, 2, .inl zz) := (o_144 _ (by omega)).trans e_409
  have e_411 : g_145 232 = .inl (t.1, 2, .inl zz) := (o_147 _ (by omega)).trans e_410
  have e_412 : g_149 232 = .inl (t.1, 2, .inl zz) := (o_151 _ (by omega)).trans e_411
  have e_413 : g_152 232 = .inl (t.1, 2, .inl zz) := (o_154 _ (by omega)).trans e_412
  have e_414 : g_156 232 = .inl (t.1, 2, .inl zz) := (o_158 _ (by omega)).trans e_413
  have e_415 : g_135 233 = .inl (t.1, 84, .inl zz) := (o_137 _ (by omega)).trans e_132
  have e_416 : g_138 233 = .inl (t.1, 84, .inl zz) := (o_140 _ (by omega)).trans e_415
  have e_417 : g_142 233 = .inl (t.1, 84, .inl zz) := (o_144 _ (by omega)).trans e_416
  have e_418 : g_145 233 = .inl (t.1, 84, .inl zz) := (o_147 _ (by omega)).trans e_417
  have e_419 : g_149 233 = .inl (t.1, 84, .inl zz) := (o_151 _ (by omega)).trans e_418
  have e_420 : g_152 233 = .inl (t.1, 84, .inl zz) := (o_154 _ (by omega)).trans e_419
  have e_421 : g_156 233 = .inl (t.1, 84, .inl zz) := (o_158 _ (by omega)).trans e_420
  have e_422 : g_142 234 = .inl (t.1, 84, .inl zz) := (o_144 _ (by omega)).trans e_139
  have e_423 : g_145 234 = .inl (t.1, 84, .inl zz) := (o_147 _ (by omega)).trans e_422
  have e_424 : g_149 234 = .inl (t.1, 84, .inl zz) := (o_151 _ (by omega)).trans e_423
  have e_425 : g_152 234 = .inl (t.1, 84, .inl zz) := (o_154 _ (by omega)).trans e_424
  have e_426 : g_156 234 = .inl (t.1, 84, .inl zz) := (o_158 _ (by omega)).trans e_425
  have e_427 : g_149 235 = .inl (t.1, 84, .inl zz) := (o_151 _ (by omega)).trans e_146
  have e_428 : g_152 235 = .inl (t.1, 84, .inl zz) := (o_154 _ (by omega)).trans e_427
  have e_429 : g_156 235 = .inl (t.1, 84, .inl zz) := (o_158 _ (by omega)).trans e_428
  have e_430 : g_156 236 = .inl (t.1, 16, .inl zz) := (o_158 _ (by omega)).trans e_153
  exact r_vret C hr hlocks hS ⟨⟨0, 0, 0, zz, zz, zz, zz, zz, zz, zz, zz, zz, zz, zz, zz, zz, ⟨e_157, e_201, e_232, e_261⟩, ⟨e_286, e_309, e_330, e_349, e_366, e_381, e_394, e_405⟩, ⟨e_414, e_421, e_426, e_429⟩, e_430, fun r _ => ⟨0, by omega, rfl⟩, fun _ => Or.inl rfl, fun q _ => ⟨0, by omega, rfl⟩, ⟨⟨0, by omega, rfl⟩, ⟨0, by omega, rfl⟩⟩⟩, fun j hj => (o_158 j (by omega)).trans ((o_154 j (by omega)).trans ((o_151 j (by omega)).trans ((o_147 j (by omega)).trans ((o_144 j (by omega)).trans ((o_140 j (by omega)).trans ((o_137 j (by omega)).trans ((o_133 j (by omega)).trans ((o_130 j (by omega)).trans ((o_126 j (by omega)).trans ((o_123 j (by omega)).trans ((o_119 j (by omega)).trans ((o_116 j (by omega)).trans ((o_112 j (by omega)).trans ((o_109 j (by omega)).trans ((o_105 j (by omega)).trans ((o_102 j (by omega)).trans ((o_98 j (by omega)).trans ((o_95 j (by omega)).trans ((o_91 j (by omega)).trans ((o_88 j (by omega)).trans ((o_84 j (by omega)).trans ((o_81 j (by omega)).trans ((o_77 j (by omega)).trans ((o_74 j (by omega)).trans ((o_70 j (by omega)).trans ((o_67 j (by omega)).trans ((o_64 j (by omega)).trans ((o_61 j (by omega)).trans ((o_57 j (by omega)).trans ((o_54 j (by omega)).trans ((o_40 j (by omega)).trans ((o_37 j (by omega)).trans ((o_34 j (by omega)).trans ((o_31 j (by omega)).trans ((o_28 j (by omega)).trans ((o_25 j (by omega)).trans ((o_22 j (by omega)).trans ((o_19 j (by omega)).trans ((o_16 j (by omega)).trans ((o_13 j (by omega)).trans ((o_10 j (by omega)).trans ((o_7 j (by omega)).trans ((o_3 j (by omega)))))))))))))))))))))))))))))))))))))))))))))⟩ dX8_init_191
