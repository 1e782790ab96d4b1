set_option maxHeartbeats 1000000 in
set_option maxRecDepth 100000 in
theorem c_X3_init (l : Launch) (D : va_G) (t : Gx) (B : Nat) (g : Nat → va_E) (i : Nat) (e0 : g i = .inr (3, [.null, .null, .null, .int 0])) : Cv l D t B (i + 1) (i + 4) 3 24 yX3_init cX3_init 1 1 12 g [.ref (B + i)] (fun g' => isProg t B g' i zz zz zz 0 ∧ ∀ j, j < i → g' j = g j) := by
  refine Cv.start (by decide) (Nat.le_of_ble_eq_true rfl) ?_
  intro p e s m below meth c ls C hr hlocks hnm hS hl
  replace C : Cx D t p s m [.ref (B + i)].toArray c cX3_init 1 RX3 := C
  replace hl : lv_has ls 1 [(0, .ref (B + i))] := hl
  refine lv_aload_n C.x C.b dX3_init_0 rfl (lv_at hl 0 rfl) ?_
  refine r_objInit mlX3_3 im_objectInit co_objectInit C hl.1 dX3_init_1 (by decide) (by decide) ?_
  refine lv_aload_n C.x C.b dX3_init_4 rfl (lv_at hl 0 rfl) ?_
  refine lv_bipush (v := 8) C.x C.b dX3_init_5 (by decide) ?_
  refine r_newI (n' := 8) ac_int C hS rfl (by decide) (by decide) (by decide) dX3_init_7 (fun g_1 H e_2 o_3 hS => ?_)
  replace e_2 : g_1 (i + 1) = .inl (t.1, 8, .inl zz) := e_2
  have e_4 : g_1 i = .inr (3, [.null, .null, .null, .int 0]) := (o_3 _ (by omega)).trans e0
  refine r_putF ck3 flX3_9 C hS (by omega) e_4 (by decide) rfl hnm rfl rfl rfl (Nat.le_of_ble_eq_true rfl) dX3_init_9 (fun g_5 H locs e_6 o_7 hS => ?_)
  replace e_6 : g_5 i = .inr (3, [.ref (B + (i + 1)), .null, .null, .int 0]) := e_6
  refine lv_aload_n C.x C.b dX3_init_12 rfl (lv_at hl 0 rfl) ?_
  refine lv_bipush (v := 8) C.x C.b dX3_init_13 (by decide) ?_
  refine r_newI (n' := 8) ac_int C hS rfl (by decide) (by decide) (by decide) dX3_init_15 (fun g_8 H e_9 o_10 hS => ?_)
  replace e_9 : g_8 (i + 2) = .inl (t.1, 8, .inl zz) := e_9
  have e_11 : g_8 i = .inr (3, [.ref (B + (i + 1)), .null, .null, .int 0]) := (o_10 _ (by omega)).trans e_6
  refine r_putF ck3 flX3_15 C hS (by omega) e_11 (by decide) rfl hnm rfl rfl rfl (Nat.le_of_ble_eq_true rfl) dX3_init_17 (fun g_12 H locs e_13 o_14 hS => ?_)
  replace e_13 : g_12 i = .inr (3, [.ref (B + (i + 1)), .ref (B + (i + 2)), .null, .int 0]) := e_13
  refine lv_aload_n C.x C.b dX3_init_20 rfl (lv_at hl 0 rfl) ?_
  refine lv_bipush (v := 8) C.x C.b dX3_init_21 (by decide) ?_
  refine r_newI (n' := 8) ac_int C hS rfl (by decide) (by decide) (by decide) dX3_init_23 (fun g_15 H e_16 o_17 hS => ?_)
  replace e_16 : g_15 (i + 3) = .inl (t.1, 8, .inl zz) := e_16
  have e_18 : g_15 i = .inr (3, [.ref (B + (i + 1)), .ref (B + (i + 2)), .null, .int 0]) := (o_17 _ (by omega)).trans e_13
  refine r_putF ck3 flX3_18 C hS (by omega) e_18 (by decide) rfl hnm rfl rfl rfl (Nat.le_of_ble_eq_true rfl) dX3_init_25 (fun g_19 H locs e_20 o_21 hS => ?_)
  replace e_20 : g_19 i = .inr (3, [.ref (B + (i + 1)), .ref (B + (i + 2)), .ref (B + (i + 3)), .int 0]) := e_20
  refine lv_aload_n C.x C.b dX3_init_28 rfl (lv_at hl 0 rfl) ?_
  refine lv_iconst (v := 0) C.x C.b dX3_init_29 (by decide) ?_
  refine r_put ck3 flX3_21 C hS (by omega) e_20 (by decide) rfl rfl rfl (Nat.le_of_ble_eq_true rfl) dX3_init_30 (fun g_22 H locs e_23 o_24 hS => ?_)
  replace e_23 : g_22 i = .inr (3, [.ref (B + (i + 1)), .ref (B + (i + 2)), .ref (B + (i + 3)), .int 0]) := e_23
  have e_25 : g_5 (i + 1) = .inl (t.1, 8, .inl zz) := (o_7 _ (by omega)).trans e_2
  have e_26 : g_8 (i + 1) = .inl (t.1, 8, .inl zz) := (o_10 _ (by omega)).trans e_25
  have e_27 : g_12 (i + 1) = .inl (t.1, 8, .inl zz) := (o_14 _ (by omega)).trans e_26
  have e_28 : g_15 (i + 1) = .inl (t.1, 8, .inl zz) := (o_17 _ (by omega)).trans e_27
  have e_29 : g_19 (i + 1) = .inl (t.1, 8, .inl zz) := (o_21 _ (by omega)).trans e_28
  have e_30 : g_22 (i + 1) = .inl (t.1, 8, .inl zz) := (o_24 _ (by omega)).trans e_29
  have e_31 : g_12 (i + 2) = .inl (t.1, 8, .inl zz) := (o_14 _ (by omega)).trans e_9
  have e_32 : g_15 (i + 2) = .inl (t.1, 8, .inl zz) := (o_17 _ (by omega)).trans e_31
  have e_33 : g_19 (i + 2) = .inl (t.1, 8, .inl zz) := (o_21 _ (by omega)).trans e_32
  have e_34 : g_22 (i + 2) = .inl (t.1, 8, .inl zz) := (o_24 _ (by omega)).trans e_33
  have e_35 : g_19 (i + 3) = .inl (t.1, 8, .inl zz) := (o_21 _ (by omega)).trans e_16
  have e_36 : g_22 (i + 3) = .inl (t.1, 8, .inl zz) := (o_24 _ (by omega)).trans e_35
  exact r_vret C hr hlocks hS ⟨⟨e_23, e_30, e_34, e_36⟩, fun j hj => (o_24 j (by omega)).trans ((o_21 j (by omega)).trans ((o_17 j (by omega)).trans ((o_14 j (by omega)).trans ((o_10 j (by omega)).trans ((o_7 j (by omega)).trans (o_3 j (by omega)))))))⟩ dX3_init_33
set_option maxHeartbeats 1000000 in
set_option maxRecDepth 100000 in
theorem c_X6_init (l : Launch) (D : va_G) (t : Gx) (B : Nat) (g : Nat → va_E) (i : Nat) (e0 : g i = .inr (6, [.int 0, .int 0, .int 0])) : Cv l D t B (i + 1) (i + 1) 0 0 yX6_init cX6_init 1 1 12 g [.ref (B + i)] (fun g' => isWat g' i 15 1 0 ∧ ∀ j, j < i → g' j = g j) := by
  refine Cv.start (by decide) (Nat.le_of_ble_eq_true rfl) ?_
  intro p e s m below meth c ls C hr hlocks hnm hS hl
  replace C : Cx D t p s m [.ref (B + i)].toArray c cX6_init 1 RX6 := C
  replace hl : lv_has ls 1 [(0, .ref (B + i))] := hl
  refine lv_aload_n C.x C.b dX6_init_0 rfl (lv_at hl 0 rfl) ?_
  refine r_objInit mlX6_3 im_objectInit co_objectInit C hl.1 dX6_init_1 (by decide) (by decide) ?_
  refine lv_aload_n C.x C.b dX6_init_4 rfl (lv_at hl 0 rfl) ?_
  refine lv_bipush (v := 15) C.x C.b dX6_init_5 (by decide) ?_
  refine r_put ck6 flX6_9 C hS (by omega) e0 (by decide) rfl rfl rfl (Nat.le_of_ble_eq_true rfl) dX6_init_7 (fun g_1 H locs e_2 o_3 hS => ?_)
  replace e_2 : g_1 i = .inr (6, [.int 15, .int 0, .int 0]) := e_2
  refine lv_aload_n C.x C.b dX6_init_10 rfl (lv_at hl 0 rfl) ?_
  refine lv_iconst (v := 1) C.x C.b dX6_init_11 (by decide) ?_
  refine r_put ck6 flX6_15 C hS (by omega) e_2 (by decide) rfl rfl rfl (Nat.le_of_ble_eq_true rfl) dX6_init_12 (fun g_4 H locs e_5 o_6 hS => ?_)
  replace e_5 : g_4 i = .inr (6, [.int 15, .int 1, .int 0]) := e_5
  refine lv_aload_n C.x C.b dX6_init_15 rfl (lv_at hl 0 rfl) ?_
  refine lv_iconst (v := 0) C.x C.b dX6_init_16 (by decide) ?_
  refine r_put ck6 flX6_18 C hS (by omega) e_5 (by decide) rfl rfl rfl (Nat.le_of_ble_eq_true rfl) dX6_init_17 (fun g_7 H locs e_8 o_9 hS => ?_)
  replace e_8 : g_7 i = .inr (6, [.int 15, .int 1, .int 0]) := e_8
  exact r_vret C hr hlocks hS ⟨e_8, fun j hj => (o_9 j (by omega)).trans ((o_6 j (by omega)).trans (o_3 j (by omega)))⟩ dX6_init_20
set_option maxHeartbeats 1000000 in
set_option maxRecDepth 100000 in
theorem c_X1_init (l : Launch) (D : va_G) (t : Gx) (B : Nat) (g : Nat → va_E) (i : Nat) (e0 : g i = .inr (1, [.null, .null, .int 0])) : Cv l D t B (i + 1) (i + 3) 2 12 yX1_init cX1_init 1 1 12 g [.ref (B + i)] (fun g' => (g' i = .inr (1, [.ref (B + (i + 1)), .ref (B + (i + 2)), .int 0]) ∧ g' (i + 1) = .inl (t.1, 4, .inl zz) ∧ g' (i + 2) = .inl (t.1, 8, .inl zz)) ∧ ∀ j, j < i → g' j = g j) := by
  refine Cv.start (by decide) (Nat.le_of_ble_eq_true rfl) ?_
  intro p e s m below meth c ls C hr hlocks hnm hS hl
  replace C : Cx D t p s m [.ref (B + i)].toArray c cX1_init 1 RX1 := C
  replace hl : lv_has ls 1 [(0, .ref (B + i))] := hl
  refine lv_aload_n C.x C.b dX1_init_0 rfl (lv_at hl 0 rfl) ?_
  refine r_objInit mlX1_3 im_objectInit co_objectInit C hl.1 dX1_init_1 (by decide) (by decide) ?_
  refine lv_aload_n C.x C.b dX1_init_4 rfl (lv_at hl 0 rfl) ?_
  refine lv_iconst (v := 4) C.x C.b dX1_init_5 (by decide) ?_
  refine r_newI (n' := 4) ac_int C hS rfl (by decide) (by decide) (by decide) dX1_init_6 (fun g_1 H e_2 o_3 hS => ?_)
  replace e_2 : g_1 (i + 1) = .inl (t.1, 4, .inl zz) := e_2
  have e_4 : g_1 i = .inr (1, [.null, .null, .int 0]) := (o_3 _ (by omega)).trans e0
  refine r_putF ck1 flX1_9 C hS (by omega) e_4 (by decide) rfl hnm rfl rfl rfl (Nat.le_of_ble_eq_true rfl) dX1_init_8 (fun g_5 H locs e_6 o_7 hS => ?_)
  replace e_6 : g_5 i = .inr (1, [.ref (B + (i + 1)), .null, .int 0]) := e_6
  refine lv_aload_n C.x C.b dX1_init_11 rfl (lv_at hl 0 rfl) ?_
  refine lv_bipush (v := 8) C.x C.b dX1_init_12 (by decide) ?_
  refine r_newI (n' := 8) ac_int C hS rfl (by decide) (by decide) (by decide) dX1_init_14 (fun g_8 H e_9 o_10 hS => ?_)
  replace e_9 : g_8 (i + 2) = .inl (t.1, 8, .inl zz) := e_9
  have e_11 : g_8 i = .inr (1, [.ref (B + (i + 1)), .null, .int 0]) := (o_10 _ (by omega)).trans e_6
  refine r_putF ck1 flX1_15 C hS (by omega) e_11 (by decide) rfl hnm rfl rfl rfl (Nat.le_of_ble_eq_true rfl) dX1_init_16 (fun g_12 H locs e_13 o_14 hS => ?_)
  replace e_13 : g_12 i = .inr (1, [.ref (B + (i + 1)), .ref (B + (i + 2)), .int 0]) := e_13
  refine lv_aload_n C.x C.b dX1_init_19 rfl (lv_at hl 0 rfl) ?_
  refine lv_iconst (v := 0) C.x C.b dX1_init_20 (by decide) ?_
  refine r_put ck1 flX1_18 C hS (by omega) e_13 (by decide) rfl rfl rfl (Nat.le_of_ble_eq_true rfl) dX1_init_21 (fun g_15 H locs e_16 o_17 hS => ?_)
  replace e_16 : g_15 i = .inr (1, [.ref (B + (i + 1)), .ref (B + (i + 2)), .int 0]) := e_16
  have e_18 : g_5 (i + 1) = .inl (t.1, 4, .inl zz) := (o_7 _ (by omega)).trans e_2
  have e_19 : g_8 (i + 1) = .inl (t.1, 4, .inl zz) := (o_10 _ (by omega)).trans e_18
  have e_20 : g_12 (i + 1) = .inl (t.1, 4, .inl zz) := (o_14 _ (by omega)).trans e_19
  have e_21 : g_15 (i + 1) = .inl (t.1, 4, .inl zz) := (o_17 _ (by omega)).trans e_20
  have e_22 : g_12 (i + 2) = .inl (t.1, 8, .inl zz) := (o_14 _ (by omega)).trans e_9
  have e_23 : g_15 (i + 2) = .inl (t.1, 8, .inl zz) := (o_17 _ (by omega)).trans e_22
  exact r_vret C hr hlocks hS ⟨⟨e_16, e_21, e_23⟩, fun j hj => (o_17 j (by omega)).trans ((o_14 j (by omega)).trans ((o_10 j (by omega)).trans ((o_7 j (by omega)).trans (o_3 j (by omega)))))⟩ dX1_init_24
set_option maxHeartbeats 1000000 in
set_option maxRecDepth 100000 in
theorem c_X5_init (l : Launch) (D : va_G) (t : Gx) (B : Nat) (g : Nat → va_E) (i : Nat) (e0 : g i = .inr (5, [.null, .null, .null, .null, .null, .int 0, .int 0, .int 0, .int 0, .int 0])) : Cv l D t B (i + 1) (i + 6) 5 136 yX5_init cX5_init 1 1 12 g [.ref (B + i)] (fun g' => isRun t B g' i zz zz zz zz zz 0 0 0 0 0 ∧ ∀ j, j < i → g' j = g j) := by
  refine Cv.start (by decide) (Nat.le_of_ble_eq_true rfl) ?_
  intro p e s m below meth c ls C hr hlocks hnm hS hl
  replace C : Cx D t p s m [.ref (B + i)].toArray c cX5_init 1 RX5 := C
  replace hl : lv_has ls 1 [(0, .ref (B + i))] := hl
  refine lv_aload_n C.x C.b dX5_init_0 rfl (lv_at hl 0 rfl) ?_
  refine r_objInit mlX5_3 im_objectInit co_objectInit C hl.1 dX5_init_1 (by decide) (by decide) ?_
  refine lv_aload_n C.x C.b dX5_init_4 rfl (lv_at hl 0 rfl) ?_
  refine lv_bipush (v := 40) C.x C.b dX5_init_5 (by decide) ?_
  refine r_newI (n' := 40) ac_int C hS rfl (by decide) (by decide) (by decide) dX5_init_7 (fun g_1 H e_2 o_3 hS => ?_)
  replace e_2 : g_1 (i + 1) = .inl (t.1, 40, .inl zz) := e_2
  have e_4 : g_1 i = .inr (5, [.null, .null, .null, .null, .null, .int 0, .int 0, .int 0, .int 0, .int 0]) := (o_3 _ (by omega)).trans e0
  refine r_putF ck5 flX5_9 C hS (by omega) e_4 (by decide) rfl hnm rfl rfl rfl (Nat.le_of_ble_eq_true rfl) dX5_init_9 (fun g_5 H locs e_6 o_7 hS => ?_)
  replace e_6 : g_5 i = .inr (5, [.ref (B + (i + 1)), .null, .null, .null, .null, .int 0, .int 0, .int 0, .int 0, .int 0]) := e_6
  refine lv_aload_n C.x C.b dX5_init_12 rfl (lv_at hl 0 rfl) ?_
  refine lv_bipush (v := 40) C.x C.b dX5_init_13 (by decide) ?_
  refine r_newI (n' := 40) ac_int C hS rfl (by decide) (by decide) (by decide) dX5_init_15 (fun g_8 H e_9 o_10 hS => ?_)
  replace e_9 : g_8 (i + 2) = .inl (t.1, 40, .inl zz) := e_9
  have e_11 : g_8 i = .inr (5, [.ref (B + (i + 1)), .null, .null, .null, .null, .int 0, .int 0, .int 0, .int 0, .int 0]) := (o_10 _ (by omega)).trans e_6
  refine r_putF ck5 flX5_15 C hS (by omega) e_11 (by decide) rfl hnm rfl rfl rfl (Nat.le_of_ble_eq_true rfl) dX5_init_17 (fun g_12 H locs e_13 o_14 hS => ?_)
  replace e_13 : g_12 i = .inr (5, [.ref (B + (i + 1)), .ref (B + (i + 2)), .null, .null, .null, .int 0, .int 0, .int 0, .int 0, .int 0]) := e_13
  refine lv_aload_n C.x C.b dX5_init_20 rfl (lv_at hl 0 rfl) ?_
  refine lv_bipush (v := 40) C.x C.b dX5_init_21 (by decide) ?_
  refine r_newI (n' := 40) ac_int C hS rfl (by decide) (by decide) (by decide) dX5_init_23 (fun g_15 H e_16 o_17 hS => ?_)
  replace e_16 : g_15 (i + 3) = .inl (t.1, 40, .inl zz) := e_16
  have e_18 : g_15 i = .inr (5, [.ref (B + (i + 1)), .ref (B + (i + 2)), .null, .null, .null, .int 0, .int 0, .int 0, .int 0, .int 0]) := (o_17 _ (by omega)).trans e_13
  refine r_putF ck5 flX5_18 C hS (by omega) e_18 (by decide) rfl hnm rfl rfl rfl (Nat.le_of_ble_eq_true rfl) dX5_init_25 (fun g_19 H locs e_20 o_21 hS => ?_)
  replace e_20 : g_19 i = .inr (5, [.ref (B + (i + 1)), .ref (B + (i + 2)), .ref (B + (i + 3)), .null, .null, .int 0, .int 0, .int 0, .int 0, .int 0]) := e_20
  refine lv_aload_n C.x C.b dX5_init_28 rfl (lv_at hl 0 rfl) ?_
  refine lv_bipush (v := 8) C.x C.b dX5_init_29 (by decide) ?_
  refine r_newI (n' := 8) ac_int C hS rfl (by decide) (by decide) (by decide) dX5_init_31 (fun g_22 H e_23 o_24 hS => ?_)
  replace e_23 : g_22 (i + 4) = .inl (t.1, 8, .inl zz) := e_23
  have e_25 : g_22 i = .inr (5, [.ref (B + (i + 1)), .ref (B + (i + 2)), .ref (B + (i + 3)), .null, .null, .int 0, .int 0, .int 0, .int 0, .int 0]) := (o_24 _ (by omega)).trans e_20
  refine r_putF ck5 flX5_21 C hS (by omega) e_25 (by decide) rfl hnm rfl rfl rfl (Nat.le_of_ble_eq_true rfl) dX5_init_33 (fun g_26 H locs e_27 o_28 hS => ?_)
  replace e_27 : g_26 i = .inr (5, [.ref (B + (i + 1)), .ref (B + (i + 2)), .ref (B + (i + 3)), .ref (B + (i + 4)), .null, .int 0, .int 0, .int 0, .int 0, .int 0]) := e_27
  refine lv_aload_n C.x C.b dX5_init_36 rfl (lv_at hl 0 rfl) ?_
  refine lv_bipush (v := 8) C.x C.b dX5_init_37 (by decide) ?_
  refine r_newI (n' := 8) ac_int C hS rfl (by decide) (by decide) (by decide) dX5_init_39 (fun g_29 H e_30 o_31 hS => ?_)
  replace e_30 : g_29 (i + 5) = .inl (t.1, 8, .inl zz) := e_30
  have e_32 : g_29 i = .inr (5, [.ref (B + (i + 1)), .ref (B + (i + 2)), .ref (B + (i + 3)), .ref (B + (i + 4)), .null, .int 0, .int 0, .int 0, .int 0, .int 0]) := (o_31 _ (by omega)).trans e_27
  refine r_putF ck5 flX5_24 C hS (by omega) e_32 (by decide) rfl hnm rfl rfl rfl (Nat.le_of_ble_eq_true rfl) dX5_init_41 (fun g_33 H locs e_34 o_35 hS => ?_)
  replace e_34 : g_33 i = .inr (5, [.ref (B + (i + 1)), .ref (B + (i + 2)), .ref (B + (i + 3)), .ref (B + (i + 4)), .ref (B + (i + 5)), .int 0, .int 0, .int 0, .int 0, .int 0]) := e_34
  refine lv_aload_n C.x C.b dX5_init_44 rfl (lv_at hl 0 rfl) ?_
  refine lv_iconst (v := 0) C.x C.b dX5_init_45 (by decide) ?_
  refine r_put ck5 flX5_27 C hS (by omega) e_34 (by decide) rfl rfl rfl (Nat.le_of_ble_eq_true rfl) dX5_init_46 (fun g_36 H locs e_37 o_38 hS => ?_)
  replace e_37 : g_36 i = .inr (5, [.ref (B + (i + 1)), .ref (B + (i + 2)), .ref (B + (i + 3)), .ref (B + (i + 4)), .ref (B + (i + 5)), .int 0, .int 0, .int 0, .int 0, .int 0]) := e_37
  refine lv_aload_n C.x C.b dX5_init_49 rfl (lv_at hl 0 rfl) ?_
  refine lv_iconst (v := 0) C.x C.b dX5_init_50 (by decide) ?_
  refine r_put ck5 flX5_31 C hS (by omega) e_37 (by decide) rfl rfl rfl (Nat.le_of_ble_eq_true rfl) dX5_init_51 (fun g_39 H locs e_40 o_41 hS => ?_)
  replace e_40 : g_39 i = .inr (5, [.ref (B + (i + 1)), .ref (B + (i + 2)), .ref (B + (i + 3)), .ref (B + (i + 4)), .ref (B + (i + 5)), .int 0, .int 0, .int 0, .int 0, .int 0]) := e_40
  refine lv_aload_n C.x C.b dX5_init_54 rfl (lv_at hl 0 rfl) ?_
  refine lv_iconst (v := 0) C.x C.b dX5_init_55 (by decide) ?_
  refine r_put ck5 flX5_34 C hS (by omega) e_40 (by decide) rfl rfl rfl (Nat.le_of_ble_eq_true rfl) dX5_init_56 (fun g_42 H locs e_43 o_44 hS => ?_)
  replace e_43 : g_42 i = .inr (5, [.ref (B + (i + 1)), .ref (B + (i + 2)), .ref (B + (i + 3)), .ref (B + (i + 4)), .ref (B + (i + 5)), .int 0, .int 0, .int 0, .int 0, .int 0]) := e_43
  refine lv_aload_n C.x C.b dX5_init_59 rfl (lv_at hl 0 rfl) ?_
  refine lv_iconst (v := 0) C.x C.b dX5_init_60 (by decide) ?_
  refine r_put ck5 flX5_37 C hS (by omega) e_43 (by decide) rfl rfl rfl (Nat.le_of_ble_eq_true rfl) dX5_init_61 (fun g_45 H locs e_46 o_47 hS => ?_)
  replace e_46 : g_45 i = .inr (5, [.ref (B + (i + 1)), .ref (B + (i + 2)), .ref (B + (i + 3)), .ref (B + (i + 4)), .ref (B + (i + 5)), .int 0, .int 0, .int 0, .int 0, .int 0]) := e_46
  refine lv_aload_n C.x C.b dX5_init_64 rfl (lv_at hl 0 rfl) ?_
  refine lv_iconst (v := 0) C.x C.b dX5_init_65 (by decide) ?_
  refine r_put ck5 flX5_40 C hS (by omega) e_46 (by decide) rfl (nar_z (by decide)) (fit_z (by decide)) (Nat.le_of_ble_eq_true rfl) dX5_init_66 (fun g_48 H locs e_49 o_50 hS => ?_)
  replace e_49 : g_48 i = .inr (5, [.ref (B + (i + 1)), .ref (B + (i + 2)), .ref (B + (i + 3)), .ref (B + (i + 4)), .ref (B + (i + 5)), .int 0, .int 0, .int 0, .int 0, .int 0]) := e_49
  have e_51 : g_5 (i + 1) = .inl (t.1, 40, .inl zz) := (o_7 _ (by omega)).trans e_2
  have e_52 : g_8 (i + 1) = .inl (t.1, 40, .inl zz) := (o_10 _ (by omega)).trans e_51
  have e_53 : g_12 (i + 1) = .inl (t.1, 40, .inl zz) := (o_14 _ (by omega)).trans e_52
  have e_54 : g_15 (i + 1) = .inl (t.1, 40, .inl zz) := (o_17 _ (by omega)).trans e_53
  have e_55 : g_19 (i + 1) = .inl (t.1, 40, .inl zz) := (o_21 _ (by omega)).trans e_54
  have e_56 : g_22 (i + 1) = .inl (t.1, 40, .inl zz) := (o_24 _ (by omega)).trans e_55
  have e_57 : g_26 (i + 1) = .inl (t.1, 40, .inl zz) := (o_28 _ (by omega)).trans e_56
  have e_58 : g_29 (i + 1) = .inl (t.1, 40, .inl zz) := (o_31 _ (by omega)).trans e_57
  have e_59 : g_33 (i + 1) = .inl (t.1, 40, .inl zz) := (o_35 _ (by omega)).trans e_58
  have e_60 : g_36 (i + 1) = .inl (t.1, 40, .inl zz) := (o_38 _ (by omega)).trans e_59
  have e_61 : g_39 (i + 1) = .inl (t.1, 40, .inl zz) := (o_41 _ (by omega)).trans e_60
  have e_62 : g_42 (i + 1) = .inl (t.1, 40, .inl zz) := (o_44 _ (by omega)).trans e_61
  have e_63 : g_45 (i + 1) = .inl (t.1, 40, .inl zz) := (o_47 _ (by omega)).trans e_62
  have e_64 : g_48 (i + 1) = .inl (t.1, 40, .inl zz) := (o_50 _ (by omega)).trans e_63
  have e_65 : g_12 (i + 2) = .inl (t.1, 40, .inl zz) := (o_14 _ (by omega)).trans e_9
  have e_66 : g_15 (i + 2) = .inl (t.1, 40, .inl zz) := (o_17 _ (by omega)).trans e_65
  have e_67 : g_19 (i + 2) = .inl (t.1, 40, .inl zz) := (o_21 _ (by omega)).trans e_66
  have e_68 : g_22 (i + 2) = .inl (t.1, 40, .inl zz) := (o_24 _ (by omega)).trans e_67
  have e_69 : g_26 (i + 2) = .inl (t.1, 40, .inl zz) := (o_28 _ (by omega)).trans e_68
  have e_70 : g_29 (i + 2) = .inl (t.1, 40, .inl zz) := (o_31 _ (by omega)).trans e_69
  have e_71 : g_33 (i + 2) = .inl (t.1, 40, .inl zz) := (o_35 _ (by omega)).trans e_70
  have e_72 : g_36 (i + 2) = .inl (t.1, 40, .inl zz) := (o_38 _ (by omega)).trans e_71
  have e_73 : g_39 (i + 2) = .inl (t.1, 40, .inl zz) := (o_41 _ (by omega)).trans e_72
  have e_74 : g_42 (i + 2) = .inl (t.1, 40, .inl zz) := (o_44 _ (by omega)).trans e_73
  have e_75 : g_45 (i + 2) = .inl (t.1, 40, .inl zz) := (o_47 _ (by omega)).trans e_74
  have e_76 : g_48 (i + 2) = .inl (t.1, 40, .inl zz) := (o_50 _ (by omega)).trans e_75
  have e_77 : g_19 (i + 3) = .inl (t.1, 40, .inl zz) := (o_21 _ (by omega)).trans e_16
  have e_78 : g_22 (i + 3) = .inl (t.1, 40, .inl zz) := (o_24 _ (by omega)).trans e_77
  have e_79 : g_26 (i + 3) = .inl (t.1, 40, .inl zz) := (o_28 _ (by omega)).trans e_78
  have e_80 : g_29 (i + 3) = .inl (t.1, 40, .inl zz) := (o_31 _ (by omega)).trans e_79
  have e_81 : g_33 (i + 3) = .inl (t.1, 40, .inl zz) := (o_35 _ (by omega)).trans e_80
  have e_82 : g_36 (i + 3) = .inl (t.1, 40, .inl zz) := (o_38 _ (by omega)).trans e_81
  have e_83 : g_39 (i + 3) = .inl (t.1, 40, .inl zz) := (o_41 _ (by omega)).trans e_82
  have e_84 : g_42 (i + 3) = .inl (t.1, 40, .inl zz) := (o_44 _ (by omega)).trans e_83
  have e_85 : g_45 (i + 3) = .inl (t.1, 40, .inl zz) := (o_47 _ (by omega)).trans e_84
  have e_86 : g_48 (i + 3) = .inl (t.1, 40, .inl zz) := (o_50 _ (by omega)).trans e_85
  have e_87 : g_26 (i + 4) = .inl (t.1, 8, .inl zz) := (o_28 _ (by omega)).trans e_23
  have e_88 : g_29 (i + 4) = .inl (t.1, 8, .inl zz) := (o_31 _ (by omega)).trans e_87
  have e_89 : g_33 (i + 4) = .inl (t.1, 8, .inl zz) := (o_35 _ (by omega)).trans e_88
  have e_90 : g_36 (i + 4) = .inl (t.1, 8, .inl zz) := (o_38 _ (by omega)).trans e_89
  have e_91 : g_39 (i + 4) = .inl (t.1, 8, .inl zz) := (o_41 _ (by omega)).trans e_90
  have e_92 : g_42 (i + 4) = .inl (t.1, 8, .inl zz) := (o_44 _ (by omega)).trans e_91
  have e_93 : g_45 (i + 4) = .inl (t.1, 8, .inl zz) := (o_47 _ (by omega)).trans e_92
  have e_94 : g_48 (i + 4) = .inl (t.1, 8, .inl zz) := (o_50 _ (by omega)).trans e_93
  have e_95 : g_33 (i + 5) = .inl (t.1, 8, .inl zz) := (o_35 _ (by omega)).trans e_30
  have e_96 : g_36 (i + 5) = .inl (t.1, 8, .inl zz) := (o_38 _ (by omega)).trans e_95
  have e_97 : g_39 (i + 5) = .inl (t.1, 8, .inl zz) := (o_41 _ (by omega)).trans e_96
  have e_98 : g_42 (i + 5) = .inl (t.1, 8, .inl zz) := (o_44 _ (by omega)).trans e_97
  have e_99 : g_45 (i + 5) = .inl (t.1, 8, .inl zz) := (o_47 _ (by omega)).trans e_98
  have e_100 : g_48 (i + 5) = .inl (t.1, 8, .inl zz) := (o_50 _ (by omega)).trans e_99
  exact r_vret C hr hlocks hS ⟨⟨e_49, e_64, e_76, e_86, e_94, e_100⟩, fun j hj => (o_50 j (by omega)).trans ((o_47 j (by omega)).trans ((o_44 j (by omega)).trans ((o_41 j (by omega)).trans ((o_38 j (by omega)).trans ((o_35 j (by omega)).trans ((o_31 j (by omega)).trans ((o_28 j (by omega)).trans ((o_24 j (by omega)).trans ((o_21 j (by omega)).trans ((o_17 j (by omega)).trans ((o_14 j (by omega)).trans ((o_10 j (by omega)).trans ((o_7 j (by omega)).trans (o_3 j (by omega)))))))))))))))⟩ dX5_init_69
set_option maxHeartbeats 1000000 in
set_option maxRecDepth 100000 in
theorem c_X4_init (l : Launch) (D : va_G) (t : Gx) (B : Nat) (g : Nat → va_E) (i : Nat) (e0 : g i = .inr (4, [.null, .null, .null, .int 0])) : Cv l D t B (i + 1) (i + 4) 3 126 yX4_init cX4_init 1 1 12 g [.ref (B + i)] (fun g' => isRow t B g' i zz zz zz 0 ∧ ∀ j, j < i → g' j = g j) := by
  refine Cv.start (by decide) (Nat.le_of_ble_eq_true rfl) ?_
  intro p e s m below meth c ls C hr hlocks hnm hS hl
  replace C : Cx D t p s m [.ref (B + i)].toArray c cX4_init 1 RX4 := C
  replace hl : lv_has ls 1 [(0, .ref (B + i))] := hl
  refine lv_aload_n C.x C.b dX4_init_0 rfl (lv_at hl 0 rfl) ?_
  refine r_objInit mlX4_3 im_objectInit co_objectInit C hl.1 dX4_init_1 (by decide) (by decide) ?_
  refine lv_aload_n C.x C.b dX4_init_4 rfl (lv_at hl 0 rfl) ?_
  refine lv_bipush (v := 42) C.x C.b dX4_init_5 (by decide) ?_
  refine r_newI (n' := 42) ac_int C hS rfl (by decide) (by decide) (by decide) dX4_init_7 (fun g_1 H e_2 o_3 hS => ?_)
  replace e_2 : g_1 (i + 1) = .inl (t.1, 42, .inl zz) := e_2
  have e_4 : g_1 i = .inr (4, [.null, .null, .null, .int 0]) := (o_3 _ (by omega)).trans e0
  refine r_putF ck4 flX4_11 C hS (by omega) e_4 (by decide) rfl hnm rfl rfl rfl (Nat.le_of_ble_eq_true rfl) dX4_init_9 (fun g_5 H locs e_6 o_7 hS => ?_)
  replace e_6 : g_5 i = .inr (4, [.ref (B + (i + 1)), .null, .null, .int 0]) := e_6
  refine lv_aload_n C.x C.b dX4_init_12 rfl (lv_at hl 0 rfl) ?_
  refine lv_bipush (v := 42) C.x C.b dX4_init_13 (by decide) ?_
  refine r_newI (n' := 42) ac_int C hS rfl (by decide) (by decide) (by decide) dX4_init_15 (fun g_8 H e_9 o_10 hS => ?_)
  replace e_9 : g_8 (i + 2) = .inl (t.1, 42, .inl zz) := e_9
  have e_11 : g_8 i = .inr (4, [.ref (B + (i + 1)), .null, .null, .int 0]) := (o_10 _ (by omega)).trans e_6
  refine r_putF ck4 flX4_15 C hS (by omega) e_11 (by decide) rfl hnm rfl rfl rfl (Nat.le_of_ble_eq_true rfl) dX4_init_17 (fun g_12 H locs e_13 o_14 hS => ?_)
  replace e_13 : g_12 i = .inr (4, [.ref (B + (i + 1)), .ref (B + (i + 2)), .null, .int 0]) := e_13
  refine lv_aload_n C.x C.b dX4_init_20 rfl (lv_at hl 0 rfl) ?_
  refine lv_bipush (v := 42) C.x C.b dX4_init_21 (by decide) ?_
  refine r_newI (n' := 42) ac_int C hS rfl (by decide) (by decide) (by decide) dX4_init_23 (fun g_15 H e_16 o_17 hS => ?_)
  replace e_16 : g_15 (i + 3) = .inl (t.1, 42, .inl zz) := e_16
  have e_18 : g_15 i = .inr (4, [.ref (B + (i + 1)), .ref (B + (i + 2)), .null, .int 0]) := (o_17 _ (by omega)).trans e_13
  refine r_putF ck4 flX4_18 C hS (by omega) e_18 (by decide) rfl hnm rfl rfl rfl (Nat.le_of_ble_eq_true rfl) dX4_init_25 (fun g_19 H locs e_20 o_21 hS => ?_)
  replace e_20 : g_19 i = .inr (4, [.ref (B + (i + 1)), .ref (B + (i + 2)), .ref (B + (i + 3)), .int 0]) := e_20
  refine lv_aload_n C.x C.b dX4_init_28 rfl (lv_at hl 0 rfl) ?_
  refine lv_iconst (v := 0) C.x C.b dX4_init_29 (by decide) ?_
  refine r_put ck4 flX4_21 C hS (by omega) e_20 (by decide) rfl rfl rfl (Nat.le_of_ble_eq_true rfl) dX4_init_30 (fun g_22 H locs e_23 o_24 hS => ?_)
  replace e_23 : g_22 i = .inr (4, [.ref (B + (i + 1)), .ref (B + (i + 2)), .ref (B + (i + 3)), .int 0]) := e_23
  have e_25 : g_5 (i + 1) = .inl (t.1, 42, .inl zz) := (o_7 _ (by omega)).trans e_2
  have e_26 : g_8 (i + 1) = .inl (t.1, 42, .inl zz) := (o_10 _ (by omega)).trans e_25
  have e_27 : g_12 (i + 1) = .inl (t.1, 42, .inl zz) := (o_14 _ (by omega)).trans e_26
  have e_28 : g_15 (i + 1) = .inl (t.1, 42, .inl zz) := (o_17 _ (by omega)).trans e_27
  have e_29 : g_19 (i + 1) = .inl (t.1, 42, .inl zz) := (o_21 _ (by omega)).trans e_28
  have e_30 : g_22 (i + 1) = .inl (t.1, 42, .inl zz) := (o_24 _ (by omega)).trans e_29
  have e_31 : g_12 (i + 2) = .inl (t.1, 42, .inl zz) := (o_14 _ (by omega)).trans e_9
  have e_32 : g_15 (i + 2) = .inl (t.1, 42, .inl zz) := (o_17 _ (by omega)).trans e_31
  have e_33 : g_19 (i + 2) = .inl (t.1, 42, .inl zz) := (o_21 _ (by omega)).trans e_32
  have e_34 : g_22 (i + 2) = .inl (t.1, 42, .inl zz) := (o_24 _ (by omega)).trans e_33
  have e_35 : g_19 (i + 3) = .inl (t.1, 42, .inl zz) := (o_21 _ (by omega)).trans e_16
  have e_36 : g_22 (i + 3) = .inl (t.1, 42, .inl zz) := (o_24 _ (by omega)).trans e_35
  exact r_vret C hr hlocks hS ⟨⟨e_23, e_30, e_34, e_36⟩, fun j hj => (o_24 j (by omega)).trans ((o_21 j (by omega)).trans ((o_17 j (by omega)).trans ((o_14 j (by omega)).trans ((o_10 j (by omega)).trans ((o_7 j (by omega)).trans (o_3 j (by omega)))))))⟩ dX4_init_33
