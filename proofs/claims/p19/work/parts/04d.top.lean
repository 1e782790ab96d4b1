abbrev isWd (x : Int32) : Prop := x = 1 ∨ x = 2 ∨ x = 4 ∨ x = 8
theorem al1_all : ∀ n, n < 9 → ((1 : Int32) <<< (nI n &&& 31)) - 1 = nI (2 ^ n - 1) ∧ 2 ^ n - 1 ≤ 255 := by decide +kernel
theorem al1 {n : Nat} (h : n ≤ 8) : ∃ M, M ≤ 255 ∧ ((1 : Int32) <<< (nI n &&& 31)) - 1 = nI M := ⟨2 ^ n - 1, (al1_all n (by omega)).2, (al1_all n (by omega)).1⟩
theorem sw_out_0_3 {x : Int32} (h0 : ¬ x = 0) (h1 : ¬ x = 1) (h2 : ¬ x = 2) (h3 : ¬ x = 3) : x.toInt < 0 ∨ 3 < x.toInt := by
  have a0 : x.toInt ≠ 0 := i32_ne h0
  have a1 : x.toInt ≠ 1 := i32_ne h1
  have a2 : x.toInt ≠ 2 := i32_ne h2
  have a3 : x.toInt ≠ 3 := i32_ne h3
  omega
set_option maxHeartbeats 1000000 in
set_option maxRecDepth 100000 in
theorem c_X7_isOrder (l : Launch) (D : va_G) (t : Gx) (B N : Nat) (g : Nat → va_E) (x : Int32)  : Ci l D t B N yX7_isOrder cX7_isOrder 1 (some .boolean) 0 0 g [.int x] (fun r g' => g = g' ∧ r = bz (inP 40960 x)) := by
  refine Ci.start (by decide) (Nat.le_of_ble_eq_true rfl) ?_
  intro p e s m below meth c ls C hr hlocks hS hl
  replace C : Cx D t p s m [.int x].toArray c cX7_isOrder 1 RX7 := C
  replace hl : lv_has ls 1 [(0, .int x)] := hl
  refine lv_iload_n C.x C.b dX7_isOrder_0 rfl (lv_at hl 0 rfl) ?_
  refine lv_if_lt (tgt := 14) C.x C.b dX7_isOrder_1 (by decide) (fun c_1 => ?_) (fun c_1 => ?_)
  · skip
    refine lv_iconst (v := 0) C.x C.b dX7_isOrder_14 (by decide) ?_
    exact r_zret C hr hlocks hS (by decide) ⟨rfl, (bz_f (fun q => q.1 c_1)).symm⟩ dX7_isOrder_15
  · skip
    refine lv_iload_n C.x C.b dX7_isOrder_4 rfl (lv_at hl 0 rfl) ?_
    refine lv_ldc (v := 40960) C.x C.b C.o (C.w kkX7_200) dX7_isOrder_5 ?_
    refine lv_icmp_ge (tgt := 14) C.x C.b dX7_isOrder_7 (by decide) (fun c_2 => ?_) (fun c_2 => ?_)
    · skip
      refine lv_iconst (v := 0) C.x C.b dX7_isOrder_14 (by decide) ?_
      exact r_zret C hr hlocks hS (by decide) ⟨rfl, (bz_f (fun q => q.2 c_2)).symm⟩ dX7_isOrder_15
    · skip
      refine lv_iconst (v := 1) C.x C.b dX7_isOrder_10 (by decide) ?_
      refine lv_goto (tgt := 15) C.x C.b dX7_isOrder_11 (by decide) ?_
      exact r_zret C hr hlocks hS (by decide) ⟨rfl, (bz_t ⟨c_1, c_2⟩).symm⟩ dX7_isOrder_15
set_option maxHeartbeats 1000000 in
set_option maxRecDepth 100000 in
theorem c_X7_isInput (l : Launch) (D : va_G) (t : Gx) (B N : Nat) (g : Nat → va_E) (x : Int32)  : Ci l D t B N yX7_isInput cX7_isInput 1 (some .boolean) 0 0 g [.int x] (fun r g' => g = g' ∧ r = bz (inP 16 x)) := by
  refine Ci.start (by decide) (Nat.le_of_ble_eq_true rfl) ?_
  intro p e s m below meth c ls C hr hlocks hS hl
  replace C : Cx D t p s m [.int x].toArray c cX7_isInput 1 RX7 := C
  replace hl : lv_has ls 1 [(0, .int x)] := hl
  refine lv_iload_n C.x C.b dX7_isInput_0 rfl (lv_at hl 0 rfl) ?_
  refine lv_if_lt (tgt := 14) C.x C.b dX7_isInput_1 (by decide) (fun c_1 => ?_) (fun c_1 => ?_)
  · skip
    refine lv_iconst (v := 0) C.x C.b dX7_isInput_14 (by decide) ?_
    exact r_zret C hr hlocks hS (by decide) ⟨rfl, (bz_f (fun q => q.1 c_1)).symm⟩ dX7_isInput_15
  · skip
    refine lv_iload_n C.x C.b dX7_isInput_4 rfl (lv_at hl 0 rfl) ?_
    refine lv_bipush (v := 16) C.x C.b dX7_isInput_5 (by decide) ?_
    refine lv_icmp_ge (tgt := 14) C.x C.b dX7_isInput_7 (by decide) (fun c_2 => ?_) (fun c_2 => ?_)
    · skip
      refine lv_iconst (v := 0) C.x C.b dX7_isInput_14 (by decide) ?_
      exact r_zret C hr hlocks hS (by decide) ⟨rfl, (bz_f (fun q => q.2 c_2)).symm⟩ dX7_isInput_15
    · skip
      refine lv_iconst (v := 1) C.x C.b dX7_isInput_10 (by decide) ?_
      refine lv_goto (tgt := 15) C.x C.b dX7_isInput_11 (by decide) ?_
      exact r_zret C hr hlocks hS (by decide) ⟨rfl, (bz_t ⟨c_1, c_2⟩).symm⟩ dX7_isInput_15
set_option maxHeartbeats 1000000 in
set_option maxRecDepth 100000 in
theorem c_X7_isWidth (l : Launch) (D : va_G) (t : Gx) (B N : Nat) (g : Nat → va_E) (x : Int32)  : Ci l D t B N yX7_isWidth cX7_isWidth 1 (some .boolean) 0 0 g [.int x] (fun r g' => g = g' ∧ r = bz (isWd x)) := by
  refine Ci.start (by decide) (Nat.le_of_ble_eq_true rfl) ?_
  intro p e s m below meth c ls C hr hlocks hS hl
  replace C : Cx D t p s m [.int x].toArray c cX7_isWidth 1 RX7 := C
  replace hl : lv_has ls 1 [(0, .int x)] := hl
  refine lv_iload_n C.x C.b dX7_isWidth_0 rfl (lv_at hl 0 rfl) ?_
  refine lv_iconst (v := 1) C.x C.b dX7_isWidth_1 (by decide) ?_
  refine lv_icmp_eq (tgt := 21) C.x C.b dX7_isWidth_2 (by decide) (fun c_1 => ?_) (fun c_1 => ?_)
  · skip
    refine lv_iconst (v := 1) C.x C.b dX7_isWidth_21 (by decide) ?_
    refine lv_goto (tgt := 26) C.x C.b dX7_isWidth_22 (by decide) ?_
    exact r_zret C hr hlocks hS (by decide) ⟨rfl, (bz_t (Or.inl c_1)).symm⟩ dX7_isWidth_26
  · skip
    refine lv_iload_n C.x C.b dX7_isWidth_5 rfl (lv_at hl 0 rfl) ?_
    refine lv_iconst (v := 2) C.x C.b dX7_isWidth_6 (by decide) ?_
    refine lv_icmp_eq (tgt := 21) C.x C.b dX7_isWidth_7 (by decide) (fun c_2 => ?_) (fun c_2 => ?_)
    · skip
      refine lv_iconst (v := 1) C.x C.b dX7_isWidth_21 (by decide) ?_
      refine lv_goto (tgt := 26) C.x C.b dX7_isWidth_22 (by decide) ?_
      exact r_zret C hr hlocks hS (by decide) ⟨rfl, (bz_t (Or.inr (Or.inl c_2))).symm⟩ dX7_isWidth_26
    · skip
      refine lv_iload_n C.x C.b dX7_isWidth_10 rfl (lv_at hl 0 rfl) ?_
      refine lv_iconst (v := 4) C.x C.b dX7_isWidth_11 (by decide) ?_
      refine lv_icmp_eq (tgt := 21) C.x C.b dX7_isWidth_12 (by decide) (fun c_3 => ?_) (fun c_3 => ?_)
      · skip
        refine lv_iconst (v := 1) C.x C.b dX7_isWidth_21 (by decide) ?_
        refine lv_goto (tgt := 26) C.x C.b dX7_isWidth_22 (by decide) ?_
        exact r_zret C hr hlocks hS (by decide) ⟨rfl, (bz_t (Or.inr (Or.inr (Or.inl c_3)))).symm⟩ dX7_isWidth_26
      · skip
        refine lv_iload_n C.x C.b dX7_isWidth_15 rfl (lv_at hl 0 rfl) ?_
        refine lv_bipush (v := 8) C.x C.b dX7_isWidth_16 (by decide) ?_
        refine lv_icmp_ne (tgt := 25) C.x C.b dX7_isWidth_18 (by decide) (fun c_4 => ?_) (fun c_4 => ?_)
        · skip
          refine lv_iconst (v := 0) C.x C.b dX7_isWidth_25 (by decide) ?_
          exact r_zret C hr hlocks hS (by decide) ⟨rfl, (bz_f (fun q => q.elim c_1 (fun q => q.elim c_2 (fun q => q.elim c_3 c_4)))).symm⟩ dX7_isWidth_26
        · skip
          refine lv_iconst (v := 1) C.x C.b dX7_isWidth_21 (by decide) ?_
          refine lv_goto (tgt := 26) C.x C.b dX7_isWidth_22 (by decide) ?_
          exact r_zret C hr hlocks hS (by decide) ⟨rfl, (bz_t (Or.inr (Or.inr (Or.inr (c_4))))).symm⟩ dX7_isWidth_26
set_option maxHeartbeats 1000000 in
set_option maxRecDepth 100000 in
theorem k_X7_forgetRuns (l : Launch) (D : va_G) (t : Gx) (B N : Nat) (g : Nat → va_E) (o pr w : Nat → Int32) (n : Nat) (ey wi ev : Int32)  (hN : 220 ≤ N) (hP : isProg t B g 1 o pr w n) (hn : n ≤ 8) (hW : isWat g 5 ey wi ev) (hScr : Scr t B g)  : Cv l D t B N N 0 0 yX7_forgetRuns cX7_forgetRuns 1 1 21 g [.ref (B + 0)] (fun g' => Kp t B g g') := by
  refine Cv.start (by decide) (Nat.le_of_ble_eq_true rfl) ?_
  intro p e s m below meth c ls C hr hlocks hnm hS hl
  replace C : Cx D t p s m [.ref (B + 0)].toArray c cX7_forgetRuns 1 RX7 := C
  replace hl : lv_has ls 1 [(0, .ref (B + 0))] := hl
  obtain ⟨p0, p1, p2, p3⟩ := id hP
  have hKp : Kp t B g g := Kp.rf hScr
  refine lv_aload_n C.x C.b dX7_forgetRuns_0 rfl (lv_at hl 0 rfl) ?_
  refine lv_iconst (v := (-1)) C.x C.b dX7_forgetRuns_1 (by decide) ?_
  obtain ⟨v_1, e_2⟩ := hKp.2.1
  refine r_put ck7 flX7_61 C hS (by omega) e_2 (by decide) rfl rfl rfl (Nat.le_of_ble_eq_true rfl) dX7_forgetRuns_2 (fun g_3 H locs e_4 o_5 hS => ?_)
  replace e_4 : g_3 0 = .inr (7, [.ref (B + 1), .ref (B + 5), .ref (B + 6), .ref (B + 9), .ref (B + 15), .ref (B + 19), .ref (B + 23), .ref (B + 113), .int (-1)]) := e_4
  replace hKp : Kp t B g g_3 := hKp.top e_4 o_5
  refine lv_aload_n C.x C.b dX7_forgetRuns_5 rfl (lv_at hl 0 rfl) ?_
  refine r_get ck7 flX7_50 C hS (by omega) e_4 (by decide) rfl dX7_forgetRuns_6 ?_
  have e_6 : g_3 1 = .inr (3, [.ref (B + (1 + 1)), .ref (B + (1 + 2)), .ref (B + (1 + 3)), .int (nI n)]) := (hKp.1 _ (by omega)).trans p0
  have e_7 : g_3 (1 + 1) = .inl (t.1, 8, .inl o) := (hKp.1 _ (by omega)).trans p1
  have e_8 : g_3 (1 + 2) = .inl (t.1, 8, .inl pr) := (hKp.1 _ (by omega)).trans p2
  have e_9 : g_3 (1 + 3) = .inl (t.1, 8, .inl w) := (hKp.1 _ (by omega)).trans p3
  have e_10 : g_3 5 = .inr (6, [.int ey, .int wi, .int ev]) := (hKp.1 _ (by omega)).trans hW
  have e_14 := hKp.2.2.2.2.2.1.1
  refine r_callVv (b := 23) (As := []) (rest := []) (k_X2_forget l D t B N g_3 _ _ _ _ _ _ _  (by omega) ⟨e_6, e_7, e_8, e_9⟩ (by omega) e_10 hKp.2 ) mf_yX2_forget mlX7_107 im_yX2_forget se_yX2_forget (by decide) C hS (by omega) e_14 (show vwCl[2]? = some _ from rfl) rfl rfl hl.1 rfl (Nat.le_of_ble_eq_true rfl) dX7_forgetRuns_9 ⟨Nat.zero_le _, Nat.zero_le _⟩ (fun g_11 H locs w_12 hS => ?_)
  replace hKp : Kp t B g g_11 := hKp.tr w_12
  refine lv_aload_n C.x C.b dX7_forgetRuns_12 rfl (lv_at hl 0 rfl) ?_
  obtain ⟨v_15, e_16⟩ := hKp.2.1
  refine r_get ck7 flX7_57 C hS (by omega) e_16 (by decide) rfl dX7_forgetRuns_13 ?_
  have e_17 : g_11 1 = .inr (3, [.ref (B + (1 + 1)), .ref (B + (1 + 2)), .ref (B + (1 + 3)), .int (nI n)]) := (hKp.1 _ (by omega)).trans p0
  have e_18 : g_11 (1 + 1) = .inl (t.1, 8, .inl o) := (hKp.1 _ (by omega)).trans p1
  have e_19 : g_11 (1 + 2) = .inl (t.1, 8, .inl pr) := (hKp.1 _ (by omega)).trans p2
  have e_20 : g_11 (1 + 3) = .inl (t.1, 8, .inl w) := (hKp.1 _ (by omega)).trans p3
  have e_21 : g_11 5 = .inr (6, [.int ey, .int wi, .int ev]) := (hKp.1 _ (by omega)).trans hW
  obtain ⟨v_25, e_26, hz_27⟩ := hKp.2.2.2.2.2.2.2.2.1
  refine r_callVv (b := 113) (As := []) (rest := []) (k_X0_forget l D t B N g_11 _ _ _ _ _ _ _  (by omega) ⟨e_17, e_18, e_19, e_20⟩ (by omega) e_21 hKp.2 ) mf_yX0_forget mlX7_201 im_yX0_forget se_yX0_forget (by decide) C hS (by omega) e_26 (show vwCl[0]? = some _ from rfl) rfl rfl hl.1 rfl (Nat.le_of_ble_eq_true rfl) dX7_forgetRuns_16 ⟨Nat.zero_le _, Nat.zero_le _⟩ (fun g_22 H locs w_23 hS => ?_)
  replace hKp : Kp t B g g_22 := hKp.tr w_23
  exact r_vret C hr hlocks hS hKp dX7_forgetRuns_19
set_option maxHeartbeats 1000000 in
set_option maxRecDepth 100000 in
theorem k_X7_fillRow (l : Launch) (D : va_G) (t : Gx) (B N : Nat) (g : Nat → va_E) (o pr w : Nat → Int32) (n : Nat) (ey wi ev : Int32) (i : Nat) (x y : Int32) (hN : 220 ≤ N) (hP : isProg t B g 1 o pr w n) (hn : n ≤ 8) (hW : isWat g 5 ey wi ev) (hScr : Scr t B g) (hi : rowId i) (hi0 : i + 3 < 220) : Cv l D t B N N 0 0 yX7_fillRow cX7_fillRow 4 4 104 g [.ref (B + 0), .ref (B + i), .int x, .int y] (fun g' => Kp t B g g') := by
  refine Cv.start (by decide) (Nat.le_of_ble_eq_true rfl) ?_
  intro p e s m below meth c ls C hr hlocks hnm hS hl
  replace C : Cx D t p s m [.ref (B + 0), .ref (B + i), .int x, .int y].toArray c cX7_fillRow 4 RX7 := C
  replace hl : lv_has ls 4 [(0, .ref (B + 0)), (1, .ref (B + i)), (2, .int x), (3, .int y)] := hl
  obtain ⟨p0, p1, p2, p3⟩ := id hP
  have hKp : Kp t B g g := Kp.rf hScr
  refine lv_aload_n C.x C.b dX7_fillRow_0 rfl (lv_at hl 0 rfl) ?_
  obtain ⟨v_1, e_2⟩ := hKp.2.1
  refine r_get ck7 flX7_26 C hS (by omega) e_2 (by decide) rfl dX7_fillRow_1 ?_
  refine lv_aload_n C.x C.b dX7_fillRow_4 rfl (lv_at hl 0 rfl) ?_
  refine r_get ck7 flX7_12 C hS (by omega) e_2 (by decide) rfl dX7_fillRow_5 ?_
  refine lv_aload_n C.x C.b dX7_fillRow_8 rfl (lv_at hl 0 rfl) ?_
  refine r_get ck7 flX7_19 C hS (by omega) e_2 (by decide) rfl dX7_fillRow_9 ?_
  refine lv_iload_n C.x C.b dX7_fillRow_12 rfl (lv_at hl 2 rfl) ?_
  refine lv_iload_n C.x C.b dX7_fillRow_13 rfl (lv_at hl 3 rfl) ?_
  refine lv_aload_n C.x C.b dX7_fillRow_14 rfl (lv_at hl 0 rfl) ?_
  refine r_get ck7 flX7_33 C hS (by omega) e_2 (by decide) rfl dX7_fillRow_15 ?_
  obtain ⟨q_6, q_7, q_8, ⟨e_9, e_10, e_11⟩⟩ := hKp.2.2.1
  refine r_callVv (b := 6) (As := [.ref (B + 1), .ref (B + 5), .int x, .int y, .ref (B + 9)]) (rest := []) (k_go l D t B N g _ _ _ _ _ _ _ 9 x y (by omega) ⟨p0, p1, p2, p3⟩ hW (by omega) (Or.inl rfl) hKp.2) mf_yX1_go mlX7_202 im_yX1_go se_yX1_go (by decide) C hS (by omega) e_9 (show vwCl[1]? = some _ from rfl) rfl rfl hl.1 rfl (Nat.le_of_ble_eq_true rfl) dX7_fillRow_18 ⟨Nat.zero_le _, Nat.zero_le _⟩ (fun g_3 H locs w_4 hS => ?_)
  replace hKp : Kp t B g g_3 := hKp.tr w_4
  refine lv_aload_n C.x C.b dX7_fillRow_21 rfl (lv_at hl 1 rfl) ?_
  refine lv_aload_n C.x C.b dX7_fillRow_22 rfl (lv_at hl 0 rfl) ?_
  obtain ⟨v_12, e_13⟩ := hKp.2.1
  refine r_get ck7 flX7_33 C hS (by omega) e_13 (by decide) rfl dX7_fillRow_23 ?_
  refine lv_aload_n C.x C.b dX7_fillRow_26 rfl (lv_at hl 0 rfl) ?_
  refine r_get ck7 flX7_19 C hS (by omega) e_13 (by decide) rfl dX7_fillRow_27 ?_
  have e_14 : g_3 5 = .inr (6, [.int ey, .int wi, .int ev]) := (hKp.1 _ (by omega)).trans hW
  refine r_get ck6 flX7_98 C hS (by omega) e_14 (by decide) rfl dX7_fillRow_30 ?_
  refine lv_aload_n C.x C.b dX7_fillRow_33 rfl (lv_at hl 0 rfl) ?_
  refine r_get ck7 flX7_19 C hS (by omega) e_13 (by decide) rfl dX7_fillRow_34 ?_
  refine r_get ck6 flX7_89 C hS (by omega) e_14 (by decide) rfl dX7_fillRow_37 ?_
  obtain ⟨q_18, q_19, q_20, q_21, ⟨e_22, e_23, e_24, e_25⟩, hl_26⟩ := hKp.2.2.2.2.1 i hi
  refine r_callVv (b := i) (As := [.ref (B + 9), .int ey, .int ev]) (rest := []) (k_fill l D t B N g_3 i 9 ey ev (by omega) hi (Or.inl rfl) hKp.2) mf_yX4_fill mlX7_206 im_yX4_fill se_yX4_fill (by decide) C hS (by omega) e_22 (show vwCl[4]? = some _ from rfl) rfl rfl hl.1 rfl (Nat.le_of_ble_eq_true rfl) dX7_fillRow_40 ⟨Nat.zero_le _, Nat.zero_le _⟩ (fun g_15 H locs w_16 hS => ?_)
  replace hKp : Kp t B g g_15 := hKp.tr w_16
  exact r_vret C hr hlocks hS hKp dX7_fillRow_43
set_option maxHeartbeats 1000000 in
set_option maxRecDepth 100000 in
theorem k_X7_classes (l : Launch) (D : va_G) (t : Gx) (B N : Nat) (g : Nat → va_E) (o pr w : Nat → Int32) (n : Nat) (ey wi ev : Int32) (x : Int32) (hN : 220 ≤ N) (hP : isProg t B g 1 o pr w n) (hn : n ≤ 8) (hW : isWat g 5 ey wi ev) (hScr : Scr t B g)  : Ci l D t B N yX7_classes cX7_classes 2 (some .int) 5 132 g [.ref (B + 0), .int x] (fun r g' => Kp t B g g') := by
  refine Ci.start (by decide) (Nat.le_of_ble_eq_true rfl) ?_
  intro p e s m below meth c ls C hr hlocks hS hl
  replace C : Cx D t p s m [.ref (B + 0), .int x].toArray c cX7_classes 2 RX7 := C
  replace hl : lv_has ls 2 [(0, .ref (B + 0)), (1, .int x)] := hl
  obtain ⟨p0, p1, p2, p3⟩ := id hP
  have hKp : Kp t B g g := Kp.rf hScr
  refine lv_iload_n C.x C.b dX7_classes_0 rfl (lv_at hl 1 rfl) ?_
  refine r_callS (As := [.int x]) (rest := []) (c_X7_isInput l D t B N g x) mf_yX7_isInput mlX7_116 sm_yX7_isInput (by decide) C hS rfl hl.1 rfl (Nat.le_of_ble_eq_true rfl) dX7_classes_1 ⟨Nat.zero_le _, Nat.zero_le _⟩ (fun r_3 g_1 H locs w_2 hS => ?_)
  obtain ⟨rfl, er_3⟩ := w_2
  by_cases b_4 : inP 16 x
  · rw [bz_t b_4] at er_3
    subst er_3
    obtain ⟨q_5, hq_6, rfl⟩ := inP_nI b_4 (by decide)
    refine lv_if_ne (tgt := 9) C.x C.b dX7_classes_4 (by decide) (fun c_7 => ?_) (fun c_7 => absurd c_7 (by decide))
    refine lv_aload_n C.x C.b dX7_classes_9 rfl (lv_at hl 0 rfl) ?_
    obtain ⟨v_8, e_9⟩ := hKp.2.1
    refine r_get ck7 flX7_50 C hS (by omega) e_9 (by decide) rfl dX7_classes_10 ?_
    refine lv_aload_n C.x C.b dX7_classes_13 rfl (lv_at hl 0 rfl) ?_
    refine r_get ck7 flX7_26 C hS (by omega) e_9 (by decide) rfl dX7_classes_14 ?_
    refine lv_aload_n C.x C.b dX7_classes_17 rfl (lv_at hl 0 rfl) ?_
    refine r_get ck7 flX7_12 C hS (by omega) e_9 (by decide) rfl dX7_classes_18 ?_
    refine lv_aload_n C.x C.b dX7_classes_21 rfl (lv_at hl 0 rfl) ?_
    refine r_get ck7 flX7_19 C hS (by omega) e_9 (by decide) rfl dX7_classes_22 ?_
    refine lv_iload_n C.x C.b dX7_classes_25 rfl (lv_at hl 1 rfl) ?_
    have e_13 := hKp.2.2.2.2.2.1.1
    refine r_callVv (b := 23) (As := [.ref (B + 6), .ref (B + 1), .ref (B + 5), .int (nI q_5)]) (rest := []) (k_X2_learn l D t B N g _ _ _ _ _ _ _ q_5 (by omega) ⟨p0, p1, p2, p3⟩ (by omega) hW hKp.2 (by omega)) mf_yX2_learn mlX7_149 im_yX2_learn se_yX2_learn (by decide) C hS (by omega) e_13 (show vwCl[2]? = some _ from rfl) rfl rfl hl.1 rfl (Nat.le_of_ble_eq_true rfl) dX7_classes_26 ⟨Nat.zero_le _, Nat.zero_le _⟩ (fun g_10 H locs w_11 hS => ?_)
    replace hKp : Kp t B g g_10 := hKp.tr w_11
    refine lv_aload_n C.x C.b dX7_classes_29 rfl (lv_at hl 0 rfl) ?_
    obtain ⟨v_14, e_15⟩ := hKp.2.1
    refine r_get ck7 flX7_50 C hS (by omega) e_15 (by decide) rfl dX7_classes_30 ?_
    have e_16 := hKp.2.2.2.2.2.1.1
    refine r_get ck2 flX7_153 C hS (by omega) e_16 (by decide) rfl dX7_classes_33 ?_
    refine lv_iload_n C.x C.b dX7_classes_36 rfl (lv_at hl 1 rfl) ?_
    obtain ⟨q_17, e_18⟩ := hKp.2.2.2.2.2.2.1
    refine r_ialdN q_5 rfl (by omega) (by decide) C hS (by omega) e_18 dX7_classes_37 ?_
    exact r_iret C hr hlocks hS hKp dX7_classes_38
  · rw [bz_f b_4] at er_3
    subst er_3
    refine lv_if_ne (tgt := 9) C.x C.b dX7_classes_4 (by decide) (fun c_19 => absurd (by decide) c_19) (fun c_19 => ?_)
    refine lv_iconst (v := (-1)) C.x C.b dX7_classes_7 (by decide) ?_
    exact r_iret C hr hlocks hS hKp dX7_classes_8
set_option maxHeartbeats 1000000 in
set_option maxRecDepth 100000 in
theorem k_X7_classOf (l : Launch) (D : va_G) (t : Gx) (B N : Nat) (g : Nat → va_E) (o pr w : Nat → Int32) (n : Nat) (ey wi ev : Int32) (x y : Int32) (hN : 220 ≤ N) (hP : isProg t B g 1 o pr w n) (hn : n ≤ 8) (hW : isWat g 5 ey wi ev) (hScr : Scr t B g)  : Ci l D t B N yX7_classOf cX7_classOf 3 (some .int) 5 132 g [.ref (B + 0), .int x, .int y] (fun r g' => Kp t B g g') := by
  refine Ci.start (by decide) (Nat.le_of_ble_eq_true rfl) ?_
  intro p e s m below meth c ls C hr hlocks hS hl
  replace C : Cx D t p s m [.ref (B + 0), .int x, .int y].toArray c cX7_classOf 3 RX7 := C
  replace hl : lv_has ls 3 [(0, .ref (B + 0)), (1, .int x), (2, .int y)] := hl
  obtain ⟨p0, p1, p2, p3⟩ := id hP
  have hKp : Kp t B g g := Kp.rf hScr
  refine lv_iload_n C.x C.b dX7_classOf_0 rfl (lv_at hl 1 rfl) ?_
  refine r_callS (As := [.int x]) (rest := []) (c_X7_isInput l D t B N g x) mf_yX7_isInput mlX7_116 sm_yX7_isInput (by decide) C hS rfl hl.1 rfl (Nat.le_of_ble_eq_true rfl) dX7_classOf_1 ⟨Nat.zero_le _, Nat.zero_le _⟩ (fun r_3 g_1 H locs w_2 hS => ?_)
  obtain ⟨rfl, er_3⟩ := w_2
  by_cases b_4 : inP 16 x
  · rw [bz_t b_4] at er_3
    subst er_3
    obtain ⟨q_5, hq_6, rfl⟩ := inP_nI b_4 (by decide)
    refine lv_if_eq (tgt := 14) C.x C.b dX7_classOf_4 (by decide) (fun c_7 => absurd c_7 (by decide)) (fun c_7 => ?_)
    refine lv_iload_n C.x C.b dX7_classOf_7 rfl (lv_at hl 2 rfl) ?_
    refine r_callS (As := [.int y]) (rest := []) (c_X7_isInput l D t B N g y) mf_yX7_isInput mlX7_116 sm_yX7_isInput (by decide) C hS rfl hl.1 rfl (Nat.le_of_ble_eq_true rfl) dX7_classOf_8 ⟨Nat.zero_le _, Nat.zero_le _⟩ (fun r_10 g_8 H locs w_9 hS => ?_)
    obtain ⟨rfl, er_10⟩ := w_9
    by_cases b_11 : inP 16 y
    · rw [bz_t b_11] at er_10
      subst er_10
      obtain ⟨q_12, hq_13, rfl⟩ := inP_nI b_11 (by decide)
      refine lv_if_ne (tgt := 16) C.x C.b dX7_classOf_11 (by decide) (fun c_14 => ?_) (fun c_14 => absurd c_14 (by decide))
      refine lv_aload_n C.x C.b dX7_classOf_16 rfl (lv_at hl 0 rfl) ?_
      obtain ⟨v_15, e_16⟩ := hKp.2.1
      refine r_get ck7 flX7_50 C hS (by omega) e_16 (by decide) rfl dX7_classOf_17 ?_
      refine lv_aload_n C.x C.b dX7_classOf_20 rfl (lv_at hl 0 rfl) ?_
      refine r_get ck7 flX7_26 C hS (by omega) e_16 (by decide) rfl dX7_classOf_21 ?_
      refine lv_aload_n C.x C.b dX7_classOf_24 rfl (lv_at hl 0 rfl) ?_
      refine r_get ck7 flX7_12 C hS (by omega) e_16 (by decide) rfl dX7_classOf_25 ?_
      refine lv_aload_n C.x C.b dX7_classOf_28 rfl (lv_at hl 0 rfl) ?_
      refine r_get ck7 flX7_19 C hS (by omega) e_16 (by decide) rfl dX7_classOf_29 ?_
      refine lv_iload_n C.x C.b dX7_classOf_32 rfl (lv_at hl 1 rfl) ?_
      have e_20 := hKp.2.2.2.2.2.1.1
      refine r_callVv (b := 23) (As := [.ref (B + 6), .ref (B + 1), .ref (B + 5), .int (nI q_5)]) (rest := []) (k_X2_learn l D t B N g _ _ _ _ _ _ _ q_5 (by omega) ⟨p0, p1, p2, p3⟩ (by omega) hW hKp.2 (by omega)) mf_yX2_learn mlX7_149 im_yX2_learn se_yX2_learn (by decide) C hS (by omega) e_20 (show vwCl[2]? = some _ from rfl) rfl rfl hl.1 rfl (Nat.le_of_ble_eq_true rfl) dX7_classOf_33 ⟨Nat.zero_le _, Nat.zero_le _⟩ (fun g_17 H locs w_18 hS => ?_)
      replace hKp : Kp t B g g_17 := hKp.tr w_18
      refine lv_aload_n C.x C.b dX7_classOf_36 rfl (lv_at hl 0 rfl) ?_
      obtain ⟨v_21, e_22⟩ := hKp.2.1
      refine r_get ck7 flX7_50 C hS (by omega) e_22 (by decide) rfl dX7_classOf_37 ?_
      have e_23 := hKp.2.2.2.2.2.1.1
      refine r_get ck2 flX7_156 C hS (by omega) e_23 (by decide) rfl dX7_classOf_40 ?_
      refine lv_iload_n C.x C.b dX7_classOf_43 rfl (lv_at hl 1 rfl) ?_
      have e_24 := hKp.2.2.2.2.2.1.2.1
      refine r_aald q_5 rfl (by omega) (by decide) (cnQ_at (by omega)) C hS (by omega) 4 rfl rfl e_24 dX7_classOf_44 ?_
      refine lv_iload_n C.x C.b dX7_classOf_45 rfl (lv_at hl 2 rfl) ?_
      obtain ⟨q_25, e_26⟩ := hKp.2.2.2.2.2.2.2.1 q_5 (by omega)
      refine r_ialdN q_12 rfl (by omega) (by decide) C hS (by omega) e_26 dX7_classOf_46 ?_
      exact r_iret C hr hlocks hS hKp dX7_classOf_47
    · rw [bz_f b_11] at er_10
      subst er_10
      refine lv_if_ne (tgt := 16) C.x C.b dX7_classOf_11 (by decide) (fun c_27 => absurd (by decide) c_27) (fun c_27 => ?_)
      refine lv_iconst (v := (-1)) C.x C.b dX7_classOf_14 (by decide) ?_
      exact r_iret C hr hlocks hS hKp dX7_classOf_15
  · rw [bz_f b_4] at er_3
    subst er_3
    refine lv_if_eq (tgt := 14) C.x C.b dX7_classOf_4 (by decide) (fun c_28 => ?_) (fun c_28 => absurd (by decide) c_28)
    refine lv_iconst (v := (-1)) C.x C.b dX7_classOf_14 (by decide) ?_
    exact r_iret C hr hlocks hS hKp dX7_classOf_15
set_option maxHeartbeats 1000000 in
set_option maxRecDepth 100000 in
theorem k_X7_most (l : Launch) (D : va_G) (t : Gx) (B N : Nat) (g : Nat → va_E) (o pr w : Nat → Int32) (n : Nat) (ey wi ev : Int32)  (hN : 220 ≤ N) (hP : isProg t B g 1 o pr w n) (hn : n ≤ 8) (hW : isWat g 5 ey wi ev) (hScr : Scr t B g)  : Ci l D t B N yX7_most cX7_most 3 (some .int) 5 132 g [.ref (B + 0)] (fun r g' => Kp t B g g') := by
  refine Ci.start (by decide) (Nat.le_of_ble_eq_true rfl) ?_
  intro p e s m below meth c ls C hr hlocks hS hl
  replace C : Cx D t p s m [.ref (B + 0)].toArray c cX7_most 3 RX7 := C
  replace hl : lv_has ls 3 [(0, .ref (B + 0))] := hl
  obtain ⟨p0, p1, p2, p3⟩ := id hP
  have hKp : Kp t B g g := Kp.rf hScr
  refine lv_iconst (v := 0) C.x C.b dX7_most_0 (by decide) ?_
  refine lv_istore_n (lv' := [(1, .int 0), (0, .ref (B + 0))]) C.x C.b dX7_most_1 rfl hl (by decide) rfl (fun ls hl => ?_)
  refine lv_iconst (v := 0) C.x C.b dX7_most_2 (by decide) ?_
  refine lv_istore_n (lv' := [(2, .int 0), (1, .int 0), (0, .ref (B + 0))]) C.x C.b dX7_most_3 rfl hl (by decide) rfl (fun ls hl => ?_)
  have lp_1 : ∀ (u_2 k_3 : Nat) (b_7 : Int32) (g_6 : Nat → va_E) (H : Heap) (locs : List Loc) (ls : Array Slot), k_3 + u_2 = 16 → Kp t B g g_6 → St D B s.heap N g_6 H locs → lv_has ls 3 [(0, .ref (B + 0)), (1, .int b_7), (2, .int (nI k_3))] → W p l e (rmOf 5 132 0 0) s m [.ref (B + 0)].toArray below meth c H locs 0 0 (MQ below (qI D B N (fun r g' => Kp t B g g')) [.ref (B + 0)].toArray s 0 0 (fun q => B ≤ q)) (F0 m 4 ls []) := by
    intro u_2
    induction u_2 with
    | zero =>
      intro k_3 b_7 g_6 H locs ls hk_4 hKp hS hl
      obtain rfl : 16 = k_3 := by omega
      refine lv_iload_n C.x C.b dX7_most_4 rfl (lv_at hl 2 rfl) ?_
      refine lv_bipush (v := 16) C.x C.b dX7_most_5 (by decide) ?_
      refine lv_icmp_ge (tgt := 50) C.x C.b dX7_most_7 (by decide) (fun c_8 => ?_) (fun c_8 => absurd (by decide) c_8)
      refine lv_iload_n C.x C.b dX7_most_50 rfl (lv_at hl 1 rfl) ?_
      exact r_iret C hr hlocks hS hKp dX7_most_51
    | succ u_2 ih_5 =>
      intro k_3 b_7 g_6 H locs ls hk_4 hKp hS hl
      refine lv_iload_n C.x C.b dX7_most_4 rfl (lv_at hl 2 rfl) ?_
      refine lv_bipush (v := 16) C.x C.b dX7_most_5 (by decide) ?_
      refine lv_icmp_ge (tgt := 50) C.x C.b dX7_most_7 (by decide) (fun c_9 => absurd c_9 (nI_ge (a := k_3) (b := 16) (by omega) (by decide))) (fun c_9 => ?_)
      refine lv_aload_n C.x C.b dX7_most_10 rfl (lv_at hl 0 rfl) ?_
      obtain ⟨v_10, e_11⟩ := hKp.2.1
      refine r_get ck7 flX7_50 C hS (by omega) e_11 (by decide) rfl dX7_most_11 ?_
      refine lv_aload_n C.x C.b dX7_most_14 rfl (lv_at hl 0 rfl) ?_
      refine r_get ck7 flX7_26 C hS (by omega) e_11 (by decide) rfl dX7_most_15 ?_
      refine lv_aload_n C.x C.b dX7_most_18 rfl (lv_at hl 0 rfl) ?_
      refine r_get ck7 flX7_12 C hS (by omega) e_11 (by decide) rfl dX7_most_19 ?_
      refine lv_aload_n C.x C.b dX7_most_22 rfl (lv_at hl 0 rfl) ?_
      refine r_get ck7 flX7_19 C hS (by omega) e_11 (by decide) rfl dX7_most_23 ?_
      refine lv_iload_n C.x C.b dX7_most_26 rfl (lv_at hl 2 rfl) ?_
      have e_12 : g_6 1 = .inr (3, [.ref (B + (1 + 1)), .ref (B + (1 + 2)), .ref (B + (1 + 3)), .int (nI n)]) := (hKp.1 _ (by omega)).trans p0
      have e_13 : g_6 (1 + 1) = .inl (t.1, 8, .inl o) := (hKp.1 _ (by omega)).trans p1
      have e_14 : g_6 (1 + 2) = .inl (t.1, 8, .inl pr) := (hKp.1 _ (by omega)).trans p2
      have e_15 : g_6 (1 + 3) = .inl (t.1, 8, .inl w) := (hKp.1 _ (by omega)).trans p3
      have e_16 : g_6 5 = .inr (6, [.int ey, .int wi, .int ev]) := (hKp.1 _ (by omega)).trans hW
      have e_20 := hKp.2.2.2.2.2.1.1
      refine r_callVv (b := 23) (As := [.ref (B + 6), .ref (B + 1), .ref (B + 5), .int (nI k_3)]) (rest := []) (k_X2_learn l D t B N g_6 _ _ _ _ _ _ _ k_3 (by omega) ⟨e_12, e_13, e_14, e_15⟩ (by omega) e_16 hKp.2 (by omega)) mf_yX2_learn mlX7_149 im_yX2_learn se_yX2_learn (by decide) C hS (by omega) e_20 (show vwCl[2]? = some _ from rfl) rfl rfl hl.1 rfl (Nat.le_of_ble_eq_true rfl) dX7_most_27 ⟨Nat.zero_le _, Nat.zero_le _⟩ (fun g_17 H locs w_18 hS => ?_)
      replace hKp : Kp t B g g_17 := hKp.tr w_18
      refine lv_iload_n C.x C.b dX7_most_30 rfl (lv_at hl 1 rfl) ?_
      refine lv_aload_n C.x C.b dX7_most_31 rfl (lv_at hl 0 rfl) ?_
      obtain ⟨v_21, e_22⟩ := hKp.2.1
      refine r_get ck7 flX7_50 C hS (by omega) e_22 (by decide) rfl dX7_most_32 ?_
      have e_23 := hKp.2.2.2.2.2.1.1
      refine r_get ck2 flX7_153 C hS (by omega) e_23 (by decide) rfl dX7_most_35 ?_
      refine lv_iload_n C.x C.b dX7_most_38 rfl (lv_at hl 2 rfl) ?_
      obtain ⟨q_24, e_25⟩ := hKp.2.2.2.2.2.2.1
      refine r_ialdN k_3 rfl (by omega) (by decide) C hS (by omega) e_25 dX7_most_39 ?_
      refine r_mmax mlX7_160 C hl.1 (by decide) (Nat.le_of_ble_eq_true rfl) ⟨Nat.zero_le _, Nat.zero_le _⟩ dX7_most_40 ?_
      refine lv_istore_n (lv' := [(1, .int (maxF b_7 (q_24 k_3))), (0, .ref (B + 0)), (2, .int (nI k_3))]) C.x C.b dX7_most_43 rfl hl (by decide) rfl (fun ls hl => ?_)
      refine lv_iinc (v := nI (k_3 + 1)) (lv' := [(2, .int (nI (k_3 + 1))), (1, .int (maxF b_7 (q_24 k_3))), (0, .ref (B + 0))]) C.x C.b dX7_most_44 hl (k := 2) rfl (nI_1 k_3) (by decide) rfl (fun ls hl => ?_)
      refine lv_goto (tgt := 4) C.x C.b dX7_most_47 (by decide) ?_
      exact ih_5 (k_3 + 1) (maxF b_7 (q_24 k_3)) g_17 _ _ _ (by omega)  hKp hS (lv_sub hl [2, 1, 0] rfl)
  exact lp_1 16 0 0 g _ _ _ (by omega)  hKp hS (lv_sub hl [2, 1, 0] rfl)
set_option maxHeartbeats 1000000 in
set_option maxRecDepth 100000 in
theorem k_X7_firstToldOpen (l : Launch) (D : va_G) (t : Gx) (B N : Nat) (g : Nat → va_E) (o pr w : Nat → Int32) (n : Nat) (ey wi ev : Int32)  (hN : 220 ≤ N) (hP : isProg t B g 1 o pr w n) (hn : n ≤ 8) (hW : isWat g 5 ey wi ev) (hScr : Scr t B g)  : Ci l D t B N yX7_firstToldOpen cX7_firstToldOpen 2 (some .int) 5 132 g [.ref (B + 0)] (fun r g' => Kp t B g g' ∧ (r = -1 ∨ ∃ k, k < 16 ∧ r = nI k)) := by
  refine Ci.start (by decide) (Nat.le_of_ble_eq_true rfl) ?_
  intro p e s m below meth c ls C hr hlocks hS hl
  replace C : Cx D t p s m [.ref (B + 0)].toArray c cX7_firstToldOpen 2 RX7 := C
  replace hl : lv_has ls 2 [(0, .ref (B + 0))] := hl
  obtain ⟨p0, p1, p2, p3⟩ := id hP
  have hKp : Kp t B g g := Kp.rf hScr
  refine lv_iconst (v := 0) C.x C.b dX7_firstToldOpen_0 (by decide) ?_
  refine lv_istore_n (lv' := [(1, .int 0), (0, .ref (B + 0))]) C.x C.b dX7_firstToldOpen_1 rfl hl (by decide) rfl (fun ls hl => ?_)
  have lp_1 : ∀ (u_2 k_3 : Nat) (g_6 : Nat → va_E) (H : Heap) (locs : List Loc) (ls : Array Slot), k_3 + u_2 = 16 → Kp t B g g_6 → St D B s.heap N g_6 H locs → lv_has ls 2 [(0, .ref (B + 0)), (1, .int (nI k_3))] → W p l e (rmOf 5 132 0 0) s m [.ref (B + 0)].toArray below meth c H locs 0 0 (MQ below (qI D B N (fun r g' => Kp t B g g' ∧ (r = -1 ∨ ∃ k, k < 16 ∧ r = nI k))) [.ref (B + 0)].toArray s 0 0 (fun q => B ≤ q)) (F0 m 2 ls []) := by
    intro u_2
    induction u_2 with
    | zero =>
      intro k_3 g_6 H locs ls hk_4 hKp hS hl
      obtain rfl : 16 = k_3 := by omega
      refine lv_iload_n C.x C.b dX7_firstToldOpen_2 rfl (lv_at hl 1 rfl) ?_
      refine lv_bipush (v := 16) C.x C.b dX7_firstToldOpen_3 (by decide) ?_
      refine lv_icmp_ge (tgt := 49) C.x C.b dX7_firstToldOpen_5 (by decide) (fun c_7 => ?_) (fun c_7 => absurd (by decide) c_7)
      refine lv_iconst (v := (-1)) C.x C.b dX7_firstToldOpen_49 (by decide) ?_
      exact r_iret C hr hlocks hS ⟨hKp, Or.inl rfl⟩ dX7_firstToldOpen_50
    | succ u_2 ih_5 =>
      intro k_3 g_6 H locs ls hk_4 hKp hS hl
      refine lv_iload_n C.x C.b dX7_firstToldOpen_2 rfl (lv_at hl 1 rfl) ?_
      refine lv_bipush (v := 16) C.x C.b dX7_firstToldOpen_3 (by decide) ?_
      refine lv_icmp_ge (tgt := 49) C.x C.b dX7_firstToldOpen_5 (by decide) (fun c_8 => absurd c_8 (nI_ge (a := k_3) (b := 16) (by omega) (by decide))) (fun c_8 => ?_)
      refine lv_aload_n C.x C.b dX7_firstToldOpen_8 rfl (lv_at hl 0 rfl) ?_
      obtain ⟨v_9, e_10⟩ := hKp.2.1
      refine r_get ck7 flX7_50 C hS (by omega) e_10 (by decide) rfl dX7_firstToldOpen_9 ?_
      refine lv_aload_n C.x C.b dX7_firstToldOpen_12 rfl (lv_at hl 0 rfl) ?_
      refine r_get ck7 flX7_26 C hS (by omega) e_10 (by decide) rfl dX7_firstToldOpen_13 ?_
      refine lv_aload_n C.x C.b dX7_firstToldOpen_16 rfl (lv_at hl 0 rfl) ?_
      refine r_get ck7 flX7_12 C hS (by omega) e_10 (by decide) rfl dX7_firstToldOpen_17 ?_
      refine lv_aload_n C.x C.b dX7_firstToldOpen_20 rfl (lv_at hl 0 rfl) ?_
      refine r_get ck7 flX7_19 C hS (by omega) e_10 (by decide) rfl dX7_firstToldOpen_21 ?_
      refine lv_iload_n C.x C.b dX7_firstToldOpen_24 rfl (lv_at hl 1 rfl) ?_
      have e_11 : g_6 1 = .inr (3, [.ref (B + (1 + 1)), .ref (B + (1 + 2)), .ref (B + (1 + 3)), .int (nI n)]) := (hKp.1 _ (by omega)).trans p0
      have e_12 : g_6 (1 + 1) = .inl (t.1, 8, .inl o) := (hKp.1 _ (by omega)).trans p1
      have e_13 : g_6 (1 + 2) = .inl (t.1, 8, .inl pr) := (hKp.1 _ (by omega)).trans p2
      have e_14 : g_6 (1 + 3) = .inl (t.1, 8, .inl w) := (hKp.1 _ (by omega)).trans p3
      have e_15 : g_6 5 = .inr (6, [.int ey, .int wi, .int ev]) := (hKp.1 _ (by omega)).trans hW
      have e_19 := hKp.2.2.2.2.2.1.1
      refine r_callVv (b := 23) (As := [.ref (B + 6), .ref (B + 1), .ref (B + 5), .int (nI k_3)]) (rest := []) (k_X2_learn l D t B N g_6 _ _ _ _ _ _ _ k_3 (by omega) ⟨e_11, e_12, e_13, e_14⟩ (by omega) e_15 hKp.2 (by omega)) mf_yX2_learn mlX7_149 im_yX2_learn se_yX2_learn (by decide) C hS (by omega) e_19 (show vwCl[2]? = some _ from rfl) rfl rfl hl.1 rfl (Nat.le_of_ble_eq_true rfl) dX7_firstToldOpen_25 ⟨Nat.zero_le _, Nat.zero_le _⟩ (fun g_16 H locs w_17 hS => ?_)
      replace hKp : Kp t B g g_16 := hKp.tr w_17
      refine lv_aload_n C.x C.b dX7_firstToldOpen_28 rfl (lv_at hl 0 rfl) ?_
      obtain ⟨v_20, e_21⟩ := hKp.2.1
      refine r_get ck7 flX7_50 C hS (by omega) e_21 (by decide) rfl dX7_firstToldOpen_29 ?_
      have e_22 := hKp.2.2.2.2.2.1.1
      refine r_get ck2 flX7_153 C hS (by omega) e_22 (by decide) rfl dX7_firstToldOpen_32 ?_
      refine lv_iload_n C.x C.b dX7_firstToldOpen_35 rfl (lv_at hl 1 rfl) ?_
      obtain ⟨q_23, e_24⟩ := hKp.2.2.2.2.2.2.1
      refine r_ialdN k_3 rfl (by omega) (by decide) C hS (by omega) e_24 dX7_firstToldOpen_36 ?_
      refine lv_iconst (v := 1) C.x C.b dX7_firstToldOpen_37 (by decide) ?_
      refine lv_icmp_le (tgt := 43) C.x C.b dX7_firstToldOpen_38 (by decide) (fun c_25 => ?_) (fun c_25 => ?_)
      · skip
        refine lv_iinc (v := nI (k_3 + 1)) (lv' := [(1, .int (nI (k_3 + 1))), (0, .ref (B + 0))]) C.x C.b dX7_firstToldOpen_43 hl (k := 1) rfl (nI_1 k_3) (by decide) rfl (fun ls hl => ?_)
        refine lv_goto (tgt := 2) C.x C.b dX7_firstToldOpen_46 (by decide) ?_
        exact ih_5 (k_3 + 1) g_16 _ _ _ (by omega)  hKp hS (lv_sub hl [1, 0] rfl)
      · skip
        refine lv_iload_n C.x C.b dX7_firstToldOpen_41 rfl (lv_at hl 1 rfl) ?_
        exact r_iret C hr hlocks hS ⟨hKp, Or.inr ⟨k_3, by omega, rfl⟩⟩ dX7_firstToldOpen_42
  exact lp_1 16 0 g _ _ _ (by omega)  hKp hS (lv_sub hl [1, 0] rfl)
set_option maxHeartbeats 1000000 in
set_option maxRecDepth 100000 in
theorem k_X7_silent (l : Launch) (D : va_G) (t : Gx) (B N : Nat) (g : Nat → va_E) (o pr w : Nat → Int32) (n : Nat) (ey wi ev : Int32)  (hN : 220 ≤ N) (hP : isProg t B g 1 o pr w n) (hn : n ≤ 8) (hW : isWat g 5 ey wi ev) (hScr : Scr t B g)  : Ci l D t B N yX7_silent cX7_silent 1 (some .boolean) 6 153 g [.ref (B + 0)] (fun r g' => Kp t B g g') := by
  refine Ci.start (by decide) (Nat.le_of_ble_eq_true rfl) ?_
  intro p e s m below meth c ls C hr hlocks hS hl
  replace C : Cx D t p s m [.ref (B + 0)].toArray c cX7_silent 1 RX7 := C
  replace hl : lv_has ls 1 [(0, .ref (B + 0))] := hl
  obtain ⟨p0, p1, p2, p3⟩ := id hP
  have hKp : Kp t B g g := Kp.rf hScr
  refine lv_aload_n C.x C.b dX7_silent_0 rfl (lv_at hl 0 rfl) ?_
  obtain ⟨v_4, e_5⟩ := hKp.2.1
  refine r_callV (b := 0) (As := []) (rest := []) (k_X7_firstToldOpen l D t B N g _ _ _ _ _ _ _  (by omega) ⟨p0, p1, p2, p3⟩ (by omega) hW hKp.2 ) mf_yX7_firstToldOpen mlX7_166 im_yX7_firstToldOpen se_yX7_firstToldOpen (by decide) C hS (by omega) e_5 (show vwCl[7]? = some _ from rfl) rfl rfl hl.1 rfl (Nat.le_of_ble_eq_true rfl) dX7_silent_1 ⟨Nat.zero_le _, Nat.zero_le _⟩ (fun r_3 g_1 H locs w_2 hS => ?_)
  obtain ⟨w_2, er_3⟩ := w_2
  replace hKp : Kp t B g g_1 := hKp.tr w_2
  refine lv_iconst (v := (-1)) C.x C.b dX7_silent_4 (by decide) ?_
  refine lv_icmp_ne (tgt := 12) C.x C.b dX7_silent_5 (by decide) (fun c_6 => ?_) (fun c_6 => ?_)
  · skip
    refine lv_iconst (v := 0) C.x C.b dX7_silent_12 (by decide) ?_
    exact r_zret C hr hlocks hS (by decide) hKp dX7_silent_13
  · skip
    refine lv_iconst (v := 1) C.x C.b dX7_silent_8 (by decide) ?_
    refine lv_goto (tgt := 13) C.x C.b dX7_silent_9 (by decide) ?_
    exact r_zret C hr hlocks hS (by decide) hKp dX7_silent_13
set_option maxHeartbeats 1000000 in
set_option maxRecDepth 100000 in
theorem k_X7_firstTold (l : Launch) (D : va_G) (t : Gx) (B N : Nat) (g : Nat → va_E) (o pr w : Nat → Int32) (n : Nat) (ey wi ev : Int32) (x y z : Int32) (hN : 220 ≤ N) (hP : isProg t B g 1 o pr w n) (hn : n ≤ 8) (hW : isWat g 5 ey wi ev) (hScr : Scr t B g)  : Ci l D t B N yX7_firstTold cX7_firstTold 6 (some .int) 5 127 g [.ref (B + 0), .int x, .int y, .int z] (fun r g' => Kp t B g g') := by
  refine Ci.start (by decide) (Nat.le_of_ble_eq_true rfl) ?_
  intro p e s m below meth c ls C hr hlocks hS hl
  replace C : Cx D t p s m [.ref (B + 0), .int x, .int y, .int z].toArray c cX7_firstTold 6 RX7 := C
  replace hl : lv_has ls 6 [(0, .ref (B + 0)), (1, .int x), (2, .int y), (3, .int z)] := hl
  obtain ⟨p0, p1, p2, p3⟩ := id hP
  have hKp : Kp t B g g := Kp.rf hScr
  refine lv_aload_n C.x C.b dX7_firstTold_0 rfl (lv_at hl 0 rfl) ?_
  refine lv_aload_n C.x C.b dX7_firstTold_1 rfl (lv_at hl 0 rfl) ?_
  obtain ⟨v_1, e_2⟩ := hKp.2.1
  refine r_get ck7 flX7_40 C hS (by omega) e_2 (by decide) rfl dX7_firstTold_2 ?_
  refine lv_iload_n C.x C.b dX7_firstTold_5 rfl (lv_at hl 1 rfl) ?_
  refine lv_iconst (v := 0) C.x C.b dX7_firstTold_6 (by decide) ?_
  refine r_callVv (b := 0) (As := [.ref (B + 15), .int x, .int 0]) (rest := []) (k_X7_fillRow l D t B N g _ _ _ _ _ _ _ 15 x 0 (by omega) ⟨p0, p1, p2, p3⟩ (by omega) hW hKp.2 (Or.inl rfl) (by omega)) mf_yX7_fillRow mlX7_119 im_yX7_fillRow se_yX7_fillRow (by decide) C hS (by omega) e_2 (show vwCl[7]? = some _ from rfl) rfl rfl hl.1 rfl (Nat.le_of_ble_eq_true rfl) dX7_firstTold_7 ⟨Nat.zero_le _, Nat.zero_le _⟩ (fun g_3 H locs w_4 hS => ?_)
  replace hKp : Kp t B g g_3 := hKp.tr w_4
  refine lv_aload_n C.x C.b dX7_firstTold_10 rfl (lv_at hl 0 rfl) ?_
  refine lv_aload_n C.x C.b dX7_firstTold_11 rfl (lv_at hl 0 rfl) ?_
  obtain ⟨v_6, e_7⟩ := hKp.2.1
  refine r_get ck7 flX7_44 C hS (by omega) e_7 (by decide) rfl dX7_firstTold_12 ?_
  refine lv_iload_n C.x C.b dX7_firstTold_15 rfl (lv_at hl 1 rfl) ?_
  refine lv_iload_n C.x C.b dX7_firstTold_16 rfl (lv_at hl 2 rfl) ?_
  have e_8 : g_3 1 = .inr (3, [.ref (B + (1 + 1)), .ref (B + (1 + 2)), .ref (B + (1 + 3)), .int (nI n)]) := (hKp.1 _ (by omega)).trans p0
  have e_9 : g_3 (1 + 1) = .inl (t.1, 8, .inl o) := (hKp.1 _ (by omega)).trans p1
  have e_10 : g_3 (1 + 2) = .inl (t.1, 8, .inl pr) := (hKp.1 _ (by omega)).trans p2
  have e_11 : g_3 (1 + 3) = .inl (t.1, 8, .inl w) := (hKp.1 _ (by omega)).trans p3
  have e_12 : g_3 5 = .inr (6, [.int ey, .int wi, .int ev]) := (hKp.1 _ (by omega)).trans hW
  refine r_callVv (b := 0) (As := [.ref (B + 19), .int x, .int y]) (rest := []) (k_X7_fillRow l D t B N g_3 _ _ _ _ _ _ _ 19 x y (by omega) ⟨e_8, e_9, e_10, e_11⟩ (by omega) e_12 hKp.2 (Or.inr (Or.inl rfl)) (by omega)) mf_yX7_fillRow mlX7_119 im_yX7_fillRow se_yX7_fillRow (by decide) C hS (by omega) e_7 (show vwCl[7]? = some _ from rfl) rfl rfl hl.1 rfl (Nat.le_of_ble_eq_true rfl) dX7_firstTold_17 ⟨Nat.zero_le _, Nat.zero_le _⟩ (fun g_13 H locs w_14 hS => ?_)
  replace hKp : Kp t B g g_13 := hKp.tr w_14
  refine lv_aload_n C.x C.b dX7_firstTold_20 rfl (lv_at hl 0 rfl) ?_
  obtain ⟨v_16, e_17⟩ := hKp.2.1
  refine r_get ck7 flX7_40 C hS (by omega) e_17 (by decide) rfl dX7_firstTold_21 ?_
  refine lv_aload_n C.x C.b dX7_firstTold_24 rfl (lv_at hl 0 rfl) ?_
  refine r_get ck7 flX7_44 C hS (by omega) e_17 (by decide) rfl dX7_firstTold_25 ?_
  obtain ⟨q_18, q_19, q_20, q_21, ⟨e_22, e_23, e_24, e_25⟩, hl_26⟩ := hKp.2.2.2.2.1 15 (Or.inl rfl)
  obtain ⟨q_27, q_28, q_29, q_30, ⟨e_31, e_32, e_33, e_34⟩, hl_35⟩ := hKp.2.2.2.2.1 19 (Or.inr (Or.inl rfl))
  refine r_callV (b := 15) (As := [.ref (B + 19)]) (rest := []) (c_X4_firstOtherwise l D t B N g_13 15 _ _ _ _ 19 _ _ _ _ (by omega) ⟨e_22, e_23, e_24, e_25⟩ (by omega) ⟨e_31, e_32, e_33, e_34⟩ (by omega) (by omega)) mf_yX4_firstOtherwise mlX7_210 im_yX4_firstOtherwise se_yX4_firstOtherwise (by decide) C hS (by omega) e_22 (show vwCl[4]? = some _ from rfl) rfl rfl hl.1 rfl (Nat.le_of_ble_eq_true rfl) dX7_firstTold_28 ⟨Nat.zero_le _, Nat.zero_le _⟩ (fun r_38 g_36 H locs w_37 hS => ?_)
  obtain ⟨rfl, er_38⟩ := w_37
  refine lv_istore (lv' := [(4, .int r_38), (0, .ref (B + 0)), (1, .int x), (2, .int y), (3, .int z)]) C.x C.b dX7_firstTold_31 hl (by decide) rfl (fun ls hl => ?_)
  refine lv_aload_n C.x C.b dX7_firstTold_33 rfl (lv_at hl 1 rfl) ?_
  refine r_get ck7 flX7_40 C hS (by omega) e_17 (by decide) rfl dX7_firstTold_34 ?_
  refine lv_iload C.x C.b dX7_firstTold_37 (lv_at hl 0 rfl) ?_
  refine r_callV (b := 15) (As := [.int r_38]) (rest := []) (c_X4_has l D t B N g_13 15 _ _ _ _ r_38 (by omega) ⟨e_22, e_23, e_24, e_25⟩) mf_yX4_has mlX7_139 im_yX4_has se_yX4_has (by decide) C hS (by omega) e_22 (show vwCl[4]? = some _ from rfl) rfl rfl hl.1 rfl (Nat.le_of_ble_eq_true rfl) dX7_firstTold_39 ⟨Nat.zero_le _, Nat.zero_le _⟩ (fun r_41 g_39 H locs w_40 hS => ?_)
  obtain ⟨rfl, er_41⟩ := w_40
  by_cases b_42 : inP q_21 r_38
  · rw [bz_t b_42] at er_41
    subst er_41
    refine lv_if_eq (tgt := 52) C.x C.b dX7_firstTold_42 (by decide) (fun c_43 => absurd c_43 (by decide)) (fun c_43 => ?_)
    refine lv_aload_n C.x C.b dX7_firstTold_45 rfl (lv_at hl 1 rfl) ?_
    refine r_get ck7 flX7_40 C hS (by omega) e_17 (by decide) rfl dX7_firstTold_46 ?_
    refine lv_goto (tgt := 56) C.x C.b dX7_firstTold_49 (by decide) ?_
    refine lv_astore (lv' := [(5, .ref (B + 15)), (4, .int r_38), (0, .ref (B + 0)), (1, .int x), (2, .int y), (3, .int z)]) C.x C.b dX7_firstTold_56 hl (by decide) rfl (fun ls hl => ?_)
    refine lv_aload C.x C.b dX7_firstTold_58 (lv_at hl 0 rfl) ?_
    refine lv_iload C.x C.b dX7_firstTold_60 (lv_at hl 1 rfl) ?_
    refine r_callV (b := 15) (As := [.int r_38]) (rest := []) (c_X4_has l D t B N g_13 15 _ _ _ _ r_38 (by omega) ⟨e_22, e_23, e_24, e_25⟩) mf_yX4_has mlX7_139 im_yX4_has se_yX4_has (by decide) C hS (by omega) e_22 (show vwCl[4]? = some _ from rfl) rfl rfl hl.1 rfl (Nat.le_of_ble_eq_true rfl) dX7_firstTold_62 ⟨Nat.zero_le _, Nat.zero_le _⟩ (fun r_46 g_44 H locs w_45 hS => ?_)
    obtain ⟨rfl, er_46⟩ := w_45
    by_cases b_47 : inP q_21 r_38
    · rw [bz_t b_47] at er_46
      subst er_46
      obtain ⟨q_48, hq_49, rfl⟩ := inP_nI b_47 (by omega)
      refine lv_if_ne (tgt := 72) C.x C.b dX7_firstTold_65 (by decide) (fun c_50 => ?_) (fun c_50 => absurd c_50 (by decide))
      refine lv_iload_n C.x C.b dX7_firstTold_72 rfl (lv_at hl 5 rfl) ?_
      by_cases h_51 : z = 2
      · refine lv_lookup (off := 27) (tgt := 100) C.x C.b dX7_firstTold_73 (by decide) (by rw [h_51]; decide) (by decide) ?_
        refine lv_iload C.x C.b dX7_firstTold_100 (lv_at hl 1 rfl) ?_
        exact r_iret C hr hlocks hS hKp dX7_firstTold_102
      by_cases h_52 : z = 3
      · refine lv_lookup (off := 30) (tgt := 103) C.x C.b dX7_firstTold_73 (by decide) (by rw [h_52]; decide) (by decide) ?_
        refine lv_aload C.x C.b dX7_firstTold_103 (lv_at hl 0 rfl) ?_
        refine r_get ck4 flX7_140 C hS (by omega) e_22 (by decide) rfl dX7_firstTold_105 ?_
        refine lv_iload C.x C.b dX7_firstTold_108 (lv_at hl 1 rfl) ?_
        refine r_ialdN q_48 rfl (by omega) (by decide) C hS (by omega) e_23 dX7_firstTold_110 ?_
        exact r_iret C hr hlocks hS hKp dX7_firstTold_111
      refine lv_lookup (off := 39) (tgt := 112) C.x C.b dX7_firstTold_73 (by decide) (by show Op.lookupswitch.offset [(2, 27), (3, 30)] 39 _ = 39; rw [lv_osw h_51 (by decide), lv_osw h_52 (by decide)]; rfl) (by decide) ?_
      refine lv_aload C.x C.b dX7_firstTold_112 (lv_at hl 0 rfl) ?_
      refine r_get ck4 flX7_143 C hS (by omega) e_22 (by decide) rfl dX7_firstTold_114 ?_
      refine lv_iload C.x C.b dX7_firstTold_117 (lv_at hl 1 rfl) ?_
      refine r_ialdN q_48 rfl (by omega) (by decide) C hS (by omega) e_24 dX7_firstTold_119 ?_
      exact r_iret C hr hlocks hS hKp dX7_firstTold_120
    · rw [bz_f b_47] at er_46
      subst er_46
      refine lv_if_ne (tgt := 72) C.x C.b dX7_firstTold_65 (by decide) (fun c_53 => absurd (by decide) c_53) (fun c_53 => ?_)
      refine lv_sipush (v := (-1001)) C.x C.b dX7_firstTold_68 (by decide) ?_
      exact r_iret C hr hlocks hS hKp dX7_firstTold_71
  · rw [bz_f b_42] at er_41
    subst er_41
    refine lv_if_eq (tgt := 52) C.x C.b dX7_firstTold_42 (by decide) (fun c_54 => ?_) (fun c_54 => absurd (by decide) c_54)
    refine lv_aload_n C.x C.b dX7_firstTold_52 rfl (lv_at hl 1 rfl) ?_
    refine r_get ck7 flX7_44 C hS (by omega) e_17 (by decide) rfl dX7_firstTold_53 ?_
    refine lv_astore (lv' := [(5, .ref (B + 19)), (4, .int r_38), (0, .ref (B + 0)), (1, .int x), (2, .int y), (3, .int z)]) C.x C.b dX7_firstTold_56 hl (by decide) rfl (fun ls hl => ?_)
    refine lv_aload C.x C.b dX7_firstTold_58 (lv_at hl 0 rfl) ?_
    refine lv_iload C.x C.b dX7_firstTold_60 (lv_at hl 1 rfl) ?_
    refine r_callV (b := 19) (As := [.int r_38]) (rest := []) (c_X4_has l D t B N g_13 19 _ _ _ _ r_38 (by omega) ⟨e_31, e_32, e_33, e_34⟩) mf_yX4_has mlX7_139 im_yX4_has se_yX4_has (by decide) C hS (by omega) e_31 (show vwCl[4]? = some _ from rfl) rfl rfl hl.1 rfl (Nat.le_of_ble_eq_true rfl) dX7_firstTold_62 ⟨Nat.zero_le _, Nat.zero_le _⟩ (fun r_57 g_55 H locs w_56 hS => ?_)
    obtain ⟨rfl, er_57⟩ := w_56
    by_cases b_58 : inP q_30 r_38
    · rw [bz_t b_58] at er_57
      subst er_57
      obtain ⟨q_59, hq_60, rfl⟩ := inP_nI b_58 (by omega)
      refine lv_if_ne (tgt := 72) C.x C.b dX7_firstTold_65 (by decide) (fun c_61 => ?_) (fun c_61 => absurd c_61 (by decide))
      refine lv_iload_n C.x C.b dX7_firstTold_72 rfl (lv_at hl 5 rfl) ?_
      by_cases h_62 : z = 2
      · refine lv_lookup (off := 27) (tgt := 100) C.x C.b dX7_firstTold_73 (by decide) (by rw [h_62]; decide) (by decide) ?_
        refine lv_iload C.x C.b dX7_firstTold_100 (lv_at hl 1 rfl) ?_
        exact r_iret C hr hlocks hS hKp dX7_firstTold_102
      by_cases h_63 : z = 3
      · refine lv_lookup (off := 30) (tgt := 103) C.x C.b dX7_firstTold_73 (by decide) (by rw [h_63]; decide) (by decide) ?_
        refine lv_aload C.x C.b dX7_firstTold_103 (lv_at hl 0 rfl) ?_
        refine r_get ck4 flX7_140 C hS (by omega) e_31 (by decide) rfl dX7_firstTold_105 ?_
        refine lv_iload C.x C.b dX7_firstTold_108 (lv_at hl 1 rfl) ?_
        refine r_ialdN q_59 rfl (by omega) (by decide) C hS (by omega) e_32 dX7_firstTold_110 ?_
        exact r_iret C hr hlocks hS hKp dX7_firstTold_111
      refine lv_lookup (off := 39) (tgt := 112) C.x C.b dX7_firstTold_73 (by decide) (by show Op.lookupswitch.offset [(2, 27), (3, 30)] 39 _ = 39; rw [lv_osw h_62 (by decide), lv_osw h_63 (by decide)]; rfl) (by decide) ?_
      refine lv_aload C.x C.b dX7_firstTold_112 (lv_at hl 0 rfl) ?_
      refine r_get ck4 flX7_143 C hS (by omega) e_31 (by decide) rfl dX7_firstTold_114 ?_
      refine lv_iload C.x C.b dX7_firstTold_117 (lv_at hl 1 rfl) ?_
      refine r_ialdN q_59 rfl (by omega) (by decide) C hS (by omega) e_33 dX7_firstTold_119 ?_
      exact r_iret C hr hlocks hS hKp dX7_firstTold_120
    · rw [bz_f b_58] at er_57
      subst er_57
      refine lv_if_ne (tgt := 72) C.x C.b dX7_firstTold_65 (by decide) (fun c_64 => absurd (by decide) c_64) (fun c_64 => ?_)
      refine lv_sipush (v := (-1001)) C.x C.b dX7_firstTold_68 (by decide) ?_
      exact r_iret C hr hlocks hS hKp dX7_firstTold_71
set_option maxHeartbeats 1000000 in
set_option maxRecDepth 100000 in
theorem k_X7_pair (l : Launch) (D : va_G) (t : Gx) (B N : Nat) (g : Nat → va_E) (o pr w : Nat → Int32) (n : Nat) (ey wi ev : Int32) (x : Int32) (hN : 220 ≤ N) (hP : isProg t B g 1 o pr w n) (hn : n ≤ 8) (hW : isWat g 5 ey wi ev) (hScr : Scr t B g)  : Ci l D t B N yX7_pair cX7_pair 4 (some .int) 6 153 g [.ref (B + 0), .int x] (fun r g' => Kp t B g g') := by
  refine Ci.start (by decide) (Nat.le_of_ble_eq_true rfl) ?_
  intro p e s m below meth c ls C hr hlocks hS hl
  replace C : Cx D t p s m [.ref (B + 0), .int x].toArray c cX7_pair 4 RX7 := C
  replace hl : lv_has ls 4 [(0, .ref (B + 0)), (1, .int x)] := hl
  obtain ⟨p0, p1, p2, p3⟩ := id hP
  have hKp : Kp t B g g := Kp.rf hScr
  refine lv_iload_n C.x C.b dX7_pair_0 rfl (lv_at hl 1 rfl) ?_
  refine lv_if_lt (tgt := 9) C.x C.b dX7_pair_1 (by decide) (fun c_1 => ?_) (fun c_1 => ?_)
  · skip
    refine lv_sipush (v := (-1001)) C.x C.b dX7_pair_9 (by decide) ?_
    exact r_iret C hr hlocks hS hKp dX7_pair_12
  · skip
    refine lv_iload_n C.x C.b dX7_pair_4 rfl (lv_at hl 1 rfl) ?_
    refine lv_iconst (v := 4) C.x C.b dX7_pair_5 (by decide) ?_
    refine lv_icmp_le (tgt := 13) C.x C.b dX7_pair_6 (by decide) (fun c_2 => ?_) (fun c_2 => ?_)
    · skip
      refine lv_aload_n C.x C.b dX7_pair_13 rfl (lv_at hl 0 rfl) ?_
      obtain ⟨v_6, e_7⟩ := hKp.2.1
      refine r_callV (b := 0) (As := []) (rest := []) (k_X7_firstToldOpen l D t B N g _ _ _ _ _ _ _  (by omega) ⟨p0, p1, p2, p3⟩ (by omega) hW hKp.2 ) mf_yX7_firstToldOpen mlX7_166 im_yX7_firstToldOpen se_yX7_firstToldOpen (by decide) C hS (by omega) e_7 (show vwCl[7]? = some _ from rfl) rfl rfl hl.1 rfl (Nat.le_of_ble_eq_true rfl) dX7_pair_14 ⟨Nat.zero_le _, Nat.zero_le _⟩ (fun r_5 g_3 H locs w_4 hS => ?_)
      obtain ⟨w_4, er_5⟩ := w_4
      replace hKp : Kp t B g g_3 := hKp.tr w_4
      refine lv_istore_n (lv' := [(2, .int r_5), (0, .ref (B + 0)), (1, .int x)]) C.x C.b dX7_pair_17 rfl hl (by decide) rfl (fun ls hl => ?_)
      refine lv_iload_n C.x C.b dX7_pair_18 rfl (lv_at hl 0 rfl) ?_
      refine lv_iconst (v := (-1)) C.x C.b dX7_pair_19 (by decide) ?_
      refine lv_icmp_ne (tgt := 27) C.x C.b dX7_pair_20 (by decide) (fun c_8 => ?_) (fun c_8 => ?_)
      · skip
        obtain ⟨q_9, hq_10, rfl⟩ := er_5.resolve_left c_8
        refine lv_aload_n C.x C.b dX7_pair_27 rfl (lv_at hl 1 rfl) ?_
        obtain ⟨v_11, e_12⟩ := hKp.2.1
        refine r_get ck7 flX7_50 C hS (by omega) e_12 (by decide) rfl dX7_pair_28 ?_
        refine lv_iload_n C.x C.b dX7_pair_31 rfl (lv_at hl 0 rfl) ?_
        have e_13 : g_3 1 = .inr (3, [.ref (B + (1 + 1)), .ref (B + (1 + 2)), .ref (B + (1 + 3)), .int (nI n)]) := (hKp.1 _ (by omega)).trans p0
        have e_14 : g_3 (1 + 1) = .inl (t.1, 8, .inl o) := (hKp.1 _ (by omega)).trans p1
        have e_15 : g_3 (1 + 2) = .inl (t.1, 8, .inl pr) := (hKp.1 _ (by omega)).trans p2
        have e_16 : g_3 (1 + 3) = .inl (t.1, 8, .inl w) := (hKp.1 _ (by omega)).trans p3
        have e_17 : g_3 5 = .inr (6, [.int ey, .int wi, .int ev]) := (hKp.1 _ (by omega)).trans hW
        have e_21 := hKp.2.2.2.2.2.1.1
        refine r_callV (b := 23) (As := [.int (nI q_9)]) (rest := []) (k_X2_firstParted l D t B N g_3 _ _ _ _ _ _ _ q_9 (by omega) ⟨e_13, e_14, e_15, e_16⟩ (by omega) e_17 hKp.2 (by omega)) mf_yX2_firstParted mlX7_170 im_yX2_firstParted se_yX2_firstParted (by decide) C hS (by omega) e_21 (show vwCl[2]? = some _ from rfl) rfl rfl hl.1 rfl (Nat.le_of_ble_eq_true rfl) dX7_pair_32 ⟨Nat.zero_le _, Nat.zero_le _⟩ (fun r_20 g_18 H locs w_19 hS => ?_)
        obtain ⟨w_19, er_20⟩ := w_19
        replace hKp : Kp t B g g_18 := hKp.tr w_19
        refine lv_istore_n (lv' := [(3, .int r_20), (2, .int (nI q_9)), (0, .ref (B + 0)), (1, .int x)]) C.x C.b dX7_pair_35 rfl hl (by decide) rfl (fun ls hl => ?_)
        refine lv_iload_n C.x C.b dX7_pair_36 rfl (lv_at hl 3 rfl) ?_
        refine lv_if_ne (tgt := 42) C.x C.b dX7_pair_37 (by decide) (fun c_22 => ?_) (fun c_22 => ?_)
        · skip
          refine lv_iload_n C.x C.b dX7_pair_42 rfl (lv_at hl 3 rfl) ?_
          refine lv_iconst (v := 1) C.x C.b dX7_pair_43 (by decide) ?_
          refine lv_icmp_ne (tgt := 49) C.x C.b dX7_pair_44 (by decide) (fun c_23 => ?_) (fun c_23 => ?_)
          · skip
            refine lv_aload_n C.x C.b dX7_pair_49 rfl (lv_at hl 2 rfl) ?_
            refine lv_iload_n C.x C.b dX7_pair_50 rfl (lv_at hl 1 rfl) ?_
            refine lv_iload_n C.x C.b dX7_pair_51 rfl (lv_at hl 0 rfl) ?_
            refine lv_iload_n C.x C.b dX7_pair_52 rfl (lv_at hl 3 rfl) ?_
            have e_24 : g_18 1 = .inr (3, [.ref (B + (1 + 1)), .ref (B + (1 + 2)), .ref (B + (1 + 3)), .int (nI n)]) := (hKp.1 _ (by omega)).trans p0
            have e_25 : g_18 (1 + 1) = .inl (t.1, 8, .inl o) := (hKp.1 _ (by omega)).trans p1
            have e_26 : g_18 (1 + 2) = .inl (t.1, 8, .inl pr) := (hKp.1 _ (by omega)).trans p2
            have e_27 : g_18 (1 + 3) = .inl (t.1, 8, .inl w) := (hKp.1 _ (by omega)).trans p3
            have e_28 : g_18 5 = .inr (6, [.int ey, .int wi, .int ev]) := (hKp.1 _ (by omega)).trans hW
            obtain ⟨v_32, e_33⟩ := hKp.2.1
            refine r_callV (b := 0) (As := [.int (nI q_9), .int r_20, .int x]) (rest := []) (k_X7_firstTold l D t B N g_18 _ _ _ _ _ _ _ (nI q_9) r_20 x (by omega) ⟨e_24, e_25, e_26, e_27⟩ (by omega) e_28 hKp.2 ) mf_yX7_firstTold mlX7_173 im_yX7_firstTold se_yX7_firstTold (by decide) C hS (by omega) e_33 (show vwCl[7]? = some _ from rfl) rfl rfl hl.1 rfl (Nat.le_of_ble_eq_true rfl) dX7_pair_53 ⟨Nat.zero_le _, Nat.zero_le _⟩ (fun r_31 g_29 H locs w_30 hS => ?_)
            replace hKp : Kp t B g g_29 := hKp.tr w_30
            exact r_iret C hr hlocks hS hKp dX7_pair_56
          · skip
            refine lv_iload_n C.x C.b dX7_pair_47 rfl (lv_at hl 0 rfl) ?_
            exact r_iret C hr hlocks hS hKp dX7_pair_48
        · skip
          refine lv_iload_n C.x C.b dX7_pair_40 rfl (lv_at hl 1 rfl) ?_
          exact r_iret C hr hlocks hS hKp dX7_pair_41
      · skip
        refine lv_sipush (v := (-1001)) C.x C.b dX7_pair_23 (by decide) ?_
        exact r_iret C hr hlocks hS hKp dX7_pair_26
    · skip
      refine lv_sipush (v := (-1001)) C.x C.b dX7_pair_9 (by decide) ?_
      exact r_iret C hr hlocks hS hKp dX7_pair_12
set_option maxHeartbeats 1000000 in
set_option maxRecDepth 100000 in
theorem k_X7_cure (l : Launch) (D : va_G) (t : Gx) (B N : Nat) (g : Nat → va_E) (o pr w : Nat → Int32) (n : Nat) (ey wi ev : Int32) (x : Int32) (hN : 220 ≤ N) (hP : isProg t B g 1 o pr w n) (hn : n ≤ 8) (hW : isWat g 5 ey wi ev) (hScr : Scr t B g)  : Ci l D t B N yX7_cure cX7_cure 3 (some .int) 6 157 g [.ref (B + 0), .int x] (fun r g' => Kp t B g g') := by
  refine Ci.start (by decide) (Nat.le_of_ble_eq_true rfl) ?_
  intro p e s m below meth c ls C hr hlocks hS hl
  replace C : Cx D t p s m [.ref (B + 0), .int x].toArray c cX7_cure 3 RX7 := C
  replace hl : lv_has ls 3 [(0, .ref (B + 0)), (1, .int x)] := hl
  obtain ⟨p0, p1, p2, p3⟩ := id hP
  have hKp : Kp t B g g := Kp.rf hScr
  refine lv_iload_n C.x C.b dX7_cure_0 rfl (lv_at hl 1 rfl) ?_
  refine lv_if_lt (tgt := 9) C.x C.b dX7_cure_1 (by decide) (fun c_1 => ?_) (fun c_1 => ?_)
  · skip
    refine lv_iconst (v := (-1)) C.x C.b dX7_cure_9 (by decide) ?_
    exact r_iret C hr hlocks hS hKp dX7_cure_10
  · skip
    refine lv_iload_n C.x C.b dX7_cure_4 rfl (lv_at hl 1 rfl) ?_
    refine lv_iconst (v := 2) C.x C.b dX7_cure_5 (by decide) ?_
    refine lv_icmp_le (tgt := 11) C.x C.b dX7_cure_6 (by decide) (fun c_2 => ?_) (fun c_2 => ?_)
    · skip
      refine lv_aload_n C.x C.b dX7_cure_11 rfl (lv_at hl 0 rfl) ?_
      obtain ⟨v_3, e_4⟩ := hKp.2.1
      refine r_get ck7 flX7_57 C hS (by omega) e_4 (by decide) rfl dX7_cure_12 ?_
      refine lv_aload_n C.x C.b dX7_cure_15 rfl (lv_at hl 0 rfl) ?_
      refine r_get ck7 flX7_26 C hS (by omega) e_4 (by decide) rfl dX7_cure_16 ?_
      refine lv_aload_n C.x C.b dX7_cure_19 rfl (lv_at hl 0 rfl) ?_
      refine r_get ck7 flX7_12 C hS (by omega) e_4 (by decide) rfl dX7_cure_20 ?_
      refine lv_aload_n C.x C.b dX7_cure_23 rfl (lv_at hl 0 rfl) ?_
      refine r_get ck7 flX7_19 C hS (by omega) e_4 (by decide) rfl dX7_cure_24 ?_
      obtain ⟨v_8, e_9, hz_10⟩ := hKp.2.2.2.2.2.2.2.2.1
      refine r_callVv (b := 113) (As := [.ref (B + 6), .ref (B + 1), .ref (B + 5)]) (rest := []) (k_X0_learn l D t B N g _ _ _ _ _ _ _  (by omega) ⟨p0, p1, p2, p3⟩ (by omega) hW hKp.2 ) mf_yX0_learn mlX7_177 im_yX0_learn se_yX0_learn (by decide) C hS (by omega) e_9 (show vwCl[0]? = some _ from rfl) rfl rfl hl.1 rfl (Nat.le_of_ble_eq_true rfl) dX7_cure_27 ⟨Nat.zero_le _, Nat.zero_le _⟩ (fun g_5 H locs w_6 hS => ?_)
      replace hKp : Kp t B g g_5 := hKp.tr w_6
      refine lv_aload_n C.x C.b dX7_cure_30 rfl (lv_at hl 0 rfl) ?_
      obtain ⟨v_11, e_12⟩ := hKp.2.1
      refine r_get ck7 flX7_57 C hS (by omega) e_12 (by decide) rfl dX7_cure_31 ?_
      refine lv_aload_n C.x C.b dX7_cure_34 rfl (lv_at hl 0 rfl) ?_
      refine r_get ck7 flX7_12 C hS (by omega) e_12 (by decide) rfl dX7_cure_35 ?_
      have e_13 : g_5 1 = .inr (3, [.ref (B + (1 + 1)), .ref (B + (1 + 2)), .ref (B + (1 + 3)), .int (nI n)]) := (hKp.1 _ (by omega)).trans p0
      have e_14 : g_5 (1 + 1) = .inl (t.1, 8, .inl o) := (hKp.1 _ (by omega)).trans p1
      have e_15 : g_5 (1 + 2) = .inl (t.1, 8, .inl pr) := (hKp.1 _ (by omega)).trans p2
      have e_16 : g_5 (1 + 3) = .inl (t.1, 8, .inl w) := (hKp.1 _ (by omega)).trans p3
      have e_17 : g_5 5 = .inr (6, [.int ey, .int wi, .int ev]) := (hKp.1 _ (by omega)).trans hW
      obtain ⟨v_21, e_22, hz_23⟩ := hKp.2.2.2.2.2.2.2.2.1
      refine r_callV (b := 113) (As := [.ref (B + 1)]) (rest := []) (k_X0_cheapest l D t B N g_5 _ _ _ _ _ _ _  (by omega) ⟨e_13, e_14, e_15, e_16⟩ (by omega) e_17 hKp.2 ) mf_yX0_cheapest mlX7_180 im_yX0_cheapest se_yX0_cheapest (by decide) C hS (by omega) e_22 (show vwCl[0]? = some _ from rfl) rfl rfl hl.1 rfl (Nat.le_of_ble_eq_true rfl) dX7_cure_38 ⟨Nat.zero_le _, Nat.zero_le _⟩ (fun r_20 g_18 H locs w_19 hS => ?_)
      replace hKp : Kp t B g g_18 := hKp.tr w_19
      refine lv_istore_n (lv' := [(2, .int r_20), (0, .ref (B + 0)), (1, .int x)]) C.x C.b dX7_cure_41 rfl hl (by decide) rfl (fun ls hl => ?_)
      refine lv_iload_n C.x C.b dX7_cure_42 rfl (lv_at hl 0 rfl) ?_
      refine lv_iconst (v := (-1)) C.x C.b dX7_cure_43 (by decide) ?_
      refine lv_icmp_ne (tgt := 49) C.x C.b dX7_cure_44 (by decide) (fun c_24 => ?_) (fun c_24 => ?_)
      · skip
        refine lv_iload_n C.x C.b dX7_cure_49 rfl (lv_at hl 2 rfl) ?_
        by_cases h_25 : x = 0
        · refine lv_lookup (off := 26) (tgt := 76) C.x C.b dX7_cure_50 (by decide) (by rw [h_25]; decide) (by decide) ?_
          refine lv_aload_n C.x C.b dX7_cure_76 rfl (lv_at hl 1 rfl) ?_
          obtain ⟨v_26, e_27⟩ := hKp.2.1
          refine r_get ck7 flX7_12 C hS (by omega) e_27 (by decide) rfl dX7_cure_77 ?_
          refine lv_iload_n C.x C.b dX7_cure_80 rfl (lv_at hl 0 rfl) ?_
          have e_28 : g_18 1 = .inr (3, [.ref (B + (1 + 1)), .ref (B + (1 + 2)), .ref (B + (1 + 3)), .int (nI n)]) := (hKp.1 _ (by omega)).trans p0
          have e_29 : g_18 (1 + 1) = .inl (t.1, 8, .inl o) := (hKp.1 _ (by omega)).trans p1
          have e_30 : g_18 (1 + 2) = .inl (t.1, 8, .inl pr) := (hKp.1 _ (by omega)).trans p2
          have e_31 : g_18 (1 + 3) = .inl (t.1, 8, .inl w) := (hKp.1 _ (by omega)).trans p3
          refine r_callV (b := 1) (As := [.int r_20]) (rest := []) (c_X3_priceOf l D t B N g_18 1 _ _ _ _ r_20 (by omega) ⟨e_28, e_29, e_30, e_31⟩ (by omega)) mf_yX3_priceOf mlX7_184 im_yX3_priceOf se_yX3_priceOf (by decide) C hS (by omega) e_28 (show vwCl[3]? = some _ from rfl) rfl rfl hl.1 rfl (Nat.le_of_ble_eq_true rfl) dX7_cure_81 ⟨Nat.zero_le _, Nat.zero_le _⟩ (fun r_34 g_32 H locs w_33 hS => ?_)
          obtain ⟨rfl, er_34⟩ := w_33
          subst er_34
          exact r_iret C hr hlocks hS hKp dX7_cure_84
        by_cases h_35 : x = 1
        · refine lv_lookup (off := 35) (tgt := 85) C.x C.b dX7_cure_50 (by decide) (by rw [h_35]; decide) (by decide) ?_
          refine lv_iload_n C.x C.b dX7_cure_85 rfl (lv_at hl 0 rfl) ?_
          exact r_iret C hr hlocks hS hKp dX7_cure_86
        refine lv_lookup (off := 37) (tgt := 87) C.x C.b dX7_cure_50 (by decide) (by show Op.lookupswitch.offset [(0, 26), (1, 35)] 37 _ = 37; rw [lv_osw h_25 (by decide), lv_osw h_35 (by decide)]; rfl) (by decide) ?_
        refine lv_aload_n C.x C.b dX7_cure_87 rfl (lv_at hl 1 rfl) ?_
        obtain ⟨v_36, e_37⟩ := hKp.2.1
        refine r_get ck7 flX7_57 C hS (by omega) e_37 (by decide) rfl dX7_cure_88 ?_
        refine lv_aload_n C.x C.b dX7_cure_91 rfl (lv_at hl 1 rfl) ?_
        refine r_get ck7 flX7_12 C hS (by omega) e_37 (by decide) rfl dX7_cure_92 ?_
        have e_38 : g_18 1 = .inr (3, [.ref (B + (1 + 1)), .ref (B + (1 + 2)), .ref (B + (1 + 3)), .int (nI n)]) := (hKp.1 _ (by omega)).trans p0
        have e_39 : g_18 (1 + 1) = .inl (t.1, 8, .inl o) := (hKp.1 _ (by omega)).trans p1
        have e_40 : g_18 (1 + 2) = .inl (t.1, 8, .inl pr) := (hKp.1 _ (by omega)).trans p2
        have e_41 : g_18 (1 + 3) = .inl (t.1, 8, .inl w) := (hKp.1 _ (by omega)).trans p3
        have e_42 : g_18 5 = .inr (6, [.int ey, .int wi, .int ev]) := (hKp.1 _ (by omega)).trans hW
        obtain ⟨v_46, e_47, hz_48⟩ := hKp.2.2.2.2.2.2.2.2.1
        refine r_callV (b := 113) (As := [.ref (B + 1)]) (rest := []) (k_X0_howMany l D t B N g_18 _ _ _ _ _ _ _  (by omega) ⟨e_38, e_39, e_40, e_41⟩ (by omega) e_42 hKp.2 ) mf_yX0_howMany mlX7_187 im_yX0_howMany se_yX0_howMany (by decide) C hS (by omega) e_47 (show vwCl[0]? = some _ from rfl) rfl rfl hl.1 rfl (Nat.le_of_ble_eq_true rfl) dX7_cure_95 ⟨Nat.zero_le _, Nat.zero_le _⟩ (fun r_45 g_43 H locs w_44 hS => ?_)
        replace hKp : Kp t B g g_43 := hKp.tr w_44
        exact r_iret C hr hlocks hS hKp dX7_cure_98
      · skip
        refine lv_iconst (v := (-1)) C.x C.b dX7_cure_47 (by decide) ?_
        exact r_iret C hr hlocks hS hKp dX7_cure_48
    · skip
      refine lv_iconst (v := (-1)) C.x C.b dX7_cure_9 (by decide) ?_
      exact r_iret C hr hlocks hS hKp dX7_cure_10
set_option maxHeartbeats 1000000 in
set_option maxRecDepth 100000 in
theorem k_X7_visitedByAll (l : Launch) (D : va_G) (t : Gx) (B N : Nat) (g : Nat → va_E) (o pr w : Nat → Int32) (n : Nat) (ey wi ev : Int32)  (hN : 220 ≤ N) (hP : isProg t B g 1 o pr w n) (hn : n ≤ 8) (hW : isWat g 5 ey wi ev) (hScr : Scr t B g)  : Ci l D t B N yX7_visitedByAll cX7_visitedByAll 4 (some .int) 4 104 g [.ref (B + 0)] (fun r g' => Kp t B g g') := by
  refine Ci.start (by decide) (Nat.le_of_ble_eq_true rfl) ?_
  intro p e s m below meth c ls C hr hlocks hS hl
  replace C : Cx D t p s m [.ref (B + 0)].toArray c cX7_visitedByAll 4 RX7 := C
  replace hl : lv_has ls 4 [(0, .ref (B + 0))] := hl
  obtain ⟨p0, p1, p2, p3⟩ := id hP
  have hKp : Kp t B g g := Kp.rf hScr
  refine lv_iconst (v := 0) C.x C.b dX7_visitedByAll_0 (by decide) ?_
  refine lv_istore_n (lv' := [(1, .int 0), (0, .ref (B + 0))]) C.x C.b dX7_visitedByAll_1 rfl hl (by decide) rfl (fun ls hl => ?_)
  refine lv_iconst (v := 0) C.x C.b dX7_visitedByAll_2 (by decide) ?_
  refine lv_istore_n (lv' := [(2, .int 0), (1, .int 0), (0, .ref (B + 0))]) C.x C.b dX7_visitedByAll_3 rfl hl (by decide) rfl (fun ls hl => ?_)
  have lp_1 : ∀ (u_2 k_3 : Nat) (b_7 : Int32) (g_6 : Nat → va_E) (H : Heap) (locs : List Loc) (ls : Array Slot), k_3 + u_2 = 16 → Kp t B g g_6 → St D B s.heap N g_6 H locs → lv_has ls 4 [(0, .ref (B + 0)), (1, .int b_7), (2, .int (nI k_3))] → W p l e (rmOf 4 104 0 0) s m [.ref (B + 0)].toArray below meth c H locs 0 0 (MQ below (qI D B N (fun r g' => Kp t B g g')) [.ref (B + 0)].toArray s 0 0 (fun q => B ≤ q)) (F0 m 4 ls []) := by
    intro u_2
    induction u_2 with
    | zero =>
      intro k_3 b_7 g_6 H locs ls hk_4 hKp hS hl
      obtain rfl : 16 = k_3 := by omega
      refine lv_iload_n C.x C.b dX7_visitedByAll_4 rfl (lv_at hl 2 rfl) ?_
      refine lv_bipush (v := 16) C.x C.b dX7_visitedByAll_5 (by decide) ?_
      refine lv_icmp_ge (tgt := 61) C.x C.b dX7_visitedByAll_7 (by decide) (fun c_8 => ?_) (fun c_8 => absurd (by decide) c_8)
      refine lv_iload_n C.x C.b dX7_visitedByAll_61 rfl (lv_at hl 1 rfl) ?_
      exact r_iret C hr hlocks hS hKp dX7_visitedByAll_62
    | succ u_2 ih_5 =>
      intro k_3 b_7 g_6 H locs ls hk_4 hKp hS hl
      refine lv_iload_n C.x C.b dX7_visitedByAll_4 rfl (lv_at hl 2 rfl) ?_
      refine lv_bipush (v := 16) C.x C.b dX7_visitedByAll_5 (by decide) ?_
      refine lv_icmp_ge (tgt := 61) C.x C.b dX7_visitedByAll_7 (by decide) (fun c_9 => absurd c_9 (nI_ge (a := k_3) (b := 16) (by omega) (by decide))) (fun c_9 => ?_)
      refine lv_iconst (v := 0) C.x C.b dX7_visitedByAll_10 (by decide) ?_
      refine lv_istore_n (lv' := [(3, .int 0), (0, .ref (B + 0)), (1, .int b_7), (2, .int (nI k_3))]) C.x C.b dX7_visitedByAll_11 rfl hl (by decide) rfl (fun ls hl => ?_)
      have lp_10 : ∀ (u_11 k_12 : Nat) (b_16 : Int32) (g_15 : Nat → va_E) (H : Heap) (locs : List Loc) (ls : Array Slot), k_12 + u_11 = 16 → Kp t B g g_15 → St D B s.heap N g_15 H locs → lv_has ls 4 [(0, .ref (B + 0)), (2, .int (nI k_3)), (1, .int b_16), (3, .int (nI k_12))] → W p l e (rmOf 4 104 0 0) s m [.ref (B + 0)].toArray below meth c H locs 0 0 (MQ below (qI D B N (fun r g' => Kp t B g g')) [.ref (B + 0)].toArray s 0 0 (fun q => B ≤ q)) (F0 m 12 ls []) := by
        intro u_11
        induction u_11 with
        | zero =>
          intro k_12 b_16 g_15 H locs ls hk_13 hKp hS hl
          obtain rfl : 16 = k_12 := by omega
          refine lv_iload_n C.x C.b dX7_visitedByAll_12 rfl (lv_at hl 3 rfl) ?_
          refine lv_bipush (v := 16) C.x C.b dX7_visitedByAll_13 (by decide) ?_
          refine lv_icmp_ge (tgt := 55) C.x C.b dX7_visitedByAll_15 (by decide) (fun c_17 => ?_) (fun c_17 => absurd (by decide) c_17)
          refine lv_iinc (v := nI (k_3 + 1)) (lv' := [(2, .int (nI (k_3 + 1))), (0, .ref (B + 0)), (1, .int b_16), (3, .int (nI 16))]) C.x C.b dX7_visitedByAll_55 hl (k := 1) rfl (nI_1 k_3) (by decide) rfl (fun ls hl => ?_)
          refine lv_goto (tgt := 4) C.x C.b dX7_visitedByAll_58 (by decide) ?_
          exact ih_5 (k_3 + 1) b_16 g_15 _ _ _ (by omega)  hKp hS (lv_sub hl [1, 2, 0] rfl)
        | succ u_11 ih_14 =>
          intro k_12 b_16 g_15 H locs ls hk_13 hKp hS hl
          refine lv_iload_n C.x C.b dX7_visitedByAll_12 rfl (lv_at hl 3 rfl) ?_
          refine lv_bipush (v := 16) C.x C.b dX7_visitedByAll_13 (by decide) ?_
          refine lv_icmp_ge (tgt := 55) C.x C.b dX7_visitedByAll_15 (by decide) (fun c_18 => absurd c_18 (nI_ge (a := k_12) (b := 16) (by omega) (by decide))) (fun c_18 => ?_)
          refine lv_aload_n C.x C.b dX7_visitedByAll_18 rfl (lv_at hl 0 rfl) ?_
          obtain ⟨v_19, e_20⟩ := hKp.2.1
          refine r_get ck7 flX7_26 C hS (by omega) e_20 (by decide) rfl dX7_visitedByAll_19 ?_
          refine lv_aload_n C.x C.b dX7_visitedByAll_22 rfl (lv_at hl 0 rfl) ?_
          refine r_get ck7 flX7_12 C hS (by omega) e_20 (by decide) rfl dX7_visitedByAll_23 ?_
          refine lv_aload_n C.x C.b dX7_visitedByAll_26 rfl (lv_at hl 0 rfl) ?_
          refine r_get ck7 flX7_19 C hS (by omega) e_20 (by decide) rfl dX7_visitedByAll_27 ?_
          refine lv_iload_n C.x C.b dX7_visitedByAll_30 rfl (lv_at hl 1 rfl) ?_
          refine lv_iload_n C.x C.b dX7_visitedByAll_31 rfl (lv_at hl 3 rfl) ?_
          refine lv_aload_n C.x C.b dX7_visitedByAll_32 rfl (lv_at hl 0 rfl) ?_
          refine r_get ck7 flX7_33 C hS (by omega) e_20 (by decide) rfl dX7_visitedByAll_33 ?_
          have e_21 : g_15 1 = .inr (3, [.ref (B + (1 + 1)), .ref (B + (1 + 2)), .ref (B + (1 + 3)), .int (nI n)]) := (hKp.1 _ (by omega)).trans p0
          have e_22 : g_15 (1 + 1) = .inl (t.1, 8, .inl o) := (hKp.1 _ (by omega)).trans p1
          have e_23 : g_15 (1 + 2) = .inl (t.1, 8, .inl pr) := (hKp.1 _ (by omega)).trans p2
          have e_24 : g_15 (1 + 3) = .inl (t.1, 8, .inl w) := (hKp.1 _ (by omega)).trans p3
          have e_25 : g_15 5 = .inr (6, [.int ey, .int wi, .int ev]) := (hKp.1 _ (by omega)).trans hW
          obtain ⟨q_29, q_30, q_31, ⟨e_32, e_33, e_34⟩⟩ := hKp.2.2.1
          refine r_callVv (b := 6) (As := [.ref (B + 1), .ref (B + 5), .int (nI k_3), .int (nI k_12), .ref (B + 9)]) (rest := []) (k_go l D t B N g_15 _ _ _ _ _ _ _ 9 (nI k_3) (nI k_12) (by omega) ⟨e_21, e_22, e_23, e_24⟩ e_25 (by omega) (Or.inl rfl) hKp.2) mf_yX1_go mlX7_202 im_yX1_go se_yX1_go (by decide) C hS (by omega) e_32 (show vwCl[1]? = some _ from rfl) rfl rfl hl.1 rfl (Nat.le_of_ble_eq_true rfl) dX7_visitedByAll_36 ⟨Nat.zero_le _, Nat.zero_le _⟩ (fun g_26 H locs w_27 hS => ?_)
          replace hKp : Kp t B g g_26 := hKp.tr w_27
          refine lv_iload_n C.x C.b dX7_visitedByAll_39 rfl (lv_at hl 2 rfl) ?_
          refine lv_aload_n C.x C.b dX7_visitedByAll_40 rfl (lv_at hl 0 rfl) ?_
          obtain ⟨v_35, e_36⟩ := hKp.2.1
          refine r_get ck7 flX7_33 C hS (by omega) e_36 (by decide) rfl dX7_visitedByAll_41 ?_
          obtain ⟨q_37, q_38, q_39, q_40, q_41, q_42, q_43, q_44, q_45, q_46, ⟨e_47, e_48, e_49, e_50, e_51, e_52⟩, hl_53, hs_54⟩ := hKp.2.2.2.1 9 (Or.inl rfl)
          refine r_get ck5 flX7_214 C hS (by omega) e_47 (by decide) rfl dX7_visitedByAll_44 ?_
          refine lv_ior C.x C.b dX7_visitedByAll_47 ?_
          refine lv_istore_n (lv' := [(1, .int (b_16 ||| q_44)), (0, .ref (B + 0)), (2, .int (nI k_3)), (3, .int (nI k_12))]) C.x C.b dX7_visitedByAll_48 rfl hl (by decide) rfl (fun ls hl => ?_)
          refine lv_iinc (v := nI (k_12 + 1)) (lv' := [(3, .int (nI (k_12 + 1))), (1, .int (b_16 ||| q_44)), (0, .ref (B + 0)), (2, .int (nI k_3))]) C.x C.b dX7_visitedByAll_49 hl (k := 3) rfl (nI_1 k_12) (by decide) rfl (fun ls hl => ?_)
          refine lv_goto (tgt := 12) C.x C.b dX7_visitedByAll_52 (by decide) ?_
          exact ih_14 (k_12 + 1) (b_16 ||| q_44) g_26 _ _ _ (by omega)  hKp hS (lv_sub hl [2, 3, 1, 0] rfl)
      exact lp_10 16 0 b_7 g_6 _ _ _ (by omega)  hKp hS (lv_sub hl [1, 3, 2, 0] rfl)
  exact lp_1 16 0 0 g _ _ _ (by omega)  hKp hS (lv_sub hl [2, 1, 0] rfl)
set_option maxHeartbeats 1000000 in
set_option maxRecDepth 100000 in
theorem k_X7_reached (l : Launch) (D : va_G) (t : Gx) (B N : Nat) (g : Nat → va_E) (o pr w : Nat → Int32) (n : Nat) (ey wi ev : Int32)  (hN : 220 ≤ N) (hP : isProg t B g 1 o pr w n) (hn : n ≤ 8) (hW : isWat g 5 ey wi ev) (hScr : Scr t B g)  : Ci l D t B N yX7_reached cX7_reached 1 (some .int) 5 127 g [.ref (B + 0)] (fun r g' => Kp t B g g') := by
  refine Ci.start (by decide) (Nat.le_of_ble_eq_true rfl) ?_
  intro p e s m below meth c ls C hr hlocks hS hl
  replace C : Cx D t p s m [.ref (B + 0)].toArray c cX7_reached 1 RX7 := C
  replace hl : lv_has ls 1 [(0, .ref (B + 0))] := hl
  obtain ⟨p0, p1, p2, p3⟩ := id hP
  have hKp : Kp t B g g := Kp.rf hScr
  refine lv_aload_n C.x C.b dX7_reached_0 rfl (lv_at hl 0 rfl) ?_
  obtain ⟨v_1, e_2⟩ := hKp.2.1
  refine r_get ck7 flX7_61 C hS (by omega) e_2 (by decide) rfl dX7_reached_1 ?_
  refine lv_iconst (v := (-1)) C.x C.b dX7_reached_4 (by decide) ?_
  refine lv_icmp_ne (tgt := 16) C.x C.b dX7_reached_5 (by decide) (fun c_3 => ?_) (fun c_3 => ?_)
  · skip
    refine lv_aload_n C.x C.b dX7_reached_16 rfl (lv_at hl 0 rfl) ?_
    refine r_get ck7 flX7_61 C hS (by omega) e_2 (by decide) rfl dX7_reached_17 ?_
    exact r_iret C hr hlocks hS hKp dX7_reached_20
  · skip
    refine lv_aload_n C.x C.b dX7_reached_8 rfl (lv_at hl 0 rfl) ?_
    refine lv_aload_n C.x C.b dX7_reached_9 rfl (lv_at hl 0 rfl) ?_
    refine r_callV (b := 0) (As := []) (rest := [.ref (B + 0)]) (k_X7_visitedByAll l D t B N g _ _ _ _ _ _ _  (by omega) ⟨p0, p1, p2, p3⟩ (by omega) hW hKp.2 ) mf_yX7_visitedByAll mlX7_190 im_yX7_visitedByAll se_yX7_visitedByAll (by decide) C hS (by omega) e_2 (show vwCl[7]? = some _ from rfl) rfl rfl hl.1 rfl (Nat.le_of_ble_eq_true rfl) dX7_reached_10 ⟨Nat.zero_le _, Nat.zero_le _⟩ (fun r_6 g_4 H locs w_5 hS => ?_)
    replace hKp : Kp t B g g_4 := hKp.tr w_5
    obtain ⟨v_7, e_8⟩ := hKp.2.1
    refine r_put ck7 flX7_61 C hS (by omega) e_8 (by decide) rfl rfl rfl (Nat.le_of_ble_eq_true rfl) dX7_reached_13 (fun g_9 H locs e_10 o_11 hS => ?_)
    replace e_10 : g_9 0 = .inr (7, [.ref (B + 1), .ref (B + 5), .ref (B + 6), .ref (B + 9), .ref (B + 15), .ref (B + 19), .ref (B + 23), .ref (B + 113), .int r_6]) := e_10
    replace hKp : Kp t B g g_9 := hKp.top e_10 o_11
    refine lv_aload_n C.x C.b dX7_reached_16 rfl (lv_at hl 0 rfl) ?_
    refine r_get ck7 flX7_61 C hS (by omega) e_10 (by decide) rfl dX7_reached_17 ?_
    exact r_iret C hr hlocks hS hKp dX7_reached_20
set_option maxHeartbeats 1000000 in
set_option maxRecDepth 100000 in
theorem k_X7_tellers (l : Launch) (D : va_G) (t : Gx) (B N : Nat) (g : Nat → va_E) (o pr w : Nat → Int32) (n : Nat) (ey wi ev : Int32)  (hN : 220 ≤ N) (hP : isProg t B g 1 o pr w n) (hn : n ≤ 8) (hW : isWat g 5 ey wi ev) (hScr : Scr t B g)  : Ci l D t B N yX7_tellers cX7_tellers 4 (some .int) 6 157 g [.ref (B + 0)] (fun r g' => Kp t B g g') := by
  refine Ci.start (by decide) (Nat.le_of_ble_eq_true rfl) ?_
  intro p e s m below meth c ls C hr hlocks hS hl
  replace C : Cx D t p s m [.ref (B + 0)].toArray c cX7_tellers 4 RX7 := C
  replace hl : lv_has ls 4 [(0, .ref (B + 0))] := hl
  obtain ⟨p0, p1, p2, p3⟩ := id hP
  have hKp : Kp t B g g := Kp.rf hScr
  refine lv_aload_n C.x C.b dX7_tellers_0 rfl (lv_at hl 0 rfl) ?_
  obtain ⟨v_1, e_2⟩ := hKp.2.1
  refine r_get ck7 flX7_57 C hS (by omega) e_2 (by decide) rfl dX7_tellers_1 ?_
  refine lv_aload_n C.x C.b dX7_tellers_4 rfl (lv_at hl 0 rfl) ?_
  refine r_get ck7 flX7_26 C hS (by omega) e_2 (by decide) rfl dX7_tellers_5 ?_
  refine lv_aload_n C.x C.b dX7_tellers_8 rfl (lv_at hl 0 rfl) ?_
  refine r_get ck7 flX7_12 C hS (by omega) e_2 (by decide) rfl dX7_tellers_9 ?_
  refine lv_aload_n C.x C.b dX7_tellers_12 rfl (lv_at hl 0 rfl) ?_
  refine r_get ck7 flX7_19 C hS (by omega) e_2 (by decide) rfl dX7_tellers_13 ?_
  obtain ⟨v_6, e_7, hz_8⟩ := hKp.2.2.2.2.2.2.2.2.1
  refine r_callVv (b := 113) (As := [.ref (B + 6), .ref (B + 1), .ref (B + 5)]) (rest := []) (k_X0_learn l D t B N g _ _ _ _ _ _ _  (by omega) ⟨p0, p1, p2, p3⟩ (by omega) hW hKp.2 ) mf_yX0_learn mlX7_177 im_yX0_learn se_yX0_learn (by decide) C hS (by omega) e_7 (show vwCl[0]? = some _ from rfl) rfl rfl hl.1 rfl (Nat.le_of_ble_eq_true rfl) dX7_tellers_16 ⟨Nat.zero_le _, Nat.zero_le _⟩ (fun g_3 H locs w_4 hS => ?_)
  replace hKp : Kp t B g g_3 := hKp.tr w_4
  refine lv_aload_n C.x C.b dX7_tellers_19 rfl (lv_at hl 0 rfl) ?_
  obtain ⟨v_9, e_10⟩ := hKp.2.1
  refine r_get ck7 flX7_12 C hS (by omega) e_10 (by decide) rfl dX7_tellers_20 ?_
  have e_11 : g_3 1 = .inr (3, [.ref (B + (1 + 1)), .ref (B + (1 + 2)), .ref (B + (1 + 3)), .int (nI n)]) := (hKp.1 _ (by omega)).trans p0
  have e_12 : g_3 (1 + 1) = .inl (t.1, 8, .inl o) := (hKp.1 _ (by omega)).trans p1
  have e_13 : g_3 (1 + 2) = .inl (t.1, 8, .inl pr) := (hKp.1 _ (by omega)).trans p2
  have e_14 : g_3 (1 + 3) = .inl (t.1, 8, .inl w) := (hKp.1 _ (by omega)).trans p3
  refine r_callV (b := 1) (As := []) (rest := []) (c_X3_allPlaces l D t B N g_3 1 _ _ _ _ (by omega) ⟨e_11, e_12, e_13, e_14⟩) mf_yX3_allPlaces mlX7_193 im_yX3_allPlaces se_yX3_allPlaces (by decide) C hS (by omega) e_11 (show vwCl[3]? = some _ from rfl) rfl rfl hl.1 rfl (Nat.le_of_ble_eq_true rfl) dX7_tellers_23 ⟨Nat.zero_le _, Nat.zero_le _⟩ (fun r_17 g_15 H locs w_16 hS => ?_)
  obtain ⟨rfl, er_17⟩ := w_16
  subst er_17
  obtain ⟨M, hM, eM⟩ := al1 hn
  refine r_top (y := nI M) eM ?_
  refine lv_istore_n (lv' := [(1, .int (nI M)), (0, .ref (B + 0))]) C.x C.b dX7_tellers_26 rfl hl (by decide) rfl (fun ls hl => ?_)
  refine lv_iconst (v := 0) C.x C.b dX7_tellers_27 (by decide) ?_
  refine lv_istore_n (lv' := [(2, .int 0), (1, .int (nI M)), (0, .ref (B + 0))]) C.x C.b dX7_tellers_28 rfl hl (by decide) rfl (fun ls hl => ?_)
  refine lv_iconst (v := 0) C.x C.b dX7_tellers_29 (by decide) ?_
  refine lv_istore_n (lv' := [(3, .int 0), (2, .int 0), (1, .int (nI M)), (0, .ref (B + 0))]) C.x C.b dX7_tellers_30 rfl hl (by decide) rfl (fun ls hl => ?_)
  have lp_18 : ∀ (u_19 k_20 : Nat) (b_24 : Int32) (g_23 : Nat → va_E) (H : Heap) (locs : List Loc) (ls : Array Slot), k_20 + u_19 = n → Kp t B g g_23 → St D B s.heap N g_23 H locs → lv_has ls 4 [(1, .int (nI M)), (0, .ref (B + 0)), (2, .int b_24), (3, .int (nI k_20))] → W p l e (rmOf 6 157 0 0) s m [.ref (B + 0)].toArray below meth c H locs 0 0 (MQ below (qI D B N (fun r g' => Kp t B g g')) [.ref (B + 0)].toArray s 0 0 (fun q => B ≤ q)) (F0 m 31 ls []) := by
    intro u_19
    induction u_19 with
    | zero =>
      intro k_20 b_24 g_23 H locs ls hk_21 hKp hS hl
      obtain rfl : n = k_20 := by omega
      refine lv_iload_n C.x C.b dX7_tellers_31 rfl (lv_at hl 3 rfl) ?_
      refine lv_aload_n C.x C.b dX7_tellers_32 rfl (lv_at hl 1 rfl) ?_
      obtain ⟨v_25, e_26⟩ := hKp.2.1
      refine r_get ck7 flX7_12 C hS (by omega) e_26 (by decide) rfl dX7_tellers_33 ?_
      have e_27 : g_23 1 = .inr (3, [.ref (B + (1 + 1)), .ref (B + (1 + 2)), .ref (B + (1 + 3)), .int (nI n)]) := (hKp.1 _ (by omega)).trans p0
      refine r_get ck3 flX7_69 C hS (by omega) e_27 (by decide) rfl dX7_tellers_36 ?_
      refine lv_icmp_ge (tgt := 72) C.x C.b dX7_tellers_39 (by decide) (fun c_28 => ?_) (fun c_28 => absurd (nI_le (Nat.le_refl _) (by omega)) c_28)
      refine lv_iload_n C.x C.b dX7_tellers_72 rfl (lv_at hl 2 rfl) ?_
      exact r_iret C hr hlocks hS hKp dX7_tellers_73
    | succ u_19 ih_22 =>
      intro k_20 b_24 g_23 H locs ls hk_21 hKp hS hl
      refine lv_iload_n C.x C.b dX7_tellers_31 rfl (lv_at hl 3 rfl) ?_
      refine lv_aload_n C.x C.b dX7_tellers_32 rfl (lv_at hl 1 rfl) ?_
      obtain ⟨v_29, e_30⟩ := hKp.2.1
      refine r_get ck7 flX7_12 C hS (by omega) e_30 (by decide) rfl dX7_tellers_33 ?_
      have e_31 : g_23 1 = .inr (3, [.ref (B + (1 + 1)), .ref (B + (1 + 2)), .ref (B + (1 + 3)), .int (nI n)]) := (hKp.1 _ (by omega)).trans p0
      refine r_get ck3 flX7_69 C hS (by omega) e_31 (by decide) rfl dX7_tellers_36 ?_
      refine lv_icmp_ge (tgt := 72) C.x C.b dX7_tellers_39 (by decide) (fun c_32 => absurd c_32 (nI_ge (a := k_20) (b := n) (by omega) (by omega))) (fun c_32 => ?_)
      refine lv_aload_n C.x C.b dX7_tellers_42 rfl (lv_at hl 1 rfl) ?_
      refine r_get ck7 flX7_57 C hS (by omega) e_30 (by decide) rfl dX7_tellers_43 ?_
      obtain ⟨v_33, e_34, hz_35⟩ := hKp.2.2.2.2.2.2.2.2.1
      refine r_get ck0 flX7_196 C hS (by omega) e_34 (by decide) rfl dX7_tellers_46 ?_
      refine lv_iload_n C.x C.b dX7_tellers_49 rfl (lv_at hl 0 rfl) ?_
      refine lv_iconst (v := 1) C.x C.b dX7_tellers_50 (by decide) ?_
      refine lv_iload_n C.x C.b dX7_tellers_51 rfl (lv_at hl 3 rfl) ?_
      refine lv_ishl C.x C.b dX7_tellers_52 ?_
      refine lv_iconst (v := (-1)) C.x C.b dX7_tellers_53 (by decide) ?_
      refine lv_ixor C.x C.b dX7_tellers_54 ?_
      refine lv_iand C.x C.b dX7_tellers_55 ?_
      obtain ⟨q_36, e_37, hz_38⟩ := hKp.2.2.2.2.2.2.2.2.2
      refine r_zaldN (an M ((1 <<< ((nI k_20) &&& 31)) ^^^ (-1))) (an_eq _ _) (Nat.lt_of_le_of_lt (an_le _ _) (by omega)) (by decide) C hS (by omega) e_37 dX7_tellers_56 ?_
      refine lv_if_ne (tgt := 66) C.x C.b dX7_tellers_57 (by decide) (fun c_39 => ?_) (fun c_39 => ?_)
      · skip
        refine lv_iinc (v := nI (k_20 + 1)) (lv' := [(3, .int (nI (k_20 + 1))), (1, .int (nI M)), (0, .ref (B + 0)), (2, .int b_24)]) C.x C.b dX7_tellers_66 hl (k := 3) rfl (nI_1 k_20) (by decide) rfl (fun ls hl => ?_)
        refine lv_goto (tgt := 31) C.x C.b dX7_tellers_69 (by decide) ?_
        exact ih_22 (k_20 + 1) b_24 g_23 _ _ _ (by omega)  hKp hS (lv_sub hl [1, 2, 3, 0] rfl)
      · skip
        refine lv_iload_n C.x C.b dX7_tellers_60 rfl (lv_at hl 2 rfl) ?_
        refine lv_iconst (v := 1) C.x C.b dX7_tellers_61 (by decide) ?_
        refine lv_iload_n C.x C.b dX7_tellers_62 rfl (lv_at hl 3 rfl) ?_
        refine lv_ishl C.x C.b dX7_tellers_63 ?_
        refine lv_ior C.x C.b dX7_tellers_64 ?_
        refine lv_istore_n (lv' := [(2, .int (b_24 ||| (1 <<< ((nI k_20) &&& 31)))), (1, .int (nI M)), (0, .ref (B + 0)), (3, .int (nI k_20))]) C.x C.b dX7_tellers_65 rfl hl (by decide) rfl (fun ls hl => ?_)
        refine lv_iinc (v := nI (k_20 + 1)) (lv' := [(3, .int (nI (k_20 + 1))), (2, .int (b_24 ||| (1 <<< ((nI k_20) &&& 31)))), (1, .int (nI M)), (0, .ref (B + 0))]) C.x C.b dX7_tellers_66 hl (k := 3) rfl (nI_1 k_20) (by decide) rfl (fun ls hl => ?_)
        refine lv_goto (tgt := 31) C.x C.b dX7_tellers_69 (by decide) ?_
        exact ih_22 (k_20 + 1) (b_24 ||| (1 <<< ((nI k_20) &&& 31))) g_23 _ _ _ (by omega)  hKp hS (lv_sub hl [2, 3, 1, 0] rfl)
  exact lp_18 n 0 0 g_3 _ _ _ (by omega)  hKp hS (lv_sub hl [2, 3, 1, 0] rfl)
set_option maxHeartbeats 1000000 in
set_option maxRecDepth 100000 in
theorem k_X7_seen (l : Launch) (D : va_G) (t : Gx) (B N : Nat) (g : Nat → va_E) (o pr w : Nat → Int32) (n : Nat) (ey wi ev : Int32) (x y z v : Int32) (hN : 220 ≤ N) (hP : isProg t B g 1 o pr w n) (hn : n ≤ 8) (hW : isWat g 5 ey wi ev) (hScr : Scr t B g)  : Ci l D t B N yX7_seen cX7_seen 5 (some .int) 5 127 g [.ref (B + 0), .int x, .int y, .int z, .int v] (fun r g' => Kp t B g g') := by
  refine Ci.start (by decide) (Nat.le_of_ble_eq_true rfl) ?_
  intro p e s m below meth c ls C hr hlocks hS hl
  replace C : Cx D t p s m [.ref (B + 0), .int x, .int y, .int z, .int v].toArray c cX7_seen 5 RX7 := C
  replace hl : lv_has ls 5 [(0, .ref (B + 0)), (1, .int x), (2, .int y), (3, .int z), (4, .int v)] := hl
  obtain ⟨p0, p1, p2, p3⟩ := id hP
  have hKp : Kp t B g g := Kp.rf hScr
  refine lv_iload_n C.x C.b dX7_seen_0 rfl (lv_at hl 1 rfl) ?_
  refine r_callS (As := [.int x]) (rest := []) (c_X7_isInput l D t B N g x) mf_yX7_isInput mlX7_116 sm_yX7_isInput (by decide) C hS rfl hl.1 rfl (Nat.le_of_ble_eq_true rfl) dX7_seen_1 ⟨Nat.zero_le _, Nat.zero_le _⟩ (fun r_3 g_1 H locs w_2 hS => ?_)
  obtain ⟨rfl, er_3⟩ := w_2
  by_cases b_4 : inP 16 x
  · rw [bz_t b_4] at er_3
    subst er_3
    refine lv_if_eq (tgt := 25) C.x C.b dX7_seen_4 (by decide) (fun c_5 => absurd c_5 (by decide)) (fun c_5 => ?_)
    refine lv_iload_n C.x C.b dX7_seen_7 rfl (lv_at hl 2 rfl) ?_
    refine r_callS (As := [.int y]) (rest := []) (c_X7_isInput l D t B N g y) mf_yX7_isInput mlX7_116 sm_yX7_isInput (by decide) C hS rfl hl.1 rfl (Nat.le_of_ble_eq_true rfl) dX7_seen_8 ⟨Nat.zero_le _, Nat.zero_le _⟩ (fun r_8 g_6 H locs w_7 hS => ?_)
    obtain ⟨rfl, er_8⟩ := w_7
    by_cases b_9 : inP 16 y
    · rw [bz_t b_9] at er_8
      subst er_8
      refine lv_if_eq (tgt := 25) C.x C.b dX7_seen_11 (by decide) (fun c_10 => absurd c_10 (by decide)) (fun c_10 => ?_)
      refine lv_iload C.x C.b dX7_seen_14 (lv_at hl 4 rfl) ?_
      refine lv_if_lt (tgt := 25) C.x C.b dX7_seen_16 (by decide) (fun c_11 => ?_) (fun c_11 => ?_)
      · skip
        refine lv_sipush (v := (-1001)) C.x C.b dX7_seen_25 (by decide) ?_
        exact r_iret C hr hlocks hS hKp dX7_seen_28
      · skip
        refine lv_iload C.x C.b dX7_seen_19 (lv_at hl 4 rfl) ?_
        refine lv_iconst (v := 2) C.x C.b dX7_seen_21 (by decide) ?_
        refine lv_icmp_le (tgt := 29) C.x C.b dX7_seen_22 (by decide) (fun c_12 => ?_) (fun c_12 => ?_)
        · skip
          refine lv_aload_n C.x C.b dX7_seen_29 rfl (lv_at hl 0 rfl) ?_
          refine lv_aload_n C.x C.b dX7_seen_30 rfl (lv_at hl 0 rfl) ?_
          obtain ⟨v_13, e_14⟩ := hKp.2.1
          refine r_get ck7 flX7_40 C hS (by omega) e_14 (by decide) rfl dX7_seen_31 ?_
          refine lv_iload_n C.x C.b dX7_seen_34 rfl (lv_at hl 1 rfl) ?_
          refine lv_iload_n C.x C.b dX7_seen_35 rfl (lv_at hl 2 rfl) ?_
          refine r_callVv (b := 0) (As := [.ref (B + 15), .int x, .int y]) (rest := []) (k_X7_fillRow l D t B N g _ _ _ _ _ _ _ 15 x y (by omega) ⟨p0, p1, p2, p3⟩ (by omega) hW hKp.2 (Or.inl rfl) (by omega)) mf_yX7_fillRow mlX7_119 im_yX7_fillRow se_yX7_fillRow (by decide) C hS (by omega) e_14 (show vwCl[7]? = some _ from rfl) rfl rfl hl.1 rfl (Nat.le_of_ble_eq_true rfl) dX7_seen_36 ⟨Nat.zero_le _, Nat.zero_le _⟩ (fun g_15 H locs w_16 hS => ?_)
          replace hKp : Kp t B g g_15 := hKp.tr w_16
          refine lv_aload_n C.x C.b dX7_seen_39 rfl (lv_at hl 0 rfl) ?_
          obtain ⟨v_18, e_19⟩ := hKp.2.1
          refine r_get ck7 flX7_40 C hS (by omega) e_19 (by decide) rfl dX7_seen_40 ?_
          refine lv_iload_n C.x C.b dX7_seen_43 rfl (lv_at hl 3 rfl) ?_
          obtain ⟨q_20, q_21, q_22, q_23, ⟨e_24, e_25, e_26, e_27⟩, hl_28⟩ := hKp.2.2.2.2.1 15 (Or.inl rfl)
          refine r_callV (b := 15) (As := [.int z]) (rest := []) (c_X4_has l D t B N g_15 15 _ _ _ _ z (by omega) ⟨e_24, e_25, e_26, e_27⟩) mf_yX4_has mlX7_139 im_yX4_has se_yX4_has (by decide) C hS (by omega) e_24 (show vwCl[4]? = some _ from rfl) rfl rfl hl.1 rfl (Nat.le_of_ble_eq_true rfl) dX7_seen_44 ⟨Nat.zero_le _, Nat.zero_le _⟩ (fun r_31 g_29 H locs w_30 hS => ?_)
          obtain ⟨rfl, er_31⟩ := w_30
          by_cases b_32 : inP q_23 z
          · rw [bz_t b_32] at er_31
            subst er_31
            obtain ⟨q_33, hq_34, rfl⟩ := inP_nI b_32 (by omega)
            refine lv_if_ne (tgt := 54) C.x C.b dX7_seen_47 (by decide) (fun c_35 => ?_) (fun c_35 => absurd c_35 (by decide))
            refine lv_iload C.x C.b dX7_seen_54 (lv_at hl 4 rfl) ?_
            by_cases h_36 : v = 0
            · refine lv_lookup (off := 28) (tgt := 84) C.x C.b dX7_seen_56 (by decide) (by rw [h_36]; decide) (by decide) ?_
              refine lv_aload_n C.x C.b dX7_seen_84 rfl (lv_at hl 0 rfl) ?_
              refine r_get ck7 flX7_40 C hS (by omega) e_19 (by decide) rfl dX7_seen_85 ?_
              refine r_get ck4 flX7_140 C hS (by omega) e_24 (by decide) rfl dX7_seen_88 ?_
              refine lv_iload_n C.x C.b dX7_seen_91 rfl (lv_at hl 3 rfl) ?_
              refine r_ialdN q_33 rfl (by omega) (by decide) C hS (by omega) e_25 dX7_seen_92 ?_
              exact r_iret C hr hlocks hS hKp dX7_seen_93
            by_cases h_37 : v = 1
            · refine lv_lookup (off := 38) (tgt := 94) C.x C.b dX7_seen_56 (by decide) (by rw [h_37]; decide) (by decide) ?_
              refine lv_aload_n C.x C.b dX7_seen_94 rfl (lv_at hl 0 rfl) ?_
              refine r_get ck7 flX7_40 C hS (by omega) e_19 (by decide) rfl dX7_seen_95 ?_
              refine r_get ck4 flX7_143 C hS (by omega) e_24 (by decide) rfl dX7_seen_98 ?_
              refine lv_iload_n C.x C.b dX7_seen_101 rfl (lv_at hl 3 rfl) ?_
              refine r_ialdN q_33 rfl (by omega) (by decide) C hS (by omega) e_26 dX7_seen_102 ?_
              exact r_iret C hr hlocks hS hKp dX7_seen_103
            refine lv_lookup (off := 48) (tgt := 104) C.x C.b dX7_seen_56 (by decide) (by show Op.lookupswitch.offset [(0, 28), (1, 38)] 48 _ = 48; rw [lv_osw h_36 (by decide), lv_osw h_37 (by decide)]; rfl) (by decide) ?_
            refine lv_aload_n C.x C.b dX7_seen_104 rfl (lv_at hl 0 rfl) ?_
            refine r_get ck7 flX7_40 C hS (by omega) e_19 (by decide) rfl dX7_seen_105 ?_
            refine r_get ck4 flX7_146 C hS (by omega) e_24 (by decide) rfl dX7_seen_108 ?_
            refine lv_iload_n C.x C.b dX7_seen_111 rfl (lv_at hl 3 rfl) ?_
            refine r_ialdN q_33 rfl (by omega) (by decide) C hS (by omega) e_27 dX7_seen_112 ?_
            exact r_iret C hr hlocks hS hKp dX7_seen_113
          · rw [bz_f b_32] at er_31
            subst er_31
            refine lv_if_ne (tgt := 54) C.x C.b dX7_seen_47 (by decide) (fun c_38 => absurd (by decide) c_38) (fun c_38 => ?_)
            refine lv_sipush (v := (-1001)) C.x C.b dX7_seen_50 (by decide) ?_
            exact r_iret C hr hlocks hS hKp dX7_seen_53
        · skip
          refine lv_sipush (v := (-1001)) C.x C.b dX7_seen_25 (by decide) ?_
          exact r_iret C hr hlocks hS hKp dX7_seen_28
    · rw [bz_f b_9] at er_8
      subst er_8
      refine lv_if_eq (tgt := 25) C.x C.b dX7_seen_11 (by decide) (fun c_39 => ?_) (fun c_39 => absurd (by decide) c_39)
      refine lv_sipush (v := (-1001)) C.x C.b dX7_seen_25 (by decide) ?_
      exact r_iret C hr hlocks hS hKp dX7_seen_28
  · rw [bz_f b_4] at er_3
    subst er_3
    refine lv_if_eq (tgt := 25) C.x C.b dX7_seen_4 (by decide) (fun c_40 => ?_) (fun c_40 => absurd (by decide) c_40)
    refine lv_sipush (v := (-1001)) C.x C.b dX7_seen_25 (by decide) ?_
    exact r_iret C hr hlocks hS hKp dX7_seen_28
set_option maxHeartbeats 1000000 in
set_option maxRecDepth 100000 in
theorem k_X7_run (l : Launch) (D : va_G) (t : Gx) (B N : Nat) (g : Nat → va_E) (o pr w : Nat → Int32) (n : Nat) (ey wi ev : Int32) (x y z : Int32) (hN : 220 ≤ N) (hP : isProg t B g 1 o pr w n) (hn : n ≤ 8) (hW : isWat g 5 ey wi ev) (hScr : Scr t B g)  : Ci l D t B N yX7_run cX7_run 4 (some .int) 5 127 g [.ref (B + 0), .int x, .int y, .int z] (fun r g' => Kp t B g g') := by
  refine Ci.start (by decide) (Nat.le_of_ble_eq_true rfl) ?_
  intro p e s m below meth c ls C hr hlocks hS hl
  replace C : Cx D t p s m [.ref (B + 0), .int x, .int y, .int z].toArray c cX7_run 4 RX7 := C
  replace hl : lv_has ls 4 [(0, .ref (B + 0)), (1, .int x), (2, .int y), (3, .int z)] := hl
  obtain ⟨p0, p1, p2, p3⟩ := id hP
  have hKp : Kp t B g g := Kp.rf hScr
  refine lv_iload_n C.x C.b dX7_run_0 rfl (lv_at hl 1 rfl) ?_
  refine r_callS (As := [.int x]) (rest := []) (c_X7_isInput l D t B N g x) mf_yX7_isInput mlX7_116 sm_yX7_isInput (by decide) C hS rfl hl.1 rfl (Nat.le_of_ble_eq_true rfl) dX7_run_1 ⟨Nat.zero_le _, Nat.zero_le _⟩ (fun r_3 g_1 H locs w_2 hS => ?_)
  obtain ⟨rfl, er_3⟩ := w_2
  by_cases b_4 : inP 16 x
  · rw [bz_t b_4] at er_3
    subst er_3
    refine lv_if_eq (tgt := 23) C.x C.b dX7_run_4 (by decide) (fun c_5 => absurd c_5 (by decide)) (fun c_5 => ?_)
    refine lv_iload_n C.x C.b dX7_run_7 rfl (lv_at hl 2 rfl) ?_
    refine r_callS (As := [.int y]) (rest := []) (c_X7_isInput l D t B N g y) mf_yX7_isInput mlX7_116 sm_yX7_isInput (by decide) C hS rfl hl.1 rfl (Nat.le_of_ble_eq_true rfl) dX7_run_8 ⟨Nat.zero_le _, Nat.zero_le _⟩ (fun r_8 g_6 H locs w_7 hS => ?_)
    obtain ⟨rfl, er_8⟩ := w_7
    by_cases b_9 : inP 16 y
    · rw [bz_t b_9] at er_8
      subst er_8
      refine lv_if_eq (tgt := 23) C.x C.b dX7_run_11 (by decide) (fun c_10 => absurd c_10 (by decide)) (fun c_10 => ?_)
      refine lv_iload_n C.x C.b dX7_run_14 rfl (lv_at hl 3 rfl) ?_
      refine lv_if_lt (tgt := 23) C.x C.b dX7_run_15 (by decide) (fun c_11 => ?_) (fun c_11 => ?_)
      · skip
        refine lv_sipush (v := (-1001)) C.x C.b dX7_run_23 (by decide) ?_
        exact r_iret C hr hlocks hS hKp dX7_run_26
      · skip
        refine lv_iload_n C.x C.b dX7_run_18 rfl (lv_at hl 3 rfl) ?_
        refine lv_iconst (v := 4) C.x C.b dX7_run_19 (by decide) ?_
        refine lv_icmp_le (tgt := 27) C.x C.b dX7_run_20 (by decide) (fun c_12 => ?_) (fun c_12 => ?_)
        · skip
          refine lv_aload_n C.x C.b dX7_run_27 rfl (lv_at hl 0 rfl) ?_
          refine lv_aload_n C.x C.b dX7_run_28 rfl (lv_at hl 0 rfl) ?_
          obtain ⟨v_13, e_14⟩ := hKp.2.1
          refine r_get ck7 flX7_40 C hS (by omega) e_14 (by decide) rfl dX7_run_29 ?_
          refine lv_iload_n C.x C.b dX7_run_32 rfl (lv_at hl 1 rfl) ?_
          refine lv_iload_n C.x C.b dX7_run_33 rfl (lv_at hl 2 rfl) ?_
          refine r_callVv (b := 0) (As := [.ref (B + 15), .int x, .int y]) (rest := []) (k_X7_fillRow l D t B N g _ _ _ _ _ _ _ 15 x y (by omega) ⟨p0, p1, p2, p3⟩ (by omega) hW hKp.2 (Or.inl rfl) (by omega)) mf_yX7_fillRow mlX7_119 im_yX7_fillRow se_yX7_fillRow (by decide) C hS (by omega) e_14 (show vwCl[7]? = some _ from rfl) rfl rfl hl.1 rfl (Nat.le_of_ble_eq_true rfl) dX7_run_34 ⟨Nat.zero_le _, Nat.zero_le _⟩ (fun g_15 H locs w_16 hS => ?_)
          replace hKp : Kp t B g g_15 := hKp.tr w_16
          refine lv_iload_n C.x C.b dX7_run_37 rfl (lv_at hl 3 rfl) ?_
          by_cases h_18 : z = 0
          · refine lv_tableIn (off := 30) (tgt := 68) C.x C.b dX7_run_38 (by rw [h_18]; decide) (by rw [h_18]; decide) (by rw [h_18]; rfl) (by decide) ?_
            refine lv_aload_n C.x C.b dX7_run_68 rfl (lv_at hl 0 rfl) ?_
            obtain ⟨v_19, e_20⟩ := hKp.2.1
            refine r_get ck7 flX7_33 C hS (by omega) e_20 (by decide) rfl dX7_run_69 ?_
            obtain ⟨q_21, q_22, q_23, q_24, q_25, q_26, q_27, q_28, q_29, q_30, ⟨e_31, e_32, e_33, e_34, e_35, e_36⟩, hl_37, hs_38⟩ := hKp.2.2.2.1 9 (Or.inl rfl)
            refine r_get ck5 flX7_123 C hS (by omega) e_31 (by decide) rfl dX7_run_72 ?_
            exact r_iret C hr hlocks hS hKp dX7_run_75
          by_cases h_39 : z = 1
          · refine lv_tableIn (off := 38) (tgt := 76) C.x C.b dX7_run_38 (by rw [h_39]; decide) (by rw [h_39]; decide) (by rw [h_39]; rfl) (by decide) ?_
            refine lv_aload_n C.x C.b dX7_run_76 rfl (lv_at hl 0 rfl) ?_
            obtain ⟨v_40, e_41⟩ := hKp.2.1
            refine r_get ck7 flX7_33 C hS (by omega) e_41 (by decide) rfl dX7_run_77 ?_
            refine lv_aload_n C.x C.b dX7_run_80 rfl (lv_at hl 0 rfl) ?_
            refine r_get ck7 flX7_19 C hS (by omega) e_41 (by decide) rfl dX7_run_81 ?_
            have e_42 : g_15 5 = .inr (6, [.int ey, .int wi, .int ev]) := (hKp.1 _ (by omega)).trans hW
            refine r_get ck6 flX7_89 C hS (by omega) e_42 (by decide) rfl dX7_run_84 ?_
            obtain ⟨q_43, q_44, q_45, q_46, q_47, q_48, q_49, q_50, q_51, q_52, ⟨e_53, e_54, e_55, e_56, e_57, e_58⟩, hl_59, hs_60⟩ := hKp.2.2.2.1 9 (Or.inl rfl)
            refine r_callV (b := 9) (As := [.int ev]) (rest := []) (c_X5_costWith l D t B N g_15 9 _ _ _ _ _ _ _ _ _ _ ev (by omega) ⟨e_53, e_54, e_55, e_56, e_57, e_58⟩) mf_yX5_costWith mlX7_126 im_yX5_costWith se_yX5_costWith (by decide) C hS (by omega) e_53 (show vwCl[5]? = some _ from rfl) rfl rfl hl.1 rfl (Nat.le_of_ble_eq_true rfl) dX7_run_87 ⟨Nat.zero_le _, Nat.zero_le _⟩ (fun r_63 g_61 H locs w_62 hS => ?_)
            obtain ⟨rfl, er_63⟩ := w_62
            subst er_63
            exact r_iret C hr hlocks hS hKp dX7_run_90
          by_cases h_64 : z = 2
          · refine lv_tableIn (off := 53) (tgt := 91) C.x C.b dX7_run_38 (by rw [h_64]; decide) (by rw [h_64]; decide) (by rw [h_64]; rfl) (by decide) ?_
            refine lv_aload_n C.x C.b dX7_run_91 rfl (lv_at hl 0 rfl) ?_
            obtain ⟨v_65, e_66⟩ := hKp.2.1
            refine r_get ck7 flX7_33 C hS (by omega) e_66 (by decide) rfl dX7_run_92 ?_
            obtain ⟨q_67, q_68, q_69, q_70, q_71, q_72, q_73, q_74, q_75, q_76, ⟨e_77, e_78, e_79, e_80, e_81, e_82⟩, hl_83, hs_84⟩ := hKp.2.2.2.1 9 (Or.inl rfl)
            refine r_get ck5 flX7_129 C hS (by omega) e_77 (by decide) rfl dX7_run_95 ?_
            exact r_iret C hr hlocks hS hKp dX7_run_98
          by_cases h_85 : z = 3
          · refine lv_tableIn (off := 61) (tgt := 99) C.x C.b dX7_run_38 (by rw [h_85]; decide) (by rw [h_85]; decide) (by rw [h_85]; rfl) (by decide) ?_
            refine lv_aload_n C.x C.b dX7_run_99 rfl (lv_at hl 0 rfl) ?_
            obtain ⟨v_86, e_87⟩ := hKp.2.1
            refine r_get ck7 flX7_33 C hS (by omega) e_87 (by decide) rfl dX7_run_100 ?_
            obtain ⟨q_88, q_89, q_90, q_91, q_92, q_93, q_94, q_95, q_96, q_97, ⟨e_98, e_99, e_100, e_101, e_102, e_103⟩, hl_104, hs_105⟩ := hKp.2.2.2.1 9 (Or.inl rfl)
            refine r_get ck5 flX7_132 C hS (by omega) e_98 (by decide) rfl dX7_run_103 ?_
            refine lv_if_eq (tgt := 113) C.x C.b dX7_run_106 (by decide) (fun c_106 => ?_) (fun c_106 => ?_)
            · skip
              refine lv_iconst (v := 0) C.x C.b dX7_run_113 (by decide) ?_
              exact r_iret C hr hlocks hS hKp dX7_run_114
            · skip
              refine lv_iconst (v := 1) C.x C.b dX7_run_109 (by decide) ?_
              refine lv_goto (tgt := 114) C.x C.b dX7_run_110 (by decide) ?_
              exact r_iret C hr hlocks hS hKp dX7_run_114
          refine lv_tableOut (tgt := 115) C.x C.b dX7_run_38 (sw_out_0_3 h_18 h_39 h_64 h_85) (by decide) ?_
          refine lv_aload_n C.x C.b dX7_run_115 rfl (lv_at hl 0 rfl) ?_
          obtain ⟨v_107, e_108⟩ := hKp.2.1
          refine r_get ck7 flX7_40 C hS (by omega) e_108 (by decide) rfl dX7_run_116 ?_
          obtain ⟨q_109, q_110, q_111, q_112, ⟨e_113, e_114, e_115, e_116⟩, hl_117⟩ := hKp.2.2.2.2.1 15 (Or.inl rfl)
          refine r_get ck4 flX7_136 C hS (by omega) e_113 (by decide) rfl dX7_run_119 ?_
          exact r_iret C hr hlocks hS hKp dX7_run_122
        · skip
          refine lv_sipush (v := (-1001)) C.x C.b dX7_run_23 (by decide) ?_
          exact r_iret C hr hlocks hS hKp dX7_run_26
    · rw [bz_f b_9] at er_8
      subst er_8
      refine lv_if_eq (tgt := 23) C.x C.b dX7_run_11 (by decide) (fun c_118 => ?_) (fun c_118 => absurd (by decide) c_118)
      refine lv_sipush (v := (-1001)) C.x C.b dX7_run_23 (by decide) ?_
      exact r_iret C hr hlocks hS hKp dX7_run_26
  · rw [bz_f b_4] at er_3
    subst er_3
    refine lv_if_eq (tgt := 23) C.x C.b dX7_run_4 (by decide) (fun c_119 => ?_) (fun c_119 => absurd (by decide) c_119)
    refine lv_sipush (v := (-1001)) C.x C.b dX7_run_23 (by decide) ?_
    exact r_iret C hr hlocks hS hKp dX7_run_26
