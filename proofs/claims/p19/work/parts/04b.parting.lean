set_option maxHeartbeats 1000000 in
set_option maxRecDepth 100000 in
theorem k_X2_forget (l : Launch) (D : va_G) (t : Gx) (B N : Nat) (g : Nat → va_E) (o pr w : Nat → Int32) (n : Nat) (ey wi ev : Int32)  (hN : 220 ≤ N) (hP : isProg t B g 1 o pr w n) (hn : n ≤ 8) (hW : isWat g 5 ey wi ev) (hScr : Scr t B g)  : Cv l D t B N N 0 0 yX2_forget cX2_forget 2 0 0 g [.ref (B + 23)] (fun g' => Kp t B g g') := by
  refine Cv.start (by decide) (Nat.le_of_ble_eq_true rfl) ?_
  intro p e s m below meth c ls C hr hlocks hnm hS hl
  replace C : Cx D t p s m [.ref (B + 23)].toArray c cX2_forget 2 RX2 := C
  replace hl : lv_has ls 2 [(0, .ref (B + 23))] := hl
  obtain ⟨p0, p1, p2, p3⟩ := id hP
  have hKp : Kp t B g g := Kp.rf hScr
  refine lv_iconst (v := 0) C.x C.b dX2_forget_0 (by decide) ?_
  refine lv_istore_n (lv' := [(1, .int 0), (0, .ref (B + 23))]) C.x C.b dX2_forget_1 rfl hl (by decide) rfl (fun ls hl => ?_)
  have lp_1 : ∀ (u_2 k_3 : Nat) (g_6 : Nat → va_E) (H : Heap) (locs : List Loc) (ls : Array Slot), k_3 + u_2 = 16 → Kp t B g g_6 → St D B s.heap N g_6 H locs → lv_has ls 2 [(0, .ref (B + 23)), (1, .int (nI k_3))] → W p l e (rmOf 0 0 0 0) s m [.ref (B + 23)].toArray below meth c H locs 0 0 (MQ below (qV D B N (fun g' => Kp t B g g')) [.ref (B + 23)].toArray s 0 0 (fun q => B ≤ q)) (F0 m 2 ls []) := by
    intro u_2
    induction u_2 with
    | zero =>
      intro k_3 g_6 H locs ls hk_4 hKp hS hl
      obtain rfl : 16 = k_3 := by omega
      refine lv_iload_n C.x C.b dX2_forget_2 rfl (lv_at hl 1 rfl) ?_
      refine lv_bipush (v := 16) C.x C.b dX2_forget_3 (by decide) ?_
      refine lv_icmp_ge (tgt := 21) C.x C.b dX2_forget_5 (by decide) (fun c_7 => ?_) (fun c_7 => absurd (by decide) c_7)
      exact r_vret C hr hlocks hS hKp dX2_forget_21
    | succ u_2 ih_5 =>
      intro k_3 g_6 H locs ls hk_4 hKp hS hl
      refine lv_iload_n C.x C.b dX2_forget_2 rfl (lv_at hl 1 rfl) ?_
      refine lv_bipush (v := 16) C.x C.b dX2_forget_3 (by decide) ?_
      refine lv_icmp_ge (tgt := 21) C.x C.b dX2_forget_5 (by decide) (fun c_8 => absurd c_8 (nI_ge (a := k_3) (b := 16) (by omega) (by decide))) (fun c_8 => ?_)
      refine lv_aload_n C.x C.b dX2_forget_8 rfl (lv_at hl 0 rfl) ?_
      have e_9 := hKp.2.2.2.2.2.1.1
      refine r_get ck2 flX2_16 C hS (by omega) e_9 (by decide) rfl dX2_forget_9 ?_
      refine lv_iload_n C.x C.b dX2_forget_12 rfl (lv_at hl 1 rfl) ?_
      refine lv_iconst (v := 0) C.x C.b dX2_forget_13 (by decide) ?_
      obtain ⟨q_10, e_11⟩ := hKp.2.2.2.2.2.2.1
      refine r_iastN k_3 rfl (by omega) (by decide) C hS (by omega) e_11 dX2_forget_14 (fun g_12 H locs e_13 o_14 hS => ?_)
      replace e_13 : g_12 41 = .inl (t.1, 16, .inl (upd q_10 k_3 0)) := e_13
      replace hKp : Kp t B g g_12 := hKp.cnt e_13 o_14
      refine lv_iinc (v := nI (k_3 + 1)) (lv' := [(1, .int (nI (k_3 + 1))), (0, .ref (B + 23))]) C.x C.b dX2_forget_15 hl (k := 1) rfl (nI_1 k_3) (by decide) rfl (fun ls hl => ?_)
      refine lv_goto (tgt := 2) C.x C.b dX2_forget_18 (by decide) ?_
      exact ih_5 (k_3 + 1) g_12 _ _ _ (by omega)  hKp hS (lv_sub hl [1, 0] rfl)
  exact lp_1 16 0 g _ _ _ (by omega)  hKp hS (lv_sub hl [1, 0] rfl)
set_option maxHeartbeats 1000000 in
set_option maxRecDepth 100000 in
theorem k_X2_firstParted (l : Launch) (D : va_G) (t : Gx) (B N : Nat) (g : Nat → va_E) (o pr w : Nat → Int32) (n : Nat) (ey wi ev : Int32) (q : Nat) (hN : 220 ≤ N) (hP : isProg t B g 1 o pr w n) (hn : n ≤ 8) (hW : isWat g 5 ey wi ev) (hScr : Scr t B g) (hq : q < 16) : Ci l D t B N yX2_firstParted cX2_firstParted 3 (some .int) 0 0 g [.ref (B + 23), .int (nI q)] (fun r g' => Kp t B g g' ∧ (r = -1 ∨ ∃ k, k < 16 ∧ r = nI k)) := by
  refine Ci.start (by decide) (Nat.le_of_ble_eq_true rfl) ?_
  intro p e s m below meth c ls C hr hlocks hS hl
  replace C : Cx D t p s m [.ref (B + 23), .int (nI q)].toArray c cX2_firstParted 3 RX2 := C
  replace hl : lv_has ls 3 [(0, .ref (B + 23)), (1, .int (nI q))] := hl
  obtain ⟨p0, p1, p2, p3⟩ := id hP
  have hKp : Kp t B g g := Kp.rf hScr
  refine lv_iconst (v := 1) C.x C.b dX2_firstParted_0 (by decide) ?_
  refine lv_istore_n (lv' := [(2, .int 1), (0, .ref (B + 23)), (1, .int (nI q))]) C.x C.b dX2_firstParted_1 rfl hl (by decide) rfl (fun ls hl => ?_)
  have lp_1 : ∀ (u_2 k_3 : Nat) (g_6 : Nat → va_E) (H : Heap) (locs : List Loc) (ls : Array Slot), k_3 + u_2 = 16 → Kp t B g g_6 → St D B s.heap N g_6 H locs → lv_has ls 3 [(0, .ref (B + 23)), (1, .int (nI q)), (2, .int (nI k_3))] → W p l e (rmOf 0 0 0 0) s m [.ref (B + 23), .int (nI q)].toArray below meth c H locs 0 0 (MQ below (qI D B N (fun r g' => Kp t B g g' ∧ (r = -1 ∨ ∃ k, k < 16 ∧ r = nI k))) [.ref (B + 23), .int (nI q)].toArray s 0 0 (fun q => B ≤ q)) (F0 m 2 ls []) := by
    intro u_2
    induction u_2 with
    | zero =>
      intro k_3 g_6 H locs ls hk_4 hKp hS hl
      obtain rfl : 16 = k_3 := by omega
      refine lv_iload_n C.x C.b dX2_firstParted_2 rfl (lv_at hl 2 rfl) ?_
      refine lv_bipush (v := 16) C.x C.b dX2_firstParted_3 (by decide) ?_
      refine lv_icmp_ge (tgt := 27) C.x C.b dX2_firstParted_5 (by decide) (fun c_7 => ?_) (fun c_7 => absurd (by decide) c_7)
      refine lv_iconst (v := (-1)) C.x C.b dX2_firstParted_27 (by decide) ?_
      exact r_iret C hr hlocks hS ⟨hKp, Or.inl rfl⟩ dX2_firstParted_28
    | succ u_2 ih_5 =>
      intro k_3 g_6 H locs ls hk_4 hKp hS hl
      refine lv_iload_n C.x C.b dX2_firstParted_2 rfl (lv_at hl 2 rfl) ?_
      refine lv_bipush (v := 16) C.x C.b dX2_firstParted_3 (by decide) ?_
      refine lv_icmp_ge (tgt := 27) C.x C.b dX2_firstParted_5 (by decide) (fun c_8 => absurd c_8 (nI_ge (a := k_3) (b := 16) (by omega) (by decide))) (fun c_8 => ?_)
      refine lv_aload_n C.x C.b dX2_firstParted_8 rfl (lv_at hl 0 rfl) ?_
      have e_9 := hKp.2.2.2.2.2.1.1
      refine r_get ck2 flX2_11 C hS (by omega) e_9 (by decide) rfl dX2_firstParted_9 ?_
      refine lv_iload_n C.x C.b dX2_firstParted_12 rfl (lv_at hl 1 rfl) ?_
      have e_10 := hKp.2.2.2.2.2.1.2.1
      refine r_aald q rfl (by omega) (by decide) (cnQ_at (by omega)) C hS (by omega) 4 rfl rfl e_10 dX2_firstParted_13 ?_
      refine lv_iload_n C.x C.b dX2_firstParted_14 rfl (lv_at hl 2 rfl) ?_
      obtain ⟨q_11, e_12⟩ := hKp.2.2.2.2.2.2.2.1 q (by omega)
      refine r_ialdN k_3 rfl (by omega) (by decide) C hS (by omega) e_12 dX2_firstParted_15 ?_
      refine lv_if_eq (tgt := 21) C.x C.b dX2_firstParted_16 (by decide) (fun c_13 => ?_) (fun c_13 => ?_)
      · skip
        refine lv_iinc (v := nI (k_3 + 1)) (lv' := [(2, .int (nI (k_3 + 1))), (0, .ref (B + 23)), (1, .int (nI q))]) C.x C.b dX2_firstParted_21 hl (k := 2) rfl (nI_1 k_3) (by decide) rfl (fun ls hl => ?_)
        refine lv_goto (tgt := 2) C.x C.b dX2_firstParted_24 (by decide) ?_
        exact ih_5 (k_3 + 1) g_6 _ _ _ (by omega)  hKp hS (lv_sub hl [1, 2, 0] rfl)
      · skip
        refine lv_iload_n C.x C.b dX2_firstParted_19 rfl (lv_at hl 2 rfl) ?_
        exact r_iret C hr hlocks hS ⟨hKp, Or.inr ⟨k_3, by omega, rfl⟩⟩ dX2_firstParted_20
  exact lp_1 (16 - 1) 1 g _ _ _ (by omega)  hKp hS (lv_sub hl [1, 2, 0] rfl)
set_option maxHeartbeats 1000000 in
set_option maxRecDepth 100000 in
theorem k_X2_classAmong (l : Launch) (D : va_G) (t : Gx) (B N : Nat) (g : Nat → va_E) (o pr w : Nat → Int32) (n : Nat) (ey wi ev : Int32) (f : Nat) (hN : 220 ≤ N) (hP : isProg t B g 1 o pr w n) (hn : n ≤ 8) (hW : isWat g 5 ey wi ev) (hScr : Scr t B g) (hf : f < 16) : Ci l D t B N yX2_classAmong cX2_classAmong 4 (some .int) 2 36 g [.ref (B + 23), .ref (B + (49 + 4 * f)), .int (nI f)] (fun r g' => Kp t B g g' ∧ ∃ k, k ≤ f ∧ r = nI k) := by
  refine Ci.start (by decide) (Nat.le_of_ble_eq_true rfl) ?_
  intro p e s m below meth c ls C hr hlocks hS hl
  replace C : Cx D t p s m [.ref (B + 23), .ref (B + (49 + 4 * f)), .int (nI f)].toArray c cX2_classAmong 4 RX2 := C
  replace hl : lv_has ls 4 [(0, .ref (B + 23)), (1, .ref (B + (49 + 4 * f))), (2, .int (nI f))] := hl
  obtain ⟨p0, p1, p2, p3⟩ := id hP
  have hKp : Kp t B g g := Kp.rf hScr
  refine lv_iconst (v := 0) C.x C.b dX2_classAmong_0 (by decide) ?_
  refine lv_istore_n (lv' := [(3, .int 0), (0, .ref (B + 23)), (1, .ref (B + (49 + 4 * f))), (2, .int (nI f))]) C.x C.b dX2_classAmong_1 rfl hl (by decide) rfl (fun ls hl => ?_)
  have lp_1 : ∀ (u_2 k_3 : Nat) (g_6 : Nat → va_E) (H : Heap) (locs : List Loc) (ls : Array Slot), k_3 + u_2 = f → Kp t B g g_6 → St D B s.heap N g_6 H locs → lv_has ls 4 [(0, .ref (B + 23)), (1, .ref (B + (49 + 4 * f))), (2, .int (nI f)), (3, .int (nI k_3))] → W p l e (rmOf 2 36 0 0) s m [.ref (B + 23), .ref (B + (49 + 4 * f)), .int (nI f)].toArray below meth c H locs 0 0 (MQ below (qI D B N (fun r g' => Kp t B g g' ∧ ∃ k, k ≤ f ∧ r = nI k)) [.ref (B + 23), .ref (B + (49 + 4 * f)), .int (nI f)].toArray s 0 0 (fun q => B ≤ q)) (F0 m 2 ls []) := by
    intro u_2
    induction u_2 with
    | zero =>
      intro k_3 g_6 H locs ls hk_4 hKp hS hl
      obtain rfl : f = k_3 := by omega
      refine lv_iload_n C.x C.b dX2_classAmong_2 rfl (lv_at hl 3 rfl) ?_
      refine lv_iload_n C.x C.b dX2_classAmong_3 rfl (lv_at hl 2 rfl) ?_
      refine lv_icmp_ge (tgt := 29) C.x C.b dX2_classAmong_4 (by decide) (fun c_7 => ?_) (fun c_7 => absurd (nI_le (Nat.le_refl _) (by omega)) c_7)
      refine lv_iload_n C.x C.b dX2_classAmong_29 rfl (lv_at hl 2 rfl) ?_
      exact r_iret C hr hlocks hS ⟨hKp, ⟨f, by omega, rfl⟩⟩ dX2_classAmong_30
    | succ u_2 ih_5 =>
      intro k_3 g_6 H locs ls hk_4 hKp hS hl
      refine lv_iload_n C.x C.b dX2_classAmong_2 rfl (lv_at hl 3 rfl) ?_
      refine lv_iload_n C.x C.b dX2_classAmong_3 rfl (lv_at hl 2 rfl) ?_
      refine lv_icmp_ge (tgt := 29) C.x C.b dX2_classAmong_4 (by decide) (fun c_8 => absurd c_8 (nI_ge (a := k_3) (b := f) (by omega) (by omega))) (fun c_8 => ?_)
      refine lv_aload_n C.x C.b dX2_classAmong_7 rfl (lv_at hl 1 rfl) ?_
      refine lv_aload_n C.x C.b dX2_classAmong_8 rfl (lv_at hl 0 rfl) ?_
      have e_9 := hKp.2.2.2.2.2.1.1
      refine r_get ck2 flX2_29 C hS (by omega) e_9 (by decide) rfl dX2_classAmong_9 ?_
      refine lv_iload_n C.x C.b dX2_classAmong_12 rfl (lv_at hl 3 rfl) ?_
      have e_10 := hKp.2.2.2.2.2.1.2.2.1
      refine r_aald k_3 rfl (by omega) (by decide) (lrQ_at (by omega)) C hS (by omega) 2 rfl rfl e_10 dX2_classAmong_13 ?_
      obtain ⟨q_11, q_12, q_13, q_14, ⟨e_15, e_16, e_17, e_18⟩, hl_19⟩ := hKp.2.2.2.2.1 (49 + 4 * f) (Or.inr (Or.inr (Or.inr (Or.inr ⟨f, by omega, rfl⟩))))
      obtain ⟨q_20, q_21, q_22, q_23, ⟨e_24, e_25, e_26, e_27⟩, hl_28⟩ := hKp.2.2.2.2.1 (49 + 4 * k_3) (Or.inr (Or.inr (Or.inr (Or.inr ⟨k_3, by omega, rfl⟩))))
      refine r_callV (b := (49 + 4 * f)) (As := [.ref (B + (49 + 4 * k_3))]) (rest := []) (c_X4_firstOtherwise l D t B N g_6 (49 + 4 * f) _ _ _ _ (49 + 4 * k_3) _ _ _ _ (by omega) ⟨e_15, e_16, e_17, e_18⟩ (by omega) ⟨e_24, e_25, e_26, e_27⟩ (by omega) (by omega)) mf_yX4_firstOtherwise mlX2_57 im_yX4_firstOtherwise se_yX4_firstOtherwise (by decide) C hS (by omega) e_15 (show vwCl[4]? = some _ from rfl) rfl rfl hl.1 rfl (Nat.le_of_ble_eq_true rfl) dX2_classAmong_14 ⟨Nat.zero_le _, Nat.zero_le _⟩ (fun r_31 g_29 H locs w_30 hS => ?_)
      obtain ⟨rfl, er_31⟩ := w_30
      refine lv_iconst (v := (-1)) C.x C.b dX2_classAmong_17 (by decide) ?_
      refine lv_icmp_ne (tgt := 23) C.x C.b dX2_classAmong_18 (by decide) (fun c_32 => ?_) (fun c_32 => ?_)
      · skip
        refine lv_iinc (v := nI (k_3 + 1)) (lv' := [(3, .int (nI (k_3 + 1))), (0, .ref (B + 23)), (1, .ref (B + (49 + 4 * f))), (2, .int (nI f))]) C.x C.b dX2_classAmong_23 hl (k := 3) rfl (nI_1 k_3) (by decide) rfl (fun ls hl => ?_)
        refine lv_goto (tgt := 2) C.x C.b dX2_classAmong_26 (by decide) ?_
        exact ih_5 (k_3 + 1) g_6 _ _ _ (by omega)  hKp hS (lv_sub hl [1, 2, 3, 0] rfl)
      · skip
        refine lv_iload_n C.x C.b dX2_classAmong_21 rfl (lv_at hl 3 rfl) ?_
        exact r_iret C hr hlocks hS ⟨hKp, ⟨k_3, by omega, rfl⟩⟩ dX2_classAmong_22
  exact lp_1 f 0 g _ _ _ (by omega)  hKp hS (lv_sub hl [1, 2, 3, 0] rfl)
set_option maxHeartbeats 1000000 in
set_option maxRecDepth 100000 in
theorem k_X2_learn (l : Launch) (D : va_G) (t : Gx) (B N : Nat) (g : Nat → va_E) (o pr w : Nat → Int32) (n : Nat) (ey wi ev : Int32) (q : Nat) (hN : 220 ≤ N) (hP : isProg t B g 1 o pr w n) (hn : n ≤ 8) (hW : isWat g 5 ey wi ev) (hScr : Scr t B g) (hq : q < 16) : Cv l D t B N N 0 0 yX2_learn cX2_learn 9 4 104 g [.ref (B + 23), .ref (B + 6), .ref (B + 1), .ref (B + 5), .int (nI q)] (fun g' => Kp t B g g') := by
  refine Cv.start (by decide) (Nat.le_of_ble_eq_true rfl) ?_
  intro p e s m below meth c ls C hr hlocks hnm hS hl
  replace C : Cx D t p s m [.ref (B + 23), .ref (B + 6), .ref (B + 1), .ref (B + 5), .int (nI q)].toArray c cX2_learn 9 RX2 := C
  replace hl : lv_has ls 9 [(0, .ref (B + 23)), (1, .ref (B + 6)), (2, .ref (B + 1)), (3, .ref (B + 5)), (4, .int (nI q))] := hl
  obtain ⟨p0, p1, p2, p3⟩ := id hP
  have hKp : Kp t B g g := Kp.rf hScr
  refine lv_aload_n C.x C.b dX2_learn_0 rfl (lv_at hl 0 rfl) ?_
  have e_1 := hKp.2.2.2.2.2.1.1
  refine r_get ck2 flX2_16 C hS (by omega) e_1 (by decide) rfl dX2_learn_1 ?_
  refine lv_iload C.x C.b dX2_learn_4 (lv_at hl 4 rfl) ?_
  obtain ⟨q_2, e_3⟩ := hKp.2.2.2.2.2.2.1
  refine r_ialdN q rfl (by omega) (by decide) C hS (by omega) e_3 dX2_learn_6 ?_
  refine lv_if_le (tgt := 11) C.x C.b dX2_learn_7 (by decide) (fun c_4 => ?_) (fun c_4 => ?_)
  · skip
    refine lv_iconst (v := 0) C.x C.b dX2_learn_11 (by decide) ?_
    refine lv_istore (lv' := [(5, .int 0), (0, .ref (B + 23)), (1, .ref (B + 6)), (2, .ref (B + 1)), (3, .ref (B + 5)), (4, .int (nI q))]) C.x C.b dX2_learn_12 hl (by decide) rfl (fun ls hl => ?_)
    refine lv_iconst (v := 0) C.x C.b dX2_learn_14 (by decide) ?_
    refine lv_istore (lv' := [(6, .int 0), (5, .int 0), (0, .ref (B + 23)), (1, .ref (B + 6)), (2, .ref (B + 1)), (3, .ref (B + 5)), (4, .int (nI q))]) C.x C.b dX2_learn_15 hl (by decide) rfl (fun ls hl => ?_)
    have lp_5 : ∀ (u_6 k_7 : Nat) (f_11 : Nat) (g_10 : Nat → va_E) (H : Heap) (locs : List Loc) (ls : Array Slot), k_7 + u_6 = 16 → (f_11 ≤ k_7) → Kp t B g g_10 → St D B s.heap N g_10 H locs → lv_has ls 9 [(0, .ref (B + 23)), (1, .ref (B + 6)), (2, .ref (B + 1)), (3, .ref (B + 5)), (4, .int (nI q)), (5, .int (nI f_11)), (6, .int (nI k_7))] → W p l e (rmOf 4 104 0 0) s m [.ref (B + 23), .ref (B + 6), .ref (B + 1), .ref (B + 5), .int (nI q)].toArray below meth c H locs 0 0 (MQ below (qV D B N (fun g' => Kp t B g g')) [.ref (B + 23), .ref (B + 6), .ref (B + 1), .ref (B + 5), .int (nI q)].toArray s 0 0 (fun q => B ≤ q)) (F0 m 17 ls []) := by
      intro u_6
      induction u_6 with
      | zero =>
        intro k_7 f_11 g_10 H locs ls hk_8 hf_12 hKp hS hl
        obtain rfl : 16 = k_7 := by omega
        refine lv_iload C.x C.b dX2_learn_17 (lv_at hl 6 rfl) ?_
        refine lv_bipush (v := 16) C.x C.b dX2_learn_19 (by decide) ?_
        refine lv_icmp_ge (tgt := 102) C.x C.b dX2_learn_21 (by decide) (fun c_13 => ?_) (fun c_13 => absurd (by decide) c_13)
        refine lv_aload_n C.x C.b dX2_learn_102 rfl (lv_at hl 0 rfl) ?_
        have e_14 := hKp.2.2.2.2.2.1.1
        refine r_get ck2 flX2_16 C hS (by omega) e_14 (by decide) rfl dX2_learn_103 ?_
        refine lv_iload C.x C.b dX2_learn_106 (lv_at hl 4 rfl) ?_
        refine lv_iload C.x C.b dX2_learn_108 (lv_at hl 5 rfl) ?_
        obtain ⟨q_15, e_16⟩ := hKp.2.2.2.2.2.2.1
        refine r_iastN q rfl (by omega) (by decide) C hS (by omega) e_16 dX2_learn_110 (fun g_17 H locs e_18 o_19 hS => ?_)
        replace e_18 : g_17 41 = .inl (t.1, 16, .inl (upd q_15 q (nI f_11))) := e_18
        replace hKp : Kp t B g g_17 := hKp.cnt e_18 o_19
        exact r_vret C hr hlocks hS hKp dX2_learn_111
      | succ u_6 ih_9 =>
        intro k_7 f_11 g_10 H locs ls hk_8 hf_12 hKp hS hl
        refine lv_iload C.x C.b dX2_learn_17 (lv_at hl 6 rfl) ?_
        refine lv_bipush (v := 16) C.x C.b dX2_learn_19 (by decide) ?_
        refine lv_icmp_ge (tgt := 102) C.x C.b dX2_learn_21 (by decide) (fun c_20 => absurd c_20 (nI_ge (a := k_7) (b := 16) (by omega) (by decide))) (fun c_20 => ?_)
        refine lv_aload_n C.x C.b dX2_learn_24 rfl (lv_at hl 0 rfl) ?_
        have e_21 := hKp.2.2.2.2.2.1.1
        refine r_get ck2 flX2_29 C hS (by omega) e_21 (by decide) rfl dX2_learn_25 ?_
        refine lv_iload C.x C.b dX2_learn_28 (lv_at hl 5 rfl) ?_
        have e_22 := hKp.2.2.2.2.2.1.2.2.1
        refine r_aald f_11 rfl (by omega) (by decide) (lrQ_at (by omega)) C hS (by omega) 2 rfl rfl e_22 dX2_learn_30 ?_
        refine lv_astore (lv' := [(7, .ref (B + (49 + 4 * f_11))), (0, .ref (B + 23)), (1, .ref (B + 6)), (2, .ref (B + 1)), (3, .ref (B + 5)), (4, .int (nI q)), (5, .int (nI f_11)), (6, .int (nI k_7))]) C.x C.b dX2_learn_31 hl (by decide) rfl (fun ls hl => ?_)
        refine lv_aload_n C.x C.b dX2_learn_33 rfl (lv_at hl 2 rfl) ?_
        refine lv_aload_n C.x C.b dX2_learn_34 rfl (lv_at hl 3 rfl) ?_
        refine lv_aload_n C.x C.b dX2_learn_35 rfl (lv_at hl 4 rfl) ?_
        refine lv_iload C.x C.b dX2_learn_36 (lv_at hl 5 rfl) ?_
        refine lv_iload C.x C.b dX2_learn_38 (lv_at hl 7 rfl) ?_
        refine lv_aload_n C.x C.b dX2_learn_40 rfl (lv_at hl 1 rfl) ?_
        refine r_get ck2 flX2_23 C hS (by omega) e_21 (by decide) rfl dX2_learn_41 ?_
        have e_23 : g_10 1 = .inr (3, [.ref (B + (1 + 1)), .ref (B + (1 + 2)), .ref (B + (1 + 3)), .int (nI n)]) := (hKp.1 _ (by omega)).trans p0
        have e_24 : g_10 (1 + 1) = .inl (t.1, 8, .inl o) := (hKp.1 _ (by omega)).trans p1
        have e_25 : g_10 (1 + 2) = .inl (t.1, 8, .inl pr) := (hKp.1 _ (by omega)).trans p2
        have e_26 : g_10 (1 + 3) = .inl (t.1, 8, .inl w) := (hKp.1 _ (by omega)).trans p3
        have e_27 : g_10 5 = .inr (6, [.int ey, .int wi, .int ev]) := (hKp.1 _ (by omega)).trans hW
        obtain ⟨q_31, q_32, q_33, ⟨e_34, e_35, e_36⟩⟩ := hKp.2.2.1
        refine r_callVv (b := 6) (As := [.ref (B + 1), .ref (B + 5), .int (nI q), .int (nI k_7), .ref (B + 42)]) (rest := []) (k_go l D t B N g_10 _ _ _ _ _ _ _ 42 (nI q) (nI k_7) (by omega) ⟨e_23, e_24, e_25, e_26⟩ e_27 (by omega) (Or.inr (Or.inl rfl)) hKp.2) mf_yX1_go mlX2_34 im_yX1_go se_yX1_go (by decide) C hS (by omega) e_34 (show vwCl[1]? = some _ from rfl) rfl rfl hl.1 rfl (Nat.le_of_ble_eq_true rfl) dX2_learn_44 ⟨Nat.zero_le _, Nat.zero_le _⟩ (fun g_28 H locs w_29 hS => ?_)
        replace hKp : Kp t B g g_28 := hKp.tr w_29
        refine lv_aload C.x C.b dX2_learn_47 (lv_at hl 0 rfl) ?_
        refine lv_aload_n C.x C.b dX2_learn_49 rfl (lv_at hl 1 rfl) ?_
        have e_37 := hKp.2.2.2.2.2.1.1
        refine r_get ck2 flX2_23 C hS (by omega) e_37 (by decide) rfl dX2_learn_50 ?_
        refine lv_aload_n C.x C.b dX2_learn_53 rfl (lv_at hl 4 rfl) ?_
        have e_38 : g_28 5 = .inr (6, [.int ey, .int wi, .int ev]) := (hKp.1 _ (by omega)).trans hW
        refine r_get ck6 flX2_40 C hS (by omega) e_38 (by decide) rfl dX2_learn_54 ?_
        refine lv_aload_n C.x C.b dX2_learn_57 rfl (lv_at hl 4 rfl) ?_
        refine r_get ck6 flX2_46 C hS (by omega) e_38 (by decide) rfl dX2_learn_58 ?_
        obtain ⟨q_42, q_43, q_44, q_45, ⟨e_46, e_47, e_48, e_49⟩, hl_50⟩ := hKp.2.2.2.2.1 (49 + 4 * f_11) (Or.inr (Or.inr (Or.inr (Or.inr ⟨f_11, by omega, rfl⟩))))
        refine r_callVv (b := (49 + 4 * f_11)) (As := [.ref (B + 42), .int ey, .int ev]) (rest := []) (k_fill l D t B N g_28 (49 + 4 * f_11) 42 ey ev (by omega) (Or.inr (Or.inr (Or.inr (Or.inr ⟨f_11, by omega, rfl⟩)))) (Or.inr (Or.inl rfl)) hKp.2) mf_yX4_fill mlX2_49 im_yX4_fill se_yX4_fill (by decide) C hS (by omega) e_46 (show vwCl[4]? = some _ from rfl) rfl rfl hl.1 rfl (Nat.le_of_ble_eq_true rfl) dX2_learn_61 ⟨Nat.zero_le _, Nat.zero_le _⟩ (fun g_39 H locs w_40 hS => ?_)
        replace hKp : Kp t B g g_39 := hKp.tr w_40
        refine lv_aload_n C.x C.b dX2_learn_64 rfl (lv_at hl 1 rfl) ?_
        refine lv_aload C.x C.b dX2_learn_65 (lv_at hl 0 rfl) ?_
        refine lv_iload C.x C.b dX2_learn_67 (lv_at hl 6 rfl) ?_
        have e_51 : g_39 1 = .inr (3, [.ref (B + (1 + 1)), .ref (B + (1 + 2)), .ref (B + (1 + 3)), .int (nI n)]) := (hKp.1 _ (by omega)).trans p0
        have e_52 : g_39 (1 + 1) = .inl (t.1, 8, .inl o) := (hKp.1 _ (by omega)).trans p1
        have e_53 : g_39 (1 + 2) = .inl (t.1, 8, .inl pr) := (hKp.1 _ (by omega)).trans p2
        have e_54 : g_39 (1 + 3) = .inl (t.1, 8, .inl w) := (hKp.1 _ (by omega)).trans p3
        have e_55 : g_39 5 = .inr (6, [.int ey, .int wi, .int ev]) := (hKp.1 _ (by omega)).trans hW
        have e_59 := hKp.2.2.2.2.2.1.1
        refine r_callV (b := 23) (As := [.ref (B + (49 + 4 * f_11)), .int (nI f_11)]) (rest := []) (k_X2_classAmong l D t B N g_39 _ _ _ _ _ _ _ f_11 (by omega) ⟨e_51, e_52, e_53, e_54⟩ (by omega) e_55 hKp.2 (by omega)) mf_yX2_classAmong mlX2_53 im_yX2_classAmong se_yX2_classAmong (by decide) C hS (by omega) e_59 (show vwCl[2]? = some _ from rfl) rfl rfl hl.1 rfl (Nat.le_of_ble_eq_true rfl) dX2_learn_69 ⟨Nat.zero_le _, Nat.zero_le _⟩ (fun r_58 g_56 H locs w_57 hS => ?_)
        obtain ⟨w_57, er_58⟩ := w_57
        replace hKp : Kp t B g g_56 := hKp.tr w_57
        obtain ⟨k_60, hk_61, rfl⟩ := er_58
        refine lv_istore (lv' := [(8, .int (nI k_60)), (7, .ref (B + (49 + 4 * f_11))), (0, .ref (B + 23)), (1, .ref (B + 6)), (2, .ref (B + 1)), (3, .ref (B + 5)), (4, .int (nI q)), (5, .int (nI f_11)), (6, .int (nI k_7))]) C.x C.b dX2_learn_72 hl (by decide) rfl (fun ls hl => ?_)
        refine lv_aload_n C.x C.b dX2_learn_74 rfl (lv_at hl 2 rfl) ?_
        have e_62 := hKp.2.2.2.2.2.1.1
        refine r_get ck2 flX2_11 C hS (by omega) e_62 (by decide) rfl dX2_learn_75 ?_
        refine lv_iload C.x C.b dX2_learn_78 (lv_at hl 6 rfl) ?_
        have e_63 := hKp.2.2.2.2.2.1.2.1
        refine r_aald q rfl (by omega) (by decide) (cnQ_at (by omega)) C hS (by omega) 4 rfl rfl e_63 dX2_learn_80 ?_
        refine lv_iload C.x C.b dX2_learn_81 (lv_at hl 8 rfl) ?_
        refine lv_iload C.x C.b dX2_learn_83 (lv_at hl 0 rfl) ?_
        obtain ⟨q_64, e_65⟩ := hKp.2.2.2.2.2.2.2.1 q (by omega)
        refine r_iastN k_7 rfl (by omega) (by decide) C hS (by omega) e_65 dX2_learn_85 (fun g_66 H locs e_67 o_68 hS => ?_)
        replace e_67 : g_66 (25 + q) = .inl (t.1, 16, .inl (upd q_64 k_7 (nI k_60))) := e_67
        replace hKp : Kp t B g g_66 := hKp.cn (by omega) e_67 o_68
        refine lv_iload C.x C.b dX2_learn_86 (lv_at hl 0 rfl) ?_
        refine lv_iload C.x C.b dX2_learn_88 (lv_at hl 7 rfl) ?_
        refine lv_icmp_ne (tgt := 96) C.x C.b dX2_learn_90 (by decide) (fun c_69 => ?_) (fun c_69 => ?_)
        · skip
          refine lv_iinc (v := nI (k_7 + 1)) (lv' := [(6, .int (nI (k_7 + 1))), (8, .int (nI k_60)), (7, .ref (B + (49 + 4 * f_11))), (0, .ref (B + 23)), (1, .ref (B + 6)), (2, .ref (B + 1)), (3, .ref (B + 5)), (4, .int (nI q)), (5, .int (nI f_11))]) C.x C.b dX2_learn_96 hl (k := 8) rfl (nI_1 k_7) (by decide) rfl (fun ls hl => ?_)
          refine lv_goto (tgt := 17) C.x C.b dX2_learn_99 (by decide) ?_
          exact ih_9 (k_7 + 1) f_11 g_66 _ _ _ (by omega) (by omega) hKp hS (lv_sub hl [3, 4, 5, 6, 7, 8, 0] rfl)
        · skip
          refine lv_iinc (v := nI (f_11 + 1)) (lv' := [(5, .int (nI (f_11 + 1))), (8, .int (nI k_60)), (7, .ref (B + (49 + 4 * f_11))), (0, .ref (B + 23)), (1, .ref (B + 6)), (2, .ref (B + 1)), (3, .ref (B + 5)), (4, .int (nI q)), (6, .int (nI k_7))]) C.x C.b dX2_learn_93 hl (k := 7) rfl (nI_1 f_11) (by decide) rfl (fun ls hl => ?_)
          refine lv_iinc (v := nI (k_7 + 1)) (lv' := [(6, .int (nI (k_7 + 1))), (5, .int (nI (f_11 + 1))), (8, .int (nI k_60)), (7, .ref (B + (49 + 4 * f_11))), (0, .ref (B + 23)), (1, .ref (B + 6)), (2, .ref (B + 1)), (3, .ref (B + 5)), (4, .int (nI q))]) C.x C.b dX2_learn_96 hl (k := 8) rfl (nI_1 k_7) (by decide) rfl (fun ls hl => ?_)
          refine lv_goto (tgt := 17) C.x C.b dX2_learn_99 (by decide) ?_
          exact ih_9 (k_7 + 1) (f_11 + 1) g_66 _ _ _ (by omega) (by omega) hKp hS (lv_sub hl [4, 5, 6, 7, 8, 1, 0] rfl)
    exact lp_5 16 0 0 g _ _ _ (by omega) (by omega) hKp hS (lv_sub hl [2, 3, 4, 5, 6, 1, 0] rfl)
  · skip
    exact r_vret C hr hlocks hS hKp dX2_learn_10
