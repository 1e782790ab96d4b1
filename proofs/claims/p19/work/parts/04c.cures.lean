theorem fa_and (a b : Nat) : nI a &&& nI b = nI (a &&& b) := by
  apply Int32.toBitVec_inj.1
  show BitVec.ofNat 32 a &&& BitVec.ofNat 32 b = BitVec.ofNat 32 (a &&& b)
  apply BitVec.eq_of_getLsbD_eq
  intro i hi
  simp [hi]
theorem wb_of32 (x : Int32) : ∃ n, n < 2 ^ 32 ∧ x = nI n := ⟨x.toBitVec.toNat, x.toBitVec.isLt, Int32.toBitVec_inj.mp (by show _ = BitVec.ofNat 32 _; simp)⟩
def an (k : Nat) (x : Int32) : Nat := k &&& x.toBitVec.toNat
theorem an_eq (k : Nat) (x : Int32) : nI k &&& x = nI (an k x) := by
  have e : x = nI x.toBitVec.toNat := Int32.toBitVec_inj.mp (by show _ = BitVec.ofNat 32 _; simp)
  unfold an
  rw [← fa_and, ← e]
theorem an_le (k : Nat) (x : Int32) : an k x ≤ k := Nat.and_le_left
theorem sh1_all : ∀ n, n < 9 → (1 : Int32) <<< (nI n &&& 31) = nI (2 ^ n) ∧ 2 ^ n ≤ 256 := by decide +kernel
theorem sh1 {n : Nat} (h : n ≤ 8) : ∃ M, M ≤ 256 ∧ (1 : Int32) <<< (nI n &&& 31) = nI M := ⟨2 ^ n, (sh1_all n (by omega)).2, (sh1_all n (by omega)).1⟩
theorem gt1 {k : Nat} (h : ¬ nI k ≤ 1) (hk : k < 2 ^ 31) : 1 < k := by
  rcases Nat.lt_or_ge 1 k with q | q
  · exact q
  · exact absurd (nI_le (a := k) (b := 1) q (by decide)) h
set_option maxHeartbeats 1000000 in
set_option maxRecDepth 100000 in
theorem k_X0_forget (l : Launch) (D : va_G) (t : Gx) (B N : Nat) (g : Nat → va_E) (o pr w : Nat → Int32) (n : Nat) (ey wi ev : Int32)  (hN : 220 ≤ N) (hP : isProg t B g 1 o pr w n) (hn : n ≤ 8) (hW : isWat g 5 ey wi ev) (hScr : Scr t B g)  : Cv l D t B N N 0 0 yX0_forget cX0_forget 1 0 0 g [.ref (B + 113)] (fun g' => Kp t B g g') := by
  refine Cv.start (by decide) (Nat.le_of_ble_eq_true rfl) ?_
  intro p e s m below meth c ls C hr hlocks hnm hS hl
  replace C : Cx D t p s m [.ref (B + 113)].toArray c cX0_forget 1 RX0 := C
  replace hl : lv_has ls 1 [(0, .ref (B + 113))] := hl
  obtain ⟨p0, p1, p2, p3⟩ := id hP
  have hKp : Kp t B g g := Kp.rf hScr
  refine lv_aload_n C.x C.b dX0_forget_0 rfl (lv_at hl 0 rfl) ?_
  refine lv_iconst (v := 0) C.x C.b dX0_forget_1 (by decide) ?_
  obtain ⟨v_1, e_2, hz_3⟩ := hKp.2.2.2.2.2.2.2.2.1
  refine r_put ck0 flX0_31 C hS (by omega) e_2 (by decide) rfl (nar_z (by decide)) (fit_z (by decide)) (Nat.le_of_ble_eq_true rfl) dX0_forget_2 (fun g_4 H locs e_5 o_6 hS => ?_)
  replace e_5 : g_4 113 = .inr (0, [.ref (B + 114), .ref (B + 115), .ref (B + 116), .ref (B + 120), .int 0]) := e_5
  replace hKp : Kp t B g g_4 := hKp.cur (by decide) e_5 o_6
  exact r_vret C hr hlocks hS hKp dX0_forget_5
set_option maxHeartbeats 1000000 in
set_option maxRecDepth 100000 in
theorem k_X0_isNew (l : Launch) (D : va_G) (t : Gx) (B N : Nat) (g : Nat → va_E) (o pr w : Nat → Int32) (n : Nat) (ey wi ev : Int32) (f : Nat) (x : Int32) (hN : 220 ≤ N) (hP : isProg t B g 1 o pr w n) (hn : n ≤ 8) (hW : isWat g 5 ey wi ev) (hScr : Scr t B g) (hf : f < 16) : Ci l D t B N yX0_isNew cX0_isNew 4 (some .boolean) 2 45 g [.ref (B + 113), .int (nI f), .int x] (fun r g' => Kp t B g g') := by
  refine Ci.start (by decide) (Nat.le_of_ble_eq_true rfl) ?_
  intro p e s m below meth c ls C hr hlocks hS hl
  replace C : Cx D t p s m [.ref (B + 113), .int (nI f), .int x].toArray c cX0_isNew 4 RX0 := C
  replace hl : lv_has ls 4 [(0, .ref (B + 113)), (1, .int (nI f)), (2, .int x)] := hl
  obtain ⟨p0, p1, p2, p3⟩ := id hP
  have hKp : Kp t B g g := Kp.rf hScr
  refine lv_iconst (v := 0) C.x C.b dX0_isNew_0 (by decide) ?_
  refine lv_istore_n (lv' := [(3, .int 0), (0, .ref (B + 113)), (1, .int (nI f)), (2, .int x)]) C.x C.b dX0_isNew_1 rfl hl (by decide) rfl (fun ls hl => ?_)
  have lp_1 : ∀ (u_2 k_3 : Nat) (g_6 : Nat → va_E) (H : Heap) (locs : List Loc) (ls : Array Slot), k_3 + u_2 = f → Kp t B g g_6 → St D B s.heap N g_6 H locs → lv_has ls 4 [(0, .ref (B + 113)), (1, .int (nI f)), (2, .int x), (3, .int (nI k_3))] → W p l e (rmOf 2 45 0 0) s m [.ref (B + 113), .int (nI f), .int x].toArray below meth c H locs 0 0 (MQ below (qI D B N (fun r g' => Kp t B g g')) [.ref (B + 113), .int (nI f), .int x].toArray s 0 0 (fun q => B ≤ q)) (F0 m 2 ls []) := by
    intro u_2
    induction u_2 with
    | zero =>
      intro k_3 g_6 H locs ls hk_4 hKp hS hl
      obtain rfl : f = k_3 := by omega
      refine lv_iload_n C.x C.b dX0_isNew_2 rfl (lv_at hl 3 rfl) ?_
      refine lv_iload_n C.x C.b dX0_isNew_3 rfl (lv_at hl 1 rfl) ?_
      refine lv_icmp_ge (tgt := 34) C.x C.b dX0_isNew_4 (by decide) (fun c_7 => ?_) (fun c_7 => absurd (nI_le (Nat.le_refl _) (by omega)) c_7)
      refine lv_iconst (v := 1) C.x C.b dX0_isNew_34 (by decide) ?_
      exact r_zret C hr hlocks hS (by decide) hKp dX0_isNew_35
    | succ u_2 ih_5 =>
      intro k_3 g_6 H locs ls hk_4 hKp hS hl
      refine lv_iload_n C.x C.b dX0_isNew_2 rfl (lv_at hl 3 rfl) ?_
      refine lv_iload_n C.x C.b dX0_isNew_3 rfl (lv_at hl 1 rfl) ?_
      refine lv_icmp_ge (tgt := 34) C.x C.b dX0_isNew_4 (by decide) (fun c_8 => absurd c_8 (nI_ge (a := k_3) (b := f) (by omega) (by omega))) (fun c_8 => ?_)
      refine lv_aload_n C.x C.b dX0_isNew_7 rfl (lv_at hl 0 rfl) ?_
      obtain ⟨v_9, e_10, hz_11⟩ := hKp.2.2.2.2.2.2.2.2.1
      refine r_get ck0 flX0_17 C hS (by omega) e_10 (by decide) rfl dX0_isNew_8 ?_
      refine lv_iload_n C.x C.b dX0_isNew_11 rfl (lv_at hl 1 rfl) ?_
      have e_12 := hKp.2.2.2.2.2.1.2.2.2
      refine r_aald f rfl (by omega) (by decide) (ruQ_at (by omega)) C hS (by omega) 3 rfl rfl e_12 dX0_isNew_12 ?_
      refine lv_aload_n C.x C.b dX0_isNew_13 rfl (lv_at hl 0 rfl) ?_
      refine r_get ck0 flX0_17 C hS (by omega) e_10 (by decide) rfl dX0_isNew_14 ?_
      refine lv_iload_n C.x C.b dX0_isNew_17 rfl (lv_at hl 3 rfl) ?_
      refine r_aald k_3 rfl (by omega) (by decide) (ruQ_at (by omega)) C hS (by omega) 3 rfl rfl e_12 dX0_isNew_18 ?_
      refine lv_iload_n C.x C.b dX0_isNew_19 rfl (lv_at hl 2 rfl) ?_
      obtain ⟨q_13, q_14, q_15, q_16, q_17, q_18, q_19, q_20, q_21, q_22, ⟨e_23, e_24, e_25, e_26, e_27, e_28⟩, hl_29, hs_30⟩ := hKp.2.2.2.1 (124 + 6 * f) (Or.inr (Or.inr ⟨f, by omega, rfl⟩))
      obtain ⟨q_31, q_32, q_33, q_34, q_35, q_36, q_37, q_38, q_39, q_40, ⟨e_41, e_42, e_43, e_44, e_45, e_46⟩, hl_47, hs_48⟩ := hKp.2.2.2.1 (124 + 6 * k_3) (Or.inr (Or.inr ⟨k_3, by omega, rfl⟩))
      refine r_callV (b := (124 + 6 * f)) (As := [.ref (B + (124 + 6 * k_3)), .int x]) (rest := []) (c_X5_alwaysSeenAs l D t B N g_6 (124 + 6 * f) _ _ _ _ _ _ _ _ _ _ (124 + 6 * k_3) _ _ _ _ _ _ _ _ _ _ x (by omega) ⟨e_23, e_24, e_25, e_26, e_27, e_28⟩ (by omega) ⟨e_41, e_42, e_43, e_44, e_45, e_46⟩ (by omega) (by omega)) mf_yX5_alwaysSeenAs mlX0_66 im_yX5_alwaysSeenAs se_yX5_alwaysSeenAs (by decide) C hS (by omega) e_23 (show vwCl[5]? = some _ from rfl) rfl rfl hl.1 rfl (Nat.le_of_ble_eq_true rfl) dX0_isNew_20 ⟨Nat.zero_le _, Nat.zero_le _⟩ (fun r_51 g_49 H locs w_50 hS => ?_)
      obtain ⟨rfl, er_51⟩ := w_50
      by_cases b_52 : alike x q_13 q_14 q_15 q_16 q_17 q_18 q_22 q_31 q_32 q_33 q_34 q_35 q_36 q_40
      · rw [bz_t b_52] at er_51
        subst er_51
        refine lv_if_eq (tgt := 28) C.x C.b dX0_isNew_23 (by decide) (fun c_53 => absurd c_53 (by decide)) (fun c_53 => ?_)
        refine lv_iconst (v := 0) C.x C.b dX0_isNew_26 (by decide) ?_
        exact r_zret C hr hlocks hS (by decide) hKp dX0_isNew_27
      · rw [bz_f b_52] at er_51
        subst er_51
        refine lv_if_eq (tgt := 28) C.x C.b dX0_isNew_23 (by decide) (fun c_54 => ?_) (fun c_54 => absurd (by decide) c_54)
        refine lv_iinc (v := nI (k_3 + 1)) (lv' := [(3, .int (nI (k_3 + 1))), (0, .ref (B + 113)), (1, .int (nI f)), (2, .int x)]) C.x C.b dX0_isNew_28 hl (k := 3) rfl (nI_1 k_3) (by decide) rfl (fun ls hl => ?_)
        refine lv_goto (tgt := 2) C.x C.b dX0_isNew_31 (by decide) ?_
        exact ih_5 (k_3 + 1) g_6 _ _ _ (by omega)  hKp hS (lv_sub hl [1, 2, 3, 0] rfl)
  exact lp_1 f 0 g _ _ _ (by omega)  hKp hS (lv_sub hl [1, 2, 3, 0] rfl)
set_option maxHeartbeats 1000000 in
set_option maxRecDepth 100000 in
theorem k_X0_gatherRuns (l : Launch) (D : va_G) (t : Gx) (B N : Nat) (g : Nat → va_E) (o pr w : Nat → Int32) (n : Nat) (ey wi ev : Int32) (x : Int32) (hN : 220 ≤ N) (hP : isProg t B g 1 o pr w n) (hn : n ≤ 8) (hW : isWat g 5 ey wi ev) (hScr : Scr t B g)  : Ci l D t B N yX0_gatherRuns cX0_gatherRuns 7 (some .int) 4 104 g [.ref (B + 113), .ref (B + 6), .ref (B + 1), .ref (B + 5), .int x] (fun r g' => Kp t B g g' ∧ ∃ k, k ≤ 16 ∧ r = nI k) := by
  refine Ci.start (by decide) (Nat.le_of_ble_eq_true rfl) ?_
  intro p e s m below meth c ls C hr hlocks hS hl
  replace C : Cx D t p s m [.ref (B + 113), .ref (B + 6), .ref (B + 1), .ref (B + 5), .int x].toArray c cX0_gatherRuns 7 RX0 := C
  replace hl : lv_has ls 7 [(0, .ref (B + 113)), (1, .ref (B + 6)), (2, .ref (B + 1)), (3, .ref (B + 5)), (4, .int x)] := hl
  obtain ⟨p0, p1, p2, p3⟩ := id hP
  have hKp : Kp t B g g := Kp.rf hScr
  refine lv_iconst (v := 0) C.x C.b dX0_gatherRuns_0 (by decide) ?_
  refine lv_istore (lv' := [(5, .int 0), (0, .ref (B + 113)), (1, .ref (B + 6)), (2, .ref (B + 1)), (3, .ref (B + 5)), (4, .int x)]) C.x C.b dX0_gatherRuns_1 hl (by decide) rfl (fun ls hl => ?_)
  refine lv_iconst (v := 0) C.x C.b dX0_gatherRuns_3 (by decide) ?_
  refine lv_istore (lv' := [(6, .int 0), (5, .int 0), (0, .ref (B + 113)), (1, .ref (B + 6)), (2, .ref (B + 1)), (3, .ref (B + 5)), (4, .int x)]) C.x C.b dX0_gatherRuns_4 hl (by decide) rfl (fun ls hl => ?_)
  have lp_1 : ∀ (u_2 k_3 : Nat) (f_7 : Nat) (g_6 : Nat → va_E) (H : Heap) (locs : List Loc) (ls : Array Slot), k_3 + u_2 = 16 → (f_7 ≤ k_3) → Kp t B g g_6 → St D B s.heap N g_6 H locs → lv_has ls 7 [(0, .ref (B + 113)), (1, .ref (B + 6)), (2, .ref (B + 1)), (3, .ref (B + 5)), (4, .int x), (5, .int (nI f_7)), (6, .int (nI k_3))] → W p l e (rmOf 4 104 0 0) s m [.ref (B + 113), .ref (B + 6), .ref (B + 1), .ref (B + 5), .int x].toArray below meth c H locs 0 0 (MQ below (qI D B N (fun r g' => Kp t B g g' ∧ ∃ k, k ≤ 16 ∧ r = nI k)) [.ref (B + 113), .ref (B + 6), .ref (B + 1), .ref (B + 5), .int x].toArray s 0 0 (fun q => B ≤ q)) (F0 m 6 ls []) := by
    intro u_2
    induction u_2 with
    | zero =>
      intro k_3 f_7 g_6 H locs ls hk_4 hf_8 hKp hS hl
      obtain rfl : 16 = k_3 := by omega
      refine lv_iload C.x C.b dX0_gatherRuns_6 (lv_at hl 6 rfl) ?_
      refine lv_bipush (v := 16) C.x C.b dX0_gatherRuns_8 (by decide) ?_
      refine lv_icmp_ge (tgt := 52) C.x C.b dX0_gatherRuns_10 (by decide) (fun c_9 => ?_) (fun c_9 => absurd (by decide) c_9)
      refine lv_iload C.x C.b dX0_gatherRuns_52 (lv_at hl 5 rfl) ?_
      exact r_iret C hr hlocks hS ⟨hKp, ⟨f_7, by omega, rfl⟩⟩ dX0_gatherRuns_54
    | succ u_2 ih_5 =>
      intro k_3 f_7 g_6 H locs ls hk_4 hf_8 hKp hS hl
      refine lv_iload C.x C.b dX0_gatherRuns_6 (lv_at hl 6 rfl) ?_
      refine lv_bipush (v := 16) C.x C.b dX0_gatherRuns_8 (by decide) ?_
      refine lv_icmp_ge (tgt := 52) C.x C.b dX0_gatherRuns_10 (by decide) (fun c_10 => absurd c_10 (nI_ge (a := k_3) (b := 16) (by omega) (by decide))) (fun c_10 => ?_)
      refine lv_aload_n C.x C.b dX0_gatherRuns_13 rfl (lv_at hl 1 rfl) ?_
      refine lv_aload_n C.x C.b dX0_gatherRuns_14 rfl (lv_at hl 2 rfl) ?_
      refine lv_aload_n C.x C.b dX0_gatherRuns_15 rfl (lv_at hl 3 rfl) ?_
      refine lv_iload C.x C.b dX0_gatherRuns_16 (lv_at hl 4 rfl) ?_
      refine lv_iload C.x C.b dX0_gatherRuns_18 (lv_at hl 6 rfl) ?_
      refine lv_aload_n C.x C.b dX0_gatherRuns_20 rfl (lv_at hl 0 rfl) ?_
      obtain ⟨v_11, e_12, hz_13⟩ := hKp.2.2.2.2.2.2.2.2.1
      refine r_get ck0 flX0_17 C hS (by omega) e_12 (by decide) rfl dX0_gatherRuns_21 ?_
      refine lv_iload C.x C.b dX0_gatherRuns_24 (lv_at hl 5 rfl) ?_
      have e_14 := hKp.2.2.2.2.2.1.2.2.2
      refine r_aald f_7 rfl (by omega) (by decide) (ruQ_at (by omega)) C hS (by omega) 3 rfl rfl e_14 dX0_gatherRuns_26 ?_
      have e_15 : g_6 1 = .inr (3, [.ref (B + (1 + 1)), .ref (B + (1 + 2)), .ref (B + (1 + 3)), .int (nI n)]) := (hKp.1 _ (by omega)).trans p0
      have e_16 : g_6 (1 + 1) = .inl (t.1, 8, .inl o) := (hKp.1 _ (by omega)).trans p1
      have e_17 : g_6 (1 + 2) = .inl (t.1, 8, .inl pr) := (hKp.1 _ (by omega)).trans p2
      have e_18 : g_6 (1 + 3) = .inl (t.1, 8, .inl w) := (hKp.1 _ (by omega)).trans p3
      have e_19 : g_6 5 = .inr (6, [.int ey, .int wi, .int ev]) := (hKp.1 _ (by omega)).trans hW
      obtain ⟨q_23, q_24, q_25, ⟨e_26, e_27, e_28⟩⟩ := hKp.2.2.1
      refine r_callVv (b := 6) (As := [.ref (B + 1), .ref (B + 5), .int x, .int (nI k_3), .ref (B + (124 + 6 * f_7))]) (rest := []) (k_go l D t B N g_6 _ _ _ _ _ _ _ (124 + 6 * f_7) x (nI k_3) (by omega) ⟨e_15, e_16, e_17, e_18⟩ e_19 (by omega) (Or.inr (Or.inr ⟨f_7, by omega, rfl⟩)) hKp.2) mf_yX1_go mlX0_56 im_yX1_go se_yX1_go (by decide) C hS (by omega) e_26 (show vwCl[1]? = some _ from rfl) rfl rfl hl.1 rfl (Nat.le_of_ble_eq_true rfl) dX0_gatherRuns_27 ⟨Nat.zero_le _, Nat.zero_le _⟩ (fun g_20 H locs w_21 hS => ?_)
      replace hKp : Kp t B g g_20 := hKp.tr w_21
      refine lv_aload_n C.x C.b dX0_gatherRuns_30 rfl (lv_at hl 0 rfl) ?_
      refine lv_iload C.x C.b dX0_gatherRuns_31 (lv_at hl 5 rfl) ?_
      refine lv_aload_n C.x C.b dX0_gatherRuns_33 rfl (lv_at hl 3 rfl) ?_
      have e_29 : g_20 5 = .inr (6, [.int ey, .int wi, .int ev]) := (hKp.1 _ (by omega)).trans hW
      refine r_get ck6 flX0_36 C hS (by omega) e_29 (by decide) rfl dX0_gatherRuns_34 ?_
      have e_30 : g_20 1 = .inr (3, [.ref (B + (1 + 1)), .ref (B + (1 + 2)), .ref (B + (1 + 3)), .int (nI n)]) := (hKp.1 _ (by omega)).trans p0
      have e_31 : g_20 (1 + 1) = .inl (t.1, 8, .inl o) := (hKp.1 _ (by omega)).trans p1
      have e_32 : g_20 (1 + 2) = .inl (t.1, 8, .inl pr) := (hKp.1 _ (by omega)).trans p2
      have e_33 : g_20 (1 + 3) = .inl (t.1, 8, .inl w) := (hKp.1 _ (by omega)).trans p3
      obtain ⟨v_37, e_38, hz_39⟩ := hKp.2.2.2.2.2.2.2.2.1
      refine r_callV (b := 113) (As := [.int (nI f_7), .int ey]) (rest := []) (k_X0_isNew l D t B N g_20 _ _ _ _ _ _ _ f_7 ey (by omega) ⟨e_30, e_31, e_32, e_33⟩ (by omega) e_29 hKp.2 (by omega)) mf_yX0_isNew mlX0_62 im_yX0_isNew se_yX0_isNew (by decide) C hS (by omega) e_38 (show vwCl[0]? = some _ from rfl) rfl rfl hl.1 rfl (Nat.le_of_ble_eq_true rfl) dX0_gatherRuns_37 ⟨Nat.zero_le _, Nat.zero_le _⟩ (fun r_36 g_34 H locs w_35 hS => ?_)
      replace hKp : Kp t B g g_34 := hKp.tr w_35
      refine lv_if_eq (tgt := 46) C.x C.b dX0_gatherRuns_40 (by decide) (fun c_40 => ?_) (fun c_40 => ?_)
      · skip
        refine lv_iinc (v := nI (k_3 + 1)) (lv' := [(6, .int (nI (k_3 + 1))), (0, .ref (B + 113)), (1, .ref (B + 6)), (2, .ref (B + 1)), (3, .ref (B + 5)), (4, .int x), (5, .int (nI f_7))]) C.x C.b dX0_gatherRuns_46 hl (k := 6) rfl (nI_1 k_3) (by decide) rfl (fun ls hl => ?_)
        refine lv_goto (tgt := 6) C.x C.b dX0_gatherRuns_49 (by decide) ?_
        exact ih_5 (k_3 + 1) f_7 g_34 _ _ _ (by omega) (by omega) hKp hS (lv_sub hl [1, 2, 3, 4, 5, 6, 0] rfl)
      · skip
        refine lv_iinc (v := nI (f_7 + 1)) (lv' := [(5, .int (nI (f_7 + 1))), (0, .ref (B + 113)), (1, .ref (B + 6)), (2, .ref (B + 1)), (3, .ref (B + 5)), (4, .int x), (6, .int (nI k_3))]) C.x C.b dX0_gatherRuns_43 hl (k := 5) rfl (nI_1 f_7) (by decide) rfl (fun ls hl => ?_)
        refine lv_iinc (v := nI (k_3 + 1)) (lv' := [(6, .int (nI (k_3 + 1))), (5, .int (nI (f_7 + 1))), (0, .ref (B + 113)), (1, .ref (B + 6)), (2, .ref (B + 1)), (3, .ref (B + 5)), (4, .int x)]) C.x C.b dX0_gatherRuns_46 hl (k := 6) rfl (nI_1 k_3) (by decide) rfl (fun ls hl => ?_)
        refine lv_goto (tgt := 6) C.x C.b dX0_gatherRuns_49 (by decide) ?_
        exact ih_5 (k_3 + 1) (f_7 + 1) g_34 _ _ _ (by omega) (by omega) hKp hS (lv_sub hl [2, 3, 4, 5, 6, 1, 0] rfl)
  exact lp_1 16 0 0 g _ _ _ (by omega) (by omega) hKp hS (lv_sub hl [2, 3, 4, 5, 6, 1, 0] rfl)
set_option maxHeartbeats 1000000 in
set_option maxRecDepth 100000 in
theorem k_X0_seenAlike (l : Launch) (D : va_G) (t : Gx) (B N : Nat) (g : Nat → va_E) (o pr w : Nat → Int32) (n : Nat) (ey wi ev : Int32) (f : Nat) (x y : Int32) (hN : 220 ≤ N) (hP : isProg t B g 1 o pr w n) (hn : n ≤ 8) (hW : isWat g 5 ey wi ev) (hScr : Scr t B g) (hf : f ≤ 16) (hf1 : 1 ≤ f) : Ci l D t B N yX0_seenAlike cX0_seenAlike 5 (some .boolean) 2 47 g [.ref (B + 113), .int (nI f), .int x, .int y] (fun r g' => Kp t B g g' ∧ (r = 0 ∨ r = 1)) := by
  refine Ci.start (by decide) (Nat.le_of_ble_eq_true rfl) ?_
  intro p e s m below meth c ls C hr hlocks hS hl
  replace C : Cx D t p s m [.ref (B + 113), .int (nI f), .int x, .int y].toArray c cX0_seenAlike 5 RX0 := C
  replace hl : lv_has ls 5 [(0, .ref (B + 113)), (1, .int (nI f)), (2, .int x), (3, .int y)] := hl
  obtain ⟨p0, p1, p2, p3⟩ := id hP
  have hKp : Kp t B g g := Kp.rf hScr
  refine lv_aload_n C.x C.b dX0_seenAlike_0 rfl (lv_at hl 0 rfl) ?_
  obtain ⟨v_1, e_2, hz_3⟩ := hKp.2.2.2.2.2.2.2.2.1
  refine r_get ck0 flX0_24 C hS (by omega) e_2 (by decide) rfl dX0_seenAlike_1 ?_
  refine lv_aload_n C.x C.b dX0_seenAlike_4 rfl (lv_at hl 0 rfl) ?_
  refine r_get ck0 flX0_17 C hS (by omega) e_2 (by decide) rfl dX0_seenAlike_5 ?_
  refine lv_iconst (v := 0) C.x C.b dX0_seenAlike_8 (by decide) ?_
  have e_4 := hKp.2.2.2.2.2.1.2.2.2
  refine r_aald 0 rfl (by omega) (by decide) (ruQ_at (by omega)) C hS (by omega) 3 rfl rfl e_4 dX0_seenAlike_9 ?_
  refine lv_iload_n C.x C.b dX0_seenAlike_10 rfl (lv_at hl 2 rfl) ?_
  refine lv_iload_n C.x C.b dX0_seenAlike_11 rfl (lv_at hl 3 rfl) ?_
  obtain ⟨q_8, q_9, q_10, q_11, ⟨e_12, e_13, e_14, e_15⟩, hl_16⟩ := hKp.2.2.2.2.1 116 (Or.inr (Or.inr (Or.inl rfl)))
  refine r_callVv (b := 116) (As := [.ref (B + (124 + 6 * 0)), .int x, .int y]) (rest := []) (k_fill l D t B N g 116 (124 + 6 * 0) x y (by omega) (Or.inr (Or.inr (Or.inl rfl))) (Or.inr (Or.inr ⟨0, by omega, rfl⟩)) hKp.2) mf_yX4_fill mlX0_74 im_yX4_fill se_yX4_fill (by decide) C hS (by omega) e_12 (show vwCl[4]? = some _ from rfl) rfl rfl hl.1 rfl (Nat.le_of_ble_eq_true rfl) dX0_seenAlike_12 ⟨Nat.zero_le _, Nat.zero_le _⟩ (fun g_5 H locs w_6 hS => ?_)
  replace hKp : Kp t B g g_5 := hKp.tr w_6
  refine lv_iconst (v := 1) C.x C.b dX0_seenAlike_15 (by decide) ?_
  refine lv_istore (lv' := [(4, .int 1), (0, .ref (B + 113)), (1, .int (nI f)), (2, .int x), (3, .int y)]) C.x C.b dX0_seenAlike_16 hl (by decide) rfl (fun ls hl => ?_)
  have lp_17 : ∀ (u_18 k_19 : Nat) (g_22 : Nat → va_E) (H : Heap) (locs : List Loc) (ls : Array Slot), k_19 + u_18 = f → Kp t B g g_22 → St D B s.heap N g_22 H locs → lv_has ls 5 [(0, .ref (B + 113)), (1, .int (nI f)), (2, .int x), (3, .int y), (4, .int (nI k_19))] → W p l e (rmOf 2 47 0 0) s m [.ref (B + 113), .int (nI f), .int x, .int y].toArray below meth c H locs 0 0 (MQ below (qI D B N (fun r g' => Kp t B g g' ∧ (r = 0 ∨ r = 1))) [.ref (B + 113), .int (nI f), .int x, .int y].toArray s 0 0 (fun q => B ≤ q)) (F0 m 18 ls []) := by
    intro u_18
    induction u_18 with
    | zero =>
      intro k_19 g_22 H locs ls hk_20 hKp hS hl
      obtain rfl : f = k_19 := by omega
      refine lv_iload C.x C.b dX0_seenAlike_18 (lv_at hl 4 rfl) ?_
      refine lv_iload_n C.x C.b dX0_seenAlike_20 rfl (lv_at hl 1 rfl) ?_
      refine lv_icmp_ge (tgt := 63) C.x C.b dX0_seenAlike_21 (by decide) (fun c_23 => ?_) (fun c_23 => absurd (nI_le (Nat.le_refl _) (by omega)) c_23)
      refine lv_iconst (v := 1) C.x C.b dX0_seenAlike_63 (by decide) ?_
      exact r_zret C hr hlocks hS (by decide) ⟨hKp, by decide⟩ dX0_seenAlike_64
    | succ u_18 ih_21 =>
      intro k_19 g_22 H locs ls hk_20 hKp hS hl
      refine lv_iload C.x C.b dX0_seenAlike_18 (lv_at hl 4 rfl) ?_
      refine lv_iload_n C.x C.b dX0_seenAlike_20 rfl (lv_at hl 1 rfl) ?_
      refine lv_icmp_ge (tgt := 63) C.x C.b dX0_seenAlike_21 (by decide) (fun c_24 => absurd c_24 (nI_ge (a := k_19) (b := f) (by omega) (by omega))) (fun c_24 => ?_)
      refine lv_aload_n C.x C.b dX0_seenAlike_24 rfl (lv_at hl 0 rfl) ?_
      obtain ⟨v_25, e_26, hz_27⟩ := hKp.2.2.2.2.2.2.2.2.1
      refine r_get ck0 flX0_28 C hS (by omega) e_26 (by decide) rfl dX0_seenAlike_25 ?_
      refine lv_aload_n C.x C.b dX0_seenAlike_28 rfl (lv_at hl 0 rfl) ?_
      refine r_get ck0 flX0_17 C hS (by omega) e_26 (by decide) rfl dX0_seenAlike_29 ?_
      refine lv_iload C.x C.b dX0_seenAlike_32 (lv_at hl 4 rfl) ?_
      have e_28 := hKp.2.2.2.2.2.1.2.2.2
      refine r_aald k_19 rfl (by omega) (by decide) (ruQ_at (by omega)) C hS (by omega) 3 rfl rfl e_28 dX0_seenAlike_34 ?_
      refine lv_iload_n C.x C.b dX0_seenAlike_35 rfl (lv_at hl 2 rfl) ?_
      refine lv_iload_n C.x C.b dX0_seenAlike_36 rfl (lv_at hl 3 rfl) ?_
      obtain ⟨q_32, q_33, q_34, q_35, ⟨e_36, e_37, e_38, e_39⟩, hl_40⟩ := hKp.2.2.2.2.1 120 (Or.inr (Or.inr (Or.inr (Or.inl rfl))))
      refine r_callVv (b := 120) (As := [.ref (B + (124 + 6 * k_19)), .int x, .int y]) (rest := []) (k_fill l D t B N g_22 120 (124 + 6 * k_19) x y (by omega) (Or.inr (Or.inr (Or.inr (Or.inl rfl)))) (Or.inr (Or.inr ⟨k_19, by omega, rfl⟩)) hKp.2) mf_yX4_fill mlX0_74 im_yX4_fill se_yX4_fill (by decide) C hS (by omega) e_36 (show vwCl[4]? = some _ from rfl) rfl rfl hl.1 rfl (Nat.le_of_ble_eq_true rfl) dX0_seenAlike_37 ⟨Nat.zero_le _, Nat.zero_le _⟩ (fun g_29 H locs w_30 hS => ?_)
      replace hKp : Kp t B g g_29 := hKp.tr w_30
      refine lv_aload_n C.x C.b dX0_seenAlike_40 rfl (lv_at hl 0 rfl) ?_
      obtain ⟨v_41, e_42, hz_43⟩ := hKp.2.2.2.2.2.2.2.2.1
      refine r_get ck0 flX0_24 C hS (by omega) e_42 (by decide) rfl dX0_seenAlike_41 ?_
      refine lv_aload_n C.x C.b dX0_seenAlike_44 rfl (lv_at hl 0 rfl) ?_
      refine r_get ck0 flX0_28 C hS (by omega) e_42 (by decide) rfl dX0_seenAlike_45 ?_
      obtain ⟨q_44, q_45, q_46, q_47, ⟨e_48, e_49, e_50, e_51⟩, hl_52⟩ := hKp.2.2.2.2.1 116 (Or.inr (Or.inr (Or.inl rfl)))
      obtain ⟨q_53, q_54, q_55, q_56, ⟨e_57, e_58, e_59, e_60⟩, hl_61⟩ := hKp.2.2.2.2.1 120 (Or.inr (Or.inr (Or.inr (Or.inl rfl))))
      refine r_callV (b := 116) (As := [.ref (B + 120)]) (rest := []) (c_X4_firstOtherwise l D t B N g_29 116 _ _ _ _ 120 _ _ _ _ (by omega) ⟨e_48, e_49, e_50, e_51⟩ (by omega) ⟨e_57, e_58, e_59, e_60⟩ (by omega) (by omega)) mf_yX4_firstOtherwise mlX0_78 im_yX4_firstOtherwise se_yX4_firstOtherwise (by decide) C hS (by omega) e_48 (show vwCl[4]? = some _ from rfl) rfl rfl hl.1 rfl (Nat.le_of_ble_eq_true rfl) dX0_seenAlike_48 ⟨Nat.zero_le _, Nat.zero_le _⟩ (fun r_64 g_62 H locs w_63 hS => ?_)
      obtain ⟨rfl, er_64⟩ := w_63
      refine lv_iconst (v := (-1)) C.x C.b dX0_seenAlike_51 (by decide) ?_
      refine lv_icmp_eq (tgt := 57) C.x C.b dX0_seenAlike_52 (by decide) (fun c_65 => ?_) (fun c_65 => ?_)
      · skip
        refine lv_iinc (v := nI (k_19 + 1)) (lv' := [(4, .int (nI (k_19 + 1))), (0, .ref (B + 113)), (1, .int (nI f)), (2, .int x), (3, .int y)]) C.x C.b dX0_seenAlike_57 hl (k := 4) rfl (nI_1 k_19) (by decide) rfl (fun ls hl => ?_)
        refine lv_goto (tgt := 18) C.x C.b dX0_seenAlike_60 (by decide) ?_
        exact ih_21 (k_19 + 1) g_29 _ _ _ (by omega)  hKp hS (lv_sub hl [1, 2, 3, 4, 0] rfl)
      · skip
        refine lv_iconst (v := 0) C.x C.b dX0_seenAlike_55 (by decide) ?_
        exact r_zret C hr hlocks hS (by decide) ⟨hKp, by decide⟩ dX0_seenAlike_56
  exact lp_17 (f - 1) 1 g_5 _ _ _ (by omega)  hKp hS (lv_sub hl [1, 2, 3, 4, 0] rfl)
set_option maxHeartbeats 1000000 in
set_option maxRecDepth 100000 in
theorem k_X0_sift (l : Launch) (D : va_G) (t : Gx) (B N : Nat) (g : Nat → va_E) (o pr w : Nat → Int32) (n : Nat) (ey wi ev : Int32) (f : Nat) (x y : Int32) (hN : 220 ≤ N) (hP : isProg t B g 1 o pr w n) (hn : n ≤ 8) (hW : isWat g 5 ey wi ev) (hScr : Scr t B g) (hf : f ≤ 16) (hf1 : 1 ≤ f) : Cv l D t B N N 0 0 yX0_sift cX0_sift 5 3 71 g [.ref (B + 113), .int (nI f), .int x, .int y] (fun g' => Kp t B g g') := by
  refine Cv.start (by decide) (Nat.le_of_ble_eq_true rfl) ?_
  intro p e s m below meth c ls C hr hlocks hnm hS hl
  replace C : Cx D t p s m [.ref (B + 113), .int (nI f), .int x, .int y].toArray c cX0_sift 5 RX0 := C
  replace hl : lv_has ls 5 [(0, .ref (B + 113)), (1, .int (nI f)), (2, .int x), (3, .int y)] := hl
  obtain ⟨p0, p1, p2, p3⟩ := id hP
  have hKp : Kp t B g g := Kp.rf hScr
  refine lv_iconst (v := 0) C.x C.b dX0_sift_0 (by decide) ?_
  refine lv_istore (lv' := [(4, .int 0), (0, .ref (B + 113)), (1, .int (nI f)), (2, .int x), (3, .int y)]) C.x C.b dX0_sift_1 hl (by decide) rfl (fun ls hl => ?_)
  have lp_1 : ∀ (u_2 k_3 : Nat) (g_6 : Nat → va_E) (H : Heap) (locs : List Loc) (ls : Array Slot), k_3 + u_2 = 256 → Kp t B g g_6 → St D B s.heap N g_6 H locs → lv_has ls 5 [(0, .ref (B + 113)), (1, .int (nI f)), (2, .int x), (3, .int y), (4, .int (nI k_3))] → W p l e (rmOf 3 71 0 0) s m [.ref (B + 113), .int (nI f), .int x, .int y].toArray below meth c H locs 0 0 (MQ below (qV D B N (fun g' => Kp t B g g')) [.ref (B + 113), .int (nI f), .int x, .int y].toArray s 0 0 (fun q => B ≤ q)) (F0 m 3 ls []) := by
    intro u_2
    induction u_2 with
    | zero =>
      intro k_3 g_6 H locs ls hk_4 hKp hS hl
      obtain rfl : 256 = k_3 := by omega
      refine lv_iload C.x C.b dX0_sift_3 (lv_at hl 4 rfl) ?_
      refine lv_sipush (v := 256) C.x C.b dX0_sift_5 (by decide) ?_
      refine lv_icmp_ge (tgt := 51) C.x C.b dX0_sift_8 (by decide) (fun c_7 => ?_) (fun c_7 => absurd (by decide) c_7)
      exact r_vret C hr hlocks hS hKp dX0_sift_51
    | succ u_2 ih_5 =>
      intro k_3 g_6 H locs ls hk_4 hKp hS hl
      refine lv_iload C.x C.b dX0_sift_3 (lv_at hl 4 rfl) ?_
      refine lv_sipush (v := 256) C.x C.b dX0_sift_5 (by decide) ?_
      refine lv_icmp_ge (tgt := 51) C.x C.b dX0_sift_8 (by decide) (fun c_8 => absurd c_8 (nI_ge (a := k_3) (b := 256) (by omega) (by decide))) (fun c_8 => ?_)
      refine lv_iload C.x C.b dX0_sift_11 (lv_at hl 4 rfl) ?_
      refine lv_iload_n C.x C.b dX0_sift_13 rfl (lv_at hl 3 rfl) ?_
      refine lv_iconst (v := (-1)) C.x C.b dX0_sift_14 (by decide) ?_
      refine lv_ixor C.x C.b dX0_sift_15 ?_
      refine lv_iand C.x C.b dX0_sift_16 ?_
      refine lv_if_ne (tgt := 45) C.x C.b dX0_sift_17 (by decide) (fun c_9 => ?_) (fun c_9 => ?_)
      · skip
        refine lv_iinc (v := nI (k_3 + 1)) (lv' := [(4, .int (nI (k_3 + 1))), (0, .ref (B + 113)), (1, .int (nI f)), (2, .int x), (3, .int y)]) C.x C.b dX0_sift_45 hl (k := 4) rfl (nI_1 k_3) (by decide) rfl (fun ls hl => ?_)
        refine lv_goto (tgt := 3) C.x C.b dX0_sift_48 (by decide) ?_
        exact ih_5 (k_3 + 1) g_6 _ _ _ (by omega)  hKp hS (lv_sub hl [1, 2, 3, 4, 0] rfl)
      · skip
        refine lv_aload_n C.x C.b dX0_sift_20 rfl (lv_at hl 0 rfl) ?_
        obtain ⟨v_10, e_11, hz_12⟩ := hKp.2.2.2.2.2.2.2.2.1
        refine r_get ck0 flX0_9 C hS (by omega) e_11 (by decide) rfl dX0_sift_21 ?_
        refine lv_iload C.x C.b dX0_sift_24 (lv_at hl 4 rfl) ?_
        obtain ⟨q_13, e_14, hz_15⟩ := hKp.2.2.2.2.2.2.2.2.2
        refine r_zaldN k_3 rfl (by omega) (by decide) C hS (by omega) e_14 dX0_sift_26 ?_
        refine lv_if_eq (tgt := 45) C.x C.b dX0_sift_27 (by decide) (fun c_16 => ?_) (fun c_16 => ?_)
        · skip
          refine lv_iinc (v := nI (k_3 + 1)) (lv' := [(4, .int (nI (k_3 + 1))), (0, .ref (B + 113)), (1, .int (nI f)), (2, .int x), (3, .int y)]) C.x C.b dX0_sift_45 hl (k := 4) rfl (nI_1 k_3) (by decide) rfl (fun ls hl => ?_)
          refine lv_goto (tgt := 3) C.x C.b dX0_sift_48 (by decide) ?_
          exact ih_5 (k_3 + 1) g_6 _ _ _ (by omega)  hKp hS (lv_sub hl [1, 2, 3, 4, 0] rfl)
        · skip
          refine lv_aload_n C.x C.b dX0_sift_30 rfl (lv_at hl 0 rfl) ?_
          refine r_get ck0 flX0_9 C hS (by omega) e_11 (by decide) rfl dX0_sift_31 ?_
          refine lv_iload C.x C.b dX0_sift_34 (lv_at hl 4 rfl) ?_
          refine lv_aload_n C.x C.b dX0_sift_36 rfl (lv_at hl 0 rfl) ?_
          refine lv_iload_n C.x C.b dX0_sift_37 rfl (lv_at hl 1 rfl) ?_
          refine lv_iload_n C.x C.b dX0_sift_38 rfl (lv_at hl 2 rfl) ?_
          refine lv_iload C.x C.b dX0_sift_39 (lv_at hl 4 rfl) ?_
          have e_17 : g_6 1 = .inr (3, [.ref (B + (1 + 1)), .ref (B + (1 + 2)), .ref (B + (1 + 3)), .int (nI n)]) := (hKp.1 _ (by omega)).trans p0
          have e_18 : g_6 (1 + 1) = .inl (t.1, 8, .inl o) := (hKp.1 _ (by omega)).trans p1
          have e_19 : g_6 (1 + 2) = .inl (t.1, 8, .inl pr) := (hKp.1 _ (by omega)).trans p2
          have e_20 : g_6 (1 + 3) = .inl (t.1, 8, .inl w) := (hKp.1 _ (by omega)).trans p3
          have e_21 : g_6 5 = .inr (6, [.int ey, .int wi, .int ev]) := (hKp.1 _ (by omega)).trans hW
          refine r_callV (b := 113) (As := [.int (nI f), .int x, .int (nI k_3)]) (rest := [.int (nI k_3), .ref (B + 114)]) (k_X0_seenAlike l D t B N g_6 _ _ _ _ _ _ _ f x (nI k_3) (by omega) ⟨e_17, e_18, e_19, e_20⟩ (by omega) e_21 hKp.2 (by omega) (by omega)) mf_yX0_seenAlike mlX0_70 im_yX0_seenAlike se_yX0_seenAlike (by decide) C hS (by omega) e_11 (show vwCl[0]? = some _ from rfl) rfl rfl hl.1 rfl (Nat.le_of_ble_eq_true rfl) dX0_sift_41 ⟨Nat.zero_le _, Nat.zero_le _⟩ (fun r_24 g_22 H locs w_23 hS => ?_)
          obtain ⟨w_23, er_24⟩ := w_23
          replace hKp : Kp t B g g_22 := hKp.tr w_23
          obtain ⟨q_25, e_26, hz_27⟩ := hKp.2.2.2.2.2.2.2.2.2
          refine r_zastN k_3 rfl (by omega) (by decide) er_24 C hS (by omega) e_26 dX0_sift_44 (fun g_28 H locs e_29 o_30 hS => ?_)
          replace e_29 : g_28 114 = .inl (t.2.1, 256, .inl (upd q_25 k_3 r_24)) := e_29
          replace hKp : Kp t B g g_28 := hKp.cal e_29 (upd01 hz_27 _ er_24) o_30
          refine lv_iinc (v := nI (k_3 + 1)) (lv' := [(4, .int (nI (k_3 + 1))), (0, .ref (B + 113)), (1, .int (nI f)), (2, .int x), (3, .int y)]) C.x C.b dX0_sift_45 hl (k := 4) rfl (nI_1 k_3) (by decide) rfl (fun ls hl => ?_)
          refine lv_goto (tgt := 3) C.x C.b dX0_sift_48 (by decide) ?_
          exact ih_5 (k_3 + 1) g_28 _ _ _ (by omega)  hKp hS (lv_sub hl [1, 2, 3, 4, 0] rfl)
  exact lp_1 256 0 g _ _ _ (by omega)  hKp hS (lv_sub hl [1, 2, 3, 4, 0] rfl)
set_option maxHeartbeats 1000000 in
set_option maxRecDepth 100000 in
theorem k_X0_learn (l : Launch) (D : va_G) (t : Gx) (B N : Nat) (g : Nat → va_E) (o pr w : Nat → Int32) (n : Nat) (ey wi ev : Int32)  (hN : 220 ≤ N) (hP : isProg t B g 1 o pr w n) (hn : n ≤ 8) (hW : isWat g 5 ey wi ev) (hScr : Scr t B g)  : Cv l D t B N N 0 0 yX0_learn cX0_learn 8 5 130 g [.ref (B + 113), .ref (B + 6), .ref (B + 1), .ref (B + 5)] (fun g' => Kp t B g g') := by
  refine Cv.start (by decide) (Nat.le_of_ble_eq_true rfl) ?_
  intro p e s m below meth c ls C hr hlocks hnm hS hl
  replace C : Cx D t p s m [.ref (B + 113), .ref (B + 6), .ref (B + 1), .ref (B + 5)].toArray c cX0_learn 8 RX0 := C
  replace hl : lv_has ls 8 [(0, .ref (B + 113)), (1, .ref (B + 6)), (2, .ref (B + 1)), (3, .ref (B + 5))] := hl
  obtain ⟨p0, p1, p2, p3⟩ := id hP
  have hKp : Kp t B g g := Kp.rf hScr
  refine lv_aload_n C.x C.b dX0_learn_0 rfl (lv_at hl 0 rfl) ?_
  obtain ⟨v_1, e_2, hz_3⟩ := hKp.2.2.2.2.2.2.2.2.1
  refine r_get ck0 flX0_31 C hS (by omega) e_2 (by decide) rfl dX0_learn_1 ?_
  refine lv_if_eq (tgt := 8) C.x C.b dX0_learn_4 (by decide) (fun c_4 => ?_) (fun c_4 => ?_)
  · skip
    refine lv_aload_n C.x C.b dX0_learn_8 rfl (lv_at hl 3 rfl) ?_
    refine r_get ck6 flX0_36 C hS (by omega) hW (by decide) rfl dX0_learn_9 ?_
    refine lv_bipush (v := (-9)) C.x C.b dX0_learn_12 (by decide) ?_
    refine lv_iand C.x C.b dX0_learn_14 ?_
    refine lv_istore (lv' := [(4, .int (ey &&& (-9))), (0, .ref (B + 113)), (1, .ref (B + 6)), (2, .ref (B + 1)), (3, .ref (B + 5))]) C.x C.b dX0_learn_15 hl (by decide) rfl (fun ls hl => ?_)
    refine lv_aload_n C.x C.b dX0_learn_17 rfl (lv_at hl 3 rfl) ?_
    refine lv_iload C.x C.b dX0_learn_18 (lv_at hl 0 rfl) ?_
    refine r_callV (b := 1) (As := [.int (ey &&& (-9))]) (rest := []) (c_X3_placesUnder l D t B N g 1 _ _ _ _ (ey &&& (-9)) (by omega) ⟨p0, p1, p2, p3⟩ (by omega)) mf_yX3_placesUnder mlX0_42 im_yX3_placesUnder se_yX3_placesUnder (by decide) C hS (by omega) p0 (show vwCl[3]? = some _ from rfl) rfl rfl hl.1 rfl (Nat.le_of_ble_eq_true rfl) dX0_learn_20 ⟨Nat.zero_le _, Nat.zero_le _⟩ (fun r_7 g_5 H locs w_6 hS => ?_)
    obtain ⟨rfl, er_7⟩ := w_6
    subst er_7
    refine lv_istore (lv' := [(5, .int (undF o (ey &&& (-9)) n)), (4, .int (ey &&& (-9))), (0, .ref (B + 113)), (1, .ref (B + 6)), (2, .ref (B + 1)), (3, .ref (B + 5))]) C.x C.b dX0_learn_23 hl (by decide) rfl (fun ls hl => ?_)
    refine lv_iconst (v := 0) C.x C.b dX0_learn_25 (by decide) ?_
    refine lv_istore (lv' := [(6, .int 0), (5, .int (undF o (ey &&& (-9)) n)), (4, .int (ey &&& (-9))), (0, .ref (B + 113)), (1, .ref (B + 6)), (2, .ref (B + 1)), (3, .ref (B + 5))]) C.x C.b dX0_learn_26 hl (by decide) rfl (fun ls hl => ?_)
    have lp_8 : ∀ (u_9 k_10 : Nat) (g_13 : Nat → va_E) (H : Heap) (locs : List Loc) (ls : Array Slot), k_10 + u_9 = 256 → Kp t B g g_13 → St D B s.heap N g_13 H locs → lv_has ls 8 [(5, .int (undF o (ey &&& (-9)) n)), (4, .int (ey &&& (-9))), (0, .ref (B + 113)), (1, .ref (B + 6)), (2, .ref (B + 1)), (3, .ref (B + 5)), (6, .int (nI k_10))] → W p l e (rmOf 5 130 0 0) s m [.ref (B + 113), .ref (B + 6), .ref (B + 1), .ref (B + 5)].toArray below meth c H locs 0 0 (MQ below (qV D B N (fun g' => Kp t B g g')) [.ref (B + 113), .ref (B + 6), .ref (B + 1), .ref (B + 5)].toArray s 0 0 (fun q => B ≤ q)) (F0 m 28 ls []) := by
      intro u_9
      induction u_9 with
      | zero =>
        intro k_10 g_13 H locs ls hk_11 hKp hS hl
        obtain rfl : 256 = k_10 := by omega
        refine lv_iload C.x C.b dX0_learn_28 (lv_at hl 6 rfl) ?_
        refine lv_sipush (v := 256) C.x C.b dX0_learn_30 (by decide) ?_
        refine lv_icmp_ge (tgt := 50) C.x C.b dX0_learn_33 (by decide) (fun c_14 => ?_) (fun c_14 => absurd (by decide) c_14)
        refine lv_iconst (v := 0) C.x C.b dX0_learn_50 (by decide) ?_
        refine lv_istore (lv' := [(6, .int 0), (5, .int (undF o (ey &&& (-9)) n)), (4, .int (ey &&& (-9))), (0, .ref (B + 113)), (1, .ref (B + 6)), (2, .ref (B + 1)), (3, .ref (B + 5))]) C.x C.b dX0_learn_51 hl (by decide) rfl (fun ls hl => ?_)
        have lp_15 : ∀ (u_16 k_17 : Nat) (g_20 : Nat → va_E) (H : Heap) (locs : List Loc) (ls : Array Slot), k_17 + u_16 = 16 → Kp t B g g_20 → St D B s.heap N g_20 H locs → lv_has ls 8 [(5, .int (undF o (ey &&& (-9)) n)), (4, .int (ey &&& (-9))), (0, .ref (B + 113)), (1, .ref (B + 6)), (2, .ref (B + 1)), (3, .ref (B + 5)), (6, .int (nI k_17))] → W p l e (rmOf 5 130 0 0) s m [.ref (B + 113), .ref (B + 6), .ref (B + 1), .ref (B + 5)].toArray below meth c H locs 0 0 (MQ below (qV D B N (fun g' => Kp t B g g')) [.ref (B + 113), .ref (B + 6), .ref (B + 1), .ref (B + 5)].toArray s 0 0 (fun q => B ≤ q)) (F0 m 53 ls []) := by
          intro u_16
          induction u_16 with
          | zero =>
            intro k_17 g_20 H locs ls hk_18 hKp hS hl
            obtain rfl : 16 = k_17 := by omega
            refine lv_iload C.x C.b dX0_learn_53 (lv_at hl 6 rfl) ?_
            refine lv_bipush (v := 16) C.x C.b dX0_learn_55 (by decide) ?_
            refine lv_icmp_ge (tgt := 93) C.x C.b dX0_learn_57 (by decide) (fun c_21 => ?_) (fun c_21 => absurd (by decide) c_21)
            refine lv_iconst (v := 0) C.x C.b dX0_learn_93 (by decide) ?_
            refine lv_istore (lv' := [(6, .int 0), (5, .int (undF o (ey &&& (-9)) n)), (4, .int (ey &&& (-9))), (0, .ref (B + 113)), (1, .ref (B + 6)), (2, .ref (B + 1)), (3, .ref (B + 5))]) C.x C.b dX0_learn_94 hl (by decide) rfl (fun ls hl => ?_)
            have lp_22 : ∀ (u_23 k_24 : Nat) (g_27 : Nat → va_E) (H : Heap) (locs : List Loc) (ls : Array Slot), k_24 + u_23 = 256 → Kp t B g g_27 → St D B s.heap N g_27 H locs → lv_has ls 8 [(5, .int (undF o (ey &&& (-9)) n)), (4, .int (ey &&& (-9))), (0, .ref (B + 113)), (1, .ref (B + 6)), (2, .ref (B + 1)), (3, .ref (B + 5)), (6, .int (nI k_24))] → W p l e (rmOf 5 130 0 0) s m [.ref (B + 113), .ref (B + 6), .ref (B + 1), .ref (B + 5)].toArray below meth c H locs 0 0 (MQ below (qV D B N (fun g' => Kp t B g g')) [.ref (B + 113), .ref (B + 6), .ref (B + 1), .ref (B + 5)].toArray s 0 0 (fun q => B ≤ q)) (F0 m 96 ls []) := by
              intro u_23
              induction u_23 with
              | zero =>
                intro k_24 g_27 H locs ls hk_25 hKp hS hl
                obtain rfl : 256 = k_24 := by omega
                refine lv_iload C.x C.b dX0_learn_96 (lv_at hl 6 rfl) ?_
                refine lv_sipush (v := 256) C.x C.b dX0_learn_98 (by decide) ?_
                refine lv_icmp_ge (tgt := 127) C.x C.b dX0_learn_101 (by decide) (fun c_28 => ?_) (fun c_28 => absurd (by decide) c_28)
                refine lv_aload_n C.x C.b dX0_learn_127 rfl (lv_at hl 2 rfl) ?_
                refine lv_iconst (v := 1) C.x C.b dX0_learn_128 (by decide) ?_
                obtain ⟨v_29, e_30, hz_31⟩ := hKp.2.2.2.2.2.2.2.2.1
                refine r_put ck0 flX0_31 C hS (by omega) e_30 (by decide) rfl (nar_z (by decide)) (fit_z (by decide)) (Nat.le_of_ble_eq_true rfl) dX0_learn_129 (fun g_32 H locs e_33 o_34 hS => ?_)
                replace e_33 : g_32 113 = .inr (0, [.ref (B + 114), .ref (B + 115), .ref (B + 116), .ref (B + 120), .int 1]) := e_33
                replace hKp : Kp t B g g_32 := hKp.cur (by decide) e_33 o_34
                exact r_vret C hr hlocks hS hKp dX0_learn_132
              | succ u_23 ih_26 =>
                intro k_24 g_27 H locs ls hk_25 hKp hS hl
                refine lv_iload C.x C.b dX0_learn_96 (lv_at hl 6 rfl) ?_
                refine lv_sipush (v := 256) C.x C.b dX0_learn_98 (by decide) ?_
                refine lv_icmp_ge (tgt := 127) C.x C.b dX0_learn_101 (by decide) (fun c_35 => absurd c_35 (nI_ge (a := k_24) (b := 256) (by omega) (by decide))) (fun c_35 => ?_)
                refine lv_aload_n C.x C.b dX0_learn_104 rfl (lv_at hl 2 rfl) ?_
                obtain ⟨v_36, e_37, hz_38⟩ := hKp.2.2.2.2.2.2.2.2.1
                refine r_get ck0 flX0_9 C hS (by omega) e_37 (by decide) rfl dX0_learn_105 ?_
                refine lv_iload C.x C.b dX0_learn_108 (lv_at hl 6 rfl) ?_
                refine lv_aload_n C.x C.b dX0_learn_110 rfl (lv_at hl 2 rfl) ?_
                refine r_get ck0 flX0_9 C hS (by omega) e_37 (by decide) rfl dX0_learn_111 ?_
                refine lv_iload C.x C.b dX0_learn_114 (lv_at hl 6 rfl) ?_
                refine lv_iload C.x C.b dX0_learn_116 (lv_at hl 0 rfl) ?_
                refine lv_iand C.x C.b dX0_learn_118 ?_
                obtain ⟨q_39, e_40, hz_41⟩ := hKp.2.2.2.2.2.2.2.2.2
                refine r_zaldN (an k_24 (undF o (ey &&& (-9)) n)) (an_eq _ _) (Nat.lt_of_le_of_lt (an_le _ _) (by omega)) (by decide) C hS (by omega) e_40 dX0_learn_119 ?_
                refine r_zastN k_24 rfl (by omega) (by decide) (hz_41 _) C hS (by omega) e_40 dX0_learn_120 (fun g_42 H locs e_43 o_44 hS => ?_)
                replace e_43 : g_42 114 = .inl (t.2.1, 256, .inl (upd q_39 k_24 (q_39 (an k_24 (undF o (ey &&& (-9)) n))))) := e_43
                replace hKp : Kp t B g g_42 := hKp.cal e_43 (upd01 hz_41 _ (hz_41 _)) o_44
                refine lv_iinc (v := nI (k_24 + 1)) (lv' := [(6, .int (nI (k_24 + 1))), (5, .int (undF o (ey &&& (-9)) n)), (4, .int (ey &&& (-9))), (0, .ref (B + 113)), (1, .ref (B + 6)), (2, .ref (B + 1)), (3, .ref (B + 5))]) C.x C.b dX0_learn_121 hl (k := 6) rfl (nI_1 k_24) (by decide) rfl (fun ls hl => ?_)
                refine lv_goto (tgt := 96) C.x C.b dX0_learn_124 (by decide) ?_
                exact ih_26 (k_24 + 1) g_42 _ _ _ (by omega)  hKp hS (lv_sub hl [1, 2, 3, 4, 5, 6, 0] rfl)
            exact lp_22 256 0 g_20 _ _ _ (by omega)  hKp hS (lv_sub hl [1, 2, 3, 4, 5, 6, 0] rfl)
          | succ u_16 ih_19 =>
            intro k_17 g_20 H locs ls hk_18 hKp hS hl
            refine lv_iload C.x C.b dX0_learn_53 (lv_at hl 6 rfl) ?_
            refine lv_bipush (v := 16) C.x C.b dX0_learn_55 (by decide) ?_
            refine lv_icmp_ge (tgt := 93) C.x C.b dX0_learn_57 (by decide) (fun c_45 => absurd c_45 (nI_ge (a := k_17) (b := 16) (by omega) (by decide))) (fun c_45 => ?_)
            refine lv_aload_n C.x C.b dX0_learn_60 rfl (lv_at hl 2 rfl) ?_
            refine lv_aload_n C.x C.b dX0_learn_61 rfl (lv_at hl 3 rfl) ?_
            refine lv_aload_n C.x C.b dX0_learn_62 rfl (lv_at hl 4 rfl) ?_
            refine lv_aload_n C.x C.b dX0_learn_63 rfl (lv_at hl 5 rfl) ?_
            refine lv_iload C.x C.b dX0_learn_64 (lv_at hl 6 rfl) ?_
            have e_46 : g_20 1 = .inr (3, [.ref (B + (1 + 1)), .ref (B + (1 + 2)), .ref (B + (1 + 3)), .int (nI n)]) := (hKp.1 _ (by omega)).trans p0
            have e_47 : g_20 (1 + 1) = .inl (t.1, 8, .inl o) := (hKp.1 _ (by omega)).trans p1
            have e_48 : g_20 (1 + 2) = .inl (t.1, 8, .inl pr) := (hKp.1 _ (by omega)).trans p2
            have e_49 : g_20 (1 + 3) = .inl (t.1, 8, .inl w) := (hKp.1 _ (by omega)).trans p3
            have e_50 : g_20 5 = .inr (6, [.int ey, .int wi, .int ev]) := (hKp.1 _ (by omega)).trans hW
            obtain ⟨v_54, e_55, hz_56⟩ := hKp.2.2.2.2.2.2.2.2.1
            refine r_callV (b := 113) (As := [.ref (B + 6), .ref (B + 1), .ref (B + 5), .int (nI k_17)]) (rest := []) (k_X0_gatherRuns l D t B N g_20 _ _ _ _ _ _ _ (nI k_17) (by omega) ⟨e_46, e_47, e_48, e_49⟩ (by omega) e_50 hKp.2 ) mf_yX0_gatherRuns mlX0_48 im_yX0_gatherRuns se_yX0_gatherRuns (by decide) C hS (by omega) e_55 (show vwCl[0]? = some _ from rfl) rfl rfl hl.1 rfl (Nat.le_of_ble_eq_true rfl) dX0_learn_66 ⟨Nat.zero_le _, Nat.zero_le _⟩ (fun r_53 g_51 H locs w_52 hS => ?_)
            obtain ⟨w_52, er_53⟩ := w_52
            replace hKp : Kp t B g g_51 := hKp.tr w_52
            obtain ⟨k_57, hk_58, rfl⟩ := er_53
            refine lv_istore (lv' := [(7, .int (nI k_57)), (5, .int (undF o (ey &&& (-9)) n)), (4, .int (ey &&& (-9))), (0, .ref (B + 113)), (1, .ref (B + 6)), (2, .ref (B + 1)), (3, .ref (B + 5)), (6, .int (nI k_17))]) C.x C.b dX0_learn_69 hl (by decide) rfl (fun ls hl => ?_)
            refine lv_iload C.x C.b dX0_learn_71 (lv_at hl 0 rfl) ?_
            refine lv_iconst (v := 1) C.x C.b dX0_learn_73 (by decide) ?_
            refine lv_icmp_le (tgt := 87) C.x C.b dX0_learn_74 (by decide) (fun c_59 => ?_) (fun c_59 => ?_)
            · skip
              refine lv_iinc (v := nI (k_17 + 1)) (lv' := [(6, .int (nI (k_17 + 1))), (7, .int (nI k_57)), (5, .int (undF o (ey &&& (-9)) n)), (4, .int (ey &&& (-9))), (0, .ref (B + 113)), (1, .ref (B + 6)), (2, .ref (B + 1)), (3, .ref (B + 5))]) C.x C.b dX0_learn_87 hl (k := 7) rfl (nI_1 k_17) (by decide) rfl (fun ls hl => ?_)
              refine lv_goto (tgt := 53) C.x C.b dX0_learn_90 (by decide) ?_
              exact ih_19 (k_17 + 1) g_51 _ _ _ (by omega)  hKp hS (lv_sub hl [2, 3, 4, 5, 6, 7, 0] rfl)
            · skip
              have hk1_k_57 : 1 < k_57 := gt1 c_59 (by omega)
              refine lv_aload_n C.x C.b dX0_learn_77 rfl (lv_at hl 3 rfl) ?_
              refine lv_iload C.x C.b dX0_learn_78 (lv_at hl 0 rfl) ?_
              refine lv_iload C.x C.b dX0_learn_80 (lv_at hl 2 rfl) ?_
              refine lv_iload C.x C.b dX0_learn_82 (lv_at hl 1 rfl) ?_
              have e_60 : g_51 1 = .inr (3, [.ref (B + (1 + 1)), .ref (B + (1 + 2)), .ref (B + (1 + 3)), .int (nI n)]) := (hKp.1 _ (by omega)).trans p0
              have e_61 : g_51 (1 + 1) = .inl (t.1, 8, .inl o) := (hKp.1 _ (by omega)).trans p1
              have e_62 : g_51 (1 + 2) = .inl (t.1, 8, .inl pr) := (hKp.1 _ (by omega)).trans p2
              have e_63 : g_51 (1 + 3) = .inl (t.1, 8, .inl w) := (hKp.1 _ (by omega)).trans p3
              have e_64 : g_51 5 = .inr (6, [.int ey, .int wi, .int ev]) := (hKp.1 _ (by omega)).trans hW
              obtain ⟨v_68, e_69, hz_70⟩ := hKp.2.2.2.2.2.2.2.2.1
              refine r_callVv (b := 113) (As := [.int (nI k_57), .int (ey &&& (-9)), .int (undF o (ey &&& (-9)) n)]) (rest := []) (k_X0_sift l D t B N g_51 _ _ _ _ _ _ _ k_57 (ey &&& (-9)) (undF o (ey &&& (-9)) n) (by omega) ⟨e_60, e_61, e_62, e_63⟩ (by omega) e_64 hKp.2 (by omega) (by omega)) mf_yX0_sift mlX0_52 im_yX0_sift se_yX0_sift (by decide) C hS (by omega) e_69 (show vwCl[0]? = some _ from rfl) rfl rfl hl.1 rfl (Nat.le_of_ble_eq_true rfl) dX0_learn_84 ⟨Nat.zero_le _, Nat.zero_le _⟩ (fun g_65 H locs w_66 hS => ?_)
              replace hKp : Kp t B g g_65 := hKp.tr w_66
              refine lv_iinc (v := nI (k_17 + 1)) (lv' := [(6, .int (nI (k_17 + 1))), (7, .int (nI k_57)), (5, .int (undF o (ey &&& (-9)) n)), (4, .int (ey &&& (-9))), (0, .ref (B + 113)), (1, .ref (B + 6)), (2, .ref (B + 1)), (3, .ref (B + 5))]) C.x C.b dX0_learn_87 hl (k := 7) rfl (nI_1 k_17) (by decide) rfl (fun ls hl => ?_)
              refine lv_goto (tgt := 53) C.x C.b dX0_learn_90 (by decide) ?_
              exact ih_19 (k_17 + 1) g_65 _ _ _ (by omega)  hKp hS (lv_sub hl [2, 3, 4, 5, 6, 7, 0] rfl)
        exact lp_15 16 0 g_13 _ _ _ (by omega)  hKp hS (lv_sub hl [1, 2, 3, 4, 5, 6, 0] rfl)
      | succ u_9 ih_12 =>
        intro k_10 g_13 H locs ls hk_11 hKp hS hl
        refine lv_iload C.x C.b dX0_learn_28 (lv_at hl 6 rfl) ?_
        refine lv_sipush (v := 256) C.x C.b dX0_learn_30 (by decide) ?_
        refine lv_icmp_ge (tgt := 50) C.x C.b dX0_learn_33 (by decide) (fun c_71 => absurd c_71 (nI_ge (a := k_10) (b := 256) (by omega) (by decide))) (fun c_71 => ?_)
        refine lv_aload_n C.x C.b dX0_learn_36 rfl (lv_at hl 2 rfl) ?_
        obtain ⟨v_72, e_73, hz_74⟩ := hKp.2.2.2.2.2.2.2.2.1
        refine r_get ck0 flX0_9 C hS (by omega) e_73 (by decide) rfl dX0_learn_37 ?_
        refine lv_iload C.x C.b dX0_learn_40 (lv_at hl 6 rfl) ?_
        refine lv_iconst (v := 1) C.x C.b dX0_learn_42 (by decide) ?_
        obtain ⟨q_75, e_76, hz_77⟩ := hKp.2.2.2.2.2.2.2.2.2
        refine r_zastN k_10 rfl (by omega) (by decide) (by decide) C hS (by omega) e_76 dX0_learn_43 (fun g_78 H locs e_79 o_80 hS => ?_)
        replace e_79 : g_78 114 = .inl (t.2.1, 256, .inl (upd q_75 k_10 1)) := e_79
        replace hKp : Kp t B g g_78 := hKp.cal e_79 (upd01 hz_77 _ (by decide)) o_80
        refine lv_iinc (v := nI (k_10 + 1)) (lv' := [(6, .int (nI (k_10 + 1))), (5, .int (undF o (ey &&& (-9)) n)), (4, .int (ey &&& (-9))), (0, .ref (B + 113)), (1, .ref (B + 6)), (2, .ref (B + 1)), (3, .ref (B + 5))]) C.x C.b dX0_learn_44 hl (k := 6) rfl (nI_1 k_10) (by decide) rfl (fun ls hl => ?_)
        refine lv_goto (tgt := 28) C.x C.b dX0_learn_47 (by decide) ?_
        exact ih_12 (k_10 + 1) g_78 _ _ _ (by omega)  hKp hS (lv_sub hl [1, 2, 3, 4, 5, 6, 0] rfl)
    exact lp_8 256 0 g _ _ _ (by omega)  hKp hS (lv_sub hl [1, 2, 3, 4, 5, 6, 0] rfl)
  · skip
    exact r_vret C hr hlocks hS hKp dX0_learn_7
set_option maxHeartbeats 1000000 in
set_option maxRecDepth 100000 in
theorem k_X0_isBetter (l : Launch) (D : va_G) (t : Gx) (B N : Nat) (g : Nat → va_E) (o pr w : Nat → Int32) (n : Nat) (ey wi ev : Int32) (x y : Int32) (hN : 220 ≤ N) (hP : isProg t B g 1 o pr w n) (hn : n ≤ 8) (hW : isWat g 5 ey wi ev) (hScr : Scr t B g)  : Ci l D t B N yX0_isBetter cX0_isBetter 5 (some .boolean) 1 23 g [.ref (B + 1), .int x, .int y] (fun r g' => Kp t B g g') := by
  refine Ci.start (by decide) (Nat.le_of_ble_eq_true rfl) ?_
  intro p e s m below meth c ls C hr hlocks hS hl
  replace C : Cx D t p s m [.ref (B + 1), .int x, .int y].toArray c cX0_isBetter 5 RX0 := C
  replace hl : lv_has ls 5 [(0, .ref (B + 1)), (1, .int x), (2, .int y)] := hl
  obtain ⟨p0, p1, p2, p3⟩ := id hP
  have hKp : Kp t B g g := Kp.rf hScr
  refine lv_aload_n C.x C.b dX0_isBetter_0 rfl (lv_at hl 0 rfl) ?_
  refine lv_iload_n C.x C.b dX0_isBetter_1 rfl (lv_at hl 1 rfl) ?_
  refine r_callV (b := 1) (As := [.int x]) (rest := []) (c_X3_priceOf l D t B N g 1 _ _ _ _ x (by omega) ⟨p0, p1, p2, p3⟩ (by omega)) mf_yX3_priceOf mlX0_89 im_yX3_priceOf se_yX3_priceOf (by decide) C hS (by omega) p0 (show vwCl[3]? = some _ from rfl) rfl rfl hl.1 rfl (Nat.le_of_ble_eq_true rfl) dX0_isBetter_2 ⟨Nat.zero_le _, Nat.zero_le _⟩ (fun r_3 g_1 H locs w_2 hS => ?_)
  obtain ⟨rfl, er_3⟩ := w_2
  subst er_3
  refine lv_istore_n (lv' := [(3, .int (prcOf pr x n)), (0, .ref (B + 1)), (1, .int x), (2, .int y)]) C.x C.b dX0_isBetter_5 rfl hl (by decide) rfl (fun ls hl => ?_)
  refine lv_aload_n C.x C.b dX0_isBetter_6 rfl (lv_at hl 1 rfl) ?_
  refine lv_iload_n C.x C.b dX0_isBetter_7 rfl (lv_at hl 3 rfl) ?_
  refine r_callV (b := 1) (As := [.int y]) (rest := []) (c_X3_priceOf l D t B N g 1 _ _ _ _ y (by omega) ⟨p0, p1, p2, p3⟩ (by omega)) mf_yX3_priceOf mlX0_89 im_yX3_priceOf se_yX3_priceOf (by decide) C hS (by omega) p0 (show vwCl[3]? = some _ from rfl) rfl rfl hl.1 rfl (Nat.le_of_ble_eq_true rfl) dX0_isBetter_8 ⟨Nat.zero_le _, Nat.zero_le _⟩ (fun r_6 g_4 H locs w_5 hS => ?_)
  obtain ⟨rfl, er_6⟩ := w_5
  subst er_6
  refine lv_istore (lv' := [(4, .int (prcOf pr y n)), (3, .int (prcOf pr x n)), (0, .ref (B + 1)), (1, .int x), (2, .int y)]) C.x C.b dX0_isBetter_11 hl (by decide) rfl (fun ls hl => ?_)
  refine lv_iload_n C.x C.b dX0_isBetter_13 rfl (lv_at hl 1 rfl) ?_
  refine lv_iload C.x C.b dX0_isBetter_14 (lv_at hl 0 rfl) ?_
  refine lv_icmp_eq (tgt := 31) C.x C.b dX0_isBetter_16 (by decide) (fun c_7 => ?_) (fun c_7 => ?_)
  · skip
    refine lv_iload_n C.x C.b dX0_isBetter_31 rfl (lv_at hl 3 rfl) ?_
    refine r_callS (As := [.int x]) (rest := []) (c_J6_bitCount_0f7a4 l D t B N g x) mf_yJ6_bitCount_0f7a4 mlX0_92 sm_yJ6_bitCount_0f7a4 (by decide) C hS rfl hl.1 rfl (Nat.le_of_ble_eq_true rfl) dX0_isBetter_32 ⟨Nat.zero_le _, Nat.zero_le _⟩ (fun r_10 g_8 H locs w_9 hS => ?_)
    obtain ⟨rfl, er_10⟩ := w_9
    subst er_10
    refine lv_iload_n C.x C.b dX0_isBetter_35 rfl (lv_at hl 4 rfl) ?_
    refine r_callS (As := [.int y]) (rest := [.int (bcF x)]) (c_J6_bitCount_0f7a4 l D t B N g y) mf_yJ6_bitCount_0f7a4 mlX0_92 sm_yJ6_bitCount_0f7a4 (by decide) C hS rfl hl.1 rfl (Nat.le_of_ble_eq_true rfl) dX0_isBetter_36 ⟨Nat.zero_le _, Nat.zero_le _⟩ (fun r_13 g_11 H locs w_12 hS => ?_)
    obtain ⟨rfl, er_13⟩ := w_12
    subst er_13
    refine lv_icmp_ge (tgt := 46) C.x C.b dX0_isBetter_39 (by decide) (fun c_14 => ?_) (fun c_14 => ?_)
    · skip
      refine lv_iconst (v := 0) C.x C.b dX0_isBetter_46 (by decide) ?_
      exact r_zret C hr hlocks hS (by decide) hKp dX0_isBetter_47
    · skip
      refine lv_iconst (v := 1) C.x C.b dX0_isBetter_42 (by decide) ?_
      refine lv_goto (tgt := 47) C.x C.b dX0_isBetter_43 (by decide) ?_
      exact r_zret C hr hlocks hS (by decide) hKp dX0_isBetter_47
  · skip
    refine lv_iload_n C.x C.b dX0_isBetter_19 rfl (lv_at hl 1 rfl) ?_
    refine lv_iload C.x C.b dX0_isBetter_20 (lv_at hl 0 rfl) ?_
    refine lv_icmp_ge (tgt := 29) C.x C.b dX0_isBetter_22 (by decide) (fun c_15 => ?_) (fun c_15 => ?_)
    · skip
      refine lv_iconst (v := 0) C.x C.b dX0_isBetter_29 (by decide) ?_
      exact r_zret C hr hlocks hS (by decide) hKp dX0_isBetter_30
    · skip
      refine lv_iconst (v := 1) C.x C.b dX0_isBetter_25 (by decide) ?_
      refine lv_goto (tgt := 30) C.x C.b dX0_isBetter_26 (by decide) ?_
      exact r_zret C hr hlocks hS (by decide) hKp dX0_isBetter_30
set_option maxHeartbeats 1000000 in
set_option maxRecDepth 100000 in
theorem k_X0_cheapest (l : Launch) (D : va_G) (t : Gx) (B N : Nat) (g : Nat → va_E) (o pr w : Nat → Int32) (n : Nat) (ey wi ev : Int32)  (hN : 220 ≤ N) (hP : isProg t B g 1 o pr w n) (hn : n ≤ 8) (hW : isWat g 5 ey wi ev) (hScr : Scr t B g)  : Ci l D t B N yX0_cheapest cX0_cheapest 5 (some .int) 2 47 g [.ref (B + 113), .ref (B + 1)] (fun r g' => Kp t B g g') := by
  refine Ci.start (by decide) (Nat.le_of_ble_eq_true rfl) ?_
  intro p e s m below meth c ls C hr hlocks hS hl
  replace C : Cx D t p s m [.ref (B + 113), .ref (B + 1)].toArray c cX0_cheapest 5 RX0 := C
  replace hl : lv_has ls 5 [(0, .ref (B + 113)), (1, .ref (B + 1))] := hl
  obtain ⟨p0, p1, p2, p3⟩ := id hP
  have hKp : Kp t B g g := Kp.rf hScr
  refine lv_iconst (v := 1) C.x C.b dX0_cheapest_0 (by decide) ?_
  refine lv_aload_n C.x C.b dX0_cheapest_1 rfl (lv_at hl 1 rfl) ?_
  refine r_get ck3 flX0_82 C hS (by omega) p0 (by decide) rfl dX0_cheapest_2 ?_
  refine lv_ishl C.x C.b dX0_cheapest_5 ?_
  obtain ⟨M, hM, eM⟩ := sh1 hn
  refine r_top (y := nI M) eM ?_
  refine lv_istore_n (lv' := [(2, .int (nI M)), (0, .ref (B + 113)), (1, .ref (B + 1))]) C.x C.b dX0_cheapest_6 rfl hl (by decide) rfl (fun ls hl => ?_)
  refine lv_iconst (v := (-1)) C.x C.b dX0_cheapest_7 (by decide) ?_
  refine lv_istore_n (lv' := [(3, .int (-1)), (2, .int (nI M)), (0, .ref (B + 113)), (1, .ref (B + 1))]) C.x C.b dX0_cheapest_8 rfl hl (by decide) rfl (fun ls hl => ?_)
  refine lv_iconst (v := 0) C.x C.b dX0_cheapest_9 (by decide) ?_
  refine lv_istore (lv' := [(4, .int 0), (3, .int (-1)), (2, .int (nI M)), (0, .ref (B + 113)), (1, .ref (B + 1))]) C.x C.b dX0_cheapest_10 hl (by decide) rfl (fun ls hl => ?_)
  have lp_1 : ∀ (u_2 k_3 : Nat) (b_7 : Int32) (g_6 : Nat → va_E) (H : Heap) (locs : List Loc) (ls : Array Slot), k_3 + u_2 = M → Kp t B g g_6 → St D B s.heap N g_6 H locs → lv_has ls 5 [(2, .int (nI M)), (0, .ref (B + 113)), (1, .ref (B + 1)), (3, .int b_7), (4, .int (nI k_3))] → W p l e (rmOf 2 47 0 0) s m [.ref (B + 113), .ref (B + 1)].toArray below meth c H locs 0 0 (MQ below (qI D B N (fun r g' => Kp t B g g')) [.ref (B + 113), .ref (B + 1)].toArray s 0 0 (fun q => B ≤ q)) (F0 m 12 ls []) := by
    intro u_2
    induction u_2 with
    | zero =>
      intro k_3 b_7 g_6 H locs ls hk_4 hKp hS hl
      obtain rfl : M = k_3 := by omega
      refine lv_iload C.x C.b dX0_cheapest_12 (lv_at hl 4 rfl) ?_
      refine lv_iload_n C.x C.b dX0_cheapest_14 rfl (lv_at hl 0 rfl) ?_
      refine lv_icmp_ge (tgt := 52) C.x C.b dX0_cheapest_15 (by decide) (fun c_8 => ?_) (fun c_8 => absurd (nI_le (Nat.le_refl _) (by omega)) c_8)
      refine lv_iload_n C.x C.b dX0_cheapest_52 rfl (lv_at hl 3 rfl) ?_
      exact r_iret C hr hlocks hS hKp dX0_cheapest_53
    | succ u_2 ih_5 =>
      intro k_3 b_7 g_6 H locs ls hk_4 hKp hS hl
      refine lv_iload C.x C.b dX0_cheapest_12 (lv_at hl 4 rfl) ?_
      refine lv_iload_n C.x C.b dX0_cheapest_14 rfl (lv_at hl 0 rfl) ?_
      refine lv_icmp_ge (tgt := 52) C.x C.b dX0_cheapest_15 (by decide) (fun c_9 => absurd c_9 (nI_ge (a := k_3) (b := M) (by omega) (by omega))) (fun c_9 => ?_)
      refine lv_aload_n C.x C.b dX0_cheapest_18 rfl (lv_at hl 1 rfl) ?_
      obtain ⟨v_10, e_11, hz_12⟩ := hKp.2.2.2.2.2.2.2.2.1
      refine r_get ck0 flX0_9 C hS (by omega) e_11 (by decide) rfl dX0_cheapest_19 ?_
      refine lv_iload C.x C.b dX0_cheapest_22 (lv_at hl 4 rfl) ?_
      obtain ⟨q_13, e_14, hz_15⟩ := hKp.2.2.2.2.2.2.2.2.2
      refine r_zaldN k_3 rfl (by omega) (by decide) C hS (by omega) e_14 dX0_cheapest_24 ?_
      refine lv_if_eq (tgt := 46) C.x C.b dX0_cheapest_25 (by decide) (fun c_16 => ?_) (fun c_16 => ?_)
      · skip
        refine lv_iinc (v := nI (k_3 + 1)) (lv' := [(4, .int (nI (k_3 + 1))), (2, .int (nI M)), (0, .ref (B + 113)), (1, .ref (B + 1)), (3, .int b_7)]) C.x C.b dX0_cheapest_46 hl (k := 4) rfl (nI_1 k_3) (by decide) rfl (fun ls hl => ?_)
        refine lv_goto (tgt := 12) C.x C.b dX0_cheapest_49 (by decide) ?_
        exact ih_5 (k_3 + 1) b_7 g_6 _ _ _ (by omega)  hKp hS (lv_sub hl [1, 2, 3, 4, 0] rfl)
      · skip
        refine lv_iload_n C.x C.b dX0_cheapest_28 rfl (lv_at hl 3 rfl) ?_
        refine lv_iconst (v := (-1)) C.x C.b dX0_cheapest_29 (by decide) ?_
        refine lv_icmp_eq (tgt := 43) C.x C.b dX0_cheapest_30 (by decide) (fun c_17 => ?_) (fun c_17 => ?_)
        · skip
          refine lv_iload C.x C.b dX0_cheapest_43 (lv_at hl 4 rfl) ?_
          refine lv_istore_n (lv' := [(3, .int (nI k_3)), (2, .int (nI M)), (0, .ref (B + 113)), (1, .ref (B + 1)), (4, .int (nI k_3))]) C.x C.b dX0_cheapest_45 rfl hl (by decide) rfl (fun ls hl => ?_)
          refine lv_iinc (v := nI (k_3 + 1)) (lv' := [(4, .int (nI (k_3 + 1))), (3, .int (nI k_3)), (2, .int (nI M)), (0, .ref (B + 113)), (1, .ref (B + 1))]) C.x C.b dX0_cheapest_46 hl (k := 4) rfl (nI_1 k_3) (by decide) rfl (fun ls hl => ?_)
          refine lv_goto (tgt := 12) C.x C.b dX0_cheapest_49 (by decide) ?_
          exact ih_5 (k_3 + 1) (nI k_3) g_6 _ _ _ (by omega)  hKp hS (lv_sub hl [2, 3, 4, 1, 0] rfl)
        · skip
          refine lv_aload_n C.x C.b dX0_cheapest_33 rfl (lv_at hl 2 rfl) ?_
          refine lv_iload C.x C.b dX0_cheapest_34 (lv_at hl 4 rfl) ?_
          refine lv_iload_n C.x C.b dX0_cheapest_36 rfl (lv_at hl 3 rfl) ?_
          have e_18 : g_6 1 = .inr (3, [.ref (B + (1 + 1)), .ref (B + (1 + 2)), .ref (B + (1 + 3)), .int (nI n)]) := (hKp.1 _ (by omega)).trans p0
          have e_19 : g_6 (1 + 1) = .inl (t.1, 8, .inl o) := (hKp.1 _ (by omega)).trans p1
          have e_20 : g_6 (1 + 2) = .inl (t.1, 8, .inl pr) := (hKp.1 _ (by omega)).trans p2
          have e_21 : g_6 (1 + 3) = .inl (t.1, 8, .inl w) := (hKp.1 _ (by omega)).trans p3
          have e_22 : g_6 5 = .inr (6, [.int ey, .int wi, .int ev]) := (hKp.1 _ (by omega)).trans hW
          refine r_callS (As := [.ref (B + 1), .int (nI k_3), .int b_7]) (rest := []) (k_X0_isBetter l D t B N g_6 _ _ _ _ _ _ _ (nI k_3) b_7 (by omega) ⟨e_18, e_19, e_20, e_21⟩ (by omega) e_22 hKp.2 ) mf_yX0_isBetter mlX0_85 sm_yX0_isBetter (by decide) C hS rfl hl.1 rfl (Nat.le_of_ble_eq_true rfl) dX0_cheapest_37 ⟨Nat.zero_le _, Nat.zero_le _⟩ (fun r_25 g_23 H locs w_24 hS => ?_)
          replace hKp : Kp t B g g_23 := hKp.tr w_24
          refine lv_if_eq (tgt := 46) C.x C.b dX0_cheapest_40 (by decide) (fun c_26 => ?_) (fun c_26 => ?_)
          · skip
            refine lv_iinc (v := nI (k_3 + 1)) (lv' := [(4, .int (nI (k_3 + 1))), (2, .int (nI M)), (0, .ref (B + 113)), (1, .ref (B + 1)), (3, .int b_7)]) C.x C.b dX0_cheapest_46 hl (k := 4) rfl (nI_1 k_3) (by decide) rfl (fun ls hl => ?_)
            refine lv_goto (tgt := 12) C.x C.b dX0_cheapest_49 (by decide) ?_
            exact ih_5 (k_3 + 1) b_7 g_23 _ _ _ (by omega)  hKp hS (lv_sub hl [1, 2, 3, 4, 0] rfl)
          · skip
            refine lv_iload C.x C.b dX0_cheapest_43 (lv_at hl 4 rfl) ?_
            refine lv_istore_n (lv' := [(3, .int (nI k_3)), (2, .int (nI M)), (0, .ref (B + 113)), (1, .ref (B + 1)), (4, .int (nI k_3))]) C.x C.b dX0_cheapest_45 rfl hl (by decide) rfl (fun ls hl => ?_)
            refine lv_iinc (v := nI (k_3 + 1)) (lv' := [(4, .int (nI (k_3 + 1))), (3, .int (nI k_3)), (2, .int (nI M)), (0, .ref (B + 113)), (1, .ref (B + 1))]) C.x C.b dX0_cheapest_46 hl (k := 4) rfl (nI_1 k_3) (by decide) rfl (fun ls hl => ?_)
            refine lv_goto (tgt := 12) C.x C.b dX0_cheapest_49 (by decide) ?_
            exact ih_5 (k_3 + 1) (nI k_3) g_23 _ _ _ (by omega)  hKp hS (lv_sub hl [2, 3, 4, 1, 0] rfl)
  exact lp_1 M 0 (-1) g _ _ _ (by omega)  hKp hS (lv_sub hl [2, 3, 4, 1, 0] rfl)
set_option maxHeartbeats 1000000 in
set_option maxRecDepth 100000 in
theorem k_X0_howMany (l : Launch) (D : va_G) (t : Gx) (B N : Nat) (g : Nat → va_E) (o pr w : Nat → Int32) (n : Nat) (ey wi ev : Int32)  (hN : 220 ≤ N) (hP : isProg t B g 1 o pr w n) (hn : n ≤ 8) (hW : isWat g 5 ey wi ev) (hScr : Scr t B g)  : Ci l D t B N yX0_howMany cX0_howMany 5 (some .int) 0 0 g [.ref (B + 113), .ref (B + 1)] (fun r g' => Kp t B g g') := by
  refine Ci.start (by decide) (Nat.le_of_ble_eq_true rfl) ?_
  intro p e s m below meth c ls C hr hlocks hS hl
  replace C : Cx D t p s m [.ref (B + 113), .ref (B + 1)].toArray c cX0_howMany 5 RX0 := C
  replace hl : lv_has ls 5 [(0, .ref (B + 113)), (1, .ref (B + 1))] := hl
  obtain ⟨p0, p1, p2, p3⟩ := id hP
  have hKp : Kp t B g g := Kp.rf hScr
  refine lv_iconst (v := 1) C.x C.b dX0_howMany_0 (by decide) ?_
  refine lv_aload_n C.x C.b dX0_howMany_1 rfl (lv_at hl 1 rfl) ?_
  refine r_get ck3 flX0_82 C hS (by omega) p0 (by decide) rfl dX0_howMany_2 ?_
  refine lv_ishl C.x C.b dX0_howMany_5 ?_
  obtain ⟨M, hM, eM⟩ := sh1 hn
  refine r_top (y := nI M) eM ?_
  refine lv_istore_n (lv' := [(2, .int (nI M)), (0, .ref (B + 113)), (1, .ref (B + 1))]) C.x C.b dX0_howMany_6 rfl hl (by decide) rfl (fun ls hl => ?_)
  refine lv_iconst (v := 0) C.x C.b dX0_howMany_7 (by decide) ?_
  refine lv_istore_n (lv' := [(3, .int 0), (2, .int (nI M)), (0, .ref (B + 113)), (1, .ref (B + 1))]) C.x C.b dX0_howMany_8 rfl hl (by decide) rfl (fun ls hl => ?_)
  refine lv_iconst (v := 0) C.x C.b dX0_howMany_9 (by decide) ?_
  refine lv_istore (lv' := [(4, .int 0), (3, .int 0), (2, .int (nI M)), (0, .ref (B + 113)), (1, .ref (B + 1))]) C.x C.b dX0_howMany_10 hl (by decide) rfl (fun ls hl => ?_)
  have lp_1 : ∀ (u_2 k_3 : Nat) (b_7 : Int32) (g_6 : Nat → va_E) (H : Heap) (locs : List Loc) (ls : Array Slot), k_3 + u_2 = M → Kp t B g g_6 → St D B s.heap N g_6 H locs → lv_has ls 5 [(2, .int (nI M)), (0, .ref (B + 113)), (1, .ref (B + 1)), (3, .int b_7), (4, .int (nI k_3))] → W p l e (rmOf 0 0 0 0) s m [.ref (B + 113), .ref (B + 1)].toArray below meth c H locs 0 0 (MQ below (qI D B N (fun r g' => Kp t B g g')) [.ref (B + 113), .ref (B + 1)].toArray s 0 0 (fun q => B ≤ q)) (F0 m 12 ls []) := by
    intro u_2
    induction u_2 with
    | zero =>
      intro k_3 b_7 g_6 H locs ls hk_4 hKp hS hl
      obtain rfl : M = k_3 := by omega
      refine lv_iload C.x C.b dX0_howMany_12 (lv_at hl 4 rfl) ?_
      refine lv_iload_n C.x C.b dX0_howMany_14 rfl (lv_at hl 0 rfl) ?_
      refine lv_icmp_ge (tgt := 37) C.x C.b dX0_howMany_15 (by decide) (fun c_8 => ?_) (fun c_8 => absurd (nI_le (Nat.le_refl _) (by omega)) c_8)
      refine lv_iload_n C.x C.b dX0_howMany_37 rfl (lv_at hl 3 rfl) ?_
      exact r_iret C hr hlocks hS hKp dX0_howMany_38
    | succ u_2 ih_5 =>
      intro k_3 b_7 g_6 H locs ls hk_4 hKp hS hl
      refine lv_iload C.x C.b dX0_howMany_12 (lv_at hl 4 rfl) ?_
      refine lv_iload_n C.x C.b dX0_howMany_14 rfl (lv_at hl 0 rfl) ?_
      refine lv_icmp_ge (tgt := 37) C.x C.b dX0_howMany_15 (by decide) (fun c_9 => absurd c_9 (nI_ge (a := k_3) (b := M) (by omega) (by omega))) (fun c_9 => ?_)
      refine lv_aload_n C.x C.b dX0_howMany_18 rfl (lv_at hl 1 rfl) ?_
      obtain ⟨v_10, e_11, hz_12⟩ := hKp.2.2.2.2.2.2.2.2.1
      refine r_get ck0 flX0_9 C hS (by omega) e_11 (by decide) rfl dX0_howMany_19 ?_
      refine lv_iload C.x C.b dX0_howMany_22 (lv_at hl 4 rfl) ?_
      obtain ⟨q_13, e_14, hz_15⟩ := hKp.2.2.2.2.2.2.2.2.2
      refine r_zaldN k_3 rfl (by omega) (by decide) C hS (by omega) e_14 dX0_howMany_24 ?_
      refine lv_if_eq (tgt := 31) C.x C.b dX0_howMany_25 (by decide) (fun c_16 => ?_) (fun c_16 => ?_)
      · skip
        refine lv_iinc (v := nI (k_3 + 1)) (lv' := [(4, .int (nI (k_3 + 1))), (2, .int (nI M)), (0, .ref (B + 113)), (1, .ref (B + 1)), (3, .int b_7)]) C.x C.b dX0_howMany_31 hl (k := 4) rfl (nI_1 k_3) (by decide) rfl (fun ls hl => ?_)
        refine lv_goto (tgt := 12) C.x C.b dX0_howMany_34 (by decide) ?_
        exact ih_5 (k_3 + 1) b_7 g_6 _ _ _ (by omega)  hKp hS (lv_sub hl [1, 2, 3, 4, 0] rfl)
      · skip
        refine lv_iinc (v := (b_7 + 1)) (lv' := [(3, .int (b_7 + 1)), (2, .int (nI M)), (0, .ref (B + 113)), (1, .ref (B + 1)), (4, .int (nI k_3))]) C.x C.b dX0_howMany_28 hl (k := 3) rfl (rfl) (by decide) rfl (fun ls hl => ?_)
        refine lv_iinc (v := nI (k_3 + 1)) (lv' := [(4, .int (nI (k_3 + 1))), (3, .int (b_7 + 1)), (2, .int (nI M)), (0, .ref (B + 113)), (1, .ref (B + 1))]) C.x C.b dX0_howMany_31 hl (k := 4) rfl (nI_1 k_3) (by decide) rfl (fun ls hl => ?_)
        refine lv_goto (tgt := 12) C.x C.b dX0_howMany_34 (by decide) ?_
        exact ih_5 (k_3 + 1) (b_7 + 1) g_6 _ _ _ (by omega)  hKp hS (lv_sub hl [2, 3, 4, 1, 0] rfl)
  exact lp_1 M 0 0 g _ _ _ (by omega)  hKp hS (lv_sub hl [2, 3, 4, 1, 0] rfl)
