/-! the light methods, and what becomes of what is kept -/
def Fgt (t : Gx) (B : Nat) (g : Nat → va_E) : Prop := (∃ cn, g 41 = .inl (t.1, 16, .inl cn) ∧ ∀ a, a < 16 → cn a = 0) ∧ g 113 = .inr (0, [.ref (B + 114), .ref (B + 115), .ref (B + 116), .ref (B + 120), .int 0])
theorem zc_s {cn : Nat → Int32} {k : Nat} (h : ∀ a, a < k → cn a = 0) : ∀ a, a < k + 1 → upd cn k 0 a = 0 := fun a ha => by
  by_cases e : a = k
  · subst e
    rw [up_s]
  · rw [up_n e]
    exact h a (by omega)
set_option maxHeartbeats 1000000 in
set_option maxRecDepth 100000 in
theorem x_X2_forget (l : Launch) (D : va_G) (t : Gx) (B N : Nat) (g : Nat → va_E) (o pr w : Nat → Int32) (n : Nat) (ey wi ev : Int32)  (hN : 220 ≤ N) (hP : isProg t B g 1 o pr w n) (hn : n ≤ 8) (hW : isWat g 5 ey wi ev) (hScr : Scr t B g) : Cv l D t B N N 0 0 yX2_forget cX2_forget 2 0 0 g [.ref (B + 23)] (fun g' => Kp t B g g' ∧ (∃ cn, g' 41 = .inl (t.1, 16, .inl cn) ∧ ∀ a, a < 16 → cn a = 0) ∧ ∀ j, ¬ j = 41 → g' j = g j) := by
  refine Cv.start (by decide) (Nat.le_of_ble_eq_true rfl) ?_
  intro p e s m below meth c ls C hr hlocks hnm hS hl
  replace C : Cx D t p s m [.ref (B + 23)].toArray c cX2_forget 2 RX2 := C
  replace hl : lv_has ls 2 [(0, .ref (B + 23))] := hl
  obtain ⟨p0, p1, p2, p3⟩ := id hP
  have hKp : Kp t B g g := Kp.rf hScr
  refine lv_iconst (v := 0) C.x C.b dX2_forget_0 (by decide) ?_
  refine lv_istore_n (lv' := [(1, .int 0), (0, .ref (B + 23))]) C.x C.b dX2_forget_1 rfl hl (by decide) rfl (fun ls hl => ?_)
  have lp_1 : ∀ (u_2 k_3 : Nat) (g_6 : Nat → va_E) (H : Heap) (locs : List Loc) (ls : Array Slot), k_3 + u_2 = 16 → ((∃ cn, g_6 41 = .inl (t.1, 16, .inl cn) ∧ ∀ a, a < k_3 → cn a = 0)) → (∀ j, ¬ j = 41 → g_6 j = g j) → Kp t B g g_6 → St D B s.heap N g_6 H locs → lv_has ls 2 [(0, .ref (B + 23)), (1, .int (nI k_3))] → W p l e (rmOf 0 0 0 0) s m [.ref (B + 23)].toArray below meth c H locs 0 0 (MQ below (qV D B N (fun g' => Kp t B g g' ∧ (∃ cn, g' 41 = .inl (t.1, 16, .inl cn) ∧ ∀ a, a < 16 → cn a = 0) ∧ ∀ j, ¬ j = 41 → g' j = g j)) [.ref (B + 23)].toArray s 0 0 (fun q => B ≤ q)) (F0 m 2 ls []) := by
    intro u_2
    induction u_2 with
    | zero =>
      intro k_3 g_6 H locs ls hk_4 hc0_7 hz_8 hKp hS hl
      obtain rfl : 16 = k_3 := by omega
      refine lv_iload_n C.x C.b dX2_forget_2 rfl (lv_at hl 1 rfl) ?_
      refine lv_bipush (v := 16) C.x C.b dX2_forget_3 (by decide) ?_
      refine lv_icmp_ge (tgt := 21) C.x C.b dX2_forget_5 (by decide) (fun c_9 => ?_) (fun c_9 => absurd (by decide) c_9)
      exact r_vret C hr hlocks hS ⟨hKp, hc0_7, hz_8⟩ dX2_forget_21
    | succ u_2 ih_5 =>
      intro k_3 g_6 H locs ls hk_4 hc0_7 hz_8 hKp hS hl
      obtain ⟨cn_10, e_11, hcn_12⟩ := hc0_7
      refine lv_iload_n C.x C.b dX2_forget_2 rfl (lv_at hl 1 rfl) ?_
      refine lv_bipush (v := 16) C.x C.b dX2_forget_3 (by decide) ?_
      refine lv_icmp_ge (tgt := 21) C.x C.b dX2_forget_5 (by decide) (fun c_13 => absurd c_13 (nI_ge (a := k_3) (b := 16) (by omega) (by decide))) (fun c_13 => ?_)
      refine lv_aload_n C.x C.b dX2_forget_8 rfl (lv_at hl 0 rfl) ?_
      have e_14 := hKp.2.2.2.2.2.1.1
      refine r_get ck2 flX2_16 C hS (by omega) e_14 (by decide) rfl dX2_forget_9 ?_
      refine lv_iload_n C.x C.b dX2_forget_12 rfl (lv_at hl 1 rfl) ?_
      refine lv_iconst (v := 0) C.x C.b dX2_forget_13 (by decide) ?_
      refine r_iastN k_3 rfl (by omega) (by decide) C hS (by omega) e_11 dX2_forget_14 (fun g_15 H locs e_16 o_17 hS => ?_)
      replace e_16 : g_15 41 = .inl (t.1, 16, .inl (upd cn_10 k_3 0)) := e_16
      replace hKp : Kp t B g g_15 := hKp.cnt e_16 o_17
      refine lv_iinc (v := nI (k_3 + 1)) (lv' := [(1, .int (nI (k_3 + 1))), (0, .ref (B + 23))]) C.x C.b dX2_forget_15 hl (k := 1) rfl (nI_1 k_3) (by decide) rfl (fun ls hl => ?_)
      refine lv_goto (tgt := 2) C.x C.b dX2_forget_18 (by decide) ?_
      exact ih_5 (k_3 + 1) g_15 _ _ _ (by omega) ⟨_, e_16, zc_s hcn_12⟩ (fun j hj => (o_17 j hj).trans (hz_8 j hj)) hKp hS (lv_sub hl [1, 0] rfl)
  exact lp_1 16 0 g _ _ _ (by omega) (hScr.2.2.2.2.2.1.elim fun f9 e9 => ⟨f9, e9, fun a h => absurd h (Nat.not_lt_zero _)⟩) (fun _ _ => rfl) hKp hS (lv_sub hl [1, 0] rfl)
set_option maxHeartbeats 1000000 in
set_option maxRecDepth 100000 in
theorem x_X0_forget (l : Launch) (D : va_G) (t : Gx) (B N : Nat) (g : Nat → va_E) (o pr w : Nat → Int32) (n : Nat) (ey wi ev : Int32)  (hN : 220 ≤ N) (hP : isProg t B g 1 o pr w n) (hn : n ≤ 8) (hW : isWat g 5 ey wi ev) (hScr : Scr t B g) : Cv l D t B N N 0 0 yX0_forget cX0_forget 1 0 0 g [.ref (B + 113)] (fun g' => Kp t B g g' ∧ g' 113 = .inr (0, [.ref (B + 114), .ref (B + 115), .ref (B + 116), .ref (B + 120), .int 0]) ∧ ∀ j, ¬ j = 113 → g' j = g j) := by
  refine Cv.start (by decide) (Nat.le_of_ble_eq_true rfl) ?_
  intro p e s m below meth c ls C hr hlocks hnm hS hl
  replace C : Cx D t p s m [.ref (B + 113)].toArray c cX0_forget 1 RX0 := C
  replace hl : lv_has ls 1 [(0, .ref (B + 113))] := hl
  obtain ⟨p0, p1, p2, p3⟩ := id hP
  have hKp : Kp t B g g := Kp.rf hScr
  refine lv_aload_n C.x C.b dX0_forget_0 rfl (lv_at hl 0 rfl) ?_
  refine lv_iconst (v := 0) C.x C.b dX0_forget_1 (by decide) ?_
  obtain ⟨v_1, e_2, hz_3⟩ := hKp.2.2.2.2.2.2.2.2.1
  refine r_put ck0 flX0_31 C hS (by omega) e_2 (by decide) rfl (nar_z (by decide)) (fit_z (by decide)) (Nat.le_of_ble_eq_true rfl) dX0_forget_2 (fun g_4 H locs e_5 o_6 hS => ?_)
  replace e_5 : g_4 113 = .inr (0, [.ref (B + 114), .ref (B + 115), .ref (B + 116), .ref (B + 120), .int 0]) := e_5
  replace hKp : Kp t B g g_4 := hKp.cur (by decide) e_5 o_6
  exact r_vret C hr hlocks hS ⟨hKp, e_5, o_6⟩ dX0_forget_5
set_option maxHeartbeats 1000000 in
set_option maxRecDepth 100000 in
theorem x_X7_forgetRuns (l : Launch) (D : va_G) (t : Gx) (B N : Nat) (g : Nat → va_E) (o pr w : Nat → Int32) (n : Nat) (ey wi ev : Int32)  (hN : 220 ≤ N) (hP : isProg t B g 1 o pr w n) (hn : n ≤ 8) (hW : isWat g 5 ey wi ev) (hScr : Scr t B g) : Cv l D t B N N 0 0 yX7_forgetRuns cX7_forgetRuns 1 1 21 g [.ref (B + 0)] (fun g' => Kp t B g g' ∧ Fgt t B g') := by
  refine Cv.start (by decide) (Nat.le_of_ble_eq_true rfl) ?_
  intro p e s m below meth c ls C hr hlocks hnm hS hl
  replace C : Cx D t p s m [.ref (B + 0)].toArray c cX7_forgetRuns 1 RX7 := C
  replace hl : lv_has ls 1 [(0, .ref (B + 0))] := hl
  obtain ⟨p0, p1, p2, p3⟩ := id hP
  have hKp : Kp t B g g := Kp.rf hScr
  refine lv_aload_n C.x C.b dX7_forgetRuns_0 rfl (lv_at hl 0 rfl) ?_
  refine lv_iconst (v := (-1)) C.x C.b dX7_forgetRuns_1 (by decide) ?_
  obtain ⟨v_1, e_2⟩ := hKp.2.1
  refine r_put ck7 flX7_61 C hS (by omega) e_2 (by decide) rfl rfl rfl (Nat.le_of_ble_eq_true rfl) dX7_forgetRuns_2 (fun g_3 H locs e_4 o_5 hS => ?_)
  replace e_4 : g_3 0 = .inr (7, [.ref (B + 1), .ref (B + 5), .ref (B + 6), .ref (B + 9), .ref (B + 15), .ref (B + 19), .ref (B + 23), .ref (B + 113), .int (-1)]) := e_4
  replace hKp : Kp t B g g_3 := hKp.top e_4 o_5
  refine lv_aload_n C.x C.b dX7_forgetRuns_5 rfl (lv_at hl 0 rfl) ?_
  refine r_get ck7 flX7_50 C hS (by omega) e_4 (by decide) rfl dX7_forgetRuns_6 ?_
  have e_6 : g_3 1 = .inr (3, [.ref (B + (1 + 1)), .ref (B + (1 + 2)), .ref (B + (1 + 3)), .int (nI n)]) := (hKp.1 _ (by omega)).trans p0
  have e_7 : g_3 (1 + 1) = .inl (t.1, 8, .inl o) := (hKp.1 _ (by omega)).trans p1
  have e_8 : g_3 (1 + 2) = .inl (t.1, 8, .inl pr) := (hKp.1 _ (by omega)).trans p2
  have e_9 : g_3 (1 + 3) = .inl (t.1, 8, .inl w) := (hKp.1 _ (by omega)).trans p3
  have e_10 : g_3 5 = .inr (6, [.int ey, .int wi, .int ev]) := (hKp.1 _ (by omega)).trans hW
  have e_14 := hKp.2.2.2.2.2.1.1
  refine r_callVv (b := 23) (As := []) (rest := []) (x_X2_forget l D t B N g_3 _ _ _ _ _ _ _ (by omega) ⟨e_6, e_7, e_8, e_9⟩ (by omega) e_10 hKp.2) mf_yX2_forget mlX7_107 im_yX2_forget se_yX2_forget (by decide) C hS (by omega) e_14 (show vwCl[2]? = some _ from rfl) rfl rfl hl.1 rfl (Nat.le_of_ble_eq_true rfl) dX7_forgetRuns_9 ⟨Nat.zero_le _, Nat.zero_le _⟩ (fun g_11 H locs w_12 hS => ?_)
  obtain ⟨w_12, hc_15, hf_16⟩ := w_12
  replace hKp : Kp t B g g_11 := hKp.tr w_12
  refine lv_aload_n C.x C.b dX7_forgetRuns_12 rfl (lv_at hl 0 rfl) ?_
  obtain ⟨v_17, e_18⟩ := hKp.2.1
  refine r_get ck7 flX7_57 C hS (by omega) e_18 (by decide) rfl dX7_forgetRuns_13 ?_
  have e_19 : g_11 1 = .inr (3, [.ref (B + (1 + 1)), .ref (B + (1 + 2)), .ref (B + (1 + 3)), .int (nI n)]) := (hKp.1 _ (by omega)).trans p0
  have e_20 : g_11 (1 + 1) = .inl (t.1, 8, .inl o) := (hKp.1 _ (by omega)).trans p1
  have e_21 : g_11 (1 + 2) = .inl (t.1, 8, .inl pr) := (hKp.1 _ (by omega)).trans p2
  have e_22 : g_11 (1 + 3) = .inl (t.1, 8, .inl w) := (hKp.1 _ (by omega)).trans p3
  have e_23 : g_11 5 = .inr (6, [.int ey, .int wi, .int ev]) := (hKp.1 _ (by omega)).trans hW
  obtain ⟨v_27, e_28, hz_29⟩ := hKp.2.2.2.2.2.2.2.2.1
  refine r_callVv (b := 113) (As := []) (rest := []) (x_X0_forget l D t B N g_11 _ _ _ _ _ _ _ (by omega) ⟨e_19, e_20, e_21, e_22⟩ (by omega) e_23 hKp.2) mf_yX0_forget mlX7_201 im_yX0_forget se_yX0_forget (by decide) C hS (by omega) e_28 (show vwCl[0]? = some _ from rfl) rfl rfl hl.1 rfl (Nat.le_of_ble_eq_true rfl) dX7_forgetRuns_16 ⟨Nat.zero_le _, Nat.zero_le _⟩ (fun g_24 H locs w_25 hS => ?_)
  obtain ⟨w_25, hk_30, hf_31⟩ := w_25
  replace hKp : Kp t B g g_24 := hKp.tr w_25
  exact r_vret C hr hlocks hS ⟨hKp, ⟨hc_15.elim fun c9 q9 => ⟨c9, (hf_31 _ (by omega)).trans q9.1, q9.2⟩, hk_30⟩⟩ dX7_forgetRuns_19
set_option maxHeartbeats 1000000 in
set_option maxRecDepth 100000 in
theorem x_X7_order (l : Launch) (D : va_G) (t : Gx) (B N : Nat) (g : Nat → va_E) (o pr w : Nat → Int32) (n : Nat) (ey wi ev : Int32) (x : Int32) (hN : 220 ≤ N) (hP : isProg t B g 1 o pr w n) (hn : n ≤ 8) (hW : isWat g 5 ey wi ev) (hScr : Scr t B g)  : Ci l D t B N yX7_order cX7_order 3 (some .int) 2 41 g [.ref (B + 0), .int x] (fun r g' => (inP 40960 x ∧ n < 8 ∧ r = nI n ∧ Cst t B g' (upd o n x) (upd pr n 1) w (n + 1) ey wi ev ∧ ((∀ j, 220 ≤ j → g' j = g j) ∧ Fgt t B g')) ∨ (¬ (inP 40960 x ∧ n < 8) ∧ r = -1 ∧ Cst t B g' o pr w n ey wi ev ∧ (∀ j, 6 ≤ j → g' j = g j))) := by
  refine Ci.start (by decide) (Nat.le_of_ble_eq_true rfl) ?_
  intro p e s m below meth c ls C hr hlocks hS hl
  replace C : Cx D t p s m [.ref (B + 0), .int x].toArray c cX7_order 3 RX7 := C
  replace hl : lv_has ls 3 [(0, .ref (B + 0)), (1, .int x)] := hl
  obtain ⟨p0, p1, p2, p3⟩ := id hP
  have hKp : Kp t B g g := Kp.rf hScr
  have hFr : ∀ j, 6 ≤ j → g j = g j := fun _ _ => rfl
  refine lv_iload_n C.x C.b dX7_order_0 rfl (lv_at hl 1 rfl) ?_
  refine r_callS (As := [.int x]) (rest := []) (c_X7_isOrder l D t B N g x) mf_yX7_isOrder mlX7_65 sm_yX7_isOrder (by decide) C hS rfl hl.1 rfl (Nat.le_of_ble_eq_true rfl) dX7_order_1 ⟨Nat.zero_le _, Nat.zero_le _⟩ (fun r_3 g_1 H locs w_2 hS => ?_)
  obtain ⟨rfl, er_3⟩ := w_2
  by_cases b_4 : inP 40960 x
  · rw [bz_t b_4] at er_3
    subst er_3
    refine lv_if_eq (tgt := 19) C.x C.b dX7_order_4 (by decide) (fun c_5 => absurd c_5 (by decide)) (fun c_5 => ?_)
    refine lv_aload_n C.x C.b dX7_order_7 rfl (lv_at hl 0 rfl) ?_
    obtain ⟨v_6, e_7⟩ := hKp.2.1
    refine r_get ck7 flX7_12 C hS (by omega) e_7 (by decide) rfl dX7_order_8 ?_
    refine r_get ck3 flX7_69 C hS (by omega) p0 (by decide) rfl dX7_order_11 ?_
    refine lv_bipush (v := 8) C.x C.b dX7_order_14 (by decide) ?_
    refine lv_icmp_lt (tgt := 21) C.x C.b dX7_order_16 (by decide) (fun c_8 => ?_) (fun c_8 => ?_)
    · skip
      have hn8 : n < 8 := by rcases Nat.lt_or_ge n 8 with q | q; exact q; exact absurd c_8 (nI_nlt (a := n) (b := 8) q (by omega))
      refine lv_aload_n C.x C.b dX7_order_21 rfl (lv_at hl 0 rfl) ?_
      refine r_get ck7 flX7_12 C hS (by omega) e_7 (by decide) rfl dX7_order_22 ?_
      refine lv_iload_n C.x C.b dX7_order_25 rfl (lv_at hl 1 rfl) ?_
      refine r_callV (b := 1) (As := [.int x]) (rest := []) (c_X3_append l D t B N g 1 _ _ _ _ x (by omega) ⟨p0, p1, p2, p3⟩ (by omega)) mf_yX3_append mlX7_72 im_yX3_append se_yX3_append (by decide) C hS (by omega) p0 (show vwCl[3]? = some _ from rfl) rfl rfl hl.1 rfl (Nat.le_of_ble_eq_true rfl) dX7_order_26 ⟨Nat.zero_le _, Nat.zero_le _⟩ (fun r_11 g_9 H locs w_10 hS => ?_)
      obtain ⟨er_11, ⟨e_12, e_13, e_14, e_15⟩, hf_16⟩ := w_10
      subst er_11
      have e_17 : g_9 5 = .inr (6, [.int ey, .int wi, .int ev]) := (hf_16 _ (by omega)).trans hW
      replace hFr : ∀ j, 6 ≤ j → g_9 j = g j := fun j hj => (hf_16 j (by omega)).trans (hFr j hj)
      replace hKp : Kp t B g_9 g_9 := Kp.rf (hKp.2.core (fun j hj => hf_16 j (by omega)))
      refine lv_istore_n (lv' := [(2, .int (nI n)), (0, .ref (B + 0)), (1, .int x)]) C.x C.b dX7_order_29 rfl hl (by decide) rfl (fun ls hl => ?_)
      refine lv_aload_n C.x C.b dX7_order_30 rfl (lv_at hl 1 rfl) ?_
      obtain ⟨v_21, e_22⟩ := hKp.2.1
      refine r_callVv (b := 0) (As := []) (rest := []) (x_X7_forgetRuns l D t B N g_9 _ _ _ _ _ _ _ (by omega) ⟨e_12, e_13, e_14, e_15⟩ (by omega) e_17 hKp.2) mf_yX7_forgetRuns mlX7_76 im_yX7_forgetRuns se_yX7_forgetRuns (by decide) C hS (by omega) e_22 (show vwCl[7]? = some _ from rfl) rfl rfl hl.1 rfl (Nat.le_of_ble_eq_true rfl) dX7_order_31 ⟨Nat.zero_le _, Nat.zero_le _⟩ (fun g_18 H locs w_19 hS => ?_)
      obtain ⟨w_19, hg_23⟩ := w_19
      replace hKp : Kp t B g_9 g_18 := hKp.tr w_19
      refine lv_iload_n C.x C.b dX7_order_34 rfl (lv_at hl 0 rfl) ?_
      have e_24 : g_18 1 = .inr (3, [.ref (B + (1 + 1)), .ref (B + (1 + 2)), .ref (B + (1 + 3)), .int (nI (n + 1))]) := (hKp.1 _ (by omega)).trans e_12
      have e_25 : g_18 (1 + 1) = .inl (t.1, 8, .inl (upd o n x)) := (hKp.1 _ (by omega)).trans e_13
      have e_26 : g_18 (1 + 2) = .inl (t.1, 8, .inl (upd pr n 1)) := (hKp.1 _ (by omega)).trans e_14
      have e_27 : g_18 (1 + 3) = .inl (t.1, 8, .inl w) := (hKp.1 _ (by omega)).trans e_15
      have e_28 : g_18 5 = .inr (6, [.int ey, .int wi, .int ev]) := (hKp.1 _ (by omega)).trans e_17
      exact r_iret C hr hlocks hS (Or.inl ⟨b_4, hn8, rfl, ⟨⟨e_24, e_25, e_26, e_27⟩, (by omega), e_28, hKp.2⟩, ⟨fun j hj => (hKp.1 j (Or.inr hj)).trans (hFr j (by omega)), hg_23⟩⟩) dX7_order_35
    · skip
      have hn8 : 8 ≤ n := by rcases Nat.lt_or_ge n 8 with q | q; exact absurd (nI_lt (a := n) (b := 8) q (by decide)) c_8; exact q
      refine lv_iconst (v := (-1)) C.x C.b dX7_order_19 (by decide) ?_
      exact r_iret C hr hlocks hS (Or.inr ⟨(fun q => by omega), rfl, ⟨⟨p0, p1, p2, p3⟩, (by omega), hW, hKp.2⟩, fun j hj => hFr j hj⟩) dX7_order_20
  · rw [bz_f b_4] at er_3
    subst er_3
    refine lv_if_eq (tgt := 19) C.x C.b dX7_order_4 (by decide) (fun c_29 => ?_) (fun c_29 => absurd (by decide) c_29)
    refine lv_iconst (v := (-1)) C.x C.b dX7_order_19 (by decide) ?_
    exact r_iret C hr hlocks hS (Or.inr ⟨(fun q => b_4 q.1), rfl, ⟨⟨p0, p1, p2, p3⟩, (by omega), hW, hKp.2⟩, fun j hj => hFr j hj⟩) dX7_order_20
set_option maxHeartbeats 1000000 in
set_option maxRecDepth 100000 in
theorem x_X7_change (l : Launch) (D : va_G) (t : Gx) (B N : Nat) (g : Nat → va_E) (o pr w : Nat → Int32) (n : Nat) (ey wi ev : Int32) (x y : Int32) (hN : 220 ≤ N) (hP : isProg t B g 1 o pr w n) (hn : n ≤ 8) (hW : isWat g 5 ey wi ev) (hScr : Scr t B g)  : Ci l D t B N yX7_change cX7_change 3 (some .boolean) 2 41 g [.ref (B + 0), .int x, .int y] (fun r g' => (∃ q, q < n ∧ x = nI q ∧ inP 40960 y ∧ r = 1 ∧ Cst t B g' (upd o q y) pr w n ey wi ev ∧ ((∀ j, 220 ≤ j → g' j = g j) ∧ Fgt t B g')) ∨ (¬ (inP n x ∧ inP 40960 y) ∧ r = 0 ∧ Cst t B g' o pr w n ey wi ev ∧ (∀ j, 6 ≤ j → g' j = g j))) := by
  refine Ci.start (by decide) (Nat.le_of_ble_eq_true rfl) ?_
  intro p e s m below meth c ls C hr hlocks hS hl
  replace C : Cx D t p s m [.ref (B + 0), .int x, .int y].toArray c cX7_change 3 RX7 := C
  replace hl : lv_has ls 3 [(0, .ref (B + 0)), (1, .int x), (2, .int y)] := hl
  obtain ⟨p0, p1, p2, p3⟩ := id hP
  have hKp : Kp t B g g := Kp.rf hScr
  have hFr : ∀ j, 6 ≤ j → g j = g j := fun _ _ => rfl
  refine lv_iload_n C.x C.b dX7_change_0 rfl (lv_at hl 2 rfl) ?_
  refine r_callS (As := [.int y]) (rest := []) (c_X7_isOrder l D t B N g y) mf_yX7_isOrder mlX7_65 sm_yX7_isOrder (by decide) C hS rfl hl.1 rfl (Nat.le_of_ble_eq_true rfl) dX7_change_1 ⟨Nat.zero_le _, Nat.zero_le _⟩ (fun r_3 g_1 H locs w_2 hS => ?_)
  obtain ⟨rfl, er_3⟩ := w_2
  by_cases b_4 : inP 40960 y
  · rw [bz_t b_4] at er_3
    subst er_3
    refine lv_if_eq (tgt := 18) C.x C.b dX7_change_4 (by decide) (fun c_5 => absurd c_5 (by decide)) (fun c_5 => ?_)
    refine lv_aload_n C.x C.b dX7_change_7 rfl (lv_at hl 0 rfl) ?_
    obtain ⟨v_6, e_7⟩ := hKp.2.1
    refine r_get ck7 flX7_12 C hS (by omega) e_7 (by decide) rfl dX7_change_8 ?_
    refine lv_iload_n C.x C.b dX7_change_11 rfl (lv_at hl 1 rfl) ?_
    refine r_callV (b := 1) (As := [.int x]) (rest := []) (c_X3_has l D t B N g 1 _ _ _ _ x (by omega) ⟨p0, p1, p2, p3⟩) mf_yX3_has mlX7_79 im_yX3_has se_yX3_has (by decide) C hS (by omega) p0 (show vwCl[3]? = some _ from rfl) rfl rfl hl.1 rfl (Nat.le_of_ble_eq_true rfl) dX7_change_12 ⟨Nat.zero_le _, Nat.zero_le _⟩ (fun r_10 g_8 H locs w_9 hS => ?_)
    obtain ⟨rfl, er_10⟩ := w_9
    by_cases b_11 : inP n x
    · rw [bz_t b_11] at er_10
      subst er_10
      obtain ⟨q, hq, rfl⟩ := inP_nI b_11 (by omega)
      refine lv_if_ne (tgt := 20) C.x C.b dX7_change_15 (by decide) (fun c_12 => ?_) (fun c_12 => absurd c_12 (by decide))
      refine lv_aload_n C.x C.b dX7_change_20 rfl (lv_at hl 0 rfl) ?_
      refine r_get ck7 flX7_12 C hS (by omega) e_7 (by decide) rfl dX7_change_21 ?_
      refine r_get ck3 flX7_82 C hS (by omega) p0 (by decide) rfl dX7_change_24 ?_
      refine lv_iload_n C.x C.b dX7_change_27 rfl (lv_at hl 1 rfl) ?_
      refine lv_iload_n C.x C.b dX7_change_28 rfl (lv_at hl 2 rfl) ?_
      refine r_iastN q rfl (by omega) (by decide) C hS (by omega) p1 dX7_change_29 (fun g_13 H locs e_14 o_15 hS => ?_)
      replace e_14 : g_13 (1 + 1) = .inl (t.1, 8, .inl (upd o q y)) := e_14
      have e_16 : g_13 1 = .inr (3, [.ref (B + (1 + 1)), .ref (B + (1 + 2)), .ref (B + (1 + 3)), .int (nI n)]) := (o_15 _ (by omega)).trans p0
      have e_17 : g_13 (1 + 2) = .inl (t.1, 8, .inl pr) := (o_15 _ (by omega)).trans p2
      have e_18 : g_13 (1 + 3) = .inl (t.1, 8, .inl w) := (o_15 _ (by omega)).trans p3
      have e_19 : g_13 5 = .inr (6, [.int ey, .int wi, .int ev]) := (o_15 _ (by omega)).trans hW
      replace hFr : ∀ j, 6 ≤ j → g_13 j = g j := fun j hj => (o_15 j (by omega)).trans (hFr j hj)
      replace hKp : Kp t B g_13 g_13 := Kp.rf (hKp.2.core (fun j hj => o_15 j (by omega)))
      refine lv_aload_n C.x C.b dX7_change_30 rfl (lv_at hl 0 rfl) ?_
      obtain ⟨v_23, e_24⟩ := hKp.2.1
      refine r_callVv (b := 0) (As := []) (rest := []) (x_X7_forgetRuns l D t B N g_13 _ _ _ _ _ _ _ (by omega) ⟨e_16, e_14, e_17, e_18⟩ (by omega) e_19 hKp.2) mf_yX7_forgetRuns mlX7_76 im_yX7_forgetRuns se_yX7_forgetRuns (by decide) C hS (by omega) e_24 (show vwCl[7]? = some _ from rfl) rfl rfl hl.1 rfl (Nat.le_of_ble_eq_true rfl) dX7_change_31 ⟨Nat.zero_le _, Nat.zero_le _⟩ (fun g_20 H locs w_21 hS => ?_)
      obtain ⟨w_21, hg_25⟩ := w_21
      replace hKp : Kp t B g_13 g_20 := hKp.tr w_21
      refine lv_iconst (v := 1) C.x C.b dX7_change_34 (by decide) ?_
      have e_26 : g_20 1 = .inr (3, [.ref (B + (1 + 1)), .ref (B + (1 + 2)), .ref (B + (1 + 3)), .int (nI n)]) := (hKp.1 _ (by omega)).trans e_16
      have e_27 : g_20 (1 + 1) = .inl (t.1, 8, .inl (upd o q y)) := (hKp.1 _ (by omega)).trans e_14
      have e_28 : g_20 (1 + 2) = .inl (t.1, 8, .inl pr) := (hKp.1 _ (by omega)).trans e_17
      have e_29 : g_20 (1 + 3) = .inl (t.1, 8, .inl w) := (hKp.1 _ (by omega)).trans e_18
      have e_30 : g_20 5 = .inr (6, [.int ey, .int wi, .int ev]) := (hKp.1 _ (by omega)).trans e_19
      exact r_zret C hr hlocks hS (by decide) (Or.inl ⟨q, hq, rfl, b_4, rfl, ⟨⟨e_26, e_27, e_28, e_29⟩, (by omega), e_30, hKp.2⟩, ⟨fun j hj => (hKp.1 j (Or.inr hj)).trans (hFr j (by omega)), hg_25⟩⟩) dX7_change_35
    · rw [bz_f b_11] at er_10
      subst er_10
      refine lv_if_ne (tgt := 20) C.x C.b dX7_change_15 (by decide) (fun c_31 => absurd (by decide) c_31) (fun c_31 => ?_)
      refine lv_iconst (v := 0) C.x C.b dX7_change_18 (by decide) ?_
      exact r_zret C hr hlocks hS (by decide) (Or.inr ⟨(fun q => b_11 q.1), rfl, ⟨⟨p0, p1, p2, p3⟩, (by omega), hW, hKp.2⟩, fun j hj => hFr j hj⟩) dX7_change_19
  · rw [bz_f b_4] at er_3
    subst er_3
    refine lv_if_eq (tgt := 18) C.x C.b dX7_change_4 (by decide) (fun c_32 => ?_) (fun c_32 => absurd (by decide) c_32)
    refine lv_iconst (v := 0) C.x C.b dX7_change_18 (by decide) ?_
    exact r_zret C hr hlocks hS (by decide) (Or.inr ⟨(fun q => b_4 q.2), rfl, ⟨⟨p0, p1, p2, p3⟩, (by omega), hW, hKp.2⟩, fun j hj => hFr j hj⟩) dX7_change_19
set_option maxHeartbeats 1000000 in
set_option maxRecDepth 100000 in
theorem x_X7_clear (l : Launch) (D : va_G) (t : Gx) (B N : Nat) (g : Nat → va_E) (o pr w : Nat → Int32) (n : Nat) (ey wi ev : Int32)  (hN : 220 ≤ N) (hP : isProg t B g 1 o pr w n) (hn : n ≤ 8) (hW : isWat g 5 ey wi ev) (hScr : Scr t B g)  : Cv l D t B N N 0 0 yX7_clear cX7_clear 1 2 41 g [.ref (B + 0)] (fun g' => Cst t B g' o pr w 0 ey wi 0 ∧ ((∀ j, 220 ≤ j → g' j = g j) ∧ Fgt t B g')) := by
  refine Cv.start (by decide) (Nat.le_of_ble_eq_true rfl) ?_
  intro p e s m below meth c ls C hr hlocks hnm hS hl
  replace C : Cx D t p s m [.ref (B + 0)].toArray c cX7_clear 1 RX7 := C
  replace hl : lv_has ls 1 [(0, .ref (B + 0))] := hl
  obtain ⟨p0, p1, p2, p3⟩ := id hP
  have hKp : Kp t B g g := Kp.rf hScr
  have hFr : ∀ j, 6 ≤ j → g j = g j := fun _ _ => rfl
  refine lv_aload_n C.x C.b dX7_clear_0 rfl (lv_at hl 0 rfl) ?_
  obtain ⟨v_1, e_2⟩ := hKp.2.1
  refine r_get ck7 flX7_12 C hS (by omega) e_2 (by decide) rfl dX7_clear_1 ?_
  refine r_callVv (b := 1) (As := []) (rest := []) (c_X3_empty l D t B N g 1 _ _ _ _ (by omega) ⟨p0, p1, p2, p3⟩) mf_yX3_empty mlX7_86 im_yX3_empty se_yX3_empty (by decide) C hS (by omega) p0 (show vwCl[3]? = some _ from rfl) rfl rfl hl.1 rfl (Nat.le_of_ble_eq_true rfl) dX7_clear_4 ⟨Nat.zero_le _, Nat.zero_le _⟩ (fun g_3 H locs w_4 hS => ?_)
  obtain ⟨⟨e_6, e_7, e_8, e_9⟩, hf_10⟩ := w_4
  have e_11 : g_3 (1 + 1) = .inl (t.1, 8, .inl o) := (hf_10 _ (by omega)).trans p1
  have e_12 : g_3 (1 + 2) = .inl (t.1, 8, .inl pr) := (hf_10 _ (by omega)).trans p2
  have e_13 : g_3 (1 + 3) = .inl (t.1, 8, .inl w) := (hf_10 _ (by omega)).trans p3
  have e_14 : g_3 5 = .inr (6, [.int ey, .int wi, .int ev]) := (hf_10 _ (by omega)).trans hW
  replace hFr : ∀ j, 6 ≤ j → g_3 j = g j := fun j hj => (hf_10 j (by omega)).trans (hFr j hj)
  replace hKp : Kp t B g_3 g_3 := Kp.rf (hKp.2.core (fun j hj => hf_10 j (by omega)))
  refine lv_aload_n C.x C.b dX7_clear_7 rfl (lv_at hl 0 rfl) ?_
  obtain ⟨v_15, e_16⟩ := hKp.2.1
  refine r_get ck7 flX7_19 C hS (by omega) e_16 (by decide) rfl dX7_clear_8 ?_
  refine lv_iconst (v := 0) C.x C.b dX7_clear_11 (by decide) ?_
  refine r_put ck6 flX7_89 C hS (by omega) e_14 (by decide) rfl rfl rfl (Nat.le_of_ble_eq_true rfl) dX7_clear_12 (fun g_17 H locs e_18 o_19 hS => ?_)
  replace e_18 : g_17 5 = .inr (6, [.int ey, .int wi, .int 0]) := e_18
  have e_20 : g_17 1 = .inr (3, [.ref (B + (1 + 1)), .ref (B + (1 + 2)), .ref (B + (1 + 3)), .int (nI 0)]) := (o_19 _ (by omega)).trans e_6
  have e_21 : g_17 (1 + 1) = .inl (t.1, 8, .inl o) := (o_19 _ (by omega)).trans e_11
  have e_22 : g_17 (1 + 2) = .inl (t.1, 8, .inl pr) := (o_19 _ (by omega)).trans e_12
  have e_23 : g_17 (1 + 3) = .inl (t.1, 8, .inl w) := (o_19 _ (by omega)).trans e_13
  replace hFr : ∀ j, 6 ≤ j → g_17 j = g j := fun j hj => (o_19 j (by omega)).trans (hFr j hj)
  replace hKp : Kp t B g_17 g_17 := Kp.rf (hKp.2.core (fun j hj => o_19 j (by omega)))
  refine lv_aload_n C.x C.b dX7_clear_15 rfl (lv_at hl 0 rfl) ?_
  obtain ⟨v_27, e_28⟩ := hKp.2.1
  refine r_callVv (b := 0) (As := []) (rest := []) (x_X7_forgetRuns l D t B N g_17 _ _ _ _ _ _ _ (by omega) ⟨e_20, e_21, e_22, e_23⟩ (by omega) e_18 hKp.2) mf_yX7_forgetRuns mlX7_76 im_yX7_forgetRuns se_yX7_forgetRuns (by decide) C hS (by omega) e_28 (show vwCl[7]? = some _ from rfl) rfl rfl hl.1 rfl (Nat.le_of_ble_eq_true rfl) dX7_clear_16 ⟨Nat.zero_le _, Nat.zero_le _⟩ (fun g_24 H locs w_25 hS => ?_)
  obtain ⟨w_25, hg_29⟩ := w_25
  replace hKp : Kp t B g_17 g_24 := hKp.tr w_25
  have e_30 : g_24 1 = .inr (3, [.ref (B + (1 + 1)), .ref (B + (1 + 2)), .ref (B + (1 + 3)), .int (nI 0)]) := (hKp.1 _ (by omega)).trans e_20
  have e_31 : g_24 (1 + 1) = .inl (t.1, 8, .inl o) := (hKp.1 _ (by omega)).trans e_21
  have e_32 : g_24 (1 + 2) = .inl (t.1, 8, .inl pr) := (hKp.1 _ (by omega)).trans e_22
  have e_33 : g_24 (1 + 3) = .inl (t.1, 8, .inl w) := (hKp.1 _ (by omega)).trans e_23
  have e_34 : g_24 5 = .inr (6, [.int ey, .int wi, .int 0]) := (hKp.1 _ (by omega)).trans e_18
  exact r_vret C hr hlocks hS ⟨⟨⟨e_30, e_31, e_32, e_33⟩, (by omega), e_34, hKp.2⟩, ⟨fun j hj => (hKp.1 j (Or.inr hj)).trans (hFr j (by omega)), hg_29⟩⟩ dX7_clear_19
set_option maxHeartbeats 1000000 in
set_option maxRecDepth 100000 in
theorem x_X7_word (l : Launch) (D : va_G) (t : Gx) (B N : Nat) (g : Nat → va_E) (o pr w : Nat → Int32) (n : Nat) (ey wi ev : Int32) (x y : Int32) (hN : 220 ≤ N) (hP : isProg t B g 1 o pr w n) (hn : n ≤ 8) (hW : isWat g 5 ey wi ev) (hScr : Scr t B g)  : Ci l D t B N yX7_word cX7_word 3 (some .boolean) 2 41 g [.ref (B + 0), .int x, .int y] (fun r g' => (∃ q, q < 8 ∧ x = nI q ∧ r = 1 ∧ Cst t B g' o pr (upd w q y) n ey wi ev ∧ ((∀ j, 220 ≤ j → g' j = g j) ∧ Fgt t B g')) ∨ (¬ inP 8 x ∧ r = 0 ∧ Cst t B g' o pr w n ey wi ev ∧ (∀ j, 6 ≤ j → g' j = g j))) := by
  refine Ci.start (by decide) (Nat.le_of_ble_eq_true rfl) ?_
  intro p e s m below meth c ls C hr hlocks hS hl
  replace C : Cx D t p s m [.ref (B + 0), .int x, .int y].toArray c cX7_word 3 RX7 := C
  replace hl : lv_has ls 3 [(0, .ref (B + 0)), (1, .int x), (2, .int y)] := hl
  obtain ⟨p0, p1, p2, p3⟩ := id hP
  have hKp : Kp t B g g := Kp.rf hScr
  have hFr : ∀ j, 6 ≤ j → g j = g j := fun _ _ => rfl
  refine lv_iload_n C.x C.b dX7_word_0 rfl (lv_at hl 1 rfl) ?_
  refine lv_if_lt (tgt := 10) C.x C.b dX7_word_1 (by decide) (fun c_1 => ?_) (fun c_1 => ?_)
  · skip
    refine lv_iconst (v := 0) C.x C.b dX7_word_10 (by decide) ?_
    exact r_zret C hr hlocks hS (by decide) (Or.inr ⟨(fun q => q.1 c_1), rfl, ⟨⟨p0, p1, p2, p3⟩, (by omega), hW, hKp.2⟩, fun j hj => hFr j hj⟩) dX7_word_11
  · skip
    refine lv_iload_n C.x C.b dX7_word_4 rfl (lv_at hl 1 rfl) ?_
    refine lv_bipush (v := 8) C.x C.b dX7_word_5 (by decide) ?_
    refine lv_icmp_lt (tgt := 12) C.x C.b dX7_word_7 (by decide) (fun c_2 => ?_) (fun c_2 => ?_)
    · skip
      obtain ⟨q, hq, rfl⟩ := inP_nI (n := 8) ⟨c_1, lt8 c_2⟩ (by decide)
      refine lv_aload_n C.x C.b dX7_word_12 rfl (lv_at hl 0 rfl) ?_
      obtain ⟨v_3, e_4⟩ := hKp.2.1
      refine r_get ck7 flX7_12 C hS (by omega) e_4 (by decide) rfl dX7_word_13 ?_
      refine r_get ck3 flX7_92 C hS (by omega) p0 (by decide) rfl dX7_word_16 ?_
      refine lv_iload_n C.x C.b dX7_word_19 rfl (lv_at hl 1 rfl) ?_
      refine lv_iload_n C.x C.b dX7_word_20 rfl (lv_at hl 2 rfl) ?_
      refine r_iastN q rfl (by omega) (by decide) C hS (by omega) p3 dX7_word_21 (fun g_5 H locs e_6 o_7 hS => ?_)
      replace e_6 : g_5 (1 + 3) = .inl (t.1, 8, .inl (upd w q y)) := e_6
      have e_8 : g_5 1 = .inr (3, [.ref (B + (1 + 1)), .ref (B + (1 + 2)), .ref (B + (1 + 3)), .int (nI n)]) := (o_7 _ (by omega)).trans p0
      have e_9 : g_5 (1 + 1) = .inl (t.1, 8, .inl o) := (o_7 _ (by omega)).trans p1
      have e_10 : g_5 (1 + 2) = .inl (t.1, 8, .inl pr) := (o_7 _ (by omega)).trans p2
      have e_11 : g_5 5 = .inr (6, [.int ey, .int wi, .int ev]) := (o_7 _ (by omega)).trans hW
      replace hFr : ∀ j, 6 ≤ j → g_5 j = g j := fun j hj => (o_7 j (by omega)).trans (hFr j hj)
      replace hKp : Kp t B g_5 g_5 := Kp.rf (hKp.2.core (fun j hj => o_7 j (by omega)))
      refine lv_aload_n C.x C.b dX7_word_22 rfl (lv_at hl 0 rfl) ?_
      obtain ⟨v_15, e_16⟩ := hKp.2.1
      refine r_callVv (b := 0) (As := []) (rest := []) (x_X7_forgetRuns l D t B N g_5 _ _ _ _ _ _ _ (by omega) ⟨e_8, e_9, e_10, e_6⟩ (by omega) e_11 hKp.2) mf_yX7_forgetRuns mlX7_76 im_yX7_forgetRuns se_yX7_forgetRuns (by decide) C hS (by omega) e_16 (show vwCl[7]? = some _ from rfl) rfl rfl hl.1 rfl (Nat.le_of_ble_eq_true rfl) dX7_word_23 ⟨Nat.zero_le _, Nat.zero_le _⟩ (fun g_12 H locs w_13 hS => ?_)
      obtain ⟨w_13, hg_17⟩ := w_13
      replace hKp : Kp t B g_5 g_12 := hKp.tr w_13
      refine lv_iconst (v := 1) C.x C.b dX7_word_26 (by decide) ?_
      have e_18 : g_12 1 = .inr (3, [.ref (B + (1 + 1)), .ref (B + (1 + 2)), .ref (B + (1 + 3)), .int (nI n)]) := (hKp.1 _ (by omega)).trans e_8
      have e_19 : g_12 (1 + 1) = .inl (t.1, 8, .inl o) := (hKp.1 _ (by omega)).trans e_9
      have e_20 : g_12 (1 + 2) = .inl (t.1, 8, .inl pr) := (hKp.1 _ (by omega)).trans e_10
      have e_21 : g_12 (1 + 3) = .inl (t.1, 8, .inl (upd w q y)) := (hKp.1 _ (by omega)).trans e_6
      have e_22 : g_12 5 = .inr (6, [.int ey, .int wi, .int ev]) := (hKp.1 _ (by omega)).trans e_11
      exact r_zret C hr hlocks hS (by decide) (Or.inl ⟨q, hq, rfl, rfl, ⟨⟨e_18, e_19, e_20, e_21⟩, (by omega), e_22, hKp.2⟩, ⟨fun j hj => (hKp.1 j (Or.inr hj)).trans (hFr j (by omega)), hg_17⟩⟩) dX7_word_27
    · skip
      refine lv_iconst (v := 0) C.x C.b dX7_word_10 (by decide) ?_
      exact r_zret C hr hlocks hS (by decide) (Or.inr ⟨(fun q => c_2 (fa_nle8 q.2)), rfl, ⟨⟨p0, p1, p2, p3⟩, (by omega), hW, hKp.2⟩, fun j hj => hFr j hj⟩) dX7_word_11
set_option maxHeartbeats 1000000 in
set_option maxRecDepth 100000 in
theorem x_X7_watch (l : Launch) (D : va_G) (t : Gx) (B N : Nat) (g : Nat → va_E) (o pr w : Nat → Int32) (n : Nat) (ey wi ev : Int32) (x y : Int32) (hN : 220 ≤ N) (hP : isProg t B g 1 o pr w n) (hn : n ≤ 8) (hW : isWat g 5 ey wi ev) (hScr : Scr t B g)  : Ci l D t B N yX7_watch cX7_watch 3 (some .boolean) 2 41 g [.ref (B + 0), .int x, .int y] (fun r g' => (okE x ∧ isWd y ∧ r = 1 ∧ Cst t B g' o pr w n x y ev ∧ ((∀ j, 220 ≤ j → g' j = g j) ∧ Fgt t B g')) ∨ (¬ (okE x ∧ isWd y) ∧ r = 0 ∧ Cst t B g' o pr w n ey wi ev ∧ (∀ j, 6 ≤ j → g' j = g j))) := by
  refine Ci.start (by decide) (Nat.le_of_ble_eq_true rfl) ?_
  intro p e s m below meth c ls C hr hlocks hS hl
  replace C : Cx D t p s m [.ref (B + 0), .int x, .int y].toArray c cX7_watch 3 RX7 := C
  replace hl : lv_has ls 3 [(0, .ref (B + 0)), (1, .int x), (2, .int y)] := hl
  obtain ⟨p0, p1, p2, p3⟩ := id hP
  have hKp : Kp t B g g := Kp.rf hScr
  have hFr : ∀ j, 6 ≤ j → g j = g j := fun _ _ => rfl
  refine lv_iload_n C.x C.b dX7_watch_0 rfl (lv_at hl 1 rfl) ?_
  refine lv_if_lt (tgt := 17) C.x C.b dX7_watch_1 (by decide) (fun c_1 => ?_) (fun c_1 => ?_)
  · skip
    refine lv_iconst (v := 0) C.x C.b dX7_watch_17 (by decide) ?_
    exact r_zret C hr hlocks hS (by decide) (Or.inr ⟨(fun q => q.1.1 c_1), rfl, ⟨⟨p0, p1, p2, p3⟩, (by omega), hW, hKp.2⟩, fun j hj => hFr j hj⟩) dX7_watch_18
  · skip
    refine lv_iload_n C.x C.b dX7_watch_4 rfl (lv_at hl 1 rfl) ?_
    refine lv_bipush (v := 15) C.x C.b dX7_watch_5 (by decide) ?_
    refine lv_icmp_gt (tgt := 17) C.x C.b dX7_watch_7 (by decide) (fun c_2 => ?_) (fun c_2 => ?_)
    · skip
      refine lv_iconst (v := 0) C.x C.b dX7_watch_17 (by decide) ?_
      exact r_zret C hr hlocks hS (by decide) (Or.inr ⟨(fun q => q.1.2 c_2), rfl, ⟨⟨p0, p1, p2, p3⟩, (by omega), hW, hKp.2⟩, fun j hj => hFr j hj⟩) dX7_watch_18
    · skip
      refine lv_iload_n C.x C.b dX7_watch_10 rfl (lv_at hl 2 rfl) ?_
      refine r_callS (As := [.int y]) (rest := []) (c_X7_isWidth l D t B N g y) mf_yX7_isWidth mlX7_95 sm_yX7_isWidth (by decide) C hS rfl hl.1 rfl (Nat.le_of_ble_eq_true rfl) dX7_watch_11 ⟨Nat.zero_le _, Nat.zero_le _⟩ (fun r_5 g_3 H locs w_4 hS => ?_)
      obtain ⟨rfl, er_5⟩ := w_4
      by_cases b_6 : isWd y
      · rw [bz_t b_6] at er_5
        subst er_5
        refine lv_if_ne (tgt := 19) C.x C.b dX7_watch_14 (by decide) (fun c_7 => ?_) (fun c_7 => absurd c_7 (by decide))
        refine lv_aload_n C.x C.b dX7_watch_19 rfl (lv_at hl 0 rfl) ?_
        obtain ⟨v_8, e_9⟩ := hKp.2.1
        refine r_get ck7 flX7_19 C hS (by omega) e_9 (by decide) rfl dX7_watch_20 ?_
        refine lv_iload_n C.x C.b dX7_watch_23 rfl (lv_at hl 1 rfl) ?_
        refine r_put ck6 flX7_98 C hS (by omega) hW (by decide) rfl rfl rfl (Nat.le_of_ble_eq_true rfl) dX7_watch_24 (fun g_10 H locs e_11 o_12 hS => ?_)
        replace e_11 : g_10 5 = .inr (6, [.int x, .int wi, .int ev]) := e_11
        have e_13 : g_10 1 = .inr (3, [.ref (B + (1 + 1)), .ref (B + (1 + 2)), .ref (B + (1 + 3)), .int (nI n)]) := (o_12 _ (by omega)).trans p0
        have e_14 : g_10 (1 + 1) = .inl (t.1, 8, .inl o) := (o_12 _ (by omega)).trans p1
        have e_15 : g_10 (1 + 2) = .inl (t.1, 8, .inl pr) := (o_12 _ (by omega)).trans p2
        have e_16 : g_10 (1 + 3) = .inl (t.1, 8, .inl w) := (o_12 _ (by omega)).trans p3
        replace hFr : ∀ j, 6 ≤ j → g_10 j = g j := fun j hj => (o_12 j (by omega)).trans (hFr j hj)
        replace hKp : Kp t B g_10 g_10 := Kp.rf (hKp.2.core (fun j hj => o_12 j (by omega)))
        refine lv_aload_n C.x C.b dX7_watch_27 rfl (lv_at hl 0 rfl) ?_
        obtain ⟨v_17, e_18⟩ := hKp.2.1
        refine r_get ck7 flX7_19 C hS (by omega) e_18 (by decide) rfl dX7_watch_28 ?_
        refine lv_iload_n C.x C.b dX7_watch_31 rfl (lv_at hl 2 rfl) ?_
        refine r_put ck6 flX7_101 C hS (by omega) e_11 (by decide) rfl rfl rfl (Nat.le_of_ble_eq_true rfl) dX7_watch_32 (fun g_19 H locs e_20 o_21 hS => ?_)
        replace e_20 : g_19 5 = .inr (6, [.int x, .int y, .int ev]) := e_20
        have e_22 : g_19 1 = .inr (3, [.ref (B + (1 + 1)), .ref (B + (1 + 2)), .ref (B + (1 + 3)), .int (nI n)]) := (o_21 _ (by omega)).trans e_13
        have e_23 : g_19 (1 + 1) = .inl (t.1, 8, .inl o) := (o_21 _ (by omega)).trans e_14
        have e_24 : g_19 (1 + 2) = .inl (t.1, 8, .inl pr) := (o_21 _ (by omega)).trans e_15
        have e_25 : g_19 (1 + 3) = .inl (t.1, 8, .inl w) := (o_21 _ (by omega)).trans e_16
        replace hFr : ∀ j, 6 ≤ j → g_19 j = g j := fun j hj => (o_21 j (by omega)).trans (hFr j hj)
        replace hKp : Kp t B g_19 g_19 := Kp.rf (hKp.2.core (fun j hj => o_21 j (by omega)))
        refine lv_aload_n C.x C.b dX7_watch_35 rfl (lv_at hl 0 rfl) ?_
        obtain ⟨v_29, e_30⟩ := hKp.2.1
        refine r_callVv (b := 0) (As := []) (rest := []) (x_X7_forgetRuns l D t B N g_19 _ _ _ _ _ _ _ (by omega) ⟨e_22, e_23, e_24, e_25⟩ (by omega) e_20 hKp.2) mf_yX7_forgetRuns mlX7_76 im_yX7_forgetRuns se_yX7_forgetRuns (by decide) C hS (by omega) e_30 (show vwCl[7]? = some _ from rfl) rfl rfl hl.1 rfl (Nat.le_of_ble_eq_true rfl) dX7_watch_36 ⟨Nat.zero_le _, Nat.zero_le _⟩ (fun g_26 H locs w_27 hS => ?_)
        obtain ⟨w_27, hg_31⟩ := w_27
        replace hKp : Kp t B g_19 g_26 := hKp.tr w_27
        refine lv_iconst (v := 1) C.x C.b dX7_watch_39 (by decide) ?_
        have e_32 : g_26 1 = .inr (3, [.ref (B + (1 + 1)), .ref (B + (1 + 2)), .ref (B + (1 + 3)), .int (nI n)]) := (hKp.1 _ (by omega)).trans e_22
        have e_33 : g_26 (1 + 1) = .inl (t.1, 8, .inl o) := (hKp.1 _ (by omega)).trans e_23
        have e_34 : g_26 (1 + 2) = .inl (t.1, 8, .inl pr) := (hKp.1 _ (by omega)).trans e_24
        have e_35 : g_26 (1 + 3) = .inl (t.1, 8, .inl w) := (hKp.1 _ (by omega)).trans e_25
        have e_36 : g_26 5 = .inr (6, [.int x, .int y, .int ev]) := (hKp.1 _ (by omega)).trans e_20
        exact r_zret C hr hlocks hS (by decide) (Or.inl ⟨⟨c_1, c_2⟩, b_6, rfl, ⟨⟨e_32, e_33, e_34, e_35⟩, (by omega), e_36, hKp.2⟩, ⟨fun j hj => (hKp.1 j (Or.inr hj)).trans (hFr j (by omega)), hg_31⟩⟩) dX7_watch_40
      · rw [bz_f b_6] at er_5
        subst er_5
        refine lv_if_ne (tgt := 19) C.x C.b dX7_watch_14 (by decide) (fun c_37 => absurd (by decide) c_37) (fun c_37 => ?_)
        refine lv_iconst (v := 0) C.x C.b dX7_watch_17 (by decide) ?_
        exact r_zret C hr hlocks hS (by decide) (Or.inr ⟨(fun q => b_6 q.2), rfl, ⟨⟨p0, p1, p2, p3⟩, (by omega), hW, hKp.2⟩, fun j hj => hFr j hj⟩) dX7_watch_18
set_option maxHeartbeats 1000000 in
set_option maxRecDepth 100000 in
theorem x_X7_even (l : Launch) (D : va_G) (t : Gx) (B N : Nat) (g : Nat → va_E) (o pr w : Nat → Int32) (n : Nat) (ey wi ev : Int32) (x y : Int32) (hN : 220 ≤ N) (hP : isProg t B g 1 o pr w n) (hn : n ≤ 8) (hW : isWat g 5 ey wi ev) (hScr : Scr t B g)  : Ci l D t B N yX7_even cX7_even 3 (some .boolean) 1 21 g [.ref (B + 0), .int x, .int y] (fun r g' => (inP n x ∧ ¬ hev ev x = y ∧ r = 1 ∧ Cst t B g' o pr w n ey wi (ev ^^^ (1 <<< (x &&& 31))) ∧ ((∀ j, 42 ≤ j → g' j = g j) ∧ ∃ cn, g' 41 = .inl (t.1, 16, .inl cn) ∧ ∀ a, a < 16 → cn a = 0)) ∨ (¬ (inP n x ∧ ¬ hev ev x = y) ∧ r = 0 ∧ Cst t B g' o pr w n ey wi ev ∧ (∀ j, 6 ≤ j → g' j = g j))) := by
  refine Ci.start (by decide) (Nat.le_of_ble_eq_true rfl) ?_
  intro p e s m below meth c ls C hr hlocks hS hl
  replace C : Cx D t p s m [.ref (B + 0), .int x, .int y].toArray c cX7_even 3 RX7 := C
  replace hl : lv_has ls 3 [(0, .ref (B + 0)), (1, .int x), (2, .int y)] := hl
  obtain ⟨p0, p1, p2, p3⟩ := id hP
  have hKp : Kp t B g g := Kp.rf hScr
  have hFr : ∀ j, 6 ≤ j → g j = g j := fun _ _ => rfl
  refine lv_aload_n C.x C.b dX7_even_0 rfl (lv_at hl 0 rfl) ?_
  obtain ⟨v_1, e_2⟩ := hKp.2.1
  refine r_get ck7 flX7_12 C hS (by omega) e_2 (by decide) rfl dX7_even_1 ?_
  refine lv_iload_n C.x C.b dX7_even_4 rfl (lv_at hl 1 rfl) ?_
  refine r_callV (b := 1) (As := [.int x]) (rest := []) (c_X3_has l D t B N g 1 _ _ _ _ x (by omega) ⟨p0, p1, p2, p3⟩) mf_yX3_has mlX7_79 im_yX3_has se_yX3_has (by decide) C hS (by omega) p0 (show vwCl[3]? = some _ from rfl) rfl rfl hl.1 rfl (Nat.le_of_ble_eq_true rfl) dX7_even_5 ⟨Nat.zero_le _, Nat.zero_le _⟩ (fun r_5 g_3 H locs w_4 hS => ?_)
  obtain ⟨rfl, er_5⟩ := w_4
  by_cases b_6 : inP n x
  · rw [bz_t b_6] at er_5
    subst er_5
    refine lv_if_eq (tgt := 23) C.x C.b dX7_even_8 (by decide) (fun c_7 => absurd c_7 (by decide)) (fun c_7 => ?_)
    refine lv_aload_n C.x C.b dX7_even_11 rfl (lv_at hl 0 rfl) ?_
    refine r_get ck7 flX7_19 C hS (by omega) e_2 (by decide) rfl dX7_even_12 ?_
    refine lv_iload_n C.x C.b dX7_even_15 rfl (lv_at hl 1 rfl) ?_
    refine r_callV (b := 5) (As := [.int x]) (rest := []) (c_X6_holdsEven l D t B N g 5 _ _ _ x (by omega) hW) mf_yX6_holdsEven mlX7_104 im_yX6_holdsEven se_yX6_holdsEven (by decide) C hS (by omega) hW (show vwCl[6]? = some _ from rfl) rfl rfl hl.1 rfl (Nat.le_of_ble_eq_true rfl) dX7_even_16 ⟨Nat.zero_le _, Nat.zero_le _⟩ (fun r_10 g_8 H locs w_9 hS => ?_)
    obtain ⟨rfl, er_10⟩ := w_9
    subst er_10
    refine r_top (y := (hev ev x)) (rfl) ?_
    refine lv_iload_n C.x C.b dX7_even_19 rfl (lv_at hl 2 rfl) ?_
    refine lv_icmp_ne (tgt := 25) C.x C.b dX7_even_20 (by decide) (fun c_11 => ?_) (fun c_11 => ?_)
    · skip
      refine lv_aload_n C.x C.b dX7_even_25 rfl (lv_at hl 0 rfl) ?_
      refine r_get ck7 flX7_19 C hS (by omega) e_2 (by decide) rfl dX7_even_26 ?_
      refine lv_dup C.x C.b dX7_even_29 rfl ?_
      refine r_get ck6 flX7_89 C hS (by omega) hW (by decide) rfl dX7_even_30 ?_
      refine lv_iconst (v := 1) C.x C.b dX7_even_33 (by decide) ?_
      refine lv_iload_n C.x C.b dX7_even_34 rfl (lv_at hl 1 rfl) ?_
      refine lv_ishl C.x C.b dX7_even_35 ?_
      refine lv_ixor C.x C.b dX7_even_36 ?_
      refine r_put ck6 flX7_89 C hS (by omega) hW (by decide) rfl rfl rfl (Nat.le_of_ble_eq_true rfl) dX7_even_37 (fun g_12 H locs e_13 o_14 hS => ?_)
      replace e_13 : g_12 5 = .inr (6, [.int ey, .int wi, .int (ev ^^^ ((1 : Int32) <<< (x &&& 31)))]) := e_13
      have e_15 : g_12 1 = .inr (3, [.ref (B + (1 + 1)), .ref (B + (1 + 2)), .ref (B + (1 + 3)), .int (nI n)]) := (o_14 _ (by omega)).trans p0
      have e_16 : g_12 (1 + 1) = .inl (t.1, 8, .inl o) := (o_14 _ (by omega)).trans p1
      have e_17 : g_12 (1 + 2) = .inl (t.1, 8, .inl pr) := (o_14 _ (by omega)).trans p2
      have e_18 : g_12 (1 + 3) = .inl (t.1, 8, .inl w) := (o_14 _ (by omega)).trans p3
      replace hFr : ∀ j, 6 ≤ j → g_12 j = g j := fun j hj => (o_14 j (by omega)).trans (hFr j hj)
      replace hKp : Kp t B g_12 g_12 := Kp.rf (hKp.2.core (fun j hj => o_14 j (by omega)))
      refine lv_aload_n C.x C.b dX7_even_40 rfl (lv_at hl 0 rfl) ?_
      obtain ⟨v_19, e_20⟩ := hKp.2.1
      refine r_get ck7 flX7_50 C hS (by omega) e_20 (by decide) rfl dX7_even_41 ?_
      have e_24 := hKp.2.2.2.2.2.1.1
      refine r_callVv (b := 23) (As := []) (rest := []) (x_X2_forget l D t B N g_12 _ _ _ _ _ _ _ (by omega) ⟨e_15, e_16, e_17, e_18⟩ (by omega) e_13 hKp.2) mf_yX2_forget mlX7_107 im_yX2_forget se_yX2_forget (by decide) C hS (by omega) e_24 (show vwCl[2]? = some _ from rfl) rfl rfl hl.1 rfl (Nat.le_of_ble_eq_true rfl) dX7_even_44 ⟨Nat.zero_le _, Nat.zero_le _⟩ (fun g_21 H locs w_22 hS => ?_)
      obtain ⟨w_22, hc_25, hf_26⟩ := w_22
      replace hKp : Kp t B g_12 g_21 := hKp.tr w_22
      refine lv_iconst (v := 1) C.x C.b dX7_even_47 (by decide) ?_
      have e_27 : g_21 1 = .inr (3, [.ref (B + (1 + 1)), .ref (B + (1 + 2)), .ref (B + (1 + 3)), .int (nI n)]) := (hKp.1 _ (by omega)).trans e_15
      have e_28 : g_21 (1 + 1) = .inl (t.1, 8, .inl o) := (hKp.1 _ (by omega)).trans e_16
      have e_29 : g_21 (1 + 2) = .inl (t.1, 8, .inl pr) := (hKp.1 _ (by omega)).trans e_17
      have e_30 : g_21 (1 + 3) = .inl (t.1, 8, .inl w) := (hKp.1 _ (by omega)).trans e_18
      have e_31 : g_21 5 = .inr (6, [.int ey, .int wi, .int (ev ^^^ ((1 : Int32) <<< (x &&& 31)))]) := (hKp.1 _ (by omega)).trans e_13
      exact r_zret C hr hlocks hS (by decide) (Or.inl ⟨b_6, c_11, rfl, ⟨⟨e_27, e_28, e_29, e_30⟩, (by omega), e_31, hKp.2⟩, ⟨fun j hj => (hf_26 j (by omega)).trans (hFr j (by omega)), hc_25⟩⟩) dX7_even_48
    · skip
      refine lv_iconst (v := 0) C.x C.b dX7_even_23 (by decide) ?_
      exact r_zret C hr hlocks hS (by decide) (Or.inr ⟨(fun q => q.2 c_11), rfl, ⟨⟨p0, p1, p2, p3⟩, (by omega), hW, hKp.2⟩, fun j hj => hFr j hj⟩) dX7_even_24
  · rw [bz_f b_6] at er_5
    subst er_5
    refine lv_if_eq (tgt := 23) C.x C.b dX7_even_8 (by decide) (fun c_32 => ?_) (fun c_32 => absurd (by decide) c_32)
    refine lv_iconst (v := 0) C.x C.b dX7_even_23 (by decide) ?_
    exact r_zret C hr hlocks hS (by decide) (Or.inr ⟨(fun q => b_6 q.1), rfl, ⟨⟨p0, p1, p2, p3⟩, (by omega), hW, hKp.2⟩, fun j hj => hFr j hj⟩) dX7_even_24
set_option maxHeartbeats 1000000 in
set_option maxRecDepth 100000 in
theorem x_X7_price (l : Launch) (D : va_G) (t : Gx) (B N : Nat) (g : Nat → va_E) (o pr w : Nat → Int32) (n : Nat) (ey wi ev : Int32) (x y : Int32) (hN : 220 ≤ N) (hP : isProg t B g 1 o pr w n) (hn : n ≤ 8) (hW : isWat g 5 ey wi ev) (hScr : Scr t B g)  : Ci l D t B N yX7_price cX7_price 3 (some .boolean) 1 21 g [.ref (B + 0), .int x, .int y] (fun r g' => (∃ q, q < n ∧ x = nI q ∧ okPr y ∧ r = 1 ∧ Cst t B g' o (upd pr q y) w n ey wi ev ∧ (∀ j, 6 ≤ j → g' j = g j)) ∨ (¬ (inP n x ∧ okPr y) ∧ r = 0 ∧ Cst t B g' o pr w n ey wi ev ∧ (∀ j, 6 ≤ j → g' j = g j))) := by
  refine Ci.start (by decide) (Nat.le_of_ble_eq_true rfl) ?_
  intro p e s m below meth c ls C hr hlocks hS hl
  replace C : Cx D t p s m [.ref (B + 0), .int x, .int y].toArray c cX7_price 3 RX7 := C
  replace hl : lv_has ls 3 [(0, .ref (B + 0)), (1, .int x), (2, .int y)] := hl
  obtain ⟨p0, p1, p2, p3⟩ := id hP
  have hKp : Kp t B g g := Kp.rf hScr
  have hFr : ∀ j, 6 ≤ j → g j = g j := fun _ _ => rfl
  refine lv_aload_n C.x C.b dX7_price_0 rfl (lv_at hl 0 rfl) ?_
  obtain ⟨v_1, e_2⟩ := hKp.2.1
  refine r_get ck7 flX7_12 C hS (by omega) e_2 (by decide) rfl dX7_price_1 ?_
  refine lv_iload_n C.x C.b dX7_price_4 rfl (lv_at hl 1 rfl) ?_
  refine r_callV (b := 1) (As := [.int x]) (rest := []) (c_X3_has l D t B N g 1 _ _ _ _ x (by omega) ⟨p0, p1, p2, p3⟩) mf_yX3_has mlX7_79 im_yX3_has se_yX3_has (by decide) C hS (by omega) p0 (show vwCl[3]? = some _ from rfl) rfl rfl hl.1 rfl (Nat.le_of_ble_eq_true rfl) dX7_price_5 ⟨Nat.zero_le _, Nat.zero_le _⟩ (fun r_5 g_3 H locs w_4 hS => ?_)
  obtain ⟨rfl, er_5⟩ := w_4
  by_cases b_6 : inP n x
  · rw [bz_t b_6] at er_5
    subst er_5
    obtain ⟨q, hq, rfl⟩ := inP_nI b_6 (by omega)
    refine lv_if_eq (tgt := 21) C.x C.b dX7_price_8 (by decide) (fun c_7 => absurd c_7 (by decide)) (fun c_7 => ?_)
    refine lv_iload_n C.x C.b dX7_price_11 rfl (lv_at hl 2 rfl) ?_
    refine lv_if_lt (tgt := 21) C.x C.b dX7_price_12 (by decide) (fun c_8 => ?_) (fun c_8 => ?_)
    · skip
      refine lv_iconst (v := 0) C.x C.b dX7_price_21 (by decide) ?_
      exact r_zret C hr hlocks hS (by decide) (Or.inr ⟨(fun q => q.2.1 c_8), rfl, ⟨⟨p0, p1, p2, p3⟩, (by omega), hW, hKp.2⟩, fun j hj => hFr j hj⟩) dX7_price_22
    · skip
      refine lv_iload_n C.x C.b dX7_price_15 rfl (lv_at hl 2 rfl) ?_
      refine lv_bipush (v := 99) C.x C.b dX7_price_16 (by decide) ?_
      refine lv_icmp_le (tgt := 23) C.x C.b dX7_price_18 (by decide) (fun c_9 => ?_) (fun c_9 => ?_)
      · skip
        refine lv_aload_n C.x C.b dX7_price_23 rfl (lv_at hl 0 rfl) ?_
        refine r_get ck7 flX7_12 C hS (by omega) e_2 (by decide) rfl dX7_price_24 ?_
        refine r_get ck3 flX7_110 C hS (by omega) p0 (by decide) rfl dX7_price_27 ?_
        refine lv_iload_n C.x C.b dX7_price_30 rfl (lv_at hl 1 rfl) ?_
        refine lv_iload_n C.x C.b dX7_price_31 rfl (lv_at hl 2 rfl) ?_
        refine r_iastN q rfl (by omega) (by decide) C hS (by omega) p2 dX7_price_32 (fun g_10 H locs e_11 o_12 hS => ?_)
        replace e_11 : g_10 (1 + 2) = .inl (t.1, 8, .inl (upd pr q y)) := e_11
        have e_13 : g_10 1 = .inr (3, [.ref (B + (1 + 1)), .ref (B + (1 + 2)), .ref (B + (1 + 3)), .int (nI n)]) := (o_12 _ (by omega)).trans p0
        have e_14 : g_10 (1 + 1) = .inl (t.1, 8, .inl o) := (o_12 _ (by omega)).trans p1
        have e_15 : g_10 (1 + 3) = .inl (t.1, 8, .inl w) := (o_12 _ (by omega)).trans p3
        have e_16 : g_10 5 = .inr (6, [.int ey, .int wi, .int ev]) := (o_12 _ (by omega)).trans hW
        replace hFr : ∀ j, 6 ≤ j → g_10 j = g j := fun j hj => (o_12 j (by omega)).trans (hFr j hj)
        replace hKp : Kp t B g_10 g_10 := Kp.rf (hKp.2.core (fun j hj => o_12 j (by omega)))
        refine lv_iconst (v := 1) C.x C.b dX7_price_33 (by decide) ?_
        exact r_zret C hr hlocks hS (by decide) (Or.inl ⟨q, hq, rfl, ⟨c_8, c_9⟩, rfl, ⟨⟨e_13, e_14, e_11, e_15⟩, (by omega), e_16, hKp.2⟩, fun j hj => hFr j hj⟩) dX7_price_34
      · skip
        refine lv_iconst (v := 0) C.x C.b dX7_price_21 (by decide) ?_
        exact r_zret C hr hlocks hS (by decide) (Or.inr ⟨(fun q => c_9 q.2.2), rfl, ⟨⟨p0, p1, p2, p3⟩, (by omega), hW, hKp.2⟩, fun j hj => hFr j hj⟩) dX7_price_22
  · rw [bz_f b_6] at er_5
    subst er_5
    refine lv_if_eq (tgt := 21) C.x C.b dX7_price_8 (by decide) (fun c_17 => ?_) (fun c_17 => absurd (by decide) c_17)
    refine lv_iconst (v := 0) C.x C.b dX7_price_21 (by decide) ?_
    exact r_zret C hr hlocks hS (by decide) (Or.inr ⟨(fun q => b_6 q.1), rfl, ⟨⟨p0, p1, p2, p3⟩, (by omega), hW, hKp.2⟩, fun j hj => hFr j hj⟩) dX7_price_22
