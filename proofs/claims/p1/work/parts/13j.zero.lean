/-! reached, where the program has no place -/
def ze_vi (x : va_E) : Int32 := match x with
  | .inr (_, [_, _, _, _, _, _, _, .int v, _, _]) => v
  | _ => 0
def ze_to (x : va_E) : Int32 := match x with
  | .inr (_, [_, _, _, _, _, _, _, _, .int v]) => v
  | _ => 0
def ze_n (x : va_E) : Int32 := match x with
  | .inr (_, _ :: .int v :: _) => v
  | _ => 0
theorem ze_in : ¬ inP 0 (0 : Int32) := fun q => q.2 (by decide)
theorem ze_S {o w : Nat → Int32} {R : Nat} : obS o 0 w R = 0 := by
  have e : mgo o 0 R (39 + 1) (rgM zz R, cpF w zz 8, 0, zz, zz, zz, 0) = (rgM zz R, cpF w zz 8, 0, zz, zz, zz, 0) := by
    rw [mgo]
    exact if_neg ze_in
  show (mgo o 0 R (39 + 1) (rgM zz R, cpF w zz 8, 0, zz, zz, zz, 0)).2.2.2.2.2.2 = 0
  rw [e]
theorem z_go (l : Launch) (D : va_G) (t : Gx) (B N : Nat) (g : Nat → va_E) (o pr w : Nat → Int32) (n : Nat) (ey wi ev : Int32) (i : Nat) (op se : Int32) (hN : 220 ≤ N) (hP : isProg t B g 1 o pr w n) (hW : isWat g 5 ey wi ev) (hn : n ≤ 8) (hi : runId i) (hS : Scr t B g) (hn0 : n = 0) (hz : i ≤ 17 := by omega) : Cv l D t B N N 0 0 yX1_go cX1_go 7 3 78 g [.ref (B + 6), .ref (B + 1), .ref (B + 5), .int op, .int se, .ref (B + i)] (fun g' => KpA t B g g' ∧ ∃ r1 r2 r3 r4 r5 r6 r7 r8 r9, g' i = .inr (5, [r1, r2, r3, r4, r5, r6, r7, .int 0, r8, r9])) := by
  obtain ⟨rg, mm, pt, hM⟩ := hS.2.1
  obtain ⟨ep, ew, en, ct, ec, len, st, vi, an, sp, hR, -, -⟩ := hS.2.2.1 i hi
  have hlo := hi.lo
  refine (c_X1_go l D t B N g rg mm pt o pr w n ey wi ev i ep ew en ct ec len st vi an sp op se (by omega) hM hP hW (by omega) (by omega) hR hn).mono ?_
  intro g' h
  obtain ⟨hG, hf⟩ := h
  subst hn0
  have e : gor o 0 ey wi 40 (rg0 rg op se, cpF w mm 8, 0, ep, ew, en, zf ct 8, zf ec 8, 0, 0, 0) = (rg0 rg op se, cpF w mm 8, 0, ep, ew, en, zf ct 8, zf ec 8, 0, 0, 0) := gor_stop (k := 39) (S := (rg0 rg op se, cpF w mm 8, 0, ep, ew, en, zf ct 8, zf ec 8, 0, 0, 0)) ze_in
  rw [e] at hG
  obtain ⟨h1, h2⟩ := hG
  have h3 : isRun t B g' i ep ew en (zf ct 8) (zf ec 8) 0 0 (viF 0 0 0) (rg0 rg op se 0) (bz (inP 0 (0 : Int32))) := h2
  rw [viF_f ze_in] at h3
  exact ⟨⟨fun j hj => hf j (by omega), hS.go hi ⟨_, _, _, h1⟩ ⟨_, _, _, _, _, _, _, _, _, _, h3, by omega, bz_01 _⟩ hf⟩, _, _, _, _, _, _, _, _, _, h3.1⟩
set_option maxHeartbeats 1000000 in
set_option maxRecDepth 100000 in
theorem z_X7_visitedByAll (l : Launch) (D : va_G) (t : Gx) (B N : Nat) (g : Nat → va_E) (o pr w : Nat → Int32) (n : Nat) (ey wi ev : Int32)  (hN : 220 ≤ N) (hP : isProg t B g 1 o pr w n) (hn : n ≤ 8) (hW : isWat g 5 ey wi ev) (hScr : Scr t B g) (hn0 : n = 0) : Ci l D t B N yX7_visitedByAll cX7_visitedByAll 4 (some .int) 4 104 g [.ref (B + 0)] (fun r g' => KpA t B g g' ∧ r = 0) := by
  refine Ci.start (by decide) (Nat.le_of_ble_eq_true rfl) ?_
  intro p e s m below meth c ls C hr hlocks hS hl
  replace C : Cx D t p s m [.ref (B + 0)].toArray c cX7_visitedByAll 4 RX7 := C
  replace hl : lv_has ls 4 [(0, .ref (B + 0))] := hl
  obtain ⟨p0, p1, p2, p3⟩ := id hP
  have hKp : KpA t B g g := KpA.rf hScr
  refine lv_iconst (v := 0) C.x C.b dX7_visitedByAll_0 (by decide) ?_
  refine lv_istore_n (lv' := [(1, .int 0), (0, .ref (B + 0))]) C.x C.b dX7_visitedByAll_1 rfl hl (by decide) rfl (fun ls hl => ?_)
  refine lv_iconst (v := 0) C.x C.b dX7_visitedByAll_2 (by decide) ?_
  refine lv_istore_n (lv' := [(2, .int 0), (1, .int 0), (0, .ref (B + 0))]) C.x C.b dX7_visitedByAll_3 rfl hl (by decide) rfl (fun ls hl => ?_)
  have lp_1 : ∀ (u_2 k_3 : Nat) (b_7 : Int32) (g_6 : Nat → va_E) (H : Heap) (locs : List Loc) (ls : Array Slot), k_3 + u_2 = 16 → b_7 = 0 → KpA t B g g_6 → St D B s.heap N g_6 H locs → lv_has ls 4 [(0, .ref (B + 0)), (1, .int b_7), (2, .int (nI k_3))] → W p l e (rmOf 4 104 0 0) s m [.ref (B + 0)].toArray below meth c H locs 0 0 (MQ below (qI D B N (fun r g' => KpA t B g g' ∧ r = 0)) [.ref (B + 0)].toArray s 0 0 (fun q => B ≤ q)) (F0 m 4 ls []) := by
    intro u_2
    induction u_2 with
    | zero =>
      intro k_3 b_7 g_6 H locs ls hk_4 hb_7 hKp hS hl
      obtain rfl : 16 = k_3 := by omega
      refine lv_iload_n C.x C.b dX7_visitedByAll_4 rfl (lv_at hl 2 rfl) ?_
      refine lv_bipush (v := 16) C.x C.b dX7_visitedByAll_5 (by decide) ?_
      refine lv_icmp_ge (tgt := 61) C.x C.b dX7_visitedByAll_7 (by decide) (fun c_8 => ?_) (fun c_8 => absurd (by decide) c_8)
      refine lv_iload_n C.x C.b dX7_visitedByAll_61 rfl (lv_at hl 1 rfl) ?_
      exact r_iret C hr hlocks hS ⟨hKp, hb_7⟩ dX7_visitedByAll_62
    | succ u_2 ih_5 =>
      intro k_3 b_7 g_6 H locs ls hk_4 hb_7 hKp hS hl
      refine lv_iload_n C.x C.b dX7_visitedByAll_4 rfl (lv_at hl 2 rfl) ?_
      refine lv_bipush (v := 16) C.x C.b dX7_visitedByAll_5 (by decide) ?_
      refine lv_icmp_ge (tgt := 61) C.x C.b dX7_visitedByAll_7 (by decide) (fun c_9 => absurd c_9 (nI_ge (a := k_3) (b := 16) (by omega) (by decide))) (fun c_9 => ?_)
      refine lv_iconst (v := 0) C.x C.b dX7_visitedByAll_10 (by decide) ?_
      refine lv_istore_n (lv' := [(3, .int 0), (0, .ref (B + 0)), (1, .int b_7), (2, .int (nI k_3))]) C.x C.b dX7_visitedByAll_11 rfl hl (by decide) rfl (fun ls hl => ?_)
      have lp_10 : ∀ (u_11 k_12 : Nat) (b_16 : Int32) (g_15 : Nat → va_E) (H : Heap) (locs : List Loc) (ls : Array Slot), k_12 + u_11 = 16 → b_16 = 0 → KpA t B g g_15 → St D B s.heap N g_15 H locs → lv_has ls 4 [(0, .ref (B + 0)), (2, .int (nI k_3)), (1, .int b_16), (3, .int (nI k_12))] → W p l e (rmOf 4 104 0 0) s m [.ref (B + 0)].toArray below meth c H locs 0 0 (MQ below (qI D B N (fun r g' => KpA t B g g' ∧ r = 0)) [.ref (B + 0)].toArray s 0 0 (fun q => B ≤ q)) (F0 m 12 ls []) := by
        intro u_11
        induction u_11 with
        | zero =>
          intro k_12 b_16 g_15 H locs ls hk_13 hb_16 hKp hS hl
          obtain rfl : 16 = k_12 := by omega
          refine lv_iload_n C.x C.b dX7_visitedByAll_12 rfl (lv_at hl 3 rfl) ?_
          refine lv_bipush (v := 16) C.x C.b dX7_visitedByAll_13 (by decide) ?_
          refine lv_icmp_ge (tgt := 55) C.x C.b dX7_visitedByAll_15 (by decide) (fun c_17 => ?_) (fun c_17 => absurd (by decide) c_17)
          refine lv_iinc (v := nI (k_3 + 1)) (lv' := [(2, .int (nI (k_3 + 1))), (0, .ref (B + 0)), (1, .int b_16), (3, .int (nI 16))]) C.x C.b dX7_visitedByAll_55 hl (k := 1) rfl (nI_1 k_3) (by decide) rfl (fun ls hl => ?_)
          refine lv_goto (tgt := 4) C.x C.b dX7_visitedByAll_58 (by decide) ?_
          exact ih_5 (k_3 + 1) b_16 g_15 _ _ _ (by omega) hb_16 hKp hS (lv_sub hl [1, 2, 0] rfl)
        | succ u_11 ih_14 =>
          intro k_12 b_16 g_15 H locs ls hk_13 hb_16 hKp hS hl
          refine lv_iload_n C.x C.b dX7_visitedByAll_12 rfl (lv_at hl 3 rfl) ?_
          refine lv_bipush (v := 16) C.x C.b dX7_visitedByAll_13 (by decide) ?_
          refine lv_icmp_ge (tgt := 55) C.x C.b dX7_visitedByAll_15 (by decide) (fun c_18 => absurd c_18 (nI_ge (a := k_12) (b := 16) (by omega) (by decide))) (fun c_18 => ?_)
          refine lv_aload_n C.x C.b dX7_visitedByAll_18 rfl (lv_at hl 0 rfl) ?_
          obtain ⟨v_19, e_20⟩ := hKp.2.1
          refine r_get ck7 flX7_26 C hS (by omega) e_20 (by decide) rfl dX7_visitedByAll_19 ?_
          refine lv_aload_n C.x C.b dX7_visitedByAll_22 rfl (lv_at hl 0 rfl) ?_
          refine r_get ck7 flX7_12 C hS (by omega) e_20 (by decide) rfl dX7_visitedByAll_23 ?_
          refine lv_aload_n C.x C.b dX7_visitedByAll_26 rfl (lv_at hl 0 rfl) ?_
          refine r_get ck7 flX7_19 C hS (by omega) e_20 (by decide) rfl dX7_visitedByAll_27 ?_
          refine lv_iload_n C.x C.b dX7_visitedByAll_30 rfl (lv_at hl 1 rfl) ?_
          refine lv_iload_n C.x C.b dX7_visitedByAll_31 rfl (lv_at hl 3 rfl) ?_
          refine lv_aload_n C.x C.b dX7_visitedByAll_32 rfl (lv_at hl 0 rfl) ?_
          refine r_get ck7 flX7_33 C hS (by omega) e_20 (by decide) rfl dX7_visitedByAll_33 ?_
          have e_21 : g_15 1 = .inr (3, [.ref (B + (1 + 1)), .ref (B + (1 + 2)), .ref (B + (1 + 3)), .int (nI n)]) := (hKp.1 _ (by omega)).trans p0
          have e_22 : g_15 (1 + 1) = .inl (t.1, 8, .inl o) := (hKp.1 _ (by omega)).trans p1
          have e_23 : g_15 (1 + 2) = .inl (t.1, 8, .inl pr) := (hKp.1 _ (by omega)).trans p2
          have e_24 : g_15 (1 + 3) = .inl (t.1, 8, .inl w) := (hKp.1 _ (by omega)).trans p3
          have e_25 : g_15 5 = .inr (6, [.int ey, .int wi, .int ev]) := (hKp.1 _ (by omega)).trans hW
          obtain ⟨q_29, q_30, q_31, ⟨e_32, e_33, e_34⟩⟩ := hKp.2.2.1
          refine r_callVv (b := 6) (As := [.ref (B + 1), .ref (B + 5), .int (nI k_3), .int (nI k_12), .ref (B + 9)]) (rest := []) (z_go l D t B N g_15 _ _ _ _ _ _ _ 9 (nI k_3) (nI k_12) (by omega) ⟨e_21, e_22, e_23, e_24⟩ e_25 (by omega) (Or.inl rfl) hKp.2 hn0) mf_yX1_go mlX7_202 im_yX1_go se_yX1_go (by decide) C hS (by omega) e_32 (show vwCl[1]? = some _ from rfl) rfl rfl hl.1 rfl (Nat.le_of_ble_eq_true rfl) dX7_visitedByAll_36 ⟨Nat.zero_le _, Nat.zero_le _⟩ (fun g_26 H locs w_27 hS => ?_)
          obtain ⟨w_27, z1, z2, z3, z4, z5, z6, z7, z8, z9, hz⟩ := w_27
          replace hKp : KpA t B g g_26 := hKp.tr w_27
          refine lv_iload_n C.x C.b dX7_visitedByAll_39 rfl (lv_at hl 2 rfl) ?_
          refine lv_aload_n C.x C.b dX7_visitedByAll_40 rfl (lv_at hl 0 rfl) ?_
          obtain ⟨v_35, e_36⟩ := hKp.2.1
          refine r_get ck7 flX7_33 C hS (by omega) e_36 (by decide) rfl dX7_visitedByAll_41 ?_
          obtain ⟨q_37, q_38, q_39, q_40, q_41, q_42, q_43, q_44, q_45, q_46, ⟨e_47, e_48, e_49, e_50, e_51, e_52⟩, hl_53, hs_54⟩ := hKp.2.2.2.1 9 (Or.inl rfl)
          have hq : q_44 = 0 := congrArg ze_vi (e_47.symm.trans hz)
          refine r_get ck5 flX7_214 C hS (by omega) e_47 (by decide) rfl dX7_visitedByAll_44 ?_
          refine lv_ior C.x C.b dX7_visitedByAll_47 ?_
          refine lv_istore_n (lv' := [(1, .int (b_16 ||| q_44)), (0, .ref (B + 0)), (2, .int (nI k_3)), (3, .int (nI k_12))]) C.x C.b dX7_visitedByAll_48 rfl hl (by decide) rfl (fun ls hl => ?_)
          refine lv_iinc (v := nI (k_12 + 1)) (lv' := [(3, .int (nI (k_12 + 1))), (1, .int (b_16 ||| q_44)), (0, .ref (B + 0)), (2, .int (nI k_3))]) C.x C.b dX7_visitedByAll_49 hl (k := 3) rfl (nI_1 k_12) (by decide) rfl (fun ls hl => ?_)
          refine lv_goto (tgt := 12) C.x C.b dX7_visitedByAll_52 (by decide) ?_
          exact ih_14 (k_12 + 1) (b_16 ||| q_44) g_26 _ _ _ (by omega) (by rw [hb_16, hq]; rfl) hKp hS (lv_sub hl [2, 3, 1, 0] rfl)
      exact lp_10 16 0 b_7 g_6 _ _ _ (by omega) hb_7 hKp hS (lv_sub hl [1, 3, 2, 0] rfl)
  exact lp_1 16 0 0 g _ _ _ (by omega) rfl hKp hS (lv_sub hl [2, 1, 0] rfl)
set_option maxHeartbeats 1000000 in
set_option maxRecDepth 100000 in
theorem z_X7_reached (l : Launch) (D : va_G) (t : Gx) (B N : Nat) (g : Nat → va_E) (o pr w : Nat → Int32) (n : Nat) (ey wi ev : Int32)  (hN : 220 ≤ N) (hP : isProg t B g 1 o pr w n) (hn : n ≤ 8) (hW : isWat g 5 ey wi ev) (hScr : Scr t B g) (hn0 : n = 0) (hF : g 0 = .inr (7, [.ref (B + 1), .ref (B + 5), .ref (B + 6), .ref (B + 9), .ref (B + 15), .ref (B + 19), .ref (B + 23), .ref (B + 113), .int (-1)])) : Ci l D t B N yX7_reached cX7_reached 1 (some .int) 5 127 g [.ref (B + 0)] (fun r g' => KpA t B g g' ∧ r = 0) := by
  refine Ci.start (by decide) (Nat.le_of_ble_eq_true rfl) ?_
  intro p e s m below meth c ls C hr hlocks hS hl
  replace C : Cx D t p s m [.ref (B + 0)].toArray c cX7_reached 1 RX7 := C
  replace hl : lv_has ls 1 [(0, .ref (B + 0))] := hl
  obtain ⟨p0, p1, p2, p3⟩ := id hP
  have hKp : KpA t B g g := KpA.rf hScr
  refine lv_aload_n C.x C.b dX7_reached_0 rfl (lv_at hl 0 rfl) ?_
  obtain ⟨v_1, e_2⟩ := hKp.2.1
  have hv : v_1 = -1 := congrArg ze_to (e_2.symm.trans hF)
  refine r_get ck7 flX7_61 C hS (by omega) e_2 (by decide) rfl dX7_reached_1 ?_
  refine lv_iconst (v := (-1)) C.x C.b dX7_reached_4 (by decide) ?_
  refine lv_icmp_ne (tgt := 16) C.x C.b dX7_reached_5 (by decide) (fun c_3 => ?_) (fun c_3 => ?_)
  · skip
    refine lv_aload_n C.x C.b dX7_reached_16 rfl (lv_at hl 0 rfl) ?_
    refine r_get ck7 flX7_61 C hS (by omega) e_2 (by decide) rfl dX7_reached_17 ?_
    exact r_iret C hr hlocks hS (absurd hv c_3) dX7_reached_20
  · skip
    refine lv_aload_n C.x C.b dX7_reached_8 rfl (lv_at hl 0 rfl) ?_
    refine lv_aload_n C.x C.b dX7_reached_9 rfl (lv_at hl 0 rfl) ?_
    refine r_callV (b := 0) (As := []) (rest := [.ref (B + 0)]) (z_X7_visitedByAll l D t B N g _ _ _ _ _ _ _  (by omega) ⟨p0, p1, p2, p3⟩ (by omega) hW hKp.2 hn0) mf_yX7_visitedByAll mlX7_190 im_yX7_visitedByAll se_yX7_visitedByAll (by decide) C hS (by omega) e_2 (show vwCl[7]? = some _ from rfl) rfl rfl hl.1 rfl (Nat.le_of_ble_eq_true rfl) dX7_reached_10 ⟨Nat.zero_le _, Nat.zero_le _⟩ (fun r_6 g_4 H locs w_5 hS => ?_)
    obtain ⟨w_5, hr0⟩ := w_5
    replace hKp : KpA t B g g_4 := hKp.tr w_5
    obtain ⟨v_7, e_8⟩ := hKp.2.1
    refine r_put ck7 flX7_61 C hS (by omega) e_8 (by decide) rfl rfl rfl (Nat.le_of_ble_eq_true rfl) dX7_reached_13 (fun g_9 H locs e_10 o_11 hS => ?_)
    replace e_10 : g_9 0 = .inr (7, [.ref (B + 1), .ref (B + 5), .ref (B + 6), .ref (B + 9), .ref (B + 15), .ref (B + 19), .ref (B + 23), .ref (B + 113), .int r_6]) := e_10
    replace hKp : KpA t B g g_9 := hKp.top e_10 o_11
    refine lv_aload_n C.x C.b dX7_reached_16 rfl (lv_at hl 0 rfl) ?_
    refine r_get ck7 flX7_61 C hS (by omega) e_10 (by decide) rfl dX7_reached_17 ?_
    exact r_iret C hr hlocks hS ⟨hKp, hr0⟩ dX7_reached_20

set_option maxHeartbeats 1000000 in
set_option maxRecDepth 100000 in
theorem z_X8_reached (l : Launch) (D : va_G) (t : Gx) (B N : Nat) (g : Nat → va_E) (n : Nat) (ey wi ev : Int32) (o pr w : Nat → Int32)  (hN : 236 < N) (hM : Msh t B g n ey wi ev o pr w) (hn : n ≤ 8) (hO : okO o) (hwi : ¬ wi = 0) (hn0 : n = 0) : Ci l D t B N yX8_reached cX8_reached 4 (some .int) 4 95 g [.ref (B + 220)] (fun r g' => Mk t B g g' n ey wi ev o pr w ∧ r = 0) := by
  refine Ci.start (by decide) (Nat.le_of_ble_eq_true rfl) ?_
  intro p e s m below meth c ls C hr hlocks hS hl
  replace C : Cx D t p s m [.ref (B + 220)].toArray c cX8_reached 4 RX8 := C
  replace hl : lv_has ls 4 [(0, .ref (B + 220))] := hl
  have hKp : Mk t B g g n ey wi ev o pr w := Mk.rf hM
  refine lv_aload_n C.x C.b dX8_reached_0 rfl (lv_at hl 0 rfl) ?_
  refine lv_iconst (v := 0) C.x C.b dX8_reached_1 (by decide) ?_
  obtain ⟨td_1, po_2, ps_3, rg_4, mm_5, st_6, an_7, sp_8, pl_9, nu_10, co_11, sm_12, sw_13, sn_14, sq_15, cl_16, ⟨e_17, e_18, e_19, e_20⟩, ⟨e_21, e_22, e_23, e_24, e_25, e_26, e_27, e_28⟩, ⟨e_29, e_30, e_31, e_32⟩, e_33, hSt_34, h01_35, hPl_36, hSm_37⟩ := hKp.2
  replace e_17 : g 220 = .inr (8, [.int td_1, .int (nI n), .ref (B + 221), .ref (B + 222), .ref (B + 223), .int ey, .int wi, .int ev, .ref (B + 224), .ref (B + 225), .ref (B + 226), .ref (B + 227), .ref (B + 228), .ref (B + 229), .ref (B + 230), .ref (B + 231), .ref (B + 232), .ref (B + 233), .ref (B + 234), .ref (B + 235), .ref (B + 236), .int po_2, .int ps_3]) := e_17
  refine r_put ck8 flX8_66 C hS (by omega) e_17 (by decide) rfl rfl rfl (Nat.le_of_ble_eq_true rfl) dX8_reached_2 (fun g_38 H locs e_39 o_40 hS => ?_)
  replace e_39 : g_38 220 = .inr (8, [.int 0, .int (nI n), .ref (B + 221), .ref (B + 222), .ref (B + 223), .int ey, .int wi, .int ev, .ref (B + 224), .ref (B + 225), .ref (B + 226), .ref (B + 227), .ref (B + 228), .ref (B + 229), .ref (B + 230), .ref (B + 231), .ref (B + 232), .ref (B + 233), .ref (B + 234), .ref (B + 235), .ref (B + 236), .int po_2, .int ps_3]) := e_39
  replace hKp : Mk t B g g_38 n ey wi ev o pr w := hKp.obj (td := 0) (po := po_2) (ps := ps_3) e_39 o_40
  refine lv_aload_n C.x C.b dX8_reached_5 rfl (lv_at hl 0 rfl) ?_
  obtain ⟨td_44, po_45, ps_46, rg_47, mm_48, st_49, an_50, sp_51, pl_52, nu_53, co_54, sm_55, sw_56, sn_57, sq_58, cl_59, ⟨e_60, e_61, e_62, e_63⟩, ⟨e_64, e_65, e_66, e_67, e_68, e_69, e_70, e_71⟩, ⟨e_72, e_73, e_74, e_75⟩, e_76, hSt_77, h01_78, hPl_79, hSm_80⟩ := hKp.2
  replace e_60 : g_38 220 = .inr (8, [.int td_44, .int (nI n), .ref (B + 221), .ref (B + 222), .ref (B + 223), .int ey, .int wi, .int ev, .ref (B + 224), .ref (B + 225), .ref (B + 226), .ref (B + 227), .ref (B + 228), .ref (B + 229), .ref (B + 230), .ref (B + 231), .ref (B + 232), .ref (B + 233), .ref (B + 234), .ref (B + 235), .ref (B + 236), .int po_45, .int ps_46]) := e_60
  refine r_callVv (b := 220) (As := []) (rest := []) (ke_goAll l D t B N g_38 _ _ _ _ _ _ _ (by omega) hKp.2 (by omega) hO) mf_yX8_goAll mlX8_115 im_yX8_goAll se_yX8_goAll (by decide) C hS (by omega) e_60 (show vwCl[8]? = some _ from rfl) rfl rfl hl.1 rfl (Nat.le_of_ble_eq_true rfl) dX8_reached_6 ⟨Nat.zero_le _, Nat.zero_le _⟩ (fun g_41 H locs w_42 hS => ?_)
  obtain ⟨w_42, hA⟩ := w_42
  replace hKp : Mk t B g g_41 n ey wi ev o pr w := hKp.tr w_42
  refine lv_iconst (v := 0) C.x C.b dX8_reached_9 (by decide) ?_
  refine lv_istore_n (lv' := [(1, .int 0), (0, .ref (B + 220))]) C.x C.b dX8_reached_10 rfl hl (by decide) rfl (fun ls hl => ?_)
  refine lv_iconst (v := 0) C.x C.b dX8_reached_11 (by decide) ?_
  refine lv_istore_n (lv' := [(2, .int 0), (1, .int 0), (0, .ref (B + 220))]) C.x C.b dX8_reached_12 rfl hl (by decide) rfl (fun ls hl => ?_)
  have lp_81 : ∀ (u_82 k_83 : Nat) (b_87 : Int32) (g_86 : Nat → va_E) (H : Heap) (locs : List Loc) (ls : Array Slot), k_83 + u_82 = 256 → b_87 = 0 → AllAt t g_86 o n w → Mk t B g g_86 n ey wi ev o pr w → St D B s.heap N g_86 H locs → lv_has ls 4 [(0, .ref (B + 220)), (1, .int b_87), (2, .int (nI k_83))] → W p l e (rmOf 4 95 0 0) s m [.ref (B + 220)].toArray below meth c H locs 0 0 (MQ below (qI D B N (fun r g' => Mk t B g g' n ey wi ev o pr w ∧ r = 0)) [.ref (B + 220)].toArray s 0 0 (fun q => B ≤ q)) (F0 m 13 ls []) := by
    intro u_82
    induction u_82 with
    | zero =>
      intro k_83 b_87 g_86 H locs ls hk_84 hb0 hA hKp hS hl
      obtain rfl : 256 = k_83 := by omega
      refine lv_iload_n C.x C.b dX8_reached_13 rfl (lv_at hl 2 rfl) ?_
      refine lv_sipush (v := 256) C.x C.b dX8_reached_14 (by decide) ?_
      refine lv_icmp_ge (tgt := 63) C.x C.b dX8_reached_17 (by decide) (fun c_88 => ?_) (fun c_88 => absurd (by decide) c_88)
      refine lv_iload_n C.x C.b dX8_reached_63 rfl (lv_at hl 1 rfl) ?_
      exact r_iret C hr hlocks hS ⟨hKp, hb0⟩ dX8_reached_64
    | succ u_82 ih_85 =>
      intro k_83 b_87 g_86 H locs ls hk_84 hb0 hA hKp hS hl
      refine lv_iload_n C.x C.b dX8_reached_13 rfl (lv_at hl 2 rfl) ?_
      refine lv_sipush (v := 256) C.x C.b dX8_reached_14 (by decide) ?_
      refine lv_icmp_ge (tgt := 63) C.x C.b dX8_reached_17 (by decide) (fun c_89 => absurd c_89 (nI_ge (a := k_83) (b := 256) (by omega) (by decide))) (fun c_89 => ?_)
      refine lv_bipush (v := 40) C.x C.b dX8_reached_20 (by decide) ?_
      refine lv_iload_n C.x C.b dX8_reached_22 rfl (lv_at hl 2 rfl) ?_
      refine lv_imul C.x C.b dX8_reached_23 ?_
      refine r_top (y := nI (40 * k_83)) (pk_mul 40 k_83) ?_
      refine lv_istore_n (lv' := [(3, .int (nI (40 * k_83))), (0, .ref (B + 220)), (1, .int b_87), (2, .int (nI k_83))]) C.x C.b dX8_reached_24 rfl hl (by decide) rfl (fun ls hl => ?_)
      obtain ⟨td_90, po_91, ps_92, rg_93, mm_94, st_95, an_96, sp_97, pl_98, nu_99, co_100, sm_101, sw_102, sn_103, sq_104, cl_105, ⟨e_106, e_107, e_108, e_109⟩, ⟨e_110, e_111, e_112, e_113, e_114, e_115, e_116, e_117⟩, ⟨e_118, e_119, e_120, e_121⟩, e_122, hSt_123, h01_124, hPl_125, hSm_126⟩ := hKp.2
      replace e_106 : g_86 220 = .inr (8, [.int td_90, .int (nI n), .ref (B + 221), .ref (B + 222), .ref (B + 223), .int ey, .int wi, .int ev, .ref (B + 224), .ref (B + 225), .ref (B + 226), .ref (B + 227), .ref (B + 228), .ref (B + 229), .ref (B + 230), .ref (B + 231), .ref (B + 232), .ref (B + 233), .ref (B + 234), .ref (B + 235), .ref (B + 236), .int po_91, .int ps_92]) := e_106
      obtain ⟨s_127, hs_128, hs_129⟩ := hSt_123 k_83 (by omega)
      obtain ⟨st9, an9, sp9, pl9, nu9, co9, ⟨z1, -⟩, z2⟩ := id hA
      have hst : st_95 = st9 := congrArg ze_f (e_112.symm.trans z1)
      have hs0 : s_127 = 0 := by
        have z3 := (z2 k_83 (by omega)).1
        rw [hn0, ze_S, ← hst, hs_129] at z3
        exact (nI_eq (by omega) (by omega)).mp z3
      have lp_130 : ∀ (u_131 k_132 : Nat) (H : Heap) (locs : List Loc) (ls : Array Slot), k_132 + u_131 = s_127 → St D B s.heap N g_86 H locs → lv_has ls 4 [(0, .ref (B + 220)), (2, .int (nI k_83)), (1, .int (rchF pl_98 k_83 b_87 k_132)), (3, .int (nI (40 * k_83 + k_132)))] → W p l e (rmOf 4 95 0 0) s m [.ref (B + 220)].toArray below meth c H locs 0 0 (MQ below (qI D B N (fun r g' => Mk t B g g' n ey wi ev o pr w ∧ r = 0)) [.ref (B + 220)].toArray s 0 0 (fun q => B ≤ q)) (F0 m 25 ls []) := by
        intro u_131
        induction u_131 with
        | zero =>
          intro k_132 H locs ls hk_133 hS hl
          obtain rfl : s_127 = k_132 := by omega
          refine lv_iload_n C.x C.b dX8_reached_25 rfl (lv_at hl 3 rfl) ?_
          refine lv_bipush (v := 40) C.x C.b dX8_reached_26 (by decide) ?_
          refine lv_iload_n C.x C.b dX8_reached_28 rfl (lv_at hl 1 rfl) ?_
          refine lv_imul C.x C.b dX8_reached_29 ?_
          refine r_top (y := nI (40 * k_83)) (pk_mul 40 k_83) ?_
          refine lv_aload_n C.x C.b dX8_reached_30 rfl (lv_at hl 0 rfl) ?_
          refine r_get ck8 flX8_32 C hS (by omega) e_106 (by decide) rfl dX8_reached_31 ?_
          refine lv_iload_n C.x C.b dX8_reached_34 rfl (lv_at hl 1 rfl) ?_
          refine r_ialdN k_83 rfl (by omega) (by decide) C hS (by omega) e_112 dX8_reached_35 ?_
          refine r_top (y := nI s_127) (hs_129) ?_
          refine lv_iadd C.x C.b dX8_reached_36 ?_
          refine r_top (y := nI ((40 * k_83) + s_127)) (nI_add (40 * k_83) s_127) ?_
          refine lv_icmp_ge (tgt := 57) C.x C.b dX8_reached_37 (by decide) (fun c_136 => ?_) (fun c_136 => absurd (nI_le (Nat.le_refl _) (by omega)) c_136)
          refine lv_iinc (v := nI (k_83 + 1)) (lv' := [(2, .int (nI (k_83 + 1))), (0, .ref (B + 220)), (1, .int (rchF pl_98 k_83 b_87 s_127)), (3, .int (nI (40 * k_83 + s_127)))]) C.x C.b dX8_reached_57 hl (k := 1) rfl (nI_1 k_83) (by decide) rfl (fun ls hl => ?_)
          refine lv_goto (tgt := 13) C.x C.b dX8_reached_60 (by decide) ?_
          exact ih_85 (k_83 + 1) (rchF pl_98 k_83 b_87 s_127) g_86 _ _ _ (by omega) (show rchF pl_98 k_83 b_87 s_127 = 0 by rw [hs0]; exact hb0) hA hKp hS (lv_sub hl [1, 2, 0] rfl)
        | succ u_131 ih_134 =>
          intro k_132 H locs ls hk_133 hS hl
          refine lv_iload_n C.x C.b dX8_reached_25 rfl (lv_at hl 3 rfl) ?_
          refine lv_bipush (v := 40) C.x C.b dX8_reached_26 (by decide) ?_
          refine lv_iload_n C.x C.b dX8_reached_28 rfl (lv_at hl 1 rfl) ?_
          refine lv_imul C.x C.b dX8_reached_29 ?_
          refine r_top (y := nI (40 * k_83)) (pk_mul 40 k_83) ?_
          refine lv_aload_n C.x C.b dX8_reached_30 rfl (lv_at hl 0 rfl) ?_
          refine r_get ck8 flX8_32 C hS (by omega) e_106 (by decide) rfl dX8_reached_31 ?_
          refine lv_iload_n C.x C.b dX8_reached_34 rfl (lv_at hl 1 rfl) ?_
          refine r_ialdN k_83 rfl (by omega) (by decide) C hS (by omega) e_112 dX8_reached_35 ?_
          refine r_top (y := nI s_127) (hs_129) ?_
          refine lv_iadd C.x C.b dX8_reached_36 ?_
          refine r_top (y := nI ((40 * k_83) + s_127)) (nI_add (40 * k_83) s_127) ?_
          refine lv_icmp_ge (tgt := 57) C.x C.b dX8_reached_37 (by decide) (fun c_137 => absurd c_137 (nI_ge (a := (40 * k_83 + k_132)) (b := (40 * k_83 + s_127)) (by omega) (by omega))) (fun c_137 => ?_)
          refine lv_iload_n C.x C.b dX8_reached_40 rfl (lv_at hl 2 rfl) ?_
          refine lv_iconst (v := 1) C.x C.b dX8_reached_41 (by decide) ?_
          refine lv_aload_n C.x C.b dX8_reached_42 rfl (lv_at hl 0 rfl) ?_
          refine r_get ck8 flX8_42 C hS (by omega) e_106 (by decide) rfl dX8_reached_43 ?_
          refine lv_iload_n C.x C.b dX8_reached_46 rfl (lv_at hl 3 rfl) ?_
          refine r_ialdN (40 * k_83 + k_132) rfl (by omega) (by decide) C hS (by omega) e_115 dX8_reached_47 ?_
          refine lv_ishl C.x C.b dX8_reached_48 ?_
          refine lv_ior C.x C.b dX8_reached_49 ?_
          refine lv_istore_n (lv' := [(1, .int ((rchF pl_98 k_83 b_87 k_132) ||| ((1 : Int32) <<< ((pl_98 (40 * k_83 + k_132)) &&& 31)))), (0, .ref (B + 220)), (2, .int (nI k_83)), (3, .int (nI (40 * k_83 + k_132)))]) C.x C.b dX8_reached_50 rfl hl (by decide) rfl (fun ls hl => ?_)
          refine lv_iinc (v := nI ((40 * k_83 + k_132) + 1)) (lv' := [(3, .int (nI ((40 * k_83 + k_132) + 1))), (1, .int ((rchF pl_98 k_83 b_87 k_132) ||| ((1 : Int32) <<< ((pl_98 (40 * k_83 + k_132)) &&& 31)))), (0, .ref (B + 220)), (2, .int (nI k_83))]) C.x C.b dX8_reached_51 hl (k := 3) rfl (nI_1 (40 * k_83 + k_132)) (by decide) rfl (fun ls hl => ?_)
          refine lv_goto (tgt := 25) C.x C.b dX8_reached_54 (by decide) ?_
          exact ih_134 (k_132 + 1) _ _ _ (by omega)  hS (lv_sub hl [2, 3, 1, 0] rfl)
      exact lp_130 s_127 0 _ _ _ (by omega)  hS (lv_sub hl [1, 3, 2, 0] rfl)
  exact lp_81 256 0 0 g_41 _ _ _ (by omega) rfl hA hKp hS (lv_sub hl [2, 1, 0] rfl)
/-- the object as it is new -/
def Frs (B : Nat) (g : Nat → va_E) : Prop := g 0 = .inr (7, [.ref (B + 1), .ref (B + 5), .ref (B + 6), .ref (B + 9), .ref (B + 15), .ref (B + 19), .ref (B + 23), .ref (B + 113), .int (-1)]) ∧ ze_n (g 220) = 0
theorem Frs.n0 {t : Gx} {B : Nat} {g : Nat → va_E} {n : Nat} {ey wi ev : Int32} {o pr w : Nat → Int32} (h : Frs B g) (hM : Msh t B g n ey wi ev o pr w) (hn : n ≤ 8) : n = 0 := by
  obtain ⟨_, _, _, m0, _⟩ := hM.core
  have q := h.2
  rw [m0] at q
  have q2 : nI n = nI 0 := q
  exact (nI_eq (a := n) (b := 0) (by omega) (by omega)).mp q2
theorem fr_n {t : Gx} {B : Nat} {g : Nat → va_E} {ey wi ev : Int32} {o pr w : Nat → Int32} (hM : Msh t B g 0 ey wi ev o pr w) : ze_n (g 220) = 0 := by
  obtain ⟨_, _, _, m0, _⟩ := hM.core
  rw [m0]
  rfl
