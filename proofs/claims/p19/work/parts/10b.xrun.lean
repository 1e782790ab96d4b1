/-! run and seen -/
section RSO
variable {o : Nat → Int32} {n : Nat} {w : Nat → Int32} {wi ey ev : Int32}
noncomputable def runI (o : Nat → Int32) (n : Nat) (w : Nat → Int32) (wi ey ev : Int32) (R : Nat) (z : Int32) : Int32 := if z = 0 then obA o n w R else if z = 1 then obC o n w ev R else if z = 2 then nI (obS o n w R) else if z = 3 then (if obP o n w R = 0 then 0 else 1) else nI (obR o n w wi ev ey R).2.2.2
noncomputable def runO (o : Nat → Int32) (n : Nat) (w : Nat → Int32) (wi ey ev x y z : Int32) : Int32 := if inP 16 x ∧ inP 16 y ∧ ¬ z < 0 ∧ z ≤ 4 then runI o n w wi ey ev (16 * x.toNatClampNeg + y.toNatClampNeg) z else -1001
theorem runO_out {x y z : Int32} (h : ¬ (inP 16 x ∧ inP 16 y ∧ ¬ z < 0 ∧ z ≤ 4)) : runO o n w wi ey ev x y z = -1001 := if_neg h
theorem runO_in {a b : Nat} {z : Int32} (ha : a < 16) (hb : b < 16) (h1 : ¬ z < 0) (h2 : z ≤ 4) : runO o n w wi ey ev (nI a) (nI b) z = runI o n w wi ey ev (16 * a + b) z := by
  unfold runO
  rw [if_pos ⟨inP_of ha (by omega), inP_of hb (by omega), h1, h2⟩, nI_clamp (by omega), nI_clamp (by omega)]
theorem runI_0 {R : Nat} {z v : Int32} (h : z = 0) (e : v = obA o n w R) : v = runI o n w wi ey ev R z := by
  unfold runI
  rw [if_pos h, e]
theorem runI_1 {R : Nat} {z v : Int32} (h : z = 1) (e : v = obC o n w ev R) : v = runI o n w wi ey ev R z := by
  unfold runI
  rw [if_neg (by rw [h]; decide), if_pos h, e]
theorem runI_2 {R : Nat} {z v : Int32} (h : z = 2) (e : v = nI (obS o n w R)) : v = runI o n w wi ey ev R z := by
  unfold runI
  rw [if_neg (by rw [h]; decide), if_neg (by rw [h]; decide), if_pos h, e]
theorem runI_3 {R : Nat} {z v s : Int32} (h : z = 3) (e : s = obP o n w R) (e2 : (s = 0 ∧ v = 0) ∨ (¬ s = 0 ∧ v = 1)) : v = runI o n w wi ey ev R z := by
  unfold runI
  rw [if_neg (by rw [h]; decide), if_neg (by rw [h]; decide), if_neg (by rw [h]; decide), if_pos h, ← e]
  rcases e2 with ⟨h1, h2⟩ | ⟨h1, h2⟩
  · rw [if_pos h1, h2]
  · rw [if_neg h1, h2]
theorem runI_4 {R : Nat} {z v : Int32} (h0 : ¬ z = 0) (h1 : ¬ z = 1) (h2 : ¬ z = 2) (h3 : ¬ z = 3) (e : v = nI (obR o n w wi ev ey R).2.2.2) : v = runI o n w wi ey ev R z := by
  unfold runI
  rw [if_neg h0, if_neg h1, if_neg h2, if_neg h3, e]
noncomputable def seenI (o : Nat → Int32) (n : Nat) (w : Nat → Int32) (wi ey ev : Int32) (R : Nat) (z v : Int32) : Int32 := if inP (obR o n w wi ev ey R).2.2.2 z then (if v = 0 then (obR o n w wi ev ey R).2.2.1 z.toNatClampNeg else if v = 1 then (obR o n w wi ev ey R).1 z.toNatClampNeg else (obR o n w wi ev ey R).2.1 z.toNatClampNeg) else -1001
noncomputable def seenO (o : Nat → Int32) (n : Nat) (w : Nat → Int32) (wi ey ev x y z v : Int32) : Int32 := if inP 16 x ∧ inP 16 y ∧ ¬ v < 0 ∧ v ≤ 2 then seenI o n w wi ey ev (16 * x.toNatClampNeg + y.toNatClampNeg) z v else -1001
theorem seenO_out {x y z v : Int32} (h : ¬ (inP 16 x ∧ inP 16 y ∧ ¬ v < 0 ∧ v ≤ 2)) : seenO o n w wi ey ev x y z v = -1001 := if_neg h
theorem seenO_in {a b : Nat} {z v : Int32} (ha : a < 16) (hb : b < 16) (h1 : ¬ v < 0) (h2 : v ≤ 2) : seenO o n w wi ey ev (nI a) (nI b) z v = seenI o n w wi ey ev (16 * a + b) z v := by
  unfold seenO
  rw [if_pos ⟨inP_of ha (by omega), inP_of hb (by omega), h1, h2⟩, nI_clamp (by omega), nI_clamp (by omega)]
theorem seenI_out {R : Nat} {z v : Int32} (h : ¬ inP (obR o n w wi ev ey R).2.2.2 z) : -1001 = seenI o n w wi ey ev R z v := (if_neg h).symm
theorem seenI_0 {R q : Nat} {v a b c : Int32} (h : q < (obR o n w wi ev ey R).2.2.2) (hl : (obR o n w wi ev ey R).2.2.2 < 2 ^ 31) (h0 : v = 0) (e : a = (obR o n w wi ev ey R).2.2.1 (42 * 0 + q) ∧ b = (obR o n w wi ev ey R).1 (42 * 0 + q) ∧ c = (obR o n w wi ev ey R).2.1 (42 * 0 + q)) : a = seenI o n w wi ey ev R (nI q) v := by
  unfold seenI
  rw [if_pos (inP_of h hl), if_pos h0, nI_clamp (by omega), e.1, Nat.mul_zero, Nat.zero_add]
theorem seenI_1 {R q : Nat} {v a b c : Int32} (h : q < (obR o n w wi ev ey R).2.2.2) (hl : (obR o n w wi ev ey R).2.2.2 < 2 ^ 31) (h0 : ¬ v = 0) (h1 : v = 1) (e : a = (obR o n w wi ev ey R).2.2.1 (42 * 0 + q) ∧ b = (obR o n w wi ev ey R).1 (42 * 0 + q) ∧ c = (obR o n w wi ev ey R).2.1 (42 * 0 + q)) : b = seenI o n w wi ey ev R (nI q) v := by
  unfold seenI
  rw [if_pos (inP_of h hl), if_neg h0, if_pos h1, nI_clamp (by omega), e.2.1, Nat.mul_zero, Nat.zero_add]
theorem seenI_2 {R q : Nat} {v a b c : Int32} (h : q < (obR o n w wi ev ey R).2.2.2) (hl : (obR o n w wi ev ey R).2.2.2 < 2 ^ 31) (h0 : ¬ v = 0) (h1 : ¬ v = 1) (e : a = (obR o n w wi ev ey R).2.2.1 (42 * 0 + q) ∧ b = (obR o n w wi ev ey R).1 (42 * 0 + q) ∧ c = (obR o n w wi ev ey R).2.1 (42 * 0 + q)) : c = seenI o n w wi ey ev R (nI q) v := by
  unfold seenI
  rw [if_pos (inP_of h hl), if_neg h0, if_neg h1, nI_clamp (by omega), e.2.2, Nat.mul_zero, Nat.zero_add]
end RSO
set_option maxHeartbeats 1000000 in
set_option maxRecDepth 100000 in
theorem x_X7_fillRow (l : Launch) (D : va_G) (t : Gx) (B N : Nat) (g : Nat → va_E) (o pr w : Nat → Int32) (n : Nat) (ey wi ev : Int32) (o' w' : Nat → Int32) (i a b : Nat) (hN : 220 ≤ N) (hP : isProg t B g 1 o pr w n) (hn : n ≤ 8) (hW : isWat g 5 ey wi ev) (hScr : Scr t B g) (hE : ∀ q, q < n → o q = o' q) (hW2 : ∀ q, q < 8 → w q = w' q) (hO : okO o') (hoe : okE ey) (hwd : isWd wi) (hi : rowId i) (hi0 : i + 3 < 220) (ha : a < 16) (hb : b < 16) : Cv l D t B N N 0 0 yX7_fillRow cX7_fillRow 4 4 104 g [.ref (B + 0), .ref (B + i), .int (nI a), .int (nI b)] (fun g' => Kp t B g g' ∧ RunOb t B g' 9 o' n w' ey wi (16 * a + b) ∧ RowOb t B g' i (obR o' n w' wi ev ey (16 * a + b)) ∧ ∀ j, (j < 6 ∨ (14 < j ∧ (j < i ∨ i + 3 < j))) → g' j = g j) := by
  refine Cv.start (by decide) (Nat.le_of_ble_eq_true rfl) ?_
  intro p e s m below meth c ls C hr hlocks hnm hS hl
  replace C : Cx D t p s m [.ref (B + 0), .ref (B + i), .int (nI a), .int (nI b)].toArray c cX7_fillRow 4 RX7 := C
  replace hl : lv_has ls 4 [(0, .ref (B + 0)), (1, .ref (B + i)), (2, .int (nI a)), (3, .int (nI b))] := hl
  obtain ⟨p0, p1, p2, p3⟩ := id hP
  have hKp : Kp t B g g := Kp.rf hScr
  have hFz : ∀ j, (j < 6 ∨ (14 < j ∧ (j < i ∨ i + 3 < j))) → g j = g j := fun _ _ => rfl
  have hlo := hi.lo
  refine lv_aload_n C.x C.b dX7_fillRow_0 rfl (lv_at hl 0 rfl) ?_
  obtain ⟨v_1, e_2⟩ := hKp.2.1
  refine r_get ck7 flX7_26 C hS (by omega) e_2 (by decide) rfl dX7_fillRow_1 ?_
  refine lv_aload_n C.x C.b dX7_fillRow_4 rfl (lv_at hl 0 rfl) ?_
  refine r_get ck7 flX7_12 C hS (by omega) e_2 (by decide) rfl dX7_fillRow_5 ?_
  refine lv_aload_n C.x C.b dX7_fillRow_8 rfl (lv_at hl 0 rfl) ?_
  refine r_get ck7 flX7_19 C hS (by omega) e_2 (by decide) rfl dX7_fillRow_9 ?_
  refine lv_iload_n C.x C.b dX7_fillRow_12 rfl (lv_at hl 2 rfl) ?_
  refine lv_iload_n C.x C.b dX7_fillRow_13 rfl (lv_at hl 3 rfl) ?_
  refine lv_aload_n C.x C.b dX7_fillRow_14 rfl (lv_at hl 0 rfl) ?_
  refine r_get ck7 flX7_33 C hS (by omega) e_2 (by decide) rfl dX7_fillRow_15 ?_
  obtain ⟨q_6, q_7, q_8, ⟨e_9, e_10, e_11⟩⟩ := hKp.2.2.1
  refine r_callVv (b := 6) (As := [.ref (B + 1), .ref (B + 5), .int (nI a), .int (nI b), .ref (B + 9)]) (rest := []) (ke_go l D t B N g _ _ _ _ _ _ _ o' w' 9 a b (by omega) ⟨p0, p1, p2, p3⟩ hW (by omega) (Or.inl rfl) hKp.2 hE hW2 hO hwd (by omega) (by omega)) mf_yX1_go mlX7_202 im_yX1_go se_yX1_go (by decide) C hS (by omega) e_9 (show vwCl[1]? = some _ from rfl) rfl rfl hl.1 rfl (Nat.le_of_ble_eq_true rfl) dX7_fillRow_18 ⟨Nat.zero_le _, Nat.zero_le _⟩ (fun g_3 H locs w_4 hS => ?_)
  obtain ⟨w_4, hR_12, hf_13⟩ := w_4
  replace hKp : Kp t B g g_3 := hKp.tr w_4
  replace hFz : ∀ j, (j < 6 ∨ (14 < j ∧ (j < i ∨ i + 3 < j))) → g_3 j = g j := fun j hj => (hf_13 j (by omega)).trans (hFz j hj)
  refine lv_aload_n C.x C.b dX7_fillRow_21 rfl (lv_at hl 1 rfl) ?_
  refine lv_aload_n C.x C.b dX7_fillRow_22 rfl (lv_at hl 0 rfl) ?_
  obtain ⟨v_14, e_15⟩ := hKp.2.1
  refine r_get ck7 flX7_33 C hS (by omega) e_15 (by decide) rfl dX7_fillRow_23 ?_
  refine lv_aload_n C.x C.b dX7_fillRow_26 rfl (lv_at hl 0 rfl) ?_
  refine r_get ck7 flX7_19 C hS (by omega) e_15 (by decide) rfl dX7_fillRow_27 ?_
  have e_16 : g_3 5 = .inr (6, [.int ey, .int wi, .int ev]) := (hKp.1 _ (by omega)).trans hW
  refine r_get ck6 flX7_98 C hS (by omega) e_16 (by decide) rfl dX7_fillRow_30 ?_
  refine lv_aload_n C.x C.b dX7_fillRow_33 rfl (lv_at hl 0 rfl) ?_
  refine r_get ck7 flX7_19 C hS (by omega) e_15 (by decide) rfl dX7_fillRow_34 ?_
  refine r_get ck6 flX7_89 C hS (by omega) e_16 (by decide) rfl dX7_fillRow_37 ?_
  obtain ⟨q_20, q_21, q_22, q_23, ⟨e_24, e_25, e_26, e_27⟩, hl_28⟩ := hKp.2.2.2.2.1 i hi
  refine r_callVv (b := i) (As := [.ref (B + 9), .int ey, .int ev]) (rest := []) (ke_fill l D t B N g_3 o' w' n ey wi (16 * a + b) i 9 ey ev ey (by omega) hi (Or.inl rfl) hKp.2 hR_12 Iff.rfl Iff.rfl Iff.rfl Iff.rfl) mf_yX4_fill mlX7_206 im_yX4_fill se_yX4_fill (by decide) C hS (by omega) e_24 (show vwCl[4]? = some _ from rfl) rfl rfl hl.1 rfl (Nat.le_of_ble_eq_true rfl) dX7_fillRow_40 ⟨Nat.zero_le _, Nat.zero_le _⟩ (fun g_17 H locs w_18 hS => ?_)
  obtain ⟨w_18, hR_29, hf_30⟩ := w_18
  have ob_31 := hR_12.keep (g' := g_17) (fun j h1 h2 => hf_30 j (by have := (show runId 9 from Or.inl rfl).row hi; omega))
  replace hKp : Kp t B g g_17 := hKp.tr w_18
  replace hFz : ∀ j, (j < 6 ∨ (14 < j ∧ (j < i ∨ i + 3 < j))) → g_17 j = g j := fun j hj => (hf_30 j (by omega)).trans (hFz j hj)
  exact r_vret C hr hlocks hS ⟨hKp, ob_31, hR_29, hFz⟩ dX7_fillRow_43
set_option maxHeartbeats 1000000 in
set_option maxRecDepth 100000 in
theorem x_X7_run (l : Launch) (D : va_G) (t : Gx) (B N : Nat) (g : Nat → va_E) (o pr w : Nat → Int32) (n : Nat) (ey wi ev : Int32) (o' w' : Nat → Int32) (x y z : Int32) (hN : 220 ≤ N) (hP : isProg t B g 1 o pr w n) (hn : n ≤ 8) (hW : isWat g 5 ey wi ev) (hScr : Scr t B g) (hE : ∀ q, q < n → o q = o' q) (hW2 : ∀ q, q < 8 → w q = w' q) (hO : okO o') (hoe : okE ey) (hwd : isWd wi)  : Ci l D t B N yX7_run cX7_run 4 (some .int) 5 127 g [.ref (B + 0), .int x, .int y, .int z] (fun r g' => Kp t B g g' ∧ r = runO o' n w' wi ey ev x y z ∧ ∀ j, 23 ≤ j → g' j = g j) := by
  refine Ci.start (by decide) (Nat.le_of_ble_eq_true rfl) ?_
  intro p e s m below meth c ls C hr hlocks hS hl
  replace C : Cx D t p s m [.ref (B + 0), .int x, .int y, .int z].toArray c cX7_run 4 RX7 := C
  replace hl : lv_has ls 4 [(0, .ref (B + 0)), (1, .int x), (2, .int y), (3, .int z)] := hl
  obtain ⟨p0, p1, p2, p3⟩ := id hP
  have hKp : Kp t B g g := Kp.rf hScr
  have hFz : ∀ j, 23 ≤ j → g j = g j := fun _ _ => rfl
  refine lv_iload_n C.x C.b dX7_run_0 rfl (lv_at hl 1 rfl) ?_
  refine r_callS (As := [.int x]) (rest := []) (c_X7_isInput l D t B N g x) mf_yX7_isInput mlX7_116 sm_yX7_isInput (by decide) C hS rfl hl.1 rfl (Nat.le_of_ble_eq_true rfl) dX7_run_1 ⟨Nat.zero_le _, Nat.zero_le _⟩ (fun r_3 g_1 H locs w_2 hS => ?_)
  obtain ⟨rfl, er_3⟩ := w_2
  by_cases b_4 : inP 16 x
  · rw [bz_t b_4] at er_3
    subst er_3
    obtain ⟨q_5, hq_6, rfl⟩ := inP_nI b_4 (by decide)
    refine lv_if_eq (tgt := 23) C.x C.b dX7_run_4 (by decide) (fun c_7 => absurd c_7 (by decide)) (fun c_7 => ?_)
    refine lv_iload_n C.x C.b dX7_run_7 rfl (lv_at hl 2 rfl) ?_
    refine r_callS (As := [.int y]) (rest := []) (c_X7_isInput l D t B N g y) mf_yX7_isInput mlX7_116 sm_yX7_isInput (by decide) C hS rfl hl.1 rfl (Nat.le_of_ble_eq_true rfl) dX7_run_8 ⟨Nat.zero_le _, Nat.zero_le _⟩ (fun r_10 g_8 H locs w_9 hS => ?_)
    obtain ⟨rfl, er_10⟩ := w_9
    by_cases b_11 : inP 16 y
    · rw [bz_t b_11] at er_10
      subst er_10
      obtain ⟨q_12, hq_13, rfl⟩ := inP_nI b_11 (by decide)
      refine lv_if_eq (tgt := 23) C.x C.b dX7_run_11 (by decide) (fun c_14 => absurd c_14 (by decide)) (fun c_14 => ?_)
      refine lv_iload_n C.x C.b dX7_run_14 rfl (lv_at hl 3 rfl) ?_
      refine lv_if_lt (tgt := 23) C.x C.b dX7_run_15 (by decide) (fun c_15 => ?_) (fun c_15 => ?_)
      · skip
        refine lv_sipush (v := (-1001)) C.x C.b dX7_run_23 (by decide) ?_
        exact r_iret C hr hlocks hS ⟨hKp, (runO_out (fun q => q.2.2.1 c_15)).symm, hFz⟩ dX7_run_26
      · skip
        refine lv_iload_n C.x C.b dX7_run_18 rfl (lv_at hl 3 rfl) ?_
        refine lv_iconst (v := 4) C.x C.b dX7_run_19 (by decide) ?_
        refine lv_icmp_le (tgt := 27) C.x C.b dX7_run_20 (by decide) (fun c_16 => ?_) (fun c_16 => ?_)
        · skip
          refine lv_aload_n C.x C.b dX7_run_27 rfl (lv_at hl 0 rfl) ?_
          refine lv_aload_n C.x C.b dX7_run_28 rfl (lv_at hl 0 rfl) ?_
          obtain ⟨v_17, e_18⟩ := hKp.2.1
          refine r_get ck7 flX7_40 C hS (by omega) e_18 (by decide) rfl dX7_run_29 ?_
          refine lv_iload_n C.x C.b dX7_run_32 rfl (lv_at hl 1 rfl) ?_
          refine lv_iload_n C.x C.b dX7_run_33 rfl (lv_at hl 2 rfl) ?_
          refine r_callVv (b := 0) (As := [.ref (B + 15), .int (nI q_5), .int (nI q_12)]) (rest := []) (x_X7_fillRow l D t B N g _ _ _ _ _ _ _ o' w' 15 q_5 q_12 (by omega) ⟨p0, p1, p2, p3⟩ (by omega) hW hKp.2 hE hW2 hO hoe hwd (Or.inl rfl) (by omega) (by omega) (by omega)) mf_yX7_fillRow mlX7_119 im_yX7_fillRow se_yX7_fillRow (by decide) C hS (by omega) e_18 (show vwCl[7]? = some _ from rfl) rfl rfl hl.1 rfl (Nat.le_of_ble_eq_true rfl) dX7_run_34 ⟨Nat.zero_le _, Nat.zero_le _⟩ (fun g_19 H locs w_20 hS => ?_)
          obtain ⟨w_20, hA_22, hB_23, hf_24⟩ := w_20
          replace hKp : Kp t B g g_19 := hKp.tr w_20
          replace hFz : ∀ j, 23 ≤ j → g_19 j = g j := fun j hj => (hf_24 j (by omega)).trans (hFz j hj)
          obtain ⟨q_25, q_26, q_27, q_28, q_29, q_30, q_31, q_32, q_33, q_34, ⟨e_35, e_36, e_37, e_38, e_39, e_40⟩, hl_41, hs_42, hV_43⟩ := id hA_22
          obtain ⟨q_44, q_45, q_46, q_47, ⟨e_48, e_49, e_50, e_51⟩, hl_52, hq_53⟩ := id hB_23
          refine lv_iload_n C.x C.b dX7_run_37 rfl (lv_at hl 3 rfl) ?_
          by_cases h_54 : z = 0
          · refine lv_tableIn (off := 30) (tgt := 68) C.x C.b dX7_run_38 (by rw [h_54]; decide) (by rw [h_54]; decide) (by rw [h_54]; rfl) (by decide) ?_
            refine lv_aload_n C.x C.b dX7_run_68 rfl (lv_at hl 0 rfl) ?_
            obtain ⟨v_55, e_56⟩ := hKp.2.1
            refine r_get ck7 flX7_33 C hS (by omega) e_56 (by decide) rfl dX7_run_69 ?_
            refine r_get ck5 flX7_123 C hS (by omega) e_35 (by decide) rfl dX7_run_72 ?_
            exact r_iret C hr hlocks hS ⟨hKp, (runI_0 h_54 hV_43.1).trans (runO_in (by omega) (by omega) c_15 c_16).symm, hFz⟩ dX7_run_75
          by_cases h_57 : z = 1
          · refine lv_tableIn (off := 38) (tgt := 76) C.x C.b dX7_run_38 (by rw [h_57]; decide) (by rw [h_57]; decide) (by rw [h_57]; rfl) (by decide) ?_
            refine lv_aload_n C.x C.b dX7_run_76 rfl (lv_at hl 0 rfl) ?_
            obtain ⟨v_58, e_59⟩ := hKp.2.1
            refine r_get ck7 flX7_33 C hS (by omega) e_59 (by decide) rfl dX7_run_77 ?_
            refine lv_aload_n C.x C.b dX7_run_80 rfl (lv_at hl 0 rfl) ?_
            refine r_get ck7 flX7_19 C hS (by omega) e_59 (by decide) rfl dX7_run_81 ?_
            have e_60 : g_19 5 = .inr (6, [.int ey, .int wi, .int ev]) := (hKp.1 _ (by omega)).trans hW
            refine r_get ck6 flX7_89 C hS (by omega) e_60 (by decide) rfl dX7_run_84 ?_
            refine r_callV (b := 9) (As := [.int ev]) (rest := []) (c_X5_costWith l D t B N g_19 9 _ _ _ _ _ _ _ _ _ _ ev (by omega) ⟨e_35, e_36, e_37, e_38, e_39, e_40⟩) mf_yX5_costWith mlX7_126 im_yX5_costWith se_yX5_costWith (by decide) C hS (by omega) e_35 (show vwCl[5]? = some _ from rfl) rfl rfl hl.1 rfl (Nat.le_of_ble_eq_true rfl) dX7_run_87 ⟨Nat.zero_le _, Nat.zero_le _⟩ (fun r_63 g_61 H locs w_62 hS => ?_)
            obtain ⟨rfl, er_63⟩ := w_62
            subst er_63
            exact r_iret C hr hlocks hS ⟨hKp, (runI_1 h_57 (hV_43.2.2.2.1 ev)).trans (runO_in (by omega) (by omega) c_15 c_16).symm, hFz⟩ dX7_run_90
          by_cases h_64 : z = 2
          · refine lv_tableIn (off := 53) (tgt := 91) C.x C.b dX7_run_38 (by rw [h_64]; decide) (by rw [h_64]; decide) (by rw [h_64]; rfl) (by decide) ?_
            refine lv_aload_n C.x C.b dX7_run_91 rfl (lv_at hl 0 rfl) ?_
            obtain ⟨v_65, e_66⟩ := hKp.2.1
            refine r_get ck7 flX7_33 C hS (by omega) e_66 (by decide) rfl dX7_run_92 ?_
            refine r_get ck5 flX7_129 C hS (by omega) e_35 (by decide) rfl dX7_run_95 ?_
            exact r_iret C hr hlocks hS ⟨hKp, (runI_2 h_64 hV_43.2.1).trans (runO_in (by omega) (by omega) c_15 c_16).symm, hFz⟩ dX7_run_98
          by_cases h_67 : z = 3
          · refine lv_tableIn (off := 61) (tgt := 99) C.x C.b dX7_run_38 (by rw [h_67]; decide) (by rw [h_67]; decide) (by rw [h_67]; rfl) (by decide) ?_
            refine lv_aload_n C.x C.b dX7_run_99 rfl (lv_at hl 0 rfl) ?_
            obtain ⟨v_68, e_69⟩ := hKp.2.1
            refine r_get ck7 flX7_33 C hS (by omega) e_69 (by decide) rfl dX7_run_100 ?_
            refine r_get ck5 flX7_132 C hS (by omega) e_35 (by decide) rfl dX7_run_103 ?_
            refine lv_if_eq (tgt := 113) C.x C.b dX7_run_106 (by decide) (fun c_70 => ?_) (fun c_70 => ?_)
            · skip
              refine lv_iconst (v := 0) C.x C.b dX7_run_113 (by decide) ?_
              exact r_iret C hr hlocks hS ⟨hKp, (runI_3 h_67 hV_43.2.2.1 (Or.inl ⟨c_70, rfl⟩)).trans (runO_in (by omega) (by omega) c_15 c_16).symm, hFz⟩ dX7_run_114
            · skip
              refine lv_iconst (v := 1) C.x C.b dX7_run_109 (by decide) ?_
              refine lv_goto (tgt := 114) C.x C.b dX7_run_110 (by decide) ?_
              exact r_iret C hr hlocks hS ⟨hKp, (runI_3 h_67 hV_43.2.2.1 (Or.inr ⟨c_70, rfl⟩)).trans (runO_in (by omega) (by omega) c_15 c_16).symm, hFz⟩ dX7_run_114
          refine lv_tableOut (tgt := 115) C.x C.b dX7_run_38 (sw_out_0_3 h_54 h_57 h_64 h_67) (by decide) ?_
          refine lv_aload_n C.x C.b dX7_run_115 rfl (lv_at hl 0 rfl) ?_
          obtain ⟨v_71, e_72⟩ := hKp.2.1
          refine r_get ck7 flX7_40 C hS (by omega) e_72 (by decide) rfl dX7_run_116 ?_
          refine r_get ck4 flX7_136 C hS (by omega) e_48 (by decide) rfl dX7_run_119 ?_
          exact r_iret C hr hlocks hS ⟨hKp, (runI_4 h_54 h_57 h_64 h_67 (congrArg nI hq_53.1)).trans (runO_in (by omega) (by omega) c_15 c_16).symm, hFz⟩ dX7_run_122
        · skip
          refine lv_sipush (v := (-1001)) C.x C.b dX7_run_23 (by decide) ?_
          exact r_iret C hr hlocks hS ⟨hKp, (runO_out (fun q => c_16 q.2.2.2)).symm, hFz⟩ dX7_run_26
    · rw [bz_f b_11] at er_10
      subst er_10
      refine lv_if_eq (tgt := 23) C.x C.b dX7_run_11 (by decide) (fun c_73 => ?_) (fun c_73 => absurd (by decide) c_73)
      refine lv_sipush (v := (-1001)) C.x C.b dX7_run_23 (by decide) ?_
      exact r_iret C hr hlocks hS ⟨hKp, (runO_out (fun q => b_11 q.2.1)).symm, hFz⟩ dX7_run_26
  · rw [bz_f b_4] at er_3
    subst er_3
    refine lv_if_eq (tgt := 23) C.x C.b dX7_run_4 (by decide) (fun c_74 => ?_) (fun c_74 => absurd (by decide) c_74)
    refine lv_sipush (v := (-1001)) C.x C.b dX7_run_23 (by decide) ?_
    exact r_iret C hr hlocks hS ⟨hKp, (runO_out (fun q => b_4 q.1)).symm, hFz⟩ dX7_run_26
set_option maxHeartbeats 1000000 in
set_option maxRecDepth 100000 in
theorem x_X7_seen (l : Launch) (D : va_G) (t : Gx) (B N : Nat) (g : Nat → va_E) (o pr w : Nat → Int32) (n : Nat) (ey wi ev : Int32) (o' w' : Nat → Int32) (x y z v : Int32) (hN : 220 ≤ N) (hP : isProg t B g 1 o pr w n) (hn : n ≤ 8) (hW : isWat g 5 ey wi ev) (hScr : Scr t B g) (hE : ∀ q, q < n → o q = o' q) (hW2 : ∀ q, q < 8 → w q = w' q) (hO : okO o') (hoe : okE ey) (hwd : isWd wi)  : Ci l D t B N yX7_seen cX7_seen 5 (some .int) 5 127 g [.ref (B + 0), .int x, .int y, .int z, .int v] (fun r g' => Kp t B g g' ∧ r = seenO o' n w' wi ey ev x y z v ∧ ∀ j, 23 ≤ j → g' j = g j) := by
  refine Ci.start (by decide) (Nat.le_of_ble_eq_true rfl) ?_
  intro p e s m below meth c ls C hr hlocks hS hl
  replace C : Cx D t p s m [.ref (B + 0), .int x, .int y, .int z, .int v].toArray c cX7_seen 5 RX7 := C
  replace hl : lv_has ls 5 [(0, .ref (B + 0)), (1, .int x), (2, .int y), (3, .int z), (4, .int v)] := hl
  obtain ⟨p0, p1, p2, p3⟩ := id hP
  have hKp : Kp t B g g := Kp.rf hScr
  have hFz : ∀ j, 23 ≤ j → g j = g j := fun _ _ => rfl
  refine lv_iload_n C.x C.b dX7_seen_0 rfl (lv_at hl 1 rfl) ?_
  refine r_callS (As := [.int x]) (rest := []) (c_X7_isInput l D t B N g x) mf_yX7_isInput mlX7_116 sm_yX7_isInput (by decide) C hS rfl hl.1 rfl (Nat.le_of_ble_eq_true rfl) dX7_seen_1 ⟨Nat.zero_le _, Nat.zero_le _⟩ (fun r_3 g_1 H locs w_2 hS => ?_)
  obtain ⟨rfl, er_3⟩ := w_2
  by_cases b_4 : inP 16 x
  · rw [bz_t b_4] at er_3
    subst er_3
    obtain ⟨q_5, hq_6, rfl⟩ := inP_nI b_4 (by decide)
    refine lv_if_eq (tgt := 25) C.x C.b dX7_seen_4 (by decide) (fun c_7 => absurd c_7 (by decide)) (fun c_7 => ?_)
    refine lv_iload_n C.x C.b dX7_seen_7 rfl (lv_at hl 2 rfl) ?_
    refine r_callS (As := [.int y]) (rest := []) (c_X7_isInput l D t B N g y) mf_yX7_isInput mlX7_116 sm_yX7_isInput (by decide) C hS rfl hl.1 rfl (Nat.le_of_ble_eq_true rfl) dX7_seen_8 ⟨Nat.zero_le _, Nat.zero_le _⟩ (fun r_10 g_8 H locs w_9 hS => ?_)
    obtain ⟨rfl, er_10⟩ := w_9
    by_cases b_11 : inP 16 y
    · rw [bz_t b_11] at er_10
      subst er_10
      obtain ⟨q_12, hq_13, rfl⟩ := inP_nI b_11 (by decide)
      refine lv_if_eq (tgt := 25) C.x C.b dX7_seen_11 (by decide) (fun c_14 => absurd c_14 (by decide)) (fun c_14 => ?_)
      refine lv_iload C.x C.b dX7_seen_14 (lv_at hl 4 rfl) ?_
      refine lv_if_lt (tgt := 25) C.x C.b dX7_seen_16 (by decide) (fun c_15 => ?_) (fun c_15 => ?_)
      · skip
        refine lv_sipush (v := (-1001)) C.x C.b dX7_seen_25 (by decide) ?_
        exact r_iret C hr hlocks hS ⟨hKp, (seenO_out (fun q => q.2.2.1 c_15)).symm, hFz⟩ dX7_seen_28
      · skip
        refine lv_iload C.x C.b dX7_seen_19 (lv_at hl 4 rfl) ?_
        refine lv_iconst (v := 2) C.x C.b dX7_seen_21 (by decide) ?_
        refine lv_icmp_le (tgt := 29) C.x C.b dX7_seen_22 (by decide) (fun c_16 => ?_) (fun c_16 => ?_)
        · skip
          refine lv_aload_n C.x C.b dX7_seen_29 rfl (lv_at hl 0 rfl) ?_
          refine lv_aload_n C.x C.b dX7_seen_30 rfl (lv_at hl 0 rfl) ?_
          obtain ⟨v_17, e_18⟩ := hKp.2.1
          refine r_get ck7 flX7_40 C hS (by omega) e_18 (by decide) rfl dX7_seen_31 ?_
          refine lv_iload_n C.x C.b dX7_seen_34 rfl (lv_at hl 1 rfl) ?_
          refine lv_iload_n C.x C.b dX7_seen_35 rfl (lv_at hl 2 rfl) ?_
          refine r_callVv (b := 0) (As := [.ref (B + 15), .int (nI q_5), .int (nI q_12)]) (rest := []) (x_X7_fillRow l D t B N g _ _ _ _ _ _ _ o' w' 15 q_5 q_12 (by omega) ⟨p0, p1, p2, p3⟩ (by omega) hW hKp.2 hE hW2 hO hoe hwd (Or.inl rfl) (by omega) (by omega) (by omega)) mf_yX7_fillRow mlX7_119 im_yX7_fillRow se_yX7_fillRow (by decide) C hS (by omega) e_18 (show vwCl[7]? = some _ from rfl) rfl rfl hl.1 rfl (Nat.le_of_ble_eq_true rfl) dX7_seen_36 ⟨Nat.zero_le _, Nat.zero_le _⟩ (fun g_19 H locs w_20 hS => ?_)
          obtain ⟨w_20, hA_22, hB_23, hf_24⟩ := w_20
          replace hKp : Kp t B g g_19 := hKp.tr w_20
          replace hFz : ∀ j, 23 ≤ j → g_19 j = g j := fun j hj => (hf_24 j (by omega)).trans (hFz j hj)
          obtain ⟨q_25, q_26, q_27, q_28, ⟨e_29, e_30, e_31, e_32⟩, hl_33, hq_34⟩ := id hB_23
          refine lv_aload_n C.x C.b dX7_seen_39 rfl (lv_at hl 0 rfl) ?_
          obtain ⟨v_35, e_36⟩ := hKp.2.1
          refine r_get ck7 flX7_40 C hS (by omega) e_36 (by decide) rfl dX7_seen_40 ?_
          refine lv_iload_n C.x C.b dX7_seen_43 rfl (lv_at hl 3 rfl) ?_
          refine r_callV (b := 15) (As := [.int z]) (rest := []) (c_X4_has l D t B N g_19 15 _ _ _ _ z (by omega) ⟨e_29, e_30, e_31, e_32⟩) mf_yX4_has mlX7_139 im_yX4_has se_yX4_has (by decide) C hS (by omega) e_29 (show vwCl[4]? = some _ from rfl) rfl rfl hl.1 rfl (Nat.le_of_ble_eq_true rfl) dX7_seen_44 ⟨Nat.zero_le _, Nat.zero_le _⟩ (fun r_39 g_37 H locs w_38 hS => ?_)
          obtain ⟨rfl, er_39⟩ := w_38
          by_cases b_40 : inP q_28 z
          · rw [bz_t b_40] at er_39
            subst er_39
            obtain ⟨q_41, hq_42, rfl⟩ := inP_nI b_40 (by omega)
            refine lv_if_ne (tgt := 54) C.x C.b dX7_seen_47 (by decide) (fun c_43 => ?_) (fun c_43 => absurd c_43 (by decide))
            refine lv_iload C.x C.b dX7_seen_54 (lv_at hl 4 rfl) ?_
            by_cases h_44 : v = 0
            · refine lv_lookup (off := 28) (tgt := 84) C.x C.b dX7_seen_56 (by decide) (by rw [h_44]; decide) (by decide) ?_
              refine lv_aload_n C.x C.b dX7_seen_84 rfl (lv_at hl 0 rfl) ?_
              refine r_get ck7 flX7_40 C hS (by omega) e_36 (by decide) rfl dX7_seen_85 ?_
              refine r_get ck4 flX7_140 C hS (by omega) e_29 (by decide) rfl dX7_seen_88 ?_
              refine lv_iload_n C.x C.b dX7_seen_91 rfl (lv_at hl 3 rfl) ?_
              refine r_ialdN q_41 rfl (by omega) (by decide) C hS (by omega) e_30 dX7_seen_92 ?_
              exact r_iret C hr hlocks hS ⟨hKp, (seenI_0 (by rw [← hq_34.1]; exact hq_42) (by rw [← hq_34.1]; show q_28 < 2 ^ 31; omega) h_44 (hq_34.2 q_41 hq_42)).trans (seenO_in (by omega) (by omega) c_15 c_16).symm, hFz⟩ dX7_seen_93
            by_cases h_45 : v = 1
            · refine lv_lookup (off := 38) (tgt := 94) C.x C.b dX7_seen_56 (by decide) (by rw [h_45]; decide) (by decide) ?_
              refine lv_aload_n C.x C.b dX7_seen_94 rfl (lv_at hl 0 rfl) ?_
              refine r_get ck7 flX7_40 C hS (by omega) e_36 (by decide) rfl dX7_seen_95 ?_
              refine r_get ck4 flX7_143 C hS (by omega) e_29 (by decide) rfl dX7_seen_98 ?_
              refine lv_iload_n C.x C.b dX7_seen_101 rfl (lv_at hl 3 rfl) ?_
              refine r_ialdN q_41 rfl (by omega) (by decide) C hS (by omega) e_31 dX7_seen_102 ?_
              exact r_iret C hr hlocks hS ⟨hKp, (seenI_1 (by rw [← hq_34.1]; exact hq_42) (by rw [← hq_34.1]; show q_28 < 2 ^ 31; omega) h_44 h_45 (hq_34.2 q_41 hq_42)).trans (seenO_in (by omega) (by omega) c_15 c_16).symm, hFz⟩ dX7_seen_103
            refine lv_lookup (off := 48) (tgt := 104) C.x C.b dX7_seen_56 (by decide) (by show Op.lookupswitch.offset [(0, 28), (1, 38)] 48 _ = 48; rw [lv_osw h_44 (by decide), lv_osw h_45 (by decide)]; rfl) (by decide) ?_
            refine lv_aload_n C.x C.b dX7_seen_104 rfl (lv_at hl 0 rfl) ?_
            refine r_get ck7 flX7_40 C hS (by omega) e_36 (by decide) rfl dX7_seen_105 ?_
            refine r_get ck4 flX7_146 C hS (by omega) e_29 (by decide) rfl dX7_seen_108 ?_
            refine lv_iload_n C.x C.b dX7_seen_111 rfl (lv_at hl 3 rfl) ?_
            refine r_ialdN q_41 rfl (by omega) (by decide) C hS (by omega) e_32 dX7_seen_112 ?_
            exact r_iret C hr hlocks hS ⟨hKp, (seenI_2 (by rw [← hq_34.1]; exact hq_42) (by rw [← hq_34.1]; show q_28 < 2 ^ 31; omega) h_44 h_45 (hq_34.2 q_41 hq_42)).trans (seenO_in (by omega) (by omega) c_15 c_16).symm, hFz⟩ dX7_seen_113
          · rw [bz_f b_40] at er_39
            subst er_39
            refine lv_if_ne (tgt := 54) C.x C.b dX7_seen_47 (by decide) (fun c_46 => absurd (by decide) c_46) (fun c_46 => ?_)
            refine lv_sipush (v := (-1001)) C.x C.b dX7_seen_50 (by decide) ?_
            exact r_iret C hr hlocks hS ⟨hKp, (seenI_out (by rw [← hq_34.1]; exact b_40)).trans (seenO_in (by omega) (by omega) c_15 c_16).symm, hFz⟩ dX7_seen_53
        · skip
          refine lv_sipush (v := (-1001)) C.x C.b dX7_seen_25 (by decide) ?_
          exact r_iret C hr hlocks hS ⟨hKp, (seenO_out (fun q => c_16 q.2.2.2)).symm, hFz⟩ dX7_seen_28
    · rw [bz_f b_11] at er_10
      subst er_10
      refine lv_if_eq (tgt := 25) C.x C.b dX7_seen_11 (by decide) (fun c_47 => ?_) (fun c_47 => absurd (by decide) c_47)
      refine lv_sipush (v := (-1001)) C.x C.b dX7_seen_25 (by decide) ?_
      exact r_iret C hr hlocks hS ⟨hKp, (seenO_out (fun q => b_11 q.2.1)).symm, hFz⟩ dX7_seen_28
  · rw [bz_f b_4] at er_3
    subst er_3
    refine lv_if_eq (tgt := 25) C.x C.b dX7_seen_4 (by decide) (fun c_48 => ?_) (fun c_48 => absurd (by decide) c_48)
    refine lv_sipush (v := (-1001)) C.x C.b dX7_seen_25 (by decide) ?_
    exact r_iret C hr hlocks hS ⟨hKp, (seenO_out (fun q => b_4 q.1)).symm, hFz⟩ dX7_seen_28
