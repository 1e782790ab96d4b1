def clsA (X : Nat → Nat → RW) (x r : Int32) : Prop := (¬ inP 16 x ∧ r = -1) ∨ ∃ a, a < 16 ∧ x = nI a ∧ ∃ cl mn, ClsP (fun b c => alikeR (X a b) (X a c)) cl mn 16 ∧ r = nI (mn 16)
def clsB (X : Nat → Nat → RW) (x y r : Int32) : Prop := (¬ (inP 16 x ∧ inP 16 y) ∧ r = -1) ∨ ∃ a b, a < 16 ∧ b < 16 ∧ x = nI a ∧ y = nI b ∧ ∃ cl mn, ClsP (fun b c => alikeR (X a b) (X a c)) cl mn 16 ∧ r = nI (cl b)
def maxTo (f : Nat → Nat) : Nat → Nat
  | 0 => 0
  | k + 1 => max (maxTo f k) (f k)
def mostA (X : Nat → Nat → RW) (r : Int32) : Prop := ∃ f : Nat → Nat, (∀ a, a < 16 → ∃ cl mn, ClsP (fun b c => alikeR (X a b) (X a c)) cl mn 16 ∧ f a = mn 16) ∧ r = nI (maxTo f 16)
theorem maxTo_congr {f f' : Nat → Nat} : ∀ {k : Nat}, (∀ a, a < k → f a = f' a) → maxTo f k = maxTo f' k
  | 0, _ => rfl
  | k + 1, h => by
    show max (maxTo f k) (f k) = max (maxTo f' k) (f' k)
    rw [h k (by omega), maxTo_congr (fun a ha => h a (by omega))]
theorem maxTo_s {f : Nat → Nat} {b k v : Nat} (h : b = maxTo f k) : max b v = maxTo (va_up f k v) (k + 1) := by
  show _ = max (maxTo (va_up f k v) k) (va_up f k v k)
  rw [va_up_s, maxTo_congr (f' := f) (fun a ha => va_up_n (by omega)), h]
theorem cf_s {al : Nat → Nat → Nat → Prop} {f : Nat → Nat} {k v : Nat} (h : ∀ a, a < k → ∃ cl mn, ClsP (al a) cl mn 16 ∧ f a = mn 16) (hv : ∃ cl mn, ClsP (al k) cl mn 16 ∧ v = mn 16) : ∀ a, a < k + 1 → ∃ cl mn, ClsP (al a) cl mn 16 ∧ va_up f k v a = mn 16 := fun a ha => by
  by_cases e : a = k
  · subst e
    rw [va_up_s]
    exact hv
  · rw [va_up_n e]
    exact h a (by omega)
theorem qt_s {P : Nat → Prop} {k : Nat} (h : ∀ a, a < k → P a) (hv : P k) : ∀ a, a < k + 1 → P a := fun a ha => by
  by_cases e : a = k
  · subst e
    exact hv
  · exact h a (by omega)
theorem nI_nm1 {k : Nat} (h : k < 2 ^ 31) : ¬ nI k = -1 := fun q => absurd (show nI k < 0 by rw [q]; decide) (nI_pos h)

set_option maxHeartbeats 1000000 in
set_option maxRecDepth 100000 in
theorem x_X2_firstParted (l : Launch) (D : va_G) (t : Gx) (B N : Nat) (g : Nat → va_E) (q : Nat) (fn : Nat → Int32) (hN : 220 ≤ N) (hFx : sFix t B g) (hq : q < 16) (hfn : g (25 + q) = .inl (t.1, 16, .inl fn)) : Ci l D t B N yX2_firstParted cX2_firstParted 3 (some .int) 0 0 g [.ref (B + 23), .int (nI q)] (fun r g' => g = g' ∧ ((∃ k, 1 ≤ k ∧ k < 16 ∧ ¬ fn k = 0 ∧ (∀ j, 1 ≤ j → j < k → fn j = 0) ∧ r = nI k) ∨ ((∀ j, 1 ≤ j → j < 16 → fn j = 0) ∧ r = -1))) := by
  refine Ci.start (by decide) (Nat.le_of_ble_eq_true rfl) ?_
  intro p e s m below meth c ls C hr hlocks hS hl
  replace C : Cx D t p s m [.ref (B + 23), .int (nI q)].toArray c cX2_firstParted 3 RX2 := C
  replace hl : lv_has ls 3 [(0, .ref (B + 23)), (1, .int (nI q))] := hl
  refine lv_iconst (v := 1) C.x C.b dX2_firstParted_0 (by decide) ?_
  refine lv_istore_n (lv' := [(2, .int 1), (0, .ref (B + 23)), (1, .int (nI q))]) C.x C.b dX2_firstParted_1 rfl hl (by decide) rfl (fun ls hl => ?_)
  have lp_1 : ∀ (u_2 k_3 : Nat) (H : Heap) (locs : List Loc) (ls : Array Slot), k_3 + u_2 = 16 → (1 ≤ k_3) → (∀ j, 1 ≤ j → j < k_3 → fn j = 0) → St D B s.heap N g H locs → lv_has ls 3 [(0, .ref (B + 23)), (1, .int (nI q)), (2, .int (nI k_3))] → W p l e (rmOf 0 0 0 0) s m [.ref (B + 23), .int (nI q)].toArray below meth c H locs 0 0 (MQ below (qI D B N (fun r g' => g = g' ∧ ((∃ k, 1 ≤ k ∧ k < 16 ∧ ¬ fn k = 0 ∧ (∀ j, 1 ≤ j → j < k → fn j = 0) ∧ r = nI k) ∨ ((∀ j, 1 ≤ j → j < 16 → fn j = 0) ∧ r = -1)))) [.ref (B + 23), .int (nI q)].toArray s 0 0 (fun q => B ≤ q)) (F0 m 2 ls []) := by
    intro u_2
    induction u_2 with
    | zero =>
      intro k_3 H locs ls hk_4 h1k hno hS hl
      obtain rfl : 16 = k_3 := by omega
      refine lv_iload_n C.x C.b dX2_firstParted_2 rfl (lv_at hl 2 rfl) ?_
      refine lv_bipush (v := 16) C.x C.b dX2_firstParted_3 (by decide) ?_
      refine lv_icmp_ge (tgt := 27) C.x C.b dX2_firstParted_5 (by decide) (fun c_7 => ?_) (fun c_7 => absurd (by decide) c_7)
      refine lv_iconst (v := (-1)) C.x C.b dX2_firstParted_27 (by decide) ?_
      exact r_iret C hr hlocks hS ⟨rfl, Or.inr ⟨hno, rfl⟩⟩ dX2_firstParted_28
    | succ u_2 ih_5 =>
      intro k_3 H locs ls hk_4 h1k hno hS hl
      refine lv_iload_n C.x C.b dX2_firstParted_2 rfl (lv_at hl 2 rfl) ?_
      refine lv_bipush (v := 16) C.x C.b dX2_firstParted_3 (by decide) ?_
      refine lv_icmp_ge (tgt := 27) C.x C.b dX2_firstParted_5 (by decide) (fun c_8 => absurd c_8 (nI_ge (a := k_3) (b := 16) (by omega) (by decide))) (fun c_8 => ?_)
      refine lv_aload_n C.x C.b dX2_firstParted_8 rfl (lv_at hl 0 rfl) ?_
      refine r_get ck2 flX2_11 C hS (by omega) hFx.1 (by decide) rfl dX2_firstParted_9 ?_
      refine lv_iload_n C.x C.b dX2_firstParted_12 rfl (lv_at hl 1 rfl) ?_
      refine r_aald q rfl (by omega) (by decide) (cnQ_at (by omega)) C hS (by omega) 4 rfl rfl hFx.2.1 dX2_firstParted_13 ?_
      refine lv_iload_n C.x C.b dX2_firstParted_14 rfl (lv_at hl 2 rfl) ?_
      refine r_ialdN k_3 rfl (by omega) (by decide) C hS (by omega) hfn dX2_firstParted_15 ?_
      refine lv_if_eq (tgt := 21) C.x C.b dX2_firstParted_16 (by decide) (fun c_9 => ?_) (fun c_9 => ?_)
      · skip
        refine lv_iinc (v := nI (k_3 + 1)) (lv' := [(2, .int (nI (k_3 + 1))), (0, .ref (B + 23)), (1, .int (nI q))]) C.x C.b dX2_firstParted_21 hl (k := 2) rfl (nI_1 k_3) (by decide) rfl (fun ls hl => ?_)
        refine lv_goto (tgt := 2) C.x C.b dX2_firstParted_24 (by decide) ?_
        exact ih_5 (k_3 + 1) _ _ _ (by omega) (by omega) (fun j h1 h2 => by
        rcases Nat.lt_or_ge j k_3 with q9 | q9
        · exact hno j h1 q9
        · obtain rfl : j = k_3 := by omega
          exact c_9) hS (lv_sub hl [1, 2, 0] rfl)
      · skip
        refine lv_iload_n C.x C.b dX2_firstParted_19 rfl (lv_at hl 2 rfl) ?_
        exact r_iret C hr hlocks hS ⟨rfl, Or.inl ⟨k_3, by omega, by omega, c_9, hno, rfl⟩⟩ dX2_firstParted_20
  exact lp_1 (16 - 1) 1 _ _ _ (by omega) (by omega) (fun j h1 h2 => absurd h2 (by omega)) hS (lv_sub hl [1, 2, 0] rfl)
set_option maxHeartbeats 1000000 in
set_option maxRecDepth 100000 in
theorem x_X7_classes (l : Launch) (D : va_G) (t : Gx) (B N : Nat) (g : Nat → va_E) (o pr w : Nat → Int32) (n : Nat) (ey wi ev : Int32) (o' w' : Nat → Int32) (x : Int32) (hN : 220 ≤ N) (hP : isProg t B g 1 o pr w n) (hn : n ≤ 8) (hW : isWat g 5 ey wi ev) (hScr : Scr t B g) (hE : ∀ q, q < n → o q = o' q) (hW2 : ∀ q, q < 8 → w q = w' q) (hO : okO o') (hoe : okE ey) (hwd : isWd wi) (hPO : PartOk t g (fun a b => obR o' n w' wi ev ey (16 * a + b))) : Ci l D t B N yX7_classes cX7_classes 2 (some .int) 5 132 g [.ref (B + 0), .int x] (fun r g' => Kp t B g g' ∧ (clsA (fun a b => obR o' n w' wi ev ey (16 * a + b)) x r) ∧ PartOk t g' (fun a b => obR o' n w' wi ev ey (16 * a + b)) ∧ ∀ j, 113 ≤ j → g' j = g j) := by
  refine Ci.start (by decide) (Nat.le_of_ble_eq_true rfl) ?_
  intro p e s m below meth c ls C hr hlocks hS hl
  replace C : Cx D t p s m [.ref (B + 0), .int x].toArray c cX7_classes 2 RX7 := C
  replace hl : lv_has ls 2 [(0, .ref (B + 0)), (1, .int x)] := hl
  obtain ⟨p0, p1, p2, p3⟩ := id hP
  have hKp : Kp t B g g := Kp.rf hScr
  have hFz : ∀ j, 113 ≤ j → g j = g j := fun _ _ => rfl
  refine lv_iload_n C.x C.b dX7_classes_0 rfl (lv_at hl 1 rfl) ?_
  refine r_callS (As := [.int x]) (rest := []) (c_X7_isInput l D t B N g x) mf_yX7_isInput mlX7_116 sm_yX7_isInput (by decide) C hS rfl hl.1 rfl (Nat.le_of_ble_eq_true rfl) dX7_classes_1 ⟨Nat.zero_le _, Nat.zero_le _⟩ (fun r_3 g_1 H locs w_2 hS => ?_)
  obtain ⟨rfl, er_3⟩ := w_2
  by_cases b_4 : inP 16 x
  · rw [bz_t b_4] at er_3
    subst er_3
    obtain ⟨q_5, hq_6, rfl⟩ := inP_nI b_4 (by decide)
    refine lv_if_ne (tgt := 9) C.x C.b dX7_classes_4 (by decide) (fun c_7 => ?_) (fun c_7 => absurd c_7 (by decide))
    refine lv_aload_n C.x C.b dX7_classes_9 rfl (lv_at hl 0 rfl) ?_
    obtain ⟨v_8, e_9⟩ := hKp.2.1
    refine r_get ck7 flX7_50 C hS (by omega) e_9 (by decide) rfl dX7_classes_10 ?_
    refine lv_aload_n C.x C.b dX7_classes_13 rfl (lv_at hl 0 rfl) ?_
    refine r_get ck7 flX7_26 C hS (by omega) e_9 (by decide) rfl dX7_classes_14 ?_
    refine lv_aload_n C.x C.b dX7_classes_17 rfl (lv_at hl 0 rfl) ?_
    refine r_get ck7 flX7_12 C hS (by omega) e_9 (by decide) rfl dX7_classes_18 ?_
    refine lv_aload_n C.x C.b dX7_classes_21 rfl (lv_at hl 0 rfl) ?_
    refine r_get ck7 flX7_19 C hS (by omega) e_9 (by decide) rfl dX7_classes_22 ?_
    refine lv_iload_n C.x C.b dX7_classes_25 rfl (lv_at hl 1 rfl) ?_
    have e_13 := hKp.2.2.2.2.2.1.1
    refine r_callVv (b := 23) (As := [.ref (B + 6), .ref (B + 1), .ref (B + 5), .int (nI q_5)]) (rest := []) (x_X2_learn l D t B N g _ _ _ _ _ _ _ o' w' q_5 (by omega) ⟨p0, p1, p2, p3⟩ (by omega) hW hKp.2 hE hW2 hO hoe hwd (by omega) hPO) mf_yX2_learn mlX7_149 im_yX2_learn se_yX2_learn (by decide) C hS (by omega) e_13 (show vwCl[2]? = some _ from rfl) rfl rfl hl.1 rfl (Nat.le_of_ble_eq_true rfl) dX7_classes_26 ⟨Nat.zero_le _, Nat.zero_le _⟩ (fun g_10 H locs w_11 hS => ?_)
    obtain ⟨w_11, hPO, hPA, hf_14⟩ := w_11
    replace hKp : Kp t B g g_10 := hKp.tr w_11
    replace hFz : ∀ j, 113 ≤ j → g_10 j = g j := fun j hj => (hf_14 j (by omega)).trans (hFz j hj)
    obtain ⟨cn_15, fn_16, e_17, e_18, cl_19, mn_20, hcp_21, hcn_22, hfn_23⟩ := id hPA
    refine lv_aload_n C.x C.b dX7_classes_29 rfl (lv_at hl 0 rfl) ?_
    obtain ⟨v_24, e_25⟩ := hKp.2.1
    refine r_get ck7 flX7_50 C hS (by omega) e_25 (by decide) rfl dX7_classes_30 ?_
    have e_26 := hKp.2.2.2.2.2.1.1
    refine r_get ck2 flX7_153 C hS (by omega) e_26 (by decide) rfl dX7_classes_33 ?_
    refine lv_iload_n C.x C.b dX7_classes_36 rfl (lv_at hl 1 rfl) ?_
    refine r_ialdN q_5 rfl (by omega) (by decide) C hS (by omega) e_17 dX7_classes_37 ?_
    exact r_iret C hr hlocks hS ⟨hKp, Or.inr ⟨q_5, by omega, rfl, cl_19, mn_20, hcp_21, hcn_22⟩, hPO, hFz⟩ dX7_classes_38
  · rw [bz_f b_4] at er_3
    subst er_3
    refine lv_if_ne (tgt := 9) C.x C.b dX7_classes_4 (by decide) (fun c_27 => absurd (by decide) c_27) (fun c_27 => ?_)
    refine lv_iconst (v := (-1)) C.x C.b dX7_classes_7 (by decide) ?_
    exact r_iret C hr hlocks hS ⟨hKp, Or.inl ⟨b_4, rfl⟩, hPO, hFz⟩ dX7_classes_8
set_option maxHeartbeats 1000000 in
set_option maxRecDepth 100000 in
theorem x_X7_classOf (l : Launch) (D : va_G) (t : Gx) (B N : Nat) (g : Nat → va_E) (o pr w : Nat → Int32) (n : Nat) (ey wi ev : Int32) (o' w' : Nat → Int32) (x y : Int32) (hN : 220 ≤ N) (hP : isProg t B g 1 o pr w n) (hn : n ≤ 8) (hW : isWat g 5 ey wi ev) (hScr : Scr t B g) (hE : ∀ q, q < n → o q = o' q) (hW2 : ∀ q, q < 8 → w q = w' q) (hO : okO o') (hoe : okE ey) (hwd : isWd wi) (hPO : PartOk t g (fun a b => obR o' n w' wi ev ey (16 * a + b))) : Ci l D t B N yX7_classOf cX7_classOf 3 (some .int) 5 132 g [.ref (B + 0), .int x, .int y] (fun r g' => Kp t B g g' ∧ (clsB (fun a b => obR o' n w' wi ev ey (16 * a + b)) x y r) ∧ PartOk t g' (fun a b => obR o' n w' wi ev ey (16 * a + b)) ∧ ∀ j, 113 ≤ j → g' j = g j) := by
  refine Ci.start (by decide) (Nat.le_of_ble_eq_true rfl) ?_
  intro p e s m below meth c ls C hr hlocks hS hl
  replace C : Cx D t p s m [.ref (B + 0), .int x, .int y].toArray c cX7_classOf 3 RX7 := C
  replace hl : lv_has ls 3 [(0, .ref (B + 0)), (1, .int x), (2, .int y)] := hl
  obtain ⟨p0, p1, p2, p3⟩ := id hP
  have hKp : Kp t B g g := Kp.rf hScr
  have hFz : ∀ j, 113 ≤ j → g j = g j := fun _ _ => rfl
  refine lv_iload_n C.x C.b dX7_classOf_0 rfl (lv_at hl 1 rfl) ?_
  refine r_callS (As := [.int x]) (rest := []) (c_X7_isInput l D t B N g x) mf_yX7_isInput mlX7_116 sm_yX7_isInput (by decide) C hS rfl hl.1 rfl (Nat.le_of_ble_eq_true rfl) dX7_classOf_1 ⟨Nat.zero_le _, Nat.zero_le _⟩ (fun r_3 g_1 H locs w_2 hS => ?_)
  obtain ⟨rfl, er_3⟩ := w_2
  by_cases b_4 : inP 16 x
  · rw [bz_t b_4] at er_3
    subst er_3
    obtain ⟨q_5, hq_6, rfl⟩ := inP_nI b_4 (by decide)
    refine lv_if_eq (tgt := 14) C.x C.b dX7_classOf_4 (by decide) (fun c_7 => absurd c_7 (by decide)) (fun c_7 => ?_)
    refine lv_iload_n C.x C.b dX7_classOf_7 rfl (lv_at hl 2 rfl) ?_
    refine r_callS (As := [.int y]) (rest := []) (c_X7_isInput l D t B N g y) mf_yX7_isInput mlX7_116 sm_yX7_isInput (by decide) C hS rfl hl.1 rfl (Nat.le_of_ble_eq_true rfl) dX7_classOf_8 ⟨Nat.zero_le _, Nat.zero_le _⟩ (fun r_10 g_8 H locs w_9 hS => ?_)
    obtain ⟨rfl, er_10⟩ := w_9
    by_cases b_11 : inP 16 y
    · rw [bz_t b_11] at er_10
      subst er_10
      obtain ⟨q_12, hq_13, rfl⟩ := inP_nI b_11 (by decide)
      refine lv_if_ne (tgt := 16) C.x C.b dX7_classOf_11 (by decide) (fun c_14 => ?_) (fun c_14 => absurd c_14 (by decide))
      refine lv_aload_n C.x C.b dX7_classOf_16 rfl (lv_at hl 0 rfl) ?_
      obtain ⟨v_15, e_16⟩ := hKp.2.1
      refine r_get ck7 flX7_50 C hS (by omega) e_16 (by decide) rfl dX7_classOf_17 ?_
      refine lv_aload_n C.x C.b dX7_classOf_20 rfl (lv_at hl 0 rfl) ?_
      refine r_get ck7 flX7_26 C hS (by omega) e_16 (by decide) rfl dX7_classOf_21 ?_
      refine lv_aload_n C.x C.b dX7_classOf_24 rfl (lv_at hl 0 rfl) ?_
      refine r_get ck7 flX7_12 C hS (by omega) e_16 (by decide) rfl dX7_classOf_25 ?_
      refine lv_aload_n C.x C.b dX7_classOf_28 rfl (lv_at hl 0 rfl) ?_
      refine r_get ck7 flX7_19 C hS (by omega) e_16 (by decide) rfl dX7_classOf_29 ?_
      refine lv_iload_n C.x C.b dX7_classOf_32 rfl (lv_at hl 1 rfl) ?_
      have e_20 := hKp.2.2.2.2.2.1.1
      refine r_callVv (b := 23) (As := [.ref (B + 6), .ref (B + 1), .ref (B + 5), .int (nI q_5)]) (rest := []) (x_X2_learn l D t B N g _ _ _ _ _ _ _ o' w' q_5 (by omega) ⟨p0, p1, p2, p3⟩ (by omega) hW hKp.2 hE hW2 hO hoe hwd (by omega) hPO) mf_yX2_learn mlX7_149 im_yX2_learn se_yX2_learn (by decide) C hS (by omega) e_20 (show vwCl[2]? = some _ from rfl) rfl rfl hl.1 rfl (Nat.le_of_ble_eq_true rfl) dX7_classOf_33 ⟨Nat.zero_le _, Nat.zero_le _⟩ (fun g_17 H locs w_18 hS => ?_)
      obtain ⟨w_18, hPO, hPA, hf_21⟩ := w_18
      replace hKp : Kp t B g g_17 := hKp.tr w_18
      replace hFz : ∀ j, 113 ≤ j → g_17 j = g j := fun j hj => (hf_21 j (by omega)).trans (hFz j hj)
      obtain ⟨cn_22, fn_23, e_24, e_25, cl_26, mn_27, hcp_28, hcn_29, hfn_30⟩ := id hPA
      refine lv_aload_n C.x C.b dX7_classOf_36 rfl (lv_at hl 0 rfl) ?_
      obtain ⟨v_31, e_32⟩ := hKp.2.1
      refine r_get ck7 flX7_50 C hS (by omega) e_32 (by decide) rfl dX7_classOf_37 ?_
      have e_33 := hKp.2.2.2.2.2.1.1
      refine r_get ck2 flX7_156 C hS (by omega) e_33 (by decide) rfl dX7_classOf_40 ?_
      refine lv_iload_n C.x C.b dX7_classOf_43 rfl (lv_at hl 1 rfl) ?_
      have e_34 := hKp.2.2.2.2.2.1.2.1
      refine r_aald q_5 rfl (by omega) (by decide) (cnQ_at (by omega)) C hS (by omega) 4 rfl rfl e_34 dX7_classOf_44 ?_
      refine lv_iload_n C.x C.b dX7_classOf_45 rfl (lv_at hl 2 rfl) ?_
      refine r_ialdN q_12 rfl (by omega) (by decide) C hS (by omega) e_25 dX7_classOf_46 ?_
      exact r_iret C hr hlocks hS ⟨hKp, Or.inr ⟨q_5, q_12, by omega, by omega, rfl, rfl, cl_26, mn_27, hcp_28, hfn_30 q_12 (by omega)⟩, hPO, hFz⟩ dX7_classOf_47
    · rw [bz_f b_11] at er_10
      subst er_10
      refine lv_if_ne (tgt := 16) C.x C.b dX7_classOf_11 (by decide) (fun c_35 => absurd (by decide) c_35) (fun c_35 => ?_)
      refine lv_iconst (v := (-1)) C.x C.b dX7_classOf_14 (by decide) ?_
      exact r_iret C hr hlocks hS ⟨hKp, Or.inl ⟨fun q => b_11 q.2, rfl⟩, hPO, hFz⟩ dX7_classOf_15
  · rw [bz_f b_4] at er_3
    subst er_3
    refine lv_if_eq (tgt := 14) C.x C.b dX7_classOf_4 (by decide) (fun c_36 => ?_) (fun c_36 => absurd (by decide) c_36)
    refine lv_iconst (v := (-1)) C.x C.b dX7_classOf_14 (by decide) ?_
    exact r_iret C hr hlocks hS ⟨hKp, Or.inl ⟨fun q => b_4 q.1, rfl⟩, hPO, hFz⟩ dX7_classOf_15
set_option maxHeartbeats 1000000 in
set_option maxRecDepth 100000 in
theorem x_X7_most (l : Launch) (D : va_G) (t : Gx) (B N : Nat) (g : Nat → va_E) (o pr w : Nat → Int32) (n : Nat) (ey wi ev : Int32) (o' w' : Nat → Int32)  (hN : 220 ≤ N) (hP : isProg t B g 1 o pr w n) (hn : n ≤ 8) (hW : isWat g 5 ey wi ev) (hScr : Scr t B g) (hE : ∀ q, q < n → o q = o' q) (hW2 : ∀ q, q < 8 → w q = w' q) (hO : okO o') (hoe : okE ey) (hwd : isWd wi) (hPO : PartOk t g (fun a b => obR o' n w' wi ev ey (16 * a + b))) : Ci l D t B N yX7_most cX7_most 3 (some .int) 5 132 g [.ref (B + 0)] (fun r g' => Kp t B g g' ∧ (mostA (fun a b => obR o' n w' wi ev ey (16 * a + b)) r) ∧ PartOk t g' (fun a b => obR o' n w' wi ev ey (16 * a + b)) ∧ ∀ j, 113 ≤ j → g' j = g j) := by
  refine Ci.start (by decide) (Nat.le_of_ble_eq_true rfl) ?_
  intro p e s m below meth c ls C hr hlocks hS hl
  replace C : Cx D t p s m [.ref (B + 0)].toArray c cX7_most 3 RX7 := C
  replace hl : lv_has ls 3 [(0, .ref (B + 0))] := hl
  obtain ⟨p0, p1, p2, p3⟩ := id hP
  have hKp : Kp t B g g := Kp.rf hScr
  have hFz : ∀ j, 113 ≤ j → g j = g j := fun _ _ => rfl
  refine lv_iconst (v := 0) C.x C.b dX7_most_0 (by decide) ?_
  refine lv_istore_n (lv' := [(1, .int 0), (0, .ref (B + 0))]) C.x C.b dX7_most_1 rfl hl (by decide) rfl (fun ls hl => ?_)
  refine lv_iconst (v := 0) C.x C.b dX7_most_2 (by decide) ?_
  refine lv_istore_n (lv' := [(2, .int 0), (1, .int 0), (0, .ref (B + 0))]) C.x C.b dX7_most_3 rfl hl (by decide) rfl (fun ls hl => ?_)
  have lp_1 : ∀ (u_2 k_3 : Nat) (b_7 : Nat) (f_8 : Nat → Nat) (g_6 : Nat → va_E) (H : Heap) (locs : List Loc) (ls : Array Slot), k_3 + u_2 = 16 → (b_7 = maxTo f_8 k_3) → (b_7 ≤ 16) → (∀ a, a < k_3 → ∃ cl mn, ClsP (fun b_7 c => alikeR (obR o' n w' wi ev ey (16 * a + b_7)) (obR o' n w' wi ev ey (16 * a + c))) cl mn 16 ∧ f_8 a = mn 16) → (PartOk t g_6 (fun a b_7 => obR o' n w' wi ev ey (16 * a + b_7))) → (∀ j, 113 ≤ j → g_6 j = g j) → Kp t B g g_6 → St D B s.heap N g_6 H locs → lv_has ls 3 [(0, .ref (B + 0)), (1, .int (nI b_7)), (2, .int (nI k_3))] → W p l e (rmOf 5 132 0 0) s m [.ref (B + 0)].toArray below meth c H locs 0 0 (MQ below (qI D B N (fun r g' => Kp t B g g' ∧ (mostA (fun a b => obR o' n w' wi ev ey (16 * a + b)) r) ∧ PartOk t g' (fun a b => obR o' n w' wi ev ey (16 * a + b)) ∧ ∀ j, 113 ≤ j → g' j = g j)) [.ref (B + 0)].toArray s 0 0 (fun q => B ≤ q)) (F0 m 4 ls []) := by
    intro u_2
    induction u_2 with
    | zero =>
      intro k_3 b_7 f_8 g_6 H locs ls hk_4 hmx_9 hb9_10 hcf_11 hpo_12 hz1_13 hKp hS hl
      obtain rfl : 16 = k_3 := by omega
      have hPO := hpo_12
      have hFz := hz1_13
      refine lv_iload_n C.x C.b dX7_most_4 rfl (lv_at hl 2 rfl) ?_
      refine lv_bipush (v := 16) C.x C.b dX7_most_5 (by decide) ?_
      refine lv_icmp_ge (tgt := 50) C.x C.b dX7_most_7 (by decide) (fun c_14 => ?_) (fun c_14 => absurd (by decide) c_14)
      refine lv_iload_n C.x C.b dX7_most_50 rfl (lv_at hl 1 rfl) ?_
      exact r_iret C hr hlocks hS ⟨hKp, ⟨f_8, hcf_11, by rw [hmx_9]⟩, hPO, hFz⟩ dX7_most_51
    | succ u_2 ih_5 =>
      intro k_3 b_7 f_8 g_6 H locs ls hk_4 hmx_9 hb9_10 hcf_11 hpo_12 hz1_13 hKp hS hl
      have hPO := hpo_12
      have hFz := hz1_13
      refine lv_iload_n C.x C.b dX7_most_4 rfl (lv_at hl 2 rfl) ?_
      refine lv_bipush (v := 16) C.x C.b dX7_most_5 (by decide) ?_
      refine lv_icmp_ge (tgt := 50) C.x C.b dX7_most_7 (by decide) (fun c_15 => absurd c_15 (nI_ge (a := k_3) (b := 16) (by omega) (by decide))) (fun c_15 => ?_)
      refine lv_aload_n C.x C.b dX7_most_10 rfl (lv_at hl 0 rfl) ?_
      obtain ⟨v_16, e_17⟩ := hKp.2.1
      refine r_get ck7 flX7_50 C hS (by omega) e_17 (by decide) rfl dX7_most_11 ?_
      refine lv_aload_n C.x C.b dX7_most_14 rfl (lv_at hl 0 rfl) ?_
      refine r_get ck7 flX7_26 C hS (by omega) e_17 (by decide) rfl dX7_most_15 ?_
      refine lv_aload_n C.x C.b dX7_most_18 rfl (lv_at hl 0 rfl) ?_
      refine r_get ck7 flX7_12 C hS (by omega) e_17 (by decide) rfl dX7_most_19 ?_
      refine lv_aload_n C.x C.b dX7_most_22 rfl (lv_at hl 0 rfl) ?_
      refine r_get ck7 flX7_19 C hS (by omega) e_17 (by decide) rfl dX7_most_23 ?_
      refine lv_iload_n C.x C.b dX7_most_26 rfl (lv_at hl 2 rfl) ?_
      have e_18 : g_6 1 = .inr (3, [.ref (B + (1 + 1)), .ref (B + (1 + 2)), .ref (B + (1 + 3)), .int (nI n)]) := (hKp.1 _ (by omega)).trans p0
      have e_19 : g_6 (1 + 1) = .inl (t.1, 8, .inl o) := (hKp.1 _ (by omega)).trans p1
      have e_20 : g_6 (1 + 2) = .inl (t.1, 8, .inl pr) := (hKp.1 _ (by omega)).trans p2
      have e_21 : g_6 (1 + 3) = .inl (t.1, 8, .inl w) := (hKp.1 _ (by omega)).trans p3
      have e_22 : g_6 5 = .inr (6, [.int ey, .int wi, .int ev]) := (hKp.1 _ (by omega)).trans hW
      have e_26 := hKp.2.2.2.2.2.1.1
      refine r_callVv (b := 23) (As := [.ref (B + 6), .ref (B + 1), .ref (B + 5), .int (nI k_3)]) (rest := []) (x_X2_learn l D t B N g_6 _ _ _ _ _ _ _ o' w' k_3 (by omega) ⟨e_18, e_19, e_20, e_21⟩ (by omega) e_22 hKp.2 hE hW2 hO hoe hwd (by omega) hPO) mf_yX2_learn mlX7_149 im_yX2_learn se_yX2_learn (by decide) C hS (by omega) e_26 (show vwCl[2]? = some _ from rfl) rfl rfl hl.1 rfl (Nat.le_of_ble_eq_true rfl) dX7_most_27 ⟨Nat.zero_le _, Nat.zero_le _⟩ (fun g_23 H locs w_24 hS => ?_)
      obtain ⟨w_24, hPO, hPA, hf_27⟩ := w_24
      replace hKp : Kp t B g g_23 := hKp.tr w_24
      replace hFz : ∀ j, 113 ≤ j → g_23 j = g j := fun j hj => (hf_27 j (by omega)).trans (hFz j hj)
      obtain ⟨cn_28, fn_29, e_30, e_31, cl_32, mn_33, hcp_34, hcn_35, hfn_36⟩ := id hPA
      refine lv_iload_n C.x C.b dX7_most_30 rfl (lv_at hl 1 rfl) ?_
      refine lv_aload_n C.x C.b dX7_most_31 rfl (lv_at hl 0 rfl) ?_
      obtain ⟨v_37, e_38⟩ := hKp.2.1
      refine r_get ck7 flX7_50 C hS (by omega) e_38 (by decide) rfl dX7_most_32 ?_
      have e_39 := hKp.2.2.2.2.2.1.1
      refine r_get ck2 flX7_153 C hS (by omega) e_39 (by decide) rfl dX7_most_35 ?_
      refine lv_iload_n C.x C.b dX7_most_38 rfl (lv_at hl 2 rfl) ?_
      refine r_ialdN k_3 rfl (by omega) (by decide) C hS (by omega) e_30 dX7_most_39 ?_
      refine r_mmax mlX7_160 C hl.1 (by decide) (Nat.le_of_ble_eq_true rfl) ⟨Nat.zero_le _, Nat.zero_le _⟩ dX7_most_40 ?_
      refine r_top (y := nI (max b_7 (mn_33 16))) (by rw [hcn_35]; exact maxF_nI (by omega) (by have := hcp_34.le 16 (by omega); omega)) ?_
      refine lv_istore_n (lv' := [(1, .int (nI (max b_7 (mn_33 16)))), (0, .ref (B + 0)), (2, .int (nI k_3))]) C.x C.b dX7_most_43 rfl hl (by decide) rfl (fun ls hl => ?_)
      refine lv_iinc (v := nI (k_3 + 1)) (lv' := [(2, .int (nI (k_3 + 1))), (1, .int (nI (max b_7 (mn_33 16)))), (0, .ref (B + 0))]) C.x C.b dX7_most_44 hl (k := 2) rfl (nI_1 k_3) (by decide) rfl (fun ls hl => ?_)
      refine lv_goto (tgt := 4) C.x C.b dX7_most_47 (by decide) ?_
      exact ih_5 (k_3 + 1) (max b_7 (mn_33 16)) (va_up f_8 k_3 (mn_33 16)) g_23 _ _ _ (by omega) (maxTo_s hmx_9) (by have := hcp_34.le 16 (by omega); omega) (cf_s hcf_11 ⟨cl_32, mn_33, hcp_34, rfl⟩) hPO hFz hKp hS (lv_sub hl [2, 1, 0] rfl)
  exact lp_1 16 0 0 (fun _ => 0) g _ _ _ (by omega) rfl (by omega) (fun a h => absurd h (Nat.not_lt_zero _)) hPO hFz hKp hS (lv_sub hl [2, 1, 0] rfl)
set_option maxHeartbeats 1000000 in
set_option maxRecDepth 100000 in
theorem x_X7_firstToldOpen (l : Launch) (D : va_G) (t : Gx) (B N : Nat) (g : Nat → va_E) (o pr w : Nat → Int32) (n : Nat) (ey wi ev : Int32) (o' w' : Nat → Int32)  (hN : 220 ≤ N) (hP : isProg t B g 1 o pr w n) (hn : n ≤ 8) (hW : isWat g 5 ey wi ev) (hScr : Scr t B g) (hE : ∀ q, q < n → o q = o' q) (hW2 : ∀ q, q < 8 → w q = w' q) (hO : okO o') (hoe : okE ey) (hwd : isWd wi) (hPO : PartOk t g (fun a b => obR o' n w' wi ev ey (16 * a + b))) : Ci l D t B N yX7_firstToldOpen cX7_firstToldOpen 2 (some .int) 5 132 g [.ref (B + 0)] (fun r g' => Kp t B g g' ∧ ((r = -1 ∧ ∀ a, a < 16 → ∃ cl mn, ClsP (fun b c => alikeR (obR o' n w' wi ev ey (16 * a + b)) (obR o' n w' wi ev ey (16 * a + c))) cl mn 16 ∧ mn 16 ≤ 1) ∨ ∃ a, a < 16 ∧ r = nI a ∧ (∀ a9, a9 < a → ∃ cl mn, ClsP (fun b c => alikeR (obR o' n w' wi ev ey (16 * a9 + b)) (obR o' n w' wi ev ey (16 * a9 + c))) cl mn 16 ∧ mn 16 ≤ 1) ∧ (∃ cl mn, ClsP (fun b c => alikeR (obR o' n w' wi ev ey (16 * a + b)) (obR o' n w' wi ev ey (16 * a + c))) cl mn 16 ∧ 1 < mn 16) ∧ PartAt t g' (fun a b => obR o' n w' wi ev ey (16 * a + b)) a) ∧ PartOk t g' (fun a b => obR o' n w' wi ev ey (16 * a + b)) ∧ ∀ j, 113 ≤ j → g' j = g j) := by
  refine Ci.start (by decide) (Nat.le_of_ble_eq_true rfl) ?_
  intro p e s m below meth c ls C hr hlocks hS hl
  replace C : Cx D t p s m [.ref (B + 0)].toArray c cX7_firstToldOpen 2 RX7 := C
  replace hl : lv_has ls 2 [(0, .ref (B + 0))] := hl
  obtain ⟨p0, p1, p2, p3⟩ := id hP
  have hKp : Kp t B g g := Kp.rf hScr
  have hFz : ∀ j, 113 ≤ j → g j = g j := fun _ _ => rfl
  refine lv_iconst (v := 0) C.x C.b dX7_firstToldOpen_0 (by decide) ?_
  refine lv_istore_n (lv' := [(1, .int 0), (0, .ref (B + 0))]) C.x C.b dX7_firstToldOpen_1 rfl hl (by decide) rfl (fun ls hl => ?_)
  have lp_1 : ∀ (u_2 k_3 : Nat) (g_6 : Nat → va_E) (H : Heap) (locs : List Loc) (ls : Array Slot), k_3 + u_2 = 16 → (∀ a, a < k_3 → ∃ cl mn, ClsP (fun b c => alikeR (obR o' n w' wi ev ey (16 * a + b)) (obR o' n w' wi ev ey (16 * a + c))) cl mn 16 ∧ mn 16 ≤ 1) → (PartOk t g_6 (fun a b => obR o' n w' wi ev ey (16 * a + b))) → (∀ j, 113 ≤ j → g_6 j = g j) → Kp t B g g_6 → St D B s.heap N g_6 H locs → lv_has ls 2 [(0, .ref (B + 0)), (1, .int (nI k_3))] → W p l e (rmOf 5 132 0 0) s m [.ref (B + 0)].toArray below meth c H locs 0 0 (MQ below (qI D B N (fun r g' => Kp t B g g' ∧ ((r = -1 ∧ ∀ a, a < 16 → ∃ cl mn, ClsP (fun b c => alikeR (obR o' n w' wi ev ey (16 * a + b)) (obR o' n w' wi ev ey (16 * a + c))) cl mn 16 ∧ mn 16 ≤ 1) ∨ ∃ a, a < 16 ∧ r = nI a ∧ (∀ a9, a9 < a → ∃ cl mn, ClsP (fun b c => alikeR (obR o' n w' wi ev ey (16 * a9 + b)) (obR o' n w' wi ev ey (16 * a9 + c))) cl mn 16 ∧ mn 16 ≤ 1) ∧ (∃ cl mn, ClsP (fun b c => alikeR (obR o' n w' wi ev ey (16 * a + b)) (obR o' n w' wi ev ey (16 * a + c))) cl mn 16 ∧ 1 < mn 16) ∧ PartAt t g' (fun a b => obR o' n w' wi ev ey (16 * a + b)) a) ∧ PartOk t g' (fun a b => obR o' n w' wi ev ey (16 * a + b)) ∧ ∀ j, 113 ≤ j → g' j = g j)) [.ref (B + 0)].toArray s 0 0 (fun q => B ≤ q)) (F0 m 2 ls []) := by
    intro u_2
    induction u_2 with
    | zero =>
      intro k_3 g_6 H locs ls hk_4 hqt_7 hpo_8 hz1_9 hKp hS hl
      obtain rfl : 16 = k_3 := by omega
      have hPO := hpo_8
      have hFz := hz1_9
      refine lv_iload_n C.x C.b dX7_firstToldOpen_2 rfl (lv_at hl 1 rfl) ?_
      refine lv_bipush (v := 16) C.x C.b dX7_firstToldOpen_3 (by decide) ?_
      refine lv_icmp_ge (tgt := 49) C.x C.b dX7_firstToldOpen_5 (by decide) (fun c_10 => ?_) (fun c_10 => absurd (by decide) c_10)
      refine lv_iconst (v := (-1)) C.x C.b dX7_firstToldOpen_49 (by decide) ?_
      exact r_iret C hr hlocks hS ⟨hKp, Or.inl ⟨rfl, hqt_7⟩, hPO, hFz⟩ dX7_firstToldOpen_50
    | succ u_2 ih_5 =>
      intro k_3 g_6 H locs ls hk_4 hqt_7 hpo_8 hz1_9 hKp hS hl
      have hPO := hpo_8
      have hFz := hz1_9
      refine lv_iload_n C.x C.b dX7_firstToldOpen_2 rfl (lv_at hl 1 rfl) ?_
      refine lv_bipush (v := 16) C.x C.b dX7_firstToldOpen_3 (by decide) ?_
      refine lv_icmp_ge (tgt := 49) C.x C.b dX7_firstToldOpen_5 (by decide) (fun c_11 => absurd c_11 (nI_ge (a := k_3) (b := 16) (by omega) (by decide))) (fun c_11 => ?_)
      refine lv_aload_n C.x C.b dX7_firstToldOpen_8 rfl (lv_at hl 0 rfl) ?_
      obtain ⟨v_12, e_13⟩ := hKp.2.1
      refine r_get ck7 flX7_50 C hS (by omega) e_13 (by decide) rfl dX7_firstToldOpen_9 ?_
      refine lv_aload_n C.x C.b dX7_firstToldOpen_12 rfl (lv_at hl 0 rfl) ?_
      refine r_get ck7 flX7_26 C hS (by omega) e_13 (by decide) rfl dX7_firstToldOpen_13 ?_
      refine lv_aload_n C.x C.b dX7_firstToldOpen_16 rfl (lv_at hl 0 rfl) ?_
      refine r_get ck7 flX7_12 C hS (by omega) e_13 (by decide) rfl dX7_firstToldOpen_17 ?_
      refine lv_aload_n C.x C.b dX7_firstToldOpen_20 rfl (lv_at hl 0 rfl) ?_
      refine r_get ck7 flX7_19 C hS (by omega) e_13 (by decide) rfl dX7_firstToldOpen_21 ?_
      refine lv_iload_n C.x C.b dX7_firstToldOpen_24 rfl (lv_at hl 1 rfl) ?_
      have e_14 : g_6 1 = .inr (3, [.ref (B + (1 + 1)), .ref (B + (1 + 2)), .ref (B + (1 + 3)), .int (nI n)]) := (hKp.1 _ (by omega)).trans p0
      have e_15 : g_6 (1 + 1) = .inl (t.1, 8, .inl o) := (hKp.1 _ (by omega)).trans p1
      have e_16 : g_6 (1 + 2) = .inl (t.1, 8, .inl pr) := (hKp.1 _ (by omega)).trans p2
      have e_17 : g_6 (1 + 3) = .inl (t.1, 8, .inl w) := (hKp.1 _ (by omega)).trans p3
      have e_18 : g_6 5 = .inr (6, [.int ey, .int wi, .int ev]) := (hKp.1 _ (by omega)).trans hW
      have e_22 := hKp.2.2.2.2.2.1.1
      refine r_callVv (b := 23) (As := [.ref (B + 6), .ref (B + 1), .ref (B + 5), .int (nI k_3)]) (rest := []) (x_X2_learn l D t B N g_6 _ _ _ _ _ _ _ o' w' k_3 (by omega) ⟨e_14, e_15, e_16, e_17⟩ (by omega) e_18 hKp.2 hE hW2 hO hoe hwd (by omega) hPO) mf_yX2_learn mlX7_149 im_yX2_learn se_yX2_learn (by decide) C hS (by omega) e_22 (show vwCl[2]? = some _ from rfl) rfl rfl hl.1 rfl (Nat.le_of_ble_eq_true rfl) dX7_firstToldOpen_25 ⟨Nat.zero_le _, Nat.zero_le _⟩ (fun g_19 H locs w_20 hS => ?_)
      obtain ⟨w_20, hPO, hPA, hf_23⟩ := w_20
      replace hKp : Kp t B g g_19 := hKp.tr w_20
      replace hFz : ∀ j, 113 ≤ j → g_19 j = g j := fun j hj => (hf_23 j (by omega)).trans (hFz j hj)
      obtain ⟨cn_24, fn_25, e_26, e_27, cl_28, mn_29, hcp_30, hcn_31, hfn_32⟩ := id hPA
      refine lv_aload_n C.x C.b dX7_firstToldOpen_28 rfl (lv_at hl 0 rfl) ?_
      obtain ⟨v_33, e_34⟩ := hKp.2.1
      refine r_get ck7 flX7_50 C hS (by omega) e_34 (by decide) rfl dX7_firstToldOpen_29 ?_
      have e_35 := hKp.2.2.2.2.2.1.1
      refine r_get ck2 flX7_153 C hS (by omega) e_35 (by decide) rfl dX7_firstToldOpen_32 ?_
      refine lv_iload_n C.x C.b dX7_firstToldOpen_35 rfl (lv_at hl 1 rfl) ?_
      refine r_ialdN k_3 rfl (by omega) (by decide) C hS (by omega) e_26 dX7_firstToldOpen_36 ?_
      refine lv_iconst (v := 1) C.x C.b dX7_firstToldOpen_37 (by decide) ?_
      refine lv_icmp_le (tgt := 43) C.x C.b dX7_firstToldOpen_38 (by decide) (fun c_36 => ?_) (fun c_36 => ?_)
      · skip
        refine lv_iinc (v := nI (k_3 + 1)) (lv' := [(1, .int (nI (k_3 + 1))), (0, .ref (B + 0))]) C.x C.b dX7_firstToldOpen_43 hl (k := 1) rfl (nI_1 k_3) (by decide) rfl (fun ls hl => ?_)
        refine lv_goto (tgt := 2) C.x C.b dX7_firstToldOpen_46 (by decide) ?_
        exact ih_5 (k_3 + 1) g_19 _ _ _ (by omega) (qt_s hqt_7 ⟨cl_28, mn_29, hcp_30, by have h9 := c_36; rw [hcn_31] at h9; exact (nI_leI (by have := hcp_30.le 16 (by omega); omega) (by omega)).mp h9⟩) hPO hFz hKp hS (lv_sub hl [1, 0] rfl)
      · skip
        refine lv_iload_n C.x C.b dX7_firstToldOpen_41 rfl (lv_at hl 1 rfl) ?_
        exact r_iret C hr hlocks hS ⟨hKp, Or.inr ⟨k_3, by omega, rfl, hqt_7, ⟨cl_28, mn_29, hcp_30, by have h9 := c_36; rw [hcn_31] at h9; exact Nat.lt_of_not_le (fun q9 => h9 (show nI (mn_29 16) ≤ nI 1 from nI_le q9 (by omega)))⟩, hPA⟩, hPO, hFz⟩ dX7_firstToldOpen_42
  exact lp_1 16 0 g _ _ _ (by omega) (fun a h => absurd h (Nat.not_lt_zero _)) hPO hFz hKp hS (lv_sub hl [1, 0] rfl)
set_option maxHeartbeats 1000000 in
set_option maxRecDepth 100000 in
theorem x_X7_silent (l : Launch) (D : va_G) (t : Gx) (B N : Nat) (g : Nat → va_E) (o pr w : Nat → Int32) (n : Nat) (ey wi ev : Int32) (o' w' : Nat → Int32)  (hN : 220 ≤ N) (hP : isProg t B g 1 o pr w n) (hn : n ≤ 8) (hW : isWat g 5 ey wi ev) (hScr : Scr t B g) (hE : ∀ q, q < n → o q = o' q) (hW2 : ∀ q, q < 8 → w q = w' q) (hO : okO o') (hoe : okE ey) (hwd : isWd wi) (hPO : PartOk t g (fun a b => obR o' n w' wi ev ey (16 * a + b))) : Ci l D t B N yX7_silent cX7_silent 1 (some .boolean) 6 153 g [.ref (B + 0)] (fun r g' => Kp t B g g' ∧ ((r = 1 ∧ ∀ a, a < 16 → ∃ cl mn, ClsP (fun b c => alikeR (obR o' n w' wi ev ey (16 * a + b)) (obR o' n w' wi ev ey (16 * a + c))) cl mn 16 ∧ mn 16 ≤ 1) ∨ (r = 0 ∧ ∃ a, a < 16 ∧ ∃ cl mn, ClsP (fun b c => alikeR (obR o' n w' wi ev ey (16 * a + b)) (obR o' n w' wi ev ey (16 * a + c))) cl mn 16 ∧ 1 < mn 16)) ∧ PartOk t g' (fun a b => obR o' n w' wi ev ey (16 * a + b)) ∧ ∀ j, 113 ≤ j → g' j = g j) := by
  refine Ci.start (by decide) (Nat.le_of_ble_eq_true rfl) ?_
  intro p e s m below meth c ls C hr hlocks hS hl
  replace C : Cx D t p s m [.ref (B + 0)].toArray c cX7_silent 1 RX7 := C
  replace hl : lv_has ls 1 [(0, .ref (B + 0))] := hl
  obtain ⟨p0, p1, p2, p3⟩ := id hP
  have hKp : Kp t B g g := Kp.rf hScr
  have hFz : ∀ j, 113 ≤ j → g j = g j := fun _ _ => rfl
  refine lv_aload_n C.x C.b dX7_silent_0 rfl (lv_at hl 0 rfl) ?_
  obtain ⟨v_4, e_5⟩ := hKp.2.1
  refine r_callV (b := 0) (As := []) (rest := []) (x_X7_firstToldOpen l D t B N g _ _ _ _ _ _ _ o' w' (by omega) ⟨p0, p1, p2, p3⟩ (by omega) hW hKp.2 hE hW2 hO hoe hwd hPO) mf_yX7_firstToldOpen mlX7_166 im_yX7_firstToldOpen se_yX7_firstToldOpen (by decide) C hS (by omega) e_5 (show vwCl[7]? = some _ from rfl) rfl rfl hl.1 rfl (Nat.le_of_ble_eq_true rfl) dX7_silent_1 ⟨Nat.zero_le _, Nat.zero_le _⟩ (fun r_3 g_1 H locs w_2 hS => ?_)
  obtain ⟨w_2, ha_7, hPO, hf_6⟩ := w_2
  replace hKp : Kp t B g g_1 := hKp.tr w_2
  replace hFz : ∀ j, 113 ≤ j → g_1 j = g j := fun j hj => (hf_6 j (by omega)).trans (hFz j hj)
  rcases ha_7 with ⟨rfl, q_10⟩ | ⟨k_8, hk_9, rfl, q_10, q_11, hPA_12⟩
  · skip
    refine lv_iconst (v := (-1)) C.x C.b dX7_silent_4 (by decide) ?_
    refine lv_icmp_ne (tgt := 12) C.x C.b dX7_silent_5 (by decide) (fun c_13 => absurd rfl c_13) (fun c_13 => ?_)
    refine lv_iconst (v := 1) C.x C.b dX7_silent_8 (by decide) ?_
    refine lv_goto (tgt := 13) C.x C.b dX7_silent_9 (by decide) ?_
    exact r_zret C hr hlocks hS (by decide) ⟨hKp, Or.inl ⟨rfl, q_10⟩, hPO, hFz⟩ dX7_silent_13
  · skip
    refine lv_iconst (v := (-1)) C.x C.b dX7_silent_4 (by decide) ?_
    refine lv_icmp_ne (tgt := 12) C.x C.b dX7_silent_5 (by decide) (fun c_14 => ?_) (fun c_14 => absurd c_14 (nI_nm1 (by omega)))
    refine lv_iconst (v := 0) C.x C.b dX7_silent_12 (by decide) ?_
    exact r_zret C hr hlocks hS (by decide) ⟨hKp, Or.inr ⟨rfl, k_8, hk_9, q_11⟩, hPO, hFz⟩ dX7_silent_13
