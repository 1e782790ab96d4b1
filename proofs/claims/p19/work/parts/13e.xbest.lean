def btC (pr : Nat → Int32) (n : Nat) (x y : Int32) : Int32 := if prcOf pr x n = prcOf pr y n then (if bcF x < bcF y then 1 else 0) else (if prcOf pr x n < prcOf pr y n then 1 else 0)
/-- the best set below k, of those that cf lets -/
def cbF (cf pr : Nat → Int32) (n : Nat) : Nat → Int32
  | 0 => -1
  | k + 1 => if cf k = 0 then cbF cf pr n k else if cbF cf pr n k = -1 then nI k else if btC pr n (nI k) (cbF cf pr n k) = 0 then cbF cf pr n k else nI k
def hmF (cf : Nat → Int32) : Nat → Int32
  | 0 => 0
  | k + 1 => if cf k = 0 then hmF cf k else hmF cf k + 1
theorem cbF_congr {cf cf' pr : Nat → Int32} {n : Nat} : ∀ {k : Nat}, (∀ s, s < k → cf s = cf' s) → cbF cf pr n k = cbF cf' pr n k
  | 0, _ => rfl
  | k + 1, h => by
    rw [cbF, cbF, h k (by omega), cbF_congr (fun s hs => h s (by omega))]
theorem hmF_congr {cf cf' : Nat → Int32} : ∀ {k : Nat}, (∀ s, s < k → cf s = cf' s) → hmF cf k = hmF cf' k
  | 0, _ => rfl
  | k + 1, h => by
    rw [hmF, hmF, h k (by omega), hmF_congr (fun s hs => h s (by omega))]

set_option maxHeartbeats 1000000 in
set_option maxRecDepth 100000 in
theorem x_X0_isBetter (l : Launch) (D : va_G) (t : Gx) (B N : Nat) (g : Nat → va_E) (o pr w : Nat → Int32) (n : Nat) (x y : Int32) (hN : 220 ≤ N) (hP : isProg t B g 1 o pr w n) (hn : n ≤ 8) : Ci l D t B N yX0_isBetter cX0_isBetter 5 (some .boolean) 1 23 g [.ref (B + 1), .int x, .int y] (fun r g' => g = g' ∧ r = btC pr n x y) := by
  refine Ci.start (by decide) (Nat.le_of_ble_eq_true rfl) ?_
  intro p e s m below meth c ls C hr hlocks hS hl
  replace C : Cx D t p s m [.ref (B + 1), .int x, .int y].toArray c cX0_isBetter 5 RX0 := C
  replace hl : lv_has ls 5 [(0, .ref (B + 1)), (1, .int x), (2, .int y)] := hl
  obtain ⟨p0, p1, p2, p3⟩ := id hP
  refine lv_aload_n C.x C.b dX0_isBetter_0 rfl (lv_at hl 0 rfl) ?_
  refine lv_iload_n C.x C.b dX0_isBetter_1 rfl (lv_at hl 1 rfl) ?_
  refine r_callV (b := 1) (As := [.int x]) (rest := []) (c_X3_priceOf l D t B N g 1 _ _ _ _ x (by omega) ⟨p0, p1, p2, p3⟩ (by omega)) mf_yX3_priceOf mlX0_89 im_yX3_priceOf se_yX3_priceOf (by decide) C hS (by omega) p0 (show vwCl[3]? = some _ from rfl) rfl rfl hl.1 rfl (Nat.le_of_ble_eq_true rfl) dX0_isBetter_2 ⟨Nat.zero_le _, Nat.zero_le _⟩ (fun r_3 g_1 H locs w_2 hS => ?_)
  obtain ⟨rfl, er_3⟩ := w_2
  subst er_3
  refine lv_istore_n (lv' := [(3, .int (prcOf pr x n)), (0, .ref (B + 1)), (1, .int x), (2, .int y)]) C.x C.b dX0_isBetter_5 rfl hl (by decide) rfl (fun ls hl => ?_)
  refine lv_aload_n C.x C.b dX0_isBetter_6 rfl (lv_at hl 1 rfl) ?_
  refine lv_iload_n C.x C.b dX0_isBetter_7 rfl (lv_at hl 3 rfl) ?_
  refine r_callV (b := 1) (As := [.int y]) (rest := []) (c_X3_priceOf l D t B N g 1 _ _ _ _ y (by omega) ⟨p0, p1, p2, p3⟩ (by omega)) mf_yX3_priceOf mlX0_89 im_yX3_priceOf se_yX3_priceOf (by decide) C hS (by omega) p0 (show vwCl[3]? = some _ from rfl) rfl rfl hl.1 rfl (Nat.le_of_ble_eq_true rfl) dX0_isBetter_8 ⟨Nat.zero_le _, Nat.zero_le _⟩ (fun r_6 g_4 H locs w_5 hS => ?_)
  obtain ⟨rfl, er_6⟩ := w_5
  subst er_6
  refine lv_istore (lv' := [(4, .int (prcOf pr y n)), (3, .int (prcOf pr x n)), (0, .ref (B + 1)), (1, .int x), (2, .int y)]) C.x C.b dX0_isBetter_11 hl (by decide) rfl (fun ls hl => ?_)
  refine lv_iload_n C.x C.b dX0_isBetter_13 rfl (lv_at hl 1 rfl) ?_
  refine lv_iload C.x C.b dX0_isBetter_14 (lv_at hl 0 rfl) ?_
  refine lv_icmp_eq (tgt := 31) C.x C.b dX0_isBetter_16 (by decide) (fun c_7 => ?_) (fun c_7 => ?_)
  · skip
    refine lv_iload_n C.x C.b dX0_isBetter_31 rfl (lv_at hl 3 rfl) ?_
    refine r_callS (As := [.int x]) (rest := []) (c_J6_bitCount_0f7a4 l D t B N g x) mf_yJ6_bitCount_0f7a4 mlX0_92 sm_yJ6_bitCount_0f7a4 (by decide) C hS rfl hl.1 rfl (Nat.le_of_ble_eq_true rfl) dX0_isBetter_32 ⟨Nat.zero_le _, Nat.zero_le _⟩ (fun r_10 g_8 H locs w_9 hS => ?_)
    obtain ⟨rfl, er_10⟩ := w_9
    subst er_10
    refine lv_iload_n C.x C.b dX0_isBetter_35 rfl (lv_at hl 4 rfl) ?_
    refine r_callS (As := [.int y]) (rest := [.int (bcF x)]) (c_J6_bitCount_0f7a4 l D t B N g y) mf_yJ6_bitCount_0f7a4 mlX0_92 sm_yJ6_bitCount_0f7a4 (by decide) C hS rfl hl.1 rfl (Nat.le_of_ble_eq_true rfl) dX0_isBetter_36 ⟨Nat.zero_le _, Nat.zero_le _⟩ (fun r_13 g_11 H locs w_12 hS => ?_)
    obtain ⟨rfl, er_13⟩ := w_12
    subst er_13
    refine lv_icmp_ge (tgt := 46) C.x C.b dX0_isBetter_39 (by decide) (fun c_14 => ?_) (fun c_14 => ?_)
    · skip
      refine lv_iconst (v := 0) C.x C.b dX0_isBetter_46 (by decide) ?_
      exact r_zret C hr hlocks hS (by decide) ⟨rfl, by rw [btC, if_pos c_7, if_neg (Int32.not_lt.mpr c_14)]⟩ dX0_isBetter_47
    · skip
      refine lv_iconst (v := 1) C.x C.b dX0_isBetter_42 (by decide) ?_
      refine lv_goto (tgt := 47) C.x C.b dX0_isBetter_43 (by decide) ?_
      exact r_zret C hr hlocks hS (by decide) ⟨rfl, by rw [btC, if_pos c_7, if_pos (Int32.not_le.mp c_14)]⟩ dX0_isBetter_47
  · skip
    refine lv_iload_n C.x C.b dX0_isBetter_19 rfl (lv_at hl 1 rfl) ?_
    refine lv_iload C.x C.b dX0_isBetter_20 (lv_at hl 0 rfl) ?_
    refine lv_icmp_ge (tgt := 29) C.x C.b dX0_isBetter_22 (by decide) (fun c_15 => ?_) (fun c_15 => ?_)
    · skip
      refine lv_iconst (v := 0) C.x C.b dX0_isBetter_29 (by decide) ?_
      exact r_zret C hr hlocks hS (by decide) ⟨rfl, by rw [btC, if_neg c_7, if_neg (Int32.not_lt.mpr c_15)]⟩ dX0_isBetter_30
    · skip
      refine lv_iconst (v := 1) C.x C.b dX0_isBetter_25 (by decide) ?_
      refine lv_goto (tgt := 30) C.x C.b dX0_isBetter_26 (by decide) ?_
      exact r_zret C hr hlocks hS (by decide) ⟨rfl, by rw [btC, if_neg c_7, if_pos (Int32.not_le.mp c_15)]⟩ dX0_isBetter_30
set_option maxHeartbeats 1000000 in
set_option maxRecDepth 100000 in
theorem x_X0_cheapest (l : Launch) (D : va_G) (t : Gx) (B N : Nat) (g : Nat → va_E) (o pr w cm : Nat → Int32) (n : Nat) (kn : Int32) (hN : 220 ≤ N) (hP : isProg t B g 1 o pr w n) (hn : n ≤ 8) (h113 : g 113 = .inr (0, [.ref (B + 114), .ref (B + 115), .ref (B + 116), .ref (B + 120), .int kn])) (h114 : g 114 = .inl (t.2.1, 256, .inl cm)) : Ci l D t B N yX0_cheapest cX0_cheapest 5 (some .int) 2 47 g [.ref (B + 113), .ref (B + 1)] (fun r g' => g = g' ∧ r = cbF cm pr n (2 ^ n)) := by
  refine Ci.start (by decide) (Nat.le_of_ble_eq_true rfl) ?_
  intro p e s m below meth c ls C hr hlocks hS hl
  replace C : Cx D t p s m [.ref (B + 113), .ref (B + 1)].toArray c cX0_cheapest 5 RX0 := C
  replace hl : lv_has ls 5 [(0, .ref (B + 113)), (1, .ref (B + 1))] := hl
  obtain ⟨p0, p1, p2, p3⟩ := id hP
  have h2n := (sh1_all n (by omega)).2
  refine lv_iconst (v := 1) C.x C.b dX0_cheapest_0 (by decide) ?_
  refine lv_aload_n C.x C.b dX0_cheapest_1 rfl (lv_at hl 1 rfl) ?_
  refine r_get ck3 flX0_82 C hS (by omega) p0 (by decide) rfl dX0_cheapest_2 ?_
  refine lv_ishl C.x C.b dX0_cheapest_5 ?_
  refine r_top (y := nI (2 ^ n)) (sh1_all n (by omega)).1 ?_
  refine lv_istore_n (lv' := [(2, .int (nI (2 ^ n))), (0, .ref (B + 113)), (1, .ref (B + 1))]) C.x C.b dX0_cheapest_6 rfl hl (by decide) rfl (fun ls hl => ?_)
  refine lv_iconst (v := (-1)) C.x C.b dX0_cheapest_7 (by decide) ?_
  refine lv_istore_n (lv' := [(3, .int (-1)), (2, .int (nI (2 ^ n))), (0, .ref (B + 113)), (1, .ref (B + 1))]) C.x C.b dX0_cheapest_8 rfl hl (by decide) rfl (fun ls hl => ?_)
  refine lv_iconst (v := 0) C.x C.b dX0_cheapest_9 (by decide) ?_
  refine lv_istore (lv' := [(4, .int 0), (3, .int (-1)), (2, .int (nI (2 ^ n))), (0, .ref (B + 113)), (1, .ref (B + 1))]) C.x C.b dX0_cheapest_10 hl (by decide) rfl (fun ls hl => ?_)
  have lp_1 : ∀ (u_2 k_3 : Nat) (H : Heap) (locs : List Loc) (ls : Array Slot), k_3 + u_2 = (2 ^ n) → St D B s.heap N g H locs → lv_has ls 5 [(2, .int (nI (2 ^ n))), (0, .ref (B + 113)), (1, .ref (B + 1)), (3, .int (cbF cm pr n k_3)), (4, .int (nI k_3))] → W p l e (rmOf 2 47 0 0) s m [.ref (B + 113), .ref (B + 1)].toArray below meth c H locs 0 0 (MQ below (qI D B N (fun r g' => g = g' ∧ r = cbF cm pr n (2 ^ n))) [.ref (B + 113), .ref (B + 1)].toArray s 0 0 (fun q => B ≤ q)) (F0 m 12 ls []) := by
    intro u_2
    induction u_2 with
    | zero =>
      intro k_3 H locs ls hk_4 hS hl
      obtain rfl : (2 ^ n) = k_3 := by omega
      refine lv_iload C.x C.b dX0_cheapest_12 (lv_at hl 4 rfl) ?_
      refine lv_iload_n C.x C.b dX0_cheapest_14 rfl (lv_at hl 0 rfl) ?_
      refine lv_icmp_ge (tgt := 52) C.x C.b dX0_cheapest_15 (by decide) (fun c_7 => ?_) (fun c_7 => absurd (nI_le (Nat.le_refl _) (by omega)) c_7)
      refine lv_iload_n C.x C.b dX0_cheapest_52 rfl (lv_at hl 3 rfl) ?_
      exact r_iret C hr hlocks hS ⟨rfl, rfl⟩ dX0_cheapest_53
    | succ u_2 ih_5 =>
      intro k_3 H locs ls hk_4 hS hl
      refine lv_iload C.x C.b dX0_cheapest_12 (lv_at hl 4 rfl) ?_
      refine lv_iload_n C.x C.b dX0_cheapest_14 rfl (lv_at hl 0 rfl) ?_
      refine lv_icmp_ge (tgt := 52) C.x C.b dX0_cheapest_15 (by decide) (fun c_8 => absurd c_8 (nI_ge (a := k_3) (b := (2 ^ n)) (by omega) (by omega))) (fun c_8 => ?_)
      refine lv_aload_n C.x C.b dX0_cheapest_18 rfl (lv_at hl 1 rfl) ?_
      refine r_get ck0 flX0_9 C hS (by omega) h113 (by decide) rfl dX0_cheapest_19 ?_
      refine lv_iload C.x C.b dX0_cheapest_22 (lv_at hl 4 rfl) ?_
      refine r_zaldN k_3 rfl (by omega) (by decide) C hS (by omega) h114 dX0_cheapest_24 ?_
      refine lv_if_eq (tgt := 46) C.x C.b dX0_cheapest_25 (by decide) (fun c_9 => ?_) (fun c_9 => ?_)
      · skip
        refine lv_iinc (v := nI (k_3 + 1)) (lv' := [(4, .int (nI (k_3 + 1))), (2, .int (nI (2 ^ n))), (0, .ref (B + 113)), (1, .ref (B + 1)), (3, .int (cbF cm pr n k_3))]) C.x C.b dX0_cheapest_46 hl (k := 4) rfl (nI_1 k_3) (by decide) rfl (fun ls hl => ?_)
        refine lv_goto (tgt := 12) C.x C.b dX0_cheapest_49 (by decide) ?_
        have z_10 : (cbF cm pr n (k_3 + 1)) = (cbF cm pr n k_3) := by rw [cbF, if_pos c_9]
        exact ih_5 (k_3 + 1) _ _ _ (by omega)  hS (by rw [z_10]; exact lv_sub hl [1, 2, 3, 4, 0] rfl)
      · skip
        refine lv_iload_n C.x C.b dX0_cheapest_28 rfl (lv_at hl 3 rfl) ?_
        refine lv_iconst (v := (-1)) C.x C.b dX0_cheapest_29 (by decide) ?_
        refine lv_icmp_eq (tgt := 43) C.x C.b dX0_cheapest_30 (by decide) (fun c_11 => ?_) (fun c_11 => ?_)
        · skip
          refine lv_iload C.x C.b dX0_cheapest_43 (lv_at hl 4 rfl) ?_
          refine lv_istore_n (lv' := [(3, .int (nI k_3)), (2, .int (nI (2 ^ n))), (0, .ref (B + 113)), (1, .ref (B + 1)), (4, .int (nI k_3))]) C.x C.b dX0_cheapest_45 rfl hl (by decide) rfl (fun ls hl => ?_)
          refine lv_iinc (v := nI (k_3 + 1)) (lv' := [(4, .int (nI (k_3 + 1))), (3, .int (nI k_3)), (2, .int (nI (2 ^ n))), (0, .ref (B + 113)), (1, .ref (B + 1))]) C.x C.b dX0_cheapest_46 hl (k := 4) rfl (nI_1 k_3) (by decide) rfl (fun ls hl => ?_)
          refine lv_goto (tgt := 12) C.x C.b dX0_cheapest_49 (by decide) ?_
          have z_12 : (cbF cm pr n (k_3 + 1)) = nI k_3 := by rw [cbF, if_neg c_9, if_pos c_11]
          exact ih_5 (k_3 + 1) _ _ _ (by omega)  hS (by rw [z_12]; exact lv_sub hl [2, 3, 4, 1, 0] rfl)
        · skip
          refine lv_aload_n C.x C.b dX0_cheapest_33 rfl (lv_at hl 2 rfl) ?_
          refine lv_iload C.x C.b dX0_cheapest_34 (lv_at hl 4 rfl) ?_
          refine lv_iload_n C.x C.b dX0_cheapest_36 rfl (lv_at hl 3 rfl) ?_
          refine r_callS (As := [.ref (B + 1), .int (nI k_3), .int (cbF cm pr n k_3)]) (rest := []) (x_X0_isBetter l D t B N g o pr w n (nI k_3) (cbF cm pr n k_3) (by omega) hP hn) mf_yX0_isBetter mlX0_85 sm_yX0_isBetter (by decide) C hS rfl hl.1 rfl (Nat.le_of_ble_eq_true rfl) dX0_cheapest_37 ⟨Nat.zero_le _, Nat.zero_le _⟩ (fun r_15 g_13 H locs w_14 hS => ?_)
          obtain ⟨rfl, er_15⟩ := w_14
          subst er_15
          refine lv_if_eq (tgt := 46) C.x C.b dX0_cheapest_40 (by decide) (fun c_16 => ?_) (fun c_16 => ?_)
          · skip
            refine lv_iinc (v := nI (k_3 + 1)) (lv' := [(4, .int (nI (k_3 + 1))), (2, .int (nI (2 ^ n))), (0, .ref (B + 113)), (1, .ref (B + 1)), (3, .int (cbF cm pr n k_3))]) C.x C.b dX0_cheapest_46 hl (k := 4) rfl (nI_1 k_3) (by decide) rfl (fun ls hl => ?_)
            refine lv_goto (tgt := 12) C.x C.b dX0_cheapest_49 (by decide) ?_
            have z_17 : (cbF cm pr n (k_3 + 1)) = (cbF cm pr n k_3) := by rw [cbF, if_neg c_9, if_neg c_11, if_pos c_16]
            exact ih_5 (k_3 + 1) _ _ _ (by omega)  hS (by rw [z_17]; exact lv_sub hl [1, 2, 3, 4, 0] rfl)
          · skip
            refine lv_iload C.x C.b dX0_cheapest_43 (lv_at hl 4 rfl) ?_
            refine lv_istore_n (lv' := [(3, .int (nI k_3)), (2, .int (nI (2 ^ n))), (0, .ref (B + 113)), (1, .ref (B + 1)), (4, .int (nI k_3))]) C.x C.b dX0_cheapest_45 rfl hl (by decide) rfl (fun ls hl => ?_)
            refine lv_iinc (v := nI (k_3 + 1)) (lv' := [(4, .int (nI (k_3 + 1))), (3, .int (nI k_3)), (2, .int (nI (2 ^ n))), (0, .ref (B + 113)), (1, .ref (B + 1))]) C.x C.b dX0_cheapest_46 hl (k := 4) rfl (nI_1 k_3) (by decide) rfl (fun ls hl => ?_)
            refine lv_goto (tgt := 12) C.x C.b dX0_cheapest_49 (by decide) ?_
            have z_18 : (cbF cm pr n (k_3 + 1)) = nI k_3 := by rw [cbF, if_neg c_9, if_neg c_11, if_neg c_16]
            exact ih_5 (k_3 + 1) _ _ _ (by omega)  hS (by rw [z_18]; exact lv_sub hl [2, 3, 4, 1, 0] rfl)
  exact lp_1 (2 ^ n) 0 _ _ _ (by omega)  hS (lv_sub hl [2, 3, 4, 1, 0] rfl)
set_option maxHeartbeats 1000000 in
set_option maxRecDepth 100000 in
theorem x_X0_howMany (l : Launch) (D : va_G) (t : Gx) (B N : Nat) (g : Nat → va_E) (o pr w cm : Nat → Int32) (n : Nat) (kn : Int32) (hN : 220 ≤ N) (hP : isProg t B g 1 o pr w n) (hn : n ≤ 8) (h113 : g 113 = .inr (0, [.ref (B + 114), .ref (B + 115), .ref (B + 116), .ref (B + 120), .int kn])) (h114 : g 114 = .inl (t.2.1, 256, .inl cm)) : Ci l D t B N yX0_howMany cX0_howMany 5 (some .int) 0 0 g [.ref (B + 113), .ref (B + 1)] (fun r g' => g = g' ∧ r = hmF cm (2 ^ n)) := by
  refine Ci.start (by decide) (Nat.le_of_ble_eq_true rfl) ?_
  intro p e s m below meth c ls C hr hlocks hS hl
  replace C : Cx D t p s m [.ref (B + 113), .ref (B + 1)].toArray c cX0_howMany 5 RX0 := C
  replace hl : lv_has ls 5 [(0, .ref (B + 113)), (1, .ref (B + 1))] := hl
  obtain ⟨p0, p1, p2, p3⟩ := id hP
  have h2n := (sh1_all n (by omega)).2
  refine lv_iconst (v := 1) C.x C.b dX0_howMany_0 (by decide) ?_
  refine lv_aload_n C.x C.b dX0_howMany_1 rfl (lv_at hl 1 rfl) ?_
  refine r_get ck3 flX0_82 C hS (by omega) p0 (by decide) rfl dX0_howMany_2 ?_
  refine lv_ishl C.x C.b dX0_howMany_5 ?_
  refine r_top (y := nI (2 ^ n)) (sh1_all n (by omega)).1 ?_
  refine lv_istore_n (lv' := [(2, .int (nI (2 ^ n))), (0, .ref (B + 113)), (1, .ref (B + 1))]) C.x C.b dX0_howMany_6 rfl hl (by decide) rfl (fun ls hl => ?_)
  refine lv_iconst (v := 0) C.x C.b dX0_howMany_7 (by decide) ?_
  refine lv_istore_n (lv' := [(3, .int 0), (2, .int (nI (2 ^ n))), (0, .ref (B + 113)), (1, .ref (B + 1))]) C.x C.b dX0_howMany_8 rfl hl (by decide) rfl (fun ls hl => ?_)
  refine lv_iconst (v := 0) C.x C.b dX0_howMany_9 (by decide) ?_
  refine lv_istore (lv' := [(4, .int 0), (3, .int 0), (2, .int (nI (2 ^ n))), (0, .ref (B + 113)), (1, .ref (B + 1))]) C.x C.b dX0_howMany_10 hl (by decide) rfl (fun ls hl => ?_)
  have lp_1 : ∀ (u_2 k_3 : Nat) (H : Heap) (locs : List Loc) (ls : Array Slot), k_3 + u_2 = (2 ^ n) → St D B s.heap N g H locs → lv_has ls 5 [(2, .int (nI (2 ^ n))), (0, .ref (B + 113)), (1, .ref (B + 1)), (3, .int (hmF cm k_3)), (4, .int (nI k_3))] → W p l e (rmOf 0 0 0 0) s m [.ref (B + 113), .ref (B + 1)].toArray below meth c H locs 0 0 (MQ below (qI D B N (fun r g' => g = g' ∧ r = hmF cm (2 ^ n))) [.ref (B + 113), .ref (B + 1)].toArray s 0 0 (fun q => B ≤ q)) (F0 m 12 ls []) := by
    intro u_2
    induction u_2 with
    | zero =>
      intro k_3 H locs ls hk_4 hS hl
      obtain rfl : (2 ^ n) = k_3 := by omega
      refine lv_iload C.x C.b dX0_howMany_12 (lv_at hl 4 rfl) ?_
      refine lv_iload_n C.x C.b dX0_howMany_14 rfl (lv_at hl 0 rfl) ?_
      refine lv_icmp_ge (tgt := 37) C.x C.b dX0_howMany_15 (by decide) (fun c_7 => ?_) (fun c_7 => absurd (nI_le (Nat.le_refl _) (by omega)) c_7)
      refine lv_iload_n C.x C.b dX0_howMany_37 rfl (lv_at hl 3 rfl) ?_
      exact r_iret C hr hlocks hS ⟨rfl, rfl⟩ dX0_howMany_38
    | succ u_2 ih_5 =>
      intro k_3 H locs ls hk_4 hS hl
      refine lv_iload C.x C.b dX0_howMany_12 (lv_at hl 4 rfl) ?_
      refine lv_iload_n C.x C.b dX0_howMany_14 rfl (lv_at hl 0 rfl) ?_
      refine lv_icmp_ge (tgt := 37) C.x C.b dX0_howMany_15 (by decide) (fun c_8 => absurd c_8 (nI_ge (a := k_3) (b := (2 ^ n)) (by omega) (by omega))) (fun c_8 => ?_)
      refine lv_aload_n C.x C.b dX0_howMany_18 rfl (lv_at hl 1 rfl) ?_
      refine r_get ck0 flX0_9 C hS (by omega) h113 (by decide) rfl dX0_howMany_19 ?_
      refine lv_iload C.x C.b dX0_howMany_22 (lv_at hl 4 rfl) ?_
      refine r_zaldN k_3 rfl (by omega) (by decide) C hS (by omega) h114 dX0_howMany_24 ?_
      refine lv_if_eq (tgt := 31) C.x C.b dX0_howMany_25 (by decide) (fun c_9 => ?_) (fun c_9 => ?_)
      · skip
        refine lv_iinc (v := nI (k_3 + 1)) (lv' := [(4, .int (nI (k_3 + 1))), (2, .int (nI (2 ^ n))), (0, .ref (B + 113)), (1, .ref (B + 1)), (3, .int (hmF cm k_3))]) C.x C.b dX0_howMany_31 hl (k := 4) rfl (nI_1 k_3) (by decide) rfl (fun ls hl => ?_)
        refine lv_goto (tgt := 12) C.x C.b dX0_howMany_34 (by decide) ?_
        have z_10 : (hmF cm (k_3 + 1)) = (hmF cm k_3) := by rw [hmF, if_pos c_9]
        exact ih_5 (k_3 + 1) _ _ _ (by omega)  hS (by rw [z_10]; exact lv_sub hl [1, 2, 3, 4, 0] rfl)
      · skip
        refine lv_iinc (v := ((hmF cm k_3) + 1)) (lv' := [(3, .int ((hmF cm k_3) + 1)), (2, .int (nI (2 ^ n))), (0, .ref (B + 113)), (1, .ref (B + 1)), (4, .int (nI k_3))]) C.x C.b dX0_howMany_28 hl (k := 3) rfl (rfl) (by decide) rfl (fun ls hl => ?_)
        refine lv_iinc (v := nI (k_3 + 1)) (lv' := [(4, .int (nI (k_3 + 1))), (3, .int ((hmF cm k_3) + 1)), (2, .int (nI (2 ^ n))), (0, .ref (B + 113)), (1, .ref (B + 1))]) C.x C.b dX0_howMany_31 hl (k := 4) rfl (nI_1 k_3) (by decide) rfl (fun ls hl => ?_)
        refine lv_goto (tgt := 12) C.x C.b dX0_howMany_34 (by decide) ?_
        have z_11 : (hmF cm (k_3 + 1)) = ((hmF cm k_3) + 1) := by rw [hmF, if_neg c_9]
        exact ih_5 (k_3 + 1) _ _ _ (by omega)  hS (by rw [z_11]; exact lv_sub hl [2, 3, 4, 1, 0] rfl)
  exact lp_1 (2 ^ n) 0 _ _ _ (by omega)  hS (lv_sub hl [2, 3, 4, 1, 0] rfl)
