noncomputable def bz (c : Prop) : Int32 := @ite _ c (Classical.propDecidable c) 1 0
theorem bz_t {c : Prop} (h : c) : bz c = 1 := if_pos h
theorem bz_f {c : Prop} (h : ¬ c) : bz c = 0 := if_neg h
theorem bz_01 (c : Prop) : bz c = 0 ∨ bz c = 1 := (Classical.em c).elim (fun h => Or.inr (bz_t h)) (fun h => Or.inl (bz_f h))
theorem bz_iff {c : Prop} : bz c = 1 ↔ c := ⟨fun h => Classical.byContradiction fun q => by rw [bz_f q] at h; exact absurd h (by decide), bz_t⟩
theorem bz_0 {c : Prop} : bz c = 0 ↔ ¬ c := ⟨fun h q => by rw [bz_t q] at h; exact absurd h (by decide), bz_f⟩
theorem bz_congr {a b : Prop} (h : a ↔ b) : bz a = bz b := by rw [propext h]
abbrev inP (n : Nat) (x : Int32) : Prop := ¬ x < 0 ∧ ¬ nI n ≤ x
/-- the price of the places of x below k -/
def prcOf (pr : Nat → Int32) (x : Int32) : Nat → Int32
  | 0 => 0
  | k + 1 => if ((x >>> (nI k &&& 31)) &&& 1) = 0 then prcOf pr x k else prcOf pr x k + pr k
def eyeOnF (x : Int32) : Int32 := if x = 4 then 1 else if x = 5 then 2 else if x = 6 then 2 else if x = 7 then 4 else 0
/-- the places below k whose order matters to the eyes x -/
def undF (o : Nat → Int32) (x : Int32) : Nat → Int32
  | 0 => 0
  | k + 1 => if (eyeOnF (o k >>> (12 &&& 31)) &&& x) = 0 then undF o x k else undF o x k ||| (1 <<< (nI k &&& 31))
theorem i32_ne {x k : Int32} (h : ¬ x = k) : x.toInt ≠ k.toInt := fun q => h (Int32.toInt_inj.mp q)
theorem sw_out4 {x : Int32} (h1 : ¬ x = 4) (h2 : ¬ x = 5) (h3 : ¬ x = 6) (h4 : ¬ x = 7) : x.toInt < 4 ∨ 7 < x.toInt := by
  have a1 := i32_ne h1
  have a2 := i32_ne h2
  have a3 := i32_ne h3
  have a4 := i32_ne h4
  have b1 : (4 : Int32).toInt = 4 := by decide
  have b2 : (5 : Int32).toInt = 5 := by decide
  have b3 : (6 : Int32).toInt = 6 := by decide
  have b4 : (7 : Int32).toInt = 7 := by decide
  omega
set_option maxHeartbeats 4000000 in
set_option maxRecDepth 100000 in
/-- Program.has -/
theorem c_X3_has (l : Launch) (D : va_G) (t : Gx) (B N : Nat) (g : Nat → va_E) (i : Nat) (o pr w : Nat → Int32) (n : Nat) (x : Int32) (hi : i + 3 < N) (hP : isProg t B g i o pr w n) : Ci l D t B N yX3_has cX3_has 2 (some .boolean) 0 0 g [.ref (B + i), .int x] (fun r g' => g = g' ∧ r = bz (inP n x)) := by
  refine Ci.start (by decide) (Nat.le_of_ble_eq_true rfl) ?_
  intro p e s m below meth c ls C hr hlocks hS hl
  replace C : Cx D t p s m [.ref (B + i), .int x].toArray c cX3_has 2 RX3 := C
  replace hl : lv_has ls 2 [(0, .ref (B + i)), (1, .int x)] := hl
  obtain ⟨e0, e1, e2, e3⟩ := hP
  refine lv_iload_n C.x C.b dX3_has_0 rfl (lv_at hl 1 rfl) ?_
  refine lv_if_lt (tgt := 16) C.x C.b dX3_has_1 (by decide) (fun c_1 => ?_) (fun c_1 => ?_)
  · skip
    refine lv_iconst (v := 0) C.x C.b dX3_has_16 (by decide) ?_
    exact r_zret C hr hlocks hS (by decide) ⟨rfl, (bz_f (fun q => q.1 c_1)).symm⟩ dX3_has_17
  · skip
    refine lv_iload_n C.x C.b dX3_has_4 rfl (lv_at hl 1 rfl) ?_
    refine lv_aload_n C.x C.b dX3_has_5 rfl (lv_at hl 0 rfl) ?_
    refine r_get ck3 flX3_21 C hS (by omega) e0 (by decide) rfl dX3_has_6 ?_
    refine lv_icmp_ge (tgt := 16) C.x C.b dX3_has_9 (by decide) (fun c_2 => ?_) (fun c_2 => ?_)
    · skip
      refine lv_iconst (v := 0) C.x C.b dX3_has_16 (by decide) ?_
      exact r_zret C hr hlocks hS (by decide) ⟨rfl, (bz_f (fun q => q.2 c_2)).symm⟩ dX3_has_17
    · skip
      refine lv_iconst (v := 1) C.x C.b dX3_has_12 (by decide) ?_
      refine lv_goto (tgt := 17) C.x C.b dX3_has_13 (by decide) ?_
      exact r_zret C hr hlocks hS (by decide) ⟨rfl, (bz_t ⟨c_1, c_2⟩).symm⟩ dX3_has_17
set_option maxHeartbeats 4000000 in
set_option maxRecDepth 100000 in
/-- Program.append, where it fits -/
theorem c_X3_append (l : Launch) (D : va_G) (t : Gx) (B N : Nat) (g : Nat → va_E) (i : Nat) (o pr w : Nat → Int32) (n : Nat) (x : Int32) (hi : i + 3 < N) (hP : isProg t B g i o pr w n) (hn : n < 8) : Ci l D t B N yX3_append cX3_append 2 (some .int) 0 0 g [.ref (B + i), .int x] (fun r g' => r = nI n ∧ isProg t B g' i (upd o n x) (upd pr n 1) w (n + 1) ∧ ∀ j, (j < i ∨ i + 3 < j) → g' j = g j) := by
  refine Ci.start (by decide) (Nat.le_of_ble_eq_true rfl) ?_
  intro p e s m below meth c ls C hr hlocks hS hl
  replace C : Cx D t p s m [.ref (B + i), .int x].toArray c cX3_append 2 RX3 := C
  replace hl : lv_has ls 2 [(0, .ref (B + i)), (1, .int x)] := hl
  obtain ⟨e0, e1, e2, e3⟩ := hP
  refine lv_aload_n C.x C.b dX3_append_0 rfl (lv_at hl 0 rfl) ?_
  refine r_get ck3 flX3_21 C hS (by omega) e0 (by decide) rfl dX3_append_1 ?_
  refine lv_bipush (v := 8) C.x C.b dX3_append_4 (by decide) ?_
  refine lv_icmp_lt (tgt := 11) C.x C.b dX3_append_6 (by decide) (fun c_1 => ?_) (fun c_1 => absurd (nI_lt hn (by decide)) c_1)
  refine lv_aload_n C.x C.b dX3_append_11 rfl (lv_at hl 0 rfl) ?_
  refine r_get ck3 flX3_9 C hS (by omega) e0 (by decide) rfl dX3_append_12 ?_
  refine lv_aload_n C.x C.b dX3_append_15 rfl (lv_at hl 0 rfl) ?_
  refine r_get ck3 flX3_21 C hS (by omega) e0 (by decide) rfl dX3_append_16 ?_
  refine lv_iload_n C.x C.b dX3_append_19 rfl (lv_at hl 1 rfl) ?_
  refine r_iastN n rfl (by omega) (by decide) C hS (by omega) e1 dX3_append_20 (fun g_2 H locs e_3 o_4 hS => ?_)
  replace e_3 : g_2 (i + 1) = .inl (t.1, 8, .inl (upd o n x)) := e_3
  refine lv_aload_n C.x C.b dX3_append_21 rfl (lv_at hl 0 rfl) ?_
  have e_5 : g_2 i = .inr (3, [.ref (B + (i + 1)), .ref (B + (i + 2)), .ref (B + (i + 3)), .int (nI n)]) := (o_4 _ (by omega)).trans e0
  refine r_get ck3 flX3_15 C hS (by omega) e_5 (by decide) rfl dX3_append_22 ?_
  refine lv_aload_n C.x C.b dX3_append_25 rfl (lv_at hl 0 rfl) ?_
  refine r_get ck3 flX3_21 C hS (by omega) e_5 (by decide) rfl dX3_append_26 ?_
  refine lv_iconst (v := 1) C.x C.b dX3_append_29 (by decide) ?_
  have e_6 : g_2 (i + 2) = .inl (t.1, 8, .inl pr) := (o_4 _ (by omega)).trans e2
  refine r_iastN n rfl (by omega) (by decide) C hS (by omega) e_6 dX3_append_30 (fun g_7 H locs e_8 o_9 hS => ?_)
  replace e_8 : g_7 (i + 2) = .inl (t.1, 8, .inl (upd pr n 1)) := e_8
  refine lv_aload_n C.x C.b dX3_append_31 rfl (lv_at hl 0 rfl) ?_
  refine lv_dup C.x C.b dX3_append_32 rfl ?_
  have e_10 : g_7 i = .inr (3, [.ref (B + (i + 1)), .ref (B + (i + 2)), .ref (B + (i + 3)), .int (nI n)]) := (o_9 _ (by omega)).trans e_5
  refine r_get ck3 flX3_21 C hS (by omega) e_10 (by decide) rfl dX3_append_33 ?_
  refine lv_iconst (v := 1) C.x C.b dX3_append_36 (by decide) ?_
  refine lv_iadd C.x C.b dX3_append_37 ?_
  refine r_top (y := nI (n + 1)) (nI_1 n) ?_
  refine r_put ck3 flX3_21 C hS (by omega) e_10 (by decide) rfl rfl rfl (Nat.le_of_ble_eq_true rfl) dX3_append_38 (fun g_11 H locs e_12 o_13 hS => ?_)
  replace e_12 : g_11 i = .inr (3, [.ref (B + (i + 1)), .ref (B + (i + 2)), .ref (B + (i + 3)), .int (nI (n + 1))]) := e_12
  refine lv_aload_n C.x C.b dX3_append_41 rfl (lv_at hl 0 rfl) ?_
  refine r_get ck3 flX3_21 C hS (by omega) e_12 (by decide) rfl dX3_append_42 ?_
  refine lv_iconst (v := 1) C.x C.b dX3_append_45 (by decide) ?_
  refine lv_isub C.x C.b dX3_append_46 ?_
  refine r_top (y := nI n) (nI_pred n) ?_
  have e_14 : g_7 (i + 1) = .inl (t.1, 8, .inl (upd o n x)) := (o_9 _ (by omega)).trans e_3
  have e_15 : g_11 (i + 1) = .inl (t.1, 8, .inl (upd o n x)) := (o_13 _ (by omega)).trans e_14
  have e_16 : g_11 (i + 2) = .inl (t.1, 8, .inl (upd pr n 1)) := (o_13 _ (by omega)).trans e_8
  have e_17 : g_2 (i + 3) = .inl (t.1, 8, .inl w) := (o_4 _ (by omega)).trans e3
  have e_18 : g_7 (i + 3) = .inl (t.1, 8, .inl w) := (o_9 _ (by omega)).trans e_17
  have e_19 : g_11 (i + 3) = .inl (t.1, 8, .inl w) := (o_13 _ (by omega)).trans e_18
  exact r_iret C hr hlocks hS ⟨rfl, ⟨e_12, e_15, e_16, e_19⟩, fun j hj => (o_13 j (by omega)).trans ((o_9 j (by omega)).trans (o_4 j (by omega)))⟩ dX3_append_47
set_option maxHeartbeats 4000000 in
set_option maxRecDepth 100000 in
theorem c_X3_empty (l : Launch) (D : va_G) (t : Gx) (B N : Nat) (g : Nat → va_E) (i : Nat) (o pr w : Nat → Int32) (n : Nat) (hi : i + 3 < N) (hP : isProg t B g i o pr w n) : Cv l D t B N N 0 0 yX3_empty cX3_empty 1 0 0 g [.ref (B + i)] (fun g' => isProg t B g' i o pr w 0 ∧ ∀ j, j ≠ i → g' j = g j) := by
  refine Cv.start (by decide) (Nat.le_of_ble_eq_true rfl) ?_
  intro p e s m below meth c ls C hr hlocks hnm hS hl
  replace C : Cx D t p s m [.ref (B + i)].toArray c cX3_empty 1 RX3 := C
  replace hl : lv_has ls 1 [(0, .ref (B + i))] := hl
  obtain ⟨e0, e1, e2, e3⟩ := hP
  refine lv_aload_n C.x C.b dX3_empty_0 rfl (lv_at hl 0 rfl) ?_
  refine lv_iconst (v := 0) C.x C.b dX3_empty_1 (by decide) ?_
  refine r_put ck3 flX3_21 C hS (by omega) e0 (by decide) rfl rfl rfl (Nat.le_of_ble_eq_true rfl) dX3_empty_2 (fun g_1 H locs e_2 o_3 hS => ?_)
  replace e_2 : g_1 i = .inr (3, [.ref (B + (i + 1)), .ref (B + (i + 2)), .ref (B + (i + 3)), .int 0]) := e_2
  have e_4 : g_1 (i + 1) = .inl (t.1, 8, .inl o) := (o_3 _ (by omega)).trans e1
  have e_5 : g_1 (i + 2) = .inl (t.1, 8, .inl pr) := (o_3 _ (by omega)).trans e2
  have e_6 : g_1 (i + 3) = .inl (t.1, 8, .inl w) := (o_3 _ (by omega)).trans e3
  exact r_vret C hr hlocks hS ⟨⟨e_2, e_4, e_5, e_6⟩, fun j hj => (o_3 j (by omega))⟩ dX3_empty_5
set_option maxHeartbeats 4000000 in
set_option maxRecDepth 100000 in
theorem c_X3_allPlaces (l : Launch) (D : va_G) (t : Gx) (B N : Nat) (g : Nat → va_E) (i : Nat) (o pr w : Nat → Int32) (n : Nat) (hi : i + 3 < N) (hP : isProg t B g i o pr w n) : Ci l D t B N yX3_allPlaces cX3_allPlaces 1 (some .int) 0 0 g [.ref (B + i)] (fun r g' => g = g' ∧ r = (1 <<< (nI n &&& 31)) - 1) := by
  refine Ci.start (by decide) (Nat.le_of_ble_eq_true rfl) ?_
  intro p e s m below meth c ls C hr hlocks hS hl
  replace C : Cx D t p s m [.ref (B + i)].toArray c cX3_allPlaces 1 RX3 := C
  replace hl : lv_has ls 1 [(0, .ref (B + i))] := hl
  obtain ⟨e0, e1, e2, e3⟩ := hP
  refine lv_iconst (v := 1) C.x C.b dX3_allPlaces_0 (by decide) ?_
  refine lv_aload_n C.x C.b dX3_allPlaces_1 rfl (lv_at hl 0 rfl) ?_
  refine r_get ck3 flX3_21 C hS (by omega) e0 (by decide) rfl dX3_allPlaces_2 ?_
  refine lv_ishl C.x C.b dX3_allPlaces_5 ?_
  refine lv_iconst (v := 1) C.x C.b dX3_allPlaces_6 (by decide) ?_
  refine lv_isub C.x C.b dX3_allPlaces_7 ?_
  exact r_iret C hr hlocks hS ⟨rfl, rfl⟩ dX3_allPlaces_8
set_option maxHeartbeats 4000000 in
set_option maxRecDepth 100000 in
/-- Program.priceOf -/
theorem c_X3_priceOf (l : Launch) (D : va_G) (t : Gx) (B N : Nat) (g : Nat → va_E) (i : Nat) (o pr w : Nat → Int32) (n : Nat) (x : Int32) (hi : i + 3 < N) (hP : isProg t B g i o pr w n) (hn : n ≤ 8) : Ci l D t B N yX3_priceOf cX3_priceOf 4 (some .int) 0 0 g [.ref (B + i), .int x] (fun r g' => g = g' ∧ r = prcOf pr x n) := by
  refine Ci.start (by decide) (Nat.le_of_ble_eq_true rfl) ?_
  intro p e s m below meth c ls C hr hlocks hS hl
  replace C : Cx D t p s m [.ref (B + i), .int x].toArray c cX3_priceOf 4 RX3 := C
  replace hl : lv_has ls 4 [(0, .ref (B + i)), (1, .int x)] := hl
  obtain ⟨e0, e1, e2, e3⟩ := hP
  refine lv_iconst (v := 0) C.x C.b dX3_priceOf_0 (by decide) ?_
  refine lv_istore_n (lv' := [(2, .int 0), (0, .ref (B + i)), (1, .int x)]) C.x C.b dX3_priceOf_1 rfl hl (by decide) rfl (fun ls hl => ?_)
  refine lv_iconst (v := 0) C.x C.b dX3_priceOf_2 (by decide) ?_
  refine lv_istore_n (lv' := [(3, .int 0), (2, .int 0), (0, .ref (B + i)), (1, .int x)]) C.x C.b dX3_priceOf_3 rfl hl (by decide) rfl (fun ls hl => ?_)
  have lp_1 : ∀ (u_2 k_3 : Nat) (H : Heap) (locs : List Loc) (ls : Array Slot), k_3 + u_2 = n → St D B s.heap N g H locs → lv_has ls 4 [(0, .ref (B + i)), (1, .int x), (2, .int (prcOf pr x k_3)), (3, .int (nI k_3))] → W p l e (rmOf 0 0 0 0) s m [.ref (B + i), .int x].toArray below meth c H locs 0 0 (MQ below (qI D B N (fun r g' => g = g' ∧ r = prcOf pr x n)) [.ref (B + i), .int x].toArray s 0 0 (fun q => B ≤ q)) (F0 m 4 ls []) := by
    intro u_2
    induction u_2 with
    | zero =>
      intro k_3 H locs ls hk_4 hS hl
      obtain rfl : n = k_3 := by omega
      refine lv_iload_n C.x C.b dX3_priceOf_4 rfl (lv_at hl 3 rfl) ?_
      refine lv_aload_n C.x C.b dX3_priceOf_5 rfl (lv_at hl 0 rfl) ?_
      refine r_get ck3 flX3_21 C hS (by omega) e0 (by decide) rfl dX3_priceOf_6 ?_
      refine lv_icmp_ge (tgt := 35) C.x C.b dX3_priceOf_9 (by decide) (fun c_7 => ?_) (fun c_7 => absurd (nI_le (Nat.le_refl _) (by omega)) c_7)
      refine lv_iload_n C.x C.b dX3_priceOf_35 rfl (lv_at hl 2 rfl) ?_
      exact r_iret C hr hlocks hS ⟨rfl, rfl⟩ dX3_priceOf_36
    | succ u_2 ih_5 =>
      intro k_3 H locs ls hk_4 hS hl
      refine lv_iload_n C.x C.b dX3_priceOf_4 rfl (lv_at hl 3 rfl) ?_
      refine lv_aload_n C.x C.b dX3_priceOf_5 rfl (lv_at hl 0 rfl) ?_
      refine r_get ck3 flX3_21 C hS (by omega) e0 (by decide) rfl dX3_priceOf_6 ?_
      refine lv_icmp_ge (tgt := 35) C.x C.b dX3_priceOf_9 (by decide) (fun c_8 => absurd c_8 (nI_ge (a := k_3) (b := n) (by omega) (by omega))) (fun c_8 => ?_)
      refine lv_iload_n C.x C.b dX3_priceOf_12 rfl (lv_at hl 1 rfl) ?_
      refine lv_iload_n C.x C.b dX3_priceOf_13 rfl (lv_at hl 3 rfl) ?_
      refine lv_ishr C.x C.b dX3_priceOf_14 ?_
      refine lv_iconst (v := 1) C.x C.b dX3_priceOf_15 (by decide) ?_
      refine lv_iand C.x C.b dX3_priceOf_16 ?_
      refine lv_if_eq (tgt := 29) C.x C.b dX3_priceOf_17 (by decide) (fun c_9 => ?_) (fun c_9 => ?_)
      · skip
        refine lv_iinc (v := nI (k_3 + 1)) (lv' := [(3, .int (nI (k_3 + 1))), (0, .ref (B + i)), (1, .int x), (2, .int (prcOf pr x k_3))]) C.x C.b dX3_priceOf_29 hl (k := 3) rfl (nI_1 k_3) (by decide) rfl (fun ls hl => ?_)
        refine lv_goto (tgt := 4) C.x C.b dX3_priceOf_32 (by decide) ?_
        have z_10 : prcOf pr x (k_3 + 1) = prcOf pr x k_3 := by simp only [prcOf, c_9, not_true_eq_false, not_false_eq_true, and_true, true_and, and_false, false_and, and_self, or_true, or_false, true_or, false_or, ite_true, ite_false, if_true, if_false, ↓reduceIte, reduceCtorEq]
        exact ih_5 (k_3 + 1) _ _ _ (by omega)  hS (by rw [z_10]; exact lv_sub hl [1, 2, 3, 0] rfl)
      · skip
        refine lv_iload_n C.x C.b dX3_priceOf_20 rfl (lv_at hl 2 rfl) ?_
        refine lv_aload_n C.x C.b dX3_priceOf_21 rfl (lv_at hl 0 rfl) ?_
        refine r_get ck3 flX3_15 C hS (by omega) e0 (by decide) rfl dX3_priceOf_22 ?_
        refine lv_iload_n C.x C.b dX3_priceOf_25 rfl (lv_at hl 3 rfl) ?_
        refine r_ialdN k_3 rfl (by omega) (by decide) C hS (by omega) e2 dX3_priceOf_26 ?_
        refine lv_iadd C.x C.b dX3_priceOf_27 ?_
        refine lv_istore_n (lv' := [(2, .int ((prcOf pr x k_3) + (pr k_3))), (0, .ref (B + i)), (1, .int x), (3, .int (nI k_3))]) C.x C.b dX3_priceOf_28 rfl hl (by decide) rfl (fun ls hl => ?_)
        refine lv_iinc (v := nI (k_3 + 1)) (lv' := [(3, .int (nI (k_3 + 1))), (2, .int ((prcOf pr x k_3) + (pr k_3))), (0, .ref (B + i)), (1, .int x)]) C.x C.b dX3_priceOf_29 hl (k := 3) rfl (nI_1 k_3) (by decide) rfl (fun ls hl => ?_)
        refine lv_goto (tgt := 4) C.x C.b dX3_priceOf_32 (by decide) ?_
        have z_11 : prcOf pr x (k_3 + 1) = ((prcOf pr x k_3) + (pr k_3)) := by simp only [prcOf, c_9, not_true_eq_false, not_false_eq_true, and_true, true_and, and_false, false_and, and_self, or_true, or_false, true_or, false_or, ite_true, ite_false, if_true, if_false, ↓reduceIte, reduceCtorEq]
        exact ih_5 (k_3 + 1) _ _ _ (by omega)  hS (by rw [z_11]; exact lv_sub hl [2, 3, 1, 0] rfl)
  exact lp_1 n 0 _ _ _ (by omega)  hS (lv_sub hl [2, 3, 1, 0] rfl)
set_option maxHeartbeats 4000000 in
set_option maxRecDepth 100000 in
/-- Program.eyeOn -/
theorem c_X3_eyeOn (l : Launch) (D : va_G) (t : Gx) (B N : Nat) (g : Nat → va_E) (x : Int32)  : Ci l D t B N yX3_eyeOn cX3_eyeOn 1 (some .int) 0 0 g [.int x] (fun r g' => g = g' ∧ r = eyeOnF x) := by
  refine Ci.start (by decide) (Nat.le_of_ble_eq_true rfl) ?_
  intro p e s m below meth c ls C hr hlocks hS hl
  replace C : Cx D t p s m [.int x].toArray c cX3_eyeOn 1 RX3 := C
  replace hl : lv_has ls 1 [(0, .int x)] := hl
  refine lv_iload_n C.x C.b dX3_eyeOn_0 rfl (lv_at hl 0 rfl) ?_
  by_cases h_1 : x = 4
  · subst h_1
    refine lv_tableIn (tgt := 32) C.x C.b dX3_eyeOn_1 (by decide) (by decide) rfl (by decide) ?_
    refine lv_iconst (v := 1) C.x C.b dX3_eyeOn_32 (by decide) ?_
    exact r_iret C hr hlocks hS ⟨rfl, rfl⟩ dX3_eyeOn_33
  by_cases h_2 : x = 5
  · subst h_2
    refine lv_tableIn (tgt := 34) C.x C.b dX3_eyeOn_1 (by decide) (by decide) rfl (by decide) ?_
    refine lv_iconst (v := 2) C.x C.b dX3_eyeOn_34 (by decide) ?_
    exact r_iret C hr hlocks hS ⟨rfl, rfl⟩ dX3_eyeOn_35
  by_cases h_3 : x = 6
  · subst h_3
    refine lv_tableIn (tgt := 34) C.x C.b dX3_eyeOn_1 (by decide) (by decide) rfl (by decide) ?_
    refine lv_iconst (v := 2) C.x C.b dX3_eyeOn_34 (by decide) ?_
    exact r_iret C hr hlocks hS ⟨rfl, rfl⟩ dX3_eyeOn_35
  by_cases h_4 : x = 7
  · subst h_4
    refine lv_tableIn (tgt := 36) C.x C.b dX3_eyeOn_1 (by decide) (by decide) rfl (by decide) ?_
    refine lv_iconst (v := 4) C.x C.b dX3_eyeOn_36 (by decide) ?_
    exact r_iret C hr hlocks hS ⟨rfl, rfl⟩ dX3_eyeOn_37
  refine lv_tableOut (tgt := 38) C.x C.b dX3_eyeOn_1 (sw_out4 h_1 h_2 h_3 h_4) (by decide) ?_
  refine lv_iconst (v := 0) C.x C.b dX3_eyeOn_38 (by decide) ?_
  exact r_iret C hr hlocks hS ⟨rfl, by simp only [eyeOnF, h_1, h_2, h_3, h_4, not_true_eq_false, not_false_eq_true, and_true, true_and, and_false, false_and, and_self, or_true, or_false, true_or, false_or, ite_true, ite_false, if_true, if_false, ↓reduceIte, reduceCtorEq]⟩ dX3_eyeOn_39
set_option maxHeartbeats 4000000 in
set_option maxRecDepth 100000 in
/-- Program.placesUnder -/
theorem c_X3_placesUnder (l : Launch) (D : va_G) (t : Gx) (B N : Nat) (g : Nat → va_E) (i : Nat) (o pr w : Nat → Int32) (n : Nat) (x : Int32) (hi : i + 3 < N) (hP : isProg t B g i o pr w n) (hn : n ≤ 8) : Ci l D t B N yX3_placesUnder cX3_placesUnder 4 (some .int) 1 20 g [.ref (B + i), .int x] (fun r g' => g = g' ∧ r = undF o x n) := by
  refine Ci.start (by decide) (Nat.le_of_ble_eq_true rfl) ?_
  intro p e s m below meth c ls C hr hlocks hS hl
  replace C : Cx D t p s m [.ref (B + i), .int x].toArray c cX3_placesUnder 4 RX3 := C
  replace hl : lv_has ls 4 [(0, .ref (B + i)), (1, .int x)] := hl
  obtain ⟨e0, e1, e2, e3⟩ := hP
  refine lv_iconst (v := 0) C.x C.b dX3_placesUnder_0 (by decide) ?_
  refine lv_istore_n (lv' := [(2, .int 0), (0, .ref (B + i)), (1, .int x)]) C.x C.b dX3_placesUnder_1 rfl hl (by decide) rfl (fun ls hl => ?_)
  refine lv_iconst (v := 0) C.x C.b dX3_placesUnder_2 (by decide) ?_
  refine lv_istore_n (lv' := [(3, .int 0), (2, .int 0), (0, .ref (B + i)), (1, .int x)]) C.x C.b dX3_placesUnder_3 rfl hl (by decide) rfl (fun ls hl => ?_)
  have lp_1 : ∀ (u_2 k_3 : Nat) (H : Heap) (locs : List Loc) (ls : Array Slot), k_3 + u_2 = n → St D B s.heap N g H locs → lv_has ls 4 [(0, .ref (B + i)), (1, .int x), (2, .int (undF o x k_3)), (3, .int (nI k_3))] → W p l e (rmOf 1 20 0 0) s m [.ref (B + i), .int x].toArray below meth c H locs 0 0 (MQ below (qI D B N (fun r g' => g = g' ∧ r = undF o x n)) [.ref (B + i), .int x].toArray s 0 0 (fun q => B ≤ q)) (F0 m 4 ls []) := by
    intro u_2
    induction u_2 with
    | zero =>
      intro k_3 H locs ls hk_4 hS hl
      obtain rfl : n = k_3 := by omega
      refine lv_iload_n C.x C.b dX3_placesUnder_4 rfl (lv_at hl 3 rfl) ?_
      refine lv_aload_n C.x C.b dX3_placesUnder_5 rfl (lv_at hl 0 rfl) ?_
      refine r_get ck3 flX3_21 C hS (by omega) e0 (by decide) rfl dX3_placesUnder_6 ?_
      refine lv_icmp_ge (tgt := 41) C.x C.b dX3_placesUnder_9 (by decide) (fun c_7 => ?_) (fun c_7 => absurd (nI_le (Nat.le_refl _) (by omega)) c_7)
      refine lv_iload_n C.x C.b dX3_placesUnder_41 rfl (lv_at hl 2 rfl) ?_
      exact r_iret C hr hlocks hS ⟨rfl, rfl⟩ dX3_placesUnder_42
    | succ u_2 ih_5 =>
      intro k_3 H locs ls hk_4 hS hl
      refine lv_iload_n C.x C.b dX3_placesUnder_4 rfl (lv_at hl 3 rfl) ?_
      refine lv_aload_n C.x C.b dX3_placesUnder_5 rfl (lv_at hl 0 rfl) ?_
      refine r_get ck3 flX3_21 C hS (by omega) e0 (by decide) rfl dX3_placesUnder_6 ?_
      refine lv_icmp_ge (tgt := 41) C.x C.b dX3_placesUnder_9 (by decide) (fun c_8 => absurd c_8 (nI_ge (a := k_3) (b := n) (by omega) (by omega))) (fun c_8 => ?_)
      refine lv_aload_n C.x C.b dX3_placesUnder_12 rfl (lv_at hl 0 rfl) ?_
      refine r_get ck3 flX3_9 C hS (by omega) e0 (by decide) rfl dX3_placesUnder_13 ?_
      refine lv_iload_n C.x C.b dX3_placesUnder_16 rfl (lv_at hl 3 rfl) ?_
      refine r_ialdN k_3 rfl (by omega) (by decide) C hS (by omega) e1 dX3_placesUnder_17 ?_
      refine lv_bipush (v := 12) C.x C.b dX3_placesUnder_18 (by decide) ?_
      refine lv_ishr C.x C.b dX3_placesUnder_20 ?_
      refine r_callS (As := [.int ((o k_3) >>> (12 &&& 31))]) (rest := []) (c_X3_eyeOn l D t B N g ((o k_3) >>> (12 &&& 31))) mf_yX3_eyeOn mlX3_25 sm_yX3_eyeOn (by decide) C hS rfl hl.1 rfl (Nat.le_of_ble_eq_true rfl) dX3_placesUnder_21 ⟨Nat.zero_le _, Nat.zero_le _⟩ (fun r_11 g_9 H locs w_10 hS => ?_)
      obtain ⟨rfl, er_11⟩ := w_10
      subst er_11
      refine lv_iload_n C.x C.b dX3_placesUnder_24 rfl (lv_at hl 1 rfl) ?_
      refine lv_iand C.x C.b dX3_placesUnder_25 ?_
      refine lv_if_eq (tgt := 35) C.x C.b dX3_placesUnder_26 (by decide) (fun c_12 => ?_) (fun c_12 => ?_)
      · skip
        refine lv_iinc (v := nI (k_3 + 1)) (lv' := [(3, .int (nI (k_3 + 1))), (0, .ref (B + i)), (1, .int x), (2, .int (undF o x k_3))]) C.x C.b dX3_placesUnder_35 hl (k := 3) rfl (nI_1 k_3) (by decide) rfl (fun ls hl => ?_)
        refine lv_goto (tgt := 4) C.x C.b dX3_placesUnder_38 (by decide) ?_
        have z_13 : undF o x (k_3 + 1) = undF o x k_3 := by simp only [undF, c_12, not_true_eq_false, not_false_eq_true, and_true, true_and, and_false, false_and, and_self, or_true, or_false, true_or, false_or, ite_true, ite_false, if_true, if_false, ↓reduceIte, reduceCtorEq]
        exact ih_5 (k_3 + 1) _ _ _ (by omega)  hS (by rw [z_13]; exact lv_sub hl [1, 2, 3, 0] rfl)
      · skip
        refine lv_iload_n C.x C.b dX3_placesUnder_29 rfl (lv_at hl 2 rfl) ?_
        refine lv_iconst (v := 1) C.x C.b dX3_placesUnder_30 (by decide) ?_
        refine lv_iload_n C.x C.b dX3_placesUnder_31 rfl (lv_at hl 3 rfl) ?_
        refine lv_ishl C.x C.b dX3_placesUnder_32 ?_
        refine lv_ior C.x C.b dX3_placesUnder_33 ?_
        refine lv_istore_n (lv' := [(2, .int ((undF o x k_3) ||| (1 <<< ((nI k_3) &&& 31)))), (0, .ref (B + i)), (1, .int x), (3, .int (nI k_3))]) C.x C.b dX3_placesUnder_34 rfl hl (by decide) rfl (fun ls hl => ?_)
        refine lv_iinc (v := nI (k_3 + 1)) (lv' := [(3, .int (nI (k_3 + 1))), (2, .int ((undF o x k_3) ||| (1 <<< ((nI k_3) &&& 31)))), (0, .ref (B + i)), (1, .int x)]) C.x C.b dX3_placesUnder_35 hl (k := 3) rfl (nI_1 k_3) (by decide) rfl (fun ls hl => ?_)
        refine lv_goto (tgt := 4) C.x C.b dX3_placesUnder_38 (by decide) ?_
        have z_14 : undF o x (k_3 + 1) = ((undF o x k_3) ||| (1 <<< ((nI k_3) &&& 31))) := by simp only [undF, c_12, not_true_eq_false, not_false_eq_true, and_true, true_and, and_false, false_and, and_self, or_true, or_false, true_or, false_or, ite_true, ite_false, if_true, if_false, ↓reduceIte, reduceCtorEq]
        exact ih_5 (k_3 + 1) _ _ _ (by omega)  hS (by rw [z_14]; exact lv_sub hl [2, 3, 1, 0] rfl)
  exact lp_1 n 0 _ _ _ (by omega)  hS (lv_sub hl [2, 3, 1, 0] rfl)
