def zf (f : Nat → Int32) : Nat → Nat → Int32
  | 0 => f
  | k + 1 => upd (zf f k) k 0
/-- the cost of a run, the places of x even, below k -/
def cwF (ct ec : Nat → Int32) (x : Int32) : Nat → Int32
  | 0 => 0
  | k + 1 => cwF ct ec x k + if ((x >>> (nI k &&& 31)) &&& 1) = 0 then ct k else ec k
abbrev alike (x : Int32) (ep ew en ct ec : Nat → Int32) (len : Nat) (sp : Int32) (ep2 ew2 en2 ct2 ec2 : Nat → Int32) (len2 : Nat) (sp2 : Int32) : Prop := (¬ (x &&& 1) = 0 → (sp = sp2 ∧ ∀ q, q < 8 → ct q = ct2 q ∧ ec q = ec2 q)) ∧ len = len2 ∧ ∀ q, q < len → ep q = ep2 q ∧ ew q = ew2 q ∧ en q = en2 q
set_option maxHeartbeats 4000000 in
set_option maxRecDepth 100000 in
theorem c_X6_holdsEven (l : Launch) (D : va_G) (t : Gx) (B N : Nat) (g : Nat → va_E) (i : Nat) (ey wi ev x : Int32) (hi : i < N) (hW : isWat g i ey wi ev) : Ci l D t B N yX6_holdsEven cX6_holdsEven 2 (some .boolean) 0 0 g [.ref (B + i), .int x] (fun r g' => g = g' ∧ r = if ((ev >>> (x &&& 31)) &&& 1) = 0 then 0 else 1) := by
  refine Ci.start (by decide) (Nat.le_of_ble_eq_true rfl) ?_
  intro p e s m below meth c ls C hr hlocks hS hl
  replace C : Cx D t p s m [.ref (B + i), .int x].toArray c cX6_holdsEven 2 RX6 := C
  replace hl : lv_has ls 2 [(0, .ref (B + i)), (1, .int x)] := hl
  refine lv_aload_n C.x C.b dX6_holdsEven_0 rfl (lv_at hl 0 rfl) ?_
  refine r_get ck6 flX6_18 C hS (by omega) hW (by decide) rfl dX6_holdsEven_1 ?_
  refine lv_iload_n C.x C.b dX6_holdsEven_4 rfl (lv_at hl 1 rfl) ?_
  refine lv_ishr C.x C.b dX6_holdsEven_5 ?_
  refine lv_iconst (v := 1) C.x C.b dX6_holdsEven_6 (by decide) ?_
  refine lv_iand C.x C.b dX6_holdsEven_7 ?_
  refine lv_if_eq (tgt := 15) C.x C.b dX6_holdsEven_8 (by decide) (fun c_1 => ?_) (fun c_1 => ?_)
  · skip
    refine lv_iconst (v := 0) C.x C.b dX6_holdsEven_15 (by decide) ?_
    exact r_zret C hr hlocks hS (by decide) ⟨rfl, by simp only [c_1, not_true_eq_false, not_false_eq_true, and_true, true_and, and_false, false_and, and_self, or_true, or_false, true_or, false_or, ite_true, ite_false, if_true, if_false, ↓reduceIte, reduceCtorEq]⟩ dX6_holdsEven_16
  · skip
    refine lv_iconst (v := 1) C.x C.b dX6_holdsEven_11 (by decide) ?_
    refine lv_goto (tgt := 16) C.x C.b dX6_holdsEven_12 (by decide) ?_
    exact r_zret C hr hlocks hS (by decide) ⟨rfl, by simp only [c_1, not_true_eq_false, not_false_eq_true, and_true, true_and, and_false, false_and, and_self, or_true, or_false, true_or, false_or, ite_true, ite_false, if_true, if_false, ↓reduceIte, reduceCtorEq]⟩ dX6_holdsEven_16
set_option maxHeartbeats 4000000 in
set_option maxRecDepth 100000 in
/-- Run.begin -/
theorem c_X5_begin (l : Launch) (D : va_G) (t : Gx) (B N : Nat) (g : Nat → va_E) (i : Nat) (ep ew en ct ec : Nat → Int32) (len : Nat) (st vi an sp : Int32) (hi : i + 5 < N) (hR : isRun t B g i ep ew en ct ec len st vi an sp) : Cv l D t B N N 0 0 yX5_begin cX5_begin 2 0 0 g [.ref (B + i)] (fun g' => isRun t B g' i ep ew en (zf ct 8) (zf ec 8) 0 0 0 an sp ∧ ∀ j, (j < i ∨ i + 5 < j) → g' j = g j) := by
  refine Cv.start (by decide) (Nat.le_of_ble_eq_true rfl) ?_
  intro p e s m below meth c ls C hr hlocks hnm hS hl
  replace C : Cx D t p s m [.ref (B + i)].toArray c cX5_begin 2 RX5 := C
  replace hl : lv_has ls 2 [(0, .ref (B + i))] := hl
  obtain ⟨e0, e1, e2, e3, e4, e5⟩ := hR
  refine lv_aload_n C.x C.b dX5_begin_0 rfl (lv_at hl 0 rfl) ?_
  refine lv_iconst (v := 0) C.x C.b dX5_begin_1 (by decide) ?_
  refine r_put ck5 flX5_27 C hS (by omega) e0 (by decide) rfl rfl rfl (Nat.le_of_ble_eq_true rfl) dX5_begin_2 (fun g_1 H locs e_2 o_3 hS => ?_)
  replace e_2 : g_1 i = .inr (5, [.ref (B + (i + 1)), .ref (B + (i + 2)), .ref (B + (i + 3)), .ref (B + (i + 4)), .ref (B + (i + 5)), .int 0, .int st, .int vi, .int an, .int sp]) := e_2
  refine lv_aload_n C.x C.b dX5_begin_5 rfl (lv_at hl 0 rfl) ?_
  refine lv_iconst (v := 0) C.x C.b dX5_begin_6 (by decide) ?_
  refine r_put ck5 flX5_31 C hS (by omega) e_2 (by decide) rfl rfl rfl (Nat.le_of_ble_eq_true rfl) dX5_begin_7 (fun g_4 H locs e_5 o_6 hS => ?_)
  replace e_5 : g_4 i = .inr (5, [.ref (B + (i + 1)), .ref (B + (i + 2)), .ref (B + (i + 3)), .ref (B + (i + 4)), .ref (B + (i + 5)), .int 0, .int 0, .int vi, .int an, .int sp]) := e_5
  refine lv_aload_n C.x C.b dX5_begin_10 rfl (lv_at hl 0 rfl) ?_
  refine lv_iconst (v := 0) C.x C.b dX5_begin_11 (by decide) ?_
  refine r_put ck5 flX5_34 C hS (by omega) e_5 (by decide) rfl rfl rfl (Nat.le_of_ble_eq_true rfl) dX5_begin_12 (fun g_7 H locs e_8 o_9 hS => ?_)
  replace e_8 : g_7 i = .inr (5, [.ref (B + (i + 1)), .ref (B + (i + 2)), .ref (B + (i + 3)), .ref (B + (i + 4)), .ref (B + (i + 5)), .int 0, .int 0, .int 0, .int an, .int sp]) := e_8
  refine lv_iconst (v := 0) C.x C.b dX5_begin_15 (by decide) ?_
  refine lv_istore_n (lv' := [(1, .int 0), (0, .ref (B + i))]) C.x C.b dX5_begin_16 rfl hl (by decide) rfl (fun ls hl => ?_)
  have lp_10 : ∀ (u_11 k_12 : Nat) (g_16 : Nat → va_E) (H : Heap) (locs : List Loc) (ls : Array Slot), k_12 + u_11 = 8 → (g_16 (i + 4) = .inl (t.1, 8, .inl (zf ct k_12))) → (g_16 (i + 5) = .inl (t.1, 8, .inl (zf ec k_12))) → (∀ j, (j ≠ i + 4 ∧ j ≠ i + 5) → g_16 j = g_7 j) → St D B s.heap N g_16 H locs → lv_has ls 2 [(0, .ref (B + i)), (1, .int (nI k_12))] → W p l e (rmOf 0 0 0 0) s m [.ref (B + i)].toArray below meth c H locs 0 0 (MQ below (qV D B N (fun g' => isRun t B g' i ep ew en (zf ct 8) (zf ec 8) 0 0 0 an sp ∧ ∀ j, (j < i ∨ i + 5 < j) → g' j = g j)) [.ref (B + i)].toArray s 0 0 (fun q => B ≤ q)) (F0 m 17 ls []) := by
    intro u_11
    induction u_11 with
    | zero =>
      intro k_12 g_16 H locs ls hk_13 e_17 e_18 hf_15 hS hl
      obtain rfl : 8 = k_12 := by omega
      refine lv_iload_n C.x C.b dX5_begin_17 rfl (lv_at hl 1 rfl) ?_
      refine lv_bipush (v := 8) C.x C.b dX5_begin_18 (by decide) ?_
      refine lv_icmp_ge (tgt := 43) C.x C.b dX5_begin_20 (by decide) (fun c_19 => ?_) (fun c_19 => absurd (by decide) c_19)
      have e_20 : g_16 i = .inr (5, [.ref (B + (i + 1)), .ref (B + (i + 2)), .ref (B + (i + 3)), .ref (B + (i + 4)), .ref (B + (i + 5)), .int 0, .int 0, .int 0, .int an, .int sp]) := (hf_15 _ (by omega)).trans e_8
      have e_21 : g_1 (i + 1) = .inl (t.1, 40, .inl ep) := (o_3 _ (by omega)).trans e1
      have e_22 : g_4 (i + 1) = .inl (t.1, 40, .inl ep) := (o_6 _ (by omega)).trans e_21
      have e_23 : g_7 (i + 1) = .inl (t.1, 40, .inl ep) := (o_9 _ (by omega)).trans e_22
      have e_24 : g_16 (i + 1) = .inl (t.1, 40, .inl ep) := (hf_15 _ (by omega)).trans e_23
      have e_25 : g_1 (i + 2) = .inl (t.1, 40, .inl ew) := (o_3 _ (by omega)).trans e2
      have e_26 : g_4 (i + 2) = .inl (t.1, 40, .inl ew) := (o_6 _ (by omega)).trans e_25
      have e_27 : g_7 (i + 2) = .inl (t.1, 40, .inl ew) := (o_9 _ (by omega)).trans e_26
      have e_28 : g_16 (i + 2) = .inl (t.1, 40, .inl ew) := (hf_15 _ (by omega)).trans e_27
      have e_29 : g_1 (i + 3) = .inl (t.1, 40, .inl en) := (o_3 _ (by omega)).trans e3
      have e_30 : g_4 (i + 3) = .inl (t.1, 40, .inl en) := (o_6 _ (by omega)).trans e_29
      have e_31 : g_7 (i + 3) = .inl (t.1, 40, .inl en) := (o_9 _ (by omega)).trans e_30
      have e_32 : g_16 (i + 3) = .inl (t.1, 40, .inl en) := (hf_15 _ (by omega)).trans e_31
      exact r_vret C hr hlocks hS ⟨⟨e_20, e_24, e_28, e_32, e_17, e_18⟩, fun j hj => (hf_15 j (by omega)).trans ((o_9 j (by omega)).trans ((o_6 j (by omega)).trans (o_3 j (by omega))))⟩ dX5_begin_43
    | succ u_11 ih_14 =>
      intro k_12 g_16 H locs ls hk_13 e_17 e_18 hf_15 hS hl
      refine lv_iload_n C.x C.b dX5_begin_17 rfl (lv_at hl 1 rfl) ?_
      refine lv_bipush (v := 8) C.x C.b dX5_begin_18 (by decide) ?_
      refine lv_icmp_ge (tgt := 43) C.x C.b dX5_begin_20 (by decide) (fun c_33 => absurd c_33 (nI_ge (a := k_12) (b := 8) (by omega) (by decide))) (fun c_33 => ?_)
      refine lv_aload_n C.x C.b dX5_begin_23 rfl (lv_at hl 0 rfl) ?_
      have e_34 : g_16 i = .inr (5, [.ref (B + (i + 1)), .ref (B + (i + 2)), .ref (B + (i + 3)), .ref (B + (i + 4)), .ref (B + (i + 5)), .int 0, .int 0, .int 0, .int an, .int sp]) := (hf_15 _ (by omega)).trans e_8
      refine r_get ck5 flX5_21 C hS (by omega) e_34 (by decide) rfl dX5_begin_24 ?_
      refine lv_iload_n C.x C.b dX5_begin_27 rfl (lv_at hl 1 rfl) ?_
      refine lv_iconst (v := 0) C.x C.b dX5_begin_28 (by decide) ?_
      refine r_iastN k_12 rfl (by omega) (by decide) C hS (by omega) e_17 dX5_begin_29 (fun g_35 H locs e_36 o_37 hS => ?_)
      replace e_36 : g_35 (i + 4) = .inl (t.1, 8, .inl (upd (zf ct k_12) k_12 0)) := e_36
      refine lv_aload_n C.x C.b dX5_begin_30 rfl (lv_at hl 0 rfl) ?_
      have e_38 : g_35 i = .inr (5, [.ref (B + (i + 1)), .ref (B + (i + 2)), .ref (B + (i + 3)), .ref (B + (i + 4)), .ref (B + (i + 5)), .int 0, .int 0, .int 0, .int an, .int sp]) := (o_37 _ (by omega)).trans e_34
      refine r_get ck5 flX5_24 C hS (by omega) e_38 (by decide) rfl dX5_begin_31 ?_
      refine lv_iload_n C.x C.b dX5_begin_34 rfl (lv_at hl 1 rfl) ?_
      refine lv_iconst (v := 0) C.x C.b dX5_begin_35 (by decide) ?_
      have e_39 : g_35 (i + 5) = .inl (t.1, 8, .inl (zf ec k_12)) := (o_37 _ (by omega)).trans e_18
      refine r_iastN k_12 rfl (by omega) (by decide) C hS (by omega) e_39 dX5_begin_36 (fun g_40 H locs e_41 o_42 hS => ?_)
      replace e_41 : g_40 (i + 5) = .inl (t.1, 8, .inl (upd (zf ec k_12) k_12 0)) := e_41
      refine lv_iinc (v := nI (k_12 + 1)) (lv' := [(1, .int (nI (k_12 + 1))), (0, .ref (B + i))]) C.x C.b dX5_begin_37 hl (k := 1) rfl (nI_1 k_12) (by decide) rfl (fun ls hl => ?_)
      refine lv_goto (tgt := 17) C.x C.b dX5_begin_40 (by decide) ?_
      have e_43 : g_40 (i + 4) = .inl (t.1, 8, .inl (upd (zf ct k_12) k_12 0)) := (o_42 _ (by omega)).trans e_36
      exact ih_14 (k_12 + 1) g_40 _ _ _ (by omega) e_43 e_41 (fun j hj => (o_42 j (by omega)).trans ((o_37 j (by omega)).trans (hf_15 j hj))) hS (lv_sub hl [1, 0] rfl)
  have e_44 : g_1 (i + 4) = .inl (t.1, 8, .inl ct) := (o_3 _ (by omega)).trans e4
  have e_45 : g_4 (i + 4) = .inl (t.1, 8, .inl ct) := (o_6 _ (by omega)).trans e_44
  have e_46 : g_7 (i + 4) = .inl (t.1, 8, .inl ct) := (o_9 _ (by omega)).trans e_45
  have e_47 : g_1 (i + 5) = .inl (t.1, 8, .inl ec) := (o_3 _ (by omega)).trans e5
  have e_48 : g_4 (i + 5) = .inl (t.1, 8, .inl ec) := (o_6 _ (by omega)).trans e_47
  have e_49 : g_7 (i + 5) = .inl (t.1, 8, .inl ec) := (o_9 _ (by omega)).trans e_48
  exact lp_10 8 0 g_7 _ _ _ (by omega) e_46 e_49 (fun _ _ => rfl) hS (lv_sub hl [1, 0] rfl)
set_option maxHeartbeats 4000000 in
set_option maxRecDepth 100000 in
/-- Run.tell, where there is room -/
theorem c_X5_tell (l : Launch) (D : va_G) (t : Gx) (B N : Nat) (g : Nat → va_E) (i : Nat) (ep ew en ct ec : Nat → Int32) (len : Nat) (st vi an sp : Int32) (x y z : Int32) (hi : i + 5 < N) (hR : isRun t B g i ep ew en ct ec len st vi an sp) (hn : len < 40) : Cv l D t B N N 0 0 yX5_tell cX5_tell 4 0 0 g [.ref (B + i), .int x, .int y, .int z] (fun g' => isRun t B g' i (upd ep len x) (upd ew len y) (upd en len z) ct ec (len + 1) st vi an sp ∧ ∀ j, (j < i ∨ i + 5 < j) → g' j = g j) := by
  refine Cv.start (by decide) (Nat.le_of_ble_eq_true rfl) ?_
  intro p e s m below meth c ls C hr hlocks hnm hS hl
  replace C : Cx D t p s m [.ref (B + i), .int x, .int y, .int z].toArray c cX5_tell 4 RX5 := C
  replace hl : lv_has ls 4 [(0, .ref (B + i)), (1, .int x), (2, .int y), (3, .int z)] := hl
  obtain ⟨e0, e1, e2, e3, e4, e5⟩ := hR
  refine lv_aload_n C.x C.b dX5_tell_0 rfl (lv_at hl 0 rfl) ?_
  refine r_get ck5 flX5_27 C hS (by omega) e0 (by decide) rfl dX5_tell_1 ?_
  refine lv_bipush (v := 40) C.x C.b dX5_tell_4 (by decide) ?_
  refine lv_icmp_lt (tgt := 10) C.x C.b dX5_tell_6 (by decide) (fun c_1 => ?_) (fun c_1 => absurd (nI_lt hn (by decide)) c_1)
  refine lv_aload_n C.x C.b dX5_tell_10 rfl (lv_at hl 0 rfl) ?_
  refine r_get ck5 flX5_9 C hS (by omega) e0 (by decide) rfl dX5_tell_11 ?_
  refine lv_aload_n C.x C.b dX5_tell_14 rfl (lv_at hl 0 rfl) ?_
  refine r_get ck5 flX5_27 C hS (by omega) e0 (by decide) rfl dX5_tell_15 ?_
  refine lv_iload_n C.x C.b dX5_tell_18 rfl (lv_at hl 1 rfl) ?_
  refine r_iastN len rfl (by omega) (by decide) C hS (by omega) e1 dX5_tell_19 (fun g_2 H locs e_3 o_4 hS => ?_)
  replace e_3 : g_2 (i + 1) = .inl (t.1, 40, .inl (upd ep len x)) := e_3
  refine lv_aload_n C.x C.b dX5_tell_20 rfl (lv_at hl 0 rfl) ?_
  have e_5 : g_2 i = .inr (5, [.ref (B + (i + 1)), .ref (B + (i + 2)), .ref (B + (i + 3)), .ref (B + (i + 4)), .ref (B + (i + 5)), .int (nI len), .int st, .int vi, .int an, .int sp]) := (o_4 _ (by omega)).trans e0
  refine r_get ck5 flX5_15 C hS (by omega) e_5 (by decide) rfl dX5_tell_21 ?_
  refine lv_aload_n C.x C.b dX5_tell_24 rfl (lv_at hl 0 rfl) ?_
  refine r_get ck5 flX5_27 C hS (by omega) e_5 (by decide) rfl dX5_tell_25 ?_
  refine lv_iload_n C.x C.b dX5_tell_28 rfl (lv_at hl 2 rfl) ?_
  have e_6 : g_2 (i + 2) = .inl (t.1, 40, .inl ew) := (o_4 _ (by omega)).trans e2
  refine r_iastN len rfl (by omega) (by decide) C hS (by omega) e_6 dX5_tell_29 (fun g_7 H locs e_8 o_9 hS => ?_)
  replace e_8 : g_7 (i + 2) = .inl (t.1, 40, .inl (upd ew len y)) := e_8
  refine lv_aload_n C.x C.b dX5_tell_30 rfl (lv_at hl 0 rfl) ?_
  have e_10 : g_7 i = .inr (5, [.ref (B + (i + 1)), .ref (B + (i + 2)), .ref (B + (i + 3)), .ref (B + (i + 4)), .ref (B + (i + 5)), .int (nI len), .int st, .int vi, .int an, .int sp]) := (o_9 _ (by omega)).trans e_5
  refine r_get ck5 flX5_18 C hS (by omega) e_10 (by decide) rfl dX5_tell_31 ?_
  refine lv_aload_n C.x C.b dX5_tell_34 rfl (lv_at hl 0 rfl) ?_
  refine r_get ck5 flX5_27 C hS (by omega) e_10 (by decide) rfl dX5_tell_35 ?_
  refine lv_iload_n C.x C.b dX5_tell_38 rfl (lv_at hl 3 rfl) ?_
  have e_11 : g_2 (i + 3) = .inl (t.1, 40, .inl en) := (o_4 _ (by omega)).trans e3
  have e_12 : g_7 (i + 3) = .inl (t.1, 40, .inl en) := (o_9 _ (by omega)).trans e_11
  refine r_iastN len rfl (by omega) (by decide) C hS (by omega) e_12 dX5_tell_39 (fun g_13 H locs e_14 o_15 hS => ?_)
  replace e_14 : g_13 (i + 3) = .inl (t.1, 40, .inl (upd en len z)) := e_14
  refine lv_aload_n C.x C.b dX5_tell_40 rfl (lv_at hl 0 rfl) ?_
  refine lv_dup C.x C.b dX5_tell_41 rfl ?_
  have e_16 : g_13 i = .inr (5, [.ref (B + (i + 1)), .ref (B + (i + 2)), .ref (B + (i + 3)), .ref (B + (i + 4)), .ref (B + (i + 5)), .int (nI len), .int st, .int vi, .int an, .int sp]) := (o_15 _ (by omega)).trans e_10
  refine r_get ck5 flX5_27 C hS (by omega) e_16 (by decide) rfl dX5_tell_42 ?_
  refine lv_iconst (v := 1) C.x C.b dX5_tell_45 (by decide) ?_
  refine lv_iadd C.x C.b dX5_tell_46 ?_
  refine r_top (y := nI (len + 1)) (nI_1 len) ?_
  refine r_put ck5 flX5_27 C hS (by omega) e_16 (by decide) rfl rfl rfl (Nat.le_of_ble_eq_true rfl) dX5_tell_47 (fun g_17 H locs e_18 o_19 hS => ?_)
  replace e_18 : g_17 i = .inr (5, [.ref (B + (i + 1)), .ref (B + (i + 2)), .ref (B + (i + 3)), .ref (B + (i + 4)), .ref (B + (i + 5)), .int (nI (len + 1)), .int st, .int vi, .int an, .int sp]) := e_18
  have e_20 : g_7 (i + 1) = .inl (t.1, 40, .inl (upd ep len x)) := (o_9 _ (by omega)).trans e_3
  have e_21 : g_13 (i + 1) = .inl (t.1, 40, .inl (upd ep len x)) := (o_15 _ (by omega)).trans e_20
  have e_22 : g_17 (i + 1) = .inl (t.1, 40, .inl (upd ep len x)) := (o_19 _ (by omega)).trans e_21
  have e_23 : g_13 (i + 2) = .inl (t.1, 40, .inl (upd ew len y)) := (o_15 _ (by omega)).trans e_8
  have e_24 : g_17 (i + 2) = .inl (t.1, 40, .inl (upd ew len y)) := (o_19 _ (by omega)).trans e_23
  have e_25 : g_17 (i + 3) = .inl (t.1, 40, .inl (upd en len z)) := (o_19 _ (by omega)).trans e_14
  have e_26 : g_2 (i + 4) = .inl (t.1, 8, .inl ct) := (o_4 _ (by omega)).trans e4
  have e_27 : g_7 (i + 4) = .inl (t.1, 8, .inl ct) := (o_9 _ (by omega)).trans e_26
  have e_28 : g_13 (i + 4) = .inl (t.1, 8, .inl ct) := (o_15 _ (by omega)).trans e_27
  have e_29 : g_17 (i + 4) = .inl (t.1, 8, .inl ct) := (o_19 _ (by omega)).trans e_28
  have e_30 : g_2 (i + 5) = .inl (t.1, 8, .inl ec) := (o_4 _ (by omega)).trans e5
  have e_31 : g_7 (i + 5) = .inl (t.1, 8, .inl ec) := (o_9 _ (by omega)).trans e_30
  have e_32 : g_13 (i + 5) = .inl (t.1, 8, .inl ec) := (o_15 _ (by omega)).trans e_31
  have e_33 : g_17 (i + 5) = .inl (t.1, 8, .inl ec) := (o_19 _ (by omega)).trans e_32
  exact r_vret C hr hlocks hS ⟨⟨e_18, e_22, e_24, e_25, e_29, e_33⟩, fun j hj => (o_19 j (by omega)).trans ((o_15 j (by omega)).trans ((o_9 j (by omega)).trans (o_4 j (by omega))))⟩ dX5_tell_50
set_option maxHeartbeats 4000000 in
set_option maxRecDepth 100000 in
/-- Run.costWith -/
theorem c_X5_costWith (l : Launch) (D : va_G) (t : Gx) (B N : Nat) (g : Nat → va_E) (i : Nat) (ep ew en ct ec : Nat → Int32) (len : Nat) (st vi an sp : Int32) (x : Int32) (hi : i + 5 < N) (hR : isRun t B g i ep ew en ct ec len st vi an sp) : Ci l D t B N yX5_costWith cX5_costWith 4 (some .int) 0 0 g [.ref (B + i), .int x] (fun r g' => g = g' ∧ r = cwF ct ec x 8) := by
  refine Ci.start (by decide) (Nat.le_of_ble_eq_true rfl) ?_
  intro p e s m below meth c ls C hr hlocks hS hl
  replace C : Cx D t p s m [.ref (B + i), .int x].toArray c cX5_costWith 4 RX5 := C
  replace hl : lv_has ls 4 [(0, .ref (B + i)), (1, .int x)] := hl
  obtain ⟨e0, e1, e2, e3, e4, e5⟩ := hR
  refine lv_iconst (v := 0) C.x C.b dX5_costWith_0 (by decide) ?_
  refine lv_istore_n (lv' := [(2, .int 0), (0, .ref (B + i)), (1, .int x)]) C.x C.b dX5_costWith_1 rfl hl (by decide) rfl (fun ls hl => ?_)
  refine lv_iconst (v := 0) C.x C.b dX5_costWith_2 (by decide) ?_
  refine lv_istore_n (lv' := [(3, .int 0), (2, .int 0), (0, .ref (B + i)), (1, .int x)]) C.x C.b dX5_costWith_3 rfl hl (by decide) rfl (fun ls hl => ?_)
  have lp_1 : ∀ (u_2 k_3 : Nat) (H : Heap) (locs : List Loc) (ls : Array Slot), k_3 + u_2 = 8 → St D B s.heap N g H locs → lv_has ls 4 [(0, .ref (B + i)), (1, .int x), (2, .int (cwF ct ec x k_3)), (3, .int (nI k_3))] → W p l e (rmOf 0 0 0 0) s m [.ref (B + i), .int x].toArray below meth c H locs 0 0 (MQ below (qI D B N (fun r g' => g = g' ∧ r = cwF ct ec x 8)) [.ref (B + i), .int x].toArray s 0 0 (fun q => B ≤ q)) (F0 m 4 ls []) := by
    intro u_2
    induction u_2 with
    | zero =>
      intro k_3 H locs ls hk_4 hS hl
      obtain rfl : 8 = k_3 := by omega
      refine lv_iload_n C.x C.b dX5_costWith_4 rfl (lv_at hl 3 rfl) ?_
      refine lv_bipush (v := 8) C.x C.b dX5_costWith_5 (by decide) ?_
      refine lv_icmp_ge (tgt := 42) C.x C.b dX5_costWith_7 (by decide) (fun c_7 => ?_) (fun c_7 => absurd (by decide) c_7)
      refine lv_iload_n C.x C.b dX5_costWith_42 rfl (lv_at hl 2 rfl) ?_
      exact r_iret C hr hlocks hS ⟨rfl, rfl⟩ dX5_costWith_43
    | succ u_2 ih_5 =>
      intro k_3 H locs ls hk_4 hS hl
      refine lv_iload_n C.x C.b dX5_costWith_4 rfl (lv_at hl 3 rfl) ?_
      refine lv_bipush (v := 8) C.x C.b dX5_costWith_5 (by decide) ?_
      refine lv_icmp_ge (tgt := 42) C.x C.b dX5_costWith_7 (by decide) (fun c_8 => absurd c_8 (nI_ge (a := k_3) (b := 8) (by omega) (by decide))) (fun c_8 => ?_)
      refine lv_iload_n C.x C.b dX5_costWith_10 rfl (lv_at hl 2 rfl) ?_
      refine lv_iload_n C.x C.b dX5_costWith_11 rfl (lv_at hl 1 rfl) ?_
      refine lv_iload_n C.x C.b dX5_costWith_12 rfl (lv_at hl 3 rfl) ?_
      refine lv_ishr C.x C.b dX5_costWith_13 ?_
      refine lv_iconst (v := 1) C.x C.b dX5_costWith_14 (by decide) ?_
      refine lv_iand C.x C.b dX5_costWith_15 ?_
      refine lv_if_eq (tgt := 28) C.x C.b dX5_costWith_16 (by decide) (fun c_9 => ?_) (fun c_9 => ?_)
      · skip
        refine lv_aload_n C.x C.b dX5_costWith_28 rfl (lv_at hl 0 rfl) ?_
        refine r_get ck5 flX5_21 C hS (by omega) e0 (by decide) rfl dX5_costWith_29 ?_
        refine lv_iload_n C.x C.b dX5_costWith_32 rfl (lv_at hl 3 rfl) ?_
        refine r_ialdN k_3 rfl (by omega) (by decide) C hS (by omega) e4 dX5_costWith_33 ?_
        refine lv_iadd C.x C.b dX5_costWith_34 ?_
        refine lv_istore_n (lv' := [(2, .int ((cwF ct ec x k_3) + (ct k_3))), (0, .ref (B + i)), (1, .int x), (3, .int (nI k_3))]) C.x C.b dX5_costWith_35 rfl hl (by decide) rfl (fun ls hl => ?_)
        refine lv_iinc (v := nI (k_3 + 1)) (lv' := [(3, .int (nI (k_3 + 1))), (2, .int ((cwF ct ec x k_3) + (ct k_3))), (0, .ref (B + i)), (1, .int x)]) C.x C.b dX5_costWith_36 hl (k := 3) rfl (nI_1 k_3) (by decide) rfl (fun ls hl => ?_)
        refine lv_goto (tgt := 4) C.x C.b dX5_costWith_39 (by decide) ?_
        have z_10 : cwF ct ec x (k_3 + 1) = ((cwF ct ec x k_3) + (ct k_3)) := by simp only [cwF, c_9, not_true_eq_false, not_false_eq_true, and_true, true_and, and_false, false_and, and_self, or_true, or_false, true_or, false_or, ite_true, ite_false, if_true, if_false, ↓reduceIte, reduceCtorEq]
        exact ih_5 (k_3 + 1) _ _ _ (by omega)  hS (by rw [z_10]; exact lv_sub hl [2, 3, 1, 0] rfl)
      · skip
        refine lv_aload_n C.x C.b dX5_costWith_19 rfl (lv_at hl 0 rfl) ?_
        refine r_get ck5 flX5_24 C hS (by omega) e0 (by decide) rfl dX5_costWith_20 ?_
        refine lv_iload_n C.x C.b dX5_costWith_23 rfl (lv_at hl 3 rfl) ?_
        refine r_ialdN k_3 rfl (by omega) (by decide) C hS (by omega) e5 dX5_costWith_24 ?_
        refine lv_goto (tgt := 34) C.x C.b dX5_costWith_25 (by decide) ?_
        refine lv_iadd C.x C.b dX5_costWith_34 ?_
        refine lv_istore_n (lv' := [(2, .int ((cwF ct ec x k_3) + (ec k_3))), (0, .ref (B + i)), (1, .int x), (3, .int (nI k_3))]) C.x C.b dX5_costWith_35 rfl hl (by decide) rfl (fun ls hl => ?_)
        refine lv_iinc (v := nI (k_3 + 1)) (lv' := [(3, .int (nI (k_3 + 1))), (2, .int ((cwF ct ec x k_3) + (ec k_3))), (0, .ref (B + i)), (1, .int x)]) C.x C.b dX5_costWith_36 hl (k := 3) rfl (nI_1 k_3) (by decide) rfl (fun ls hl => ?_)
        refine lv_goto (tgt := 4) C.x C.b dX5_costWith_39 (by decide) ?_
        have z_11 : cwF ct ec x (k_3 + 1) = ((cwF ct ec x k_3) + (ec k_3)) := by simp only [cwF, c_9, not_true_eq_false, not_false_eq_true, and_true, true_and, and_false, false_and, and_self, or_true, or_false, true_or, false_or, ite_true, ite_false, if_true, if_false, ↓reduceIte, reduceCtorEq]
        exact ih_5 (k_3 + 1) _ _ _ (by omega)  hS (by rw [z_11]; exact lv_sub hl [2, 3, 1, 0] rfl)
  exact lp_1 8 0 _ _ _ (by omega)  hS (lv_sub hl [2, 3, 1, 0] rfl)
set_option maxHeartbeats 4000000 in
set_option maxRecDepth 100000 in
/-- Run.costsAs -/
theorem c_X5_costsAs (l : Launch) (D : va_G) (t : Gx) (B N : Nat) (g : Nat → va_E) (i : Nat) (ep ew en ct ec : Nat → Int32) (len : Nat) (st vi an sp : Int32) (i2 : Nat) (ep2 ew2 en2 ct2 ec2 : Nat → Int32) (len2 : Nat) (st2 vi2 an2 sp2 : Int32) (hi : i + 5 < N) (hR : isRun t B g i ep ew en ct ec len st vi an sp) (hi2 : i2 + 5 < N) (hR2 : isRun t B g i2 ep2 ew2 en2 ct2 ec2 len2 st2 vi2 an2 sp2) : Ci l D t B N yX5_costsAs cX5_costsAs 3 (some .boolean) 0 0 g [.ref (B + i), .ref (B + i2)] (fun r g' => g = g' ∧ r = bz (sp = sp2 ∧ ∀ q, q < 8 → ct q = ct2 q ∧ ec q = ec2 q)) := by
  refine Ci.start (by decide) (Nat.le_of_ble_eq_true rfl) ?_
  intro p e s m below meth c ls C hr hlocks hS hl
  replace C : Cx D t p s m [.ref (B + i), .ref (B + i2)].toArray c cX5_costsAs 3 RX5 := C
  replace hl : lv_has ls 3 [(0, .ref (B + i)), (1, .ref (B + i2))] := hl
  obtain ⟨e0, e1, e2, e3, e4, e5⟩ := hR
  obtain ⟨f0, f1, f2, f3, f4, f5⟩ := hR2
  refine lv_aload_n C.x C.b dX5_costsAs_0 rfl (lv_at hl 0 rfl) ?_
  refine r_get ck5 flX5_40 C hS (by omega) e0 (by decide) rfl dX5_costsAs_1 ?_
  refine lv_aload_n C.x C.b dX5_costsAs_4 rfl (lv_at hl 1 rfl) ?_
  refine r_get ck5 flX5_40 C hS (by omega) f0 (by decide) rfl dX5_costsAs_5 ?_
  refine lv_icmp_eq (tgt := 13) C.x C.b dX5_costsAs_8 (by decide) (fun c_1 => ?_) (fun c_1 => ?_)
  · skip
    refine lv_iconst (v := 0) C.x C.b dX5_costsAs_13 (by decide) ?_
    refine lv_istore_n (lv' := [(2, .int 0), (0, .ref (B + i)), (1, .ref (B + i2))]) C.x C.b dX5_costsAs_14 rfl hl (by decide) rfl (fun ls hl => ?_)
    have lp_2 : ∀ (u_3 k_4 : Nat) (H : Heap) (locs : List Loc) (ls : Array Slot), k_4 + u_3 = 8 → (∀ q, q < k_4 → ct q = ct2 q ∧ ec q = ec2 q) → St D B s.heap N g H locs → lv_has ls 3 [(0, .ref (B + i)), (1, .ref (B + i2)), (2, .int (nI k_4))] → W p l e (rmOf 0 0 0 0) s m [.ref (B + i), .ref (B + i2)].toArray below meth c H locs 0 0 (MQ below (qI D B N (fun r g' => g = g' ∧ r = bz (sp = sp2 ∧ ∀ q, q < 8 → ct q = ct2 q ∧ ec q = ec2 q))) [.ref (B + i), .ref (B + i2)].toArray s 0 0 (fun q => B ≤ q)) (F0 m 15 ls []) := by
      intro u_3
      induction u_3 with
      | zero =>
        intro k_4 H locs ls hk_5 hq hS hl
        obtain rfl : 8 = k_4 := by omega
        refine lv_iload_n C.x C.b dX5_costsAs_15 rfl (lv_at hl 2 rfl) ?_
        refine lv_bipush (v := 8) C.x C.b dX5_costsAs_16 (by decide) ?_
        refine lv_icmp_ge (tgt := 59) C.x C.b dX5_costsAs_18 (by decide) (fun c_8 => ?_) (fun c_8 => absurd (by decide) c_8)
        refine lv_iconst (v := 1) C.x C.b dX5_costsAs_59 (by decide) ?_
        exact r_zret C hr hlocks hS (by decide) ⟨rfl, (bz_t ⟨c_1, hq⟩).symm⟩ dX5_costsAs_60
      | succ u_3 ih_6 =>
        intro k_4 H locs ls hk_5 hq hS hl
        refine lv_iload_n C.x C.b dX5_costsAs_15 rfl (lv_at hl 2 rfl) ?_
        refine lv_bipush (v := 8) C.x C.b dX5_costsAs_16 (by decide) ?_
        refine lv_icmp_ge (tgt := 59) C.x C.b dX5_costsAs_18 (by decide) (fun c_9 => absurd c_9 (nI_ge (a := k_4) (b := 8) (by omega) (by decide))) (fun c_9 => ?_)
        refine lv_aload_n C.x C.b dX5_costsAs_21 rfl (lv_at hl 0 rfl) ?_
        refine r_get ck5 flX5_21 C hS (by omega) e0 (by decide) rfl dX5_costsAs_22 ?_
        refine lv_iload_n C.x C.b dX5_costsAs_25 rfl (lv_at hl 2 rfl) ?_
        refine r_ialdN k_4 rfl (by omega) (by decide) C hS (by omega) e4 dX5_costsAs_26 ?_
        refine lv_aload_n C.x C.b dX5_costsAs_27 rfl (lv_at hl 1 rfl) ?_
        refine r_get ck5 flX5_21 C hS (by omega) f0 (by decide) rfl dX5_costsAs_28 ?_
        refine lv_iload_n C.x C.b dX5_costsAs_31 rfl (lv_at hl 2 rfl) ?_
        refine r_ialdN k_4 rfl (by omega) (by decide) C hS (by omega) f4 dX5_costsAs_32 ?_
        refine lv_icmp_ne (tgt := 51) C.x C.b dX5_costsAs_33 (by decide) (fun c_10 => ?_) (fun c_10 => ?_)
        · skip
          refine lv_iconst (v := 0) C.x C.b dX5_costsAs_51 (by decide) ?_
          exact r_zret C hr hlocks hS (by decide) ⟨rfl, (bz_f (fun q => c_10 (q.2 k_4 (by omega)).1)).symm⟩ dX5_costsAs_52
        · skip
          refine lv_aload_n C.x C.b dX5_costsAs_36 rfl (lv_at hl 0 rfl) ?_
          refine r_get ck5 flX5_24 C hS (by omega) e0 (by decide) rfl dX5_costsAs_37 ?_
          refine lv_iload_n C.x C.b dX5_costsAs_40 rfl (lv_at hl 2 rfl) ?_
          refine r_ialdN k_4 rfl (by omega) (by decide) C hS (by omega) e5 dX5_costsAs_41 ?_
          refine lv_aload_n C.x C.b dX5_costsAs_42 rfl (lv_at hl 1 rfl) ?_
          refine r_get ck5 flX5_24 C hS (by omega) f0 (by decide) rfl dX5_costsAs_43 ?_
          refine lv_iload_n C.x C.b dX5_costsAs_46 rfl (lv_at hl 2 rfl) ?_
          refine r_ialdN k_4 rfl (by omega) (by decide) C hS (by omega) f5 dX5_costsAs_47 ?_
          refine lv_icmp_eq (tgt := 53) C.x C.b dX5_costsAs_48 (by decide) (fun c_11 => ?_) (fun c_11 => ?_)
          · skip
            refine lv_iinc (v := nI (k_4 + 1)) (lv' := [(2, .int (nI (k_4 + 1))), (0, .ref (B + i)), (1, .ref (B + i2))]) C.x C.b dX5_costsAs_53 hl (k := 2) rfl (nI_1 k_4) (by decide) rfl (fun ls hl => ?_)
            refine lv_goto (tgt := 15) C.x C.b dX5_costsAs_56 (by decide) ?_
            exact ih_6 (k_4 + 1) _ _ _ (by omega) (lt_s hq ⟨c_10, c_11⟩) hS (lv_sub hl [1, 2, 0] rfl)
          · skip
            refine lv_iconst (v := 0) C.x C.b dX5_costsAs_51 (by decide) ?_
            exact r_zret C hr hlocks hS (by decide) ⟨rfl, (bz_f (fun q => c_11 (q.2 k_4 (by omega)).2)).symm⟩ dX5_costsAs_52
    exact lp_2 8 0 _ _ _ (by omega) (fun _ h => absurd h (Nat.not_lt_zero _)) hS (lv_sub hl [1, 2, 0] rfl)
  · skip
    refine lv_iconst (v := 0) C.x C.b dX5_costsAs_11 (by decide) ?_
    exact r_zret C hr hlocks hS (by decide) ⟨rfl, (bz_f (fun q => c_1 q.1)).symm⟩ dX5_costsAs_12
set_option maxHeartbeats 4000000 in
set_option maxRecDepth 100000 in
/-- Run.alwaysSeenAs -/
theorem c_X5_alwaysSeenAs (l : Launch) (D : va_G) (t : Gx) (B N : Nat) (g : Nat → va_E) (i : Nat) (ep ew en ct ec : Nat → Int32) (len : Nat) (st vi an sp : Int32) (i2 : Nat) (ep2 ew2 en2 ct2 ec2 : Nat → Int32) (len2 : Nat) (st2 vi2 an2 sp2 : Int32) (x : Int32) (hi : i + 5 < N) (hR : isRun t B g i ep ew en ct ec len st vi an sp) (hi2 : i2 + 5 < N) (hR2 : isRun t B g i2 ep2 ew2 en2 ct2 ec2 len2 st2 vi2 an2 sp2) (hn : len ≤ 40) (hn2 : len2 ≤ 40) : Ci l D t B N yX5_alwaysSeenAs cX5_alwaysSeenAs 4 (some .boolean) 1 22 g [.ref (B + i), .ref (B + i2), .int x] (fun r g' => g = g' ∧ r = bz (alike x ep ew en ct ec len sp ep2 ew2 en2 ct2 ec2 len2 sp2)) := by
  refine Ci.start (by decide) (Nat.le_of_ble_eq_true rfl) ?_
  intro p e s m below meth c ls C hr hlocks hS hl
  replace C : Cx D t p s m [.ref (B + i), .ref (B + i2), .int x].toArray c cX5_alwaysSeenAs 4 RX5 := C
  replace hl : lv_has ls 4 [(0, .ref (B + i)), (1, .ref (B + i2)), (2, .int x)] := hl
  obtain ⟨e0, e1, e2, e3, e4, e5⟩ := hR
  obtain ⟨f0, f1, f2, f3, f4, f5⟩ := hR2
  refine lv_iload_n C.x C.b dX5_alwaysSeenAs_0 rfl (lv_at hl 2 rfl) ?_
  refine lv_iconst (v := 1) C.x C.b dX5_alwaysSeenAs_1 (by decide) ?_
  refine lv_iand C.x C.b dX5_alwaysSeenAs_2 ?_
  refine lv_if_eq (tgt := 16) C.x C.b dX5_alwaysSeenAs_3 (by decide) (fun c_1 => ?_) (fun c_1 => ?_)
  · skip
    refine lv_aload_n C.x C.b dX5_alwaysSeenAs_16 rfl (lv_at hl 0 rfl) ?_
    refine r_get ck5 flX5_27 C hS (by omega) e0 (by decide) rfl dX5_alwaysSeenAs_17 ?_
    refine lv_aload_n C.x C.b dX5_alwaysSeenAs_20 rfl (lv_at hl 1 rfl) ?_
    refine r_get ck5 flX5_27 C hS (by omega) f0 (by decide) rfl dX5_alwaysSeenAs_21 ?_
    refine lv_icmp_eq (tgt := 29) C.x C.b dX5_alwaysSeenAs_24 (by decide) (fun c_2 => ?_) (fun c_2 => ?_)
    · skip
      have hlen : len = len2 := (nI_eq (by omega) (by omega)).mp c_2
      refine lv_iconst (v := 0) C.x C.b dX5_alwaysSeenAs_29 (by decide) ?_
      refine lv_istore_n (lv' := [(3, .int 0), (0, .ref (B + i)), (1, .ref (B + i2)), (2, .int x)]) C.x C.b dX5_alwaysSeenAs_30 rfl hl (by decide) rfl (fun ls hl => ?_)
      have lp_3 : ∀ (u_4 k_5 : Nat) (H : Heap) (locs : List Loc) (ls : Array Slot), k_5 + u_4 = len → (∀ q, q < k_5 → ep q = ep2 q ∧ ew q = ew2 q ∧ en q = en2 q) → St D B s.heap N g H locs → lv_has ls 4 [(0, .ref (B + i)), (1, .ref (B + i2)), (2, .int x), (3, .int (nI k_5))] → W p l e (rmOf 1 22 0 0) s m [.ref (B + i), .ref (B + i2), .int x].toArray below meth c H locs 0 0 (MQ below (qI D B N (fun r g' => g = g' ∧ r = bz (alike x ep ew en ct ec len sp ep2 ew2 en2 ct2 ec2 len2 sp2))) [.ref (B + i), .ref (B + i2), .int x].toArray s 0 0 (fun q => B ≤ q)) (F0 m 31 ls []) := by
        intro u_4
        induction u_4 with
        | zero =>
          intro k_5 H locs ls hk_6 hq hS hl
          obtain rfl : len = k_5 := by omega
          refine lv_iload_n C.x C.b dX5_alwaysSeenAs_31 rfl (lv_at hl 3 rfl) ?_
          refine lv_aload_n C.x C.b dX5_alwaysSeenAs_32 rfl (lv_at hl 0 rfl) ?_
          refine r_get ck5 flX5_27 C hS (by omega) e0 (by decide) rfl dX5_alwaysSeenAs_33 ?_
          refine lv_icmp_ge (tgt := 92) C.x C.b dX5_alwaysSeenAs_36 (by decide) (fun c_9 => ?_) (fun c_9 => absurd (nI_le (Nat.le_refl _) (by omega)) c_9)
          refine lv_iconst (v := 1) C.x C.b dX5_alwaysSeenAs_92 (by decide) ?_
          exact r_zret C hr hlocks hS (by decide) ⟨rfl, (bz_t ⟨(fun q => absurd c_1 q), hlen, hq⟩).symm⟩ dX5_alwaysSeenAs_93
        | succ u_4 ih_7 =>
          intro k_5 H locs ls hk_6 hq hS hl
          refine lv_iload_n C.x C.b dX5_alwaysSeenAs_31 rfl (lv_at hl 3 rfl) ?_
          refine lv_aload_n C.x C.b dX5_alwaysSeenAs_32 rfl (lv_at hl 0 rfl) ?_
          refine r_get ck5 flX5_27 C hS (by omega) e0 (by decide) rfl dX5_alwaysSeenAs_33 ?_
          refine lv_icmp_ge (tgt := 92) C.x C.b dX5_alwaysSeenAs_36 (by decide) (fun c_10 => absurd c_10 (nI_ge (a := k_5) (b := len) (by omega) (by omega))) (fun c_10 => ?_)
          refine lv_aload_n C.x C.b dX5_alwaysSeenAs_39 rfl (lv_at hl 0 rfl) ?_
          refine r_get ck5 flX5_9 C hS (by omega) e0 (by decide) rfl dX5_alwaysSeenAs_40 ?_
          refine lv_iload_n C.x C.b dX5_alwaysSeenAs_43 rfl (lv_at hl 3 rfl) ?_
          refine r_ialdN k_5 rfl (by omega) (by decide) C hS (by omega) e1 dX5_alwaysSeenAs_44 ?_
          refine lv_aload_n C.x C.b dX5_alwaysSeenAs_45 rfl (lv_at hl 1 rfl) ?_
          refine r_get ck5 flX5_9 C hS (by omega) f0 (by decide) rfl dX5_alwaysSeenAs_46 ?_
          refine lv_iload_n C.x C.b dX5_alwaysSeenAs_49 rfl (lv_at hl 3 rfl) ?_
          refine r_ialdN k_5 rfl (by omega) (by decide) C hS (by omega) f1 dX5_alwaysSeenAs_50 ?_
          refine lv_icmp_ne (tgt := 84) C.x C.b dX5_alwaysSeenAs_51 (by decide) (fun c_11 => ?_) (fun c_11 => ?_)
          · skip
            refine lv_iconst (v := 0) C.x C.b dX5_alwaysSeenAs_84 (by decide) ?_
            exact r_zret C hr hlocks hS (by decide) ⟨rfl, (bz_f (fun q => c_11 (q.2.2 k_5 (by omega)).1)).symm⟩ dX5_alwaysSeenAs_85
          · skip
            refine lv_aload_n C.x C.b dX5_alwaysSeenAs_54 rfl (lv_at hl 0 rfl) ?_
            refine r_get ck5 flX5_15 C hS (by omega) e0 (by decide) rfl dX5_alwaysSeenAs_55 ?_
            refine lv_iload_n C.x C.b dX5_alwaysSeenAs_58 rfl (lv_at hl 3 rfl) ?_
            refine r_ialdN k_5 rfl (by omega) (by decide) C hS (by omega) e2 dX5_alwaysSeenAs_59 ?_
            refine lv_aload_n C.x C.b dX5_alwaysSeenAs_60 rfl (lv_at hl 1 rfl) ?_
            refine r_get ck5 flX5_15 C hS (by omega) f0 (by decide) rfl dX5_alwaysSeenAs_61 ?_
            refine lv_iload_n C.x C.b dX5_alwaysSeenAs_64 rfl (lv_at hl 3 rfl) ?_
            refine r_ialdN k_5 rfl (by omega) (by decide) C hS (by omega) f2 dX5_alwaysSeenAs_65 ?_
            refine lv_icmp_ne (tgt := 84) C.x C.b dX5_alwaysSeenAs_66 (by decide) (fun c_12 => ?_) (fun c_12 => ?_)
            · skip
              refine lv_iconst (v := 0) C.x C.b dX5_alwaysSeenAs_84 (by decide) ?_
              exact r_zret C hr hlocks hS (by decide) ⟨rfl, (bz_f (fun q => c_12 (q.2.2 k_5 (by omega)).2.1)).symm⟩ dX5_alwaysSeenAs_85
            · skip
              refine lv_aload_n C.x C.b dX5_alwaysSeenAs_69 rfl (lv_at hl 0 rfl) ?_
              refine r_get ck5 flX5_18 C hS (by omega) e0 (by decide) rfl dX5_alwaysSeenAs_70 ?_
              refine lv_iload_n C.x C.b dX5_alwaysSeenAs_73 rfl (lv_at hl 3 rfl) ?_
              refine r_ialdN k_5 rfl (by omega) (by decide) C hS (by omega) e3 dX5_alwaysSeenAs_74 ?_
              refine lv_aload_n C.x C.b dX5_alwaysSeenAs_75 rfl (lv_at hl 1 rfl) ?_
              refine r_get ck5 flX5_18 C hS (by omega) f0 (by decide) rfl dX5_alwaysSeenAs_76 ?_
              refine lv_iload_n C.x C.b dX5_alwaysSeenAs_79 rfl (lv_at hl 3 rfl) ?_
              refine r_ialdN k_5 rfl (by omega) (by decide) C hS (by omega) f3 dX5_alwaysSeenAs_80 ?_
              refine lv_icmp_eq (tgt := 86) C.x C.b dX5_alwaysSeenAs_81 (by decide) (fun c_13 => ?_) (fun c_13 => ?_)
              · skip
                refine lv_iinc (v := nI (k_5 + 1)) (lv' := [(3, .int (nI (k_5 + 1))), (0, .ref (B + i)), (1, .ref (B + i2)), (2, .int x)]) C.x C.b dX5_alwaysSeenAs_86 hl (k := 3) rfl (nI_1 k_5) (by decide) rfl (fun ls hl => ?_)
                refine lv_goto (tgt := 31) C.x C.b dX5_alwaysSeenAs_89 (by decide) ?_
                exact ih_7 (k_5 + 1) _ _ _ (by omega) (lt_s hq ⟨c_11, c_12, c_13⟩) hS (lv_sub hl [1, 2, 3, 0] rfl)
              · skip
                refine lv_iconst (v := 0) C.x C.b dX5_alwaysSeenAs_84 (by decide) ?_
                exact r_zret C hr hlocks hS (by decide) ⟨rfl, (bz_f (fun q => c_13 (q.2.2 k_5 (by omega)).2.2)).symm⟩ dX5_alwaysSeenAs_85
      exact lp_3 len 0 _ _ _ (by omega) (fun _ h => absurd h (Nat.not_lt_zero _)) hS (lv_sub hl [1, 2, 3, 0] rfl)
    · skip
      refine lv_iconst (v := 0) C.x C.b dX5_alwaysSeenAs_27 (by decide) ?_
      exact r_zret C hr hlocks hS (by decide) ⟨rfl, (bz_f (fun q => c_2 (by rw [q.2.1]))).symm⟩ dX5_alwaysSeenAs_28
  · skip
    refine lv_aload_n C.x C.b dX5_alwaysSeenAs_6 rfl (lv_at hl 0 rfl) ?_
    refine lv_aload_n C.x C.b dX5_alwaysSeenAs_7 rfl (lv_at hl 1 rfl) ?_
    refine r_callV (b := i) (As := [.ref (B + i2)]) (rest := []) (c_X5_costsAs l D t B N g i _ _ _ _ _ _ _ _ _ _ i2 _ _ _ _ _ _ _ _ _ _ (by omega) ⟨e0, e1, e2, e3, e4, e5⟩ (by omega) ⟨f0, f1, f2, f3, f4, f5⟩) mf_yX5_costsAs mlX5_44 im_yX5_costsAs se_yX5_costsAs (by decide) C hS (by omega) e0 (show vwCl[5]? = some _ from rfl) rfl rfl hl.1 rfl (Nat.le_of_ble_eq_true rfl) dX5_alwaysSeenAs_8 ⟨Nat.zero_le _, Nat.zero_le _⟩ (fun r_16 g_14 H locs w_15 hS => ?_)
    obtain ⟨rfl, er_16⟩ := w_15
    by_cases b_17 : (sp = sp2 ∧ ∀ q, q < 8 → ct q = ct2 q ∧ ec q = ec2 q)
    · rw [bz_t b_17] at er_16
      subst er_16
      refine lv_if_ne (tgt := 16) C.x C.b dX5_alwaysSeenAs_11 (by decide) (fun c_18 => ?_) (fun c_18 => absurd c_18 (by decide))
      refine lv_aload_n C.x C.b dX5_alwaysSeenAs_16 rfl (lv_at hl 0 rfl) ?_
      refine r_get ck5 flX5_27 C hS (by omega) e0 (by decide) rfl dX5_alwaysSeenAs_17 ?_
      refine lv_aload_n C.x C.b dX5_alwaysSeenAs_20 rfl (lv_at hl 1 rfl) ?_
      refine r_get ck5 flX5_27 C hS (by omega) f0 (by decide) rfl dX5_alwaysSeenAs_21 ?_
      refine lv_icmp_eq (tgt := 29) C.x C.b dX5_alwaysSeenAs_24 (by decide) (fun c_19 => ?_) (fun c_19 => ?_)
      · skip
        have hlen : len = len2 := (nI_eq (by omega) (by omega)).mp c_19
        refine lv_iconst (v := 0) C.x C.b dX5_alwaysSeenAs_29 (by decide) ?_
        refine lv_istore_n (lv' := [(3, .int 0), (0, .ref (B + i)), (1, .ref (B + i2)), (2, .int x)]) C.x C.b dX5_alwaysSeenAs_30 rfl hl (by decide) rfl (fun ls hl => ?_)
        have lp_20 : ∀ (u_21 k_22 : Nat) (H : Heap) (locs : List Loc) (ls : Array Slot), k_22 + u_21 = len → (∀ q, q < k_22 → ep q = ep2 q ∧ ew q = ew2 q ∧ en q = en2 q) → St D B s.heap N g H locs → lv_has ls 4 [(0, .ref (B + i)), (1, .ref (B + i2)), (2, .int x), (3, .int (nI k_22))] → W p l e (rmOf 1 22 0 0) s m [.ref (B + i), .ref (B + i2), .int x].toArray below meth c H locs 0 0 (MQ below (qI D B N (fun r g' => g = g' ∧ r = bz (alike x ep ew en ct ec len sp ep2 ew2 en2 ct2 ec2 len2 sp2))) [.ref (B + i), .ref (B + i2), .int x].toArray s 0 0 (fun q => B ≤ q)) (F0 m 31 ls []) := by
          intro u_21
          induction u_21 with
          | zero =>
            intro k_22 H locs ls hk_23 hq hS hl
            obtain rfl : len = k_22 := by omega
            refine lv_iload_n C.x C.b dX5_alwaysSeenAs_31 rfl (lv_at hl 3 rfl) ?_
            refine lv_aload_n C.x C.b dX5_alwaysSeenAs_32 rfl (lv_at hl 0 rfl) ?_
            refine r_get ck5 flX5_27 C hS (by omega) e0 (by decide) rfl dX5_alwaysSeenAs_33 ?_
            refine lv_icmp_ge (tgt := 92) C.x C.b dX5_alwaysSeenAs_36 (by decide) (fun c_26 => ?_) (fun c_26 => absurd (nI_le (Nat.le_refl _) (by omega)) c_26)
            refine lv_iconst (v := 1) C.x C.b dX5_alwaysSeenAs_92 (by decide) ?_
            exact r_zret C hr hlocks hS (by decide) ⟨rfl, (bz_t ⟨(fun _ => b_17), hlen, hq⟩).symm⟩ dX5_alwaysSeenAs_93
          | succ u_21 ih_24 =>
            intro k_22 H locs ls hk_23 hq hS hl
            refine lv_iload_n C.x C.b dX5_alwaysSeenAs_31 rfl (lv_at hl 3 rfl) ?_
            refine lv_aload_n C.x C.b dX5_alwaysSeenAs_32 rfl (lv_at hl 0 rfl) ?_
            refine r_get ck5 flX5_27 C hS (by omega) e0 (by decide) rfl dX5_alwaysSeenAs_33 ?_
            refine lv_icmp_ge (tgt := 92) C.x C.b dX5_alwaysSeenAs_36 (by decide) (fun c_27 => absurd c_27 (nI_ge (a := k_22) (b := len) (by omega) (by omega))) (fun c_27 => ?_)
            refine lv_aload_n C.x C.b dX5_alwaysSeenAs_39 rfl (lv_at hl 0 rfl) ?_
            refine r_get ck5 flX5_9 C hS (by omega) e0 (by decide) rfl dX5_alwaysSeenAs_40 ?_
            refine lv_iload_n C.x C.b dX5_alwaysSeenAs_43 rfl (lv_at hl 3 rfl) ?_
            refine r_ialdN k_22 rfl (by omega) (by decide) C hS (by omega) e1 dX5_alwaysSeenAs_44 ?_
            refine lv_aload_n C.x C.b dX5_alwaysSeenAs_45 rfl (lv_at hl 1 rfl) ?_
            refine r_get ck5 flX5_9 C hS (by omega) f0 (by decide) rfl dX5_alwaysSeenAs_46 ?_
            refine lv_iload_n C.x C.b dX5_alwaysSeenAs_49 rfl (lv_at hl 3 rfl) ?_
            refine r_ialdN k_22 rfl (by omega) (by decide) C hS (by omega) f1 dX5_alwaysSeenAs_50 ?_
            refine lv_icmp_ne (tgt := 84) C.x C.b dX5_alwaysSeenAs_51 (by decide) (fun c_28 => ?_) (fun c_28 => ?_)
            · skip
              refine lv_iconst (v := 0) C.x C.b dX5_alwaysSeenAs_84 (by decide) ?_
              exact r_zret C hr hlocks hS (by decide) ⟨rfl, (bz_f (fun q => c_28 (q.2.2 k_22 (by omega)).1)).symm⟩ dX5_alwaysSeenAs_85
            · skip
              refine lv_aload_n C.x C.b dX5_alwaysSeenAs_54 rfl (lv_at hl 0 rfl) ?_
              refine r_get ck5 flX5_15 C hS (by omega) e0 (by decide) rfl dX5_alwaysSeenAs_55 ?_
              refine lv_iload_n C.x C.b dX5_alwaysSeenAs_58 rfl (lv_at hl 3 rfl) ?_
              refine r_ialdN k_22 rfl (by omega) (by decide) C hS (by omega) e2 dX5_alwaysSeenAs_59 ?_
              refine lv_aload_n C.x C.b dX5_alwaysSeenAs_60 rfl (lv_at hl 1 rfl) ?_
              refine r_get ck5 flX5_15 C hS (by omega) f0 (by decide) rfl dX5_alwaysSeenAs_61 ?_
              refine lv_iload_n C.x C.b dX5_alwaysSeenAs_64 rfl (lv_at hl 3 rfl) ?_
              refine r_ialdN k_22 rfl (by omega) (by decide) C hS (by omega) f2 dX5_alwaysSeenAs_65 ?_
              refine lv_icmp_ne (tgt := 84) C.x C.b dX5_alwaysSeenAs_66 (by decide) (fun c_29 => ?_) (fun c_29 => ?_)
              · skip
                refine lv_iconst (v := 0) C.x C.b dX5_alwaysSeenAs_84 (by decide) ?_
                exact r_zret C hr hlocks hS (by decide) ⟨rfl, (bz_f (fun q => c_29 (q.2.2 k_22 (by omega)).2.1)).symm⟩ dX5_alwaysSeenAs_85
              · skip
                refine lv_aload_n C.x C.b dX5_alwaysSeenAs_69 rfl (lv_at hl 0 rfl) ?_
                refine r_get ck5 flX5_18 C hS (by omega) e0 (by decide) rfl dX5_alwaysSeenAs_70 ?_
                refine lv_iload_n C.x C.b dX5_alwaysSeenAs_73 rfl (lv_at hl 3 rfl) ?_
                refine r_ialdN k_22 rfl (by omega) (by decide) C hS (by omega) e3 dX5_alwaysSeenAs_74 ?_
                refine lv_aload_n C.x C.b dX5_alwaysSeenAs_75 rfl (lv_at hl 1 rfl) ?_
                refine r_get ck5 flX5_18 C hS (by omega) f0 (by decide) rfl dX5_alwaysSeenAs_76 ?_
                refine lv_iload_n C.x C.b dX5_alwaysSeenAs_79 rfl (lv_at hl 3 rfl) ?_
                refine r_ialdN k_22 rfl (by omega) (by decide) C hS (by omega) f3 dX5_alwaysSeenAs_80 ?_
                refine lv_icmp_eq (tgt := 86) C.x C.b dX5_alwaysSeenAs_81 (by decide) (fun c_30 => ?_) (fun c_30 => ?_)
                · skip
                  refine lv_iinc (v := nI (k_22 + 1)) (lv' := [(3, .int (nI (k_22 + 1))), (0, .ref (B + i)), (1, .ref (B + i2)), (2, .int x)]) C.x C.b dX5_alwaysSeenAs_86 hl (k := 3) rfl (nI_1 k_22) (by decide) rfl (fun ls hl => ?_)
                  refine lv_goto (tgt := 31) C.x C.b dX5_alwaysSeenAs_89 (by decide) ?_
                  exact ih_24 (k_22 + 1) _ _ _ (by omega) (lt_s hq ⟨c_28, c_29, c_30⟩) hS (lv_sub hl [1, 2, 3, 0] rfl)
                · skip
                  refine lv_iconst (v := 0) C.x C.b dX5_alwaysSeenAs_84 (by decide) ?_
                  exact r_zret C hr hlocks hS (by decide) ⟨rfl, (bz_f (fun q => c_30 (q.2.2 k_22 (by omega)).2.2)).symm⟩ dX5_alwaysSeenAs_85
        exact lp_20 len 0 _ _ _ (by omega) (fun _ h => absurd h (Nat.not_lt_zero _)) hS (lv_sub hl [1, 2, 3, 0] rfl)
      · skip
        refine lv_iconst (v := 0) C.x C.b dX5_alwaysSeenAs_27 (by decide) ?_
        exact r_zret C hr hlocks hS (by decide) ⟨rfl, (bz_f (fun q => c_19 (by rw [q.2.1]))).symm⟩ dX5_alwaysSeenAs_28
    · rw [bz_f b_17] at er_16
      subst er_16
      refine lv_if_ne (tgt := 16) C.x C.b dX5_alwaysSeenAs_11 (by decide) (fun c_31 => absurd (by decide) c_31) (fun c_31 => ?_)
      refine lv_iconst (v := 0) C.x C.b dX5_alwaysSeenAs_14 (by decide) ?_
      exact r_zret C hr hlocks hS (by decide) ⟨rfl, (bz_f (fun q => b_17 (q.1 c_1))).symm⟩ dX5_alwaysSeenAs_15
