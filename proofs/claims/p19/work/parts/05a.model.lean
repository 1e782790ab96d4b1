/-- the model's object -/
def mObj (B : Nat) (td : Int32) (n : Nat) (ey wi ev po ps : Int32) : va_E := .inr (8, [.int td, .int (nI n), .ref (B + 221), .ref (B + 222), .ref (B + 223), .int ey, .int wi, .int ev, .ref (B + 224), .ref (B + 225), .ref (B + 226), .ref (B + 227), .ref (B + 228), .ref (B + 229), .ref (B + 230), .ref (B + 231), .ref (B + 232), .ref (B + 233), .ref (B + 234), .ref (B + 235), .ref (B + 236), .int po, .int ps])
/-- the model's state, beside the rows of its runs -/
def Mco (t : Gx) (B : Nat) (g : Nat → va_E) (td : Int32) (n : Nat) (ey wi ev po ps : Int32) (o pr w : Nat → Int32) : Prop := g 220 = mObj B td n ey wi ev po ps ∧ g 221 = .inl (t.1, 10, .inl o) ∧ g 222 = .inl (t.1, 10, .inl pr) ∧ g 223 = .inl (t.1, 8, .inl w)
/-- f with ones in its first k places -/
def on1 (f : Nat → Int32) : Nat → Nat → Int32
  | 0 => f
  | k + 1 => upd (on1 f k) k 1
def hevM (ev x : Int32) : Int32 := if ((ev >>> (x &&& 31)) &&& 1) = 1 then 1 else 0
theorem le7 {x : Int32} (h : ¬ nI 8 ≤ x) : x ≤ 7 := by
  have h1 := Int32.not_le.mp h
  have e : nI 8 = 8 := rfl
  rw [e] at h1
  have h2 : x.toInt < 8 := Int32.lt_iff_toInt_lt.mp h1
  exact Int32.le_iff_toInt_le.mpr (by show x.toInt ≤ 7; omega)
theorem nle7 {x : Int32} (h : x ≤ 7) : ¬ nI 8 ≤ x := fun q => by
  have h1 : x.toInt ≤ 7 := Int32.le_iff_toInt_le.mp h
  have h2 : 8 ≤ x.toInt := Int32.le_iff_toInt_le.mp (show (8 : Int32) ≤ x from q)
  omega
theorem inv10 {x : Int32} {n : Nat} (h : inP n x) (hn : n ≤ 8) : vp_in x 10 := by
  obtain ⟨j, hj, rfl⟩ := inP_nI h (by omega)
  exact vp_in_nI (by omega) (by decide)
def lookM (o pr w : Nat → Int32) (n : Nat) (ey wi ev x : Int32) : Int32 := if x = 0 then nI n else if x = 1 then ey else if x = 2 then wi else if x = 3 then ev else if ¬ x < 10 ∧ inP n (x - 10) then o (x - 10).toNatClampNeg else if ¬ x < 30 ∧ inP n (x - 30) then pr (x - 30).toNatClampNeg else if ¬ x < 50 ∧ ¬ 58 ≤ x then w (x - 50).toNatClampNeg else -1001
set_option maxHeartbeats 1000000 in
set_option maxRecDepth 100000 in
theorem c_X8_isOrder (l : Launch) (D : va_G) (t : Gx) (B N : Nat) (g : Nat → va_E) (x : Int32)  : Ci l D t B N yX8_isOrder cX8_isOrder 2 (some .boolean) 0 0 g [.ref (B + 220), .int x] (fun r g' => g = g' ∧ r = bz (inP 40960 x)) := by
  refine Ci.start (by decide) (Nat.le_of_ble_eq_true rfl) ?_
  intro p e s m below meth c ls C hr hlocks hS hl
  replace C : Cx D t p s m [.ref (B + 220), .int x].toArray c cX8_isOrder 2 RX8 := C
  replace hl : lv_has ls 2 [(0, .ref (B + 220)), (1, .int x)] := hl
  refine lv_iload_n C.x C.b dX8_isOrder_0 rfl (lv_at hl 1 rfl) ?_
  refine lv_if_lt (tgt := 14) C.x C.b dX8_isOrder_1 (by decide) (fun c_1 => ?_) (fun c_1 => ?_)
  · skip
    refine lv_iconst (v := 0) C.x C.b dX8_isOrder_14 (by decide) ?_
    exact r_zret C hr hlocks hS (by decide) ⟨rfl, (bz_f (fun q => q.1 c_1)).symm⟩ dX8_isOrder_15
  · skip
    refine lv_iload_n C.x C.b dX8_isOrder_4 rfl (lv_at hl 1 rfl) ?_
    refine lv_ldc (v := 40960) C.x C.b C.o (C.w kkX8_69) dX8_isOrder_5 ?_
    refine lv_icmp_ge (tgt := 14) C.x C.b dX8_isOrder_7 (by decide) (fun c_2 => ?_) (fun c_2 => ?_)
    · skip
      refine lv_iconst (v := 0) C.x C.b dX8_isOrder_14 (by decide) ?_
      exact r_zret C hr hlocks hS (by decide) ⟨rfl, (bz_f (fun q => q.2 c_2)).symm⟩ dX8_isOrder_15
    · skip
      refine lv_iconst (v := 1) C.x C.b dX8_isOrder_10 (by decide) ?_
      refine lv_goto (tgt := 15) C.x C.b dX8_isOrder_11 (by decide) ?_
      exact r_zret C hr hlocks hS (by decide) ⟨rfl, (bz_t ⟨c_1, c_2⟩).symm⟩ dX8_isOrder_15
set_option maxHeartbeats 1000000 in
set_option maxRecDepth 100000 in
theorem c_X8_isInput (l : Launch) (D : va_G) (t : Gx) (B N : Nat) (g : Nat → va_E) (x : Int32)  : Ci l D t B N yX8_isInput cX8_isInput 2 (some .boolean) 0 0 g [.ref (B + 220), .int x] (fun r g' => g = g' ∧ r = bz (inP 16 x)) := by
  refine Ci.start (by decide) (Nat.le_of_ble_eq_true rfl) ?_
  intro p e s m below meth c ls C hr hlocks hS hl
  replace C : Cx D t p s m [.ref (B + 220), .int x].toArray c cX8_isInput 2 RX8 := C
  replace hl : lv_has ls 2 [(0, .ref (B + 220)), (1, .int x)] := hl
  refine lv_iload_n C.x C.b dX8_isInput_0 rfl (lv_at hl 1 rfl) ?_
  refine lv_if_lt (tgt := 14) C.x C.b dX8_isInput_1 (by decide) (fun c_1 => ?_) (fun c_1 => ?_)
  · skip
    refine lv_iconst (v := 0) C.x C.b dX8_isInput_14 (by decide) ?_
    exact r_zret C hr hlocks hS (by decide) ⟨rfl, (bz_f (fun q => q.1 c_1)).symm⟩ dX8_isInput_15
  · skip
    refine lv_iload_n C.x C.b dX8_isInput_4 rfl (lv_at hl 1 rfl) ?_
    refine lv_bipush (v := 16) C.x C.b dX8_isInput_5 (by decide) ?_
    refine lv_icmp_ge (tgt := 14) C.x C.b dX8_isInput_7 (by decide) (fun c_2 => ?_) (fun c_2 => ?_)
    · skip
      refine lv_iconst (v := 0) C.x C.b dX8_isInput_14 (by decide) ?_
      exact r_zret C hr hlocks hS (by decide) ⟨rfl, (bz_f (fun q => q.2 c_2)).symm⟩ dX8_isInput_15
    · skip
      refine lv_iconst (v := 1) C.x C.b dX8_isInput_10 (by decide) ?_
      refine lv_goto (tgt := 15) C.x C.b dX8_isInput_11 (by decide) ?_
      exact r_zret C hr hlocks hS (by decide) ⟨rfl, (bz_t ⟨c_1, c_2⟩).symm⟩ dX8_isInput_15
set_option maxHeartbeats 1000000 in
set_option maxRecDepth 100000 in
theorem c_X8_isPlace (l : Launch) (D : va_G) (t : Gx) (B N : Nat) (g : Nat → va_E) (td : Int32) (n : Nat) (ey wi ev po ps : Int32) (x : Int32) (hN : 236 < N) (m220 : g 220 = mObj B td n ey wi ev po ps) : Ci l D t B N yX8_isPlace cX8_isPlace 2 (some .boolean) 0 0 g [.ref (B + 220), .int x] (fun r g' => g = g' ∧ r = bz (inP n x)) := by
  refine Ci.start (by decide) (Nat.le_of_ble_eq_true rfl) ?_
  intro p e s m below meth c ls C hr hlocks hS hl
  replace C : Cx D t p s m [.ref (B + 220), .int x].toArray c cX8_isPlace 2 RX8 := C
  replace hl : lv_has ls 2 [(0, .ref (B + 220)), (1, .int x)] := hl
  replace m220 : g 220 = .inr (8, [.int td, .int (nI n), .ref (B + 221), .ref (B + 222), .ref (B + 223), .int ey, .int wi, .int ev, .ref (B + 224), .ref (B + 225), .ref (B + 226), .ref (B + 227), .ref (B + 228), .ref (B + 229), .ref (B + 230), .ref (B + 231), .ref (B + 232), .ref (B + 233), .ref (B + 234), .ref (B + 235), .ref (B + 236), .int po, .int ps]) := m220
  refine lv_iload_n C.x C.b dX8_isPlace_0 rfl (lv_at hl 1 rfl) ?_
  refine lv_if_lt (tgt := 16) C.x C.b dX8_isPlace_1 (by decide) (fun c_1 => ?_) (fun c_1 => ?_)
  · skip
    refine lv_iconst (v := 0) C.x C.b dX8_isPlace_16 (by decide) ?_
    exact r_zret C hr hlocks hS (by decide) ⟨rfl, (bz_f (fun q => q.1 c_1)).symm⟩ dX8_isPlace_17
  · skip
    refine lv_iload_n C.x C.b dX8_isPlace_4 rfl (lv_at hl 1 rfl) ?_
    refine lv_aload_n C.x C.b dX8_isPlace_5 rfl (lv_at hl 0 rfl) ?_
    refine r_get ck8 flX8_70 C hS (by omega) m220 (by decide) rfl dX8_isPlace_6 ?_
    refine lv_icmp_ge (tgt := 16) C.x C.b dX8_isPlace_9 (by decide) (fun c_2 => ?_) (fun c_2 => ?_)
    · skip
      refine lv_iconst (v := 0) C.x C.b dX8_isPlace_16 (by decide) ?_
      exact r_zret C hr hlocks hS (by decide) ⟨rfl, (bz_f (fun q => q.2 c_2)).symm⟩ dX8_isPlace_17
    · skip
      refine lv_iconst (v := 1) C.x C.b dX8_isPlace_12 (by decide) ?_
      refine lv_goto (tgt := 17) C.x C.b dX8_isPlace_13 (by decide) ?_
      exact r_zret C hr hlocks hS (by decide) ⟨rfl, (bz_t ⟨c_1, c_2⟩).symm⟩ dX8_isPlace_17
set_option maxHeartbeats 1000000 in
set_option maxRecDepth 100000 in
theorem c_X8_order (l : Launch) (D : va_G) (t : Gx) (B N : Nat) (g : Nat → va_E) (td : Int32) (n : Nat) (ey wi ev po ps : Int32) (o : Nat → Int32) (pr : Nat → Int32) (w : Nat → Int32) (x : Int32) (hN : 236 < N) (m220 : g 220 = mObj B td n ey wi ev po ps) (m221 : g 221 = .inl (t.1, 10, .inl o)) (m222 : g 222 = .inl (t.1, 10, .inl pr)) (m223 : g 223 = .inl (t.1, 8, .inl w)) (hn : n ≤ 8) : Ci l D t B N yX8_order cX8_order 2 (some .int) 1 21 g [.ref (B + 220), .int x] (fun r g' => (inP 40960 x ∧ n < 8 ∧ r = nI n ∧ Mco t B g' 0 (n + 1) ey wi ev po ps (upd o n x) pr w ∧ (∀ j, (j < 220 ∨ 223 < j) → g' j = g j)) ∨ (¬ (inP 40960 x ∧ n < 8) ∧ r = -1 ∧ Mco t B g' 0 n ey wi ev po ps o pr w ∧ (∀ j, (j < 220 ∨ 223 < j) → g' j = g j))) := by
  refine Ci.start (by decide) (Nat.le_of_ble_eq_true rfl) ?_
  intro p e s m below meth c ls C hr hlocks hS hl
  replace C : Cx D t p s m [.ref (B + 220), .int x].toArray c cX8_order 2 RX8 := C
  replace hl : lv_has ls 2 [(0, .ref (B + 220)), (1, .int x)] := hl
  replace m220 : g 220 = .inr (8, [.int td, .int (nI n), .ref (B + 221), .ref (B + 222), .ref (B + 223), .int ey, .int wi, .int ev, .ref (B + 224), .ref (B + 225), .ref (B + 226), .ref (B + 227), .ref (B + 228), .ref (B + 229), .ref (B + 230), .ref (B + 231), .ref (B + 232), .ref (B + 233), .ref (B + 234), .ref (B + 235), .ref (B + 236), .int po, .int ps]) := m220
  refine lv_aload_n C.x C.b dX8_order_0 rfl (lv_at hl 0 rfl) ?_
  refine lv_iconst (v := 0) C.x C.b dX8_order_1 (by decide) ?_
  refine r_put ck8 flX8_66 C hS (by omega) m220 (by decide) rfl rfl rfl (Nat.le_of_ble_eq_true rfl) dX8_order_2 (fun g_1 H locs e_2 o_3 hS => ?_)
  replace e_2 : g_1 220 = .inr (8, [.int 0, .int (nI n), .ref (B + 221), .ref (B + 222), .ref (B + 223), .int ey, .int wi, .int ev, .ref (B + 224), .ref (B + 225), .ref (B + 226), .ref (B + 227), .ref (B + 228), .ref (B + 229), .ref (B + 230), .ref (B + 231), .ref (B + 232), .ref (B + 233), .ref (B + 234), .ref (B + 235), .ref (B + 236), .int po, .int ps]) := e_2
  refine lv_aload_n C.x C.b dX8_order_5 rfl (lv_at hl 0 rfl) ?_
  refine lv_iload_n C.x C.b dX8_order_6 rfl (lv_at hl 1 rfl) ?_
  refine r_callV (b := 220) (As := [.int x]) (rest := []) (c_X8_isOrder l D t B N g_1 x) mf_yX8_isOrder mlX8_73 im_yX8_isOrder se_yX8_isOrder (by decide) C hS (by omega) e_2 (show vwCl[8]? = some _ from rfl) rfl rfl hl.1 rfl (Nat.le_of_ble_eq_true rfl) dX8_order_7 ⟨Nat.zero_le _, Nat.zero_le _⟩ (fun r_6 g_4 H locs w_5 hS => ?_)
  obtain ⟨rfl, er_6⟩ := w_5
  by_cases b_7 : inP 40960 x
  · rw [bz_t b_7] at er_6
    subst er_6
    refine lv_if_eq (tgt := 22) C.x C.b dX8_order_10 (by decide) (fun c_8 => absurd c_8 (by decide)) (fun c_8 => ?_)
    refine lv_aload_n C.x C.b dX8_order_13 rfl (lv_at hl 0 rfl) ?_
    refine r_get ck8 flX8_70 C hS (by omega) e_2 (by decide) rfl dX8_order_14 ?_
    refine lv_bipush (v := 8) C.x C.b dX8_order_17 (by decide) ?_
    refine lv_icmp_ne (tgt := 24) C.x C.b dX8_order_19 (by decide) (fun c_9 => ?_) (fun c_9 => ?_)
    · skip
      have hn8 : n < 8 := by rcases Nat.lt_or_ge n 8 with q | q; exact q; exact absurd (show nI n = 8 by rw [show n = 8 by omega]; rfl) c_9
      refine lv_aload_n C.x C.b dX8_order_24 rfl (lv_at hl 0 rfl) ?_
      refine r_get ck8 flX8_7 C hS (by omega) e_2 (by decide) rfl dX8_order_25 ?_
      refine lv_aload_n C.x C.b dX8_order_28 rfl (lv_at hl 0 rfl) ?_
      refine r_get ck8 flX8_70 C hS (by omega) e_2 (by decide) rfl dX8_order_29 ?_
      refine lv_iload_n C.x C.b dX8_order_32 rfl (lv_at hl 1 rfl) ?_
      have e_10 : g_1 221 = .inl (t.1, 10, .inl o) := (o_3 _ (by omega)).trans m221
      refine r_iastN n rfl (by omega) (by decide) C hS (by omega) e_10 dX8_order_33 (fun g_11 H locs e_12 o_13 hS => ?_)
      replace e_12 : g_11 221 = .inl (t.1, 10, .inl (upd o n x)) := e_12
      refine lv_aload_n C.x C.b dX8_order_34 rfl (lv_at hl 0 rfl) ?_
      refine lv_aload_n C.x C.b dX8_order_35 rfl (lv_at hl 0 rfl) ?_
      have e_14 : g_11 220 = .inr (8, [.int 0, .int (nI n), .ref (B + 221), .ref (B + 222), .ref (B + 223), .int ey, .int wi, .int ev, .ref (B + 224), .ref (B + 225), .ref (B + 226), .ref (B + 227), .ref (B + 228), .ref (B + 229), .ref (B + 230), .ref (B + 231), .ref (B + 232), .ref (B + 233), .ref (B + 234), .ref (B + 235), .ref (B + 236), .int po, .int ps]) := (o_13 _ (by omega)).trans e_2
      refine r_get ck8 flX8_70 C hS (by omega) e_14 (by decide) rfl dX8_order_36 ?_
      refine lv_iconst (v := 1) C.x C.b dX8_order_39 (by decide) ?_
      refine lv_iadd C.x C.b dX8_order_40 ?_
      refine r_top (y := nI (n + 1)) (nI_1 n) ?_
      refine r_put ck8 flX8_70 C hS (by omega) e_14 (by decide) rfl rfl rfl (Nat.le_of_ble_eq_true rfl) dX8_order_41 (fun g_15 H locs e_16 o_17 hS => ?_)
      replace e_16 : g_15 220 = .inr (8, [.int 0, .int (nI (n + 1)), .ref (B + 221), .ref (B + 222), .ref (B + 223), .int ey, .int wi, .int ev, .ref (B + 224), .ref (B + 225), .ref (B + 226), .ref (B + 227), .ref (B + 228), .ref (B + 229), .ref (B + 230), .ref (B + 231), .ref (B + 232), .ref (B + 233), .ref (B + 234), .ref (B + 235), .ref (B + 236), .int po, .int ps]) := e_16
      refine lv_aload_n C.x C.b dX8_order_44 rfl (lv_at hl 0 rfl) ?_
      refine r_get ck8 flX8_70 C hS (by omega) e_16 (by decide) rfl dX8_order_45 ?_
      refine lv_iconst (v := 1) C.x C.b dX8_order_48 (by decide) ?_
      refine lv_isub C.x C.b dX8_order_49 ?_
      refine r_top (y := nI n) (nI_pred n) ?_
      have e_18 : g_15 221 = .inl (t.1, 10, .inl (upd o n x)) := (o_17 _ (by omega)).trans e_12
      have e_19 : g_1 222 = .inl (t.1, 10, .inl pr) := (o_3 _ (by omega)).trans m222
      have e_20 : g_11 222 = .inl (t.1, 10, .inl pr) := (o_13 _ (by omega)).trans e_19
      have e_21 : g_15 222 = .inl (t.1, 10, .inl pr) := (o_17 _ (by omega)).trans e_20
      have e_22 : g_1 223 = .inl (t.1, 8, .inl w) := (o_3 _ (by omega)).trans m223
      have e_23 : g_11 223 = .inl (t.1, 8, .inl w) := (o_13 _ (by omega)).trans e_22
      have e_24 : g_15 223 = .inl (t.1, 8, .inl w) := (o_17 _ (by omega)).trans e_23
      exact r_iret C hr hlocks hS (Or.inl ⟨b_7, hn8, rfl, ⟨e_16, e_18, e_21, e_24⟩, fun j hj => (o_17 j (by omega)).trans ((o_13 j (by omega)).trans (o_3 j (by omega)))⟩) dX8_order_50
    · skip
      have hn8 : n = 8 := (nI_eq (b := 8) (by omega) (by decide)).mp c_9
      refine lv_iconst (v := (-1)) C.x C.b dX8_order_22 (by decide) ?_
      have e_25 : g_1 221 = .inl (t.1, 10, .inl o) := (o_3 _ (by omega)).trans m221
      have e_26 : g_1 222 = .inl (t.1, 10, .inl pr) := (o_3 _ (by omega)).trans m222
      have e_27 : g_1 223 = .inl (t.1, 8, .inl w) := (o_3 _ (by omega)).trans m223
      exact r_iret C hr hlocks hS (Or.inr ⟨(fun q => by omega), rfl, ⟨e_2, e_25, e_26, e_27⟩, fun j hj => (o_3 j (by omega))⟩) dX8_order_23
  · rw [bz_f b_7] at er_6
    subst er_6
    refine lv_if_eq (tgt := 22) C.x C.b dX8_order_10 (by decide) (fun c_28 => ?_) (fun c_28 => absurd (by decide) c_28)
    refine lv_iconst (v := (-1)) C.x C.b dX8_order_22 (by decide) ?_
    have e_29 : g_1 221 = .inl (t.1, 10, .inl o) := (o_3 _ (by omega)).trans m221
    have e_30 : g_1 222 = .inl (t.1, 10, .inl pr) := (o_3 _ (by omega)).trans m222
    have e_31 : g_1 223 = .inl (t.1, 8, .inl w) := (o_3 _ (by omega)).trans m223
    exact r_iret C hr hlocks hS (Or.inr ⟨(fun q => b_7 q.1), rfl, ⟨e_2, e_29, e_30, e_31⟩, fun j hj => (o_3 j (by omega))⟩) dX8_order_23
set_option maxHeartbeats 1000000 in
set_option maxRecDepth 100000 in
theorem c_X8_change (l : Launch) (D : va_G) (t : Gx) (B N : Nat) (g : Nat → va_E) (td : Int32) (n : Nat) (ey wi ev po ps : Int32) (o : Nat → Int32) (pr : Nat → Int32) (w : Nat → Int32) (x y : Int32) (hN : 236 < N) (m220 : g 220 = mObj B td n ey wi ev po ps) (m221 : g 221 = .inl (t.1, 10, .inl o)) (m222 : g 222 = .inl (t.1, 10, .inl pr)) (m223 : g 223 = .inl (t.1, 8, .inl w)) (hn : n ≤ 8) : Ci l D t B N yX8_change cX8_change 3 (some .boolean) 1 21 g [.ref (B + 220), .int x, .int y] (fun r g' => (∃ q, q < n ∧ x = nI q ∧ inP 40960 y ∧ r = 1 ∧ Mco t B g' 0 n ey wi ev po ps (upd o q y) pr w ∧ (∀ j, (j < 220 ∨ 223 < j) → g' j = g j)) ∨ (¬ (inP n x ∧ inP 40960 y) ∧ r = 0 ∧ Mco t B g' 0 n ey wi ev po ps o pr w ∧ (∀ j, (j < 220 ∨ 223 < j) → g' j = g j))) := by
  refine Ci.start (by decide) (Nat.le_of_ble_eq_true rfl) ?_
  intro p e s m below meth c ls C hr hlocks hS hl
  replace C : Cx D t p s m [.ref (B + 220), .int x, .int y].toArray c cX8_change 3 RX8 := C
  replace hl : lv_has ls 3 [(0, .ref (B + 220)), (1, .int x), (2, .int y)] := hl
  replace m220 : g 220 = .inr (8, [.int td, .int (nI n), .ref (B + 221), .ref (B + 222), .ref (B + 223), .int ey, .int wi, .int ev, .ref (B + 224), .ref (B + 225), .ref (B + 226), .ref (B + 227), .ref (B + 228), .ref (B + 229), .ref (B + 230), .ref (B + 231), .ref (B + 232), .ref (B + 233), .ref (B + 234), .ref (B + 235), .ref (B + 236), .int po, .int ps]) := m220
  refine lv_aload_n C.x C.b dX8_change_0 rfl (lv_at hl 0 rfl) ?_
  refine lv_iconst (v := 0) C.x C.b dX8_change_1 (by decide) ?_
  refine r_put ck8 flX8_66 C hS (by omega) m220 (by decide) rfl rfl rfl (Nat.le_of_ble_eq_true rfl) dX8_change_2 (fun g_1 H locs e_2 o_3 hS => ?_)
  replace e_2 : g_1 220 = .inr (8, [.int 0, .int (nI n), .ref (B + 221), .ref (B + 222), .ref (B + 223), .int ey, .int wi, .int ev, .ref (B + 224), .ref (B + 225), .ref (B + 226), .ref (B + 227), .ref (B + 228), .ref (B + 229), .ref (B + 230), .ref (B + 231), .ref (B + 232), .ref (B + 233), .ref (B + 234), .ref (B + 235), .ref (B + 236), .int po, .int ps]) := e_2
  refine lv_aload_n C.x C.b dX8_change_5 rfl (lv_at hl 0 rfl) ?_
  refine lv_iload_n C.x C.b dX8_change_6 rfl (lv_at hl 1 rfl) ?_
  refine r_callV (b := 220) (As := [.int x]) (rest := []) (c_X8_isPlace l D t B N g_1 _ _ _ _ _ _ _ x (by omega) e_2  ) mf_yX8_isPlace mlX8_77 im_yX8_isPlace se_yX8_isPlace (by decide) C hS (by omega) e_2 (show vwCl[8]? = some _ from rfl) rfl rfl hl.1 rfl (Nat.le_of_ble_eq_true rfl) dX8_change_7 ⟨Nat.zero_le _, Nat.zero_le _⟩ (fun r_6 g_4 H locs w_5 hS => ?_)
  obtain ⟨rfl, er_6⟩ := w_5
  by_cases b_7 : inP n x
  · rw [bz_t b_7] at er_6
    subst er_6
    obtain ⟨q, hq, rfl⟩ := inP_nI b_7 (by omega)
    refine lv_if_eq (tgt := 21) C.x C.b dX8_change_10 (by decide) (fun c_8 => absurd c_8 (by decide)) (fun c_8 => ?_)
    refine lv_aload_n C.x C.b dX8_change_13 rfl (lv_at hl 0 rfl) ?_
    refine lv_iload_n C.x C.b dX8_change_14 rfl (lv_at hl 2 rfl) ?_
    refine r_callV (b := 220) (As := [.int y]) (rest := []) (c_X8_isOrder l D t B N g_1 y) mf_yX8_isOrder mlX8_73 im_yX8_isOrder se_yX8_isOrder (by decide) C hS (by omega) e_2 (show vwCl[8]? = some _ from rfl) rfl rfl hl.1 rfl (Nat.le_of_ble_eq_true rfl) dX8_change_15 ⟨Nat.zero_le _, Nat.zero_le _⟩ (fun r_11 g_9 H locs w_10 hS => ?_)
    obtain ⟨rfl, er_11⟩ := w_10
    by_cases b_12 : inP 40960 y
    · rw [bz_t b_12] at er_11
      subst er_11
      refine lv_if_ne (tgt := 23) C.x C.b dX8_change_18 (by decide) (fun c_13 => ?_) (fun c_13 => absurd c_13 (by decide))
      refine lv_aload_n C.x C.b dX8_change_23 rfl (lv_at hl 0 rfl) ?_
      refine r_get ck8 flX8_7 C hS (by omega) e_2 (by decide) rfl dX8_change_24 ?_
      refine lv_iload_n C.x C.b dX8_change_27 rfl (lv_at hl 1 rfl) ?_
      refine lv_iload_n C.x C.b dX8_change_28 rfl (lv_at hl 2 rfl) ?_
      have e_14 : g_1 221 = .inl (t.1, 10, .inl o) := (o_3 _ (by omega)).trans m221
      refine r_iastN q rfl (by omega) (by decide) C hS (by omega) e_14 dX8_change_29 (fun g_15 H locs e_16 o_17 hS => ?_)
      replace e_16 : g_15 221 = .inl (t.1, 10, .inl (upd o q y)) := e_16
      refine lv_iconst (v := 1) C.x C.b dX8_change_30 (by decide) ?_
      have e_18 : g_15 220 = .inr (8, [.int 0, .int (nI n), .ref (B + 221), .ref (B + 222), .ref (B + 223), .int ey, .int wi, .int ev, .ref (B + 224), .ref (B + 225), .ref (B + 226), .ref (B + 227), .ref (B + 228), .ref (B + 229), .ref (B + 230), .ref (B + 231), .ref (B + 232), .ref (B + 233), .ref (B + 234), .ref (B + 235), .ref (B + 236), .int po, .int ps]) := (o_17 _ (by omega)).trans e_2
      have e_19 : g_1 222 = .inl (t.1, 10, .inl pr) := (o_3 _ (by omega)).trans m222
      have e_20 : g_15 222 = .inl (t.1, 10, .inl pr) := (o_17 _ (by omega)).trans e_19
      have e_21 : g_1 223 = .inl (t.1, 8, .inl w) := (o_3 _ (by omega)).trans m223
      have e_22 : g_15 223 = .inl (t.1, 8, .inl w) := (o_17 _ (by omega)).trans e_21
      exact r_zret C hr hlocks hS (by decide) (Or.inl ⟨q, hq, rfl, b_12, rfl, ⟨e_18, e_16, e_20, e_22⟩, fun j hj => (o_17 j (by omega)).trans (o_3 j (by omega))⟩) dX8_change_31
    · rw [bz_f b_12] at er_11
      subst er_11
      refine lv_if_ne (tgt := 23) C.x C.b dX8_change_18 (by decide) (fun c_23 => absurd (by decide) c_23) (fun c_23 => ?_)
      refine lv_iconst (v := 0) C.x C.b dX8_change_21 (by decide) ?_
      have e_24 : g_1 221 = .inl (t.1, 10, .inl o) := (o_3 _ (by omega)).trans m221
      have e_25 : g_1 222 = .inl (t.1, 10, .inl pr) := (o_3 _ (by omega)).trans m222
      have e_26 : g_1 223 = .inl (t.1, 8, .inl w) := (o_3 _ (by omega)).trans m223
      exact r_zret C hr hlocks hS (by decide) (Or.inr ⟨(fun q => b_12 q.2), rfl, ⟨e_2, e_24, e_25, e_26⟩, fun j hj => (o_3 j (by omega))⟩) dX8_change_22
  · rw [bz_f b_7] at er_6
    subst er_6
    refine lv_if_eq (tgt := 21) C.x C.b dX8_change_10 (by decide) (fun c_27 => ?_) (fun c_27 => absurd (by decide) c_27)
    refine lv_iconst (v := 0) C.x C.b dX8_change_21 (by decide) ?_
    have e_28 : g_1 221 = .inl (t.1, 10, .inl o) := (o_3 _ (by omega)).trans m221
    have e_29 : g_1 222 = .inl (t.1, 10, .inl pr) := (o_3 _ (by omega)).trans m222
    have e_30 : g_1 223 = .inl (t.1, 8, .inl w) := (o_3 _ (by omega)).trans m223
    exact r_zret C hr hlocks hS (by decide) (Or.inr ⟨(fun q => b_7 q.1), rfl, ⟨e_2, e_28, e_29, e_30⟩, fun j hj => (o_3 j (by omega))⟩) dX8_change_22
set_option maxHeartbeats 1000000 in
set_option maxRecDepth 100000 in
theorem c_X8_clear (l : Launch) (D : va_G) (t : Gx) (B N : Nat) (g : Nat → va_E) (td : Int32) (n : Nat) (ey wi ev po ps : Int32) (o : Nat → Int32) (pr : Nat → Int32) (w : Nat → Int32) (hN : 236 < N) (m220 : g 220 = mObj B td n ey wi ev po ps) (m221 : g 221 = .inl (t.1, 10, .inl o)) (m222 : g 222 = .inl (t.1, 10, .inl pr)) (m223 : g 223 = .inl (t.1, 8, .inl w)) (hn : n ≤ 8) : Cv l D t B N N 0 0 yX8_clear cX8_clear 2 0 0 g [.ref (B + 220)] (fun g' => Mco t B g' 0 0 ey wi 0 po ps o (on1 pr 10) w ∧ (∀ j, (j < 220 ∨ 223 < j) → g' j = g j)) := by
  refine Cv.start (by decide) (Nat.le_of_ble_eq_true rfl) ?_
  intro p e s m below meth c ls C hr hlocks hnm hS hl
  replace C : Cx D t p s m [.ref (B + 220)].toArray c cX8_clear 2 RX8 := C
  replace hl : lv_has ls 2 [(0, .ref (B + 220))] := hl
  replace m220 : g 220 = .inr (8, [.int td, .int (nI n), .ref (B + 221), .ref (B + 222), .ref (B + 223), .int ey, .int wi, .int ev, .ref (B + 224), .ref (B + 225), .ref (B + 226), .ref (B + 227), .ref (B + 228), .ref (B + 229), .ref (B + 230), .ref (B + 231), .ref (B + 232), .ref (B + 233), .ref (B + 234), .ref (B + 235), .ref (B + 236), .int po, .int ps]) := m220
  refine lv_aload_n C.x C.b dX8_clear_0 rfl (lv_at hl 0 rfl) ?_
  refine lv_iconst (v := 0) C.x C.b dX8_clear_1 (by decide) ?_
  refine r_put ck8 flX8_66 C hS (by omega) m220 (by decide) rfl rfl rfl (Nat.le_of_ble_eq_true rfl) dX8_clear_2 (fun g_1 H locs e_2 o_3 hS => ?_)
  replace e_2 : g_1 220 = .inr (8, [.int 0, .int (nI n), .ref (B + 221), .ref (B + 222), .ref (B + 223), .int ey, .int wi, .int ev, .ref (B + 224), .ref (B + 225), .ref (B + 226), .ref (B + 227), .ref (B + 228), .ref (B + 229), .ref (B + 230), .ref (B + 231), .ref (B + 232), .ref (B + 233), .ref (B + 234), .ref (B + 235), .ref (B + 236), .int po, .int ps]) := e_2
  refine lv_aload_n C.x C.b dX8_clear_5 rfl (lv_at hl 0 rfl) ?_
  refine lv_iconst (v := 0) C.x C.b dX8_clear_6 (by decide) ?_
  refine r_put ck8 flX8_70 C hS (by omega) e_2 (by decide) rfl rfl rfl (Nat.le_of_ble_eq_true rfl) dX8_clear_7 (fun g_4 H locs e_5 o_6 hS => ?_)
  replace e_5 : g_4 220 = .inr (8, [.int 0, .int 0, .ref (B + 221), .ref (B + 222), .ref (B + 223), .int ey, .int wi, .int ev, .ref (B + 224), .ref (B + 225), .ref (B + 226), .ref (B + 227), .ref (B + 228), .ref (B + 229), .ref (B + 230), .ref (B + 231), .ref (B + 232), .ref (B + 233), .ref (B + 234), .ref (B + 235), .ref (B + 236), .int po, .int ps]) := e_5
  refine lv_aload_n C.x C.b dX8_clear_10 rfl (lv_at hl 0 rfl) ?_
  refine lv_iconst (v := 0) C.x C.b dX8_clear_11 (by decide) ?_
  refine r_put ck8 flX8_80 C hS (by omega) e_5 (by decide) rfl rfl rfl (Nat.le_of_ble_eq_true rfl) dX8_clear_12 (fun g_7 H locs e_8 o_9 hS => ?_)
  replace e_8 : g_7 220 = .inr (8, [.int 0, .int 0, .ref (B + 221), .ref (B + 222), .ref (B + 223), .int ey, .int wi, .int 0, .ref (B + 224), .ref (B + 225), .ref (B + 226), .ref (B + 227), .ref (B + 228), .ref (B + 229), .ref (B + 230), .ref (B + 231), .ref (B + 232), .ref (B + 233), .ref (B + 234), .ref (B + 235), .ref (B + 236), .int po, .int ps]) := e_8
  refine lv_iconst (v := 0) C.x C.b dX8_clear_15 (by decide) ?_
  refine lv_istore_n (lv' := [(1, .int 0), (0, .ref (B + 220))]) C.x C.b dX8_clear_16 rfl hl (by decide) rfl (fun ls hl => ?_)
  have lp_10 : ∀ (u_11 k_12 : Nat) (g_16 : Nat → va_E) (H : Heap) (locs : List Loc) (ls : Array Slot), k_12 + u_11 = 10 → (g_16 222 = .inl (t.1, 10, .inl (on1 pr k_12))) → (∀ j, (j ≠ 222) → g_16 j = g_7 j) → St D B s.heap N g_16 H locs → lv_has ls 2 [(0, .ref (B + 220)), (1, .int (nI k_12))] → W p l e (rmOf 0 0 0 0) s m [.ref (B + 220)].toArray below meth c H locs 0 0 (MQ below (qV D B N (fun g' => Mco t B g' 0 0 ey wi 0 po ps o (on1 pr 10) w ∧ (∀ j, (j < 220 ∨ 223 < j) → g' j = g j))) [.ref (B + 220)].toArray s 0 0 (fun q => B ≤ q)) (F0 m 17 ls []) := by
    intro u_11
    induction u_11 with
    | zero =>
      intro k_12 g_16 H locs ls hk_13 e_17 hf_15 hS hl
      obtain rfl : 10 = k_12 := by omega
      refine lv_iload_n C.x C.b dX8_clear_17 rfl (lv_at hl 1 rfl) ?_
      refine lv_bipush (v := 10) C.x C.b dX8_clear_18 (by decide) ?_
      refine lv_icmp_ge (tgt := 36) C.x C.b dX8_clear_20 (by decide) (fun c_18 => ?_) (fun c_18 => absurd (by decide) c_18)
      have e_19 : g_16 220 = .inr (8, [.int 0, .int 0, .ref (B + 221), .ref (B + 222), .ref (B + 223), .int ey, .int wi, .int 0, .ref (B + 224), .ref (B + 225), .ref (B + 226), .ref (B + 227), .ref (B + 228), .ref (B + 229), .ref (B + 230), .ref (B + 231), .ref (B + 232), .ref (B + 233), .ref (B + 234), .ref (B + 235), .ref (B + 236), .int po, .int ps]) := (hf_15 _ (by omega)).trans e_8
      have e_20 : g_1 221 = .inl (t.1, 10, .inl o) := (o_3 _ (by omega)).trans m221
      have e_21 : g_4 221 = .inl (t.1, 10, .inl o) := (o_6 _ (by omega)).trans e_20
      have e_22 : g_7 221 = .inl (t.1, 10, .inl o) := (o_9 _ (by omega)).trans e_21
      have e_23 : g_16 221 = .inl (t.1, 10, .inl o) := (hf_15 _ (by omega)).trans e_22
      have e_24 : g_1 223 = .inl (t.1, 8, .inl w) := (o_3 _ (by omega)).trans m223
      have e_25 : g_4 223 = .inl (t.1, 8, .inl w) := (o_6 _ (by omega)).trans e_24
      have e_26 : g_7 223 = .inl (t.1, 8, .inl w) := (o_9 _ (by omega)).trans e_25
      have e_27 : g_16 223 = .inl (t.1, 8, .inl w) := (hf_15 _ (by omega)).trans e_26
      exact r_vret C hr hlocks hS ⟨⟨e_19, e_23, e_17, e_27⟩, fun j hj => (hf_15 j (by omega)).trans ((o_9 j (by omega)).trans ((o_6 j (by omega)).trans (o_3 j (by omega))))⟩ dX8_clear_36
    | succ u_11 ih_14 =>
      intro k_12 g_16 H locs ls hk_13 e_17 hf_15 hS hl
      refine lv_iload_n C.x C.b dX8_clear_17 rfl (lv_at hl 1 rfl) ?_
      refine lv_bipush (v := 10) C.x C.b dX8_clear_18 (by decide) ?_
      refine lv_icmp_ge (tgt := 36) C.x C.b dX8_clear_20 (by decide) (fun c_28 => absurd c_28 (nI_ge (a := k_12) (b := 10) (by omega) (by decide))) (fun c_28 => ?_)
      refine lv_aload_n C.x C.b dX8_clear_23 rfl (lv_at hl 0 rfl) ?_
      have e_29 : g_16 220 = .inr (8, [.int 0, .int 0, .ref (B + 221), .ref (B + 222), .ref (B + 223), .int ey, .int wi, .int 0, .ref (B + 224), .ref (B + 225), .ref (B + 226), .ref (B + 227), .ref (B + 228), .ref (B + 229), .ref (B + 230), .ref (B + 231), .ref (B + 232), .ref (B + 233), .ref (B + 234), .ref (B + 235), .ref (B + 236), .int po, .int ps]) := (hf_15 _ (by omega)).trans e_8
      refine r_get ck8 flX8_13 C hS (by omega) e_29 (by decide) rfl dX8_clear_24 ?_
      refine lv_iload_n C.x C.b dX8_clear_27 rfl (lv_at hl 1 rfl) ?_
      refine lv_iconst (v := 1) C.x C.b dX8_clear_28 (by decide) ?_
      refine r_iastN k_12 rfl (by omega) (by decide) C hS (by omega) e_17 dX8_clear_29 (fun g_30 H locs e_31 o_32 hS => ?_)
      replace e_31 : g_30 222 = .inl (t.1, 10, .inl (upd (on1 pr k_12) k_12 1)) := e_31
      refine lv_iinc (v := nI (k_12 + 1)) (lv' := [(1, .int (nI (k_12 + 1))), (0, .ref (B + 220))]) C.x C.b dX8_clear_30 hl (k := 1) rfl (nI_1 k_12) (by decide) rfl (fun ls hl => ?_)
      refine lv_goto (tgt := 17) C.x C.b dX8_clear_33 (by decide) ?_
      exact ih_14 (k_12 + 1) g_30 _ _ _ (by omega) e_31 (fun j hj => (o_32 j (by omega)).trans (hf_15 j hj)) hS (lv_sub hl [1, 0] rfl)
  have e_33 : g_1 222 = .inl (t.1, 10, .inl pr) := (o_3 _ (by omega)).trans m222
  have e_34 : g_4 222 = .inl (t.1, 10, .inl pr) := (o_6 _ (by omega)).trans e_33
  have e_35 : g_7 222 = .inl (t.1, 10, .inl pr) := (o_9 _ (by omega)).trans e_34
  exact lp_10 10 0 g_7 _ _ _ (by omega) e_35 (fun _ _ => rfl) hS (lv_sub hl [1, 0] rfl)
set_option maxHeartbeats 1000000 in
set_option maxRecDepth 100000 in
theorem c_X8_word (l : Launch) (D : va_G) (t : Gx) (B N : Nat) (g : Nat → va_E) (td : Int32) (n : Nat) (ey wi ev po ps : Int32) (o : Nat → Int32) (pr : Nat → Int32) (w : Nat → Int32) (x y : Int32) (hN : 236 < N) (m220 : g 220 = mObj B td n ey wi ev po ps) (m221 : g 221 = .inl (t.1, 10, .inl o)) (m222 : g 222 = .inl (t.1, 10, .inl pr)) (m223 : g 223 = .inl (t.1, 8, .inl w)) (hn : n ≤ 8) : Ci l D t B N yX8_word cX8_word 3 (some .boolean) 0 0 g [.ref (B + 220), .int x, .int y] (fun r g' => (∃ q, q < 8 ∧ x = nI q ∧ r = 1 ∧ Mco t B g' 0 n ey wi ev po ps o pr (upd w q y) ∧ (∀ j, (j < 220 ∨ 223 < j) → g' j = g j)) ∨ (¬ inP 8 x ∧ r = 0 ∧ Mco t B g' 0 n ey wi ev po ps o pr w ∧ (∀ j, (j < 220 ∨ 223 < j) → g' j = g j))) := by
  refine Ci.start (by decide) (Nat.le_of_ble_eq_true rfl) ?_
  intro p e s m below meth c ls C hr hlocks hS hl
  replace C : Cx D t p s m [.ref (B + 220), .int x, .int y].toArray c cX8_word 3 RX8 := C
  replace hl : lv_has ls 3 [(0, .ref (B + 220)), (1, .int x), (2, .int y)] := hl
  replace m220 : g 220 = .inr (8, [.int td, .int (nI n), .ref (B + 221), .ref (B + 222), .ref (B + 223), .int ey, .int wi, .int ev, .ref (B + 224), .ref (B + 225), .ref (B + 226), .ref (B + 227), .ref (B + 228), .ref (B + 229), .ref (B + 230), .ref (B + 231), .ref (B + 232), .ref (B + 233), .ref (B + 234), .ref (B + 235), .ref (B + 236), .int po, .int ps]) := m220
  refine lv_aload_n C.x C.b dX8_word_0 rfl (lv_at hl 0 rfl) ?_
  refine lv_iconst (v := 0) C.x C.b dX8_word_1 (by decide) ?_
  refine r_put ck8 flX8_66 C hS (by omega) m220 (by decide) rfl rfl rfl (Nat.le_of_ble_eq_true rfl) dX8_word_2 (fun g_1 H locs e_2 o_3 hS => ?_)
  replace e_2 : g_1 220 = .inr (8, [.int 0, .int (nI n), .ref (B + 221), .ref (B + 222), .ref (B + 223), .int ey, .int wi, .int ev, .ref (B + 224), .ref (B + 225), .ref (B + 226), .ref (B + 227), .ref (B + 228), .ref (B + 229), .ref (B + 230), .ref (B + 231), .ref (B + 232), .ref (B + 233), .ref (B + 234), .ref (B + 235), .ref (B + 236), .int po, .int ps]) := e_2
  refine lv_iload_n C.x C.b dX8_word_5 rfl (lv_at hl 1 rfl) ?_
  refine lv_if_lt (tgt := 15) C.x C.b dX8_word_6 (by decide) (fun c_4 => ?_) (fun c_4 => ?_)
  · skip
    refine lv_iconst (v := 0) C.x C.b dX8_word_15 (by decide) ?_
    have e_5 : g_1 221 = .inl (t.1, 10, .inl o) := (o_3 _ (by omega)).trans m221
    have e_6 : g_1 222 = .inl (t.1, 10, .inl pr) := (o_3 _ (by omega)).trans m222
    have e_7 : g_1 223 = .inl (t.1, 8, .inl w) := (o_3 _ (by omega)).trans m223
    exact r_zret C hr hlocks hS (by decide) (Or.inr ⟨(fun q => q.1 c_4), rfl, ⟨e_2, e_5, e_6, e_7⟩, fun j hj => (o_3 j (by omega))⟩) dX8_word_16
  · skip
    refine lv_iload_n C.x C.b dX8_word_9 rfl (lv_at hl 1 rfl) ?_
    refine lv_bipush (v := 7) C.x C.b dX8_word_10 (by decide) ?_
    refine lv_icmp_le (tgt := 17) C.x C.b dX8_word_12 (by decide) (fun c_8 => ?_) (fun c_8 => ?_)
    · skip
      obtain ⟨q, hq, rfl⟩ := inP_nI (n := 8) ⟨c_4, nle7 c_8⟩ (by decide)
      refine lv_aload_n C.x C.b dX8_word_17 rfl (lv_at hl 0 rfl) ?_
      refine r_get ck8 flX8_16 C hS (by omega) e_2 (by decide) rfl dX8_word_18 ?_
      refine lv_iload_n C.x C.b dX8_word_21 rfl (lv_at hl 1 rfl) ?_
      refine lv_iload_n C.x C.b dX8_word_22 rfl (lv_at hl 2 rfl) ?_
      have e_9 : g_1 223 = .inl (t.1, 8, .inl w) := (o_3 _ (by omega)).trans m223
      refine r_iastN q rfl (by omega) (by decide) C hS (by omega) e_9 dX8_word_23 (fun g_10 H locs e_11 o_12 hS => ?_)
      replace e_11 : g_10 223 = .inl (t.1, 8, .inl (upd w q y)) := e_11
      refine lv_iconst (v := 1) C.x C.b dX8_word_24 (by decide) ?_
      have e_13 : g_10 220 = .inr (8, [.int 0, .int (nI n), .ref (B + 221), .ref (B + 222), .ref (B + 223), .int ey, .int wi, .int ev, .ref (B + 224), .ref (B + 225), .ref (B + 226), .ref (B + 227), .ref (B + 228), .ref (B + 229), .ref (B + 230), .ref (B + 231), .ref (B + 232), .ref (B + 233), .ref (B + 234), .ref (B + 235), .ref (B + 236), .int po, .int ps]) := (o_12 _ (by omega)).trans e_2
      have e_14 : g_1 221 = .inl (t.1, 10, .inl o) := (o_3 _ (by omega)).trans m221
      have e_15 : g_10 221 = .inl (t.1, 10, .inl o) := (o_12 _ (by omega)).trans e_14
      have e_16 : g_1 222 = .inl (t.1, 10, .inl pr) := (o_3 _ (by omega)).trans m222
      have e_17 : g_10 222 = .inl (t.1, 10, .inl pr) := (o_12 _ (by omega)).trans e_16
      exact r_zret C hr hlocks hS (by decide) (Or.inl ⟨q, hq, rfl, rfl, ⟨e_13, e_15, e_17, e_11⟩, fun j hj => (o_12 j (by omega)).trans (o_3 j (by omega))⟩) dX8_word_25
    · skip
      refine lv_iconst (v := 0) C.x C.b dX8_word_15 (by decide) ?_
      have e_18 : g_1 221 = .inl (t.1, 10, .inl o) := (o_3 _ (by omega)).trans m221
      have e_19 : g_1 222 = .inl (t.1, 10, .inl pr) := (o_3 _ (by omega)).trans m222
      have e_20 : g_1 223 = .inl (t.1, 8, .inl w) := (o_3 _ (by omega)).trans m223
      exact r_zret C hr hlocks hS (by decide) (Or.inr ⟨(fun q => c_8 (le7 q.2)), rfl, ⟨e_2, e_18, e_19, e_20⟩, fun j hj => (o_3 j (by omega))⟩) dX8_word_16
set_option maxHeartbeats 1000000 in
set_option maxRecDepth 100000 in
theorem c_X8_watch (l : Launch) (D : va_G) (t : Gx) (B N : Nat) (g : Nat → va_E) (td : Int32) (n : Nat) (ey wi ev po ps : Int32) (o : Nat → Int32) (pr : Nat → Int32) (w : Nat → Int32) (x y : Int32) (hN : 236 < N) (m220 : g 220 = mObj B td n ey wi ev po ps) (m221 : g 221 = .inl (t.1, 10, .inl o)) (m222 : g 222 = .inl (t.1, 10, .inl pr)) (m223 : g 223 = .inl (t.1, 8, .inl w)) (hn : n ≤ 8) : Ci l D t B N yX8_watch cX8_watch 3 (some .boolean) 0 0 g [.ref (B + 220), .int x, .int y] (fun r g' => (okE x ∧ isWd y ∧ r = 1 ∧ Mco t B g' 0 n x y ev po ps o pr w ∧ (∀ j, (j < 220 ∨ 223 < j) → g' j = g j)) ∨ (¬ (okE x ∧ isWd y) ∧ r = 0 ∧ Mco t B g' 0 n ey wi ev po ps o pr w ∧ (∀ j, (j < 220 ∨ 223 < j) → g' j = g j))) := by
  refine Ci.start (by decide) (Nat.le_of_ble_eq_true rfl) ?_
  intro p e s m below meth c ls C hr hlocks hS hl
  replace C : Cx D t p s m [.ref (B + 220), .int x, .int y].toArray c cX8_watch 3 RX8 := C
  replace hl : lv_has ls 3 [(0, .ref (B + 220)), (1, .int x), (2, .int y)] := hl
  replace m220 : g 220 = .inr (8, [.int td, .int (nI n), .ref (B + 221), .ref (B + 222), .ref (B + 223), .int ey, .int wi, .int ev, .ref (B + 224), .ref (B + 225), .ref (B + 226), .ref (B + 227), .ref (B + 228), .ref (B + 229), .ref (B + 230), .ref (B + 231), .ref (B + 232), .ref (B + 233), .ref (B + 234), .ref (B + 235), .ref (B + 236), .int po, .int ps]) := m220
  refine lv_aload_n C.x C.b dX8_watch_0 rfl (lv_at hl 0 rfl) ?_
  refine lv_iconst (v := 0) C.x C.b dX8_watch_1 (by decide) ?_
  refine r_put ck8 flX8_66 C hS (by omega) m220 (by decide) rfl rfl rfl (Nat.le_of_ble_eq_true rfl) dX8_watch_2 (fun g_1 H locs e_2 o_3 hS => ?_)
  replace e_2 : g_1 220 = .inr (8, [.int 0, .int (nI n), .ref (B + 221), .ref (B + 222), .ref (B + 223), .int ey, .int wi, .int ev, .ref (B + 224), .ref (B + 225), .ref (B + 226), .ref (B + 227), .ref (B + 228), .ref (B + 229), .ref (B + 230), .ref (B + 231), .ref (B + 232), .ref (B + 233), .ref (B + 234), .ref (B + 235), .ref (B + 236), .int po, .int ps]) := e_2
  refine lv_iload_n C.x C.b dX8_watch_5 rfl (lv_at hl 1 rfl) ?_
  refine lv_if_lt (tgt := 36) C.x C.b dX8_watch_6 (by decide) (fun c_4 => ?_) (fun c_4 => ?_)
  · skip
    refine lv_iconst (v := 0) C.x C.b dX8_watch_36 (by decide) ?_
    have e_5 : g_1 221 = .inl (t.1, 10, .inl o) := (o_3 _ (by omega)).trans m221
    have e_6 : g_1 222 = .inl (t.1, 10, .inl pr) := (o_3 _ (by omega)).trans m222
    have e_7 : g_1 223 = .inl (t.1, 8, .inl w) := (o_3 _ (by omega)).trans m223
    exact r_zret C hr hlocks hS (by decide) (Or.inr ⟨(fun q => q.1.1 c_4), rfl, ⟨e_2, e_5, e_6, e_7⟩, fun j hj => (o_3 j (by omega))⟩) dX8_watch_37
  · skip
    refine lv_iload_n C.x C.b dX8_watch_9 rfl (lv_at hl 1 rfl) ?_
    refine lv_bipush (v := 15) C.x C.b dX8_watch_10 (by decide) ?_
    refine lv_icmp_gt (tgt := 36) C.x C.b dX8_watch_12 (by decide) (fun c_8 => ?_) (fun c_8 => ?_)
    · skip
      refine lv_iconst (v := 0) C.x C.b dX8_watch_36 (by decide) ?_
      have e_9 : g_1 221 = .inl (t.1, 10, .inl o) := (o_3 _ (by omega)).trans m221
      have e_10 : g_1 222 = .inl (t.1, 10, .inl pr) := (o_3 _ (by omega)).trans m222
      have e_11 : g_1 223 = .inl (t.1, 8, .inl w) := (o_3 _ (by omega)).trans m223
      exact r_zret C hr hlocks hS (by decide) (Or.inr ⟨(fun q => q.1.2 c_8), rfl, ⟨e_2, e_9, e_10, e_11⟩, fun j hj => (o_3 j (by omega))⟩) dX8_watch_37
    · skip
      refine lv_iload_n C.x C.b dX8_watch_15 rfl (lv_at hl 2 rfl) ?_
      refine lv_iconst (v := 1) C.x C.b dX8_watch_16 (by decide) ?_
      refine lv_icmp_eq (tgt := 38) C.x C.b dX8_watch_17 (by decide) (fun c_12 => ?_) (fun c_12 => ?_)
      · skip
        refine lv_aload_n C.x C.b dX8_watch_38 rfl (lv_at hl 0 rfl) ?_
        refine lv_iload_n C.x C.b dX8_watch_39 rfl (lv_at hl 1 rfl) ?_
        refine r_put ck8 flX8_19 C hS (by omega) e_2 (by decide) rfl rfl rfl (Nat.le_of_ble_eq_true rfl) dX8_watch_40 (fun g_13 H locs e_14 o_15 hS => ?_)
        replace e_14 : g_13 220 = .inr (8, [.int 0, .int (nI n), .ref (B + 221), .ref (B + 222), .ref (B + 223), .int x, .int wi, .int ev, .ref (B + 224), .ref (B + 225), .ref (B + 226), .ref (B + 227), .ref (B + 228), .ref (B + 229), .ref (B + 230), .ref (B + 231), .ref (B + 232), .ref (B + 233), .ref (B + 234), .ref (B + 235), .ref (B + 236), .int po, .int ps]) := e_14
        refine lv_aload_n C.x C.b dX8_watch_43 rfl (lv_at hl 0 rfl) ?_
        refine lv_iload_n C.x C.b dX8_watch_44 rfl (lv_at hl 2 rfl) ?_
        refine r_put ck8 flX8_23 C hS (by omega) e_14 (by decide) rfl rfl rfl (Nat.le_of_ble_eq_true rfl) dX8_watch_45 (fun g_16 H locs e_17 o_18 hS => ?_)
        replace e_17 : g_16 220 = .inr (8, [.int 0, .int (nI n), .ref (B + 221), .ref (B + 222), .ref (B + 223), .int x, .int y, .int ev, .ref (B + 224), .ref (B + 225), .ref (B + 226), .ref (B + 227), .ref (B + 228), .ref (B + 229), .ref (B + 230), .ref (B + 231), .ref (B + 232), .ref (B + 233), .ref (B + 234), .ref (B + 235), .ref (B + 236), .int po, .int ps]) := e_17
        refine lv_iconst (v := 1) C.x C.b dX8_watch_48 (by decide) ?_
        have e_19 : g_1 221 = .inl (t.1, 10, .inl o) := (o_3 _ (by omega)).trans m221
        have e_20 : g_13 221 = .inl (t.1, 10, .inl o) := (o_15 _ (by omega)).trans e_19
        have e_21 : g_16 221 = .inl (t.1, 10, .inl o) := (o_18 _ (by omega)).trans e_20
        have e_22 : g_1 222 = .inl (t.1, 10, .inl pr) := (o_3 _ (by omega)).trans m222
        have e_23 : g_13 222 = .inl (t.1, 10, .inl pr) := (o_15 _ (by omega)).trans e_22
        have e_24 : g_16 222 = .inl (t.1, 10, .inl pr) := (o_18 _ (by omega)).trans e_23
        have e_25 : g_1 223 = .inl (t.1, 8, .inl w) := (o_3 _ (by omega)).trans m223
        have e_26 : g_13 223 = .inl (t.1, 8, .inl w) := (o_15 _ (by omega)).trans e_25
        have e_27 : g_16 223 = .inl (t.1, 8, .inl w) := (o_18 _ (by omega)).trans e_26
        exact r_zret C hr hlocks hS (by decide) (Or.inl ⟨⟨c_4, c_8⟩, Or.inl c_12, rfl, ⟨e_17, e_21, e_24, e_27⟩, fun j hj => (o_18 j (by omega)).trans ((o_15 j (by omega)).trans (o_3 j (by omega)))⟩) dX8_watch_49
      · skip
        refine lv_iload_n C.x C.b dX8_watch_20 rfl (lv_at hl 2 rfl) ?_
        refine lv_iconst (v := 2) C.x C.b dX8_watch_21 (by decide) ?_
        refine lv_icmp_eq (tgt := 38) C.x C.b dX8_watch_22 (by decide) (fun c_28 => ?_) (fun c_28 => ?_)
        · skip
          refine lv_aload_n C.x C.b dX8_watch_38 rfl (lv_at hl 0 rfl) ?_
          refine lv_iload_n C.x C.b dX8_watch_39 rfl (lv_at hl 1 rfl) ?_
          refine r_put ck8 flX8_19 C hS (by omega) e_2 (by decide) rfl rfl rfl (Nat.le_of_ble_eq_true rfl) dX8_watch_40 (fun g_29 H locs e_30 o_31 hS => ?_)
          replace e_30 : g_29 220 = .inr (8, [.int 0, .int (nI n), .ref (B + 221), .ref (B + 222), .ref (B + 223), .int x, .int wi, .int ev, .ref (B + 224), .ref (B + 225), .ref (B + 226), .ref (B + 227), .ref (B + 228), .ref (B + 229), .ref (B + 230), .ref (B + 231), .ref (B + 232), .ref (B + 233), .ref (B + 234), .ref (B + 235), .ref (B + 236), .int po, .int ps]) := e_30
          refine lv_aload_n C.x C.b dX8_watch_43 rfl (lv_at hl 0 rfl) ?_
          refine lv_iload_n C.x C.b dX8_watch_44 rfl (lv_at hl 2 rfl) ?_
          refine r_put ck8 flX8_23 C hS (by omega) e_30 (by decide) rfl rfl rfl (Nat.le_of_ble_eq_true rfl) dX8_watch_45 (fun g_32 H locs e_33 o_34 hS => ?_)
          replace e_33 : g_32 220 = .inr (8, [.int 0, .int (nI n), .ref (B + 221), .ref (B + 222), .ref (B + 223), .int x, .int y, .int ev, .ref (B + 224), .ref (B + 225), .ref (B + 226), .ref (B + 227), .ref (B + 228), .ref (B + 229), .ref (B + 230), .ref (B + 231), .ref (B + 232), .ref (B + 233), .ref (B + 234), .ref (B + 235), .ref (B + 236), .int po, .int ps]) := e_33
          refine lv_iconst (v := 1) C.x C.b dX8_watch_48 (by decide) ?_
          have e_35 : g_1 221 = .inl (t.1, 10, .inl o) := (o_3 _ (by omega)).trans m221
          have e_36 : g_29 221 = .inl (t.1, 10, .inl o) := (o_31 _ (by omega)).trans e_35
          have e_37 : g_32 221 = .inl (t.1, 10, .inl o) := (o_34 _ (by omega)).trans e_36
          have e_38 : g_1 222 = .inl (t.1, 10, .inl pr) := (o_3 _ (by omega)).trans m222
          have e_39 : g_29 222 = .inl (t.1, 10, .inl pr) := (o_31 _ (by omega)).trans e_38
          have e_40 : g_32 222 = .inl (t.1, 10, .inl pr) := (o_34 _ (by omega)).trans e_39
          have e_41 : g_1 223 = .inl (t.1, 8, .inl w) := (o_3 _ (by omega)).trans m223
          have e_42 : g_29 223 = .inl (t.1, 8, .inl w) := (o_31 _ (by omega)).trans e_41
          have e_43 : g_32 223 = .inl (t.1, 8, .inl w) := (o_34 _ (by omega)).trans e_42
          exact r_zret C hr hlocks hS (by decide) (Or.inl ⟨⟨c_4, c_8⟩, Or.inr (Or.inl c_28), rfl, ⟨e_33, e_37, e_40, e_43⟩, fun j hj => (o_34 j (by omega)).trans ((o_31 j (by omega)).trans (o_3 j (by omega)))⟩) dX8_watch_49
        · skip
          refine lv_iload_n C.x C.b dX8_watch_25 rfl (lv_at hl 2 rfl) ?_
          refine lv_iconst (v := 4) C.x C.b dX8_watch_26 (by decide) ?_
          refine lv_icmp_eq (tgt := 38) C.x C.b dX8_watch_27 (by decide) (fun c_44 => ?_) (fun c_44 => ?_)
          · skip
            refine lv_aload_n C.x C.b dX8_watch_38 rfl (lv_at hl 0 rfl) ?_
            refine lv_iload_n C.x C.b dX8_watch_39 rfl (lv_at hl 1 rfl) ?_
            refine r_put ck8 flX8_19 C hS (by omega) e_2 (by decide) rfl rfl rfl (Nat.le_of_ble_eq_true rfl) dX8_watch_40 (fun g_45 H locs e_46 o_47 hS => ?_)
            replace e_46 : g_45 220 = .inr (8, [.int 0, .int (nI n), .ref (B + 221), .ref (B + 222), .ref (B + 223), .int x, .int wi, .int ev, .ref (B + 224), .ref (B + 225), .ref (B + 226), .ref (B + 227), .ref (B + 228), .ref (B + 229), .ref (B + 230), .ref (B + 231), .ref (B + 232), .ref (B + 233), .ref (B + 234), .ref (B + 235), .ref (B + 236), .int po, .int ps]) := e_46
            refine lv_aload_n C.x C.b dX8_watch_43 rfl (lv_at hl 0 rfl) ?_
            refine lv_iload_n C.x C.b dX8_watch_44 rfl (lv_at hl 2 rfl) ?_
            refine r_put ck8 flX8_23 C hS (by omega) e_46 (by decide) rfl rfl rfl (Nat.le_of_ble_eq_true rfl) dX8_watch_45 (fun g_48 H locs e_49 o_50 hS => ?_)
            replace e_49 : g_48 220 = .inr (8, [.int 0, .int (nI n), .ref (B + 221), .ref (B + 222), .ref (B + 223), .int x, .int y, .int ev, .ref (B + 224), .ref (B + 225), .ref (B + 226), .ref (B + 227), .ref (B + 228), .ref (B + 229), .ref (B + 230), .ref (B + 231), .ref (B + 232), .ref (B + 233), .ref (B + 234), .ref (B + 235), .ref (B + 236), .int po, .int ps]) := e_49
            refine lv_iconst (v := 1) C.x C.b dX8_watch_48 (by decide) ?_
            have e_51 : g_1 221 = .inl (t.1, 10, .inl o) := (o_3 _ (by omega)).trans m221
            have e_52 : g_45 221 = .inl (t.1, 10, .inl o) := (o_47 _ (by omega)).trans e_51
            have e_53 : g_48 221 = .inl (t.1, 10, .inl o) := (o_50 _ (by omega)).trans e_52
            have e_54 : g_1 222 = .inl (t.1, 10, .inl pr) := (o_3 _ (by omega)).trans m222
            have e_55 : g_45 222 = .inl (t.1, 10, .inl pr) := (o_47 _ (by omega)).trans e_54
            have e_56 : g_48 222 = .inl (t.1, 10, .inl pr) := (o_50 _ (by omega)).trans e_55
            have e_57 : g_1 223 = .inl (t.1, 8, .inl w) := (o_3 _ (by omega)).trans m223
            have e_58 : g_45 223 = .inl (t.1, 8, .inl w) := (o_47 _ (by omega)).trans e_57
            have e_59 : g_48 223 = .inl (t.1, 8, .inl w) := (o_50 _ (by omega)).trans e_58
            exact r_zret C hr hlocks hS (by decide) (Or.inl ⟨⟨c_4, c_8⟩, Or.inr (Or.inr (Or.inl c_44)), rfl, ⟨e_49, e_53, e_56, e_59⟩, fun j hj => (o_50 j (by omega)).trans ((o_47 j (by omega)).trans (o_3 j (by omega)))⟩) dX8_watch_49
          · skip
            refine lv_iload_n C.x C.b dX8_watch_30 rfl (lv_at hl 2 rfl) ?_
            refine lv_bipush (v := 8) C.x C.b dX8_watch_31 (by decide) ?_
            refine lv_icmp_eq (tgt := 38) C.x C.b dX8_watch_33 (by decide) (fun c_60 => ?_) (fun c_60 => ?_)
            · skip
              refine lv_aload_n C.x C.b dX8_watch_38 rfl (lv_at hl 0 rfl) ?_
              refine lv_iload_n C.x C.b dX8_watch_39 rfl (lv_at hl 1 rfl) ?_
              refine r_put ck8 flX8_19 C hS (by omega) e_2 (by decide) rfl rfl rfl (Nat.le_of_ble_eq_true rfl) dX8_watch_40 (fun g_61 H locs e_62 o_63 hS => ?_)
              replace e_62 : g_61 220 = .inr (8, [.int 0, .int (nI n), .ref (B + 221), .ref (B + 222), .ref (B + 223), .int x, .int wi, .int ev, .ref (B + 224), .ref (B + 225), .ref (B + 226), .ref (B + 227), .ref (B + 228), .ref (B + 229), .ref (B + 230), .ref (B + 231), .ref (B + 232), .ref (B + 233), .ref (B + 234), .ref (B + 235), .ref (B + 236), .int po, .int ps]) := e_62
              refine lv_aload_n C.x C.b dX8_watch_43 rfl (lv_at hl 0 rfl) ?_
              refine lv_iload_n C.x C.b dX8_watch_44 rfl (lv_at hl 2 rfl) ?_
              refine r_put ck8 flX8_23 C hS (by omega) e_62 (by decide) rfl rfl rfl (Nat.le_of_ble_eq_true rfl) dX8_watch_45 (fun g_64 H locs e_65 o_66 hS => ?_)
              replace e_65 : g_64 220 = .inr (8, [.int 0, .int (nI n), .ref (B + 221), .ref (B + 222), .ref (B + 223), .int x, .int y, .int ev, .ref (B + 224), .ref (B + 225), .ref (B + 226), .ref (B + 227), .ref (B + 228), .ref (B + 229), .ref (B + 230), .ref (B + 231), .ref (B + 232), .ref (B + 233), .ref (B + 234), .ref (B + 235), .ref (B + 236), .int po, .int ps]) := e_65
              refine lv_iconst (v := 1) C.x C.b dX8_watch_48 (by decide) ?_
              have e_67 : g_1 221 = .inl (t.1, 10, .inl o) := (o_3 _ (by omega)).trans m221
              have e_68 : g_61 221 = .inl (t.1, 10, .inl o) := (o_63 _ (by omega)).trans e_67
              have e_69 : g_64 221 = .inl (t.1, 10, .inl o) := (o_66 _ (by omega)).trans e_68
              have e_70 : g_1 222 = .inl (t.1, 10, .inl pr) := (o_3 _ (by omega)).trans m222
              have e_71 : g_61 222 = .inl (t.1, 10, .inl pr) := (o_63 _ (by omega)).trans e_70
              have e_72 : g_64 222 = .inl (t.1, 10, .inl pr) := (o_66 _ (by omega)).trans e_71
              have e_73 : g_1 223 = .inl (t.1, 8, .inl w) := (o_3 _ (by omega)).trans m223
              have e_74 : g_61 223 = .inl (t.1, 8, .inl w) := (o_63 _ (by omega)).trans e_73
              have e_75 : g_64 223 = .inl (t.1, 8, .inl w) := (o_66 _ (by omega)).trans e_74
              exact r_zret C hr hlocks hS (by decide) (Or.inl ⟨⟨c_4, c_8⟩, Or.inr (Or.inr (Or.inr (c_60))), rfl, ⟨e_65, e_69, e_72, e_75⟩, fun j hj => (o_66 j (by omega)).trans ((o_63 j (by omega)).trans (o_3 j (by omega)))⟩) dX8_watch_49
            · skip
              refine lv_iconst (v := 0) C.x C.b dX8_watch_36 (by decide) ?_
              have e_76 : g_1 221 = .inl (t.1, 10, .inl o) := (o_3 _ (by omega)).trans m221
              have e_77 : g_1 222 = .inl (t.1, 10, .inl pr) := (o_3 _ (by omega)).trans m222
              have e_78 : g_1 223 = .inl (t.1, 8, .inl w) := (o_3 _ (by omega)).trans m223
              exact r_zret C hr hlocks hS (by decide) (Or.inr ⟨(fun q => q.2.elim c_12 (fun q => q.elim c_28 (fun q => q.elim c_44 c_60))), rfl, ⟨e_2, e_76, e_77, e_78⟩, fun j hj => (o_3 j (by omega))⟩) dX8_watch_37
set_option maxHeartbeats 1000000 in
set_option maxRecDepth 100000 in
theorem c_X8_even (l : Launch) (D : va_G) (t : Gx) (B N : Nat) (g : Nat → va_E) (td : Int32) (n : Nat) (ey wi ev po ps : Int32) (o : Nat → Int32) (pr : Nat → Int32) (w : Nat → Int32) (x y : Int32) (hN : 236 < N) (m220 : g 220 = mObj B td n ey wi ev po ps) (m221 : g 221 = .inl (t.1, 10, .inl o)) (m222 : g 222 = .inl (t.1, 10, .inl pr)) (m223 : g 223 = .inl (t.1, 8, .inl w)) (hn : n ≤ 8) : Ci l D t B N yX8_even cX8_even 3 (some .boolean) 1 21 g [.ref (B + 220), .int x, .int y] (fun r g' => (inP n x ∧ ¬ hevM ev x = y ∧ r = 1 ∧ Mco t B g' 0 n ey wi (ev ^^^ (1 <<< (x &&& 31))) po ps o pr w ∧ (∀ j, (j < 220 ∨ 223 < j) → g' j = g j)) ∨ (¬ (inP n x ∧ ¬ hevM ev x = y) ∧ r = 0 ∧ Mco t B g' 0 n ey wi ev po ps o pr w ∧ (∀ j, (j < 220 ∨ 223 < j) → g' j = g j))) := by
  refine Ci.start (by decide) (Nat.le_of_ble_eq_true rfl) ?_
  intro p e s m below meth c ls C hr hlocks hS hl
  replace C : Cx D t p s m [.ref (B + 220), .int x, .int y].toArray c cX8_even 3 RX8 := C
  replace hl : lv_has ls 3 [(0, .ref (B + 220)), (1, .int x), (2, .int y)] := hl
  replace m220 : g 220 = .inr (8, [.int td, .int (nI n), .ref (B + 221), .ref (B + 222), .ref (B + 223), .int ey, .int wi, .int ev, .ref (B + 224), .ref (B + 225), .ref (B + 226), .ref (B + 227), .ref (B + 228), .ref (B + 229), .ref (B + 230), .ref (B + 231), .ref (B + 232), .ref (B + 233), .ref (B + 234), .ref (B + 235), .ref (B + 236), .int po, .int ps]) := m220
  refine lv_aload_n C.x C.b dX8_even_0 rfl (lv_at hl 0 rfl) ?_
  refine lv_iconst (v := 0) C.x C.b dX8_even_1 (by decide) ?_
  refine r_put ck8 flX8_66 C hS (by omega) m220 (by decide) rfl rfl rfl (Nat.le_of_ble_eq_true rfl) dX8_even_2 (fun g_1 H locs e_2 o_3 hS => ?_)
  replace e_2 : g_1 220 = .inr (8, [.int 0, .int (nI n), .ref (B + 221), .ref (B + 222), .ref (B + 223), .int ey, .int wi, .int ev, .ref (B + 224), .ref (B + 225), .ref (B + 226), .ref (B + 227), .ref (B + 228), .ref (B + 229), .ref (B + 230), .ref (B + 231), .ref (B + 232), .ref (B + 233), .ref (B + 234), .ref (B + 235), .ref (B + 236), .int po, .int ps]) := e_2
  refine lv_aload_n C.x C.b dX8_even_5 rfl (lv_at hl 0 rfl) ?_
  refine lv_iload_n C.x C.b dX8_even_6 rfl (lv_at hl 1 rfl) ?_
  refine r_callV (b := 220) (As := [.int x]) (rest := []) (c_X8_isPlace l D t B N g_1 _ _ _ _ _ _ _ x (by omega) e_2  ) mf_yX8_isPlace mlX8_77 im_yX8_isPlace se_yX8_isPlace (by decide) C hS (by omega) e_2 (show vwCl[8]? = some _ from rfl) rfl rfl hl.1 rfl (Nat.le_of_ble_eq_true rfl) dX8_even_7 ⟨Nat.zero_le _, Nat.zero_le _⟩ (fun r_6 g_4 H locs w_5 hS => ?_)
  obtain ⟨rfl, er_6⟩ := w_5
  by_cases b_7 : inP n x
  · rw [bz_t b_7] at er_6
    subst er_6
    refine lv_if_eq (tgt := 34) C.x C.b dX8_even_10 (by decide) (fun c_8 => absurd c_8 (by decide)) (fun c_8 => ?_)
    refine lv_aload_n C.x C.b dX8_even_13 rfl (lv_at hl 0 rfl) ?_
    refine r_get ck8 flX8_80 C hS (by omega) e_2 (by decide) rfl dX8_even_14 ?_
    refine lv_iload_n C.x C.b dX8_even_17 rfl (lv_at hl 1 rfl) ?_
    refine lv_ishr C.x C.b dX8_even_18 ?_
    refine lv_iconst (v := 1) C.x C.b dX8_even_19 (by decide) ?_
    refine lv_iand C.x C.b dX8_even_20 ?_
    refine lv_iconst (v := 1) C.x C.b dX8_even_21 (by decide) ?_
    refine lv_icmp_ne (tgt := 29) C.x C.b dX8_even_22 (by decide) (fun c_9 => ?_) (fun c_9 => ?_)
    · skip
      refine lv_iconst (v := 0) C.x C.b dX8_even_29 (by decide) ?_
      refine lv_iload_n C.x C.b dX8_even_30 rfl (lv_at hl 2 rfl) ?_
      refine lv_icmp_ne (tgt := 36) C.x C.b dX8_even_31 (by decide) (fun c_10 => ?_) (fun c_10 => ?_)
      · skip
        refine lv_aload_n C.x C.b dX8_even_36 rfl (lv_at hl 0 rfl) ?_
        refine lv_aload_n C.x C.b dX8_even_37 rfl (lv_at hl 0 rfl) ?_
        refine r_get ck8 flX8_80 C hS (by omega) e_2 (by decide) rfl dX8_even_38 ?_
        refine lv_iconst (v := 1) C.x C.b dX8_even_41 (by decide) ?_
        refine lv_iload_n C.x C.b dX8_even_42 rfl (lv_at hl 1 rfl) ?_
        refine lv_ishl C.x C.b dX8_even_43 ?_
        refine lv_ixor C.x C.b dX8_even_44 ?_
        refine r_put ck8 flX8_80 C hS (by omega) e_2 (by decide) rfl rfl rfl (Nat.le_of_ble_eq_true rfl) dX8_even_45 (fun g_11 H locs e_12 o_13 hS => ?_)
        replace e_12 : g_11 220 = .inr (8, [.int 0, .int (nI n), .ref (B + 221), .ref (B + 222), .ref (B + 223), .int ey, .int wi, .int (ev ^^^ (1 <<< (x &&& 31))), .ref (B + 224), .ref (B + 225), .ref (B + 226), .ref (B + 227), .ref (B + 228), .ref (B + 229), .ref (B + 230), .ref (B + 231), .ref (B + 232), .ref (B + 233), .ref (B + 234), .ref (B + 235), .ref (B + 236), .int po, .int ps]) := e_12
        refine lv_iconst (v := 1) C.x C.b dX8_even_48 (by decide) ?_
        have z_14 : hevM ev x = 0 := if_neg c_9
        have e_15 : g_1 221 = .inl (t.1, 10, .inl o) := (o_3 _ (by omega)).trans m221
        have e_16 : g_11 221 = .inl (t.1, 10, .inl o) := (o_13 _ (by omega)).trans e_15
        have e_17 : g_1 222 = .inl (t.1, 10, .inl pr) := (o_3 _ (by omega)).trans m222
        have e_18 : g_11 222 = .inl (t.1, 10, .inl pr) := (o_13 _ (by omega)).trans e_17
        have e_19 : g_1 223 = .inl (t.1, 8, .inl w) := (o_3 _ (by omega)).trans m223
        have e_20 : g_11 223 = .inl (t.1, 8, .inl w) := (o_13 _ (by omega)).trans e_19
        exact r_zret C hr hlocks hS (by decide) (Or.inl ⟨b_7, by rw [z_14]; exact c_10, rfl, ⟨e_12, e_16, e_18, e_20⟩, fun j hj => (o_13 j (by omega)).trans (o_3 j (by omega))⟩) dX8_even_49
      · skip
        refine lv_iconst (v := 0) C.x C.b dX8_even_34 (by decide) ?_
        have z_21 : hevM ev x = 0 := if_neg c_9
        have e_22 : g_1 221 = .inl (t.1, 10, .inl o) := (o_3 _ (by omega)).trans m221
        have e_23 : g_1 222 = .inl (t.1, 10, .inl pr) := (o_3 _ (by omega)).trans m222
        have e_24 : g_1 223 = .inl (t.1, 8, .inl w) := (o_3 _ (by omega)).trans m223
        exact r_zret C hr hlocks hS (by decide) (Or.inr ⟨(fun q => q.2 (by rw [z_21]; exact c_10)), rfl, ⟨e_2, e_22, e_23, e_24⟩, fun j hj => (o_3 j (by omega))⟩) dX8_even_35
    · skip
      refine lv_iconst (v := 1) C.x C.b dX8_even_25 (by decide) ?_
      refine lv_goto (tgt := 30) C.x C.b dX8_even_26 (by decide) ?_
      refine lv_iload_n C.x C.b dX8_even_30 rfl (lv_at hl 2 rfl) ?_
      refine lv_icmp_ne (tgt := 36) C.x C.b dX8_even_31 (by decide) (fun c_25 => ?_) (fun c_25 => ?_)
      · skip
        refine lv_aload_n C.x C.b dX8_even_36 rfl (lv_at hl 0 rfl) ?_
        refine lv_aload_n C.x C.b dX8_even_37 rfl (lv_at hl 0 rfl) ?_
        refine r_get ck8 flX8_80 C hS (by omega) e_2 (by decide) rfl dX8_even_38 ?_
        refine lv_iconst (v := 1) C.x C.b dX8_even_41 (by decide) ?_
        refine lv_iload_n C.x C.b dX8_even_42 rfl (lv_at hl 1 rfl) ?_
        refine lv_ishl C.x C.b dX8_even_43 ?_
        refine lv_ixor C.x C.b dX8_even_44 ?_
        refine r_put ck8 flX8_80 C hS (by omega) e_2 (by decide) rfl rfl rfl (Nat.le_of_ble_eq_true rfl) dX8_even_45 (fun g_26 H locs e_27 o_28 hS => ?_)
        replace e_27 : g_26 220 = .inr (8, [.int 0, .int (nI n), .ref (B + 221), .ref (B + 222), .ref (B + 223), .int ey, .int wi, .int (ev ^^^ (1 <<< (x &&& 31))), .ref (B + 224), .ref (B + 225), .ref (B + 226), .ref (B + 227), .ref (B + 228), .ref (B + 229), .ref (B + 230), .ref (B + 231), .ref (B + 232), .ref (B + 233), .ref (B + 234), .ref (B + 235), .ref (B + 236), .int po, .int ps]) := e_27
        refine lv_iconst (v := 1) C.x C.b dX8_even_48 (by decide) ?_
        have z_29 : hevM ev x = 1 := if_pos c_9
        have e_30 : g_1 221 = .inl (t.1, 10, .inl o) := (o_3 _ (by omega)).trans m221
        have e_31 : g_26 221 = .inl (t.1, 10, .inl o) := (o_28 _ (by omega)).trans e_30
        have e_32 : g_1 222 = .inl (t.1, 10, .inl pr) := (o_3 _ (by omega)).trans m222
        have e_33 : g_26 222 = .inl (t.1, 10, .inl pr) := (o_28 _ (by omega)).trans e_32
        have e_34 : g_1 223 = .inl (t.1, 8, .inl w) := (o_3 _ (by omega)).trans m223
        have e_35 : g_26 223 = .inl (t.1, 8, .inl w) := (o_28 _ (by omega)).trans e_34
        exact r_zret C hr hlocks hS (by decide) (Or.inl ⟨b_7, by rw [z_29]; exact c_25, rfl, ⟨e_27, e_31, e_33, e_35⟩, fun j hj => (o_28 j (by omega)).trans (o_3 j (by omega))⟩) dX8_even_49
      · skip
        refine lv_iconst (v := 0) C.x C.b dX8_even_34 (by decide) ?_
        have z_36 : hevM ev x = 1 := if_pos c_9
        have e_37 : g_1 221 = .inl (t.1, 10, .inl o) := (o_3 _ (by omega)).trans m221
        have e_38 : g_1 222 = .inl (t.1, 10, .inl pr) := (o_3 _ (by omega)).trans m222
        have e_39 : g_1 223 = .inl (t.1, 8, .inl w) := (o_3 _ (by omega)).trans m223
        exact r_zret C hr hlocks hS (by decide) (Or.inr ⟨(fun q => q.2 (by rw [z_36]; exact c_25)), rfl, ⟨e_2, e_37, e_38, e_39⟩, fun j hj => (o_3 j (by omega))⟩) dX8_even_35
  · rw [bz_f b_7] at er_6
    subst er_6
    refine lv_if_eq (tgt := 34) C.x C.b dX8_even_10 (by decide) (fun c_40 => ?_) (fun c_40 => absurd (by decide) c_40)
    refine lv_iconst (v := 0) C.x C.b dX8_even_34 (by decide) ?_
    have e_41 : g_1 221 = .inl (t.1, 10, .inl o) := (o_3 _ (by omega)).trans m221
    have e_42 : g_1 222 = .inl (t.1, 10, .inl pr) := (o_3 _ (by omega)).trans m222
    have e_43 : g_1 223 = .inl (t.1, 8, .inl w) := (o_3 _ (by omega)).trans m223
    exact r_zret C hr hlocks hS (by decide) (Or.inr ⟨(fun q => b_7 q.1), rfl, ⟨e_2, e_41, e_42, e_43⟩, fun j hj => (o_3 j (by omega))⟩) dX8_even_35
set_option maxHeartbeats 1000000 in
set_option maxRecDepth 100000 in
theorem c_X8_price (l : Launch) (D : va_G) (t : Gx) (B N : Nat) (g : Nat → va_E) (td : Int32) (n : Nat) (ey wi ev po ps : Int32) (o : Nat → Int32) (pr : Nat → Int32) (w : Nat → Int32) (x y : Int32) (hN : 236 < N) (m220 : g 220 = mObj B td n ey wi ev po ps) (m221 : g 221 = .inl (t.1, 10, .inl o)) (m222 : g 222 = .inl (t.1, 10, .inl pr)) (m223 : g 223 = .inl (t.1, 8, .inl w)) (hn : n ≤ 8) : Ci l D t B N yX8_price cX8_price 3 (some .boolean) 1 21 g [.ref (B + 220), .int x, .int y] (fun r g' => (∃ q, q < n ∧ x = nI q ∧ okPr y ∧ r = 1 ∧ Mco t B g' 0 n ey wi ev po ps o (upd pr q y) w ∧ (∀ j, (j < 220 ∨ 223 < j) → g' j = g j)) ∨ (¬ (inP n x ∧ okPr y) ∧ r = 0 ∧ Mco t B g' 0 n ey wi ev po ps o pr w ∧ (∀ j, (j < 220 ∨ 223 < j) → g' j = g j))) := by
  refine Ci.start (by decide) (Nat.le_of_ble_eq_true rfl) ?_
  intro p e s m below meth c ls C hr hlocks hS hl
  replace C : Cx D t p s m [.ref (B + 220), .int x, .int y].toArray c cX8_price 3 RX8 := C
  replace hl : lv_has ls 3 [(0, .ref (B + 220)), (1, .int x), (2, .int y)] := hl
  replace m220 : g 220 = .inr (8, [.int td, .int (nI n), .ref (B + 221), .ref (B + 222), .ref (B + 223), .int ey, .int wi, .int ev, .ref (B + 224), .ref (B + 225), .ref (B + 226), .ref (B + 227), .ref (B + 228), .ref (B + 229), .ref (B + 230), .ref (B + 231), .ref (B + 232), .ref (B + 233), .ref (B + 234), .ref (B + 235), .ref (B + 236), .int po, .int ps]) := m220
  refine lv_aload_n C.x C.b dX8_price_0 rfl (lv_at hl 0 rfl) ?_
  refine lv_iconst (v := 0) C.x C.b dX8_price_1 (by decide) ?_
  refine r_put ck8 flX8_66 C hS (by omega) m220 (by decide) rfl rfl rfl (Nat.le_of_ble_eq_true rfl) dX8_price_2 (fun g_1 H locs e_2 o_3 hS => ?_)
  replace e_2 : g_1 220 = .inr (8, [.int 0, .int (nI n), .ref (B + 221), .ref (B + 222), .ref (B + 223), .int ey, .int wi, .int ev, .ref (B + 224), .ref (B + 225), .ref (B + 226), .ref (B + 227), .ref (B + 228), .ref (B + 229), .ref (B + 230), .ref (B + 231), .ref (B + 232), .ref (B + 233), .ref (B + 234), .ref (B + 235), .ref (B + 236), .int po, .int ps]) := e_2
  refine lv_aload_n C.x C.b dX8_price_5 rfl (lv_at hl 0 rfl) ?_
  refine lv_iload_n C.x C.b dX8_price_6 rfl (lv_at hl 1 rfl) ?_
  refine r_callV (b := 220) (As := [.int x]) (rest := []) (c_X8_isPlace l D t B N g_1 _ _ _ _ _ _ _ x (by omega) e_2  ) mf_yX8_isPlace mlX8_77 im_yX8_isPlace se_yX8_isPlace (by decide) C hS (by omega) e_2 (show vwCl[8]? = some _ from rfl) rfl rfl hl.1 rfl (Nat.le_of_ble_eq_true rfl) dX8_price_7 ⟨Nat.zero_le _, Nat.zero_le _⟩ (fun r_6 g_4 H locs w_5 hS => ?_)
  obtain ⟨rfl, er_6⟩ := w_5
  by_cases b_7 : inP n x
  · rw [bz_t b_7] at er_6
    subst er_6
    obtain ⟨q, hq, rfl⟩ := inP_nI b_7 (by omega)
    refine lv_if_eq (tgt := 23) C.x C.b dX8_price_10 (by decide) (fun c_8 => absurd c_8 (by decide)) (fun c_8 => ?_)
    refine lv_iload_n C.x C.b dX8_price_13 rfl (lv_at hl 2 rfl) ?_
    refine lv_if_lt (tgt := 23) C.x C.b dX8_price_14 (by decide) (fun c_9 => ?_) (fun c_9 => ?_)
    · skip
      refine lv_iconst (v := 0) C.x C.b dX8_price_23 (by decide) ?_
      have e_10 : g_1 221 = .inl (t.1, 10, .inl o) := (o_3 _ (by omega)).trans m221
      have e_11 : g_1 222 = .inl (t.1, 10, .inl pr) := (o_3 _ (by omega)).trans m222
      have e_12 : g_1 223 = .inl (t.1, 8, .inl w) := (o_3 _ (by omega)).trans m223
      exact r_zret C hr hlocks hS (by decide) (Or.inr ⟨(fun q => q.2.1 c_9), rfl, ⟨e_2, e_10, e_11, e_12⟩, fun j hj => (o_3 j (by omega))⟩) dX8_price_24
    · skip
      refine lv_iload_n C.x C.b dX8_price_17 rfl (lv_at hl 2 rfl) ?_
      refine lv_bipush (v := 99) C.x C.b dX8_price_18 (by decide) ?_
      refine lv_icmp_le (tgt := 25) C.x C.b dX8_price_20 (by decide) (fun c_13 => ?_) (fun c_13 => ?_)
      · skip
        refine lv_aload_n C.x C.b dX8_price_25 rfl (lv_at hl 0 rfl) ?_
        refine r_get ck8 flX8_13 C hS (by omega) e_2 (by decide) rfl dX8_price_26 ?_
        refine lv_iload_n C.x C.b dX8_price_29 rfl (lv_at hl 1 rfl) ?_
        refine lv_iload_n C.x C.b dX8_price_30 rfl (lv_at hl 2 rfl) ?_
        have e_14 : g_1 222 = .inl (t.1, 10, .inl pr) := (o_3 _ (by omega)).trans m222
        refine r_iastN q rfl (by omega) (by decide) C hS (by omega) e_14 dX8_price_31 (fun g_15 H locs e_16 o_17 hS => ?_)
        replace e_16 : g_15 222 = .inl (t.1, 10, .inl (upd pr q y)) := e_16
        refine lv_iconst (v := 1) C.x C.b dX8_price_32 (by decide) ?_
        have e_18 : g_15 220 = .inr (8, [.int 0, .int (nI n), .ref (B + 221), .ref (B + 222), .ref (B + 223), .int ey, .int wi, .int ev, .ref (B + 224), .ref (B + 225), .ref (B + 226), .ref (B + 227), .ref (B + 228), .ref (B + 229), .ref (B + 230), .ref (B + 231), .ref (B + 232), .ref (B + 233), .ref (B + 234), .ref (B + 235), .ref (B + 236), .int po, .int ps]) := (o_17 _ (by omega)).trans e_2
        have e_19 : g_1 221 = .inl (t.1, 10, .inl o) := (o_3 _ (by omega)).trans m221
        have e_20 : g_15 221 = .inl (t.1, 10, .inl o) := (o_17 _ (by omega)).trans e_19
        have e_21 : g_1 223 = .inl (t.1, 8, .inl w) := (o_3 _ (by omega)).trans m223
        have e_22 : g_15 223 = .inl (t.1, 8, .inl w) := (o_17 _ (by omega)).trans e_21
        exact r_zret C hr hlocks hS (by decide) (Or.inl ⟨q, hq, rfl, ⟨c_9, c_13⟩, rfl, ⟨e_18, e_20, e_16, e_22⟩, fun j hj => (o_17 j (by omega)).trans (o_3 j (by omega))⟩) dX8_price_33
      · skip
        refine lv_iconst (v := 0) C.x C.b dX8_price_23 (by decide) ?_
        have e_23 : g_1 221 = .inl (t.1, 10, .inl o) := (o_3 _ (by omega)).trans m221
        have e_24 : g_1 222 = .inl (t.1, 10, .inl pr) := (o_3 _ (by omega)).trans m222
        have e_25 : g_1 223 = .inl (t.1, 8, .inl w) := (o_3 _ (by omega)).trans m223
        exact r_zret C hr hlocks hS (by decide) (Or.inr ⟨(fun q => c_13 q.2.2), rfl, ⟨e_2, e_23, e_24, e_25⟩, fun j hj => (o_3 j (by omega))⟩) dX8_price_24
  · rw [bz_f b_7] at er_6
    subst er_6
    refine lv_if_eq (tgt := 23) C.x C.b dX8_price_10 (by decide) (fun c_26 => ?_) (fun c_26 => absurd (by decide) c_26)
    refine lv_iconst (v := 0) C.x C.b dX8_price_23 (by decide) ?_
    have e_27 : g_1 221 = .inl (t.1, 10, .inl o) := (o_3 _ (by omega)).trans m221
    have e_28 : g_1 222 = .inl (t.1, 10, .inl pr) := (o_3 _ (by omega)).trans m222
    have e_29 : g_1 223 = .inl (t.1, 8, .inl w) := (o_3 _ (by omega)).trans m223
    exact r_zret C hr hlocks hS (by decide) (Or.inr ⟨(fun q => b_7 q.1), rfl, ⟨e_2, e_27, e_28, e_29⟩, fun j hj => (o_3 j (by omega))⟩) dX8_price_24
set_option maxHeartbeats 1000000 in
set_option maxRecDepth 100000 in
theorem c_X8_look (l : Launch) (D : va_G) (t : Gx) (B N : Nat) (g : Nat → va_E) (td : Int32) (n : Nat) (ey wi ev po ps : Int32) (o : Nat → Int32) (pr : Nat → Int32) (w : Nat → Int32) (x : Int32) (hN : 236 < N) (m220 : g 220 = mObj B td n ey wi ev po ps) (m221 : g 221 = .inl (t.1, 10, .inl o)) (m222 : g 222 = .inl (t.1, 10, .inl pr)) (m223 : g 223 = .inl (t.1, 8, .inl w)) (hn : n ≤ 8) : Ci l D t B N yX8_look cX8_look 2 (some .int) 1 21 g [.ref (B + 220), .int x] (fun r g' => r = lookM o pr w n ey wi ev x ∧ Mco t B g' 0 n ey wi ev po ps o pr w ∧ (∀ j, (j < 220 ∨ 223 < j) → g' j = g j)) := by
  refine Ci.start (by decide) (Nat.le_of_ble_eq_true rfl) ?_
  intro p e s m below meth c ls C hr hlocks hS hl
  replace C : Cx D t p s m [.ref (B + 220), .int x].toArray c cX8_look 2 RX8 := C
  replace hl : lv_has ls 2 [(0, .ref (B + 220)), (1, .int x)] := hl
  replace m220 : g 220 = .inr (8, [.int td, .int (nI n), .ref (B + 221), .ref (B + 222), .ref (B + 223), .int ey, .int wi, .int ev, .ref (B + 224), .ref (B + 225), .ref (B + 226), .ref (B + 227), .ref (B + 228), .ref (B + 229), .ref (B + 230), .ref (B + 231), .ref (B + 232), .ref (B + 233), .ref (B + 234), .ref (B + 235), .ref (B + 236), .int po, .int ps]) := m220
  refine lv_aload_n C.x C.b dX8_look_0 rfl (lv_at hl 0 rfl) ?_
  refine lv_iconst (v := 0) C.x C.b dX8_look_1 (by decide) ?_
  refine r_put ck8 flX8_66 C hS (by omega) m220 (by decide) rfl rfl rfl (Nat.le_of_ble_eq_true rfl) dX8_look_2 (fun g_1 H locs e_2 o_3 hS => ?_)
  replace e_2 : g_1 220 = .inr (8, [.int 0, .int (nI n), .ref (B + 221), .ref (B + 222), .ref (B + 223), .int ey, .int wi, .int ev, .ref (B + 224), .ref (B + 225), .ref (B + 226), .ref (B + 227), .ref (B + 228), .ref (B + 229), .ref (B + 230), .ref (B + 231), .ref (B + 232), .ref (B + 233), .ref (B + 234), .ref (B + 235), .ref (B + 236), .int po, .int ps]) := e_2
  refine lv_iload_n C.x C.b dX8_look_5 rfl (lv_at hl 1 rfl) ?_
  refine lv_if_ne (tgt := 14) C.x C.b dX8_look_6 (by decide) (fun c_4 => ?_) (fun c_4 => ?_)
  · skip
    refine lv_iload_n C.x C.b dX8_look_14 rfl (lv_at hl 1 rfl) ?_
    refine lv_iconst (v := 1) C.x C.b dX8_look_15 (by decide) ?_
    refine lv_icmp_ne (tgt := 24) C.x C.b dX8_look_16 (by decide) (fun c_5 => ?_) (fun c_5 => ?_)
    · skip
      refine lv_iload_n C.x C.b dX8_look_24 rfl (lv_at hl 1 rfl) ?_
      refine lv_iconst (v := 2) C.x C.b dX8_look_25 (by decide) ?_
      refine lv_icmp_ne (tgt := 34) C.x C.b dX8_look_26 (by decide) (fun c_6 => ?_) (fun c_6 => ?_)
      · skip
        refine lv_iload_n C.x C.b dX8_look_34 rfl (lv_at hl 1 rfl) ?_
        refine lv_iconst (v := 3) C.x C.b dX8_look_35 (by decide) ?_
        refine lv_icmp_ne (tgt := 44) C.x C.b dX8_look_36 (by decide) (fun c_7 => ?_) (fun c_7 => ?_)
        · skip
          refine lv_iload_n C.x C.b dX8_look_44 rfl (lv_at hl 1 rfl) ?_
          refine lv_bipush (v := 10) C.x C.b dX8_look_45 (by decide) ?_
          refine lv_icmp_lt (tgt := 71) C.x C.b dX8_look_47 (by decide) (fun c_8 => ?_) (fun c_8 => ?_)
          · skip
            refine lv_iload_n C.x C.b dX8_look_71 rfl (lv_at hl 1 rfl) ?_
            refine lv_bipush (v := 30) C.x C.b dX8_look_72 (by decide) ?_
            refine lv_icmp_lt (tgt := 98) C.x C.b dX8_look_74 (by decide) (fun c_9 => ?_) (fun c_9 => ?_)
            · skip
              refine lv_iload_n C.x C.b dX8_look_98 rfl (lv_at hl 1 rfl) ?_
              refine lv_bipush (v := 50) C.x C.b dX8_look_99 (by decide) ?_
              refine lv_icmp_lt (tgt := 122) C.x C.b dX8_look_101 (by decide) (fun c_10 => ?_) (fun c_10 => ?_)
              · skip
                refine lv_sipush (v := (-1001)) C.x C.b dX8_look_122 (by decide) ?_
                have e_11 : g_1 221 = .inl (t.1, 10, .inl o) := (o_3 _ (by omega)).trans m221
                have e_12 : g_1 222 = .inl (t.1, 10, .inl pr) := (o_3 _ (by omega)).trans m222
                have e_13 : g_1 223 = .inl (t.1, 8, .inl w) := (o_3 _ (by omega)).trans m223
                exact r_iret C hr hlocks hS ⟨by rw [lookM, if_neg c_4, if_neg c_5, if_neg c_6, if_neg c_7, if_neg (fun q => q.1 c_8), if_neg (fun q => q.1 c_9), if_neg (fun q => q.1 c_10)], ⟨e_2, e_11, e_12, e_13⟩, fun j hj => (o_3 j (by omega))⟩ dX8_look_125
              · skip
                refine lv_iload_n C.x C.b dX8_look_104 rfl (lv_at hl 1 rfl) ?_
                refine lv_bipush (v := 58) C.x C.b dX8_look_105 (by decide) ?_
                refine lv_icmp_ge (tgt := 122) C.x C.b dX8_look_107 (by decide) (fun c_14 => ?_) (fun c_14 => ?_)
                · skip
                  refine lv_sipush (v := (-1001)) C.x C.b dX8_look_122 (by decide) ?_
                  have e_15 : g_1 221 = .inl (t.1, 10, .inl o) := (o_3 _ (by omega)).trans m221
                  have e_16 : g_1 222 = .inl (t.1, 10, .inl pr) := (o_3 _ (by omega)).trans m222
                  have e_17 : g_1 223 = .inl (t.1, 8, .inl w) := (o_3 _ (by omega)).trans m223
                  exact r_iret C hr hlocks hS ⟨by rw [lookM, if_neg c_4, if_neg c_5, if_neg c_6, if_neg c_7, if_neg (fun q => q.1 c_8), if_neg (fun q => q.1 c_9), if_neg (fun q => q.2 c_14)], ⟨e_2, e_15, e_16, e_17⟩, fun j hj => (o_3 j (by omega))⟩ dX8_look_125
                · skip
                  have hv50 : vp_in (x - 50) 8 := ixv 50 c_10 (show ¬ nI 50 + nI 8 ≤ x from c_14) (by omega) (by omega)
                  refine lv_aload_n C.x C.b dX8_look_110 rfl (lv_at hl 0 rfl) ?_
                  refine r_get ck8 flX8_16 C hS (by omega) e_2 (by decide) rfl dX8_look_111 ?_
                  refine lv_iload_n C.x C.b dX8_look_114 rfl (lv_at hl 1 rfl) ?_
                  refine lv_bipush (v := 50) C.x C.b dX8_look_115 (by decide) ?_
                  refine lv_isub C.x C.b dX8_look_117 ?_
                  have e_18 : g_1 223 = .inl (t.1, 8, .inl w) := (o_3 _ (by omega)).trans m223
                  refine r_iald C hS (by omega) e_18 hv50 dX8_look_118 ?_
                  refine lv_goto (tgt := 125) C.x C.b dX8_look_119 (by decide) ?_
                  have e_19 : g_1 221 = .inl (t.1, 10, .inl o) := (o_3 _ (by omega)).trans m221
                  have e_20 : g_1 222 = .inl (t.1, 10, .inl pr) := (o_3 _ (by omega)).trans m222
                  exact r_iret C hr hlocks hS ⟨by rw [lookM, if_neg c_4, if_neg c_5, if_neg c_6, if_neg c_7, if_neg (fun q => q.1 c_8), if_neg (fun q => q.1 c_9), if_pos ⟨c_10, c_14⟩], ⟨e_2, e_19, e_20, e_18⟩, fun j hj => (o_3 j (by omega))⟩ dX8_look_125
            · skip
              refine lv_aload_n C.x C.b dX8_look_77 rfl (lv_at hl 0 rfl) ?_
              refine lv_iload_n C.x C.b dX8_look_78 rfl (lv_at hl 1 rfl) ?_
              refine lv_bipush (v := 30) C.x C.b dX8_look_79 (by decide) ?_
              refine lv_isub C.x C.b dX8_look_81 ?_
              refine r_callV (b := 220) (As := [.int (x - 30)]) (rest := []) (c_X8_isPlace l D t B N g_1 _ _ _ _ _ _ _ (x - 30) (by omega) e_2  ) mf_yX8_isPlace mlX8_77 im_yX8_isPlace se_yX8_isPlace (by decide) C hS (by omega) e_2 (show vwCl[8]? = some _ from rfl) rfl rfl hl.1 rfl (Nat.le_of_ble_eq_true rfl) dX8_look_82 ⟨Nat.zero_le _, Nat.zero_le _⟩ (fun r_23 g_21 H locs w_22 hS => ?_)
              obtain ⟨rfl, er_23⟩ := w_22
              by_cases b_24 : inP n (x - 30)
              · rw [bz_t b_24] at er_23
                subst er_23
                refine lv_if_eq (tgt := 98) C.x C.b dX8_look_85 (by decide) (fun c_25 => absurd c_25 (by decide)) (fun c_25 => ?_)
                have hv30 : vp_in (x - 30) 10 := inv10 b_24 (by omega)
                refine lv_aload_n C.x C.b dX8_look_88 rfl (lv_at hl 0 rfl) ?_
                refine r_get ck8 flX8_13 C hS (by omega) e_2 (by decide) rfl dX8_look_89 ?_
                refine lv_iload_n C.x C.b dX8_look_92 rfl (lv_at hl 1 rfl) ?_
                refine lv_bipush (v := 30) C.x C.b dX8_look_93 (by decide) ?_
                refine lv_isub C.x C.b dX8_look_95 ?_
                have e_26 : g_1 222 = .inl (t.1, 10, .inl pr) := (o_3 _ (by omega)).trans m222
                refine r_iald C hS (by omega) e_26 hv30 dX8_look_96 ?_
                have e_27 : g_1 221 = .inl (t.1, 10, .inl o) := (o_3 _ (by omega)).trans m221
                have e_28 : g_1 223 = .inl (t.1, 8, .inl w) := (o_3 _ (by omega)).trans m223
                exact r_iret C hr hlocks hS ⟨by rw [lookM, if_neg c_4, if_neg c_5, if_neg c_6, if_neg c_7, if_neg (fun q => q.1 c_8), if_pos ⟨c_9, b_24⟩], ⟨e_2, e_27, e_26, e_28⟩, fun j hj => (o_3 j (by omega))⟩ dX8_look_97
              · rw [bz_f b_24] at er_23
                subst er_23
                refine lv_if_eq (tgt := 98) C.x C.b dX8_look_85 (by decide) (fun c_29 => ?_) (fun c_29 => absurd (by decide) c_29)
                refine lv_iload_n C.x C.b dX8_look_98 rfl (lv_at hl 1 rfl) ?_
                refine lv_bipush (v := 50) C.x C.b dX8_look_99 (by decide) ?_
                refine lv_icmp_lt (tgt := 122) C.x C.b dX8_look_101 (by decide) (fun c_30 => ?_) (fun c_30 => ?_)
                · skip
                  refine lv_sipush (v := (-1001)) C.x C.b dX8_look_122 (by decide) ?_
                  have e_31 : g_1 221 = .inl (t.1, 10, .inl o) := (o_3 _ (by omega)).trans m221
                  have e_32 : g_1 222 = .inl (t.1, 10, .inl pr) := (o_3 _ (by omega)).trans m222
                  have e_33 : g_1 223 = .inl (t.1, 8, .inl w) := (o_3 _ (by omega)).trans m223
                  exact r_iret C hr hlocks hS ⟨by rw [lookM, if_neg c_4, if_neg c_5, if_neg c_6, if_neg c_7, if_neg (fun q => q.1 c_8), if_neg (fun q => b_24 q.2), if_neg (fun q => q.1 c_30)], ⟨e_2, e_31, e_32, e_33⟩, fun j hj => (o_3 j (by omega))⟩ dX8_look_125
                · skip
                  refine lv_iload_n C.x C.b dX8_look_104 rfl (lv_at hl 1 rfl) ?_
                  refine lv_bipush (v := 58) C.x C.b dX8_look_105 (by decide) ?_
                  refine lv_icmp_ge (tgt := 122) C.x C.b dX8_look_107 (by decide) (fun c_34 => ?_) (fun c_34 => ?_)
                  · skip
                    refine lv_sipush (v := (-1001)) C.x C.b dX8_look_122 (by decide) ?_
                    have e_35 : g_1 221 = .inl (t.1, 10, .inl o) := (o_3 _ (by omega)).trans m221
                    have e_36 : g_1 222 = .inl (t.1, 10, .inl pr) := (o_3 _ (by omega)).trans m222
                    have e_37 : g_1 223 = .inl (t.1, 8, .inl w) := (o_3 _ (by omega)).trans m223
                    exact r_iret C hr hlocks hS ⟨by rw [lookM, if_neg c_4, if_neg c_5, if_neg c_6, if_neg c_7, if_neg (fun q => q.1 c_8), if_neg (fun q => b_24 q.2), if_neg (fun q => q.2 c_34)], ⟨e_2, e_35, e_36, e_37⟩, fun j hj => (o_3 j (by omega))⟩ dX8_look_125
                  · skip
                    have hv50 : vp_in (x - 50) 8 := ixv 50 c_30 (show ¬ nI 50 + nI 8 ≤ x from c_34) (by omega) (by omega)
                    refine lv_aload_n C.x C.b dX8_look_110 rfl (lv_at hl 0 rfl) ?_
                    refine r_get ck8 flX8_16 C hS (by omega) e_2 (by decide) rfl dX8_look_111 ?_
                    refine lv_iload_n C.x C.b dX8_look_114 rfl (lv_at hl 1 rfl) ?_
                    refine lv_bipush (v := 50) C.x C.b dX8_look_115 (by decide) ?_
                    refine lv_isub C.x C.b dX8_look_117 ?_
                    have e_38 : g_1 223 = .inl (t.1, 8, .inl w) := (o_3 _ (by omega)).trans m223
                    refine r_iald C hS (by omega) e_38 hv50 dX8_look_118 ?_
                    refine lv_goto (tgt := 125) C.x C.b dX8_look_119 (by decide) ?_
                    have e_39 : g_1 221 = .inl (t.1, 10, .inl o) := (o_3 _ (by omega)).trans m221
                    have e_40 : g_1 222 = .inl (t.1, 10, .inl pr) := (o_3 _ (by omega)).trans m222
                    exact r_iret C hr hlocks hS ⟨by rw [lookM, if_neg c_4, if_neg c_5, if_neg c_6, if_neg c_7, if_neg (fun q => q.1 c_8), if_neg (fun q => b_24 q.2), if_pos ⟨c_30, c_34⟩], ⟨e_2, e_39, e_40, e_38⟩, fun j hj => (o_3 j (by omega))⟩ dX8_look_125
          · skip
            refine lv_aload_n C.x C.b dX8_look_50 rfl (lv_at hl 0 rfl) ?_
            refine lv_iload_n C.x C.b dX8_look_51 rfl (lv_at hl 1 rfl) ?_
            refine lv_bipush (v := 10) C.x C.b dX8_look_52 (by decide) ?_
            refine lv_isub C.x C.b dX8_look_54 ?_
            refine r_callV (b := 220) (As := [.int (x - 10)]) (rest := []) (c_X8_isPlace l D t B N g_1 _ _ _ _ _ _ _ (x - 10) (by omega) e_2  ) mf_yX8_isPlace mlX8_77 im_yX8_isPlace se_yX8_isPlace (by decide) C hS (by omega) e_2 (show vwCl[8]? = some _ from rfl) rfl rfl hl.1 rfl (Nat.le_of_ble_eq_true rfl) dX8_look_55 ⟨Nat.zero_le _, Nat.zero_le _⟩ (fun r_43 g_41 H locs w_42 hS => ?_)
            obtain ⟨rfl, er_43⟩ := w_42
            by_cases b_44 : inP n (x - 10)
            · rw [bz_t b_44] at er_43
              subst er_43
              refine lv_if_eq (tgt := 71) C.x C.b dX8_look_58 (by decide) (fun c_45 => absurd c_45 (by decide)) (fun c_45 => ?_)
              have hv10 : vp_in (x - 10) 10 := inv10 b_44 (by omega)
              refine lv_aload_n C.x C.b dX8_look_61 rfl (lv_at hl 0 rfl) ?_
              refine r_get ck8 flX8_7 C hS (by omega) e_2 (by decide) rfl dX8_look_62 ?_
              refine lv_iload_n C.x C.b dX8_look_65 rfl (lv_at hl 1 rfl) ?_
              refine lv_bipush (v := 10) C.x C.b dX8_look_66 (by decide) ?_
              refine lv_isub C.x C.b dX8_look_68 ?_
              have e_46 : g_1 221 = .inl (t.1, 10, .inl o) := (o_3 _ (by omega)).trans m221
              refine r_iald C hS (by omega) e_46 hv10 dX8_look_69 ?_
              have e_47 : g_1 222 = .inl (t.1, 10, .inl pr) := (o_3 _ (by omega)).trans m222
              have e_48 : g_1 223 = .inl (t.1, 8, .inl w) := (o_3 _ (by omega)).trans m223
              exact r_iret C hr hlocks hS ⟨by rw [lookM, if_neg c_4, if_neg c_5, if_neg c_6, if_neg c_7, if_pos ⟨c_8, b_44⟩], ⟨e_2, e_46, e_47, e_48⟩, fun j hj => (o_3 j (by omega))⟩ dX8_look_70
            · rw [bz_f b_44] at er_43
              subst er_43
              refine lv_if_eq (tgt := 71) C.x C.b dX8_look_58 (by decide) (fun c_49 => ?_) (fun c_49 => absurd (by decide) c_49)
              refine lv_iload_n C.x C.b dX8_look_71 rfl (lv_at hl 1 rfl) ?_
              refine lv_bipush (v := 30) C.x C.b dX8_look_72 (by decide) ?_
              refine lv_icmp_lt (tgt := 98) C.x C.b dX8_look_74 (by decide) (fun c_50 => ?_) (fun c_50 => ?_)
              · skip
                refine lv_iload_n C.x C.b dX8_look_98 rfl (lv_at hl 1 rfl) ?_
                refine lv_bipush (v := 50) C.x C.b dX8_look_99 (by decide) ?_
                refine lv_icmp_lt (tgt := 122) C.x C.b dX8_look_101 (by decide) (fun c_51 => ?_) (fun c_51 => ?_)
                · skip
                  refine lv_sipush (v := (-1001)) C.x C.b dX8_look_122 (by decide) ?_
                  have e_52 : g_1 221 = .inl (t.1, 10, .inl o) := (o_3 _ (by omega)).trans m221
                  have e_53 : g_1 222 = .inl (t.1, 10, .inl pr) := (o_3 _ (by omega)).trans m222
                  have e_54 : g_1 223 = .inl (t.1, 8, .inl w) := (o_3 _ (by omega)).trans m223
                  exact r_iret C hr hlocks hS ⟨by rw [lookM, if_neg c_4, if_neg c_5, if_neg c_6, if_neg c_7, if_neg (fun q => b_44 q.2), if_neg (fun q => q.1 c_50), if_neg (fun q => q.1 c_51)], ⟨e_2, e_52, e_53, e_54⟩, fun j hj => (o_3 j (by omega))⟩ dX8_look_125
                · skip
                  refine lv_iload_n C.x C.b dX8_look_104 rfl (lv_at hl 1 rfl) ?_
                  refine lv_bipush (v := 58) C.x C.b dX8_look_105 (by decide) ?_
                  refine lv_icmp_ge (tgt := 122) C.x C.b dX8_look_107 (by decide) (fun c_55 => ?_) (fun c_55 => ?_)
                  · skip
                    refine lv_sipush (v := (-1001)) C.x C.b dX8_look_122 (by decide) ?_
                    have e_56 : g_1 221 = .inl (t.1, 10, .inl o) := (o_3 _ (by omega)).trans m221
                    have e_57 : g_1 222 = .inl (t.1, 10, .inl pr) := (o_3 _ (by omega)).trans m222
                    have e_58 : g_1 223 = .inl (t.1, 8, .inl w) := (o_3 _ (by omega)).trans m223
                    exact r_iret C hr hlocks hS ⟨by rw [lookM, if_neg c_4, if_neg c_5, if_neg c_6, if_neg c_7, if_neg (fun q => b_44 q.2), if_neg (fun q => q.1 c_50), if_neg (fun q => q.2 c_55)], ⟨e_2, e_56, e_57, e_58⟩, fun j hj => (o_3 j (by omega))⟩ dX8_look_125
                  · skip
                    have hv50 : vp_in (x - 50) 8 := ixv 50 c_51 (show ¬ nI 50 + nI 8 ≤ x from c_55) (by omega) (by omega)
                    refine lv_aload_n C.x C.b dX8_look_110 rfl (lv_at hl 0 rfl) ?_
                    refine r_get ck8 flX8_16 C hS (by omega) e_2 (by decide) rfl dX8_look_111 ?_
                    refine lv_iload_n C.x C.b dX8_look_114 rfl (lv_at hl 1 rfl) ?_
                    refine lv_bipush (v := 50) C.x C.b dX8_look_115 (by decide) ?_
                    refine lv_isub C.x C.b dX8_look_117 ?_
                    have e_59 : g_1 223 = .inl (t.1, 8, .inl w) := (o_3 _ (by omega)).trans m223
                    refine r_iald C hS (by omega) e_59 hv50 dX8_look_118 ?_
                    refine lv_goto (tgt := 125) C.x C.b dX8_look_119 (by decide) ?_
                    have e_60 : g_1 221 = .inl (t.1, 10, .inl o) := (o_3 _ (by omega)).trans m221
                    have e_61 : g_1 222 = .inl (t.1, 10, .inl pr) := (o_3 _ (by omega)).trans m222
                    exact r_iret C hr hlocks hS ⟨by rw [lookM, if_neg c_4, if_neg c_5, if_neg c_6, if_neg c_7, if_neg (fun q => b_44 q.2), if_neg (fun q => q.1 c_50), if_pos ⟨c_51, c_55⟩], ⟨e_2, e_60, e_61, e_59⟩, fun j hj => (o_3 j (by omega))⟩ dX8_look_125
              · skip
                refine lv_aload_n C.x C.b dX8_look_77 rfl (lv_at hl 0 rfl) ?_
                refine lv_iload_n C.x C.b dX8_look_78 rfl (lv_at hl 1 rfl) ?_
                refine lv_bipush (v := 30) C.x C.b dX8_look_79 (by decide) ?_
                refine lv_isub C.x C.b dX8_look_81 ?_
                refine r_callV (b := 220) (As := [.int (x - 30)]) (rest := []) (c_X8_isPlace l D t B N g_1 _ _ _ _ _ _ _ (x - 30) (by omega) e_2  ) mf_yX8_isPlace mlX8_77 im_yX8_isPlace se_yX8_isPlace (by decide) C hS (by omega) e_2 (show vwCl[8]? = some _ from rfl) rfl rfl hl.1 rfl (Nat.le_of_ble_eq_true rfl) dX8_look_82 ⟨Nat.zero_le _, Nat.zero_le _⟩ (fun r_64 g_62 H locs w_63 hS => ?_)
                obtain ⟨rfl, er_64⟩ := w_63
                by_cases b_65 : inP n (x - 30)
                · rw [bz_t b_65] at er_64
                  subst er_64
                  refine lv_if_eq (tgt := 98) C.x C.b dX8_look_85 (by decide) (fun c_66 => absurd c_66 (by decide)) (fun c_66 => ?_)
                  have hv30 : vp_in (x - 30) 10 := inv10 b_65 (by omega)
                  refine lv_aload_n C.x C.b dX8_look_88 rfl (lv_at hl 0 rfl) ?_
                  refine r_get ck8 flX8_13 C hS (by omega) e_2 (by decide) rfl dX8_look_89 ?_
                  refine lv_iload_n C.x C.b dX8_look_92 rfl (lv_at hl 1 rfl) ?_
                  refine lv_bipush (v := 30) C.x C.b dX8_look_93 (by decide) ?_
                  refine lv_isub C.x C.b dX8_look_95 ?_
                  have e_67 : g_1 222 = .inl (t.1, 10, .inl pr) := (o_3 _ (by omega)).trans m222
                  refine r_iald C hS (by omega) e_67 hv30 dX8_look_96 ?_
                  have e_68 : g_1 221 = .inl (t.1, 10, .inl o) := (o_3 _ (by omega)).trans m221
                  have e_69 : g_1 223 = .inl (t.1, 8, .inl w) := (o_3 _ (by omega)).trans m223
                  exact r_iret C hr hlocks hS ⟨by rw [lookM, if_neg c_4, if_neg c_5, if_neg c_6, if_neg c_7, if_neg (fun q => b_44 q.2), if_pos ⟨c_50, b_65⟩], ⟨e_2, e_68, e_67, e_69⟩, fun j hj => (o_3 j (by omega))⟩ dX8_look_97
                · rw [bz_f b_65] at er_64
                  subst er_64
                  refine lv_if_eq (tgt := 98) C.x C.b dX8_look_85 (by decide) (fun c_70 => ?_) (fun c_70 => absurd (by decide) c_70)
                  refine lv_iload_n C.x C.b dX8_look_98 rfl (lv_at hl 1 rfl) ?_
                  refine lv_bipush (v := 50) C.x C.b dX8_look_99 (by decide) ?_
                  refine lv_icmp_lt (tgt := 122) C.x C.b dX8_look_101 (by decide) (fun c_71 => ?_) (fun c_71 => ?_)
                  · skip
                    refine lv_sipush (v := (-1001)) C.x C.b dX8_look_122 (by decide) ?_
                    have e_72 : g_1 221 = .inl (t.1, 10, .inl o) := (o_3 _ (by omega)).trans m221
                    have e_73 : g_1 222 = .inl (t.1, 10, .inl pr) := (o_3 _ (by omega)).trans m222
                    have e_74 : g_1 223 = .inl (t.1, 8, .inl w) := (o_3 _ (by omega)).trans m223
                    exact r_iret C hr hlocks hS ⟨by rw [lookM, if_neg c_4, if_neg c_5, if_neg c_6, if_neg c_7, if_neg (fun q => b_44 q.2), if_neg (fun q => b_65 q.2), if_neg (fun q => q.1 c_71)], ⟨e_2, e_72, e_73, e_74⟩, fun j hj => (o_3 j (by omega))⟩ dX8_look_125
                  · skip
                    refine lv_iload_n C.x C.b dX8_look_104 rfl (lv_at hl 1 rfl) ?_
                    refine lv_bipush (v := 58) C.x C.b dX8_look_105 (by decide) ?_
                    refine lv_icmp_ge (tgt := 122) C.x C.b dX8_look_107 (by decide) (fun c_75 => ?_) (fun c_75 => ?_)
                    · skip
                      refine lv_sipush (v := (-1001)) C.x C.b dX8_look_122 (by decide) ?_
                      have e_76 : g_1 221 = .inl (t.1, 10, .inl o) := (o_3 _ (by omega)).trans m221
                      have e_77 : g_1 222 = .inl (t.1, 10, .inl pr) := (o_3 _ (by omega)).trans m222
                      have e_78 : g_1 223 = .inl (t.1, 8, .inl w) := (o_3 _ (by omega)).trans m223
                      exact r_iret C hr hlocks hS ⟨by rw [lookM, if_neg c_4, if_neg c_5, if_neg c_6, if_neg c_7, if_neg (fun q => b_44 q.2), if_neg (fun q => b_65 q.2), if_neg (fun q => q.2 c_75)], ⟨e_2, e_76, e_77, e_78⟩, fun j hj => (o_3 j (by omega))⟩ dX8_look_125
                    · skip
                      have hv50 : vp_in (x - 50) 8 := ixv 50 c_71 (show ¬ nI 50 + nI 8 ≤ x from c_75) (by omega) (by omega)
                      refine lv_aload_n C.x C.b dX8_look_110 rfl (lv_at hl 0 rfl) ?_
                      refine r_get ck8 flX8_16 C hS (by omega) e_2 (by decide) rfl dX8_look_111 ?_
                      refine lv_iload_n C.x C.b dX8_look_114 rfl (lv_at hl 1 rfl) ?_
                      refine lv_bipush (v := 50) C.x C.b dX8_look_115 (by decide) ?_
                      refine lv_isub C.x C.b dX8_look_117 ?_
                      have e_79 : g_1 223 = .inl (t.1, 8, .inl w) := (o_3 _ (by omega)).trans m223
                      refine r_iald C hS (by omega) e_79 hv50 dX8_look_118 ?_
                      refine lv_goto (tgt := 125) C.x C.b dX8_look_119 (by decide) ?_
                      have e_80 : g_1 221 = .inl (t.1, 10, .inl o) := (o_3 _ (by omega)).trans m221
                      have e_81 : g_1 222 = .inl (t.1, 10, .inl pr) := (o_3 _ (by omega)).trans m222
                      exact r_iret C hr hlocks hS ⟨by rw [lookM, if_neg c_4, if_neg c_5, if_neg c_6, if_neg c_7, if_neg (fun q => b_44 q.2), if_neg (fun q => b_65 q.2), if_pos ⟨c_71, c_75⟩], ⟨e_2, e_80, e_81, e_79⟩, fun j hj => (o_3 j (by omega))⟩ dX8_look_125
        · skip
          refine lv_aload_n C.x C.b dX8_look_39 rfl (lv_at hl 0 rfl) ?_
          refine r_get ck8 flX8_80 C hS (by omega) e_2 (by decide) rfl dX8_look_40 ?_
          have e_82 : g_1 221 = .inl (t.1, 10, .inl o) := (o_3 _ (by omega)).trans m221
          have e_83 : g_1 222 = .inl (t.1, 10, .inl pr) := (o_3 _ (by omega)).trans m222
          have e_84 : g_1 223 = .inl (t.1, 8, .inl w) := (o_3 _ (by omega)).trans m223
          exact r_iret C hr hlocks hS ⟨by rw [lookM, if_neg c_4, if_neg c_5, if_neg c_6, if_pos c_7], ⟨e_2, e_82, e_83, e_84⟩, fun j hj => (o_3 j (by omega))⟩ dX8_look_43
      · skip
        refine lv_aload_n C.x C.b dX8_look_29 rfl (lv_at hl 0 rfl) ?_
        refine r_get ck8 flX8_23 C hS (by omega) e_2 (by decide) rfl dX8_look_30 ?_
        have e_85 : g_1 221 = .inl (t.1, 10, .inl o) := (o_3 _ (by omega)).trans m221
        have e_86 : g_1 222 = .inl (t.1, 10, .inl pr) := (o_3 _ (by omega)).trans m222
        have e_87 : g_1 223 = .inl (t.1, 8, .inl w) := (o_3 _ (by omega)).trans m223
        exact r_iret C hr hlocks hS ⟨by rw [lookM, if_neg c_4, if_neg c_5, if_pos c_6], ⟨e_2, e_85, e_86, e_87⟩, fun j hj => (o_3 j (by omega))⟩ dX8_look_33
    · skip
      refine lv_aload_n C.x C.b dX8_look_19 rfl (lv_at hl 0 rfl) ?_
      refine r_get ck8 flX8_19 C hS (by omega) e_2 (by decide) rfl dX8_look_20 ?_
      have e_88 : g_1 221 = .inl (t.1, 10, .inl o) := (o_3 _ (by omega)).trans m221
      have e_89 : g_1 222 = .inl (t.1, 10, .inl pr) := (o_3 _ (by omega)).trans m222
      have e_90 : g_1 223 = .inl (t.1, 8, .inl w) := (o_3 _ (by omega)).trans m223
      exact r_iret C hr hlocks hS ⟨by rw [lookM, if_neg c_4, if_pos c_5], ⟨e_2, e_88, e_89, e_90⟩, fun j hj => (o_3 j (by omega))⟩ dX8_look_23
  · skip
    refine lv_aload_n C.x C.b dX8_look_9 rfl (lv_at hl 0 rfl) ?_
    refine r_get ck8 flX8_70 C hS (by omega) e_2 (by decide) rfl dX8_look_10 ?_
    have e_91 : g_1 221 = .inl (t.1, 10, .inl o) := (o_3 _ (by omega)).trans m221
    have e_92 : g_1 222 = .inl (t.1, 10, .inl pr) := (o_3 _ (by omega)).trans m222
    have e_93 : g_1 223 = .inl (t.1, 8, .inl w) := (o_3 _ (by omega)).trans m223
    exact r_iret C hr hlocks hS ⟨by rw [lookM, if_pos c_4], ⟨e_2, e_91, e_92, e_93⟩, fun j hj => (o_3 j (by omega))⟩ dX8_look_13
