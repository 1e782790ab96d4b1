def onesL : Nat → Int32 → Int32 → Int32
  | 0, n, _ => n
  | k + 1, n, x => if x = 0 then n else onesL k (n + 1) (x &&& (x - 1))
theorem onesL_s {u : Nat} {k z : Int32} (h : ¬ z = 0) : onesL (u + 1) k z = onesL u (k + 1) (z &&& (z - 1)) := by
  rw [onesL, if_neg h]
theorem onesL_0 {u : Nat} {k z : Int32} (h : z = 0) : onesL (u + 1) k z = k := by
  rw [onesL, if_pos h]
theorem and1_lt {z : Int32} {u : Nat} (h : ¬ z = 0) (hu : z.toBitVec.toNat ≤ u + 1) : (z &&& (z - 1)).toBitVec.toNat ≤ u := by
  have h0 : z.toBitVec.toNat ≠ 0 := fun q => h (Int32.toBitVec_inj.mp (BitVec.eq_of_toNat_eq q))
  have e : (z &&& (z - 1)).toBitVec = z.toBitVec &&& (z.toBitVec - 1#32) := rfl
  rw [e, BitVec.toNat_and]
  have h1 : (z.toBitVec - 1#32).toNat = z.toBitVec.toNat - 1 := by
    rw [BitVec.toNat_sub]
    have := z.toBitVec.isLt
    have e1 : (1#32).toNat = 1 := rfl
    rw [e1]
    omega
  have h2 : z.toBitVec.toNat &&& (z.toBitVec - 1#32).toNat ≤ (z.toBitVec - 1#32).toNat := Nat.and_le_right
  omega
def prcM (pr : Nat → Int32) (x : Int32) : Nat → Int32
  | 0 => 0
  | k + 1 => if ((x >>> (nI k &&& 31)) &&& 1) = 1 then prcM pr x k + pr k else prcM pr x k
def rchF (pl : Nat → Int32) (R : Nat) (b : Int32) : Nat → Int32
  | 0 => b
  | k + 1 => rchF pl R b k ||| (1 <<< (pl (40 * R + k) &&& 31))
set_option maxHeartbeats 1000000 in
set_option maxRecDepth 100000 in
theorem c_X8_ones (l : Launch) (D : va_G) (t : Gx) (B N : Nat) (g : Nat → va_E) (x : Int32)  : Ci l D t B N yX8_ones cX8_ones 4 (some .int) 0 0 g [.ref (B + 220), .int x] (fun r g' => g = g' ∧ r = onesL x.toBitVec.toNat 0 x) := by
  refine Ci.start (by decide) (Nat.le_of_ble_eq_true rfl) ?_
  intro p e s m below meth c ls C hr hlocks hS hl
  replace C : Cx D t p s m [.ref (B + 220), .int x].toArray c cX8_ones 4 RX8 := C
  replace hl : lv_has ls 4 [(0, .ref (B + 220)), (1, .int x)] := hl
  refine lv_iconst (v := 0) C.x C.b dX8_ones_0 (by decide) ?_
  refine lv_istore_n (lv' := [(2, .int 0), (0, .ref (B + 220)), (1, .int x)]) C.x C.b dX8_ones_1 rfl hl (by decide) rfl (fun ls hl => ?_)
  refine lv_iload_n C.x C.b dX8_ones_2 rfl (lv_at hl 2 rfl) ?_
  refine lv_istore_n (lv' := [(3, .int x), (2, .int 0), (0, .ref (B + 220)), (1, .int x)]) C.x C.b dX8_ones_3 rfl hl (by decide) rfl (fun ls hl => ?_)
  have lp : ∀ (u : Nat) (z k : Int32) (H : Heap) (locs : List Loc) (ls : Array Slot), z.toBitVec.toNat ≤ u → onesL u k z = onesL x.toBitVec.toNat 0 x → St D B s.heap N g H locs → lv_has ls 4 [(0, .ref (B + 220)), (2, .int k), (3, .int z)] → W p l e (rmOf 0 0 0 0) s m [.ref (B + 220), .int x].toArray below meth c H locs 0 0 (MQ below (qI D B N (fun r g' => g = g' ∧ r = onesL x.toBitVec.toNat 0 x)) [.ref (B + 220), .int x].toArray s 0 0 (fun q => B ≤ q)) (F0 m 4 ls []) := by
    intro u
    induction u with
    | zero =>
      intro z k H locs ls hz hG hS hl
      have hz0 : z = 0 := tn0 (by omega)
      refine lv_iload_n C.x C.b dX8_ones_4 rfl (lv_at hl 2 rfl) ?_
      refine lv_if_eq (tgt := 21) C.x C.b dX8_ones_5 (by decide) (fun c_1 => ?_) (fun c_1 => absurd hz0 c_1)
      refine lv_iload_n C.x C.b dX8_ones_21 rfl (lv_at hl 1 rfl) ?_
      exact r_iret C hr hlocks hS ⟨rfl, by rw [← hG]; rfl⟩ dX8_ones_22
    | succ u ih =>
      intro z k H locs ls hz hG hS hl
      refine lv_iload_n C.x C.b dX8_ones_4 rfl (lv_at hl 2 rfl) ?_
      refine lv_if_eq (tgt := 21) C.x C.b dX8_ones_5 (by decide) (fun c_2 => ?_) (fun c_2 => ?_)
      · skip
        refine lv_iload_n C.x C.b dX8_ones_21 rfl (lv_at hl 1 rfl) ?_
        exact r_iret C hr hlocks hS ⟨rfl, by rw [← hG]; exact (onesL_0 c_2).symm⟩ dX8_ones_22
      · skip
        refine lv_iload_n C.x C.b dX8_ones_8 rfl (lv_at hl 1 rfl) ?_
        refine lv_iconst (v := 1) C.x C.b dX8_ones_9 (by decide) ?_
        refine lv_iadd C.x C.b dX8_ones_10 ?_
        refine lv_istore_n (lv' := [(2, .int (k + 1)), (0, .ref (B + 220)), (3, .int z)]) C.x C.b dX8_ones_11 rfl hl (by decide) rfl (fun ls hl => ?_)
        refine lv_iload_n C.x C.b dX8_ones_12 rfl (lv_at hl 2 rfl) ?_
        refine lv_iload_n C.x C.b dX8_ones_13 rfl (lv_at hl 2 rfl) ?_
        refine lv_iconst (v := 1) C.x C.b dX8_ones_14 (by decide) ?_
        refine lv_isub C.x C.b dX8_ones_15 ?_
        refine lv_iand C.x C.b dX8_ones_16 ?_
        refine lv_istore_n (lv' := [(3, .int (z &&& (z - 1))), (2, .int (k + 1)), (0, .ref (B + 220))]) C.x C.b dX8_ones_17 rfl hl (by decide) rfl (fun ls hl => ?_)
        refine lv_goto (tgt := 4) C.x C.b dX8_ones_18 (by decide) ?_
        exact ih _ _ _ _ _ (and1_lt c_2 hz) ((onesL_s c_2).symm.trans hG) hS (lv_sub hl [2, 1, 0] rfl)
  exact lp _ x 0 _ _ _ (Nat.le_refl _) rfl hS (lv_sub hl [2, 1, 0] rfl)
set_option maxHeartbeats 1000000 in
set_option maxRecDepth 100000 in
theorem c_X8_priceOf (l : Launch) (D : va_G) (t : Gx) (B N : Nat) (g : Nat → va_E) (td : Int32) (n : Nat) (ey wi ev po ps : Int32) (pr : Nat → Int32) (x : Int32) (hN : 236 < N) (m220 : g 220 = mObj B td n ey wi ev po ps) (m222 : g 222 = .inl (t.1, 10, .inl pr)) (hn : n ≤ 8) : Ci l D t B N yX8_priceOf cX8_priceOf 4 (some .int) 0 0 g [.ref (B + 220), .int x] (fun r g' => g = g' ∧ r = prcM pr x n) := by
  refine Ci.start (by decide) (Nat.le_of_ble_eq_true rfl) ?_
  intro p e s m below meth c ls C hr hlocks hS hl
  replace C : Cx D t p s m [.ref (B + 220), .int x].toArray c cX8_priceOf 4 RX8 := C
  replace hl : lv_has ls 4 [(0, .ref (B + 220)), (1, .int x)] := hl
  replace m220 : g 220 = .inr (8, [.int td, .int (nI n), .ref (B + 221), .ref (B + 222), .ref (B + 223), .int ey, .int wi, .int ev, .ref (B + 224), .ref (B + 225), .ref (B + 226), .ref (B + 227), .ref (B + 228), .ref (B + 229), .ref (B + 230), .ref (B + 231), .ref (B + 232), .ref (B + 233), .ref (B + 234), .ref (B + 235), .ref (B + 236), .int po, .int ps]) := m220
  refine lv_iconst (v := 0) C.x C.b dX8_priceOf_0 (by decide) ?_
  refine lv_istore_n (lv' := [(2, .int 0), (0, .ref (B + 220)), (1, .int x)]) C.x C.b dX8_priceOf_1 rfl hl (by decide) rfl (fun ls hl => ?_)
  refine lv_iconst (v := 0) C.x C.b dX8_priceOf_2 (by decide) ?_
  refine lv_istore_n (lv' := [(3, .int 0), (2, .int 0), (0, .ref (B + 220)), (1, .int x)]) C.x C.b dX8_priceOf_3 rfl hl (by decide) rfl (fun ls hl => ?_)
  have lp_1 : ∀ (u_2 k_3 : Nat) (H : Heap) (locs : List Loc) (ls : Array Slot), k_3 + u_2 = n → St D B s.heap N g H locs → lv_has ls 4 [(0, .ref (B + 220)), (1, .int x), (2, .int (prcM pr x k_3)), (3, .int (nI k_3))] → W p l e (rmOf 0 0 0 0) s m [.ref (B + 220), .int x].toArray below meth c H locs 0 0 (MQ below (qI D B N (fun r g' => g = g' ∧ r = prcM pr x n)) [.ref (B + 220), .int x].toArray s 0 0 (fun q => B ≤ q)) (F0 m 4 ls []) := by
    intro u_2
    induction u_2 with
    | zero =>
      intro k_3 H locs ls hk_4 hS hl
      obtain rfl : n = k_3 := by omega
      refine lv_iload_n C.x C.b dX8_priceOf_4 rfl (lv_at hl 3 rfl) ?_
      refine lv_aload_n C.x C.b dX8_priceOf_5 rfl (lv_at hl 0 rfl) ?_
      refine r_get ck8 flX8_70 C hS (by omega) m220 (by decide) rfl dX8_priceOf_6 ?_
      refine lv_icmp_ge (tgt := 36) C.x C.b dX8_priceOf_9 (by decide) (fun c_7 => ?_) (fun c_7 => absurd (nI_le (Nat.le_refl _) (by omega)) c_7)
      refine lv_iload_n C.x C.b dX8_priceOf_36 rfl (lv_at hl 2 rfl) ?_
      exact r_iret C hr hlocks hS ⟨rfl, rfl⟩ dX8_priceOf_37
    | succ u_2 ih_5 =>
      intro k_3 H locs ls hk_4 hS hl
      refine lv_iload_n C.x C.b dX8_priceOf_4 rfl (lv_at hl 3 rfl) ?_
      refine lv_aload_n C.x C.b dX8_priceOf_5 rfl (lv_at hl 0 rfl) ?_
      refine r_get ck8 flX8_70 C hS (by omega) m220 (by decide) rfl dX8_priceOf_6 ?_
      refine lv_icmp_ge (tgt := 36) C.x C.b dX8_priceOf_9 (by decide) (fun c_8 => absurd c_8 (nI_ge (a := k_3) (b := n) (by omega) (by omega))) (fun c_8 => ?_)
      refine lv_iload_n C.x C.b dX8_priceOf_12 rfl (lv_at hl 1 rfl) ?_
      refine lv_iload_n C.x C.b dX8_priceOf_13 rfl (lv_at hl 3 rfl) ?_
      refine lv_ishr C.x C.b dX8_priceOf_14 ?_
      refine lv_iconst (v := 1) C.x C.b dX8_priceOf_15 (by decide) ?_
      refine lv_iand C.x C.b dX8_priceOf_16 ?_
      refine lv_iconst (v := 1) C.x C.b dX8_priceOf_17 (by decide) ?_
      refine lv_icmp_ne (tgt := 30) C.x C.b dX8_priceOf_18 (by decide) (fun c_9 => ?_) (fun c_9 => ?_)
      · skip
        refine lv_iinc (v := nI (k_3 + 1)) (lv' := [(3, .int (nI (k_3 + 1))), (0, .ref (B + 220)), (1, .int x), (2, .int (prcM pr x k_3))]) C.x C.b dX8_priceOf_30 hl (k := 3) rfl (nI_1 k_3) (by decide) rfl (fun ls hl => ?_)
        refine lv_goto (tgt := 4) C.x C.b dX8_priceOf_33 (by decide) ?_
        have z_10 : prcM pr x (k_3 + 1) = prcM pr x k_3 := by simp only [prcM, c_9, not_true_eq_false, not_false_eq_true, and_true, true_and, and_false, false_and, and_self, or_true, or_false, true_or, false_or, ite_true, ite_false, if_true, if_false, ↓reduceIte, reduceCtorEq]
        exact ih_5 (k_3 + 1) _ _ _ (by omega)  hS (by rw [z_10]; exact lv_sub hl [1, 2, 3, 0] rfl)
      · skip
        refine lv_iload_n C.x C.b dX8_priceOf_21 rfl (lv_at hl 2 rfl) ?_
        refine lv_aload_n C.x C.b dX8_priceOf_22 rfl (lv_at hl 0 rfl) ?_
        refine r_get ck8 flX8_13 C hS (by omega) m220 (by decide) rfl dX8_priceOf_23 ?_
        refine lv_iload_n C.x C.b dX8_priceOf_26 rfl (lv_at hl 3 rfl) ?_
        refine r_ialdN k_3 rfl (by omega) (by decide) C hS (by omega) m222 dX8_priceOf_27 ?_
        refine lv_iadd C.x C.b dX8_priceOf_28 ?_
        refine lv_istore_n (lv' := [(2, .int ((prcM pr x k_3) + (pr k_3))), (0, .ref (B + 220)), (1, .int x), (3, .int (nI k_3))]) C.x C.b dX8_priceOf_29 rfl hl (by decide) rfl (fun ls hl => ?_)
        refine lv_iinc (v := nI (k_3 + 1)) (lv' := [(3, .int (nI (k_3 + 1))), (2, .int ((prcM pr x k_3) + (pr k_3))), (0, .ref (B + 220)), (1, .int x)]) C.x C.b dX8_priceOf_30 hl (k := 3) rfl (nI_1 k_3) (by decide) rfl (fun ls hl => ?_)
        refine lv_goto (tgt := 4) C.x C.b dX8_priceOf_33 (by decide) ?_
        have z_11 : prcM pr x (k_3 + 1) = ((prcM pr x k_3) + (pr k_3)) := by simp only [prcM, c_9, not_true_eq_false, not_false_eq_true, and_true, true_and, and_false, false_and, and_self, or_true, or_false, true_or, false_or, ite_true, ite_false, if_true, if_false, ↓reduceIte, reduceCtorEq]
        exact ih_5 (k_3 + 1) _ _ _ (by omega)  hS (by rw [z_11]; exact lv_sub hl [2, 3, 1, 0] rfl)
  exact lp_1 n 0 _ _ _ (by omega)  hS (lv_sub hl [2, 3, 1, 0] rfl)
set_option maxHeartbeats 1000000 in
set_option maxRecDepth 100000 in
theorem k_X8_cure (l : Launch) (D : va_G) (t : Gx) (B N : Nat) (g : Nat → va_E) (n : Nat) (ey wi ev : Int32) (o pr w : Nat → Int32) (x : Int32) (hN : 236 < N) (hM : Msh t B g n ey wi ev o pr w) (hn : n ≤ 8) (hO : okO o) (hwi : ¬ wi = 0)  : Ci l D t B N yX8_cure cX8_cure 6 (some .int) 5 120 g [.ref (B + 220), .int x] (fun r g' => Mk t B g g' n ey wi ev o pr w) := by
  refine Ci.start (by decide) (Nat.le_of_ble_eq_true rfl) ?_
  intro p e s m below meth c ls C hr hlocks hS hl
  replace C : Cx D t p s m [.ref (B + 220), .int x].toArray c cX8_cure 6 RX8 := C
  replace hl : lv_has ls 6 [(0, .ref (B + 220)), (1, .int x)] := hl
  have hKp : Mk t B g g n ey wi ev o pr w := Mk.rf hM
  refine lv_aload_n C.x C.b dX8_cure_0 rfl (lv_at hl 0 rfl) ?_
  refine lv_iconst (v := 0) C.x C.b dX8_cure_1 (by decide) ?_
  obtain ⟨td_1, po_2, ps_3, rg_4, mm_5, st_6, an_7, sp_8, pl_9, nu_10, co_11, sm_12, sw_13, sn_14, sq_15, cl_16, ⟨e_17, e_18, e_19, e_20⟩, ⟨e_21, e_22, e_23, e_24, e_25, e_26, e_27, e_28⟩, ⟨e_29, e_30, e_31, e_32⟩, e_33, hSt_34, h01_35, hPl_36, hSm_37⟩ := hKp.2
  replace e_17 : g 220 = .inr (8, [.int td_1, .int (nI n), .ref (B + 221), .ref (B + 222), .ref (B + 223), .int ey, .int wi, .int ev, .ref (B + 224), .ref (B + 225), .ref (B + 226), .ref (B + 227), .ref (B + 228), .ref (B + 229), .ref (B + 230), .ref (B + 231), .ref (B + 232), .ref (B + 233), .ref (B + 234), .ref (B + 235), .ref (B + 236), .int po_2, .int ps_3]) := e_17
  refine r_put ck8 flX8_66 C hS (by omega) e_17 (by decide) rfl rfl rfl (Nat.le_of_ble_eq_true rfl) dX8_cure_2 (fun g_38 H locs e_39 o_40 hS => ?_)
  replace e_39 : g_38 220 = .inr (8, [.int 0, .int (nI n), .ref (B + 221), .ref (B + 222), .ref (B + 223), .int ey, .int wi, .int ev, .ref (B + 224), .ref (B + 225), .ref (B + 226), .ref (B + 227), .ref (B + 228), .ref (B + 229), .ref (B + 230), .ref (B + 231), .ref (B + 232), .ref (B + 233), .ref (B + 234), .ref (B + 235), .ref (B + 236), .int po_2, .int ps_3]) := e_39
  replace hKp : Mk t B g g_38 n ey wi ev o pr w := hKp.obj (td := 0) (po := po_2) (ps := ps_3) e_39 o_40
  refine lv_iload_n C.x C.b dX8_cure_5 rfl (lv_at hl 1 rfl) ?_
  refine lv_if_lt (tgt := 14) C.x C.b dX8_cure_6 (by decide) (fun c_41 => ?_) (fun c_41 => ?_)
  · skip
    refine lv_iconst (v := (-1)) C.x C.b dX8_cure_14 (by decide) ?_
    exact r_iret C hr hlocks hS hKp dX8_cure_15
  · skip
    refine lv_iload_n C.x C.b dX8_cure_9 rfl (lv_at hl 1 rfl) ?_
    refine lv_iconst (v := 2) C.x C.b dX8_cure_10 (by decide) ?_
    refine lv_icmp_le (tgt := 16) C.x C.b dX8_cure_11 (by decide) (fun c_42 => ?_) (fun c_42 => ?_)
    · skip
      refine lv_aload_n C.x C.b dX8_cure_16 rfl (lv_at hl 0 rfl) ?_
      obtain ⟨td_46, po_47, ps_48, rg_49, mm_50, st_51, an_52, sp_53, pl_54, nu_55, co_56, sm_57, sw_58, sn_59, sq_60, cl_61, ⟨e_62, e_63, e_64, e_65⟩, ⟨e_66, e_67, e_68, e_69, e_70, e_71, e_72, e_73⟩, ⟨e_74, e_75, e_76, e_77⟩, e_78, hSt_79, h01_80, hPl_81, hSm_82⟩ := hKp.2
      replace e_62 : g_38 220 = .inr (8, [.int td_46, .int (nI n), .ref (B + 221), .ref (B + 222), .ref (B + 223), .int ey, .int wi, .int ev, .ref (B + 224), .ref (B + 225), .ref (B + 226), .ref (B + 227), .ref (B + 228), .ref (B + 229), .ref (B + 230), .ref (B + 231), .ref (B + 232), .ref (B + 233), .ref (B + 234), .ref (B + 235), .ref (B + 236), .int po_47, .int ps_48]) := e_62
      refine r_callVv (b := 220) (As := []) (rest := []) (k_goAll l D t B N g_38 _ _ _ _ _ _ _ (by omega) hKp.2 (by omega) hO) mf_yX8_goAll mlX8_115 im_yX8_goAll se_yX8_goAll (by decide) C hS (by omega) e_62 (show vwCl[8]? = some _ from rfl) rfl rfl hl.1 rfl (Nat.le_of_ble_eq_true rfl) dX8_cure_17 ⟨Nat.zero_le _, Nat.zero_le _⟩ (fun g_43 H locs w_44 hS => ?_)
      replace hKp : Mk t B g g_43 n ey wi ev o pr w := hKp.tr w_44
      obtain ⟨M9, hM9, eM9⟩ := sh1 hn
      refine lv_iconst (v := (-1)) C.x C.b dX8_cure_20 (by decide) ?_
      refine lv_istore_n (lv' := [(2, .int (-1)), (0, .ref (B + 220)), (1, .int x)]) C.x C.b dX8_cure_21 rfl hl (by decide) rfl (fun ls hl => ?_)
      refine lv_iconst (v := 0) C.x C.b dX8_cure_22 (by decide) ?_
      refine lv_istore_n (lv' := [(3, .int 0), (2, .int (-1)), (0, .ref (B + 220)), (1, .int x)]) C.x C.b dX8_cure_23 rfl hl (by decide) rfl (fun ls hl => ?_)
      refine lv_iconst (v := 0) C.x C.b dX8_cure_24 (by decide) ?_
      refine lv_istore (lv' := [(4, .int 0), (3, .int 0), (2, .int (-1)), (0, .ref (B + 220)), (1, .int x)]) C.x C.b dX8_cure_25 hl (by decide) rfl (fun ls hl => ?_)
      have lp_83 : ∀ (u_84 k_85 : Nat) (b_89 : Int32) (a_90 : Int32) (g_88 : Nat → va_E) (H : Heap) (locs : List Loc) (ls : Array Slot), k_85 + u_84 = M9 → Mk t B g g_88 n ey wi ev o pr w → St D B s.heap N g_88 H locs → lv_has ls 6 [(0, .ref (B + 220)), (1, .int x), (2, .int b_89), (3, .int a_90), (4, .int (nI k_85))] → W p l e (rmOf 5 120 0 0) s m [.ref (B + 220), .int x].toArray below meth c H locs 0 0 (MQ below (qI D B N (fun r g' => Mk t B g g' n ey wi ev o pr w)) [.ref (B + 220), .int x].toArray s 0 0 (fun q => B ≤ q)) (F0 m 27 ls []) := by
        intro u_84
        induction u_84 with
        | zero =>
          intro k_85 b_89 a_90 g_88 H locs ls hk_86 hKp hS hl
          obtain rfl : M9 = k_85 := by omega
          refine lv_iload C.x C.b dX8_cure_27 (lv_at hl 4 rfl) ?_
          refine lv_iconst (v := 1) C.x C.b dX8_cure_29 (by decide) ?_
          refine lv_aload_n C.x C.b dX8_cure_30 rfl (lv_at hl 0 rfl) ?_
          obtain ⟨td_91, po_92, ps_93, rg_94, mm_95, st_96, an_97, sp_98, pl_99, nu_100, co_101, sm_102, sw_103, sn_104, sq_105, cl_106, ⟨e_107, e_108, e_109, e_110⟩, ⟨e_111, e_112, e_113, e_114, e_115, e_116, e_117, e_118⟩, ⟨e_119, e_120, e_121, e_122⟩, e_123, hSt_124, h01_125, hPl_126, hSm_127⟩ := hKp.2
          replace e_107 : g_88 220 = .inr (8, [.int td_91, .int (nI n), .ref (B + 221), .ref (B + 222), .ref (B + 223), .int ey, .int wi, .int ev, .ref (B + 224), .ref (B + 225), .ref (B + 226), .ref (B + 227), .ref (B + 228), .ref (B + 229), .ref (B + 230), .ref (B + 231), .ref (B + 232), .ref (B + 233), .ref (B + 234), .ref (B + 235), .ref (B + 236), .int po_92, .int ps_93]) := e_107
          refine r_get ck8 flX8_70 C hS (by omega) e_107 (by decide) rfl dX8_cure_31 ?_
          refine lv_ishl C.x C.b dX8_cure_34 ?_
          refine r_top (y := nI M9) (eM9) ?_
          refine lv_icmp_ge (tgt := 117) C.x C.b dX8_cure_35 (by decide) (fun c_128 => ?_) (fun c_128 => absurd (nI_le (Nat.le_refl _) (by omega)) c_128)
          refine lv_iload_n C.x C.b dX8_cure_117 rfl (lv_at hl 2 rfl) ?_
          refine lv_iconst (v := (-1)) C.x C.b dX8_cure_118 (by decide) ?_
          refine lv_icmp_ne (tgt := 124) C.x C.b dX8_cure_119 (by decide) (fun c_129 => ?_) (fun c_129 => ?_)
          · skip
            refine lv_iload_n C.x C.b dX8_cure_124 rfl (lv_at hl 1 rfl) ?_
            refine lv_if_ne (tgt := 136) C.x C.b dX8_cure_125 (by decide) (fun c_130 => ?_) (fun c_130 => ?_)
            · skip
              refine lv_iload_n C.x C.b dX8_cure_136 rfl (lv_at hl 1 rfl) ?_
              refine lv_iconst (v := 1) C.x C.b dX8_cure_137 (by decide) ?_
              refine lv_icmp_ne (tgt := 145) C.x C.b dX8_cure_138 (by decide) (fun c_131 => ?_) (fun c_131 => ?_)
              · skip
                refine lv_iload_n C.x C.b dX8_cure_145 rfl (lv_at hl 3 rfl) ?_
                exact r_iret C hr hlocks hS hKp dX8_cure_146
              · skip
                refine lv_iload_n C.x C.b dX8_cure_141 rfl (lv_at hl 2 rfl) ?_
                refine lv_goto (tgt := 146) C.x C.b dX8_cure_142 (by decide) ?_
                exact r_iret C hr hlocks hS hKp dX8_cure_146
            · skip
              refine lv_aload_n C.x C.b dX8_cure_128 rfl (lv_at hl 0 rfl) ?_
              refine lv_iload_n C.x C.b dX8_cure_129 rfl (lv_at hl 2 rfl) ?_
              refine r_callV (b := 220) (As := [.int b_89]) (rest := []) (c_X8_priceOf l D t B N g_88 _ _ _ _ _ _ _ _ b_89 (by omega) e_107 e_109 (by omega)) mf_yX8_priceOf mlX8_131 im_yX8_priceOf se_yX8_priceOf (by decide) C hS (by omega) e_107 (show vwCl[8]? = some _ from rfl) rfl rfl hl.1 rfl (Nat.le_of_ble_eq_true rfl) dX8_cure_130 ⟨Nat.zero_le _, Nat.zero_le _⟩ (fun r_134 g_132 H locs w_133 hS => ?_)
              obtain ⟨rfl, er_134⟩ := w_133
              subst er_134
              refine lv_goto (tgt := 146) C.x C.b dX8_cure_133 (by decide) ?_
              exact r_iret C hr hlocks hS hKp dX8_cure_146
          · skip
            refine lv_iconst (v := (-1)) C.x C.b dX8_cure_122 (by decide) ?_
            exact r_iret C hr hlocks hS hKp dX8_cure_123
        | succ u_84 ih_87 =>
          intro k_85 b_89 a_90 g_88 H locs ls hk_86 hKp hS hl
          refine lv_iload C.x C.b dX8_cure_27 (lv_at hl 4 rfl) ?_
          refine lv_iconst (v := 1) C.x C.b dX8_cure_29 (by decide) ?_
          refine lv_aload_n C.x C.b dX8_cure_30 rfl (lv_at hl 0 rfl) ?_
          obtain ⟨td_135, po_136, ps_137, rg_138, mm_139, st_140, an_141, sp_142, pl_143, nu_144, co_145, sm_146, sw_147, sn_148, sq_149, cl_150, ⟨e_151, e_152, e_153, e_154⟩, ⟨e_155, e_156, e_157, e_158, e_159, e_160, e_161, e_162⟩, ⟨e_163, e_164, e_165, e_166⟩, e_167, hSt_168, h01_169, hPl_170, hSm_171⟩ := hKp.2
          replace e_151 : g_88 220 = .inr (8, [.int td_135, .int (nI n), .ref (B + 221), .ref (B + 222), .ref (B + 223), .int ey, .int wi, .int ev, .ref (B + 224), .ref (B + 225), .ref (B + 226), .ref (B + 227), .ref (B + 228), .ref (B + 229), .ref (B + 230), .ref (B + 231), .ref (B + 232), .ref (B + 233), .ref (B + 234), .ref (B + 235), .ref (B + 236), .int po_136, .int ps_137]) := e_151
          refine r_get ck8 flX8_70 C hS (by omega) e_151 (by decide) rfl dX8_cure_31 ?_
          refine lv_ishl C.x C.b dX8_cure_34 ?_
          refine r_top (y := nI M9) (eM9) ?_
          refine lv_icmp_ge (tgt := 117) C.x C.b dX8_cure_35 (by decide) (fun c_172 => absurd c_172 (nI_ge (a := k_85) (b := M9) (by omega) (by omega))) (fun c_172 => ?_)
          refine lv_aload_n C.x C.b dX8_cure_38 rfl (lv_at hl 0 rfl) ?_
          refine lv_iload C.x C.b dX8_cure_39 (lv_at hl 4 rfl) ?_
          refine lv_aload_n C.x C.b dX8_cure_41 rfl (lv_at hl 0 rfl) ?_
          refine r_get ck8 flX8_19 C hS (by omega) e_151 (by decide) rfl dX8_cure_42 ?_
          refine lv_bipush (v := 7) C.x C.b dX8_cure_45 (by decide) ?_
          refine lv_iand C.x C.b dX8_cure_47 ?_
          refine r_callV (b := 220) (As := [.int (nI k_85), .int (ey &&& 7)]) (rest := []) (k_X8_isSilent l D t B N g_88 _ _ _ _ _ _ _ (nI k_85) (ey &&& 7) (by omega) hKp.2 (by omega) hO hwi) mf_yX8_isSilent mlX8_127 im_yX8_isSilent se_yX8_isSilent (by decide) C hS (by omega) e_151 (show vwCl[8]? = some _ from rfl) rfl rfl hl.1 rfl (Nat.le_of_ble_eq_true rfl) dX8_cure_48 ⟨Nat.zero_le _, Nat.zero_le _⟩ (fun r_175 g_173 H locs w_174 hS => ?_)
          obtain ⟨w_174, er_175⟩ := w_174
          replace hKp : Mk t B g g_173 n ey wi ev o pr w := hKp.tr w_174
          refine lv_if_ne (tgt := 57) C.x C.b dX8_cure_51 (by decide) (fun c_176 => ?_) (fun c_176 => ?_)
          · skip
            refine lv_iload_n C.x C.b dX8_cure_57 rfl (lv_at hl 3 rfl) ?_
            refine lv_iconst (v := 1) C.x C.b dX8_cure_58 (by decide) ?_
            refine lv_iadd C.x C.b dX8_cure_59 ?_
            refine lv_istore_n (lv' := [(3, .int (a_90 + 1)), (0, .ref (B + 220)), (1, .int x), (2, .int b_89), (4, .int (nI k_85))]) C.x C.b dX8_cure_60 rfl hl (by decide) rfl (fun ls hl => ?_)
            refine lv_iload_n C.x C.b dX8_cure_61 rfl (lv_at hl 3 rfl) ?_
            refine lv_iconst (v := (-1)) C.x C.b dX8_cure_62 (by decide) ?_
            refine lv_icmp_ne (tgt := 70) C.x C.b dX8_cure_63 (by decide) (fun c_177 => ?_) (fun c_177 => ?_)
            · skip
              refine lv_aload_n C.x C.b dX8_cure_70 rfl (lv_at hl 1 rfl) ?_
              refine lv_iload C.x C.b dX8_cure_71 (lv_at hl 4 rfl) ?_
              obtain ⟨td_178, po_179, ps_180, rg_181, mm_182, st_183, an_184, sp_185, pl_186, nu_187, co_188, sm_189, sw_190, sn_191, sq_192, cl_193, ⟨e_194, e_195, e_196, e_197⟩, ⟨e_198, e_199, e_200, e_201, e_202, e_203, e_204, e_205⟩, ⟨e_206, e_207, e_208, e_209⟩, e_210, hSt_211, h01_212, hPl_213, hSm_214⟩ := hKp.2
              replace e_194 : g_173 220 = .inr (8, [.int td_178, .int (nI n), .ref (B + 221), .ref (B + 222), .ref (B + 223), .int ey, .int wi, .int ev, .ref (B + 224), .ref (B + 225), .ref (B + 226), .ref (B + 227), .ref (B + 228), .ref (B + 229), .ref (B + 230), .ref (B + 231), .ref (B + 232), .ref (B + 233), .ref (B + 234), .ref (B + 235), .ref (B + 236), .int po_179, .int ps_180]) := e_194
              refine r_callV (b := 220) (As := [.int (nI k_85)]) (rest := []) (c_X8_priceOf l D t B N g_173 _ _ _ _ _ _ _ _ (nI k_85) (by omega) e_194 e_196 (by omega)) mf_yX8_priceOf mlX8_131 im_yX8_priceOf se_yX8_priceOf (by decide) C hS (by omega) e_194 (show vwCl[8]? = some _ from rfl) rfl rfl hl.1 rfl (Nat.le_of_ble_eq_true rfl) dX8_cure_73 ⟨Nat.zero_le _, Nat.zero_le _⟩ (fun r_217 g_215 H locs w_216 hS => ?_)
              obtain ⟨rfl, er_217⟩ := w_216
              subst er_217
              refine lv_aload_n C.x C.b dX8_cure_76 rfl (lv_at hl 1 rfl) ?_
              refine lv_iload_n C.x C.b dX8_cure_77 rfl (lv_at hl 3 rfl) ?_
              refine r_callV (b := 220) (As := [.int b_89]) (rest := [.int (prcM pr (nI k_85) n)]) (c_X8_priceOf l D t B N g_173 _ _ _ _ _ _ _ _ b_89 (by omega) e_194 e_196 (by omega)) mf_yX8_priceOf mlX8_131 im_yX8_priceOf se_yX8_priceOf (by decide) C hS (by omega) e_194 (show vwCl[8]? = some _ from rfl) rfl rfl hl.1 rfl (Nat.le_of_ble_eq_true rfl) dX8_cure_78 ⟨Nat.zero_le _, Nat.zero_le _⟩ (fun r_220 g_218 H locs w_219 hS => ?_)
              obtain ⟨rfl, er_220⟩ := w_219
              subst er_220
              refine lv_isub C.x C.b dX8_cure_81 ?_
              refine lv_istore (lv' := [(5, .int ((prcM pr (nI k_85) n) - (prcM pr b_89 n))), (3, .int (a_90 + 1)), (0, .ref (B + 220)), (1, .int x), (2, .int b_89), (4, .int (nI k_85))]) C.x C.b dX8_cure_82 hl (by decide) rfl (fun ls hl => ?_)
              refine lv_iload C.x C.b dX8_cure_84 (lv_at hl 0 rfl) ?_
              refine lv_if_lt (tgt := 108) C.x C.b dX8_cure_86 (by decide) (fun c_221 => ?_) (fun c_221 => ?_)
              · skip
                refine lv_iload C.x C.b dX8_cure_108 (lv_at hl 5 rfl) ?_
                refine lv_istore_n (lv' := [(2, .int (nI k_85)), (5, .int ((prcM pr (nI k_85) n) - (prcM pr b_89 n))), (3, .int (a_90 + 1)), (0, .ref (B + 220)), (1, .int x), (4, .int (nI k_85))]) C.x C.b dX8_cure_110 rfl hl (by decide) rfl (fun ls hl => ?_)
                refine lv_iinc (v := nI (k_85 + 1)) (lv' := [(4, .int (nI (k_85 + 1))), (2, .int (nI k_85)), (5, .int ((prcM pr (nI k_85) n) - (prcM pr b_89 n))), (3, .int (a_90 + 1)), (0, .ref (B + 220)), (1, .int x)]) C.x C.b dX8_cure_111 hl (k := 5) rfl (nI_1 k_85) (by decide) rfl (fun ls hl => ?_)
                refine lv_goto (tgt := 27) C.x C.b dX8_cure_114 (by decide) ?_
                exact ih_87 (k_85 + 1) (nI k_85) (a_90 + 1) g_173 _ _ _ (by omega)  hKp hS (lv_sub hl [4, 5, 1, 3, 0] rfl)
              · skip
                refine lv_iload C.x C.b dX8_cure_89 (lv_at hl 0 rfl) ?_
                refine lv_if_ne (tgt := 111) C.x C.b dX8_cure_91 (by decide) (fun c_222 => ?_) (fun c_222 => ?_)
                · skip
                  refine lv_iinc (v := nI (k_85 + 1)) (lv' := [(4, .int (nI (k_85 + 1))), (5, .int ((prcM pr (nI k_85) n) - (prcM pr b_89 n))), (3, .int (a_90 + 1)), (0, .ref (B + 220)), (1, .int x), (2, .int b_89)]) C.x C.b dX8_cure_111 hl (k := 5) rfl (nI_1 k_85) (by decide) rfl (fun ls hl => ?_)
                  refine lv_goto (tgt := 27) C.x C.b dX8_cure_114 (by decide) ?_
                  exact ih_87 (k_85 + 1) b_89 (a_90 + 1) g_173 _ _ _ (by omega)  hKp hS (lv_sub hl [3, 4, 5, 2, 0] rfl)
                · skip
                  refine lv_aload_n C.x C.b dX8_cure_94 rfl (lv_at hl 2 rfl) ?_
                  refine lv_iload C.x C.b dX8_cure_95 (lv_at hl 5 rfl) ?_
                  refine r_callV (b := 220) (As := [.int (nI k_85)]) (rest := []) (c_X8_ones l D t B N g_173 (nI k_85)) mf_yX8_ones mlX8_134 im_yX8_ones se_yX8_ones (by decide) C hS (by omega) e_194 (show vwCl[8]? = some _ from rfl) rfl rfl hl.1 rfl (Nat.le_of_ble_eq_true rfl) dX8_cure_97 ⟨Nat.zero_le _, Nat.zero_le _⟩ (fun r_225 g_223 H locs w_224 hS => ?_)
                  obtain ⟨rfl, er_225⟩ := w_224
                  subst er_225
                  refine lv_aload_n C.x C.b dX8_cure_100 rfl (lv_at hl 2 rfl) ?_
                  refine lv_iload_n C.x C.b dX8_cure_101 rfl (lv_at hl 4 rfl) ?_
                  refine r_callV (b := 220) (As := [.int b_89]) (rest := [.int (onesL (nI k_85).toBitVec.toNat 0 (nI k_85))]) (c_X8_ones l D t B N g_173 b_89) mf_yX8_ones mlX8_134 im_yX8_ones se_yX8_ones (by decide) C hS (by omega) e_194 (show vwCl[8]? = some _ from rfl) rfl rfl hl.1 rfl (Nat.le_of_ble_eq_true rfl) dX8_cure_102 ⟨Nat.zero_le _, Nat.zero_le _⟩ (fun r_228 g_226 H locs w_227 hS => ?_)
                  obtain ⟨rfl, er_228⟩ := w_227
                  subst er_228
                  refine lv_icmp_ge (tgt := 111) C.x C.b dX8_cure_105 (by decide) (fun c_229 => ?_) (fun c_229 => ?_)
                  · skip
                    refine lv_iinc (v := nI (k_85 + 1)) (lv' := [(4, .int (nI (k_85 + 1))), (5, .int ((prcM pr (nI k_85) n) - (prcM pr b_89 n))), (3, .int (a_90 + 1)), (0, .ref (B + 220)), (1, .int x), (2, .int b_89)]) C.x C.b dX8_cure_111 hl (k := 5) rfl (nI_1 k_85) (by decide) rfl (fun ls hl => ?_)
                    refine lv_goto (tgt := 27) C.x C.b dX8_cure_114 (by decide) ?_
                    exact ih_87 (k_85 + 1) b_89 (a_90 + 1) g_173 _ _ _ (by omega)  hKp hS (lv_sub hl [3, 4, 5, 2, 0] rfl)
                  · skip
                    refine lv_iload C.x C.b dX8_cure_108 (lv_at hl 5 rfl) ?_
                    refine lv_istore_n (lv' := [(2, .int (nI k_85)), (5, .int ((prcM pr (nI k_85) n) - (prcM pr b_89 n))), (3, .int (a_90 + 1)), (0, .ref (B + 220)), (1, .int x), (4, .int (nI k_85))]) C.x C.b dX8_cure_110 rfl hl (by decide) rfl (fun ls hl => ?_)
                    refine lv_iinc (v := nI (k_85 + 1)) (lv' := [(4, .int (nI (k_85 + 1))), (2, .int (nI k_85)), (5, .int ((prcM pr (nI k_85) n) - (prcM pr b_89 n))), (3, .int (a_90 + 1)), (0, .ref (B + 220)), (1, .int x)]) C.x C.b dX8_cure_111 hl (k := 5) rfl (nI_1 k_85) (by decide) rfl (fun ls hl => ?_)
                    refine lv_goto (tgt := 27) C.x C.b dX8_cure_114 (by decide) ?_
                    exact ih_87 (k_85 + 1) (nI k_85) (a_90 + 1) g_173 _ _ _ (by omega)  hKp hS (lv_sub hl [4, 5, 1, 3, 0] rfl)
            · skip
              refine lv_iconst (v := (-1)) C.x C.b dX8_cure_66 (by decide) ?_
              refine lv_goto (tgt := 82) C.x C.b dX8_cure_67 (by decide) ?_
              refine lv_istore (lv' := [(5, .int (-1)), (3, .int (a_90 + 1)), (0, .ref (B + 220)), (1, .int x), (2, .int b_89), (4, .int (nI k_85))]) C.x C.b dX8_cure_82 hl (by decide) rfl (fun ls hl => ?_)
              refine lv_iload C.x C.b dX8_cure_84 (lv_at hl 0 rfl) ?_
              refine lv_if_lt (tgt := 108) C.x C.b dX8_cure_86 (by decide) (fun c_230 => ?_) (fun c_230 => absurd (by decide) c_230)
              refine lv_iload C.x C.b dX8_cure_108 (lv_at hl 5 rfl) ?_
              refine lv_istore_n (lv' := [(2, .int (nI k_85)), (5, .int (-1)), (3, .int (a_90 + 1)), (0, .ref (B + 220)), (1, .int x), (4, .int (nI k_85))]) C.x C.b dX8_cure_110 rfl hl (by decide) rfl (fun ls hl => ?_)
              refine lv_iinc (v := nI (k_85 + 1)) (lv' := [(4, .int (nI (k_85 + 1))), (2, .int (nI k_85)), (5, .int (-1)), (3, .int (a_90 + 1)), (0, .ref (B + 220)), (1, .int x)]) C.x C.b dX8_cure_111 hl (k := 5) rfl (nI_1 k_85) (by decide) rfl (fun ls hl => ?_)
              refine lv_goto (tgt := 27) C.x C.b dX8_cure_114 (by decide) ?_
              exact ih_87 (k_85 + 1) (nI k_85) (a_90 + 1) g_173 _ _ _ (by omega)  hKp hS (lv_sub hl [4, 5, 1, 3, 0] rfl)
          · skip
            refine lv_goto (tgt := 111) C.x C.b dX8_cure_54 (by decide) ?_
            refine lv_iinc (v := nI (k_85 + 1)) (lv' := [(4, .int (nI (k_85 + 1))), (0, .ref (B + 220)), (1, .int x), (2, .int b_89), (3, .int a_90)]) C.x C.b dX8_cure_111 hl (k := 4) rfl (nI_1 k_85) (by decide) rfl (fun ls hl => ?_)
            refine lv_goto (tgt := 27) C.x C.b dX8_cure_114 (by decide) ?_
            exact ih_87 (k_85 + 1) b_89 a_90 g_173 _ _ _ (by omega)  hKp hS (lv_sub hl [1, 2, 3, 4, 0] rfl)
      exact lp_83 M9 0 (-1) 0 g_43 _ _ _ (by omega)  hKp hS (lv_sub hl [3, 4, 2, 1, 0] rfl)
    · skip
      refine lv_iconst (v := (-1)) C.x C.b dX8_cure_14 (by decide) ?_
      exact r_iret C hr hlocks hS hKp dX8_cure_15
set_option maxHeartbeats 1000000 in
set_option maxRecDepth 100000 in
theorem k_X8_reached (l : Launch) (D : va_G) (t : Gx) (B N : Nat) (g : Nat → va_E) (n : Nat) (ey wi ev : Int32) (o pr w : Nat → Int32)  (hN : 236 < N) (hM : Msh t B g n ey wi ev o pr w) (hn : n ≤ 8) (hO : okO o) (hwi : ¬ wi = 0)  : Ci l D t B N yX8_reached cX8_reached 4 (some .int) 4 95 g [.ref (B + 220)] (fun r g' => Mk t B g g' n ey wi ev o pr w) := by
  refine Ci.start (by decide) (Nat.le_of_ble_eq_true rfl) ?_
  intro p e s m below meth c ls C hr hlocks hS hl
  replace C : Cx D t p s m [.ref (B + 220)].toArray c cX8_reached 4 RX8 := C
  replace hl : lv_has ls 4 [(0, .ref (B + 220))] := hl
  have hKp : Mk t B g g n ey wi ev o pr w := Mk.rf hM
  refine lv_aload_n C.x C.b dX8_reached_0 rfl (lv_at hl 0 rfl) ?_
  refine lv_iconst (v := 0) C.x C.b dX8_reached_1 (by decide) ?_
  obtain ⟨td_1, po_2, ps_3, rg_4, mm_5, st_6, an_7, sp_8, pl_9, nu_10, co_11, sm_12, sw_13, sn_14, sq_15, cl_16, ⟨e_17, e_18, e_19, e_20⟩, ⟨e_21, e_22, e_23, e_24, e_25, e_26, e_27, e_28⟩, ⟨e_29, e_30, e_31, e_32⟩, e_33, hSt_34, h01_35, hPl_36, hSm_37⟩ := hKp.2
  replace e_17 : g 220 = .inr (8, [.int td_1, .int (nI n), .ref (B + 221), .ref (B + 222), .ref (B + 223), .int ey, .int wi, .int ev, .ref (B + 224), .ref (B + 225), .ref (B + 226), .ref (B + 227), .ref (B + 228), .ref (B + 229), .ref (B + 230), .ref (B + 231), .ref (B + 232), .ref (B + 233), .ref (B + 234), .ref (B + 235), .ref (B + 236), .int po_2, .int ps_3]) := e_17
  refine r_put ck8 flX8_66 C hS (by omega) e_17 (by decide) rfl rfl rfl (Nat.le_of_ble_eq_true rfl) dX8_reached_2 (fun g_38 H locs e_39 o_40 hS => ?_)
  replace e_39 : g_38 220 = .inr (8, [.int 0, .int (nI n), .ref (B + 221), .ref (B + 222), .ref (B + 223), .int ey, .int wi, .int ev, .ref (B + 224), .ref (B + 225), .ref (B + 226), .ref (B + 227), .ref (B + 228), .ref (B + 229), .ref (B + 230), .ref (B + 231), .ref (B + 232), .ref (B + 233), .ref (B + 234), .ref (B + 235), .ref (B + 236), .int po_2, .int ps_3]) := e_39
  replace hKp : Mk t B g g_38 n ey wi ev o pr w := hKp.obj (td := 0) (po := po_2) (ps := ps_3) e_39 o_40
  refine lv_aload_n C.x C.b dX8_reached_5 rfl (lv_at hl 0 rfl) ?_
  obtain ⟨td_44, po_45, ps_46, rg_47, mm_48, st_49, an_50, sp_51, pl_52, nu_53, co_54, sm_55, sw_56, sn_57, sq_58, cl_59, ⟨e_60, e_61, e_62, e_63⟩, ⟨e_64, e_65, e_66, e_67, e_68, e_69, e_70, e_71⟩, ⟨e_72, e_73, e_74, e_75⟩, e_76, hSt_77, h01_78, hPl_79, hSm_80⟩ := hKp.2
  replace e_60 : g_38 220 = .inr (8, [.int td_44, .int (nI n), .ref (B + 221), .ref (B + 222), .ref (B + 223), .int ey, .int wi, .int ev, .ref (B + 224), .ref (B + 225), .ref (B + 226), .ref (B + 227), .ref (B + 228), .ref (B + 229), .ref (B + 230), .ref (B + 231), .ref (B + 232), .ref (B + 233), .ref (B + 234), .ref (B + 235), .ref (B + 236), .int po_45, .int ps_46]) := e_60
  refine r_callVv (b := 220) (As := []) (rest := []) (k_goAll l D t B N g_38 _ _ _ _ _ _ _ (by omega) hKp.2 (by omega) hO) mf_yX8_goAll mlX8_115 im_yX8_goAll se_yX8_goAll (by decide) C hS (by omega) e_60 (show vwCl[8]? = some _ from rfl) rfl rfl hl.1 rfl (Nat.le_of_ble_eq_true rfl) dX8_reached_6 ⟨Nat.zero_le _, Nat.zero_le _⟩ (fun g_41 H locs w_42 hS => ?_)
  replace hKp : Mk t B g g_41 n ey wi ev o pr w := hKp.tr w_42
  refine lv_iconst (v := 0) C.x C.b dX8_reached_9 (by decide) ?_
  refine lv_istore_n (lv' := [(1, .int 0), (0, .ref (B + 220))]) C.x C.b dX8_reached_10 rfl hl (by decide) rfl (fun ls hl => ?_)
  refine lv_iconst (v := 0) C.x C.b dX8_reached_11 (by decide) ?_
  refine lv_istore_n (lv' := [(2, .int 0), (1, .int 0), (0, .ref (B + 220))]) C.x C.b dX8_reached_12 rfl hl (by decide) rfl (fun ls hl => ?_)
  have lp_81 : ∀ (u_82 k_83 : Nat) (b_87 : Int32) (g_86 : Nat → va_E) (H : Heap) (locs : List Loc) (ls : Array Slot), k_83 + u_82 = 256 → Mk t B g g_86 n ey wi ev o pr w → St D B s.heap N g_86 H locs → lv_has ls 4 [(0, .ref (B + 220)), (1, .int b_87), (2, .int (nI k_83))] → W p l e (rmOf 4 95 0 0) s m [.ref (B + 220)].toArray below meth c H locs 0 0 (MQ below (qI D B N (fun r g' => Mk t B g g' n ey wi ev o pr w)) [.ref (B + 220)].toArray s 0 0 (fun q => B ≤ q)) (F0 m 13 ls []) := by
    intro u_82
    induction u_82 with
    | zero =>
      intro k_83 b_87 g_86 H locs ls hk_84 hKp hS hl
      obtain rfl : 256 = k_83 := by omega
      refine lv_iload_n C.x C.b dX8_reached_13 rfl (lv_at hl 2 rfl) ?_
      refine lv_sipush (v := 256) C.x C.b dX8_reached_14 (by decide) ?_
      refine lv_icmp_ge (tgt := 63) C.x C.b dX8_reached_17 (by decide) (fun c_88 => ?_) (fun c_88 => absurd (by decide) c_88)
      refine lv_iload_n C.x C.b dX8_reached_63 rfl (lv_at hl 1 rfl) ?_
      exact r_iret C hr hlocks hS hKp dX8_reached_64
    | succ u_82 ih_85 =>
      intro k_83 b_87 g_86 H locs ls hk_84 hKp hS hl
      refine lv_iload_n C.x C.b dX8_reached_13 rfl (lv_at hl 2 rfl) ?_
      refine lv_sipush (v := 256) C.x C.b dX8_reached_14 (by decide) ?_
      refine lv_icmp_ge (tgt := 63) C.x C.b dX8_reached_17 (by decide) (fun c_89 => absurd c_89 (nI_ge (a := k_83) (b := 256) (by omega) (by decide))) (fun c_89 => ?_)
      refine lv_bipush (v := 40) C.x C.b dX8_reached_20 (by decide) ?_
      refine lv_iload_n C.x C.b dX8_reached_22 rfl (lv_at hl 2 rfl) ?_
      refine lv_imul C.x C.b dX8_reached_23 ?_
      refine r_top (y := nI (40 * k_83)) (pk_mul 40 k_83) ?_
      refine lv_istore_n (lv' := [(3, .int (nI (40 * k_83))), (0, .ref (B + 220)), (1, .int b_87), (2, .int (nI k_83))]) C.x C.b dX8_reached_24 rfl hl (by decide) rfl (fun ls hl => ?_)
      obtain ⟨td_90, po_91, ps_92, rg_93, mm_94, st_95, an_96, sp_97, pl_98, nu_99, co_100, sm_101, sw_102, sn_103, sq_104, cl_105, ⟨e_106, e_107, e_108, e_109⟩, ⟨e_110, e_111, e_112, e_113, e_114, e_115, e_116, e_117⟩, ⟨e_118, e_119, e_120, e_121⟩, e_122, hSt_123, h01_124, hPl_125, hSm_126⟩ := hKp.2
      replace e_106 : g_86 220 = .inr (8, [.int td_90, .int (nI n), .ref (B + 221), .ref (B + 222), .ref (B + 223), .int ey, .int wi, .int ev, .ref (B + 224), .ref (B + 225), .ref (B + 226), .ref (B + 227), .ref (B + 228), .ref (B + 229), .ref (B + 230), .ref (B + 231), .ref (B + 232), .ref (B + 233), .ref (B + 234), .ref (B + 235), .ref (B + 236), .int po_91, .int ps_92]) := e_106
      obtain ⟨s_127, hs_128, hs_129⟩ := hSt_123 k_83 (by omega)
      have lp_130 : ∀ (u_131 k_132 : Nat) (H : Heap) (locs : List Loc) (ls : Array Slot), k_132 + u_131 = s_127 → St D B s.heap N g_86 H locs → lv_has ls 4 [(0, .ref (B + 220)), (2, .int (nI k_83)), (1, .int (rchF pl_98 k_83 b_87 k_132)), (3, .int (nI (40 * k_83 + k_132)))] → W p l e (rmOf 4 95 0 0) s m [.ref (B + 220)].toArray below meth c H locs 0 0 (MQ below (qI D B N (fun r g' => Mk t B g g' n ey wi ev o pr w)) [.ref (B + 220)].toArray s 0 0 (fun q => B ≤ q)) (F0 m 25 ls []) := by
        intro u_131
        induction u_131 with
        | zero =>
          intro k_132 H locs ls hk_133 hS hl
          obtain rfl : s_127 = k_132 := by omega
          refine lv_iload_n C.x C.b dX8_reached_25 rfl (lv_at hl 3 rfl) ?_
          refine lv_bipush (v := 40) C.x C.b dX8_reached_26 (by decide) ?_
          refine lv_iload_n C.x C.b dX8_reached_28 rfl (lv_at hl 1 rfl) ?_
          refine lv_imul C.x C.b dX8_reached_29 ?_
          refine r_top (y := nI (40 * k_83)) (pk_mul 40 k_83) ?_
          refine lv_aload_n C.x C.b dX8_reached_30 rfl (lv_at hl 0 rfl) ?_
          refine r_get ck8 flX8_32 C hS (by omega) e_106 (by decide) rfl dX8_reached_31 ?_
          refine lv_iload_n C.x C.b dX8_reached_34 rfl (lv_at hl 1 rfl) ?_
          refine r_ialdN k_83 rfl (by omega) (by decide) C hS (by omega) e_112 dX8_reached_35 ?_
          refine r_top (y := nI s_127) (hs_129) ?_
          refine lv_iadd C.x C.b dX8_reached_36 ?_
          refine r_top (y := nI ((40 * k_83) + s_127)) (nI_add (40 * k_83) s_127) ?_
          refine lv_icmp_ge (tgt := 57) C.x C.b dX8_reached_37 (by decide) (fun c_136 => ?_) (fun c_136 => absurd (nI_le (Nat.le_refl _) (by omega)) c_136)
          refine lv_iinc (v := nI (k_83 + 1)) (lv' := [(2, .int (nI (k_83 + 1))), (0, .ref (B + 220)), (1, .int (rchF pl_98 k_83 b_87 s_127)), (3, .int (nI (40 * k_83 + s_127)))]) C.x C.b dX8_reached_57 hl (k := 1) rfl (nI_1 k_83) (by decide) rfl (fun ls hl => ?_)
          refine lv_goto (tgt := 13) C.x C.b dX8_reached_60 (by decide) ?_
          exact ih_85 (k_83 + 1) (rchF pl_98 k_83 b_87 s_127) g_86 _ _ _ (by omega)  hKp hS (lv_sub hl [1, 2, 0] rfl)
        | succ u_131 ih_134 =>
          intro k_132 H locs ls hk_133 hS hl
          refine lv_iload_n C.x C.b dX8_reached_25 rfl (lv_at hl 3 rfl) ?_
          refine lv_bipush (v := 40) C.x C.b dX8_reached_26 (by decide) ?_
          refine lv_iload_n C.x C.b dX8_reached_28 rfl (lv_at hl 1 rfl) ?_
          refine lv_imul C.x C.b dX8_reached_29 ?_
          refine r_top (y := nI (40 * k_83)) (pk_mul 40 k_83) ?_
          refine lv_aload_n C.x C.b dX8_reached_30 rfl (lv_at hl 0 rfl) ?_
          refine r_get ck8 flX8_32 C hS (by omega) e_106 (by decide) rfl dX8_reached_31 ?_
          refine lv_iload_n C.x C.b dX8_reached_34 rfl (lv_at hl 1 rfl) ?_
          refine r_ialdN k_83 rfl (by omega) (by decide) C hS (by omega) e_112 dX8_reached_35 ?_
          refine r_top (y := nI s_127) (hs_129) ?_
          refine lv_iadd C.x C.b dX8_reached_36 ?_
          refine r_top (y := nI ((40 * k_83) + s_127)) (nI_add (40 * k_83) s_127) ?_
          refine lv_icmp_ge (tgt := 57) C.x C.b dX8_reached_37 (by decide) (fun c_137 => absurd c_137 (nI_ge (a := (40 * k_83 + k_132)) (b := (40 * k_83 + s_127)) (by omega) (by omega))) (fun c_137 => ?_)
          refine lv_iload_n C.x C.b dX8_reached_40 rfl (lv_at hl 2 rfl) ?_
          refine lv_iconst (v := 1) C.x C.b dX8_reached_41 (by decide) ?_
          refine lv_aload_n C.x C.b dX8_reached_42 rfl (lv_at hl 0 rfl) ?_
          refine r_get ck8 flX8_42 C hS (by omega) e_106 (by decide) rfl dX8_reached_43 ?_
          refine lv_iload_n C.x C.b dX8_reached_46 rfl (lv_at hl 3 rfl) ?_
          refine r_ialdN (40 * k_83 + k_132) rfl (by omega) (by decide) C hS (by omega) e_115 dX8_reached_47 ?_
          refine lv_ishl C.x C.b dX8_reached_48 ?_
          refine lv_ior C.x C.b dX8_reached_49 ?_
          refine lv_istore_n (lv' := [(1, .int ((rchF pl_98 k_83 b_87 k_132) ||| ((1 : Int32) <<< ((pl_98 (40 * k_83 + k_132)) &&& 31)))), (0, .ref (B + 220)), (2, .int (nI k_83)), (3, .int (nI (40 * k_83 + k_132)))]) C.x C.b dX8_reached_50 rfl hl (by decide) rfl (fun ls hl => ?_)
          refine lv_iinc (v := nI ((40 * k_83 + k_132) + 1)) (lv' := [(3, .int (nI ((40 * k_83 + k_132) + 1))), (1, .int ((rchF pl_98 k_83 b_87 k_132) ||| ((1 : Int32) <<< ((pl_98 (40 * k_83 + k_132)) &&& 31)))), (0, .ref (B + 220)), (2, .int (nI k_83))]) C.x C.b dX8_reached_51 hl (k := 3) rfl (nI_1 (40 * k_83 + k_132)) (by decide) rfl (fun ls hl => ?_)
          refine lv_goto (tgt := 25) C.x C.b dX8_reached_54 (by decide) ?_
          exact ih_134 (k_132 + 1) _ _ _ (by omega)  hS (lv_sub hl [2, 3, 1, 0] rfl)
      exact lp_130 s_127 0 _ _ _ (by omega)  hS (lv_sub hl [1, 3, 2, 0] rfl)
  exact lp_81 256 0 0 g_41 _ _ _ (by omega)  hKp hS (lv_sub hl [2, 1, 0] rfl)
set_option maxHeartbeats 1000000 in
set_option maxRecDepth 100000 in
theorem k_X8_tellers (l : Launch) (D : va_G) (t : Gx) (B N : Nat) (g : Nat → va_E) (n : Nat) (ey wi ev : Int32) (o pr w : Nat → Int32)  (hN : 236 < N) (hM : Msh t B g n ey wi ev o pr w) (hn : n ≤ 8) (hO : okO o) (hwi : ¬ wi = 0)  : Ci l D t B N yX8_tellers cX8_tellers 4 (some .int) 5 120 g [.ref (B + 220)] (fun r g' => Mk t B g g' n ey wi ev o pr w) := by
  refine Ci.start (by decide) (Nat.le_of_ble_eq_true rfl) ?_
  intro p e s m below meth c ls C hr hlocks hS hl
  replace C : Cx D t p s m [.ref (B + 220)].toArray c cX8_tellers 4 RX8 := C
  replace hl : lv_has ls 4 [(0, .ref (B + 220))] := hl
  have hKp : Mk t B g g n ey wi ev o pr w := Mk.rf hM
  refine lv_aload_n C.x C.b dX8_tellers_0 rfl (lv_at hl 0 rfl) ?_
  refine lv_iconst (v := 0) C.x C.b dX8_tellers_1 (by decide) ?_
  obtain ⟨td_1, po_2, ps_3, rg_4, mm_5, st_6, an_7, sp_8, pl_9, nu_10, co_11, sm_12, sw_13, sn_14, sq_15, cl_16, ⟨e_17, e_18, e_19, e_20⟩, ⟨e_21, e_22, e_23, e_24, e_25, e_26, e_27, e_28⟩, ⟨e_29, e_30, e_31, e_32⟩, e_33, hSt_34, h01_35, hPl_36, hSm_37⟩ := hKp.2
  replace e_17 : g 220 = .inr (8, [.int td_1, .int (nI n), .ref (B + 221), .ref (B + 222), .ref (B + 223), .int ey, .int wi, .int ev, .ref (B + 224), .ref (B + 225), .ref (B + 226), .ref (B + 227), .ref (B + 228), .ref (B + 229), .ref (B + 230), .ref (B + 231), .ref (B + 232), .ref (B + 233), .ref (B + 234), .ref (B + 235), .ref (B + 236), .int po_2, .int ps_3]) := e_17
  refine r_put ck8 flX8_66 C hS (by omega) e_17 (by decide) rfl rfl rfl (Nat.le_of_ble_eq_true rfl) dX8_tellers_2 (fun g_38 H locs e_39 o_40 hS => ?_)
  replace e_39 : g_38 220 = .inr (8, [.int 0, .int (nI n), .ref (B + 221), .ref (B + 222), .ref (B + 223), .int ey, .int wi, .int ev, .ref (B + 224), .ref (B + 225), .ref (B + 226), .ref (B + 227), .ref (B + 228), .ref (B + 229), .ref (B + 230), .ref (B + 231), .ref (B + 232), .ref (B + 233), .ref (B + 234), .ref (B + 235), .ref (B + 236), .int po_2, .int ps_3]) := e_39
  replace hKp : Mk t B g g_38 n ey wi ev o pr w := hKp.obj (td := 0) (po := po_2) (ps := ps_3) e_39 o_40
  refine lv_aload_n C.x C.b dX8_tellers_5 rfl (lv_at hl 0 rfl) ?_
  obtain ⟨td_44, po_45, ps_46, rg_47, mm_48, st_49, an_50, sp_51, pl_52, nu_53, co_54, sm_55, sw_56, sn_57, sq_58, cl_59, ⟨e_60, e_61, e_62, e_63⟩, ⟨e_64, e_65, e_66, e_67, e_68, e_69, e_70, e_71⟩, ⟨e_72, e_73, e_74, e_75⟩, e_76, hSt_77, h01_78, hPl_79, hSm_80⟩ := hKp.2
  replace e_60 : g_38 220 = .inr (8, [.int td_44, .int (nI n), .ref (B + 221), .ref (B + 222), .ref (B + 223), .int ey, .int wi, .int ev, .ref (B + 224), .ref (B + 225), .ref (B + 226), .ref (B + 227), .ref (B + 228), .ref (B + 229), .ref (B + 230), .ref (B + 231), .ref (B + 232), .ref (B + 233), .ref (B + 234), .ref (B + 235), .ref (B + 236), .int po_45, .int ps_46]) := e_60
  refine r_callVv (b := 220) (As := []) (rest := []) (k_goAll l D t B N g_38 _ _ _ _ _ _ _ (by omega) hKp.2 (by omega) hO) mf_yX8_goAll mlX8_115 im_yX8_goAll se_yX8_goAll (by decide) C hS (by omega) e_60 (show vwCl[8]? = some _ from rfl) rfl rfl hl.1 rfl (Nat.le_of_ble_eq_true rfl) dX8_tellers_6 ⟨Nat.zero_le _, Nat.zero_le _⟩ (fun g_41 H locs w_42 hS => ?_)
  replace hKp : Mk t B g g_41 n ey wi ev o pr w := hKp.tr w_42
  refine lv_iconst (v := 1) C.x C.b dX8_tellers_9 (by decide) ?_
  refine lv_aload_n C.x C.b dX8_tellers_10 rfl (lv_at hl 0 rfl) ?_
  obtain ⟨td_81, po_82, ps_83, rg_84, mm_85, st_86, an_87, sp_88, pl_89, nu_90, co_91, sm_92, sw_93, sn_94, sq_95, cl_96, ⟨e_97, e_98, e_99, e_100⟩, ⟨e_101, e_102, e_103, e_104, e_105, e_106, e_107, e_108⟩, ⟨e_109, e_110, e_111, e_112⟩, e_113, hSt_114, h01_115, hPl_116, hSm_117⟩ := hKp.2
  replace e_97 : g_41 220 = .inr (8, [.int td_81, .int (nI n), .ref (B + 221), .ref (B + 222), .ref (B + 223), .int ey, .int wi, .int ev, .ref (B + 224), .ref (B + 225), .ref (B + 226), .ref (B + 227), .ref (B + 228), .ref (B + 229), .ref (B + 230), .ref (B + 231), .ref (B + 232), .ref (B + 233), .ref (B + 234), .ref (B + 235), .ref (B + 236), .int po_82, .int ps_83]) := e_97
  refine r_get ck8 flX8_70 C hS (by omega) e_97 (by decide) rfl dX8_tellers_11 ?_
  refine lv_ishl C.x C.b dX8_tellers_14 ?_
  refine lv_iconst (v := 1) C.x C.b dX8_tellers_15 (by decide) ?_
  refine lv_isub C.x C.b dX8_tellers_16 ?_
  obtain ⟨M9, hM9, eM9⟩ := al1 hn
  refine r_top (y := nI M9) eM9 ?_
  refine lv_istore_n (lv' := [(1, .int (nI M9)), (0, .ref (B + 220))]) C.x C.b dX8_tellers_17 rfl hl (by decide) rfl (fun ls hl => ?_)
  refine lv_iconst (v := 0) C.x C.b dX8_tellers_18 (by decide) ?_
  refine lv_istore_n (lv' := [(2, .int 0), (1, .int (nI M9)), (0, .ref (B + 220))]) C.x C.b dX8_tellers_19 rfl hl (by decide) rfl (fun ls hl => ?_)
  refine lv_iconst (v := 0) C.x C.b dX8_tellers_20 (by decide) ?_
  refine lv_istore_n (lv' := [(3, .int 0), (2, .int 0), (1, .int (nI M9)), (0, .ref (B + 220))]) C.x C.b dX8_tellers_21 rfl hl (by decide) rfl (fun ls hl => ?_)
  have lp_118 : ∀ (u_119 k_120 : Nat) (b_124 : Int32) (g_123 : Nat → va_E) (H : Heap) (locs : List Loc) (ls : Array Slot), k_120 + u_119 = n → Mk t B g g_123 n ey wi ev o pr w → St D B s.heap N g_123 H locs → lv_has ls 4 [(1, .int (nI M9)), (0, .ref (B + 220)), (2, .int b_124), (3, .int (nI k_120))] → W p l e (rmOf 5 120 0 0) s m [.ref (B + 220)].toArray below meth c H locs 0 0 (MQ below (qI D B N (fun r g' => Mk t B g g' n ey wi ev o pr w)) [.ref (B + 220)].toArray s 0 0 (fun q => B ≤ q)) (F0 m 22 ls []) := by
    intro u_119
    induction u_119 with
    | zero =>
      intro k_120 b_124 g_123 H locs ls hk_121 hKp hS hl
      obtain rfl : n = k_120 := by omega
      refine lv_iload_n C.x C.b dX8_tellers_22 rfl (lv_at hl 3 rfl) ?_
      refine lv_aload_n C.x C.b dX8_tellers_23 rfl (lv_at hl 1 rfl) ?_
      obtain ⟨td_125, po_126, ps_127, rg_128, mm_129, st_130, an_131, sp_132, pl_133, nu_134, co_135, sm_136, sw_137, sn_138, sq_139, cl_140, ⟨e_141, e_142, e_143, e_144⟩, ⟨e_145, e_146, e_147, e_148, e_149, e_150, e_151, e_152⟩, ⟨e_153, e_154, e_155, e_156⟩, e_157, hSt_158, h01_159, hPl_160, hSm_161⟩ := hKp.2
      replace e_141 : g_123 220 = .inr (8, [.int td_125, .int (nI n), .ref (B + 221), .ref (B + 222), .ref (B + 223), .int ey, .int wi, .int ev, .ref (B + 224), .ref (B + 225), .ref (B + 226), .ref (B + 227), .ref (B + 228), .ref (B + 229), .ref (B + 230), .ref (B + 231), .ref (B + 232), .ref (B + 233), .ref (B + 234), .ref (B + 235), .ref (B + 236), .int po_126, .int ps_127]) := e_141
      refine r_get ck8 flX8_70 C hS (by omega) e_141 (by decide) rfl dX8_tellers_24 ?_
      refine lv_icmp_ge (tgt := 63) C.x C.b dX8_tellers_27 (by decide) (fun c_162 => ?_) (fun c_162 => absurd (nI_le (Nat.le_refl _) (by omega)) c_162)
      refine lv_iload_n C.x C.b dX8_tellers_63 rfl (lv_at hl 2 rfl) ?_
      exact r_iret C hr hlocks hS hKp dX8_tellers_64
    | succ u_119 ih_122 =>
      intro k_120 b_124 g_123 H locs ls hk_121 hKp hS hl
      refine lv_iload_n C.x C.b dX8_tellers_22 rfl (lv_at hl 3 rfl) ?_
      refine lv_aload_n C.x C.b dX8_tellers_23 rfl (lv_at hl 1 rfl) ?_
      obtain ⟨td_163, po_164, ps_165, rg_166, mm_167, st_168, an_169, sp_170, pl_171, nu_172, co_173, sm_174, sw_175, sn_176, sq_177, cl_178, ⟨e_179, e_180, e_181, e_182⟩, ⟨e_183, e_184, e_185, e_186, e_187, e_188, e_189, e_190⟩, ⟨e_191, e_192, e_193, e_194⟩, e_195, hSt_196, h01_197, hPl_198, hSm_199⟩ := hKp.2
      replace e_179 : g_123 220 = .inr (8, [.int td_163, .int (nI n), .ref (B + 221), .ref (B + 222), .ref (B + 223), .int ey, .int wi, .int ev, .ref (B + 224), .ref (B + 225), .ref (B + 226), .ref (B + 227), .ref (B + 228), .ref (B + 229), .ref (B + 230), .ref (B + 231), .ref (B + 232), .ref (B + 233), .ref (B + 234), .ref (B + 235), .ref (B + 236), .int po_164, .int ps_165]) := e_179
      refine r_get ck8 flX8_70 C hS (by omega) e_179 (by decide) rfl dX8_tellers_24 ?_
      refine lv_icmp_ge (tgt := 63) C.x C.b dX8_tellers_27 (by decide) (fun c_200 => absurd c_200 (nI_ge (a := k_120) (b := n) (by omega) (by omega))) (fun c_200 => ?_)
      refine lv_aload_n C.x C.b dX8_tellers_30 rfl (lv_at hl 1 rfl) ?_
      refine lv_iload_n C.x C.b dX8_tellers_31 rfl (lv_at hl 0 rfl) ?_
      refine lv_iconst (v := 1) C.x C.b dX8_tellers_32 (by decide) ?_
      refine lv_iload_n C.x C.b dX8_tellers_33 rfl (lv_at hl 3 rfl) ?_
      refine lv_ishl C.x C.b dX8_tellers_34 ?_
      refine lv_iconst (v := (-1)) C.x C.b dX8_tellers_35 (by decide) ?_
      refine lv_ixor C.x C.b dX8_tellers_36 ?_
      refine lv_iand C.x C.b dX8_tellers_37 ?_
      refine lv_aload_n C.x C.b dX8_tellers_38 rfl (lv_at hl 1 rfl) ?_
      refine r_get ck8 flX8_19 C hS (by omega) e_179 (by decide) rfl dX8_tellers_39 ?_
      refine lv_bipush (v := 7) C.x C.b dX8_tellers_42 (by decide) ?_
      refine lv_iand C.x C.b dX8_tellers_44 ?_
      refine r_callV (b := 220) (As := [.int ((nI M9) &&& (((1 : Int32) <<< ((nI k_120) &&& 31)) ^^^ (-1))), .int (ey &&& 7)]) (rest := []) (k_X8_isSilent l D t B N g_123 _ _ _ _ _ _ _ ((nI M9) &&& (((1 : Int32) <<< ((nI k_120) &&& 31)) ^^^ (-1))) (ey &&& 7) (by omega) hKp.2 (by omega) hO hwi) mf_yX8_isSilent mlX8_127 im_yX8_isSilent se_yX8_isSilent (by decide) C hS (by omega) e_179 (show vwCl[8]? = some _ from rfl) rfl rfl hl.1 rfl (Nat.le_of_ble_eq_true rfl) dX8_tellers_45 ⟨Nat.zero_le _, Nat.zero_le _⟩ (fun r_203 g_201 H locs w_202 hS => ?_)
      obtain ⟨w_202, er_203⟩ := w_202
      replace hKp : Mk t B g g_201 n ey wi ev o pr w := hKp.tr w_202
      refine lv_if_ne (tgt := 57) C.x C.b dX8_tellers_48 (by decide) (fun c_204 => ?_) (fun c_204 => ?_)
      · skip
        refine lv_iinc (v := nI (k_120 + 1)) (lv' := [(3, .int (nI (k_120 + 1))), (1, .int (nI M9)), (0, .ref (B + 220)), (2, .int b_124)]) C.x C.b dX8_tellers_57 hl (k := 3) rfl (nI_1 k_120) (by decide) rfl (fun ls hl => ?_)
        refine lv_goto (tgt := 22) C.x C.b dX8_tellers_60 (by decide) ?_
        exact ih_122 (k_120 + 1) b_124 g_201 _ _ _ (by omega)  hKp hS (lv_sub hl [1, 2, 3, 0] rfl)
      · skip
        refine lv_iload_n C.x C.b dX8_tellers_51 rfl (lv_at hl 2 rfl) ?_
        refine lv_iconst (v := 1) C.x C.b dX8_tellers_52 (by decide) ?_
        refine lv_iload_n C.x C.b dX8_tellers_53 rfl (lv_at hl 3 rfl) ?_
        refine lv_ishl C.x C.b dX8_tellers_54 ?_
        refine lv_ior C.x C.b dX8_tellers_55 ?_
        refine lv_istore_n (lv' := [(2, .int (b_124 ||| ((1 : Int32) <<< ((nI k_120) &&& 31)))), (1, .int (nI M9)), (0, .ref (B + 220)), (3, .int (nI k_120))]) C.x C.b dX8_tellers_56 rfl hl (by decide) rfl (fun ls hl => ?_)
        refine lv_iinc (v := nI (k_120 + 1)) (lv' := [(3, .int (nI (k_120 + 1))), (2, .int (b_124 ||| ((1 : Int32) <<< ((nI k_120) &&& 31)))), (1, .int (nI M9)), (0, .ref (B + 220))]) C.x C.b dX8_tellers_57 hl (k := 3) rfl (nI_1 k_120) (by decide) rfl (fun ls hl => ?_)
        refine lv_goto (tgt := 22) C.x C.b dX8_tellers_60 (by decide) ?_
        exact ih_122 (k_120 + 1) (b_124 ||| ((1 : Int32) <<< ((nI k_120) &&& 31))) g_201 _ _ _ (by omega)  hKp hS (lv_sub hl [2, 3, 1, 0] rfl)
  exact lp_118 n 0 0 g_41 _ _ _ (by omega)  hKp hS (lv_sub hl [2, 3, 1, 0] rfl)
