theorem df0 : ∀ j, j < 5 → defaultValue (tyX0 j) = vp_V [.null, .null, .null, .null, .int 0] j := fun j hj => match j, hj with
  | 0, _ => rfl
  | 1, _ => rfl
  | 2, _ => rfl
  | 3, _ => rfl
  | 4, _ => rfl
  | q + 5, h => absurd h (by omega)
theorem df1 : ∀ j, j < 3 → defaultValue (tyX1 j) = vp_V [.null, .null, .int 0] j := fun j hj => match j, hj with
  | 0, _ => rfl
  | 1, _ => rfl
  | 2, _ => rfl
  | q + 3, h => absurd h (by omega)
theorem df2 : ∀ j, j < 4 → defaultValue (tyX2 j) = vp_V [.null, .null, .null, .null] j := fun j hj => match j, hj with
  | 0, _ => rfl
  | 1, _ => rfl
  | 2, _ => rfl
  | 3, _ => rfl
  | q + 4, h => absurd h (by omega)
theorem df3 : ∀ j, j < 4 → defaultValue (tyX3 j) = vp_V [.null, .null, .null, .int 0] j := fun j hj => match j, hj with
  | 0, _ => rfl
  | 1, _ => rfl
  | 2, _ => rfl
  | 3, _ => rfl
  | q + 4, h => absurd h (by omega)
theorem df4 : ∀ j, j < 4 → defaultValue (tyX4 j) = vp_V [.null, .null, .null, .int 0] j := fun j hj => match j, hj with
  | 0, _ => rfl
  | 1, _ => rfl
  | 2, _ => rfl
  | 3, _ => rfl
  | q + 4, h => absurd h (by omega)
theorem df5 : ∀ j, j < 10 → defaultValue (tyX5 j) = vp_V [.null, .null, .null, .null, .null, .int 0, .int 0, .int 0, .int 0, .int 0] j := fun j hj => match j, hj with
  | 0, _ => rfl
  | 1, _ => rfl
  | 2, _ => rfl
  | 3, _ => rfl
  | 4, _ => rfl
  | 5, _ => rfl
  | 6, _ => rfl
  | 7, _ => rfl
  | 8, _ => rfl
  | 9, _ => rfl
  | q + 10, h => absurd h (by omega)
theorem df6 : ∀ j, j < 3 → defaultValue (tyX6 j) = vp_V [.int 0, .int 0, .int 0] j := fun j hj => match j, hj with
  | 0, _ => rfl
  | 1, _ => rfl
  | 2, _ => rfl
  | q + 3, h => absurd h (by omega)
theorem df7 : ∀ j, j < 9 → defaultValue (tyX7 j) = vp_V [.null, .null, .null, .null, .null, .null, .null, .null, .int 0] j := fun j hj => match j, hj with
  | 0, _ => rfl
  | 1, _ => rfl
  | 2, _ => rfl
  | 3, _ => rfl
  | 4, _ => rfl
  | 5, _ => rfl
  | 6, _ => rfl
  | 7, _ => rfl
  | 8, _ => rfl
  | q + 9, h => absurd h (by omega)
theorem df8 : ∀ j, j < 23 → defaultValue (tyX8 j) = vp_V [.int 0, .int 0, .null, .null, .null, .int 0, .int 0, .int 0, .null, .null, .null, .null, .null, .null, .null, .null, .null, .null, .null, .null, .null, .int 0, .int 0] j := fun j hj => match j, hj with
  | 0, _ => rfl
  | 1, _ => rfl
  | 2, _ => rfl
  | 3, _ => rfl
  | 4, _ => rfl
  | 5, _ => rfl
  | 6, _ => rfl
  | 7, _ => rfl
  | 8, _ => rfl
  | 9, _ => rfl
  | 10, _ => rfl
  | 11, _ => rfl
  | 12, _ => rfl
  | 13, _ => rfl
  | 14, _ => rfl
  | 15, _ => rfl
  | 16, _ => rfl
  | 17, _ => rfl
  | 18, _ => rfl
  | 19, _ => rfl
  | 20, _ => rfl
  | 21, _ => rfl
  | 22, _ => rfl
  | q + 23, h => absurd h (by omega)
def fiQ (B a st k : Nat) : Nat → Option Nat := fun q => if q < k then some (B + (a + st * q)) else none
theorem fiQ_0 {B a st : Nat} : (fun _ => none) = fiQ B a st 0 := by
  funext q
  exact (if_neg (Nat.not_lt_zero _)).symm
theorem fiQ_up {B a st k : Nat} : va_up (fiQ B a st k) k (some (B + (a + st * k))) = fiQ B a st (k + 1) := by
  funext q
  unfold va_up fiQ
  by_cases h : q = k
  · subst h
    rw [if_pos rfl, if_pos (by omega)]
  · rw [if_neg h]
    by_cases h1 : q < k
    · rw [if_pos h1, if_pos (by omega)]
    · rw [if_neg h1, if_neg (by omega)]
theorem isRow.same {t : Gx} {B : Nat} {g g' : Nat → va_E} {i : Nat} {ep ew en : Nat → Int32} {len : Nat} (h : isRow t B g i ep ew en len) (k : ∀ j, i ≤ j → j ≤ i + 3 → g' j = g j) : isRow t B g' i ep ew en len := h.keep k
def sFix2 (t : Gx) (B : Nat) (g : Nat → va_E) : Prop := g 23 = .inr (2, [.ref (B + 24), .ref (B + 41), .ref (B + 42), .ref (B + 48)]) ∧ g 24 = .inl (t.2.2.2.2, 16, .inr (.inr (.inr (.inr (cnQ B))))) ∧ g 48 = .inl (t.2.2.1, 16, .inr (.inr (.inr (.inr (lrQ B)))))
def sCnt0 (t : Gx) (g : Nat → va_E) : Prop := g 41 = .inl (t.1, 16, .inl zz)

set_option maxHeartbeats 1000000 in
set_option maxRecDepth 100000 in
theorem c_X2_init (l : Launch) (D : va_G) (t : Gx) (B : Nat) (g : Nat → va_E) (e0 : g 23 = .inr (2, [.null, .null, .null, .null])) : Cv l D t B 24 113 89 2530 yX2_init cX2_init 2 2 32 g [.ref (B + 23)] (fun g' => (sFix2 t B g' ∧ sCnt0 t g' ∧ (∀ k, k < 16 → g' (25 + k) = .inl (t.1, 16, .inl zz)) ∧ isRun t B g' 42 zz zz zz zz zz 0 0 0 0 0 ∧ ∀ k, k < 16 → isRow t B g' (49 + 4 * k) zz zz zz 0) ∧ ∀ j, j < 23 → g' j = g j) := by
  refine Cv.start (by decide) (Nat.le_of_ble_eq_true rfl) ?_
  intro p e s m below meth c ls C hr hlocks hnm hS hl
  replace C : Cx D t p s m [.ref (B + 23)].toArray c cX2_init 2 RX2 := C
  replace hl : lv_has ls 2 [(0, .ref (B + 23))] := hl
  refine lv_aload_n C.x C.b dX2_init_0 rfl (lv_at hl 0 rfl) ?_
  refine r_objInit mlX2_3 im_objectInit co_objectInit C hl.1 dX2_init_1 (by decide) (by decide) ?_
  refine lv_aload_n C.x C.b dX2_init_4 rfl (lv_at hl 0 rfl) ?_
  refine lv_bipush (v := 16) C.x C.b dX2_init_5 (by decide) ?_
  refine lv_bipush (v := 16) C.x C.b dX2_init_7 (by decide) ?_
  refine r_mna clX2_9 ac_int C hS (by decide) (by decide) dX2_init_9 (fun g_1 H locs e_2 f_3 o_4 hS => ?_)
  replace e_2 : g_1 24 = .inl (t.2.2.2.2, 16, .inr (.inr (.inr (.inr (cnQ B))))) := e_2
  replace f_3 : ∀ k, k < 16 → g_1 (25 + k) = .inl (t.1, 16, .inl zz) := f_3
  replace hS : St D B s.heap 41 g_1 H _ := hS
  have e_5 : g_1 23 = .inr (2, [.null, .null, .null, .null]) := (o_4 _ (by omega)).trans e0
  refine r_putF ck2 flX2_11 C hS (by omega) e_5 (by decide) rfl hnm rfl rfl rfl (Nat.le_of_ble_eq_true rfl) dX2_init_13 (fun g_6 H locs e_7 o_8 hS => ?_)
  replace e_7 : g_6 23 = .inr (2, [.ref (B + 24), .null, .null, .null]) := e_7
  refine lv_aload_n C.x C.b dX2_init_16 rfl (lv_at hl 0 rfl) ?_
  refine lv_bipush (v := 16) C.x C.b dX2_init_17 (by decide) ?_
  refine r_newI (n' := 16) ac_int C hS rfl (by decide) (by decide) (by decide) dX2_init_19 (fun g_9 H e_10 o_11 hS => ?_)
  replace e_10 : g_9 41 = .inl (t.1, 16, .inl zz) := e_10
  replace hS : St D B s.heap 42 g_9 H _ := hS
  have e_12 : g_9 23 = .inr (2, [.ref (B + 24), .null, .null, .null]) := (o_11 _ (by omega)).trans e_7
  refine r_putF ck2 flX2_16 C hS (by omega) e_12 (by decide) rfl hnm rfl rfl rfl (Nat.le_of_ble_eq_true rfl) dX2_init_21 (fun g_13 H locs e_14 o_15 hS => ?_)
  replace e_14 : g_13 23 = .inr (2, [.ref (B + 24), .ref (B + 41), .null, .null]) := e_14
  refine lv_aload_n C.x C.b dX2_init_24 rfl (lv_at hl 0 rfl) ?_
  refine r_new ck5 clX2_20 ins_X5 ini_X5 df5 C hS (by decide) (by decide) dX2_init_25 (fun g_16 H e_17 o_18 hS => ?_)
  replace e_17 : g_16 42 = .inr (5, [.null, .null, .null, .null, .null, .int 0, .int 0, .int 0, .int 0, .int 0]) := e_17
  replace hS : St D B s.heap 43 g_16 H _ := hS
  refine lv_dup C.x C.b dX2_init_28 rfl ?_
  refine r_callIN (b := 42) (As := []) (rest := [.ref (B + 42), .ref (B + 23)]) (c_X5_init l D t B g_16 42 e_17) mf_yX5_init (show (RX2, 22, yX5_init) ∈ nestL by decide) im_yX5_init rfl (by decide) C hS rfl hl.1 rfl (Nat.le_of_ble_eq_true rfl) dX2_init_29 (by decide) (fun g_19 H locs w_20 hS => ?_)
  replace hS : St D B s.heap 48 g_19 H _ := hS
  obtain ⟨⟨e_22, e_23, e_24, e_25, e_26, e_27⟩, o_21⟩ := w_20
  replace e_22 : g_19 42 = .inr (5, [.ref (B + 43), .ref (B + 44), .ref (B + 45), .ref (B + 46), .ref (B + 47), .int (nI 0), .int 0, .int 0, .int 0, .int 0]) := e_22
  replace e_23 : g_19 43 = .inl (t.1, 40, .inl zz) := e_23
  replace e_24 : g_19 44 = .inl (t.1, 40, .inl zz) := e_24
  replace e_25 : g_19 45 = .inl (t.1, 40, .inl zz) := e_25
  replace e_26 : g_19 46 = .inl (t.1, 8, .inl zz) := e_26
  replace e_27 : g_19 47 = .inl (t.1, 8, .inl zz) := e_27
  have e_28 : g_16 23 = .inr (2, [.ref (B + 24), .ref (B + 41), .null, .null]) := (o_18 _ (by omega)).trans e_14
  have e_29 : g_19 23 = .inr (2, [.ref (B + 24), .ref (B + 41), .null, .null]) := (o_21 _ (by omega)).trans e_28
  refine r_putF ck2 flX2_23 C hS (by omega) e_29 (by decide) rfl hnm rfl rfl rfl (Nat.le_of_ble_eq_true rfl) dX2_init_32 (fun g_30 H locs e_31 o_32 hS => ?_)
  replace e_31 : g_30 23 = .inr (2, [.ref (B + 24), .ref (B + 41), .ref (B + 42), .null]) := e_31
  refine lv_aload_n C.x C.b dX2_init_35 rfl (lv_at hl 0 rfl) ?_
  refine lv_bipush (v := 16) C.x C.b dX2_init_36 (by decide) ?_
  refine r_newQ (n' := 16) 2 rfl clX2_27 C.2.2.2.1 C hS rfl (by decide) (by decide) (by decide) dX2_init_38 (fun g_33 H e_34 o_35 hS => ?_)
  replace e_34 : g_33 48 = .inl (t.2.2.1, 16, .inr (.inr (.inr (.inr (fun _ => none))))) := e_34
  replace hS : St D B s.heap 49 g_33 H _ := hS
  have e_36 : g_33 23 = .inr (2, [.ref (B + 24), .ref (B + 41), .ref (B + 42), .null]) := (o_35 _ (by omega)).trans e_31
  refine r_putF ck2 flX2_29 C hS (by omega) e_36 (by decide) rfl hnm rfl rfl rfl (Nat.le_of_ble_eq_true rfl) dX2_init_41 (fun g_37 H locs e_38 o_39 hS => ?_)
  replace e_38 : g_37 23 = .inr (2, [.ref (B + 24), .ref (B + 41), .ref (B + 42), .ref (B + 48)]) := e_38
  refine lv_iconst (v := 0) C.x C.b dX2_init_44 (by decide) ?_
  refine lv_istore_n (lv' := [(1, .int 0), (0, .ref (B + 23))]) C.x C.b dX2_init_45 rfl hl (by decide) rfl (fun ls hl => ?_)
  have e_40 : g_37 48 = .inl (t.2.2.1, 16, .inr (.inr (.inr (.inr (fun _ => none))))) := (o_39 _ (by omega)).trans e_34
  have lp : ∀ (u k : Nat) (gL : Nat → va_E) (H : Heap) (locs : List Loc) (ls : Array Slot) (nn cs sl : Nat), k + u = 16 → nn = 49 + 4 * k → cs = 25 + 4 * k → sl = 450 + 130 * k → gL 23 = .inr (2, [.ref (B + 24), .ref (B + 41), .ref (B + 42), .ref (B + 48)]) → gL 48 = .inl (t.2.2.1, 16, .inr (.inr (.inr (.inr (fiQ B 49 4 k))))) → (∀ q, q < k → isRow t B gL (49 + 4 * q) zz zz zz 0) → (∀ j, j < 49 → j ≠ 48 → gL j = g_37 j) → St D B s.heap nn gL H locs → lv_has ls 2 [(0, .ref (B + 23)), (1, .int (nI k))] → W p l e (rmOf 2 32 89 2530) s m [.ref (B + 23)].toArray below meth c H locs cs sl (MQ below (qV D B 113 (fun g' => (sFix2 t B g' ∧ sCnt0 t g' ∧ (∀ k, k < 16 → g' (25 + k) = .inl (t.1, 16, .inl zz)) ∧ isRun t B g' 42 zz zz zz zz zz 0 0 0 0 0 ∧ ∀ k, k < 16 → isRow t B g' (49 + 4 * k) zz zz zz 0) ∧ ∀ j, j < 23 → g' j = g j)) [.ref (B + 23)].toArray s 89 2530 (fun q => B ≤ q)) (F0 m 46 ls []) := by
    intro u
    induction u with
    | zero =>
      intro k gL H locs ls nn cs sl hk hnn hcs hsl e1 e2 hq hf hS hl
      obtain rfl : k = 16 := by omega
      subst hnn
      subst hcs
      subst hsl
      refine lv_iload_n C.x C.b dX2_init_46 rfl (lv_at hl 1 rfl) ?_
      refine lv_bipush (v := 16) C.x C.b dX2_init_47 (by decide) ?_
      refine lv_icmp_ge (tgt := 71) C.x C.b dX2_init_49 (by decide) (fun _ => ?_) (fun c0 => absurd (by decide) c0)
      have e_41 : g_6 24 = .inl (t.2.2.2.2, 16, .inr (.inr (.inr (.inr (cnQ B))))) := (o_8 _ (by omega)).trans e_2
      have e_42 : g_9 24 = .inl (t.2.2.2.2, 16, .inr (.inr (.inr (.inr (cnQ B))))) := (o_11 _ (by omega)).trans e_41
      have e_43 : g_13 24 = .inl (t.2.2.2.2, 16, .inr (.inr (.inr (.inr (cnQ B))))) := (o_15 _ (by omega)).trans e_42
      have e_44 : g_16 24 = .inl (t.2.2.2.2, 16, .inr (.inr (.inr (.inr (cnQ B))))) := (o_18 _ (by omega)).trans e_43
      have e_45 : g_19 24 = .inl (t.2.2.2.2, 16, .inr (.inr (.inr (.inr (cnQ B))))) := (o_21 _ (by omega)).trans e_44
      have e_46 : g_30 24 = .inl (t.2.2.2.2, 16, .inr (.inr (.inr (.inr (cnQ B))))) := (o_32 _ (by omega)).trans e_45
      have e_47 : g_33 24 = .inl (t.2.2.2.2, 16, .inr (.inr (.inr (.inr (cnQ B))))) := (o_35 _ (by omega)).trans e_46
      have e_48 : g_37 24 = .inl (t.2.2.2.2, 16, .inr (.inr (.inr (.inr (cnQ B))))) := (o_39 _ (by omega)).trans e_47
      have e_49 : g_13 41 = .inl (t.1, 16, .inl zz) := (o_15 _ (by omega)).trans e_10
      have e_50 : g_16 41 = .inl (t.1, 16, .inl zz) := (o_18 _ (by omega)).trans e_49
      have e_51 : g_19 41 = .inl (t.1, 16, .inl zz) := (o_21 _ (by omega)).trans e_50
      have e_52 : g_30 41 = .inl (t.1, 16, .inl zz) := (o_32 _ (by omega)).trans e_51
      have e_53 : g_33 41 = .inl (t.1, 16, .inl zz) := (o_35 _ (by omega)).trans e_52
      have e_54 : g_37 41 = .inl (t.1, 16, .inl zz) := (o_39 _ (by omega)).trans e_53
      have e_55 : g_30 42 = .inr (5, [.ref (B + 43), .ref (B + 44), .ref (B + 45), .ref (B + 46), .ref (B + 47), .int (nI 0), .int 0, .int 0, .int 0, .int 0]) := (o_32 _ (by omega)).trans e_22
      have e_56 : g_33 42 = .inr (5, [.ref (B + 43), .ref (B + 44), .ref (B + 45), .ref (B + 46), .ref (B + 47), .int (nI 0), .int 0, .int 0, .int 0, .int 0]) := (o_35 _ (by omega)).trans e_55
      have e_57 : g_37 42 = .inr (5, [.ref (B + 43), .ref (B + 44), .ref (B + 45), .ref (B + 46), .ref (B + 47), .int (nI 0), .int 0, .int 0, .int 0, .int 0]) := (o_39 _ (by omega)).trans e_56
      have e_58 : g_30 43 = .inl (t.1, 40, .inl zz) := (o_32 _ (by omega)).trans e_23
      have e_59 : g_33 43 = .inl (t.1, 40, .inl zz) := (o_35 _ (by omega)).trans e_58
      have e_60 : g_37 43 = .inl (t.1, 40, .inl zz) := (o_39 _ (by omega)).trans e_59
      have e_61 : g_30 44 = .inl (t.1, 40, .inl zz) := (o_32 _ (by omega)).trans e_24
      have e_62 : g_33 44 = .inl (t.1, 40, .inl zz) := (o_35 _ (by omega)).trans e_61
      have e_63 : g_37 44 = .inl (t.1, 40, .inl zz) := (o_39 _ (by omega)).trans e_62
      have e_64 : g_30 45 = .inl (t.1, 40, .inl zz) := (o_32 _ (by omega)).trans e_25
      have e_65 : g_33 45 = .inl (t.1, 40, .inl zz) := (o_35 _ (by omega)).trans e_64
      have e_66 : g_37 45 = .inl (t.1, 40, .inl zz) := (o_39 _ (by omega)).trans e_65
      have e_67 : g_30 46 = .inl (t.1, 8, .inl zz) := (o_32 _ (by omega)).trans e_26
      have e_68 : g_33 46 = .inl (t.1, 8, .inl zz) := (o_35 _ (by omega)).trans e_67
      have e_69 : g_37 46 = .inl (t.1, 8, .inl zz) := (o_39 _ (by omega)).trans e_68
      have e_70 : g_30 47 = .inl (t.1, 8, .inl zz) := (o_32 _ (by omega)).trans e_27
      have e_71 : g_33 47 = .inl (t.1, 8, .inl zz) := (o_35 _ (by omega)).trans e_70
      have e_72 : g_37 47 = .inl (t.1, 8, .inl zz) := (o_39 _ (by omega)).trans e_71
      refine r_vret C hr hlocks hS ⟨⟨⟨e1, (hf _ (by omega) (by omega)).trans e_48, e2⟩, (hf _ (by omega) (by omega)).trans e_54, fun k hk => (hf _ (by omega) (by omega)).trans ((o_39 _ (by omega)).trans ((o_35 _ (by omega)).trans ((o_32 _ (by omega)).trans ((o_21 _ (by omega)).trans ((o_18 _ (by omega)).trans ((o_15 _ (by omega)).trans ((o_11 _ (by omega)).trans ((o_8 _ (by omega)).trans (f_3 k hk))))))))), ⟨(hf _ (by omega) (by omega)).trans e_57, (hf _ (by omega) (by omega)).trans e_60, (hf _ (by omega) (by omega)).trans e_63, (hf _ (by omega) (by omega)).trans e_66, (hf _ (by omega) (by omega)).trans e_69, (hf _ (by omega) (by omega)).trans e_72⟩, hq⟩, fun j hj => (hf _ (by omega) (by omega)).trans ((o_39 j (by omega)).trans ((o_35 j (by omega)).trans ((o_32 j (by omega)).trans ((o_21 j (by omega)).trans ((o_18 j (by omega)).trans ((o_15 j (by omega)).trans ((o_11 j (by omega)).trans ((o_8 j (by omega)).trans ((o_4 j (by omega)))))))))))⟩ dX2_init_71
    | succ u ih =>
      intro k gL H locs ls nn cs sl hk hnn hcs hsl e1 e2 hq hf hS hl
      refine lv_iload_n C.x C.b dX2_init_46 rfl (lv_at hl 1 rfl) ?_
      refine lv_bipush (v := 16) C.x C.b dX2_init_47 (by decide) ?_
      refine lv_icmp_ge (tgt := 71) C.x C.b dX2_init_49 (by decide) (fun c0 => absurd c0 (nI_ge (a := k) (b := 16) (by omega) (by decide))) (fun _ => ?_)
      refine lv_aload_n C.x C.b dX2_init_52 rfl (lv_at hl 0 rfl) ?_
      refine r_get ck2 flX2_29 C hS (by omega) e1 (by decide) rfl dX2_init_53 ?_
      refine lv_iload_n C.x C.b dX2_init_56 rfl (lv_at hl 1 rfl) ?_
      refine r_new ck4 clX2_27 ins_X4 ini_X4 df4 C hS (by show cs + 1 ≤ 89; omega) (by show sl + 4 ≤ 2530; omega) dX2_init_57 (fun gn H en on hS => ?_)
      refine lv_dup C.x C.b dX2_init_60 rfl ?_
      refine r_callIN (b := nn) (As := []) (rest := [.ref (B + nn), .int (nI k), .ref (B + 48)]) (c_X4_init l D t B gn nn en) mf_yX4_init (show (RX2, 33, yX4_init) ∈ nestL by decide) im_yX4_init rfl (by decide) C hS rfl hl.1 rfl (Nat.le_of_ble_eq_true rfl) dX2_init_61 ⟨by show cs + 1 + 3 ≤ 89; omega, by show sl + 4 + 126 ≤ 2530; omega⟩ (fun gi H locs w hS => ?_)
      obtain ⟨wr, oi⟩ := w
      have ea : gi 48 = .inl (t.2.2.1, 16, .inr (.inr (.inr (.inr (fiQ B 49 4 k))))) := (oi _ (by omega)).trans ((on _ (by omega)).trans e2)
      refine r_aast k rfl (by omega) (by decide) C hS (by omega) (by omega) 2 rfl (show vwCl[4]? = some _ from rfl) wr.1 ea dX2_init_64 (fun ga H locs e9 o9 hS => ?_)
      refine lv_iinc (v := nI (k + 1)) (lv' := [(1, .int (nI (k + 1))), (0, .ref (B + 23))]) C.x C.b dX2_init_65 hl (k := 1) rfl (nI_1 k) (by decide) rfl (fun ls hl => ?_)
      refine lv_goto (tgt := 46) C.x C.b dX2_init_68 (by decide) ?_
      subst hnn
      rw [fiQ_up] at e9
      refine ih (k + 1) ga _ _ _ _ _ _ (by omega) (by omega) (by omega) (by omega) ((o9 _ (by omega)).trans ((oi _ (by omega)).trans ((on _ (by omega)).trans e1))) e9 (fun q hqk => ?_) (fun j hj hn => (o9 _ hn).trans ((oi _ (by omega)).trans ((on _ (by omega)).trans (hf j hj hn)))) hS (lv_sub hl [1, 0] rfl)
      rcases Nat.lt_or_ge q k with hqk2 | hqk2
      · exact (hq q hqk2).keep (fun j h1 h2 => (o9 _ (by omega)).trans ((oi _ (by omega)).trans (on _ (by omega))))
      · obtain rfl : q = k := by omega
        exact wr.keep (fun j h1 h2 => o9 _ (by omega))
  rw [fiQ_0 (B := B) (a := 49) (st := 4)] at e_40
  exact lp 16 0 g_37 _ _ _ _ _ _ rfl rfl rfl rfl e_38 e_40 (fun q hq => absurd hq (Nat.not_lt_zero _)) (fun _ _ _ => rfl) hS (lv_sub hl [1, 0] rfl)
set_option maxHeartbeats 1000000 in
set_option maxRecDepth 100000 in
theorem c_X0_init (l : Launch) (D : va_G) (t : Gx) (B : Nat) (g : Nat → va_E) (e0 : g 113 = .inr (0, [.null, .null, .null, .null, .int 0])) : Cv l D t B 114 220 106 2868 yX0_init cX0_init 2 2 32 g [.ref (B + 113)] (fun g' => ((g' 113 = .inr (0, [.ref (B + 114), .ref (B + 115), .ref (B + 116), .ref (B + 120), .int 0]) ∧ g' 114 = .inl (t.2.1, 256, .inl zz) ∧ g' 115 = .inl (t.2.2.2.1, 16, .inr (.inr (.inr (.inr (ruQ B)))))) ∧ isRow t B g' 116 zz zz zz 0 ∧ isRow t B g' 120 zz zz zz 0 ∧ ∀ k, k < 16 → isRun t B g' (124 + 6 * k) zz zz zz zz zz 0 0 0 0 0) ∧ ∀ j, j < 113 → g' j = g j) := by
  refine Cv.start (by decide) (Nat.le_of_ble_eq_true rfl) ?_
  intro p e s m below meth c ls C hr hlocks hnm hS hl
  replace C : Cx D t p s m [.ref (B + 113)].toArray c cX0_init 2 RX0 := C
  replace hl : lv_has ls 2 [(0, .ref (B + 113))] := hl
  refine lv_aload_n C.x C.b dX0_init_0 rfl (lv_at hl 0 rfl) ?_
  refine r_objInit mlX0_3 im_objectInit co_objectInit C hl.1 dX0_init_1 (by decide) (by decide) ?_
  refine lv_aload_n C.x C.b dX0_init_4 rfl (lv_at hl 0 rfl) ?_
  refine lv_sipush (v := 256) C.x C.b dX0_init_5 (by decide) ?_
  refine r_newZ (n' := 256) ac_boolean C hS rfl (by decide) (by decide) (by decide) dX0_init_8 (fun g_1 H e_2 o_3 hS => ?_)
  replace e_2 : g_1 114 = .inl (t.2.1, 256, .inl zz) := e_2
  replace hS : St D B s.heap 115 g_1 H _ := hS
  have e_4 : g_1 113 = .inr (0, [.null, .null, .null, .null, .int 0]) := (o_3 _ (by omega)).trans e0
  refine r_putF ck0 flX0_9 C hS (by omega) e_4 (by decide) rfl hnm rfl rfl rfl (Nat.le_of_ble_eq_true rfl) dX0_init_10 (fun g_5 H locs e_6 o_7 hS => ?_)
  replace e_6 : g_5 113 = .inr (0, [.ref (B + 114), .null, .null, .null, .int 0]) := e_6
  refine lv_aload_n C.x C.b dX0_init_13 rfl (lv_at hl 0 rfl) ?_
  refine lv_bipush (v := 16) C.x C.b dX0_init_14 (by decide) ?_
  refine r_newQ (n' := 16) 3 rfl clX0_15 C.2.2.2.2.1 C hS rfl (by decide) (by decide) (by decide) dX0_init_16 (fun g_8 H e_9 o_10 hS => ?_)
  replace e_9 : g_8 115 = .inl (t.2.2.2.1, 16, .inr (.inr (.inr (.inr (fun _ => none))))) := e_9
  replace hS : St D B s.heap 116 g_8 H _ := hS
  have e_11 : g_8 113 = .inr (0, [.ref (B + 114), .null, .null, .null, .int 0]) := (o_10 _ (by omega)).trans e_6
  refine r_putF ck0 flX0_17 C hS (by omega) e_11 (by decide) rfl hnm rfl rfl rfl (Nat.le_of_ble_eq_true rfl) dX0_init_19 (fun g_12 H locs e_13 o_14 hS => ?_)
  replace e_13 : g_12 113 = .inr (0, [.ref (B + 114), .ref (B + 115), .null, .null, .int 0]) := e_13
  refine lv_aload_n C.x C.b dX0_init_22 rfl (lv_at hl 0 rfl) ?_
  refine r_new ck4 clX0_21 ins_X4 ini_X4 df4 C hS (by decide) (by decide) dX0_init_23 (fun g_15 H e_16 o_17 hS => ?_)
  replace e_16 : g_15 116 = .inr (4, [.null, .null, .null, .int 0]) := e_16
  replace hS : St D B s.heap 117 g_15 H _ := hS
  refine lv_dup C.x C.b dX0_init_26 rfl ?_
  refine r_callIN (b := 116) (As := []) (rest := [.ref (B + 116), .ref (B + 113)]) (c_X4_init l D t B g_15 116 e_16) mf_yX4_init (show (RX0, 23, yX4_init) ∈ nestL by decide) im_yX4_init rfl (by decide) C hS rfl hl.1 rfl (Nat.le_of_ble_eq_true rfl) dX0_init_27 (by decide) (fun g_18 H locs w_19 hS => ?_)
  replace hS : St D B s.heap 120 g_18 H _ := hS
  obtain ⟨⟨e_21, e_22, e_23, e_24⟩, o_20⟩ := w_19
  replace e_21 : g_18 116 = .inr (4, [.ref (B + 117), .ref (B + 118), .ref (B + 119), .int (nI 0)]) := e_21
  replace e_22 : g_18 117 = .inl (t.1, 42, .inl zz) := e_22
  replace e_23 : g_18 118 = .inl (t.1, 42, .inl zz) := e_23
  replace e_24 : g_18 119 = .inl (t.1, 42, .inl zz) := e_24
  have e_25 : g_15 113 = .inr (0, [.ref (B + 114), .ref (B + 115), .null, .null, .int 0]) := (o_17 _ (by omega)).trans e_13
  have e_26 : g_18 113 = .inr (0, [.ref (B + 114), .ref (B + 115), .null, .null, .int 0]) := (o_20 _ (by omega)).trans e_25
  refine r_putF ck0 flX0_24 C hS (by omega) e_26 (by decide) rfl hnm rfl rfl rfl (Nat.le_of_ble_eq_true rfl) dX0_init_30 (fun g_27 H locs e_28 o_29 hS => ?_)
  replace e_28 : g_27 113 = .inr (0, [.ref (B + 114), .ref (B + 115), .ref (B + 116), .null, .int 0]) := e_28
  refine lv_aload_n C.x C.b dX0_init_33 rfl (lv_at hl 0 rfl) ?_
  refine r_new ck4 clX0_21 ins_X4 ini_X4 df4 C hS (by decide) (by decide) dX0_init_34 (fun g_30 H e_31 o_32 hS => ?_)
  replace e_31 : g_30 120 = .inr (4, [.null, .null, .null, .int 0]) := e_31
  replace hS : St D B s.heap 121 g_30 H _ := hS
  refine lv_dup C.x C.b dX0_init_37 rfl ?_
  refine r_callIN (b := 120) (As := []) (rest := [.ref (B + 120), .ref (B + 113)]) (c_X4_init l D t B g_30 120 e_31) mf_yX4_init (show (RX0, 23, yX4_init) ∈ nestL by decide) im_yX4_init rfl (by decide) C hS rfl hl.1 rfl (Nat.le_of_ble_eq_true rfl) dX0_init_38 (by decide) (fun g_33 H locs w_34 hS => ?_)
  replace hS : St D B s.heap 124 g_33 H _ := hS
  obtain ⟨⟨e_36, e_37, e_38, e_39⟩, o_35⟩ := w_34
  replace e_36 : g_33 120 = .inr (4, [.ref (B + 121), .ref (B + 122), .ref (B + 123), .int (nI 0)]) := e_36
  replace e_37 : g_33 121 = .inl (t.1, 42, .inl zz) := e_37
  replace e_38 : g_33 122 = .inl (t.1, 42, .inl zz) := e_38
  replace e_39 : g_33 123 = .inl (t.1, 42, .inl zz) := e_39
  have e_40 : g_30 113 = .inr (0, [.ref (B + 114), .ref (B + 115), .ref (B + 116), .null, .int 0]) := (o_32 _ (by omega)).trans e_28
  have e_41 : g_33 113 = .inr (0, [.ref (B + 114), .ref (B + 115), .ref (B + 116), .null, .int 0]) := (o_35 _ (by omega)).trans e_40
  refine r_putF ck0 flX0_28 C hS (by omega) e_41 (by decide) rfl hnm rfl rfl rfl (Nat.le_of_ble_eq_true rfl) dX0_init_41 (fun g_42 H locs e_43 o_44 hS => ?_)
  replace e_43 : g_42 113 = .inr (0, [.ref (B + 114), .ref (B + 115), .ref (B + 116), .ref (B + 120), .int 0]) := e_43
  refine lv_aload_n C.x C.b dX0_init_44 rfl (lv_at hl 0 rfl) ?_
  refine lv_iconst (v := 0) C.x C.b dX0_init_45 (by decide) ?_
  refine r_put ck0 flX0_31 C hS (by omega) e_43 (by decide) rfl (nar_z (by decide)) (fit_z (by decide)) (Nat.le_of_ble_eq_true rfl) dX0_init_46 (fun g_45 H locs e_46 o_47 hS => ?_)
  replace e_46 : g_45 113 = .inr (0, [.ref (B + 114), .ref (B + 115), .ref (B + 116), .ref (B + 120), .int 0]) := e_46
  refine lv_iconst (v := 0) C.x C.b dX0_init_49 (by decide) ?_
  refine lv_istore_n (lv' := [(1, .int 0), (0, .ref (B + 113))]) C.x C.b dX0_init_50 rfl hl (by decide) rfl (fun ls hl => ?_)
  have e_48 : g_12 115 = .inl (t.2.2.2.1, 16, .inr (.inr (.inr (.inr (fun _ => none))))) := (o_14 _ (by omega)).trans e_9
  have e_49 : g_15 115 = .inl (t.2.2.2.1, 16, .inr (.inr (.inr (.inr (fun _ => none))))) := (o_17 _ (by omega)).trans e_48
  have e_50 : g_18 115 = .inl (t.2.2.2.1, 16, .inr (.inr (.inr (.inr (fun _ => none))))) := (o_20 _ (by omega)).trans e_49
  have e_51 : g_27 115 = .inl (t.2.2.2.1, 16, .inr (.inr (.inr (.inr (fun _ => none))))) := (o_29 _ (by omega)).trans e_50
  have e_52 : g_30 115 = .inl (t.2.2.2.1, 16, .inr (.inr (.inr (.inr (fun _ => none))))) := (o_32 _ (by omega)).trans e_51
  have e_53 : g_33 115 = .inl (t.2.2.2.1, 16, .inr (.inr (.inr (.inr (fun _ => none))))) := (o_35 _ (by omega)).trans e_52
  have e_54 : g_42 115 = .inl (t.2.2.2.1, 16, .inr (.inr (.inr (.inr (fun _ => none))))) := (o_44 _ (by omega)).trans e_53
  have e_55 : g_45 115 = .inl (t.2.2.2.1, 16, .inr (.inr (.inr (.inr (fun _ => none))))) := (o_47 _ (by omega)).trans e_54
  have lp : ∀ (u k : Nat) (gL : Nat → va_E) (H : Heap) (locs : List Loc) (ls : Array Slot) (nn cs sl : Nat), k + u = 16 → nn = 124 + 6 * k → cs = 10 + 6 * k → sl = 532 + 146 * k → gL 113 = .inr (0, [.ref (B + 114), .ref (B + 115), .ref (B + 116), .ref (B + 120), .int 0]) → gL 115 = .inl (t.2.2.2.1, 16, .inr (.inr (.inr (.inr (fiQ B 124 6 k))))) → (∀ q, q < k → isRun t B gL (124 + 6 * q) zz zz zz zz zz 0 0 0 0 0) → (∀ j, j < 124 → j ≠ 115 → gL j = g_45 j) → St D B s.heap nn gL H locs → lv_has ls 2 [(0, .ref (B + 113)), (1, .int (nI k))] → W p l e (rmOf 2 32 106 2868) s m [.ref (B + 113)].toArray below meth c H locs cs sl (MQ below (qV D B 220 (fun g' => ((g' 113 = .inr (0, [.ref (B + 114), .ref (B + 115), .ref (B + 116), .ref (B + 120), .int 0]) ∧ g' 114 = .inl (t.2.1, 256, .inl zz) ∧ g' 115 = .inl (t.2.2.2.1, 16, .inr (.inr (.inr (.inr (ruQ B)))))) ∧ isRow t B g' 116 zz zz zz 0 ∧ isRow t B g' 120 zz zz zz 0 ∧ ∀ k, k < 16 → isRun t B g' (124 + 6 * k) zz zz zz zz zz 0 0 0 0 0) ∧ ∀ j, j < 113 → g' j = g j)) [.ref (B + 113)].toArray s 106 2868 (fun q => B ≤ q)) (F0 m 51 ls []) := by
    intro u
    induction u with
    | zero =>
      intro k gL H locs ls nn cs sl hk hnn hcs hsl e1 e2 hq hf hS hl
      obtain rfl : k = 16 := by omega
      subst hnn
      subst hcs
      subst hsl
      refine lv_iload_n C.x C.b dX0_init_51 rfl (lv_at hl 1 rfl) ?_
      refine lv_bipush (v := 16) C.x C.b dX0_init_52 (by decide) ?_
      refine lv_icmp_ge (tgt := 76) C.x C.b dX0_init_54 (by decide) (fun _ => ?_) (fun c0 => absurd (by decide) c0)
      have e_56 : g_5 114 = .inl (t.2.1, 256, .inl zz) := (o_7 _ (by omega)).trans e_2
      have e_57 : g_8 114 = .inl (t.2.1, 256, .inl zz) := (o_10 _ (by omega)).trans e_56
      have e_58 : g_12 114 = .inl (t.2.1, 256, .inl zz) := (o_14 _ (by omega)).trans e_57
      have e_59 : g_15 114 = .inl (t.2.1, 256, .inl zz) := (o_17 _ (by omega)).trans e_58
      have e_60 : g_18 114 = .inl (t.2.1, 256, .inl zz) := (o_20 _ (by omega)).trans e_59
      have e_61 : g_27 114 = .inl (t.2.1, 256, .inl zz) := (o_29 _ (by omega)).trans e_60
      have e_62 : g_30 114 = .inl (t.2.1, 256, .inl zz) := (o_32 _ (by omega)).trans e_61
      have e_63 : g_33 114 = .inl (t.2.1, 256, .inl zz) := (o_35 _ (by omega)).trans e_62
      have e_64 : g_42 114 = .inl (t.2.1, 256, .inl zz) := (o_44 _ (by omega)).trans e_63
      have e_65 : g_45 114 = .inl (t.2.1, 256, .inl zz) := (o_47 _ (by omega)).trans e_64
      have e_66 : g_27 116 = .inr (4, [.ref (B + 117), .ref (B + 118), .ref (B + 119), .int (nI 0)]) := (o_29 _ (by omega)).trans e_21
      have e_67 : g_30 116 = .inr (4, [.ref (B + 117), .ref (B + 118), .ref (B + 119), .int (nI 0)]) := (o_32 _ (by omega)).trans e_66
      have e_68 : g_33 116 = .inr (4, [.ref (B + 117), .ref (B + 118), .ref (B + 119), .int (nI 0)]) := (o_35 _ (by omega)).trans e_67
      have e_69 : g_42 116 = .inr (4, [.ref (B + 117), .ref (B + 118), .ref (B + 119), .int (nI 0)]) := (o_44 _ (by omega)).trans e_68
      have e_70 : g_45 116 = .inr (4, [.ref (B + 117), .ref (B + 118), .ref (B + 119), .int (nI 0)]) := (o_47 _ (by omega)).trans e_69
      have e_71 : g_27 117 = .inl (t.1, 42, .inl zz) := (o_29 _ (by omega)).trans e_22
      have e_72 : g_30 117 = .inl (t.1, 42, .inl zz) := (o_32 _ (by omega)).trans e_71
      have e_73 : g_33 117 = .inl (t.1, 42, .inl zz) := (o_35 _ (by omega)).trans e_72
      have e_74 : g_42 117 = .inl (t.1, 42, .inl zz) := (o_44 _ (by omega)).trans e_73
      have e_75 : g_45 117 = .inl (t.1, 42, .inl zz) := (o_47 _ (by omega)).trans e_74
      have e_76 : g_27 118 = .inl (t.1, 42, .inl zz) := (o_29 _ (by omega)).trans e_23
      have e_77 : g_30 118 = .inl (t.1, 42, .inl zz) := (o_32 _ (by omega)).trans e_76
      have e_78 : g_33 118 = .inl (t.1, 42, .inl zz) := (o_35 _ (by omega)).trans e_77
      have e_79 : g_42 118 = .inl (t.1, 42, .inl zz) := (o_44 _ (by omega)).trans e_78
      have e_80 : g_45 118 = .inl (t.1, 42, .inl zz) := (o_47 _ (by omega)).trans e_79
      have e_81 : g_27 119 = .inl (t.1, 42, .inl zz) := (o_29 _ (by omega)).trans e_24
      have e_82 : g_30 119 = .inl (t.1, 42, .inl zz) := (o_32 _ (by omega)).trans e_81
      have e_83 : g_33 119 = .inl (t.1, 42, .inl zz) := (o_35 _ (by omega)).trans e_82
      have e_84 : g_42 119 = .inl (t.1, 42, .inl zz) := (o_44 _ (by omega)).trans e_83
      have e_85 : g_45 119 = .inl (t.1, 42, .inl zz) := (o_47 _ (by omega)).trans e_84
      have e_86 : g_42 120 = .inr (4, [.ref (B + 121), .ref (B + 122), .ref (B + 123), .int (nI 0)]) := (o_44 _ (by omega)).trans e_36
      have e_87 : g_45 120 = .inr (4, [.ref (B + 121), .ref (B + 122), .ref (B + 123), .int (nI 0)]) := (o_47 _ (by omega)).trans e_86
      have e_88 : g_42 121 = .inl (t.1, 42, .inl zz) := (o_44 _ (by omega)).trans e_37
      have e_89 : g_45 121 = .inl (t.1, 42, .inl zz) := (o_47 _ (by omega)).trans e_88
      have e_90 : g_42 122 = .inl (t.1, 42, .inl zz) := (o_44 _ (by omega)).trans e_38
      have e_91 : g_45 122 = .inl (t.1, 42, .inl zz) := (o_47 _ (by omega)).trans e_90
      have e_92 : g_42 123 = .inl (t.1, 42, .inl zz) := (o_44 _ (by omega)).trans e_39
      have e_93 : g_45 123 = .inl (t.1, 42, .inl zz) := (o_47 _ (by omega)).trans e_92
      refine r_vret C hr hlocks hS ⟨⟨⟨e1, (hf _ (by omega) (by omega)).trans e_65, e2⟩, ⟨(hf _ (by omega) (by omega)).trans e_70, (hf _ (by omega) (by omega)).trans e_75, (hf _ (by omega) (by omega)).trans e_80, (hf _ (by omega) (by omega)).trans e_85⟩, ⟨(hf _ (by omega) (by omega)).trans e_87, (hf _ (by omega) (by omega)).trans e_89, (hf _ (by omega) (by omega)).trans e_91, (hf _ (by omega) (by omega)).trans e_93⟩, hq⟩, fun j hj => (hf _ (by omega) (by omega)).trans ((o_47 j (by omega)).trans ((o_44 j (by omega)).trans ((o_35 j (by omega)).trans ((o_32 j (by omega)).trans ((o_29 j (by omega)).trans ((o_20 j (by omega)).trans ((o_17 j (by omega)).trans ((o_14 j (by omega)).trans ((o_10 j (by omega)).trans ((o_7 j (by omega)).trans ((o_3 j (by omega)))))))))))))⟩ dX0_init_76
    | succ u ih =>
      intro k gL H locs ls nn cs sl hk hnn hcs hsl e1 e2 hq hf hS hl
      refine lv_iload_n C.x C.b dX0_init_51 rfl (lv_at hl 1 rfl) ?_
      refine lv_bipush (v := 16) C.x C.b dX0_init_52 (by decide) ?_
      refine lv_icmp_ge (tgt := 76) C.x C.b dX0_init_54 (by decide) (fun c0 => absurd c0 (nI_ge (a := k) (b := 16) (by omega) (by decide))) (fun _ => ?_)
      refine lv_aload_n C.x C.b dX0_init_57 rfl (lv_at hl 0 rfl) ?_
      refine r_get ck0 flX0_17 C hS (by omega) e1 (by decide) rfl dX0_init_58 ?_
      refine lv_iload_n C.x C.b dX0_init_61 rfl (lv_at hl 1 rfl) ?_
      refine r_new ck5 clX0_15 ins_X5 ini_X5 df5 C hS (by show cs + 1 ≤ 106; omega) (by show sl + 10 ≤ 2868; omega) dX0_init_62 (fun gn H en on hS => ?_)
      refine lv_dup C.x C.b dX0_init_65 rfl ?_
      refine r_callIN (b := nn) (As := []) (rest := [.ref (B + nn), .int (nI k), .ref (B + 115)]) (c_X5_init l D t B gn nn en) mf_yX5_init (show (RX0, 35, yX5_init) ∈ nestL by decide) im_yX5_init rfl (by decide) C hS rfl hl.1 rfl (Nat.le_of_ble_eq_true rfl) dX0_init_66 ⟨by show cs + 1 + 5 ≤ 106; omega, by show sl + 10 + 136 ≤ 2868; omega⟩ (fun gi H locs w hS => ?_)
      obtain ⟨wr, oi⟩ := w
      have ea : gi 115 = .inl (t.2.2.2.1, 16, .inr (.inr (.inr (.inr (fiQ B 124 6 k))))) := (oi _ (by omega)).trans ((on _ (by omega)).trans e2)
      refine r_aast k rfl (by omega) (by decide) C hS (by omega) (by omega) 3 rfl (show vwCl[5]? = some _ from rfl) wr.1 ea dX0_init_69 (fun ga H locs e9 o9 hS => ?_)
      refine lv_iinc (v := nI (k + 1)) (lv' := [(1, .int (nI (k + 1))), (0, .ref (B + 113))]) C.x C.b dX0_init_70 hl (k := 1) rfl (nI_1 k) (by decide) rfl (fun ls hl => ?_)
      refine lv_goto (tgt := 51) C.x C.b dX0_init_73 (by decide) ?_
      subst hnn
      rw [fiQ_up] at e9
      refine ih (k + 1) ga _ _ _ _ _ _ (by omega) (by omega) (by omega) (by omega) ((o9 _ (by omega)).trans ((oi _ (by omega)).trans ((on _ (by omega)).trans e1))) e9 (fun q hqk => ?_) (fun j hj hn => (o9 _ hn).trans ((oi _ (by omega)).trans ((on _ (by omega)).trans (hf j hj hn)))) hS (lv_sub hl [1, 0] rfl)
      rcases Nat.lt_or_ge q k with hqk2 | hqk2
      · exact (hq q hqk2).keep (fun j h1 h2 => (o9 _ (by omega)).trans ((oi _ (by omega)).trans (on _ (by omega))))
      · obtain rfl : q = k := by omega
        exact wr.keep (fun j h1 h2 => o9 _ (by omega))
  rw [fiQ_0 (B := B) (a := 124) (st := 6)] at e_55
  exact lp 16 0 g_45 _ _ _ _ _ _ rfl rfl rfl rfl e_46 e_55 (fun q hq => absurd hq (Nat.not_lt_zero _)) (fun _ _ _ => rfl) hS (lv_sub hl [1, 0] rfl)
