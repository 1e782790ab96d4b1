def okO (o : Nat → Int32) : Prop := ∀ h, h < 8 → ∃ v, v < 40960 ∧ o h = nI v
def rgM (rg : Nat → Int32) (R : Nat) : Nat → Int32 := upd (upd (upd (upd rg 0 (nI (R / 16 % 4))) 1 (nI (R / 64))) 2 (nI (R % 4))) 3 (nI (R / 4 % 4))
/-- the model's machine: registers, memory, place, and the rows of steps; how many steps -/
abbrev MS : Type := (Nat → Int32) × (Nat → Int32) × Int32 × (Nat → Int32) × (Nat → Int32) × (Nat → Int32) × Nat
def mst1 (R h : Nat) (x : Int32) : MS → MS
  | (rg, mm, _, pl, nu, co, s) => (workR (kdF x) (aF x) (rg (bF x)) (cF x) rg mm, workM (kdF x) (aF x) (rg (bF x)) rg mm, nextF (kdF x) (rg (aF x)) (cF x) (nI h), upd pl (40 * R + s) (nI h), upd nu (40 * R + s) (numF (kdF x) (rg (aF x)) (rg (bF x))), upd co (40 * R + s) (cosM (kdF x) (rg (bF x))), s + 1)
def mgo (o : Nat → Int32) (n R : Nat) : Nat → MS → MS
  | 0, S => S
  | k + 1, S => if inP n S.2.2.1 then mgo o n R k (mst1 R S.2.2.1.toNatClampNeg (o S.2.2.1.toNatClampNeg) S) else S
theorem mgo_step {o : Nat → Int32} {n R k q : Nat} {rg mm pl nu co : Nat → Int32} {s : Nat} (hq : q < n) (hn : n ≤ 8 := by omega) : mgo o n R (k + 1) (rg, mm, nI q, pl, nu, co, s) = mgo o n R k (mst1 R q (o q) (rg, mm, nI q, pl, nu, co, s)) := by
  rw [mgo, if_pos (inP_of hq (by omega))]
  show mgo o n R k (mst1 R (nI q).toNatClampNeg (o (nI q).toNatClampNeg) _) = _
  rw [nI_clamp (by omega)]
theorem mgo_stop {o : Nat → Int32} {n R : Nat} {k : Nat} {S : MS} (h : ¬ inP n S.2.2.1) : mgo o n R k S = S := by
  cases k with
  | zero => rfl
  | succ k => rw [mgo, if_neg h]
set_option maxHeartbeats 1000000 in
set_option maxRecDepth 100000 in
theorem c_X8_goes (l : Launch) (D : va_G) (t : Gx) (B N : Nat) (g : Nat → va_E) (td : Int32) (n : Nat) (ey wi ev po ps : Int32) (o : Nat → Int32) (w : Nat → Int32) (rg : Nat → Int32) (mm : Nat → Int32) (st : Nat → Int32) (an : Nat → Int32) (sp : Nat → Int32) (pl : Nat → Int32) (nu : Nat → Int32) (co : Nat → Int32) (R : Nat) (hN : 236 < N) (m220 : g 220 = mObj B td n ey wi ev po ps) (m221 : g 221 = .inl (t.1, 10, .inl o)) (m223 : g 223 = .inl (t.1, 8, .inl w)) (m224 : g 224 = .inl (t.1, 4, .inl rg)) (m225 : g 225 = .inl (t.1, 8, .inl mm)) (m226 : g 226 = .inl (t.1, 256, .inl st)) (m227 : g 227 = .inl (t.1, 256, .inl an)) (m228 : g 228 = .inl (t.2.1, 256, .inl sp)) (m229 : g 229 = .inl (t.1, 10240, .inl pl)) (m230 : g 230 = .inl (t.1, 10240, .inl nu)) (m231 : g 231 = .inl (t.1, 10240, .inl co)) (hn : n ≤ 8) (hR : R < 256) (hO : okO o) : Cv l D t B N N 0 0 yX8_goes cX8_goes 5 2 50 g [.ref (B + 220), .int (nI R)] (fun g' => (g' 224 = .inl (t.1, 4, .inl (mgo o n R 40 (rgM rg R, cpF w mm 8, 0, pl, nu, co, 0)).1) ∧ g' 225 = .inl (t.1, 8, .inl (mgo o n R 40 (rgM rg R, cpF w mm 8, 0, pl, nu, co, 0)).2.1) ∧ g' 226 = .inl (t.1, 256, .inl (upd st R (nI (mgo o n R 40 (rgM rg R, cpF w mm 8, 0, pl, nu, co, 0)).2.2.2.2.2.2))) ∧ g' 227 = .inl (t.1, 256, .inl (upd an R ((mgo o n R 40 (rgM rg R, cpF w mm 8, 0, pl, nu, co, 0)).1 0))) ∧ g' 228 = .inl (t.2.1, 256, .inl (upd sp R (bz (inP n (mgo o n R 40 (rgM rg R, cpF w mm 8, 0, pl, nu, co, 0)).2.2.1)))) ∧ g' 229 = .inl (t.1, 10240, .inl (mgo o n R 40 (rgM rg R, cpF w mm 8, 0, pl, nu, co, 0)).2.2.2.1) ∧ g' 230 = .inl (t.1, 10240, .inl (mgo o n R 40 (rgM rg R, cpF w mm 8, 0, pl, nu, co, 0)).2.2.2.2.1) ∧ g' 231 = .inl (t.1, 10240, .inl (mgo o n R 40 (rgM rg R, cpF w mm 8, 0, pl, nu, co, 0)).2.2.2.2.2.1)) ∧ ∀ j, (j < 224 ∨ 231 < j) → g' j = g j) := by
  refine Cv.start (by decide) (Nat.le_of_ble_eq_true rfl) ?_
  intro p e s m below meth c ls C hr hlocks hnm hS hl
  replace C : Cx D t p s m [.ref (B + 220), .int (nI R)].toArray c cX8_goes 5 RX8 := C
  replace hl : lv_has ls 5 [(0, .ref (B + 220)), (1, .int (nI R))] := hl
  replace m220 : g 220 = .inr (8, [.int td, .int (nI n), .ref (B + 221), .ref (B + 222), .ref (B + 223), .int ey, .int wi, .int ev, .ref (B + 224), .ref (B + 225), .ref (B + 226), .ref (B + 227), .ref (B + 228), .ref (B + 229), .ref (B + 230), .ref (B + 231), .ref (B + 232), .ref (B + 233), .ref (B + 234), .ref (B + 235), .ref (B + 236), .int po, .int ps]) := m220
  refine lv_aload_n C.x C.b dX8_goes_0 rfl (lv_at hl 0 rfl) ?_
  refine r_get ck8 flX8_26 C hS (by omega) m220 (by decide) rfl dX8_goes_1 ?_
  refine lv_iconst (v := 0) C.x C.b dX8_goes_4 (by decide) ?_
  refine lv_iload_n C.x C.b dX8_goes_5 rfl (lv_at hl 1 rfl) ?_
  refine lv_bipush (v := 16) C.x C.b dX8_goes_6 (by decide) ?_
  refine lv_idiv C.x C.b dX8_goes_8 (by decide) ?_
  refine r_top (y := nI (R / 16)) (pk_div (d := 16) (by omega) (by decide) (by decide)) ?_
  refine lv_iconst (v := 4) C.x C.b dX8_goes_9 (by decide) ?_
  refine lv_irem C.x C.b dX8_goes_10 (by decide) ?_
  refine r_top (y := nI (R / 16 % 4)) (pk_rem (by omega) (by decide) (by decide)) ?_
  refine r_iastN 0 rfl (by omega) (by decide) C hS (by omega) m224 dX8_goes_11 (fun g_1 H locs e_2 o_3 hS => ?_)
  replace e_2 : g_1 224 = .inl (t.1, 4, .inl (upd rg 0 (nI (R / 16 % 4)))) := e_2
  refine lv_aload_n C.x C.b dX8_goes_12 rfl (lv_at hl 0 rfl) ?_
  have e_4 : g_1 220 = .inr (8, [.int td, .int (nI n), .ref (B + 221), .ref (B + 222), .ref (B + 223), .int ey, .int wi, .int ev, .ref (B + 224), .ref (B + 225), .ref (B + 226), .ref (B + 227), .ref (B + 228), .ref (B + 229), .ref (B + 230), .ref (B + 231), .ref (B + 232), .ref (B + 233), .ref (B + 234), .ref (B + 235), .ref (B + 236), .int po, .int ps]) := (o_3 _ (by omega)).trans m220
  refine r_get ck8 flX8_26 C hS (by omega) e_4 (by decide) rfl dX8_goes_13 ?_
  refine lv_iconst (v := 1) C.x C.b dX8_goes_16 (by decide) ?_
  refine lv_iload_n C.x C.b dX8_goes_17 rfl (lv_at hl 1 rfl) ?_
  refine lv_bipush (v := 64) C.x C.b dX8_goes_18 (by decide) ?_
  refine lv_idiv C.x C.b dX8_goes_20 (by decide) ?_
  refine r_top (y := nI (R / 64)) (pk_div (d := 64) (by omega) (by decide) (by decide)) ?_
  refine r_iastN 1 rfl (by omega) (by decide) C hS (by omega) e_2 dX8_goes_21 (fun g_5 H locs e_6 o_7 hS => ?_)
  replace e_6 : g_5 224 = .inl (t.1, 4, .inl (upd (upd rg 0 (nI (R / 16 % 4))) 1 (nI (R / 64)))) := e_6
  refine lv_aload_n C.x C.b dX8_goes_22 rfl (lv_at hl 0 rfl) ?_
  have e_8 : g_5 220 = .inr (8, [.int td, .int (nI n), .ref (B + 221), .ref (B + 222), .ref (B + 223), .int ey, .int wi, .int ev, .ref (B + 224), .ref (B + 225), .ref (B + 226), .ref (B + 227), .ref (B + 228), .ref (B + 229), .ref (B + 230), .ref (B + 231), .ref (B + 232), .ref (B + 233), .ref (B + 234), .ref (B + 235), .ref (B + 236), .int po, .int ps]) := (o_7 _ (by omega)).trans e_4
  refine r_get ck8 flX8_26 C hS (by omega) e_8 (by decide) rfl dX8_goes_23 ?_
  refine lv_iconst (v := 2) C.x C.b dX8_goes_26 (by decide) ?_
  refine lv_iload_n C.x C.b dX8_goes_27 rfl (lv_at hl 1 rfl) ?_
  refine lv_iconst (v := 4) C.x C.b dX8_goes_28 (by decide) ?_
  refine lv_irem C.x C.b dX8_goes_29 (by decide) ?_
  refine r_top (y := nI (R % 4)) (pk_rem (by omega) (by decide) (by decide)) ?_
  refine r_iastN 2 rfl (by omega) (by decide) C hS (by omega) e_6 dX8_goes_30 (fun g_9 H locs e_10 o_11 hS => ?_)
  replace e_10 : g_9 224 = .inl (t.1, 4, .inl (upd (upd (upd rg 0 (nI (R / 16 % 4))) 1 (nI (R / 64))) 2 (nI (R % 4)))) := e_10
  refine lv_aload_n C.x C.b dX8_goes_31 rfl (lv_at hl 0 rfl) ?_
  have e_12 : g_9 220 = .inr (8, [.int td, .int (nI n), .ref (B + 221), .ref (B + 222), .ref (B + 223), .int ey, .int wi, .int ev, .ref (B + 224), .ref (B + 225), .ref (B + 226), .ref (B + 227), .ref (B + 228), .ref (B + 229), .ref (B + 230), .ref (B + 231), .ref (B + 232), .ref (B + 233), .ref (B + 234), .ref (B + 235), .ref (B + 236), .int po, .int ps]) := (o_11 _ (by omega)).trans e_8
  refine r_get ck8 flX8_26 C hS (by omega) e_12 (by decide) rfl dX8_goes_32 ?_
  refine lv_iconst (v := 3) C.x C.b dX8_goes_35 (by decide) ?_
  refine lv_iload_n C.x C.b dX8_goes_36 rfl (lv_at hl 1 rfl) ?_
  refine lv_iconst (v := 4) C.x C.b dX8_goes_37 (by decide) ?_
  refine lv_idiv C.x C.b dX8_goes_38 (by decide) ?_
  refine r_top (y := nI (R / 4)) (pk_div (d := 4) (by omega) (by decide) (by decide)) ?_
  refine lv_iconst (v := 4) C.x C.b dX8_goes_39 (by decide) ?_
  refine lv_irem C.x C.b dX8_goes_40 (by decide) ?_
  refine r_top (y := nI (R / 4 % 4)) (pk_rem (by omega) (by decide) (by decide)) ?_
  refine r_iastN 3 rfl (by omega) (by decide) C hS (by omega) e_10 dX8_goes_41 (fun g_13 H locs e_14 o_15 hS => ?_)
  replace e_14 : g_13 224 = .inl (t.1, 4, .inl (upd (upd (upd (upd rg 0 (nI (R / 16 % 4))) 1 (nI (R / 64))) 2 (nI (R % 4))) 3 (nI (R / 4 % 4)))) := e_14
  refine lv_iconst (v := 0) C.x C.b dX8_goes_42 (by decide) ?_
  refine lv_istore_n (lv' := [(2, .int 0), (0, .ref (B + 220)), (1, .int (nI R))]) C.x C.b dX8_goes_43 rfl hl (by decide) rfl (fun ls hl => ?_)
  have lp_16 : ∀ (u_17 k_18 : Nat) (g_22 : Nat → va_E) (H : Heap) (locs : List Loc) (ls : Array Slot), k_18 + u_17 = 8 → (g_22 225 = .inl (t.1, 8, .inl (cpF w mm k_18))) → (∀ j, (j ≠ 225) → g_22 j = g_13 j) → St D B s.heap N g_22 H locs → lv_has ls 5 [(0, .ref (B + 220)), (1, .int (nI R)), (2, .int (nI k_18))] → W p l e (rmOf 2 50 0 0) s m [.ref (B + 220), .int (nI R)].toArray below meth c H locs 0 0 (MQ below (qV D B N (fun g' => (g' 224 = .inl (t.1, 4, .inl (mgo o n R 40 (rgM rg R, cpF w mm 8, 0, pl, nu, co, 0)).1) ∧ g' 225 = .inl (t.1, 8, .inl (mgo o n R 40 (rgM rg R, cpF w mm 8, 0, pl, nu, co, 0)).2.1) ∧ g' 226 = .inl (t.1, 256, .inl (upd st R (nI (mgo o n R 40 (rgM rg R, cpF w mm 8, 0, pl, nu, co, 0)).2.2.2.2.2.2))) ∧ g' 227 = .inl (t.1, 256, .inl (upd an R ((mgo o n R 40 (rgM rg R, cpF w mm 8, 0, pl, nu, co, 0)).1 0))) ∧ g' 228 = .inl (t.2.1, 256, .inl (upd sp R (bz (inP n (mgo o n R 40 (rgM rg R, cpF w mm 8, 0, pl, nu, co, 0)).2.2.1)))) ∧ g' 229 = .inl (t.1, 10240, .inl (mgo o n R 40 (rgM rg R, cpF w mm 8, 0, pl, nu, co, 0)).2.2.2.1) ∧ g' 230 = .inl (t.1, 10240, .inl (mgo o n R 40 (rgM rg R, cpF w mm 8, 0, pl, nu, co, 0)).2.2.2.2.1) ∧ g' 231 = .inl (t.1, 10240, .inl (mgo o n R 40 (rgM rg R, cpF w mm 8, 0, pl, nu, co, 0)).2.2.2.2.2.1)) ∧ ∀ j, (j < 224 ∨ 231 < j) → g' j = g j)) [.ref (B + 220), .int (nI R)].toArray s 0 0 (fun q => B ≤ q)) (F0 m 44 ls []) := by
    intro u_17
    induction u_17 with
    | zero =>
      intro k_18 g_22 H locs ls hk_19 e_23 hf_21 hS hl
      obtain rfl : 8 = k_18 := by omega
      refine lv_iload_n C.x C.b dX8_goes_44 rfl (lv_at hl 2 rfl) ?_
      refine lv_bipush (v := 8) C.x C.b dX8_goes_45 (by decide) ?_
      refine lv_icmp_ge (tgt := 68) C.x C.b dX8_goes_47 (by decide) (fun c_24 => ?_) (fun c_24 => absurd (by decide) c_24)
      refine lv_aload_n C.x C.b dX8_goes_68 rfl (lv_at hl 0 rfl) ?_
      have e_25 : g_13 220 = .inr (8, [.int td, .int (nI n), .ref (B + 221), .ref (B + 222), .ref (B + 223), .int ey, .int wi, .int ev, .ref (B + 224), .ref (B + 225), .ref (B + 226), .ref (B + 227), .ref (B + 228), .ref (B + 229), .ref (B + 230), .ref (B + 231), .ref (B + 232), .ref (B + 233), .ref (B + 234), .ref (B + 235), .ref (B + 236), .int po, .int ps]) := (o_15 _ (by omega)).trans e_12
      have e_26 : g_22 220 = .inr (8, [.int td, .int (nI n), .ref (B + 221), .ref (B + 222), .ref (B + 223), .int ey, .int wi, .int ev, .ref (B + 224), .ref (B + 225), .ref (B + 226), .ref (B + 227), .ref (B + 228), .ref (B + 229), .ref (B + 230), .ref (B + 231), .ref (B + 232), .ref (B + 233), .ref (B + 234), .ref (B + 235), .ref (B + 236), .int po, .int ps]) := (hf_21 _ (by omega)).trans e_25
      refine r_get ck8 flX8_32 C hS (by omega) e_26 (by decide) rfl dX8_goes_69 ?_
      refine lv_iload_n C.x C.b dX8_goes_72 rfl (lv_at hl 1 rfl) ?_
      refine lv_iconst (v := 0) C.x C.b dX8_goes_73 (by decide) ?_
      have e_27 : g_1 226 = .inl (t.1, 256, .inl st) := (o_3 _ (by omega)).trans m226
      have e_28 : g_5 226 = .inl (t.1, 256, .inl st) := (o_7 _ (by omega)).trans e_27
      have e_29 : g_9 226 = .inl (t.1, 256, .inl st) := (o_11 _ (by omega)).trans e_28
      have e_30 : g_13 226 = .inl (t.1, 256, .inl st) := (o_15 _ (by omega)).trans e_29
      have e_31 : g_22 226 = .inl (t.1, 256, .inl st) := (hf_21 _ (by omega)).trans e_30
      refine r_iastN R rfl (by omega) (by decide) C hS (by omega) e_31 dX8_goes_74 (fun g_32 H locs e_33 o_34 hS => ?_)
      replace e_33 : g_32 226 = .inl (t.1, 256, .inl (upd st R 0)) := e_33
      refine lv_aload_n C.x C.b dX8_goes_75 rfl (lv_at hl 0 rfl) ?_
      have e_35 : g_32 220 = .inr (8, [.int td, .int (nI n), .ref (B + 221), .ref (B + 222), .ref (B + 223), .int ey, .int wi, .int ev, .ref (B + 224), .ref (B + 225), .ref (B + 226), .ref (B + 227), .ref (B + 228), .ref (B + 229), .ref (B + 230), .ref (B + 231), .ref (B + 232), .ref (B + 233), .ref (B + 234), .ref (B + 235), .ref (B + 236), .int po, .int ps]) := (o_34 _ (by omega)).trans e_26
      refine r_get ck8 flX8_38 C hS (by omega) e_35 (by decide) rfl dX8_goes_76 ?_
      refine lv_iload_n C.x C.b dX8_goes_79 rfl (lv_at hl 1 rfl) ?_
      refine lv_iconst (v := 0) C.x C.b dX8_goes_80 (by decide) ?_
      have e_36 : g_1 228 = .inl (t.2.1, 256, .inl sp) := (o_3 _ (by omega)).trans m228
      have e_37 : g_5 228 = .inl (t.2.1, 256, .inl sp) := (o_7 _ (by omega)).trans e_36
      have e_38 : g_9 228 = .inl (t.2.1, 256, .inl sp) := (o_11 _ (by omega)).trans e_37
      have e_39 : g_13 228 = .inl (t.2.1, 256, .inl sp) := (o_15 _ (by omega)).trans e_38
      have e_40 : g_22 228 = .inl (t.2.1, 256, .inl sp) := (hf_21 _ (by omega)).trans e_39
      have e_41 : g_32 228 = .inl (t.2.1, 256, .inl sp) := (o_34 _ (by omega)).trans e_40
      refine r_zastN R rfl (by omega) (by decide) (by decide) C hS (by omega) e_41 dX8_goes_81 (fun g_42 H locs e_43 o_44 hS => ?_)
      replace e_43 : g_42 228 = .inl (t.2.1, 256, .inl (upd sp R 0)) := e_43
      refine lv_iconst (v := 0) C.x C.b dX8_goes_82 (by decide) ?_
      refine lv_istore_n (lv' := [(2, .int 0), (0, .ref (B + 220)), (1, .int (nI R))]) C.x C.b dX8_goes_83 rfl hl (by decide) rfl (fun ls hl => ?_)
      refine lv_iconst (v := 1) C.x C.b dX8_goes_84 (by decide) ?_
      refine lv_istore_n (lv' := [(3, .int 1), (2, .int 0), (0, .ref (B + 220)), (1, .int (nI R))]) C.x C.b dX8_goes_85 rfl hl (by decide) rfl (fun ls hl => ?_)
      have lp : ∀ (u s1 : Nat) (rg1 mm1 pl1 nu1 co1 : Nat → Int32) (p1 : Int32) (gL : Nat → va_E) (H : Heap) (locs : List Loc) (ls : Array Slot), s1 + u = 40 → mgo o n R u (rg1, mm1, p1, pl1, nu1, co1, s1) = (mgo o n R 40 (rgM rg R, cpF w mm 8, 0, pl, nu, co, 0)) → gL 224 = .inl (t.1, 4, .inl rg1) → gL 225 = .inl (t.1, 8, .inl mm1) → gL 226 = .inl (t.1, 256, .inl (upd st R (nI s1))) → gL 228 = .inl (t.2.1, 256, .inl (upd sp R 0)) → gL 229 = .inl (t.1, 10240, .inl pl1) → gL 230 = .inl (t.1, 10240, .inl nu1) → gL 231 = .inl (t.1, 10240, .inl co1) → (∀ j, (j ≠ 224 ∧ j ≠ 225 ∧ j ≠ 226 ∧ j ≠ 228 ∧ j ≠ 229 ∧ j ≠ 230 ∧ j ≠ 231) → gL j = g_42 j) → St D B s.heap N gL H locs → lv_has ls 5 [(0, .ref (B + 220)), (1, .int (nI R)), (2, .int p1), (3, .int 1)] → W p l e (rmOf 2 50 0 0) s m [.ref (B + 220), .int (nI R)].toArray below meth c H locs 0 0 (MQ below (qV D B N (fun g' => (g' 224 = .inl (t.1, 4, .inl (mgo o n R 40 (rgM rg R, cpF w mm 8, 0, pl, nu, co, 0)).1) ∧ g' 225 = .inl (t.1, 8, .inl (mgo o n R 40 (rgM rg R, cpF w mm 8, 0, pl, nu, co, 0)).2.1) ∧ g' 226 = .inl (t.1, 256, .inl (upd st R (nI (mgo o n R 40 (rgM rg R, cpF w mm 8, 0, pl, nu, co, 0)).2.2.2.2.2.2))) ∧ g' 227 = .inl (t.1, 256, .inl (upd an R ((mgo o n R 40 (rgM rg R, cpF w mm 8, 0, pl, nu, co, 0)).1 0))) ∧ g' 228 = .inl (t.2.1, 256, .inl (upd sp R (bz (inP n (mgo o n R 40 (rgM rg R, cpF w mm 8, 0, pl, nu, co, 0)).2.2.1)))) ∧ g' 229 = .inl (t.1, 10240, .inl (mgo o n R 40 (rgM rg R, cpF w mm 8, 0, pl, nu, co, 0)).2.2.2.1) ∧ g' 230 = .inl (t.1, 10240, .inl (mgo o n R 40 (rgM rg R, cpF w mm 8, 0, pl, nu, co, 0)).2.2.2.2.1) ∧ g' 231 = .inl (t.1, 10240, .inl (mgo o n R 40 (rgM rg R, cpF w mm 8, 0, pl, nu, co, 0)).2.2.2.2.2.1)) ∧ ∀ j, (j < 224 ∨ 231 < j) → g' j = g j)) [.ref (B + 220), .int (nI R)].toArray s 0 0 (fun q => B ≤ q)) (F0 m 86 ls []) := by
        intro u
        induction u with
        | zero =>
          intro s1 rg1 mm1 pl1 nu1 co1 p1 gL H locs ls hk hG l224 l225 l226 l228 l229 l230 l231 hfL hS hl
          obtain rfl : 40 = s1 := by omega
          refine lv_iload_n C.x C.b dX8_goes_86 rfl (lv_at hl 3 rfl) ?_
          refine lv_if_eq (tgt := 183) C.x C.b dX8_goes_87 (by decide) (fun c_45 => absurd c_45 (by decide)) (fun c_45 => ?_)
          refine lv_aload_n C.x C.b dX8_goes_90 rfl (lv_at hl 0 rfl) ?_
          refine lv_iload_n C.x C.b dX8_goes_91 rfl (lv_at hl 2 rfl) ?_
          have e_46 : g_42 220 = .inr (8, [.int td, .int (nI n), .ref (B + 221), .ref (B + 222), .ref (B + 223), .int ey, .int wi, .int ev, .ref (B + 224), .ref (B + 225), .ref (B + 226), .ref (B + 227), .ref (B + 228), .ref (B + 229), .ref (B + 230), .ref (B + 231), .ref (B + 232), .ref (B + 233), .ref (B + 234), .ref (B + 235), .ref (B + 236), .int po, .int ps]) := (o_44 _ (by omega)).trans e_35
          have e_47 : gL 220 = .inr (8, [.int td, .int (nI n), .ref (B + 221), .ref (B + 222), .ref (B + 223), .int ey, .int wi, .int ev, .ref (B + 224), .ref (B + 225), .ref (B + 226), .ref (B + 227), .ref (B + 228), .ref (B + 229), .ref (B + 230), .ref (B + 231), .ref (B + 232), .ref (B + 233), .ref (B + 234), .ref (B + 235), .ref (B + 236), .int po, .int ps]) := (hfL _ (by omega)).trans e_46
          refine r_callV (b := 220) (As := [.int p1]) (rest := []) (c_X8_isPlace l D t B N gL _ _ _ _ _ _ _ p1 (by omega) e_47  ) mf_yX8_isPlace mlX8_77 im_yX8_isPlace se_yX8_isPlace (by decide) C hS (by omega) e_47 (show vwCl[8]? = some _ from rfl) rfl rfl hl.1 rfl (Nat.le_of_ble_eq_true rfl) dX8_goes_92 ⟨Nat.zero_le _, Nat.zero_le _⟩ (fun r_50 g_48 H locs w_49 hS => ?_)
          obtain ⟨rfl, er_50⟩ := w_49
          by_cases b_51 : inP n p1
          · rw [bz_t b_51] at er_50
            subst er_50
            obtain ⟨q, hq, rfl⟩ := inP_nI b_51 (by omega)
            obtain ⟨v, hvl, hv⟩ := hO q (by omega)
            refine lv_if_ne (tgt := 103) C.x C.b dX8_goes_95 (by decide) (fun c_52 => ?_) (fun c_52 => absurd c_52 (by decide))
            refine lv_aload_n C.x C.b dX8_goes_103 rfl (lv_at hl 0 rfl) ?_
            refine r_get ck8 flX8_32 C hS (by omega) e_47 (by decide) rfl dX8_goes_104 ?_
            refine lv_iload_n C.x C.b dX8_goes_107 rfl (lv_at hl 1 rfl) ?_
            refine r_ialdN R rfl (by omega) (by decide) C hS (by omega) l226 dX8_goes_108 ?_
            refine r_top (y := nI 40) (pk_us) ?_
            refine lv_bipush (v := 40) C.x C.b dX8_goes_109 (by decide) ?_
            refine lv_icmp_ne (tgt := 126) C.x C.b dX8_goes_111 (by decide) (fun c_53 => absurd (show nI 40 = 40 from rfl) c_53) (fun c_53 => ?_)
            refine lv_aload_n C.x C.b dX8_goes_114 rfl (lv_at hl 0 rfl) ?_
            refine r_get ck8 flX8_38 C hS (by omega) e_47 (by decide) rfl dX8_goes_115 ?_
            refine lv_iload_n C.x C.b dX8_goes_118 rfl (lv_at hl 1 rfl) ?_
            refine lv_iconst (v := 1) C.x C.b dX8_goes_119 (by decide) ?_
            refine r_zastN R rfl (by omega) (by decide) (by decide) C hS (by omega) l228 dX8_goes_120 (fun g_54 H locs e_55 o_56 hS => ?_)
            replace e_55 : g_54 228 = .inl (t.2.1, 256, .inl (upd (upd sp R 0) R 1)) := e_55
            refine lv_iconst (v := 0) C.x C.b dX8_goes_121 (by decide) ?_
            refine lv_istore_n (lv' := [(3, .int 0), (0, .ref (B + 220)), (1, .int (nI R)), (2, .int (nI q))]) C.x C.b dX8_goes_122 rfl hl (by decide) rfl (fun ls hl => ?_)
            refine lv_goto (tgt := 86) C.x C.b dX8_goes_123 (by decide) ?_
            refine lv_iload_n C.x C.b dX8_goes_86 rfl (lv_at hl 0 rfl) ?_
            refine lv_if_eq (tgt := 183) C.x C.b dX8_goes_87 (by decide) (fun c_57 => ?_) (fun c_57 => absurd (by decide) c_57)
            refine lv_aload_n C.x C.b dX8_goes_183 rfl (lv_at hl 1 rfl) ?_
            have e_58 : g_54 220 = .inr (8, [.int td, .int (nI n), .ref (B + 221), .ref (B + 222), .ref (B + 223), .int ey, .int wi, .int ev, .ref (B + 224), .ref (B + 225), .ref (B + 226), .ref (B + 227), .ref (B + 228), .ref (B + 229), .ref (B + 230), .ref (B + 231), .ref (B + 232), .ref (B + 233), .ref (B + 234), .ref (B + 235), .ref (B + 236), .int po, .int ps]) := (o_56 _ (by omega)).trans e_47
            refine r_get ck8 flX8_35 C hS (by omega) e_58 (by decide) rfl dX8_goes_184 ?_
            refine lv_iload_n C.x C.b dX8_goes_187 rfl (lv_at hl 2 rfl) ?_
            refine lv_aload_n C.x C.b dX8_goes_188 rfl (lv_at hl 1 rfl) ?_
            refine r_get ck8 flX8_26 C hS (by omega) e_58 (by decide) rfl dX8_goes_189 ?_
            refine lv_iconst (v := 0) C.x C.b dX8_goes_192 (by decide) ?_
            have e_59 : g_54 224 = .inl (t.1, 4, .inl rg1) := (o_56 _ (by omega)).trans l224
            refine r_ialdN 0 rfl (by omega) (by decide) C hS (by omega) e_59 dX8_goes_193 ?_
            have e_60 : g_1 227 = .inl (t.1, 256, .inl an) := (o_3 _ (by omega)).trans m227
            have e_61 : g_5 227 = .inl (t.1, 256, .inl an) := (o_7 _ (by omega)).trans e_60
            have e_62 : g_9 227 = .inl (t.1, 256, .inl an) := (o_11 _ (by omega)).trans e_61
            have e_63 : g_13 227 = .inl (t.1, 256, .inl an) := (o_15 _ (by omega)).trans e_62
            have e_64 : g_22 227 = .inl (t.1, 256, .inl an) := (hf_21 _ (by omega)).trans e_63
            have e_65 : g_32 227 = .inl (t.1, 256, .inl an) := (o_34 _ (by omega)).trans e_64
            have e_66 : g_42 227 = .inl (t.1, 256, .inl an) := (o_44 _ (by omega)).trans e_65
            have e_67 : gL 227 = .inl (t.1, 256, .inl an) := (hfL _ (by omega)).trans e_66
            have e_68 : g_54 227 = .inl (t.1, 256, .inl an) := (o_56 _ (by omega)).trans e_67
            refine r_iastN R rfl (by omega) (by decide) C hS (by omega) e_68 dX8_goes_194 (fun g_69 H locs e_70 o_71 hS => ?_)
            replace e_70 : g_69 227 = .inl (t.1, 256, .inl (upd an R (rg1 0))) := e_70
            have hg_72 := hG
            replace hg_72 : (mgo o n R 40 (rgM rg R, cpF w mm 8, 0, pl, nu, co, 0)) = (rg1, mm1, (nI q), pl1, nu1, co1, 40) := hg_72.symm
            have e_73 : g_69 224 = .inl (t.1, 4, .inl rg1) := (o_71 _ (by omega)).trans e_59
            have e_74 : g_54 225 = .inl (t.1, 8, .inl mm1) := (o_56 _ (by omega)).trans l225
            have e_75 : g_69 225 = .inl (t.1, 8, .inl mm1) := (o_71 _ (by omega)).trans e_74
            have e_76 : g_54 226 = .inl (t.1, 256, .inl (upd st R (nI 40))) := (o_56 _ (by omega)).trans l226
            have e_77 : g_69 226 = .inl (t.1, 256, .inl (upd st R (nI 40))) := (o_71 _ (by omega)).trans e_76
            have e_78 : g_69 228 = .inl (t.2.1, 256, .inl (upd (upd sp R 0) R 1)) := (o_71 _ (by omega)).trans e_55
            have e_79 : g_54 229 = .inl (t.1, 10240, .inl pl1) := (o_56 _ (by omega)).trans l229
            have e_80 : g_69 229 = .inl (t.1, 10240, .inl pl1) := (o_71 _ (by omega)).trans e_79
            have e_81 : g_54 230 = .inl (t.1, 10240, .inl nu1) := (o_56 _ (by omega)).trans l230
            have e_82 : g_69 230 = .inl (t.1, 10240, .inl nu1) := (o_71 _ (by omega)).trans e_81
            have e_83 : g_54 231 = .inl (t.1, 10240, .inl co1) := (o_56 _ (by omega)).trans l231
            have e_84 : g_69 231 = .inl (t.1, 10240, .inl co1) := (o_71 _ (by omega)).trans e_83
            exact r_vret C hr hlocks hS ⟨⟨by rw [hg_72]; exact e_73, by rw [hg_72]; exact e_75, by rw [hg_72]; exact e_77, by rw [hg_72]; exact e_70, by rw [hg_72]; show _ = Sum.inl (t.2.1, 256, Sum.inl (upd sp R (bz (inP n (nI q))))); rw [bz_t b_51, ← upd_upd sp R 0]; exact e_78, by rw [hg_72]; exact e_80, by rw [hg_72]; exact e_82, by rw [hg_72]; exact e_84⟩, fun j hj => (o_71 j (by omega)).trans ((o_56 j (by omega)).trans ((hfL j (by omega)).trans ((o_44 j (by omega)).trans ((o_34 j (by omega)).trans ((hf_21 j (by omega)).trans ((o_15 j (by omega)).trans ((o_11 j (by omega)).trans ((o_7 j (by omega)).trans (o_3 j (by omega))))))))))⟩ dX8_goes_195
          · rw [bz_f b_51] at er_50
            subst er_50
            refine lv_if_ne (tgt := 103) C.x C.b dX8_goes_95 (by decide) (fun c_85 => absurd (by decide) c_85) (fun c_85 => ?_)
            refine lv_iconst (v := 0) C.x C.b dX8_goes_98 (by decide) ?_
            refine lv_istore_n (lv' := [(3, .int 0), (0, .ref (B + 220)), (1, .int (nI R)), (2, .int p1)]) C.x C.b dX8_goes_99 rfl hl (by decide) rfl (fun ls hl => ?_)
            refine lv_goto (tgt := 86) C.x C.b dX8_goes_100 (by decide) ?_
            refine lv_iload_n C.x C.b dX8_goes_86 rfl (lv_at hl 0 rfl) ?_
            refine lv_if_eq (tgt := 183) C.x C.b dX8_goes_87 (by decide) (fun c_86 => ?_) (fun c_86 => absurd (by decide) c_86)
            refine lv_aload_n C.x C.b dX8_goes_183 rfl (lv_at hl 1 rfl) ?_
            refine r_get ck8 flX8_35 C hS (by omega) e_47 (by decide) rfl dX8_goes_184 ?_
            refine lv_iload_n C.x C.b dX8_goes_187 rfl (lv_at hl 2 rfl) ?_
            refine lv_aload_n C.x C.b dX8_goes_188 rfl (lv_at hl 1 rfl) ?_
            refine r_get ck8 flX8_26 C hS (by omega) e_47 (by decide) rfl dX8_goes_189 ?_
            refine lv_iconst (v := 0) C.x C.b dX8_goes_192 (by decide) ?_
            refine r_ialdN 0 rfl (by omega) (by decide) C hS (by omega) l224 dX8_goes_193 ?_
            have e_87 : g_1 227 = .inl (t.1, 256, .inl an) := (o_3 _ (by omega)).trans m227
            have e_88 : g_5 227 = .inl (t.1, 256, .inl an) := (o_7 _ (by omega)).trans e_87
            have e_89 : g_9 227 = .inl (t.1, 256, .inl an) := (o_11 _ (by omega)).trans e_88
            have e_90 : g_13 227 = .inl (t.1, 256, .inl an) := (o_15 _ (by omega)).trans e_89
            have e_91 : g_22 227 = .inl (t.1, 256, .inl an) := (hf_21 _ (by omega)).trans e_90
            have e_92 : g_32 227 = .inl (t.1, 256, .inl an) := (o_34 _ (by omega)).trans e_91
            have e_93 : g_42 227 = .inl (t.1, 256, .inl an) := (o_44 _ (by omega)).trans e_92
            have e_94 : gL 227 = .inl (t.1, 256, .inl an) := (hfL _ (by omega)).trans e_93
            refine r_iastN R rfl (by omega) (by decide) C hS (by omega) e_94 dX8_goes_194 (fun g_95 H locs e_96 o_97 hS => ?_)
            replace e_96 : g_95 227 = .inl (t.1, 256, .inl (upd an R (rg1 0))) := e_96
            have hg_98 := (mgo_stop (S := (rg1, mm1, p1, pl1, nu1, co1, 40)) b_51).symm.trans hG
            replace hg_98 : (mgo o n R 40 (rgM rg R, cpF w mm 8, 0, pl, nu, co, 0)) = (rg1, mm1, p1, pl1, nu1, co1, 40) := hg_98.symm
            have e_99 : g_95 224 = .inl (t.1, 4, .inl rg1) := (o_97 _ (by omega)).trans l224
            have e_100 : g_95 225 = .inl (t.1, 8, .inl mm1) := (o_97 _ (by omega)).trans l225
            have e_101 : g_95 226 = .inl (t.1, 256, .inl (upd st R (nI 40))) := (o_97 _ (by omega)).trans l226
            have e_102 : g_95 228 = .inl (t.2.1, 256, .inl (upd sp R 0)) := (o_97 _ (by omega)).trans l228
            have e_103 : g_95 229 = .inl (t.1, 10240, .inl pl1) := (o_97 _ (by omega)).trans l229
            have e_104 : g_95 230 = .inl (t.1, 10240, .inl nu1) := (o_97 _ (by omega)).trans l230
            have e_105 : g_95 231 = .inl (t.1, 10240, .inl co1) := (o_97 _ (by omega)).trans l231
            exact r_vret C hr hlocks hS ⟨⟨by rw [hg_98]; exact e_99, by rw [hg_98]; exact e_100, by rw [hg_98]; exact e_101, by rw [hg_98]; exact e_96, by rw [hg_98]; show _ = Sum.inl (t.2.1, 256, Sum.inl (upd sp R (bz (inP n p1)))); rw [bz_f b_51]; exact e_102, by rw [hg_98]; exact e_103, by rw [hg_98]; exact e_104, by rw [hg_98]; exact e_105⟩, fun j hj => (o_97 j (by omega)).trans ((hfL j (by omega)).trans ((o_44 j (by omega)).trans ((o_34 j (by omega)).trans ((hf_21 j (by omega)).trans ((o_15 j (by omega)).trans ((o_11 j (by omega)).trans ((o_7 j (by omega)).trans (o_3 j (by omega)))))))))⟩ dX8_goes_195
        | succ u ih =>
          intro s1 rg1 mm1 pl1 nu1 co1 p1 gL H locs ls hk hG l224 l225 l226 l228 l229 l230 l231 hfL hS hl
          refine lv_iload_n C.x C.b dX8_goes_86 rfl (lv_at hl 3 rfl) ?_
          refine lv_if_eq (tgt := 183) C.x C.b dX8_goes_87 (by decide) (fun c_106 => absurd c_106 (by decide)) (fun c_106 => ?_)
          refine lv_aload_n C.x C.b dX8_goes_90 rfl (lv_at hl 0 rfl) ?_
          refine lv_iload_n C.x C.b dX8_goes_91 rfl (lv_at hl 2 rfl) ?_
          have e_107 : g_42 220 = .inr (8, [.int td, .int (nI n), .ref (B + 221), .ref (B + 222), .ref (B + 223), .int ey, .int wi, .int ev, .ref (B + 224), .ref (B + 225), .ref (B + 226), .ref (B + 227), .ref (B + 228), .ref (B + 229), .ref (B + 230), .ref (B + 231), .ref (B + 232), .ref (B + 233), .ref (B + 234), .ref (B + 235), .ref (B + 236), .int po, .int ps]) := (o_44 _ (by omega)).trans e_35
          have e_108 : gL 220 = .inr (8, [.int td, .int (nI n), .ref (B + 221), .ref (B + 222), .ref (B + 223), .int ey, .int wi, .int ev, .ref (B + 224), .ref (B + 225), .ref (B + 226), .ref (B + 227), .ref (B + 228), .ref (B + 229), .ref (B + 230), .ref (B + 231), .ref (B + 232), .ref (B + 233), .ref (B + 234), .ref (B + 235), .ref (B + 236), .int po, .int ps]) := (hfL _ (by omega)).trans e_107
          refine r_callV (b := 220) (As := [.int p1]) (rest := []) (c_X8_isPlace l D t B N gL _ _ _ _ _ _ _ p1 (by omega) e_108  ) mf_yX8_isPlace mlX8_77 im_yX8_isPlace se_yX8_isPlace (by decide) C hS (by omega) e_108 (show vwCl[8]? = some _ from rfl) rfl rfl hl.1 rfl (Nat.le_of_ble_eq_true rfl) dX8_goes_92 ⟨Nat.zero_le _, Nat.zero_le _⟩ (fun r_111 g_109 H locs w_110 hS => ?_)
          obtain ⟨rfl, er_111⟩ := w_110
          by_cases b_112 : inP n p1
          · rw [bz_t b_112] at er_111
            subst er_111
            obtain ⟨q, hq, rfl⟩ := inP_nI b_112 (by omega)
            obtain ⟨v, hvl, hv⟩ := hO q (by omega)
            refine lv_if_ne (tgt := 103) C.x C.b dX8_goes_95 (by decide) (fun c_113 => ?_) (fun c_113 => absurd c_113 (by decide))
            refine lv_aload_n C.x C.b dX8_goes_103 rfl (lv_at hl 0 rfl) ?_
            refine r_get ck8 flX8_32 C hS (by omega) e_108 (by decide) rfl dX8_goes_104 ?_
            refine lv_iload_n C.x C.b dX8_goes_107 rfl (lv_at hl 1 rfl) ?_
            refine r_ialdN R rfl (by omega) (by decide) C hS (by omega) l226 dX8_goes_108 ?_
            refine r_top (y := nI s1) (pk_us) ?_
            refine lv_bipush (v := 40) C.x C.b dX8_goes_109 (by decide) ?_
            refine lv_icmp_ne (tgt := 126) C.x C.b dX8_goes_111 (by decide) (fun c_114 => ?_) (fun c_114 => absurd c_114 (fun q => by have := (nI_eq (a := s1) (b := 40) (by omega) (by decide)).mp q; omega))
            refine lv_bipush (v := 40) C.x C.b dX8_goes_126 (by decide) ?_
            refine lv_iload_n C.x C.b dX8_goes_128 rfl (lv_at hl 1 rfl) ?_
            refine lv_imul C.x C.b dX8_goes_129 ?_
            refine r_top (y := nI (40 * R)) (pk_mul 40 R) ?_
            refine lv_aload_n C.x C.b dX8_goes_130 rfl (lv_at hl 0 rfl) ?_
            refine r_get ck8 flX8_32 C hS (by omega) e_108 (by decide) rfl dX8_goes_131 ?_
            refine lv_iload_n C.x C.b dX8_goes_134 rfl (lv_at hl 1 rfl) ?_
            refine r_ialdN R rfl (by omega) (by decide) C hS (by omega) l226 dX8_goes_135 ?_
            refine r_top (y := nI s1) (pk_us) ?_
            refine lv_iadd C.x C.b dX8_goes_136 ?_
            refine r_top (y := nI (40 * R + s1)) (nI_add _ _) ?_
            refine lv_istore (lv' := [(4, .int (nI (40 * R + s1))), (0, .ref (B + 220)), (1, .int (nI R)), (2, .int (nI q)), (3, .int 1)]) C.x C.b dX8_goes_137 hl (by decide) rfl (fun ls hl => ?_)
            refine lv_aload_n C.x C.b dX8_goes_139 rfl (lv_at hl 1 rfl) ?_
            refine r_get ck8 flX8_32 C hS (by omega) e_108 (by decide) rfl dX8_goes_140 ?_
            refine lv_iload_n C.x C.b dX8_goes_143 rfl (lv_at hl 2 rfl) ?_
            refine lv_aload_n C.x C.b dX8_goes_144 rfl (lv_at hl 1 rfl) ?_
            refine r_get ck8 flX8_32 C hS (by omega) e_108 (by decide) rfl dX8_goes_145 ?_
            refine lv_iload_n C.x C.b dX8_goes_148 rfl (lv_at hl 2 rfl) ?_
            refine r_ialdN R rfl (by omega) (by decide) C hS (by omega) l226 dX8_goes_149 ?_
            refine r_top (y := nI s1) (pk_us) ?_
            refine lv_iconst (v := 1) C.x C.b dX8_goes_150 (by decide) ?_
            refine lv_iadd C.x C.b dX8_goes_151 ?_
            refine r_top (y := nI (s1 + 1)) (nI_1 s1) ?_
            refine r_iastN R rfl (by omega) (by decide) C hS (by omega) l226 dX8_goes_152 (fun g_115 H locs e_116 o_117 hS => ?_)
            replace e_116 : g_115 226 = .inl (t.1, 256, .inl (upd (upd st R (nI s1)) R (nI (s1 + 1)))) := e_116
            have e_118 : g_115 226 = .inl (t.1, 256, .inl (upd st R (nI (s1 + 1)))) := by rw [← upd_upd st R (nI s1)]; exact e_116
            refine lv_aload_n C.x C.b dX8_goes_153 rfl (lv_at hl 1 rfl) ?_
            have e_119 : g_115 220 = .inr (8, [.int td, .int (nI n), .ref (B + 221), .ref (B + 222), .ref (B + 223), .int ey, .int wi, .int ev, .ref (B + 224), .ref (B + 225), .ref (B + 226), .ref (B + 227), .ref (B + 228), .ref (B + 229), .ref (B + 230), .ref (B + 231), .ref (B + 232), .ref (B + 233), .ref (B + 234), .ref (B + 235), .ref (B + 236), .int po, .int ps]) := (o_117 _ (by omega)).trans e_108
            refine r_get ck8 flX8_42 C hS (by omega) e_119 (by decide) rfl dX8_goes_154 ?_
            refine lv_iload C.x C.b dX8_goes_157 (lv_at hl 0 rfl) ?_
            refine lv_iload_n C.x C.b dX8_goes_159 rfl (lv_at hl 3 rfl) ?_
            have e_120 : g_115 229 = .inl (t.1, 10240, .inl pl1) := (o_117 _ (by omega)).trans l229
            refine r_iastN (40 * R + s1) rfl (by omega) (by decide) C hS (by omega) e_120 dX8_goes_160 (fun g_121 H locs e_122 o_123 hS => ?_)
            replace e_122 : g_121 229 = .inl (t.1, 10240, .inl (upd pl1 (40 * R + s1) (nI q))) := e_122
            refine lv_aload_n C.x C.b dX8_goes_161 rfl (lv_at hl 1 rfl) ?_
            refine lv_iload C.x C.b dX8_goes_162 (lv_at hl 0 rfl) ?_
            refine lv_iload_n C.x C.b dX8_goes_164 rfl (lv_at hl 3 rfl) ?_
            have e_124 : g_121 220 = .inr (8, [.int td, .int (nI n), .ref (B + 221), .ref (B + 222), .ref (B + 223), .int ey, .int wi, .int ev, .ref (B + 224), .ref (B + 225), .ref (B + 226), .ref (B + 227), .ref (B + 228), .ref (B + 229), .ref (B + 230), .ref (B + 231), .ref (B + 232), .ref (B + 233), .ref (B + 234), .ref (B + 235), .ref (B + 236), .int po, .int ps]) := (o_123 _ (by omega)).trans e_119
            have e_125 : g_1 221 = .inl (t.1, 10, .inl o) := (o_3 _ (by omega)).trans m221
            have e_126 : g_5 221 = .inl (t.1, 10, .inl o) := (o_7 _ (by omega)).trans e_125
            have e_127 : g_9 221 = .inl (t.1, 10, .inl o) := (o_11 _ (by omega)).trans e_126
            have e_128 : g_13 221 = .inl (t.1, 10, .inl o) := (o_15 _ (by omega)).trans e_127
            have e_129 : g_22 221 = .inl (t.1, 10, .inl o) := (hf_21 _ (by omega)).trans e_128
            have e_130 : g_32 221 = .inl (t.1, 10, .inl o) := (o_34 _ (by omega)).trans e_129
            have e_131 : g_42 221 = .inl (t.1, 10, .inl o) := (o_44 _ (by omega)).trans e_130
            have e_132 : gL 221 = .inl (t.1, 10, .inl o) := (hfL _ (by omega)).trans e_131
            have e_133 : g_115 221 = .inl (t.1, 10, .inl o) := (o_117 _ (by omega)).trans e_132
            have e_134 : g_121 221 = .inl (t.1, 10, .inl o) := (o_123 _ (by omega)).trans e_133
            have e_135 : g_115 224 = .inl (t.1, 4, .inl rg1) := (o_117 _ (by omega)).trans l224
            have e_136 : g_121 224 = .inl (t.1, 4, .inl rg1) := (o_123 _ (by omega)).trans e_135
            have e_137 : g_115 225 = .inl (t.1, 8, .inl mm1) := (o_117 _ (by omega)).trans l225
            have e_138 : g_121 225 = .inl (t.1, 8, .inl mm1) := (o_123 _ (by omega)).trans e_137
            have e_139 : g_115 230 = .inl (t.1, 10240, .inl nu1) := (o_117 _ (by omega)).trans l230
            have e_140 : g_121 230 = .inl (t.1, 10240, .inl nu1) := (o_123 _ (by omega)).trans e_139
            have e_141 : g_115 231 = .inl (t.1, 10240, .inl co1) := (o_117 _ (by omega)).trans l231
            have e_142 : g_121 231 = .inl (t.1, 10240, .inl co1) := (o_123 _ (by omega)).trans e_141
            refine r_callV (b := 220) (As := [.int (nI (40 * R + s1)), .int (nI q)]) (rest := []) (c_X8_step l D t B N g_121 _ _ _ _ _ _ _ _ _ _ _ _ (40 * R + s1) q v (by omega) e_124 e_134 e_136 e_138 e_140 e_142 (by omega) (by omega) hv hvl) mf_yX8_step mlX8_83 im_yX8_step se_yX8_step (by decide) C hS (by omega) e_124 (show vwCl[8]? = some _ from rfl) rfl rfl hl.1 rfl (Nat.le_of_ble_eq_true rfl) dX8_goes_165 ⟨Nat.zero_le _, Nat.zero_le _⟩ (fun r_145 g_143 H locs w_144 hS => ?_)
            obtain ⟨er_145, ⟨e_146, e_147, e_148, e_149⟩, hf_150⟩ := w_144
            subst er_145
            refine lv_istore_n (lv' := [(2, .int (nextF (kdF (o q)) (rg1 (aF (o q))) (cF (o q)) (nI q))), (4, .int (nI (40 * R + s1))), (0, .ref (B + 220)), (1, .int (nI R)), (3, .int 1)]) C.x C.b dX8_goes_168 rfl hl (by decide) rfl (fun ls hl => ?_)
            refine lv_iload_n C.x C.b dX8_goes_169 rfl (lv_at hl 0 rfl) ?_
            refine lv_iconst (v := (-1)) C.x C.b dX8_goes_170 (by decide) ?_
            refine lv_icmp_eq (tgt := 178) C.x C.b dX8_goes_171 (by decide) (fun c_151 => ?_) (fun c_151 => ?_)
            · skip
              refine lv_iconst (v := 0) C.x C.b dX8_goes_178 (by decide) ?_
              refine lv_istore_n (lv' := [(3, .int 0), (2, .int (nextF (kdF (o q)) (rg1 (aF (o q))) (cF (o q)) (nI q))), (4, .int (nI (40 * R + s1))), (0, .ref (B + 220)), (1, .int (nI R))]) C.x C.b dX8_goes_179 rfl hl (by decide) rfl (fun ls hl => ?_)
              refine lv_goto (tgt := 86) C.x C.b dX8_goes_180 (by decide) ?_
              refine lv_iload_n C.x C.b dX8_goes_86 rfl (lv_at hl 0 rfl) ?_
              refine lv_if_eq (tgt := 183) C.x C.b dX8_goes_87 (by decide) (fun c_152 => ?_) (fun c_152 => absurd (by decide) c_152)
              refine lv_aload_n C.x C.b dX8_goes_183 rfl (lv_at hl 3 rfl) ?_
              have e_153 : g_143 220 = .inr (8, [.int td, .int (nI n), .ref (B + 221), .ref (B + 222), .ref (B + 223), .int ey, .int wi, .int ev, .ref (B + 224), .ref (B + 225), .ref (B + 226), .ref (B + 227), .ref (B + 228), .ref (B + 229), .ref (B + 230), .ref (B + 231), .ref (B + 232), .ref (B + 233), .ref (B + 234), .ref (B + 235), .ref (B + 236), .int po, .int ps]) := (hf_150 _ (by omega)).trans e_124
              refine r_get ck8 flX8_35 C hS (by omega) e_153 (by decide) rfl dX8_goes_184 ?_
              refine lv_iload_n C.x C.b dX8_goes_187 rfl (lv_at hl 4 rfl) ?_
              refine lv_aload_n C.x C.b dX8_goes_188 rfl (lv_at hl 3 rfl) ?_
              refine r_get ck8 flX8_26 C hS (by omega) e_153 (by decide) rfl dX8_goes_189 ?_
              refine lv_iconst (v := 0) C.x C.b dX8_goes_192 (by decide) ?_
              refine r_ialdN 0 rfl (by omega) (by decide) C hS (by omega) e_146 dX8_goes_193 ?_
              have e_154 : g_1 227 = .inl (t.1, 256, .inl an) := (o_3 _ (by omega)).trans m227
              have e_155 : g_5 227 = .inl (t.1, 256, .inl an) := (o_7 _ (by omega)).trans e_154
              have e_156 : g_9 227 = .inl (t.1, 256, .inl an) := (o_11 _ (by omega)).trans e_155
              have e_157 : g_13 227 = .inl (t.1, 256, .inl an) := (o_15 _ (by omega)).trans e_156
              have e_158 : g_22 227 = .inl (t.1, 256, .inl an) := (hf_21 _ (by omega)).trans e_157
              have e_159 : g_32 227 = .inl (t.1, 256, .inl an) := (o_34 _ (by omega)).trans e_158
              have e_160 : g_42 227 = .inl (t.1, 256, .inl an) := (o_44 _ (by omega)).trans e_159
              have e_161 : gL 227 = .inl (t.1, 256, .inl an) := (hfL _ (by omega)).trans e_160
              have e_162 : g_115 227 = .inl (t.1, 256, .inl an) := (o_117 _ (by omega)).trans e_161
              have e_163 : g_121 227 = .inl (t.1, 256, .inl an) := (o_123 _ (by omega)).trans e_162
              have e_164 : g_143 227 = .inl (t.1, 256, .inl an) := (hf_150 _ (by omega)).trans e_163
              refine r_iastN R rfl (by omega) (by decide) C hS (by omega) e_164 dX8_goes_194 (fun g_165 H locs e_166 o_167 hS => ?_)
              replace e_166 : g_165 227 = .inl (t.1, 256, .inl (upd an R ((workR (kdF (o q)) (aF (o q)) (rg1 (bF (o q))) (cF (o q)) rg1 mm1) 0))) := e_166
              have no_169 : ¬ inP n (nextF (kdF (o q)) (rg1 (aF (o q))) (cF (o q)) (nI q)) := fun q => q.1 (by rw [c_151]; decide)
              have hs_170 : mgo o n R u (mst1 R q (o q) (rg1, mm1, nI q, pl1, nu1, co1, s1)) = (mst1 R q (o q) (rg1, mm1, nI q, pl1, nu1, co1, s1)) := mgo_stop (S := (mst1 R q (o q) (rg1, mm1, nI q, pl1, nu1, co1, s1))) (show ¬ inP n (nextF (kdF (o q)) (rg1 (aF (o q))) (cF (o q)) (nI q)) from no_169)
              have hg_168 := hs_170.symm.trans ((mgo_step hq).symm.trans hG)
              replace hg_168 : (mgo o n R 40 (rgM rg R, cpF w mm 8, 0, pl, nu, co, 0)) = ((workR (kdF (o q)) (aF (o q)) (rg1 (bF (o q))) (cF (o q)) rg1 mm1), (workM (kdF (o q)) (aF (o q)) (rg1 (bF (o q))) rg1 mm1), (nextF (kdF (o q)) (rg1 (aF (o q))) (cF (o q)) (nI q)), (upd pl1 (40 * R + s1) (nI q)), (upd nu1 (40 * R + s1) (numF (kdF (o q)) (rg1 (aF (o q))) (rg1 (bF (o q))))), (upd co1 (40 * R + s1) (cosM (kdF (o q)) (rg1 (bF (o q))))), (s1 + 1)) := hg_168.symm
              have e_171 : g_165 224 = .inl (t.1, 4, .inl (workR (kdF (o q)) (aF (o q)) (rg1 (bF (o q))) (cF (o q)) rg1 mm1)) := (o_167 _ (by omega)).trans e_146
              have e_172 : g_165 225 = .inl (t.1, 8, .inl (workM (kdF (o q)) (aF (o q)) (rg1 (bF (o q))) rg1 mm1)) := (o_167 _ (by omega)).trans e_147
              have e_173 : g_121 226 = .inl (t.1, 256, .inl (upd st R (nI (s1 + 1)))) := (o_123 _ (by omega)).trans e_118
              have e_174 : g_143 226 = .inl (t.1, 256, .inl (upd st R (nI (s1 + 1)))) := (hf_150 _ (by omega)).trans e_173
              have e_175 : g_165 226 = .inl (t.1, 256, .inl (upd st R (nI (s1 + 1)))) := (o_167 _ (by omega)).trans e_174
              have e_176 : g_115 228 = .inl (t.2.1, 256, .inl (upd sp R 0)) := (o_117 _ (by omega)).trans l228
              have e_177 : g_121 228 = .inl (t.2.1, 256, .inl (upd sp R 0)) := (o_123 _ (by omega)).trans e_176
              have e_178 : g_143 228 = .inl (t.2.1, 256, .inl (upd sp R 0)) := (hf_150 _ (by omega)).trans e_177
              have e_179 : g_165 228 = .inl (t.2.1, 256, .inl (upd sp R 0)) := (o_167 _ (by omega)).trans e_178
              have e_180 : g_143 229 = .inl (t.1, 10240, .inl (upd pl1 (40 * R + s1) (nI q))) := (hf_150 _ (by omega)).trans e_122
              have e_181 : g_165 229 = .inl (t.1, 10240, .inl (upd pl1 (40 * R + s1) (nI q))) := (o_167 _ (by omega)).trans e_180
              have e_182 : g_165 230 = .inl (t.1, 10240, .inl (upd nu1 (40 * R + s1) (numF (kdF (o q)) (rg1 (aF (o q))) (rg1 (bF (o q)))))) := (o_167 _ (by omega)).trans e_148
              have e_183 : g_165 231 = .inl (t.1, 10240, .inl (upd co1 (40 * R + s1) (cosM (kdF (o q)) (rg1 (bF (o q)))))) := (o_167 _ (by omega)).trans e_149
              exact r_vret C hr hlocks hS ⟨⟨by rw [hg_168]; exact e_171, by rw [hg_168]; exact e_172, by rw [hg_168]; exact e_175, by rw [hg_168]; exact e_166, by rw [hg_168]; show _ = Sum.inl (t.2.1, 256, Sum.inl (upd sp R (bz (inP n (nextF (kdF (o q)) (rg1 (aF (o q))) (cF (o q)) (nI q)))))); rw [bz_f no_169]; exact e_179, by rw [hg_168]; exact e_181, by rw [hg_168]; exact e_182, by rw [hg_168]; exact e_183⟩, fun j hj => (o_167 j (by omega)).trans ((hf_150 j (by omega)).trans ((o_123 j (by omega)).trans ((o_117 j (by omega)).trans ((hfL j (by omega)).trans ((o_44 j (by omega)).trans ((o_34 j (by omega)).trans ((hf_21 j (by omega)).trans ((o_15 j (by omega)).trans ((o_11 j (by omega)).trans ((o_7 j (by omega)).trans (o_3 j (by omega))))))))))))⟩ dX8_goes_195
            · skip
              refine lv_iconst (v := 1) C.x C.b dX8_goes_174 (by decide) ?_
              refine lv_goto (tgt := 179) C.x C.b dX8_goes_175 (by decide) ?_
              refine lv_istore_n (lv' := [(3, .int 1), (2, .int (nextF (kdF (o q)) (rg1 (aF (o q))) (cF (o q)) (nI q))), (4, .int (nI (40 * R + s1))), (0, .ref (B + 220)), (1, .int (nI R))]) C.x C.b dX8_goes_179 rfl hl (by decide) rfl (fun ls hl => ?_)
              refine lv_goto (tgt := 86) C.x C.b dX8_goes_180 (by decide) ?_
              have e_184 : g_121 226 = .inl (t.1, 256, .inl (upd st R (nI (s1 + 1)))) := (o_123 _ (by omega)).trans e_118
              have e_185 : g_143 226 = .inl (t.1, 256, .inl (upd st R (nI (s1 + 1)))) := (hf_150 _ (by omega)).trans e_184
              have e_186 : g_115 228 = .inl (t.2.1, 256, .inl (upd sp R 0)) := (o_117 _ (by omega)).trans l228
              have e_187 : g_121 228 = .inl (t.2.1, 256, .inl (upd sp R 0)) := (o_123 _ (by omega)).trans e_186
              have e_188 : g_143 228 = .inl (t.2.1, 256, .inl (upd sp R 0)) := (hf_150 _ (by omega)).trans e_187
              have e_189 : g_143 229 = .inl (t.1, 10240, .inl (upd pl1 (40 * R + s1) (nI q))) := (hf_150 _ (by omega)).trans e_122
              exact ih (s1 + 1) _ _ _ _ _ _ g_143 _ _ _ (by omega) ((mgo_step hq).symm.trans hG) e_146 e_147 e_185 e_188 e_189 e_148 e_149 (fun j hj => (hf_150 j (by omega)).trans ((o_123 j (by omega)).trans ((o_117 j (by omega)).trans (hfL j hj)))) hS (lv_sub hl [3, 4, 1, 0] rfl)
          · rw [bz_f b_112] at er_111
            subst er_111
            refine lv_if_ne (tgt := 103) C.x C.b dX8_goes_95 (by decide) (fun c_190 => absurd (by decide) c_190) (fun c_190 => ?_)
            refine lv_iconst (v := 0) C.x C.b dX8_goes_98 (by decide) ?_
            refine lv_istore_n (lv' := [(3, .int 0), (0, .ref (B + 220)), (1, .int (nI R)), (2, .int p1)]) C.x C.b dX8_goes_99 rfl hl (by decide) rfl (fun ls hl => ?_)
            refine lv_goto (tgt := 86) C.x C.b dX8_goes_100 (by decide) ?_
            refine lv_iload_n C.x C.b dX8_goes_86 rfl (lv_at hl 0 rfl) ?_
            refine lv_if_eq (tgt := 183) C.x C.b dX8_goes_87 (by decide) (fun c_191 => ?_) (fun c_191 => absurd (by decide) c_191)
            refine lv_aload_n C.x C.b dX8_goes_183 rfl (lv_at hl 1 rfl) ?_
            refine r_get ck8 flX8_35 C hS (by omega) e_108 (by decide) rfl dX8_goes_184 ?_
            refine lv_iload_n C.x C.b dX8_goes_187 rfl (lv_at hl 2 rfl) ?_
            refine lv_aload_n C.x C.b dX8_goes_188 rfl (lv_at hl 1 rfl) ?_
            refine r_get ck8 flX8_26 C hS (by omega) e_108 (by decide) rfl dX8_goes_189 ?_
            refine lv_iconst (v := 0) C.x C.b dX8_goes_192 (by decide) ?_
            refine r_ialdN 0 rfl (by omega) (by decide) C hS (by omega) l224 dX8_goes_193 ?_
            have e_192 : g_1 227 = .inl (t.1, 256, .inl an) := (o_3 _ (by omega)).trans m227
            have e_193 : g_5 227 = .inl (t.1, 256, .inl an) := (o_7 _ (by omega)).trans e_192
            have e_194 : g_9 227 = .inl (t.1, 256, .inl an) := (o_11 _ (by omega)).trans e_193
            have e_195 : g_13 227 = .inl (t.1, 256, .inl an) := (o_15 _ (by omega)).trans e_194
            have e_196 : g_22 227 = .inl (t.1, 256, .inl an) := (hf_21 _ (by omega)).trans e_195
            have e_197 : g_32 227 = .inl (t.1, 256, .inl an) := (o_34 _ (by omega)).trans e_196
            have e_198 : g_42 227 = .inl (t.1, 256, .inl an) := (o_44 _ (by omega)).trans e_197
            have e_199 : gL 227 = .inl (t.1, 256, .inl an) := (hfL _ (by omega)).trans e_198
            refine r_iastN R rfl (by omega) (by decide) C hS (by omega) e_199 dX8_goes_194 (fun g_200 H locs e_201 o_202 hS => ?_)
            replace e_201 : g_200 227 = .inl (t.1, 256, .inl (upd an R (rg1 0))) := e_201
            have hg_203 := (mgo_stop (S := (rg1, mm1, p1, pl1, nu1, co1, s1)) b_112).symm.trans hG
            replace hg_203 : (mgo o n R 40 (rgM rg R, cpF w mm 8, 0, pl, nu, co, 0)) = (rg1, mm1, p1, pl1, nu1, co1, s1) := hg_203.symm
            have e_204 : g_200 224 = .inl (t.1, 4, .inl rg1) := (o_202 _ (by omega)).trans l224
            have e_205 : g_200 225 = .inl (t.1, 8, .inl mm1) := (o_202 _ (by omega)).trans l225
            have e_206 : g_200 226 = .inl (t.1, 256, .inl (upd st R (nI s1))) := (o_202 _ (by omega)).trans l226
            have e_207 : g_200 228 = .inl (t.2.1, 256, .inl (upd sp R 0)) := (o_202 _ (by omega)).trans l228
            have e_208 : g_200 229 = .inl (t.1, 10240, .inl pl1) := (o_202 _ (by omega)).trans l229
            have e_209 : g_200 230 = .inl (t.1, 10240, .inl nu1) := (o_202 _ (by omega)).trans l230
            have e_210 : g_200 231 = .inl (t.1, 10240, .inl co1) := (o_202 _ (by omega)).trans l231
            exact r_vret C hr hlocks hS ⟨⟨by rw [hg_203]; exact e_204, by rw [hg_203]; exact e_205, by rw [hg_203]; exact e_206, by rw [hg_203]; exact e_201, by rw [hg_203]; show _ = Sum.inl (t.2.1, 256, Sum.inl (upd sp R (bz (inP n p1)))); rw [bz_f b_112]; exact e_207, by rw [hg_203]; exact e_208, by rw [hg_203]; exact e_209, by rw [hg_203]; exact e_210⟩, fun j hj => (o_202 j (by omega)).trans ((hfL j (by omega)).trans ((o_44 j (by omega)).trans ((o_34 j (by omega)).trans ((hf_21 j (by omega)).trans ((o_15 j (by omega)).trans ((o_11 j (by omega)).trans ((o_7 j (by omega)).trans (o_3 j (by omega)))))))))⟩ dX8_goes_195
      have e_211 : g_22 224 = .inl (t.1, 4, .inl (upd (upd (upd (upd rg 0 (nI (R / 16 % 4))) 1 (nI (R / 64))) 2 (nI (R % 4))) 3 (nI (R / 4 % 4)))) := (hf_21 _ (by omega)).trans e_14
      have e_212 : g_32 224 = .inl (t.1, 4, .inl (upd (upd (upd (upd rg 0 (nI (R / 16 % 4))) 1 (nI (R / 64))) 2 (nI (R % 4))) 3 (nI (R / 4 % 4)))) := (o_34 _ (by omega)).trans e_211
      have e_213 : g_42 224 = .inl (t.1, 4, .inl (upd (upd (upd (upd rg 0 (nI (R / 16 % 4))) 1 (nI (R / 64))) 2 (nI (R % 4))) 3 (nI (R / 4 % 4)))) := (o_44 _ (by omega)).trans e_212
      have e_214 : g_32 225 = .inl (t.1, 8, .inl (cpF w mm 8)) := (o_34 _ (by omega)).trans e_23
      have e_215 : g_42 225 = .inl (t.1, 8, .inl (cpF w mm 8)) := (o_44 _ (by omega)).trans e_214
      have e_216 : g_42 226 = .inl (t.1, 256, .inl (upd st R 0)) := (o_44 _ (by omega)).trans e_33
      have e_217 : g_1 229 = .inl (t.1, 10240, .inl pl) := (o_3 _ (by omega)).trans m229
      have e_218 : g_5 229 = .inl (t.1, 10240, .inl pl) := (o_7 _ (by omega)).trans e_217
      have e_219 : g_9 229 = .inl (t.1, 10240, .inl pl) := (o_11 _ (by omega)).trans e_218
      have e_220 : g_13 229 = .inl (t.1, 10240, .inl pl) := (o_15 _ (by omega)).trans e_219
      have e_221 : g_22 229 = .inl (t.1, 10240, .inl pl) := (hf_21 _ (by omega)).trans e_220
      have e_222 : g_32 229 = .inl (t.1, 10240, .inl pl) := (o_34 _ (by omega)).trans e_221
      have e_223 : g_42 229 = .inl (t.1, 10240, .inl pl) := (o_44 _ (by omega)).trans e_222
      have e_224 : g_1 230 = .inl (t.1, 10240, .inl nu) := (o_3 _ (by omega)).trans m230
      have e_225 : g_5 230 = .inl (t.1, 10240, .inl nu) := (o_7 _ (by omega)).trans e_224
      have e_226 : g_9 230 = .inl (t.1, 10240, .inl nu) := (o_11 _ (by omega)).trans e_225
      have e_227 : g_13 230 = .inl (t.1, 10240, .inl nu) := (o_15 _ (by omega)).trans e_226
      have e_228 : g_22 230 = .inl (t.1, 10240, .inl nu) := (hf_21 _ (by omega)).trans e_227
      have e_229 : g_32 230 = .inl (t.1, 10240, .inl nu) := (o_34 _ (by omega)).trans e_228
      have e_230 : g_42 230 = .inl (t.1, 10240, .inl nu) := (o_44 _ (by omega)).trans e_229
      have e_231 : g_1 231 = .inl (t.1, 10240, .inl co) := (o_3 _ (by omega)).trans m231
      have e_232 : g_5 231 = .inl (t.1, 10240, .inl co) := (o_7 _ (by omega)).trans e_231
      have e_233 : g_9 231 = .inl (t.1, 10240, .inl co) := (o_11 _ (by omega)).trans e_232
      have e_234 : g_13 231 = .inl (t.1, 10240, .inl co) := (o_15 _ (by omega)).trans e_233
      have e_235 : g_22 231 = .inl (t.1, 10240, .inl co) := (hf_21 _ (by omega)).trans e_234
      have e_236 : g_32 231 = .inl (t.1, 10240, .inl co) := (o_34 _ (by omega)).trans e_235
      have e_237 : g_42 231 = .inl (t.1, 10240, .inl co) := (o_44 _ (by omega)).trans e_236
      exact lp 40 0 _ _ _ _ _ _ g_42 _ _ _ (by omega) rfl e_213 e_215 e_216 e_43 e_223 e_230 e_237 (fun _ _ => rfl) hS (lv_sub hl [2, 3, 1, 0] rfl)
    | succ u_17 ih_20 =>
      intro k_18 g_22 H locs ls hk_19 e_23 hf_21 hS hl
      refine lv_iload_n C.x C.b dX8_goes_44 rfl (lv_at hl 2 rfl) ?_
      refine lv_bipush (v := 8) C.x C.b dX8_goes_45 (by decide) ?_
      refine lv_icmp_ge (tgt := 68) C.x C.b dX8_goes_47 (by decide) (fun c_238 => absurd c_238 (nI_ge (a := k_18) (b := 8) (by omega) (by decide))) (fun c_238 => ?_)
      refine lv_aload_n C.x C.b dX8_goes_50 rfl (lv_at hl 0 rfl) ?_
      have e_239 : g_13 220 = .inr (8, [.int td, .int (nI n), .ref (B + 221), .ref (B + 222), .ref (B + 223), .int ey, .int wi, .int ev, .ref (B + 224), .ref (B + 225), .ref (B + 226), .ref (B + 227), .ref (B + 228), .ref (B + 229), .ref (B + 230), .ref (B + 231), .ref (B + 232), .ref (B + 233), .ref (B + 234), .ref (B + 235), .ref (B + 236), .int po, .int ps]) := (o_15 _ (by omega)).trans e_12
      have e_240 : g_22 220 = .inr (8, [.int td, .int (nI n), .ref (B + 221), .ref (B + 222), .ref (B + 223), .int ey, .int wi, .int ev, .ref (B + 224), .ref (B + 225), .ref (B + 226), .ref (B + 227), .ref (B + 228), .ref (B + 229), .ref (B + 230), .ref (B + 231), .ref (B + 232), .ref (B + 233), .ref (B + 234), .ref (B + 235), .ref (B + 236), .int po, .int ps]) := (hf_21 _ (by omega)).trans e_239
      refine r_get ck8 flX8_29 C hS (by omega) e_240 (by decide) rfl dX8_goes_51 ?_
      refine lv_iload_n C.x C.b dX8_goes_54 rfl (lv_at hl 2 rfl) ?_
      refine lv_aload_n C.x C.b dX8_goes_55 rfl (lv_at hl 0 rfl) ?_
      refine r_get ck8 flX8_16 C hS (by omega) e_240 (by decide) rfl dX8_goes_56 ?_
      refine lv_iload_n C.x C.b dX8_goes_59 rfl (lv_at hl 2 rfl) ?_
      have e_241 : g_1 223 = .inl (t.1, 8, .inl w) := (o_3 _ (by omega)).trans m223
      have e_242 : g_5 223 = .inl (t.1, 8, .inl w) := (o_7 _ (by omega)).trans e_241
      have e_243 : g_9 223 = .inl (t.1, 8, .inl w) := (o_11 _ (by omega)).trans e_242
      have e_244 : g_13 223 = .inl (t.1, 8, .inl w) := (o_15 _ (by omega)).trans e_243
      have e_245 : g_22 223 = .inl (t.1, 8, .inl w) := (hf_21 _ (by omega)).trans e_244
      refine r_ialdN k_18 rfl (by omega) (by decide) C hS (by omega) e_245 dX8_goes_60 ?_
      refine r_iastN k_18 rfl (by omega) (by decide) C hS (by omega) e_23 dX8_goes_61 (fun g_246 H locs e_247 o_248 hS => ?_)
      replace e_247 : g_246 225 = .inl (t.1, 8, .inl (upd (cpF w mm k_18) k_18 (w k_18))) := e_247
      refine lv_iinc (v := nI (k_18 + 1)) (lv' := [(2, .int (nI (k_18 + 1))), (0, .ref (B + 220)), (1, .int (nI R))]) C.x C.b dX8_goes_62 hl (k := 2) rfl (nI_1 k_18) (by decide) rfl (fun ls hl => ?_)
      refine lv_goto (tgt := 44) C.x C.b dX8_goes_65 (by decide) ?_
      exact ih_20 (k_18 + 1) g_246 _ _ _ (by omega) e_247 (fun j hj => (o_248 j (by omega)).trans (hf_21 j hj)) hS (lv_sub hl [1, 2, 0] rfl)
  have e_249 : g_1 225 = .inl (t.1, 8, .inl mm) := (o_3 _ (by omega)).trans m225
  have e_250 : g_5 225 = .inl (t.1, 8, .inl mm) := (o_7 _ (by omega)).trans e_249
  have e_251 : g_9 225 = .inl (t.1, 8, .inl mm) := (o_11 _ (by omega)).trans e_250
  have e_252 : g_13 225 = .inl (t.1, 8, .inl mm) := (o_15 _ (by omega)).trans e_251
  exact lp_16 8 0 g_13 _ _ _ (by omega) e_252 (fun _ _ => rfl) hS (lv_sub hl [1, 2, 0] rfl)
