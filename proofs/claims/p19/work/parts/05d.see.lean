abbrev MT : Type := (Nat → Int32) × (Nat → Int32) × (Nat → Int32) × (Nat → Int32) × (Nat → Int32) × (Nat → Int32) × (Nat → Int32) × (Nat → Int32)
/-- one run of the model over its rows -/
noncomputable def mg1 (o : Nat → Int32) (n : Nat) (w : Nat → Int32) (R : Nat) (T : MT) : MT :=
  ((mgo o n R 40 (rgM T.1 R, cpF w T.2.1 8, 0, T.2.2.2.2.2.1, T.2.2.2.2.2.2.1, T.2.2.2.2.2.2.2, 0)).1, (mgo o n R 40 (rgM T.1 R, cpF w T.2.1 8, 0, T.2.2.2.2.2.1, T.2.2.2.2.2.2.1, T.2.2.2.2.2.2.2, 0)).2.1, upd T.2.2.1 R (nI (mgo o n R 40 (rgM T.1 R, cpF w T.2.1 8, 0, T.2.2.2.2.2.1, T.2.2.2.2.2.2.1, T.2.2.2.2.2.2.2, 0)).2.2.2.2.2.2), upd T.2.2.2.1 R ((mgo o n R 40 (rgM T.1 R, cpF w T.2.1 8, 0, T.2.2.2.2.2.1, T.2.2.2.2.2.2.1, T.2.2.2.2.2.2.2, 0)).1 0), upd T.2.2.2.2.1 R (bz (inP n (mgo o n R 40 (rgM T.1 R, cpF w T.2.1 8, 0, T.2.2.2.2.2.1, T.2.2.2.2.2.2.1, T.2.2.2.2.2.2.2, 0)).2.2.1)), (mgo o n R 40 (rgM T.1 R, cpF w T.2.1 8, 0, T.2.2.2.2.2.1, T.2.2.2.2.2.2.1, T.2.2.2.2.2.2.2, 0)).2.2.2.1, (mgo o n R 40 (rgM T.1 R, cpF w T.2.1 8, 0, T.2.2.2.2.2.1, T.2.2.2.2.2.2.1, T.2.2.2.2.2.2.2, 0)).2.2.2.2.1, (mgo o n R 40 (rgM T.1 R, cpF w T.2.1 8, 0, T.2.2.2.2.2.1, T.2.2.2.2.2.2.1, T.2.2.2.2.2.2.2, 0)).2.2.2.2.2.1)
noncomputable def mAll (o : Nat → Int32) (n : Nat) (w : Nat → Int32) : Nat → MT → MT
  | 0, T => T
  | k + 1, T => mg1 o n w k (mAll o n w k T)
def okPl (pl : Nat → Int32) : Prop := ∀ k, k < 10240 → ∃ h, h < 8 ∧ pl k = nI h
def kA (o pl : Nat → Int32) (k : Nat) : Int32 := o (pl k).toNatClampNeg / 4096
theorem kA_eq {o pl : Nat → Int32} {k h : Nat} (hp : pl k = nI h) (hh : h < 2 ^ 31) : kA o pl k = o h / 4096 := by
  unfold kA
  rw [hp, nI_clamp hh]
/-- the cost of run R's first q steps, x even -/
def cosE (o pl co : Nat → Int32) (x : Int32) (R : Nat) : Nat → Int32
  | 0 => 0
  | q + 1 => cosE o pl co x R q + if ((x >>> (pl (40 * R + q) &&& 31)) &&& 1) = 1 ∧ kA o pl (40 * R + q) = 4 then 33 else co (40 * R + q)
set_option maxHeartbeats 1000000 in
set_option maxRecDepth 100000 in
theorem c_X8_goAll (l : Launch) (D : va_G) (t : Gx) (B N : Nat) (g : Nat → va_E) (td : Int32) (n : Nat) (ey wi ev po ps : Int32) (o : Nat → Int32) (w : Nat → Int32) (rg : Nat → Int32) (mm : Nat → Int32) (st : Nat → Int32) (an : Nat → Int32) (sp : Nat → Int32) (pl : Nat → Int32) (nu : Nat → Int32) (co : Nat → Int32) (hN : 236 < N) (m220 : g 220 = mObj B td n ey wi ev po ps) (m221 : g 221 = .inl (t.1, 10, .inl o)) (m223 : g 223 = .inl (t.1, 8, .inl w)) (m224 : g 224 = .inl (t.1, 4, .inl rg)) (m225 : g 225 = .inl (t.1, 8, .inl mm)) (m226 : g 226 = .inl (t.1, 256, .inl st)) (m227 : g 227 = .inl (t.1, 256, .inl an)) (m228 : g 228 = .inl (t.2.1, 256, .inl sp)) (m229 : g 229 = .inl (t.1, 10240, .inl pl)) (m230 : g 230 = .inl (t.1, 10240, .inl nu)) (m231 : g 231 = .inl (t.1, 10240, .inl co)) (hn : n ≤ 8) (hO : okO o) : Cv l D t B N N 0 0 yX8_goAll cX8_goAll 2 3 74 g [.ref (B + 220)] (fun g' => (g' 224 = .inl (t.1, 4, .inl ((mAll o n w 256 (rg, mm, st, an, sp, pl, nu, co)).1)) ∧ g' 225 = .inl (t.1, 8, .inl ((mAll o n w 256 (rg, mm, st, an, sp, pl, nu, co)).2.1)) ∧ g' 226 = .inl (t.1, 256, .inl ((mAll o n w 256 (rg, mm, st, an, sp, pl, nu, co)).2.2.1)) ∧ g' 227 = .inl (t.1, 256, .inl ((mAll o n w 256 (rg, mm, st, an, sp, pl, nu, co)).2.2.2.1)) ∧ g' 228 = .inl (t.2.1, 256, .inl ((mAll o n w 256 (rg, mm, st, an, sp, pl, nu, co)).2.2.2.2.1)) ∧ g' 229 = .inl (t.1, 10240, .inl ((mAll o n w 256 (rg, mm, st, an, sp, pl, nu, co)).2.2.2.2.2.1)) ∧ g' 230 = .inl (t.1, 10240, .inl ((mAll o n w 256 (rg, mm, st, an, sp, pl, nu, co)).2.2.2.2.2.2.1)) ∧ g' 231 = .inl (t.1, 10240, .inl ((mAll o n w 256 (rg, mm, st, an, sp, pl, nu, co)).2.2.2.2.2.2.2))) ∧ ∀ j, (j < 224 ∨ 231 < j) → g' j = g j) := by
  refine Cv.start (by decide) (Nat.le_of_ble_eq_true rfl) ?_
  intro p e s m below meth c ls C hr hlocks hnm hS hl
  replace C : Cx D t p s m [.ref (B + 220)].toArray c cX8_goAll 2 RX8 := C
  replace hl : lv_has ls 2 [(0, .ref (B + 220))] := hl
  replace m220 : g 220 = .inr (8, [.int td, .int (nI n), .ref (B + 221), .ref (B + 222), .ref (B + 223), .int ey, .int wi, .int ev, .ref (B + 224), .ref (B + 225), .ref (B + 226), .ref (B + 227), .ref (B + 228), .ref (B + 229), .ref (B + 230), .ref (B + 231), .ref (B + 232), .ref (B + 233), .ref (B + 234), .ref (B + 235), .ref (B + 236), .int po, .int ps]) := m220
  refine lv_iconst (v := 0) C.x C.b dX8_goAll_0 (by decide) ?_
  refine lv_istore_n (lv' := [(1, .int 0), (0, .ref (B + 220))]) C.x C.b dX8_goAll_1 rfl hl (by decide) rfl (fun ls hl => ?_)
  have lp_1 : ∀ (u_2 k_3 : Nat) (g_7 : Nat → va_E) (H : Heap) (locs : List Loc) (ls : Array Slot), k_3 + u_2 = 256 → (g_7 224 = .inl (t.1, 4, .inl ((mAll o n w k_3 (rg, mm, st, an, sp, pl, nu, co)).1))) → (g_7 225 = .inl (t.1, 8, .inl ((mAll o n w k_3 (rg, mm, st, an, sp, pl, nu, co)).2.1))) → (g_7 226 = .inl (t.1, 256, .inl ((mAll o n w k_3 (rg, mm, st, an, sp, pl, nu, co)).2.2.1))) → (g_7 227 = .inl (t.1, 256, .inl ((mAll o n w k_3 (rg, mm, st, an, sp, pl, nu, co)).2.2.2.1))) → (g_7 228 = .inl (t.2.1, 256, .inl ((mAll o n w k_3 (rg, mm, st, an, sp, pl, nu, co)).2.2.2.2.1))) → (g_7 229 = .inl (t.1, 10240, .inl ((mAll o n w k_3 (rg, mm, st, an, sp, pl, nu, co)).2.2.2.2.2.1))) → (g_7 230 = .inl (t.1, 10240, .inl ((mAll o n w k_3 (rg, mm, st, an, sp, pl, nu, co)).2.2.2.2.2.2.1))) → (g_7 231 = .inl (t.1, 10240, .inl ((mAll o n w k_3 (rg, mm, st, an, sp, pl, nu, co)).2.2.2.2.2.2.2))) → (∀ j, (j < 224 ∨ 231 < j) → g_7 j = g j) → St D B s.heap N g_7 H locs → lv_has ls 2 [(0, .ref (B + 220)), (1, .int (nI k_3))] → W p l e (rmOf 3 74 0 0) s m [.ref (B + 220)].toArray below meth c H locs 0 0 (MQ below (qV D B N (fun g' => (g' 224 = .inl (t.1, 4, .inl ((mAll o n w 256 (rg, mm, st, an, sp, pl, nu, co)).1)) ∧ g' 225 = .inl (t.1, 8, .inl ((mAll o n w 256 (rg, mm, st, an, sp, pl, nu, co)).2.1)) ∧ g' 226 = .inl (t.1, 256, .inl ((mAll o n w 256 (rg, mm, st, an, sp, pl, nu, co)).2.2.1)) ∧ g' 227 = .inl (t.1, 256, .inl ((mAll o n w 256 (rg, mm, st, an, sp, pl, nu, co)).2.2.2.1)) ∧ g' 228 = .inl (t.2.1, 256, .inl ((mAll o n w 256 (rg, mm, st, an, sp, pl, nu, co)).2.2.2.2.1)) ∧ g' 229 = .inl (t.1, 10240, .inl ((mAll o n w 256 (rg, mm, st, an, sp, pl, nu, co)).2.2.2.2.2.1)) ∧ g' 230 = .inl (t.1, 10240, .inl ((mAll o n w 256 (rg, mm, st, an, sp, pl, nu, co)).2.2.2.2.2.2.1)) ∧ g' 231 = .inl (t.1, 10240, .inl ((mAll o n w 256 (rg, mm, st, an, sp, pl, nu, co)).2.2.2.2.2.2.2))) ∧ ∀ j, (j < 224 ∨ 231 < j) → g' j = g j)) [.ref (B + 220)].toArray s 0 0 (fun q => B ≤ q)) (F0 m 2 ls []) := by
    intro u_2
    induction u_2 with
    | zero =>
      intro k_3 g_7 H locs ls hk_4 e_8 e_9 e_10 e_11 e_12 e_13 e_14 e_15 hf_6 hS hl
      obtain rfl : 256 = k_3 := by omega
      refine lv_iload_n C.x C.b dX8_goAll_2 rfl (lv_at hl 1 rfl) ?_
      refine lv_sipush (v := 256) C.x C.b dX8_goAll_3 (by decide) ?_
      refine lv_icmp_ge (tgt := 20) C.x C.b dX8_goAll_6 (by decide) (fun c_16 => ?_) (fun c_16 => absurd (by decide) c_16)
      exact r_vret C hr hlocks hS ⟨⟨e_8, e_9, e_10, e_11, e_12, e_13, e_14, e_15⟩, fun j hj => (hf_6 j (by omega))⟩ dX8_goAll_20
    | succ u_2 ih_5 =>
      intro k_3 g_7 H locs ls hk_4 e_8 e_9 e_10 e_11 e_12 e_13 e_14 e_15 hf_6 hS hl
      refine lv_iload_n C.x C.b dX8_goAll_2 rfl (lv_at hl 1 rfl) ?_
      refine lv_sipush (v := 256) C.x C.b dX8_goAll_3 (by decide) ?_
      refine lv_icmp_ge (tgt := 20) C.x C.b dX8_goAll_6 (by decide) (fun c_17 => absurd c_17 (nI_ge (a := k_3) (b := 256) (by omega) (by decide))) (fun c_17 => ?_)
      refine lv_aload_n C.x C.b dX8_goAll_9 rfl (lv_at hl 0 rfl) ?_
      refine lv_iload_n C.x C.b dX8_goAll_10 rfl (lv_at hl 1 rfl) ?_
      have e_18 : g_7 220 = .inr (8, [.int td, .int (nI n), .ref (B + 221), .ref (B + 222), .ref (B + 223), .int ey, .int wi, .int ev, .ref (B + 224), .ref (B + 225), .ref (B + 226), .ref (B + 227), .ref (B + 228), .ref (B + 229), .ref (B + 230), .ref (B + 231), .ref (B + 232), .ref (B + 233), .ref (B + 234), .ref (B + 235), .ref (B + 236), .int po, .int ps]) := (hf_6 _ (by omega)).trans m220
      have e_19 : g_7 221 = .inl (t.1, 10, .inl o) := (hf_6 _ (by omega)).trans m221
      have e_20 : g_7 223 = .inl (t.1, 8, .inl w) := (hf_6 _ (by omega)).trans m223
      refine r_callVv (b := 220) (As := [.int (nI k_3)]) (rest := []) (c_X8_goes l D t B N g_7 _ _ _ _ _ _ _ _ _ _ _ _ _ _ _ _ _ k_3 (by omega) e_18 e_19 e_20 e_8 e_9 e_10 e_11 e_12 e_13 e_14 e_15 (by omega) (by omega) hO) mf_yX8_goes mlX8_91 im_yX8_goes se_yX8_goes (by decide) C hS (by omega) e_18 (show vwCl[8]? = some _ from rfl) rfl rfl hl.1 rfl (Nat.le_of_ble_eq_true rfl) dX8_goAll_11 ⟨Nat.zero_le _, Nat.zero_le _⟩ (fun g_21 H locs w_22 hS => ?_)
      obtain ⟨⟨e_24, e_25, e_26, e_27, e_28, e_29, e_30, e_31⟩, hf_32⟩ := w_22
      refine lv_iinc (v := nI (k_3 + 1)) (lv' := [(1, .int (nI (k_3 + 1))), (0, .ref (B + 220))]) C.x C.b dX8_goAll_14 hl (k := 1) rfl (nI_1 k_3) (by decide) rfl (fun ls hl => ?_)
      refine lv_goto (tgt := 2) C.x C.b dX8_goAll_17 (by decide) ?_
      exact ih_5 (k_3 + 1) g_21 _ _ _ (by omega) e_24 e_25 e_26 e_27 e_28 e_29 e_30 e_31 (fun j hj => (hf_32 j (by omega)).trans (hf_6 j hj)) hS (lv_sub hl [1, 0] rfl)
  exact lp_1 256 0 g _ _ _ (by omega) m224 m225 m226 m227 m228 m229 m230 m231 (fun _ _ => rfl) hS (lv_sub hl [1, 0] rfl)
set_option maxHeartbeats 1000000 in
set_option maxRecDepth 100000 in
theorem c_X8_cost (l : Launch) (D : va_G) (t : Gx) (B N : Nat) (g : Nat → va_E) (td : Int32) (n : Nat) (ey wi ev po ps : Int32) (o : Nat → Int32) (st : Nat → Int32) (pl : Nat → Int32) (co : Nat → Int32) (R s1 : Nat) (x : Int32) (hN : 236 < N) (m220 : g 220 = mObj B td n ey wi ev po ps) (m221 : g 221 = .inl (t.1, 10, .inl o)) (m226 : g 226 = .inl (t.1, 256, .inl st)) (m229 : g 229 = .inl (t.1, 10240, .inl pl)) (m231 : g 231 = .inl (t.1, 10240, .inl co)) (hR : R < 256) (hs : st R = nI s1) (hs1 : s1 ≤ 40) (hPl : okPl pl) : Ci l D t B N yX8_cost cX8_cost 6 (some .int) 1 21 g [.ref (B + 220), .int (nI R), .int x] (fun r g' => g = g' ∧ r = cosE o pl co x R s1) := by
  refine Ci.start (by decide) (Nat.le_of_ble_eq_true rfl) ?_
  intro p e s m below meth c ls C hr hlocks hS hl
  replace C : Cx D t p s m [.ref (B + 220), .int (nI R), .int x].toArray c cX8_cost 6 RX8 := C
  replace hl : lv_has ls 6 [(0, .ref (B + 220)), (1, .int (nI R)), (2, .int x)] := hl
  replace m220 : g 220 = .inr (8, [.int td, .int (nI n), .ref (B + 221), .ref (B + 222), .ref (B + 223), .int ey, .int wi, .int ev, .ref (B + 224), .ref (B + 225), .ref (B + 226), .ref (B + 227), .ref (B + 228), .ref (B + 229), .ref (B + 230), .ref (B + 231), .ref (B + 232), .ref (B + 233), .ref (B + 234), .ref (B + 235), .ref (B + 236), .int po, .int ps]) := m220
  refine lv_iconst (v := 0) C.x C.b dX8_cost_0 (by decide) ?_
  refine lv_istore_n (lv' := [(3, .int 0), (0, .ref (B + 220)), (1, .int (nI R)), (2, .int x)]) C.x C.b dX8_cost_1 rfl hl (by decide) rfl (fun ls hl => ?_)
  refine lv_bipush (v := 40) C.x C.b dX8_cost_2 (by decide) ?_
  refine lv_iload_n C.x C.b dX8_cost_4 rfl (lv_at hl 2 rfl) ?_
  refine lv_imul C.x C.b dX8_cost_5 ?_
  refine r_top (y := nI (40 * R)) (pk_mul 40 R) ?_
  refine lv_istore (lv' := [(4, .int (nI (40 * R))), (3, .int 0), (0, .ref (B + 220)), (1, .int (nI R)), (2, .int x)]) C.x C.b dX8_cost_6 hl (by decide) rfl (fun ls hl => ?_)
  have lp_1 : ∀ (u_2 k_3 : Nat) (H : Heap) (locs : List Loc) (ls : Array Slot), k_3 + u_2 = s1 → St D B s.heap N g H locs → lv_has ls 6 [(0, .ref (B + 220)), (1, .int (nI R)), (2, .int x), (3, .int (cosE o pl co x R k_3)), (4, .int (nI (40 * R + k_3)))] → W p l e (rmOf 1 21 0 0) s m [.ref (B + 220), .int (nI R), .int x].toArray below meth c H locs 0 0 (MQ below (qI D B N (fun r g' => g = g' ∧ r = cosE o pl co x R s1)) [.ref (B + 220), .int (nI R), .int x].toArray s 0 0 (fun q => B ≤ q)) (F0 m 8 ls []) := by
    intro u_2
    induction u_2 with
    | zero =>
      intro k_3 H locs ls hk_4 hS hl
      obtain rfl : s1 = k_3 := by omega
      refine lv_iload C.x C.b dX8_cost_8 (lv_at hl 4 rfl) ?_
      refine lv_bipush (v := 40) C.x C.b dX8_cost_10 (by decide) ?_
      refine lv_iload_n C.x C.b dX8_cost_12 rfl (lv_at hl 1 rfl) ?_
      refine lv_imul C.x C.b dX8_cost_13 ?_
      refine r_top (y := nI (40 * R)) (pk_mul 40 R) ?_
      refine lv_aload_n C.x C.b dX8_cost_14 rfl (lv_at hl 0 rfl) ?_
      refine r_get ck8 flX8_32 C hS (by omega) m220 (by decide) rfl dX8_cost_15 ?_
      refine lv_iload_n C.x C.b dX8_cost_18 rfl (lv_at hl 1 rfl) ?_
      refine r_ialdN R rfl (by omega) (by decide) C hS (by omega) m226 dX8_cost_19 ?_
      refine r_top (y := nI s1) (hs) ?_
      refine lv_iadd C.x C.b dX8_cost_20 ?_
      refine r_top (y := nI (40 * R + s1)) (nI_add _ _) ?_
      refine lv_icmp_ge (tgt := 82) C.x C.b dX8_cost_21 (by decide) (fun c_7 => ?_) (fun c_7 => absurd (nI_le (Nat.le_refl _) (by omega)) c_7)
      refine lv_iload_n C.x C.b dX8_cost_82 rfl (lv_at hl 3 rfl) ?_
      exact r_iret C hr hlocks hS ⟨rfl, rfl⟩ dX8_cost_83
    | succ u_2 ih_5 =>
      intro k_3 H locs ls hk_4 hS hl
      refine lv_iload C.x C.b dX8_cost_8 (lv_at hl 4 rfl) ?_
      refine lv_bipush (v := 40) C.x C.b dX8_cost_10 (by decide) ?_
      refine lv_iload_n C.x C.b dX8_cost_12 rfl (lv_at hl 1 rfl) ?_
      refine lv_imul C.x C.b dX8_cost_13 ?_
      refine r_top (y := nI (40 * R)) (pk_mul 40 R) ?_
      refine lv_aload_n C.x C.b dX8_cost_14 rfl (lv_at hl 0 rfl) ?_
      refine r_get ck8 flX8_32 C hS (by omega) m220 (by decide) rfl dX8_cost_15 ?_
      refine lv_iload_n C.x C.b dX8_cost_18 rfl (lv_at hl 1 rfl) ?_
      refine r_ialdN R rfl (by omega) (by decide) C hS (by omega) m226 dX8_cost_19 ?_
      refine r_top (y := nI s1) (hs) ?_
      refine lv_iadd C.x C.b dX8_cost_20 ?_
      refine r_top (y := nI (40 * R + s1)) (nI_add _ _) ?_
      refine lv_icmp_ge (tgt := 82) C.x C.b dX8_cost_21 (by decide) (fun c_8 => absurd c_8 (nI_ge (a := (40 * R + k_3)) (b := (40 * R + s1)) (by omega) (by omega))) (fun c_8 => ?_)
      refine lv_iload_n C.x C.b dX8_cost_24 rfl (lv_at hl 2 rfl) ?_
      refine lv_aload_n C.x C.b dX8_cost_25 rfl (lv_at hl 0 rfl) ?_
      refine r_get ck8 flX8_42 C hS (by omega) m220 (by decide) rfl dX8_cost_26 ?_
      refine lv_iload C.x C.b dX8_cost_29 (lv_at hl 4 rfl) ?_
      refine r_ialdN (40 * R + k_3) rfl (by omega) (by decide) C hS (by omega) m229 dX8_cost_31 ?_
      refine lv_ishr C.x C.b dX8_cost_32 ?_
      refine lv_iconst (v := 1) C.x C.b dX8_cost_33 (by decide) ?_
      refine lv_iand C.x C.b dX8_cost_34 ?_
      refine lv_iconst (v := 1) C.x C.b dX8_cost_35 (by decide) ?_
      refine lv_icmp_ne (tgt := 43) C.x C.b dX8_cost_36 (by decide) (fun c_9 => ?_) (fun c_9 => ?_)
      · skip
        refine lv_iconst (v := 0) C.x C.b dX8_cost_43 (by decide) ?_
        refine lv_istore (lv' := [(5, .int 0), (0, .ref (B + 220)), (1, .int (nI R)), (2, .int x), (3, .int (cosE o pl co x R k_3)), (4, .int (nI (40 * R + k_3)))]) C.x C.b dX8_cost_44 hl (by decide) rfl (fun ls hl => ?_)
        refine lv_iload_n C.x C.b dX8_cost_46 rfl (lv_at hl 4 rfl) ?_
        refine lv_iload C.x C.b dX8_cost_47 (lv_at hl 0 rfl) ?_
        refine lv_if_eq (tgt := 67) C.x C.b dX8_cost_49 (by decide) (fun c_10 => ?_) (fun c_10 => absurd (by decide) c_10)
        refine lv_aload_n C.x C.b dX8_cost_67 rfl (lv_at hl 1 rfl) ?_
        refine r_get ck8 flX8_48 C hS (by omega) m220 (by decide) rfl dX8_cost_68 ?_
        refine lv_iload C.x C.b dX8_cost_71 (lv_at hl 5 rfl) ?_
        refine r_ialdN (40 * R + k_3) rfl (by omega) (by decide) C hS (by omega) m231 dX8_cost_73 ?_
        refine lv_iadd C.x C.b dX8_cost_74 ?_
        refine lv_istore_n (lv' := [(3, .int ((cosE o pl co x R k_3) + (co (40 * R + k_3)))), (5, .int 0), (0, .ref (B + 220)), (1, .int (nI R)), (2, .int x), (4, .int (nI (40 * R + k_3)))]) C.x C.b dX8_cost_75 rfl hl (by decide) rfl (fun ls hl => ?_)
        refine lv_iinc (v := nI ((40 * R + k_3) + 1)) (lv' := [(4, .int (nI ((40 * R + k_3) + 1))), (3, .int ((cosE o pl co x R k_3) + (co (40 * R + k_3)))), (5, .int 0), (0, .ref (B + 220)), (1, .int (nI R)), (2, .int x)]) C.x C.b dX8_cost_76 hl (k := 5) rfl (nI_1 (40 * R + k_3)) (by decide) rfl (fun ls hl => ?_)
        refine lv_goto (tgt := 8) C.x C.b dX8_cost_79 (by decide) ?_
        have z_11 : cosE o pl co x R (k_3 + 1) = ((cosE o pl co x R k_3) + (co (40 * R + k_3))) := by rw [cosE, if_neg (fun q => c_9 q.1)]
        exact ih_5 (k_3 + 1) _ _ _ (by omega)  hS (by rw [z_11]; exact lv_sub hl [3, 4, 5, 1, 0] rfl)
      · skip
        refine lv_iconst (v := 1) C.x C.b dX8_cost_39 (by decide) ?_
        refine lv_goto (tgt := 44) C.x C.b dX8_cost_40 (by decide) ?_
        refine lv_istore (lv' := [(5, .int 1), (0, .ref (B + 220)), (1, .int (nI R)), (2, .int x), (3, .int (cosE o pl co x R k_3)), (4, .int (nI (40 * R + k_3)))]) C.x C.b dX8_cost_44 hl (by decide) rfl (fun ls hl => ?_)
        refine lv_iload_n C.x C.b dX8_cost_46 rfl (lv_at hl 4 rfl) ?_
        refine lv_iload C.x C.b dX8_cost_47 (lv_at hl 0 rfl) ?_
        refine lv_if_eq (tgt := 67) C.x C.b dX8_cost_49 (by decide) (fun c_12 => absurd c_12 (by decide)) (fun c_12 => ?_)
        obtain ⟨h_13, hh_13, ph_13⟩ := hPl (40 * R + k_3) (by omega)
        refine lv_aload_n C.x C.b dX8_cost_52 rfl (lv_at hl 1 rfl) ?_
        refine lv_iload C.x C.b dX8_cost_53 (lv_at hl 5 rfl) ?_
        refine r_callV (b := 220) (As := [.int (nI (40 * R + k_3))]) (rest := [.int (cosE o pl co x R k_3)]) (c_X8_kindAt l D t B N g _ _ _ _ _ _ _ _ _ (40 * R + k_3) h_13 (by omega) m220 m221 m229 (by omega) (by omega) ph_13) mf_yX8_kindAt mlX8_95 im_yX8_kindAt se_yX8_kindAt (by decide) C hS (by omega) m220 (show vwCl[8]? = some _ from rfl) rfl rfl hl.1 rfl (Nat.le_of_ble_eq_true rfl) dX8_cost_55 ⟨Nat.zero_le _, Nat.zero_le _⟩ (fun r_16 g_14 H locs w_15 hS => ?_)
        obtain ⟨rfl, er_16⟩ := w_15
        subst er_16
        refine r_top (y := (kA o pl (40 * R + k_3))) ((kA_eq ph_13 (by omega)).symm) ?_
        refine lv_iconst (v := 4) C.x C.b dX8_cost_58 (by decide) ?_
        refine lv_icmp_ne (tgt := 67) C.x C.b dX8_cost_59 (by decide) (fun c_17 => ?_) (fun c_17 => ?_)
        · skip
          refine lv_aload_n C.x C.b dX8_cost_67 rfl (lv_at hl 1 rfl) ?_
          refine r_get ck8 flX8_48 C hS (by omega) m220 (by decide) rfl dX8_cost_68 ?_
          refine lv_iload C.x C.b dX8_cost_71 (lv_at hl 5 rfl) ?_
          refine r_ialdN (40 * R + k_3) rfl (by omega) (by decide) C hS (by omega) m231 dX8_cost_73 ?_
          refine lv_iadd C.x C.b dX8_cost_74 ?_
          refine lv_istore_n (lv' := [(3, .int ((cosE o pl co x R k_3) + (co (40 * R + k_3)))), (5, .int 1), (0, .ref (B + 220)), (1, .int (nI R)), (2, .int x), (4, .int (nI (40 * R + k_3)))]) C.x C.b dX8_cost_75 rfl hl (by decide) rfl (fun ls hl => ?_)
          refine lv_iinc (v := nI ((40 * R + k_3) + 1)) (lv' := [(4, .int (nI ((40 * R + k_3) + 1))), (3, .int ((cosE o pl co x R k_3) + (co (40 * R + k_3)))), (5, .int 1), (0, .ref (B + 220)), (1, .int (nI R)), (2, .int x)]) C.x C.b dX8_cost_76 hl (k := 5) rfl (nI_1 (40 * R + k_3)) (by decide) rfl (fun ls hl => ?_)
          refine lv_goto (tgt := 8) C.x C.b dX8_cost_79 (by decide) ?_
          have z_18 : cosE o pl co x R (k_3 + 1) = ((cosE o pl co x R k_3) + (co (40 * R + k_3))) := by rw [cosE, if_neg (fun q => c_17 q.2)]
          exact ih_5 (k_3 + 1) _ _ _ (by omega)  hS (by rw [z_18]; exact lv_sub hl [3, 4, 5, 1, 0] rfl)
        · skip
          refine lv_bipush (v := 33) C.x C.b dX8_cost_62 (by decide) ?_
          refine lv_goto (tgt := 74) C.x C.b dX8_cost_64 (by decide) ?_
          refine lv_iadd C.x C.b dX8_cost_74 ?_
          refine lv_istore_n (lv' := [(3, .int ((cosE o pl co x R k_3) + 33)), (5, .int 1), (0, .ref (B + 220)), (1, .int (nI R)), (2, .int x), (4, .int (nI (40 * R + k_3)))]) C.x C.b dX8_cost_75 rfl hl (by decide) rfl (fun ls hl => ?_)
          refine lv_iinc (v := nI ((40 * R + k_3) + 1)) (lv' := [(4, .int (nI ((40 * R + k_3) + 1))), (3, .int ((cosE o pl co x R k_3) + 33)), (5, .int 1), (0, .ref (B + 220)), (1, .int (nI R)), (2, .int x)]) C.x C.b dX8_cost_76 hl (k := 5) rfl (nI_1 (40 * R + k_3)) (by decide) rfl (fun ls hl => ?_)
          refine lv_goto (tgt := 8) C.x C.b dX8_cost_79 (by decide) ?_
          have z_19 : cosE o pl co x R (k_3 + 1) = ((cosE o pl co x R k_3) + 33) := by rw [cosE, if_pos ⟨c_9, c_17⟩]
          exact ih_5 (k_3 + 1) _ _ _ (by omega)  hS (by rw [z_19]; exact lv_sub hl [3, 4, 5, 1, 0] rfl)
  exact lp_1 s1 0 _ _ _ (by omega)  hS (lv_sub hl [2, 3, 4, 1, 0] rfl)
set_option maxHeartbeats 1000000 in
set_option maxRecDepth 100000 in
theorem c_X8_sees (l : Launch) (D : va_G) (t : Gx) (B N : Nat) (g : Nat → va_E) (td : Int32) (n : Nat) (ey wi ev po ps : Int32) (sm : Nat → Int32) (sw : Nat → Int32) (sn : Nat → Int32) (sq : Nat → Int32) (A c1 : Nat) (x y z : Int32) (hN : 236 < N) (m220 : g 220 = mObj B td n ey wi ev po ps) (m232 : g 232 = .inl (t.1, 2, .inl sm)) (m233 : g 233 = .inl (t.1, 84, .inl sw)) (m234 : g 234 = .inl (t.1, 84, .inl sn)) (m235 : g 235 = .inl (t.1, 84, .inl sq)) (hA : A < 2) (hc : c1 < 42) (hs : sm A = nI c1) : Cv l D t B N N 0 0 yX8_sees cX8_sees 6 0 0 g [.ref (B + 220), .int (nI A), .int x, .int y, .int z] (fun g' => (g' 232 = .inl (t.1, 2, .inl (upd sm A (nI (c1 + 1)))) ∧ g' 233 = .inl (t.1, 84, .inl (upd sw (42 * A + c1) x)) ∧ g' 234 = .inl (t.1, 84, .inl (upd sn (42 * A + c1) y)) ∧ g' 235 = .inl (t.1, 84, .inl (upd sq (42 * A + c1) z))) ∧ ∀ j, (j < 232 ∨ 235 < j) → g' j = g j) := by
  refine Cv.start (by decide) (Nat.le_of_ble_eq_true rfl) ?_
  intro p e s m below meth c ls C hr hlocks hnm hS hl
  replace C : Cx D t p s m [.ref (B + 220), .int (nI A), .int x, .int y, .int z].toArray c cX8_sees 6 RX8 := C
  replace hl : lv_has ls 6 [(0, .ref (B + 220)), (1, .int (nI A)), (2, .int x), (3, .int y), (4, .int z)] := hl
  replace m220 : g 220 = .inr (8, [.int td, .int (nI n), .ref (B + 221), .ref (B + 222), .ref (B + 223), .int ey, .int wi, .int ev, .ref (B + 224), .ref (B + 225), .ref (B + 226), .ref (B + 227), .ref (B + 228), .ref (B + 229), .ref (B + 230), .ref (B + 231), .ref (B + 232), .ref (B + 233), .ref (B + 234), .ref (B + 235), .ref (B + 236), .int po, .int ps]) := m220
  refine lv_bipush (v := 42) C.x C.b dX8_sees_0 (by decide) ?_
  refine lv_iload_n C.x C.b dX8_sees_2 rfl (lv_at hl 1 rfl) ?_
  refine lv_imul C.x C.b dX8_sees_3 ?_
  refine r_top (y := nI (42 * A)) (pk_mul 42 A) ?_
  refine lv_aload_n C.x C.b dX8_sees_4 rfl (lv_at hl 0 rfl) ?_
  refine r_get ck8 flX8_51 C hS (by omega) m220 (by decide) rfl dX8_sees_5 ?_
  refine lv_iload_n C.x C.b dX8_sees_8 rfl (lv_at hl 1 rfl) ?_
  refine r_ialdN A rfl (by omega) (by decide) C hS (by omega) m232 dX8_sees_9 ?_
  refine r_top (y := nI c1) (hs) ?_
  refine lv_iadd C.x C.b dX8_sees_10 ?_
  refine r_top (y := nI (42 * A + c1)) (nI_add _ _) ?_
  refine lv_istore (lv' := [(5, .int (nI (42 * A + c1))), (0, .ref (B + 220)), (1, .int (nI A)), (2, .int x), (3, .int y), (4, .int z)]) C.x C.b dX8_sees_11 hl (by decide) rfl (fun ls hl => ?_)
  refine lv_aload_n C.x C.b dX8_sees_13 rfl (lv_at hl 1 rfl) ?_
  refine r_get ck8 flX8_54 C hS (by omega) m220 (by decide) rfl dX8_sees_14 ?_
  refine lv_iload C.x C.b dX8_sees_17 (lv_at hl 0 rfl) ?_
  refine lv_iload_n C.x C.b dX8_sees_19 rfl (lv_at hl 3 rfl) ?_
  refine r_iastN (42 * A + c1) rfl (by omega) (by decide) C hS (by omega) m233 dX8_sees_20 (fun g_1 H locs e_2 o_3 hS => ?_)
  replace e_2 : g_1 233 = .inl (t.1, 84, .inl (upd sw (42 * A + c1) x)) := e_2
  refine lv_aload_n C.x C.b dX8_sees_21 rfl (lv_at hl 1 rfl) ?_
  have e_4 : g_1 220 = .inr (8, [.int td, .int (nI n), .ref (B + 221), .ref (B + 222), .ref (B + 223), .int ey, .int wi, .int ev, .ref (B + 224), .ref (B + 225), .ref (B + 226), .ref (B + 227), .ref (B + 228), .ref (B + 229), .ref (B + 230), .ref (B + 231), .ref (B + 232), .ref (B + 233), .ref (B + 234), .ref (B + 235), .ref (B + 236), .int po, .int ps]) := (o_3 _ (by omega)).trans m220
  refine r_get ck8 flX8_57 C hS (by omega) e_4 (by decide) rfl dX8_sees_22 ?_
  refine lv_iload C.x C.b dX8_sees_25 (lv_at hl 0 rfl) ?_
  refine lv_iload_n C.x C.b dX8_sees_27 rfl (lv_at hl 4 rfl) ?_
  have e_5 : g_1 234 = .inl (t.1, 84, .inl sn) := (o_3 _ (by omega)).trans m234
  refine r_iastN (42 * A + c1) rfl (by omega) (by decide) C hS (by omega) e_5 dX8_sees_28 (fun g_6 H locs e_7 o_8 hS => ?_)
  replace e_7 : g_6 234 = .inl (t.1, 84, .inl (upd sn (42 * A + c1) y)) := e_7
  refine lv_aload_n C.x C.b dX8_sees_29 rfl (lv_at hl 1 rfl) ?_
  have e_9 : g_6 220 = .inr (8, [.int td, .int (nI n), .ref (B + 221), .ref (B + 222), .ref (B + 223), .int ey, .int wi, .int ev, .ref (B + 224), .ref (B + 225), .ref (B + 226), .ref (B + 227), .ref (B + 228), .ref (B + 229), .ref (B + 230), .ref (B + 231), .ref (B + 232), .ref (B + 233), .ref (B + 234), .ref (B + 235), .ref (B + 236), .int po, .int ps]) := (o_8 _ (by omega)).trans e_4
  refine r_get ck8 flX8_60 C hS (by omega) e_9 (by decide) rfl dX8_sees_30 ?_
  refine lv_iload C.x C.b dX8_sees_33 (lv_at hl 0 rfl) ?_
  refine lv_iload C.x C.b dX8_sees_35 (lv_at hl 5 rfl) ?_
  have e_10 : g_1 235 = .inl (t.1, 84, .inl sq) := (o_3 _ (by omega)).trans m235
  have e_11 : g_6 235 = .inl (t.1, 84, .inl sq) := (o_8 _ (by omega)).trans e_10
  refine r_iastN (42 * A + c1) rfl (by omega) (by decide) C hS (by omega) e_11 dX8_sees_37 (fun g_12 H locs e_13 o_14 hS => ?_)
  replace e_13 : g_12 235 = .inl (t.1, 84, .inl (upd sq (42 * A + c1) z)) := e_13
  refine lv_aload_n C.x C.b dX8_sees_38 rfl (lv_at hl 1 rfl) ?_
  have e_15 : g_12 220 = .inr (8, [.int td, .int (nI n), .ref (B + 221), .ref (B + 222), .ref (B + 223), .int ey, .int wi, .int ev, .ref (B + 224), .ref (B + 225), .ref (B + 226), .ref (B + 227), .ref (B + 228), .ref (B + 229), .ref (B + 230), .ref (B + 231), .ref (B + 232), .ref (B + 233), .ref (B + 234), .ref (B + 235), .ref (B + 236), .int po, .int ps]) := (o_14 _ (by omega)).trans e_9
  refine r_get ck8 flX8_51 C hS (by omega) e_15 (by decide) rfl dX8_sees_39 ?_
  refine lv_iload_n C.x C.b dX8_sees_42 rfl (lv_at hl 2 rfl) ?_
  refine lv_aload_n C.x C.b dX8_sees_43 rfl (lv_at hl 1 rfl) ?_
  refine r_get ck8 flX8_51 C hS (by omega) e_15 (by decide) rfl dX8_sees_44 ?_
  refine lv_iload_n C.x C.b dX8_sees_47 rfl (lv_at hl 2 rfl) ?_
  have e_16 : g_1 232 = .inl (t.1, 2, .inl sm) := (o_3 _ (by omega)).trans m232
  have e_17 : g_6 232 = .inl (t.1, 2, .inl sm) := (o_8 _ (by omega)).trans e_16
  have e_18 : g_12 232 = .inl (t.1, 2, .inl sm) := (o_14 _ (by omega)).trans e_17
  refine r_ialdN A rfl (by omega) (by decide) C hS (by omega) e_18 dX8_sees_48 ?_
  refine r_top (y := nI c1) (hs) ?_
  refine lv_iconst (v := 1) C.x C.b dX8_sees_49 (by decide) ?_
  refine lv_iadd C.x C.b dX8_sees_50 ?_
  refine r_top (y := nI (c1 + 1)) (nI_1 c1) ?_
  refine r_iastN A rfl (by omega) (by decide) C hS (by omega) e_18 dX8_sees_51 (fun g_19 H locs e_20 o_21 hS => ?_)
  replace e_20 : g_19 232 = .inl (t.1, 2, .inl (upd sm A (nI (c1 + 1)))) := e_20
  have e_22 : g_6 233 = .inl (t.1, 84, .inl (upd sw (42 * A + c1) x)) := (o_8 _ (by omega)).trans e_2
  have e_23 : g_12 233 = .inl (t.1, 84, .inl (upd sw (42 * A + c1) x)) := (o_14 _ (by omega)).trans e_22
  have e_24 : g_19 233 = .inl (t.1, 84, .inl (upd sw (42 * A + c1) x)) := (o_21 _ (by omega)).trans e_23
  have e_25 : g_12 234 = .inl (t.1, 84, .inl (upd sn (42 * A + c1) y)) := (o_14 _ (by omega)).trans e_7
  have e_26 : g_19 234 = .inl (t.1, 84, .inl (upd sn (42 * A + c1) y)) := (o_21 _ (by omega)).trans e_25
  have e_27 : g_19 235 = .inl (t.1, 84, .inl (upd sq (42 * A + c1) z)) := (o_21 _ (by omega)).trans e_13
  exact r_vret C hr hlocks hS ⟨⟨e_20, e_24, e_26, e_27⟩, fun j hj => (o_21 j (by omega)).trans ((o_14 j (by omega)).trans ((o_8 j (by omega)).trans (o_3 j (by omega))))⟩ dX8_sees_52
