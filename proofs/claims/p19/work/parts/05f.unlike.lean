set_option maxHeartbeats 1000000 in
set_option maxRecDepth 100000 in
theorem c_X8_unlike (l : Launch) (D : va_G) (t : Gx) (B N : Nat) (g : Nat → va_E) (td : Int32) (n : Nat) (ey wi ev po ps : Int32) (o : Nat → Int32) (st : Nat → Int32) (an : Nat → Int32) (sp : Nat → Int32) (pl : Nat → Int32) (nu : Nat → Int32) (co : Nat → Int32) (sm : Nat → Int32) (sw : Nat → Int32) (sn : Nat → Int32) (sq : Nat → Int32) (R Q s1 s2 : Nat) (x y : Int32) (hN : 236 < N) (m220 : g 220 = mObj B td n ey wi ev po ps) (m221 : g 221 = .inl (t.1, 10, .inl o)) (m226 : g 226 = .inl (t.1, 256, .inl st)) (m227 : g 227 = .inl (t.1, 256, .inl an)) (m228 : g 228 = .inl (t.2.1, 256, .inl sp)) (m229 : g 229 = .inl (t.1, 10240, .inl pl)) (m230 : g 230 = .inl (t.1, 10240, .inl nu)) (m231 : g 231 = .inl (t.1, 10240, .inl co)) (m232 : g 232 = .inl (t.1, 2, .inl sm)) (m233 : g 233 = .inl (t.1, 84, .inl sw)) (m234 : g 234 = .inl (t.1, 84, .inl sn)) (m235 : g 235 = .inl (t.1, 84, .inl sq)) (hR : R < 256) (hQ : Q < 256) (hs : st R = nI s1) (hs1 : s1 ≤ 40) (hs2 : st Q = nI s2) (hs3 : s2 ≤ 40) (hPl : okPl pl) (hwi : ¬ wi = 0) : Ci l D t B N yX8_unlike cX8_unlike 6 (some .int) 3 72 g [.ref (B + 220), .int (nI R), .int (nI Q), .int x, .int y] (fun r g' => (g' 232 = .inl (t.1, 2, .inl (upd (upd sm 0 (nI (lookR o pl nu co wi x y 0 R s1 (an R) (sp R) (sw, sn, sq, 0)).2.2.2)) 1 (nI (lookR o pl nu co wi x y 1 Q s2 (an Q) (sp Q) ((lookR o pl nu co wi x y 0 R s1 (an R) (sp R) (sw, sn, sq, 0)).1, (lookR o pl nu co wi x y 0 R s1 (an R) (sp R) (sw, sn, sq, 0)).2.1, (lookR o pl nu co wi x y 0 R s1 (an R) (sp R) (sw, sn, sq, 0)).2.2.1, 0)).2.2.2))) ∧ g' 233 = .inl (t.1, 84, .inl (lookR o pl nu co wi x y 1 Q s2 (an Q) (sp Q) ((lookR o pl nu co wi x y 0 R s1 (an R) (sp R) (sw, sn, sq, 0)).1, (lookR o pl nu co wi x y 0 R s1 (an R) (sp R) (sw, sn, sq, 0)).2.1, (lookR o pl nu co wi x y 0 R s1 (an R) (sp R) (sw, sn, sq, 0)).2.2.1, 0)).1) ∧ g' 234 = .inl (t.1, 84, .inl (lookR o pl nu co wi x y 1 Q s2 (an Q) (sp Q) ((lookR o pl nu co wi x y 0 R s1 (an R) (sp R) (sw, sn, sq, 0)).1, (lookR o pl nu co wi x y 0 R s1 (an R) (sp R) (sw, sn, sq, 0)).2.1, (lookR o pl nu co wi x y 0 R s1 (an R) (sp R) (sw, sn, sq, 0)).2.2.1, 0)).2.1) ∧ g' 235 = .inl (t.1, 84, .inl (lookR o pl nu co wi x y 1 Q s2 (an Q) (sp Q) ((lookR o pl nu co wi x y 0 R s1 (an R) (sp R) (sw, sn, sq, 0)).1, (lookR o pl nu co wi x y 0 R s1 (an R) (sp R) (sw, sn, sq, 0)).2.1, (lookR o pl nu co wi x y 0 R s1 (an R) (sp R) (sw, sn, sq, 0)).2.2.1, 0)).2.2.1)) ∧ foS (lookR o pl nu co wi x y 1 Q s2 (an Q) (sp Q) ((lookR o pl nu co wi x y 0 R s1 (an R) (sp R) (sw, sn, sq, 0)).1, (lookR o pl nu co wi x y 0 R s1 (an R) (sp R) (sw, sn, sq, 0)).2.1, (lookR o pl nu co wi x y 0 R s1 (an R) (sp R) (sw, sn, sq, 0)).2.2.1, 0)).1 (lookR o pl nu co wi x y 1 Q s2 (an Q) (sp Q) ((lookR o pl nu co wi x y 0 R s1 (an R) (sp R) (sw, sn, sq, 0)).1, (lookR o pl nu co wi x y 0 R s1 (an R) (sp R) (sw, sn, sq, 0)).2.1, (lookR o pl nu co wi x y 0 R s1 (an R) (sp R) (sw, sn, sq, 0)).2.2.1, 0)).2.1 (lookR o pl nu co wi x y 0 R s1 (an R) (sp R) (sw, sn, sq, 0)).2.2.2 (fun q => (lookR o pl nu co wi x y 1 Q s2 (an Q) (sp Q) ((lookR o pl nu co wi x y 0 R s1 (an R) (sp R) (sw, sn, sq, 0)).1, (lookR o pl nu co wi x y 0 R s1 (an R) (sp R) (sw, sn, sq, 0)).2.1, (lookR o pl nu co wi x y 0 R s1 (an R) (sp R) (sw, sn, sq, 0)).2.2.1, 0)).1 (42 + q)) (fun q => (lookR o pl nu co wi x y 1 Q s2 (an Q) (sp Q) ((lookR o pl nu co wi x y 0 R s1 (an R) (sp R) (sw, sn, sq, 0)).1, (lookR o pl nu co wi x y 0 R s1 (an R) (sp R) (sw, sn, sq, 0)).2.1, (lookR o pl nu co wi x y 0 R s1 (an R) (sp R) (sw, sn, sq, 0)).2.2.1, 0)).2.1 (42 + q)) (lookR o pl nu co wi x y 1 Q s2 (an Q) (sp Q) ((lookR o pl nu co wi x y 0 R s1 (an R) (sp R) (sw, sn, sq, 0)).1, (lookR o pl nu co wi x y 0 R s1 (an R) (sp R) (sw, sn, sq, 0)).2.1, (lookR o pl nu co wi x y 0 R s1 (an R) (sp R) (sw, sn, sq, 0)).2.2.1, 0)).2.2.2 r ∧ ∀ j, (j < 232 ∨ 235 < j) → g' j = g j) := by
  refine Ci.start (by decide) (Nat.le_of_ble_eq_true rfl) ?_
  intro p e s m below meth c ls C hr hlocks hS hl
  replace C : Cx D t p s m [.ref (B + 220), .int (nI R), .int (nI Q), .int x, .int y].toArray c cX8_unlike 6 RX8 := C
  replace hl : lv_has ls 6 [(0, .ref (B + 220)), (1, .int (nI R)), (2, .int (nI Q)), (3, .int x), (4, .int y)] := hl
  replace m220 : g 220 = .inr (8, [.int td, .int (nI n), .ref (B + 221), .ref (B + 222), .ref (B + 223), .int ey, .int wi, .int ev, .ref (B + 224), .ref (B + 225), .ref (B + 226), .ref (B + 227), .ref (B + 228), .ref (B + 229), .ref (B + 230), .ref (B + 231), .ref (B + 232), .ref (B + 233), .ref (B + 234), .ref (B + 235), .ref (B + 236), .int po, .int ps]) := m220
  refine lv_aload_n C.x C.b dX8_unlike_0 rfl (lv_at hl 0 rfl) ?_
  refine lv_iconst (v := 0) C.x C.b dX8_unlike_1 (by decide) ?_
  refine lv_iload_n C.x C.b dX8_unlike_2 rfl (lv_at hl 1 rfl) ?_
  refine lv_iload_n C.x C.b dX8_unlike_3 rfl (lv_at hl 3 rfl) ?_
  refine lv_iload C.x C.b dX8_unlike_4 (lv_at hl 4 rfl) ?_
  refine r_callVv (b := 220) (As := [.int 0, .int (nI R), .int x, .int y]) (rest := []) (c_X8_look_ l D t B N g _ _ _ _ _ _ _ _ _ _ _ _ _ _ _ _ _ _ 0 R s1 x y (by omega) m220 m221 m226 m227 m228 m229 m230 m231 m232 m233 m234 m235 (by omega) (by omega) hs (by omega) hPl hwi) mf_yX8_look_ mlX8_105 im_yX8_look_ se_yX8_look_ (by decide) C hS (by omega) m220 (show vwCl[8]? = some _ from rfl) rfl rfl hl.1 rfl (Nat.le_of_ble_eq_true rfl) dX8_unlike_6 ⟨Nat.zero_le _, Nat.zero_le _⟩ (fun g_1 H locs w_2 hS => ?_)
  obtain ⟨⟨e_4, e_5, e_6, e_7⟩, hf_8⟩ := w_2
  refine lv_aload_n C.x C.b dX8_unlike_9 rfl (lv_at hl 0 rfl) ?_
  refine lv_iconst (v := 1) C.x C.b dX8_unlike_10 (by decide) ?_
  refine lv_iload_n C.x C.b dX8_unlike_11 rfl (lv_at hl 2 rfl) ?_
  refine lv_iload_n C.x C.b dX8_unlike_12 rfl (lv_at hl 3 rfl) ?_
  refine lv_iload C.x C.b dX8_unlike_13 (lv_at hl 4 rfl) ?_
  have e_9 : g_1 220 = .inr (8, [.int td, .int (nI n), .ref (B + 221), .ref (B + 222), .ref (B + 223), .int ey, .int wi, .int ev, .ref (B + 224), .ref (B + 225), .ref (B + 226), .ref (B + 227), .ref (B + 228), .ref (B + 229), .ref (B + 230), .ref (B + 231), .ref (B + 232), .ref (B + 233), .ref (B + 234), .ref (B + 235), .ref (B + 236), .int po, .int ps]) := (hf_8 _ (by omega)).trans m220
  have e_10 : g_1 221 = .inl (t.1, 10, .inl o) := (hf_8 _ (by omega)).trans m221
  have e_11 : g_1 226 = .inl (t.1, 256, .inl st) := (hf_8 _ (by omega)).trans m226
  have e_12 : g_1 227 = .inl (t.1, 256, .inl an) := (hf_8 _ (by omega)).trans m227
  have e_13 : g_1 228 = .inl (t.2.1, 256, .inl sp) := (hf_8 _ (by omega)).trans m228
  have e_14 : g_1 229 = .inl (t.1, 10240, .inl pl) := (hf_8 _ (by omega)).trans m229
  have e_15 : g_1 230 = .inl (t.1, 10240, .inl nu) := (hf_8 _ (by omega)).trans m230
  have e_16 : g_1 231 = .inl (t.1, 10240, .inl co) := (hf_8 _ (by omega)).trans m231
  refine r_callVv (b := 220) (As := [.int 1, .int (nI Q), .int x, .int y]) (rest := []) (c_X8_look_ l D t B N g_1 _ _ _ _ _ _ _ _ _ _ _ _ _ _ _ _ _ _ 1 Q s2 x y (by omega) e_9 e_10 e_11 e_12 e_13 e_14 e_15 e_16 e_4 e_5 e_6 e_7 (by omega) (by omega) hs2 (by omega) hPl hwi) mf_yX8_look_ mlX8_105 im_yX8_look_ se_yX8_look_ (by decide) C hS (by omega) e_9 (show vwCl[8]? = some _ from rfl) rfl rfl hl.1 rfl (Nat.le_of_ble_eq_true rfl) dX8_unlike_15 ⟨Nat.zero_le _, Nat.zero_le _⟩ (fun g_17 H locs w_18 hS => ?_)
  obtain ⟨⟨e_20, e_21, e_22, e_23⟩, hf_24⟩ := w_18
  obtain ⟨w9, hw9⟩ : ∃ f, f = (lookR o pl nu co wi x y 1 Q s2 (an Q) (sp Q) ((lookR o pl nu co wi x y 0 R s1 (an R) (sp R) (sw, sn, sq, 0)).1, (lookR o pl nu co wi x y 0 R s1 (an R) (sp R) (sw, sn, sq, 0)).2.1, (lookR o pl nu co wi x y 0 R s1 (an R) (sp R) (sw, sn, sq, 0)).2.2.1, 0)).1 := ⟨_, rfl⟩
  obtain ⟨n9, hn9⟩ : ∃ f, f = (lookR o pl nu co wi x y 1 Q s2 (an Q) (sp Q) ((lookR o pl nu co wi x y 0 R s1 (an R) (sp R) (sw, sn, sq, 0)).1, (lookR o pl nu co wi x y 0 R s1 (an R) (sp R) (sw, sn, sq, 0)).2.1, (lookR o pl nu co wi x y 0 R s1 (an R) (sp R) (sw, sn, sq, 0)).2.2.1, 0)).2.1 := ⟨_, rfl⟩
  obtain ⟨c0, hc0⟩ : ∃ z, z = (lookR o pl nu co wi x y 0 R s1 (an R) (sp R) (sw, sn, sq, 0)).2.2.2 := ⟨_, rfl⟩
  obtain ⟨c1, hc1⟩ : ∃ z, z = (lookR o pl nu co wi x y 1 Q s2 (an Q) (sp Q) ((lookR o pl nu co wi x y 0 R s1 (an R) (sp R) (sw, sn, sq, 0)).1, (lookR o pl nu co wi x y 0 R s1 (an R) (sp R) (sw, sn, sq, 0)).2.1, (lookR o pl nu co wi x y 0 R s1 (an R) (sp R) (sw, sn, sq, 0)).2.2.1, 0)).2.2.2 := ⟨_, rfl⟩
  have hl0 : c0 ≤ 42 := by rw [hc0]; exact lookR_le _ _ _ _ _ _ _ _ _ _ _ _ _ _ _ hs1
  have hl1 : c1 ≤ 42 := by rw [hc1]; exact lookR_le _ _ _ _ _ _ _ _ _ _ _ _ _ _ _ hs3
  have d233 : g_17 233 = .inl (t.1, 84, .inl w9) := by rw [hw9]; exact e_21
  have d234 : g_17 234 = .inl (t.1, 84, .inl n9) := by rw [hn9]; exact e_22
  have d232 : g_17 232 = .inl (t.1, 2, .inl (upd (upd sm 0 (nI c0)) 1 (nI c1))) := by rw [hc0, hc1]; exact e_20
  refine lv_iconst (v := 0) C.x C.b dX8_unlike_18 (by decide) ?_
  refine lv_istore (lv' := [(5, .int 0), (0, .ref (B + 220)), (1, .int (nI R)), (2, .int (nI Q)), (3, .int x), (4, .int y)]) C.x C.b dX8_unlike_19 hl (by decide) rfl (fun ls hl => ?_)
  have lp_25 : ∀ (u_26 k_27 : Nat) (H : Heap) (locs : List Loc) (ls : Array Slot), k_27 + u_26 = c0 → (∀ q, q < k_27 → w9 q = w9 (42 + q) ∧ n9 q = n9 (42 + q)) → (k_27 ≤ c1) → St D B s.heap N g_17 H locs → lv_has ls 6 [(0, .ref (B + 220)), (5, .int (nI k_27))] → W p l e (rmOf 3 72 0 0) s m [.ref (B + 220), .int (nI R), .int (nI Q), .int x, .int y].toArray below meth c H locs 0 0 (MQ below (qI D B N (fun r g' => (g' 232 = .inl (t.1, 2, .inl (upd (upd sm 0 (nI (lookR o pl nu co wi x y 0 R s1 (an R) (sp R) (sw, sn, sq, 0)).2.2.2)) 1 (nI (lookR o pl nu co wi x y 1 Q s2 (an Q) (sp Q) ((lookR o pl nu co wi x y 0 R s1 (an R) (sp R) (sw, sn, sq, 0)).1, (lookR o pl nu co wi x y 0 R s1 (an R) (sp R) (sw, sn, sq, 0)).2.1, (lookR o pl nu co wi x y 0 R s1 (an R) (sp R) (sw, sn, sq, 0)).2.2.1, 0)).2.2.2))) ∧ g' 233 = .inl (t.1, 84, .inl (lookR o pl nu co wi x y 1 Q s2 (an Q) (sp Q) ((lookR o pl nu co wi x y 0 R s1 (an R) (sp R) (sw, sn, sq, 0)).1, (lookR o pl nu co wi x y 0 R s1 (an R) (sp R) (sw, sn, sq, 0)).2.1, (lookR o pl nu co wi x y 0 R s1 (an R) (sp R) (sw, sn, sq, 0)).2.2.1, 0)).1) ∧ g' 234 = .inl (t.1, 84, .inl (lookR o pl nu co wi x y 1 Q s2 (an Q) (sp Q) ((lookR o pl nu co wi x y 0 R s1 (an R) (sp R) (sw, sn, sq, 0)).1, (lookR o pl nu co wi x y 0 R s1 (an R) (sp R) (sw, sn, sq, 0)).2.1, (lookR o pl nu co wi x y 0 R s1 (an R) (sp R) (sw, sn, sq, 0)).2.2.1, 0)).2.1) ∧ g' 235 = .inl (t.1, 84, .inl (lookR o pl nu co wi x y 1 Q s2 (an Q) (sp Q) ((lookR o pl nu co wi x y 0 R s1 (an R) (sp R) (sw, sn, sq, 0)).1, (lookR o pl nu co wi x y 0 R s1 (an R) (sp R) (sw, sn, sq, 0)).2.1, (lookR o pl nu co wi x y 0 R s1 (an R) (sp R) (sw, sn, sq, 0)).2.2.1, 0)).2.2.1)) ∧ foS (lookR o pl nu co wi x y 1 Q s2 (an Q) (sp Q) ((lookR o pl nu co wi x y 0 R s1 (an R) (sp R) (sw, sn, sq, 0)).1, (lookR o pl nu co wi x y 0 R s1 (an R) (sp R) (sw, sn, sq, 0)).2.1, (lookR o pl nu co wi x y 0 R s1 (an R) (sp R) (sw, sn, sq, 0)).2.2.1, 0)).1 (lookR o pl nu co wi x y 1 Q s2 (an Q) (sp Q) ((lookR o pl nu co wi x y 0 R s1 (an R) (sp R) (sw, sn, sq, 0)).1, (lookR o pl nu co wi x y 0 R s1 (an R) (sp R) (sw, sn, sq, 0)).2.1, (lookR o pl nu co wi x y 0 R s1 (an R) (sp R) (sw, sn, sq, 0)).2.2.1, 0)).2.1 (lookR o pl nu co wi x y 0 R s1 (an R) (sp R) (sw, sn, sq, 0)).2.2.2 (fun q => (lookR o pl nu co wi x y 1 Q s2 (an Q) (sp Q) ((lookR o pl nu co wi x y 0 R s1 (an R) (sp R) (sw, sn, sq, 0)).1, (lookR o pl nu co wi x y 0 R s1 (an R) (sp R) (sw, sn, sq, 0)).2.1, (lookR o pl nu co wi x y 0 R s1 (an R) (sp R) (sw, sn, sq, 0)).2.2.1, 0)).1 (42 + q)) (fun q => (lookR o pl nu co wi x y 1 Q s2 (an Q) (sp Q) ((lookR o pl nu co wi x y 0 R s1 (an R) (sp R) (sw, sn, sq, 0)).1, (lookR o pl nu co wi x y 0 R s1 (an R) (sp R) (sw, sn, sq, 0)).2.1, (lookR o pl nu co wi x y 0 R s1 (an R) (sp R) (sw, sn, sq, 0)).2.2.1, 0)).2.1 (42 + q)) (lookR o pl nu co wi x y 1 Q s2 (an Q) (sp Q) ((lookR o pl nu co wi x y 0 R s1 (an R) (sp R) (sw, sn, sq, 0)).1, (lookR o pl nu co wi x y 0 R s1 (an R) (sp R) (sw, sn, sq, 0)).2.1, (lookR o pl nu co wi x y 0 R s1 (an R) (sp R) (sw, sn, sq, 0)).2.2.1, 0)).2.2.2 r ∧ ∀ j, (j < 232 ∨ 235 < j) → g' j = g j)) [.ref (B + 220), .int (nI R), .int (nI Q), .int x, .int y].toArray s 0 0 (fun q => B ≤ q)) (F0 m 21 ls []) := by
    intro u_26
    induction u_26 with
    | zero =>
      intro k_27 H locs ls hk_28 hq hk1 hS hl
      obtain rfl : c0 = k_27 := by omega
      refine lv_iload C.x C.b dX8_unlike_21 (lv_at hl 1 rfl) ?_
      refine lv_aload_n C.x C.b dX8_unlike_23 rfl (lv_at hl 0 rfl) ?_
      have e_31 : g_17 220 = .inr (8, [.int td, .int (nI n), .ref (B + 221), .ref (B + 222), .ref (B + 223), .int ey, .int wi, .int ev, .ref (B + 224), .ref (B + 225), .ref (B + 226), .ref (B + 227), .ref (B + 228), .ref (B + 229), .ref (B + 230), .ref (B + 231), .ref (B + 232), .ref (B + 233), .ref (B + 234), .ref (B + 235), .ref (B + 236), .int po, .int ps]) := (hf_24 _ (by omega)).trans e_9
      refine r_get ck8 flX8_51 C hS (by omega) e_31 (by decide) rfl dX8_unlike_24 ?_
      refine lv_iconst (v := 0) C.x C.b dX8_unlike_27 (by decide) ?_
      refine r_ialdN 0 rfl (by omega) (by decide) C hS (by omega) d232 dX8_unlike_28 ?_
      refine r_top (y := nI c0) (by rw [pk_un (by decide), pk_us]) ?_
      refine lv_icmp_ge (tgt := 92) C.x C.b dX8_unlike_29 (by decide) (fun c_32 => ?_) (fun c_32 => absurd (nI_le (Nat.le_refl _) (by omega)) c_32)
      refine lv_iload C.x C.b dX8_unlike_92 (lv_at hl 1 rfl) ?_
      refine lv_aload_n C.x C.b dX8_unlike_94 rfl (lv_at hl 0 rfl) ?_
      refine r_get ck8 flX8_51 C hS (by omega) e_31 (by decide) rfl dX8_unlike_95 ?_
      refine lv_iconst (v := 0) C.x C.b dX8_unlike_98 (by decide) ?_
      refine r_ialdN 0 rfl (by omega) (by decide) C hS (by omega) d232 dX8_unlike_99 ?_
      refine r_top (y := nI c0) (by rw [pk_un (by decide), pk_us]) ?_
      refine lv_icmp_ne (tgt := 118) C.x C.b dX8_unlike_100 (by decide) (fun c_33 => ?_) (fun c_33 => ?_)
      · skip
        refine lv_iload C.x C.b dX8_unlike_118 (lv_at hl 1 rfl) ?_
        have a_34 : ¬ c0 = c0 := fun q => c_33 (by rw [q])
        exact r_iret C hr hlocks hS ⟨⟨by rw [← hc0, ← hc1]; exact d232, by rw [← hw9]; exact d233, by rw [← hn9]; exact d234, e_23⟩, by rw [← hw9, ← hn9, ← hc0, ← hc1]; exact Or.inr ⟨c0, by omega, by omega, by omega, hq, fun h h2 => by omega, rfl⟩, fun j hj => (hf_24 j (by omega)).trans (hf_8 j (by omega))⟩ dX8_unlike_120
      · skip
        refine lv_iload C.x C.b dX8_unlike_103 (lv_at hl 1 rfl) ?_
        refine lv_aload_n C.x C.b dX8_unlike_105 rfl (lv_at hl 0 rfl) ?_
        refine r_get ck8 flX8_51 C hS (by omega) e_31 (by decide) rfl dX8_unlike_106 ?_
        refine lv_iconst (v := 1) C.x C.b dX8_unlike_109 (by decide) ?_
        refine r_ialdN 1 rfl (by omega) (by decide) C hS (by omega) d232 dX8_unlike_110 ?_
        refine r_top (y := nI c1) (pk_us) ?_
        refine lv_icmp_ne (tgt := 118) C.x C.b dX8_unlike_111 (by decide) (fun c_35 => ?_) (fun c_35 => ?_)
        · skip
          refine lv_iload C.x C.b dX8_unlike_118 (lv_at hl 1 rfl) ?_
          have a_36 : ¬ c0 = c1 := fun q => c_35 (by rw [q])
          exact r_iret C hr hlocks hS ⟨⟨by rw [← hc0, ← hc1]; exact d232, by rw [← hw9]; exact d233, by rw [← hn9]; exact d234, e_23⟩, by rw [← hw9, ← hn9, ← hc0, ← hc1]; exact Or.inr ⟨c0, by omega, by omega, by omega, hq, fun h h2 => by omega, rfl⟩, fun j hj => (hf_24 j (by omega)).trans (hf_8 j (by omega))⟩ dX8_unlike_120
        · skip
          refine lv_iconst (v := (-1)) C.x C.b dX8_unlike_114 (by decide) ?_
          refine lv_goto (tgt := 120) C.x C.b dX8_unlike_115 (by decide) ?_
          have a_37 : c0 = c0 := (nI_eq (by omega) (by omega)).mp c_33
          have b_38 : c0 = c1 := (nI_eq (by omega) (by omega)).mp c_35
          exact r_iret C hr hlocks hS ⟨⟨by rw [← hc0, ← hc1]; exact d232, by rw [← hw9]; exact d233, by rw [← hn9]; exact d234, e_23⟩, by rw [← hw9, ← hn9, ← hc0, ← hc1]; exact Or.inl ⟨by omega, fun q h => hq q (by omega), rfl⟩, fun j hj => (hf_24 j (by omega)).trans (hf_8 j (by omega))⟩ dX8_unlike_120
    | succ u_26 ih_29 =>
      intro k_27 H locs ls hk_28 hq hk1 hS hl
      refine lv_iload C.x C.b dX8_unlike_21 (lv_at hl 1 rfl) ?_
      refine lv_aload_n C.x C.b dX8_unlike_23 rfl (lv_at hl 0 rfl) ?_
      have e_39 : g_17 220 = .inr (8, [.int td, .int (nI n), .ref (B + 221), .ref (B + 222), .ref (B + 223), .int ey, .int wi, .int ev, .ref (B + 224), .ref (B + 225), .ref (B + 226), .ref (B + 227), .ref (B + 228), .ref (B + 229), .ref (B + 230), .ref (B + 231), .ref (B + 232), .ref (B + 233), .ref (B + 234), .ref (B + 235), .ref (B + 236), .int po, .int ps]) := (hf_24 _ (by omega)).trans e_9
      refine r_get ck8 flX8_51 C hS (by omega) e_39 (by decide) rfl dX8_unlike_24 ?_
      refine lv_iconst (v := 0) C.x C.b dX8_unlike_27 (by decide) ?_
      refine r_ialdN 0 rfl (by omega) (by decide) C hS (by omega) d232 dX8_unlike_28 ?_
      refine r_top (y := nI c0) (by rw [pk_un (by decide), pk_us]) ?_
      refine lv_icmp_ge (tgt := 92) C.x C.b dX8_unlike_29 (by decide) (fun c_40 => absurd c_40 (nI_ge (a := k_27) (b := c0) (by omega) (by omega))) (fun c_40 => ?_)
      refine lv_iload C.x C.b dX8_unlike_32 (lv_at hl 1 rfl) ?_
      refine lv_aload_n C.x C.b dX8_unlike_34 rfl (lv_at hl 0 rfl) ?_
      refine r_get ck8 flX8_51 C hS (by omega) e_39 (by decide) rfl dX8_unlike_35 ?_
      refine lv_iconst (v := 1) C.x C.b dX8_unlike_38 (by decide) ?_
      refine r_ialdN 1 rfl (by omega) (by decide) C hS (by omega) d232 dX8_unlike_39 ?_
      refine r_top (y := nI c1) (pk_us) ?_
      refine lv_icmp_ge (tgt := 92) C.x C.b dX8_unlike_40 (by decide) (fun c_41 => ?_) (fun c_41 => ?_)
      · skip
        have hk3 := Nat.le_of_not_lt (fun q => (nI_ge q (by omega)) c_41)
        refine lv_iload C.x C.b dX8_unlike_92 (lv_at hl 1 rfl) ?_
        refine lv_aload_n C.x C.b dX8_unlike_94 rfl (lv_at hl 0 rfl) ?_
        refine r_get ck8 flX8_51 C hS (by omega) e_39 (by decide) rfl dX8_unlike_95 ?_
        refine lv_iconst (v := 0) C.x C.b dX8_unlike_98 (by decide) ?_
        refine r_ialdN 0 rfl (by omega) (by decide) C hS (by omega) d232 dX8_unlike_99 ?_
        refine r_top (y := nI c0) (by rw [pk_un (by decide), pk_us]) ?_
        refine lv_icmp_ne (tgt := 118) C.x C.b dX8_unlike_100 (by decide) (fun c_42 => ?_) (fun c_42 => ?_)
        · skip
          refine lv_iload C.x C.b dX8_unlike_118 (lv_at hl 1 rfl) ?_
          have a_43 : ¬ k_27 = c0 := fun q => c_42 (by rw [q])
          exact r_iret C hr hlocks hS ⟨⟨by rw [← hc0, ← hc1]; exact d232, by rw [← hw9]; exact d233, by rw [← hn9]; exact d234, e_23⟩, by rw [← hw9, ← hn9, ← hc0, ← hc1]; exact Or.inr ⟨k_27, by omega, by omega, by omega, hq, fun h h2 => by omega, rfl⟩, fun j hj => (hf_24 j (by omega)).trans (hf_8 j (by omega))⟩ dX8_unlike_120
        · skip
          refine lv_iload C.x C.b dX8_unlike_103 (lv_at hl 1 rfl) ?_
          refine lv_aload_n C.x C.b dX8_unlike_105 rfl (lv_at hl 0 rfl) ?_
          refine r_get ck8 flX8_51 C hS (by omega) e_39 (by decide) rfl dX8_unlike_106 ?_
          refine lv_iconst (v := 1) C.x C.b dX8_unlike_109 (by decide) ?_
          refine r_ialdN 1 rfl (by omega) (by decide) C hS (by omega) d232 dX8_unlike_110 ?_
          refine r_top (y := nI c1) (pk_us) ?_
          refine lv_icmp_ne (tgt := 118) C.x C.b dX8_unlike_111 (by decide) (fun c_44 => ?_) (fun c_44 => ?_)
          · skip
            refine lv_iload C.x C.b dX8_unlike_118 (lv_at hl 1 rfl) ?_
            have a_45 : ¬ k_27 = c1 := fun q => c_44 (by rw [q])
            exact r_iret C hr hlocks hS ⟨⟨by rw [← hc0, ← hc1]; exact d232, by rw [← hw9]; exact d233, by rw [← hn9]; exact d234, e_23⟩, by rw [← hw9, ← hn9, ← hc0, ← hc1]; exact Or.inr ⟨k_27, by omega, by omega, by omega, hq, fun h h2 => by omega, rfl⟩, fun j hj => (hf_24 j (by omega)).trans (hf_8 j (by omega))⟩ dX8_unlike_120
          · skip
            refine lv_iconst (v := (-1)) C.x C.b dX8_unlike_114 (by decide) ?_
            refine lv_goto (tgt := 120) C.x C.b dX8_unlike_115 (by decide) ?_
            have a_46 : k_27 = c0 := (nI_eq (by omega) (by omega)).mp c_42
            have b_47 : k_27 = c1 := (nI_eq (by omega) (by omega)).mp c_44
            exact r_iret C hr hlocks hS ⟨⟨by rw [← hc0, ← hc1]; exact d232, by rw [← hw9]; exact d233, by rw [← hn9]; exact d234, e_23⟩, by rw [← hw9, ← hn9, ← hc0, ← hc1]; exact Or.inl ⟨by omega, fun q h => hq q (by omega), rfl⟩, fun j hj => (hf_24 j (by omega)).trans (hf_8 j (by omega))⟩ dX8_unlike_120
      · skip
        have hk2 := Nat.lt_of_not_le (fun q => c_41 (nI_le q (by omega)))
        refine lv_aload_n C.x C.b dX8_unlike_43 rfl (lv_at hl 0 rfl) ?_
        refine r_get ck8 flX8_54 C hS (by omega) e_39 (by decide) rfl dX8_unlike_44 ?_
        refine lv_iload C.x C.b dX8_unlike_47 (lv_at hl 1 rfl) ?_
        refine r_ialdN k_27 rfl (by omega) (by decide) C hS (by omega) d233 dX8_unlike_49 ?_
        refine lv_aload_n C.x C.b dX8_unlike_50 rfl (lv_at hl 0 rfl) ?_
        refine r_get ck8 flX8_54 C hS (by omega) e_39 (by decide) rfl dX8_unlike_51 ?_
        refine lv_bipush (v := 42) C.x C.b dX8_unlike_54 (by decide) ?_
        refine lv_iload C.x C.b dX8_unlike_56 (lv_at hl 1 rfl) ?_
        refine lv_iadd C.x C.b dX8_unlike_58 ?_
        refine r_top (y := nI (42 + k_27)) (nI_add 42 k_27) ?_
        refine r_ialdN (42 + k_27) rfl (by omega) (by decide) C hS (by omega) d233 dX8_unlike_59 ?_
        refine lv_icmp_ne (tgt := 92) C.x C.b dX8_unlike_60 (by decide) (fun c_48 => ?_) (fun c_48 => ?_)
        · skip
          refine lv_iload C.x C.b dX8_unlike_92 (lv_at hl 1 rfl) ?_
          refine lv_aload_n C.x C.b dX8_unlike_94 rfl (lv_at hl 0 rfl) ?_
          refine r_get ck8 flX8_51 C hS (by omega) e_39 (by decide) rfl dX8_unlike_95 ?_
          refine lv_iconst (v := 0) C.x C.b dX8_unlike_98 (by decide) ?_
          refine r_ialdN 0 rfl (by omega) (by decide) C hS (by omega) d232 dX8_unlike_99 ?_
          refine r_top (y := nI c0) (by rw [pk_un (by decide), pk_us]) ?_
          refine lv_icmp_ne (tgt := 118) C.x C.b dX8_unlike_100 (by decide) (fun c_49 => ?_) (fun c_49 => ?_)
          · skip
            refine lv_iload C.x C.b dX8_unlike_118 (lv_at hl 1 rfl) ?_
            have a_50 : ¬ k_27 = c0 := fun q => c_49 (by rw [q])
            exact r_iret C hr hlocks hS ⟨⟨by rw [← hc0, ← hc1]; exact d232, by rw [← hw9]; exact d233, by rw [← hn9]; exact d234, e_23⟩, by rw [← hw9, ← hn9, ← hc0, ← hc1]; exact Or.inr ⟨k_27, by omega, by omega, by omega, hq, fun _ _ q => c_48 q.1, rfl⟩, fun j hj => (hf_24 j (by omega)).trans (hf_8 j (by omega))⟩ dX8_unlike_120
          · skip
            refine lv_iload C.x C.b dX8_unlike_103 (lv_at hl 1 rfl) ?_
            refine lv_aload_n C.x C.b dX8_unlike_105 rfl (lv_at hl 0 rfl) ?_
            refine r_get ck8 flX8_51 C hS (by omega) e_39 (by decide) rfl dX8_unlike_106 ?_
            refine lv_iconst (v := 1) C.x C.b dX8_unlike_109 (by decide) ?_
            refine r_ialdN 1 rfl (by omega) (by decide) C hS (by omega) d232 dX8_unlike_110 ?_
            refine r_top (y := nI c1) (pk_us) ?_
            refine lv_icmp_ne (tgt := 118) C.x C.b dX8_unlike_111 (by decide) (fun c_51 => ?_) (fun c_51 => ?_)
            · skip
              refine lv_iload C.x C.b dX8_unlike_118 (lv_at hl 1 rfl) ?_
              have a_52 : ¬ k_27 = c1 := fun q => c_51 (by rw [q])
              exact r_iret C hr hlocks hS ⟨⟨by rw [← hc0, ← hc1]; exact d232, by rw [← hw9]; exact d233, by rw [← hn9]; exact d234, e_23⟩, by rw [← hw9, ← hn9, ← hc0, ← hc1]; exact Or.inr ⟨k_27, by omega, by omega, by omega, hq, fun _ _ q => c_48 q.1, rfl⟩, fun j hj => (hf_24 j (by omega)).trans (hf_8 j (by omega))⟩ dX8_unlike_120
            · skip
              refine lv_iconst (v := (-1)) C.x C.b dX8_unlike_114 (by decide) ?_
              refine lv_goto (tgt := 120) C.x C.b dX8_unlike_115 (by decide) ?_
              have a_53 : k_27 = c0 := (nI_eq (by omega) (by omega)).mp c_49
              have b_54 : k_27 = c1 := (nI_eq (by omega) (by omega)).mp c_51
              exact r_iret C hr hlocks hS ⟨⟨by rw [← hc0, ← hc1]; exact d232, by rw [← hw9]; exact d233, by rw [← hn9]; exact d234, e_23⟩, by rw [← hw9, ← hn9, ← hc0, ← hc1]; exact Or.inl ⟨by omega, fun q h => hq q (by omega), rfl⟩, fun j hj => (hf_24 j (by omega)).trans (hf_8 j (by omega))⟩ dX8_unlike_120
        · skip
          refine lv_aload_n C.x C.b dX8_unlike_63 rfl (lv_at hl 0 rfl) ?_
          refine r_get ck8 flX8_57 C hS (by omega) e_39 (by decide) rfl dX8_unlike_64 ?_
          refine lv_iload C.x C.b dX8_unlike_67 (lv_at hl 1 rfl) ?_
          refine r_ialdN k_27 rfl (by omega) (by decide) C hS (by omega) d234 dX8_unlike_69 ?_
          refine lv_aload_n C.x C.b dX8_unlike_70 rfl (lv_at hl 0 rfl) ?_
          refine r_get ck8 flX8_57 C hS (by omega) e_39 (by decide) rfl dX8_unlike_71 ?_
          refine lv_bipush (v := 42) C.x C.b dX8_unlike_74 (by decide) ?_
          refine lv_iload C.x C.b dX8_unlike_76 (lv_at hl 1 rfl) ?_
          refine lv_iadd C.x C.b dX8_unlike_78 ?_
          refine r_top (y := nI (42 + k_27)) (nI_add 42 k_27) ?_
          refine r_ialdN (42 + k_27) rfl (by omega) (by decide) C hS (by omega) d234 dX8_unlike_79 ?_
          refine lv_icmp_ne (tgt := 92) C.x C.b dX8_unlike_80 (by decide) (fun c_55 => ?_) (fun c_55 => ?_)
          · skip
            refine lv_iload C.x C.b dX8_unlike_92 (lv_at hl 1 rfl) ?_
            refine lv_aload_n C.x C.b dX8_unlike_94 rfl (lv_at hl 0 rfl) ?_
            refine r_get ck8 flX8_51 C hS (by omega) e_39 (by decide) rfl dX8_unlike_95 ?_
            refine lv_iconst (v := 0) C.x C.b dX8_unlike_98 (by decide) ?_
            refine r_ialdN 0 rfl (by omega) (by decide) C hS (by omega) d232 dX8_unlike_99 ?_
            refine r_top (y := nI c0) (by rw [pk_un (by decide), pk_us]) ?_
            refine lv_icmp_ne (tgt := 118) C.x C.b dX8_unlike_100 (by decide) (fun c_56 => ?_) (fun c_56 => ?_)
            · skip
              refine lv_iload C.x C.b dX8_unlike_118 (lv_at hl 1 rfl) ?_
              have a_57 : ¬ k_27 = c0 := fun q => c_56 (by rw [q])
              exact r_iret C hr hlocks hS ⟨⟨by rw [← hc0, ← hc1]; exact d232, by rw [← hw9]; exact d233, by rw [← hn9]; exact d234, e_23⟩, by rw [← hw9, ← hn9, ← hc0, ← hc1]; exact Or.inr ⟨k_27, by omega, by omega, by omega, hq, fun _ _ q => c_55 q.2, rfl⟩, fun j hj => (hf_24 j (by omega)).trans (hf_8 j (by omega))⟩ dX8_unlike_120
            · skip
              refine lv_iload C.x C.b dX8_unlike_103 (lv_at hl 1 rfl) ?_
              refine lv_aload_n C.x C.b dX8_unlike_105 rfl (lv_at hl 0 rfl) ?_
              refine r_get ck8 flX8_51 C hS (by omega) e_39 (by decide) rfl dX8_unlike_106 ?_
              refine lv_iconst (v := 1) C.x C.b dX8_unlike_109 (by decide) ?_
              refine r_ialdN 1 rfl (by omega) (by decide) C hS (by omega) d232 dX8_unlike_110 ?_
              refine r_top (y := nI c1) (pk_us) ?_
              refine lv_icmp_ne (tgt := 118) C.x C.b dX8_unlike_111 (by decide) (fun c_58 => ?_) (fun c_58 => ?_)
              · skip
                refine lv_iload C.x C.b dX8_unlike_118 (lv_at hl 1 rfl) ?_
                have a_59 : ¬ k_27 = c1 := fun q => c_58 (by rw [q])
                exact r_iret C hr hlocks hS ⟨⟨by rw [← hc0, ← hc1]; exact d232, by rw [← hw9]; exact d233, by rw [← hn9]; exact d234, e_23⟩, by rw [← hw9, ← hn9, ← hc0, ← hc1]; exact Or.inr ⟨k_27, by omega, by omega, by omega, hq, fun _ _ q => c_55 q.2, rfl⟩, fun j hj => (hf_24 j (by omega)).trans (hf_8 j (by omega))⟩ dX8_unlike_120
              · skip
                refine lv_iconst (v := (-1)) C.x C.b dX8_unlike_114 (by decide) ?_
                refine lv_goto (tgt := 120) C.x C.b dX8_unlike_115 (by decide) ?_
                have a_60 : k_27 = c0 := (nI_eq (by omega) (by omega)).mp c_56
                have b_61 : k_27 = c1 := (nI_eq (by omega) (by omega)).mp c_58
                exact r_iret C hr hlocks hS ⟨⟨by rw [← hc0, ← hc1]; exact d232, by rw [← hw9]; exact d233, by rw [← hn9]; exact d234, e_23⟩, by rw [← hw9, ← hn9, ← hc0, ← hc1]; exact Or.inl ⟨by omega, fun q h => hq q (by omega), rfl⟩, fun j hj => (hf_24 j (by omega)).trans (hf_8 j (by omega))⟩ dX8_unlike_120
          · skip
            refine lv_iload C.x C.b dX8_unlike_83 (lv_at hl 1 rfl) ?_
            refine lv_iconst (v := 1) C.x C.b dX8_unlike_85 (by decide) ?_
            refine lv_iadd C.x C.b dX8_unlike_86 ?_
            refine r_top (y := nI (k_27 + 1)) (nI_1 k_27) ?_
            refine lv_istore (lv' := [(5, .int (nI (k_27 + 1))), (0, .ref (B + 220))]) C.x C.b dX8_unlike_87 hl (by decide) rfl (fun ls hl => ?_)
            refine lv_goto (tgt := 21) C.x C.b dX8_unlike_89 (by decide) ?_
            exact ih_29 (k_27 + 1) _ _ _ (by omega) (lt_s hq ⟨c_48, c_55⟩) (by omega) hS (lv_sub hl [1, 0] rfl)
  exact lp_25 c0 0 _ _ _ (by omega) (fun _ h => absurd h (Nat.not_lt_zero _)) (Nat.zero_le _) hS (lv_sub hl [1, 0] rfl)
