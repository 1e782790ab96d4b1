section SIF
variable {cm cm0 : Nat → Int32} {K mk : Nat} {AL : Nat → Prop}
theorem sif_s (h : ∀ s, s < K → s &&& mk = s → (cm s = 1 ↔ (cm0 s = 1 ∧ AL s))) (hk : K &&& mk = K → (cm K = 1 ↔ (cm0 K = 1 ∧ AL K))) : ∀ s, s < K + 1 → s &&& mk = s → (cm s = 1 ↔ (cm0 s = 1 ∧ AL s)) := fun s hs hm => by
  by_cases e : s = K
  · subst e
    exact hk hm
  · exact h s (by omega) hm
theorem sif_b (h : ∀ s, K ≤ s → cm s = cm0 s) : ∀ s, K + 1 ≤ s → cm s = cm0 s := fun s hs => h s (by omega)
theorem sif_no {P : Prop} (h : ¬ (nI K &&& (nI mk ^^^ -1)) = 0) (hm : K &&& mk = K) : P := by
  have := mask_in (a := K) (m := mk)
  rw [hm] at this
  exact absurd this h
theorem sif_0 {P : Prop} (h : cm K = cm0 K) (h0 : cm K = 0) : cm K = 1 ↔ (cm0 K = 1 ∧ P) := by
  rw [← h, h0]
  exact ⟨fun q => absurd q (by decide), fun q => absurd q.1 (by decide)⟩
theorem sif_p {v : Int32} (h : ∀ s, s < K → s &&& mk = s → (cm s = 1 ↔ (cm0 s = 1 ∧ AL s))) (hk : K &&& mk = K → (v = 1 ↔ (cm0 K = 1 ∧ AL K))) : ∀ s, s < K + 1 → s &&& mk = s → (upd cm K v s = 1 ↔ (cm0 s = 1 ∧ AL s)) := fun s hs hm => by
  by_cases e : s = K
  · subst e
    rw [up_s]
    exact hk hm
  · rw [up_n e]
    exact h s (by omega) hm
theorem sif_q {v : Int32} (h : ∀ s, K ≤ s → cm s = cm0 s) : ∀ s, K + 1 ≤ s → upd cm K v s = cm0 s := fun s hs => by
  rw [up_n (by omega)]
  exact h s (by omega)
theorem sif_1 {P : Prop} (h : cm K = cm0 K) (h01 : cm K = 0 ∨ cm K = 1) (h0 : ¬ cm K = 0) (ha : P) : (1 : Int32) = 1 ↔ (cm0 K = 1 ∧ P) := by
  rw [← h]
  exact ⟨fun _ => ⟨h01.resolve_left h0, ha⟩, fun _ => rfl⟩
theorem sif_2 {P : Prop} (ha : ¬ P) : (0 : Int32) = 1 ↔ (cm0 K = 1 ∧ P) := ⟨fun q => absurd q (by decide), fun q => absurd q.2 ha⟩
end SIF

set_option maxHeartbeats 1000000 in
set_option maxRecDepth 100000 in
theorem x_X0_sift (l : Launch) (D : va_G) (t : Gx) (B N : Nat) (g : Nat → va_E) (o pr w : Nat → Int32) (n : Nat) (ey wi ev : Int32) (o' w' : Nat → Int32) (q f mk : Nat) (rp : Nat → Nat) (cm0 : Nat → Int32) (hN : 220 ≤ N) (hP : isProg t B g 1 o pr w n) (hn : n ≤ 8) (hW : isWat g 5 ey wi ev) (hScr : Scr t B g) (hE : ∀ q, q < n → o q = o' q) (hW2 : ∀ q, q < 8 → w q = w' q) (hO : okO o') (hoe : okE ey) (hwd : isWd wi) (hf : f ≤ 16) (hf1 : 1 ≤ f) (hru : ∀ i, i < f → RunOb t B g (124 + 6 * i) o' n w' ey wi (16 * q + rp i)) (hcm : g 114 = .inl (t.2.1, 256, .inl cm0)) (h01 : ∀ q, cm0 q = 0 ∨ cm0 q = 1) : Cv l D t B N N 0 0 yX0_sift cX0_sift 5 3 71 g [.ref (B + 113), .int (nI f), .int (ey &&& (-9)), .int (nI mk)] (fun g' => Kp t B g g' ∧ (∀ j, ((9 ≤ j ∧ j ≤ 113) ∨ j = 115 ∨ 124 ≤ j) → g' j = g j) ∧ (∀ i, i < f → RunOb t B g' (124 + 6 * i) o' n w' ey wi (16 * q + rp i)) ∧ ∃ cm, g' 114 = .inl (t.2.1, 256, .inl cm) ∧ (∀ q, cm q = 0 ∨ cm q = 1) ∧ ∀ s, s < 256 → s &&& mk = s → (cm s = 1 ↔ (cm0 s = 1 ∧ (∀ i, i < f → alikeR (obR o' n w' wi (nI s) (ey &&& 7) (16 * q + rp 0)) (obR o' n w' wi (nI s) (ey &&& 7) (16 * q + rp i)))))) := by
  refine Cv.start (by decide) (Nat.le_of_ble_eq_true rfl) ?_
  intro p e s m below meth c ls C hr hlocks hnm hS hl
  replace C : Cx D t p s m [.ref (B + 113), .int (nI f), .int (ey &&& (-9)), .int (nI mk)].toArray c cX0_sift 5 RX0 := C
  replace hl : lv_has ls 5 [(0, .ref (B + 113)), (1, .int (nI f)), (2, .int (ey &&& (-9))), (3, .int (nI mk))] := hl
  obtain ⟨p0, p1, p2, p3⟩ := id hP
  have hKp : Kp t B g g := Kp.rf hScr
  have hFz : ∀ j, ((9 ≤ j ∧ j ≤ 113) ∨ j = 115 ∨ 124 ≤ j) → g j = g j := fun _ _ => rfl
  refine lv_iconst (v := 0) C.x C.b dX0_sift_0 (by decide) ?_
  refine lv_istore (lv' := [(4, .int 0), (0, .ref (B + 113)), (1, .int (nI f)), (2, .int (ey &&& (-9))), (3, .int (nI mk))]) C.x C.b dX0_sift_1 hl (by decide) rfl (fun ls hl => ?_)
  have lp_1 : ∀ (u_2 k_3 : Nat) (g_6 : Nat → va_E) (H : Heap) (locs : List Loc) (ls : Array Slot), k_3 + u_2 = 256 → (∃ cm, g_6 114 = .inl (t.2.1, 256, .inl cm) ∧ (∀ q, cm q = 0 ∨ cm q = 1) ∧ (∀ s, s < k_3 → s &&& mk = s → (cm s = 1 ↔ (cm0 s = 1 ∧ (∀ i, i < f → alikeR (obR o' n w' wi (nI s) (ey &&& 7) (16 * q + rp 0)) (obR o' n w' wi (nI s) (ey &&& 7) (16 * q + rp i)))))) ∧ ∀ s, k_3 ≤ s → cm s = cm0 s) → (∀ i, i < f → RunOb t B g_6 (124 + 6 * i) o' n w' ey wi (16 * q + rp i)) → (∀ j, ((9 ≤ j ∧ j ≤ 113) ∨ j = 115 ∨ 124 ≤ j) → g_6 j = g j) → Kp t B g g_6 → St D B s.heap N g_6 H locs → lv_has ls 5 [(0, .ref (B + 113)), (1, .int (nI f)), (2, .int (ey &&& (-9))), (3, .int (nI mk)), (4, .int (nI k_3))] → W p l e (rmOf 3 71 0 0) s m [.ref (B + 113), .int (nI f), .int (ey &&& (-9)), .int (nI mk)].toArray below meth c H locs 0 0 (MQ below (qV D B N (fun g' => Kp t B g g' ∧ (∀ j, ((9 ≤ j ∧ j ≤ 113) ∨ j = 115 ∨ 124 ≤ j) → g' j = g j) ∧ (∀ i, i < f → RunOb t B g' (124 + 6 * i) o' n w' ey wi (16 * q + rp i)) ∧ ∃ cm, g' 114 = .inl (t.2.1, 256, .inl cm) ∧ (∀ q, cm q = 0 ∨ cm q = 1) ∧ ∀ s, s < 256 → s &&& mk = s → (cm s = 1 ↔ (cm0 s = 1 ∧ (∀ i, i < f → alikeR (obR o' n w' wi (nI s) (ey &&& 7) (16 * q + rp 0)) (obR o' n w' wi (nI s) (ey &&& 7) (16 * q + rp i))))))) [.ref (B + 113), .int (nI f), .int (ey &&& (-9)), .int (nI mk)].toArray s 0 0 (fun q => B ≤ q)) (F0 m 3 ls []) := by
    intro u_2
    induction u_2 with
    | zero =>
      intro k_3 g_6 H locs ls hk_4 hcm1_7 hr2_8 hz1_9 hKp hS hl
      obtain rfl : 256 = k_3 := by omega
      have hFz := hz1_9
      obtain ⟨cm_10, e_11, h_12, hA_13, hB_14⟩ := hcm1_7
      refine lv_iload C.x C.b dX0_sift_3 (lv_at hl 4 rfl) ?_
      refine lv_sipush (v := 256) C.x C.b dX0_sift_5 (by decide) ?_
      refine lv_icmp_ge (tgt := 51) C.x C.b dX0_sift_8 (by decide) (fun c_15 => ?_) (fun c_15 => absurd (by decide) c_15)
      exact r_vret C hr hlocks hS ⟨hKp, hFz, hr2_8, cm_10, e_11, h_12, hA_13⟩ dX0_sift_51
    | succ u_2 ih_5 =>
      intro k_3 g_6 H locs ls hk_4 hcm1_7 hr2_8 hz1_9 hKp hS hl
      have hFz := hz1_9
      obtain ⟨cm_16, e_17, h_18, hA_19, hB_20⟩ := hcm1_7
      refine lv_iload C.x C.b dX0_sift_3 (lv_at hl 4 rfl) ?_
      refine lv_sipush (v := 256) C.x C.b dX0_sift_5 (by decide) ?_
      refine lv_icmp_ge (tgt := 51) C.x C.b dX0_sift_8 (by decide) (fun c_21 => absurd c_21 (nI_ge (a := k_3) (b := 256) (by omega) (by decide))) (fun c_21 => ?_)
      refine lv_iload C.x C.b dX0_sift_11 (lv_at hl 4 rfl) ?_
      refine lv_iload_n C.x C.b dX0_sift_13 rfl (lv_at hl 3 rfl) ?_
      refine lv_iconst (v := (-1)) C.x C.b dX0_sift_14 (by decide) ?_
      refine lv_ixor C.x C.b dX0_sift_15 ?_
      refine lv_iand C.x C.b dX0_sift_16 ?_
      refine lv_if_ne (tgt := 45) C.x C.b dX0_sift_17 (by decide) (fun c_22 => ?_) (fun c_22 => ?_)
      · skip
        refine lv_iinc (v := nI (k_3 + 1)) (lv' := [(4, .int (nI (k_3 + 1))), (0, .ref (B + 113)), (1, .int (nI f)), (2, .int (ey &&& (-9))), (3, .int (nI mk))]) C.x C.b dX0_sift_45 hl (k := 4) rfl (nI_1 k_3) (by decide) rfl (fun ls hl => ?_)
        refine lv_goto (tgt := 3) C.x C.b dX0_sift_48 (by decide) ?_
        exact ih_5 (k_3 + 1) g_6 _ _ _ (by omega) ⟨_, e_17, h_18, sif_s hA_19 (sif_no c_22), sif_b hB_20⟩ hr2_8 hFz hKp hS (lv_sub hl [1, 2, 3, 4, 0] rfl)
      · skip
        refine lv_aload_n C.x C.b dX0_sift_20 rfl (lv_at hl 0 rfl) ?_
        obtain ⟨v_23, e_24, hz_25⟩ := hKp.2.2.2.2.2.2.2.2.1
        refine r_get ck0 flX0_9 C hS (by omega) e_24 (by decide) rfl dX0_sift_21 ?_
        refine lv_iload C.x C.b dX0_sift_24 (lv_at hl 4 rfl) ?_
        refine r_zaldN k_3 rfl (by omega) (by decide) C hS (by omega) e_17 dX0_sift_26 ?_
        refine lv_if_eq (tgt := 45) C.x C.b dX0_sift_27 (by decide) (fun c_26 => ?_) (fun c_26 => ?_)
        · skip
          refine lv_iinc (v := nI (k_3 + 1)) (lv' := [(4, .int (nI (k_3 + 1))), (0, .ref (B + 113)), (1, .int (nI f)), (2, .int (ey &&& (-9))), (3, .int (nI mk))]) C.x C.b dX0_sift_45 hl (k := 4) rfl (nI_1 k_3) (by decide) rfl (fun ls hl => ?_)
          refine lv_goto (tgt := 3) C.x C.b dX0_sift_48 (by decide) ?_
          exact ih_5 (k_3 + 1) g_6 _ _ _ (by omega) ⟨_, e_17, h_18, sif_s hA_19 (fun _ => sif_0 (hB_20 k_3 (Nat.le_refl _)) c_26), sif_b hB_20⟩ hr2_8 hFz hKp hS (lv_sub hl [1, 2, 3, 4, 0] rfl)
        · skip
          refine lv_aload_n C.x C.b dX0_sift_30 rfl (lv_at hl 0 rfl) ?_
          refine r_get ck0 flX0_9 C hS (by omega) e_24 (by decide) rfl dX0_sift_31 ?_
          refine lv_iload C.x C.b dX0_sift_34 (lv_at hl 4 rfl) ?_
          refine lv_aload_n C.x C.b dX0_sift_36 rfl (lv_at hl 0 rfl) ?_
          refine lv_iload_n C.x C.b dX0_sift_37 rfl (lv_at hl 1 rfl) ?_
          refine lv_iload_n C.x C.b dX0_sift_38 rfl (lv_at hl 2 rfl) ?_
          refine lv_iload C.x C.b dX0_sift_39 (lv_at hl 4 rfl) ?_
          have e_27 : g_6 1 = .inr (3, [.ref (B + (1 + 1)), .ref (B + (1 + 2)), .ref (B + (1 + 3)), .int (nI n)]) := (hKp.1 _ (by omega)).trans p0
          have e_28 : g_6 (1 + 1) = .inl (t.1, 8, .inl o) := (hKp.1 _ (by omega)).trans p1
          have e_29 : g_6 (1 + 2) = .inl (t.1, 8, .inl pr) := (hKp.1 _ (by omega)).trans p2
          have e_30 : g_6 (1 + 3) = .inl (t.1, 8, .inl w) := (hKp.1 _ (by omega)).trans p3
          have e_31 : g_6 5 = .inr (6, [.int ey, .int wi, .int ev]) := (hKp.1 _ (by omega)).trans hW
          refine r_callV (b := 113) (As := [.int (nI f), .int (ey &&& (-9)), .int (nI k_3)]) (rest := [.int (nI k_3), .ref (B + 114)]) (x_X0_seenAlike l D t B N g_6 _ _ _ _ _ _ _ o' w' q f rp (nI k_3) (by omega) ⟨e_27, e_28, e_29, e_30⟩ (by omega) e_31 hKp.2 hE hW2 hO hoe hwd (by omega) (by omega) (fun k hk => (hr2_8 k hk).keep (fun j h1 h2 => rfl))) mf_yX0_seenAlike mlX0_70 im_yX0_seenAlike se_yX0_seenAlike (by decide) C hS (by omega) e_24 (show vwCl[0]? = some _ from rfl) rfl rfl hl.1 rfl (Nat.le_of_ble_eq_true rfl) dX0_sift_41 ⟨Nat.zero_le _, Nat.zero_le _⟩ (fun r_34 g_32 H locs w_33 hS => ?_)
          obtain ⟨w_33, hf_35, al_36⟩ := w_33
          replace hKp : Kp t B g g_32 := hKp.tr w_33
          replace hFz : ∀ j, ((9 ≤ j ∧ j ≤ 113) ∨ j = 115 ∨ 124 ≤ j) → g_32 j = g j := fun j hj => (hf_35 j (by omega)).trans (hFz j hj)
          have e_41 : g_32 114 = .inl (t.2.1, 256, .inl cm_16) := (hf_35 _ (by omega)).trans e_17
          rcases al_36 with ⟨rfl, ha_37⟩ | ⟨rfl, i_38, hi_39, hn_40⟩
          · skip
            refine r_zastN k_3 rfl (by omega) (by decide) (by decide) C hS (by omega) e_41 dX0_sift_44 (fun g_42 H locs e_43 o_44 hS => ?_)
            replace e_43 : g_42 114 = .inl (t.2.1, 256, .inl (upd cm_16 k_3 1)) := e_43
            replace hKp : Kp t B g g_42 := hKp.cal e_43 (upd01 h_18 _ (by decide)) o_44
            replace hFz : ∀ j, ((9 ≤ j ∧ j ≤ 113) ∨ j = 115 ∨ 124 ≤ j) → g_42 j = g j := fun j hj => (o_44 j (by omega)).trans (hFz j hj)
            refine lv_iinc (v := nI (k_3 + 1)) (lv' := [(4, .int (nI (k_3 + 1))), (0, .ref (B + 113)), (1, .int (nI f)), (2, .int (ey &&& (-9))), (3, .int (nI mk))]) C.x C.b dX0_sift_45 hl (k := 4) rfl (nI_1 k_3) (by decide) rfl (fun ls hl => ?_)
            refine lv_goto (tgt := 3) C.x C.b dX0_sift_48 (by decide) ?_
            exact ih_5 (k_3 + 1) g_42 _ _ _ (by omega) ⟨_, e_43, upd01 h_18 _ (Or.inr rfl), sif_p hA_19 (fun _ => sif_1 (hB_20 k_3 (Nat.le_refl _)) (h_18 k_3) c_26 ha_37), sif_q hB_20⟩ (fun k hk => (hr2_8 k hk).keep (fun j h1 h2 => (o_44 j (by omega)).trans ((hf_35 j (by omega))))) hFz hKp hS (lv_sub hl [1, 2, 3, 4, 0] rfl)
          · skip
            refine r_zastN k_3 rfl (by omega) (by decide) (by decide) C hS (by omega) e_41 dX0_sift_44 (fun g_45 H locs e_46 o_47 hS => ?_)
            replace e_46 : g_45 114 = .inl (t.2.1, 256, .inl (upd cm_16 k_3 0)) := e_46
            replace hKp : Kp t B g g_45 := hKp.cal e_46 (upd01 h_18 _ (by decide)) o_47
            replace hFz : ∀ j, ((9 ≤ j ∧ j ≤ 113) ∨ j = 115 ∨ 124 ≤ j) → g_45 j = g j := fun j hj => (o_47 j (by omega)).trans (hFz j hj)
            refine lv_iinc (v := nI (k_3 + 1)) (lv' := [(4, .int (nI (k_3 + 1))), (0, .ref (B + 113)), (1, .int (nI f)), (2, .int (ey &&& (-9))), (3, .int (nI mk))]) C.x C.b dX0_sift_45 hl (k := 4) rfl (nI_1 k_3) (by decide) rfl (fun ls hl => ?_)
            refine lv_goto (tgt := 3) C.x C.b dX0_sift_48 (by decide) ?_
            exact ih_5 (k_3 + 1) g_45 _ _ _ (by omega) ⟨_, e_46, upd01 h_18 _ (Or.inl rfl), sif_p hA_19 (fun _ => sif_2 (fun q9 => hn_40 (q9 i_38 hi_39))), sif_q hB_20⟩ (fun k hk => (hr2_8 k hk).keep (fun j h1 h2 => (o_47 j (by omega)).trans ((hf_35 j (by omega))))) hFz hKp hS (lv_sub hl [1, 2, 3, 4, 0] rfl)
  exact lp_1 256 0 g _ _ _ (by omega) ⟨cm0, hcm, h01, fun s h => absurd h (Nat.not_lt_zero _), fun _ _ => rfl⟩ hru hFz hKp hS (lv_sub hl [1, 2, 3, 4, 0] rfl)
