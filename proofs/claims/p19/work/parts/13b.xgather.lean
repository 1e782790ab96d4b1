theorem eyes_c {ey : Int32} (h : okE ey) : (((ey &&& -9) &&& 1) = 0 ↔ ((ey &&& 7) &&& 1) = 0) ∧ (((ey &&& -9) &&& 8) = 0 ↔ ((ey &&& 7) &&& 8) = 0) ∧ (((ey &&& 7) &&& 2) = 0 ↔ (ey &&& 2) = 0) ∧ (((ey &&& 7) &&& 4) = 0 ↔ (ey &&& 4) = 0) := by
  obtain ⟨k, hk, rfl⟩ := okE_nI h
  obtain ⟨e1, e8, e8b, e2, e4, -⟩ := eyes_all k hk
  exact ⟨e1, ⟨fun _ => e8b, fun _ => e8⟩, e2, e4⟩
theorem al_1 {X : Nat → RW} : ∀ i, i < 1 → alikeR (X 0) (X i) := fun i hi => by
  obtain rfl : i = 0 := by omega
  exact alikeR_rf _
section GAT
variable {f K i : Nat} {rp : Nat → Nat}
theorem gat_0A (h : (K = 0 ∧ f = 0) ∨ (1 ≤ f ∧ rp 0 = 0)) (hi : i < f) : (K + 1 = 0 ∧ f = 0) ∨ (1 ≤ f ∧ rp 0 = 0) := by
  rcases h with h | h
  · omega
  · exact Or.inr h
theorem gat_0B (h : (K = 0 ∧ f = 0) ∨ (1 ≤ f ∧ rp 0 = 0)) : (K + 1 = 0 ∧ f + 1 = 0) ∨ (1 ≤ f + 1 ∧ va_up rp f K 0 = 0) := by
  refine Or.inr ⟨by omega, ?_⟩
  rcases h with ⟨h1, h2⟩ | ⟨h1, h2⟩
  · subst h2
    rw [va_up_s]
    exact h1
  · rw [va_up_n (by omega)]
    exact h2
theorem gat_1 (h : (16 = 0 ∧ f = 0) ∨ (1 ≤ f ∧ rp 0 = 0)) : 1 ≤ f := by
  rcases h with h | h
  · exact absurd h.1 (by decide)
  · exact h.1
theorem gat_2 (h : (16 = 0 ∧ f = 0) ∨ (1 ≤ f ∧ rp 0 = 0)) : rp 0 = 0 := by
  rcases h with h | h
  · exact absurd h.1 (by decide)
  · exact h.2
theorem gat_rp (h : ∀ i, i < f → rp i < K) : ∀ i, i < f + 1 → va_up rp f K i < K + 1 := fun i hi => by
  by_cases e : i = f
  · subst e
    rw [va_up_s]
    omega
  · rw [va_up_n e]
    have := h i (by omega)
    omega
theorem gat_ru {P : Nat → Nat → Prop} (h : ∀ i, i < f → P i (rp i)) (hf : P f K) : ∀ i, i < f + 1 → P i (va_up rp f K i) := fun i hi => by
  by_cases e : i = f
  · subst e
    rw [va_up_s]
    exact hf
  · rw [va_up_n e]
    exact h i (by omega)
theorem gat_cvA {X : Int32 → Nat → RW} (h : ∀ b, b < K → ∃ i, i < f ∧ ∀ x, alikeR (X x b) (X x (rp i))) (hk : ∃ i, i < f ∧ ∀ x, alikeR (X x K) (X x (rp i))) : ∀ b, b < K + 1 → ∃ i, i < f ∧ ∀ x, alikeR (X x b) (X x (rp i)) := fun b hb => by
  by_cases e : b = K
  · subst e
    exact hk
  · exact h b (by omega)
theorem gat_cvB {X : Int32 → Nat → RW} (h : ∀ b, b < K → ∃ i, i < f ∧ ∀ x, alikeR (X x b) (X x (rp i))) : ∀ b, b < K + 1 → ∃ i, i < f + 1 ∧ ∀ x, alikeR (X x b) (X x (va_up rp f K i)) := fun b hb => by
  by_cases e : b = K
  · subst e
    exact ⟨f, by omega, fun x => by rw [va_up_s]; exact alikeR_rf _⟩
  · obtain ⟨i, hi, ha⟩ := h b (by omega)
    exact ⟨i, by omega, fun x => by rw [va_up_n (by omega)]; exact ha x⟩
end GAT

set_option maxHeartbeats 1000000 in
set_option maxRecDepth 100000 in
theorem x_X0_isNew (l : Launch) (D : va_G) (t : Gx) (B N : Nat) (g : Nat → va_E) (o' w' : Nat → Int32) (n q b f : Nat) (rp : Nat → Nat) (ey wi kn : Int32) (hN : 220 ≤ N) (hFx : sFix t B g) (h113 : g 113 = .inr (0, [.ref (B + 114), .ref (B + 115), .ref (B + 116), .ref (B + 120), .int kn])) (hoe : okE ey) (hf : f < 16) (hX : RunOb t B g (124 + 6 * f) o' n w' ey wi (16 * q + b)) (hY : ∀ k, k < f → RunOb t B g (124 + 6 * k) o' n w' ey wi (16 * q + rp k)) : Ci l D t B N yX0_isNew cX0_isNew 4 (some .boolean) 2 45 g [.ref (B + 113), .int (nI f), .int ey] (fun r g' => g = g' ∧ ((r = 0 ∧ ∃ i, i < f ∧ ∀ x, alikeR (obR o' n w' wi x (ey &&& 7) (16 * q + b)) (obR o' n w' wi x (ey &&& 7) (16 * q + rp i))) ∨ r = 1)) := by
  refine Ci.start (by decide) (Nat.le_of_ble_eq_true rfl) ?_
  intro p e s m below meth c ls C hr hlocks hS hl
  replace C : Cx D t p s m [.ref (B + 113), .int (nI f), .int ey].toArray c cX0_isNew 4 RX0 := C
  replace hl : lv_has ls 4 [(0, .ref (B + 113)), (1, .int (nI f)), (2, .int ey)] := hl
  obtain ⟨ep, ew, en, ct, ec, len, st, vi, an, sp, ⟨r0, r1, r2, r3, r4, r5⟩, hl1, hs1, hV1⟩ := id hX
  refine lv_iconst (v := 0) C.x C.b dX0_isNew_0 (by decide) ?_
  refine lv_istore_n (lv' := [(3, .int 0), (0, .ref (B + 113)), (1, .int (nI f)), (2, .int ey)]) C.x C.b dX0_isNew_1 rfl hl (by decide) rfl (fun ls hl => ?_)
  have lp_1 : ∀ (u_2 k_3 : Nat) (H : Heap) (locs : List Loc) (ls : Array Slot), k_3 + u_2 = f → St D B s.heap N g H locs → lv_has ls 4 [(0, .ref (B + 113)), (1, .int (nI f)), (2, .int ey), (3, .int (nI k_3))] → W p l e (rmOf 2 45 0 0) s m [.ref (B + 113), .int (nI f), .int ey].toArray below meth c H locs 0 0 (MQ below (qI D B N (fun r g' => g = g' ∧ ((r = 0 ∧ ∃ i, i < f ∧ ∀ x, alikeR (obR o' n w' wi x (ey &&& 7) (16 * q + b)) (obR o' n w' wi x (ey &&& 7) (16 * q + rp i))) ∨ r = 1))) [.ref (B + 113), .int (nI f), .int ey].toArray s 0 0 (fun q => B ≤ q)) (F0 m 2 ls []) := by
    intro u_2
    induction u_2 with
    | zero =>
      intro k_3 H locs ls hk_4 hS hl
      obtain rfl : f = k_3 := by omega
      refine lv_iload_n C.x C.b dX0_isNew_2 rfl (lv_at hl 3 rfl) ?_
      refine lv_iload_n C.x C.b dX0_isNew_3 rfl (lv_at hl 1 rfl) ?_
      refine lv_icmp_ge (tgt := 34) C.x C.b dX0_isNew_4 (by decide) (fun c_7 => ?_) (fun c_7 => absurd (nI_le (Nat.le_refl _) (by omega)) c_7)
      refine lv_iconst (v := 1) C.x C.b dX0_isNew_34 (by decide) ?_
      exact r_zret C hr hlocks hS (by decide) ⟨rfl, Or.inr rfl⟩ dX0_isNew_35
    | succ u_2 ih_5 =>
      intro k_3 H locs ls hk_4 hS hl
      refine lv_iload_n C.x C.b dX0_isNew_2 rfl (lv_at hl 3 rfl) ?_
      refine lv_iload_n C.x C.b dX0_isNew_3 rfl (lv_at hl 1 rfl) ?_
      refine lv_icmp_ge (tgt := 34) C.x C.b dX0_isNew_4 (by decide) (fun c_8 => absurd c_8 (nI_ge (a := k_3) (b := f) (by omega) (by omega))) (fun c_8 => ?_)
      refine lv_aload_n C.x C.b dX0_isNew_7 rfl (lv_at hl 0 rfl) ?_
      refine r_get ck0 flX0_17 C hS (by omega) h113 (by decide) rfl dX0_isNew_8 ?_
      refine lv_iload_n C.x C.b dX0_isNew_11 rfl (lv_at hl 1 rfl) ?_
      refine r_aald f rfl (by omega) (by decide) (ruQ_at (by omega)) C hS (by omega) 3 rfl rfl hFx.2.2.2 dX0_isNew_12 ?_
      refine lv_aload_n C.x C.b dX0_isNew_13 rfl (lv_at hl 0 rfl) ?_
      refine r_get ck0 flX0_17 C hS (by omega) h113 (by decide) rfl dX0_isNew_14 ?_
      refine lv_iload_n C.x C.b dX0_isNew_17 rfl (lv_at hl 3 rfl) ?_
      refine r_aald k_3 rfl (by omega) (by decide) (ruQ_at (by omega)) C hS (by omega) 3 rfl rfl hFx.2.2.2 dX0_isNew_18 ?_
      obtain ⟨q_9, q_10, q_11, q_12, q_13, q_14, q_15, q_16, q_17, q_18, ⟨e_19, e_20, e_21, e_22, e_23, e_24⟩, hl_25, hs_26, hV_27⟩ := id (hY k_3 (by omega))
      refine lv_iload_n C.x C.b dX0_isNew_19 rfl (lv_at hl 2 rfl) ?_
      refine r_callV (b := (124 + 6 * f)) (As := [.ref (B + (124 + 6 * k_3)), .int ey]) (rest := []) (c_X5_alwaysSeenAs l D t B N g (124 + 6 * f) _ _ _ _ _ _ _ _ _ _ (124 + 6 * k_3) _ _ _ _ _ _ _ _ _ _ ey (by omega) ⟨r0, r1, r2, r3, r4, r5⟩ (by omega) ⟨e_19, e_20, e_21, e_22, e_23, e_24⟩ (by omega) (by omega)) mf_yX5_alwaysSeenAs mlX0_66 im_yX5_alwaysSeenAs se_yX5_alwaysSeenAs (by decide) C hS (by omega) r0 (show vwCl[5]? = some _ from rfl) rfl rfl hl.1 rfl (Nat.le_of_ble_eq_true rfl) dX0_isNew_20 ⟨Nat.zero_le _, Nat.zero_le _⟩ (fun r_30 g_28 H locs w_29 hS => ?_)
      obtain ⟨rfl, er_30⟩ := w_29
      by_cases b_31 : alike ey ep ew en ct ec len sp q_9 q_10 q_11 q_12 q_13 q_14 q_18
      · rw [bz_t b_31] at er_30
        subst er_30
        refine lv_if_eq (tgt := 28) C.x C.b dX0_isNew_23 (by decide) (fun c_32 => absurd c_32 (by decide)) (fun c_32 => ?_)
        refine lv_iconst (v := 0) C.x C.b dX0_isNew_26 (by decide) ?_
        exact r_zret C hr hlocks hS (by decide) ⟨rfl, Or.inl ⟨rfl, k_3, by omega, fun x => run_alike hoe hV1 hV_27 b_31 x⟩⟩ dX0_isNew_27
      · rw [bz_f b_31] at er_30
        subst er_30
        refine lv_if_eq (tgt := 28) C.x C.b dX0_isNew_23 (by decide) (fun c_33 => ?_) (fun c_33 => absurd (by decide) c_33)
        refine lv_iinc (v := nI (k_3 + 1)) (lv' := [(3, .int (nI (k_3 + 1))), (0, .ref (B + 113)), (1, .int (nI f)), (2, .int ey)]) C.x C.b dX0_isNew_28 hl (k := 3) rfl (nI_1 k_3) (by decide) rfl (fun ls hl => ?_)
        refine lv_goto (tgt := 2) C.x C.b dX0_isNew_31 (by decide) ?_
        exact ih_5 (k_3 + 1) _ _ _ (by omega)  hS (lv_sub hl [1, 2, 3, 0] rfl)
  exact lp_1 f 0 _ _ _ (by omega)  hS (lv_sub hl [1, 2, 3, 0] rfl)
set_option maxHeartbeats 1000000 in
set_option maxRecDepth 100000 in
theorem x_X0_gatherRuns (l : Launch) (D : va_G) (t : Gx) (B N : Nat) (g : Nat → va_E) (o pr w : Nat → Int32) (n : Nat) (ey wi ev : Int32) (o' w' : Nat → Int32) (q : Nat) (hN : 220 ≤ N) (hP : isProg t B g 1 o pr w n) (hn : n ≤ 8) (hW : isWat g 5 ey wi ev) (hScr : Scr t B g) (hE : ∀ q, q < n → o q = o' q) (hW2 : ∀ q, q < 8 → w q = w' q) (hO : okO o') (hoe : okE ey) (hwd : isWd wi) (hq : q < 16) : Ci l D t B N yX0_gatherRuns cX0_gatherRuns 7 (some .int) 4 104 g [.ref (B + 113), .ref (B + 6), .ref (B + 1), .ref (B + 5), .int (nI q)] (fun r g' => Kp t B g g' ∧ (∀ j, (9 ≤ j ∧ j ≤ 123) → g' j = g j) ∧ (∃ (f : Nat) (rp : Nat → Nat), r = nI f ∧ 1 ≤ f ∧ f ≤ 16 ∧ rp 0 = 0 ∧ (∀ i, i < f → rp i < 16) ∧ (∀ i, i < f → RunOb t B g' (124 + 6 * i) o' n w' ey wi (16 * q + rp i)) ∧ ∀ b, b < 16 → ∃ i, i < f ∧ ∀ x, alikeR (obR o' n w' wi x (ey &&& 7) (16 * q + b)) (obR o' n w' wi x (ey &&& 7) (16 * q + rp i)))) := by
  refine Ci.start (by decide) (Nat.le_of_ble_eq_true rfl) ?_
  intro p e s m below meth c ls C hr hlocks hS hl
  replace C : Cx D t p s m [.ref (B + 113), .ref (B + 6), .ref (B + 1), .ref (B + 5), .int (nI q)].toArray c cX0_gatherRuns 7 RX0 := C
  replace hl : lv_has ls 7 [(0, .ref (B + 113)), (1, .ref (B + 6)), (2, .ref (B + 1)), (3, .ref (B + 5)), (4, .int (nI q))] := hl
  obtain ⟨p0, p1, p2, p3⟩ := id hP
  have hKp : Kp t B g g := Kp.rf hScr
  have hFz : ∀ j, (9 ≤ j ∧ j ≤ 123) → g j = g j := fun _ _ => rfl
  refine lv_iconst (v := 0) C.x C.b dX0_gatherRuns_0 (by decide) ?_
  refine lv_istore (lv' := [(5, .int 0), (0, .ref (B + 113)), (1, .ref (B + 6)), (2, .ref (B + 1)), (3, .ref (B + 5)), (4, .int (nI q))]) C.x C.b dX0_gatherRuns_1 hl (by decide) rfl (fun ls hl => ?_)
  refine lv_iconst (v := 0) C.x C.b dX0_gatherRuns_3 (by decide) ?_
  refine lv_istore (lv' := [(6, .int 0), (5, .int 0), (0, .ref (B + 113)), (1, .ref (B + 6)), (2, .ref (B + 1)), (3, .ref (B + 5)), (4, .int (nI q))]) C.x C.b dX0_gatherRuns_4 hl (by decide) rfl (fun ls hl => ?_)
  have lp_1 : ∀ (u_2 k_3 : Nat) (f_7 : Nat) (rp_8 : Nat → Nat) (g_6 : Nat → va_E) (H : Heap) (locs : List Loc) (ls : Array Slot), k_3 + u_2 = 16 → (f_7 ≤ k_3) → ((k_3 = 0 ∧ f_7 = 0) ∨ (1 ≤ f_7 ∧ rp_8 0 = 0)) → (∀ i, i < f_7 → rp_8 i < k_3) → (∀ i, i < f_7 → RunOb t B g_6 (124 + 6 * i) o' n w' ey wi (16 * q + rp_8 i)) → (∀ b, b < k_3 → ∃ i, i < f_7 ∧ ∀ x, alikeR (obR o' n w' wi x (ey &&& 7) (16 * q + b)) (obR o' n w' wi x (ey &&& 7) (16 * q + rp_8 i))) → (∀ j, (9 ≤ j ∧ j ≤ 123) → g_6 j = g j) → Kp t B g g_6 → St D B s.heap N g_6 H locs → lv_has ls 7 [(0, .ref (B + 113)), (1, .ref (B + 6)), (2, .ref (B + 1)), (3, .ref (B + 5)), (4, .int (nI q)), (5, .int (nI f_7)), (6, .int (nI k_3))] → W p l e (rmOf 4 104 0 0) s m [.ref (B + 113), .ref (B + 6), .ref (B + 1), .ref (B + 5), .int (nI q)].toArray below meth c H locs 0 0 (MQ below (qI D B N (fun r g' => Kp t B g g' ∧ (∀ j, (9 ≤ j ∧ j ≤ 123) → g' j = g j) ∧ (∃ (f : Nat) (rp : Nat → Nat), r = nI f ∧ 1 ≤ f ∧ f ≤ 16 ∧ rp 0 = 0 ∧ (∀ i, i < f → rp i < 16) ∧ (∀ i, i < f → RunOb t B g' (124 + 6 * i) o' n w' ey wi (16 * q + rp i)) ∧ ∀ b, b < 16 → ∃ i, i < f ∧ ∀ x, alikeR (obR o' n w' wi x (ey &&& 7) (16 * q + b)) (obR o' n w' wi x (ey &&& 7) (16 * q + rp i))))) [.ref (B + 113), .ref (B + 6), .ref (B + 1), .ref (B + 5), .int (nI q)].toArray s 0 0 (fun q => B ≤ q)) (F0 m 6 ls []) := by
    intro u_2
    induction u_2 with
    | zero =>
      intro k_3 f_7 rp_8 g_6 H locs ls hk_4 hf_9 h0_10 hrp_11 hru_12 hcv_13 hz1_14 hKp hS hl
      obtain rfl : 16 = k_3 := by omega
      have hFz := hz1_14
      refine lv_iload C.x C.b dX0_gatherRuns_6 (lv_at hl 6 rfl) ?_
      refine lv_bipush (v := 16) C.x C.b dX0_gatherRuns_8 (by decide) ?_
      refine lv_icmp_ge (tgt := 52) C.x C.b dX0_gatherRuns_10 (by decide) (fun c_15 => ?_) (fun c_15 => absurd (by decide) c_15)
      refine lv_iload C.x C.b dX0_gatherRuns_52 (lv_at hl 5 rfl) ?_
      exact r_iret C hr hlocks hS ⟨hKp, hFz, f_7, rp_8, rfl, gat_1 h0_10, hf_9, gat_2 h0_10, hrp_11, hru_12, hcv_13⟩ dX0_gatherRuns_54
    | succ u_2 ih_5 =>
      intro k_3 f_7 rp_8 g_6 H locs ls hk_4 hf_9 h0_10 hrp_11 hru_12 hcv_13 hz1_14 hKp hS hl
      have hFz := hz1_14
      refine lv_iload C.x C.b dX0_gatherRuns_6 (lv_at hl 6 rfl) ?_
      refine lv_bipush (v := 16) C.x C.b dX0_gatherRuns_8 (by decide) ?_
      refine lv_icmp_ge (tgt := 52) C.x C.b dX0_gatherRuns_10 (by decide) (fun c_16 => absurd c_16 (nI_ge (a := k_3) (b := 16) (by omega) (by decide))) (fun c_16 => ?_)
      refine lv_aload_n C.x C.b dX0_gatherRuns_13 rfl (lv_at hl 1 rfl) ?_
      refine lv_aload_n C.x C.b dX0_gatherRuns_14 rfl (lv_at hl 2 rfl) ?_
      refine lv_aload_n C.x C.b dX0_gatherRuns_15 rfl (lv_at hl 3 rfl) ?_
      refine lv_iload C.x C.b dX0_gatherRuns_16 (lv_at hl 4 rfl) ?_
      refine lv_iload C.x C.b dX0_gatherRuns_18 (lv_at hl 6 rfl) ?_
      refine lv_aload_n C.x C.b dX0_gatherRuns_20 rfl (lv_at hl 0 rfl) ?_
      obtain ⟨v_17, e_18, hz_19⟩ := hKp.2.2.2.2.2.2.2.2.1
      refine r_get ck0 flX0_17 C hS (by omega) e_18 (by decide) rfl dX0_gatherRuns_21 ?_
      refine lv_iload C.x C.b dX0_gatherRuns_24 (lv_at hl 5 rfl) ?_
      have e_20 := hKp.2.2.2.2.2.1.2.2.2
      refine r_aald f_7 rfl (by omega) (by decide) (ruQ_at (by omega)) C hS (by omega) 3 rfl rfl e_20 dX0_gatherRuns_26 ?_
      have e_21 : g_6 1 = .inr (3, [.ref (B + (1 + 1)), .ref (B + (1 + 2)), .ref (B + (1 + 3)), .int (nI n)]) := (hKp.1 _ (by omega)).trans p0
      have e_22 : g_6 (1 + 1) = .inl (t.1, 8, .inl o) := (hKp.1 _ (by omega)).trans p1
      have e_23 : g_6 (1 + 2) = .inl (t.1, 8, .inl pr) := (hKp.1 _ (by omega)).trans p2
      have e_24 : g_6 (1 + 3) = .inl (t.1, 8, .inl w) := (hKp.1 _ (by omega)).trans p3
      have e_25 : g_6 5 = .inr (6, [.int ey, .int wi, .int ev]) := (hKp.1 _ (by omega)).trans hW
      obtain ⟨q_29, q_30, q_31, ⟨e_32, e_33, e_34⟩⟩ := hKp.2.2.1
      refine r_callVv (b := 6) (As := [.ref (B + 1), .ref (B + 5), .int (nI q), .int (nI k_3), .ref (B + (124 + 6 * f_7))]) (rest := []) (ke_go l D t B N g_6 _ _ _ _ _ _ _ o' w' (124 + 6 * f_7) q k_3 (by omega) ⟨e_21, e_22, e_23, e_24⟩ e_25 (by omega) (Or.inr (Or.inr ⟨f_7, by omega, rfl⟩)) hKp.2 hE hW2 hO hwd (by omega) (by omega)) mf_yX1_go mlX0_56 im_yX1_go se_yX1_go (by decide) C hS (by omega) e_32 (show vwCl[1]? = some _ from rfl) rfl rfl hl.1 rfl (Nat.le_of_ble_eq_true rfl) dX0_gatherRuns_27 ⟨Nat.zero_le _, Nat.zero_le _⟩ (fun g_26 H locs w_27 hS => ?_)
      obtain ⟨w_27, hR_35, hf_36⟩ := w_27
      replace hKp : Kp t B g g_26 := hKp.tr w_27
      replace hFz : ∀ j, (9 ≤ j ∧ j ≤ 123) → g_26 j = g j := fun j hj => (hf_36 j (by omega)).trans (hFz j hj)
      refine lv_aload_n C.x C.b dX0_gatherRuns_30 rfl (lv_at hl 0 rfl) ?_
      refine lv_iload C.x C.b dX0_gatherRuns_31 (lv_at hl 5 rfl) ?_
      refine lv_aload_n C.x C.b dX0_gatherRuns_33 rfl (lv_at hl 3 rfl) ?_
      have e_37 : g_26 5 = .inr (6, [.int ey, .int wi, .int ev]) := (hKp.1 _ (by omega)).trans hW
      refine r_get ck6 flX0_36 C hS (by omega) e_37 (by decide) rfl dX0_gatherRuns_34 ?_
      obtain ⟨v_38, e_39, hz_40⟩ := hKp.2.2.2.2.2.2.2.2.1
      refine r_callV (b := 113) (As := [.int (nI f_7), .int ey]) (rest := []) (x_X0_isNew l D t B N g_26 o' w' n q k_3 f_7 rp_8 ey wi v_38 (by omega) hKp.2.2.2.2.2.1 e_39 hoe (by omega) hR_35 (fun k hk => (hru_12 k hk).keep (fun j h1 h2 => (hf_36 j (by omega))))) mf_yX0_isNew mlX0_62 im_yX0_isNew se_yX0_isNew (by decide) C hS (by omega) e_39 (show vwCl[0]? = some _ from rfl) rfl rfl hl.1 rfl (Nat.le_of_ble_eq_true rfl) dX0_gatherRuns_37 ⟨Nat.zero_le _, Nat.zero_le _⟩ (fun r_43 g_41 H locs w_42 hS => ?_)
      obtain ⟨rfl, h_44⟩ := w_42
      rcases h_44 with ⟨rfl, i_45, hi_46, ha_47⟩ | rfl
      · skip
        refine lv_if_eq (tgt := 46) C.x C.b dX0_gatherRuns_40 (by decide) (fun c_48 => ?_) (fun c_48 => absurd (by decide) c_48)
        refine lv_iinc (v := nI (k_3 + 1)) (lv' := [(6, .int (nI (k_3 + 1))), (0, .ref (B + 113)), (1, .ref (B + 6)), (2, .ref (B + 1)), (3, .ref (B + 5)), (4, .int (nI q)), (5, .int (nI f_7))]) C.x C.b dX0_gatherRuns_46 hl (k := 6) rfl (nI_1 k_3) (by decide) rfl (fun ls hl => ?_)
        refine lv_goto (tgt := 6) C.x C.b dX0_gatherRuns_49 (by decide) ?_
        exact ih_5 (k_3 + 1) f_7 rp_8 g_26 _ _ _ (by omega) (by omega) (gat_0A h0_10 hi_46) (fun k hk => Nat.lt_succ_of_lt (hrp_11 k hk)) (fun k hk => (hru_12 k hk).keep (fun j h1 h2 => (hf_36 j (by omega)))) (gat_cvA (X := fun x b => obR o' n w' wi x (ey &&& 7) (16 * q + b)) hcv_13 ⟨i_45, hi_46, ha_47⟩) hFz hKp hS (lv_sub hl [1, 2, 3, 4, 5, 6, 0] rfl)
      · skip
        refine lv_if_eq (tgt := 46) C.x C.b dX0_gatherRuns_40 (by decide) (fun c_49 => absurd c_49 (by decide)) (fun c_49 => ?_)
        refine lv_iinc (v := nI (f_7 + 1)) (lv' := [(5, .int (nI (f_7 + 1))), (0, .ref (B + 113)), (1, .ref (B + 6)), (2, .ref (B + 1)), (3, .ref (B + 5)), (4, .int (nI q)), (6, .int (nI k_3))]) C.x C.b dX0_gatherRuns_43 hl (k := 5) rfl (nI_1 f_7) (by decide) rfl (fun ls hl => ?_)
        refine lv_iinc (v := nI (k_3 + 1)) (lv' := [(6, .int (nI (k_3 + 1))), (5, .int (nI (f_7 + 1))), (0, .ref (B + 113)), (1, .ref (B + 6)), (2, .ref (B + 1)), (3, .ref (B + 5)), (4, .int (nI q))]) C.x C.b dX0_gatherRuns_46 hl (k := 6) rfl (nI_1 k_3) (by decide) rfl (fun ls hl => ?_)
        refine lv_goto (tgt := 6) C.x C.b dX0_gatherRuns_49 (by decide) ?_
        exact ih_5 (k_3 + 1) (f_7 + 1) (va_up rp_8 f_7 k_3) g_26 _ _ _ (by omega) (by omega) (gat_0B h0_10 ) (gat_rp hrp_11) (gat_ru (P := fun k b => RunOb t B g_26 (124 + 6 * k) o' n w' ey wi (16 * q + b)) (fun k hk => (hru_12 k hk).keep (fun j h1 h2 => (hf_36 j (by omega)))) hR_35) (gat_cvB (X := fun x b => obR o' n w' wi x (ey &&& 7) (16 * q + b)) hcv_13 ) hFz hKp hS (lv_sub hl [2, 3, 4, 5, 6, 1, 0] rfl)
  exact lp_1 16 0 0 (fun _ => 0) g _ _ _ (by omega) (Nat.le_refl _) (Or.inl ⟨rfl, rfl⟩) (fun k hk => absurd hk (Nat.not_lt_zero _)) (fun k hk => absurd hk (Nat.not_lt_zero _)) (fun k hk => absurd hk (Nat.not_lt_zero _)) hFz hKp hS (lv_sub hl [2, 3, 4, 5, 6, 1, 0] rfl)
set_option maxHeartbeats 1000000 in
set_option maxRecDepth 100000 in
theorem x_X0_seenAlike (l : Launch) (D : va_G) (t : Gx) (B N : Nat) (g : Nat → va_E) (o pr w : Nat → Int32) (n : Nat) (ey wi ev : Int32) (o' w' : Nat → Int32) (q f : Nat) (rp : Nat → Nat) (x : Int32) (hN : 220 ≤ N) (hP : isProg t B g 1 o pr w n) (hn : n ≤ 8) (hW : isWat g 5 ey wi ev) (hScr : Scr t B g) (hE : ∀ q, q < n → o q = o' q) (hW2 : ∀ q, q < 8 → w q = w' q) (hO : okO o') (hoe : okE ey) (hwd : isWd wi) (hf : f ≤ 16) (hf1 : 1 ≤ f) (hru : ∀ i, i < f → RunOb t B g (124 + 6 * i) o' n w' ey wi (16 * q + rp i)) : Ci l D t B N yX0_seenAlike cX0_seenAlike 5 (some .boolean) 2 47 g [.ref (B + 113), .int (nI f), .int (ey &&& (-9)), .int x] (fun r g' => Kp t B g g' ∧ (∀ j, ((9 ≤ j ∧ j ≤ 115) ∨ 124 ≤ j) → g' j = g j) ∧ ((r = 1 ∧ ∀ i, i < f → alikeR (obR o' n w' wi x (ey &&& 7) (16 * q + rp 0)) (obR o' n w' wi x (ey &&& 7) (16 * q + rp i))) ∨ (r = 0 ∧ ∃ i, i < f ∧ ¬ alikeR (obR o' n w' wi x (ey &&& 7) (16 * q + rp 0)) (obR o' n w' wi x (ey &&& 7) (16 * q + rp i))))) := by
  refine Ci.start (by decide) (Nat.le_of_ble_eq_true rfl) ?_
  intro p e s m below meth c ls C hr hlocks hS hl
  replace C : Cx D t p s m [.ref (B + 113), .int (nI f), .int (ey &&& (-9)), .int x].toArray c cX0_seenAlike 5 RX0 := C
  replace hl : lv_has ls 5 [(0, .ref (B + 113)), (1, .int (nI f)), (2, .int (ey &&& (-9))), (3, .int x)] := hl
  obtain ⟨p0, p1, p2, p3⟩ := id hP
  have hKp : Kp t B g g := Kp.rf hScr
  have hFz : ∀ j, ((9 ≤ j ∧ j ≤ 115) ∨ 124 ≤ j) → g j = g j := fun _ _ => rfl
  refine lv_aload_n C.x C.b dX0_seenAlike_0 rfl (lv_at hl 0 rfl) ?_
  obtain ⟨v_1, e_2, hz_3⟩ := hKp.2.2.2.2.2.2.2.2.1
  refine r_get ck0 flX0_24 C hS (by omega) e_2 (by decide) rfl dX0_seenAlike_1 ?_
  refine lv_aload_n C.x C.b dX0_seenAlike_4 rfl (lv_at hl 0 rfl) ?_
  refine r_get ck0 flX0_17 C hS (by omega) e_2 (by decide) rfl dX0_seenAlike_5 ?_
  refine lv_iconst (v := 0) C.x C.b dX0_seenAlike_8 (by decide) ?_
  have e_4 := hKp.2.2.2.2.2.1.2.2.2
  refine r_aald 0 rfl (by omega) (by decide) (ruQ_at (by omega)) C hS (by omega) 3 rfl rfl e_4 dX0_seenAlike_9 ?_
  refine lv_iload_n C.x C.b dX0_seenAlike_10 rfl (lv_at hl 2 rfl) ?_
  refine lv_iload_n C.x C.b dX0_seenAlike_11 rfl (lv_at hl 3 rfl) ?_
  obtain ⟨q_8, q_9, q_10, q_11, ⟨e_12, e_13, e_14, e_15⟩, hl_16⟩ := hKp.2.2.2.2.1 116 (Or.inr (Or.inr (Or.inl rfl)))
  refine r_callVv (b := 116) (As := [.ref (B + (124 + 6 * 0)), .int (ey &&& (-9)), .int x]) (rest := []) (ke_fill l D t B N g o' w' n ey wi (16 * q + rp 0) 116 (124 + 6 * 0) (ey &&& (-9)) x (ey &&& 7) (by omega) (Or.inr (Or.inr (Or.inl rfl))) (Or.inr (Or.inr ⟨0, by omega, rfl⟩)) hKp.2 (hru 0 (by omega)) (eyes_c hoe).1 (eyes_c hoe).2.1 (eyes_c hoe).2.2.1 (eyes_c hoe).2.2.2) mf_yX4_fill mlX0_74 im_yX4_fill se_yX4_fill (by decide) C hS (by omega) e_12 (show vwCl[4]? = some _ from rfl) rfl rfl hl.1 rfl (Nat.le_of_ble_eq_true rfl) dX0_seenAlike_12 ⟨Nat.zero_le _, Nat.zero_le _⟩ (fun g_5 H locs w_6 hS => ?_)
  obtain ⟨w_6, hR_17, hf_18⟩ := w_6
  have ob_19 := (hru 0 (by omega)).keep (g' := g_5) (fun j h1 h2 => hf_18 j (by omega))
  replace hKp : Kp t B g g_5 := hKp.tr w_6
  replace hFz : ∀ j, ((9 ≤ j ∧ j ≤ 115) ∨ 124 ≤ j) → g_5 j = g j := fun j hj => (hf_18 j (by omega)).trans (hFz j hj)
  refine lv_iconst (v := 1) C.x C.b dX0_seenAlike_15 (by decide) ?_
  refine lv_istore (lv' := [(4, .int 1), (0, .ref (B + 113)), (1, .int (nI f)), (2, .int (ey &&& (-9))), (3, .int x)]) C.x C.b dX0_seenAlike_16 hl (by decide) rfl (fun ls hl => ?_)
  have lp_20 : ∀ (u_21 k_22 : Nat) (g_25 : Nat → va_E) (H : Heap) (locs : List Loc) (ls : Array Slot), k_22 + u_21 = f → (∀ i, i < f → RunOb t B g_25 (124 + 6 * i) o' n w' ey wi (16 * q + rp i)) → (RowOb t B g_25 116 (obR o' n w' wi x (ey &&& 7) (16 * q + rp 0))) → (∀ i, i < k_22 → alikeR (obR o' n w' wi x (ey &&& 7) (16 * q + rp 0)) (obR o' n w' wi x (ey &&& 7) (16 * q + rp i))) → (∀ j, ((9 ≤ j ∧ j ≤ 115) ∨ 124 ≤ j) → g_25 j = g j) → Kp t B g g_25 → St D B s.heap N g_25 H locs → lv_has ls 5 [(0, .ref (B + 113)), (1, .int (nI f)), (2, .int (ey &&& (-9))), (3, .int x), (4, .int (nI k_22))] → W p l e (rmOf 2 47 0 0) s m [.ref (B + 113), .int (nI f), .int (ey &&& (-9)), .int x].toArray below meth c H locs 0 0 (MQ below (qI D B N (fun r g' => Kp t B g g' ∧ (∀ j, ((9 ≤ j ∧ j ≤ 115) ∨ 124 ≤ j) → g' j = g j) ∧ ((r = 1 ∧ ∀ i, i < f → alikeR (obR o' n w' wi x (ey &&& 7) (16 * q + rp 0)) (obR o' n w' wi x (ey &&& 7) (16 * q + rp i))) ∨ (r = 0 ∧ ∃ i, i < f ∧ ¬ alikeR (obR o' n w' wi x (ey &&& 7) (16 * q + rp 0)) (obR o' n w' wi x (ey &&& 7) (16 * q + rp i)))))) [.ref (B + 113), .int (nI f), .int (ey &&& (-9)), .int x].toArray s 0 0 (fun q => B ≤ q)) (F0 m 18 ls []) := by
    intro u_21
    induction u_21 with
    | zero =>
      intro k_22 g_25 H locs ls hk_23 hr2_26 h116_27 hal_28 hz1_29 hKp hS hl
      obtain rfl : f = k_22 := by omega
      have hFz := hz1_29
      refine lv_iload C.x C.b dX0_seenAlike_18 (lv_at hl 4 rfl) ?_
      refine lv_iload_n C.x C.b dX0_seenAlike_20 rfl (lv_at hl 1 rfl) ?_
      refine lv_icmp_ge (tgt := 63) C.x C.b dX0_seenAlike_21 (by decide) (fun c_30 => ?_) (fun c_30 => absurd (nI_le (Nat.le_refl _) (by omega)) c_30)
      refine lv_iconst (v := 1) C.x C.b dX0_seenAlike_63 (by decide) ?_
      exact r_zret C hr hlocks hS (by decide) ⟨hKp, hFz, Or.inl ⟨rfl, hal_28⟩⟩ dX0_seenAlike_64
    | succ u_21 ih_24 =>
      intro k_22 g_25 H locs ls hk_23 hr2_26 h116_27 hal_28 hz1_29 hKp hS hl
      have hFz := hz1_29
      refine lv_iload C.x C.b dX0_seenAlike_18 (lv_at hl 4 rfl) ?_
      refine lv_iload_n C.x C.b dX0_seenAlike_20 rfl (lv_at hl 1 rfl) ?_
      refine lv_icmp_ge (tgt := 63) C.x C.b dX0_seenAlike_21 (by decide) (fun c_31 => absurd c_31 (nI_ge (a := k_22) (b := f) (by omega) (by omega))) (fun c_31 => ?_)
      have hk_32 := hr2_26 k_22 (by omega)
      refine lv_aload_n C.x C.b dX0_seenAlike_24 rfl (lv_at hl 0 rfl) ?_
      obtain ⟨v_33, e_34, hz_35⟩ := hKp.2.2.2.2.2.2.2.2.1
      refine r_get ck0 flX0_28 C hS (by omega) e_34 (by decide) rfl dX0_seenAlike_25 ?_
      refine lv_aload_n C.x C.b dX0_seenAlike_28 rfl (lv_at hl 0 rfl) ?_
      refine r_get ck0 flX0_17 C hS (by omega) e_34 (by decide) rfl dX0_seenAlike_29 ?_
      refine lv_iload C.x C.b dX0_seenAlike_32 (lv_at hl 4 rfl) ?_
      have e_36 := hKp.2.2.2.2.2.1.2.2.2
      refine r_aald k_22 rfl (by omega) (by decide) (ruQ_at (by omega)) C hS (by omega) 3 rfl rfl e_36 dX0_seenAlike_34 ?_
      refine lv_iload_n C.x C.b dX0_seenAlike_35 rfl (lv_at hl 2 rfl) ?_
      refine lv_iload_n C.x C.b dX0_seenAlike_36 rfl (lv_at hl 3 rfl) ?_
      obtain ⟨q_40, q_41, q_42, q_43, ⟨e_44, e_45, e_46, e_47⟩, hl_48⟩ := hKp.2.2.2.2.1 120 (Or.inr (Or.inr (Or.inr (Or.inl rfl))))
      refine r_callVv (b := 120) (As := [.ref (B + (124 + 6 * k_22)), .int (ey &&& (-9)), .int x]) (rest := []) (ke_fill l D t B N g_25 o' w' n ey wi (16 * q + rp k_22) 120 (124 + 6 * k_22) (ey &&& (-9)) x (ey &&& 7) (by omega) (Or.inr (Or.inr (Or.inr (Or.inl rfl)))) (Or.inr (Or.inr ⟨k_22, by omega, rfl⟩)) hKp.2 hk_32 (eyes_c hoe).1 (eyes_c hoe).2.1 (eyes_c hoe).2.2.1 (eyes_c hoe).2.2.2) mf_yX4_fill mlX0_74 im_yX4_fill se_yX4_fill (by decide) C hS (by omega) e_44 (show vwCl[4]? = some _ from rfl) rfl rfl hl.1 rfl (Nat.le_of_ble_eq_true rfl) dX0_seenAlike_37 ⟨Nat.zero_le _, Nat.zero_le _⟩ (fun g_37 H locs w_38 hS => ?_)
      obtain ⟨w_38, hR_49, hf_50⟩ := w_38
      have ob_51 := h116_27.keep (g' := g_37) (fun j h1 h2 => hf_50 j (by omega))
      have ob_52 := hk_32.keep (g' := g_37) (fun j h1 h2 => hf_50 j (by omega))
      replace hKp : Kp t B g g_37 := hKp.tr w_38
      replace hFz : ∀ j, ((9 ≤ j ∧ j ≤ 115) ∨ 124 ≤ j) → g_37 j = g j := fun j hj => (hf_50 j (by omega)).trans (hFz j hj)
      obtain ⟨q_53, q_54, q_55, q_56, ⟨e_57, e_58, e_59, e_60⟩, hl_61, hq_62⟩ := id ob_51
      obtain ⟨q_63, q_64, q_65, q_66, ⟨e_67, e_68, e_69, e_70⟩, hl_71, hq_72⟩ := id hR_49
      refine lv_aload_n C.x C.b dX0_seenAlike_40 rfl (lv_at hl 0 rfl) ?_
      obtain ⟨v_73, e_74, hz_75⟩ := hKp.2.2.2.2.2.2.2.2.1
      refine r_get ck0 flX0_24 C hS (by omega) e_74 (by decide) rfl dX0_seenAlike_41 ?_
      refine lv_aload_n C.x C.b dX0_seenAlike_44 rfl (lv_at hl 0 rfl) ?_
      refine r_get ck0 flX0_28 C hS (by omega) e_74 (by decide) rfl dX0_seenAlike_45 ?_
      refine r_callV (b := 116) (As := [.ref (B + 120)]) (rest := []) (c_X4_firstOtherwise l D t B N g_37 116 _ _ _ _ 120 _ _ _ _ (by omega) ⟨e_57, e_58, e_59, e_60⟩ (by omega) ⟨e_67, e_68, e_69, e_70⟩ (by omega) (by omega)) mf_yX4_firstOtherwise mlX0_78 im_yX4_firstOtherwise se_yX4_firstOtherwise (by decide) C hS (by omega) e_57 (show vwCl[4]? = some _ from rfl) rfl rfl hl.1 rfl (Nat.le_of_ble_eq_true rfl) dX0_seenAlike_48 ⟨Nat.zero_le _, Nat.zero_le _⟩ (fun r_78 g_76 H locs w_77 hS => ?_)
      obtain ⟨rfl, er_78⟩ := w_77
      have ir_78 := foS_no (by rw [← hq_62.1]; exact hl_61) (foS_ob hq_62 hq_72 er_78)
      refine lv_iconst (v := (-1)) C.x C.b dX0_seenAlike_51 (by decide) ?_
      refine lv_icmp_eq (tgt := 57) C.x C.b dX0_seenAlike_52 (by decide) (fun c_79 => ?_) (fun c_79 => ?_)
      · skip
        refine lv_iinc (v := nI (k_22 + 1)) (lv' := [(4, .int (nI (k_22 + 1))), (0, .ref (B + 113)), (1, .int (nI f)), (2, .int (ey &&& (-9))), (3, .int x)]) C.x C.b dX0_seenAlike_57 hl (k := 4) rfl (nI_1 k_22) (by decide) rfl (fun ls hl => ?_)
        refine lv_goto (tgt := 18) C.x C.b dX0_seenAlike_60 (by decide) ?_
        exact ih_24 (k_22 + 1) g_37 _ _ _ (by omega) (fun k hk => (hr2_26 k hk).keep (fun j h1 h2 => (hf_50 j (by omega)))) ob_51 (qt_s hal_28 (ir_78.mp c_79)) hFz hKp hS (lv_sub hl [1, 2, 3, 4, 0] rfl)
      · skip
        refine lv_iconst (v := 0) C.x C.b dX0_seenAlike_55 (by decide) ?_
        exact r_zret C hr hlocks hS (by decide) ⟨hKp, hFz, Or.inr ⟨rfl, k_22, by omega, fun q9 => c_79 (ir_78.mpr q9)⟩⟩ dX0_seenAlike_56
  exact lp_20 (f - 1) 1 g_5 _ _ _ (by omega) (fun k hk => (hru k hk).keep (fun j h1 h2 => hf_18 j (by omega))) hR_17 (al_1 (X := fun i => obR o' n w' wi x (ey &&& 7) (16 * q + rp i))) hFz hKp hS (lv_sub hl [1, 2, 3, 4, 0] rfl)
