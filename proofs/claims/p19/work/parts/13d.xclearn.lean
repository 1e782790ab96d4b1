def calmP (o : Nat → Int32) (n : Nat) (w : Nat → Int32) (wi ey : Int32) (s : Nat) : Prop := ∀ a, a < 16 → ∀ b, b < 16 → alikeR (obR o n w wi (nI s) (ey &&& 7) (16 * a + 0)) (obR o n w wi (nI s) (ey &&& 7) (16 * a + b))
def CureOk (t : Gx) (B : Nat) (g : Nat → va_E) (o : Nat → Int32) (n : Nat) (w : Nat → Int32) (wi ey : Int32) : Prop := g 113 = .inr (0, [.ref (B + 114), .ref (B + 115), .ref (B + 116), .ref (B + 120), .int 0]) ∨ ∃ cm, g 114 = .inl (t.2.1, 256, .inl cm) ∧ ∀ s, s < 256 → (cm s = 0 ∨ cm s = 1) ∧ (cm s = 1 ↔ calmP o n w wi ey s)
theorem cur_inj {B : Nat} {g : Nat → va_E} {v : Int32} (e : g 113 = .inr (0, [.ref (B + 114), .ref (B + 115), .ref (B + 116), .ref (B + 120), .int v])) (q : g 113 = .inr (0, [.ref (B + 114), .ref (B + 115), .ref (B + 116), .ref (B + 120), .int 0])) : v = 0 := by
  have := e.symm.trans q
  simpa using this
theorem one_s {cm : Nat → Int32} {K : Nat} (h : ∀ s, s < K → cm s = 1) : ∀ s, s < K + 1 → upd cm K 1 s = 1 := fun s hs => by
  by_cases e : s = K
  · subst e
    rw [up_s]
  · rw [up_n e]
    exact h s (by omega)
section CLR
variable {cm cm' : Nat → Int32} {K mk f : Nat} {rp : Nat → Nat} {Z : Int32 → Nat → Nat → RW} {P : Nat → Prop} {v : Int32}
theorem all_s : (∀ a, a < K + 1 → P a) ↔ ((∀ a, a < K → P a) ∧ P K) := ⟨fun h => ⟨fun a ha => h a (by omega), h K (by omega)⟩, fun h a ha => by
  by_cases e : a = K
  · subst e
    exact h.2
  · exact h.1 a (by omega)⟩
theorem cov_al {X : Nat → RW} (h0 : rp 0 = 0) (hp : ∀ i, i < f → rp i < 16) (hcv : ∀ b, b < 16 → ∃ i, i < f ∧ alikeR (X b) (X (rp i))) : (∀ i, i < f → alikeR (X (rp 0)) (X (rp i))) ↔ ∀ b, b < 16 → alikeR (X 0) (X b) := by
  rw [h0]
  refine ⟨fun h b hb => ?_, fun h i hi => h _ (hp i hi)⟩
  obtain ⟨i, hi, ha⟩ := hcv b hb
  exact alikeR_tr (h i hi) (alikeR_sy ha)
theorem cl_1 (h : ∀ s, s < 256 → s &&& mk = s → (cm s = 1 ↔ ∀ a, a < K → ∀ b, b < 16 → alikeR (Z (nI s) a 0) (Z (nI s) a b))) (h0 : rp 0 = 0) (h1 : f ≤ 1) (hcv : ∀ b, b < 16 → ∃ i, i < f ∧ ∀ x, alikeR (Z x K b) (Z x K (rp i))) : ∀ s, s < 256 → s &&& mk = s → (cm s = 1 ↔ ∀ a, a < K + 1 → ∀ b, b < 16 → alikeR (Z (nI s) a 0) (Z (nI s) a b)) := fun s hs hm => by
  rw [h s hs hm, all_s (P := fun a => ∀ b, b < 16 → alikeR (Z (nI s) a 0) (Z (nI s) a b))]
  refine ⟨fun q => ⟨q, fun b hb => ?_⟩, fun q => q.1⟩
  obtain ⟨i, hi, ha⟩ := hcv b hb
  obtain rfl : i = 0 := by omega
  have := ha (nI s)
  rw [h0] at this
  exact alikeR_sy this
theorem cl_2 (h : ∀ s, s < 256 → s &&& mk = s → (cm s = 1 ↔ ∀ a, a < K → ∀ b, b < 16 → alikeR (Z (nI s) a 0) (Z (nI s) a b))) (h' : ∀ s, s < 256 → s &&& mk = s → (cm' s = 1 ↔ (cm s = 1 ∧ ∀ i, i < f → alikeR (Z (nI s) K (rp 0)) (Z (nI s) K (rp i))))) (h0 : rp 0 = 0) (hp : ∀ i, i < f → rp i < 16) (hcv : ∀ b, b < 16 → ∃ i, i < f ∧ ∀ x, alikeR (Z x K b) (Z x K (rp i))) : ∀ s, s < 256 → s &&& mk = s → (cm' s = 1 ↔ ∀ a, a < K + 1 → ∀ b, b < 16 → alikeR (Z (nI s) a 0) (Z (nI s) a b)) := fun s hs hm => by
  rw [h' s hs hm, h s hs hm, all_s (P := fun a => ∀ b, b < 16 → alikeR (Z (nI s) a 0) (Z (nI s) a b)), cov_al (X := fun b => Z (nI s) K b) h0 hp (fun b hb => (hcv b hb).elim fun i q => ⟨i, q.1, q.2 _⟩)]
theorem cl_v (hA : ∀ s, s < K → (cm s = 1 ↔ P s)) (hB : ∀ s, K ≤ s → s < 256 → s &&& mk = s → (cm s = 1 ↔ P s)) (hK : K < 256) (hm : P (K &&& mk) ↔ P K) : cm (K &&& mk) = 1 ↔ P K := by
  rw [← hm]
  have hle : K &&& mk ≤ K := Nat.and_le_left
  rcases Nat.lt_or_ge (K &&& mk) K with q | q
  · exact hA _ q
  · refine hB _ q (by omega) ?_
    rw [Nat.and_assoc, Nat.and_self]
theorem cl_3 (hA : ∀ s, s < K → (cm s = 1 ↔ P s)) (hv : v = 1 ↔ P K) : ∀ s, s < K + 1 → (upd cm K v s = 1 ↔ P s) := fun s hs => by
  by_cases e : s = K
  · subst e
    rw [up_s]
    exact hv
  · rw [up_n e]
    exact hA s (by omega)
theorem cl_4 (hB : ∀ s, K ≤ s → s < 256 → s &&& mk = s → (cm s = 1 ↔ P s)) : ∀ s, K + 1 ≤ s → s < 256 → s &&& mk = s → (upd cm K v s = 1 ↔ P s) := fun s h1 h2 h3 => by
  rw [up_n (by omega)]
  exact hB s (by omega) h2 h3
end CLR
theorem undN_congr {o o' : Nat → Int32} {y : Int32} : ∀ k, (∀ q, q < k → o q = o' q) → undN o y k = undN o' y k
  | 0, _ => rfl
  | k + 1, h => by
    rw [undN, undN, h k (by omega), undN_congr k (fun q hq => h q (by omega))]
theorem calm_mask {o o' w' : Nat → Int32} {n s : Nat} {wi ey : Int32} (hn : n ≤ 8) (hO : okO o') (hoe : okE ey) (hE : ∀ q, q < n → o q = o' q) (hs : s < 256) : calmP o' n w' wi ey (s &&& undN o (ey &&& (-9)) n) ↔ calmP o' n w' wi ey s := by
  rw [undN_congr n hE]
  have ha : agree o' n (ey &&& 7) (nI s) (nI (s &&& undN o' (ey &&& (-9)) n)) := fun q hq hv => by
    refine agree_mask (o := o') (y := ey &&& (-9)) hn hs q hq (fun z => hv ?_)
    obtain ⟨k, hk, rfl⟩ := okE_nI hoe
    obtain ⟨v, hv2, ev⟩ := hO q (by omega)
    rw [ev, kdF_nI hv2] at z ⊢
    exact ((eyes_all k hk).2.2.2.2.2.2 (v / 4096) (by omega)).mp z
  have e : ∀ R, obR o' n w' wi (nI (s &&& undN o' (ey &&& (-9)) n)) (ey &&& 7) R = obR o' n w' wi (nI s) (ey &&& 7) R := fun R => (obR_agree hn hO ha).symm
  unfold calmP
  simp only [e]

set_option maxHeartbeats 1000000 in
set_option maxRecDepth 100000 in
theorem x_X0_learn (l : Launch) (D : va_G) (t : Gx) (B N : Nat) (g : Nat → va_E) (o pr w : Nat → Int32) (n : Nat) (ey wi ev : Int32) (o' w' : Nat → Int32)  (hN : 220 ≤ N) (hP : isProg t B g 1 o pr w n) (hn : n ≤ 8) (hW : isWat g 5 ey wi ev) (hScr : Scr t B g) (hE : ∀ q, q < n → o q = o' q) (hW2 : ∀ q, q < 8 → w q = w' q) (hO : okO o') (hoe : okE ey) (hwd : isWd wi) (hCO : CureOk t B g o' n w' wi ey) : Cv l D t B N N 0 0 yX0_learn cX0_learn 8 5 130 g [.ref (B + 113), .ref (B + 6), .ref (B + 1), .ref (B + 5)] (fun g' => Kp t B g g' ∧ (∀ j, (9 ≤ j ∧ j ≤ 112) → g' j = g j) ∧ ∃ cm, g' 114 = .inl (t.2.1, 256, .inl cm) ∧ ∀ s, s < 256 → (cm s = 0 ∨ cm s = 1) ∧ (cm s = 1 ↔ calmP o' n w' wi ey s)) := by
  refine Cv.start (by decide) (Nat.le_of_ble_eq_true rfl) ?_
  intro p e s m below meth c ls C hr hlocks hnm hS hl
  replace C : Cx D t p s m [.ref (B + 113), .ref (B + 6), .ref (B + 1), .ref (B + 5)].toArray c cX0_learn 8 RX0 := C
  replace hl : lv_has ls 8 [(0, .ref (B + 113)), (1, .ref (B + 6)), (2, .ref (B + 1)), (3, .ref (B + 5))] := hl
  obtain ⟨p0, p1, p2, p3⟩ := id hP
  have hKp : Kp t B g g := Kp.rf hScr
  have hFz : ∀ j, (9 ≤ j ∧ j ≤ 112) → g j = g j := fun _ _ => rfl
  refine lv_aload_n C.x C.b dX0_learn_0 rfl (lv_at hl 0 rfl) ?_
  obtain ⟨v_1, e_2, hz_3⟩ := hKp.2.2.2.2.2.2.2.2.1
  refine r_get ck0 flX0_31 C hS (by omega) e_2 (by decide) rfl dX0_learn_1 ?_
  refine lv_if_eq (tgt := 8) C.x C.b dX0_learn_4 (by decide) (fun c_4 => ?_) (fun c_4 => ?_)
  · skip
    refine lv_aload_n C.x C.b dX0_learn_8 rfl (lv_at hl 3 rfl) ?_
    refine r_get ck6 flX0_36 C hS (by omega) hW (by decide) rfl dX0_learn_9 ?_
    refine lv_bipush (v := (-9)) C.x C.b dX0_learn_12 (by decide) ?_
    refine lv_iand C.x C.b dX0_learn_14 ?_
    refine lv_istore (lv' := [(4, .int (ey &&& (-9))), (0, .ref (B + 113)), (1, .ref (B + 6)), (2, .ref (B + 1)), (3, .ref (B + 5))]) C.x C.b dX0_learn_15 hl (by decide) rfl (fun ls hl => ?_)
    refine lv_aload_n C.x C.b dX0_learn_17 rfl (lv_at hl 3 rfl) ?_
    refine lv_iload C.x C.b dX0_learn_18 (lv_at hl 0 rfl) ?_
    refine r_callV (b := 1) (As := [.int (ey &&& (-9))]) (rest := []) (c_X3_placesUnder l D t B N g 1 _ _ _ _ (ey &&& (-9)) (by omega) ⟨p0, p1, p2, p3⟩ (by omega)) mf_yX3_placesUnder mlX0_42 im_yX3_placesUnder se_yX3_placesUnder (by decide) C hS (by omega) p0 (show vwCl[3]? = some _ from rfl) rfl rfl hl.1 rfl (Nat.le_of_ble_eq_true rfl) dX0_learn_20 ⟨Nat.zero_le _, Nat.zero_le _⟩ (fun r_7 g_5 H locs w_6 hS => ?_)
    obtain ⟨rfl, er_7⟩ := w_6
    subst er_7
    refine r_top (y := nI (undN o (ey &&& (-9)) n)) (undN_eq n hn) ?_
    refine lv_istore (lv' := [(5, .int (nI (undN o (ey &&& (-9)) n))), (4, .int (ey &&& (-9))), (0, .ref (B + 113)), (1, .ref (B + 6)), (2, .ref (B + 1)), (3, .ref (B + 5))]) C.x C.b dX0_learn_23 hl (by decide) rfl (fun ls hl => ?_)
    refine lv_iconst (v := 0) C.x C.b dX0_learn_25 (by decide) ?_
    refine lv_istore (lv' := [(6, .int 0), (5, .int (nI (undN o (ey &&& (-9)) n))), (4, .int (ey &&& (-9))), (0, .ref (B + 113)), (1, .ref (B + 6)), (2, .ref (B + 1)), (3, .ref (B + 5))]) C.x C.b dX0_learn_26 hl (by decide) rfl (fun ls hl => ?_)
    have lp_8 : ∀ (u_9 k_10 : Nat) (g_13 : Nat → va_E) (H : Heap) (locs : List Loc) (ls : Array Slot), k_10 + u_9 = 256 → (∃ cm, g_13 114 = .inl (t.2.1, 256, .inl cm) ∧ (∀ q, cm q = 0 ∨ cm q = 1) ∧ ∀ s, s < k_10 → cm s = 1) → (∀ j, (9 ≤ j ∧ j ≤ 112) → g_13 j = g j) → Kp t B g g_13 → St D B s.heap N g_13 H locs → lv_has ls 8 [(5, .int (nI (undN o (ey &&& (-9)) n))), (4, .int (ey &&& (-9))), (0, .ref (B + 113)), (1, .ref (B + 6)), (2, .ref (B + 1)), (3, .ref (B + 5)), (6, .int (nI k_10))] → W p l e (rmOf 5 130 0 0) s m [.ref (B + 113), .ref (B + 6), .ref (B + 1), .ref (B + 5)].toArray below meth c H locs 0 0 (MQ below (qV D B N (fun g' => Kp t B g g' ∧ (∀ j, (9 ≤ j ∧ j ≤ 112) → g' j = g j) ∧ ∃ cm, g' 114 = .inl (t.2.1, 256, .inl cm) ∧ ∀ s, s < 256 → (cm s = 0 ∨ cm s = 1) ∧ (cm s = 1 ↔ calmP o' n w' wi ey s))) [.ref (B + 113), .ref (B + 6), .ref (B + 1), .ref (B + 5)].toArray s 0 0 (fun q => B ≤ q)) (F0 m 28 ls []) := by
      intro u_9
      induction u_9 with
      | zero =>
        intro k_10 g_13 H locs ls hk_11 hc1_14 hz1_15 hKp hS hl
        obtain rfl : 256 = k_10 := by omega
        have hFz := hz1_15
        obtain ⟨cm_16, e_17, h_18, hA_19⟩ := hc1_14
        refine lv_iload C.x C.b dX0_learn_28 (lv_at hl 6 rfl) ?_
        refine lv_sipush (v := 256) C.x C.b dX0_learn_30 (by decide) ?_
        refine lv_icmp_ge (tgt := 50) C.x C.b dX0_learn_33 (by decide) (fun c_20 => ?_) (fun c_20 => absurd (by decide) c_20)
        refine lv_iconst (v := 0) C.x C.b dX0_learn_50 (by decide) ?_
        refine lv_istore (lv' := [(6, .int 0), (5, .int (nI (undN o (ey &&& (-9)) n))), (4, .int (ey &&& (-9))), (0, .ref (B + 113)), (1, .ref (B + 6)), (2, .ref (B + 1)), (3, .ref (B + 5))]) C.x C.b dX0_learn_51 hl (by decide) rfl (fun ls hl => ?_)
        have lp_21 : ∀ (u_22 k_23 : Nat) (g_26 : Nat → va_E) (H : Heap) (locs : List Loc) (ls : Array Slot), k_23 + u_22 = 16 → (∃ cm, g_26 114 = .inl (t.2.1, 256, .inl cm) ∧ (∀ q, cm q = 0 ∨ cm q = 1) ∧ ∀ s, s < 256 → s &&& (undN o (ey &&& (-9)) n) = s → (cm s = 1 ↔ ∀ a, a < k_23 → ∀ b, b < 16 → alikeR (obR o' n w' wi (nI s) (ey &&& 7) (16 * a + 0)) (obR o' n w' wi (nI s) (ey &&& 7) (16 * a + b)))) → (∀ j, (9 ≤ j ∧ j ≤ 112) → g_26 j = g j) → Kp t B g g_26 → St D B s.heap N g_26 H locs → lv_has ls 8 [(5, .int (nI (undN o (ey &&& (-9)) n))), (4, .int (ey &&& (-9))), (0, .ref (B + 113)), (1, .ref (B + 6)), (2, .ref (B + 1)), (3, .ref (B + 5)), (6, .int (nI k_23))] → W p l e (rmOf 5 130 0 0) s m [.ref (B + 113), .ref (B + 6), .ref (B + 1), .ref (B + 5)].toArray below meth c H locs 0 0 (MQ below (qV D B N (fun g' => Kp t B g g' ∧ (∀ j, (9 ≤ j ∧ j ≤ 112) → g' j = g j) ∧ ∃ cm, g' 114 = .inl (t.2.1, 256, .inl cm) ∧ ∀ s, s < 256 → (cm s = 0 ∨ cm s = 1) ∧ (cm s = 1 ↔ calmP o' n w' wi ey s))) [.ref (B + 113), .ref (B + 6), .ref (B + 1), .ref (B + 5)].toArray s 0 0 (fun q => B ≤ q)) (F0 m 53 ls []) := by
          intro u_22
          induction u_22 with
          | zero =>
            intro k_23 g_26 H locs ls hk_24 hc2_27 hz2_28 hKp hS hl
            obtain rfl : 16 = k_23 := by omega
            have hFz := hz2_28
            obtain ⟨cm_29, e_30, h_31, hA_32⟩ := hc2_27
            refine lv_iload C.x C.b dX0_learn_53 (lv_at hl 6 rfl) ?_
            refine lv_bipush (v := 16) C.x C.b dX0_learn_55 (by decide) ?_
            refine lv_icmp_ge (tgt := 93) C.x C.b dX0_learn_57 (by decide) (fun c_33 => ?_) (fun c_33 => absurd (by decide) c_33)
            refine lv_iconst (v := 0) C.x C.b dX0_learn_93 (by decide) ?_
            refine lv_istore (lv' := [(6, .int 0), (5, .int (nI (undN o (ey &&& (-9)) n))), (4, .int (ey &&& (-9))), (0, .ref (B + 113)), (1, .ref (B + 6)), (2, .ref (B + 1)), (3, .ref (B + 5))]) C.x C.b dX0_learn_94 hl (by decide) rfl (fun ls hl => ?_)
            have lp_34 : ∀ (u_35 k_36 : Nat) (g_39 : Nat → va_E) (H : Heap) (locs : List Loc) (ls : Array Slot), k_36 + u_35 = 256 → (∃ cm, g_39 114 = .inl (t.2.1, 256, .inl cm) ∧ (∀ q, cm q = 0 ∨ cm q = 1) ∧ (∀ s, s < k_36 → (cm s = 1 ↔ calmP o' n w' wi ey s)) ∧ ∀ s, k_36 ≤ s → s < 256 → s &&& (undN o (ey &&& (-9)) n) = s → (cm s = 1 ↔ calmP o' n w' wi ey s)) → (∀ j, (9 ≤ j ∧ j ≤ 112) → g_39 j = g j) → Kp t B g g_39 → St D B s.heap N g_39 H locs → lv_has ls 8 [(5, .int (nI (undN o (ey &&& (-9)) n))), (4, .int (ey &&& (-9))), (0, .ref (B + 113)), (1, .ref (B + 6)), (2, .ref (B + 1)), (3, .ref (B + 5)), (6, .int (nI k_36))] → W p l e (rmOf 5 130 0 0) s m [.ref (B + 113), .ref (B + 6), .ref (B + 1), .ref (B + 5)].toArray below meth c H locs 0 0 (MQ below (qV D B N (fun g' => Kp t B g g' ∧ (∀ j, (9 ≤ j ∧ j ≤ 112) → g' j = g j) ∧ ∃ cm, g' 114 = .inl (t.2.1, 256, .inl cm) ∧ ∀ s, s < 256 → (cm s = 0 ∨ cm s = 1) ∧ (cm s = 1 ↔ calmP o' n w' wi ey s))) [.ref (B + 113), .ref (B + 6), .ref (B + 1), .ref (B + 5)].toArray s 0 0 (fun q => B ≤ q)) (F0 m 96 ls []) := by
              intro u_35
              induction u_35 with
              | zero =>
                intro k_36 g_39 H locs ls hk_37 hc3_40 hz3_41 hKp hS hl
                obtain rfl : 256 = k_36 := by omega
                have hFz := hz3_41
                obtain ⟨cm_42, e_43, h_44, hA_45, hB_46⟩ := hc3_40
                refine lv_iload C.x C.b dX0_learn_96 (lv_at hl 6 rfl) ?_
                refine lv_sipush (v := 256) C.x C.b dX0_learn_98 (by decide) ?_
                refine lv_icmp_ge (tgt := 127) C.x C.b dX0_learn_101 (by decide) (fun c_47 => ?_) (fun c_47 => absurd (by decide) c_47)
                refine lv_aload_n C.x C.b dX0_learn_127 rfl (lv_at hl 2 rfl) ?_
                refine lv_iconst (v := 1) C.x C.b dX0_learn_128 (by decide) ?_
                obtain ⟨v_48, e_49, hz_50⟩ := hKp.2.2.2.2.2.2.2.2.1
                refine r_put ck0 flX0_31 C hS (by omega) e_49 (by decide) rfl (nar_z (by decide)) (fit_z (by decide)) (Nat.le_of_ble_eq_true rfl) dX0_learn_129 (fun g_51 H locs e_52 o_53 hS => ?_)
                replace e_52 : g_51 113 = .inr (0, [.ref (B + 114), .ref (B + 115), .ref (B + 116), .ref (B + 120), .int 1]) := e_52
                replace hKp : Kp t B g g_51 := hKp.cur (by decide) e_52 o_53
                replace hFz : ∀ j, (9 ≤ j ∧ j ≤ 112) → g_51 j = g j := fun j hj => (o_53 j (by omega)).trans (hFz j hj)
                exact r_vret C hr hlocks hS ⟨hKp, hFz, cm_42, (o_53 _ (by omega)).trans e_43, fun s hs => ⟨h_44 s, hA_45 s hs⟩⟩ dX0_learn_132
              | succ u_35 ih_38 =>
                intro k_36 g_39 H locs ls hk_37 hc3_40 hz3_41 hKp hS hl
                have hFz := hz3_41
                obtain ⟨cm_54, e_55, h_56, hA_57, hB_58⟩ := hc3_40
                refine lv_iload C.x C.b dX0_learn_96 (lv_at hl 6 rfl) ?_
                refine lv_sipush (v := 256) C.x C.b dX0_learn_98 (by decide) ?_
                refine lv_icmp_ge (tgt := 127) C.x C.b dX0_learn_101 (by decide) (fun c_59 => absurd c_59 (nI_ge (a := k_36) (b := 256) (by omega) (by decide))) (fun c_59 => ?_)
                refine lv_aload_n C.x C.b dX0_learn_104 rfl (lv_at hl 2 rfl) ?_
                obtain ⟨v_60, e_61, hz_62⟩ := hKp.2.2.2.2.2.2.2.2.1
                refine r_get ck0 flX0_9 C hS (by omega) e_61 (by decide) rfl dX0_learn_105 ?_
                refine lv_iload C.x C.b dX0_learn_108 (lv_at hl 6 rfl) ?_
                refine lv_aload_n C.x C.b dX0_learn_110 rfl (lv_at hl 2 rfl) ?_
                refine r_get ck0 flX0_9 C hS (by omega) e_61 (by decide) rfl dX0_learn_111 ?_
                refine lv_iload C.x C.b dX0_learn_114 (lv_at hl 6 rfl) ?_
                refine lv_iload C.x C.b dX0_learn_116 (lv_at hl 0 rfl) ?_
                refine lv_iand C.x C.b dX0_learn_118 ?_
                refine r_zaldN (k_36 &&& (undN o (ey &&& (-9)) n)) (fa_and _ _) (Nat.lt_of_le_of_lt Nat.and_le_left (by omega)) (by decide) C hS (by omega) e_55 dX0_learn_119 ?_
                refine r_zastN k_36 rfl (by omega) (by decide) (h_56 _) C hS (by omega) e_55 dX0_learn_120 (fun g_63 H locs e_64 o_65 hS => ?_)
                replace e_64 : g_63 114 = .inl (t.2.1, 256, .inl (upd cm_54 k_36 (cm_54 (k_36 &&& (undN o (ey &&& (-9)) n))))) := e_64
                replace hKp : Kp t B g g_63 := hKp.cal e_64 (upd01 h_56 _ (h_56 _)) o_65
                replace hFz : ∀ j, (9 ≤ j ∧ j ≤ 112) → g_63 j = g j := fun j hj => (o_65 j (by omega)).trans (hFz j hj)
                refine lv_iinc (v := nI (k_36 + 1)) (lv' := [(6, .int (nI (k_36 + 1))), (5, .int (nI (undN o (ey &&& (-9)) n))), (4, .int (ey &&& (-9))), (0, .ref (B + 113)), (1, .ref (B + 6)), (2, .ref (B + 1)), (3, .ref (B + 5))]) C.x C.b dX0_learn_121 hl (k := 6) rfl (nI_1 k_36) (by decide) rfl (fun ls hl => ?_)
                refine lv_goto (tgt := 96) C.x C.b dX0_learn_124 (by decide) ?_
                exact ih_38 (k_36 + 1) g_63 _ _ _ (by omega) ⟨_, e_64, upd01 h_56 _ (h_56 _), cl_3 (P := calmP o' n w' wi ey) hA_57 (cl_v (P := calmP o' n w' wi ey) hA_57 hB_58 (by omega) (calm_mask hn hO hoe hE (s := k_36) (by omega))), cl_4 (P := calmP o' n w' wi ey) hB_58⟩ hFz hKp hS (lv_sub hl [1, 2, 3, 4, 5, 6, 0] rfl)
            exact lp_34 256 0 g_26 _ _ _ (by omega) ⟨cm_29, e_30, h_31, fun s h => absurd h (Nat.not_lt_zero _), fun s _ hs hm => hA_32 s hs hm⟩ hFz hKp hS (lv_sub hl [1, 2, 3, 4, 5, 6, 0] rfl)
          | succ u_22 ih_25 =>
            intro k_23 g_26 H locs ls hk_24 hc2_27 hz2_28 hKp hS hl
            have hFz := hz2_28
            obtain ⟨cm_66, e_67, h_68, hA_69⟩ := hc2_27
            refine lv_iload C.x C.b dX0_learn_53 (lv_at hl 6 rfl) ?_
            refine lv_bipush (v := 16) C.x C.b dX0_learn_55 (by decide) ?_
            refine lv_icmp_ge (tgt := 93) C.x C.b dX0_learn_57 (by decide) (fun c_70 => absurd c_70 (nI_ge (a := k_23) (b := 16) (by omega) (by decide))) (fun c_70 => ?_)
            refine lv_aload_n C.x C.b dX0_learn_60 rfl (lv_at hl 2 rfl) ?_
            refine lv_aload_n C.x C.b dX0_learn_61 rfl (lv_at hl 3 rfl) ?_
            refine lv_aload_n C.x C.b dX0_learn_62 rfl (lv_at hl 4 rfl) ?_
            refine lv_aload_n C.x C.b dX0_learn_63 rfl (lv_at hl 5 rfl) ?_
            refine lv_iload C.x C.b dX0_learn_64 (lv_at hl 6 rfl) ?_
            have e_71 : g_26 1 = .inr (3, [.ref (B + (1 + 1)), .ref (B + (1 + 2)), .ref (B + (1 + 3)), .int (nI n)]) := (hKp.1 _ (by omega)).trans p0
            have e_72 : g_26 (1 + 1) = .inl (t.1, 8, .inl o) := (hKp.1 _ (by omega)).trans p1
            have e_73 : g_26 (1 + 2) = .inl (t.1, 8, .inl pr) := (hKp.1 _ (by omega)).trans p2
            have e_74 : g_26 (1 + 3) = .inl (t.1, 8, .inl w) := (hKp.1 _ (by omega)).trans p3
            have e_75 : g_26 5 = .inr (6, [.int ey, .int wi, .int ev]) := (hKp.1 _ (by omega)).trans hW
            obtain ⟨v_79, e_80, hz_81⟩ := hKp.2.2.2.2.2.2.2.2.1
            refine r_callV (b := 113) (As := [.ref (B + 6), .ref (B + 1), .ref (B + 5), .int (nI k_23)]) (rest := []) (x_X0_gatherRuns l D t B N g_26 _ _ _ _ _ _ _ o' w' k_23 (by omega) ⟨e_71, e_72, e_73, e_74⟩ (by omega) e_75 hKp.2 hE hW2 hO hoe hwd (by omega)) mf_yX0_gatherRuns mlX0_48 im_yX0_gatherRuns se_yX0_gatherRuns (by decide) C hS (by omega) e_80 (show vwCl[0]? = some _ from rfl) rfl rfl hl.1 rfl (Nat.le_of_ble_eq_true rfl) dX0_learn_66 ⟨Nat.zero_le _, Nat.zero_le _⟩ (fun r_78 g_76 H locs w_77 hS => ?_)
            obtain ⟨w_77, hf_82, f_83, rp_84, rfl, h_85, h_86, h_87, hp_88, hru_89, hcv_90⟩ := w_77
            replace hKp : Kp t B g g_76 := hKp.tr w_77
            replace hFz : ∀ j, (9 ≤ j ∧ j ≤ 112) → g_76 j = g j := fun j hj => (hf_82 j (by omega)).trans (hFz j hj)
            have e_91 : g_76 114 = .inl (t.2.1, 256, .inl cm_66) := (hf_82 _ (by omega)).trans e_67
            refine lv_istore (lv' := [(7, .int (nI f_83)), (5, .int (nI (undN o (ey &&& (-9)) n))), (4, .int (ey &&& (-9))), (0, .ref (B + 113)), (1, .ref (B + 6)), (2, .ref (B + 1)), (3, .ref (B + 5)), (6, .int (nI k_23))]) C.x C.b dX0_learn_69 hl (by decide) rfl (fun ls hl => ?_)
            refine lv_iload C.x C.b dX0_learn_71 (lv_at hl 0 rfl) ?_
            refine lv_iconst (v := 1) C.x C.b dX0_learn_73 (by decide) ?_
            refine lv_icmp_le (tgt := 87) C.x C.b dX0_learn_74 (by decide) (fun c_92 => ?_) (fun c_92 => ?_)
            · skip
              refine lv_iinc (v := nI (k_23 + 1)) (lv' := [(6, .int (nI (k_23 + 1))), (7, .int (nI f_83)), (5, .int (nI (undN o (ey &&& (-9)) n))), (4, .int (ey &&& (-9))), (0, .ref (B + 113)), (1, .ref (B + 6)), (2, .ref (B + 1)), (3, .ref (B + 5))]) C.x C.b dX0_learn_87 hl (k := 7) rfl (nI_1 k_23) (by decide) rfl (fun ls hl => ?_)
              refine lv_goto (tgt := 53) C.x C.b dX0_learn_90 (by decide) ?_
              exact ih_25 (k_23 + 1) g_76 _ _ _ (by omega) ⟨_, e_91, h_68, cl_1 (Z := fun x a b => obR o' n w' wi x (ey &&& 7) (16 * a + b)) hA_69 h_87 (by have := (nI_leI (a := f_83) (b := 1) (by omega) (by omega)).mp c_92; omega) hcv_90⟩ hFz hKp hS (lv_sub hl [2, 3, 4, 5, 6, 7, 0] rfl)
            · skip
              refine lv_aload_n C.x C.b dX0_learn_77 rfl (lv_at hl 3 rfl) ?_
              refine lv_iload C.x C.b dX0_learn_78 (lv_at hl 0 rfl) ?_
              refine lv_iload C.x C.b dX0_learn_80 (lv_at hl 2 rfl) ?_
              refine lv_iload C.x C.b dX0_learn_82 (lv_at hl 1 rfl) ?_
              have e_93 : g_76 1 = .inr (3, [.ref (B + (1 + 1)), .ref (B + (1 + 2)), .ref (B + (1 + 3)), .int (nI n)]) := (hKp.1 _ (by omega)).trans p0
              have e_94 : g_76 (1 + 1) = .inl (t.1, 8, .inl o) := (hKp.1 _ (by omega)).trans p1
              have e_95 : g_76 (1 + 2) = .inl (t.1, 8, .inl pr) := (hKp.1 _ (by omega)).trans p2
              have e_96 : g_76 (1 + 3) = .inl (t.1, 8, .inl w) := (hKp.1 _ (by omega)).trans p3
              have e_97 : g_76 5 = .inr (6, [.int ey, .int wi, .int ev]) := (hKp.1 _ (by omega)).trans hW
              obtain ⟨v_101, e_102, hz_103⟩ := hKp.2.2.2.2.2.2.2.2.1
              refine r_callVv (b := 113) (As := [.int (nI f_83), .int (ey &&& (-9)), .int (nI (undN o (ey &&& (-9)) n))]) (rest := []) (x_X0_sift l D t B N g_76 _ _ _ _ _ _ _ o' w' k_23 f_83 (undN o (ey &&& (-9)) n) rp_84 cm_66 (by omega) ⟨e_93, e_94, e_95, e_96⟩ (by omega) e_97 hKp.2 hE hW2 hO hoe hwd (by omega) (by omega) hru_89 e_91 h_68) mf_yX0_sift mlX0_52 im_yX0_sift se_yX0_sift (by decide) C hS (by omega) e_102 (show vwCl[0]? = some _ from rfl) rfl rfl hl.1 rfl (Nat.le_of_ble_eq_true rfl) dX0_learn_84 ⟨Nat.zero_le _, Nat.zero_le _⟩ (fun g_98 H locs w_99 hS => ?_)
              obtain ⟨w_99, hf_104, -, cm_105, e_106, h_107, hA_108⟩ := w_99
              replace hKp : Kp t B g g_98 := hKp.tr w_99
              replace hFz : ∀ j, (9 ≤ j ∧ j ≤ 112) → g_98 j = g j := fun j hj => (hf_104 j (by omega)).trans (hFz j hj)
              refine lv_iinc (v := nI (k_23 + 1)) (lv' := [(6, .int (nI (k_23 + 1))), (7, .int (nI f_83)), (5, .int (nI (undN o (ey &&& (-9)) n))), (4, .int (ey &&& (-9))), (0, .ref (B + 113)), (1, .ref (B + 6)), (2, .ref (B + 1)), (3, .ref (B + 5))]) C.x C.b dX0_learn_87 hl (k := 7) rfl (nI_1 k_23) (by decide) rfl (fun ls hl => ?_)
              refine lv_goto (tgt := 53) C.x C.b dX0_learn_90 (by decide) ?_
              exact ih_25 (k_23 + 1) g_98 _ _ _ (by omega) ⟨_, e_106, h_107, cl_2 (Z := fun x a b => obR o' n w' wi x (ey &&& 7) (16 * a + b)) hA_69 hA_108 h_87 hp_88 hcv_90⟩ hFz hKp hS (lv_sub hl [2, 3, 4, 5, 6, 7, 0] rfl)
        exact lp_21 16 0 g_13 _ _ _ (by omega) ⟨cm_16, e_17, h_18, fun s hs _ => ⟨fun _ a ha => absurd ha (Nat.not_lt_zero _), fun _ => hA_19 s hs⟩⟩ hFz hKp hS (lv_sub hl [1, 2, 3, 4, 5, 6, 0] rfl)
      | succ u_9 ih_12 =>
        intro k_10 g_13 H locs ls hk_11 hc1_14 hz1_15 hKp hS hl
        have hFz := hz1_15
        obtain ⟨cm_109, e_110, h_111, hA_112⟩ := hc1_14
        refine lv_iload C.x C.b dX0_learn_28 (lv_at hl 6 rfl) ?_
        refine lv_sipush (v := 256) C.x C.b dX0_learn_30 (by decide) ?_
        refine lv_icmp_ge (tgt := 50) C.x C.b dX0_learn_33 (by decide) (fun c_113 => absurd c_113 (nI_ge (a := k_10) (b := 256) (by omega) (by decide))) (fun c_113 => ?_)
        refine lv_aload_n C.x C.b dX0_learn_36 rfl (lv_at hl 2 rfl) ?_
        obtain ⟨v_114, e_115, hz_116⟩ := hKp.2.2.2.2.2.2.2.2.1
        refine r_get ck0 flX0_9 C hS (by omega) e_115 (by decide) rfl dX0_learn_37 ?_
        refine lv_iload C.x C.b dX0_learn_40 (lv_at hl 6 rfl) ?_
        refine lv_iconst (v := 1) C.x C.b dX0_learn_42 (by decide) ?_
        refine r_zastN k_10 rfl (by omega) (by decide) (by decide) C hS (by omega) e_110 dX0_learn_43 (fun g_117 H locs e_118 o_119 hS => ?_)
        replace e_118 : g_117 114 = .inl (t.2.1, 256, .inl (upd cm_109 k_10 1)) := e_118
        replace hKp : Kp t B g g_117 := hKp.cal e_118 (upd01 h_111 _ (by decide)) o_119
        replace hFz : ∀ j, (9 ≤ j ∧ j ≤ 112) → g_117 j = g j := fun j hj => (o_119 j (by omega)).trans (hFz j hj)
        refine lv_iinc (v := nI (k_10 + 1)) (lv' := [(6, .int (nI (k_10 + 1))), (5, .int (nI (undN o (ey &&& (-9)) n))), (4, .int (ey &&& (-9))), (0, .ref (B + 113)), (1, .ref (B + 6)), (2, .ref (B + 1)), (3, .ref (B + 5))]) C.x C.b dX0_learn_44 hl (k := 6) rfl (nI_1 k_10) (by decide) rfl (fun ls hl => ?_)
        refine lv_goto (tgt := 28) C.x C.b dX0_learn_47 (by decide) ?_
        exact ih_12 (k_10 + 1) g_117 _ _ _ (by omega) ⟨_, e_118, upd01 h_111 _ (Or.inr rfl), one_s hA_112⟩ hFz hKp hS (lv_sub hl [1, 2, 3, 4, 5, 6, 0] rfl)
    exact lp_8 256 0 g _ _ _ (by omega) (hKp.2.2.2.2.2.2.2.2.2.elim fun c9 q9 => ⟨c9, q9.1, q9.2, fun s h => absurd h (Nat.not_lt_zero _)⟩) hFz hKp hS (lv_sub hl [1, 2, 3, 4, 5, 6, 0] rfl)
  · skip
    exact r_vret C hr hlocks hS ⟨hKp, hFz, hCO.resolve_left (fun q9 => c_4 (cur_inj e_2 q9))⟩ dX0_learn_7
