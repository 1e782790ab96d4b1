/-! what is kept of the classes -/
def PartV (X : Nat → Nat → RW) (cn fn : Nat → Int32) (a : Nat) : Prop := ∃ cl mn : Nat → Nat, ClsP (fun b c => alikeR (X a b) (X a c)) cl mn 16 ∧ cn a = nI (mn 16) ∧ ∀ b, b < 16 → fn b = nI (cl b)
def PartAt (t : Gx) (g : Nat → va_E) (X : Nat → Nat → RW) (a : Nat) : Prop := ∃ cn fn, g 41 = .inl (t.1, 16, .inl cn) ∧ g (25 + a) = .inl (t.1, 16, .inl fn) ∧ PartV X cn fn a
def PartOk (t : Gx) (g : Nat → va_E) (X : Nat → Nat → RW) : Prop := ∀ a, a < 16 → (∃ cn, g 41 = .inl (t.1, 16, .inl cn) ∧ cn a = 0) ∨ PartAt t g X a
theorem PartOk.keep {t : Gx} {g g' : Nat → va_E} {X : Nat → Nat → RW} (h : PartOk t g X) (k : ∀ j, 25 ≤ j → j ≤ 41 → g' j = g j) : PartOk t g' X := fun a ha => by
  rcases h a ha with ⟨cn, e, q⟩ | ⟨cn, fn, e, e2, q⟩
  · exact Or.inl ⟨cn, (k _ (by omega) (by omega)).trans e, q⟩
  · exact Or.inr ⟨cn, fn, (k _ (by omega) (by omega)).trans e, (k _ (by omega) (by omega)).trans e2, q⟩
theorem PartOk.zero {t : Gx} {g : Nat → va_E} {X : Nat → Nat → RW} {cn : Nat → Int32} (e : g 41 = .inl (t.1, 16, .inl cn)) (h : ∀ a, a < 16 → cn a = 0) : PartOk t g X := fun a ha => Or.inl ⟨cn, e, h a ha⟩
theorem PartOk.got {t : Gx} {g : Nat → va_E} {X : Nat → Nat → RW} {a : Nat} {cn : Nat → Int32} (h : (∃ cn, g 41 = .inl (t.1, 16, .inl cn) ∧ cn a = 0) ∨ PartAt t g X a) (e : g 41 = .inl (t.1, 16, .inl cn)) (hp : ¬ cn a ≤ 0) : PartAt t g X a := by
  rcases h with ⟨cn', e', q⟩ | q
  · rw [cellI (e.symm.trans e'), q] at hp
    exact absurd (by decide) hp
  · exact q
theorem PartOk.put {t : Gx} {g gm g' : Nat → va_E} {X : Nat → Nat → RW} {q : Nat} {cn : Nat → Int32} {v : Int32} (h : PartOk t g X) (hq : PartAt t g' X q) (e : gm 41 = g 41) (eN : g' 41 = .inl (t.1, 16, .inl (upd cn q v))) (em : gm 41 = .inl (t.1, 16, .inl cn)) (k : ∀ j, 25 ≤ j → j ≤ 40 → ¬ j = 25 + q → g' j = g j) : PartOk t g' X := fun a ha => by
  by_cases c : a = q
  · subst c
    exact Or.inr hq
  · rcases h a ha with ⟨cn', e', z⟩ | ⟨cn', fn, e', e2, cl, mn, z1, z2, z3⟩
    · have := cellI (em.symm.trans (e.trans e'))
      exact Or.inl ⟨_, eN, by rw [up_n c, this]; exact z⟩
    · have := cellI (em.symm.trans (e.trans e'))
      exact Or.inr ⟨_, fn, eN, (k _ (by omega) (by omega) (by omega)).trans e2, cl, mn, z1, by rw [up_n c, this]; exact z2, z3⟩
section LRN
variable {al : Nat → Nat → Prop} {cl mn rep : Nat → Nat} {K f : Nat}
theorem lrn_cn {fn : Nat → Int32} {c : Nat} (h : ∀ b, b < K → fn b = nI (cl b)) : ∀ b, b < K + 1 → upd fn K (nI c) b = nI (va_up cl K c b) := fun b hb => by
  by_cases e : b = K
  · subst e
    rw [up_s, va_up_s]
  · rw [up_n e, va_up_n e]
    exact h b (by omega)
theorem lrn_repA {c : Nat} (h : ∀ k, k < f → rep k < K ∧ cl (rep k) = k) : ∀ k, k < f → rep k < K + 1 ∧ va_up cl K c (rep k) = k := fun k hk => by
  obtain ⟨h1, h2⟩ := h k hk
  exact ⟨by omega, by rw [va_up_n (by omega)]; exact h2⟩
theorem lrn_repB (h : ∀ k, k < f → rep k < K ∧ cl (rep k) = k) : ∀ k, k < f + 1 → va_up rep f K k < K + 1 ∧ va_up cl K f (va_up rep f K k) = k := fun k hk => by
  by_cases e : k = f
  · subst e
    rw [va_up_s, va_up_s]
    exact ⟨by omega, rfl⟩
  · obtain ⟨h1, h2⟩ := h k (by omega)
    rw [va_up_n e, va_up_n (f := cl) (by omega)]
    exact ⟨by omega, h2⟩
end LRN
theorem lrn_old {X : Nat → RW} {cl mn rep : Nat → Nat} {K f k : Nat} (h : ClsP (fun b c => alikeR (X b) (X c)) cl mn K) (hm : mn K = f) (hr : rep k < K ∧ cl (rep k) = k) (ha : alikeR (X K) (X (rep k))) : ClsP (fun b c => alikeR (X b) (X c)) (va_up cl K k) (va_up mn (K + 1) f) (K + 1) := by
  rw [← hm]
  exact h.old hr.1 (alikeR_sy ha) hr.2.symm
theorem lrn_new {X : Nat → RW} {cl mn rep : Nat → Nat} {K f : Nat} (h : ClsP (fun b c => alikeR (X b) (X c)) cl mn K) (hm : mn K = f) (hr : ∀ k, k < f → rep k < K ∧ cl (rep k) = k) (hn : ∀ k, k < f → ¬ alikeR (X K) (X (rep k))) : ClsP (fun b c => alikeR (X b) (X c)) (va_up cl K f) (va_up mn (K + 1) (f + 1)) (K + 1) := by
  have := h.new (h.none (eqv_al X) hm hr (fun k hk q => hn k hk (alikeR_sy q)))
  rw [hm] at this
  exact this
theorem lrn_rows {t : Gx} {B : Nat} {g : Nat → va_E} {rep : Nat → Nat} {f K : Nat} {X : Nat → RW} (h : ∀ k, k < f → RowOb t B g (49 + 4 * k) (X (rep k))) (hf : RowOb t B g (49 + 4 * f) (X K)) : ∀ k, k < f + 1 → RowOb t B g (49 + 4 * k) (X (va_up rep f K k)) := fun k hk => by
  by_cases e : k = f
  · subst e
    rw [va_up_s]
    exact hf
  · rw [va_up_n e]
    exact h k (by omega)

set_option maxHeartbeats 1000000 in
set_option maxRecDepth 100000 in
theorem x_X2_classAmong (l : Launch) (D : va_G) (t : Gx) (B N : Nat) (g : Nat → va_E) (f : Nat) (X : RW) (Y : Nat → RW) (hN : 220 ≤ N) (hFx : sFix t B g) (hf : f < 16) (hX : RowOb t B g (49 + 4 * f) X) (hY : ∀ k, k < f → RowOb t B g (49 + 4 * k) (Y k)) : Ci l D t B N yX2_classAmong cX2_classAmong 4 (some .int) 2 36 g [.ref (B + 23), .ref (B + (49 + 4 * f)), .int (nI f)] (fun r g' => g = g' ∧ ((∃ k, k < f ∧ alikeR X (Y k) ∧ r = nI k) ∨ ((∀ k, k < f → ¬ alikeR X (Y k)) ∧ r = nI f))) := by
  refine Ci.start (by decide) (Nat.le_of_ble_eq_true rfl) ?_
  intro p e s m below meth c ls C hr hlocks hS hl
  replace C : Cx D t p s m [.ref (B + 23), .ref (B + (49 + 4 * f)), .int (nI f)].toArray c cX2_classAmong 4 RX2 := C
  replace hl : lv_has ls 4 [(0, .ref (B + 23)), (1, .ref (B + (49 + 4 * f))), (2, .int (nI f))] := hl
  obtain ⟨ep, ew, en, len, ⟨r0, r1, r2, r3⟩, hl1, hq1⟩ := id hX
  refine lv_iconst (v := 0) C.x C.b dX2_classAmong_0 (by decide) ?_
  refine lv_istore_n (lv' := [(3, .int 0), (0, .ref (B + 23)), (1, .ref (B + (49 + 4 * f))), (2, .int (nI f))]) C.x C.b dX2_classAmong_1 rfl hl (by decide) rfl (fun ls hl => ?_)
  have lp_1 : ∀ (u_2 k_3 : Nat) (H : Heap) (locs : List Loc) (ls : Array Slot), k_3 + u_2 = f → (∀ j, j < k_3 → ¬ alikeR X (Y j)) → St D B s.heap N g H locs → lv_has ls 4 [(0, .ref (B + 23)), (1, .ref (B + (49 + 4 * f))), (2, .int (nI f)), (3, .int (nI k_3))] → W p l e (rmOf 2 36 0 0) s m [.ref (B + 23), .ref (B + (49 + 4 * f)), .int (nI f)].toArray below meth c H locs 0 0 (MQ below (qI D B N (fun r g' => g = g' ∧ ((∃ k, k < f ∧ alikeR X (Y k) ∧ r = nI k) ∨ ((∀ k, k < f → ¬ alikeR X (Y k)) ∧ r = nI f)))) [.ref (B + 23), .ref (B + (49 + 4 * f)), .int (nI f)].toArray s 0 0 (fun q => B ≤ q)) (F0 m 2 ls []) := by
    intro u_2
    induction u_2 with
    | zero =>
      intro k_3 H locs ls hk_4 hno hS hl
      obtain rfl : f = k_3 := by omega
      refine lv_iload_n C.x C.b dX2_classAmong_2 rfl (lv_at hl 3 rfl) ?_
      refine lv_iload_n C.x C.b dX2_classAmong_3 rfl (lv_at hl 2 rfl) ?_
      refine lv_icmp_ge (tgt := 29) C.x C.b dX2_classAmong_4 (by decide) (fun c_7 => ?_) (fun c_7 => absurd (nI_le (Nat.le_refl _) (by omega)) c_7)
      refine lv_iload_n C.x C.b dX2_classAmong_29 rfl (lv_at hl 2 rfl) ?_
      exact r_iret C hr hlocks hS ⟨rfl, Or.inr ⟨hno, rfl⟩⟩ dX2_classAmong_30
    | succ u_2 ih_5 =>
      intro k_3 H locs ls hk_4 hno hS hl
      refine lv_iload_n C.x C.b dX2_classAmong_2 rfl (lv_at hl 3 rfl) ?_
      refine lv_iload_n C.x C.b dX2_classAmong_3 rfl (lv_at hl 2 rfl) ?_
      refine lv_icmp_ge (tgt := 29) C.x C.b dX2_classAmong_4 (by decide) (fun c_8 => absurd c_8 (nI_ge (a := k_3) (b := f) (by omega) (by omega))) (fun c_8 => ?_)
      refine lv_aload_n C.x C.b dX2_classAmong_7 rfl (lv_at hl 1 rfl) ?_
      refine lv_aload_n C.x C.b dX2_classAmong_8 rfl (lv_at hl 0 rfl) ?_
      refine r_get ck2 flX2_29 C hS (by omega) hFx.1 (by decide) rfl dX2_classAmong_9 ?_
      refine lv_iload_n C.x C.b dX2_classAmong_12 rfl (lv_at hl 3 rfl) ?_
      refine r_aald k_3 rfl (by omega) (by decide) (lrQ_at (by omega)) C hS (by omega) 2 rfl rfl hFx.2.2.1 dX2_classAmong_13 ?_
      obtain ⟨q_9, q_10, q_11, q_12, ⟨e_13, e_14, e_15, e_16⟩, hl_17, hq_18⟩ := id (hY k_3 (by omega))
      refine r_callV (b := (49 + 4 * f)) (As := [.ref (B + (49 + 4 * k_3))]) (rest := []) (c_X4_firstOtherwise l D t B N g (49 + 4 * f) _ _ _ _ (49 + 4 * k_3) _ _ _ _ (by omega) ⟨r0, r1, r2, r3⟩ (by omega) ⟨e_13, e_14, e_15, e_16⟩ (by omega) (by omega)) mf_yX4_firstOtherwise mlX2_57 im_yX4_firstOtherwise se_yX4_firstOtherwise (by decide) C hS (by omega) r0 (show vwCl[4]? = some _ from rfl) rfl rfl hl.1 rfl (Nat.le_of_ble_eq_true rfl) dX2_classAmong_14 ⟨Nat.zero_le _, Nat.zero_le _⟩ (fun r_21 g_19 H locs w_20 hS => ?_)
      obtain ⟨rfl, er_21⟩ := w_20
      have ir_21 := foS_no (X := X) (by rw [← hq1.1]; exact hl1) (foS_ob hq1 hq_18 er_21)
      refine lv_iconst (v := (-1)) C.x C.b dX2_classAmong_17 (by decide) ?_
      refine lv_icmp_ne (tgt := 23) C.x C.b dX2_classAmong_18 (by decide) (fun c_22 => ?_) (fun c_22 => ?_)
      · skip
        refine lv_iinc (v := nI (k_3 + 1)) (lv' := [(3, .int (nI (k_3 + 1))), (0, .ref (B + 23)), (1, .ref (B + (49 + 4 * f))), (2, .int (nI f))]) C.x C.b dX2_classAmong_23 hl (k := 3) rfl (nI_1 k_3) (by decide) rfl (fun ls hl => ?_)
        refine lv_goto (tgt := 2) C.x C.b dX2_classAmong_26 (by decide) ?_
        exact ih_5 (k_3 + 1) _ _ _ (by omega) (fun j hj => by
        rcases Nat.lt_or_ge j k_3 with q9 | q9
        · exact hno j q9
        · obtain rfl : j = k_3 := by omega
          exact fun q => c_22 (ir_21.mpr q)) hS (lv_sub hl [1, 2, 3, 0] rfl)
      · skip
        refine lv_iload_n C.x C.b dX2_classAmong_21 rfl (lv_at hl 3 rfl) ?_
        exact r_iret C hr hlocks hS ⟨rfl, Or.inl ⟨k_3, by omega, ir_21.mp c_22, rfl⟩⟩ dX2_classAmong_22
  exact lp_1 f 0 _ _ _ (by omega) (fun _ h => absurd h (Nat.not_lt_zero _)) hS (lv_sub hl [1, 2, 3, 0] rfl)
set_option maxHeartbeats 1000000 in
set_option maxRecDepth 100000 in
theorem x_X2_learn (l : Launch) (D : va_G) (t : Gx) (B N : Nat) (g : Nat → va_E) (o pr w : Nat → Int32) (n : Nat) (ey wi ev : Int32) (o' w' : Nat → Int32) (q : Nat) (hN : 220 ≤ N) (hP : isProg t B g 1 o pr w n) (hn : n ≤ 8) (hW : isWat g 5 ey wi ev) (hScr : Scr t B g) (hE : ∀ q, q < n → o q = o' q) (hW2 : ∀ q, q < 8 → w q = w' q) (hO : okO o') (hoe : okE ey) (hwd : isWd wi) (hq : q < 16) (hPO : PartOk t g (fun a b => obR o' n w' wi ev ey (16 * a + b))) : Cv l D t B N N 0 0 yX2_learn cX2_learn 9 4 104 g [.ref (B + 23), .ref (B + 6), .ref (B + 1), .ref (B + 5), .int (nI q)] (fun g' => Kp t B g g' ∧ PartOk t g' (fun a b => obR o' n w' wi ev ey (16 * a + b)) ∧ PartAt t g' (fun a b => obR o' n w' wi ev ey (16 * a + b)) q ∧ ∀ j, 113 ≤ j → g' j = g j) := by
  refine Cv.start (by decide) (Nat.le_of_ble_eq_true rfl) ?_
  intro p e s m below meth c ls C hr hlocks hnm hS hl
  replace C : Cx D t p s m [.ref (B + 23), .ref (B + 6), .ref (B + 1), .ref (B + 5), .int (nI q)].toArray c cX2_learn 9 RX2 := C
  replace hl : lv_has ls 9 [(0, .ref (B + 23)), (1, .ref (B + 6)), (2, .ref (B + 1)), (3, .ref (B + 5)), (4, .int (nI q))] := hl
  obtain ⟨p0, p1, p2, p3⟩ := id hP
  have hKp : Kp t B g g := Kp.rf hScr
  have hFz : ∀ j, 113 ≤ j → g j = g j := fun _ _ => rfl
  refine lv_aload_n C.x C.b dX2_learn_0 rfl (lv_at hl 0 rfl) ?_
  have e_1 := hKp.2.2.2.2.2.1.1
  refine r_get ck2 flX2_16 C hS (by omega) e_1 (by decide) rfl dX2_learn_1 ?_
  refine lv_iload C.x C.b dX2_learn_4 (lv_at hl 4 rfl) ?_
  obtain ⟨q_2, e_3⟩ := hKp.2.2.2.2.2.2.1
  refine r_ialdN q rfl (by omega) (by decide) C hS (by omega) e_3 dX2_learn_6 ?_
  refine lv_if_le (tgt := 11) C.x C.b dX2_learn_7 (by decide) (fun c_4 => ?_) (fun c_4 => ?_)
  · skip
    refine lv_iconst (v := 0) C.x C.b dX2_learn_11 (by decide) ?_
    refine lv_istore (lv' := [(5, .int 0), (0, .ref (B + 23)), (1, .ref (B + 6)), (2, .ref (B + 1)), (3, .ref (B + 5)), (4, .int (nI q))]) C.x C.b dX2_learn_12 hl (by decide) rfl (fun ls hl => ?_)
    refine lv_iconst (v := 0) C.x C.b dX2_learn_14 (by decide) ?_
    refine lv_istore (lv' := [(6, .int 0), (5, .int 0), (0, .ref (B + 23)), (1, .ref (B + 6)), (2, .ref (B + 1)), (3, .ref (B + 5)), (4, .int (nI q))]) C.x C.b dX2_learn_15 hl (by decide) rfl (fun ls hl => ?_)
    have lp_5 : ∀ (u_6 k_7 : Nat) (f_11 : Nat) (cl_12 : Nat → Nat) (mn_13 : Nat → Nat) (rep_14 : Nat → Nat) (g_10 : Nat → va_E) (H : Heap) (locs : List Loc) (ls : Array Slot), k_7 + u_6 = 16 → (f_11 ≤ k_7) → (mn_13 k_7 = f_11) → (ClsP (fun b c => alikeR (obR o' n w' wi ev ey (16 * q + b)) (obR o' n w' wi ev ey (16 * q + c))) cl_12 mn_13 k_7) → (∀ k, k < f_11 → rep_14 k < k_7 ∧ cl_12 (rep_14 k) = k) → (∀ k, k < f_11 → RowOb t B g_10 (49 + 4 * k) (obR o' n w' wi ev ey (16 * q + rep_14 k))) → (∃ fn, g_10 (25 + q) = .inl (t.1, 16, .inl fn) ∧ ∀ b, b < k_7 → fn b = nI (cl_12 b)) → (∀ j, (25 ≤ j ∧ j ≤ 41 ∧ ¬ j = 25 + q) → g_10 j = g j) → (∀ j, 113 ≤ j → g_10 j = g j) → Kp t B g g_10 → St D B s.heap N g_10 H locs → lv_has ls 9 [(0, .ref (B + 23)), (1, .ref (B + 6)), (2, .ref (B + 1)), (3, .ref (B + 5)), (4, .int (nI q)), (5, .int (nI f_11)), (6, .int (nI k_7))] → W p l e (rmOf 4 104 0 0) s m [.ref (B + 23), .ref (B + 6), .ref (B + 1), .ref (B + 5), .int (nI q)].toArray below meth c H locs 0 0 (MQ below (qV D B N (fun g' => Kp t B g g' ∧ PartOk t g' (fun a b => obR o' n w' wi ev ey (16 * a + b)) ∧ PartAt t g' (fun a b => obR o' n w' wi ev ey (16 * a + b)) q ∧ ∀ j, 113 ≤ j → g' j = g j)) [.ref (B + 23), .ref (B + 6), .ref (B + 1), .ref (B + 5), .int (nI q)].toArray s 0 0 (fun q => B ≤ q)) (F0 m 17 ls []) := by
      intro u_6
      induction u_6 with
      | zero =>
        intro k_7 f_11 cl_12 mn_13 rep_14 g_10 H locs ls hk_8 hf_15 hm_16 hcp_17 hrp_18 hrw_19 hcn_20 hz_21 hz1_22 hKp hS hl
        obtain rfl : 16 = k_7 := by omega
        have hFz := hz1_22
        refine lv_iload C.x C.b dX2_learn_17 (lv_at hl 6 rfl) ?_
        refine lv_bipush (v := 16) C.x C.b dX2_learn_19 (by decide) ?_
        refine lv_icmp_ge (tgt := 102) C.x C.b dX2_learn_21 (by decide) (fun c_23 => ?_) (fun c_23 => absurd (by decide) c_23)
        refine lv_aload_n C.x C.b dX2_learn_102 rfl (lv_at hl 0 rfl) ?_
        have e_24 := hKp.2.2.2.2.2.1.1
        refine r_get ck2 flX2_16 C hS (by omega) e_24 (by decide) rfl dX2_learn_103 ?_
        refine lv_iload C.x C.b dX2_learn_106 (lv_at hl 4 rfl) ?_
        refine lv_iload C.x C.b dX2_learn_108 (lv_at hl 5 rfl) ?_
        obtain ⟨q_25, e_26⟩ := hKp.2.2.2.2.2.2.1
        refine r_iastN q rfl (by omega) (by decide) C hS (by omega) e_26 dX2_learn_110 (fun g_27 H locs e_28 o_29 hS => ?_)
        replace e_28 : g_27 41 = .inl (t.1, 16, .inl (upd q_25 q (nI f_11))) := e_28
        replace hKp : Kp t B g g_27 := hKp.cnt e_28 o_29
        replace hFz : ∀ j, 113 ≤ j → g_27 j = g j := fun j hj => (o_29 j (by omega)).trans (hFz j hj)
        obtain ⟨fn9, e9, hf9⟩ := hcn_20
        have pa9 : PartAt t _ (fun a b => obR o' n w' wi ev ey (16 * a + b)) q := ⟨_, _, e_28, (o_29 _ (by omega)).trans e9, cl_12, mn_13, hcp_17, by rw [hm_16]; exact up_s, hf9⟩
        have z9 : ∀ j, (25 ≤ j ∧ j ≤ 41 ∧ ¬ j = 25 + q) → _ = g j := hz_21
        exact r_vret C hr hlocks hS ⟨hKp, PartOk.put hPO pa9 (z9 41 (by omega)) e_28 e_26 (fun j h1 h2 h3 => (o_29 j (by omega)).trans (z9 j (by omega))), pa9, hFz⟩ dX2_learn_111
      | succ u_6 ih_9 =>
        intro k_7 f_11 cl_12 mn_13 rep_14 g_10 H locs ls hk_8 hf_15 hm_16 hcp_17 hrp_18 hrw_19 hcn_20 hz_21 hz1_22 hKp hS hl
        have hFz := hz1_22
        refine lv_iload C.x C.b dX2_learn_17 (lv_at hl 6 rfl) ?_
        refine lv_bipush (v := 16) C.x C.b dX2_learn_19 (by decide) ?_
        refine lv_icmp_ge (tgt := 102) C.x C.b dX2_learn_21 (by decide) (fun c_30 => absurd c_30 (nI_ge (a := k_7) (b := 16) (by omega) (by decide))) (fun c_30 => ?_)
        refine lv_aload_n C.x C.b dX2_learn_24 rfl (lv_at hl 0 rfl) ?_
        have e_31 := hKp.2.2.2.2.2.1.1
        refine r_get ck2 flX2_29 C hS (by omega) e_31 (by decide) rfl dX2_learn_25 ?_
        refine lv_iload C.x C.b dX2_learn_28 (lv_at hl 5 rfl) ?_
        have e_32 := hKp.2.2.2.2.2.1.2.2.1
        refine r_aald f_11 rfl (by omega) (by decide) (lrQ_at (by omega)) C hS (by omega) 2 rfl rfl e_32 dX2_learn_30 ?_
        refine lv_astore (lv' := [(7, .ref (B + (49 + 4 * f_11))), (0, .ref (B + 23)), (1, .ref (B + 6)), (2, .ref (B + 1)), (3, .ref (B + 5)), (4, .int (nI q)), (5, .int (nI f_11)), (6, .int (nI k_7))]) C.x C.b dX2_learn_31 hl (by decide) rfl (fun ls hl => ?_)
        refine lv_aload_n C.x C.b dX2_learn_33 rfl (lv_at hl 2 rfl) ?_
        refine lv_aload_n C.x C.b dX2_learn_34 rfl (lv_at hl 3 rfl) ?_
        refine lv_aload_n C.x C.b dX2_learn_35 rfl (lv_at hl 4 rfl) ?_
        refine lv_iload C.x C.b dX2_learn_36 (lv_at hl 5 rfl) ?_
        refine lv_iload C.x C.b dX2_learn_38 (lv_at hl 7 rfl) ?_
        refine lv_aload_n C.x C.b dX2_learn_40 rfl (lv_at hl 1 rfl) ?_
        refine r_get ck2 flX2_23 C hS (by omega) e_31 (by decide) rfl dX2_learn_41 ?_
        have e_33 : g_10 1 = .inr (3, [.ref (B + (1 + 1)), .ref (B + (1 + 2)), .ref (B + (1 + 3)), .int (nI n)]) := (hKp.1 _ (by omega)).trans p0
        have e_34 : g_10 (1 + 1) = .inl (t.1, 8, .inl o) := (hKp.1 _ (by omega)).trans p1
        have e_35 : g_10 (1 + 2) = .inl (t.1, 8, .inl pr) := (hKp.1 _ (by omega)).trans p2
        have e_36 : g_10 (1 + 3) = .inl (t.1, 8, .inl w) := (hKp.1 _ (by omega)).trans p3
        have e_37 : g_10 5 = .inr (6, [.int ey, .int wi, .int ev]) := (hKp.1 _ (by omega)).trans hW
        obtain ⟨q_41, q_42, q_43, ⟨e_44, e_45, e_46⟩⟩ := hKp.2.2.1
        refine r_callVv (b := 6) (As := [.ref (B + 1), .ref (B + 5), .int (nI q), .int (nI k_7), .ref (B + 42)]) (rest := []) (ke_go l D t B N g_10 _ _ _ _ _ _ _ o' w' 42 q k_7 (by omega) ⟨e_33, e_34, e_35, e_36⟩ e_37 (by omega) (Or.inr (Or.inl rfl)) hKp.2 hE hW2 hO hwd (by omega) (by omega)) mf_yX1_go mlX2_34 im_yX1_go se_yX1_go (by decide) C hS (by omega) e_44 (show vwCl[1]? = some _ from rfl) rfl rfl hl.1 rfl (Nat.le_of_ble_eq_true rfl) dX2_learn_44 ⟨Nat.zero_le _, Nat.zero_le _⟩ (fun g_38 H locs w_39 hS => ?_)
        obtain ⟨w_39, hR_47, hf_48⟩ := w_39
        replace hKp : Kp t B g g_38 := hKp.tr w_39
        replace hFz : ∀ j, 113 ≤ j → g_38 j = g j := fun j hj => (hf_48 j (by omega)).trans (hFz j hj)
        refine lv_aload C.x C.b dX2_learn_47 (lv_at hl 0 rfl) ?_
        refine lv_aload_n C.x C.b dX2_learn_49 rfl (lv_at hl 1 rfl) ?_
        have e_49 := hKp.2.2.2.2.2.1.1
        refine r_get ck2 flX2_23 C hS (by omega) e_49 (by decide) rfl dX2_learn_50 ?_
        refine lv_aload_n C.x C.b dX2_learn_53 rfl (lv_at hl 4 rfl) ?_
        have e_50 : g_38 5 = .inr (6, [.int ey, .int wi, .int ev]) := (hKp.1 _ (by omega)).trans hW
        refine r_get ck6 flX2_40 C hS (by omega) e_50 (by decide) rfl dX2_learn_54 ?_
        refine lv_aload_n C.x C.b dX2_learn_57 rfl (lv_at hl 4 rfl) ?_
        refine r_get ck6 flX2_46 C hS (by omega) e_50 (by decide) rfl dX2_learn_58 ?_
        obtain ⟨q_54, q_55, q_56, q_57, ⟨e_58, e_59, e_60, e_61⟩, hl_62⟩ := hKp.2.2.2.2.1 (49 + 4 * f_11) (Or.inr (Or.inr (Or.inr (Or.inr ⟨f_11, by omega, rfl⟩))))
        refine r_callVv (b := (49 + 4 * f_11)) (As := [.ref (B + 42), .int ey, .int ev]) (rest := []) (ke_fill l D t B N g_38 o' w' n ey wi (16 * q + k_7) (49 + 4 * f_11) 42 ey ev ey (by omega) (Or.inr (Or.inr (Or.inr (Or.inr ⟨f_11, by omega, rfl⟩)))) (Or.inr (Or.inl rfl)) hKp.2 hR_47 Iff.rfl Iff.rfl Iff.rfl Iff.rfl) mf_yX4_fill mlX2_49 im_yX4_fill se_yX4_fill (by decide) C hS (by omega) e_58 (show vwCl[4]? = some _ from rfl) rfl rfl hl.1 rfl (Nat.le_of_ble_eq_true rfl) dX2_learn_61 ⟨Nat.zero_le _, Nat.zero_le _⟩ (fun g_51 H locs w_52 hS => ?_)
        obtain ⟨w_52, hR_63, hf_64⟩ := w_52
        have ob_65 := hR_47.keep (g' := g_51) (fun j h1 h2 => hf_64 j (by omega))
        replace hKp : Kp t B g g_51 := hKp.tr w_52
        replace hFz : ∀ j, 113 ≤ j → g_51 j = g j := fun j hj => (hf_64 j (by omega)).trans (hFz j hj)
        refine lv_aload_n C.x C.b dX2_learn_64 rfl (lv_at hl 1 rfl) ?_
        refine lv_aload C.x C.b dX2_learn_65 (lv_at hl 0 rfl) ?_
        refine lv_iload C.x C.b dX2_learn_67 (lv_at hl 6 rfl) ?_
        have e_69 := hKp.2.2.2.2.2.1.1
        refine r_callV (b := 23) (As := [.ref (B + (49 + 4 * f_11)), .int (nI f_11)]) (rest := []) (x_X2_classAmong l D t B N g_51 f_11 (obR o' n w' wi ev ey (16 * q + k_7)) (fun k => obR o' n w' wi ev ey (16 * q + rep_14 k)) (by omega) hKp.2.2.2.2.2.1 (by omega) hR_63 (fun k hk => (hrw_19 k hk).keep (fun j h1 h2 => (hf_64 j (by omega)).trans ((hf_48 j (by omega)))))) mf_yX2_classAmong mlX2_53 im_yX2_classAmong se_yX2_classAmong (by decide) C hS (by omega) e_69 (show vwCl[2]? = some _ from rfl) rfl rfl hl.1 rfl (Nat.le_of_ble_eq_true rfl) dX2_learn_69 ⟨Nat.zero_le _, Nat.zero_le _⟩ (fun r_68 g_66 H locs w_67 hS => ?_)
        obtain ⟨rfl, hc_70⟩ := w_67
        rcases hc_70 with ⟨k_71, hk_72, ha_73, rfl⟩ | ⟨hno_74, rfl⟩
        · skip
          refine lv_istore (lv' := [(8, .int (nI k_71)), (7, .ref (B + (49 + 4 * f_11))), (0, .ref (B + 23)), (1, .ref (B + 6)), (2, .ref (B + 1)), (3, .ref (B + 5)), (4, .int (nI q)), (5, .int (nI f_11)), (6, .int (nI k_7))]) C.x C.b dX2_learn_72 hl (by decide) rfl (fun ls hl => ?_)
          refine lv_aload_n C.x C.b dX2_learn_74 rfl (lv_at hl 2 rfl) ?_
          refine r_get ck2 flX2_11 C hS (by omega) e_69 (by decide) rfl dX2_learn_75 ?_
          refine lv_iload C.x C.b dX2_learn_78 (lv_at hl 6 rfl) ?_
          have e_75 := hKp.2.2.2.2.2.1.2.1
          refine r_aald q rfl (by omega) (by decide) (cnQ_at (by omega)) C hS (by omega) 4 rfl rfl e_75 dX2_learn_80 ?_
          obtain ⟨fn_76, e_77, hfn_78⟩ := hcn_20
          have e_79 : g_51 (25 + q) = .inl (t.1, 16, .inl fn_76) := (show g_51 (25 + q) = _ from (hf_64 _ (by omega)).trans ((hf_48 _ (by omega)))).trans e_77
          refine lv_iload C.x C.b dX2_learn_81 (lv_at hl 8 rfl) ?_
          refine lv_iload C.x C.b dX2_learn_83 (lv_at hl 0 rfl) ?_
          refine r_iastN k_7 rfl (by omega) (by decide) C hS (by omega) e_79 dX2_learn_85 (fun g_80 H locs e_81 o_82 hS => ?_)
          replace e_81 : g_80 (25 + q) = .inl (t.1, 16, .inl (upd fn_76 k_7 (nI k_71))) := e_81
          replace hKp : Kp t B g g_80 := hKp.cn (by omega) e_81 o_82
          replace hFz : ∀ j, 113 ≤ j → g_80 j = g j := fun j hj => (o_82 j (by omega)).trans (hFz j hj)
          refine lv_iload C.x C.b dX2_learn_86 (lv_at hl 0 rfl) ?_
          refine lv_iload C.x C.b dX2_learn_88 (lv_at hl 7 rfl) ?_
          refine lv_icmp_ne (tgt := 96) C.x C.b dX2_learn_90 (by decide) (fun c_83 => ?_) (fun c_83 => absurd c_83 (fun q => by have := (nI_eq (a := k_71) (b := f_11) (by omega) (by omega)).mp q; omega))
          refine lv_iinc (v := nI (k_7 + 1)) (lv' := [(6, .int (nI (k_7 + 1))), (8, .int (nI k_71)), (7, .ref (B + (49 + 4 * f_11))), (0, .ref (B + 23)), (1, .ref (B + 6)), (2, .ref (B + 1)), (3, .ref (B + 5)), (4, .int (nI q)), (5, .int (nI f_11))]) C.x C.b dX2_learn_96 hl (k := 8) rfl (nI_1 k_7) (by decide) rfl (fun ls hl => ?_)
          refine lv_goto (tgt := 17) C.x C.b dX2_learn_99 (by decide) ?_
          exact ih_9 (k_7 + 1) f_11 (va_up cl_12 k_7 k_71) (va_up mn_13 (k_7 + 1) f_11) rep_14 g_80 _ _ _ (by omega) (by omega) va_up_s (lrn_old (X := fun b => obR o' n w' wi ev ey (16 * q + b)) hcp_17 hm_16 (hrp_18 k_71 hk_72) ha_73) (lrn_repA hrp_18) (fun k hk => (hrw_19 k hk).keep (fun j h1 h2 => (o_82 j (by omega)).trans ((hf_64 j (by omega)).trans ((hf_48 j (by omega)))))) ⟨_, e_81, lrn_cn hfn_78⟩ (fun j hj => ((o_82 j (by omega)).trans ((hf_64 j (by omega)).trans ((hf_48 j (by omega))))).trans (hz_21 j hj)) hFz hKp hS (lv_sub hl [3, 4, 5, 6, 7, 8, 0] rfl)
        · skip
          refine lv_istore (lv' := [(8, .int (nI f_11)), (7, .ref (B + (49 + 4 * f_11))), (0, .ref (B + 23)), (1, .ref (B + 6)), (2, .ref (B + 1)), (3, .ref (B + 5)), (4, .int (nI q)), (5, .int (nI f_11)), (6, .int (nI k_7))]) C.x C.b dX2_learn_72 hl (by decide) rfl (fun ls hl => ?_)
          refine lv_aload_n C.x C.b dX2_learn_74 rfl (lv_at hl 2 rfl) ?_
          refine r_get ck2 flX2_11 C hS (by omega) e_69 (by decide) rfl dX2_learn_75 ?_
          refine lv_iload C.x C.b dX2_learn_78 (lv_at hl 6 rfl) ?_
          have e_84 := hKp.2.2.2.2.2.1.2.1
          refine r_aald q rfl (by omega) (by decide) (cnQ_at (by omega)) C hS (by omega) 4 rfl rfl e_84 dX2_learn_80 ?_
          obtain ⟨fn_85, e_86, hfn_87⟩ := hcn_20
          have e_88 : g_51 (25 + q) = .inl (t.1, 16, .inl fn_85) := (show g_51 (25 + q) = _ from (hf_64 _ (by omega)).trans ((hf_48 _ (by omega)))).trans e_86
          refine lv_iload C.x C.b dX2_learn_81 (lv_at hl 8 rfl) ?_
          refine lv_iload C.x C.b dX2_learn_83 (lv_at hl 0 rfl) ?_
          refine r_iastN k_7 rfl (by omega) (by decide) C hS (by omega) e_88 dX2_learn_85 (fun g_89 H locs e_90 o_91 hS => ?_)
          replace e_90 : g_89 (25 + q) = .inl (t.1, 16, .inl (upd fn_85 k_7 (nI f_11))) := e_90
          replace hKp : Kp t B g g_89 := hKp.cn (by omega) e_90 o_91
          replace hFz : ∀ j, 113 ≤ j → g_89 j = g j := fun j hj => (o_91 j (by omega)).trans (hFz j hj)
          refine lv_iload C.x C.b dX2_learn_86 (lv_at hl 0 rfl) ?_
          refine lv_iload C.x C.b dX2_learn_88 (lv_at hl 7 rfl) ?_
          refine lv_icmp_ne (tgt := 96) C.x C.b dX2_learn_90 (by decide) (fun c_92 => absurd rfl c_92) (fun c_92 => ?_)
          refine lv_iinc (v := nI (f_11 + 1)) (lv' := [(5, .int (nI (f_11 + 1))), (8, .int (nI f_11)), (7, .ref (B + (49 + 4 * f_11))), (0, .ref (B + 23)), (1, .ref (B + 6)), (2, .ref (B + 1)), (3, .ref (B + 5)), (4, .int (nI q)), (6, .int (nI k_7))]) C.x C.b dX2_learn_93 hl (k := 7) rfl (nI_1 f_11) (by decide) rfl (fun ls hl => ?_)
          refine lv_iinc (v := nI (k_7 + 1)) (lv' := [(6, .int (nI (k_7 + 1))), (5, .int (nI (f_11 + 1))), (8, .int (nI f_11)), (7, .ref (B + (49 + 4 * f_11))), (0, .ref (B + 23)), (1, .ref (B + 6)), (2, .ref (B + 1)), (3, .ref (B + 5)), (4, .int (nI q))]) C.x C.b dX2_learn_96 hl (k := 8) rfl (nI_1 k_7) (by decide) rfl (fun ls hl => ?_)
          refine lv_goto (tgt := 17) C.x C.b dX2_learn_99 (by decide) ?_
          exact ih_9 (k_7 + 1) (f_11 + 1) (va_up cl_12 k_7 f_11) (va_up mn_13 (k_7 + 1) (f_11 + 1)) (va_up rep_14 f_11 k_7) g_89 _ _ _ (by omega) (by omega) va_up_s (lrn_new (X := fun b => obR o' n w' wi ev ey (16 * q + b)) hcp_17 hm_16 hrp_18 hno_74) (lrn_repB hrp_18) (lrn_rows (X := fun b => obR o' n w' wi ev ey (16 * q + b)) (fun k hk => (hrw_19 k hk).keep (fun j h1 h2 => (o_91 j (by omega)).trans ((hf_64 j (by omega)).trans ((hf_48 j (by omega)))))) (hR_63.keep (fun j h1 h2 => o_91 j (by omega)))) ⟨_, e_90, lrn_cn hfn_87⟩ (fun j hj => ((o_91 j (by omega)).trans ((hf_64 j (by omega)).trans ((hf_48 j (by omega))))).trans (hz_21 j hj)) hFz hKp hS (lv_sub hl [4, 5, 6, 7, 8, 1, 0] rfl)
    exact lp_5 16 0 0 (fun _ => 0) (fun _ => 0) (fun _ => 0) g _ _ _ (by omega) (Nat.le_refl _) rfl ⟨rfl, fun b hb => absurd hb (Nat.not_lt_zero _)⟩ (fun k hk => absurd hk (Nat.not_lt_zero _)) (fun k hk => absurd hk (Nat.not_lt_zero _)) (hKp.2.2.2.2.2.2.2.1 q hq |>.elim fun f9 e9 => ⟨f9, e9, fun b hb => absurd hb (Nat.not_lt_zero _)⟩) (fun _ _ => rfl) hFz hKp hS (lv_sub hl [2, 3, 4, 5, 6, 1, 0] rfl)
  · skip
    exact r_vret C hr hlocks hS ⟨hKp, hPO, PartOk.got (hPO q hq) e_3 c_4, hFz⟩ dX2_learn_10
