def ftA (X Y : RW) (z r : Int32) : Prop := (alikeR X Y ∧ r = -1001) ∨ ∃ k, foS X.1 X.2.1 X.2.2.2 Y.1 Y.2.1 Y.2.2.2 (nI k) ∧ (k < X.2.2.2 ∨ k < Y.2.2.2) ∧ r = if z = 2 then nI k else if z = 3 then (if k < X.2.2.2 then X.2.2.1 k else Y.2.2.1 k) else (if k < X.2.2.2 then X.1 k else Y.1 k)
theorem ftA_in1 {X Y : RW} {z r : Int32} {k : Nat} (h : foS X.1 X.2.1 X.2.2.2 Y.1 Y.2.1 Y.2.2.2 (nI k)) (hk : k < X.2.2.2) (e : r = if z = 2 then nI k else if z = 3 then X.2.2.1 k else X.1 k) : ftA X Y z r := Or.inr ⟨k, h, Or.inl hk, by rw [if_pos hk, if_pos hk]; exact e⟩
theorem ftA_in2 {X Y : RW} {z r : Int32} {k : Nat} (h : foS X.1 X.2.1 X.2.2.2 Y.1 Y.2.1 Y.2.2.2 (nI k)) (hn : ¬ k < X.2.2.2) (hk : k < Y.2.2.2) (e : r = if z = 2 then nI k else if z = 3 then Y.2.2.1 k else Y.1 k) : ftA X Y z r := Or.inr ⟨k, h, Or.inr hk, by rw [if_neg hn, if_neg hn]; exact e⟩
theorem ftA_out {X Y : RW} {z r : Int32} (h : foS X.1 X.2.1 X.2.2.2 Y.1 Y.2.1 Y.2.2.2 r) (h1 : ¬ inP X.2.2.2 r) (h2 : ¬ inP Y.2.2.2 r) (l1 : X.2.2.2 ≤ 42) (l2 : Y.2.2.2 ≤ 42) : ftA X Y z (-1001) := by
  rcases h with ⟨a, b, c⟩ | ⟨k, a, b, c, d, f, rfl⟩
  · exact Or.inl ⟨⟨a, b⟩, rfl⟩
  · rcases c with c | c
    · exact absurd (inP_of c (by omega)) h1
    · exact absurd (inP_of c (by omega)) h2
theorem foS_uniq {w1 n1 w2 n2 : Nat → Int32} {l1 l2 : Nat} {r r' : Int32} (h1 : l1 ≤ 42) (h2 : l2 ≤ 42) (h : foS w1 n1 l1 w2 n2 l2 r) (h' : foS w1 n1 l1 w2 n2 l2 r') : r = r' := by
  rcases h with ⟨a, b, c⟩ | ⟨k, a, b, c, d, f, e⟩
  · rcases h' with ⟨a', b', c'⟩ | ⟨k', a', b', c', d', f', e'⟩
    · rw [c, c']
    · exact absurd (b k' (by omega)) (f' (by omega) (by omega))
  · rcases h' with ⟨a', b', c'⟩ | ⟨k', a', b', c', d', f', e'⟩
    · exact absurd (b' k (by omega)) (f (by omega) (by omega))
    · rcases Nat.lt_trichotomy k k' with q | q | q
      · exact absurd (d' k q) (f (by omega) (by omega))
      · rw [e, e', q]
      · exact absurd (d k' q) (f' (by omega) (by omega))
theorem ftA_uniq {X Y : RW} {z r r' : Int32} (l1 : X.2.2.2 ≤ 42) (l2 : Y.2.2.2 ≤ 42) (h : ftA X Y z r) (h' : ftA X Y z r') : r = r' := by
  rcases h with ⟨a, b⟩ | ⟨k, a, b, c⟩
  · rcases h' with ⟨a', b'⟩ | ⟨k', a', b', c'⟩
    · rw [b, b']
    · have := (foS_no l1 a').mpr a
      exact absurd this (nI_nm1 (by omega))
  · rcases h' with ⟨a', b'⟩ | ⟨k', a', b', c'⟩
    · have := (foS_no l1 a).mpr a'
      exact absurd this (nI_nm1 (by omega))
    · have e := foS_uniq l1 l2 a a'
      have e2 : k = k' := (nI_eq (by omega) (by omega)).mp e
      rw [c, c', e2]
def pairA (X : Nat → Nat → RW) (x r : Int32) : Prop := ((x < 0 ∨ ¬ x ≤ 4) ∧ r = -1001) ∨ (¬ x < 0 ∧ x ≤ 4 ∧ (∀ a, a < 16 → ∀ b, b < 16 → alikeR (X a 0) (X a b)) ∧ r = -1001) ∨ (¬ x < 0 ∧ x ≤ 4 ∧ ∃ a b, a < 16 ∧ 1 ≤ b ∧ b < 16 ∧ ¬ alikeR (X a 0) (X a b) ∧ (∀ c, c < a → ∀ b, b < 16 → alikeR (X c 0) (X c b)) ∧ (∀ c, c < b → alikeR (X a 0) (X a c)) ∧ ((x = 0 ∧ r = nI a) ∨ (x = 1 ∧ r = nI b) ∨ (¬ x = 0 ∧ ¬ x = 1 ∧ ftA (X a 0) (X a b) x r)))
theorem pairA_uniq {X : Nat → Nat → RW} {x r r' : Int32} (hl : ∀ a b, (X a b).2.2.2 ≤ 42) (h : pairA X x r) (h' : pairA X x r') : r = r' := by
  rcases h with ⟨a1, e⟩ | ⟨a1, a2, a3, e⟩ | ⟨a1, a2, a, b, ha, hb1, hb, hn, hc, hd, he⟩
  · rcases h' with ⟨-, e'⟩ | ⟨b1, b2, -⟩ | ⟨b1, b2, -⟩
    · rw [e, e']
    · exact absurd a1 (fun q => q.elim b1 (fun q => q b2))
    · exact absurd a1 (fun q => q.elim b1 (fun q => q b2))
  · rcases h' with ⟨b1, e'⟩ | ⟨-, -, -, e'⟩ | ⟨-, -, a', b', ha', hb1', hb', hn', -⟩
    · rw [e, e']
    · rw [e, e']
    · exact absurd (a3 a' ha' b' hb') hn'
  · rcases h' with ⟨b1, e'⟩ | ⟨-, -, b3, e'⟩ | ⟨-, -, a', b', ha', hb1', hb', hn', hc', hd', he'⟩
    · exact absurd b1 (fun q => q.elim a1 (fun q => q a2))
    · exact absurd (b3 a ha b hb) hn
    · have ea : a = a' := by
        rcases Nat.lt_trichotomy a a' with q | q | q
        · exact absurd (hc' a q b hb) hn
        · exact q
        · exact absurd (hc a' q b' hb') hn'
      subst ea
      have eb : b = b' := by
        rcases Nat.lt_trichotomy b b' with q | q | q
        · exact absurd (hd' b q) hn
        · exact q
        · exact absurd (hd b' q) hn'
      subst eb
      rcases he with ⟨q1, q2⟩ | ⟨q1, q2⟩ | ⟨q0, q1, q2⟩
      · rcases he' with ⟨-, q2'⟩ | ⟨q1', -⟩ | ⟨q0', -, -⟩
        · rw [q2, q2']
        · rw [q1] at q1'
          exact absurd q1' (by decide)
        · exact absurd q1 q0'
      · rcases he' with ⟨q1', -⟩ | ⟨-, q2'⟩ | ⟨-, q1', -⟩
        · rw [q1] at q1'
          exact absurd q1' (by decide)
        · rw [q2, q2']
        · exact absurd q1 q1'
      · rcases he' with ⟨q1', -⟩ | ⟨q1', -⟩ | ⟨-, -, q2'⟩
        · exact absurd q1' q0
        · exact absurd q1' q1
        · exact ftA_uniq (hl _ _) (hl _ _) q2 q2'
theorem ClsP.one {al : Nat → Nat → Prop} {cl mn : Nat → Nat} {s : Nat} (h : ClsP al cl mn s) (hz : ∀ b, b < s → cl b = 0) : ∀ b, b ≤ s → mn b ≤ 1
  | 0, _ => by rw [h.1]; omega
  | b + 1, hb => by
    have := h.one hz b (by omega)
    rcases h.2 b (by omega) with ⟨-, q⟩ | ⟨-, e, q⟩
    · omega
    · rw [hz b (by omega)] at e
      omega
theorem qt_all {X : Nat → RW} (h : ∃ cl mn, ClsP (fun b c => alikeR (X b) (X c)) cl mn 16 ∧ mn 16 ≤ 1) : ∀ b, b < 16 → alikeR (X 0) (X b) := fun b hb => by
  obtain ⟨cl, mn, hc, hm⟩ := h
  have := hc.lt hb (Nat.le_refl 16)
  exact (hc.zero (eqv_al X) (by omega) hb).mp (by omega)
theorem part_al {X : Nat → RW} {cl mn : Nat → Nat} {fn : Nat → Int32} {b : Nat} (hc : ClsP (fun b c => alikeR (X b) (X c)) cl mn 16) (hf : ∀ b, b < 16 → fn b = nI (cl b)) (hb : b < 16) (h : alikeR (X 0) (X b)) : fn b = 0 := by
  rw [hf b hb, (hc.zero (eqv_al X) (by omega) hb).mpr h]
  rfl
theorem part_0 {X : Nat → RW} {cl mn : Nat → Nat} {fn : Nat → Int32} {b : Nat} (hc : ClsP (fun b c => alikeR (X b) (X c)) cl mn 16) (hf : ∀ b, b < 16 → fn b = nI (cl b)) (hb : b < 16) (h : fn b = 0) : cl b = 0 := by
  have := hc.lt hb (Nat.le_refl 16)
  have := hc.le 16 (Nat.le_refl 16)
  exact (nI_eq (by omega) (by omega)).mp ((hf b hb).symm.trans h)
theorem part_be {X : Nat → RW} {cl mn : Nat → Nat} {fn : Nat → Int32} {b : Nat} (hc : ClsP (fun b c => alikeR (X b) (X c)) cl mn 16) (hf : ∀ b, b < 16 → fn b = nI (cl b)) (hb : b < 16) (h : ∀ j, 1 ≤ j → j < b → fn j = 0) : ∀ c, c < b → alikeR (X 0) (X c) := fun c hcb => by
  by_cases e : c = 0
  · subst e
    exact alikeR_rf _
  · exact (hc.zero (eqv_al X) (by omega) (by omega)).mp (part_0 hc hf (by omega) (h c (by omega) hcb))
theorem part_no {X : Nat → RW} {cl mn : Nat → Nat} {fn : Nat → Int32} (hc : ClsP (fun b c => alikeR (X b) (X c)) cl mn 16) (hf : ∀ b, b < 16 → fn b = nI (cl b)) (h : ∀ j, 1 ≤ j → j < 16 → fn j = 0) : ¬ ∃ cl mn, ClsP (fun b c => alikeR (X b) (X c)) cl mn 16 ∧ 1 < mn 16 := fun ⟨cl2, mn2, hc2, hm⟩ => by
  have h1 := hc.one (fun b hb => by
    by_cases e : b = 0
    · subst e
      exact (hc.zero (eqv_al X) (by omega) (by omega)).mpr (alikeR_rf _)
    · exact part_0 hc hf hb (h b (by omega) hb)) 16 (Nat.le_refl 16)
  have h2 := (hc.uniq (eqv_al X) hc2 16 (Nat.le_refl 16)).1
  omega

set_option maxHeartbeats 1000000 in
set_option maxRecDepth 100000 in
theorem x_X7_firstTold (l : Launch) (D : va_G) (t : Gx) (B N : Nat) (g : Nat → va_E) (o pr w : Nat → Int32) (n : Nat) (ey wi ev : Int32) (o' w' : Nat → Int32) (a b : Nat) (z : Int32) (hN : 220 ≤ N) (hP : isProg t B g 1 o pr w n) (hn : n ≤ 8) (hW : isWat g 5 ey wi ev) (hScr : Scr t B g) (hE : ∀ q, q < n → o q = o' q) (hW2 : ∀ q, q < 8 → w q = w' q) (hO : okO o') (hoe : okE ey) (hwd : isWd wi) (ha : a < 16) (hb : b < 16) : Ci l D t B N yX7_firstTold cX7_firstTold 6 (some .int) 5 127 g [.ref (B + 0), .int (nI a), .int (nI b), .int z] (fun r g' => Kp t B g g' ∧ ftA (obR o' n w' wi ev ey (16 * a + 0)) (obR o' n w' wi ev ey (16 * a + b)) z r ∧ ∀ j, 23 ≤ j → g' j = g j) := by
  refine Ci.start (by decide) (Nat.le_of_ble_eq_true rfl) ?_
  intro p e s m below meth c ls C hr hlocks hS hl
  replace C : Cx D t p s m [.ref (B + 0), .int (nI a), .int (nI b), .int z].toArray c cX7_firstTold 6 RX7 := C
  replace hl : lv_has ls 6 [(0, .ref (B + 0)), (1, .int (nI a)), (2, .int (nI b)), (3, .int z)] := hl
  obtain ⟨p0, p1, p2, p3⟩ := id hP
  have hKp : Kp t B g g := Kp.rf hScr
  have hFz : ∀ j, 23 ≤ j → g j = g j := fun _ _ => rfl
  refine lv_aload_n C.x C.b dX7_firstTold_0 rfl (lv_at hl 0 rfl) ?_
  refine lv_aload_n C.x C.b dX7_firstTold_1 rfl (lv_at hl 0 rfl) ?_
  obtain ⟨v_1, e_2⟩ := hKp.2.1
  refine r_get ck7 flX7_40 C hS (by omega) e_2 (by decide) rfl dX7_firstTold_2 ?_
  refine lv_iload_n C.x C.b dX7_firstTold_5 rfl (lv_at hl 1 rfl) ?_
  refine lv_iconst (v := 0) C.x C.b dX7_firstTold_6 (by decide) ?_
  refine r_callVv (b := 0) (As := [.ref (B + 15), .int (nI a), .int 0]) (rest := []) (x_X7_fillRow l D t B N g _ _ _ _ _ _ _ o' w' 15 a 0 (by omega) ⟨p0, p1, p2, p3⟩ (by omega) hW hKp.2 hE hW2 hO hoe hwd (Or.inl rfl) (by omega) (by omega) (by omega)) mf_yX7_fillRow mlX7_119 im_yX7_fillRow se_yX7_fillRow (by decide) C hS (by omega) e_2 (show vwCl[7]? = some _ from rfl) rfl rfl hl.1 rfl (Nat.le_of_ble_eq_true rfl) dX7_firstTold_7 ⟨Nat.zero_le _, Nat.zero_le _⟩ (fun g_3 H locs w_4 hS => ?_)
  obtain ⟨w_4, hA_6, hB_7, hf_8⟩ := w_4
  replace hKp : Kp t B g g_3 := hKp.tr w_4
  replace hFz : ∀ j, 23 ≤ j → g_3 j = g j := fun j hj => (hf_8 j (by omega)).trans (hFz j hj)
  refine lv_aload_n C.x C.b dX7_firstTold_10 rfl (lv_at hl 0 rfl) ?_
  refine lv_aload_n C.x C.b dX7_firstTold_11 rfl (lv_at hl 0 rfl) ?_
  obtain ⟨v_9, e_10⟩ := hKp.2.1
  refine r_get ck7 flX7_44 C hS (by omega) e_10 (by decide) rfl dX7_firstTold_12 ?_
  refine lv_iload_n C.x C.b dX7_firstTold_15 rfl (lv_at hl 1 rfl) ?_
  refine lv_iload_n C.x C.b dX7_firstTold_16 rfl (lv_at hl 2 rfl) ?_
  have e_11 : g_3 1 = .inr (3, [.ref (B + (1 + 1)), .ref (B + (1 + 2)), .ref (B + (1 + 3)), .int (nI n)]) := (hKp.1 _ (by omega)).trans p0
  have e_12 : g_3 (1 + 1) = .inl (t.1, 8, .inl o) := (hKp.1 _ (by omega)).trans p1
  have e_13 : g_3 (1 + 2) = .inl (t.1, 8, .inl pr) := (hKp.1 _ (by omega)).trans p2
  have e_14 : g_3 (1 + 3) = .inl (t.1, 8, .inl w) := (hKp.1 _ (by omega)).trans p3
  have e_15 : g_3 5 = .inr (6, [.int ey, .int wi, .int ev]) := (hKp.1 _ (by omega)).trans hW
  refine r_callVv (b := 0) (As := [.ref (B + 19), .int (nI a), .int (nI b)]) (rest := []) (x_X7_fillRow l D t B N g_3 _ _ _ _ _ _ _ o' w' 19 a b (by omega) ⟨e_11, e_12, e_13, e_14⟩ (by omega) e_15 hKp.2 hE hW2 hO hoe hwd (Or.inr (Or.inl rfl)) (by omega) (by omega) (by omega)) mf_yX7_fillRow mlX7_119 im_yX7_fillRow se_yX7_fillRow (by decide) C hS (by omega) e_10 (show vwCl[7]? = some _ from rfl) rfl rfl hl.1 rfl (Nat.le_of_ble_eq_true rfl) dX7_firstTold_17 ⟨Nat.zero_le _, Nat.zero_le _⟩ (fun g_16 H locs w_17 hS => ?_)
  obtain ⟨w_17, hA_19, hB_20, hf_21⟩ := w_17
  have ob_22 := hB_7.keep (g' := g_16) (fun j h1 h2 => hf_21 j (by omega))
  replace hKp : Kp t B g g_16 := hKp.tr w_17
  replace hFz : ∀ j, 23 ≤ j → g_16 j = g j := fun j hj => (hf_21 j (by omega)).trans (hFz j hj)
  obtain ⟨q_23, q_24, q_25, q_26, ⟨e_27, e_28, e_29, e_30⟩, hl_31, hq_32⟩ := id ob_22
  obtain ⟨q_33, q_34, q_35, q_36, ⟨e_37, e_38, e_39, e_40⟩, hl_41, hq_42⟩ := id hB_20
  refine lv_aload_n C.x C.b dX7_firstTold_20 rfl (lv_at hl 0 rfl) ?_
  obtain ⟨v_43, e_44⟩ := hKp.2.1
  refine r_get ck7 flX7_40 C hS (by omega) e_44 (by decide) rfl dX7_firstTold_21 ?_
  refine lv_aload_n C.x C.b dX7_firstTold_24 rfl (lv_at hl 0 rfl) ?_
  refine r_get ck7 flX7_44 C hS (by omega) e_44 (by decide) rfl dX7_firstTold_25 ?_
  refine r_callV (b := 15) (As := [.ref (B + 19)]) (rest := []) (c_X4_firstOtherwise l D t B N g_16 15 _ _ _ _ 19 _ _ _ _ (by omega) ⟨e_27, e_28, e_29, e_30⟩ (by omega) ⟨e_37, e_38, e_39, e_40⟩ (by omega) (by omega)) mf_yX4_firstOtherwise mlX7_210 im_yX4_firstOtherwise se_yX4_firstOtherwise (by decide) C hS (by omega) e_27 (show vwCl[4]? = some _ from rfl) rfl rfl hl.1 rfl (Nat.le_of_ble_eq_true rfl) dX7_firstTold_28 ⟨Nat.zero_le _, Nat.zero_le _⟩ (fun r_47 g_45 H locs w_46 hS => ?_)
  obtain ⟨rfl, er_47⟩ := w_46
  have hfo := foS_ob hq_32 hq_42 er_47
  refine lv_istore (lv' := [(4, .int r_47), (0, .ref (B + 0)), (1, .int (nI a)), (2, .int (nI b)), (3, .int z)]) C.x C.b dX7_firstTold_31 hl (by decide) rfl (fun ls hl => ?_)
  refine lv_aload_n C.x C.b dX7_firstTold_33 rfl (lv_at hl 1 rfl) ?_
  refine r_get ck7 flX7_40 C hS (by omega) e_44 (by decide) rfl dX7_firstTold_34 ?_
  refine lv_iload C.x C.b dX7_firstTold_37 (lv_at hl 0 rfl) ?_
  refine r_callV (b := 15) (As := [.int r_47]) (rest := []) (c_X4_has l D t B N g_16 15 _ _ _ _ r_47 (by omega) ⟨e_27, e_28, e_29, e_30⟩) mf_yX4_has mlX7_139 im_yX4_has se_yX4_has (by decide) C hS (by omega) e_27 (show vwCl[4]? = some _ from rfl) rfl rfl hl.1 rfl (Nat.le_of_ble_eq_true rfl) dX7_firstTold_39 ⟨Nat.zero_le _, Nat.zero_le _⟩ (fun r_50 g_48 H locs w_49 hS => ?_)
  obtain ⟨rfl, er_50⟩ := w_49
  by_cases b_51 : inP q_26 r_47
  · rw [bz_t b_51] at er_50
    subst er_50
    obtain ⟨q_52, hq_53, rfl⟩ := inP_nI b_51 (by omega)
    refine lv_if_eq (tgt := 52) C.x C.b dX7_firstTold_42 (by decide) (fun c_54 => absurd c_54 (by decide)) (fun c_54 => ?_)
    refine lv_aload_n C.x C.b dX7_firstTold_45 rfl (lv_at hl 1 rfl) ?_
    refine r_get ck7 flX7_40 C hS (by omega) e_44 (by decide) rfl dX7_firstTold_46 ?_
    refine lv_goto (tgt := 56) C.x C.b dX7_firstTold_49 (by decide) ?_
    refine lv_astore (lv' := [(5, .ref (B + 15)), (4, .int (nI q_52)), (0, .ref (B + 0)), (1, .int (nI a)), (2, .int (nI b)), (3, .int z)]) C.x C.b dX7_firstTold_56 hl (by decide) rfl (fun ls hl => ?_)
    refine lv_aload C.x C.b dX7_firstTold_58 (lv_at hl 0 rfl) ?_
    refine lv_iload C.x C.b dX7_firstTold_60 (lv_at hl 1 rfl) ?_
    refine r_callV (b := 15) (As := [.int (nI q_52)]) (rest := []) (c_X4_has l D t B N g_16 15 _ _ _ _ (nI q_52) (by omega) ⟨e_27, e_28, e_29, e_30⟩) mf_yX4_has mlX7_139 im_yX4_has se_yX4_has (by decide) C hS (by omega) e_27 (show vwCl[4]? = some _ from rfl) rfl rfl hl.1 rfl (Nat.le_of_ble_eq_true rfl) dX7_firstTold_62 ⟨Nat.zero_le _, Nat.zero_le _⟩ (fun r_57 g_55 H locs w_56 hS => ?_)
    obtain ⟨rfl, er_57⟩ := w_56
    rw [bz_t (inP_of hq_53 (by omega))] at er_57
    subst er_57
    refine lv_if_ne (tgt := 72) C.x C.b dX7_firstTold_65 (by decide) (fun c_58 => ?_) (fun c_58 => absurd c_58 (by decide))
    refine lv_iload_n C.x C.b dX7_firstTold_72 rfl (lv_at hl 5 rfl) ?_
    by_cases h_59 : z = 2
    · refine lv_lookup (off := 27) (tgt := 100) C.x C.b dX7_firstTold_73 (by decide) (by rw [h_59]; decide) (by decide) ?_
      refine lv_iload C.x C.b dX7_firstTold_100 (lv_at hl 1 rfl) ?_
      exact r_iret C hr hlocks hS ⟨hKp, ftA_in1 hfo (by rw [← hq_32.1]; exact hq_53) (by rw [if_pos h_59]), hFz⟩ dX7_firstTold_102
    by_cases h_60 : z = 3
    · refine lv_lookup (off := 30) (tgt := 103) C.x C.b dX7_firstTold_73 (by decide) (by rw [h_60]; decide) (by decide) ?_
      refine lv_aload C.x C.b dX7_firstTold_103 (lv_at hl 0 rfl) ?_
      refine r_get ck4 flX7_140 C hS (by omega) e_27 (by decide) rfl dX7_firstTold_105 ?_
      refine lv_iload C.x C.b dX7_firstTold_108 (lv_at hl 1 rfl) ?_
      refine r_ialdN q_52 rfl (by omega) (by decide) C hS (by omega) e_28 dX7_firstTold_110 ?_
      exact r_iret C hr hlocks hS ⟨hKp, ftA_in1 hfo (by rw [← hq_32.1]; exact hq_53) (by rw [if_neg h_59, if_pos h_60]; exact (hq_32.2 q_52 hq_53).1.trans (by rw [Nat.mul_zero, Nat.zero_add])), hFz⟩ dX7_firstTold_111
    refine lv_lookup (off := 39) (tgt := 112) C.x C.b dX7_firstTold_73 (by decide) (by show Op.lookupswitch.offset [(2, 27), (3, 30)] 39 _ = 39; rw [lv_osw h_59 (by decide), lv_osw h_60 (by decide)]; rfl) (by decide) ?_
    refine lv_aload C.x C.b dX7_firstTold_112 (lv_at hl 0 rfl) ?_
    refine r_get ck4 flX7_143 C hS (by omega) e_27 (by decide) rfl dX7_firstTold_114 ?_
    refine lv_iload C.x C.b dX7_firstTold_117 (lv_at hl 1 rfl) ?_
    refine r_ialdN q_52 rfl (by omega) (by decide) C hS (by omega) e_29 dX7_firstTold_119 ?_
    exact r_iret C hr hlocks hS ⟨hKp, ftA_in1 hfo (by rw [← hq_32.1]; exact hq_53) (by rw [if_neg h_59, if_neg h_60]; exact (hq_32.2 q_52 hq_53).2.1.trans (by rw [Nat.mul_zero, Nat.zero_add])), hFz⟩ dX7_firstTold_120
  · rw [bz_f b_51] at er_50
    subst er_50
    refine lv_if_eq (tgt := 52) C.x C.b dX7_firstTold_42 (by decide) (fun c_61 => ?_) (fun c_61 => absurd (by decide) c_61)
    refine lv_aload_n C.x C.b dX7_firstTold_52 rfl (lv_at hl 1 rfl) ?_
    refine r_get ck7 flX7_44 C hS (by omega) e_44 (by decide) rfl dX7_firstTold_53 ?_
    refine lv_astore (lv' := [(5, .ref (B + 19)), (4, .int r_47), (0, .ref (B + 0)), (1, .int (nI a)), (2, .int (nI b)), (3, .int z)]) C.x C.b dX7_firstTold_56 hl (by decide) rfl (fun ls hl => ?_)
    refine lv_aload C.x C.b dX7_firstTold_58 (lv_at hl 0 rfl) ?_
    refine lv_iload C.x C.b dX7_firstTold_60 (lv_at hl 1 rfl) ?_
    refine r_callV (b := 19) (As := [.int r_47]) (rest := []) (c_X4_has l D t B N g_16 19 _ _ _ _ r_47 (by omega) ⟨e_37, e_38, e_39, e_40⟩) mf_yX4_has mlX7_139 im_yX4_has se_yX4_has (by decide) C hS (by omega) e_37 (show vwCl[4]? = some _ from rfl) rfl rfl hl.1 rfl (Nat.le_of_ble_eq_true rfl) dX7_firstTold_62 ⟨Nat.zero_le _, Nat.zero_le _⟩ (fun r_64 g_62 H locs w_63 hS => ?_)
    obtain ⟨rfl, er_64⟩ := w_63
    by_cases b_65 : inP q_36 r_47
    · rw [bz_t b_65] at er_64
      subst er_64
      obtain ⟨q_66, hq_67, rfl⟩ := inP_nI b_65 (by omega)
      refine lv_if_ne (tgt := 72) C.x C.b dX7_firstTold_65 (by decide) (fun c_68 => ?_) (fun c_68 => absurd c_68 (by decide))
      refine lv_iload_n C.x C.b dX7_firstTold_72 rfl (lv_at hl 5 rfl) ?_
      by_cases h_69 : z = 2
      · refine lv_lookup (off := 27) (tgt := 100) C.x C.b dX7_firstTold_73 (by decide) (by rw [h_69]; decide) (by decide) ?_
        refine lv_iload C.x C.b dX7_firstTold_100 (lv_at hl 1 rfl) ?_
        exact r_iret C hr hlocks hS ⟨hKp, ftA_in2 hfo (by rw [← hq_32.1]; exact (fun q9 => b_51 (inP_of q9 (by omega)))) (by rw [← hq_42.1]; exact hq_67) (by rw [if_pos h_69]), hFz⟩ dX7_firstTold_102
      by_cases h_70 : z = 3
      · refine lv_lookup (off := 30) (tgt := 103) C.x C.b dX7_firstTold_73 (by decide) (by rw [h_70]; decide) (by decide) ?_
        refine lv_aload C.x C.b dX7_firstTold_103 (lv_at hl 0 rfl) ?_
        refine r_get ck4 flX7_140 C hS (by omega) e_37 (by decide) rfl dX7_firstTold_105 ?_
        refine lv_iload C.x C.b dX7_firstTold_108 (lv_at hl 1 rfl) ?_
        refine r_ialdN q_66 rfl (by omega) (by decide) C hS (by omega) e_38 dX7_firstTold_110 ?_
        exact r_iret C hr hlocks hS ⟨hKp, ftA_in2 hfo (by rw [← hq_32.1]; exact (fun q9 => b_51 (inP_of q9 (by omega)))) (by rw [← hq_42.1]; exact hq_67) (by rw [if_neg h_69, if_pos h_70]; exact (hq_42.2 q_66 hq_67).1.trans (by rw [Nat.mul_zero, Nat.zero_add])), hFz⟩ dX7_firstTold_111
      refine lv_lookup (off := 39) (tgt := 112) C.x C.b dX7_firstTold_73 (by decide) (by show Op.lookupswitch.offset [(2, 27), (3, 30)] 39 _ = 39; rw [lv_osw h_69 (by decide), lv_osw h_70 (by decide)]; rfl) (by decide) ?_
      refine lv_aload C.x C.b dX7_firstTold_112 (lv_at hl 0 rfl) ?_
      refine r_get ck4 flX7_143 C hS (by omega) e_37 (by decide) rfl dX7_firstTold_114 ?_
      refine lv_iload C.x C.b dX7_firstTold_117 (lv_at hl 1 rfl) ?_
      refine r_ialdN q_66 rfl (by omega) (by decide) C hS (by omega) e_39 dX7_firstTold_119 ?_
      exact r_iret C hr hlocks hS ⟨hKp, ftA_in2 hfo (by rw [← hq_32.1]; exact (fun q9 => b_51 (inP_of q9 (by omega)))) (by rw [← hq_42.1]; exact hq_67) (by rw [if_neg h_69, if_neg h_70]; exact (hq_42.2 q_66 hq_67).2.1.trans (by rw [Nat.mul_zero, Nat.zero_add])), hFz⟩ dX7_firstTold_120
    · rw [bz_f b_65] at er_64
      subst er_64
      refine lv_if_ne (tgt := 72) C.x C.b dX7_firstTold_65 (by decide) (fun c_71 => absurd (by decide) c_71) (fun c_71 => ?_)
      refine lv_sipush (v := (-1001)) C.x C.b dX7_firstTold_68 (by decide) ?_
      exact r_iret C hr hlocks hS ⟨hKp, ftA_out hfo (by rw [← hq_32.1]; exact b_51) (by rw [← hq_42.1]; exact b_65) (by rw [← hq_32.1]; exact hl_31) (by rw [← hq_42.1]; exact hl_41), hFz⟩ dX7_firstTold_71
set_option maxHeartbeats 1000000 in
set_option maxRecDepth 100000 in
theorem x_X7_pair (l : Launch) (D : va_G) (t : Gx) (B N : Nat) (g : Nat → va_E) (o pr w : Nat → Int32) (n : Nat) (ey wi ev : Int32) (o' w' : Nat → Int32) (x : Int32) (hN : 220 ≤ N) (hP : isProg t B g 1 o pr w n) (hn : n ≤ 8) (hW : isWat g 5 ey wi ev) (hScr : Scr t B g) (hE : ∀ q, q < n → o q = o' q) (hW2 : ∀ q, q < 8 → w q = w' q) (hO : okO o') (hoe : okE ey) (hwd : isWd wi) (hPO : PartOk t g (fun a b => obR o' n w' wi ev ey (16 * a + b))) : Ci l D t B N yX7_pair cX7_pair 4 (some .int) 6 153 g [.ref (B + 0), .int x] (fun r g' => Kp t B g g' ∧ (pairA (fun a b => obR o' n w' wi ev ey (16 * a + b)) x r) ∧ PartOk t g' (fun a b => obR o' n w' wi ev ey (16 * a + b)) ∧ ∀ j, 113 ≤ j → g' j = g j) := by
  refine Ci.start (by decide) (Nat.le_of_ble_eq_true rfl) ?_
  intro p e s m below meth c ls C hr hlocks hS hl
  replace C : Cx D t p s m [.ref (B + 0), .int x].toArray c cX7_pair 4 RX7 := C
  replace hl : lv_has ls 4 [(0, .ref (B + 0)), (1, .int x)] := hl
  obtain ⟨p0, p1, p2, p3⟩ := id hP
  have hKp : Kp t B g g := Kp.rf hScr
  have hFz : ∀ j, 113 ≤ j → g j = g j := fun _ _ => rfl
  refine lv_iload_n C.x C.b dX7_pair_0 rfl (lv_at hl 1 rfl) ?_
  refine lv_if_lt (tgt := 9) C.x C.b dX7_pair_1 (by decide) (fun c_1 => ?_) (fun c_1 => ?_)
  · skip
    refine lv_sipush (v := (-1001)) C.x C.b dX7_pair_9 (by decide) ?_
    exact r_iret C hr hlocks hS ⟨hKp, Or.inl ⟨Or.inl c_1, rfl⟩, hPO, hFz⟩ dX7_pair_12
  · skip
    refine lv_iload_n C.x C.b dX7_pair_4 rfl (lv_at hl 1 rfl) ?_
    refine lv_iconst (v := 4) C.x C.b dX7_pair_5 (by decide) ?_
    refine lv_icmp_le (tgt := 13) C.x C.b dX7_pair_6 (by decide) (fun c_2 => ?_) (fun c_2 => ?_)
    · skip
      refine lv_aload_n C.x C.b dX7_pair_13 rfl (lv_at hl 0 rfl) ?_
      obtain ⟨v_6, e_7⟩ := hKp.2.1
      refine r_callV (b := 0) (As := []) (rest := []) (x_X7_firstToldOpen l D t B N g _ _ _ _ _ _ _ o' w' (by omega) ⟨p0, p1, p2, p3⟩ (by omega) hW hKp.2 hE hW2 hO hoe hwd hPO) mf_yX7_firstToldOpen mlX7_166 im_yX7_firstToldOpen se_yX7_firstToldOpen (by decide) C hS (by omega) e_7 (show vwCl[7]? = some _ from rfl) rfl rfl hl.1 rfl (Nat.le_of_ble_eq_true rfl) dX7_pair_14 ⟨Nat.zero_le _, Nat.zero_le _⟩ (fun r_5 g_3 H locs w_4 hS => ?_)
      obtain ⟨w_4, ha_9, hPO, hf_8⟩ := w_4
      replace hKp : Kp t B g g_3 := hKp.tr w_4
      replace hFz : ∀ j, 113 ≤ j → g_3 j = g j := fun j hj => (hf_8 j (by omega)).trans (hFz j hj)
      rcases ha_9 with ⟨rfl, q_12⟩ | ⟨k_10, hk_11, rfl, q_12, q_13, hPA_14⟩
      · skip
        refine lv_istore_n (lv' := [(2, .int (-1)), (0, .ref (B + 0)), (1, .int x)]) C.x C.b dX7_pair_17 rfl hl (by decide) rfl (fun ls hl => ?_)
        refine lv_iload_n C.x C.b dX7_pair_18 rfl (lv_at hl 0 rfl) ?_
        refine lv_iconst (v := (-1)) C.x C.b dX7_pair_19 (by decide) ?_
        refine lv_icmp_ne (tgt := 27) C.x C.b dX7_pair_20 (by decide) (fun c_15 => absurd rfl c_15) (fun c_15 => ?_)
        refine lv_sipush (v := (-1001)) C.x C.b dX7_pair_23 (by decide) ?_
        exact r_iret C hr hlocks hS ⟨hKp, Or.inr (Or.inl ⟨c_1, c_2, fun a ha => qt_all (q_12 a ha), rfl⟩), hPO, hFz⟩ dX7_pair_26
      · skip
        refine lv_istore_n (lv' := [(2, .int (nI k_10)), (0, .ref (B + 0)), (1, .int x)]) C.x C.b dX7_pair_17 rfl hl (by decide) rfl (fun ls hl => ?_)
        refine lv_iload_n C.x C.b dX7_pair_18 rfl (lv_at hl 0 rfl) ?_
        refine lv_iconst (v := (-1)) C.x C.b dX7_pair_19 (by decide) ?_
        refine lv_icmp_ne (tgt := 27) C.x C.b dX7_pair_20 (by decide) (fun c_16 => ?_) (fun c_16 => absurd c_16 (nI_nm1 (by omega)))
        refine lv_aload_n C.x C.b dX7_pair_27 rfl (lv_at hl 1 rfl) ?_
        obtain ⟨v_17, e_18⟩ := hKp.2.1
        refine r_get ck7 flX7_50 C hS (by omega) e_18 (by decide) rfl dX7_pair_28 ?_
        refine lv_iload_n C.x C.b dX7_pair_31 rfl (lv_at hl 0 rfl) ?_
        obtain ⟨cn_19, fn_20, e_21, e_22, cl_23, mn_24, hcp_25, hcn_26, hfn_27⟩ := id hPA_14
        have e_31 := hKp.2.2.2.2.2.1.1
        refine r_callV (b := 23) (As := [.int (nI k_10)]) (rest := []) (x_X2_firstParted l D t B N g_3 k_10 fn_20 (by omega) hKp.2.2.2.2.2.1 (by omega) e_22) mf_yX2_firstParted mlX7_170 im_yX2_firstParted se_yX2_firstParted (by decide) C hS (by omega) e_31 (show vwCl[2]? = some _ from rfl) rfl rfl hl.1 rfl (Nat.le_of_ble_eq_true rfl) dX7_pair_32 ⟨Nat.zero_le _, Nat.zero_le _⟩ (fun r_30 g_28 H locs w_29 hS => ?_)
        obtain ⟨rfl, h_32⟩ := w_29
        rcases h_32 with ⟨b_33, hb_34, hb_35, hb_36, hb_37, rfl⟩ | ⟨hb_37, rfl⟩
        · skip
          refine lv_istore_n (lv' := [(3, .int (nI b_33)), (2, .int (nI k_10)), (0, .ref (B + 0)), (1, .int x)]) C.x C.b dX7_pair_35 rfl hl (by decide) rfl (fun ls hl => ?_)
          refine lv_iload_n C.x C.b dX7_pair_36 rfl (lv_at hl 3 rfl) ?_
          refine lv_if_ne (tgt := 42) C.x C.b dX7_pair_37 (by decide) (fun c_38 => ?_) (fun c_38 => ?_)
          · skip
            refine lv_iload_n C.x C.b dX7_pair_42 rfl (lv_at hl 3 rfl) ?_
            refine lv_iconst (v := 1) C.x C.b dX7_pair_43 (by decide) ?_
            refine lv_icmp_ne (tgt := 49) C.x C.b dX7_pair_44 (by decide) (fun c_39 => ?_) (fun c_39 => ?_)
            · skip
              refine lv_aload_n C.x C.b dX7_pair_49 rfl (lv_at hl 2 rfl) ?_
              refine lv_iload_n C.x C.b dX7_pair_50 rfl (lv_at hl 1 rfl) ?_
              refine lv_iload_n C.x C.b dX7_pair_51 rfl (lv_at hl 0 rfl) ?_
              refine lv_iload_n C.x C.b dX7_pair_52 rfl (lv_at hl 3 rfl) ?_
              have e_40 : g_3 1 = .inr (3, [.ref (B + (1 + 1)), .ref (B + (1 + 2)), .ref (B + (1 + 3)), .int (nI n)]) := (hKp.1 _ (by omega)).trans p0
              have e_41 : g_3 (1 + 1) = .inl (t.1, 8, .inl o) := (hKp.1 _ (by omega)).trans p1
              have e_42 : g_3 (1 + 2) = .inl (t.1, 8, .inl pr) := (hKp.1 _ (by omega)).trans p2
              have e_43 : g_3 (1 + 3) = .inl (t.1, 8, .inl w) := (hKp.1 _ (by omega)).trans p3
              have e_44 : g_3 5 = .inr (6, [.int ey, .int wi, .int ev]) := (hKp.1 _ (by omega)).trans hW
              refine r_callV (b := 0) (As := [.int (nI k_10), .int (nI b_33), .int x]) (rest := []) (x_X7_firstTold l D t B N g_3 _ _ _ _ _ _ _ o' w' k_10 b_33 x (by omega) ⟨e_40, e_41, e_42, e_43⟩ (by omega) e_44 hKp.2 hE hW2 hO hoe hwd (by omega) (by omega)) mf_yX7_firstTold mlX7_173 im_yX7_firstTold se_yX7_firstTold (by decide) C hS (by omega) e_18 (show vwCl[7]? = some _ from rfl) rfl rfl hl.1 rfl (Nat.le_of_ble_eq_true rfl) dX7_pair_53 ⟨Nat.zero_le _, Nat.zero_le _⟩ (fun r_47 g_45 H locs w_46 hS => ?_)
              obtain ⟨w_46, ft_49, hf_48⟩ := w_46
              replace hKp : Kp t B g g_45 := hKp.tr w_46
              replace hFz : ∀ j, 113 ≤ j → g_45 j = g j := fun j hj => (hf_48 j (by omega)).trans (hFz j hj)
              replace hPO := hPO.keep (g' := g_45) (fun j h1 h2 => hf_48 j (by omega))
              exact r_iret C hr hlocks hS ⟨hKp, Or.inr (Or.inr ⟨c_1, c_2, k_10, b_33, hk_11, hb_34, hb_35, fun q9 => hb_36 (part_al hcp_25 hfn_27 hb_35 q9), fun c hc => qt_all (q_12 c hc), fun c hc => part_be hcp_25 hfn_27 hb_35 hb_37 c hc, Or.inr (Or.inr ⟨c_38, c_39, ft_49⟩)⟩), hPO, hFz⟩ dX7_pair_56
            · skip
              refine lv_iload_n C.x C.b dX7_pair_47 rfl (lv_at hl 0 rfl) ?_
              exact r_iret C hr hlocks hS ⟨hKp, Or.inr (Or.inr ⟨c_1, c_2, k_10, b_33, hk_11, hb_34, hb_35, fun q9 => hb_36 (part_al hcp_25 hfn_27 hb_35 q9), fun c hc => qt_all (q_12 c hc), fun c hc => part_be hcp_25 hfn_27 hb_35 hb_37 c hc, Or.inr (Or.inl ⟨c_39, rfl⟩)⟩), hPO, hFz⟩ dX7_pair_48
          · skip
            refine lv_iload_n C.x C.b dX7_pair_40 rfl (lv_at hl 1 rfl) ?_
            exact r_iret C hr hlocks hS ⟨hKp, Or.inr (Or.inr ⟨c_1, c_2, k_10, b_33, hk_11, hb_34, hb_35, fun q9 => hb_36 (part_al hcp_25 hfn_27 hb_35 q9), fun c hc => qt_all (q_12 c hc), fun c hc => part_be hcp_25 hfn_27 hb_35 hb_37 c hc, Or.inl ⟨c_38, rfl⟩⟩), hPO, hFz⟩ dX7_pair_41
        · exact absurd q_13 (part_no hcp_25 hfn_27 hb_37)
    · skip
      refine lv_sipush (v := (-1001)) C.x C.b dX7_pair_9 (by decide) ?_
      exact r_iret C hr hlocks hS ⟨hKp, Or.inl ⟨Or.inr c_2, rfl⟩, hPO, hFz⟩ dX7_pair_12
