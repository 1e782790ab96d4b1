theorem bz_of {c : Int32} {P : Prop} (h : (c = 0 ∨ c = 1) ∧ (c = 1 ↔ P)) : c = bz P := by
  by_cases p : P
  · rw [bz_t p]
    exact h.2.mpr p
  · rw [bz_f p]
    exact h.1.resolve_right (fun q => p (h.2.mp q))
def cuO (cf pr : Nat → Int32) (n : Nat) (x : Int32) : Int32 := if x < 0 ∨ ¬ x ≤ 2 then -1 else if cbF cf pr n (2 ^ n) = -1 then -1 else if x = 0 then prcOf pr (cbF cf pr n (2 ^ n)) n else if x = 1 then cbF cf pr n (2 ^ n) else hmF cf (2 ^ n)
theorem cuO_out {cf pr : Nat → Int32} {n : Nat} {x : Int32} (h : x < 0 ∨ ¬ x ≤ 2) : cuO cf pr n x = -1 := if_pos h
def teF (cf : Nat → Int32) (n : Nat) : Nat → Int32
  | 0 => 0
  | k + 1 => if cf (an (2 ^ n - 1) (((1 : Int32) <<< (nI k &&& 31)) ^^^ (-1))) = 0 then teF cf n k ||| (1 <<< (nI k &&& 31)) else teF cf n k

set_option maxHeartbeats 1000000 in
set_option maxRecDepth 100000 in
theorem x_X7_cure (l : Launch) (D : va_G) (t : Gx) (B N : Nat) (g : Nat → va_E) (o pr w : Nat → Int32) (n : Nat) (ey wi ev : Int32) (o' w' : Nat → Int32) (x : Int32) (hN : 220 ≤ N) (hP : isProg t B g 1 o pr w n) (hn : n ≤ 8) (hW : isWat g 5 ey wi ev) (hScr : Scr t B g) (hE : ∀ q, q < n → o q = o' q) (hW2 : ∀ q, q < 8 → w q = w' q) (hO : okO o') (hoe : okE ey) (hwd : isWd wi) (hCO : CureOk t B g o' n w' wi ey) : Ci l D t B N yX7_cure cX7_cure 3 (some .int) 6 157 g [.ref (B + 0), .int x] (fun r g' => Kp t B g g' ∧ (r = cuO (fun s => bz (calmP o' n w' wi ey s)) pr n x) ∧ CureOk t B g' o' n w' wi ey ∧ ∀ j, (9 ≤ j ∧ j ≤ 112) → g' j = g j) := by
  refine Ci.start (by decide) (Nat.le_of_ble_eq_true rfl) ?_
  intro p e s m below meth c ls C hr hlocks hS hl
  replace C : Cx D t p s m [.ref (B + 0), .int x].toArray c cX7_cure 3 RX7 := C
  replace hl : lv_has ls 3 [(0, .ref (B + 0)), (1, .int x)] := hl
  obtain ⟨p0, p1, p2, p3⟩ := id hP
  have hKp : Kp t B g g := Kp.rf hScr
  have hFz : ∀ j, (9 ≤ j ∧ j ≤ 112) → g j = g j := fun _ _ => rfl
  refine lv_iload_n C.x C.b dX7_cure_0 rfl (lv_at hl 1 rfl) ?_
  refine lv_if_lt (tgt := 9) C.x C.b dX7_cure_1 (by decide) (fun c_1 => ?_) (fun c_1 => ?_)
  · skip
    refine lv_iconst (v := (-1)) C.x C.b dX7_cure_9 (by decide) ?_
    exact r_iret C hr hlocks hS ⟨hKp, (cuO_out (Or.inl c_1)).symm, hCO, hFz⟩ dX7_cure_10
  · skip
    refine lv_iload_n C.x C.b dX7_cure_4 rfl (lv_at hl 1 rfl) ?_
    refine lv_iconst (v := 2) C.x C.b dX7_cure_5 (by decide) ?_
    refine lv_icmp_le (tgt := 11) C.x C.b dX7_cure_6 (by decide) (fun c_2 => ?_) (fun c_2 => ?_)
    · skip
      refine lv_aload_n C.x C.b dX7_cure_11 rfl (lv_at hl 0 rfl) ?_
      obtain ⟨v_3, e_4⟩ := hKp.2.1
      refine r_get ck7 flX7_57 C hS (by omega) e_4 (by decide) rfl dX7_cure_12 ?_
      refine lv_aload_n C.x C.b dX7_cure_15 rfl (lv_at hl 0 rfl) ?_
      refine r_get ck7 flX7_26 C hS (by omega) e_4 (by decide) rfl dX7_cure_16 ?_
      refine lv_aload_n C.x C.b dX7_cure_19 rfl (lv_at hl 0 rfl) ?_
      refine r_get ck7 flX7_12 C hS (by omega) e_4 (by decide) rfl dX7_cure_20 ?_
      refine lv_aload_n C.x C.b dX7_cure_23 rfl (lv_at hl 0 rfl) ?_
      refine r_get ck7 flX7_19 C hS (by omega) e_4 (by decide) rfl dX7_cure_24 ?_
      obtain ⟨v_8, e_9, hz_10⟩ := hKp.2.2.2.2.2.2.2.2.1
      refine r_callVv (b := 113) (As := [.ref (B + 6), .ref (B + 1), .ref (B + 5)]) (rest := []) (x_X0_learn l D t B N g _ _ _ _ _ _ _ o' w' (by omega) ⟨p0, p1, p2, p3⟩ (by omega) hW hKp.2 hE hW2 hO hoe hwd hCO) mf_yX0_learn mlX7_177 im_yX0_learn se_yX0_learn (by decide) C hS (by omega) e_9 (show vwCl[0]? = some _ from rfl) rfl rfl hl.1 rfl (Nat.le_of_ble_eq_true rfl) dX7_cure_27 ⟨Nat.zero_le _, Nat.zero_le _⟩ (fun g_5 H locs w_6 hS => ?_)
      obtain ⟨w_6, hf_11, cm_12, e_13, hcm_14⟩ := w_6
      replace hKp : Kp t B g g_5 := hKp.tr w_6
      replace hFz : ∀ j, (9 ≤ j ∧ j ≤ 112) → g_5 j = g j := fun j hj => (hf_11 j (by omega)).trans (hFz j hj)
      have h2n := (sh1_all n (by omega)).2
      have ecf : ∀ s, s < 256 → cm_12 s = (fun s => bz (calmP o' n w' wi ey s)) s := fun s hs => bz_of (hcm_14 s hs)
      have hCO2 : CureOk t B g_5 o' n w' wi ey := Or.inr ⟨cm_12, e_13, hcm_14⟩
      refine lv_aload_n C.x C.b dX7_cure_30 rfl (lv_at hl 0 rfl) ?_
      obtain ⟨v_15, e_16⟩ := hKp.2.1
      refine r_get ck7 flX7_57 C hS (by omega) e_16 (by decide) rfl dX7_cure_31 ?_
      refine lv_aload_n C.x C.b dX7_cure_34 rfl (lv_at hl 0 rfl) ?_
      refine r_get ck7 flX7_12 C hS (by omega) e_16 (by decide) rfl dX7_cure_35 ?_
      have e_17 : g_5 1 = .inr (3, [.ref (B + (1 + 1)), .ref (B + (1 + 2)), .ref (B + (1 + 3)), .int (nI n)]) := (hKp.1 _ (by omega)).trans p0
      have e_18 : g_5 (1 + 1) = .inl (t.1, 8, .inl o) := (hKp.1 _ (by omega)).trans p1
      have e_19 : g_5 (1 + 2) = .inl (t.1, 8, .inl pr) := (hKp.1 _ (by omega)).trans p2
      have e_20 : g_5 (1 + 3) = .inl (t.1, 8, .inl w) := (hKp.1 _ (by omega)).trans p3
      have e_21 : g_5 5 = .inr (6, [.int ey, .int wi, .int ev]) := (hKp.1 _ (by omega)).trans hW
      obtain ⟨v_22, e_23, hz_24⟩ := hKp.2.2.2.2.2.2.2.2.1
      refine r_callV (b := 113) (As := [.ref (B + 1)]) (rest := []) (x_X0_cheapest l D t B N g_5 _ _ _ cm_12 n v_22 (by omega) ⟨e_17, e_18, e_19, e_20⟩ hn e_23 e_13) mf_yX0_cheapest mlX7_180 im_yX0_cheapest se_yX0_cheapest (by decide) C hS (by omega) e_23 (show vwCl[0]? = some _ from rfl) rfl rfl hl.1 rfl (Nat.le_of_ble_eq_true rfl) dX7_cure_38 ⟨Nat.zero_le _, Nat.zero_le _⟩ (fun r_27 g_25 H locs w_26 hS => ?_)
      obtain ⟨rfl, er_27⟩ := w_26
      subst er_27
      refine lv_istore_n (lv' := [(2, .int (cbF cm_12 pr n (2 ^ n))), (0, .ref (B + 0)), (1, .int x)]) C.x C.b dX7_cure_41 rfl hl (by decide) rfl (fun ls hl => ?_)
      refine lv_iload_n C.x C.b dX7_cure_42 rfl (lv_at hl 0 rfl) ?_
      refine lv_iconst (v := (-1)) C.x C.b dX7_cure_43 (by decide) ?_
      refine lv_icmp_ne (tgt := 49) C.x C.b dX7_cure_44 (by decide) (fun c_28 => ?_) (fun c_28 => ?_)
      · skip
        refine lv_iload_n C.x C.b dX7_cure_49 rfl (lv_at hl 2 rfl) ?_
        by_cases h_29 : x = 0
        · refine lv_lookup (off := 26) (tgt := 76) C.x C.b dX7_cure_50 (by decide) (by rw [h_29]; decide) (by decide) ?_
          refine lv_aload_n C.x C.b dX7_cure_76 rfl (lv_at hl 1 rfl) ?_
          refine r_get ck7 flX7_12 C hS (by omega) e_16 (by decide) rfl dX7_cure_77 ?_
          refine lv_iload_n C.x C.b dX7_cure_80 rfl (lv_at hl 0 rfl) ?_
          refine r_callV (b := 1) (As := [.int (cbF cm_12 pr n (2 ^ n))]) (rest := []) (c_X3_priceOf l D t B N g_5 1 _ _ _ _ (cbF cm_12 pr n (2 ^ n)) (by omega) ⟨e_17, e_18, e_19, e_20⟩ (by omega)) mf_yX3_priceOf mlX7_184 im_yX3_priceOf se_yX3_priceOf (by decide) C hS (by omega) e_17 (show vwCl[3]? = some _ from rfl) rfl rfl hl.1 rfl (Nat.le_of_ble_eq_true rfl) dX7_cure_81 ⟨Nat.zero_le _, Nat.zero_le _⟩ (fun r_32 g_30 H locs w_31 hS => ?_)
          obtain ⟨rfl, er_32⟩ := w_31
          subst er_32
          exact r_iret C hr hlocks hS ⟨hKp, by rw [cuO, if_neg (fun q9 => q9.elim c_1 (fun q9 => q9 c_2)), ← cbF_congr (cf := cm_12) (cf' := (fun s => bz (calmP o' n w' wi ey s))) (pr := pr) (n := n) (k := 2 ^ n) (fun s hs => ecf s (by omega)), if_neg c_28, if_pos h_29], hCO2, hFz⟩ dX7_cure_84
        by_cases h_33 : x = 1
        · refine lv_lookup (off := 35) (tgt := 85) C.x C.b dX7_cure_50 (by decide) (by rw [h_33]; decide) (by decide) ?_
          refine lv_iload_n C.x C.b dX7_cure_85 rfl (lv_at hl 0 rfl) ?_
          exact r_iret C hr hlocks hS ⟨hKp, by rw [cuO, if_neg (fun q9 => q9.elim c_1 (fun q9 => q9 c_2)), ← cbF_congr (cf := cm_12) (cf' := (fun s => bz (calmP o' n w' wi ey s))) (pr := pr) (n := n) (k := 2 ^ n) (fun s hs => ecf s (by omega)), if_neg c_28, if_neg h_29, if_pos h_33], hCO2, hFz⟩ dX7_cure_86
        refine lv_lookup (off := 37) (tgt := 87) C.x C.b dX7_cure_50 (by decide) (by show Op.lookupswitch.offset [(0, 26), (1, 35)] 37 _ = 37; rw [lv_osw h_29 (by decide), lv_osw h_33 (by decide)]; rfl) (by decide) ?_
        refine lv_aload_n C.x C.b dX7_cure_87 rfl (lv_at hl 1 rfl) ?_
        refine r_get ck7 flX7_57 C hS (by omega) e_16 (by decide) rfl dX7_cure_88 ?_
        refine lv_aload_n C.x C.b dX7_cure_91 rfl (lv_at hl 1 rfl) ?_
        refine r_get ck7 flX7_12 C hS (by omega) e_16 (by decide) rfl dX7_cure_92 ?_
        refine r_callV (b := 113) (As := [.ref (B + 1)]) (rest := []) (x_X0_howMany l D t B N g_5 _ _ _ cm_12 n v_22 (by omega) ⟨e_17, e_18, e_19, e_20⟩ hn e_23 e_13) mf_yX0_howMany mlX7_187 im_yX0_howMany se_yX0_howMany (by decide) C hS (by omega) e_23 (show vwCl[0]? = some _ from rfl) rfl rfl hl.1 rfl (Nat.le_of_ble_eq_true rfl) dX7_cure_95 ⟨Nat.zero_le _, Nat.zero_le _⟩ (fun r_36 g_34 H locs w_35 hS => ?_)
        obtain ⟨rfl, er_36⟩ := w_35
        subst er_36
        exact r_iret C hr hlocks hS ⟨hKp, by rw [cuO, if_neg (fun q9 => q9.elim c_1 (fun q9 => q9 c_2)), ← cbF_congr (cf := cm_12) (cf' := (fun s => bz (calmP o' n w' wi ey s))) (pr := pr) (n := n) (k := 2 ^ n) (fun s hs => ecf s (by omega)), if_neg c_28, if_neg h_29, if_neg h_33, ← hmF_congr (cf := cm_12) (cf' := (fun s => bz (calmP o' n w' wi ey s))) (k := 2 ^ n) (fun s hs => ecf s (by omega))], hCO2, hFz⟩ dX7_cure_98
      · skip
        refine lv_iconst (v := (-1)) C.x C.b dX7_cure_47 (by decide) ?_
        exact r_iret C hr hlocks hS ⟨hKp, by rw [cuO, if_neg (fun q9 => q9.elim c_1 (fun q9 => q9 c_2)), ← cbF_congr (cf := cm_12) (cf' := (fun s => bz (calmP o' n w' wi ey s))) (pr := pr) (n := n) (k := 2 ^ n) (fun s hs => ecf s (by omega)), if_pos c_28], hCO2, hFz⟩ dX7_cure_48
    · skip
      refine lv_iconst (v := (-1)) C.x C.b dX7_cure_9 (by decide) ?_
      exact r_iret C hr hlocks hS ⟨hKp, (cuO_out (Or.inr c_2)).symm, hCO, hFz⟩ dX7_cure_10
set_option maxHeartbeats 1000000 in
set_option maxRecDepth 100000 in
theorem x_X7_tellers (l : Launch) (D : va_G) (t : Gx) (B N : Nat) (g : Nat → va_E) (o pr w : Nat → Int32) (n : Nat) (ey wi ev : Int32) (o' w' : Nat → Int32)  (hN : 220 ≤ N) (hP : isProg t B g 1 o pr w n) (hn : n ≤ 8) (hW : isWat g 5 ey wi ev) (hScr : Scr t B g) (hE : ∀ q, q < n → o q = o' q) (hW2 : ∀ q, q < 8 → w q = w' q) (hO : okO o') (hoe : okE ey) (hwd : isWd wi) (hCO : CureOk t B g o' n w' wi ey) : Ci l D t B N yX7_tellers cX7_tellers 4 (some .int) 6 157 g [.ref (B + 0)] (fun r g' => Kp t B g g' ∧ (r = teF (fun s => bz (calmP o' n w' wi ey s)) n n) ∧ CureOk t B g' o' n w' wi ey ∧ ∀ j, (9 ≤ j ∧ j ≤ 112) → g' j = g j) := by
  refine Ci.start (by decide) (Nat.le_of_ble_eq_true rfl) ?_
  intro p e s m below meth c ls C hr hlocks hS hl
  replace C : Cx D t p s m [.ref (B + 0)].toArray c cX7_tellers 4 RX7 := C
  replace hl : lv_has ls 4 [(0, .ref (B + 0))] := hl
  obtain ⟨p0, p1, p2, p3⟩ := id hP
  have hKp : Kp t B g g := Kp.rf hScr
  have hFz : ∀ j, (9 ≤ j ∧ j ≤ 112) → g j = g j := fun _ _ => rfl
  refine lv_aload_n C.x C.b dX7_tellers_0 rfl (lv_at hl 0 rfl) ?_
  obtain ⟨v_1, e_2⟩ := hKp.2.1
  refine r_get ck7 flX7_57 C hS (by omega) e_2 (by decide) rfl dX7_tellers_1 ?_
  refine lv_aload_n C.x C.b dX7_tellers_4 rfl (lv_at hl 0 rfl) ?_
  refine r_get ck7 flX7_26 C hS (by omega) e_2 (by decide) rfl dX7_tellers_5 ?_
  refine lv_aload_n C.x C.b dX7_tellers_8 rfl (lv_at hl 0 rfl) ?_
  refine r_get ck7 flX7_12 C hS (by omega) e_2 (by decide) rfl dX7_tellers_9 ?_
  refine lv_aload_n C.x C.b dX7_tellers_12 rfl (lv_at hl 0 rfl) ?_
  refine r_get ck7 flX7_19 C hS (by omega) e_2 (by decide) rfl dX7_tellers_13 ?_
  obtain ⟨v_6, e_7, hz_8⟩ := hKp.2.2.2.2.2.2.2.2.1
  refine r_callVv (b := 113) (As := [.ref (B + 6), .ref (B + 1), .ref (B + 5)]) (rest := []) (x_X0_learn l D t B N g _ _ _ _ _ _ _ o' w' (by omega) ⟨p0, p1, p2, p3⟩ (by omega) hW hKp.2 hE hW2 hO hoe hwd hCO) mf_yX0_learn mlX7_177 im_yX0_learn se_yX0_learn (by decide) C hS (by omega) e_7 (show vwCl[0]? = some _ from rfl) rfl rfl hl.1 rfl (Nat.le_of_ble_eq_true rfl) dX7_tellers_16 ⟨Nat.zero_le _, Nat.zero_le _⟩ (fun g_3 H locs w_4 hS => ?_)
  obtain ⟨w_4, hf_9, cm_10, e_11, hcm_12⟩ := w_4
  replace hKp : Kp t B g g_3 := hKp.tr w_4
  replace hFz : ∀ j, (9 ≤ j ∧ j ≤ 112) → g_3 j = g j := fun j hj => (hf_9 j (by omega)).trans (hFz j hj)
  have h2n := (sh1_all n (by omega)).2
  have ecf : ∀ s, s < 256 → cm_10 s = (fun s => bz (calmP o' n w' wi ey s)) s := fun s hs => bz_of (hcm_12 s hs)
  have hCO2 : CureOk t B g_3 o' n w' wi ey := Or.inr ⟨cm_10, e_11, hcm_12⟩
  refine lv_aload_n C.x C.b dX7_tellers_19 rfl (lv_at hl 0 rfl) ?_
  obtain ⟨v_13, e_14⟩ := hKp.2.1
  refine r_get ck7 flX7_12 C hS (by omega) e_14 (by decide) rfl dX7_tellers_20 ?_
  have e_15 : g_3 1 = .inr (3, [.ref (B + (1 + 1)), .ref (B + (1 + 2)), .ref (B + (1 + 3)), .int (nI n)]) := (hKp.1 _ (by omega)).trans p0
  have e_16 : g_3 (1 + 1) = .inl (t.1, 8, .inl o) := (hKp.1 _ (by omega)).trans p1
  have e_17 : g_3 (1 + 2) = .inl (t.1, 8, .inl pr) := (hKp.1 _ (by omega)).trans p2
  have e_18 : g_3 (1 + 3) = .inl (t.1, 8, .inl w) := (hKp.1 _ (by omega)).trans p3
  refine r_callV (b := 1) (As := []) (rest := []) (c_X3_allPlaces l D t B N g_3 1 _ _ _ _ (by omega) ⟨e_15, e_16, e_17, e_18⟩) mf_yX3_allPlaces mlX7_193 im_yX3_allPlaces se_yX3_allPlaces (by decide) C hS (by omega) e_15 (show vwCl[3]? = some _ from rfl) rfl rfl hl.1 rfl (Nat.le_of_ble_eq_true rfl) dX7_tellers_23 ⟨Nat.zero_le _, Nat.zero_le _⟩ (fun r_21 g_19 H locs w_20 hS => ?_)
  obtain ⟨rfl, er_21⟩ := w_20
  subst er_21
  refine r_top (y := nI (2 ^ n - 1)) (al1_all n (by omega)).1 ?_
  refine lv_istore_n (lv' := [(1, .int (nI (2 ^ n - 1))), (0, .ref (B + 0))]) C.x C.b dX7_tellers_26 rfl hl (by decide) rfl (fun ls hl => ?_)
  refine lv_iconst (v := 0) C.x C.b dX7_tellers_27 (by decide) ?_
  refine lv_istore_n (lv' := [(2, .int 0), (1, .int (nI (2 ^ n - 1))), (0, .ref (B + 0))]) C.x C.b dX7_tellers_28 rfl hl (by decide) rfl (fun ls hl => ?_)
  refine lv_iconst (v := 0) C.x C.b dX7_tellers_29 (by decide) ?_
  refine lv_istore_n (lv' := [(3, .int 0), (2, .int 0), (1, .int (nI (2 ^ n - 1))), (0, .ref (B + 0))]) C.x C.b dX7_tellers_30 rfl hl (by decide) rfl (fun ls hl => ?_)
  have lp_22 : ∀ (u_23 k_24 : Nat) (b_28 : Int32) (g_27 : Nat → va_E) (H : Heap) (locs : List Loc) (ls : Array Slot), k_24 + u_23 = n → (b_28 = teF (fun s => bz (calmP o' n w' wi ey s)) n k_24) → (g_27 114 = .inl (t.2.1, 256, .inl cm_10)) → (∀ j, (9 ≤ j ∧ j ≤ 112) → g_27 j = g j) → Kp t B g g_27 → St D B s.heap N g_27 H locs → lv_has ls 4 [(1, .int (nI (2 ^ n - 1))), (0, .ref (B + 0)), (2, .int b_28), (3, .int (nI k_24))] → W p l e (rmOf 6 157 0 0) s m [.ref (B + 0)].toArray below meth c H locs 0 0 (MQ below (qI D B N (fun r g' => Kp t B g g' ∧ (r = teF (fun s => bz (calmP o' n w' wi ey s)) n n) ∧ CureOk t B g' o' n w' wi ey ∧ ∀ j, (9 ≤ j ∧ j ≤ 112) → g' j = g j)) [.ref (B + 0)].toArray s 0 0 (fun q => B ≤ q)) (F0 m 31 ls []) := by
    intro u_23
    induction u_23 with
    | zero =>
      intro k_24 b_28 g_27 H locs ls hk_25 hte_29 h114_30 hz1_31 hKp hS hl
      obtain rfl : n = k_24 := by omega
      have hFz := hz1_31
      refine lv_iload_n C.x C.b dX7_tellers_31 rfl (lv_at hl 3 rfl) ?_
      refine lv_aload_n C.x C.b dX7_tellers_32 rfl (lv_at hl 1 rfl) ?_
      obtain ⟨v_32, e_33⟩ := hKp.2.1
      refine r_get ck7 flX7_12 C hS (by omega) e_33 (by decide) rfl dX7_tellers_33 ?_
      have e_34 : g_27 1 = .inr (3, [.ref (B + (1 + 1)), .ref (B + (1 + 2)), .ref (B + (1 + 3)), .int (nI n)]) := (hKp.1 _ (by omega)).trans p0
      refine r_get ck3 flX7_69 C hS (by omega) e_34 (by decide) rfl dX7_tellers_36 ?_
      refine lv_icmp_ge (tgt := 72) C.x C.b dX7_tellers_39 (by decide) (fun c_35 => ?_) (fun c_35 => absurd (nI_le (Nat.le_refl _) (by omega)) c_35)
      refine lv_iload_n C.x C.b dX7_tellers_72 rfl (lv_at hl 2 rfl) ?_
      exact r_iret C hr hlocks hS ⟨hKp, hte_29, Or.inr ⟨cm_10, h114_30, hcm_12⟩, hFz⟩ dX7_tellers_73
    | succ u_23 ih_26 =>
      intro k_24 b_28 g_27 H locs ls hk_25 hte_29 h114_30 hz1_31 hKp hS hl
      have hFz := hz1_31
      refine lv_iload_n C.x C.b dX7_tellers_31 rfl (lv_at hl 3 rfl) ?_
      refine lv_aload_n C.x C.b dX7_tellers_32 rfl (lv_at hl 1 rfl) ?_
      obtain ⟨v_36, e_37⟩ := hKp.2.1
      refine r_get ck7 flX7_12 C hS (by omega) e_37 (by decide) rfl dX7_tellers_33 ?_
      have e_38 : g_27 1 = .inr (3, [.ref (B + (1 + 1)), .ref (B + (1 + 2)), .ref (B + (1 + 3)), .int (nI n)]) := (hKp.1 _ (by omega)).trans p0
      refine r_get ck3 flX7_69 C hS (by omega) e_38 (by decide) rfl dX7_tellers_36 ?_
      refine lv_icmp_ge (tgt := 72) C.x C.b dX7_tellers_39 (by decide) (fun c_39 => absurd c_39 (nI_ge (a := k_24) (b := n) (by omega) (by omega))) (fun c_39 => ?_)
      refine lv_aload_n C.x C.b dX7_tellers_42 rfl (lv_at hl 1 rfl) ?_
      refine r_get ck7 flX7_57 C hS (by omega) e_37 (by decide) rfl dX7_tellers_43 ?_
      obtain ⟨v_40, e_41, hz_42⟩ := hKp.2.2.2.2.2.2.2.2.1
      refine r_get ck0 flX7_196 C hS (by omega) e_41 (by decide) rfl dX7_tellers_46 ?_
      refine lv_iload_n C.x C.b dX7_tellers_49 rfl (lv_at hl 0 rfl) ?_
      refine lv_iconst (v := 1) C.x C.b dX7_tellers_50 (by decide) ?_
      refine lv_iload_n C.x C.b dX7_tellers_51 rfl (lv_at hl 3 rfl) ?_
      refine lv_ishl C.x C.b dX7_tellers_52 ?_
      refine lv_iconst (v := (-1)) C.x C.b dX7_tellers_53 (by decide) ?_
      refine lv_ixor C.x C.b dX7_tellers_54 ?_
      refine lv_iand C.x C.b dX7_tellers_55 ?_
      refine r_zaldN (an (2 ^ n - 1) (((1 : Int32) <<< ((nI k_24) &&& 31)) ^^^ (-1))) (an_eq _ _) (Nat.lt_of_le_of_lt (an_le _ _) (by omega)) (by decide) C hS (by omega) h114_30 dX7_tellers_56 ?_
      refine lv_if_ne (tgt := 66) C.x C.b dX7_tellers_57 (by decide) (fun c_43 => ?_) (fun c_43 => ?_)
      · skip
        refine lv_iinc (v := nI (k_24 + 1)) (lv' := [(3, .int (nI (k_24 + 1))), (1, .int (nI (2 ^ n - 1))), (0, .ref (B + 0)), (2, .int b_28)]) C.x C.b dX7_tellers_66 hl (k := 3) rfl (nI_1 k_24) (by decide) rfl (fun ls hl => ?_)
        refine lv_goto (tgt := 31) C.x C.b dX7_tellers_69 (by decide) ?_
        exact ih_26 (k_24 + 1) b_28 g_27 _ _ _ (by omega) (by rw [teF, ← hte_29, if_neg (fun q9 => c_43 ((ecf _ (Nat.lt_of_le_of_lt (an_le _ _) (by omega))).trans q9))]) h114_30 hFz hKp hS (lv_sub hl [1, 2, 3, 0] rfl)
      · skip
        refine lv_iload_n C.x C.b dX7_tellers_60 rfl (lv_at hl 2 rfl) ?_
        refine lv_iconst (v := 1) C.x C.b dX7_tellers_61 (by decide) ?_
        refine lv_iload_n C.x C.b dX7_tellers_62 rfl (lv_at hl 3 rfl) ?_
        refine lv_ishl C.x C.b dX7_tellers_63 ?_
        refine lv_ior C.x C.b dX7_tellers_64 ?_
        refine lv_istore_n (lv' := [(2, .int (b_28 ||| ((1 : Int32) <<< ((nI k_24) &&& 31)))), (1, .int (nI (2 ^ n - 1))), (0, .ref (B + 0)), (3, .int (nI k_24))]) C.x C.b dX7_tellers_65 rfl hl (by decide) rfl (fun ls hl => ?_)
        refine lv_iinc (v := nI (k_24 + 1)) (lv' := [(3, .int (nI (k_24 + 1))), (2, .int (b_28 ||| ((1 : Int32) <<< ((nI k_24) &&& 31)))), (1, .int (nI (2 ^ n - 1))), (0, .ref (B + 0))]) C.x C.b dX7_tellers_66 hl (k := 3) rfl (nI_1 k_24) (by decide) rfl (fun ls hl => ?_)
        refine lv_goto (tgt := 31) C.x C.b dX7_tellers_69 (by decide) ?_
        exact ih_26 (k_24 + 1) (b_28 ||| ((1 : Int32) <<< ((nI k_24) &&& 31))) g_27 _ _ _ (by omega) (by rw [teF, ← hte_29, if_pos ((ecf _ (Nat.lt_of_le_of_lt (an_le _ _) (by omega))).symm.trans c_43)]) h114_30 hFz hKp hS (lv_sub hl [2, 3, 1, 0] rfl)
  exact lp_22 n 0 0 g_3 _ _ _ (by omega) rfl e_11 hFz hKp hS (lv_sub hl [2, 3, 1, 0] rfl)
