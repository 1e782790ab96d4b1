theorem ixj {x : Int32} (a n : Nat) (h1 : ¬ x < nI a) (h2 : ¬ nI a + nI n ≤ x) (hb : a + n < 2 ^ 30) : ∃ j, j < n ∧ x = nI (a + j) ∧ x - nI a = nI j := by
  rw [nI_add] at h2
  have h0 : ¬ x < 0 := fun q => h1 (Int32.lt_of_lt_of_le q (nI_pos' (by omega)))
  obtain ⟨j, hj, rfl, -⟩ := pk_mu h0 h2 (by omega)
  have ha : a ≤ j := by
    rcases Nat.lt_or_ge j a with q | q
    · exact absurd (nI_lt q (by omega)) h1
    · exact q
  exact ⟨j - a, by omega, by rw [show a + (j - a) = j by omega], pk_sub ha⟩
theorem ixv {x : Int32} (a : Nat) {n : Nat} (h1 : ¬ x < nI a) (h2 : ¬ nI a + nI n ≤ x) (hn : n ≤ 8) (hb : a < 1000) : vp_in (x - nI a) 8 := by
  obtain ⟨j, hj, -, e⟩ := ixj a n h1 h2 (by omega)
  rw [e]
  exact vp_in_nI (by omega) (by decide)
def lrF (o pr w : Nat → Int32) (n : Nat) (x : Int32) : Int32 := if ¬ x < 10 ∧ ¬ (10 + nI n) ≤ x then o (x - 10).toNatClampNeg else if ¬ x < 30 ∧ ¬ (30 + nI n) ≤ x then pr (x - 30).toNatClampNeg else if ¬ x < 50 ∧ ¬ 58 ≤ x then w (x - 50).toNatClampNeg else -1001
def lookF (o pr w : Nat → Int32) (n : Nat) (ey wi ev x : Int32) : Int32 := if x = 0 then nI n else if x = 1 then ey else if x = 2 then wi else if x = 3 then ev else lrF o pr w n x
set_option maxHeartbeats 1000000 in
set_option maxRecDepth 100000 in
theorem k_X7_lookInRows (l : Launch) (D : va_G) (t : Gx) (B N : Nat) (g : Nat → va_E) (o pr w : Nat → Int32) (n : Nat) (ey wi ev : Int32) (x : Int32) (hN : 220 ≤ N) (hP : isProg t B g 1 o pr w n) (hn : n ≤ 8) (hW : isWat g 5 ey wi ev) (hScr : Scr t B g)  : Ci l D t B N yX7_lookInRows cX7_lookInRows 2 (some .int) 0 0 g [.ref (B + 0), .int x] (fun r g' => Kp t B g g' ∧ r = lrF o pr w n x) := by
  refine Ci.start (by decide) (Nat.le_of_ble_eq_true rfl) ?_
  intro p e s m below meth c ls C hr hlocks hS hl
  replace C : Cx D t p s m [.ref (B + 0), .int x].toArray c cX7_lookInRows 2 RX7 := C
  replace hl : lv_has ls 2 [(0, .ref (B + 0)), (1, .int x)] := hl
  obtain ⟨p0, p1, p2, p3⟩ := id hP
  have hKp : Kp t B g g := Kp.rf hScr
  refine lv_iload_n C.x C.b dX7_lookInRows_0 rfl (lv_at hl 1 rfl) ?_
  refine lv_bipush (v := 10) C.x C.b dX7_lookInRows_1 (by decide) ?_
  refine lv_icmp_lt (tgt := 33) C.x C.b dX7_lookInRows_3 (by decide) (fun c_1 => ?_) (fun c_1 => ?_)
  · skip
    refine lv_iload_n C.x C.b dX7_lookInRows_33 rfl (lv_at hl 1 rfl) ?_
    refine lv_bipush (v := 30) C.x C.b dX7_lookInRows_34 (by decide) ?_
    refine lv_icmp_lt (tgt := 66) C.x C.b dX7_lookInRows_36 (by decide) (fun c_2 => ?_) (fun c_2 => ?_)
    · skip
      refine lv_iload_n C.x C.b dX7_lookInRows_66 rfl (lv_at hl 1 rfl) ?_
      refine lv_bipush (v := 50) C.x C.b dX7_lookInRows_67 (by decide) ?_
      refine lv_icmp_lt (tgt := 91) C.x C.b dX7_lookInRows_69 (by decide) (fun c_3 => ?_) (fun c_3 => ?_)
      · skip
        refine lv_sipush (v := (-1001)) C.x C.b dX7_lookInRows_91 (by decide) ?_
        exact r_iret C hr hlocks hS ⟨hKp, by rw [lrF, if_neg (fun q => q.1 c_1), if_neg (fun q => q.1 c_2), if_neg (fun q => q.1 c_3)]⟩ dX7_lookInRows_94
      · skip
        refine lv_iload_n C.x C.b dX7_lookInRows_72 rfl (lv_at hl 1 rfl) ?_
        refine lv_bipush (v := 58) C.x C.b dX7_lookInRows_73 (by decide) ?_
        refine lv_icmp_ge (tgt := 91) C.x C.b dX7_lookInRows_75 (by decide) (fun c_4 => ?_) (fun c_4 => ?_)
        · skip
          refine lv_sipush (v := (-1001)) C.x C.b dX7_lookInRows_91 (by decide) ?_
          exact r_iret C hr hlocks hS ⟨hKp, by rw [lrF, if_neg (fun q => q.1 c_1), if_neg (fun q => q.1 c_2), if_neg (fun q => q.2 c_4)]⟩ dX7_lookInRows_94
        · skip
          have hv50 : vp_in (x - 50) 8 := ixv 50 c_3 (show ¬ nI 50 + nI 8 ≤ x from c_4) (by omega) (by omega)
          refine lv_aload_n C.x C.b dX7_lookInRows_78 rfl (lv_at hl 0 rfl) ?_
          obtain ⟨v_5, e_6⟩ := hKp.2.1
          refine r_get ck7 flX7_12 C hS (by omega) e_6 (by decide) rfl dX7_lookInRows_79 ?_
          refine r_get ck3 flX7_92 C hS (by omega) p0 (by decide) rfl dX7_lookInRows_82 ?_
          refine lv_iload_n C.x C.b dX7_lookInRows_85 rfl (lv_at hl 1 rfl) ?_
          refine lv_bipush (v := 50) C.x C.b dX7_lookInRows_86 (by decide) ?_
          refine lv_isub C.x C.b dX7_lookInRows_88 ?_
          refine r_iald C hS (by omega) p3 hv50 dX7_lookInRows_89 ?_
          exact r_iret C hr hlocks hS ⟨hKp, by rw [lrF, if_neg (fun q => q.1 c_1), if_neg (fun q => q.1 c_2), if_pos ⟨c_3, c_4⟩]⟩ dX7_lookInRows_90
    · skip
      refine lv_iload_n C.x C.b dX7_lookInRows_39 rfl (lv_at hl 1 rfl) ?_
      refine lv_bipush (v := 30) C.x C.b dX7_lookInRows_40 (by decide) ?_
      refine lv_aload_n C.x C.b dX7_lookInRows_42 rfl (lv_at hl 0 rfl) ?_
      obtain ⟨v_7, e_8⟩ := hKp.2.1
      refine r_get ck7 flX7_12 C hS (by omega) e_8 (by decide) rfl dX7_lookInRows_43 ?_
      refine r_get ck3 flX7_69 C hS (by omega) p0 (by decide) rfl dX7_lookInRows_46 ?_
      refine lv_iadd C.x C.b dX7_lookInRows_49 ?_
      refine lv_icmp_ge (tgt := 66) C.x C.b dX7_lookInRows_50 (by decide) (fun c_9 => ?_) (fun c_9 => ?_)
      · skip
        refine lv_iload_n C.x C.b dX7_lookInRows_66 rfl (lv_at hl 1 rfl) ?_
        refine lv_bipush (v := 50) C.x C.b dX7_lookInRows_67 (by decide) ?_
        refine lv_icmp_lt (tgt := 91) C.x C.b dX7_lookInRows_69 (by decide) (fun c_10 => ?_) (fun c_10 => ?_)
        · skip
          refine lv_sipush (v := (-1001)) C.x C.b dX7_lookInRows_91 (by decide) ?_
          exact r_iret C hr hlocks hS ⟨hKp, by rw [lrF, if_neg (fun q => q.1 c_1), if_neg (fun q => q.2 c_9), if_neg (fun q => q.1 c_10)]⟩ dX7_lookInRows_94
        · skip
          refine lv_iload_n C.x C.b dX7_lookInRows_72 rfl (lv_at hl 1 rfl) ?_
          refine lv_bipush (v := 58) C.x C.b dX7_lookInRows_73 (by decide) ?_
          refine lv_icmp_ge (tgt := 91) C.x C.b dX7_lookInRows_75 (by decide) (fun c_11 => ?_) (fun c_11 => ?_)
          · skip
            refine lv_sipush (v := (-1001)) C.x C.b dX7_lookInRows_91 (by decide) ?_
            exact r_iret C hr hlocks hS ⟨hKp, by rw [lrF, if_neg (fun q => q.1 c_1), if_neg (fun q => q.2 c_9), if_neg (fun q => q.2 c_11)]⟩ dX7_lookInRows_94
          · skip
            have hv50 : vp_in (x - 50) 8 := ixv 50 c_10 (show ¬ nI 50 + nI 8 ≤ x from c_11) (by omega) (by omega)
            refine lv_aload_n C.x C.b dX7_lookInRows_78 rfl (lv_at hl 0 rfl) ?_
            refine r_get ck7 flX7_12 C hS (by omega) e_8 (by decide) rfl dX7_lookInRows_79 ?_
            refine r_get ck3 flX7_92 C hS (by omega) p0 (by decide) rfl dX7_lookInRows_82 ?_
            refine lv_iload_n C.x C.b dX7_lookInRows_85 rfl (lv_at hl 1 rfl) ?_
            refine lv_bipush (v := 50) C.x C.b dX7_lookInRows_86 (by decide) ?_
            refine lv_isub C.x C.b dX7_lookInRows_88 ?_
            refine r_iald C hS (by omega) p3 hv50 dX7_lookInRows_89 ?_
            exact r_iret C hr hlocks hS ⟨hKp, by rw [lrF, if_neg (fun q => q.1 c_1), if_neg (fun q => q.2 c_9), if_pos ⟨c_10, c_11⟩]⟩ dX7_lookInRows_90
      · skip
        have hv30 : vp_in (x - 30) 8 := ixv 30 c_2 c_9 (by omega) (by omega)
        refine lv_aload_n C.x C.b dX7_lookInRows_53 rfl (lv_at hl 0 rfl) ?_
        refine r_get ck7 flX7_12 C hS (by omega) e_8 (by decide) rfl dX7_lookInRows_54 ?_
        refine r_get ck3 flX7_110 C hS (by omega) p0 (by decide) rfl dX7_lookInRows_57 ?_
        refine lv_iload_n C.x C.b dX7_lookInRows_60 rfl (lv_at hl 1 rfl) ?_
        refine lv_bipush (v := 30) C.x C.b dX7_lookInRows_61 (by decide) ?_
        refine lv_isub C.x C.b dX7_lookInRows_63 ?_
        refine r_iald C hS (by omega) p2 hv30 dX7_lookInRows_64 ?_
        exact r_iret C hr hlocks hS ⟨hKp, by rw [lrF, if_neg (fun q => q.1 c_1), if_pos ⟨c_2, c_9⟩]⟩ dX7_lookInRows_65
  · skip
    refine lv_iload_n C.x C.b dX7_lookInRows_6 rfl (lv_at hl 1 rfl) ?_
    refine lv_bipush (v := 10) C.x C.b dX7_lookInRows_7 (by decide) ?_
    refine lv_aload_n C.x C.b dX7_lookInRows_9 rfl (lv_at hl 0 rfl) ?_
    obtain ⟨v_12, e_13⟩ := hKp.2.1
    refine r_get ck7 flX7_12 C hS (by omega) e_13 (by decide) rfl dX7_lookInRows_10 ?_
    refine r_get ck3 flX7_69 C hS (by omega) p0 (by decide) rfl dX7_lookInRows_13 ?_
    refine lv_iadd C.x C.b dX7_lookInRows_16 ?_
    refine lv_icmp_ge (tgt := 33) C.x C.b dX7_lookInRows_17 (by decide) (fun c_14 => ?_) (fun c_14 => ?_)
    · skip
      refine lv_iload_n C.x C.b dX7_lookInRows_33 rfl (lv_at hl 1 rfl) ?_
      refine lv_bipush (v := 30) C.x C.b dX7_lookInRows_34 (by decide) ?_
      refine lv_icmp_lt (tgt := 66) C.x C.b dX7_lookInRows_36 (by decide) (fun c_15 => ?_) (fun c_15 => ?_)
      · skip
        refine lv_iload_n C.x C.b dX7_lookInRows_66 rfl (lv_at hl 1 rfl) ?_
        refine lv_bipush (v := 50) C.x C.b dX7_lookInRows_67 (by decide) ?_
        refine lv_icmp_lt (tgt := 91) C.x C.b dX7_lookInRows_69 (by decide) (fun c_16 => ?_) (fun c_16 => ?_)
        · skip
          refine lv_sipush (v := (-1001)) C.x C.b dX7_lookInRows_91 (by decide) ?_
          exact r_iret C hr hlocks hS ⟨hKp, by rw [lrF, if_neg (fun q => q.2 c_14), if_neg (fun q => q.1 c_15), if_neg (fun q => q.1 c_16)]⟩ dX7_lookInRows_94
        · skip
          refine lv_iload_n C.x C.b dX7_lookInRows_72 rfl (lv_at hl 1 rfl) ?_
          refine lv_bipush (v := 58) C.x C.b dX7_lookInRows_73 (by decide) ?_
          refine lv_icmp_ge (tgt := 91) C.x C.b dX7_lookInRows_75 (by decide) (fun c_17 => ?_) (fun c_17 => ?_)
          · skip
            refine lv_sipush (v := (-1001)) C.x C.b dX7_lookInRows_91 (by decide) ?_
            exact r_iret C hr hlocks hS ⟨hKp, by rw [lrF, if_neg (fun q => q.2 c_14), if_neg (fun q => q.1 c_15), if_neg (fun q => q.2 c_17)]⟩ dX7_lookInRows_94
          · skip
            have hv50 : vp_in (x - 50) 8 := ixv 50 c_16 (show ¬ nI 50 + nI 8 ≤ x from c_17) (by omega) (by omega)
            refine lv_aload_n C.x C.b dX7_lookInRows_78 rfl (lv_at hl 0 rfl) ?_
            refine r_get ck7 flX7_12 C hS (by omega) e_13 (by decide) rfl dX7_lookInRows_79 ?_
            refine r_get ck3 flX7_92 C hS (by omega) p0 (by decide) rfl dX7_lookInRows_82 ?_
            refine lv_iload_n C.x C.b dX7_lookInRows_85 rfl (lv_at hl 1 rfl) ?_
            refine lv_bipush (v := 50) C.x C.b dX7_lookInRows_86 (by decide) ?_
            refine lv_isub C.x C.b dX7_lookInRows_88 ?_
            refine r_iald C hS (by omega) p3 hv50 dX7_lookInRows_89 ?_
            exact r_iret C hr hlocks hS ⟨hKp, by rw [lrF, if_neg (fun q => q.2 c_14), if_neg (fun q => q.1 c_15), if_pos ⟨c_16, c_17⟩]⟩ dX7_lookInRows_90
      · skip
        refine lv_iload_n C.x C.b dX7_lookInRows_39 rfl (lv_at hl 1 rfl) ?_
        refine lv_bipush (v := 30) C.x C.b dX7_lookInRows_40 (by decide) ?_
        refine lv_aload_n C.x C.b dX7_lookInRows_42 rfl (lv_at hl 0 rfl) ?_
        refine r_get ck7 flX7_12 C hS (by omega) e_13 (by decide) rfl dX7_lookInRows_43 ?_
        refine r_get ck3 flX7_69 C hS (by omega) p0 (by decide) rfl dX7_lookInRows_46 ?_
        refine lv_iadd C.x C.b dX7_lookInRows_49 ?_
        refine lv_icmp_ge (tgt := 66) C.x C.b dX7_lookInRows_50 (by decide) (fun c_18 => ?_) (fun c_18 => ?_)
        · skip
          refine lv_iload_n C.x C.b dX7_lookInRows_66 rfl (lv_at hl 1 rfl) ?_
          refine lv_bipush (v := 50) C.x C.b dX7_lookInRows_67 (by decide) ?_
          refine lv_icmp_lt (tgt := 91) C.x C.b dX7_lookInRows_69 (by decide) (fun c_19 => ?_) (fun c_19 => ?_)
          · skip
            refine lv_sipush (v := (-1001)) C.x C.b dX7_lookInRows_91 (by decide) ?_
            exact r_iret C hr hlocks hS ⟨hKp, by rw [lrF, if_neg (fun q => q.2 c_14), if_neg (fun q => q.2 c_18), if_neg (fun q => q.1 c_19)]⟩ dX7_lookInRows_94
          · skip
            refine lv_iload_n C.x C.b dX7_lookInRows_72 rfl (lv_at hl 1 rfl) ?_
            refine lv_bipush (v := 58) C.x C.b dX7_lookInRows_73 (by decide) ?_
            refine lv_icmp_ge (tgt := 91) C.x C.b dX7_lookInRows_75 (by decide) (fun c_20 => ?_) (fun c_20 => ?_)
            · skip
              refine lv_sipush (v := (-1001)) C.x C.b dX7_lookInRows_91 (by decide) ?_
              exact r_iret C hr hlocks hS ⟨hKp, by rw [lrF, if_neg (fun q => q.2 c_14), if_neg (fun q => q.2 c_18), if_neg (fun q => q.2 c_20)]⟩ dX7_lookInRows_94
            · skip
              have hv50 : vp_in (x - 50) 8 := ixv 50 c_19 (show ¬ nI 50 + nI 8 ≤ x from c_20) (by omega) (by omega)
              refine lv_aload_n C.x C.b dX7_lookInRows_78 rfl (lv_at hl 0 rfl) ?_
              refine r_get ck7 flX7_12 C hS (by omega) e_13 (by decide) rfl dX7_lookInRows_79 ?_
              refine r_get ck3 flX7_92 C hS (by omega) p0 (by decide) rfl dX7_lookInRows_82 ?_
              refine lv_iload_n C.x C.b dX7_lookInRows_85 rfl (lv_at hl 1 rfl) ?_
              refine lv_bipush (v := 50) C.x C.b dX7_lookInRows_86 (by decide) ?_
              refine lv_isub C.x C.b dX7_lookInRows_88 ?_
              refine r_iald C hS (by omega) p3 hv50 dX7_lookInRows_89 ?_
              exact r_iret C hr hlocks hS ⟨hKp, by rw [lrF, if_neg (fun q => q.2 c_14), if_neg (fun q => q.2 c_18), if_pos ⟨c_19, c_20⟩]⟩ dX7_lookInRows_90
        · skip
          have hv30 : vp_in (x - 30) 8 := ixv 30 c_15 c_18 (by omega) (by omega)
          refine lv_aload_n C.x C.b dX7_lookInRows_53 rfl (lv_at hl 0 rfl) ?_
          refine r_get ck7 flX7_12 C hS (by omega) e_13 (by decide) rfl dX7_lookInRows_54 ?_
          refine r_get ck3 flX7_110 C hS (by omega) p0 (by decide) rfl dX7_lookInRows_57 ?_
          refine lv_iload_n C.x C.b dX7_lookInRows_60 rfl (lv_at hl 1 rfl) ?_
          refine lv_bipush (v := 30) C.x C.b dX7_lookInRows_61 (by decide) ?_
          refine lv_isub C.x C.b dX7_lookInRows_63 ?_
          refine r_iald C hS (by omega) p2 hv30 dX7_lookInRows_64 ?_
          exact r_iret C hr hlocks hS ⟨hKp, by rw [lrF, if_neg (fun q => q.2 c_14), if_pos ⟨c_15, c_18⟩]⟩ dX7_lookInRows_65
    · skip
      have hv10 : vp_in (x - 10) 8 := ixv 10 c_1 c_14 (by omega) (by omega)
      refine lv_aload_n C.x C.b dX7_lookInRows_20 rfl (lv_at hl 0 rfl) ?_
      refine r_get ck7 flX7_12 C hS (by omega) e_13 (by decide) rfl dX7_lookInRows_21 ?_
      refine r_get ck3 flX7_82 C hS (by omega) p0 (by decide) rfl dX7_lookInRows_24 ?_
      refine lv_iload_n C.x C.b dX7_lookInRows_27 rfl (lv_at hl 1 rfl) ?_
      refine lv_bipush (v := 10) C.x C.b dX7_lookInRows_28 (by decide) ?_
      refine lv_isub C.x C.b dX7_lookInRows_30 ?_
      refine r_iald C hS (by omega) p1 hv10 dX7_lookInRows_31 ?_
      exact r_iret C hr hlocks hS ⟨hKp, by rw [lrF, if_pos ⟨c_1, c_14⟩]⟩ dX7_lookInRows_32
set_option maxHeartbeats 1000000 in
set_option maxRecDepth 100000 in
theorem k_X7_look (l : Launch) (D : va_G) (t : Gx) (B N : Nat) (g : Nat → va_E) (o pr w : Nat → Int32) (n : Nat) (ey wi ev : Int32) (x : Int32) (hN : 220 ≤ N) (hP : isProg t B g 1 o pr w n) (hn : n ≤ 8) (hW : isWat g 5 ey wi ev) (hScr : Scr t B g)  : Ci l D t B N yX7_look cX7_look 2 (some .int) 1 21 g [.ref (B + 0), .int x] (fun r g' => Kp t B g g' ∧ r = lookF o pr w n ey wi ev x) := by
  refine Ci.start (by decide) (Nat.le_of_ble_eq_true rfl) ?_
  intro p e s m below meth c ls C hr hlocks hS hl
  replace C : Cx D t p s m [.ref (B + 0), .int x].toArray c cX7_look 2 RX7 := C
  replace hl : lv_has ls 2 [(0, .ref (B + 0)), (1, .int x)] := hl
  obtain ⟨p0, p1, p2, p3⟩ := id hP
  have hKp : Kp t B g g := Kp.rf hScr
  refine lv_iload_n C.x C.b dX7_look_0 rfl (lv_at hl 1 rfl) ?_
  by_cases h_1 : x = 0
  · refine lv_tableIn (off := 31) (tgt := 32) C.x C.b dX7_look_1 (by rw [h_1]; decide) (by rw [h_1]; decide) (by rw [h_1]; rfl) (by decide) ?_
    refine lv_aload_n C.x C.b dX7_look_32 rfl (lv_at hl 0 rfl) ?_
    obtain ⟨v_2, e_3⟩ := hKp.2.1
    refine r_get ck7 flX7_12 C hS (by omega) e_3 (by decide) rfl dX7_look_33 ?_
    refine r_get ck3 flX7_69 C hS (by omega) p0 (by decide) rfl dX7_look_36 ?_
    exact r_iret C hr hlocks hS ⟨hKp, by rw [lookF, if_pos h_1]⟩ dX7_look_39
  by_cases h_4 : x = 1
  · refine lv_tableIn (off := 39) (tgt := 40) C.x C.b dX7_look_1 (by rw [h_4]; decide) (by rw [h_4]; decide) (by rw [h_4]; rfl) (by decide) ?_
    refine lv_aload_n C.x C.b dX7_look_40 rfl (lv_at hl 0 rfl) ?_
    obtain ⟨v_5, e_6⟩ := hKp.2.1
    refine r_get ck7 flX7_19 C hS (by omega) e_6 (by decide) rfl dX7_look_41 ?_
    refine r_get ck6 flX7_98 C hS (by omega) hW (by decide) rfl dX7_look_44 ?_
    exact r_iret C hr hlocks hS ⟨hKp, by rw [lookF, if_neg h_1, if_pos h_4]⟩ dX7_look_47
  by_cases h_7 : x = 2
  · refine lv_tableIn (off := 47) (tgt := 48) C.x C.b dX7_look_1 (by rw [h_7]; decide) (by rw [h_7]; decide) (by rw [h_7]; rfl) (by decide) ?_
    refine lv_aload_n C.x C.b dX7_look_48 rfl (lv_at hl 0 rfl) ?_
    obtain ⟨v_8, e_9⟩ := hKp.2.1
    refine r_get ck7 flX7_19 C hS (by omega) e_9 (by decide) rfl dX7_look_49 ?_
    refine r_get ck6 flX7_101 C hS (by omega) hW (by decide) rfl dX7_look_52 ?_
    exact r_iret C hr hlocks hS ⟨hKp, by rw [lookF, if_neg h_1, if_neg h_4, if_pos h_7]⟩ dX7_look_55
  by_cases h_10 : x = 3
  · refine lv_tableIn (off := 55) (tgt := 56) C.x C.b dX7_look_1 (by rw [h_10]; decide) (by rw [h_10]; decide) (by rw [h_10]; rfl) (by decide) ?_
    refine lv_aload_n C.x C.b dX7_look_56 rfl (lv_at hl 0 rfl) ?_
    obtain ⟨v_11, e_12⟩ := hKp.2.1
    refine r_get ck7 flX7_19 C hS (by omega) e_12 (by decide) rfl dX7_look_57 ?_
    refine r_get ck6 flX7_89 C hS (by omega) hW (by decide) rfl dX7_look_60 ?_
    exact r_iret C hr hlocks hS ⟨hKp, by rw [lookF, if_neg h_1, if_neg h_4, if_neg h_7, if_pos h_10]⟩ dX7_look_63
  refine lv_tableOut (tgt := 64) C.x C.b dX7_look_1 (sw_out_0_3 h_1 h_4 h_7 h_10) (by decide) ?_
  refine lv_aload_n C.x C.b dX7_look_64 rfl (lv_at hl 0 rfl) ?_
  refine lv_iload_n C.x C.b dX7_look_65 rfl (lv_at hl 1 rfl) ?_
  obtain ⟨v_16, e_17⟩ := hKp.2.1
  refine r_callV (b := 0) (As := [.int x]) (rest := []) (k_X7_lookInRows l D t B N g _ _ _ _ _ _ _ x (by omega) ⟨p0, p1, p2, p3⟩ (by omega) hW hKp.2 ) mf_yX7_lookInRows mlX7_113 im_yX7_lookInRows se_yX7_lookInRows (by decide) C hS (by omega) e_17 (show vwCl[7]? = some _ from rfl) rfl rfl hl.1 rfl (Nat.le_of_ble_eq_true rfl) dX7_look_66 ⟨Nat.zero_le _, Nat.zero_le _⟩ (fun r_15 g_13 H locs w_14 hS => ?_)
  obtain ⟨w_14, er_15⟩ := w_14
  replace hKp : Kp t B g g_13 := hKp.tr w_14
  subst er_15
  exact r_iret C hr hlocks hS ⟨hKp, by rw [lookF, if_neg h_1, if_neg h_4, if_neg h_7, if_neg h_10]⟩ dX7_look_69
