def kdF (x : Int32) : Int32 := x >>> (12 &&& 31)
def aF (x : Int32) : Nat := lo2 (x >>> (8 &&& 31))
def bF (x : Int32) : Nat := lo2 (x >>> (4 &&& 31))
def cF (x : Int32) : Int32 := x &&& 15
def costF (kd b : Int32) : Int32 := if kd = 4 then 1 + (32 - nlzF b) else 1
def ecoF (kd : Int32) : Int32 := if kd = 4 then 33 else 1
/-- the machine and the run that it writes: registers, memory, place; events, costs, how many events, steps, places come to -/
abbrev GS : Type := (Nat → Int32) × (Nat → Int32) × Int32 × (Nat → Int32) × (Nat → Int32) × (Nat → Int32) × (Nat → Int32) × (Nat → Int32) × Nat × Int32 × Int32
def gst (ey wi : Int32) (h : Nat) (x : Int32) : GS → GS
  | (rg, mm, _, ep, ew, en, ct, ec, len, st, vi) => (workR (kdF x) (aF x) (rg (bF x)) (cF x) rg mm, workM (kdF x) (aF x) (rg (bF x)) rg mm, nextF (kdF x) (rg (aF x)) (cF x) (nI h), tuf (tlc (kdF x) ey wi) ep len (nI h), tuf (tlc (kdF x) ey wi) ew len (what (tlc (kdF x) ey wi)), tuf (tlc (kdF x) ey wi) en len (tnum (tlc (kdF x) ey wi) (rg (aF x)) (rg (bF x)) wi), upd ct h (ct h + costF (kdF x) (rg (bF x))), upd ec h (ec h + ecoF (kdF x)), tln (tlc (kdF x) ey wi) len, st + 1, vi ||| (1 <<< (nI h &&& 31)))
/-- at most k steps -/
def gor (o : Nat → Int32) (n : Nat) (ey wi : Int32) : Nat → GS → GS
  | 0, S => S
  | k + 1, S => if inP n S.2.2.1 then gor o n ey wi k (gst ey wi S.2.2.1.toNatClampNeg (o S.2.2.1.toNatClampNeg) S) else S
theorem inP_nI {n : Nat} {x : Int32} (h : inP n x) (hn : n < 2 ^ 31) : ∃ q, q < n ∧ x = nI q := by
  obtain ⟨j, h1, h2, -⟩ := pk_mu h.1 h.2 hn
  exact ⟨j, h1, h2⟩
theorem inP_of {n q : Nat} (h : q < n) (hn : n < 2 ^ 31) : inP n (nI q) := ⟨nI_pos (by omega), nI_ge h hn⟩
theorem gor_step {o : Nat → Int32} {n : Nat} {ey wi : Int32} {k q : Nat} {rg mm ep ew en ct ec : Nat → Int32} {len : Nat} {st vi : Int32} (hq : q < n) (hn : n ≤ 8 := by omega) : gor o n ey wi (k + 1) (rg, mm, nI q, ep, ew, en, ct, ec, len, st, vi) = gor o n ey wi k (gst ey wi q (o q) (rg, mm, nI q, ep, ew, en, ct, ec, len, st, vi)) := by
  rw [gor, if_pos (inP_of hq (by omega))]
  show gor o n ey wi k (gst ey wi (nI q).toNatClampNeg (o (nI q).toNatClampNeg) _) = _
  rw [nI_clamp (by omega)]
theorem gor_stop {o : Nat → Int32} {n : Nat} {ey wi : Int32} {k : Nat} {S : GS} (h : ¬ inP n S.2.2.1) : gor o n ey wi (k + 1) S = S := by
  rw [gor, if_neg h]
theorem tln_le (w : Nat) {a k : Nat} (h : a ≤ k) : tln w a ≤ k + 1 := by
  cases w with
  | zero => show a ≤ k + 1; omega
  | succ w => show a + 1 ≤ k + 1; omega
def viF (n : Nat) (pt vi : Int32) : Int32 := if inP n pt then vi ||| (1 <<< (pt &&& 31)) else vi
theorem viF_t {n : Nat} {pt vi : Int32} (h : inP n pt) : viF n pt vi = vi ||| (1 <<< (pt &&& 31)) := if_pos h
theorem viF_f {n : Nat} {pt vi : Int32} (h : ¬ inP n pt) : viF n pt vi = vi := if_neg h
/-- the machine and the run at i, behind a run's end in S -/
def goP (t : Gx) (B : Nat) (g : Nat → va_E) (i n : Nat) (S : GS) : Prop := isMach t B g 6 S.1 S.2.1 S.2.2.1 ∧ isRun t B g i S.2.2.2.1 S.2.2.2.2.1 S.2.2.2.2.2.1 S.2.2.2.2.2.2.1 S.2.2.2.2.2.2.2.1 S.2.2.2.2.2.2.2.2.1 S.2.2.2.2.2.2.2.2.2.1 (viF n S.2.2.1 S.2.2.2.2.2.2.2.2.2.2) (S.1 0) (bz (inP n S.2.2.1))
set_option maxHeartbeats 1000000 in
set_option maxRecDepth 100000 in
theorem c_X1_doOrder (l : Launch) (D : va_G) (t : Gx) (B N : Nat) (g : Nat → va_E) (rg mm : Nat → Int32) (h : Nat) (ey wi ev : Int32) (i : Nat) (ep ew en ct ec : Nat → Int32) (len : Nat) (st vi an sp : Int32) (x : Int32) (h6 : 8 < N) (hM : isMach t B g 6 rg mm (nI h)) (hW : isWat g 5 ey wi ev) (h9 : 9 ≤ i) (hi : i + 5 < N) (hR : isRun t B g i ep ew en ct ec len st vi an sp) (hn : len < 40) (hh : h < 8) : Cv l D t B N N 0 0 yX1_doOrder cX1_doOrder 10 2 49 g [.ref (B + 6), .int x, .ref (B + 5), .ref (B + i)] (fun g' => isMach t B g' 6 (workR (kdF x) (aF x) (rg (bF x)) (cF x) rg mm) (workM (kdF x) (aF x) (rg (bF x)) rg mm) (nextF (kdF x) (rg (aF x)) (cF x) (nI h)) ∧ isRun t B g' i (tuf (tlc (kdF x) ey wi) ep len (nI h)) (tuf (tlc (kdF x) ey wi) ew len (what (tlc (kdF x) ey wi))) (tuf (tlc (kdF x) ey wi) en len (tnum (tlc (kdF x) ey wi) (rg (aF x)) (rg (bF x)) wi)) (upd ct h (ct h + costF (kdF x) (rg (bF x)))) (upd ec h (ec h + ecoF (kdF x))) (tln (tlc (kdF x) ey wi) len) st vi an sp ∧ ∀ j, (j < 6 ∨ (8 < j ∧ (j < i ∨ i + 5 < j))) → g' j = g j) := by
  refine Cv.start (by decide) (Nat.le_of_ble_eq_true rfl) ?_
  intro p e s m below meth c ls C hr hlocks hnm hS hl
  replace C : Cx D t p s m [.ref (B + 6), .int x, .ref (B + 5), .ref (B + i)].toArray c cX1_doOrder 10 RX1 := C
  replace hl : lv_has ls 10 [(0, .ref (B + 6)), (1, .int x), (2, .ref (B + 5)), (3, .ref (B + i))] := hl
  obtain ⟨e0, e1, e2⟩ := hM
  obtain ⟨r0, r1, r2, r3, r4, r5⟩ := hR
  refine lv_aload_n C.x C.b dX1_doOrder_0 rfl (lv_at hl 0 rfl) ?_
  refine r_get ck1 flX1_18 C hS (by omega) e0 (by decide) rfl dX1_doOrder_1 ?_
  refine lv_istore (lv' := [(4, .int (nI h)), (0, .ref (B + 6)), (1, .int x), (2, .ref (B + 5)), (3, .ref (B + i))]) C.x C.b dX1_doOrder_4 hl (by decide) rfl (fun ls hl => ?_)
  refine lv_iload_n C.x C.b dX1_doOrder_6 rfl (lv_at hl 2 rfl) ?_
  refine lv_bipush (v := 12) C.x C.b dX1_doOrder_7 (by decide) ?_
  refine lv_ishr C.x C.b dX1_doOrder_9 ?_
  refine r_top (y := (kdF x)) (rfl) ?_
  refine lv_istore (lv' := [(5, .int (kdF x)), (4, .int (nI h)), (0, .ref (B + 6)), (1, .int x), (2, .ref (B + 5)), (3, .ref (B + i))]) C.x C.b dX1_doOrder_10 hl (by decide) rfl (fun ls hl => ?_)
  refine lv_iload_n C.x C.b dX1_doOrder_12 rfl (lv_at hl 3 rfl) ?_
  refine lv_bipush (v := 8) C.x C.b dX1_doOrder_13 (by decide) ?_
  refine lv_ishr C.x C.b dX1_doOrder_15 ?_
  refine lv_iconst (v := 3) C.x C.b dX1_doOrder_16 (by decide) ?_
  refine lv_iand C.x C.b dX1_doOrder_17 ?_
  refine r_top (y := nI (aF x)) (lo2_eq _) ?_
  have ha : aF x < 4 := lo2_lt _
  refine lv_istore (lv' := [(6, .int (nI (aF x))), (5, .int (kdF x)), (4, .int (nI h)), (0, .ref (B + 6)), (1, .int x), (2, .ref (B + 5)), (3, .ref (B + i))]) C.x C.b dX1_doOrder_18 hl (by decide) rfl (fun ls hl => ?_)
  refine lv_aload_n C.x C.b dX1_doOrder_20 rfl (lv_at hl 3 rfl) ?_
  refine r_get ck1 flX1_9 C hS (by omega) e0 (by decide) rfl dX1_doOrder_21 ?_
  refine lv_iload_n C.x C.b dX1_doOrder_24 rfl (lv_at hl 4 rfl) ?_
  refine lv_iconst (v := 4) C.x C.b dX1_doOrder_25 (by decide) ?_
  refine lv_ishr C.x C.b dX1_doOrder_26 ?_
  refine lv_iconst (v := 3) C.x C.b dX1_doOrder_27 (by decide) ?_
  refine lv_iand C.x C.b dX1_doOrder_28 ?_
  refine r_top (y := nI (bF x)) (lo2_eq _) ?_
  have hb : bF x < 4 := lo2_lt _
  refine r_ialdN (bF x) rfl (by omega) (by decide) C hS (by omega) e1 dX1_doOrder_29 ?_
  refine lv_istore (lv' := [(7, .int (rg (bF x))), (6, .int (nI (aF x))), (5, .int (kdF x)), (4, .int (nI h)), (0, .ref (B + 6)), (1, .int x), (2, .ref (B + 5)), (3, .ref (B + i))]) C.x C.b dX1_doOrder_30 hl (by decide) rfl (fun ls hl => ?_)
  refine lv_iload_n C.x C.b dX1_doOrder_32 rfl (lv_at hl 5 rfl) ?_
  refine lv_bipush (v := 15) C.x C.b dX1_doOrder_33 (by decide) ?_
  refine lv_iand C.x C.b dX1_doOrder_35 ?_
  refine r_top (y := (cF x)) (rfl) ?_
  refine lv_istore (lv' := [(8, .int (cF x)), (7, .int (rg (bF x))), (6, .int (nI (aF x))), (5, .int (kdF x)), (4, .int (nI h)), (0, .ref (B + 6)), (1, .int x), (2, .ref (B + 5)), (3, .ref (B + i))]) C.x C.b dX1_doOrder_36 hl (by decide) rfl (fun ls hl => ?_)
  refine lv_iload C.x C.b dX1_doOrder_38 (lv_at hl 3 rfl) ?_
  refine lv_iconst (v := 4) C.x C.b dX1_doOrder_40 (by decide) ?_
  refine lv_icmp_ne (tgt := 48) C.x C.b dX1_doOrder_41 (by decide) (fun c_1 => ?_) (fun c_1 => ?_)
  · skip
    refine lv_iconst (v := 0) C.x C.b dX1_doOrder_48 (by decide) ?_
    refine lv_istore (lv' := [(9, .int 0), (8, .int (cF x)), (7, .int (rg (bF x))), (6, .int (nI (aF x))), (5, .int (kdF x)), (4, .int (nI h)), (0, .ref (B + 6)), (1, .int x), (2, .ref (B + 5)), (3, .ref (B + i))]) C.x C.b dX1_doOrder_49 hl (by decide) rfl (fun ls hl => ?_)
    refine lv_aload_n C.x C.b dX1_doOrder_51 rfl (lv_at hl 9 rfl) ?_
    refine r_get ck5 flX1_59 C hS (by omega) r0 (by decide) rfl dX1_doOrder_52 ?_
    refine lv_iload C.x C.b dX1_doOrder_55 (lv_at hl 5 rfl) ?_
    refine lv_dup2_11 C.x C.b dX1_doOrder_57 rfl rfl ?_
    refine r_ialdN h rfl (by omega) (by decide) C hS (by omega) r4 dX1_doOrder_58 ?_
    refine lv_iload C.x C.b dX1_doOrder_59 (lv_at hl 0 rfl) ?_
    refine lv_if_eq (tgt := 74) C.x C.b dX1_doOrder_61 (by decide) (fun c_2 => ?_) (fun c_2 => absurd (by decide) c_2)
    refine lv_iconst (v := 1) C.x C.b dX1_doOrder_74 (by decide) ?_
    refine lv_iadd C.x C.b dX1_doOrder_75 ?_
    refine r_iastN h rfl (by omega) (by decide) C hS (by omega) r4 dX1_doOrder_76 (fun g_3 H locs e_4 o_5 hS => ?_)
    replace e_4 : g_3 (i + 4) = .inl (t.1, 8, .inl (upd ct h ((ct h) + 1))) := e_4
    refine lv_aload_n C.x C.b dX1_doOrder_77 rfl (lv_at hl 9 rfl) ?_
    have e_6 : g_3 i = .inr (5, [.ref (B + (i + 1)), .ref (B + (i + 2)), .ref (B + (i + 3)), .ref (B + (i + 4)), .ref (B + (i + 5)), .int (nI len), .int st, .int vi, .int an, .int sp]) := (o_5 _ (by omega)).trans r0
    refine r_get ck5 flX1_66 C hS (by omega) e_6 (by decide) rfl dX1_doOrder_78 ?_
    refine lv_iload C.x C.b dX1_doOrder_81 (lv_at hl 5 rfl) ?_
    refine lv_dup2_11 C.x C.b dX1_doOrder_83 rfl rfl ?_
    have e_7 : g_3 (i + 5) = .inl (t.1, 8, .inl ec) := (o_5 _ (by omega)).trans r5
    refine r_ialdN h rfl (by omega) (by decide) C hS (by omega) e_7 dX1_doOrder_84 ?_
    refine lv_iload C.x C.b dX1_doOrder_85 (lv_at hl 0 rfl) ?_
    refine lv_if_eq (tgt := 95) C.x C.b dX1_doOrder_87 (by decide) (fun c_8 => ?_) (fun c_8 => absurd (by decide) c_8)
    refine lv_iconst (v := 1) C.x C.b dX1_doOrder_95 (by decide) ?_
    refine lv_iadd C.x C.b dX1_doOrder_96 ?_
    refine r_iastN h rfl (by omega) (by decide) C hS (by omega) e_7 dX1_doOrder_97 (fun g_9 H locs e_10 o_11 hS => ?_)
    replace e_10 : g_9 (i + 5) = .inl (t.1, 8, .inl (upd ec h ((ec h) + 1))) := e_10
    refine lv_aload_n C.x C.b dX1_doOrder_98 rfl (lv_at hl 6 rfl) ?_
    refine lv_iload C.x C.b dX1_doOrder_99 (lv_at hl 4 rfl) ?_
    refine lv_aload_n C.x C.b dX1_doOrder_101 rfl (lv_at hl 6 rfl) ?_
    have e_12 : g_3 6 = .inr (1, [.ref (B + (6 + 1)), .ref (B + (6 + 2)), .int (nI h)]) := (o_5 _ (by omega)).trans e0
    have e_13 : g_9 6 = .inr (1, [.ref (B + (6 + 1)), .ref (B + (6 + 2)), .int (nI h)]) := (o_11 _ (by omega)).trans e_12
    refine r_get ck1 flX1_9 C hS (by omega) e_13 (by decide) rfl dX1_doOrder_102 ?_
    refine lv_iload C.x C.b dX1_doOrder_105 (lv_at hl 3 rfl) ?_
    have e_14 : g_3 (6 + 1) = .inl (t.1, 4, .inl rg) := (o_5 _ (by omega)).trans e1
    have e_15 : g_9 (6 + 1) = .inl (t.1, 4, .inl rg) := (o_11 _ (by omega)).trans e_14
    refine r_ialdN (aF x) rfl (by omega) (by decide) C hS (by omega) e_15 dX1_doOrder_107 ?_
    refine lv_iload C.x C.b dX1_doOrder_108 (lv_at hl 2 rfl) ?_
    refine lv_aload_n C.x C.b dX1_doOrder_110 rfl (lv_at hl 8 rfl) ?_
    refine lv_aload_n C.x C.b dX1_doOrder_111 rfl (lv_at hl 9 rfl) ?_
    have e_16 : g_3 (6 + 2) = .inl (t.1, 8, .inl mm) := (o_5 _ (by omega)).trans e2
    have e_17 : g_9 (6 + 2) = .inl (t.1, 8, .inl mm) := (o_11 _ (by omega)).trans e_16
    have e_18 : g_3 5 = .inr (6, [.int ey, .int wi, .int ev]) := (o_5 _ (by omega)).trans hW
    have e_19 : g_9 5 = .inr (6, [.int ey, .int wi, .int ev]) := (o_11 _ (by omega)).trans e_18
    have e_20 : g_9 i = .inr (5, [.ref (B + (i + 1)), .ref (B + (i + 2)), .ref (B + (i + 3)), .ref (B + (i + 4)), .ref (B + (i + 5)), .int (nI len), .int st, .int vi, .int an, .int sp]) := (o_11 _ (by omega)).trans e_6
    have e_21 : g_3 (i + 1) = .inl (t.1, 40, .inl ep) := (o_5 _ (by omega)).trans r1
    have e_22 : g_9 (i + 1) = .inl (t.1, 40, .inl ep) := (o_11 _ (by omega)).trans e_21
    have e_23 : g_3 (i + 2) = .inl (t.1, 40, .inl ew) := (o_5 _ (by omega)).trans r2
    have e_24 : g_9 (i + 2) = .inl (t.1, 40, .inl ew) := (o_11 _ (by omega)).trans e_23
    have e_25 : g_3 (i + 3) = .inl (t.1, 40, .inl en) := (o_5 _ (by omega)).trans r3
    have e_26 : g_9 (i + 3) = .inl (t.1, 40, .inl en) := (o_11 _ (by omega)).trans e_25
    have e_27 : g_9 (i + 4) = .inl (t.1, 8, .inl (upd ct h ((ct h) + 1))) := (o_11 _ (by omega)).trans e_4
    refine r_callVv (b := 6) (As := [.int (kdF x), .int (rg (aF x)), .int (rg (bF x)), .ref (B + 5), .ref (B + i)]) (rest := []) (c_X1_tellOf l D t B N g_9 _ _ _ _ _ _ i _ _ _ _ _ _ _ _ _ _ (kdF x) (rg (aF x)) (rg (bF x)) (by omega) ⟨e_13, e_15, e_17⟩ e_19 (by omega) (by omega) ⟨e_20, e_22, e_24, e_26, e_27, e_10⟩ (by omega)) mf_yX1_tellOf mlX1_69 im_yX1_tellOf se_yX1_tellOf (by decide) C hS (by omega) e_13 (show vwCl[1]? = some _ from rfl) rfl rfl hl.1 rfl (Nat.le_of_ble_eq_true rfl) dX1_doOrder_112 ⟨Nat.zero_le _, Nat.zero_le _⟩ (fun g_28 H locs w_29 hS => ?_)
    obtain ⟨⟨e_31, e_32, e_33, e_34, e_35, e_36⟩, hf_37⟩ := w_29
    refine lv_aload_n C.x C.b dX1_doOrder_115 rfl (lv_at hl 6 rfl) ?_
    refine lv_aload_n C.x C.b dX1_doOrder_116 rfl (lv_at hl 6 rfl) ?_
    refine lv_iload C.x C.b dX1_doOrder_117 (lv_at hl 4 rfl) ?_
    refine lv_aload_n C.x C.b dX1_doOrder_119 rfl (lv_at hl 6 rfl) ?_
    have e_38 : g_28 6 = .inr (1, [.ref (B + (6 + 1)), .ref (B + (6 + 2)), .int (nI h)]) := (hf_37 _ (by omega)).trans e_13
    refine r_get ck1 flX1_9 C hS (by omega) e_38 (by decide) rfl dX1_doOrder_120 ?_
    refine lv_iload C.x C.b dX1_doOrder_123 (lv_at hl 3 rfl) ?_
    have e_39 : g_28 (6 + 1) = .inl (t.1, 4, .inl rg) := (hf_37 _ (by omega)).trans e_15
    refine r_ialdN (aF x) rfl (by omega) (by decide) C hS (by omega) e_39 dX1_doOrder_125 ?_
    refine lv_iload C.x C.b dX1_doOrder_126 (lv_at hl 1 rfl) ?_
    have e_40 : g_28 (6 + 2) = .inl (t.1, 8, .inl mm) := (hf_37 _ (by omega)).trans e_17
    refine r_callV (b := 6) (As := [.int (kdF x), .int (rg (aF x)), .int (cF x)]) (rest := [.ref (B + 6)]) (c_X1_next l D t B N g_28 _ _ _ (kdF x) (rg (aF x)) (cF x) (by omega) ⟨e_38, e_39, e_40⟩) mf_yX1_next mlX1_73 im_yX1_next se_yX1_next (by decide) C hS (by omega) e_38 (show vwCl[1]? = some _ from rfl) rfl rfl hl.1 rfl (Nat.le_of_ble_eq_true rfl) dX1_doOrder_128 ⟨Nat.zero_le _, Nat.zero_le _⟩ (fun r_43 g_41 H locs w_42 hS => ?_)
    obtain ⟨rfl, er_43⟩ := w_42
    subst er_43
    refine r_put ck1 flX1_18 C hS (by omega) e_38 (by decide) rfl rfl rfl (Nat.le_of_ble_eq_true rfl) dX1_doOrder_131 (fun g_44 H locs e_45 o_46 hS => ?_)
    replace e_45 : g_44 6 = .inr (1, [.ref (B + (6 + 1)), .ref (B + (6 + 2)), .int (nextF (kdF x) (rg (aF x)) (cF x) (nI h))]) := e_45
    refine lv_aload_n C.x C.b dX1_doOrder_134 rfl (lv_at hl 6 rfl) ?_
    refine lv_iload C.x C.b dX1_doOrder_135 (lv_at hl 4 rfl) ?_
    refine lv_iload C.x C.b dX1_doOrder_137 (lv_at hl 3 rfl) ?_
    refine lv_iload C.x C.b dX1_doOrder_139 (lv_at hl 2 rfl) ?_
    refine lv_iload C.x C.b dX1_doOrder_141 (lv_at hl 1 rfl) ?_
    have e_47 : g_44 (6 + 1) = .inl (t.1, 4, .inl rg) := (o_46 _ (by omega)).trans e_39
    have e_48 : g_44 (6 + 2) = .inl (t.1, 8, .inl mm) := (o_46 _ (by omega)).trans e_40
    refine r_callVv (b := 6) (As := [.int (kdF x), .int (nI (aF x)), .int (rg (bF x)), .int (cF x)]) (rest := []) (c_X1_work l D t B N g_44 _ _ _ (kdF x) (aF x) (rg (bF x)) (cF x) (by omega) ⟨e_45, e_47, e_48⟩ (lo2_lt _)) mf_yX1_work mlX1_77 im_yX1_work se_yX1_work (by decide) C hS (by omega) e_45 (show vwCl[1]? = some _ from rfl) rfl rfl hl.1 rfl (Nat.le_of_ble_eq_true rfl) dX1_doOrder_143 ⟨Nat.zero_le _, Nat.zero_le _⟩ (fun g_49 H locs w_50 hS => ?_)
    obtain ⟨⟨e_52, e_53, e_54⟩, hf_55⟩ := w_50
    have e_56 : g_44 i = .inr (5, [.ref (B + (i + 1)), .ref (B + (i + 2)), .ref (B + (i + 3)), .ref (B + (i + 4)), .ref (B + (i + 5)), .int (nI (tln (tlc (kdF x) ey wi) len)), .int st, .int vi, .int an, .int sp]) := (o_46 _ (by omega)).trans e_31
    have e_57 : g_49 i = .inr (5, [.ref (B + (i + 1)), .ref (B + (i + 2)), .ref (B + (i + 3)), .ref (B + (i + 4)), .ref (B + (i + 5)), .int (nI (tln (tlc (kdF x) ey wi) len)), .int st, .int vi, .int an, .int sp]) := (hf_55 _ (by omega)).trans e_56
    have e_58 : g_44 (i + 1) = .inl (t.1, 40, .inl (tuf (tlc (kdF x) ey wi) ep len (nI h))) := (o_46 _ (by omega)).trans e_32
    have e_59 : g_49 (i + 1) = .inl (t.1, 40, .inl (tuf (tlc (kdF x) ey wi) ep len (nI h))) := (hf_55 _ (by omega)).trans e_58
    have e_60 : g_44 (i + 2) = .inl (t.1, 40, .inl (tuf (tlc (kdF x) ey wi) ew len (what (tlc (kdF x) ey wi)))) := (o_46 _ (by omega)).trans e_33
    have e_61 : g_49 (i + 2) = .inl (t.1, 40, .inl (tuf (tlc (kdF x) ey wi) ew len (what (tlc (kdF x) ey wi)))) := (hf_55 _ (by omega)).trans e_60
    have e_62 : g_44 (i + 3) = .inl (t.1, 40, .inl (tuf (tlc (kdF x) ey wi) en len (tnum (tlc (kdF x) ey wi) (rg (aF x)) (rg (bF x)) wi))) := (o_46 _ (by omega)).trans e_34
    have e_63 : g_49 (i + 3) = .inl (t.1, 40, .inl (tuf (tlc (kdF x) ey wi) en len (tnum (tlc (kdF x) ey wi) (rg (aF x)) (rg (bF x)) wi))) := (hf_55 _ (by omega)).trans e_62
    have e_64 : g_44 (i + 4) = .inl (t.1, 8, .inl (upd ct h ((ct h) + 1))) := (o_46 _ (by omega)).trans e_35
    have e_65 : g_49 (i + 4) = .inl (t.1, 8, .inl (upd ct h ((ct h) + 1))) := (hf_55 _ (by omega)).trans e_64
    have e_66 : g_44 (i + 5) = .inl (t.1, 8, .inl (upd ec h ((ec h) + 1))) := (o_46 _ (by omega)).trans e_36
    have e_67 : g_49 (i + 5) = .inl (t.1, 8, .inl (upd ec h ((ec h) + 1))) := (hf_55 _ (by omega)).trans e_66
    exact r_vret C hr hlocks hS ⟨⟨e_52, e_53, e_54⟩, by rw [costF, ecoF, if_neg c_1, if_neg c_1]; exact ⟨e_57, e_59, e_61, e_63, e_65, e_67⟩, fun j hj => (hf_55 j (by omega)).trans ((o_46 j (by omega)).trans ((hf_37 j (by omega)).trans ((o_11 j (by omega)).trans (o_5 j (by omega)))))⟩ dX1_doOrder_146
  · skip
    refine lv_iconst (v := 1) C.x C.b dX1_doOrder_44 (by decide) ?_
    refine lv_goto (tgt := 49) C.x C.b dX1_doOrder_45 (by decide) ?_
    refine lv_istore (lv' := [(9, .int 1), (8, .int (cF x)), (7, .int (rg (bF x))), (6, .int (nI (aF x))), (5, .int (kdF x)), (4, .int (nI h)), (0, .ref (B + 6)), (1, .int x), (2, .ref (B + 5)), (3, .ref (B + i))]) C.x C.b dX1_doOrder_49 hl (by decide) rfl (fun ls hl => ?_)
    refine lv_aload_n C.x C.b dX1_doOrder_51 rfl (lv_at hl 9 rfl) ?_
    refine r_get ck5 flX1_59 C hS (by omega) r0 (by decide) rfl dX1_doOrder_52 ?_
    refine lv_iload C.x C.b dX1_doOrder_55 (lv_at hl 5 rfl) ?_
    refine lv_dup2_11 C.x C.b dX1_doOrder_57 rfl rfl ?_
    refine r_ialdN h rfl (by omega) (by decide) C hS (by omega) r4 dX1_doOrder_58 ?_
    refine lv_iload C.x C.b dX1_doOrder_59 (lv_at hl 0 rfl) ?_
    refine lv_if_eq (tgt := 74) C.x C.b dX1_doOrder_61 (by decide) (fun c_68 => absurd c_68 (by decide)) (fun c_68 => ?_)
    refine lv_iconst (v := 1) C.x C.b dX1_doOrder_64 (by decide) ?_
    refine lv_iload C.x C.b dX1_doOrder_65 (lv_at hl 2 rfl) ?_
    refine r_callS (As := [.int (rg (bF x))]) (rest := [.int 1, .int (ct h), .int (nI h), .ref (B + (i + 4))]) (c_X1_bitsOf l D t B N g (rg (bF x))) mf_yX1_bitsOf mlX1_62 sm_yX1_bitsOf (by decide) C hS rfl hl.1 rfl (Nat.le_of_ble_eq_true rfl) dX1_doOrder_67 ⟨Nat.zero_le _, Nat.zero_le _⟩ (fun r_71 g_69 H locs w_70 hS => ?_)
    obtain ⟨rfl, er_71⟩ := w_70
    subst er_71
    refine lv_iadd C.x C.b dX1_doOrder_70 ?_
    refine lv_goto (tgt := 75) C.x C.b dX1_doOrder_71 (by decide) ?_
    refine lv_iadd C.x C.b dX1_doOrder_75 ?_
    refine r_iastN h rfl (by omega) (by decide) C hS (by omega) r4 dX1_doOrder_76 (fun g_72 H locs e_73 o_74 hS => ?_)
    replace e_73 : g_72 (i + 4) = .inl (t.1, 8, .inl (upd ct h ((ct h) + (1 + (32 - nlzF (rg (bF x))))))) := e_73
    refine lv_aload_n C.x C.b dX1_doOrder_77 rfl (lv_at hl 9 rfl) ?_
    have e_75 : g_72 i = .inr (5, [.ref (B + (i + 1)), .ref (B + (i + 2)), .ref (B + (i + 3)), .ref (B + (i + 4)), .ref (B + (i + 5)), .int (nI len), .int st, .int vi, .int an, .int sp]) := (o_74 _ (by omega)).trans r0
    refine r_get ck5 flX1_66 C hS (by omega) e_75 (by decide) rfl dX1_doOrder_78 ?_
    refine lv_iload C.x C.b dX1_doOrder_81 (lv_at hl 5 rfl) ?_
    refine lv_dup2_11 C.x C.b dX1_doOrder_83 rfl rfl ?_
    have e_76 : g_72 (i + 5) = .inl (t.1, 8, .inl ec) := (o_74 _ (by omega)).trans r5
    refine r_ialdN h rfl (by omega) (by decide) C hS (by omega) e_76 dX1_doOrder_84 ?_
    refine lv_iload C.x C.b dX1_doOrder_85 (lv_at hl 0 rfl) ?_
    refine lv_if_eq (tgt := 95) C.x C.b dX1_doOrder_87 (by decide) (fun c_77 => absurd c_77 (by decide)) (fun c_77 => ?_)
    refine lv_bipush (v := 33) C.x C.b dX1_doOrder_90 (by decide) ?_
    refine lv_goto (tgt := 96) C.x C.b dX1_doOrder_92 (by decide) ?_
    refine lv_iadd C.x C.b dX1_doOrder_96 ?_
    refine r_iastN h rfl (by omega) (by decide) C hS (by omega) e_76 dX1_doOrder_97 (fun g_78 H locs e_79 o_80 hS => ?_)
    replace e_79 : g_78 (i + 5) = .inl (t.1, 8, .inl (upd ec h ((ec h) + 33))) := e_79
    refine lv_aload_n C.x C.b dX1_doOrder_98 rfl (lv_at hl 6 rfl) ?_
    refine lv_iload C.x C.b dX1_doOrder_99 (lv_at hl 4 rfl) ?_
    refine lv_aload_n C.x C.b dX1_doOrder_101 rfl (lv_at hl 6 rfl) ?_
    have e_81 : g_72 6 = .inr (1, [.ref (B + (6 + 1)), .ref (B + (6 + 2)), .int (nI h)]) := (o_74 _ (by omega)).trans e0
    have e_82 : g_78 6 = .inr (1, [.ref (B + (6 + 1)), .ref (B + (6 + 2)), .int (nI h)]) := (o_80 _ (by omega)).trans e_81
    refine r_get ck1 flX1_9 C hS (by omega) e_82 (by decide) rfl dX1_doOrder_102 ?_
    refine lv_iload C.x C.b dX1_doOrder_105 (lv_at hl 3 rfl) ?_
    have e_83 : g_72 (6 + 1) = .inl (t.1, 4, .inl rg) := (o_74 _ (by omega)).trans e1
    have e_84 : g_78 (6 + 1) = .inl (t.1, 4, .inl rg) := (o_80 _ (by omega)).trans e_83
    refine r_ialdN (aF x) rfl (by omega) (by decide) C hS (by omega) e_84 dX1_doOrder_107 ?_
    refine lv_iload C.x C.b dX1_doOrder_108 (lv_at hl 2 rfl) ?_
    refine lv_aload_n C.x C.b dX1_doOrder_110 rfl (lv_at hl 8 rfl) ?_
    refine lv_aload_n C.x C.b dX1_doOrder_111 rfl (lv_at hl 9 rfl) ?_
    have e_85 : g_72 (6 + 2) = .inl (t.1, 8, .inl mm) := (o_74 _ (by omega)).trans e2
    have e_86 : g_78 (6 + 2) = .inl (t.1, 8, .inl mm) := (o_80 _ (by omega)).trans e_85
    have e_87 : g_72 5 = .inr (6, [.int ey, .int wi, .int ev]) := (o_74 _ (by omega)).trans hW
    have e_88 : g_78 5 = .inr (6, [.int ey, .int wi, .int ev]) := (o_80 _ (by omega)).trans e_87
    have e_89 : g_78 i = .inr (5, [.ref (B + (i + 1)), .ref (B + (i + 2)), .ref (B + (i + 3)), .ref (B + (i + 4)), .ref (B + (i + 5)), .int (nI len), .int st, .int vi, .int an, .int sp]) := (o_80 _ (by omega)).trans e_75
    have e_90 : g_72 (i + 1) = .inl (t.1, 40, .inl ep) := (o_74 _ (by omega)).trans r1
    have e_91 : g_78 (i + 1) = .inl (t.1, 40, .inl ep) := (o_80 _ (by omega)).trans e_90
    have e_92 : g_72 (i + 2) = .inl (t.1, 40, .inl ew) := (o_74 _ (by omega)).trans r2
    have e_93 : g_78 (i + 2) = .inl (t.1, 40, .inl ew) := (o_80 _ (by omega)).trans e_92
    have e_94 : g_72 (i + 3) = .inl (t.1, 40, .inl en) := (o_74 _ (by omega)).trans r3
    have e_95 : g_78 (i + 3) = .inl (t.1, 40, .inl en) := (o_80 _ (by omega)).trans e_94
    have e_96 : g_78 (i + 4) = .inl (t.1, 8, .inl (upd ct h ((ct h) + (1 + (32 - nlzF (rg (bF x))))))) := (o_80 _ (by omega)).trans e_73
    refine r_callVv (b := 6) (As := [.int (kdF x), .int (rg (aF x)), .int (rg (bF x)), .ref (B + 5), .ref (B + i)]) (rest := []) (c_X1_tellOf l D t B N g_78 _ _ _ _ _ _ i _ _ _ _ _ _ _ _ _ _ (kdF x) (rg (aF x)) (rg (bF x)) (by omega) ⟨e_82, e_84, e_86⟩ e_88 (by omega) (by omega) ⟨e_89, e_91, e_93, e_95, e_96, e_79⟩ (by omega)) mf_yX1_tellOf mlX1_69 im_yX1_tellOf se_yX1_tellOf (by decide) C hS (by omega) e_82 (show vwCl[1]? = some _ from rfl) rfl rfl hl.1 rfl (Nat.le_of_ble_eq_true rfl) dX1_doOrder_112 ⟨Nat.zero_le _, Nat.zero_le _⟩ (fun g_97 H locs w_98 hS => ?_)
    obtain ⟨⟨e_100, e_101, e_102, e_103, e_104, e_105⟩, hf_106⟩ := w_98
    refine lv_aload_n C.x C.b dX1_doOrder_115 rfl (lv_at hl 6 rfl) ?_
    refine lv_aload_n C.x C.b dX1_doOrder_116 rfl (lv_at hl 6 rfl) ?_
    refine lv_iload C.x C.b dX1_doOrder_117 (lv_at hl 4 rfl) ?_
    refine lv_aload_n C.x C.b dX1_doOrder_119 rfl (lv_at hl 6 rfl) ?_
    have e_107 : g_97 6 = .inr (1, [.ref (B + (6 + 1)), .ref (B + (6 + 2)), .int (nI h)]) := (hf_106 _ (by omega)).trans e_82
    refine r_get ck1 flX1_9 C hS (by omega) e_107 (by decide) rfl dX1_doOrder_120 ?_
    refine lv_iload C.x C.b dX1_doOrder_123 (lv_at hl 3 rfl) ?_
    have e_108 : g_97 (6 + 1) = .inl (t.1, 4, .inl rg) := (hf_106 _ (by omega)).trans e_84
    refine r_ialdN (aF x) rfl (by omega) (by decide) C hS (by omega) e_108 dX1_doOrder_125 ?_
    refine lv_iload C.x C.b dX1_doOrder_126 (lv_at hl 1 rfl) ?_
    have e_109 : g_97 (6 + 2) = .inl (t.1, 8, .inl mm) := (hf_106 _ (by omega)).trans e_86
    refine r_callV (b := 6) (As := [.int (kdF x), .int (rg (aF x)), .int (cF x)]) (rest := [.ref (B + 6)]) (c_X1_next l D t B N g_97 _ _ _ (kdF x) (rg (aF x)) (cF x) (by omega) ⟨e_107, e_108, e_109⟩) mf_yX1_next mlX1_73 im_yX1_next se_yX1_next (by decide) C hS (by omega) e_107 (show vwCl[1]? = some _ from rfl) rfl rfl hl.1 rfl (Nat.le_of_ble_eq_true rfl) dX1_doOrder_128 ⟨Nat.zero_le _, Nat.zero_le _⟩ (fun r_112 g_110 H locs w_111 hS => ?_)
    obtain ⟨rfl, er_112⟩ := w_111
    subst er_112
    refine r_put ck1 flX1_18 C hS (by omega) e_107 (by decide) rfl rfl rfl (Nat.le_of_ble_eq_true rfl) dX1_doOrder_131 (fun g_113 H locs e_114 o_115 hS => ?_)
    replace e_114 : g_113 6 = .inr (1, [.ref (B + (6 + 1)), .ref (B + (6 + 2)), .int (nextF (kdF x) (rg (aF x)) (cF x) (nI h))]) := e_114
    refine lv_aload_n C.x C.b dX1_doOrder_134 rfl (lv_at hl 6 rfl) ?_
    refine lv_iload C.x C.b dX1_doOrder_135 (lv_at hl 4 rfl) ?_
    refine lv_iload C.x C.b dX1_doOrder_137 (lv_at hl 3 rfl) ?_
    refine lv_iload C.x C.b dX1_doOrder_139 (lv_at hl 2 rfl) ?_
    refine lv_iload C.x C.b dX1_doOrder_141 (lv_at hl 1 rfl) ?_
    have e_116 : g_113 (6 + 1) = .inl (t.1, 4, .inl rg) := (o_115 _ (by omega)).trans e_108
    have e_117 : g_113 (6 + 2) = .inl (t.1, 8, .inl mm) := (o_115 _ (by omega)).trans e_109
    refine r_callVv (b := 6) (As := [.int (kdF x), .int (nI (aF x)), .int (rg (bF x)), .int (cF x)]) (rest := []) (c_X1_work l D t B N g_113 _ _ _ (kdF x) (aF x) (rg (bF x)) (cF x) (by omega) ⟨e_114, e_116, e_117⟩ (lo2_lt _)) mf_yX1_work mlX1_77 im_yX1_work se_yX1_work (by decide) C hS (by omega) e_114 (show vwCl[1]? = some _ from rfl) rfl rfl hl.1 rfl (Nat.le_of_ble_eq_true rfl) dX1_doOrder_143 ⟨Nat.zero_le _, Nat.zero_le _⟩ (fun g_118 H locs w_119 hS => ?_)
    obtain ⟨⟨e_121, e_122, e_123⟩, hf_124⟩ := w_119
    have e_125 : g_113 i = .inr (5, [.ref (B + (i + 1)), .ref (B + (i + 2)), .ref (B + (i + 3)), .ref (B + (i + 4)), .ref (B + (i + 5)), .int (nI (tln (tlc (kdF x) ey wi) len)), .int st, .int vi, .int an, .int sp]) := (o_115 _ (by omega)).trans e_100
    have e_126 : g_118 i = .inr (5, [.ref (B + (i + 1)), .ref (B + (i + 2)), .ref (B + (i + 3)), .ref (B + (i + 4)), .ref (B + (i + 5)), .int (nI (tln (tlc (kdF x) ey wi) len)), .int st, .int vi, .int an, .int sp]) := (hf_124 _ (by omega)).trans e_125
    have e_127 : g_113 (i + 1) = .inl (t.1, 40, .inl (tuf (tlc (kdF x) ey wi) ep len (nI h))) := (o_115 _ (by omega)).trans e_101
    have e_128 : g_118 (i + 1) = .inl (t.1, 40, .inl (tuf (tlc (kdF x) ey wi) ep len (nI h))) := (hf_124 _ (by omega)).trans e_127
    have e_129 : g_113 (i + 2) = .inl (t.1, 40, .inl (tuf (tlc (kdF x) ey wi) ew len (what (tlc (kdF x) ey wi)))) := (o_115 _ (by omega)).trans e_102
    have e_130 : g_118 (i + 2) = .inl (t.1, 40, .inl (tuf (tlc (kdF x) ey wi) ew len (what (tlc (kdF x) ey wi)))) := (hf_124 _ (by omega)).trans e_129
    have e_131 : g_113 (i + 3) = .inl (t.1, 40, .inl (tuf (tlc (kdF x) ey wi) en len (tnum (tlc (kdF x) ey wi) (rg (aF x)) (rg (bF x)) wi))) := (o_115 _ (by omega)).trans e_103
    have e_132 : g_118 (i + 3) = .inl (t.1, 40, .inl (tuf (tlc (kdF x) ey wi) en len (tnum (tlc (kdF x) ey wi) (rg (aF x)) (rg (bF x)) wi))) := (hf_124 _ (by omega)).trans e_131
    have e_133 : g_113 (i + 4) = .inl (t.1, 8, .inl (upd ct h ((ct h) + (1 + (32 - nlzF (rg (bF x))))))) := (o_115 _ (by omega)).trans e_104
    have e_134 : g_118 (i + 4) = .inl (t.1, 8, .inl (upd ct h ((ct h) + (1 + (32 - nlzF (rg (bF x))))))) := (hf_124 _ (by omega)).trans e_133
    have e_135 : g_113 (i + 5) = .inl (t.1, 8, .inl (upd ec h ((ec h) + 33))) := (o_115 _ (by omega)).trans e_105
    have e_136 : g_118 (i + 5) = .inl (t.1, 8, .inl (upd ec h ((ec h) + 33))) := (hf_124 _ (by omega)).trans e_135
    exact r_vret C hr hlocks hS ⟨⟨e_121, e_122, e_123⟩, by rw [costF, ecoF, if_pos c_1, if_pos c_1]; exact ⟨e_126, e_128, e_130, e_132, e_134, e_136⟩, fun j hj => (hf_124 j (by omega)).trans ((o_115 j (by omega)).trans ((hf_106 j (by omega)).trans ((o_80 j (by omega)).trans (o_74 j (by omega)))))⟩ dX1_doOrder_146
set_option maxHeartbeats 1000000 in
set_option maxRecDepth 100000 in
theorem c_X1_go (l : Launch) (D : va_G) (t : Gx) (B N : Nat) (g : Nat → va_E) (rg mm : Nat → Int32) (pt : Int32) (o pr w : Nat → Int32) (n : Nat) (ey wi ev : Int32) (i : Nat) (ep ew en ct ec : Nat → Int32) (len : Nat) (st vi an sp : Int32) (op se : Int32) (h6 : 8 < N) (hM : isMach t B g 6 rg mm pt) (hP : isProg t B g 1 o pr w n) (hW : isWat g 5 ey wi ev) (h9 : 9 ≤ i) (hi : i + 5 < N) (hR : isRun t B g i ep ew en ct ec len st vi an sp) (hn : n ≤ 8) : Cv l D t B N N 0 0 yX1_go cX1_go 7 3 78 g [.ref (B + 6), .ref (B + 1), .ref (B + 5), .int op, .int se, .ref (B + i)] (fun g' => goP t B g' i n (gor o n ey wi 40 (rg0 rg op se, cpF w mm 8, 0, ep, ew, en, zf ct 8, zf ec 8, 0, 0, 0)) ∧ ∀ j, (j < 6 ∨ (8 < j ∧ (j < i ∨ i + 5 < j))) → g' j = g j) := by
  refine Cv.start (by decide) (Nat.le_of_ble_eq_true rfl) ?_
  intro p e s m below meth c ls C hr hlocks hnm hS hl
  replace C : Cx D t p s m [.ref (B + 6), .ref (B + 1), .ref (B + 5), .int op, .int se, .ref (B + i)].toArray c cX1_go 7 RX1 := C
  replace hl : lv_has ls 7 [(0, .ref (B + 6)), (1, .ref (B + 1)), (2, .ref (B + 5)), (3, .int op), (4, .int se), (5, .ref (B + i))] := hl
  obtain ⟨e0, e1, e2⟩ := hM
  obtain ⟨p0, p1, p2, p3⟩ := hP
  obtain ⟨r0, r1, r2, r3, r4, r5⟩ := hR
  refine lv_aload_n C.x C.b dX1_go_0 rfl (lv_at hl 0 rfl) ?_
  refine lv_aload_n C.x C.b dX1_go_1 rfl (lv_at hl 1 rfl) ?_
  refine lv_iload_n C.x C.b dX1_go_2 rfl (lv_at hl 3 rfl) ?_
  refine lv_iload C.x C.b dX1_go_3 (lv_at hl 4 rfl) ?_
  refine r_callVv (b := 6) (As := [.ref (B + 1), .int op, .int se]) (rest := []) (c_X1_begin l D t B N g _ _ _ _ _ _ _ op se (by omega) ⟨e0, e1, e2⟩ ⟨p0, p1, p2, p3⟩) mf_yX1_begin mlX1_22 im_yX1_begin se_yX1_begin (by decide) C hS (by omega) e0 (show vwCl[1]? = some _ from rfl) rfl rfl hl.1 rfl (Nat.le_of_ble_eq_true rfl) dX1_go_5 ⟨Nat.zero_le _, Nat.zero_le _⟩ (fun g_1 H locs w_2 hS => ?_)
  obtain ⟨⟨e_4, e_5, e_6⟩, hf_7⟩ := w_2
  refine lv_aload C.x C.b dX1_go_8 (lv_at hl 5 rfl) ?_
  have e_8 : g_1 i = .inr (5, [.ref (B + (i + 1)), .ref (B + (i + 2)), .ref (B + (i + 3)), .ref (B + (i + 4)), .ref (B + (i + 5)), .int (nI len), .int st, .int vi, .int an, .int sp]) := (hf_7 _ (by omega)).trans r0
  have e_9 : g_1 (i + 1) = .inl (t.1, 40, .inl ep) := (hf_7 _ (by omega)).trans r1
  have e_10 : g_1 (i + 2) = .inl (t.1, 40, .inl ew) := (hf_7 _ (by omega)).trans r2
  have e_11 : g_1 (i + 3) = .inl (t.1, 40, .inl en) := (hf_7 _ (by omega)).trans r3
  have e_12 : g_1 (i + 4) = .inl (t.1, 8, .inl ct) := (hf_7 _ (by omega)).trans r4
  have e_13 : g_1 (i + 5) = .inl (t.1, 8, .inl ec) := (hf_7 _ (by omega)).trans r5
  refine r_callVv (b := i) (As := []) (rest := []) (c_X5_begin l D t B N g_1 i _ _ _ _ _ _ _ _ _ _ (by omega) ⟨e_8, e_9, e_10, e_11, e_12, e_13⟩) mf_yX5_begin mlX1_26 im_yX5_begin se_yX5_begin (by decide) C hS (by omega) e_8 (show vwCl[5]? = some _ from rfl) rfl rfl hl.1 rfl (Nat.le_of_ble_eq_true rfl) dX1_go_10 ⟨Nat.zero_le _, Nat.zero_le _⟩ (fun g_14 H locs w_15 hS => ?_)
  obtain ⟨⟨e_17, e_18, e_19, e_20, e_21, e_22⟩, hf_23⟩ := w_15
  refine lv_iconst (v := 0) C.x C.b dX1_go_13 (by decide) ?_
  refine lv_istore (lv' := [(6, .int 0), (0, .ref (B + 6)), (1, .ref (B + 1)), (2, .ref (B + 5)), (3, .int op), (4, .int se), (5, .ref (B + i))]) C.x C.b dX1_go_14 hl (by decide) rfl (fun ls hl => ?_)
  have lp : ∀ (u k : Nat) (rg1 mm1 : Nat → Int32) (pt1 : Int32) (ep1 ew1 en1 ct1 ec1 : Nat → Int32) (len1 : Nat) (st1 vi1 : Int32) (gL : Nat → va_E) (H : Heap) (locs : List Loc) (ls : Array Slot), k + u = 40 → len1 ≤ k → gor o n ey wi u (rg1, mm1, pt1, ep1, ew1, en1, ct1, ec1, len1, st1, vi1) = (gor o n ey wi 40 (rg0 rg op se, cpF w mm 8, 0, ep, ew, en, zf ct 8, zf ec 8, 0, 0, 0)) → isMach t B gL 6 rg1 mm1 pt1 → isRun t B gL i ep1 ew1 en1 ct1 ec1 len1 st1 vi1 an sp → (∀ j, (j < 6 ∨ (8 < j ∧ (j < i ∨ i + 5 < j))) → gL j = g_14 j) → St D B s.heap N gL H locs → lv_has ls 7 [(0, .ref (B + 6)), (1, .ref (B + 1)), (2, .ref (B + 5)), (5, .ref (B + i)), (6, .int (nI k))] → W p l e (rmOf 3 78 0 0) s m [.ref (B + 6), .ref (B + 1), .ref (B + 5), .int op, .int se, .ref (B + i)].toArray below meth c H locs 0 0 (MQ below (qV D B N (fun g' => goP t B g' i n (gor o n ey wi 40 (rg0 rg op se, cpF w mm 8, 0, ep, ew, en, zf ct 8, zf ec 8, 0, 0, 0)) ∧ ∀ j, (j < 6 ∨ (8 < j ∧ (j < i ∨ i + 5 < j))) → g' j = g j)) [.ref (B + 6), .ref (B + 1), .ref (B + 5), .int op, .int se, .ref (B + i)].toArray s 0 0 (fun q => B ≤ q)) (F0 m 16 ls []) := by
    intro u
    induction u with
    | zero =>
      intro k rg1 mm1 pt1 ep1 ew1 en1 ct1 ec1 len1 st1 vi1 gL H locs ls hk hlen hG hM1 hR1 hfL hS hl
      obtain ⟨a0, a1, a2⟩ := hM1
      obtain ⟨b0, b1, b2, b3, b4, b5⟩ := hR1
      obtain rfl : 40 = k := by omega
      refine lv_iload C.x C.b dX1_go_16 (lv_at hl 4 rfl) ?_
      refine lv_bipush (v := 40) C.x C.b dX1_go_18 (by decide) ?_
      refine lv_icmp_ge (tgt := 83) C.x C.b dX1_go_20 (by decide) (fun c_24 => ?_) (fun c_24 => absurd (by decide) c_24)
      refine lv_aload C.x C.b dX1_go_83 (lv_at hl 3 rfl) ?_
      refine lv_aload_n C.x C.b dX1_go_85 rfl (lv_at hl 1 rfl) ?_
      refine lv_aload_n C.x C.b dX1_go_86 rfl (lv_at hl 0 rfl) ?_
      refine r_get ck1 flX1_18 C hS (by omega) a0 (by decide) rfl dX1_go_87 ?_
      have e_25 : g_1 1 = .inr (3, [.ref (B + (1 + 1)), .ref (B + (1 + 2)), .ref (B + (1 + 3)), .int (nI n)]) := (hf_7 _ (by omega)).trans p0
      have e_26 : g_14 1 = .inr (3, [.ref (B + (1 + 1)), .ref (B + (1 + 2)), .ref (B + (1 + 3)), .int (nI n)]) := (hf_23 _ (by omega)).trans e_25
      have e_27 : gL 1 = .inr (3, [.ref (B + (1 + 1)), .ref (B + (1 + 2)), .ref (B + (1 + 3)), .int (nI n)]) := (hfL _ (by omega)).trans e_26
      have e_28 : g_1 (1 + 1) = .inl (t.1, 8, .inl o) := (hf_7 _ (by omega)).trans p1
      have e_29 : g_14 (1 + 1) = .inl (t.1, 8, .inl o) := (hf_23 _ (by omega)).trans e_28
      have e_30 : gL (1 + 1) = .inl (t.1, 8, .inl o) := (hfL _ (by omega)).trans e_29
      have e_31 : g_1 (1 + 2) = .inl (t.1, 8, .inl pr) := (hf_7 _ (by omega)).trans p2
      have e_32 : g_14 (1 + 2) = .inl (t.1, 8, .inl pr) := (hf_23 _ (by omega)).trans e_31
      have e_33 : gL (1 + 2) = .inl (t.1, 8, .inl pr) := (hfL _ (by omega)).trans e_32
      have e_34 : g_1 (1 + 3) = .inl (t.1, 8, .inl w) := (hf_7 _ (by omega)).trans p3
      have e_35 : g_14 (1 + 3) = .inl (t.1, 8, .inl w) := (hf_23 _ (by omega)).trans e_34
      have e_36 : gL (1 + 3) = .inl (t.1, 8, .inl w) := (hfL _ (by omega)).trans e_35
      refine r_callV (b := 1) (As := [.int pt1]) (rest := [.ref (B + i)]) (c_X3_has l D t B N gL 1 _ _ _ _ pt1 (by omega) ⟨e_27, e_30, e_33, e_36⟩) mf_yX3_has mlX1_30 im_yX3_has se_yX3_has (by decide) C hS (by omega) e_27 (show vwCl[3]? = some _ from rfl) rfl rfl hl.1 rfl (Nat.le_of_ble_eq_true rfl) dX1_go_90 ⟨Nat.zero_le _, Nat.zero_le _⟩ (fun r_39 g_37 H locs w_38 hS => ?_)
      obtain ⟨rfl, er_39⟩ := w_38
      by_cases b_40 : inP n pt1
      · rw [bz_t b_40] at er_39
        subst er_39
        refine r_put ck5 flX1_49 C hS (by omega) b0 (by decide) rfl (nar_z (by decide)) (fit_z (by decide)) (Nat.le_of_ble_eq_true rfl) dX1_go_93 (fun g_41 H locs e_42 o_43 hS => ?_)
        replace e_42 : g_41 i = .inr (5, [.ref (B + (i + 1)), .ref (B + (i + 2)), .ref (B + (i + 3)), .ref (B + (i + 4)), .ref (B + (i + 5)), .int (nI len1), .int st1, .int vi1, .int an, .int 1]) := e_42
        refine lv_aload C.x C.b dX1_go_96 (lv_at hl 3 rfl) ?_
        refine r_get ck5 flX1_49 C hS (by omega) e_42 (by decide) rfl dX1_go_98 ?_
        refine lv_if_eq (tgt := 120) C.x C.b dX1_go_101 (by decide) (fun c_44 => absurd c_44 (by decide)) (fun c_44 => ?_)
        refine lv_aload C.x C.b dX1_go_104 (lv_at hl 3 rfl) ?_
        refine lv_dup C.x C.b dX1_go_106 rfl ?_
        refine r_get ck5 flX1_36 C hS (by omega) e_42 (by decide) rfl dX1_go_107 ?_
        refine lv_iconst (v := 1) C.x C.b dX1_go_110 (by decide) ?_
        refine lv_aload_n C.x C.b dX1_go_111 rfl (lv_at hl 0 rfl) ?_
        have e_45 : g_41 6 = .inr (1, [.ref (B + (6 + 1)), .ref (B + (6 + 2)), .int pt1]) := (o_43 _ (by omega)).trans a0
        refine r_get ck1 flX1_18 C hS (by omega) e_45 (by decide) rfl dX1_go_112 ?_
        refine lv_ishl C.x C.b dX1_go_115 ?_
        refine lv_ior C.x C.b dX1_go_116 ?_
        refine r_put ck5 flX1_36 C hS (by omega) e_42 (by decide) rfl rfl rfl (Nat.le_of_ble_eq_true rfl) dX1_go_117 (fun g_46 H locs e_47 o_48 hS => ?_)
        replace e_47 : g_46 i = .inr (5, [.ref (B + (i + 1)), .ref (B + (i + 2)), .ref (B + (i + 3)), .ref (B + (i + 4)), .ref (B + (i + 5)), .int (nI len1), .int st1, .int (vi1 ||| (1 <<< (pt1 &&& 31))), .int an, .int 1]) := e_47
        refine lv_aload C.x C.b dX1_go_120 (lv_at hl 3 rfl) ?_
        refine lv_aload_n C.x C.b dX1_go_122 rfl (lv_at hl 0 rfl) ?_
        have e_49 : g_46 6 = .inr (1, [.ref (B + (6 + 1)), .ref (B + (6 + 2)), .int pt1]) := (o_48 _ (by omega)).trans e_45
        refine r_get ck1 flX1_9 C hS (by omega) e_49 (by decide) rfl dX1_go_123 ?_
        refine lv_iconst (v := 0) C.x C.b dX1_go_126 (by decide) ?_
        have e_50 : g_41 (6 + 1) = .inl (t.1, 4, .inl rg1) := (o_43 _ (by omega)).trans a1
        have e_51 : g_46 (6 + 1) = .inl (t.1, 4, .inl rg1) := (o_48 _ (by omega)).trans e_50
        refine r_ialdN 0 rfl (by omega) (by decide) C hS (by omega) e_51 dX1_go_127 ?_
        refine r_put ck5 flX1_53 C hS (by omega) e_47 (by decide) rfl rfl rfl (Nat.le_of_ble_eq_true rfl) dX1_go_128 (fun g_52 H locs e_53 o_54 hS => ?_)
        replace e_53 : g_52 i = .inr (5, [.ref (B + (i + 1)), .ref (B + (i + 2)), .ref (B + (i + 3)), .ref (B + (i + 4)), .ref (B + (i + 5)), .int (nI len1), .int st1, .int (vi1 ||| (1 <<< (pt1 &&& 31))), .int (rg1 0), .int 1]) := e_53
        have hg_55 := hG
        replace hg_55 : (gor o n ey wi 40 (rg0 rg op se, cpF w mm 8, 0, ep, ew, en, zf ct 8, zf ec 8, 0, 0, 0)) = (rg1, mm1, pt1, ep1, ew1, en1, ct1, ec1, len1, st1, vi1) := hg_55.symm
        have e_56 : g_52 6 = .inr (1, [.ref (B + (6 + 1)), .ref (B + (6 + 2)), .int pt1]) := (o_54 _ (by omega)).trans e_49
        have e_57 : g_52 (6 + 1) = .inl (t.1, 4, .inl rg1) := (o_54 _ (by omega)).trans e_51
        have e_58 : g_41 (6 + 2) = .inl (t.1, 8, .inl mm1) := (o_43 _ (by omega)).trans a2
        have e_59 : g_46 (6 + 2) = .inl (t.1, 8, .inl mm1) := (o_48 _ (by omega)).trans e_58
        have e_60 : g_52 (6 + 2) = .inl (t.1, 8, .inl mm1) := (o_54 _ (by omega)).trans e_59
        have e_61 : g_41 (i + 1) = .inl (t.1, 40, .inl ep1) := (o_43 _ (by omega)).trans b1
        have e_62 : g_46 (i + 1) = .inl (t.1, 40, .inl ep1) := (o_48 _ (by omega)).trans e_61
        have e_63 : g_52 (i + 1) = .inl (t.1, 40, .inl ep1) := (o_54 _ (by omega)).trans e_62
        have e_64 : g_41 (i + 2) = .inl (t.1, 40, .inl ew1) := (o_43 _ (by omega)).trans b2
        have e_65 : g_46 (i + 2) = .inl (t.1, 40, .inl ew1) := (o_48 _ (by omega)).trans e_64
        have e_66 : g_52 (i + 2) = .inl (t.1, 40, .inl ew1) := (o_54 _ (by omega)).trans e_65
        have e_67 : g_41 (i + 3) = .inl (t.1, 40, .inl en1) := (o_43 _ (by omega)).trans b3
        have e_68 : g_46 (i + 3) = .inl (t.1, 40, .inl en1) := (o_48 _ (by omega)).trans e_67
        have e_69 : g_52 (i + 3) = .inl (t.1, 40, .inl en1) := (o_54 _ (by omega)).trans e_68
        have e_70 : g_41 (i + 4) = .inl (t.1, 8, .inl ct1) := (o_43 _ (by omega)).trans b4
        have e_71 : g_46 (i + 4) = .inl (t.1, 8, .inl ct1) := (o_48 _ (by omega)).trans e_70
        have e_72 : g_52 (i + 4) = .inl (t.1, 8, .inl ct1) := (o_54 _ (by omega)).trans e_71
        have e_73 : g_41 (i + 5) = .inl (t.1, 8, .inl ec1) := (o_43 _ (by omega)).trans b5
        have e_74 : g_46 (i + 5) = .inl (t.1, 8, .inl ec1) := (o_48 _ (by omega)).trans e_73
        have e_75 : g_52 (i + 5) = .inl (t.1, 8, .inl ec1) := (o_54 _ (by omega)).trans e_74
        exact r_vret C hr hlocks hS ⟨by rw [hg_55]; exact ⟨⟨e_56, e_57, e_60⟩, by show isRun t B _ i ep1 ew1 en1 ct1 ec1 len1 st1 (viF n pt1 vi1) (rg1 0) (bz (inP n pt1)); rw [bz_t b_40, viF_t b_40]; exact ⟨e_53, e_63, e_66, e_69, e_72, e_75⟩⟩, fun j hj => (o_54 j (by omega)).trans ((o_48 j (by omega)).trans ((o_43 j (by omega)).trans ((hfL j (by omega)).trans ((hf_23 j (by omega)).trans (hf_7 j (by omega))))))⟩ dX1_go_131
      · rw [bz_f b_40] at er_39
        subst er_39
        refine r_put ck5 flX1_49 C hS (by omega) b0 (by decide) rfl (nar_z (by decide)) (fit_z (by decide)) (Nat.le_of_ble_eq_true rfl) dX1_go_93 (fun g_76 H locs e_77 o_78 hS => ?_)
        replace e_77 : g_76 i = .inr (5, [.ref (B + (i + 1)), .ref (B + (i + 2)), .ref (B + (i + 3)), .ref (B + (i + 4)), .ref (B + (i + 5)), .int (nI len1), .int st1, .int vi1, .int an, .int 0]) := e_77
        refine lv_aload C.x C.b dX1_go_96 (lv_at hl 3 rfl) ?_
        refine r_get ck5 flX1_49 C hS (by omega) e_77 (by decide) rfl dX1_go_98 ?_
        refine lv_if_eq (tgt := 120) C.x C.b dX1_go_101 (by decide) (fun c_79 => ?_) (fun c_79 => absurd (by decide) c_79)
        refine lv_aload C.x C.b dX1_go_120 (lv_at hl 3 rfl) ?_
        refine lv_aload_n C.x C.b dX1_go_122 rfl (lv_at hl 0 rfl) ?_
        have e_80 : g_76 6 = .inr (1, [.ref (B + (6 + 1)), .ref (B + (6 + 2)), .int pt1]) := (o_78 _ (by omega)).trans a0
        refine r_get ck1 flX1_9 C hS (by omega) e_80 (by decide) rfl dX1_go_123 ?_
        refine lv_iconst (v := 0) C.x C.b dX1_go_126 (by decide) ?_
        have e_81 : g_76 (6 + 1) = .inl (t.1, 4, .inl rg1) := (o_78 _ (by omega)).trans a1
        refine r_ialdN 0 rfl (by omega) (by decide) C hS (by omega) e_81 dX1_go_127 ?_
        refine r_put ck5 flX1_53 C hS (by omega) e_77 (by decide) rfl rfl rfl (Nat.le_of_ble_eq_true rfl) dX1_go_128 (fun g_82 H locs e_83 o_84 hS => ?_)
        replace e_83 : g_82 i = .inr (5, [.ref (B + (i + 1)), .ref (B + (i + 2)), .ref (B + (i + 3)), .ref (B + (i + 4)), .ref (B + (i + 5)), .int (nI len1), .int st1, .int vi1, .int (rg1 0), .int 0]) := e_83
        have hg_85 := hG
        replace hg_85 : (gor o n ey wi 40 (rg0 rg op se, cpF w mm 8, 0, ep, ew, en, zf ct 8, zf ec 8, 0, 0, 0)) = (rg1, mm1, pt1, ep1, ew1, en1, ct1, ec1, len1, st1, vi1) := hg_85.symm
        have e_86 : g_82 6 = .inr (1, [.ref (B + (6 + 1)), .ref (B + (6 + 2)), .int pt1]) := (o_84 _ (by omega)).trans e_80
        have e_87 : g_82 (6 + 1) = .inl (t.1, 4, .inl rg1) := (o_84 _ (by omega)).trans e_81
        have e_88 : g_76 (6 + 2) = .inl (t.1, 8, .inl mm1) := (o_78 _ (by omega)).trans a2
        have e_89 : g_82 (6 + 2) = .inl (t.1, 8, .inl mm1) := (o_84 _ (by omega)).trans e_88
        have e_90 : g_76 (i + 1) = .inl (t.1, 40, .inl ep1) := (o_78 _ (by omega)).trans b1
        have e_91 : g_82 (i + 1) = .inl (t.1, 40, .inl ep1) := (o_84 _ (by omega)).trans e_90
        have e_92 : g_76 (i + 2) = .inl (t.1, 40, .inl ew1) := (o_78 _ (by omega)).trans b2
        have e_93 : g_82 (i + 2) = .inl (t.1, 40, .inl ew1) := (o_84 _ (by omega)).trans e_92
        have e_94 : g_76 (i + 3) = .inl (t.1, 40, .inl en1) := (o_78 _ (by omega)).trans b3
        have e_95 : g_82 (i + 3) = .inl (t.1, 40, .inl en1) := (o_84 _ (by omega)).trans e_94
        have e_96 : g_76 (i + 4) = .inl (t.1, 8, .inl ct1) := (o_78 _ (by omega)).trans b4
        have e_97 : g_82 (i + 4) = .inl (t.1, 8, .inl ct1) := (o_84 _ (by omega)).trans e_96
        have e_98 : g_76 (i + 5) = .inl (t.1, 8, .inl ec1) := (o_78 _ (by omega)).trans b5
        have e_99 : g_82 (i + 5) = .inl (t.1, 8, .inl ec1) := (o_84 _ (by omega)).trans e_98
        exact r_vret C hr hlocks hS ⟨by rw [hg_85]; exact ⟨⟨e_86, e_87, e_89⟩, by show isRun t B _ i ep1 ew1 en1 ct1 ec1 len1 st1 (viF n pt1 vi1) (rg1 0) (bz (inP n pt1)); rw [bz_f b_40, viF_f b_40]; exact ⟨e_83, e_91, e_93, e_95, e_97, e_99⟩⟩, fun j hj => (o_84 j (by omega)).trans ((o_78 j (by omega)).trans ((hfL j (by omega)).trans ((hf_23 j (by omega)).trans (hf_7 j (by omega)))))⟩ dX1_go_131
    | succ u ih =>
      intro k rg1 mm1 pt1 ep1 ew1 en1 ct1 ec1 len1 st1 vi1 gL H locs ls hk hlen hG hM1 hR1 hfL hS hl
      obtain ⟨a0, a1, a2⟩ := hM1
      obtain ⟨b0, b1, b2, b3, b4, b5⟩ := hR1
      refine lv_iload C.x C.b dX1_go_16 (lv_at hl 4 rfl) ?_
      refine lv_bipush (v := 40) C.x C.b dX1_go_18 (by decide) ?_
      refine lv_icmp_ge (tgt := 83) C.x C.b dX1_go_20 (by decide) (fun c_100 => absurd c_100 (nI_ge (a := k) (b := 40) (by omega) (by decide))) (fun c_100 => ?_)
      refine lv_aload_n C.x C.b dX1_go_23 rfl (lv_at hl 1 rfl) ?_
      refine lv_aload_n C.x C.b dX1_go_24 rfl (lv_at hl 0 rfl) ?_
      refine r_get ck1 flX1_18 C hS (by omega) a0 (by decide) rfl dX1_go_25 ?_
      have e_101 : g_1 1 = .inr (3, [.ref (B + (1 + 1)), .ref (B + (1 + 2)), .ref (B + (1 + 3)), .int (nI n)]) := (hf_7 _ (by omega)).trans p0
      have e_102 : g_14 1 = .inr (3, [.ref (B + (1 + 1)), .ref (B + (1 + 2)), .ref (B + (1 + 3)), .int (nI n)]) := (hf_23 _ (by omega)).trans e_101
      have e_103 : gL 1 = .inr (3, [.ref (B + (1 + 1)), .ref (B + (1 + 2)), .ref (B + (1 + 3)), .int (nI n)]) := (hfL _ (by omega)).trans e_102
      have e_104 : g_1 (1 + 1) = .inl (t.1, 8, .inl o) := (hf_7 _ (by omega)).trans p1
      have e_105 : g_14 (1 + 1) = .inl (t.1, 8, .inl o) := (hf_23 _ (by omega)).trans e_104
      have e_106 : gL (1 + 1) = .inl (t.1, 8, .inl o) := (hfL _ (by omega)).trans e_105
      have e_107 : g_1 (1 + 2) = .inl (t.1, 8, .inl pr) := (hf_7 _ (by omega)).trans p2
      have e_108 : g_14 (1 + 2) = .inl (t.1, 8, .inl pr) := (hf_23 _ (by omega)).trans e_107
      have e_109 : gL (1 + 2) = .inl (t.1, 8, .inl pr) := (hfL _ (by omega)).trans e_108
      have e_110 : g_1 (1 + 3) = .inl (t.1, 8, .inl w) := (hf_7 _ (by omega)).trans p3
      have e_111 : g_14 (1 + 3) = .inl (t.1, 8, .inl w) := (hf_23 _ (by omega)).trans e_110
      have e_112 : gL (1 + 3) = .inl (t.1, 8, .inl w) := (hfL _ (by omega)).trans e_111
      refine r_callV (b := 1) (As := [.int pt1]) (rest := []) (c_X3_has l D t B N gL 1 _ _ _ _ pt1 (by omega) ⟨e_103, e_106, e_109, e_112⟩) mf_yX3_has mlX1_30 im_yX3_has se_yX3_has (by decide) C hS (by omega) e_103 (show vwCl[3]? = some _ from rfl) rfl rfl hl.1 rfl (Nat.le_of_ble_eq_true rfl) dX1_go_28 ⟨Nat.zero_le _, Nat.zero_le _⟩ (fun r_115 g_113 H locs w_114 hS => ?_)
      obtain ⟨rfl, er_115⟩ := w_114
      by_cases b_116 : inP n pt1
      · rw [bz_t b_116] at er_115
        subst er_115
        obtain ⟨q, hq, rfl⟩ := inP_nI b_116 (by omega)
        refine lv_if_eq (tgt := 83) C.x C.b dX1_go_31 (by decide) (fun c_117 => absurd c_117 (by decide)) (fun c_117 => ?_)
        refine lv_aload C.x C.b dX1_go_34 (lv_at hl 3 rfl) ?_
        refine lv_dup C.x C.b dX1_go_36 rfl ?_
        refine r_get ck5 flX1_36 C hS (by omega) b0 (by decide) rfl dX1_go_37 ?_
        refine lv_iconst (v := 1) C.x C.b dX1_go_40 (by decide) ?_
        refine lv_aload_n C.x C.b dX1_go_41 rfl (lv_at hl 0 rfl) ?_
        refine r_get ck1 flX1_18 C hS (by omega) a0 (by decide) rfl dX1_go_42 ?_
        refine lv_ishl C.x C.b dX1_go_45 ?_
        refine lv_ior C.x C.b dX1_go_46 ?_
        refine r_put ck5 flX1_36 C hS (by omega) b0 (by decide) rfl rfl rfl (Nat.le_of_ble_eq_true rfl) dX1_go_47 (fun g_118 H locs e_119 o_120 hS => ?_)
        replace e_119 : g_118 i = .inr (5, [.ref (B + (i + 1)), .ref (B + (i + 2)), .ref (B + (i + 3)), .ref (B + (i + 4)), .ref (B + (i + 5)), .int (nI len1), .int st1, .int (vi1 ||| (1 <<< ((nI q) &&& 31))), .int an, .int sp]) := e_119
        refine lv_aload C.x C.b dX1_go_50 (lv_at hl 3 rfl) ?_
        refine lv_dup C.x C.b dX1_go_52 rfl ?_
        refine r_get ck5 flX1_39 C hS (by omega) e_119 (by decide) rfl dX1_go_53 ?_
        refine lv_iconst (v := 1) C.x C.b dX1_go_56 (by decide) ?_
        refine lv_iadd C.x C.b dX1_go_57 ?_
        refine r_put ck5 flX1_39 C hS (by omega) e_119 (by decide) rfl rfl rfl (Nat.le_of_ble_eq_true rfl) dX1_go_58 (fun g_121 H locs e_122 o_123 hS => ?_)
        replace e_122 : g_121 i = .inr (5, [.ref (B + (i + 1)), .ref (B + (i + 2)), .ref (B + (i + 3)), .ref (B + (i + 4)), .ref (B + (i + 5)), .int (nI len1), .int (st1 + 1), .int (vi1 ||| (1 <<< ((nI q) &&& 31))), .int an, .int sp]) := e_122
        refine lv_aload_n C.x C.b dX1_go_61 rfl (lv_at hl 0 rfl) ?_
        refine lv_aload_n C.x C.b dX1_go_62 rfl (lv_at hl 1 rfl) ?_
        have e_124 : g_118 1 = .inr (3, [.ref (B + (1 + 1)), .ref (B + (1 + 2)), .ref (B + (1 + 3)), .int (nI n)]) := (o_120 _ (by omega)).trans e_103
        have e_125 : g_121 1 = .inr (3, [.ref (B + (1 + 1)), .ref (B + (1 + 2)), .ref (B + (1 + 3)), .int (nI n)]) := (o_123 _ (by omega)).trans e_124
        refine r_get ck3 flX1_42 C hS (by omega) e_125 (by decide) rfl dX1_go_63 ?_
        refine lv_aload_n C.x C.b dX1_go_66 rfl (lv_at hl 0 rfl) ?_
        have e_126 : g_118 6 = .inr (1, [.ref (B + (6 + 1)), .ref (B + (6 + 2)), .int (nI q)]) := (o_120 _ (by omega)).trans a0
        have e_127 : g_121 6 = .inr (1, [.ref (B + (6 + 1)), .ref (B + (6 + 2)), .int (nI q)]) := (o_123 _ (by omega)).trans e_126
        refine r_get ck1 flX1_18 C hS (by omega) e_127 (by decide) rfl dX1_go_67 ?_
        have e_128 : g_118 (1 + 1) = .inl (t.1, 8, .inl o) := (o_120 _ (by omega)).trans e_106
        have e_129 : g_121 (1 + 1) = .inl (t.1, 8, .inl o) := (o_123 _ (by omega)).trans e_128
        refine r_ialdN q rfl (by omega) (by decide) C hS (by omega) e_129 dX1_go_70 ?_
        refine lv_aload_n C.x C.b dX1_go_71 rfl (lv_at hl 2 rfl) ?_
        refine lv_aload C.x C.b dX1_go_72 (lv_at hl 3 rfl) ?_
        have e_130 : g_118 (6 + 1) = .inl (t.1, 4, .inl rg1) := (o_120 _ (by omega)).trans a1
        have e_131 : g_121 (6 + 1) = .inl (t.1, 4, .inl rg1) := (o_123 _ (by omega)).trans e_130
        have e_132 : g_118 (6 + 2) = .inl (t.1, 8, .inl mm1) := (o_120 _ (by omega)).trans a2
        have e_133 : g_121 (6 + 2) = .inl (t.1, 8, .inl mm1) := (o_123 _ (by omega)).trans e_132
        have e_134 : g_1 5 = .inr (6, [.int ey, .int wi, .int ev]) := (hf_7 _ (by omega)).trans hW
        have e_135 : g_14 5 = .inr (6, [.int ey, .int wi, .int ev]) := (hf_23 _ (by omega)).trans e_134
        have e_136 : gL 5 = .inr (6, [.int ey, .int wi, .int ev]) := (hfL _ (by omega)).trans e_135
        have e_137 : g_118 5 = .inr (6, [.int ey, .int wi, .int ev]) := (o_120 _ (by omega)).trans e_136
        have e_138 : g_121 5 = .inr (6, [.int ey, .int wi, .int ev]) := (o_123 _ (by omega)).trans e_137
        have e_139 : g_118 (i + 1) = .inl (t.1, 40, .inl ep1) := (o_120 _ (by omega)).trans b1
        have e_140 : g_121 (i + 1) = .inl (t.1, 40, .inl ep1) := (o_123 _ (by omega)).trans e_139
        have e_141 : g_118 (i + 2) = .inl (t.1, 40, .inl ew1) := (o_120 _ (by omega)).trans b2
        have e_142 : g_121 (i + 2) = .inl (t.1, 40, .inl ew1) := (o_123 _ (by omega)).trans e_141
        have e_143 : g_118 (i + 3) = .inl (t.1, 40, .inl en1) := (o_120 _ (by omega)).trans b3
        have e_144 : g_121 (i + 3) = .inl (t.1, 40, .inl en1) := (o_123 _ (by omega)).trans e_143
        have e_145 : g_118 (i + 4) = .inl (t.1, 8, .inl ct1) := (o_120 _ (by omega)).trans b4
        have e_146 : g_121 (i + 4) = .inl (t.1, 8, .inl ct1) := (o_123 _ (by omega)).trans e_145
        have e_147 : g_118 (i + 5) = .inl (t.1, 8, .inl ec1) := (o_120 _ (by omega)).trans b5
        have e_148 : g_121 (i + 5) = .inl (t.1, 8, .inl ec1) := (o_123 _ (by omega)).trans e_147
        refine r_callVv (b := 6) (As := [.int (o q), .ref (B + 5), .ref (B + i)]) (rest := []) (c_X1_doOrder l D t B N g_121 _ _ q _ _ _ i _ _ _ _ _ _ _ _ _ _ (o q) (by omega) ⟨e_127, e_131, e_133⟩ e_138 (by omega) (by omega) ⟨e_122, e_140, e_142, e_144, e_146, e_148⟩ (by omega) (by omega)) mf_yX1_doOrder mlX1_45 im_yX1_doOrder se_yX1_doOrder (by decide) C hS (by omega) e_127 (show vwCl[1]? = some _ from rfl) rfl rfl hl.1 rfl (Nat.le_of_ble_eq_true rfl) dX1_go_74 ⟨Nat.zero_le _, Nat.zero_le _⟩ (fun g_149 H locs w_150 hS => ?_)
        obtain ⟨⟨e_152, e_153, e_154⟩, ⟨e_155, e_156, e_157, e_158, e_159, e_160⟩, hf_161⟩ := w_150
        refine lv_iinc (v := nI (k + 1)) (lv' := [(6, .int (nI (k + 1))), (0, .ref (B + 6)), (1, .ref (B + 1)), (2, .ref (B + 5)), (5, .ref (B + i))]) C.x C.b dX1_go_77 hl (k := 4) rfl (nI_1 k) (by decide) rfl (fun ls hl => ?_)
        refine lv_goto (tgt := 16) C.x C.b dX1_go_80 (by decide) ?_
        exact ih (k + 1) _ _ _ _ _ _ _ _ _ _ _ g_149 _ _ _ (by omega) (tln_le _ hlen) ((gor_step hq).symm.trans hG) ⟨e_152, e_153, e_154⟩ ⟨e_155, e_156, e_157, e_158, e_159, e_160⟩ (fun j hj => (hf_161 j (by omega)).trans ((o_123 j (by omega)).trans ((o_120 j (by omega)).trans (hfL j hj)))) hS (lv_sub hl [1, 2, 3, 4, 0] rfl)
      · rw [bz_f b_116] at er_115
        subst er_115
        refine lv_if_eq (tgt := 83) C.x C.b dX1_go_31 (by decide) (fun c_162 => ?_) (fun c_162 => absurd (by decide) c_162)
        refine lv_aload C.x C.b dX1_go_83 (lv_at hl 3 rfl) ?_
        refine lv_aload_n C.x C.b dX1_go_85 rfl (lv_at hl 1 rfl) ?_
        refine lv_aload_n C.x C.b dX1_go_86 rfl (lv_at hl 0 rfl) ?_
        refine r_get ck1 flX1_18 C hS (by omega) a0 (by decide) rfl dX1_go_87 ?_
        refine r_callV (b := 1) (As := [.int pt1]) (rest := [.ref (B + i)]) (c_X3_has l D t B N gL 1 _ _ _ _ pt1 (by omega) ⟨e_103, e_106, e_109, e_112⟩) mf_yX3_has mlX1_30 im_yX3_has se_yX3_has (by decide) C hS (by omega) e_103 (show vwCl[3]? = some _ from rfl) rfl rfl hl.1 rfl (Nat.le_of_ble_eq_true rfl) dX1_go_90 ⟨Nat.zero_le _, Nat.zero_le _⟩ (fun r_165 g_163 H locs w_164 hS => ?_)
        obtain ⟨rfl, er_165⟩ := w_164
        rw [bz_f b_116] at er_165
        subst er_165
        refine r_put ck5 flX1_49 C hS (by omega) b0 (by decide) rfl (nar_z (by decide)) (fit_z (by decide)) (Nat.le_of_ble_eq_true rfl) dX1_go_93 (fun g_166 H locs e_167 o_168 hS => ?_)
        replace e_167 : g_166 i = .inr (5, [.ref (B + (i + 1)), .ref (B + (i + 2)), .ref (B + (i + 3)), .ref (B + (i + 4)), .ref (B + (i + 5)), .int (nI len1), .int st1, .int vi1, .int an, .int 0]) := e_167
        refine lv_aload C.x C.b dX1_go_96 (lv_at hl 3 rfl) ?_
        refine r_get ck5 flX1_49 C hS (by omega) e_167 (by decide) rfl dX1_go_98 ?_
        refine lv_if_eq (tgt := 120) C.x C.b dX1_go_101 (by decide) (fun c_169 => ?_) (fun c_169 => absurd (by decide) c_169)
        refine lv_aload C.x C.b dX1_go_120 (lv_at hl 3 rfl) ?_
        refine lv_aload_n C.x C.b dX1_go_122 rfl (lv_at hl 0 rfl) ?_
        have e_170 : g_166 6 = .inr (1, [.ref (B + (6 + 1)), .ref (B + (6 + 2)), .int pt1]) := (o_168 _ (by omega)).trans a0
        refine r_get ck1 flX1_9 C hS (by omega) e_170 (by decide) rfl dX1_go_123 ?_
        refine lv_iconst (v := 0) C.x C.b dX1_go_126 (by decide) ?_
        have e_171 : g_166 (6 + 1) = .inl (t.1, 4, .inl rg1) := (o_168 _ (by omega)).trans a1
        refine r_ialdN 0 rfl (by omega) (by decide) C hS (by omega) e_171 dX1_go_127 ?_
        refine r_put ck5 flX1_53 C hS (by omega) e_167 (by decide) rfl rfl rfl (Nat.le_of_ble_eq_true rfl) dX1_go_128 (fun g_172 H locs e_173 o_174 hS => ?_)
        replace e_173 : g_172 i = .inr (5, [.ref (B + (i + 1)), .ref (B + (i + 2)), .ref (B + (i + 3)), .ref (B + (i + 4)), .ref (B + (i + 5)), .int (nI len1), .int st1, .int vi1, .int (rg1 0), .int 0]) := e_173
        have hg_175 := (gor_stop b_116).symm.trans hG
        replace hg_175 : (gor o n ey wi 40 (rg0 rg op se, cpF w mm 8, 0, ep, ew, en, zf ct 8, zf ec 8, 0, 0, 0)) = (rg1, mm1, pt1, ep1, ew1, en1, ct1, ec1, len1, st1, vi1) := hg_175.symm
        have e_176 : g_172 6 = .inr (1, [.ref (B + (6 + 1)), .ref (B + (6 + 2)), .int pt1]) := (o_174 _ (by omega)).trans e_170
        have e_177 : g_172 (6 + 1) = .inl (t.1, 4, .inl rg1) := (o_174 _ (by omega)).trans e_171
        have e_178 : g_166 (6 + 2) = .inl (t.1, 8, .inl mm1) := (o_168 _ (by omega)).trans a2
        have e_179 : g_172 (6 + 2) = .inl (t.1, 8, .inl mm1) := (o_174 _ (by omega)).trans e_178
        have e_180 : g_166 (i + 1) = .inl (t.1, 40, .inl ep1) := (o_168 _ (by omega)).trans b1
        have e_181 : g_172 (i + 1) = .inl (t.1, 40, .inl ep1) := (o_174 _ (by omega)).trans e_180
        have e_182 : g_166 (i + 2) = .inl (t.1, 40, .inl ew1) := (o_168 _ (by omega)).trans b2
        have e_183 : g_172 (i + 2) = .inl (t.1, 40, .inl ew1) := (o_174 _ (by omega)).trans e_182
        have e_184 : g_166 (i + 3) = .inl (t.1, 40, .inl en1) := (o_168 _ (by omega)).trans b3
        have e_185 : g_172 (i + 3) = .inl (t.1, 40, .inl en1) := (o_174 _ (by omega)).trans e_184
        have e_186 : g_166 (i + 4) = .inl (t.1, 8, .inl ct1) := (o_168 _ (by omega)).trans b4
        have e_187 : g_172 (i + 4) = .inl (t.1, 8, .inl ct1) := (o_174 _ (by omega)).trans e_186
        have e_188 : g_166 (i + 5) = .inl (t.1, 8, .inl ec1) := (o_168 _ (by omega)).trans b5
        have e_189 : g_172 (i + 5) = .inl (t.1, 8, .inl ec1) := (o_174 _ (by omega)).trans e_188
        exact r_vret C hr hlocks hS ⟨by rw [hg_175]; exact ⟨⟨e_176, e_177, e_179⟩, by show isRun t B _ i ep1 ew1 en1 ct1 ec1 len1 st1 (viF n pt1 vi1) (rg1 0) (bz (inP n pt1)); rw [bz_f b_116, viF_f b_116]; exact ⟨e_173, e_181, e_183, e_185, e_187, e_189⟩⟩, fun j hj => (o_174 j (by omega)).trans ((o_168 j (by omega)).trans ((hfL j (by omega)).trans ((hf_23 j (by omega)).trans (hf_7 j (by omega)))))⟩ dX1_go_131
  have e_190 : g_14 6 = .inr (1, [.ref (B + (6 + 1)), .ref (B + (6 + 2)), .int 0]) := (hf_23 _ (by omega)).trans e_4
  have e_191 : g_14 (6 + 1) = .inl (t.1, 4, .inl (rg0 rg op se)) := (hf_23 _ (by omega)).trans e_5
  have e_192 : g_14 (6 + 2) = .inl (t.1, 8, .inl (cpF w mm 8)) := (hf_23 _ (by omega)).trans e_6
  exact lp 40 0 _ _ _ _ _ _ _ _ _ _ _ g_14 _ _ _ (by omega) (by omega) rfl ⟨e_190, e_191, e_192⟩ ⟨e_17, e_18, e_19, e_20, e_21, e_22⟩ (fun _ _ => rfl) hS (lv_sub hl [1, 2, 3, 6, 0] rfl)
