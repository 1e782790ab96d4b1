def raddM (A : Nat) (S : RW) (x y z : Int32) : RW := (upd S.1 (42 * A + S.2.2.2) x, upd S.2.1 (42 * A + S.2.2.2) y, upd S.2.2.1 (42 * A + S.2.2.2) z, S.2.2.2 + 1)
/-- what the eyes y see of the first q steps of run R, x even -/
def rowM (o pl nu : Nat → Int32) (wi x y : Int32) (A R : Nat) (S : RW) : Nat → RW
  | 0 => S
  | q + 1 => if ((x >>> (pl (40 * R + q) &&& 31)) &&& 1) = 1 then rowM o pl nu wi x y A R S q else if (kA o pl (40 * R + q) = 5 ∨ kA o pl (40 * R + q) = 6) ∧ ¬ (y &&& 2) = 0 then raddM A (rowM o pl nu wi x y A R S q) 2 (nu (40 * R + q) / wi) (pl (40 * R + q)) else if kA o pl (40 * R + q) = 7 ∧ ¬ (y &&& 4) = 0 then raddM A (rowM o pl nu wi x y A R S q) 4 (nu (40 * R + q)) (pl (40 * R + q)) else rowM o pl nu wi x y A R S q
theorem rowM_le (o pl nu : Nat → Int32) (wi x y : Int32) (A R : Nat) (sw sn sq : Nat → Int32) : ∀ q, (rowM o pl nu wi x y A R (sw, sn, sq, 0) q).2.2.2 ≤ q
  | 0 => Nat.le_refl 0
  | q + 1 => by
    have h := rowM_le o pl nu wi x y A R sw sn sq q
    rw [rowM]
    split
    · omega
    · split
      · show (rowM o pl nu wi x y A R (sw, sn, sq, 0) q).2.2.2 + 1 ≤ q + 1
        omega
      · split
        · show (rowM o pl nu wi x y A R (sw, sn, sq, 0) q).2.2.2 + 1 ≤ q + 1
          omega
        · omega
def rowCM (o pl co : Nat → Int32) (x y : Int32) (A R s1 : Nat) (sp : Int32) (S : RW) : RW := if (y &&& 1) = 0 then S else raddM A S 1 (2 * cosE o pl co x R s1 + if sp = 0 then 0 else 1) (-1)
def rowAM (y : Int32) (A : Nat) (an : Int32) (S : RW) : RW := if (y &&& 8) = 0 then S else raddM A S 8 an (-1)
def lookR (o pl nu co : Nat → Int32) (wi x y : Int32) (A R s1 : Nat) (an sp : Int32) (S : RW) : RW := rowAM y A an (rowCM o pl co x y A R s1 sp (rowM o pl nu wi x y A R S s1))
theorem lookR_le (o pl nu co : Nat → Int32) (wi x y : Int32) (A R s1 : Nat) (an sp : Int32) (sw sn sq : Nat → Int32) (h : s1 ≤ 40) : (lookR o pl nu co wi x y A R s1 an sp (sw, sn, sq, 0)).2.2.2 ≤ 42 := by
  have h1 := rowM_le o pl nu wi x y A R sw sn sq s1
  unfold lookR rowAM rowCM raddM
  split <;> split <;> (try dsimp only) <;> omega
set_option maxHeartbeats 1000000 in
set_option maxRecDepth 100000 in
theorem c_X8_look_ (l : Launch) (D : va_G) (t : Gx) (B N : Nat) (g : Nat → va_E) (td : Int32) (n : Nat) (ey wi ev po ps : Int32) (o : Nat → Int32) (st : Nat → Int32) (an : Nat → Int32) (sp : Nat → Int32) (pl : Nat → Int32) (nu : Nat → Int32) (co : Nat → Int32) (sm : Nat → Int32) (sw : Nat → Int32) (sn : Nat → Int32) (sq : Nat → Int32) (A R s1 : Nat) (x y : Int32) (hN : 236 < N) (m220 : g 220 = mObj B td n ey wi ev po ps) (m221 : g 221 = .inl (t.1, 10, .inl o)) (m226 : g 226 = .inl (t.1, 256, .inl st)) (m227 : g 227 = .inl (t.1, 256, .inl an)) (m228 : g 228 = .inl (t.2.1, 256, .inl sp)) (m229 : g 229 = .inl (t.1, 10240, .inl pl)) (m230 : g 230 = .inl (t.1, 10240, .inl nu)) (m231 : g 231 = .inl (t.1, 10240, .inl co)) (m232 : g 232 = .inl (t.1, 2, .inl sm)) (m233 : g 233 = .inl (t.1, 84, .inl sw)) (m234 : g 234 = .inl (t.1, 84, .inl sn)) (m235 : g 235 = .inl (t.1, 84, .inl sq)) (hA : A < 2) (hR : R < 256) (hs : st R = nI s1) (hs1 : s1 ≤ 40) (hPl : okPl pl) (hwi : ¬ wi = 0) : Cv l D t B N N 0 0 yX8_look_ cX8_look_ 7 2 46 g [.ref (B + 220), .int (nI A), .int (nI R), .int x, .int y] (fun g' => (g' 232 = .inl (t.1, 2, .inl (upd sm A (nI (lookR o pl nu co wi x y A R s1 (an R) (sp R) (sw, sn, sq, 0)).2.2.2))) ∧ g' 233 = .inl (t.1, 84, .inl (lookR o pl nu co wi x y A R s1 (an R) (sp R) (sw, sn, sq, 0)).1) ∧ g' 234 = .inl (t.1, 84, .inl (lookR o pl nu co wi x y A R s1 (an R) (sp R) (sw, sn, sq, 0)).2.1) ∧ g' 235 = .inl (t.1, 84, .inl (lookR o pl nu co wi x y A R s1 (an R) (sp R) (sw, sn, sq, 0)).2.2.1)) ∧ ∀ j, (j < 232 ∨ 235 < j) → g' j = g j) := by
  refine Cv.start (by decide) (Nat.le_of_ble_eq_true rfl) ?_
  intro p e s m below meth c ls C hr hlocks hnm hS hl
  replace C : Cx D t p s m [.ref (B + 220), .int (nI A), .int (nI R), .int x, .int y].toArray c cX8_look_ 7 RX8 := C
  replace hl : lv_has ls 7 [(0, .ref (B + 220)), (1, .int (nI A)), (2, .int (nI R)), (3, .int x), (4, .int y)] := hl
  replace m220 : g 220 = .inr (8, [.int td, .int (nI n), .ref (B + 221), .ref (B + 222), .ref (B + 223), .int ey, .int wi, .int ev, .ref (B + 224), .ref (B + 225), .ref (B + 226), .ref (B + 227), .ref (B + 228), .ref (B + 229), .ref (B + 230), .ref (B + 231), .ref (B + 232), .ref (B + 233), .ref (B + 234), .ref (B + 235), .ref (B + 236), .int po, .int ps]) := m220
  refine lv_aload_n C.x C.b dX8_look__0 rfl (lv_at hl 0 rfl) ?_
  refine r_get ck8 flX8_51 C hS (by omega) m220 (by decide) rfl dX8_look__1 ?_
  refine lv_iload_n C.x C.b dX8_look__4 rfl (lv_at hl 1 rfl) ?_
  refine lv_iconst (v := 0) C.x C.b dX8_look__5 (by decide) ?_
  refine r_iastN A rfl (by omega) (by decide) C hS (by omega) m232 dX8_look__6 (fun g_1 H locs e_2 o_3 hS => ?_)
  replace e_2 : g_1 232 = .inl (t.1, 2, .inl (upd sm A 0)) := e_2
  refine lv_bipush (v := 40) C.x C.b dX8_look__7 (by decide) ?_
  refine lv_iload_n C.x C.b dX8_look__9 rfl (lv_at hl 2 rfl) ?_
  refine lv_imul C.x C.b dX8_look__10 ?_
  refine r_top (y := nI (40 * R)) (pk_mul 40 R) ?_
  refine lv_istore (lv' := [(5, .int (nI (40 * R))), (0, .ref (B + 220)), (1, .int (nI A)), (2, .int (nI R)), (3, .int x), (4, .int y)]) C.x C.b dX8_look__11 hl (by decide) rfl (fun ls hl => ?_)
  have lp_4 : ∀ (u_5 k_6 : Nat) (g_10 : Nat → va_E) (H : Heap) (locs : List Loc) (ls : Array Slot), k_6 + u_5 = s1 → (g_10 232 = .inl (t.1, 2, .inl (upd sm A (nI (rowM o pl nu wi x y A R (sw, sn, sq, 0) k_6).2.2.2)))) → (g_10 233 = .inl (t.1, 84, .inl ((rowM o pl nu wi x y A R (sw, sn, sq, 0) k_6).1))) → (g_10 234 = .inl (t.1, 84, .inl ((rowM o pl nu wi x y A R (sw, sn, sq, 0) k_6).2.1))) → (g_10 235 = .inl (t.1, 84, .inl ((rowM o pl nu wi x y A R (sw, sn, sq, 0) k_6).2.2.1))) → (∀ j, (j < 232 ∨ 235 < j) → g_10 j = g_1 j) → St D B s.heap N g_10 H locs → lv_has ls 7 [(0, .ref (B + 220)), (1, .int (nI A)), (2, .int (nI R)), (3, .int x), (4, .int y), (5, .int (nI (40 * R + k_6)))] → W p l e (rmOf 2 46 0 0) s m [.ref (B + 220), .int (nI A), .int (nI R), .int x, .int y].toArray below meth c H locs 0 0 (MQ below (qV D B N (fun g' => (g' 232 = .inl (t.1, 2, .inl (upd sm A (nI (lookR o pl nu co wi x y A R s1 (an R) (sp R) (sw, sn, sq, 0)).2.2.2))) ∧ g' 233 = .inl (t.1, 84, .inl (lookR o pl nu co wi x y A R s1 (an R) (sp R) (sw, sn, sq, 0)).1) ∧ g' 234 = .inl (t.1, 84, .inl (lookR o pl nu co wi x y A R s1 (an R) (sp R) (sw, sn, sq, 0)).2.1) ∧ g' 235 = .inl (t.1, 84, .inl (lookR o pl nu co wi x y A R s1 (an R) (sp R) (sw, sn, sq, 0)).2.2.1)) ∧ ∀ j, (j < 232 ∨ 235 < j) → g' j = g j)) [.ref (B + 220), .int (nI A), .int (nI R), .int x, .int y].toArray s 0 0 (fun q => B ≤ q)) (F0 m 13 ls []) := by
    intro u_5
    induction u_5 with
    | zero =>
      intro k_6 g_10 H locs ls hk_7 e_11 e_12 e_13 e_14 hf_9 hS hl
      obtain rfl : s1 = k_6 := by omega
      refine lv_iload C.x C.b dX8_look__13 (lv_at hl 5 rfl) ?_
      refine lv_bipush (v := 40) C.x C.b dX8_look__15 (by decide) ?_
      refine lv_iload_n C.x C.b dX8_look__17 rfl (lv_at hl 2 rfl) ?_
      refine lv_imul C.x C.b dX8_look__18 ?_
      refine r_top (y := nI (40 * R)) (pk_mul 40 R) ?_
      refine lv_aload_n C.x C.b dX8_look__19 rfl (lv_at hl 0 rfl) ?_
      have e_15 : g_1 220 = .inr (8, [.int td, .int (nI n), .ref (B + 221), .ref (B + 222), .ref (B + 223), .int ey, .int wi, .int ev, .ref (B + 224), .ref (B + 225), .ref (B + 226), .ref (B + 227), .ref (B + 228), .ref (B + 229), .ref (B + 230), .ref (B + 231), .ref (B + 232), .ref (B + 233), .ref (B + 234), .ref (B + 235), .ref (B + 236), .int po, .int ps]) := (o_3 _ (by omega)).trans m220
      have e_16 : g_10 220 = .inr (8, [.int td, .int (nI n), .ref (B + 221), .ref (B + 222), .ref (B + 223), .int ey, .int wi, .int ev, .ref (B + 224), .ref (B + 225), .ref (B + 226), .ref (B + 227), .ref (B + 228), .ref (B + 229), .ref (B + 230), .ref (B + 231), .ref (B + 232), .ref (B + 233), .ref (B + 234), .ref (B + 235), .ref (B + 236), .int po, .int ps]) := (hf_9 _ (by omega)).trans e_15
      refine r_get ck8 flX8_32 C hS (by omega) e_16 (by decide) rfl dX8_look__20 ?_
      refine lv_iload_n C.x C.b dX8_look__23 rfl (lv_at hl 2 rfl) ?_
      have e_17 : g_1 226 = .inl (t.1, 256, .inl st) := (o_3 _ (by omega)).trans m226
      have e_18 : g_10 226 = .inl (t.1, 256, .inl st) := (hf_9 _ (by omega)).trans e_17
      refine r_ialdN R rfl (by omega) (by decide) C hS (by omega) e_18 dX8_look__24 ?_
      refine r_top (y := nI s1) (hs) ?_
      refine lv_iadd C.x C.b dX8_look__25 ?_
      refine r_top (y := nI (40 * R + s1)) (nI_add _ _) ?_
      refine lv_icmp_ge (tgt := 140) C.x C.b dX8_look__26 (by decide) (fun c_19 => ?_) (fun c_19 => absurd (nI_le (Nat.le_refl _) (by omega)) c_19)
      refine lv_iload C.x C.b dX8_look__140 (lv_at hl 4 rfl) ?_
      refine lv_iconst (v := 1) C.x C.b dX8_look__142 (by decide) ?_
      refine lv_iand C.x C.b dX8_look__143 ?_
      refine lv_if_eq (tgt := 177) C.x C.b dX8_look__144 (by decide) (fun c_20 => ?_) (fun c_20 => ?_)
      · skip
        refine lv_iload C.x C.b dX8_look__177 (lv_at hl 4 rfl) ?_
        refine lv_bipush (v := 8) C.x C.b dX8_look__179 (by decide) ?_
        refine lv_iand C.x C.b dX8_look__181 ?_
        refine lv_if_eq (tgt := 199) C.x C.b dX8_look__182 (by decide) (fun c_21 => ?_) (fun c_21 => ?_)
        · skip
          exact r_vret C hr hlocks hS ⟨⟨by rw [lookR, rowAM, rowCM, if_pos c_21, if_pos c_20]; exact e_11, by rw [lookR, rowAM, rowCM, if_pos c_21, if_pos c_20]; exact e_12, by rw [lookR, rowAM, rowCM, if_pos c_21, if_pos c_20]; exact e_13, by rw [lookR, rowAM, rowCM, if_pos c_21, if_pos c_20]; exact e_14⟩, fun j hj => (hf_9 j (by omega)).trans (o_3 j (by omega))⟩ dX8_look__199
        · skip
          refine lv_aload_n C.x C.b dX8_look__185 rfl (lv_at hl 0 rfl) ?_
          refine lv_iload_n C.x C.b dX8_look__186 rfl (lv_at hl 1 rfl) ?_
          refine lv_bipush (v := 8) C.x C.b dX8_look__187 (by decide) ?_
          refine lv_aload_n C.x C.b dX8_look__189 rfl (lv_at hl 0 rfl) ?_
          refine r_get ck8 flX8_35 C hS (by omega) e_16 (by decide) rfl dX8_look__190 ?_
          refine lv_iload_n C.x C.b dX8_look__193 rfl (lv_at hl 2 rfl) ?_
          have e_22 : g_1 227 = .inl (t.1, 256, .inl an) := (o_3 _ (by omega)).trans m227
          have e_23 : g_10 227 = .inl (t.1, 256, .inl an) := (hf_9 _ (by omega)).trans e_22
          refine r_ialdN R rfl (by omega) (by decide) C hS (by omega) e_23 dX8_look__194 ?_
          refine lv_iconst (v := (-1)) C.x C.b dX8_look__195 (by decide) ?_
          refine r_callVv (b := 220) (As := [.int (nI A), .int 8, .int (an R), .int (-1)]) (rest := []) (c_X8_sees l D t B N g_10 _ _ _ _ _ _ _ _ _ _ _ A (rowM o pl nu wi x y A R (sw, sn, sq, 0) s1).2.2.2 8 (an R) (-1) (by omega) e_16 e_11 e_12 e_13 e_14 (by omega) (by have := rowM_le o pl nu wi x y A R sw sn sq s1; omega) pk_us) mf_yX8_sees mlX8_98 im_yX8_sees se_yX8_sees (by decide) C hS (by omega) e_16 (show vwCl[8]? = some _ from rfl) rfl rfl hl.1 rfl (Nat.le_of_ble_eq_true rfl) dX8_look__196 ⟨Nat.zero_le _, Nat.zero_le _⟩ (fun g_24 H locs w_25 hS => ?_)
          obtain ⟨⟨e_27, e_28, e_29, e_30⟩, hf_31⟩ := w_25
          rw [upd_upd] at e_27
          exact r_vret C hr hlocks hS ⟨⟨by rw [lookR, rowAM, rowCM, if_neg c_21, if_pos c_20]; exact e_27, by rw [lookR, rowAM, rowCM, if_neg c_21, if_pos c_20]; exact e_28, by rw [lookR, rowAM, rowCM, if_neg c_21, if_pos c_20]; exact e_29, by rw [lookR, rowAM, rowCM, if_neg c_21, if_pos c_20]; exact e_30⟩, fun j hj => (hf_31 j (by omega)).trans ((hf_9 j (by omega)).trans (o_3 j (by omega)))⟩ dX8_look__199
      · skip
        refine lv_aload_n C.x C.b dX8_look__147 rfl (lv_at hl 0 rfl) ?_
        refine lv_iload_n C.x C.b dX8_look__148 rfl (lv_at hl 1 rfl) ?_
        refine lv_iconst (v := 1) C.x C.b dX8_look__149 (by decide) ?_
        refine lv_iconst (v := 2) C.x C.b dX8_look__150 (by decide) ?_
        refine lv_aload_n C.x C.b dX8_look__151 rfl (lv_at hl 0 rfl) ?_
        refine lv_iload_n C.x C.b dX8_look__152 rfl (lv_at hl 2 rfl) ?_
        refine lv_iload_n C.x C.b dX8_look__153 rfl (lv_at hl 3 rfl) ?_
        have e_32 : g_1 221 = .inl (t.1, 10, .inl o) := (o_3 _ (by omega)).trans m221
        have e_33 : g_10 221 = .inl (t.1, 10, .inl o) := (hf_9 _ (by omega)).trans e_32
        have e_34 : g_1 229 = .inl (t.1, 10240, .inl pl) := (o_3 _ (by omega)).trans m229
        have e_35 : g_10 229 = .inl (t.1, 10240, .inl pl) := (hf_9 _ (by omega)).trans e_34
        have e_36 : g_1 231 = .inl (t.1, 10240, .inl co) := (o_3 _ (by omega)).trans m231
        have e_37 : g_10 231 = .inl (t.1, 10240, .inl co) := (hf_9 _ (by omega)).trans e_36
        refine r_callV (b := 220) (As := [.int (nI R), .int x]) (rest := [.int 2, .int 1, .int (nI A), .ref (B + 220)]) (c_X8_cost l D t B N g_10 _ _ _ _ _ _ _ _ _ _ _ R s1 x (by omega) e_16 e_33 e_18 e_35 e_37 (by omega) hs (by omega) hPl) mf_yX8_cost mlX8_102 im_yX8_cost se_yX8_cost (by decide) C hS (by omega) e_16 (show vwCl[8]? = some _ from rfl) rfl rfl hl.1 rfl (Nat.le_of_ble_eq_true rfl) dX8_look__154 ⟨Nat.zero_le _, Nat.zero_le _⟩ (fun r_40 g_38 H locs w_39 hS => ?_)
        obtain ⟨rfl, er_40⟩ := w_39
        subst er_40
        refine lv_imul C.x C.b dX8_look__157 ?_
        refine lv_aload_n C.x C.b dX8_look__158 rfl (lv_at hl 0 rfl) ?_
        refine r_get ck8 flX8_38 C hS (by omega) e_16 (by decide) rfl dX8_look__159 ?_
        refine lv_iload_n C.x C.b dX8_look__162 rfl (lv_at hl 2 rfl) ?_
        have e_41 : g_1 228 = .inl (t.2.1, 256, .inl sp) := (o_3 _ (by omega)).trans m228
        have e_42 : g_10 228 = .inl (t.2.1, 256, .inl sp) := (hf_9 _ (by omega)).trans e_41
        refine r_zaldN R rfl (by omega) (by decide) C hS (by omega) e_42 dX8_look__163 ?_
        refine lv_if_eq (tgt := 171) C.x C.b dX8_look__164 (by decide) (fun c_43 => ?_) (fun c_43 => ?_)
        · skip
          refine lv_iconst (v := 0) C.x C.b dX8_look__171 (by decide) ?_
          refine lv_iadd C.x C.b dX8_look__172 ?_
          refine lv_iconst (v := (-1)) C.x C.b dX8_look__173 (by decide) ?_
          refine r_callVv (b := 220) (As := [.int (nI A), .int 1, .int ((2 * (cosE o pl co x R s1)) + 0), .int (-1)]) (rest := []) (c_X8_sees l D t B N g_10 _ _ _ _ _ _ _ _ _ _ _ A (rowM o pl nu wi x y A R (sw, sn, sq, 0) s1).2.2.2 1 ((2 * (cosE o pl co x R s1)) + 0) (-1) (by omega) e_16 e_11 e_12 e_13 e_14 (by omega) (Nat.lt_of_le_of_lt (rowM_le o pl nu wi x y A R sw sn sq _) (by omega)) pk_us) mf_yX8_sees mlX8_98 im_yX8_sees se_yX8_sees (by decide) C hS (by omega) e_16 (show vwCl[8]? = some _ from rfl) rfl rfl hl.1 rfl (Nat.le_of_ble_eq_true rfl) dX8_look__174 ⟨Nat.zero_le _, Nat.zero_le _⟩ (fun g_44 H locs w_45 hS => ?_)
          obtain ⟨⟨e_47, e_48, e_49, e_50⟩, hf_51⟩ := w_45
          rw [upd_upd] at e_47
          refine lv_iload C.x C.b dX8_look__177 (lv_at hl 4 rfl) ?_
          refine lv_bipush (v := 8) C.x C.b dX8_look__179 (by decide) ?_
          refine lv_iand C.x C.b dX8_look__181 ?_
          refine lv_if_eq (tgt := 199) C.x C.b dX8_look__182 (by decide) (fun c_52 => ?_) (fun c_52 => ?_)
          · skip
            exact r_vret C hr hlocks hS ⟨⟨by rw [lookR, rowAM, rowCM, if_pos c_52, if_neg c_20, if_pos c_43]; exact e_47, by rw [lookR, rowAM, rowCM, if_pos c_52, if_neg c_20, if_pos c_43]; exact e_48, by rw [lookR, rowAM, rowCM, if_pos c_52, if_neg c_20, if_pos c_43]; exact e_49, by rw [lookR, rowAM, rowCM, if_pos c_52, if_neg c_20, if_pos c_43]; exact e_50⟩, fun j hj => (hf_51 j (by omega)).trans ((hf_9 j (by omega)).trans (o_3 j (by omega)))⟩ dX8_look__199
          · skip
            refine lv_aload_n C.x C.b dX8_look__185 rfl (lv_at hl 0 rfl) ?_
            refine lv_iload_n C.x C.b dX8_look__186 rfl (lv_at hl 1 rfl) ?_
            refine lv_bipush (v := 8) C.x C.b dX8_look__187 (by decide) ?_
            refine lv_aload_n C.x C.b dX8_look__189 rfl (lv_at hl 0 rfl) ?_
            have e_53 : g_44 220 = .inr (8, [.int td, .int (nI n), .ref (B + 221), .ref (B + 222), .ref (B + 223), .int ey, .int wi, .int ev, .ref (B + 224), .ref (B + 225), .ref (B + 226), .ref (B + 227), .ref (B + 228), .ref (B + 229), .ref (B + 230), .ref (B + 231), .ref (B + 232), .ref (B + 233), .ref (B + 234), .ref (B + 235), .ref (B + 236), .int po, .int ps]) := (hf_51 _ (by omega)).trans e_16
            refine r_get ck8 flX8_35 C hS (by omega) e_53 (by decide) rfl dX8_look__190 ?_
            refine lv_iload_n C.x C.b dX8_look__193 rfl (lv_at hl 2 rfl) ?_
            have e_54 : g_1 227 = .inl (t.1, 256, .inl an) := (o_3 _ (by omega)).trans m227
            have e_55 : g_10 227 = .inl (t.1, 256, .inl an) := (hf_9 _ (by omega)).trans e_54
            have e_56 : g_44 227 = .inl (t.1, 256, .inl an) := (hf_51 _ (by omega)).trans e_55
            refine r_ialdN R rfl (by omega) (by decide) C hS (by omega) e_56 dX8_look__194 ?_
            refine lv_iconst (v := (-1)) C.x C.b dX8_look__195 (by decide) ?_
            refine r_callVv (b := 220) (As := [.int (nI A), .int 8, .int (an R), .int (-1)]) (rest := []) (c_X8_sees l D t B N g_44 _ _ _ _ _ _ _ _ _ _ _ A ((rowM o pl nu wi x y A R (sw, sn, sq, 0) s1).2.2.2 + 1) 8 (an R) (-1) (by omega) e_53 e_47 e_48 e_49 e_50 (by omega) (by have := rowM_le o pl nu wi x y A R sw sn sq s1; omega) pk_us) mf_yX8_sees mlX8_98 im_yX8_sees se_yX8_sees (by decide) C hS (by omega) e_53 (show vwCl[8]? = some _ from rfl) rfl rfl hl.1 rfl (Nat.le_of_ble_eq_true rfl) dX8_look__196 ⟨Nat.zero_le _, Nat.zero_le _⟩ (fun g_57 H locs w_58 hS => ?_)
            obtain ⟨⟨e_60, e_61, e_62, e_63⟩, hf_64⟩ := w_58
            rw [upd_upd] at e_60
            exact r_vret C hr hlocks hS ⟨⟨by rw [lookR, rowAM, rowCM, if_neg c_52, if_neg c_20, if_pos c_43]; exact e_60, by rw [lookR, rowAM, rowCM, if_neg c_52, if_neg c_20, if_pos c_43]; exact e_61, by rw [lookR, rowAM, rowCM, if_neg c_52, if_neg c_20, if_pos c_43]; exact e_62, by rw [lookR, rowAM, rowCM, if_neg c_52, if_neg c_20, if_pos c_43]; exact e_63⟩, fun j hj => (hf_64 j (by omega)).trans ((hf_51 j (by omega)).trans ((hf_9 j (by omega)).trans (o_3 j (by omega))))⟩ dX8_look__199
        · skip
          refine lv_iconst (v := 1) C.x C.b dX8_look__167 (by decide) ?_
          refine lv_goto (tgt := 172) C.x C.b dX8_look__168 (by decide) ?_
          refine lv_iadd C.x C.b dX8_look__172 ?_
          refine lv_iconst (v := (-1)) C.x C.b dX8_look__173 (by decide) ?_
          refine r_callVv (b := 220) (As := [.int (nI A), .int 1, .int ((2 * (cosE o pl co x R s1)) + 1), .int (-1)]) (rest := []) (c_X8_sees l D t B N g_10 _ _ _ _ _ _ _ _ _ _ _ A (rowM o pl nu wi x y A R (sw, sn, sq, 0) s1).2.2.2 1 ((2 * (cosE o pl co x R s1)) + 1) (-1) (by omega) e_16 e_11 e_12 e_13 e_14 (by omega) (Nat.lt_of_le_of_lt (rowM_le o pl nu wi x y A R sw sn sq _) (by omega)) pk_us) mf_yX8_sees mlX8_98 im_yX8_sees se_yX8_sees (by decide) C hS (by omega) e_16 (show vwCl[8]? = some _ from rfl) rfl rfl hl.1 rfl (Nat.le_of_ble_eq_true rfl) dX8_look__174 ⟨Nat.zero_le _, Nat.zero_le _⟩ (fun g_65 H locs w_66 hS => ?_)
          obtain ⟨⟨e_68, e_69, e_70, e_71⟩, hf_72⟩ := w_66
          rw [upd_upd] at e_68
          refine lv_iload C.x C.b dX8_look__177 (lv_at hl 4 rfl) ?_
          refine lv_bipush (v := 8) C.x C.b dX8_look__179 (by decide) ?_
          refine lv_iand C.x C.b dX8_look__181 ?_
          refine lv_if_eq (tgt := 199) C.x C.b dX8_look__182 (by decide) (fun c_73 => ?_) (fun c_73 => ?_)
          · skip
            exact r_vret C hr hlocks hS ⟨⟨by rw [lookR, rowAM, rowCM, if_pos c_73, if_neg c_20, if_neg c_43]; exact e_68, by rw [lookR, rowAM, rowCM, if_pos c_73, if_neg c_20, if_neg c_43]; exact e_69, by rw [lookR, rowAM, rowCM, if_pos c_73, if_neg c_20, if_neg c_43]; exact e_70, by rw [lookR, rowAM, rowCM, if_pos c_73, if_neg c_20, if_neg c_43]; exact e_71⟩, fun j hj => (hf_72 j (by omega)).trans ((hf_9 j (by omega)).trans (o_3 j (by omega)))⟩ dX8_look__199
          · skip
            refine lv_aload_n C.x C.b dX8_look__185 rfl (lv_at hl 0 rfl) ?_
            refine lv_iload_n C.x C.b dX8_look__186 rfl (lv_at hl 1 rfl) ?_
            refine lv_bipush (v := 8) C.x C.b dX8_look__187 (by decide) ?_
            refine lv_aload_n C.x C.b dX8_look__189 rfl (lv_at hl 0 rfl) ?_
            have e_74 : g_65 220 = .inr (8, [.int td, .int (nI n), .ref (B + 221), .ref (B + 222), .ref (B + 223), .int ey, .int wi, .int ev, .ref (B + 224), .ref (B + 225), .ref (B + 226), .ref (B + 227), .ref (B + 228), .ref (B + 229), .ref (B + 230), .ref (B + 231), .ref (B + 232), .ref (B + 233), .ref (B + 234), .ref (B + 235), .ref (B + 236), .int po, .int ps]) := (hf_72 _ (by omega)).trans e_16
            refine r_get ck8 flX8_35 C hS (by omega) e_74 (by decide) rfl dX8_look__190 ?_
            refine lv_iload_n C.x C.b dX8_look__193 rfl (lv_at hl 2 rfl) ?_
            have e_75 : g_1 227 = .inl (t.1, 256, .inl an) := (o_3 _ (by omega)).trans m227
            have e_76 : g_10 227 = .inl (t.1, 256, .inl an) := (hf_9 _ (by omega)).trans e_75
            have e_77 : g_65 227 = .inl (t.1, 256, .inl an) := (hf_72 _ (by omega)).trans e_76
            refine r_ialdN R rfl (by omega) (by decide) C hS (by omega) e_77 dX8_look__194 ?_
            refine lv_iconst (v := (-1)) C.x C.b dX8_look__195 (by decide) ?_
            refine r_callVv (b := 220) (As := [.int (nI A), .int 8, .int (an R), .int (-1)]) (rest := []) (c_X8_sees l D t B N g_65 _ _ _ _ _ _ _ _ _ _ _ A ((rowM o pl nu wi x y A R (sw, sn, sq, 0) s1).2.2.2 + 1) 8 (an R) (-1) (by omega) e_74 e_68 e_69 e_70 e_71 (by omega) (by have := rowM_le o pl nu wi x y A R sw sn sq s1; omega) pk_us) mf_yX8_sees mlX8_98 im_yX8_sees se_yX8_sees (by decide) C hS (by omega) e_74 (show vwCl[8]? = some _ from rfl) rfl rfl hl.1 rfl (Nat.le_of_ble_eq_true rfl) dX8_look__196 ⟨Nat.zero_le _, Nat.zero_le _⟩ (fun g_78 H locs w_79 hS => ?_)
            obtain ⟨⟨e_81, e_82, e_83, e_84⟩, hf_85⟩ := w_79
            rw [upd_upd] at e_81
            exact r_vret C hr hlocks hS ⟨⟨by rw [lookR, rowAM, rowCM, if_neg c_73, if_neg c_20, if_neg c_43]; exact e_81, by rw [lookR, rowAM, rowCM, if_neg c_73, if_neg c_20, if_neg c_43]; exact e_82, by rw [lookR, rowAM, rowCM, if_neg c_73, if_neg c_20, if_neg c_43]; exact e_83, by rw [lookR, rowAM, rowCM, if_neg c_73, if_neg c_20, if_neg c_43]; exact e_84⟩, fun j hj => (hf_85 j (by omega)).trans ((hf_72 j (by omega)).trans ((hf_9 j (by omega)).trans (o_3 j (by omega))))⟩ dX8_look__199
    | succ u_5 ih_8 =>
      intro k_6 g_10 H locs ls hk_7 e_11 e_12 e_13 e_14 hf_9 hS hl
      refine lv_iload C.x C.b dX8_look__13 (lv_at hl 5 rfl) ?_
      refine lv_bipush (v := 40) C.x C.b dX8_look__15 (by decide) ?_
      refine lv_iload_n C.x C.b dX8_look__17 rfl (lv_at hl 2 rfl) ?_
      refine lv_imul C.x C.b dX8_look__18 ?_
      refine r_top (y := nI (40 * R)) (pk_mul 40 R) ?_
      refine lv_aload_n C.x C.b dX8_look__19 rfl (lv_at hl 0 rfl) ?_
      have e_86 : g_1 220 = .inr (8, [.int td, .int (nI n), .ref (B + 221), .ref (B + 222), .ref (B + 223), .int ey, .int wi, .int ev, .ref (B + 224), .ref (B + 225), .ref (B + 226), .ref (B + 227), .ref (B + 228), .ref (B + 229), .ref (B + 230), .ref (B + 231), .ref (B + 232), .ref (B + 233), .ref (B + 234), .ref (B + 235), .ref (B + 236), .int po, .int ps]) := (o_3 _ (by omega)).trans m220
      have e_87 : g_10 220 = .inr (8, [.int td, .int (nI n), .ref (B + 221), .ref (B + 222), .ref (B + 223), .int ey, .int wi, .int ev, .ref (B + 224), .ref (B + 225), .ref (B + 226), .ref (B + 227), .ref (B + 228), .ref (B + 229), .ref (B + 230), .ref (B + 231), .ref (B + 232), .ref (B + 233), .ref (B + 234), .ref (B + 235), .ref (B + 236), .int po, .int ps]) := (hf_9 _ (by omega)).trans e_86
      refine r_get ck8 flX8_32 C hS (by omega) e_87 (by decide) rfl dX8_look__20 ?_
      refine lv_iload_n C.x C.b dX8_look__23 rfl (lv_at hl 2 rfl) ?_
      have e_88 : g_1 226 = .inl (t.1, 256, .inl st) := (o_3 _ (by omega)).trans m226
      have e_89 : g_10 226 = .inl (t.1, 256, .inl st) := (hf_9 _ (by omega)).trans e_88
      refine r_ialdN R rfl (by omega) (by decide) C hS (by omega) e_89 dX8_look__24 ?_
      refine r_top (y := nI s1) (hs) ?_
      refine lv_iadd C.x C.b dX8_look__25 ?_
      refine r_top (y := nI (40 * R + s1)) (nI_add _ _) ?_
      refine lv_icmp_ge (tgt := 140) C.x C.b dX8_look__26 (by decide) (fun c_90 => absurd c_90 (nI_ge (a := (40 * R + k_6)) (b := (40 * R + s1)) (by omega) (by omega))) (fun c_90 => ?_)
      refine lv_iload_n C.x C.b dX8_look__29 rfl (lv_at hl 3 rfl) ?_
      refine lv_aload_n C.x C.b dX8_look__30 rfl (lv_at hl 0 rfl) ?_
      refine r_get ck8 flX8_42 C hS (by omega) e_87 (by decide) rfl dX8_look__31 ?_
      refine lv_iload C.x C.b dX8_look__34 (lv_at hl 5 rfl) ?_
      have e_91 : g_1 229 = .inl (t.1, 10240, .inl pl) := (o_3 _ (by omega)).trans m229
      have e_92 : g_10 229 = .inl (t.1, 10240, .inl pl) := (hf_9 _ (by omega)).trans e_91
      refine r_ialdN (40 * R + k_6) rfl (by omega) (by decide) C hS (by omega) e_92 dX8_look__36 ?_
      refine lv_ishr C.x C.b dX8_look__37 ?_
      refine lv_iconst (v := 1) C.x C.b dX8_look__38 (by decide) ?_
      refine lv_iand C.x C.b dX8_look__39 ?_
      refine lv_iconst (v := 1) C.x C.b dX8_look__40 (by decide) ?_
      refine lv_icmp_ne (tgt := 47) C.x C.b dX8_look__41 (by decide) (fun c_93 => ?_) (fun c_93 => ?_)
      · skip
        obtain ⟨h_94, hh_94, ph_94⟩ := hPl (40 * R + k_6) (by omega)
        refine lv_aload_n C.x C.b dX8_look__47 rfl (lv_at hl 0 rfl) ?_
        refine lv_iload C.x C.b dX8_look__48 (lv_at hl 5 rfl) ?_
        have e_95 : g_1 221 = .inl (t.1, 10, .inl o) := (o_3 _ (by omega)).trans m221
        have e_96 : g_10 221 = .inl (t.1, 10, .inl o) := (hf_9 _ (by omega)).trans e_95
        refine r_callV (b := 220) (As := [.int (nI (40 * R + k_6))]) (rest := []) (c_X8_kindAt l D t B N g_10 _ _ _ _ _ _ _ _ _ (40 * R + k_6) h_94 (by omega) e_87 e_96 e_92 (by omega) (by omega) ph_94) mf_yX8_kindAt mlX8_95 im_yX8_kindAt se_yX8_kindAt (by decide) C hS (by omega) e_87 (show vwCl[8]? = some _ from rfl) rfl rfl hl.1 rfl (Nat.le_of_ble_eq_true rfl) dX8_look__50 ⟨Nat.zero_le _, Nat.zero_le _⟩ (fun r_99 g_97 H locs w_98 hS => ?_)
        obtain ⟨rfl, er_99⟩ := w_98
        subst er_99
        refine r_top (y := (kA o pl (40 * R + k_6))) ((kA_eq ph_94 (by omega)).symm) ?_
        refine lv_istore (lv' := [(6, .int (kA o pl (40 * R + k_6))), (0, .ref (B + 220)), (1, .int (nI A)), (2, .int (nI R)), (3, .int x), (4, .int y), (5, .int (nI (40 * R + k_6)))]) C.x C.b dX8_look__53 hl (by decide) rfl (fun ls hl => ?_)
        refine lv_iload C.x C.b dX8_look__55 (lv_at hl 0 rfl) ?_
        refine lv_iconst (v := 5) C.x C.b dX8_look__57 (by decide) ?_
        refine lv_icmp_eq (tgt := 68) C.x C.b dX8_look__58 (by decide) (fun c_100 => ?_) (fun c_100 => ?_)
        · skip
          refine lv_iload C.x C.b dX8_look__68 (lv_at hl 5 rfl) ?_
          refine lv_iconst (v := 2) C.x C.b dX8_look__70 (by decide) ?_
          refine lv_iand C.x C.b dX8_look__71 ?_
          refine lv_if_eq (tgt := 100) C.x C.b dX8_look__72 (by decide) (fun c_101 => ?_) (fun c_101 => ?_)
          · skip
            refine lv_iload C.x C.b dX8_look__100 (lv_at hl 0 rfl) ?_
            refine lv_bipush (v := 7) C.x C.b dX8_look__102 (by decide) ?_
            refine lv_icmp_ne (tgt := 134) C.x C.b dX8_look__104 (by decide) (fun c_102 => ?_) (fun c_102 => absurd c_102 (show ¬ kA o pl (40 * R + k_6) = 7 by rw [c_100]; decide))
            refine lv_iinc (v := nI ((40 * R + k_6) + 1)) (lv' := [(5, .int (nI ((40 * R + k_6) + 1))), (6, .int (kA o pl (40 * R + k_6))), (0, .ref (B + 220)), (1, .int (nI A)), (2, .int (nI R)), (3, .int x), (4, .int y)]) C.x C.b dX8_look__134 hl (k := 6) rfl (nI_1 (40 * R + k_6)) (by decide) rfl (fun ls hl => ?_)
            refine lv_goto (tgt := 13) C.x C.b dX8_look__137 (by decide) ?_
            have z_103 : (rowM o pl nu wi x y A R (sw, sn, sq, 0) (k_6 + 1)) = (rowM o pl nu wi x y A R (sw, sn, sq, 0) k_6) := by rw [rowM, if_neg c_93, if_neg (fun q => q.2 c_101), if_neg (fun q => absurd q.1 (show ¬ kA o pl (40 * R + k_6) = 7 by rw [c_100]; decide))]
            exact ih_8 (k_6 + 1) g_10 _ _ _ (by omega) (by rw [z_103]; exact e_11) (by rw [z_103]; exact e_12) (by rw [z_103]; exact e_13) (by rw [z_103]; exact e_14) (fun j hj => hf_9 j hj) hS (lv_sub hl [2, 3, 4, 5, 6, 0] rfl)
          · skip
            refine lv_aload_n C.x C.b dX8_look__75 rfl (lv_at hl 1 rfl) ?_
            refine lv_iload_n C.x C.b dX8_look__76 rfl (lv_at hl 2 rfl) ?_
            refine lv_iconst (v := 2) C.x C.b dX8_look__77 (by decide) ?_
            refine lv_aload_n C.x C.b dX8_look__78 rfl (lv_at hl 1 rfl) ?_
            refine r_get ck8 flX8_45 C hS (by omega) e_87 (by decide) rfl dX8_look__79 ?_
            refine lv_iload C.x C.b dX8_look__82 (lv_at hl 6 rfl) ?_
            have e_104 : g_1 230 = .inl (t.1, 10240, .inl nu) := (o_3 _ (by omega)).trans m230
            have e_105 : g_10 230 = .inl (t.1, 10240, .inl nu) := (hf_9 _ (by omega)).trans e_104
            refine r_ialdN (40 * R + k_6) rfl (by omega) (by decide) C hS (by omega) e_105 dX8_look__84 ?_
            refine lv_aload_n C.x C.b dX8_look__85 rfl (lv_at hl 1 rfl) ?_
            refine r_get ck8 flX8_23 C hS (by omega) e_87 (by decide) rfl dX8_look__86 ?_
            refine lv_idiv C.x C.b dX8_look__89 hwi ?_
            refine lv_aload_n C.x C.b dX8_look__90 rfl (lv_at hl 1 rfl) ?_
            refine r_get ck8 flX8_42 C hS (by omega) e_87 (by decide) rfl dX8_look__91 ?_
            refine lv_iload C.x C.b dX8_look__94 (lv_at hl 6 rfl) ?_
            refine r_ialdN (40 * R + k_6) rfl (by omega) (by decide) C hS (by omega) e_92 dX8_look__96 ?_
            refine r_callVv (b := 220) (As := [.int (nI A), .int 2, .int ((nu (40 * R + k_6)) / wi), .int (pl (40 * R + k_6))]) (rest := []) (c_X8_sees l D t B N g_10 _ _ _ _ _ _ _ _ _ _ _ A (rowM o pl nu wi x y A R (sw, sn, sq, 0) k_6).2.2.2 2 ((nu (40 * R + k_6)) / wi) (pl (40 * R + k_6)) (by omega) e_87 e_11 e_12 e_13 e_14 (by omega) (Nat.lt_of_le_of_lt (rowM_le o pl nu wi x y A R sw sn sq _) (by omega)) pk_us) mf_yX8_sees mlX8_98 im_yX8_sees se_yX8_sees (by decide) C hS (by omega) e_87 (show vwCl[8]? = some _ from rfl) rfl rfl hl.1 rfl (Nat.le_of_ble_eq_true rfl) dX8_look__97 ⟨Nat.zero_le _, Nat.zero_le _⟩ (fun g_106 H locs w_107 hS => ?_)
            obtain ⟨⟨e_109, e_110, e_111, e_112⟩, hf_113⟩ := w_107
            rw [upd_upd] at e_109
            refine lv_iload C.x C.b dX8_look__100 (lv_at hl 0 rfl) ?_
            refine lv_bipush (v := 7) C.x C.b dX8_look__102 (by decide) ?_
            refine lv_icmp_ne (tgt := 134) C.x C.b dX8_look__104 (by decide) (fun c_114 => ?_) (fun c_114 => absurd c_114 (show ¬ kA o pl (40 * R + k_6) = 7 by rw [c_100]; decide))
            refine lv_iinc (v := nI ((40 * R + k_6) + 1)) (lv' := [(5, .int (nI ((40 * R + k_6) + 1))), (6, .int (kA o pl (40 * R + k_6))), (0, .ref (B + 220)), (1, .int (nI A)), (2, .int (nI R)), (3, .int x), (4, .int y)]) C.x C.b dX8_look__134 hl (k := 6) rfl (nI_1 (40 * R + k_6)) (by decide) rfl (fun ls hl => ?_)
            refine lv_goto (tgt := 13) C.x C.b dX8_look__137 (by decide) ?_
            have z_115 : (rowM o pl nu wi x y A R (sw, sn, sq, 0) (k_6 + 1)) = raddM A (rowM o pl nu wi x y A R (sw, sn, sq, 0) k_6) 2 (nu (40 * R + k_6) / wi) (pl (40 * R + k_6)) := by rw [rowM, if_neg c_93, if_pos ⟨Or.inl c_100, c_101⟩]
            exact ih_8 (k_6 + 1) g_106 _ _ _ (by omega) (by rw [z_115]; exact e_109) (by rw [z_115]; exact e_110) (by rw [z_115]; exact e_111) (by rw [z_115]; exact e_112) (fun j hj => (hf_113 j (by omega)).trans (hf_9 j hj)) hS (lv_sub hl [2, 3, 4, 5, 6, 0] rfl)
        · skip
          refine lv_iload C.x C.b dX8_look__61 (lv_at hl 0 rfl) ?_
          refine lv_bipush (v := 6) C.x C.b dX8_look__63 (by decide) ?_
          refine lv_icmp_ne (tgt := 100) C.x C.b dX8_look__65 (by decide) (fun c_116 => ?_) (fun c_116 => ?_)
          · skip
            refine lv_iload C.x C.b dX8_look__100 (lv_at hl 0 rfl) ?_
            refine lv_bipush (v := 7) C.x C.b dX8_look__102 (by decide) ?_
            refine lv_icmp_ne (tgt := 134) C.x C.b dX8_look__104 (by decide) (fun c_117 => ?_) (fun c_117 => ?_)
            · skip
              refine lv_iinc (v := nI ((40 * R + k_6) + 1)) (lv' := [(5, .int (nI ((40 * R + k_6) + 1))), (6, .int (kA o pl (40 * R + k_6))), (0, .ref (B + 220)), (1, .int (nI A)), (2, .int (nI R)), (3, .int x), (4, .int y)]) C.x C.b dX8_look__134 hl (k := 6) rfl (nI_1 (40 * R + k_6)) (by decide) rfl (fun ls hl => ?_)
              refine lv_goto (tgt := 13) C.x C.b dX8_look__137 (by decide) ?_
              have z_118 : (rowM o pl nu wi x y A R (sw, sn, sq, 0) (k_6 + 1)) = (rowM o pl nu wi x y A R (sw, sn, sq, 0) k_6) := by rw [rowM, if_neg c_93, if_neg (fun q => q.1.elim c_100 c_116), if_neg (fun q => c_117 q.1)]
              exact ih_8 (k_6 + 1) g_10 _ _ _ (by omega) (by rw [z_118]; exact e_11) (by rw [z_118]; exact e_12) (by rw [z_118]; exact e_13) (by rw [z_118]; exact e_14) (fun j hj => hf_9 j hj) hS (lv_sub hl [2, 3, 4, 5, 6, 0] rfl)
            · skip
              refine lv_iload C.x C.b dX8_look__107 (lv_at hl 5 rfl) ?_
              refine lv_iconst (v := 4) C.x C.b dX8_look__109 (by decide) ?_
              refine lv_iand C.x C.b dX8_look__110 ?_
              refine lv_if_eq (tgt := 134) C.x C.b dX8_look__111 (by decide) (fun c_119 => ?_) (fun c_119 => ?_)
              · skip
                refine lv_iinc (v := nI ((40 * R + k_6) + 1)) (lv' := [(5, .int (nI ((40 * R + k_6) + 1))), (6, .int (kA o pl (40 * R + k_6))), (0, .ref (B + 220)), (1, .int (nI A)), (2, .int (nI R)), (3, .int x), (4, .int y)]) C.x C.b dX8_look__134 hl (k := 6) rfl (nI_1 (40 * R + k_6)) (by decide) rfl (fun ls hl => ?_)
                refine lv_goto (tgt := 13) C.x C.b dX8_look__137 (by decide) ?_
                have z_120 : (rowM o pl nu wi x y A R (sw, sn, sq, 0) (k_6 + 1)) = (rowM o pl nu wi x y A R (sw, sn, sq, 0) k_6) := by rw [rowM, if_neg c_93, if_neg (fun q => q.1.elim c_100 c_116), if_neg (fun q => q.2 c_119)]
                exact ih_8 (k_6 + 1) g_10 _ _ _ (by omega) (by rw [z_120]; exact e_11) (by rw [z_120]; exact e_12) (by rw [z_120]; exact e_13) (by rw [z_120]; exact e_14) (fun j hj => hf_9 j hj) hS (lv_sub hl [2, 3, 4, 5, 6, 0] rfl)
              · skip
                refine lv_aload_n C.x C.b dX8_look__114 rfl (lv_at hl 1 rfl) ?_
                refine lv_iload_n C.x C.b dX8_look__115 rfl (lv_at hl 2 rfl) ?_
                refine lv_iconst (v := 4) C.x C.b dX8_look__116 (by decide) ?_
                refine lv_aload_n C.x C.b dX8_look__117 rfl (lv_at hl 1 rfl) ?_
                refine r_get ck8 flX8_45 C hS (by omega) e_87 (by decide) rfl dX8_look__118 ?_
                refine lv_iload C.x C.b dX8_look__121 (lv_at hl 6 rfl) ?_
                have e_121 : g_1 230 = .inl (t.1, 10240, .inl nu) := (o_3 _ (by omega)).trans m230
                have e_122 : g_10 230 = .inl (t.1, 10240, .inl nu) := (hf_9 _ (by omega)).trans e_121
                refine r_ialdN (40 * R + k_6) rfl (by omega) (by decide) C hS (by omega) e_122 dX8_look__123 ?_
                refine lv_aload_n C.x C.b dX8_look__124 rfl (lv_at hl 1 rfl) ?_
                refine r_get ck8 flX8_42 C hS (by omega) e_87 (by decide) rfl dX8_look__125 ?_
                refine lv_iload C.x C.b dX8_look__128 (lv_at hl 6 rfl) ?_
                refine r_ialdN (40 * R + k_6) rfl (by omega) (by decide) C hS (by omega) e_92 dX8_look__130 ?_
                refine r_callVv (b := 220) (As := [.int (nI A), .int 4, .int (nu (40 * R + k_6)), .int (pl (40 * R + k_6))]) (rest := []) (c_X8_sees l D t B N g_10 _ _ _ _ _ _ _ _ _ _ _ A (rowM o pl nu wi x y A R (sw, sn, sq, 0) k_6).2.2.2 4 (nu (40 * R + k_6)) (pl (40 * R + k_6)) (by omega) e_87 e_11 e_12 e_13 e_14 (by omega) (Nat.lt_of_le_of_lt (rowM_le o pl nu wi x y A R sw sn sq _) (by omega)) pk_us) mf_yX8_sees mlX8_98 im_yX8_sees se_yX8_sees (by decide) C hS (by omega) e_87 (show vwCl[8]? = some _ from rfl) rfl rfl hl.1 rfl (Nat.le_of_ble_eq_true rfl) dX8_look__131 ⟨Nat.zero_le _, Nat.zero_le _⟩ (fun g_123 H locs w_124 hS => ?_)
                obtain ⟨⟨e_126, e_127, e_128, e_129⟩, hf_130⟩ := w_124
                rw [upd_upd] at e_126
                refine lv_iinc (v := nI ((40 * R + k_6) + 1)) (lv' := [(5, .int (nI ((40 * R + k_6) + 1))), (6, .int (kA o pl (40 * R + k_6))), (0, .ref (B + 220)), (1, .int (nI A)), (2, .int (nI R)), (3, .int x), (4, .int y)]) C.x C.b dX8_look__134 hl (k := 6) rfl (nI_1 (40 * R + k_6)) (by decide) rfl (fun ls hl => ?_)
                refine lv_goto (tgt := 13) C.x C.b dX8_look__137 (by decide) ?_
                have z_131 : (rowM o pl nu wi x y A R (sw, sn, sq, 0) (k_6 + 1)) = raddM A (rowM o pl nu wi x y A R (sw, sn, sq, 0) k_6) 4 (nu (40 * R + k_6)) (pl (40 * R + k_6)) := by rw [rowM, if_neg c_93, if_neg (fun q => q.1.elim c_100 c_116), if_pos ⟨c_117, c_119⟩]
                exact ih_8 (k_6 + 1) g_123 _ _ _ (by omega) (by rw [z_131]; exact e_126) (by rw [z_131]; exact e_127) (by rw [z_131]; exact e_128) (by rw [z_131]; exact e_129) (fun j hj => (hf_130 j (by omega)).trans (hf_9 j hj)) hS (lv_sub hl [2, 3, 4, 5, 6, 0] rfl)
          · skip
            refine lv_iload C.x C.b dX8_look__68 (lv_at hl 5 rfl) ?_
            refine lv_iconst (v := 2) C.x C.b dX8_look__70 (by decide) ?_
            refine lv_iand C.x C.b dX8_look__71 ?_
            refine lv_if_eq (tgt := 100) C.x C.b dX8_look__72 (by decide) (fun c_132 => ?_) (fun c_132 => ?_)
            · skip
              refine lv_iload C.x C.b dX8_look__100 (lv_at hl 0 rfl) ?_
              refine lv_bipush (v := 7) C.x C.b dX8_look__102 (by decide) ?_
              refine lv_icmp_ne (tgt := 134) C.x C.b dX8_look__104 (by decide) (fun c_133 => ?_) (fun c_133 => absurd c_133 (show ¬ kA o pl (40 * R + k_6) = 7 by rw [c_116]; decide))
              refine lv_iinc (v := nI ((40 * R + k_6) + 1)) (lv' := [(5, .int (nI ((40 * R + k_6) + 1))), (6, .int (kA o pl (40 * R + k_6))), (0, .ref (B + 220)), (1, .int (nI A)), (2, .int (nI R)), (3, .int x), (4, .int y)]) C.x C.b dX8_look__134 hl (k := 6) rfl (nI_1 (40 * R + k_6)) (by decide) rfl (fun ls hl => ?_)
              refine lv_goto (tgt := 13) C.x C.b dX8_look__137 (by decide) ?_
              have z_134 : (rowM o pl nu wi x y A R (sw, sn, sq, 0) (k_6 + 1)) = (rowM o pl nu wi x y A R (sw, sn, sq, 0) k_6) := by rw [rowM, if_neg c_93, if_neg (fun q => q.2 c_132), if_neg (fun q => absurd q.1 (show ¬ kA o pl (40 * R + k_6) = 7 by rw [c_116]; decide))]
              exact ih_8 (k_6 + 1) g_10 _ _ _ (by omega) (by rw [z_134]; exact e_11) (by rw [z_134]; exact e_12) (by rw [z_134]; exact e_13) (by rw [z_134]; exact e_14) (fun j hj => hf_9 j hj) hS (lv_sub hl [2, 3, 4, 5, 6, 0] rfl)
            · skip
              refine lv_aload_n C.x C.b dX8_look__75 rfl (lv_at hl 1 rfl) ?_
              refine lv_iload_n C.x C.b dX8_look__76 rfl (lv_at hl 2 rfl) ?_
              refine lv_iconst (v := 2) C.x C.b dX8_look__77 (by decide) ?_
              refine lv_aload_n C.x C.b dX8_look__78 rfl (lv_at hl 1 rfl) ?_
              refine r_get ck8 flX8_45 C hS (by omega) e_87 (by decide) rfl dX8_look__79 ?_
              refine lv_iload C.x C.b dX8_look__82 (lv_at hl 6 rfl) ?_
              have e_135 : g_1 230 = .inl (t.1, 10240, .inl nu) := (o_3 _ (by omega)).trans m230
              have e_136 : g_10 230 = .inl (t.1, 10240, .inl nu) := (hf_9 _ (by omega)).trans e_135
              refine r_ialdN (40 * R + k_6) rfl (by omega) (by decide) C hS (by omega) e_136 dX8_look__84 ?_
              refine lv_aload_n C.x C.b dX8_look__85 rfl (lv_at hl 1 rfl) ?_
              refine r_get ck8 flX8_23 C hS (by omega) e_87 (by decide) rfl dX8_look__86 ?_
              refine lv_idiv C.x C.b dX8_look__89 hwi ?_
              refine lv_aload_n C.x C.b dX8_look__90 rfl (lv_at hl 1 rfl) ?_
              refine r_get ck8 flX8_42 C hS (by omega) e_87 (by decide) rfl dX8_look__91 ?_
              refine lv_iload C.x C.b dX8_look__94 (lv_at hl 6 rfl) ?_
              refine r_ialdN (40 * R + k_6) rfl (by omega) (by decide) C hS (by omega) e_92 dX8_look__96 ?_
              refine r_callVv (b := 220) (As := [.int (nI A), .int 2, .int ((nu (40 * R + k_6)) / wi), .int (pl (40 * R + k_6))]) (rest := []) (c_X8_sees l D t B N g_10 _ _ _ _ _ _ _ _ _ _ _ A (rowM o pl nu wi x y A R (sw, sn, sq, 0) k_6).2.2.2 2 ((nu (40 * R + k_6)) / wi) (pl (40 * R + k_6)) (by omega) e_87 e_11 e_12 e_13 e_14 (by omega) (Nat.lt_of_le_of_lt (rowM_le o pl nu wi x y A R sw sn sq _) (by omega)) pk_us) mf_yX8_sees mlX8_98 im_yX8_sees se_yX8_sees (by decide) C hS (by omega) e_87 (show vwCl[8]? = some _ from rfl) rfl rfl hl.1 rfl (Nat.le_of_ble_eq_true rfl) dX8_look__97 ⟨Nat.zero_le _, Nat.zero_le _⟩ (fun g_137 H locs w_138 hS => ?_)
              obtain ⟨⟨e_140, e_141, e_142, e_143⟩, hf_144⟩ := w_138
              rw [upd_upd] at e_140
              refine lv_iload C.x C.b dX8_look__100 (lv_at hl 0 rfl) ?_
              refine lv_bipush (v := 7) C.x C.b dX8_look__102 (by decide) ?_
              refine lv_icmp_ne (tgt := 134) C.x C.b dX8_look__104 (by decide) (fun c_145 => ?_) (fun c_145 => absurd c_145 (show ¬ kA o pl (40 * R + k_6) = 7 by rw [c_116]; decide))
              refine lv_iinc (v := nI ((40 * R + k_6) + 1)) (lv' := [(5, .int (nI ((40 * R + k_6) + 1))), (6, .int (kA o pl (40 * R + k_6))), (0, .ref (B + 220)), (1, .int (nI A)), (2, .int (nI R)), (3, .int x), (4, .int y)]) C.x C.b dX8_look__134 hl (k := 6) rfl (nI_1 (40 * R + k_6)) (by decide) rfl (fun ls hl => ?_)
              refine lv_goto (tgt := 13) C.x C.b dX8_look__137 (by decide) ?_
              have z_146 : (rowM o pl nu wi x y A R (sw, sn, sq, 0) (k_6 + 1)) = raddM A (rowM o pl nu wi x y A R (sw, sn, sq, 0) k_6) 2 (nu (40 * R + k_6) / wi) (pl (40 * R + k_6)) := by rw [rowM, if_neg c_93, if_pos ⟨Or.inr c_116, c_132⟩]
              exact ih_8 (k_6 + 1) g_137 _ _ _ (by omega) (by rw [z_146]; exact e_140) (by rw [z_146]; exact e_141) (by rw [z_146]; exact e_142) (by rw [z_146]; exact e_143) (fun j hj => (hf_144 j (by omega)).trans (hf_9 j hj)) hS (lv_sub hl [2, 3, 4, 5, 6, 0] rfl)
      · skip
        refine lv_goto (tgt := 134) C.x C.b dX8_look__44 (by decide) ?_
        refine lv_iinc (v := nI ((40 * R + k_6) + 1)) (lv' := [(5, .int (nI ((40 * R + k_6) + 1))), (0, .ref (B + 220)), (1, .int (nI A)), (2, .int (nI R)), (3, .int x), (4, .int y)]) C.x C.b dX8_look__134 hl (k := 5) rfl (nI_1 (40 * R + k_6)) (by decide) rfl (fun ls hl => ?_)
        refine lv_goto (tgt := 13) C.x C.b dX8_look__137 (by decide) ?_
        have z_147 : (rowM o pl nu wi x y A R (sw, sn, sq, 0) (k_6 + 1)) = (rowM o pl nu wi x y A R (sw, sn, sq, 0) k_6) := by rw [rowM, if_pos c_93]
        exact ih_8 (k_6 + 1) g_10 _ _ _ (by omega) (by rw [z_147]; exact e_11) (by rw [z_147]; exact e_12) (by rw [z_147]; exact e_13) (by rw [z_147]; exact e_14) (fun j hj => hf_9 j hj) hS (lv_sub hl [1, 2, 3, 4, 5, 0] rfl)
  have e_148 : g_1 233 = .inl (t.1, 84, .inl sw) := (o_3 _ (by omega)).trans m233
  have e_149 : g_1 234 = .inl (t.1, 84, .inl sn) := (o_3 _ (by omega)).trans m234
  have e_150 : g_1 235 = .inl (t.1, 84, .inl sq) := (o_3 _ (by omega)).trans m235
  exact lp_4 s1 0 g_1 _ _ _ (by omega) e_2 e_148 e_149 e_150 (fun _ _ => rfl) hS (lv_sub hl [1, 2, 3, 4, 5, 0] rfl)
