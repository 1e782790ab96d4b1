theorem clamp_le {st : Nat → Int32} {R s : Nat} (h : st R = nI s) (hs : s ≤ 40) : (st R).toNatClampNeg ≤ 40 := by
  rw [h, nI_clamp (by omega)]
  exact hs
set_option maxHeartbeats 1000000 in
set_option maxRecDepth 100000 in
theorem c_X8_isSilent (l : Launch) (D : va_G) (t : Gx) (B N : Nat) (g : Nat → va_E) (td : Int32) (n : Nat) (ey wi ev po ps : Int32) (o : Nat → Int32) (st : Nat → Int32) (an : Nat → Int32) (sp : Nat → Int32) (pl : Nat → Int32) (nu : Nat → Int32) (co : Nat → Int32) (sm : Nat → Int32) (sw : Nat → Int32) (sn : Nat → Int32) (sq : Nat → Int32) (x y : Int32) (hN : 236 < N) (m220 : g 220 = mObj B td n ey wi ev po ps) (m221 : g 221 = .inl (t.1, 10, .inl o)) (m226 : g 226 = .inl (t.1, 256, .inl st)) (m227 : g 227 = .inl (t.1, 256, .inl an)) (m228 : g 228 = .inl (t.2.1, 256, .inl sp)) (m229 : g 229 = .inl (t.1, 10240, .inl pl)) (m230 : g 230 = .inl (t.1, 10240, .inl nu)) (m231 : g 231 = .inl (t.1, 10240, .inl co)) (m232 : g 232 = .inl (t.1, 2, .inl sm)) (m233 : g 233 = .inl (t.1, 84, .inl sw)) (m234 : g 234 = .inl (t.1, 84, .inl sn)) (m235 : g 235 = .inl (t.1, 84, .inl sq)) (hSt : okSt st) (hPl : okPl pl) (hSm : okSm sm) (hwi : ¬ wi = 0) : Ci l D t B N yX8_isSilent cX8_isSilent 4 (some .boolean) 4 97 g [.ref (B + 220), .int x, .int y] (fun r g' => ∃ (po' ps' : Int32) (sm' sw' sn' sq' : Nat → Int32), g' 220 = mObj B td n ey wi ev po' ps' ∧ (g' 232 = .inl (t.1, 2, .inl sm') ∧ g' 233 = .inl (t.1, 84, .inl sw') ∧ g' 234 = .inl (t.1, 84, .inl sn') ∧ g' 235 = .inl (t.1, 84, .inl sq')) ∧ okSm sm' ∧ ((r = 1 ∧ ∀ J, J < 256 → ¬ J % 16 = 0 → alikeR (seeM o pl nu co st an sp wi x y (J / 16 * 16)) (seeM o pl nu co st an sp wi x y J)) ∨ (r = 0 ∧ ∃ K, K < 256 ∧ ¬ K % 16 = 0 ∧ po' = nI (K / 16) ∧ ps' = nI (K % 16) ∧ ¬ alikeR (seeM o pl nu co st an sp wi x y (K / 16 * 16)) (seeM o pl nu co st an sp wi x y K) ∧ ∀ J, J < K → ¬ J % 16 = 0 → alikeR (seeM o pl nu co st an sp wi x y (J / 16 * 16)) (seeM o pl nu co st an sp wi x y J))) ∧ ∀ j, (j ≠ 220 ∧ (j < 232 ∨ 235 < j)) → g' j = g j) := by
  refine Ci.start (by decide) (Nat.le_of_ble_eq_true rfl) ?_
  intro p e s m below meth c ls C hr hlocks hS hl
  replace C : Cx D t p s m [.ref (B + 220), .int x, .int y].toArray c cX8_isSilent 4 RX8 := C
  replace hl : lv_has ls 4 [(0, .ref (B + 220)), (1, .int x), (2, .int y)] := hl
  replace m220 : g 220 = .inr (8, [.int td, .int (nI n), .ref (B + 221), .ref (B + 222), .ref (B + 223), .int ey, .int wi, .int ev, .ref (B + 224), .ref (B + 225), .ref (B + 226), .ref (B + 227), .ref (B + 228), .ref (B + 229), .ref (B + 230), .ref (B + 231), .ref (B + 232), .ref (B + 233), .ref (B + 234), .ref (B + 235), .ref (B + 236), .int po, .int ps]) := m220
  refine lv_iconst (v := 0) C.x C.b dX8_isSilent_0 (by decide) ?_
  refine lv_istore_n (lv' := [(3, .int 0), (0, .ref (B + 220)), (1, .int x), (2, .int y)]) C.x C.b dX8_isSilent_1 rfl hl (by decide) rfl (fun ls hl => ?_)
  have lp : ∀ (u k : Nat) (sm1 sw1 sn1 sq1 : Nat → Int32) (gL : Nat → va_E) (H : Heap) (locs : List Loc) (ls : Array Slot), k + u = 256 → okSm sm1 → (∀ J, J < k → ¬ J % 16 = 0 → alikeR (seeM o pl nu co st an sp wi x y (J / 16 * 16)) (seeM o pl nu co st an sp wi x y J)) → gL 232 = .inl (t.1, 2, .inl sm1) → gL 233 = .inl (t.1, 84, .inl sw1) → gL 234 = .inl (t.1, 84, .inl sn1) → gL 235 = .inl (t.1, 84, .inl sq1) → (∀ j, (j < 232 ∨ 235 < j) → gL j = g j) → St D B s.heap N gL H locs → lv_has ls 4 [(0, .ref (B + 220)), (1, .int x), (2, .int y), (3, .int (nI k))] → W p l e (rmOf 4 97 0 0) s m [.ref (B + 220), .int x, .int y].toArray below meth c H locs 0 0 (MQ below (qI D B N (fun r g' => ∃ (po' ps' : Int32) (sm' sw' sn' sq' : Nat → Int32), g' 220 = mObj B td n ey wi ev po' ps' ∧ (g' 232 = .inl (t.1, 2, .inl sm') ∧ g' 233 = .inl (t.1, 84, .inl sw') ∧ g' 234 = .inl (t.1, 84, .inl sn') ∧ g' 235 = .inl (t.1, 84, .inl sq')) ∧ okSm sm' ∧ ((r = 1 ∧ ∀ J, J < 256 → ¬ J % 16 = 0 → alikeR (seeM o pl nu co st an sp wi x y (J / 16 * 16)) (seeM o pl nu co st an sp wi x y J)) ∨ (r = 0 ∧ ∃ K, K < 256 ∧ ¬ K % 16 = 0 ∧ po' = nI (K / 16) ∧ ps' = nI (K % 16) ∧ ¬ alikeR (seeM o pl nu co st an sp wi x y (K / 16 * 16)) (seeM o pl nu co st an sp wi x y K) ∧ ∀ J, J < K → ¬ J % 16 = 0 → alikeR (seeM o pl nu co st an sp wi x y (J / 16 * 16)) (seeM o pl nu co st an sp wi x y J))) ∧ ∀ j, (j ≠ 220 ∧ (j < 232 ∨ 235 < j)) → g' j = g j)) [.ref (B + 220), .int x, .int y].toArray s 0 0 (fun q => B ≤ q)) (F0 m 2 ls []) := by
    intro u
    induction u with
    | zero =>
      intro k sm1 sw1 sn1 sq1 gL H locs ls hk hSm1 hI l232 l233 l234 l235 hfL hS hl
      obtain rfl : 256 = k := by omega
      refine lv_iload_n C.x C.b dX8_isSilent_2 rfl (lv_at hl 3 rfl) ?_
      refine lv_sipush (v := 256) C.x C.b dX8_isSilent_3 (by decide) ?_
      refine lv_icmp_ge (tgt := 61) C.x C.b dX8_isSilent_6 (by decide) (fun c_1 => ?_) (fun c_1 => absurd (by decide) c_1)
      refine lv_iconst (v := 1) C.x C.b dX8_isSilent_61 (by decide) ?_
      have e_2 : gL 220 = .inr (8, [.int td, .int (nI n), .ref (B + 221), .ref (B + 222), .ref (B + 223), .int ey, .int wi, .int ev, .ref (B + 224), .ref (B + 225), .ref (B + 226), .ref (B + 227), .ref (B + 228), .ref (B + 229), .ref (B + 230), .ref (B + 231), .ref (B + 232), .ref (B + 233), .ref (B + 234), .ref (B + 235), .ref (B + 236), .int po, .int ps]) := (hfL _ (by omega)).trans m220
      exact r_zret C hr hlocks hS (by decide) ⟨_, _, _, _, _, _, e_2, ⟨l232, l233, l234, l235⟩, hSm1, Or.inl ⟨rfl, hI⟩, fun j hj => (hfL j (by omega))⟩ dX8_isSilent_62
    | succ u ih =>
      intro k sm1 sw1 sn1 sq1 gL H locs ls hk hSm1 hI l232 l233 l234 l235 hfL hS hl
      refine lv_iload_n C.x C.b dX8_isSilent_2 rfl (lv_at hl 3 rfl) ?_
      refine lv_sipush (v := 256) C.x C.b dX8_isSilent_3 (by decide) ?_
      refine lv_icmp_ge (tgt := 61) C.x C.b dX8_isSilent_6 (by decide) (fun c_3 => absurd c_3 (nI_ge (a := k) (b := 256) (by omega) (by decide))) (fun c_3 => ?_)
      refine lv_iload_n C.x C.b dX8_isSilent_9 rfl (lv_at hl 3 rfl) ?_
      refine lv_bipush (v := 16) C.x C.b dX8_isSilent_10 (by decide) ?_
      refine lv_irem C.x C.b dX8_isSilent_12 (by decide) ?_
      refine r_top (y := nI (k % 16)) (pk_rem (by omega) (by decide) (by decide)) ?_
      refine lv_if_eq (tgt := 55) C.x C.b dX8_isSilent_13 (by decide) (fun c_4 => ?_) (fun c_4 => ?_)
      · skip
        refine lv_iinc (v := nI (k + 1)) (lv' := [(3, .int (nI (k + 1))), (0, .ref (B + 220)), (1, .int x), (2, .int y)]) C.x C.b dX8_isSilent_55 hl (k := 3) rfl (nI_1 k) (by decide) rfl (fun ls hl => ?_)
        refine lv_goto (tgt := 2) C.x C.b dX8_isSilent_58 (by decide) ?_
        exact ih (k + 1) _ _ _ _ gL _ _ _ (by omega) hSm1 (fun J hJ h16 => if e : J = k then absurd (by rw [e]; exact (nI_eq (by omega) (by decide)).mp (show nI (k % 16) = nI 0 from c_4)) h16 else hI J (by omega) h16) l232 l233 l234 l235 (fun j hj => hfL j hj) hS (lv_sub hl [1, 2, 3, 0] rfl)
      · skip
        refine lv_aload_n C.x C.b dX8_isSilent_16 rfl (lv_at hl 0 rfl) ?_
        refine lv_iload_n C.x C.b dX8_isSilent_17 rfl (lv_at hl 3 rfl) ?_
        refine lv_bipush (v := 16) C.x C.b dX8_isSilent_18 (by decide) ?_
        refine lv_idiv C.x C.b dX8_isSilent_20 (by decide) ?_
        refine r_top (y := nI (k / 16)) (pk_div (by omega) (by decide) (by decide)) ?_
        refine lv_bipush (v := 16) C.x C.b dX8_isSilent_21 (by decide) ?_
        refine lv_imul C.x C.b dX8_isSilent_23 ?_
        refine r_top (y := nI ((k / 16) * 16)) (pk_mul (k / 16) 16) ?_
        refine lv_iload_n C.x C.b dX8_isSilent_24 rfl (lv_at hl 3 rfl) ?_
        refine lv_iload_n C.x C.b dX8_isSilent_25 rfl (lv_at hl 1 rfl) ?_
        refine lv_iload_n C.x C.b dX8_isSilent_26 rfl (lv_at hl 2 rfl) ?_
        obtain ⟨s_5, hs_6, hs_7⟩ := hSt ((k / 16) * 16) (by omega)
        obtain ⟨s_8, hs_9, hs_10⟩ := hSt k (by omega)
        have e_11 : gL 220 = .inr (8, [.int td, .int (nI n), .ref (B + 221), .ref (B + 222), .ref (B + 223), .int ey, .int wi, .int ev, .ref (B + 224), .ref (B + 225), .ref (B + 226), .ref (B + 227), .ref (B + 228), .ref (B + 229), .ref (B + 230), .ref (B + 231), .ref (B + 232), .ref (B + 233), .ref (B + 234), .ref (B + 235), .ref (B + 236), .int po, .int ps]) := (hfL _ (by omega)).trans m220
        have e_12 : gL 221 = .inl (t.1, 10, .inl o) := (hfL _ (by omega)).trans m221
        have e_13 : gL 226 = .inl (t.1, 256, .inl st) := (hfL _ (by omega)).trans m226
        have e_14 : gL 227 = .inl (t.1, 256, .inl an) := (hfL _ (by omega)).trans m227
        have e_15 : gL 228 = .inl (t.2.1, 256, .inl sp) := (hfL _ (by omega)).trans m228
        have e_16 : gL 229 = .inl (t.1, 10240, .inl pl) := (hfL _ (by omega)).trans m229
        have e_17 : gL 230 = .inl (t.1, 10240, .inl nu) := (hfL _ (by omega)).trans m230
        have e_18 : gL 231 = .inl (t.1, 10240, .inl co) := (hfL _ (by omega)).trans m231
        refine r_callV (b := 220) (As := [.int (nI ((k / 16) * 16)), .int (nI k), .int x, .int y]) (rest := []) (c_X8_unlike l D t B N gL _ _ _ _ _ _ _ _ _ _ _ _ _ _ _ _ _ _ ((k / 16) * 16) k s_5 s_8 x y (by omega) e_11 e_12 e_13 e_14 e_15 e_16 e_17 e_18 l232 l233 l234 l235 (by omega) (by omega) hs_7 hs_6 hs_10 hs_9 hPl hwi) mf_yX8_unlike mlX8_111 im_yX8_unlike se_yX8_unlike (by decide) C hS (by omega) e_11 (show vwCl[8]? = some _ from rfl) rfl rfl hl.1 rfl (Nat.le_of_ble_eq_true rfl) dX8_isSilent_27 ⟨Nat.zero_le _, Nat.zero_le _⟩ (fun r_21 g_19 H locs w_20 hS => ?_)
        obtain ⟨⟨e_23, e_24, e_25, e_26⟩, fo_27, hf_22⟩ := w_20
        have fo_27 := unl_can hs_7 hs_6 hs_10 hs_9 fo_27
        have al_28 : r_21 = -1 ↔ alikeR (seeM o pl nu co st an sp wi x y ((k / 16) * 16)) (seeM o pl nu co st an sp wi x y k) := foS_no (lookR_le _ _ _ _ _ _ _ _ _ _ _ _ _ _ _ (clamp_le hs_7 hs_6)) fo_27
        obtain ⟨sm_30, d_34, d_34k⟩ : ∃ f, g_19 232 = Sum.inl (t.1, 2, Sum.inl f) ∧ okSm f := ⟨_, e_23, okSm_upd1 (okSm_upd0 hSm1 (lookR_le _ _ _ _ _ _ _ _ _ _ _ _ _ _ _ hs_6)) (lookR_le _ _ _ _ _ _ _ _ _ _ _ _ _ _ _ hs_9)⟩
        obtain ⟨sw_31, d_35⟩ : ∃ f, g_19 233 = Sum.inl (t.1, 84, Sum.inl f) := ⟨_, e_24⟩
        obtain ⟨sn_32, d_36⟩ : ∃ f, g_19 234 = Sum.inl (t.1, 84, Sum.inl f) := ⟨_, e_25⟩
        obtain ⟨sq_33, d_37⟩ : ∃ f, g_19 235 = Sum.inl (t.1, 84, Sum.inl f) := ⟨_, e_26⟩
        refine lv_iconst (v := (-1)) C.x C.b dX8_isSilent_30 (by decide) ?_
        refine lv_icmp_ne (tgt := 37) C.x C.b dX8_isSilent_31 (by decide) (fun c_38 => ?_) (fun c_38 => ?_)
        · skip
          refine lv_aload_n C.x C.b dX8_isSilent_37 rfl (lv_at hl 0 rfl) ?_
          refine lv_iload_n C.x C.b dX8_isSilent_38 rfl (lv_at hl 3 rfl) ?_
          refine lv_bipush (v := 16) C.x C.b dX8_isSilent_39 (by decide) ?_
          refine lv_idiv C.x C.b dX8_isSilent_41 (by decide) ?_
          refine r_top (y := nI (k / 16)) (pk_div (by omega) (by decide) (by decide)) ?_
          have e_39 : g_19 220 = .inr (8, [.int td, .int (nI n), .ref (B + 221), .ref (B + 222), .ref (B + 223), .int ey, .int wi, .int ev, .ref (B + 224), .ref (B + 225), .ref (B + 226), .ref (B + 227), .ref (B + 228), .ref (B + 229), .ref (B + 230), .ref (B + 231), .ref (B + 232), .ref (B + 233), .ref (B + 234), .ref (B + 235), .ref (B + 236), .int po, .int ps]) := (hf_22 _ (by omega)).trans e_11
          refine r_put ck8 flX8_121 C hS (by omega) e_39 (by decide) rfl rfl rfl (Nat.le_of_ble_eq_true rfl) dX8_isSilent_42 (fun g_40 H locs e_41 o_42 hS => ?_)
          replace e_41 : g_40 220 = .inr (8, [.int td, .int (nI n), .ref (B + 221), .ref (B + 222), .ref (B + 223), .int ey, .int wi, .int ev, .ref (B + 224), .ref (B + 225), .ref (B + 226), .ref (B + 227), .ref (B + 228), .ref (B + 229), .ref (B + 230), .ref (B + 231), .ref (B + 232), .ref (B + 233), .ref (B + 234), .ref (B + 235), .ref (B + 236), .int (nI (k / 16)), .int ps]) := e_41
          refine lv_aload_n C.x C.b dX8_isSilent_45 rfl (lv_at hl 0 rfl) ?_
          refine lv_iload_n C.x C.b dX8_isSilent_46 rfl (lv_at hl 3 rfl) ?_
          refine lv_bipush (v := 16) C.x C.b dX8_isSilent_47 (by decide) ?_
          refine lv_irem C.x C.b dX8_isSilent_49 (by decide) ?_
          refine r_top (y := nI (k % 16)) (pk_rem (by omega) (by decide) (by decide)) ?_
          refine r_put ck8 flX8_124 C hS (by omega) e_41 (by decide) rfl rfl rfl (Nat.le_of_ble_eq_true rfl) dX8_isSilent_50 (fun g_43 H locs e_44 o_45 hS => ?_)
          replace e_44 : g_43 220 = .inr (8, [.int td, .int (nI n), .ref (B + 221), .ref (B + 222), .ref (B + 223), .int ey, .int wi, .int ev, .ref (B + 224), .ref (B + 225), .ref (B + 226), .ref (B + 227), .ref (B + 228), .ref (B + 229), .ref (B + 230), .ref (B + 231), .ref (B + 232), .ref (B + 233), .ref (B + 234), .ref (B + 235), .ref (B + 236), .int (nI (k / 16)), .int (nI (k % 16))]) := e_44
          refine lv_iconst (v := 0) C.x C.b dX8_isSilent_53 (by decide) ?_
          have e_46 : g_40 232 = .inl (t.1, 2, .inl sm_30) := (o_42 _ (by omega)).trans d_34
          have e_47 : g_43 232 = .inl (t.1, 2, .inl sm_30) := (o_45 _ (by omega)).trans e_46
          have e_48 : g_40 233 = .inl (t.1, 84, .inl sw_31) := (o_42 _ (by omega)).trans d_35
          have e_49 : g_43 233 = .inl (t.1, 84, .inl sw_31) := (o_45 _ (by omega)).trans e_48
          have e_50 : g_40 234 = .inl (t.1, 84, .inl sn_32) := (o_42 _ (by omega)).trans d_36
          have e_51 : g_43 234 = .inl (t.1, 84, .inl sn_32) := (o_45 _ (by omega)).trans e_50
          have e_52 : g_40 235 = .inl (t.1, 84, .inl sq_33) := (o_42 _ (by omega)).trans d_37
          have e_53 : g_43 235 = .inl (t.1, 84, .inl sq_33) := (o_45 _ (by omega)).trans e_52
          exact r_zret C hr hlocks hS (by decide) ⟨_, _, _, _, _, _, e_44, ⟨e_47, e_49, e_51, e_53⟩, d_34k, Or.inr ⟨rfl, k, by omega, (fun q => c_4 (show nI (k % 16) = 0 by rw [q]; rfl)), rfl, rfl, fun q => c_38 (al_28.mpr q), hI⟩, fun j hj => (o_45 j (by omega)).trans ((o_42 j (by omega)).trans ((hf_22 j (by omega)).trans (hfL j (by omega))))⟩ dX8_isSilent_54
        · skip
          refine lv_goto (tgt := 55) C.x C.b dX8_isSilent_34 (by decide) ?_
          refine lv_iinc (v := nI (k + 1)) (lv' := [(3, .int (nI (k + 1))), (0, .ref (B + 220)), (1, .int x), (2, .int y)]) C.x C.b dX8_isSilent_55 hl (k := 3) rfl (nI_1 k) (by decide) rfl (fun ls hl => ?_)
          refine lv_goto (tgt := 2) C.x C.b dX8_isSilent_58 (by decide) ?_
          exact ih (k + 1) _ _ _ _ g_19 _ _ _ (by omega) d_34k (fun J hJ h16 => if e : J = k then by rw [e]; exact al_28.mp c_38 else hI J (by omega) h16) d_34 d_35 d_36 d_37 (fun j hj => (hf_22 j (by omega)).trans (hfL j hj)) hS (lv_sub hl [1, 2, 3, 0] rfl)
  exact lp 256 0 _ _ _ _ g _ _ _ (by omega) hSm (fun _ h => absurd h (Nat.not_lt_zero _)) m232 m233 m234 m235 (fun _ _ => rfl) hS (lv_sub hl [1, 2, 3, 0] rfl)
