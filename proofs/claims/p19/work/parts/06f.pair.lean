theorem Mk.both {t : Gx} {B : Nat} {g g' g0 : Nat → va_E} {n : Nat} {ey wi ev : Int32} {o pr w : Nat → Int32} (h : Mk t B g0 g n ey wi ev o pr w) {td po ps : Int32} {sm' sw' sn' sq' : Nat → Int32} (e0 : g' 220 = mObj B td n ey wi ev po ps) (e : g' 232 = .inl (t.1, 2, .inl sm') ∧ g' 233 = .inl (t.1, 84, .inl sw') ∧ g' 234 = .inl (t.1, 84, .inl sn') ∧ g' 235 = .inl (t.1, 84, .inl sq')) (hs : okSm sm') (hf : ∀ j, (j ≠ 220 ∧ (j < 232 ∨ 235 < j)) → g' j = g j) : Mk t B g0 g' n ey wi ev o pr w := by
  obtain ⟨hc, td0, po0, ps0, rg, mm, st, an, sp, pl, nu, co, sm, sw, sn, sq, cl, ⟨a0, a1, a2, a3⟩, ⟨b0, b1, b2, b3, b4, b5, b6, b7⟩, ⟨c0, c1, c2, c3⟩, d0, h1, h2, h3, h4⟩ := h
  exact ⟨fun j hj => (hf j (by omega)).trans (hc j hj), td, po, ps, rg, mm, st, an, sp, pl, nu, co, sm', sw', sn', sq', cl, ⟨e0, (hf _ (by decide)).trans a1, (hf _ (by decide)).trans a2, (hf _ (by decide)).trans a3⟩, ⟨(hf _ (by decide)).trans b0, (hf _ (by decide)).trans b1, (hf _ (by decide)).trans b2, (hf _ (by decide)).trans b3, (hf _ (by decide)).trans b4, (hf _ (by decide)).trans b5, (hf _ (by decide)).trans b6, (hf _ (by decide)).trans b7⟩, e, (hf _ (by decide)).trans d0, h1, h2, h3, hs⟩
set_option maxHeartbeats 1000000 in
set_option maxRecDepth 100000 in
theorem k_X8_pair (l : Launch) (D : va_G) (t : Gx) (B N : Nat) (g : Nat → va_E) (n : Nat) (ey wi ev : Int32) (o pr w : Nat → Int32) (x : Int32) (hN : 236 < N) (hM : Msh t B g n ey wi ev o pr w) (hn : n ≤ 8) (hO : okO o) (hwi : ¬ wi = 0)  : Ci l D t B N yX8_pair cX8_pair 4 (some .int) 5 120 g [.ref (B + 220), .int x] (fun r g' => Mk t B g g' n ey wi ev o pr w) := by
  refine Ci.start (by decide) (Nat.le_of_ble_eq_true rfl) ?_
  intro p e s m below meth c ls C hr hlocks hS hl
  replace C : Cx D t p s m [.ref (B + 220), .int x].toArray c cX8_pair 4 RX8 := C
  replace hl : lv_has ls 4 [(0, .ref (B + 220)), (1, .int x)] := hl
  have hKp : Mk t B g g n ey wi ev o pr w := Mk.rf hM
  refine lv_aload_n C.x C.b dX8_pair_0 rfl (lv_at hl 0 rfl) ?_
  refine lv_iconst (v := 0) C.x C.b dX8_pair_1 (by decide) ?_
  obtain ⟨td_1, po_2, ps_3, rg_4, mm_5, st_6, an_7, sp_8, pl_9, nu_10, co_11, sm_12, sw_13, sn_14, sq_15, cl_16, ⟨e_17, e_18, e_19, e_20⟩, ⟨e_21, e_22, e_23, e_24, e_25, e_26, e_27, e_28⟩, ⟨e_29, e_30, e_31, e_32⟩, e_33, hSt_34, h01_35, hPl_36, hSm_37⟩ := hKp.2
  replace e_17 : g 220 = .inr (8, [.int td_1, .int (nI n), .ref (B + 221), .ref (B + 222), .ref (B + 223), .int ey, .int wi, .int ev, .ref (B + 224), .ref (B + 225), .ref (B + 226), .ref (B + 227), .ref (B + 228), .ref (B + 229), .ref (B + 230), .ref (B + 231), .ref (B + 232), .ref (B + 233), .ref (B + 234), .ref (B + 235), .ref (B + 236), .int po_2, .int ps_3]) := e_17
  refine r_put ck8 flX8_66 C hS (by omega) e_17 (by decide) rfl rfl rfl (Nat.le_of_ble_eq_true rfl) dX8_pair_2 (fun g_38 H locs e_39 o_40 hS => ?_)
  replace e_39 : g_38 220 = .inr (8, [.int 0, .int (nI n), .ref (B + 221), .ref (B + 222), .ref (B + 223), .int ey, .int wi, .int ev, .ref (B + 224), .ref (B + 225), .ref (B + 226), .ref (B + 227), .ref (B + 228), .ref (B + 229), .ref (B + 230), .ref (B + 231), .ref (B + 232), .ref (B + 233), .ref (B + 234), .ref (B + 235), .ref (B + 236), .int po_2, .int ps_3]) := e_39
  replace hKp : Mk t B g g_38 n ey wi ev o pr w := hKp.obj (td := 0) (po := po_2) (ps := ps_3) e_39 o_40
  refine lv_iload_n C.x C.b dX8_pair_5 rfl (lv_at hl 1 rfl) ?_
  refine lv_if_lt (tgt := 14) C.x C.b dX8_pair_6 (by decide) (fun c_41 => ?_) (fun c_41 => ?_)
  · skip
    refine lv_sipush (v := (-1001)) C.x C.b dX8_pair_14 (by decide) ?_
    exact r_iret C hr hlocks hS hKp dX8_pair_17
  · skip
    refine lv_iload_n C.x C.b dX8_pair_9 rfl (lv_at hl 1 rfl) ?_
    refine lv_iconst (v := 4) C.x C.b dX8_pair_10 (by decide) ?_
    refine lv_icmp_le (tgt := 18) C.x C.b dX8_pair_11 (by decide) (fun c_42 => ?_) (fun c_42 => ?_)
    · skip
      refine lv_aload_n C.x C.b dX8_pair_18 rfl (lv_at hl 0 rfl) ?_
      obtain ⟨td_46, po_47, ps_48, rg_49, mm_50, st_51, an_52, sp_53, pl_54, nu_55, co_56, sm_57, sw_58, sn_59, sq_60, cl_61, ⟨e_62, e_63, e_64, e_65⟩, ⟨e_66, e_67, e_68, e_69, e_70, e_71, e_72, e_73⟩, ⟨e_74, e_75, e_76, e_77⟩, e_78, hSt_79, h01_80, hPl_81, hSm_82⟩ := hKp.2
      replace e_62 : g_38 220 = .inr (8, [.int td_46, .int (nI n), .ref (B + 221), .ref (B + 222), .ref (B + 223), .int ey, .int wi, .int ev, .ref (B + 224), .ref (B + 225), .ref (B + 226), .ref (B + 227), .ref (B + 228), .ref (B + 229), .ref (B + 230), .ref (B + 231), .ref (B + 232), .ref (B + 233), .ref (B + 234), .ref (B + 235), .ref (B + 236), .int po_47, .int ps_48]) := e_62
      refine r_callVv (b := 220) (As := []) (rest := []) (k_goAll l D t B N g_38 _ _ _ _ _ _ _ (by omega) hKp.2 (by omega) hO) mf_yX8_goAll mlX8_115 im_yX8_goAll se_yX8_goAll (by decide) C hS (by omega) e_62 (show vwCl[8]? = some _ from rfl) rfl rfl hl.1 rfl (Nat.le_of_ble_eq_true rfl) dX8_pair_19 ⟨Nat.zero_le _, Nat.zero_le _⟩ (fun g_43 H locs w_44 hS => ?_)
      replace hKp : Mk t B g g_43 n ey wi ev o pr w := hKp.tr w_44
      refine lv_aload_n C.x C.b dX8_pair_22 rfl (lv_at hl 0 rfl) ?_
      refine lv_aload_n C.x C.b dX8_pair_23 rfl (lv_at hl 0 rfl) ?_
      obtain ⟨td_83, po_84, ps_85, rg_86, mm_87, st_88, an_89, sp_90, pl_91, nu_92, co_93, sm_94, sw_95, sn_96, sq_97, cl_98, ⟨e_99, e_100, e_101, e_102⟩, ⟨e_103, e_104, e_105, e_106, e_107, e_108, e_109, e_110⟩, ⟨e_111, e_112, e_113, e_114⟩, e_115, hSt_116, h01_117, hPl_118, hSm_119⟩ := hKp.2
      replace e_99 : g_43 220 = .inr (8, [.int td_83, .int (nI n), .ref (B + 221), .ref (B + 222), .ref (B + 223), .int ey, .int wi, .int ev, .ref (B + 224), .ref (B + 225), .ref (B + 226), .ref (B + 227), .ref (B + 228), .ref (B + 229), .ref (B + 230), .ref (B + 231), .ref (B + 232), .ref (B + 233), .ref (B + 234), .ref (B + 235), .ref (B + 236), .int po_84, .int ps_85]) := e_99
      refine r_get ck8 flX8_80 C hS (by omega) e_99 (by decide) rfl dX8_pair_24 ?_
      refine lv_aload_n C.x C.b dX8_pair_27 rfl (lv_at hl 0 rfl) ?_
      refine r_get ck8 flX8_19 C hS (by omega) e_99 (by decide) rfl dX8_pair_28 ?_
      refine r_callV (b := 220) (As := [.int ev, .int ey]) (rest := []) (c_X8_isSilent l D t B N g_43 _ _ _ _ _ _ _ _ _ _ _ _ _ _ _ _ _ _ ev ey (by omega) e_99 e_100 e_105 e_106 e_107 e_108 e_109 e_110 e_111 e_112 e_113 e_114 hSt_116 hPl_118 hSm_119 hwi) mf_yX8_isSilent mlX8_127 im_yX8_isSilent se_yX8_isSilent (by decide) C hS (by omega) e_99 (show vwCl[8]? = some _ from rfl) rfl rfl hl.1 rfl (Nat.le_of_ble_eq_true rfl) dX8_pair_31 ⟨Nat.zero_le _, Nat.zero_le _⟩ (fun r_122 g_120 H locs w_121 hS => ?_)
      obtain ⟨po_123, ps_124, sm_125, sw_126, sn_127, sq_128, e_129, ⟨e_130, e_131, e_132, e_133⟩, ok_134, alt_135, hf_136⟩ := w_121
      replace hKp : Mk t B g g_120 n ey wi ev o pr w := hKp.both e_129 ⟨e_130, e_131, e_132, e_133⟩ ok_134 hf_136
      rcases alt_135 with ⟨rfl, -⟩ | ⟨rfl, K_137, h_138, h_139, rfl, rfl, h_140, -⟩
      · replace e_129 : g_120 220 = .inr (8, [.int td_83, .int (nI n), .ref (B + 221), .ref (B + 222), .ref (B + 223), .int ey, .int wi, .int ev, .ref (B + 224), .ref (B + 225), .ref (B + 226), .ref (B + 227), .ref (B + 228), .ref (B + 229), .ref (B + 230), .ref (B + 231), .ref (B + 232), .ref (B + 233), .ref (B + 234), .ref (B + 235), .ref (B + 236), .int po_123, .int ps_124]) := e_129
        refine lv_if_eq (tgt := 41) C.x C.b dX8_pair_34 (by decide) (fun c_142 => absurd c_142 (by decide)) (fun c_142 => ?_)
        refine lv_sipush (v := (-1001)) C.x C.b dX8_pair_37 (by decide) ?_
        exact r_iret C hr hlocks hS hKp dX8_pair_40
      · replace e_129 : g_120 220 = .inr (8, [.int td_83, .int (nI n), .ref (B + 221), .ref (B + 222), .ref (B + 223), .int ey, .int wi, .int ev, .ref (B + 224), .ref (B + 225), .ref (B + 226), .ref (B + 227), .ref (B + 228), .ref (B + 229), .ref (B + 230), .ref (B + 231), .ref (B + 232), .ref (B + 233), .ref (B + 234), .ref (B + 235), .ref (B + 236), .int (nI (K_137 / 16)), .int (nI (K_137 % 16))]) := e_129
        refine lv_if_eq (tgt := 41) C.x C.b dX8_pair_34 (by decide) (fun c_143 => ?_) (fun c_143 => absurd (by decide) c_143)
        refine lv_iload_n C.x C.b dX8_pair_41 rfl (lv_at hl 1 rfl) ?_
        refine lv_if_ne (tgt := 50) C.x C.b dX8_pair_42 (by decide) (fun c_144 => ?_) (fun c_144 => ?_)
        · skip
          refine lv_iload_n C.x C.b dX8_pair_50 rfl (lv_at hl 1 rfl) ?_
          refine lv_iconst (v := 1) C.x C.b dX8_pair_51 (by decide) ?_
          refine lv_icmp_ne (tgt := 60) C.x C.b dX8_pair_52 (by decide) (fun c_145 => ?_) (fun c_145 => ?_)
          · skip
            refine lv_aload_n C.x C.b dX8_pair_60 rfl (lv_at hl 0 rfl) ?_
            refine lv_bipush (v := 16) C.x C.b dX8_pair_61 (by decide) ?_
            refine lv_aload_n C.x C.b dX8_pair_63 rfl (lv_at hl 0 rfl) ?_
            refine r_get ck8 flX8_121 C hS (by omega) e_129 (by decide) rfl dX8_pair_64 ?_
            refine lv_imul C.x C.b dX8_pair_67 ?_
            refine r_top (y := nI (16 * (K_137 / 16))) (pk_mul 16 (K_137 / 16)) ?_
            refine lv_bipush (v := 16) C.x C.b dX8_pair_68 (by decide) ?_
            refine lv_aload_n C.x C.b dX8_pair_70 rfl (lv_at hl 0 rfl) ?_
            refine r_get ck8 flX8_121 C hS (by omega) e_129 (by decide) rfl dX8_pair_71 ?_
            refine lv_imul C.x C.b dX8_pair_74 ?_
            refine r_top (y := nI (16 * (K_137 / 16))) (pk_mul 16 (K_137 / 16)) ?_
            refine lv_aload_n C.x C.b dX8_pair_75 rfl (lv_at hl 0 rfl) ?_
            refine r_get ck8 flX8_124 C hS (by omega) e_129 (by decide) rfl dX8_pair_76 ?_
            refine lv_iadd C.x C.b dX8_pair_79 ?_
            refine r_top (y := nI ((16 * (K_137 / 16)) + (K_137 % 16))) (nI_add (16 * (K_137 / 16)) (K_137 % 16)) ?_
            refine lv_aload_n C.x C.b dX8_pair_80 rfl (lv_at hl 0 rfl) ?_
            refine r_get ck8 flX8_80 C hS (by omega) e_129 (by decide) rfl dX8_pair_81 ?_
            refine lv_aload_n C.x C.b dX8_pair_84 rfl (lv_at hl 0 rfl) ?_
            refine r_get ck8 flX8_19 C hS (by omega) e_129 (by decide) rfl dX8_pair_85 ?_
            obtain ⟨s_146, hs_147, hs_148⟩ := hSt_116 (16 * (K_137 / 16)) (by omega)
            obtain ⟨s_149, hs_150, hs_151⟩ := hSt_116 ((16 * (K_137 / 16)) + (K_137 % 16)) (by omega)
            have e_152 : g_120 221 = .inl (t.1, 10, .inl o) := (hf_136 _ (by omega)).trans e_100
            have e_153 : g_120 226 = .inl (t.1, 256, .inl st_88) := (hf_136 _ (by omega)).trans e_105
            have e_154 : g_120 227 = .inl (t.1, 256, .inl an_89) := (hf_136 _ (by omega)).trans e_106
            have e_155 : g_120 228 = .inl (t.2.1, 256, .inl sp_90) := (hf_136 _ (by omega)).trans e_107
            have e_156 : g_120 229 = .inl (t.1, 10240, .inl pl_91) := (hf_136 _ (by omega)).trans e_108
            have e_157 : g_120 230 = .inl (t.1, 10240, .inl nu_92) := (hf_136 _ (by omega)).trans e_109
            have e_158 : g_120 231 = .inl (t.1, 10240, .inl co_93) := (hf_136 _ (by omega)).trans e_110
            refine r_callV (b := 220) (As := [.int (nI (16 * (K_137 / 16))), .int (nI ((16 * (K_137 / 16)) + (K_137 % 16))), .int ev, .int ey]) (rest := []) (c_X8_unlike l D t B N g_120 _ _ _ _ _ _ _ _ _ _ _ _ _ _ _ _ _ _ (16 * (K_137 / 16)) ((16 * (K_137 / 16)) + (K_137 % 16)) s_146 s_149 ev ey (by omega) e_129 e_152 e_153 e_154 e_155 e_156 e_157 e_158 e_130 e_131 e_132 e_133 (by omega) (by omega) hs_148 hs_147 hs_151 hs_150 hPl_118 hwi) mf_yX8_unlike mlX8_111 im_yX8_unlike se_yX8_unlike (by decide) C hS (by omega) e_129 (show vwCl[8]? = some _ from rfl) rfl rfl hl.1 rfl (Nat.le_of_ble_eq_true rfl) dX8_pair_88 ⟨Nat.zero_le _, Nat.zero_le _⟩ (fun r_161 g_159 H locs w_160 hS => ?_)
            obtain ⟨⟨e_163, e_164, e_165, e_166⟩, fo_167, hf_162⟩ := w_160
            have al_168 : r_161 = -1 ↔ alikeR (seeM o pl_91 nu_92 co_93 st_88 an_89 sp_90 wi ev ey (16 * (K_137 / 16))) (seeM o pl_91 nu_92 co_93 st_88 an_89 sp_90 wi ev ey ((16 * (K_137 / 16)) + (K_137 % 16))) := foS_no (lookR_le _ _ _ _ _ _ _ _ _ _ _ _ _ _ _ (clamp_le hs_148 hs_147)) (unl_can hs_148 hs_147 hs_151 hs_150 fo_167)
            have hnR : (16 * (K_137 / 16)) = K_137 / 16 * 16 := by omega
            have hnQ : ((16 * (K_137 / 16)) + (K_137 % 16)) = K_137 := by omega
            have hne : ¬ r_161 = -1 := fun q => h_140 (by have z := al_168.mp q; rw [hnQ, hnR] at z; exact z)
            have l0 := lookR_le o pl_91 nu_92 co_93 wi ev ey 0 (16 * (K_137 / 16)) s_146 (an_89 (16 * (K_137 / 16))) (sp_90 (16 * (K_137 / 16))) sw_126 sn_127 sq_128 hs_147
            have l1 := lookR_le o pl_91 nu_92 co_93 wi ev ey 1 ((16 * (K_137 / 16)) + (K_137 % 16)) s_149 (an_89 ((16 * (K_137 / 16)) + (K_137 % 16))) (sp_90 ((16 * (K_137 / 16)) + (K_137 % 16))) (lookR o pl_91 nu_92 co_93 wi ev ey 0 (16 * (K_137 / 16)) s_146 (an_89 (16 * (K_137 / 16))) (sp_90 (16 * (K_137 / 16))) (sw_126, sn_127, sq_128, 0)).1 (lookR o pl_91 nu_92 co_93 wi ev ey 0 (16 * (K_137 / 16)) s_146 (an_89 (16 * (K_137 / 16))) (sp_90 (16 * (K_137 / 16))) (sw_126, sn_127, sq_128, 0)).2.1 (lookR o pl_91 nu_92 co_93 wi ev ey 0 (16 * (K_137 / 16)) s_146 (an_89 (16 * (K_137 / 16))) (sp_90 (16 * (K_137 / 16))) (sw_126, sn_127, sq_128, 0)).2.2.1 hs_150
            replace hKp : Mk t B g g_159 n ey wi ev o pr w := hKp.see ⟨e_163, e_164, e_165, e_166⟩ (okSm_upd1 (okSm_upd0 ok_134 l0) l1) hf_162
            have hfr := fo_167.resolve_left (fun q => hne q.2.2)
            generalize (lookR o pl_91 nu_92 co_93 wi ev ey 1 ((16 * (K_137 / 16)) + (K_137 % 16)) s_149 (an_89 ((16 * (K_137 / 16)) + (K_137 % 16))) (sp_90 ((16 * (K_137 / 16)) + (K_137 % 16))) ((lookR o pl_91 nu_92 co_93 wi ev ey 0 (16 * (K_137 / 16)) s_146 (an_89 (16 * (K_137 / 16))) (sp_90 (16 * (K_137 / 16))) (sw_126, sn_127, sq_128, 0)).1, (lookR o pl_91 nu_92 co_93 wi ev ey 0 (16 * (K_137 / 16)) s_146 (an_89 (16 * (K_137 / 16))) (sp_90 (16 * (K_137 / 16))) (sw_126, sn_127, sq_128, 0)).2.1, (lookR o pl_91 nu_92 co_93 wi ev ey 0 (16 * (K_137 / 16)) s_146 (an_89 (16 * (K_137 / 16))) (sp_90 (16 * (K_137 / 16))) (sw_126, sn_127, sq_128, 0)).2.2.1, 0)) = Z1 at e_163 e_164 e_165 e_166 hfr l1
            generalize (lookR o pl_91 nu_92 co_93 wi ev ey 0 (16 * (K_137 / 16)) s_146 (an_89 (16 * (K_137 / 16))) (sp_90 (16 * (K_137 / 16))) (sw_126, sn_127, sq_128, 0)) = Z0 at e_163 e_164 e_165 e_166 hfr l0
            obtain ⟨kq, ka, kb, kc, -, -, rfl⟩ := hfr
            refine lv_istore_n (lv' := [(2, .int (nI kq)), (0, .ref (B + 220)), (1, .int x)]) C.x C.b dX8_pair_91 rfl hl (by decide) rfl (fun ls hl => ?_)
            refine lv_iload_n C.x C.b dX8_pair_92 rfl (lv_at hl 2 rfl) ?_
            refine lv_iconst (v := 2) C.x C.b dX8_pair_93 (by decide) ?_
            refine lv_icmp_ne (tgt := 99) C.x C.b dX8_pair_94 (by decide) (fun c_173 => ?_) (fun c_173 => ?_)
            · skip
              refine lv_iload_n C.x C.b dX8_pair_99 rfl (lv_at hl 0 rfl) ?_
              refine lv_aload_n C.x C.b dX8_pair_100 rfl (lv_at hl 1 rfl) ?_
              have e_174 : g_159 220 = .inr (8, [.int td_83, .int (nI n), .ref (B + 221), .ref (B + 222), .ref (B + 223), .int ey, .int wi, .int ev, .ref (B + 224), .ref (B + 225), .ref (B + 226), .ref (B + 227), .ref (B + 228), .ref (B + 229), .ref (B + 230), .ref (B + 231), .ref (B + 232), .ref (B + 233), .ref (B + 234), .ref (B + 235), .ref (B + 236), .int (nI (K_137 / 16)), .int (nI (K_137 % 16))]) := (hf_162 _ (by omega)).trans e_129
              refine r_get ck8 flX8_51 C hS (by omega) e_174 (by decide) rfl dX8_pair_101 ?_
              refine lv_iconst (v := 0) C.x C.b dX8_pair_104 (by decide) ?_
              refine r_ialdN 0 rfl (by omega) (by decide) C hS (by omega) e_163 dX8_pair_105 ?_
              refine r_top (y := nI Z0.2.2.2) (by rw [pk_un (by decide), pk_us]) ?_
              refine lv_icmp_ge (tgt := 113) C.x C.b dX8_pair_106 (by decide) (fun c_175 => ?_) (fun c_175 => ?_)
              · skip
                have hkz : Z0.2.2.2 ≤ kq := Nat.le_of_not_lt (fun q => (nI_ge q (by omega)) c_175)
                refine lv_bipush (v := 42) C.x C.b dX8_pair_113 (by decide) ?_
                refine lv_iload_n C.x C.b dX8_pair_115 rfl (lv_at hl 0 rfl) ?_
                refine lv_iadd C.x C.b dX8_pair_116 ?_
                refine r_top (y := nI (42 + kq)) (nI_add 42 kq) ?_
                refine lv_istore_n (lv' := [(3, .int (nI (42 + kq))), (2, .int (nI kq)), (0, .ref (B + 220)), (1, .int x)]) C.x C.b dX8_pair_117 rfl hl (by decide) rfl (fun ls hl => ?_)
                refine lv_iload_n C.x C.b dX8_pair_118 rfl (lv_at hl 3 rfl) ?_
                refine lv_iconst (v := 3) C.x C.b dX8_pair_119 (by decide) ?_
                refine lv_icmp_ne (tgt := 132) C.x C.b dX8_pair_120 (by decide) (fun c_176 => ?_) (fun c_176 => ?_)
                · skip
                  refine lv_aload_n C.x C.b dX8_pair_132 rfl (lv_at hl 2 rfl) ?_
                  refine r_get ck8 flX8_54 C hS (by omega) e_174 (by decide) rfl dX8_pair_133 ?_
                  refine lv_iload_n C.x C.b dX8_pair_136 rfl (lv_at hl 0 rfl) ?_
                  refine r_ialdN (42 + kq) rfl (by omega) (by decide) C hS (by omega) e_164 dX8_pair_137 ?_
                  exact r_iret C hr hlocks hS hKp dX8_pair_138
                · skip
                  refine lv_aload_n C.x C.b dX8_pair_123 rfl (lv_at hl 2 rfl) ?_
                  refine r_get ck8 flX8_60 C hS (by omega) e_174 (by decide) rfl dX8_pair_124 ?_
                  refine lv_iload_n C.x C.b dX8_pair_127 rfl (lv_at hl 0 rfl) ?_
                  refine r_ialdN (42 + kq) rfl (by omega) (by decide) C hS (by omega) e_166 dX8_pair_128 ?_
                  refine lv_goto (tgt := 138) C.x C.b dX8_pair_129 (by decide) ?_
                  exact r_iret C hr hlocks hS hKp dX8_pair_138
              · skip
                have hkz : kq < Z0.2.2.2 := Nat.lt_of_not_le (fun q => c_175 (nI_le q (by omega)))
                refine lv_iload_n C.x C.b dX8_pair_109 rfl (lv_at hl 0 rfl) ?_
                refine lv_goto (tgt := 117) C.x C.b dX8_pair_110 (by decide) ?_
                refine lv_istore_n (lv' := [(3, .int (nI kq)), (2, .int (nI kq)), (0, .ref (B + 220)), (1, .int x)]) C.x C.b dX8_pair_117 rfl hl (by decide) rfl (fun ls hl => ?_)
                refine lv_iload_n C.x C.b dX8_pair_118 rfl (lv_at hl 3 rfl) ?_
                refine lv_iconst (v := 3) C.x C.b dX8_pair_119 (by decide) ?_
                refine lv_icmp_ne (tgt := 132) C.x C.b dX8_pair_120 (by decide) (fun c_177 => ?_) (fun c_177 => ?_)
                · skip
                  refine lv_aload_n C.x C.b dX8_pair_132 rfl (lv_at hl 2 rfl) ?_
                  refine r_get ck8 flX8_54 C hS (by omega) e_174 (by decide) rfl dX8_pair_133 ?_
                  refine lv_iload_n C.x C.b dX8_pair_136 rfl (lv_at hl 0 rfl) ?_
                  refine r_ialdN kq rfl (by omega) (by decide) C hS (by omega) e_164 dX8_pair_137 ?_
                  exact r_iret C hr hlocks hS hKp dX8_pair_138
                · skip
                  refine lv_aload_n C.x C.b dX8_pair_123 rfl (lv_at hl 2 rfl) ?_
                  refine r_get ck8 flX8_60 C hS (by omega) e_174 (by decide) rfl dX8_pair_124 ?_
                  refine lv_iload_n C.x C.b dX8_pair_127 rfl (lv_at hl 0 rfl) ?_
                  refine r_ialdN kq rfl (by omega) (by decide) C hS (by omega) e_166 dX8_pair_128 ?_
                  refine lv_goto (tgt := 138) C.x C.b dX8_pair_129 (by decide) ?_
                  exact r_iret C hr hlocks hS hKp dX8_pair_138
            · skip
              refine lv_iload_n C.x C.b dX8_pair_97 rfl (lv_at hl 0 rfl) ?_
              exact r_iret C hr hlocks hS hKp dX8_pair_98
          · skip
            refine lv_aload_n C.x C.b dX8_pair_55 rfl (lv_at hl 0 rfl) ?_
            refine r_get ck8 flX8_124 C hS (by omega) e_129 (by decide) rfl dX8_pair_56 ?_
            exact r_iret C hr hlocks hS hKp dX8_pair_59
        · skip
          refine lv_aload_n C.x C.b dX8_pair_45 rfl (lv_at hl 0 rfl) ?_
          refine r_get ck8 flX8_121 C hS (by omega) e_129 (by decide) rfl dX8_pair_46 ?_
          exact r_iret C hr hlocks hS hKp dX8_pair_49
    · skip
      refine lv_sipush (v := (-1001)) C.x C.b dX8_pair_14 (by decide) ?_
      exact r_iret C hr hlocks hS hKp dX8_pair_17
