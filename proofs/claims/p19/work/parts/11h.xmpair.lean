section SIL
variable {X : Nat → RW}
theorem sil_all (h : ∀ J, J < 256 → ¬ J % 16 = 0 → alikeR (X (J / 16 * 16)) (X J)) : ∀ a, a < 16 → ∀ b, b < 16 → alikeR (X (16 * a + 0)) (X (16 * a + b)) := fun a ha b hb => by
  by_cases e : b = 0
  · subst e
    exact alikeR_rf _
  · have := h (16 * a + b) (by omega) (by omega)
    rw [show (16 * a + b) / 16 * 16 = 16 * a + 0 by omega] at this
    exact this
theorem sil_ne {K : Nat} (hK : K < 256) (h : ¬ alikeR (X (K / 16 * 16)) (X K)) : ¬ alikeR (X (16 * (K / 16) + 0)) (X (16 * (K / 16) + K % 16)) := by
  rw [show 16 * (K / 16) + 0 = K / 16 * 16 by omega, show 16 * (K / 16) + K % 16 = K by omega]
  exact h
theorem sil_lo {K : Nat} (hK : K < 256) (h : ∀ J, J < K → ¬ J % 16 = 0 → alikeR (X (J / 16 * 16)) (X J)) : ∀ c, c < K / 16 → ∀ b, b < 16 → alikeR (X (16 * c + 0)) (X (16 * c + b)) := fun c hc b hb => by
  by_cases e : b = 0
  · subst e
    exact alikeR_rf _
  · have := h (16 * c + b) (by omega) (by omega)
    rw [show (16 * c + b) / 16 * 16 = 16 * c + 0 by omega] at this
    exact this
theorem sil_be {K : Nat} (hK : K < 256) (h0 : ¬ K % 16 = 0) (h : ∀ J, J < K → ¬ J % 16 = 0 → alikeR (X (J / 16 * 16)) (X J)) : ∀ c, c < K % 16 → alikeR (X (16 * (K / 16) + 0)) (X (16 * (K / 16) + c)) := fun c hc => by
  by_cases e : c = 0
  · subst e
    exact alikeR_rf _
  · have := h (16 * (K / 16) + c) (by omega) (by omega)
    rw [show (16 * (K / 16) + c) / 16 * 16 = 16 * (K / 16) + 0 by omega] at this
    exact this
end SIL
theorem ftA_two {X Y : RW} {z r : Int32} {k : Nat} (h : foS X.1 X.2.1 X.2.2.2 Y.1 Y.2.1 Y.2.2.2 (nI k)) (hk : k < X.2.2.2 ∨ k < Y.2.2.2) (e : r = if z = 2 then nI k else 0) (hz : z = 2 := by assumption) : ftA X Y z r := Or.inr ⟨k, h, hk, by rw [if_pos hz] at e ⊢; exact e⟩

set_option maxHeartbeats 1000000 in
set_option maxRecDepth 100000 in
theorem x_X8_pair (l : Launch) (D : va_G) (t : Gx) (B N : Nat) (g : Nat → va_E) (n : Nat) (ey wi ev : Int32) (o pr w : Nat → Int32) (x : Int32) (hN : 236 < N) (hM : Msh t B g n ey wi ev o pr w) (hn : n ≤ 8) (hO : okO o) (hwi : ¬ wi = 0)  : Ci l D t B N yX8_pair cX8_pair 4 (some .int) 5 120 g [.ref (B + 220), .int x] (fun r g' => Mk t B g g' n ey wi ev o pr w ∧ pairA (fun a b => obR o n w wi ev ey (16 * a + b)) x r) := by
  refine Ci.start (by decide) (Nat.le_of_ble_eq_true rfl) ?_
  intro p e s m below meth c ls C hr hlocks hS hl
  replace C : Cx D t p s m [.ref (B + 220), .int x].toArray c cX8_pair 4 RX8 := C
  replace hl : lv_has ls 4 [(0, .ref (B + 220)), (1, .int x)] := hl
  have hKp : Mk t B g g n ey wi ev o pr w := Mk.rf hM
  refine lv_aload_n C.x C.b dX8_pair_0 rfl (lv_at hl 0 rfl) ?_
  refine lv_iconst (v := 0) C.x C.b dX8_pair_1 (by decide) ?_
  obtain ⟨td_1, po_2, ps_3, rg_4, mm_5, st_6, an_7, sp_8, pl_9, nu_10, co_11, sm_12, sw_13, sn_14, sq_15, cl_16, ⟨e_17, e_18, e_19, e_20⟩, ⟨e_21, e_22, e_23, e_24, e_25, e_26, e_27, e_28⟩, ⟨e_29, e_30, e_31, e_32⟩, e_33, hSt_34, h01_35, hPl_36, hSm_37⟩ := hKp.2
  replace e_17 : g 220 = .inr (8, [.int td_1, .int (nI n), .ref (B + 221), .ref (B + 222), .ref (B + 223), .int ey, .int wi, .int ev, .ref (B + 224), .ref (B + 225), .ref (B + 226), .ref (B + 227), .ref (B + 228), .ref (B + 229), .ref (B + 230), .ref (B + 231), .ref (B + 232), .ref (B + 233), .ref (B + 234), .ref (B + 235), .ref (B + 236), .int po_2, .int ps_3]) := e_17
  refine r_put ck8 flX8_66 C hS (by omega) e_17 (by decide) rfl rfl rfl (Nat.le_of_ble_eq_true rfl) dX8_pair_2 (fun g_38 H locs e_39 o_40 hS => ?_)
  replace e_39 : g_38 220 = .inr (8, [.int 0, .int (nI n), .ref (B + 221), .ref (B + 222), .ref (B + 223), .int ey, .int wi, .int ev, .ref (B + 224), .ref (B + 225), .ref (B + 226), .ref (B + 227), .ref (B + 228), .ref (B + 229), .ref (B + 230), .ref (B + 231), .ref (B + 232), .ref (B + 233), .ref (B + 234), .ref (B + 235), .ref (B + 236), .int po_2, .int ps_3]) := e_39
  replace hKp : Mk t B g g_38 n ey wi ev o pr w := hKp.obj (td := 0) (po := po_2) (ps := ps_3) e_39 o_40
  refine lv_iload_n C.x C.b dX8_pair_5 rfl (lv_at hl 1 rfl) ?_
  refine lv_if_lt (tgt := 14) C.x C.b dX8_pair_6 (by decide) (fun c_41 => ?_) (fun c_41 => ?_)
  · skip
    refine lv_sipush (v := (-1001)) C.x C.b dX8_pair_14 (by decide) ?_
    exact r_iret C hr hlocks hS ⟨hKp, Or.inl ⟨Or.inl c_41, rfl⟩⟩ dX8_pair_17
  · skip
    refine lv_iload_n C.x C.b dX8_pair_9 rfl (lv_at hl 1 rfl) ?_
    refine lv_iconst (v := 4) C.x C.b dX8_pair_10 (by decide) ?_
    refine lv_icmp_le (tgt := 18) C.x C.b dX8_pair_11 (by decide) (fun c_42 => ?_) (fun c_42 => ?_)
    · skip
      refine lv_aload_n C.x C.b dX8_pair_18 rfl (lv_at hl 0 rfl) ?_
      obtain ⟨td_46, po_47, ps_48, rg_49, mm_50, st_51, an_52, sp_53, pl_54, nu_55, co_56, sm_57, sw_58, sn_59, sq_60, cl_61, ⟨e_62, e_63, e_64, e_65⟩, ⟨e_66, e_67, e_68, e_69, e_70, e_71, e_72, e_73⟩, ⟨e_74, e_75, e_76, e_77⟩, e_78, hSt_79, h01_80, hPl_81, hSm_82⟩ := hKp.2
      replace e_62 : g_38 220 = .inr (8, [.int td_46, .int (nI n), .ref (B + 221), .ref (B + 222), .ref (B + 223), .int ey, .int wi, .int ev, .ref (B + 224), .ref (B + 225), .ref (B + 226), .ref (B + 227), .ref (B + 228), .ref (B + 229), .ref (B + 230), .ref (B + 231), .ref (B + 232), .ref (B + 233), .ref (B + 234), .ref (B + 235), .ref (B + 236), .int po_47, .int ps_48]) := e_62
      refine r_callVv (b := 220) (As := []) (rest := []) (ke_goAll l D t B N g_38 _ _ _ _ _ _ _ (by omega) hKp.2 (by omega) hO) mf_yX8_goAll mlX8_115 im_yX8_goAll se_yX8_goAll (by decide) C hS (by omega) e_62 (show vwCl[8]? = some _ from rfl) rfl rfl hl.1 rfl (Nat.le_of_ble_eq_true rfl) dX8_pair_19 ⟨Nat.zero_le _, Nat.zero_le _⟩ (fun g_43 H locs w_44 hS => ?_)
      obtain ⟨w_44, hA⟩ := w_44
      replace hKp : Mk t B g g_43 n ey wi ev o pr w := hKp.tr w_44
      refine lv_aload_n C.x C.b dX8_pair_22 rfl (lv_at hl 0 rfl) ?_
      refine lv_aload_n C.x C.b dX8_pair_23 rfl (lv_at hl 0 rfl) ?_
      obtain ⟨td_83, po_84, ps_85, rg_86, mm_87, st_88, an_89, sp_90, pl_91, nu_92, co_93, sm_94, sw_95, sn_96, sq_97, cl_98, ⟨e_99, e_100, e_101, e_102⟩, ⟨e_103, e_104, e_105, e_106, e_107, e_108, e_109, e_110⟩, ⟨e_111, e_112, e_113, e_114⟩, e_115, hSt_116, h01_117, hPl_118, hSm_119⟩ := hKp.2
      replace e_99 : g_43 220 = .inr (8, [.int td_83, .int (nI n), .ref (B + 221), .ref (B + 222), .ref (B + 223), .int ey, .int wi, .int ev, .ref (B + 224), .ref (B + 225), .ref (B + 226), .ref (B + 227), .ref (B + 228), .ref (B + 229), .ref (B + 230), .ref (B + 231), .ref (B + 232), .ref (B + 233), .ref (B + 234), .ref (B + 235), .ref (B + 236), .int po_84, .int ps_85]) := e_99
      refine r_get ck8 flX8_80 C hS (by omega) e_99 (by decide) rfl dX8_pair_24 ?_
      refine lv_aload_n C.x C.b dX8_pair_27 rfl (lv_at hl 0 rfl) ?_
      refine r_get ck8 flX8_19 C hS (by omega) e_99 (by decide) rfl dX8_pair_28 ?_
      refine r_callV (b := 220) (As := [.int ev, .int ey]) (rest := []) (ke_silent l D t B N g_43 _ _ _ _ _ _ _ ev ey (by omega) hKp.2 hA hwi) mf_yX8_isSilent mlX8_127 im_yX8_isSilent se_yX8_isSilent (by decide) C hS (by omega) e_99 (show vwCl[8]? = some _ from rfl) rfl rfl hl.1 rfl (Nat.le_of_ble_eq_true rfl) dX8_pair_31 ⟨Nat.zero_le _, Nat.zero_le _⟩ (fun r_122 g_120 H locs w_121 hS => ?_)
      obtain ⟨w_121, hA, al_123⟩ := w_121
      replace hKp : Mk t B g g_120 n ey wi ev o pr w := hKp.tr w_121
      rcases al_123 with ⟨rfl, q_131⟩ | ⟨rfl, K_124, hk_125, hk_126, ⟨td_127, e_128⟩, hk_129, hk_130⟩
      · skip
        refine lv_if_eq (tgt := 41) C.x C.b dX8_pair_34 (by decide) (fun c_132 => absurd c_132 (by decide)) (fun c_132 => ?_)
        refine lv_sipush (v := (-1001)) C.x C.b dX8_pair_37 (by decide) ?_
        exact r_iret C hr hlocks hS ⟨hKp, Or.inr (Or.inl ⟨c_41, c_42, sil_all (X := fun R => obR o n w wi ev ey R) q_131, rfl⟩)⟩ dX8_pair_40
      · skip
        have e_133 : g_120 220 = .inr (8, [.int td_127, .int (nI n), .ref (B + 221), .ref (B + 222), .ref (B + 223), .int ey, .int wi, .int ev, .ref (B + 224), .ref (B + 225), .ref (B + 226), .ref (B + 227), .ref (B + 228), .ref (B + 229), .ref (B + 230), .ref (B + 231), .ref (B + 232), .ref (B + 233), .ref (B + 234), .ref (B + 235), .ref (B + 236), .int (nI (K_124 / 16)), .int (nI (K_124 % 16))]) := e_128
        refine lv_if_eq (tgt := 41) C.x C.b dX8_pair_34 (by decide) (fun c_134 => ?_) (fun c_134 => absurd (by decide) c_134)
        refine lv_iload_n C.x C.b dX8_pair_41 rfl (lv_at hl 1 rfl) ?_
        refine lv_if_ne (tgt := 50) C.x C.b dX8_pair_42 (by decide) (fun c_135 => ?_) (fun c_135 => ?_)
        · skip
          refine lv_iload_n C.x C.b dX8_pair_50 rfl (lv_at hl 1 rfl) ?_
          refine lv_iconst (v := 1) C.x C.b dX8_pair_51 (by decide) ?_
          refine lv_icmp_ne (tgt := 60) C.x C.b dX8_pair_52 (by decide) (fun c_136 => ?_) (fun c_136 => ?_)
          · skip
            refine lv_aload_n C.x C.b dX8_pair_60 rfl (lv_at hl 0 rfl) ?_
            refine lv_bipush (v := 16) C.x C.b dX8_pair_61 (by decide) ?_
            refine lv_aload_n C.x C.b dX8_pair_63 rfl (lv_at hl 0 rfl) ?_
            refine r_get ck8 flX8_121 C hS (by omega) e_133 (by decide) rfl dX8_pair_64 ?_
            refine lv_imul C.x C.b dX8_pair_67 ?_
            refine r_top (y := nI (16 * (K_124 / 16))) (pk_mul 16 (K_124 / 16)) ?_
            refine lv_bipush (v := 16) C.x C.b dX8_pair_68 (by decide) ?_
            refine lv_aload_n C.x C.b dX8_pair_70 rfl (lv_at hl 0 rfl) ?_
            refine r_get ck8 flX8_121 C hS (by omega) e_133 (by decide) rfl dX8_pair_71 ?_
            refine lv_imul C.x C.b dX8_pair_74 ?_
            refine r_top (y := nI (16 * (K_124 / 16))) (pk_mul 16 (K_124 / 16)) ?_
            refine lv_aload_n C.x C.b dX8_pair_75 rfl (lv_at hl 0 rfl) ?_
            refine r_get ck8 flX8_124 C hS (by omega) e_133 (by decide) rfl dX8_pair_76 ?_
            refine lv_iadd C.x C.b dX8_pair_79 ?_
            refine r_top (y := nI ((16 * (K_124 / 16)) + (K_124 % 16))) (nI_add (16 * (K_124 / 16)) (K_124 % 16)) ?_
            refine lv_aload_n C.x C.b dX8_pair_80 rfl (lv_at hl 0 rfl) ?_
            refine r_get ck8 flX8_80 C hS (by omega) e_133 (by decide) rfl dX8_pair_81 ?_
            refine lv_aload_n C.x C.b dX8_pair_84 rfl (lv_at hl 0 rfl) ?_
            refine r_get ck8 flX8_19 C hS (by omega) e_133 (by decide) rfl dX8_pair_85 ?_
            refine r_callV (b := 220) (As := [.int (nI (16 * (K_124 / 16))), .int (nI ((16 * (K_124 / 16)) + (K_124 % 16))), .int ev, .int ey]) (rest := []) (ke_unlike l D t B N g_120 _ _ _ _ _ _ _ (16 * (K_124 / 16)) ((16 * (K_124 / 16)) + (K_124 % 16)) ev ey (by omega) hKp.2 hA (by omega) (by omega) hwi) mf_yX8_unlike mlX8_111 im_yX8_unlike se_yX8_unlike (by decide) C hS (by omega) e_133 (show vwCl[8]? = some _ from rfl) rfl rfl hl.1 rfl (Nat.le_of_ble_eq_true rfl) dX8_pair_88 ⟨Nat.zero_le _, Nat.zero_le _⟩ (fun r_139 g_137 H locs w_138 hS => ?_)
            obtain ⟨w_138, fo_140, tw_141, hf_142⟩ := w_138
            replace hKp : Mk t B g g_137 n ey wi ev o pr w := hKp.tr w_138
            have hne : ¬ alikeR (obR o n w wi ev ey (16 * (K_124 / 16))) (obR o n w wi ev ey ((16 * (K_124 / 16)) + (K_124 % 16))) := sil_ne (X := fun R => obR o n w wi ev ey R) hk_125 hk_129
            have hfk := id fo_140
            rcases fo_140 with ⟨z1, z2, -⟩ | ⟨kq_143, ka_144, kb_145, kc_146, -, -, rfl⟩
            · exact absurd ⟨z1, z2⟩ hne
            have hlX := obR_le (o := o) (n := n) (w := w) (wi := wi) (x := ev) (y := ey) (R := (16 * (K_124 / 16)))
            have hlY := obR_le (o := o) (n := n) (w := w) (wi := wi) (x := ev) (y := ey) (R := ((16 * (K_124 / 16)) + (K_124 % 16)))
            obtain ⟨sm_147, sw_148, sn_149, sq_150, ⟨e_151, e_152, e_153, e_154⟩, s_155, s_156, hx_157, hy_158⟩ := tw_141
            refine lv_istore_n (lv' := [(2, .int (nI kq_143)), (0, .ref (B + 220)), (1, .int x)]) C.x C.b dX8_pair_91 rfl hl (by decide) rfl (fun ls hl => ?_)
            refine lv_iload_n C.x C.b dX8_pair_92 rfl (lv_at hl 2 rfl) ?_
            refine lv_iconst (v := 2) C.x C.b dX8_pair_93 (by decide) ?_
            refine lv_icmp_ne (tgt := 99) C.x C.b dX8_pair_94 (by decide) (fun c_159 => ?_) (fun c_159 => ?_)
            · skip
              refine lv_iload_n C.x C.b dX8_pair_99 rfl (lv_at hl 0 rfl) ?_
              refine lv_aload_n C.x C.b dX8_pair_100 rfl (lv_at hl 1 rfl) ?_
              obtain ⟨td_160, po_161, ps_162, rg_163, mm_164, st_165, an_166, sp_167, pl_168, nu_169, co_170, sm_171, sw_172, sn_173, sq_174, cl_175, ⟨e_176, e_177, e_178, e_179⟩, ⟨e_180, e_181, e_182, e_183, e_184, e_185, e_186, e_187⟩, ⟨e_188, e_189, e_190, e_191⟩, e_192, hSt_193, h01_194, hPl_195, hSm_196⟩ := hKp.2
              replace e_176 : g_137 220 = .inr (8, [.int td_160, .int (nI n), .ref (B + 221), .ref (B + 222), .ref (B + 223), .int ey, .int wi, .int ev, .ref (B + 224), .ref (B + 225), .ref (B + 226), .ref (B + 227), .ref (B + 228), .ref (B + 229), .ref (B + 230), .ref (B + 231), .ref (B + 232), .ref (B + 233), .ref (B + 234), .ref (B + 235), .ref (B + 236), .int po_161, .int ps_162]) := e_176
              refine r_get ck8 flX8_51 C hS (by omega) e_176 (by decide) rfl dX8_pair_101 ?_
              refine lv_iconst (v := 0) C.x C.b dX8_pair_104 (by decide) ?_
              refine r_ialdN 0 rfl (by omega) (by decide) C hS (by omega) e_151 dX8_pair_105 ?_
              refine lv_icmp_ge (tgt := 113) C.x C.b dX8_pair_106 (by decide) (fun c_197 => ?_) (fun c_197 => ?_)
              · skip
                refine lv_bipush (v := 42) C.x C.b dX8_pair_113 (by decide) ?_
                refine lv_iload_n C.x C.b dX8_pair_115 rfl (lv_at hl 0 rfl) ?_
                refine lv_iadd C.x C.b dX8_pair_116 ?_
                refine r_top (y := nI (42 + kq_143)) (nI_add 42 kq_143) ?_
                refine lv_istore_n (lv' := [(3, .int (nI (42 + kq_143))), (2, .int (nI kq_143)), (0, .ref (B + 220)), (1, .int x)]) C.x C.b dX8_pair_117 rfl hl (by decide) rfl (fun ls hl => ?_)
                have hkX : ¬ kq_143 < (obR o n w wi ev ey (16 * (K_124 / 16))).2.2.2 := by have h9 := c_197; rw [s_155] at h9; exact fun q9 => nI_ge q9 (by omega) h9
                have hkY : kq_143 < (obR o n w wi ev ey ((16 * (K_124 / 16)) + (K_124 % 16))).2.2.2 := by omega
                refine lv_iload_n C.x C.b dX8_pair_118 rfl (lv_at hl 3 rfl) ?_
                refine lv_iconst (v := 3) C.x C.b dX8_pair_119 (by decide) ?_
                refine lv_icmp_ne (tgt := 132) C.x C.b dX8_pair_120 (by decide) (fun c_198 => ?_) (fun c_198 => ?_)
                · skip
                  refine lv_aload_n C.x C.b dX8_pair_132 rfl (lv_at hl 2 rfl) ?_
                  refine r_get ck8 flX8_54 C hS (by omega) e_176 (by decide) rfl dX8_pair_133 ?_
                  refine lv_iload_n C.x C.b dX8_pair_136 rfl (lv_at hl 0 rfl) ?_
                  refine r_ialdN (42 + kq_143) rfl (by omega) (by decide) C hS (by omega) e_152 dX8_pair_137 ?_
                  exact r_iret C hr hlocks hS ⟨hKp, Or.inr (Or.inr ⟨c_41, c_42, K_124 / 16, K_124 % 16, by omega, by omega, by omega, sil_ne (X := fun R => obR o n w wi ev ey R) hk_125 hk_129, fun c hc => sil_lo (X := fun R => obR o n w wi ev ey R) hk_125 hk_130 c hc, fun c hc => sil_be (X := fun R => obR o n w wi ev ey R) hk_125 hk_126 hk_130 c hc, Or.inr (Or.inr ⟨c_135, c_136, ftA_in2 hfk hkX hkY (by rw [if_neg c_159, if_neg c_198]; exact (hy_158 kq_143 hkY).1)⟩)⟩)⟩ dX8_pair_138
                · skip
                  refine lv_aload_n C.x C.b dX8_pair_123 rfl (lv_at hl 2 rfl) ?_
                  refine r_get ck8 flX8_60 C hS (by omega) e_176 (by decide) rfl dX8_pair_124 ?_
                  refine lv_iload_n C.x C.b dX8_pair_127 rfl (lv_at hl 0 rfl) ?_
                  refine r_ialdN (42 + kq_143) rfl (by omega) (by decide) C hS (by omega) e_154 dX8_pair_128 ?_
                  refine lv_goto (tgt := 138) C.x C.b dX8_pair_129 (by decide) ?_
                  exact r_iret C hr hlocks hS ⟨hKp, Or.inr (Or.inr ⟨c_41, c_42, K_124 / 16, K_124 % 16, by omega, by omega, by omega, sil_ne (X := fun R => obR o n w wi ev ey R) hk_125 hk_129, fun c hc => sil_lo (X := fun R => obR o n w wi ev ey R) hk_125 hk_130 c hc, fun c hc => sil_be (X := fun R => obR o n w wi ev ey R) hk_125 hk_126 hk_130 c hc, Or.inr (Or.inr ⟨c_135, c_136, ftA_in2 hfk hkX hkY (by rw [if_neg c_159, if_pos c_198]; exact (hy_158 kq_143 hkY).2.2)⟩)⟩)⟩ dX8_pair_138
              · skip
                refine lv_iload_n C.x C.b dX8_pair_109 rfl (lv_at hl 0 rfl) ?_
                refine lv_goto (tgt := 117) C.x C.b dX8_pair_110 (by decide) ?_
                refine lv_istore_n (lv' := [(3, .int (nI kq_143)), (2, .int (nI kq_143)), (0, .ref (B + 220)), (1, .int x)]) C.x C.b dX8_pair_117 rfl hl (by decide) rfl (fun ls hl => ?_)
                have hkX : kq_143 < (obR o n w wi ev ey (16 * (K_124 / 16))).2.2.2 := by have h9 := c_197; rw [s_155] at h9; exact Nat.lt_of_not_le (fun q9 => h9 (nI_le q9 (by omega)))
                refine lv_iload_n C.x C.b dX8_pair_118 rfl (lv_at hl 3 rfl) ?_
                refine lv_iconst (v := 3) C.x C.b dX8_pair_119 (by decide) ?_
                refine lv_icmp_ne (tgt := 132) C.x C.b dX8_pair_120 (by decide) (fun c_199 => ?_) (fun c_199 => ?_)
                · skip
                  refine lv_aload_n C.x C.b dX8_pair_132 rfl (lv_at hl 2 rfl) ?_
                  refine r_get ck8 flX8_54 C hS (by omega) e_176 (by decide) rfl dX8_pair_133 ?_
                  refine lv_iload_n C.x C.b dX8_pair_136 rfl (lv_at hl 0 rfl) ?_
                  refine r_ialdN kq_143 rfl (by omega) (by decide) C hS (by omega) e_152 dX8_pair_137 ?_
                  exact r_iret C hr hlocks hS ⟨hKp, Or.inr (Or.inr ⟨c_41, c_42, K_124 / 16, K_124 % 16, by omega, by omega, by omega, sil_ne (X := fun R => obR o n w wi ev ey R) hk_125 hk_129, fun c hc => sil_lo (X := fun R => obR o n w wi ev ey R) hk_125 hk_130 c hc, fun c hc => sil_be (X := fun R => obR o n w wi ev ey R) hk_125 hk_126 hk_130 c hc, Or.inr (Or.inr ⟨c_135, c_136, ftA_in1 hfk hkX (by rw [if_neg c_159, if_neg c_199]; exact (hx_157 kq_143 hkX).1)⟩)⟩)⟩ dX8_pair_138
                · skip
                  refine lv_aload_n C.x C.b dX8_pair_123 rfl (lv_at hl 2 rfl) ?_
                  refine r_get ck8 flX8_60 C hS (by omega) e_176 (by decide) rfl dX8_pair_124 ?_
                  refine lv_iload_n C.x C.b dX8_pair_127 rfl (lv_at hl 0 rfl) ?_
                  refine r_ialdN kq_143 rfl (by omega) (by decide) C hS (by omega) e_154 dX8_pair_128 ?_
                  refine lv_goto (tgt := 138) C.x C.b dX8_pair_129 (by decide) ?_
                  exact r_iret C hr hlocks hS ⟨hKp, Or.inr (Or.inr ⟨c_41, c_42, K_124 / 16, K_124 % 16, by omega, by omega, by omega, sil_ne (X := fun R => obR o n w wi ev ey R) hk_125 hk_129, fun c hc => sil_lo (X := fun R => obR o n w wi ev ey R) hk_125 hk_130 c hc, fun c hc => sil_be (X := fun R => obR o n w wi ev ey R) hk_125 hk_126 hk_130 c hc, Or.inr (Or.inr ⟨c_135, c_136, ftA_in1 hfk hkX (by rw [if_neg c_159, if_pos c_199]; exact (hx_157 kq_143 hkX).2.2)⟩)⟩)⟩ dX8_pair_138
            · skip
              refine lv_iload_n C.x C.b dX8_pair_97 rfl (lv_at hl 0 rfl) ?_
              exact r_iret C hr hlocks hS ⟨hKp, Or.inr (Or.inr ⟨c_41, c_42, K_124 / 16, K_124 % 16, by omega, by omega, by omega, sil_ne (X := fun R => obR o n w wi ev ey R) hk_125 hk_129, fun c hc => sil_lo (X := fun R => obR o n w wi ev ey R) hk_125 hk_130 c hc, fun c hc => sil_be (X := fun R => obR o n w wi ev ey R) hk_125 hk_126 hk_130 c hc, Or.inr (Or.inr ⟨c_135, c_136, ftA_two hfk kc_146 (by rw [if_pos c_159])⟩)⟩)⟩ dX8_pair_98
          · skip
            refine lv_aload_n C.x C.b dX8_pair_55 rfl (lv_at hl 0 rfl) ?_
            refine r_get ck8 flX8_124 C hS (by omega) e_133 (by decide) rfl dX8_pair_56 ?_
            exact r_iret C hr hlocks hS ⟨hKp, Or.inr (Or.inr ⟨c_41, c_42, K_124 / 16, K_124 % 16, by omega, by omega, by omega, sil_ne (X := fun R => obR o n w wi ev ey R) hk_125 hk_129, fun c hc => sil_lo (X := fun R => obR o n w wi ev ey R) hk_125 hk_130 c hc, fun c hc => sil_be (X := fun R => obR o n w wi ev ey R) hk_125 hk_126 hk_130 c hc, Or.inr (Or.inl ⟨c_136, rfl⟩)⟩)⟩ dX8_pair_59
        · skip
          refine lv_aload_n C.x C.b dX8_pair_45 rfl (lv_at hl 0 rfl) ?_
          refine r_get ck8 flX8_121 C hS (by omega) e_133 (by decide) rfl dX8_pair_46 ?_
          exact r_iret C hr hlocks hS ⟨hKp, Or.inr (Or.inr ⟨c_41, c_42, K_124 / 16, K_124 % 16, by omega, by omega, by omega, sil_ne (X := fun R => obR o n w wi ev ey R) hk_125 hk_129, fun c hc => sil_lo (X := fun R => obR o n w wi ev ey R) hk_125 hk_130 c hc, fun c hc => sil_be (X := fun R => obR o n w wi ev ey R) hk_125 hk_126 hk_130 c hc, Or.inl ⟨c_135, rfl⟩⟩)⟩ dX8_pair_49
    · skip
      refine lv_sipush (v := (-1001)) C.x C.b dX8_pair_14 (by decide) ?_
      exact r_iret C hr hlocks hS ⟨hKp, Or.inl ⟨Or.inr c_42, rfl⟩⟩ dX8_pair_17
