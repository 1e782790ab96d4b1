set_option maxHeartbeats 1000000 in
set_option maxRecDepth 100000 in
theorem k_X8_run (l : Launch) (D : va_G) (t : Gx) (B N : Nat) (g : Nat → va_E) (n : Nat) (ey wi ev : Int32) (o pr w : Nat → Int32) (x y z : Int32) (hN : 236 < N) (hM : Msh t B g n ey wi ev o pr w) (hn : n ≤ 8) (hO : okO o) (hwi : ¬ wi = 0)  : Ci l D t B N yX8_run cX8_run 5 (some .int) 3 74 g [.ref (B + 220), .int x, .int y, .int z] (fun r g' => Mk t B g g' n ey wi ev o pr w) := by
  refine Ci.start (by decide) (Nat.le_of_ble_eq_true rfl) ?_
  intro p e s m below meth c ls C hr hlocks hS hl
  replace C : Cx D t p s m [.ref (B + 220), .int x, .int y, .int z].toArray c cX8_run 5 RX8 := C
  replace hl : lv_has ls 5 [(0, .ref (B + 220)), (1, .int x), (2, .int y), (3, .int z)] := hl
  have hKp : Mk t B g g n ey wi ev o pr w := Mk.rf hM
  refine lv_aload_n C.x C.b dX8_run_0 rfl (lv_at hl 0 rfl) ?_
  refine lv_iconst (v := 0) C.x C.b dX8_run_1 (by decide) ?_
  obtain ⟨td_1, po_2, ps_3, rg_4, mm_5, st_6, an_7, sp_8, pl_9, nu_10, co_11, sm_12, sw_13, sn_14, sq_15, cl_16, ⟨e_17, e_18, e_19, e_20⟩, ⟨e_21, e_22, e_23, e_24, e_25, e_26, e_27, e_28⟩, ⟨e_29, e_30, e_31, e_32⟩, e_33, hSt_34, h01_35, hPl_36, hSm_37⟩ := hKp.2
  replace e_17 : g 220 = .inr (8, [.int td_1, .int (nI n), .ref (B + 221), .ref (B + 222), .ref (B + 223), .int ey, .int wi, .int ev, .ref (B + 224), .ref (B + 225), .ref (B + 226), .ref (B + 227), .ref (B + 228), .ref (B + 229), .ref (B + 230), .ref (B + 231), .ref (B + 232), .ref (B + 233), .ref (B + 234), .ref (B + 235), .ref (B + 236), .int po_2, .int ps_3]) := e_17
  refine r_put ck8 flX8_66 C hS (by omega) e_17 (by decide) rfl rfl rfl (Nat.le_of_ble_eq_true rfl) dX8_run_2 (fun g_38 H locs e_39 o_40 hS => ?_)
  replace e_39 : g_38 220 = .inr (8, [.int 0, .int (nI n), .ref (B + 221), .ref (B + 222), .ref (B + 223), .int ey, .int wi, .int ev, .ref (B + 224), .ref (B + 225), .ref (B + 226), .ref (B + 227), .ref (B + 228), .ref (B + 229), .ref (B + 230), .ref (B + 231), .ref (B + 232), .ref (B + 233), .ref (B + 234), .ref (B + 235), .ref (B + 236), .int po_2, .int ps_3]) := e_39
  replace hKp : Mk t B g g_38 n ey wi ev o pr w := hKp.obj (td := 0) (po := po_2) (ps := ps_3) e_39 o_40
  refine lv_aload_n C.x C.b dX8_run_5 rfl (lv_at hl 0 rfl) ?_
  refine lv_iload_n C.x C.b dX8_run_6 rfl (lv_at hl 1 rfl) ?_
  obtain ⟨td_44, po_45, ps_46, rg_47, mm_48, st_49, an_50, sp_51, pl_52, nu_53, co_54, sm_55, sw_56, sn_57, sq_58, cl_59, ⟨e_60, e_61, e_62, e_63⟩, ⟨e_64, e_65, e_66, e_67, e_68, e_69, e_70, e_71⟩, ⟨e_72, e_73, e_74, e_75⟩, e_76, hSt_77, h01_78, hPl_79, hSm_80⟩ := hKp.2
  replace e_60 : g_38 220 = .inr (8, [.int td_44, .int (nI n), .ref (B + 221), .ref (B + 222), .ref (B + 223), .int ey, .int wi, .int ev, .ref (B + 224), .ref (B + 225), .ref (B + 226), .ref (B + 227), .ref (B + 228), .ref (B + 229), .ref (B + 230), .ref (B + 231), .ref (B + 232), .ref (B + 233), .ref (B + 234), .ref (B + 235), .ref (B + 236), .int po_45, .int ps_46]) := e_60
  refine r_callV (b := 220) (As := [.int x]) (rest := []) (c_X8_isInput l D t B N g_38 x) mf_yX8_isInput mlX8_108 im_yX8_isInput se_yX8_isInput (by decide) C hS (by omega) e_60 (show vwCl[8]? = some _ from rfl) rfl rfl hl.1 rfl (Nat.le_of_ble_eq_true rfl) dX8_run_7 ⟨Nat.zero_le _, Nat.zero_le _⟩ (fun r_43 g_41 H locs w_42 hS => ?_)
  obtain ⟨rfl, er_43⟩ := w_42
  by_cases b_81 : inP 16 x
  · rw [bz_t b_81] at er_43
    subst er_43
    obtain ⟨q_82, hq_83, rfl⟩ := inP_nI b_81 (by decide)
    refine lv_if_eq (tgt := 30) C.x C.b dX8_run_10 (by decide) (fun c_84 => absurd c_84 (by decide)) (fun c_84 => ?_)
    refine lv_aload_n C.x C.b dX8_run_13 rfl (lv_at hl 0 rfl) ?_
    refine lv_iload_n C.x C.b dX8_run_14 rfl (lv_at hl 2 rfl) ?_
    refine r_callV (b := 220) (As := [.int y]) (rest := []) (c_X8_isInput l D t B N g_38 y) mf_yX8_isInput mlX8_108 im_yX8_isInput se_yX8_isInput (by decide) C hS (by omega) e_60 (show vwCl[8]? = some _ from rfl) rfl rfl hl.1 rfl (Nat.le_of_ble_eq_true rfl) dX8_run_15 ⟨Nat.zero_le _, Nat.zero_le _⟩ (fun r_87 g_85 H locs w_86 hS => ?_)
    obtain ⟨rfl, er_87⟩ := w_86
    by_cases b_88 : inP 16 y
    · rw [bz_t b_88] at er_87
      subst er_87
      obtain ⟨q_89, hq_90, rfl⟩ := inP_nI b_88 (by decide)
      refine lv_if_eq (tgt := 30) C.x C.b dX8_run_18 (by decide) (fun c_91 => absurd c_91 (by decide)) (fun c_91 => ?_)
      refine lv_iload_n C.x C.b dX8_run_21 rfl (lv_at hl 3 rfl) ?_
      refine lv_if_lt (tgt := 30) C.x C.b dX8_run_22 (by decide) (fun c_92 => ?_) (fun c_92 => ?_)
      · skip
        refine lv_sipush (v := (-1001)) C.x C.b dX8_run_30 (by decide) ?_
        exact r_iret C hr hlocks hS hKp dX8_run_33
      · skip
        refine lv_iload_n C.x C.b dX8_run_25 rfl (lv_at hl 3 rfl) ?_
        refine lv_iconst (v := 4) C.x C.b dX8_run_26 (by decide) ?_
        refine lv_icmp_le (tgt := 34) C.x C.b dX8_run_27 (by decide) (fun c_93 => ?_) (fun c_93 => ?_)
        · skip
          refine lv_bipush (v := 16) C.x C.b dX8_run_34 (by decide) ?_
          refine lv_iload_n C.x C.b dX8_run_36 rfl (lv_at hl 1 rfl) ?_
          refine lv_imul C.x C.b dX8_run_37 ?_
          refine r_top (y := nI (16 * q_82)) (pk_mul 16 q_82) ?_
          refine lv_iload_n C.x C.b dX8_run_38 rfl (lv_at hl 2 rfl) ?_
          refine lv_iadd C.x C.b dX8_run_39 ?_
          refine r_top (y := nI ((16 * q_82) + q_89)) (nI_add (16 * q_82) q_89) ?_
          refine lv_istore (lv' := [(4, .int (nI ((16 * q_82) + q_89))), (0, .ref (B + 220)), (1, .int (nI q_82)), (2, .int (nI q_89)), (3, .int z)]) C.x C.b dX8_run_40 hl (by decide) rfl (fun ls hl => ?_)
          refine lv_aload_n C.x C.b dX8_run_42 rfl (lv_at hl 1 rfl) ?_
          refine lv_iload C.x C.b dX8_run_43 (lv_at hl 0 rfl) ?_
          refine r_callVv (b := 220) (As := [.int (nI ((16 * q_82) + q_89))]) (rest := []) (k_goes l D t B N g_38 _ _ _ _ _ _ _ ((16 * q_82) + q_89) (by omega) hKp.2 (by omega) hO (by omega)) mf_yX8_goes mlX8_91 im_yX8_goes se_yX8_goes (by decide) C hS (by omega) e_60 (show vwCl[8]? = some _ from rfl) rfl rfl hl.1 rfl (Nat.le_of_ble_eq_true rfl) dX8_run_45 ⟨Nat.zero_le _, Nat.zero_le _⟩ (fun g_94 H locs w_95 hS => ?_)
          replace hKp : Mk t B g g_94 n ey wi ev o pr w := hKp.tr w_95
          refine lv_iload_n C.x C.b dX8_run_48 rfl (lv_at hl 4 rfl) ?_
          refine lv_if_ne (tgt := 60) C.x C.b dX8_run_49 (by decide) (fun c_97 => ?_) (fun c_97 => ?_)
          · skip
            refine lv_iload_n C.x C.b dX8_run_60 rfl (lv_at hl 4 rfl) ?_
            refine lv_iconst (v := 1) C.x C.b dX8_run_61 (by decide) ?_
            refine lv_icmp_ne (tgt := 76) C.x C.b dX8_run_62 (by decide) (fun c_98 => ?_) (fun c_98 => ?_)
            · skip
              refine lv_iload_n C.x C.b dX8_run_76 rfl (lv_at hl 4 rfl) ?_
              refine lv_iconst (v := 2) C.x C.b dX8_run_77 (by decide) ?_
              refine lv_icmp_ne (tgt := 89) C.x C.b dX8_run_78 (by decide) (fun c_99 => ?_) (fun c_99 => ?_)
              · skip
                refine lv_iload_n C.x C.b dX8_run_89 rfl (lv_at hl 4 rfl) ?_
                refine lv_iconst (v := 3) C.x C.b dX8_run_90 (by decide) ?_
                refine lv_icmp_ne (tgt := 110) C.x C.b dX8_run_91 (by decide) (fun c_100 => ?_) (fun c_100 => ?_)
                · skip
                  refine lv_aload_n C.x C.b dX8_run_110 rfl (lv_at hl 1 rfl) ?_
                  refine lv_iconst (v := 0) C.x C.b dX8_run_111 (by decide) ?_
                  refine lv_iload C.x C.b dX8_run_112 (lv_at hl 0 rfl) ?_
                  refine lv_aload_n C.x C.b dX8_run_114 rfl (lv_at hl 1 rfl) ?_
                  obtain ⟨td_101, po_102, ps_103, rg_104, mm_105, st_106, an_107, sp_108, pl_109, nu_110, co_111, sm_112, sw_113, sn_114, sq_115, cl_116, ⟨e_117, e_118, e_119, e_120⟩, ⟨e_121, e_122, e_123, e_124, e_125, e_126, e_127, e_128⟩, ⟨e_129, e_130, e_131, e_132⟩, e_133, hSt_134, h01_135, hPl_136, hSm_137⟩ := hKp.2
                  replace e_117 : g_94 220 = .inr (8, [.int td_101, .int (nI n), .ref (B + 221), .ref (B + 222), .ref (B + 223), .int ey, .int wi, .int ev, .ref (B + 224), .ref (B + 225), .ref (B + 226), .ref (B + 227), .ref (B + 228), .ref (B + 229), .ref (B + 230), .ref (B + 231), .ref (B + 232), .ref (B + 233), .ref (B + 234), .ref (B + 235), .ref (B + 236), .int po_102, .int ps_103]) := e_117
                  refine r_get ck8 flX8_80 C hS (by omega) e_117 (by decide) rfl dX8_run_115 ?_
                  refine lv_aload_n C.x C.b dX8_run_118 rfl (lv_at hl 1 rfl) ?_
                  refine r_get ck8 flX8_19 C hS (by omega) e_117 (by decide) rfl dX8_run_119 ?_
                  obtain ⟨s_138, hs_139, hs_140⟩ := hSt_134 ((16 * q_82) + q_89) (by omega)
                  refine r_callVv (b := 220) (As := [.int 0, .int (nI ((16 * q_82) + q_89)), .int ev, .int ey]) (rest := []) (c_X8_look_ l D t B N g_94 _ _ _ _ _ _ _ _ _ _ _ _ _ _ _ _ _ _ 0 ((16 * q_82) + q_89) s_138 ev ey (by omega) e_117 e_118 e_123 e_124 e_125 e_126 e_127 e_128 e_129 e_130 e_131 e_132 (by omega) (by omega) hs_140 hs_139 hPl_136 hwi) mf_yX8_look_ mlX8_105 im_yX8_look_ se_yX8_look_ (by decide) C hS (by omega) e_117 (show vwCl[8]? = some _ from rfl) rfl rfl hl.1 rfl (Nat.le_of_ble_eq_true rfl) dX8_run_122 ⟨Nat.zero_le _, Nat.zero_le _⟩ (fun g_141 H locs w_142 hS => ?_)
                  replace hKp : Mk t B g g_141 n ey wi ev o pr w := hKp.see w_142.1 (okSm_upd0 hSm_137 (lookR_le _ _ _ _ _ _ _ _ _ _ _ _ _ _ _ hs_139)) w_142.2
                  refine lv_aload_n C.x C.b dX8_run_125 rfl (lv_at hl 1 rfl) ?_
                  obtain ⟨td_144, po_145, ps_146, rg_147, mm_148, st_149, an_150, sp_151, pl_152, nu_153, co_154, sm_155, sw_156, sn_157, sq_158, cl_159, ⟨e_160, e_161, e_162, e_163⟩, ⟨e_164, e_165, e_166, e_167, e_168, e_169, e_170, e_171⟩, ⟨e_172, e_173, e_174, e_175⟩, e_176, hSt_177, h01_178, hPl_179, hSm_180⟩ := hKp.2
                  replace e_160 : g_141 220 = .inr (8, [.int td_144, .int (nI n), .ref (B + 221), .ref (B + 222), .ref (B + 223), .int ey, .int wi, .int ev, .ref (B + 224), .ref (B + 225), .ref (B + 226), .ref (B + 227), .ref (B + 228), .ref (B + 229), .ref (B + 230), .ref (B + 231), .ref (B + 232), .ref (B + 233), .ref (B + 234), .ref (B + 235), .ref (B + 236), .int po_145, .int ps_146]) := e_160
                  refine r_get ck8 flX8_51 C hS (by omega) e_160 (by decide) rfl dX8_run_126 ?_
                  refine lv_iconst (v := 0) C.x C.b dX8_run_129 (by decide) ?_
                  refine r_ialdN 0 rfl (by omega) (by decide) C hS (by omega) e_172 dX8_run_130 ?_
                  exact r_iret C hr hlocks hS hKp dX8_run_131
                · skip
                  refine lv_aload_n C.x C.b dX8_run_94 rfl (lv_at hl 1 rfl) ?_
                  obtain ⟨td_181, po_182, ps_183, rg_184, mm_185, st_186, an_187, sp_188, pl_189, nu_190, co_191, sm_192, sw_193, sn_194, sq_195, cl_196, ⟨e_197, e_198, e_199, e_200⟩, ⟨e_201, e_202, e_203, e_204, e_205, e_206, e_207, e_208⟩, ⟨e_209, e_210, e_211, e_212⟩, e_213, hSt_214, h01_215, hPl_216, hSm_217⟩ := hKp.2
                  replace e_197 : g_94 220 = .inr (8, [.int td_181, .int (nI n), .ref (B + 221), .ref (B + 222), .ref (B + 223), .int ey, .int wi, .int ev, .ref (B + 224), .ref (B + 225), .ref (B + 226), .ref (B + 227), .ref (B + 228), .ref (B + 229), .ref (B + 230), .ref (B + 231), .ref (B + 232), .ref (B + 233), .ref (B + 234), .ref (B + 235), .ref (B + 236), .int po_182, .int ps_183]) := e_197
                  refine r_get ck8 flX8_38 C hS (by omega) e_197 (by decide) rfl dX8_run_95 ?_
                  refine lv_iload C.x C.b dX8_run_98 (lv_at hl 0 rfl) ?_
                  refine r_zaldN ((16 * q_82) + q_89) rfl (by omega) (by decide) C hS (by omega) e_205 dX8_run_100 ?_
                  refine lv_if_eq (tgt := 108) C.x C.b dX8_run_101 (by decide) (fun c_218 => ?_) (fun c_218 => ?_)
                  · skip
                    refine lv_iconst (v := 0) C.x C.b dX8_run_108 (by decide) ?_
                    exact r_iret C hr hlocks hS hKp dX8_run_109
                  · skip
                    refine lv_iconst (v := 1) C.x C.b dX8_run_104 (by decide) ?_
                    refine lv_goto (tgt := 109) C.x C.b dX8_run_105 (by decide) ?_
                    exact r_iret C hr hlocks hS hKp dX8_run_109
              · skip
                refine lv_aload_n C.x C.b dX8_run_81 rfl (lv_at hl 1 rfl) ?_
                obtain ⟨td_219, po_220, ps_221, rg_222, mm_223, st_224, an_225, sp_226, pl_227, nu_228, co_229, sm_230, sw_231, sn_232, sq_233, cl_234, ⟨e_235, e_236, e_237, e_238⟩, ⟨e_239, e_240, e_241, e_242, e_243, e_244, e_245, e_246⟩, ⟨e_247, e_248, e_249, e_250⟩, e_251, hSt_252, h01_253, hPl_254, hSm_255⟩ := hKp.2
                replace e_235 : g_94 220 = .inr (8, [.int td_219, .int (nI n), .ref (B + 221), .ref (B + 222), .ref (B + 223), .int ey, .int wi, .int ev, .ref (B + 224), .ref (B + 225), .ref (B + 226), .ref (B + 227), .ref (B + 228), .ref (B + 229), .ref (B + 230), .ref (B + 231), .ref (B + 232), .ref (B + 233), .ref (B + 234), .ref (B + 235), .ref (B + 236), .int po_220, .int ps_221]) := e_235
                refine r_get ck8 flX8_32 C hS (by omega) e_235 (by decide) rfl dX8_run_82 ?_
                refine lv_iload C.x C.b dX8_run_85 (lv_at hl 0 rfl) ?_
                refine r_ialdN ((16 * q_82) + q_89) rfl (by omega) (by decide) C hS (by omega) e_241 dX8_run_87 ?_
                exact r_iret C hr hlocks hS hKp dX8_run_88
            · skip
              refine lv_aload_n C.x C.b dX8_run_65 rfl (lv_at hl 1 rfl) ?_
              refine lv_iload C.x C.b dX8_run_66 (lv_at hl 0 rfl) ?_
              refine lv_aload_n C.x C.b dX8_run_68 rfl (lv_at hl 1 rfl) ?_
              obtain ⟨td_256, po_257, ps_258, rg_259, mm_260, st_261, an_262, sp_263, pl_264, nu_265, co_266, sm_267, sw_268, sn_269, sq_270, cl_271, ⟨e_272, e_273, e_274, e_275⟩, ⟨e_276, e_277, e_278, e_279, e_280, e_281, e_282, e_283⟩, ⟨e_284, e_285, e_286, e_287⟩, e_288, hSt_289, h01_290, hPl_291, hSm_292⟩ := hKp.2
              replace e_272 : g_94 220 = .inr (8, [.int td_256, .int (nI n), .ref (B + 221), .ref (B + 222), .ref (B + 223), .int ey, .int wi, .int ev, .ref (B + 224), .ref (B + 225), .ref (B + 226), .ref (B + 227), .ref (B + 228), .ref (B + 229), .ref (B + 230), .ref (B + 231), .ref (B + 232), .ref (B + 233), .ref (B + 234), .ref (B + 235), .ref (B + 236), .int po_257, .int ps_258]) := e_272
              refine r_get ck8 flX8_80 C hS (by omega) e_272 (by decide) rfl dX8_run_69 ?_
              obtain ⟨s_293, hs_294, hs_295⟩ := hSt_289 ((16 * q_82) + q_89) (by omega)
              refine r_callV (b := 220) (As := [.int (nI ((16 * q_82) + q_89)), .int ev]) (rest := []) (c_X8_cost l D t B N g_94 _ _ _ _ _ _ _ _ _ _ _ ((16 * q_82) + q_89) s_293 ev (by omega) e_272 e_273 e_278 e_281 e_283 (by omega) hs_295 hs_294 hPl_291) mf_yX8_cost mlX8_102 im_yX8_cost se_yX8_cost (by decide) C hS (by omega) e_272 (show vwCl[8]? = some _ from rfl) rfl rfl hl.1 rfl (Nat.le_of_ble_eq_true rfl) dX8_run_72 ⟨Nat.zero_le _, Nat.zero_le _⟩ (fun r_298 g_296 H locs w_297 hS => ?_)
              obtain ⟨rfl, er_298⟩ := w_297
              exact r_iret C hr hlocks hS hKp dX8_run_75
          · skip
            refine lv_aload_n C.x C.b dX8_run_52 rfl (lv_at hl 1 rfl) ?_
            obtain ⟨td_299, po_300, ps_301, rg_302, mm_303, st_304, an_305, sp_306, pl_307, nu_308, co_309, sm_310, sw_311, sn_312, sq_313, cl_314, ⟨e_315, e_316, e_317, e_318⟩, ⟨e_319, e_320, e_321, e_322, e_323, e_324, e_325, e_326⟩, ⟨e_327, e_328, e_329, e_330⟩, e_331, hSt_332, h01_333, hPl_334, hSm_335⟩ := hKp.2
            replace e_315 : g_94 220 = .inr (8, [.int td_299, .int (nI n), .ref (B + 221), .ref (B + 222), .ref (B + 223), .int ey, .int wi, .int ev, .ref (B + 224), .ref (B + 225), .ref (B + 226), .ref (B + 227), .ref (B + 228), .ref (B + 229), .ref (B + 230), .ref (B + 231), .ref (B + 232), .ref (B + 233), .ref (B + 234), .ref (B + 235), .ref (B + 236), .int po_300, .int ps_301]) := e_315
            refine r_get ck8 flX8_35 C hS (by omega) e_315 (by decide) rfl dX8_run_53 ?_
            refine lv_iload C.x C.b dX8_run_56 (lv_at hl 0 rfl) ?_
            refine r_ialdN ((16 * q_82) + q_89) rfl (by omega) (by decide) C hS (by omega) e_322 dX8_run_58 ?_
            exact r_iret C hr hlocks hS hKp dX8_run_59
        · skip
          refine lv_sipush (v := (-1001)) C.x C.b dX8_run_30 (by decide) ?_
          exact r_iret C hr hlocks hS hKp dX8_run_33
    · rw [bz_f b_88] at er_87
      subst er_87
      refine lv_if_eq (tgt := 30) C.x C.b dX8_run_18 (by decide) (fun c_336 => ?_) (fun c_336 => absurd (by decide) c_336)
      refine lv_sipush (v := (-1001)) C.x C.b dX8_run_30 (by decide) ?_
      exact r_iret C hr hlocks hS hKp dX8_run_33
  · rw [bz_f b_81] at er_43
    subst er_43
    refine lv_if_eq (tgt := 30) C.x C.b dX8_run_10 (by decide) (fun c_337 => ?_) (fun c_337 => absurd (by decide) c_337)
    refine lv_sipush (v := (-1001)) C.x C.b dX8_run_30 (by decide) ?_
    exact r_iret C hr hlocks hS hKp dX8_run_33
set_option maxHeartbeats 1000000 in
set_option maxRecDepth 100000 in
theorem k_X8_seen (l : Launch) (D : va_G) (t : Gx) (B N : Nat) (g : Nat → va_E) (n : Nat) (ey wi ev : Int32) (o pr w : Nat → Int32) (x y z v : Int32) (hN : 236 < N) (hM : Msh t B g n ey wi ev o pr w) (hn : n ≤ 8) (hO : okO o) (hwi : ¬ wi = 0)  : Ci l D t B N yX8_seen cX8_seen 6 (some .int) 3 74 g [.ref (B + 220), .int x, .int y, .int z, .int v] (fun r g' => Mk t B g g' n ey wi ev o pr w) := by
  refine Ci.start (by decide) (Nat.le_of_ble_eq_true rfl) ?_
  intro p e s m below meth c ls C hr hlocks hS hl
  replace C : Cx D t p s m [.ref (B + 220), .int x, .int y, .int z, .int v].toArray c cX8_seen 6 RX8 := C
  replace hl : lv_has ls 6 [(0, .ref (B + 220)), (1, .int x), (2, .int y), (3, .int z), (4, .int v)] := hl
  have hKp : Mk t B g g n ey wi ev o pr w := Mk.rf hM
  refine lv_aload_n C.x C.b dX8_seen_0 rfl (lv_at hl 0 rfl) ?_
  refine lv_iconst (v := 0) C.x C.b dX8_seen_1 (by decide) ?_
  obtain ⟨td_1, po_2, ps_3, rg_4, mm_5, st_6, an_7, sp_8, pl_9, nu_10, co_11, sm_12, sw_13, sn_14, sq_15, cl_16, ⟨e_17, e_18, e_19, e_20⟩, ⟨e_21, e_22, e_23, e_24, e_25, e_26, e_27, e_28⟩, ⟨e_29, e_30, e_31, e_32⟩, e_33, hSt_34, h01_35, hPl_36, hSm_37⟩ := hKp.2
  replace e_17 : g 220 = .inr (8, [.int td_1, .int (nI n), .ref (B + 221), .ref (B + 222), .ref (B + 223), .int ey, .int wi, .int ev, .ref (B + 224), .ref (B + 225), .ref (B + 226), .ref (B + 227), .ref (B + 228), .ref (B + 229), .ref (B + 230), .ref (B + 231), .ref (B + 232), .ref (B + 233), .ref (B + 234), .ref (B + 235), .ref (B + 236), .int po_2, .int ps_3]) := e_17
  refine r_put ck8 flX8_66 C hS (by omega) e_17 (by decide) rfl rfl rfl (Nat.le_of_ble_eq_true rfl) dX8_seen_2 (fun g_38 H locs e_39 o_40 hS => ?_)
  replace e_39 : g_38 220 = .inr (8, [.int 0, .int (nI n), .ref (B + 221), .ref (B + 222), .ref (B + 223), .int ey, .int wi, .int ev, .ref (B + 224), .ref (B + 225), .ref (B + 226), .ref (B + 227), .ref (B + 228), .ref (B + 229), .ref (B + 230), .ref (B + 231), .ref (B + 232), .ref (B + 233), .ref (B + 234), .ref (B + 235), .ref (B + 236), .int po_2, .int ps_3]) := e_39
  replace hKp : Mk t B g g_38 n ey wi ev o pr w := hKp.obj (td := 0) (po := po_2) (ps := ps_3) e_39 o_40
  refine lv_aload_n C.x C.b dX8_seen_5 rfl (lv_at hl 0 rfl) ?_
  refine lv_iload_n C.x C.b dX8_seen_6 rfl (lv_at hl 1 rfl) ?_
  obtain ⟨td_44, po_45, ps_46, rg_47, mm_48, st_49, an_50, sp_51, pl_52, nu_53, co_54, sm_55, sw_56, sn_57, sq_58, cl_59, ⟨e_60, e_61, e_62, e_63⟩, ⟨e_64, e_65, e_66, e_67, e_68, e_69, e_70, e_71⟩, ⟨e_72, e_73, e_74, e_75⟩, e_76, hSt_77, h01_78, hPl_79, hSm_80⟩ := hKp.2
  replace e_60 : g_38 220 = .inr (8, [.int td_44, .int (nI n), .ref (B + 221), .ref (B + 222), .ref (B + 223), .int ey, .int wi, .int ev, .ref (B + 224), .ref (B + 225), .ref (B + 226), .ref (B + 227), .ref (B + 228), .ref (B + 229), .ref (B + 230), .ref (B + 231), .ref (B + 232), .ref (B + 233), .ref (B + 234), .ref (B + 235), .ref (B + 236), .int po_45, .int ps_46]) := e_60
  refine r_callV (b := 220) (As := [.int x]) (rest := []) (c_X8_isInput l D t B N g_38 x) mf_yX8_isInput mlX8_108 im_yX8_isInput se_yX8_isInput (by decide) C hS (by omega) e_60 (show vwCl[8]? = some _ from rfl) rfl rfl hl.1 rfl (Nat.le_of_ble_eq_true rfl) dX8_seen_7 ⟨Nat.zero_le _, Nat.zero_le _⟩ (fun r_43 g_41 H locs w_42 hS => ?_)
  obtain ⟨rfl, er_43⟩ := w_42
  by_cases b_81 : inP 16 x
  · rw [bz_t b_81] at er_43
    subst er_43
    obtain ⟨q_82, hq_83, rfl⟩ := inP_nI b_81 (by decide)
    refine lv_if_eq (tgt := 32) C.x C.b dX8_seen_10 (by decide) (fun c_84 => absurd c_84 (by decide)) (fun c_84 => ?_)
    refine lv_aload_n C.x C.b dX8_seen_13 rfl (lv_at hl 0 rfl) ?_
    refine lv_iload_n C.x C.b dX8_seen_14 rfl (lv_at hl 2 rfl) ?_
    refine r_callV (b := 220) (As := [.int y]) (rest := []) (c_X8_isInput l D t B N g_38 y) mf_yX8_isInput mlX8_108 im_yX8_isInput se_yX8_isInput (by decide) C hS (by omega) e_60 (show vwCl[8]? = some _ from rfl) rfl rfl hl.1 rfl (Nat.le_of_ble_eq_true rfl) dX8_seen_15 ⟨Nat.zero_le _, Nat.zero_le _⟩ (fun r_87 g_85 H locs w_86 hS => ?_)
    obtain ⟨rfl, er_87⟩ := w_86
    by_cases b_88 : inP 16 y
    · rw [bz_t b_88] at er_87
      subst er_87
      obtain ⟨q_89, hq_90, rfl⟩ := inP_nI b_88 (by decide)
      refine lv_if_eq (tgt := 32) C.x C.b dX8_seen_18 (by decide) (fun c_91 => absurd c_91 (by decide)) (fun c_91 => ?_)
      refine lv_iload C.x C.b dX8_seen_21 (lv_at hl 4 rfl) ?_
      refine lv_if_lt (tgt := 32) C.x C.b dX8_seen_23 (by decide) (fun c_92 => ?_) (fun c_92 => ?_)
      · skip
        refine lv_sipush (v := (-1001)) C.x C.b dX8_seen_32 (by decide) ?_
        exact r_iret C hr hlocks hS hKp dX8_seen_35
      · skip
        refine lv_iload C.x C.b dX8_seen_26 (lv_at hl 4 rfl) ?_
        refine lv_iconst (v := 2) C.x C.b dX8_seen_28 (by decide) ?_
        refine lv_icmp_le (tgt := 36) C.x C.b dX8_seen_29 (by decide) (fun c_93 => ?_) (fun c_93 => ?_)
        · skip
          refine lv_bipush (v := 16) C.x C.b dX8_seen_36 (by decide) ?_
          refine lv_iload_n C.x C.b dX8_seen_38 rfl (lv_at hl 1 rfl) ?_
          refine lv_imul C.x C.b dX8_seen_39 ?_
          refine r_top (y := nI (16 * q_82)) (pk_mul 16 q_82) ?_
          refine lv_iload_n C.x C.b dX8_seen_40 rfl (lv_at hl 2 rfl) ?_
          refine lv_iadd C.x C.b dX8_seen_41 ?_
          refine r_top (y := nI ((16 * q_82) + q_89)) (nI_add (16 * q_82) q_89) ?_
          refine lv_istore (lv' := [(5, .int (nI ((16 * q_82) + q_89))), (0, .ref (B + 220)), (1, .int (nI q_82)), (2, .int (nI q_89)), (3, .int z), (4, .int v)]) C.x C.b dX8_seen_42 hl (by decide) rfl (fun ls hl => ?_)
          refine lv_aload_n C.x C.b dX8_seen_44 rfl (lv_at hl 1 rfl) ?_
          refine lv_iload C.x C.b dX8_seen_45 (lv_at hl 0 rfl) ?_
          refine r_callVv (b := 220) (As := [.int (nI ((16 * q_82) + q_89))]) (rest := []) (k_goes l D t B N g_38 _ _ _ _ _ _ _ ((16 * q_82) + q_89) (by omega) hKp.2 (by omega) hO (by omega)) mf_yX8_goes mlX8_91 im_yX8_goes se_yX8_goes (by decide) C hS (by omega) e_60 (show vwCl[8]? = some _ from rfl) rfl rfl hl.1 rfl (Nat.le_of_ble_eq_true rfl) dX8_seen_47 ⟨Nat.zero_le _, Nat.zero_le _⟩ (fun g_94 H locs w_95 hS => ?_)
          replace hKp : Mk t B g g_94 n ey wi ev o pr w := hKp.tr w_95
          refine lv_aload_n C.x C.b dX8_seen_50 rfl (lv_at hl 1 rfl) ?_
          refine lv_iconst (v := 0) C.x C.b dX8_seen_51 (by decide) ?_
          refine lv_iload C.x C.b dX8_seen_52 (lv_at hl 0 rfl) ?_
          refine lv_aload_n C.x C.b dX8_seen_54 rfl (lv_at hl 1 rfl) ?_
          obtain ⟨td_97, po_98, ps_99, rg_100, mm_101, st_102, an_103, sp_104, pl_105, nu_106, co_107, sm_108, sw_109, sn_110, sq_111, cl_112, ⟨e_113, e_114, e_115, e_116⟩, ⟨e_117, e_118, e_119, e_120, e_121, e_122, e_123, e_124⟩, ⟨e_125, e_126, e_127, e_128⟩, e_129, hSt_130, h01_131, hPl_132, hSm_133⟩ := hKp.2
          replace e_113 : g_94 220 = .inr (8, [.int td_97, .int (nI n), .ref (B + 221), .ref (B + 222), .ref (B + 223), .int ey, .int wi, .int ev, .ref (B + 224), .ref (B + 225), .ref (B + 226), .ref (B + 227), .ref (B + 228), .ref (B + 229), .ref (B + 230), .ref (B + 231), .ref (B + 232), .ref (B + 233), .ref (B + 234), .ref (B + 235), .ref (B + 236), .int po_98, .int ps_99]) := e_113
          refine r_get ck8 flX8_80 C hS (by omega) e_113 (by decide) rfl dX8_seen_55 ?_
          refine lv_aload_n C.x C.b dX8_seen_58 rfl (lv_at hl 1 rfl) ?_
          refine r_get ck8 flX8_19 C hS (by omega) e_113 (by decide) rfl dX8_seen_59 ?_
          obtain ⟨s_134, hs_135, hs_136⟩ := hSt_130 ((16 * q_82) + q_89) (by omega)
          refine r_callVv (b := 220) (As := [.int 0, .int (nI ((16 * q_82) + q_89)), .int ev, .int ey]) (rest := []) (c_X8_look_ l D t B N g_94 _ _ _ _ _ _ _ _ _ _ _ _ _ _ _ _ _ _ 0 ((16 * q_82) + q_89) s_134 ev ey (by omega) e_113 e_114 e_119 e_120 e_121 e_122 e_123 e_124 e_125 e_126 e_127 e_128 (by omega) (by omega) hs_136 hs_135 hPl_132 hwi) mf_yX8_look_ mlX8_105 im_yX8_look_ se_yX8_look_ (by decide) C hS (by omega) e_113 (show vwCl[8]? = some _ from rfl) rfl rfl hl.1 rfl (Nat.le_of_ble_eq_true rfl) dX8_seen_62 ⟨Nat.zero_le _, Nat.zero_le _⟩ (fun g_137 H locs w_138 hS => ?_)
          replace hKp : Mk t B g g_137 n ey wi ev o pr w := hKp.see w_138.1 (okSm_upd0 hSm_133 (lookR_le _ _ _ _ _ _ _ _ _ _ _ _ _ _ _ hs_135)) w_138.2
          refine lv_iload_n C.x C.b dX8_seen_65 rfl (lv_at hl 4 rfl) ?_
          refine lv_if_lt (tgt := 79) C.x C.b dX8_seen_66 (by decide) (fun c_140 => ?_) (fun c_140 => ?_)
          · skip
            refine lv_sipush (v := (-1001)) C.x C.b dX8_seen_79 (by decide) ?_
            exact r_iret C hr hlocks hS hKp dX8_seen_82
          · skip
            refine lv_iload_n C.x C.b dX8_seen_69 rfl (lv_at hl 4 rfl) ?_
            refine lv_aload_n C.x C.b dX8_seen_70 rfl (lv_at hl 1 rfl) ?_
            obtain ⟨td_141, po_142, ps_143, rg_144, mm_145, st_146, an_147, sp_148, pl_149, nu_150, co_151, sm_152, sw_153, sn_154, sq_155, cl_156, ⟨e_157, e_158, e_159, e_160⟩, ⟨e_161, e_162, e_163, e_164, e_165, e_166, e_167, e_168⟩, ⟨e_169, e_170, e_171, e_172⟩, e_173, hSt_174, h01_175, hPl_176, hSm_177⟩ := hKp.2
            replace e_157 : g_137 220 = .inr (8, [.int td_141, .int (nI n), .ref (B + 221), .ref (B + 222), .ref (B + 223), .int ey, .int wi, .int ev, .ref (B + 224), .ref (B + 225), .ref (B + 226), .ref (B + 227), .ref (B + 228), .ref (B + 229), .ref (B + 230), .ref (B + 231), .ref (B + 232), .ref (B + 233), .ref (B + 234), .ref (B + 235), .ref (B + 236), .int po_142, .int ps_143]) := e_157
            refine r_get ck8 flX8_51 C hS (by omega) e_157 (by decide) rfl dX8_seen_71 ?_
            refine lv_iconst (v := 0) C.x C.b dX8_seen_74 (by decide) ?_
            refine r_ialdN 0 rfl (by omega) (by decide) C hS (by omega) e_169 dX8_seen_75 ?_
            refine lv_icmp_lt (tgt := 83) C.x C.b dX8_seen_76 (by decide) (fun c_178 => ?_) (fun c_178 => ?_)
            · skip
              obtain ⟨a_179, ha_180, ha_181⟩ := hSm_177.1
              obtain ⟨zq, hzq, rfl⟩ := inP_nI (n := a_179) ⟨c_140, fun q => absurd c_178 (by rw [ha_181]; exact Int32.not_lt.mpr q)⟩ (by omega)
              refine lv_iload C.x C.b dX8_seen_83 (lv_at hl 5 rfl) ?_
              refine lv_if_ne (tgt := 97) C.x C.b dX8_seen_85 (by decide) (fun c_182 => ?_) (fun c_182 => ?_)
              · skip
                refine lv_iload C.x C.b dX8_seen_97 (lv_at hl 5 rfl) ?_
                refine lv_iconst (v := 1) C.x C.b dX8_seen_99 (by decide) ?_
                refine lv_icmp_ne (tgt := 112) C.x C.b dX8_seen_100 (by decide) (fun c_183 => ?_) (fun c_183 => ?_)
                · skip
                  refine lv_aload_n C.x C.b dX8_seen_112 rfl (lv_at hl 1 rfl) ?_
                  refine r_get ck8 flX8_57 C hS (by omega) e_157 (by decide) rfl dX8_seen_113 ?_
                  refine lv_iload_n C.x C.b dX8_seen_116 rfl (lv_at hl 4 rfl) ?_
                  refine r_ialdN zq rfl (by omega) (by decide) C hS (by omega) e_171 dX8_seen_117 ?_
                  exact r_iret C hr hlocks hS hKp dX8_seen_118
                · skip
                  refine lv_aload_n C.x C.b dX8_seen_103 rfl (lv_at hl 1 rfl) ?_
                  refine r_get ck8 flX8_54 C hS (by omega) e_157 (by decide) rfl dX8_seen_104 ?_
                  refine lv_iload_n C.x C.b dX8_seen_107 rfl (lv_at hl 4 rfl) ?_
                  refine r_ialdN zq rfl (by omega) (by decide) C hS (by omega) e_170 dX8_seen_108 ?_
                  refine lv_goto (tgt := 118) C.x C.b dX8_seen_109 (by decide) ?_
                  exact r_iret C hr hlocks hS hKp dX8_seen_118
              · skip
                refine lv_aload_n C.x C.b dX8_seen_88 rfl (lv_at hl 1 rfl) ?_
                refine r_get ck8 flX8_60 C hS (by omega) e_157 (by decide) rfl dX8_seen_89 ?_
                refine lv_iload_n C.x C.b dX8_seen_92 rfl (lv_at hl 4 rfl) ?_
                refine r_ialdN zq rfl (by omega) (by decide) C hS (by omega) e_172 dX8_seen_93 ?_
                refine lv_goto (tgt := 118) C.x C.b dX8_seen_94 (by decide) ?_
                exact r_iret C hr hlocks hS hKp dX8_seen_118
            · skip
              refine lv_sipush (v := (-1001)) C.x C.b dX8_seen_79 (by decide) ?_
              exact r_iret C hr hlocks hS hKp dX8_seen_82
        · skip
          refine lv_sipush (v := (-1001)) C.x C.b dX8_seen_32 (by decide) ?_
          exact r_iret C hr hlocks hS hKp dX8_seen_35
    · rw [bz_f b_88] at er_87
      subst er_87
      refine lv_if_eq (tgt := 32) C.x C.b dX8_seen_18 (by decide) (fun c_184 => ?_) (fun c_184 => absurd (by decide) c_184)
      refine lv_sipush (v := (-1001)) C.x C.b dX8_seen_32 (by decide) ?_
      exact r_iret C hr hlocks hS hKp dX8_seen_35
  · rw [bz_f b_81] at er_43
    subst er_43
    refine lv_if_eq (tgt := 32) C.x C.b dX8_seen_10 (by decide) (fun c_185 => ?_) (fun c_185 => absurd (by decide) c_185)
    refine lv_sipush (v := (-1001)) C.x C.b dX8_seen_32 (by decide) ?_
    exact r_iret C hr hlocks hS hKp dX8_seen_35
set_option maxHeartbeats 1000000 in
set_option maxRecDepth 100000 in
theorem k_X8_classesOf (l : Launch) (D : va_G) (t : Gx) (B N : Nat) (g : Nat → va_E) (n : Nat) (ey wi ev : Int32) (o pr w : Nat → Int32) (q : Nat) (hN : 236 < N) (hM : Msh t B g n ey wi ev o pr w) (hn : n ≤ 8) (hO : okO o) (hwi : ¬ wi = 0) (hq : q < 16) : Ci l D t B N yX8_classesOf cX8_classesOf 5 (some .int) 4 97 g [.ref (B + 220), .int (nI q)] (fun r g' => Mk t B g g' n ey wi ev o pr w) := by
  refine Ci.start (by decide) (Nat.le_of_ble_eq_true rfl) ?_
  intro p e s m below meth c ls C hr hlocks hS hl
  replace C : Cx D t p s m [.ref (B + 220), .int (nI q)].toArray c cX8_classesOf 5 RX8 := C
  replace hl : lv_has ls 5 [(0, .ref (B + 220)), (1, .int (nI q))] := hl
  have hKp : Mk t B g g n ey wi ev o pr w := Mk.rf hM
  refine lv_iconst (v := 0) C.x C.b dX8_classesOf_0 (by decide) ?_
  refine lv_istore_n (lv' := [(2, .int 0), (0, .ref (B + 220)), (1, .int (nI q))]) C.x C.b dX8_classesOf_1 rfl hl (by decide) rfl (fun ls hl => ?_)
  refine lv_iconst (v := 0) C.x C.b dX8_classesOf_2 (by decide) ?_
  refine lv_istore_n (lv' := [(3, .int 0), (2, .int 0), (0, .ref (B + 220)), (1, .int (nI q))]) C.x C.b dX8_classesOf_3 rfl hl (by decide) rfl (fun ls hl => ?_)
  have lp_1 : ∀ (u_2 k_3 : Nat) (b_7 : Int32) (g_6 : Nat → va_E) (H : Heap) (locs : List Loc) (ls : Array Slot), k_3 + u_2 = 16 → Mk t B g g_6 n ey wi ev o pr w → St D B s.heap N g_6 H locs → lv_has ls 5 [(0, .ref (B + 220)), (1, .int (nI q)), (2, .int b_7), (3, .int (nI k_3))] → W p l e (rmOf 4 97 0 0) s m [.ref (B + 220), .int (nI q)].toArray below meth c H locs 0 0 (MQ below (qI D B N (fun r g' => Mk t B g g' n ey wi ev o pr w)) [.ref (B + 220), .int (nI q)].toArray s 0 0 (fun q => B ≤ q)) (F0 m 4 ls []) := by
    intro u_2
    induction u_2 with
    | zero =>
      intro k_3 b_7 g_6 H locs ls hk_4 hKp hS hl
      obtain rfl : 16 = k_3 := by omega
      refine lv_iload_n C.x C.b dX8_classesOf_4 rfl (lv_at hl 3 rfl) ?_
      refine lv_bipush (v := 16) C.x C.b dX8_classesOf_5 (by decide) ?_
      refine lv_icmp_ge (tgt := 114) C.x C.b dX8_classesOf_7 (by decide) (fun c_8 => ?_) (fun c_8 => absurd (by decide) c_8)
      refine lv_iload_n C.x C.b dX8_classesOf_114 rfl (lv_at hl 2 rfl) ?_
      exact r_iret C hr hlocks hS hKp dX8_classesOf_115
    | succ u_2 ih_5 =>
      intro k_3 b_7 g_6 H locs ls hk_4 hKp hS hl
      refine lv_iload_n C.x C.b dX8_classesOf_4 rfl (lv_at hl 3 rfl) ?_
      refine lv_bipush (v := 16) C.x C.b dX8_classesOf_5 (by decide) ?_
      refine lv_icmp_ge (tgt := 114) C.x C.b dX8_classesOf_7 (by decide) (fun c_9 => absurd c_9 (nI_ge (a := k_3) (b := 16) (by omega) (by decide))) (fun c_9 => ?_)
      refine lv_aload_n C.x C.b dX8_classesOf_10 rfl (lv_at hl 0 rfl) ?_
      obtain ⟨td_10, po_11, ps_12, rg_13, mm_14, st_15, an_16, sp_17, pl_18, nu_19, co_20, sm_21, sw_22, sn_23, sq_24, cl_25, ⟨e_26, e_27, e_28, e_29⟩, ⟨e_30, e_31, e_32, e_33, e_34, e_35, e_36, e_37⟩, ⟨e_38, e_39, e_40, e_41⟩, e_42, hSt_43, h01_44, hPl_45, hSm_46⟩ := hKp.2
      replace e_26 : g_6 220 = .inr (8, [.int td_10, .int (nI n), .ref (B + 221), .ref (B + 222), .ref (B + 223), .int ey, .int wi, .int ev, .ref (B + 224), .ref (B + 225), .ref (B + 226), .ref (B + 227), .ref (B + 228), .ref (B + 229), .ref (B + 230), .ref (B + 231), .ref (B + 232), .ref (B + 233), .ref (B + 234), .ref (B + 235), .ref (B + 236), .int po_11, .int ps_12]) := e_26
      refine r_get ck8 flX8_63 C hS (by omega) e_26 (by decide) rfl dX8_classesOf_11 ?_
      refine lv_iload_n C.x C.b dX8_classesOf_14 rfl (lv_at hl 3 rfl) ?_
      refine lv_iconst (v := (-1)) C.x C.b dX8_classesOf_15 (by decide) ?_
      refine r_iastN k_3 rfl (by omega) (by decide) C hS (by omega) e_42 dX8_classesOf_16 (fun g_47 H locs e_48 o_49 hS => ?_)
      replace e_48 : g_47 236 = .inl (t.1, 16, .inl (upd cl_25 k_3 (-1))) := e_48
      replace hKp : Mk t B g g_47 n ey wi ev o pr w := hKp.cls e_48 o_49
      refine lv_iconst (v := 0) C.x C.b dX8_classesOf_17 (by decide) ?_
      refine lv_istore (lv' := [(4, .int 0), (0, .ref (B + 220)), (1, .int (nI q)), (2, .int b_7), (3, .int (nI k_3))]) C.x C.b dX8_classesOf_18 hl (by decide) rfl (fun ls hl => ?_)
      have lp_50 : ∀ (u_51 k_52 : Nat) (g_55 : Nat → va_E) (H : Heap) (locs : List Loc) (ls : Array Slot), k_52 + u_51 = k_3 → Mk t B g g_55 n ey wi ev o pr w → St D B s.heap N g_55 H locs → lv_has ls 5 [(0, .ref (B + 220)), (1, .int (nI q)), (2, .int b_7), (3, .int (nI k_3)), (4, .int (nI k_52))] → W p l e (rmOf 4 97 0 0) s m [.ref (B + 220), .int (nI q)].toArray below meth c H locs 0 0 (MQ below (qI D B N (fun r g' => Mk t B g g' n ey wi ev o pr w)) [.ref (B + 220), .int (nI q)].toArray s 0 0 (fun q => B ≤ q)) (F0 m 20 ls []) := by
        intro u_51
        induction u_51 with
        | zero =>
          intro k_52 g_55 H locs ls hk_53 hKp hS hl
          obtain rfl : k_3 = k_52 := by omega
          refine lv_iload C.x C.b dX8_classesOf_20 (lv_at hl 4 rfl) ?_
          refine lv_iload_n C.x C.b dX8_classesOf_22 rfl (lv_at hl 3 rfl) ?_
          refine lv_icmp_ge (tgt := 84) C.x C.b dX8_classesOf_23 (by decide) (fun c_56 => ?_) (fun c_56 => absurd (nI_le (Nat.le_refl _) (by omega)) c_56)
          refine lv_aload_n C.x C.b dX8_classesOf_84 rfl (lv_at hl 0 rfl) ?_
          obtain ⟨td_57, po_58, ps_59, rg_60, mm_61, st_62, an_63, sp_64, pl_65, nu_66, co_67, sm_68, sw_69, sn_70, sq_71, cl_72, ⟨e_73, e_74, e_75, e_76⟩, ⟨e_77, e_78, e_79, e_80, e_81, e_82, e_83, e_84⟩, ⟨e_85, e_86, e_87, e_88⟩, e_89, hSt_90, h01_91, hPl_92, hSm_93⟩ := hKp.2
          replace e_73 : g_55 220 = .inr (8, [.int td_57, .int (nI n), .ref (B + 221), .ref (B + 222), .ref (B + 223), .int ey, .int wi, .int ev, .ref (B + 224), .ref (B + 225), .ref (B + 226), .ref (B + 227), .ref (B + 228), .ref (B + 229), .ref (B + 230), .ref (B + 231), .ref (B + 232), .ref (B + 233), .ref (B + 234), .ref (B + 235), .ref (B + 236), .int po_58, .int ps_59]) := e_73
          refine r_get ck8 flX8_63 C hS (by omega) e_73 (by decide) rfl dX8_classesOf_85 ?_
          refine lv_iload_n C.x C.b dX8_classesOf_88 rfl (lv_at hl 3 rfl) ?_
          refine r_ialdN k_3 rfl (by omega) (by decide) C hS (by omega) e_89 dX8_classesOf_89 ?_
          refine lv_iconst (v := (-1)) C.x C.b dX8_classesOf_90 (by decide) ?_
          refine lv_icmp_eq (tgt := 97) C.x C.b dX8_classesOf_91 (by decide) (fun c_94 => ?_) (fun c_94 => ?_)
          · skip
            refine lv_aload_n C.x C.b dX8_classesOf_97 rfl (lv_at hl 0 rfl) ?_
            refine r_get ck8 flX8_63 C hS (by omega) e_73 (by decide) rfl dX8_classesOf_98 ?_
            refine lv_iload_n C.x C.b dX8_classesOf_101 rfl (lv_at hl 3 rfl) ?_
            refine lv_iload_n C.x C.b dX8_classesOf_102 rfl (lv_at hl 2 rfl) ?_
            refine r_iastN k_3 rfl (by omega) (by decide) C hS (by omega) e_89 dX8_classesOf_103 (fun g_95 H locs e_96 o_97 hS => ?_)
            replace e_96 : g_95 236 = .inl (t.1, 16, .inl (upd cl_72 k_3 b_7)) := e_96
            replace hKp : Mk t B g g_95 n ey wi ev o pr w := hKp.cls e_96 o_97
            refine lv_iload_n C.x C.b dX8_classesOf_104 rfl (lv_at hl 2 rfl) ?_
            refine lv_iconst (v := 1) C.x C.b dX8_classesOf_105 (by decide) ?_
            refine lv_iadd C.x C.b dX8_classesOf_106 ?_
            refine lv_istore_n (lv' := [(2, .int (b_7 + 1)), (0, .ref (B + 220)), (1, .int (nI q)), (3, .int (nI k_3)), (4, .int (nI k_3))]) C.x C.b dX8_classesOf_107 rfl hl (by decide) rfl (fun ls hl => ?_)
            refine lv_iinc (v := nI (k_3 + 1)) (lv' := [(3, .int (nI (k_3 + 1))), (2, .int (b_7 + 1)), (0, .ref (B + 220)), (1, .int (nI q)), (4, .int (nI k_3))]) C.x C.b dX8_classesOf_108 hl (k := 3) rfl (nI_1 k_3) (by decide) rfl (fun ls hl => ?_)
            refine lv_goto (tgt := 4) C.x C.b dX8_classesOf_111 (by decide) ?_
            exact ih_5 (k_3 + 1) (b_7 + 1) g_95 _ _ _ (by omega)  hKp hS (lv_sub hl [2, 3, 1, 0] rfl)
          · skip
            refine lv_goto (tgt := 108) C.x C.b dX8_classesOf_94 (by decide) ?_
            refine lv_iinc (v := nI (k_3 + 1)) (lv' := [(3, .int (nI (k_3 + 1))), (0, .ref (B + 220)), (1, .int (nI q)), (2, .int b_7), (4, .int (nI k_3))]) C.x C.b dX8_classesOf_108 hl (k := 3) rfl (nI_1 k_3) (by decide) rfl (fun ls hl => ?_)
            refine lv_goto (tgt := 4) C.x C.b dX8_classesOf_111 (by decide) ?_
            exact ih_5 (k_3 + 1) b_7 g_55 _ _ _ (by omega)  hKp hS (lv_sub hl [1, 2, 3, 0] rfl)
        | succ u_51 ih_54 =>
          intro k_52 g_55 H locs ls hk_53 hKp hS hl
          refine lv_iload C.x C.b dX8_classesOf_20 (lv_at hl 4 rfl) ?_
          refine lv_iload_n C.x C.b dX8_classesOf_22 rfl (lv_at hl 3 rfl) ?_
          refine lv_icmp_ge (tgt := 84) C.x C.b dX8_classesOf_23 (by decide) (fun c_98 => absurd c_98 (nI_ge (a := k_52) (b := k_3) (by omega) (by omega))) (fun c_98 => ?_)
          refine lv_aload_n C.x C.b dX8_classesOf_26 rfl (lv_at hl 0 rfl) ?_
          obtain ⟨td_99, po_100, ps_101, rg_102, mm_103, st_104, an_105, sp_106, pl_107, nu_108, co_109, sm_110, sw_111, sn_112, sq_113, cl_114, ⟨e_115, e_116, e_117, e_118⟩, ⟨e_119, e_120, e_121, e_122, e_123, e_124, e_125, e_126⟩, ⟨e_127, e_128, e_129, e_130⟩, e_131, hSt_132, h01_133, hPl_134, hSm_135⟩ := hKp.2
          replace e_115 : g_55 220 = .inr (8, [.int td_99, .int (nI n), .ref (B + 221), .ref (B + 222), .ref (B + 223), .int ey, .int wi, .int ev, .ref (B + 224), .ref (B + 225), .ref (B + 226), .ref (B + 227), .ref (B + 228), .ref (B + 229), .ref (B + 230), .ref (B + 231), .ref (B + 232), .ref (B + 233), .ref (B + 234), .ref (B + 235), .ref (B + 236), .int po_100, .int ps_101]) := e_115
          refine r_get ck8 flX8_63 C hS (by omega) e_115 (by decide) rfl dX8_classesOf_27 ?_
          refine lv_iload_n C.x C.b dX8_classesOf_30 rfl (lv_at hl 3 rfl) ?_
          refine r_ialdN k_3 rfl (by omega) (by decide) C hS (by omega) e_131 dX8_classesOf_31 ?_
          refine lv_iconst (v := (-1)) C.x C.b dX8_classesOf_32 (by decide) ?_
          refine lv_icmp_ne (tgt := 84) C.x C.b dX8_classesOf_33 (by decide) (fun c_136 => ?_) (fun c_136 => ?_)
          · skip
            refine lv_aload_n C.x C.b dX8_classesOf_84 rfl (lv_at hl 0 rfl) ?_
            refine r_get ck8 flX8_63 C hS (by omega) e_115 (by decide) rfl dX8_classesOf_85 ?_
            refine lv_iload_n C.x C.b dX8_classesOf_88 rfl (lv_at hl 3 rfl) ?_
            refine r_ialdN k_3 rfl (by omega) (by decide) C hS (by omega) e_131 dX8_classesOf_89 ?_
            refine lv_iconst (v := (-1)) C.x C.b dX8_classesOf_90 (by decide) ?_
            refine lv_icmp_eq (tgt := 97) C.x C.b dX8_classesOf_91 (by decide) (fun c_137 => ?_) (fun c_137 => ?_)
            · skip
              refine lv_aload_n C.x C.b dX8_classesOf_97 rfl (lv_at hl 0 rfl) ?_
              refine r_get ck8 flX8_63 C hS (by omega) e_115 (by decide) rfl dX8_classesOf_98 ?_
              refine lv_iload_n C.x C.b dX8_classesOf_101 rfl (lv_at hl 3 rfl) ?_
              refine lv_iload_n C.x C.b dX8_classesOf_102 rfl (lv_at hl 2 rfl) ?_
              refine r_iastN k_3 rfl (by omega) (by decide) C hS (by omega) e_131 dX8_classesOf_103 (fun g_138 H locs e_139 o_140 hS => ?_)
              replace e_139 : g_138 236 = .inl (t.1, 16, .inl (upd cl_114 k_3 b_7)) := e_139
              replace hKp : Mk t B g g_138 n ey wi ev o pr w := hKp.cls e_139 o_140
              refine lv_iload_n C.x C.b dX8_classesOf_104 rfl (lv_at hl 2 rfl) ?_
              refine lv_iconst (v := 1) C.x C.b dX8_classesOf_105 (by decide) ?_
              refine lv_iadd C.x C.b dX8_classesOf_106 ?_
              refine lv_istore_n (lv' := [(2, .int (b_7 + 1)), (0, .ref (B + 220)), (1, .int (nI q)), (3, .int (nI k_3)), (4, .int (nI k_52))]) C.x C.b dX8_classesOf_107 rfl hl (by decide) rfl (fun ls hl => ?_)
              refine lv_iinc (v := nI (k_3 + 1)) (lv' := [(3, .int (nI (k_3 + 1))), (2, .int (b_7 + 1)), (0, .ref (B + 220)), (1, .int (nI q)), (4, .int (nI k_52))]) C.x C.b dX8_classesOf_108 hl (k := 3) rfl (nI_1 k_3) (by decide) rfl (fun ls hl => ?_)
              refine lv_goto (tgt := 4) C.x C.b dX8_classesOf_111 (by decide) ?_
              exact ih_5 (k_3 + 1) (b_7 + 1) g_138 _ _ _ (by omega)  hKp hS (lv_sub hl [2, 3, 1, 0] rfl)
            · skip
              refine lv_goto (tgt := 108) C.x C.b dX8_classesOf_94 (by decide) ?_
              refine lv_iinc (v := nI (k_3 + 1)) (lv' := [(3, .int (nI (k_3 + 1))), (0, .ref (B + 220)), (1, .int (nI q)), (2, .int b_7), (4, .int (nI k_52))]) C.x C.b dX8_classesOf_108 hl (k := 3) rfl (nI_1 k_3) (by decide) rfl (fun ls hl => ?_)
              refine lv_goto (tgt := 4) C.x C.b dX8_classesOf_111 (by decide) ?_
              exact ih_5 (k_3 + 1) b_7 g_55 _ _ _ (by omega)  hKp hS (lv_sub hl [1, 2, 3, 0] rfl)
          · skip
            refine lv_aload_n C.x C.b dX8_classesOf_36 rfl (lv_at hl 0 rfl) ?_
            refine lv_bipush (v := 16) C.x C.b dX8_classesOf_37 (by decide) ?_
            refine lv_iload_n C.x C.b dX8_classesOf_39 rfl (lv_at hl 1 rfl) ?_
            refine lv_imul C.x C.b dX8_classesOf_40 ?_
            refine r_top (y := nI (16 * q)) (pk_mul 16 q) ?_
            refine lv_iload C.x C.b dX8_classesOf_41 (lv_at hl 4 rfl) ?_
            refine lv_iadd C.x C.b dX8_classesOf_43 ?_
            refine r_top (y := nI ((16 * q) + k_52)) (nI_add (16 * q) k_52) ?_
            refine lv_bipush (v := 16) C.x C.b dX8_classesOf_44 (by decide) ?_
            refine lv_iload_n C.x C.b dX8_classesOf_46 rfl (lv_at hl 1 rfl) ?_
            refine lv_imul C.x C.b dX8_classesOf_47 ?_
            refine r_top (y := nI (16 * q)) (pk_mul 16 q) ?_
            refine lv_iload_n C.x C.b dX8_classesOf_48 rfl (lv_at hl 3 rfl) ?_
            refine lv_iadd C.x C.b dX8_classesOf_49 ?_
            refine r_top (y := nI ((16 * q) + k_3)) (nI_add (16 * q) k_3) ?_
            refine lv_aload_n C.x C.b dX8_classesOf_50 rfl (lv_at hl 0 rfl) ?_
            refine r_get ck8 flX8_80 C hS (by omega) e_115 (by decide) rfl dX8_classesOf_51 ?_
            refine lv_aload_n C.x C.b dX8_classesOf_54 rfl (lv_at hl 0 rfl) ?_
            refine r_get ck8 flX8_19 C hS (by omega) e_115 (by decide) rfl dX8_classesOf_55 ?_
            obtain ⟨s_141, hs_142, hs_143⟩ := hSt_132 ((16 * q) + k_52) (by omega)
            obtain ⟨s_144, hs_145, hs_146⟩ := hSt_132 ((16 * q) + k_3) (by omega)
            refine r_callV (b := 220) (As := [.int (nI ((16 * q) + k_52)), .int (nI ((16 * q) + k_3)), .int ev, .int ey]) (rest := []) (c_X8_unlike l D t B N g_55 _ _ _ _ _ _ _ _ _ _ _ _ _ _ _ _ _ _ ((16 * q) + k_52) ((16 * q) + k_3) s_141 s_144 ev ey (by omega) e_115 e_116 e_121 e_122 e_123 e_124 e_125 e_126 e_127 e_128 e_129 e_130 (by omega) (by omega) hs_143 hs_142 hs_146 hs_145 hPl_134 hwi) mf_yX8_unlike mlX8_111 im_yX8_unlike se_yX8_unlike (by decide) C hS (by omega) e_115 (show vwCl[8]? = some _ from rfl) rfl rfl hl.1 rfl (Nat.le_of_ble_eq_true rfl) dX8_classesOf_58 ⟨Nat.zero_le _, Nat.zero_le _⟩ (fun r_149 g_147 H locs w_148 hS => ?_)
            replace hKp : Mk t B g g_147 n ey wi ev o pr w := hKp.see w_148.1 (okSm_upd1 (okSm_upd0 hSm_135 (lookR_le _ _ _ _ _ _ _ _ _ _ _ _ _ _ _ hs_142)) (lookR_le _ _ _ _ _ _ _ _ _ _ _ _ _ _ _ hs_145)) w_148.2.2
            refine lv_iconst (v := (-1)) C.x C.b dX8_classesOf_61 (by decide) ?_
            refine lv_icmp_ne (tgt := 78) C.x C.b dX8_classesOf_62 (by decide) (fun c_150 => ?_) (fun c_150 => ?_)
            · skip
              refine lv_iinc (v := nI (k_52 + 1)) (lv' := [(4, .int (nI (k_52 + 1))), (0, .ref (B + 220)), (1, .int (nI q)), (2, .int b_7), (3, .int (nI k_3))]) C.x C.b dX8_classesOf_78 hl (k := 4) rfl (nI_1 k_52) (by decide) rfl (fun ls hl => ?_)
              refine lv_goto (tgt := 20) C.x C.b dX8_classesOf_81 (by decide) ?_
              exact ih_54 (k_52 + 1) g_147 _ _ _ (by omega)  hKp hS (lv_sub hl [1, 2, 3, 4, 0] rfl)
            · skip
              refine lv_aload_n C.x C.b dX8_classesOf_65 rfl (lv_at hl 0 rfl) ?_
              obtain ⟨td_151, po_152, ps_153, rg_154, mm_155, st_156, an_157, sp_158, pl_159, nu_160, co_161, sm_162, sw_163, sn_164, sq_165, cl_166, ⟨e_167, e_168, e_169, e_170⟩, ⟨e_171, e_172, e_173, e_174, e_175, e_176, e_177, e_178⟩, ⟨e_179, e_180, e_181, e_182⟩, e_183, hSt_184, h01_185, hPl_186, hSm_187⟩ := hKp.2
              replace e_167 : g_147 220 = .inr (8, [.int td_151, .int (nI n), .ref (B + 221), .ref (B + 222), .ref (B + 223), .int ey, .int wi, .int ev, .ref (B + 224), .ref (B + 225), .ref (B + 226), .ref (B + 227), .ref (B + 228), .ref (B + 229), .ref (B + 230), .ref (B + 231), .ref (B + 232), .ref (B + 233), .ref (B + 234), .ref (B + 235), .ref (B + 236), .int po_152, .int ps_153]) := e_167
              refine r_get ck8 flX8_63 C hS (by omega) e_167 (by decide) rfl dX8_classesOf_66 ?_
              refine lv_iload_n C.x C.b dX8_classesOf_69 rfl (lv_at hl 3 rfl) ?_
              refine lv_aload_n C.x C.b dX8_classesOf_70 rfl (lv_at hl 0 rfl) ?_
              refine r_get ck8 flX8_63 C hS (by omega) e_167 (by decide) rfl dX8_classesOf_71 ?_
              refine lv_iload C.x C.b dX8_classesOf_74 (lv_at hl 4 rfl) ?_
              refine r_ialdN k_52 rfl (by omega) (by decide) C hS (by omega) e_183 dX8_classesOf_76 ?_
              refine r_iastN k_3 rfl (by omega) (by decide) C hS (by omega) e_183 dX8_classesOf_77 (fun g_188 H locs e_189 o_190 hS => ?_)
              replace e_189 : g_188 236 = .inl (t.1, 16, .inl (upd cl_166 k_3 (cl_166 k_52))) := e_189
              replace hKp : Mk t B g g_188 n ey wi ev o pr w := hKp.cls e_189 o_190
              refine lv_iinc (v := nI (k_52 + 1)) (lv' := [(4, .int (nI (k_52 + 1))), (0, .ref (B + 220)), (1, .int (nI q)), (2, .int b_7), (3, .int (nI k_3))]) C.x C.b dX8_classesOf_78 hl (k := 4) rfl (nI_1 k_52) (by decide) rfl (fun ls hl => ?_)
              refine lv_goto (tgt := 20) C.x C.b dX8_classesOf_81 (by decide) ?_
              exact ih_54 (k_52 + 1) g_188 _ _ _ (by omega)  hKp hS (lv_sub hl [1, 2, 3, 4, 0] rfl)
      exact lp_50 k_3 0 g_47 _ _ _ (by omega)  hKp hS (lv_sub hl [1, 2, 3, 4, 0] rfl)
  exact lp_1 16 0 0 g _ _ _ (by omega)  hKp hS (lv_sub hl [2, 3, 1, 0] rfl)
set_option maxHeartbeats 1000000 in
set_option maxRecDepth 100000 in
theorem k_X8_classes (l : Launch) (D : va_G) (t : Gx) (B N : Nat) (g : Nat → va_E) (n : Nat) (ey wi ev : Int32) (o pr w : Nat → Int32) (x : Int32) (hN : 236 < N) (hM : Msh t B g n ey wi ev o pr w) (hn : n ≤ 8) (hO : okO o) (hwi : ¬ wi = 0)  : Ci l D t B N yX8_classes cX8_classes 2 (some .int) 5 121 g [.ref (B + 220), .int x] (fun r g' => Mk t B g g' n ey wi ev o pr w) := by
  refine Ci.start (by decide) (Nat.le_of_ble_eq_true rfl) ?_
  intro p e s m below meth c ls C hr hlocks hS hl
  replace C : Cx D t p s m [.ref (B + 220), .int x].toArray c cX8_classes 2 RX8 := C
  replace hl : lv_has ls 2 [(0, .ref (B + 220)), (1, .int x)] := hl
  have hKp : Mk t B g g n ey wi ev o pr w := Mk.rf hM
  refine lv_aload_n C.x C.b dX8_classes_0 rfl (lv_at hl 0 rfl) ?_
  refine lv_iconst (v := 0) C.x C.b dX8_classes_1 (by decide) ?_
  obtain ⟨td_1, po_2, ps_3, rg_4, mm_5, st_6, an_7, sp_8, pl_9, nu_10, co_11, sm_12, sw_13, sn_14, sq_15, cl_16, ⟨e_17, e_18, e_19, e_20⟩, ⟨e_21, e_22, e_23, e_24, e_25, e_26, e_27, e_28⟩, ⟨e_29, e_30, e_31, e_32⟩, e_33, hSt_34, h01_35, hPl_36, hSm_37⟩ := hKp.2
  replace e_17 : g 220 = .inr (8, [.int td_1, .int (nI n), .ref (B + 221), .ref (B + 222), .ref (B + 223), .int ey, .int wi, .int ev, .ref (B + 224), .ref (B + 225), .ref (B + 226), .ref (B + 227), .ref (B + 228), .ref (B + 229), .ref (B + 230), .ref (B + 231), .ref (B + 232), .ref (B + 233), .ref (B + 234), .ref (B + 235), .ref (B + 236), .int po_2, .int ps_3]) := e_17
  refine r_put ck8 flX8_66 C hS (by omega) e_17 (by decide) rfl rfl rfl (Nat.le_of_ble_eq_true rfl) dX8_classes_2 (fun g_38 H locs e_39 o_40 hS => ?_)
  replace e_39 : g_38 220 = .inr (8, [.int 0, .int (nI n), .ref (B + 221), .ref (B + 222), .ref (B + 223), .int ey, .int wi, .int ev, .ref (B + 224), .ref (B + 225), .ref (B + 226), .ref (B + 227), .ref (B + 228), .ref (B + 229), .ref (B + 230), .ref (B + 231), .ref (B + 232), .ref (B + 233), .ref (B + 234), .ref (B + 235), .ref (B + 236), .int po_2, .int ps_3]) := e_39
  replace hKp : Mk t B g g_38 n ey wi ev o pr w := hKp.obj (td := 0) (po := po_2) (ps := ps_3) e_39 o_40
  refine lv_aload_n C.x C.b dX8_classes_5 rfl (lv_at hl 0 rfl) ?_
  refine lv_iload_n C.x C.b dX8_classes_6 rfl (lv_at hl 1 rfl) ?_
  obtain ⟨td_44, po_45, ps_46, rg_47, mm_48, st_49, an_50, sp_51, pl_52, nu_53, co_54, sm_55, sw_56, sn_57, sq_58, cl_59, ⟨e_60, e_61, e_62, e_63⟩, ⟨e_64, e_65, e_66, e_67, e_68, e_69, e_70, e_71⟩, ⟨e_72, e_73, e_74, e_75⟩, e_76, hSt_77, h01_78, hPl_79, hSm_80⟩ := hKp.2
  replace e_60 : g_38 220 = .inr (8, [.int td_44, .int (nI n), .ref (B + 221), .ref (B + 222), .ref (B + 223), .int ey, .int wi, .int ev, .ref (B + 224), .ref (B + 225), .ref (B + 226), .ref (B + 227), .ref (B + 228), .ref (B + 229), .ref (B + 230), .ref (B + 231), .ref (B + 232), .ref (B + 233), .ref (B + 234), .ref (B + 235), .ref (B + 236), .int po_45, .int ps_46]) := e_60
  refine r_callV (b := 220) (As := [.int x]) (rest := []) (c_X8_isInput l D t B N g_38 x) mf_yX8_isInput mlX8_108 im_yX8_isInput se_yX8_isInput (by decide) C hS (by omega) e_60 (show vwCl[8]? = some _ from rfl) rfl rfl hl.1 rfl (Nat.le_of_ble_eq_true rfl) dX8_classes_7 ⟨Nat.zero_le _, Nat.zero_le _⟩ (fun r_43 g_41 H locs w_42 hS => ?_)
  obtain ⟨rfl, er_43⟩ := w_42
  by_cases b_81 : inP 16 x
  · rw [bz_t b_81] at er_43
    subst er_43
    obtain ⟨q_82, hq_83, rfl⟩ := inP_nI b_81 (by decide)
    refine lv_if_ne (tgt := 15) C.x C.b dX8_classes_10 (by decide) (fun c_84 => ?_) (fun c_84 => absurd c_84 (by decide))
    refine lv_aload_n C.x C.b dX8_classes_15 rfl (lv_at hl 0 rfl) ?_
    refine r_callVv (b := 220) (As := []) (rest := []) (k_goAll l D t B N g_38 _ _ _ _ _ _ _ (by omega) hKp.2 (by omega) hO) mf_yX8_goAll mlX8_115 im_yX8_goAll se_yX8_goAll (by decide) C hS (by omega) e_60 (show vwCl[8]? = some _ from rfl) rfl rfl hl.1 rfl (Nat.le_of_ble_eq_true rfl) dX8_classes_16 ⟨Nat.zero_le _, Nat.zero_le _⟩ (fun g_85 H locs w_86 hS => ?_)
    replace hKp : Mk t B g g_85 n ey wi ev o pr w := hKp.tr w_86
    refine lv_aload_n C.x C.b dX8_classes_19 rfl (lv_at hl 0 rfl) ?_
    refine lv_iload_n C.x C.b dX8_classes_20 rfl (lv_at hl 1 rfl) ?_
    obtain ⟨td_91, po_92, ps_93, rg_94, mm_95, st_96, an_97, sp_98, pl_99, nu_100, co_101, sm_102, sw_103, sn_104, sq_105, cl_106, ⟨e_107, e_108, e_109, e_110⟩, ⟨e_111, e_112, e_113, e_114, e_115, e_116, e_117, e_118⟩, ⟨e_119, e_120, e_121, e_122⟩, e_123, hSt_124, h01_125, hPl_126, hSm_127⟩ := hKp.2
    replace e_107 : g_85 220 = .inr (8, [.int td_91, .int (nI n), .ref (B + 221), .ref (B + 222), .ref (B + 223), .int ey, .int wi, .int ev, .ref (B + 224), .ref (B + 225), .ref (B + 226), .ref (B + 227), .ref (B + 228), .ref (B + 229), .ref (B + 230), .ref (B + 231), .ref (B + 232), .ref (B + 233), .ref (B + 234), .ref (B + 235), .ref (B + 236), .int po_92, .int ps_93]) := e_107
    refine r_callV (b := 220) (As := [.int (nI q_82)]) (rest := []) (k_X8_classesOf l D t B N g_85 _ _ _ _ _ _ _ q_82 (by omega) hKp.2 (by omega) hO hwi (by omega)) mf_yX8_classesOf mlX8_118 im_yX8_classesOf se_yX8_classesOf (by decide) C hS (by omega) e_107 (show vwCl[8]? = some _ from rfl) rfl rfl hl.1 rfl (Nat.le_of_ble_eq_true rfl) dX8_classes_21 ⟨Nat.zero_le _, Nat.zero_le _⟩ (fun r_90 g_88 H locs w_89 hS => ?_)
    replace hKp : Mk t B g g_88 n ey wi ev o pr w := hKp.tr w_89
    exact r_iret C hr hlocks hS hKp dX8_classes_24
  · rw [bz_f b_81] at er_43
    subst er_43
    refine lv_if_ne (tgt := 15) C.x C.b dX8_classes_10 (by decide) (fun c_128 => absurd (by decide) c_128) (fun c_128 => ?_)
    refine lv_iconst (v := (-1)) C.x C.b dX8_classes_13 (by decide) ?_
    exact r_iret C hr hlocks hS hKp dX8_classes_14
set_option maxHeartbeats 1000000 in
set_option maxRecDepth 100000 in
theorem k_X8_classOf (l : Launch) (D : va_G) (t : Gx) (B N : Nat) (g : Nat → va_E) (n : Nat) (ey wi ev : Int32) (o pr w : Nat → Int32) (x y : Int32) (hN : 236 < N) (hM : Msh t B g n ey wi ev o pr w) (hn : n ≤ 8) (hO : okO o) (hwi : ¬ wi = 0)  : Ci l D t B N yX8_classOf cX8_classOf 3 (some .int) 5 121 g [.ref (B + 220), .int x, .int y] (fun r g' => Mk t B g g' n ey wi ev o pr w) := by
  refine Ci.start (by decide) (Nat.le_of_ble_eq_true rfl) ?_
  intro p e s m below meth c ls C hr hlocks hS hl
  replace C : Cx D t p s m [.ref (B + 220), .int x, .int y].toArray c cX8_classOf 3 RX8 := C
  replace hl : lv_has ls 3 [(0, .ref (B + 220)), (1, .int x), (2, .int y)] := hl
  have hKp : Mk t B g g n ey wi ev o pr w := Mk.rf hM
  refine lv_aload_n C.x C.b dX8_classOf_0 rfl (lv_at hl 0 rfl) ?_
  refine lv_iconst (v := 0) C.x C.b dX8_classOf_1 (by decide) ?_
  obtain ⟨td_1, po_2, ps_3, rg_4, mm_5, st_6, an_7, sp_8, pl_9, nu_10, co_11, sm_12, sw_13, sn_14, sq_15, cl_16, ⟨e_17, e_18, e_19, e_20⟩, ⟨e_21, e_22, e_23, e_24, e_25, e_26, e_27, e_28⟩, ⟨e_29, e_30, e_31, e_32⟩, e_33, hSt_34, h01_35, hPl_36, hSm_37⟩ := hKp.2
  replace e_17 : g 220 = .inr (8, [.int td_1, .int (nI n), .ref (B + 221), .ref (B + 222), .ref (B + 223), .int ey, .int wi, .int ev, .ref (B + 224), .ref (B + 225), .ref (B + 226), .ref (B + 227), .ref (B + 228), .ref (B + 229), .ref (B + 230), .ref (B + 231), .ref (B + 232), .ref (B + 233), .ref (B + 234), .ref (B + 235), .ref (B + 236), .int po_2, .int ps_3]) := e_17
  refine r_put ck8 flX8_66 C hS (by omega) e_17 (by decide) rfl rfl rfl (Nat.le_of_ble_eq_true rfl) dX8_classOf_2 (fun g_38 H locs e_39 o_40 hS => ?_)
  replace e_39 : g_38 220 = .inr (8, [.int 0, .int (nI n), .ref (B + 221), .ref (B + 222), .ref (B + 223), .int ey, .int wi, .int ev, .ref (B + 224), .ref (B + 225), .ref (B + 226), .ref (B + 227), .ref (B + 228), .ref (B + 229), .ref (B + 230), .ref (B + 231), .ref (B + 232), .ref (B + 233), .ref (B + 234), .ref (B + 235), .ref (B + 236), .int po_2, .int ps_3]) := e_39
  replace hKp : Mk t B g g_38 n ey wi ev o pr w := hKp.obj (td := 0) (po := po_2) (ps := ps_3) e_39 o_40
  refine lv_aload_n C.x C.b dX8_classOf_5 rfl (lv_at hl 0 rfl) ?_
  refine lv_iload_n C.x C.b dX8_classOf_6 rfl (lv_at hl 1 rfl) ?_
  obtain ⟨td_44, po_45, ps_46, rg_47, mm_48, st_49, an_50, sp_51, pl_52, nu_53, co_54, sm_55, sw_56, sn_57, sq_58, cl_59, ⟨e_60, e_61, e_62, e_63⟩, ⟨e_64, e_65, e_66, e_67, e_68, e_69, e_70, e_71⟩, ⟨e_72, e_73, e_74, e_75⟩, e_76, hSt_77, h01_78, hPl_79, hSm_80⟩ := hKp.2
  replace e_60 : g_38 220 = .inr (8, [.int td_44, .int (nI n), .ref (B + 221), .ref (B + 222), .ref (B + 223), .int ey, .int wi, .int ev, .ref (B + 224), .ref (B + 225), .ref (B + 226), .ref (B + 227), .ref (B + 228), .ref (B + 229), .ref (B + 230), .ref (B + 231), .ref (B + 232), .ref (B + 233), .ref (B + 234), .ref (B + 235), .ref (B + 236), .int po_45, .int ps_46]) := e_60
  refine r_callV (b := 220) (As := [.int x]) (rest := []) (c_X8_isInput l D t B N g_38 x) mf_yX8_isInput mlX8_108 im_yX8_isInput se_yX8_isInput (by decide) C hS (by omega) e_60 (show vwCl[8]? = some _ from rfl) rfl rfl hl.1 rfl (Nat.le_of_ble_eq_true rfl) dX8_classOf_7 ⟨Nat.zero_le _, Nat.zero_le _⟩ (fun r_43 g_41 H locs w_42 hS => ?_)
  obtain ⟨rfl, er_43⟩ := w_42
  by_cases b_81 : inP 16 x
  · rw [bz_t b_81] at er_43
    subst er_43
    obtain ⟨q_82, hq_83, rfl⟩ := inP_nI b_81 (by decide)
    refine lv_if_eq (tgt := 21) C.x C.b dX8_classOf_10 (by decide) (fun c_84 => absurd c_84 (by decide)) (fun c_84 => ?_)
    refine lv_aload_n C.x C.b dX8_classOf_13 rfl (lv_at hl 0 rfl) ?_
    refine lv_iload_n C.x C.b dX8_classOf_14 rfl (lv_at hl 2 rfl) ?_
    refine r_callV (b := 220) (As := [.int y]) (rest := []) (c_X8_isInput l D t B N g_38 y) mf_yX8_isInput mlX8_108 im_yX8_isInput se_yX8_isInput (by decide) C hS (by omega) e_60 (show vwCl[8]? = some _ from rfl) rfl rfl hl.1 rfl (Nat.le_of_ble_eq_true rfl) dX8_classOf_15 ⟨Nat.zero_le _, Nat.zero_le _⟩ (fun r_87 g_85 H locs w_86 hS => ?_)
    obtain ⟨rfl, er_87⟩ := w_86
    by_cases b_88 : inP 16 y
    · rw [bz_t b_88] at er_87
      subst er_87
      obtain ⟨q_89, hq_90, rfl⟩ := inP_nI b_88 (by decide)
      refine lv_if_ne (tgt := 23) C.x C.b dX8_classOf_18 (by decide) (fun c_91 => ?_) (fun c_91 => absurd c_91 (by decide))
      refine lv_aload_n C.x C.b dX8_classOf_23 rfl (lv_at hl 0 rfl) ?_
      refine r_callVv (b := 220) (As := []) (rest := []) (k_goAll l D t B N g_38 _ _ _ _ _ _ _ (by omega) hKp.2 (by omega) hO) mf_yX8_goAll mlX8_115 im_yX8_goAll se_yX8_goAll (by decide) C hS (by omega) e_60 (show vwCl[8]? = some _ from rfl) rfl rfl hl.1 rfl (Nat.le_of_ble_eq_true rfl) dX8_classOf_24 ⟨Nat.zero_le _, Nat.zero_le _⟩ (fun g_92 H locs w_93 hS => ?_)
      replace hKp : Mk t B g g_92 n ey wi ev o pr w := hKp.tr w_93
      refine lv_aload_n C.x C.b dX8_classOf_27 rfl (lv_at hl 0 rfl) ?_
      refine lv_iload_n C.x C.b dX8_classOf_28 rfl (lv_at hl 1 rfl) ?_
      obtain ⟨td_98, po_99, ps_100, rg_101, mm_102, st_103, an_104, sp_105, pl_106, nu_107, co_108, sm_109, sw_110, sn_111, sq_112, cl_113, ⟨e_114, e_115, e_116, e_117⟩, ⟨e_118, e_119, e_120, e_121, e_122, e_123, e_124, e_125⟩, ⟨e_126, e_127, e_128, e_129⟩, e_130, hSt_131, h01_132, hPl_133, hSm_134⟩ := hKp.2
      replace e_114 : g_92 220 = .inr (8, [.int td_98, .int (nI n), .ref (B + 221), .ref (B + 222), .ref (B + 223), .int ey, .int wi, .int ev, .ref (B + 224), .ref (B + 225), .ref (B + 226), .ref (B + 227), .ref (B + 228), .ref (B + 229), .ref (B + 230), .ref (B + 231), .ref (B + 232), .ref (B + 233), .ref (B + 234), .ref (B + 235), .ref (B + 236), .int po_99, .int ps_100]) := e_114
      refine r_callV (b := 220) (As := [.int (nI q_82)]) (rest := []) (k_X8_classesOf l D t B N g_92 _ _ _ _ _ _ _ q_82 (by omega) hKp.2 (by omega) hO hwi (by omega)) mf_yX8_classesOf mlX8_118 im_yX8_classesOf se_yX8_classesOf (by decide) C hS (by omega) e_114 (show vwCl[8]? = some _ from rfl) rfl rfl hl.1 rfl (Nat.le_of_ble_eq_true rfl) dX8_classOf_29 ⟨Nat.zero_le _, Nat.zero_le _⟩ (fun r_97 g_95 H locs w_96 hS => ?_)
      replace hKp : Mk t B g g_95 n ey wi ev o pr w := hKp.tr w_96
      refine lv_pop C.x C.b dX8_classOf_32 rfl ?_
      refine lv_aload_n C.x C.b dX8_classOf_33 rfl (lv_at hl 0 rfl) ?_
      obtain ⟨td_135, po_136, ps_137, rg_138, mm_139, st_140, an_141, sp_142, pl_143, nu_144, co_145, sm_146, sw_147, sn_148, sq_149, cl_150, ⟨e_151, e_152, e_153, e_154⟩, ⟨e_155, e_156, e_157, e_158, e_159, e_160, e_161, e_162⟩, ⟨e_163, e_164, e_165, e_166⟩, e_167, hSt_168, h01_169, hPl_170, hSm_171⟩ := hKp.2
      replace e_151 : g_95 220 = .inr (8, [.int td_135, .int (nI n), .ref (B + 221), .ref (B + 222), .ref (B + 223), .int ey, .int wi, .int ev, .ref (B + 224), .ref (B + 225), .ref (B + 226), .ref (B + 227), .ref (B + 228), .ref (B + 229), .ref (B + 230), .ref (B + 231), .ref (B + 232), .ref (B + 233), .ref (B + 234), .ref (B + 235), .ref (B + 236), .int po_136, .int ps_137]) := e_151
      refine r_get ck8 flX8_63 C hS (by omega) e_151 (by decide) rfl dX8_classOf_34 ?_
      refine lv_iload_n C.x C.b dX8_classOf_37 rfl (lv_at hl 2 rfl) ?_
      refine r_ialdN q_89 rfl (by omega) (by decide) C hS (by omega) e_167 dX8_classOf_38 ?_
      exact r_iret C hr hlocks hS hKp dX8_classOf_39
    · rw [bz_f b_88] at er_87
      subst er_87
      refine lv_if_ne (tgt := 23) C.x C.b dX8_classOf_18 (by decide) (fun c_172 => absurd (by decide) c_172) (fun c_172 => ?_)
      refine lv_iconst (v := (-1)) C.x C.b dX8_classOf_21 (by decide) ?_
      exact r_iret C hr hlocks hS hKp dX8_classOf_22
  · rw [bz_f b_81] at er_43
    subst er_43
    refine lv_if_eq (tgt := 21) C.x C.b dX8_classOf_10 (by decide) (fun c_173 => ?_) (fun c_173 => absurd (by decide) c_173)
    refine lv_iconst (v := (-1)) C.x C.b dX8_classOf_21 (by decide) ?_
    exact r_iret C hr hlocks hS hKp dX8_classOf_22
set_option maxHeartbeats 1000000 in
set_option maxRecDepth 100000 in
theorem k_X8_most (l : Launch) (D : va_G) (t : Gx) (B N : Nat) (g : Nat → va_E) (n : Nat) (ey wi ev : Int32) (o pr w : Nat → Int32)  (hN : 236 < N) (hM : Msh t B g n ey wi ev o pr w) (hn : n ≤ 8) (hO : okO o) (hwi : ¬ wi = 0)  : Ci l D t B N yX8_most cX8_most 4 (some .int) 5 121 g [.ref (B + 220)] (fun r g' => Mk t B g g' n ey wi ev o pr w) := by
  refine Ci.start (by decide) (Nat.le_of_ble_eq_true rfl) ?_
  intro p e s m below meth c ls C hr hlocks hS hl
  replace C : Cx D t p s m [.ref (B + 220)].toArray c cX8_most 4 RX8 := C
  replace hl : lv_has ls 4 [(0, .ref (B + 220))] := hl
  have hKp : Mk t B g g n ey wi ev o pr w := Mk.rf hM
  refine lv_aload_n C.x C.b dX8_most_0 rfl (lv_at hl 0 rfl) ?_
  refine lv_iconst (v := 0) C.x C.b dX8_most_1 (by decide) ?_
  obtain ⟨td_1, po_2, ps_3, rg_4, mm_5, st_6, an_7, sp_8, pl_9, nu_10, co_11, sm_12, sw_13, sn_14, sq_15, cl_16, ⟨e_17, e_18, e_19, e_20⟩, ⟨e_21, e_22, e_23, e_24, e_25, e_26, e_27, e_28⟩, ⟨e_29, e_30, e_31, e_32⟩, e_33, hSt_34, h01_35, hPl_36, hSm_37⟩ := hKp.2
  replace e_17 : g 220 = .inr (8, [.int td_1, .int (nI n), .ref (B + 221), .ref (B + 222), .ref (B + 223), .int ey, .int wi, .int ev, .ref (B + 224), .ref (B + 225), .ref (B + 226), .ref (B + 227), .ref (B + 228), .ref (B + 229), .ref (B + 230), .ref (B + 231), .ref (B + 232), .ref (B + 233), .ref (B + 234), .ref (B + 235), .ref (B + 236), .int po_2, .int ps_3]) := e_17
  refine r_put ck8 flX8_66 C hS (by omega) e_17 (by decide) rfl rfl rfl (Nat.le_of_ble_eq_true rfl) dX8_most_2 (fun g_38 H locs e_39 o_40 hS => ?_)
  replace e_39 : g_38 220 = .inr (8, [.int 0, .int (nI n), .ref (B + 221), .ref (B + 222), .ref (B + 223), .int ey, .int wi, .int ev, .ref (B + 224), .ref (B + 225), .ref (B + 226), .ref (B + 227), .ref (B + 228), .ref (B + 229), .ref (B + 230), .ref (B + 231), .ref (B + 232), .ref (B + 233), .ref (B + 234), .ref (B + 235), .ref (B + 236), .int po_2, .int ps_3]) := e_39
  replace hKp : Mk t B g g_38 n ey wi ev o pr w := hKp.obj (td := 0) (po := po_2) (ps := ps_3) e_39 o_40
  refine lv_aload_n C.x C.b dX8_most_5 rfl (lv_at hl 0 rfl) ?_
  obtain ⟨td_44, po_45, ps_46, rg_47, mm_48, st_49, an_50, sp_51, pl_52, nu_53, co_54, sm_55, sw_56, sn_57, sq_58, cl_59, ⟨e_60, e_61, e_62, e_63⟩, ⟨e_64, e_65, e_66, e_67, e_68, e_69, e_70, e_71⟩, ⟨e_72, e_73, e_74, e_75⟩, e_76, hSt_77, h01_78, hPl_79, hSm_80⟩ := hKp.2
  replace e_60 : g_38 220 = .inr (8, [.int td_44, .int (nI n), .ref (B + 221), .ref (B + 222), .ref (B + 223), .int ey, .int wi, .int ev, .ref (B + 224), .ref (B + 225), .ref (B + 226), .ref (B + 227), .ref (B + 228), .ref (B + 229), .ref (B + 230), .ref (B + 231), .ref (B + 232), .ref (B + 233), .ref (B + 234), .ref (B + 235), .ref (B + 236), .int po_45, .int ps_46]) := e_60
  refine r_callVv (b := 220) (As := []) (rest := []) (k_goAll l D t B N g_38 _ _ _ _ _ _ _ (by omega) hKp.2 (by omega) hO) mf_yX8_goAll mlX8_115 im_yX8_goAll se_yX8_goAll (by decide) C hS (by omega) e_60 (show vwCl[8]? = some _ from rfl) rfl rfl hl.1 rfl (Nat.le_of_ble_eq_true rfl) dX8_most_6 ⟨Nat.zero_le _, Nat.zero_le _⟩ (fun g_41 H locs w_42 hS => ?_)
  replace hKp : Mk t B g g_41 n ey wi ev o pr w := hKp.tr w_42
  refine lv_iconst (v := 0) C.x C.b dX8_most_9 (by decide) ?_
  refine lv_istore_n (lv' := [(1, .int 0), (0, .ref (B + 220))]) C.x C.b dX8_most_10 rfl hl (by decide) rfl (fun ls hl => ?_)
  refine lv_iconst (v := 0) C.x C.b dX8_most_11 (by decide) ?_
  refine lv_istore_n (lv' := [(2, .int 0), (1, .int 0), (0, .ref (B + 220))]) C.x C.b dX8_most_12 rfl hl (by decide) rfl (fun ls hl => ?_)
  have lp_81 : ∀ (u_82 k_83 : Nat) (b_87 : Int32) (g_86 : Nat → va_E) (H : Heap) (locs : List Loc) (ls : Array Slot), k_83 + u_82 = 16 → Mk t B g g_86 n ey wi ev o pr w → St D B s.heap N g_86 H locs → lv_has ls 4 [(0, .ref (B + 220)), (1, .int b_87), (2, .int (nI k_83))] → W p l e (rmOf 5 121 0 0) s m [.ref (B + 220)].toArray below meth c H locs 0 0 (MQ below (qI D B N (fun r g' => Mk t B g g' n ey wi ev o pr w)) [.ref (B + 220)].toArray s 0 0 (fun q => B ≤ q)) (F0 m 13 ls []) := by
    intro u_82
    induction u_82 with
    | zero =>
      intro k_83 b_87 g_86 H locs ls hk_84 hKp hS hl
      obtain rfl : 16 = k_83 := by omega
      refine lv_iload_n C.x C.b dX8_most_13 rfl (lv_at hl 2 rfl) ?_
      refine lv_bipush (v := 16) C.x C.b dX8_most_14 (by decide) ?_
      refine lv_icmp_ge (tgt := 38) C.x C.b dX8_most_16 (by decide) (fun c_88 => ?_) (fun c_88 => absurd (by decide) c_88)
      refine lv_iload_n C.x C.b dX8_most_38 rfl (lv_at hl 1 rfl) ?_
      exact r_iret C hr hlocks hS hKp dX8_most_39
    | succ u_82 ih_85 =>
      intro k_83 b_87 g_86 H locs ls hk_84 hKp hS hl
      refine lv_iload_n C.x C.b dX8_most_13 rfl (lv_at hl 2 rfl) ?_
      refine lv_bipush (v := 16) C.x C.b dX8_most_14 (by decide) ?_
      refine lv_icmp_ge (tgt := 38) C.x C.b dX8_most_16 (by decide) (fun c_89 => absurd c_89 (nI_ge (a := k_83) (b := 16) (by omega) (by decide))) (fun c_89 => ?_)
      refine lv_aload_n C.x C.b dX8_most_19 rfl (lv_at hl 0 rfl) ?_
      refine lv_iload_n C.x C.b dX8_most_20 rfl (lv_at hl 2 rfl) ?_
      obtain ⟨td_93, po_94, ps_95, rg_96, mm_97, st_98, an_99, sp_100, pl_101, nu_102, co_103, sm_104, sw_105, sn_106, sq_107, cl_108, ⟨e_109, e_110, e_111, e_112⟩, ⟨e_113, e_114, e_115, e_116, e_117, e_118, e_119, e_120⟩, ⟨e_121, e_122, e_123, e_124⟩, e_125, hSt_126, h01_127, hPl_128, hSm_129⟩ := hKp.2
      replace e_109 : g_86 220 = .inr (8, [.int td_93, .int (nI n), .ref (B + 221), .ref (B + 222), .ref (B + 223), .int ey, .int wi, .int ev, .ref (B + 224), .ref (B + 225), .ref (B + 226), .ref (B + 227), .ref (B + 228), .ref (B + 229), .ref (B + 230), .ref (B + 231), .ref (B + 232), .ref (B + 233), .ref (B + 234), .ref (B + 235), .ref (B + 236), .int po_94, .int ps_95]) := e_109
      refine r_callV (b := 220) (As := [.int (nI k_83)]) (rest := []) (k_X8_classesOf l D t B N g_86 _ _ _ _ _ _ _ k_83 (by omega) hKp.2 (by omega) hO hwi (by omega)) mf_yX8_classesOf mlX8_118 im_yX8_classesOf se_yX8_classesOf (by decide) C hS (by omega) e_109 (show vwCl[8]? = some _ from rfl) rfl rfl hl.1 rfl (Nat.le_of_ble_eq_true rfl) dX8_most_21 ⟨Nat.zero_le _, Nat.zero_le _⟩ (fun r_92 g_90 H locs w_91 hS => ?_)
      replace hKp : Mk t B g g_90 n ey wi ev o pr w := hKp.tr w_91
      refine lv_istore_n (lv' := [(3, .int r_92), (0, .ref (B + 220)), (1, .int b_87), (2, .int (nI k_83))]) C.x C.b dX8_most_24 rfl hl (by decide) rfl (fun ls hl => ?_)
      refine lv_iload_n C.x C.b dX8_most_25 rfl (lv_at hl 0 rfl) ?_
      refine lv_iload_n C.x C.b dX8_most_26 rfl (lv_at hl 2 rfl) ?_
      refine lv_icmp_le (tgt := 32) C.x C.b dX8_most_27 (by decide) (fun c_130 => ?_) (fun c_130 => ?_)
      · skip
        refine lv_iinc (v := nI (k_83 + 1)) (lv' := [(2, .int (nI (k_83 + 1))), (3, .int r_92), (0, .ref (B + 220)), (1, .int b_87)]) C.x C.b dX8_most_32 hl (k := 3) rfl (nI_1 k_83) (by decide) rfl (fun ls hl => ?_)
        refine lv_goto (tgt := 13) C.x C.b dX8_most_35 (by decide) ?_
        exact ih_85 (k_83 + 1) b_87 g_90 _ _ _ (by omega)  hKp hS (lv_sub hl [2, 3, 0] rfl)
      · skip
        refine lv_iload_n C.x C.b dX8_most_30 rfl (lv_at hl 0 rfl) ?_
        refine lv_istore_n (lv' := [(1, .int r_92), (3, .int r_92), (0, .ref (B + 220)), (2, .int (nI k_83))]) C.x C.b dX8_most_31 rfl hl (by decide) rfl (fun ls hl => ?_)
        refine lv_iinc (v := nI (k_83 + 1)) (lv' := [(2, .int (nI (k_83 + 1))), (1, .int r_92), (3, .int r_92), (0, .ref (B + 220))]) C.x C.b dX8_most_32 hl (k := 3) rfl (nI_1 k_83) (by decide) rfl (fun ls hl => ?_)
        refine lv_goto (tgt := 13) C.x C.b dX8_most_35 (by decide) ?_
        exact ih_85 (k_83 + 1) r_92 g_90 _ _ _ (by omega)  hKp hS (lv_sub hl [3, 1, 0] rfl)
  exact lp_81 16 0 0 g_41 _ _ _ (by omega)  hKp hS (lv_sub hl [2, 1, 0] rfl)
set_option maxHeartbeats 1000000 in
set_option maxRecDepth 100000 in
theorem k_X8_isSilent (l : Launch) (D : va_G) (t : Gx) (B N : Nat) (g : Nat → va_E) (n : Nat) (ey wi ev : Int32) (o pr w : Nat → Int32) (x y : Int32) (hN : 236 < N) (hM : Msh t B g n ey wi ev o pr w) (hn : n ≤ 8) (hO : okO o) (hwi : ¬ wi = 0)  : Ci l D t B N yX8_isSilent cX8_isSilent 4 (some .boolean) 4 97 g [.ref (B + 220), .int x, .int y] (fun r g' => Mk t B g g' n ey wi ev o pr w ∧ (r = 0 ∨ r = 1)) := by
  refine Ci.start (by decide) (Nat.le_of_ble_eq_true rfl) ?_
  intro p e s m below meth c ls C hr hlocks hS hl
  replace C : Cx D t p s m [.ref (B + 220), .int x, .int y].toArray c cX8_isSilent 4 RX8 := C
  replace hl : lv_has ls 4 [(0, .ref (B + 220)), (1, .int x), (2, .int y)] := hl
  have hKp : Mk t B g g n ey wi ev o pr w := Mk.rf hM
  refine lv_iconst (v := 0) C.x C.b dX8_isSilent_0 (by decide) ?_
  refine lv_istore_n (lv' := [(3, .int 0), (0, .ref (B + 220)), (1, .int x), (2, .int y)]) C.x C.b dX8_isSilent_1 rfl hl (by decide) rfl (fun ls hl => ?_)
  have lp_1 : ∀ (u_2 k_3 : Nat) (g_6 : Nat → va_E) (H : Heap) (locs : List Loc) (ls : Array Slot), k_3 + u_2 = 256 → Mk t B g g_6 n ey wi ev o pr w → St D B s.heap N g_6 H locs → lv_has ls 4 [(0, .ref (B + 220)), (1, .int x), (2, .int y), (3, .int (nI k_3))] → W p l e (rmOf 4 97 0 0) s m [.ref (B + 220), .int x, .int y].toArray below meth c H locs 0 0 (MQ below (qI D B N (fun r g' => Mk t B g g' n ey wi ev o pr w ∧ (r = 0 ∨ r = 1))) [.ref (B + 220), .int x, .int y].toArray s 0 0 (fun q => B ≤ q)) (F0 m 2 ls []) := by
    intro u_2
    induction u_2 with
    | zero =>
      intro k_3 g_6 H locs ls hk_4 hKp hS hl
      obtain rfl : 256 = k_3 := by omega
      refine lv_iload_n C.x C.b dX8_isSilent_2 rfl (lv_at hl 3 rfl) ?_
      refine lv_sipush (v := 256) C.x C.b dX8_isSilent_3 (by decide) ?_
      refine lv_icmp_ge (tgt := 61) C.x C.b dX8_isSilent_6 (by decide) (fun c_7 => ?_) (fun c_7 => absurd (by decide) c_7)
      refine lv_iconst (v := 1) C.x C.b dX8_isSilent_61 (by decide) ?_
      exact r_zret C hr hlocks hS (by decide) ⟨hKp, by decide⟩ dX8_isSilent_62
    | succ u_2 ih_5 =>
      intro k_3 g_6 H locs ls hk_4 hKp hS hl
      refine lv_iload_n C.x C.b dX8_isSilent_2 rfl (lv_at hl 3 rfl) ?_
      refine lv_sipush (v := 256) C.x C.b dX8_isSilent_3 (by decide) ?_
      refine lv_icmp_ge (tgt := 61) C.x C.b dX8_isSilent_6 (by decide) (fun c_8 => absurd c_8 (nI_ge (a := k_3) (b := 256) (by omega) (by decide))) (fun c_8 => ?_)
      refine lv_iload_n C.x C.b dX8_isSilent_9 rfl (lv_at hl 3 rfl) ?_
      refine lv_bipush (v := 16) C.x C.b dX8_isSilent_10 (by decide) ?_
      refine lv_irem C.x C.b dX8_isSilent_12 (by decide) ?_
      refine r_top (y := nI (k_3 % 16)) (pk_rem (by omega) (by decide) (by decide)) ?_
      refine lv_if_eq (tgt := 55) C.x C.b dX8_isSilent_13 (by decide) (fun c_9 => ?_) (fun c_9 => ?_)
      · skip
        refine lv_iinc (v := nI (k_3 + 1)) (lv' := [(3, .int (nI (k_3 + 1))), (0, .ref (B + 220)), (1, .int x), (2, .int y)]) C.x C.b dX8_isSilent_55 hl (k := 3) rfl (nI_1 k_3) (by decide) rfl (fun ls hl => ?_)
        refine lv_goto (tgt := 2) C.x C.b dX8_isSilent_58 (by decide) ?_
        exact ih_5 (k_3 + 1) g_6 _ _ _ (by omega)  hKp hS (lv_sub hl [1, 2, 3, 0] rfl)
      · skip
        refine lv_aload_n C.x C.b dX8_isSilent_16 rfl (lv_at hl 0 rfl) ?_
        refine lv_iload_n C.x C.b dX8_isSilent_17 rfl (lv_at hl 3 rfl) ?_
        refine lv_bipush (v := 16) C.x C.b dX8_isSilent_18 (by decide) ?_
        refine lv_idiv C.x C.b dX8_isSilent_20 (by decide) ?_
        refine r_top (y := nI (k_3 / 16)) (pk_div (by omega) (by decide) (by decide)) ?_
        refine lv_bipush (v := 16) C.x C.b dX8_isSilent_21 (by decide) ?_
        refine lv_imul C.x C.b dX8_isSilent_23 ?_
        refine r_top (y := nI ((k_3 / 16) * 16)) (pk_mul (k_3 / 16) 16) ?_
        refine lv_iload_n C.x C.b dX8_isSilent_24 rfl (lv_at hl 3 rfl) ?_
        refine lv_iload_n C.x C.b dX8_isSilent_25 rfl (lv_at hl 1 rfl) ?_
        refine lv_iload_n C.x C.b dX8_isSilent_26 rfl (lv_at hl 2 rfl) ?_
        obtain ⟨td_10, po_11, ps_12, rg_13, mm_14, st_15, an_16, sp_17, pl_18, nu_19, co_20, sm_21, sw_22, sn_23, sq_24, cl_25, ⟨e_26, e_27, e_28, e_29⟩, ⟨e_30, e_31, e_32, e_33, e_34, e_35, e_36, e_37⟩, ⟨e_38, e_39, e_40, e_41⟩, e_42, hSt_43, h01_44, hPl_45, hSm_46⟩ := hKp.2
        replace e_26 : g_6 220 = .inr (8, [.int td_10, .int (nI n), .ref (B + 221), .ref (B + 222), .ref (B + 223), .int ey, .int wi, .int ev, .ref (B + 224), .ref (B + 225), .ref (B + 226), .ref (B + 227), .ref (B + 228), .ref (B + 229), .ref (B + 230), .ref (B + 231), .ref (B + 232), .ref (B + 233), .ref (B + 234), .ref (B + 235), .ref (B + 236), .int po_11, .int ps_12]) := e_26
        obtain ⟨s_47, hs_48, hs_49⟩ := hSt_43 ((k_3 / 16) * 16) (by omega)
        obtain ⟨s_50, hs_51, hs_52⟩ := hSt_43 k_3 (by omega)
        refine r_callV (b := 220) (As := [.int (nI ((k_3 / 16) * 16)), .int (nI k_3), .int x, .int y]) (rest := []) (c_X8_unlike l D t B N g_6 _ _ _ _ _ _ _ _ _ _ _ _ _ _ _ _ _ _ ((k_3 / 16) * 16) k_3 s_47 s_50 x y (by omega) e_26 e_27 e_32 e_33 e_34 e_35 e_36 e_37 e_38 e_39 e_40 e_41 (by omega) (by omega) hs_49 hs_48 hs_52 hs_51 hPl_45 hwi) mf_yX8_unlike mlX8_111 im_yX8_unlike se_yX8_unlike (by decide) C hS (by omega) e_26 (show vwCl[8]? = some _ from rfl) rfl rfl hl.1 rfl (Nat.le_of_ble_eq_true rfl) dX8_isSilent_27 ⟨Nat.zero_le _, Nat.zero_le _⟩ (fun r_55 g_53 H locs w_54 hS => ?_)
        replace hKp : Mk t B g g_53 n ey wi ev o pr w := hKp.see w_54.1 (okSm_upd1 (okSm_upd0 hSm_46 (lookR_le _ _ _ _ _ _ _ _ _ _ _ _ _ _ _ hs_48)) (lookR_le _ _ _ _ _ _ _ _ _ _ _ _ _ _ _ hs_51)) w_54.2.2
        refine lv_iconst (v := (-1)) C.x C.b dX8_isSilent_30 (by decide) ?_
        refine lv_icmp_ne (tgt := 37) C.x C.b dX8_isSilent_31 (by decide) (fun c_56 => ?_) (fun c_56 => ?_)
        · skip
          refine lv_aload_n C.x C.b dX8_isSilent_37 rfl (lv_at hl 0 rfl) ?_
          refine lv_iload_n C.x C.b dX8_isSilent_38 rfl (lv_at hl 3 rfl) ?_
          refine lv_bipush (v := 16) C.x C.b dX8_isSilent_39 (by decide) ?_
          refine lv_idiv C.x C.b dX8_isSilent_41 (by decide) ?_
          refine r_top (y := nI (k_3 / 16)) (pk_div (by omega) (by decide) (by decide)) ?_
          obtain ⟨td_57, po_58, ps_59, rg_60, mm_61, st_62, an_63, sp_64, pl_65, nu_66, co_67, sm_68, sw_69, sn_70, sq_71, cl_72, ⟨e_73, e_74, e_75, e_76⟩, ⟨e_77, e_78, e_79, e_80, e_81, e_82, e_83, e_84⟩, ⟨e_85, e_86, e_87, e_88⟩, e_89, hSt_90, h01_91, hPl_92, hSm_93⟩ := hKp.2
          replace e_73 : g_53 220 = .inr (8, [.int td_57, .int (nI n), .ref (B + 221), .ref (B + 222), .ref (B + 223), .int ey, .int wi, .int ev, .ref (B + 224), .ref (B + 225), .ref (B + 226), .ref (B + 227), .ref (B + 228), .ref (B + 229), .ref (B + 230), .ref (B + 231), .ref (B + 232), .ref (B + 233), .ref (B + 234), .ref (B + 235), .ref (B + 236), .int po_58, .int ps_59]) := e_73
          refine r_put ck8 flX8_121 C hS (by omega) e_73 (by decide) rfl rfl rfl (Nat.le_of_ble_eq_true rfl) dX8_isSilent_42 (fun g_94 H locs e_95 o_96 hS => ?_)
          replace e_95 : g_94 220 = .inr (8, [.int td_57, .int (nI n), .ref (B + 221), .ref (B + 222), .ref (B + 223), .int ey, .int wi, .int ev, .ref (B + 224), .ref (B + 225), .ref (B + 226), .ref (B + 227), .ref (B + 228), .ref (B + 229), .ref (B + 230), .ref (B + 231), .ref (B + 232), .ref (B + 233), .ref (B + 234), .ref (B + 235), .ref (B + 236), .int (nI (k_3 / 16)), .int ps_59]) := e_95
          replace hKp : Mk t B g g_94 n ey wi ev o pr w := hKp.obj (td := td_57) (po := nI (k_3 / 16)) (ps := ps_59) e_95 o_96
          refine lv_aload_n C.x C.b dX8_isSilent_45 rfl (lv_at hl 0 rfl) ?_
          refine lv_iload_n C.x C.b dX8_isSilent_46 rfl (lv_at hl 3 rfl) ?_
          refine lv_bipush (v := 16) C.x C.b dX8_isSilent_47 (by decide) ?_
          refine lv_irem C.x C.b dX8_isSilent_49 (by decide) ?_
          refine r_top (y := nI (k_3 % 16)) (pk_rem (by omega) (by decide) (by decide)) ?_
          obtain ⟨td_97, po_98, ps_99, rg_100, mm_101, st_102, an_103, sp_104, pl_105, nu_106, co_107, sm_108, sw_109, sn_110, sq_111, cl_112, ⟨e_113, e_114, e_115, e_116⟩, ⟨e_117, e_118, e_119, e_120, e_121, e_122, e_123, e_124⟩, ⟨e_125, e_126, e_127, e_128⟩, e_129, hSt_130, h01_131, hPl_132, hSm_133⟩ := hKp.2
          replace e_113 : g_94 220 = .inr (8, [.int td_97, .int (nI n), .ref (B + 221), .ref (B + 222), .ref (B + 223), .int ey, .int wi, .int ev, .ref (B + 224), .ref (B + 225), .ref (B + 226), .ref (B + 227), .ref (B + 228), .ref (B + 229), .ref (B + 230), .ref (B + 231), .ref (B + 232), .ref (B + 233), .ref (B + 234), .ref (B + 235), .ref (B + 236), .int po_98, .int ps_99]) := e_113
          refine r_put ck8 flX8_124 C hS (by omega) e_113 (by decide) rfl rfl rfl (Nat.le_of_ble_eq_true rfl) dX8_isSilent_50 (fun g_134 H locs e_135 o_136 hS => ?_)
          replace e_135 : g_134 220 = .inr (8, [.int td_97, .int (nI n), .ref (B + 221), .ref (B + 222), .ref (B + 223), .int ey, .int wi, .int ev, .ref (B + 224), .ref (B + 225), .ref (B + 226), .ref (B + 227), .ref (B + 228), .ref (B + 229), .ref (B + 230), .ref (B + 231), .ref (B + 232), .ref (B + 233), .ref (B + 234), .ref (B + 235), .ref (B + 236), .int po_98, .int (nI (k_3 % 16))]) := e_135
          replace hKp : Mk t B g g_134 n ey wi ev o pr w := hKp.obj (td := td_97) (po := po_98) (ps := nI (k_3 % 16)) e_135 o_136
          refine lv_iconst (v := 0) C.x C.b dX8_isSilent_53 (by decide) ?_
          exact r_zret C hr hlocks hS (by decide) ⟨hKp, by decide⟩ dX8_isSilent_54
        · skip
          refine lv_goto (tgt := 55) C.x C.b dX8_isSilent_34 (by decide) ?_
          refine lv_iinc (v := nI (k_3 + 1)) (lv' := [(3, .int (nI (k_3 + 1))), (0, .ref (B + 220)), (1, .int x), (2, .int y)]) C.x C.b dX8_isSilent_55 hl (k := 3) rfl (nI_1 k_3) (by decide) rfl (fun ls hl => ?_)
          refine lv_goto (tgt := 2) C.x C.b dX8_isSilent_58 (by decide) ?_
          exact ih_5 (k_3 + 1) g_53 _ _ _ (by omega)  hKp hS (lv_sub hl [1, 2, 3, 0] rfl)
  exact lp_1 256 0 g _ _ _ (by omega)  hKp hS (lv_sub hl [1, 2, 3, 0] rfl)
set_option maxHeartbeats 1000000 in
set_option maxRecDepth 100000 in
theorem k_X8_silent (l : Launch) (D : va_G) (t : Gx) (B N : Nat) (g : Nat → va_E) (n : Nat) (ey wi ev : Int32) (o pr w : Nat → Int32)  (hN : 236 < N) (hM : Msh t B g n ey wi ev o pr w) (hn : n ≤ 8) (hO : okO o) (hwi : ¬ wi = 0)  : Ci l D t B N yX8_silent cX8_silent 1 (some .boolean) 5 120 g [.ref (B + 220)] (fun r g' => Mk t B g g' n ey wi ev o pr w) := by
  refine Ci.start (by decide) (Nat.le_of_ble_eq_true rfl) ?_
  intro p e s m below meth c ls C hr hlocks hS hl
  replace C : Cx D t p s m [.ref (B + 220)].toArray c cX8_silent 1 RX8 := C
  replace hl : lv_has ls 1 [(0, .ref (B + 220))] := hl
  have hKp : Mk t B g g n ey wi ev o pr w := Mk.rf hM
  refine lv_aload_n C.x C.b dX8_silent_0 rfl (lv_at hl 0 rfl) ?_
  refine lv_iconst (v := 0) C.x C.b dX8_silent_1 (by decide) ?_
  obtain ⟨td_1, po_2, ps_3, rg_4, mm_5, st_6, an_7, sp_8, pl_9, nu_10, co_11, sm_12, sw_13, sn_14, sq_15, cl_16, ⟨e_17, e_18, e_19, e_20⟩, ⟨e_21, e_22, e_23, e_24, e_25, e_26, e_27, e_28⟩, ⟨e_29, e_30, e_31, e_32⟩, e_33, hSt_34, h01_35, hPl_36, hSm_37⟩ := hKp.2
  replace e_17 : g 220 = .inr (8, [.int td_1, .int (nI n), .ref (B + 221), .ref (B + 222), .ref (B + 223), .int ey, .int wi, .int ev, .ref (B + 224), .ref (B + 225), .ref (B + 226), .ref (B + 227), .ref (B + 228), .ref (B + 229), .ref (B + 230), .ref (B + 231), .ref (B + 232), .ref (B + 233), .ref (B + 234), .ref (B + 235), .ref (B + 236), .int po_2, .int ps_3]) := e_17
  refine r_put ck8 flX8_66 C hS (by omega) e_17 (by decide) rfl rfl rfl (Nat.le_of_ble_eq_true rfl) dX8_silent_2 (fun g_38 H locs e_39 o_40 hS => ?_)
  replace e_39 : g_38 220 = .inr (8, [.int 0, .int (nI n), .ref (B + 221), .ref (B + 222), .ref (B + 223), .int ey, .int wi, .int ev, .ref (B + 224), .ref (B + 225), .ref (B + 226), .ref (B + 227), .ref (B + 228), .ref (B + 229), .ref (B + 230), .ref (B + 231), .ref (B + 232), .ref (B + 233), .ref (B + 234), .ref (B + 235), .ref (B + 236), .int po_2, .int ps_3]) := e_39
  replace hKp : Mk t B g g_38 n ey wi ev o pr w := hKp.obj (td := 0) (po := po_2) (ps := ps_3) e_39 o_40
  refine lv_aload_n C.x C.b dX8_silent_5 rfl (lv_at hl 0 rfl) ?_
  obtain ⟨td_44, po_45, ps_46, rg_47, mm_48, st_49, an_50, sp_51, pl_52, nu_53, co_54, sm_55, sw_56, sn_57, sq_58, cl_59, ⟨e_60, e_61, e_62, e_63⟩, ⟨e_64, e_65, e_66, e_67, e_68, e_69, e_70, e_71⟩, ⟨e_72, e_73, e_74, e_75⟩, e_76, hSt_77, h01_78, hPl_79, hSm_80⟩ := hKp.2
  replace e_60 : g_38 220 = .inr (8, [.int td_44, .int (nI n), .ref (B + 221), .ref (B + 222), .ref (B + 223), .int ey, .int wi, .int ev, .ref (B + 224), .ref (B + 225), .ref (B + 226), .ref (B + 227), .ref (B + 228), .ref (B + 229), .ref (B + 230), .ref (B + 231), .ref (B + 232), .ref (B + 233), .ref (B + 234), .ref (B + 235), .ref (B + 236), .int po_45, .int ps_46]) := e_60
  refine r_callVv (b := 220) (As := []) (rest := []) (k_goAll l D t B N g_38 _ _ _ _ _ _ _ (by omega) hKp.2 (by omega) hO) mf_yX8_goAll mlX8_115 im_yX8_goAll se_yX8_goAll (by decide) C hS (by omega) e_60 (show vwCl[8]? = some _ from rfl) rfl rfl hl.1 rfl (Nat.le_of_ble_eq_true rfl) dX8_silent_6 ⟨Nat.zero_le _, Nat.zero_le _⟩ (fun g_41 H locs w_42 hS => ?_)
  replace hKp : Mk t B g g_41 n ey wi ev o pr w := hKp.tr w_42
  refine lv_aload_n C.x C.b dX8_silent_9 rfl (lv_at hl 0 rfl) ?_
  refine lv_aload_n C.x C.b dX8_silent_10 rfl (lv_at hl 0 rfl) ?_
  obtain ⟨td_81, po_82, ps_83, rg_84, mm_85, st_86, an_87, sp_88, pl_89, nu_90, co_91, sm_92, sw_93, sn_94, sq_95, cl_96, ⟨e_97, e_98, e_99, e_100⟩, ⟨e_101, e_102, e_103, e_104, e_105, e_106, e_107, e_108⟩, ⟨e_109, e_110, e_111, e_112⟩, e_113, hSt_114, h01_115, hPl_116, hSm_117⟩ := hKp.2
  replace e_97 : g_41 220 = .inr (8, [.int td_81, .int (nI n), .ref (B + 221), .ref (B + 222), .ref (B + 223), .int ey, .int wi, .int ev, .ref (B + 224), .ref (B + 225), .ref (B + 226), .ref (B + 227), .ref (B + 228), .ref (B + 229), .ref (B + 230), .ref (B + 231), .ref (B + 232), .ref (B + 233), .ref (B + 234), .ref (B + 235), .ref (B + 236), .int po_82, .int ps_83]) := e_97
  refine r_get ck8 flX8_80 C hS (by omega) e_97 (by decide) rfl dX8_silent_11 ?_
  refine lv_aload_n C.x C.b dX8_silent_14 rfl (lv_at hl 0 rfl) ?_
  refine r_get ck8 flX8_19 C hS (by omega) e_97 (by decide) rfl dX8_silent_15 ?_
  refine r_callV (b := 220) (As := [.int ev, .int ey]) (rest := []) (k_X8_isSilent l D t B N g_41 _ _ _ _ _ _ _ ev ey (by omega) hKp.2 (by omega) hO hwi) mf_yX8_isSilent mlX8_127 im_yX8_isSilent se_yX8_isSilent (by decide) C hS (by omega) e_97 (show vwCl[8]? = some _ from rfl) rfl rfl hl.1 rfl (Nat.le_of_ble_eq_true rfl) dX8_silent_18 ⟨Nat.zero_le _, Nat.zero_le _⟩ (fun r_120 g_118 H locs w_119 hS => ?_)
  obtain ⟨w_119, er_120⟩ := w_119
  replace hKp : Mk t B g g_118 n ey wi ev o pr w := hKp.tr w_119
  exact r_zret C hr hlocks hS er_120 hKp dX8_silent_21
