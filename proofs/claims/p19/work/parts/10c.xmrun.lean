theorem Seg.lrel {o w st an sp pl nu co sw sn sq : Nat → Int32} {n R A : Nat} {wi x y : Int32} (h : Seg o n w st an sp pl nu co R) : relM A sw sn sq (lookR o pl nu co wi x y A R (obS o n w R) (an R) (sp R) (sw, sn, sq, 0)) (obR o n w wi x y R) := by
  rw [h.look]
  exact lookR_rel o _ _ _ wi x y A R _ _ _ sw sn sq
theorem obR_le {o w : Nat → Int32} {n R : Nat} {wi x y : Int32} : (obR o n w wi x y R).2.2.2 ≤ 42 := lookR_le _ _ _ _ _ _ _ _ _ _ _ _ _ _ _ obS_le
set_option maxHeartbeats 1000000 in
set_option maxRecDepth 100000 in
theorem x_X8_run (l : Launch) (D : va_G) (t : Gx) (B N : Nat) (g : Nat → va_E) (n : Nat) (ey wi ev : Int32) (o pr w : Nat → Int32) (x y z : Int32) (hN : 236 < N) (hM : Msh t B g n ey wi ev o pr w) (hn : n ≤ 8) (hO : okO o) (hwi : ¬ wi = 0)  : Ci l D t B N yX8_run cX8_run 5 (some .int) 3 74 g [.ref (B + 220), .int x, .int y, .int z] (fun r g' => Mk t B g g' n ey wi ev o pr w ∧ r = runO o n w wi ey ev x y z) := by
  refine Ci.start (by decide) (Nat.le_of_ble_eq_true rfl) ?_
  intro p e s m below meth c ls C hr hlocks hS hl
  replace C : Cx D t p s m [.ref (B + 220), .int x, .int y, .int z].toArray c cX8_run 5 RX8 := C
  replace hl : lv_has ls 5 [(0, .ref (B + 220)), (1, .int x), (2, .int y), (3, .int z)] := hl
  have hKp : Mk t B g g n ey wi ev o pr w := Mk.rf hM
  refine lv_aload_n C.x C.b dX8_run_0 rfl (lv_at hl 0 rfl) ?_
  refine lv_iconst (v := 0) C.x C.b dX8_run_1 (by decide) ?_
  obtain ⟨td_1, po_2, ps_3, rg_4, mm_5, st_6, an_7, sp_8, pl_9, nu_10, co_11, sm_12, sw_13, sn_14, sq_15, cl_16, ⟨e_17, e_18, e_19, e_20⟩, ⟨e_21, e_22, e_23, e_24, e_25, e_26, e_27, e_28⟩, ⟨e_29, e_30, e_31, e_32⟩, e_33, hSt_34, h01_35, hPl_36, hSm_37⟩ := hKp.2
  replace e_17 : g 220 = .inr (8, [.int td_1, .int (nI n), .ref (B + 221), .ref (B + 222), .ref (B + 223), .int ey, .int wi, .int ev, .ref (B + 224), .ref (B + 225), .ref (B + 226), .ref (B + 227), .ref (B + 228), .ref (B + 229), .ref (B + 230), .ref (B + 231), .ref (B + 232), .ref (B + 233), .ref (B + 234), .ref (B + 235), .ref (B + 236), .int po_2, .int ps_3]) := e_17
  refine r_put ck8 flX8_66 C hS (by omega) e_17 (by decide) rfl rfl rfl (Nat.le_of_ble_eq_true rfl) dX8_run_2 (fun g_38 H locs e_39 o_40 hS => ?_)
  replace e_39 : g_38 220 = .inr (8, [.int 0, .int (nI n), .ref (B + 221), .ref (B + 222), .ref (B + 223), .int ey, .int wi, .int ev, .ref (B + 224), .ref (B + 225), .ref (B + 226), .ref (B + 227), .ref (B + 228), .ref (B + 229), .ref (B + 230), .ref (B + 231), .ref (B + 232), .ref (B + 233), .ref (B + 234), .ref (B + 235), .ref (B + 236), .int po_2, .int ps_3]) := e_39
  replace hKp : Mk t B g g_38 n ey wi ev o pr w := hKp.obj (td := 0) (po := po_2) (ps := ps_3) e_39 o_40
  refine lv_aload_n C.x C.b dX8_run_5 rfl (lv_at hl 0 rfl) ?_
  refine lv_iload_n C.x C.b dX8_run_6 rfl (lv_at hl 1 rfl) ?_
  obtain ⟨td_44, po_45, ps_46, rg_47, mm_48, st_49, an_50, sp_51, pl_52, nu_53, co_54, sm_55, sw_56, sn_57, sq_58, cl_59, ⟨e_60, e_61, e_62, e_63⟩, ⟨e_64, e_65, e_66, e_67, e_68, e_69, e_70, e_71⟩, ⟨e_72, e_73, e_74, e_75⟩, e_76, hSt_77, h01_78, hPl_79, hSm_80⟩ := hKp.2
  replace e_60 : g_38 220 = .inr (8, [.int td_44, .int (nI n), .ref (B + 221), .ref (B + 222), .ref (B + 223), .int ey, .int wi, .int ev, .ref (B + 224), .ref (B + 225), .ref (B + 226), .ref (B + 227), .ref (B + 228), .ref (B + 229), .ref (B + 230), .ref (B + 231), .ref (B + 232), .ref (B + 233), .ref (B + 234), .ref (B + 235), .ref (B + 236), .int po_45, .int ps_46]) := e_60
  refine r_callV (b := 220) (As := [.int x]) (rest := []) (c_X8_isInput l D t B N g_38 x) mf_yX8_isInput mlX8_108 im_yX8_isInput se_yX8_isInput (by decide) C hS (by omega) e_60 (show vwCl[8]? = some _ from rfl) rfl rfl hl.1 rfl (Nat.le_of_ble_eq_true rfl) dX8_run_7 ⟨Nat.zero_le _, Nat.zero_le _⟩ (fun r_43 g_41 H locs w_42 hS => ?_)
  obtain ⟨rfl, er_43⟩ := w_42
  by_cases b_81 : inP 16 x
  · rw [bz_t b_81] at er_43
    subst er_43
    obtain ⟨q_82, hq_83, rfl⟩ := inP_nI b_81 (by decide)
    refine lv_if_eq (tgt := 30) C.x C.b dX8_run_10 (by decide) (fun c_84 => absurd c_84 (by decide)) (fun c_84 => ?_)
    refine lv_aload_n C.x C.b dX8_run_13 rfl (lv_at hl 0 rfl) ?_
    refine lv_iload_n C.x C.b dX8_run_14 rfl (lv_at hl 2 rfl) ?_
    refine r_callV (b := 220) (As := [.int y]) (rest := []) (c_X8_isInput l D t B N g_38 y) mf_yX8_isInput mlX8_108 im_yX8_isInput se_yX8_isInput (by decide) C hS (by omega) e_60 (show vwCl[8]? = some _ from rfl) rfl rfl hl.1 rfl (Nat.le_of_ble_eq_true rfl) dX8_run_15 ⟨Nat.zero_le _, Nat.zero_le _⟩ (fun r_87 g_85 H locs w_86 hS => ?_)
    obtain ⟨rfl, er_87⟩ := w_86
    by_cases b_88 : inP 16 y
    · rw [bz_t b_88] at er_87
      subst er_87
      obtain ⟨q_89, hq_90, rfl⟩ := inP_nI b_88 (by decide)
      refine lv_if_eq (tgt := 30) C.x C.b dX8_run_18 (by decide) (fun c_91 => absurd c_91 (by decide)) (fun c_91 => ?_)
      refine lv_iload_n C.x C.b dX8_run_21 rfl (lv_at hl 3 rfl) ?_
      refine lv_if_lt (tgt := 30) C.x C.b dX8_run_22 (by decide) (fun c_92 => ?_) (fun c_92 => ?_)
      · skip
        refine lv_sipush (v := (-1001)) C.x C.b dX8_run_30 (by decide) ?_
        exact r_iret C hr hlocks hS ⟨hKp, (runO_out (fun q => q.2.2.1 c_92)).symm⟩ dX8_run_33
      · skip
        refine lv_iload_n C.x C.b dX8_run_25 rfl (lv_at hl 3 rfl) ?_
        refine lv_iconst (v := 4) C.x C.b dX8_run_26 (by decide) ?_
        refine lv_icmp_le (tgt := 34) C.x C.b dX8_run_27 (by decide) (fun c_93 => ?_) (fun c_93 => ?_)
        · skip
          refine lv_bipush (v := 16) C.x C.b dX8_run_34 (by decide) ?_
          refine lv_iload_n C.x C.b dX8_run_36 rfl (lv_at hl 1 rfl) ?_
          refine lv_imul C.x C.b dX8_run_37 ?_
          refine r_top (y := nI (16 * q_82)) (pk_mul 16 q_82) ?_
          refine lv_iload_n C.x C.b dX8_run_38 rfl (lv_at hl 2 rfl) ?_
          refine lv_iadd C.x C.b dX8_run_39 ?_
          refine r_top (y := nI ((16 * q_82) + q_89)) (nI_add (16 * q_82) q_89) ?_
          refine lv_istore (lv' := [(4, .int (nI ((16 * q_82) + q_89))), (0, .ref (B + 220)), (1, .int (nI q_82)), (2, .int (nI q_89)), (3, .int z)]) C.x C.b dX8_run_40 hl (by decide) rfl (fun ls hl => ?_)
          refine lv_aload_n C.x C.b dX8_run_42 rfl (lv_at hl 1 rfl) ?_
          refine lv_iload C.x C.b dX8_run_43 (lv_at hl 0 rfl) ?_
          refine r_callVv (b := 220) (As := [.int (nI ((16 * q_82) + q_89))]) (rest := []) (ke_goes l D t B N g_38 _ _ _ _ _ _ _ ((16 * q_82) + q_89) (by omega) hKp.2 (by omega) hO (by omega)) mf_yX8_goes mlX8_91 im_yX8_goes se_yX8_goes (by decide) C hS (by omega) e_60 (show vwCl[8]? = some _ from rfl) rfl rfl hl.1 rfl (Nat.le_of_ble_eq_true rfl) dX8_run_45 ⟨Nat.zero_le _, Nat.zero_le _⟩ (fun g_94 H locs w_95 hS => ?_)
          obtain ⟨w_95, hG_97⟩ := w_95
          replace hKp : Mk t B g g_94 n ey wi ev o pr w := hKp.tr w_95
          obtain ⟨td_98, po_99, ps_100, rg_101, mm_102, st_103, an_104, sp_105, pl_106, nu_107, co_108, sm_109, sw_110, sn_111, sq_112, cl_113, ⟨e_114, e_115, e_116, e_117⟩, ⟨e_118, e_119, e_120, e_121, e_122, e_123, e_124, e_125⟩, ⟨e_126, e_127, e_128, e_129⟩, e_130, hSt_131, h01_132, hPl_133, hSm_134⟩ := hKp.2
          replace e_114 : g_94 220 = .inr (8, [.int td_98, .int (nI n), .ref (B + 221), .ref (B + 222), .ref (B + 223), .int ey, .int wi, .int ev, .ref (B + 224), .ref (B + 225), .ref (B + 226), .ref (B + 227), .ref (B + 228), .ref (B + 229), .ref (B + 230), .ref (B + 231), .ref (B + 232), .ref (B + 233), .ref (B + 234), .ref (B + 235), .ref (B + 236), .int po_99, .int ps_100]) := e_114
          have hG_135 := hG_97.use e_120 e_121 e_122 e_123 e_124 e_125
          refine lv_iload_n C.x C.b dX8_run_48 rfl (lv_at hl 4 rfl) ?_
          refine lv_if_ne (tgt := 60) C.x C.b dX8_run_49 (by decide) (fun c_136 => ?_) (fun c_136 => ?_)
          · skip
            refine lv_iload_n C.x C.b dX8_run_60 rfl (lv_at hl 4 rfl) ?_
            refine lv_iconst (v := 1) C.x C.b dX8_run_61 (by decide) ?_
            refine lv_icmp_ne (tgt := 76) C.x C.b dX8_run_62 (by decide) (fun c_137 => ?_) (fun c_137 => ?_)
            · skip
              refine lv_iload_n C.x C.b dX8_run_76 rfl (lv_at hl 4 rfl) ?_
              refine lv_iconst (v := 2) C.x C.b dX8_run_77 (by decide) ?_
              refine lv_icmp_ne (tgt := 89) C.x C.b dX8_run_78 (by decide) (fun c_138 => ?_) (fun c_138 => ?_)
              · skip
                refine lv_iload_n C.x C.b dX8_run_89 rfl (lv_at hl 4 rfl) ?_
                refine lv_iconst (v := 3) C.x C.b dX8_run_90 (by decide) ?_
                refine lv_icmp_ne (tgt := 110) C.x C.b dX8_run_91 (by decide) (fun c_139 => ?_) (fun c_139 => ?_)
                · skip
                  refine lv_aload_n C.x C.b dX8_run_110 rfl (lv_at hl 1 rfl) ?_
                  refine lv_iconst (v := 0) C.x C.b dX8_run_111 (by decide) ?_
                  refine lv_iload C.x C.b dX8_run_112 (lv_at hl 0 rfl) ?_
                  refine lv_aload_n C.x C.b dX8_run_114 rfl (lv_at hl 1 rfl) ?_
                  refine r_get ck8 flX8_80 C hS (by omega) e_114 (by decide) rfl dX8_run_115 ?_
                  refine lv_aload_n C.x C.b dX8_run_118 rfl (lv_at hl 1 rfl) ?_
                  refine r_get ck8 flX8_19 C hS (by omega) e_114 (by decide) rfl dX8_run_119 ?_
                  refine r_callVv (b := 220) (As := [.int 0, .int (nI ((16 * q_82) + q_89)), .int ev, .int ey]) (rest := []) (c_X8_look_ l D t B N g_94 _ _ _ _ _ _ _ _ _ _ _ _ _ _ _ _ _ _ 0 ((16 * q_82) + q_89) (obS o n w ((16 * q_82) + q_89)) ev ey (by omega) e_114 e_115 e_120 e_121 e_122 e_123 e_124 e_125 e_126 e_127 e_128 e_129 (by omega) (by omega) hG_135.1 obS_le hPl_133 hwi) mf_yX8_look_ mlX8_105 im_yX8_look_ se_yX8_look_ (by decide) C hS (by omega) e_114 (show vwCl[8]? = some _ from rfl) rfl rfl hl.1 rfl (Nat.le_of_ble_eq_true rfl) dX8_run_122 ⟨Nat.zero_le _, Nat.zero_le _⟩ (fun g_140 H locs w_141 hS => ?_)
                  replace hKp : Mk t B g g_140 n ey wi ev o pr w := hKp.see w_141.1 (okSm_upd0 hSm_134 (lookR_le _ _ _ _ _ _ _ _ _ _ _ _ _ _ _ obS_le)) w_141.2
                  have e_143 : g_140 220 = .inr (8, [.int td_98, .int (nI n), .ref (B + 221), .ref (B + 222), .ref (B + 223), .int ey, .int wi, .int ev, .ref (B + 224), .ref (B + 225), .ref (B + 226), .ref (B + 227), .ref (B + 228), .ref (B + 229), .ref (B + 230), .ref (B + 231), .ref (B + 232), .ref (B + 233), .ref (B + 234), .ref (B + 235), .ref (B + 236), .int po_99, .int ps_100]) := (w_141.2 _ (by omega)).trans e_114
                  have e_144 : g_140 221 = .inl (t.1, 10, .inl o) := (w_141.2 _ (by omega)).trans e_115
                  have e_145 : g_140 222 = .inl (t.1, 10, .inl pr) := (w_141.2 _ (by omega)).trans e_116
                  have e_146 : g_140 223 = .inl (t.1, 8, .inl w) := (w_141.2 _ (by omega)).trans e_117
                  have e_147 : g_140 224 = .inl (t.1, 4, .inl rg_101) := (w_141.2 _ (by omega)).trans e_118
                  have e_148 : g_140 225 = .inl (t.1, 8, .inl mm_102) := (w_141.2 _ (by omega)).trans e_119
                  have e_149 : g_140 226 = .inl (t.1, 256, .inl st_103) := (w_141.2 _ (by omega)).trans e_120
                  have e_150 : g_140 227 = .inl (t.1, 256, .inl an_104) := (w_141.2 _ (by omega)).trans e_121
                  have e_151 : g_140 228 = .inl (t.2.1, 256, .inl sp_105) := (w_141.2 _ (by omega)).trans e_122
                  have e_152 : g_140 229 = .inl (t.1, 10240, .inl pl_106) := (w_141.2 _ (by omega)).trans e_123
                  have e_153 : g_140 230 = .inl (t.1, 10240, .inl nu_107) := (w_141.2 _ (by omega)).trans e_124
                  have e_154 : g_140 231 = .inl (t.1, 10240, .inl co_108) := (w_141.2 _ (by omega)).trans e_125
                  have e_155 : g_140 236 = .inl (t.1, 16, .inl cl_113) := (w_141.2 _ (by omega)).trans e_130
                  obtain ⟨⟨e_156, e_157, e_158, e_159⟩, -⟩ := id w_141
                  replace e_156 : g_140 232 = .inl (t.1, 2, .inl (upd sm_109 0 (nI (lookR o pl_106 nu_107 co_108 wi ev ey 0 ((16 * q_82) + q_89) (obS o n w ((16 * q_82) + q_89)) (an_104 ((16 * q_82) + q_89)) (sp_105 ((16 * q_82) + q_89)) (sw_110, sn_111, sq_112, 0)).2.2.2))) := e_156
                  replace e_157 : g_140 233 = .inl (t.1, 84, .inl ((lookR o pl_106 nu_107 co_108 wi ev ey 0 ((16 * q_82) + q_89) (obS o n w ((16 * q_82) + q_89)) (an_104 ((16 * q_82) + q_89)) (sp_105 ((16 * q_82) + q_89)) (sw_110, sn_111, sq_112, 0)).1)) := e_157
                  replace e_158 : g_140 234 = .inl (t.1, 84, .inl ((lookR o pl_106 nu_107 co_108 wi ev ey 0 ((16 * q_82) + q_89) (obS o n w ((16 * q_82) + q_89)) (an_104 ((16 * q_82) + q_89)) (sp_105 ((16 * q_82) + q_89)) (sw_110, sn_111, sq_112, 0)).2.1)) := e_158
                  replace e_159 : g_140 235 = .inl (t.1, 84, .inl ((lookR o pl_106 nu_107 co_108 wi ev ey 0 ((16 * q_82) + q_89) (obS o n w ((16 * q_82) + q_89)) (an_104 ((16 * q_82) + q_89)) (sp_105 ((16 * q_82) + q_89)) (sw_110, sn_111, sq_112, 0)).2.2.1)) := e_159
                  have hX_160 : relM 0 sw_110 sn_111 sq_112 (lookR o pl_106 nu_107 co_108 wi ev ey 0 ((16 * q_82) + q_89) (obS o n w ((16 * q_82) + q_89)) (an_104 ((16 * q_82) + q_89)) (sp_105 ((16 * q_82) + q_89)) (sw_110, sn_111, sq_112, 0)) (obR o n w wi ev ey ((16 * q_82) + q_89)) := hG_135.lrel
                  refine lv_aload_n C.x C.b dX8_run_125 rfl (lv_at hl 1 rfl) ?_
                  refine r_get ck8 flX8_51 C hS (by omega) e_143 (by decide) rfl dX8_run_126 ?_
                  refine lv_iconst (v := 0) C.x C.b dX8_run_129 (by decide) ?_
                  refine r_ialdN 0 rfl (by omega) (by decide) C hS (by omega) e_156 dX8_run_130 ?_
                  exact r_iret C hr hlocks hS ⟨hKp, (runI_4 c_136 c_137 c_138 c_139 (by rw [← hX_160.1]; rfl)).trans (runO_in (by omega) (by omega) c_92 c_93).symm⟩ dX8_run_131
                · skip
                  refine lv_aload_n C.x C.b dX8_run_94 rfl (lv_at hl 1 rfl) ?_
                  refine r_get ck8 flX8_38 C hS (by omega) e_114 (by decide) rfl dX8_run_95 ?_
                  refine lv_iload C.x C.b dX8_run_98 (lv_at hl 0 rfl) ?_
                  refine r_zaldN ((16 * q_82) + q_89) rfl (by omega) (by decide) C hS (by omega) e_122 dX8_run_100 ?_
                  refine lv_if_eq (tgt := 108) C.x C.b dX8_run_101 (by decide) (fun c_161 => ?_) (fun c_161 => ?_)
                  · skip
                    refine lv_iconst (v := 0) C.x C.b dX8_run_108 (by decide) ?_
                    exact r_iret C hr hlocks hS ⟨hKp, (runI_3 c_139 hG_135.2.2.1 (Or.inl ⟨c_161, rfl⟩)).trans (runO_in (by omega) (by omega) c_92 c_93).symm⟩ dX8_run_109
                  · skip
                    refine lv_iconst (v := 1) C.x C.b dX8_run_104 (by decide) ?_
                    refine lv_goto (tgt := 109) C.x C.b dX8_run_105 (by decide) ?_
                    exact r_iret C hr hlocks hS ⟨hKp, (runI_3 c_139 hG_135.2.2.1 (Or.inr ⟨c_161, rfl⟩)).trans (runO_in (by omega) (by omega) c_92 c_93).symm⟩ dX8_run_109
              · skip
                refine lv_aload_n C.x C.b dX8_run_81 rfl (lv_at hl 1 rfl) ?_
                refine r_get ck8 flX8_32 C hS (by omega) e_114 (by decide) rfl dX8_run_82 ?_
                refine lv_iload C.x C.b dX8_run_85 (lv_at hl 0 rfl) ?_
                refine r_ialdN ((16 * q_82) + q_89) rfl (by omega) (by decide) C hS (by omega) e_120 dX8_run_87 ?_
                exact r_iret C hr hlocks hS ⟨hKp, (runI_2 c_138 hG_135.1).trans (runO_in (by omega) (by omega) c_92 c_93).symm⟩ dX8_run_88
            · skip
              refine lv_aload_n C.x C.b dX8_run_65 rfl (lv_at hl 1 rfl) ?_
              refine lv_iload C.x C.b dX8_run_66 (lv_at hl 0 rfl) ?_
              refine lv_aload_n C.x C.b dX8_run_68 rfl (lv_at hl 1 rfl) ?_
              refine r_get ck8 flX8_80 C hS (by omega) e_114 (by decide) rfl dX8_run_69 ?_
              refine r_callV (b := 220) (As := [.int (nI ((16 * q_82) + q_89)), .int ev]) (rest := []) (c_X8_cost l D t B N g_94 _ _ _ _ _ _ _ _ _ _ _ ((16 * q_82) + q_89) (obS o n w ((16 * q_82) + q_89)) ev (by omega) e_114 e_115 e_120 e_123 e_125 (by omega) hG_135.1 obS_le hPl_133) mf_yX8_cost mlX8_102 im_yX8_cost se_yX8_cost (by decide) C hS (by omega) e_114 (show vwCl[8]? = some _ from rfl) rfl rfl hl.1 rfl (Nat.le_of_ble_eq_true rfl) dX8_run_72 ⟨Nat.zero_le _, Nat.zero_le _⟩ (fun r_164 g_162 H locs w_163 hS => ?_)
              obtain ⟨rfl, er_164⟩ := w_163
              exact r_iret C hr hlocks hS ⟨hKp, (runI_1 c_137 (er_164.trans hG_135.cost)).trans (runO_in (by omega) (by omega) c_92 c_93).symm⟩ dX8_run_75
          · skip
            refine lv_aload_n C.x C.b dX8_run_52 rfl (lv_at hl 1 rfl) ?_
            refine r_get ck8 flX8_35 C hS (by omega) e_114 (by decide) rfl dX8_run_53 ?_
            refine lv_iload C.x C.b dX8_run_56 (lv_at hl 0 rfl) ?_
            refine r_ialdN ((16 * q_82) + q_89) rfl (by omega) (by decide) C hS (by omega) e_121 dX8_run_58 ?_
            exact r_iret C hr hlocks hS ⟨hKp, (runI_0 c_136 hG_135.2.1).trans (runO_in (by omega) (by omega) c_92 c_93).symm⟩ dX8_run_59
        · skip
          refine lv_sipush (v := (-1001)) C.x C.b dX8_run_30 (by decide) ?_
          exact r_iret C hr hlocks hS ⟨hKp, (runO_out (fun q => c_93 q.2.2.2)).symm⟩ dX8_run_33
    · rw [bz_f b_88] at er_87
      subst er_87
      refine lv_if_eq (tgt := 30) C.x C.b dX8_run_18 (by decide) (fun c_165 => ?_) (fun c_165 => absurd (by decide) c_165)
      refine lv_sipush (v := (-1001)) C.x C.b dX8_run_30 (by decide) ?_
      exact r_iret C hr hlocks hS ⟨hKp, (runO_out (fun q => b_88 q.2.1)).symm⟩ dX8_run_33
  · rw [bz_f b_81] at er_43
    subst er_43
    refine lv_if_eq (tgt := 30) C.x C.b dX8_run_10 (by decide) (fun c_166 => ?_) (fun c_166 => absurd (by decide) c_166)
    refine lv_sipush (v := (-1001)) C.x C.b dX8_run_30 (by decide) ?_
    exact r_iret C hr hlocks hS ⟨hKp, (runO_out (fun q => b_81 q.1)).symm⟩ dX8_run_33
set_option maxHeartbeats 1000000 in
set_option maxRecDepth 100000 in
theorem x_X8_seen (l : Launch) (D : va_G) (t : Gx) (B N : Nat) (g : Nat → va_E) (n : Nat) (ey wi ev : Int32) (o pr w : Nat → Int32) (x y z v : Int32) (hN : 236 < N) (hM : Msh t B g n ey wi ev o pr w) (hn : n ≤ 8) (hO : okO o) (hwi : ¬ wi = 0)  : Ci l D t B N yX8_seen cX8_seen 6 (some .int) 3 74 g [.ref (B + 220), .int x, .int y, .int z, .int v] (fun r g' => Mk t B g g' n ey wi ev o pr w ∧ r = seenO o n w wi ey ev x y z v) := by
  refine Ci.start (by decide) (Nat.le_of_ble_eq_true rfl) ?_
  intro p e s m below meth c ls C hr hlocks hS hl
  replace C : Cx D t p s m [.ref (B + 220), .int x, .int y, .int z, .int v].toArray c cX8_seen 6 RX8 := C
  replace hl : lv_has ls 6 [(0, .ref (B + 220)), (1, .int x), (2, .int y), (3, .int z), (4, .int v)] := hl
  have hKp : Mk t B g g n ey wi ev o pr w := Mk.rf hM
  refine lv_aload_n C.x C.b dX8_seen_0 rfl (lv_at hl 0 rfl) ?_
  refine lv_iconst (v := 0) C.x C.b dX8_seen_1 (by decide) ?_
  obtain ⟨td_1, po_2, ps_3, rg_4, mm_5, st_6, an_7, sp_8, pl_9, nu_10, co_11, sm_12, sw_13, sn_14, sq_15, cl_16, ⟨e_17, e_18, e_19, e_20⟩, ⟨e_21, e_22, e_23, e_24, e_25, e_26, e_27, e_28⟩, ⟨e_29, e_30, e_31, e_32⟩, e_33, hSt_34, h01_35, hPl_36, hSm_37⟩ := hKp.2
  replace e_17 : g 220 = .inr (8, [.int td_1, .int (nI n), .ref (B + 221), .ref (B + 222), .ref (B + 223), .int ey, .int wi, .int ev, .ref (B + 224), .ref (B + 225), .ref (B + 226), .ref (B + 227), .ref (B + 228), .ref (B + 229), .ref (B + 230), .ref (B + 231), .ref (B + 232), .ref (B + 233), .ref (B + 234), .ref (B + 235), .ref (B + 236), .int po_2, .int ps_3]) := e_17
  refine r_put ck8 flX8_66 C hS (by omega) e_17 (by decide) rfl rfl rfl (Nat.le_of_ble_eq_true rfl) dX8_seen_2 (fun g_38 H locs e_39 o_40 hS => ?_)
  replace e_39 : g_38 220 = .inr (8, [.int 0, .int (nI n), .ref (B + 221), .ref (B + 222), .ref (B + 223), .int ey, .int wi, .int ev, .ref (B + 224), .ref (B + 225), .ref (B + 226), .ref (B + 227), .ref (B + 228), .ref (B + 229), .ref (B + 230), .ref (B + 231), .ref (B + 232), .ref (B + 233), .ref (B + 234), .ref (B + 235), .ref (B + 236), .int po_2, .int ps_3]) := e_39
  replace hKp : Mk t B g g_38 n ey wi ev o pr w := hKp.obj (td := 0) (po := po_2) (ps := ps_3) e_39 o_40
  refine lv_aload_n C.x C.b dX8_seen_5 rfl (lv_at hl 0 rfl) ?_
  refine lv_iload_n C.x C.b dX8_seen_6 rfl (lv_at hl 1 rfl) ?_
  obtain ⟨td_44, po_45, ps_46, rg_47, mm_48, st_49, an_50, sp_51, pl_52, nu_53, co_54, sm_55, sw_56, sn_57, sq_58, cl_59, ⟨e_60, e_61, e_62, e_63⟩, ⟨e_64, e_65, e_66, e_67, e_68, e_69, e_70, e_71⟩, ⟨e_72, e_73, e_74, e_75⟩, e_76, hSt_77, h01_78, hPl_79, hSm_80⟩ := hKp.2
  replace e_60 : g_38 220 = .inr (8, [.int td_44, .int (nI n), .ref (B + 221), .ref (B + 222), .ref (B + 223), .int ey, .int wi, .int ev, .ref (B + 224), .ref (B + 225), .ref (B + 226), .ref (B + 227), .ref (B + 228), .ref (B + 229), .ref (B + 230), .ref (B + 231), .ref (B + 232), .ref (B + 233), .ref (B + 234), .ref (B + 235), .ref (B + 236), .int po_45, .int ps_46]) := e_60
  refine r_callV (b := 220) (As := [.int x]) (rest := []) (c_X8_isInput l D t B N g_38 x) mf_yX8_isInput mlX8_108 im_yX8_isInput se_yX8_isInput (by decide) C hS (by omega) e_60 (show vwCl[8]? = some _ from rfl) rfl rfl hl.1 rfl (Nat.le_of_ble_eq_true rfl) dX8_seen_7 ⟨Nat.zero_le _, Nat.zero_le _⟩ (fun r_43 g_41 H locs w_42 hS => ?_)
  obtain ⟨rfl, er_43⟩ := w_42
  by_cases b_81 : inP 16 x
  · rw [bz_t b_81] at er_43
    subst er_43
    obtain ⟨q_82, hq_83, rfl⟩ := inP_nI b_81 (by decide)
    refine lv_if_eq (tgt := 32) C.x C.b dX8_seen_10 (by decide) (fun c_84 => absurd c_84 (by decide)) (fun c_84 => ?_)
    refine lv_aload_n C.x C.b dX8_seen_13 rfl (lv_at hl 0 rfl) ?_
    refine lv_iload_n C.x C.b dX8_seen_14 rfl (lv_at hl 2 rfl) ?_
    refine r_callV (b := 220) (As := [.int y]) (rest := []) (c_X8_isInput l D t B N g_38 y) mf_yX8_isInput mlX8_108 im_yX8_isInput se_yX8_isInput (by decide) C hS (by omega) e_60 (show vwCl[8]? = some _ from rfl) rfl rfl hl.1 rfl (Nat.le_of_ble_eq_true rfl) dX8_seen_15 ⟨Nat.zero_le _, Nat.zero_le _⟩ (fun r_87 g_85 H locs w_86 hS => ?_)
    obtain ⟨rfl, er_87⟩ := w_86
    by_cases b_88 : inP 16 y
    · rw [bz_t b_88] at er_87
      subst er_87
      obtain ⟨q_89, hq_90, rfl⟩ := inP_nI b_88 (by decide)
      refine lv_if_eq (tgt := 32) C.x C.b dX8_seen_18 (by decide) (fun c_91 => absurd c_91 (by decide)) (fun c_91 => ?_)
      refine lv_iload C.x C.b dX8_seen_21 (lv_at hl 4 rfl) ?_
      refine lv_if_lt (tgt := 32) C.x C.b dX8_seen_23 (by decide) (fun c_92 => ?_) (fun c_92 => ?_)
      · skip
        refine lv_sipush (v := (-1001)) C.x C.b dX8_seen_32 (by decide) ?_
        exact r_iret C hr hlocks hS ⟨hKp, (seenO_out (fun q => q.2.2.1 c_92)).symm⟩ dX8_seen_35
      · skip
        refine lv_iload C.x C.b dX8_seen_26 (lv_at hl 4 rfl) ?_
        refine lv_iconst (v := 2) C.x C.b dX8_seen_28 (by decide) ?_
        refine lv_icmp_le (tgt := 36) C.x C.b dX8_seen_29 (by decide) (fun c_93 => ?_) (fun c_93 => ?_)
        · skip
          refine lv_bipush (v := 16) C.x C.b dX8_seen_36 (by decide) ?_
          refine lv_iload_n C.x C.b dX8_seen_38 rfl (lv_at hl 1 rfl) ?_
          refine lv_imul C.x C.b dX8_seen_39 ?_
          refine r_top (y := nI (16 * q_82)) (pk_mul 16 q_82) ?_
          refine lv_iload_n C.x C.b dX8_seen_40 rfl (lv_at hl 2 rfl) ?_
          refine lv_iadd C.x C.b dX8_seen_41 ?_
          refine r_top (y := nI ((16 * q_82) + q_89)) (nI_add (16 * q_82) q_89) ?_
          refine lv_istore (lv' := [(5, .int (nI ((16 * q_82) + q_89))), (0, .ref (B + 220)), (1, .int (nI q_82)), (2, .int (nI q_89)), (3, .int z), (4, .int v)]) C.x C.b dX8_seen_42 hl (by decide) rfl (fun ls hl => ?_)
          refine lv_aload_n C.x C.b dX8_seen_44 rfl (lv_at hl 1 rfl) ?_
          refine lv_iload C.x C.b dX8_seen_45 (lv_at hl 0 rfl) ?_
          refine r_callVv (b := 220) (As := [.int (nI ((16 * q_82) + q_89))]) (rest := []) (ke_goes l D t B N g_38 _ _ _ _ _ _ _ ((16 * q_82) + q_89) (by omega) hKp.2 (by omega) hO (by omega)) mf_yX8_goes mlX8_91 im_yX8_goes se_yX8_goes (by decide) C hS (by omega) e_60 (show vwCl[8]? = some _ from rfl) rfl rfl hl.1 rfl (Nat.le_of_ble_eq_true rfl) dX8_seen_47 ⟨Nat.zero_le _, Nat.zero_le _⟩ (fun g_94 H locs w_95 hS => ?_)
          obtain ⟨w_95, hG_97⟩ := w_95
          replace hKp : Mk t B g g_94 n ey wi ev o pr w := hKp.tr w_95
          obtain ⟨td_98, po_99, ps_100, rg_101, mm_102, st_103, an_104, sp_105, pl_106, nu_107, co_108, sm_109, sw_110, sn_111, sq_112, cl_113, ⟨e_114, e_115, e_116, e_117⟩, ⟨e_118, e_119, e_120, e_121, e_122, e_123, e_124, e_125⟩, ⟨e_126, e_127, e_128, e_129⟩, e_130, hSt_131, h01_132, hPl_133, hSm_134⟩ := hKp.2
          replace e_114 : g_94 220 = .inr (8, [.int td_98, .int (nI n), .ref (B + 221), .ref (B + 222), .ref (B + 223), .int ey, .int wi, .int ev, .ref (B + 224), .ref (B + 225), .ref (B + 226), .ref (B + 227), .ref (B + 228), .ref (B + 229), .ref (B + 230), .ref (B + 231), .ref (B + 232), .ref (B + 233), .ref (B + 234), .ref (B + 235), .ref (B + 236), .int po_99, .int ps_100]) := e_114
          have hG_135 := hG_97.use e_120 e_121 e_122 e_123 e_124 e_125
          refine lv_aload_n C.x C.b dX8_seen_50 rfl (lv_at hl 1 rfl) ?_
          refine lv_iconst (v := 0) C.x C.b dX8_seen_51 (by decide) ?_
          refine lv_iload C.x C.b dX8_seen_52 (lv_at hl 0 rfl) ?_
          refine lv_aload_n C.x C.b dX8_seen_54 rfl (lv_at hl 1 rfl) ?_
          refine r_get ck8 flX8_80 C hS (by omega) e_114 (by decide) rfl dX8_seen_55 ?_
          refine lv_aload_n C.x C.b dX8_seen_58 rfl (lv_at hl 1 rfl) ?_
          refine r_get ck8 flX8_19 C hS (by omega) e_114 (by decide) rfl dX8_seen_59 ?_
          refine r_callVv (b := 220) (As := [.int 0, .int (nI ((16 * q_82) + q_89)), .int ev, .int ey]) (rest := []) (c_X8_look_ l D t B N g_94 _ _ _ _ _ _ _ _ _ _ _ _ _ _ _ _ _ _ 0 ((16 * q_82) + q_89) (obS o n w ((16 * q_82) + q_89)) ev ey (by omega) e_114 e_115 e_120 e_121 e_122 e_123 e_124 e_125 e_126 e_127 e_128 e_129 (by omega) (by omega) hG_135.1 obS_le hPl_133 hwi) mf_yX8_look_ mlX8_105 im_yX8_look_ se_yX8_look_ (by decide) C hS (by omega) e_114 (show vwCl[8]? = some _ from rfl) rfl rfl hl.1 rfl (Nat.le_of_ble_eq_true rfl) dX8_seen_62 ⟨Nat.zero_le _, Nat.zero_le _⟩ (fun g_136 H locs w_137 hS => ?_)
          replace hKp : Mk t B g g_136 n ey wi ev o pr w := hKp.see w_137.1 (okSm_upd0 hSm_134 (lookR_le _ _ _ _ _ _ _ _ _ _ _ _ _ _ _ obS_le)) w_137.2
          have e_139 : g_136 220 = .inr (8, [.int td_98, .int (nI n), .ref (B + 221), .ref (B + 222), .ref (B + 223), .int ey, .int wi, .int ev, .ref (B + 224), .ref (B + 225), .ref (B + 226), .ref (B + 227), .ref (B + 228), .ref (B + 229), .ref (B + 230), .ref (B + 231), .ref (B + 232), .ref (B + 233), .ref (B + 234), .ref (B + 235), .ref (B + 236), .int po_99, .int ps_100]) := (w_137.2 _ (by omega)).trans e_114
          have e_140 : g_136 221 = .inl (t.1, 10, .inl o) := (w_137.2 _ (by omega)).trans e_115
          have e_141 : g_136 222 = .inl (t.1, 10, .inl pr) := (w_137.2 _ (by omega)).trans e_116
          have e_142 : g_136 223 = .inl (t.1, 8, .inl w) := (w_137.2 _ (by omega)).trans e_117
          have e_143 : g_136 224 = .inl (t.1, 4, .inl rg_101) := (w_137.2 _ (by omega)).trans e_118
          have e_144 : g_136 225 = .inl (t.1, 8, .inl mm_102) := (w_137.2 _ (by omega)).trans e_119
          have e_145 : g_136 226 = .inl (t.1, 256, .inl st_103) := (w_137.2 _ (by omega)).trans e_120
          have e_146 : g_136 227 = .inl (t.1, 256, .inl an_104) := (w_137.2 _ (by omega)).trans e_121
          have e_147 : g_136 228 = .inl (t.2.1, 256, .inl sp_105) := (w_137.2 _ (by omega)).trans e_122
          have e_148 : g_136 229 = .inl (t.1, 10240, .inl pl_106) := (w_137.2 _ (by omega)).trans e_123
          have e_149 : g_136 230 = .inl (t.1, 10240, .inl nu_107) := (w_137.2 _ (by omega)).trans e_124
          have e_150 : g_136 231 = .inl (t.1, 10240, .inl co_108) := (w_137.2 _ (by omega)).trans e_125
          have e_151 : g_136 236 = .inl (t.1, 16, .inl cl_113) := (w_137.2 _ (by omega)).trans e_130
          obtain ⟨⟨e_152, e_153, e_154, e_155⟩, -⟩ := id w_137
          replace e_152 : g_136 232 = .inl (t.1, 2, .inl (upd sm_109 0 (nI (lookR o pl_106 nu_107 co_108 wi ev ey 0 ((16 * q_82) + q_89) (obS o n w ((16 * q_82) + q_89)) (an_104 ((16 * q_82) + q_89)) (sp_105 ((16 * q_82) + q_89)) (sw_110, sn_111, sq_112, 0)).2.2.2))) := e_152
          replace e_153 : g_136 233 = .inl (t.1, 84, .inl ((lookR o pl_106 nu_107 co_108 wi ev ey 0 ((16 * q_82) + q_89) (obS o n w ((16 * q_82) + q_89)) (an_104 ((16 * q_82) + q_89)) (sp_105 ((16 * q_82) + q_89)) (sw_110, sn_111, sq_112, 0)).1)) := e_153
          replace e_154 : g_136 234 = .inl (t.1, 84, .inl ((lookR o pl_106 nu_107 co_108 wi ev ey 0 ((16 * q_82) + q_89) (obS o n w ((16 * q_82) + q_89)) (an_104 ((16 * q_82) + q_89)) (sp_105 ((16 * q_82) + q_89)) (sw_110, sn_111, sq_112, 0)).2.1)) := e_154
          replace e_155 : g_136 235 = .inl (t.1, 84, .inl ((lookR o pl_106 nu_107 co_108 wi ev ey 0 ((16 * q_82) + q_89) (obS o n w ((16 * q_82) + q_89)) (an_104 ((16 * q_82) + q_89)) (sp_105 ((16 * q_82) + q_89)) (sw_110, sn_111, sq_112, 0)).2.2.1)) := e_155
          have hX_156 : relM 0 sw_110 sn_111 sq_112 (lookR o pl_106 nu_107 co_108 wi ev ey 0 ((16 * q_82) + q_89) (obS o n w ((16 * q_82) + q_89)) (an_104 ((16 * q_82) + q_89)) (sp_105 ((16 * q_82) + q_89)) (sw_110, sn_111, sq_112, 0)) (obR o n w wi ev ey ((16 * q_82) + q_89)) := hG_135.lrel
          refine lv_iload_n C.x C.b dX8_seen_65 rfl (lv_at hl 4 rfl) ?_
          refine lv_if_lt (tgt := 79) C.x C.b dX8_seen_66 (by decide) (fun c_157 => ?_) (fun c_157 => ?_)
          · skip
            refine lv_sipush (v := (-1001)) C.x C.b dX8_seen_79 (by decide) ?_
            exact r_iret C hr hlocks hS ⟨hKp, (seenI_out (by rw [← hX_156.1]; exact (fun q => q.1 c_157))).trans (seenO_in (by omega) (by omega) c_92 c_93).symm⟩ dX8_seen_82
          · skip
            refine lv_iload_n C.x C.b dX8_seen_69 rfl (lv_at hl 4 rfl) ?_
            refine lv_aload_n C.x C.b dX8_seen_70 rfl (lv_at hl 1 rfl) ?_
            refine r_get ck8 flX8_51 C hS (by omega) e_139 (by decide) rfl dX8_seen_71 ?_
            refine lv_iconst (v := 0) C.x C.b dX8_seen_74 (by decide) ?_
            refine r_ialdN 0 rfl (by omega) (by decide) C hS (by omega) e_152 dX8_seen_75 ?_
            refine lv_icmp_lt (tgt := 83) C.x C.b dX8_seen_76 (by decide) (fun c_158 => ?_) (fun c_158 => ?_)
            · skip
              have hle9 := obR_le (o := o) (n := n) (w := w) (wi := wi) (x := ev) (y := ey) (R := ((16 * q_82) + q_89))
              rw [← hX_156.1] at hle9
              obtain ⟨zq, hzq, rfl⟩ := inP_nI (n := (lookR o pl_106 nu_107 co_108 wi ev ey 0 ((16 * q_82) + q_89) (obS o n w ((16 * q_82) + q_89)) (an_104 ((16 * q_82) + q_89)) (sp_105 ((16 * q_82) + q_89)) (sw_110, sn_111, sq_112, 0)).2.2.2) ⟨c_157, Int32.not_le.mpr c_158⟩ (by omega)
              refine lv_iload C.x C.b dX8_seen_83 (lv_at hl 5 rfl) ?_
              refine lv_if_ne (tgt := 97) C.x C.b dX8_seen_85 (by decide) (fun c_159 => ?_) (fun c_159 => ?_)
              · skip
                refine lv_iload C.x C.b dX8_seen_97 (lv_at hl 5 rfl) ?_
                refine lv_iconst (v := 1) C.x C.b dX8_seen_99 (by decide) ?_
                refine lv_icmp_ne (tgt := 112) C.x C.b dX8_seen_100 (by decide) (fun c_160 => ?_) (fun c_160 => ?_)
                · skip
                  refine lv_aload_n C.x C.b dX8_seen_112 rfl (lv_at hl 1 rfl) ?_
                  refine r_get ck8 flX8_57 C hS (by omega) e_139 (by decide) rfl dX8_seen_113 ?_
                  refine lv_iload_n C.x C.b dX8_seen_116 rfl (lv_at hl 4 rfl) ?_
                  refine r_ialdN zq rfl (by omega) (by decide) C hS (by omega) e_154 dX8_seen_117 ?_
                  obtain ⟨f1, f2, f3⟩ := hX_156.2.1 zq (by rw [← hX_156.1]; exact hzq)
                  rw [Nat.mul_zero, Nat.zero_add] at f1 f2 f3
                  exact r_iret C hr hlocks hS ⟨hKp, (seenI_2 (by rw [← hX_156.1]; exact hzq) (Nat.lt_of_le_of_lt obR_le (by decide)) c_159 c_160 ⟨f3.trans (congrArg _ (by omega)), f1.trans (congrArg _ (by omega)), f2.trans (congrArg _ (by omega))⟩).trans (seenO_in (by omega) (by omega) c_92 c_93).symm⟩ dX8_seen_118
                · skip
                  refine lv_aload_n C.x C.b dX8_seen_103 rfl (lv_at hl 1 rfl) ?_
                  refine r_get ck8 flX8_54 C hS (by omega) e_139 (by decide) rfl dX8_seen_104 ?_
                  refine lv_iload_n C.x C.b dX8_seen_107 rfl (lv_at hl 4 rfl) ?_
                  refine r_ialdN zq rfl (by omega) (by decide) C hS (by omega) e_153 dX8_seen_108 ?_
                  refine lv_goto (tgt := 118) C.x C.b dX8_seen_109 (by decide) ?_
                  obtain ⟨f1, f2, f3⟩ := hX_156.2.1 zq (by rw [← hX_156.1]; exact hzq)
                  rw [Nat.mul_zero, Nat.zero_add] at f1 f2 f3
                  exact r_iret C hr hlocks hS ⟨hKp, (seenI_1 (by rw [← hX_156.1]; exact hzq) (Nat.lt_of_le_of_lt obR_le (by decide)) c_159 c_160 ⟨f3.trans (congrArg _ (by omega)), f1.trans (congrArg _ (by omega)), f2.trans (congrArg _ (by omega))⟩).trans (seenO_in (by omega) (by omega) c_92 c_93).symm⟩ dX8_seen_118
              · skip
                refine lv_aload_n C.x C.b dX8_seen_88 rfl (lv_at hl 1 rfl) ?_
                refine r_get ck8 flX8_60 C hS (by omega) e_139 (by decide) rfl dX8_seen_89 ?_
                refine lv_iload_n C.x C.b dX8_seen_92 rfl (lv_at hl 4 rfl) ?_
                refine r_ialdN zq rfl (by omega) (by decide) C hS (by omega) e_155 dX8_seen_93 ?_
                refine lv_goto (tgt := 118) C.x C.b dX8_seen_94 (by decide) ?_
                obtain ⟨f1, f2, f3⟩ := hX_156.2.1 zq (by rw [← hX_156.1]; exact hzq)
                rw [Nat.mul_zero, Nat.zero_add] at f1 f2 f3
                exact r_iret C hr hlocks hS ⟨hKp, (seenI_0 (by rw [← hX_156.1]; exact hzq) (Nat.lt_of_le_of_lt obR_le (by decide)) c_159 ⟨f3.trans (congrArg _ (by omega)), f1.trans (congrArg _ (by omega)), f2.trans (congrArg _ (by omega))⟩).trans (seenO_in (by omega) (by omega) c_92 c_93).symm⟩ dX8_seen_118
            · skip
              refine lv_sipush (v := (-1001)) C.x C.b dX8_seen_79 (by decide) ?_
              exact r_iret C hr hlocks hS ⟨hKp, (seenI_out (by rw [← hX_156.1]; exact (fun q => c_158 (Int32.not_le.mp q.2)))).trans (seenO_in (by omega) (by omega) c_92 c_93).symm⟩ dX8_seen_82
        · skip
          refine lv_sipush (v := (-1001)) C.x C.b dX8_seen_32 (by decide) ?_
          exact r_iret C hr hlocks hS ⟨hKp, (seenO_out (fun q => c_93 q.2.2.2)).symm⟩ dX8_seen_35
    · rw [bz_f b_88] at er_87
      subst er_87
      refine lv_if_eq (tgt := 32) C.x C.b dX8_seen_18 (by decide) (fun c_161 => ?_) (fun c_161 => absurd (by decide) c_161)
      refine lv_sipush (v := (-1001)) C.x C.b dX8_seen_32 (by decide) ?_
      exact r_iret C hr hlocks hS ⟨hKp, (seenO_out (fun q => b_88 q.2.1)).symm⟩ dX8_seen_35
  · rw [bz_f b_81] at er_43
    subst er_43
    refine lv_if_eq (tgt := 32) C.x C.b dX8_seen_10 (by decide) (fun c_162 => ?_) (fun c_162 => absurd (by decide) c_162)
    refine lv_sipush (v := (-1001)) C.x C.b dX8_seen_32 (by decide) ?_
    exact r_iret C hr hlocks hS ⟨hKp, (seenO_out (fun q => b_81 q.1)).symm⟩ dX8_seen_35
