theorem bz_1 {P : Prop} (h : P) : ¬ bz P = 0 := by
  rw [bz_t h]
  decide
def cbM (cf pr : Nat → Int32) (n : Nat) : Nat → Int32
  | 0 => -1
  | k + 1 => if cf k = 0 then cbM cf pr n k else if cbM cf pr n k = -1 then nI k else if (prcM pr (nI k) n - prcM pr (cbM cf pr n k) n) < 0 ∨ ((prcM pr (nI k) n - prcM pr (cbM cf pr n k) n) = 0 ∧ onesL (nI k).toBitVec.toNat 0 (nI k) < onesL (cbM cf pr n k).toBitVec.toNat 0 (cbM cf pr n k)) then nI k else cbM cf pr n k
def cuM (cf pr : Nat → Int32) (n : Nat) (x : Int32) : Int32 := if x < 0 ∨ ¬ x ≤ 2 then -1 else if cbM cf pr n (2 ^ n) = -1 then -1 else if x = 0 then prcM pr (cbM cf pr n (2 ^ n)) n else if x = 1 then cbM cf pr n (2 ^ n) else hmF cf (2 ^ n)
theorem cuM_out {cf pr : Nat → Int32} {n : Nat} {x : Int32} (h : x < 0 ∨ ¬ x ≤ 2) : cuM cf pr n x = -1 := if_pos h

set_option maxHeartbeats 1000000 in
set_option maxRecDepth 100000 in
theorem x_X8_cure (l : Launch) (D : va_G) (t : Gx) (B N : Nat) (g : Nat → va_E) (n : Nat) (ey wi ev : Int32) (o pr w : Nat → Int32) (x : Int32) (hN : 236 < N) (hM : Msh t B g n ey wi ev o pr w) (hn : n ≤ 8) (hO : okO o) (hwi : ¬ wi = 0)  : Ci l D t B N yX8_cure cX8_cure 6 (some .int) 5 120 g [.ref (B + 220), .int x] (fun r g' => Mk t B g g' n ey wi ev o pr w ∧ r = cuM (fun s => bz (calmP o n w wi ey s)) pr n x) := by
  refine Ci.start (by decide) (Nat.le_of_ble_eq_true rfl) ?_
  intro p e s m below meth c ls C hr hlocks hS hl
  replace C : Cx D t p s m [.ref (B + 220), .int x].toArray c cX8_cure 6 RX8 := C
  replace hl : lv_has ls 6 [(0, .ref (B + 220)), (1, .int x)] := hl
  have hKp : Mk t B g g n ey wi ev o pr w := Mk.rf hM
  refine lv_aload_n C.x C.b dX8_cure_0 rfl (lv_at hl 0 rfl) ?_
  refine lv_iconst (v := 0) C.x C.b dX8_cure_1 (by decide) ?_
  obtain ⟨td_1, po_2, ps_3, rg_4, mm_5, st_6, an_7, sp_8, pl_9, nu_10, co_11, sm_12, sw_13, sn_14, sq_15, cl_16, ⟨e_17, e_18, e_19, e_20⟩, ⟨e_21, e_22, e_23, e_24, e_25, e_26, e_27, e_28⟩, ⟨e_29, e_30, e_31, e_32⟩, e_33, hSt_34, h01_35, hPl_36, hSm_37⟩ := hKp.2
  replace e_17 : g 220 = .inr (8, [.int td_1, .int (nI n), .ref (B + 221), .ref (B + 222), .ref (B + 223), .int ey, .int wi, .int ev, .ref (B + 224), .ref (B + 225), .ref (B + 226), .ref (B + 227), .ref (B + 228), .ref (B + 229), .ref (B + 230), .ref (B + 231), .ref (B + 232), .ref (B + 233), .ref (B + 234), .ref (B + 235), .ref (B + 236), .int po_2, .int ps_3]) := e_17
  refine r_put ck8 flX8_66 C hS (by omega) e_17 (by decide) rfl rfl rfl (Nat.le_of_ble_eq_true rfl) dX8_cure_2 (fun g_38 H locs e_39 o_40 hS => ?_)
  replace e_39 : g_38 220 = .inr (8, [.int 0, .int (nI n), .ref (B + 221), .ref (B + 222), .ref (B + 223), .int ey, .int wi, .int ev, .ref (B + 224), .ref (B + 225), .ref (B + 226), .ref (B + 227), .ref (B + 228), .ref (B + 229), .ref (B + 230), .ref (B + 231), .ref (B + 232), .ref (B + 233), .ref (B + 234), .ref (B + 235), .ref (B + 236), .int po_2, .int ps_3]) := e_39
  replace hKp : Mk t B g g_38 n ey wi ev o pr w := hKp.obj (td := 0) (po := po_2) (ps := ps_3) e_39 o_40
  refine lv_iload_n C.x C.b dX8_cure_5 rfl (lv_at hl 1 rfl) ?_
  refine lv_if_lt (tgt := 14) C.x C.b dX8_cure_6 (by decide) (fun c_41 => ?_) (fun c_41 => ?_)
  · skip
    refine lv_iconst (v := (-1)) C.x C.b dX8_cure_14 (by decide) ?_
    exact r_iret C hr hlocks hS ⟨hKp, (cuM_out (Or.inl c_41)).symm⟩ dX8_cure_15
  · skip
    refine lv_iload_n C.x C.b dX8_cure_9 rfl (lv_at hl 1 rfl) ?_
    refine lv_iconst (v := 2) C.x C.b dX8_cure_10 (by decide) ?_
    refine lv_icmp_le (tgt := 16) C.x C.b dX8_cure_11 (by decide) (fun c_42 => ?_) (fun c_42 => ?_)
    · skip
      refine lv_aload_n C.x C.b dX8_cure_16 rfl (lv_at hl 0 rfl) ?_
      obtain ⟨td_46, po_47, ps_48, rg_49, mm_50, st_51, an_52, sp_53, pl_54, nu_55, co_56, sm_57, sw_58, sn_59, sq_60, cl_61, ⟨e_62, e_63, e_64, e_65⟩, ⟨e_66, e_67, e_68, e_69, e_70, e_71, e_72, e_73⟩, ⟨e_74, e_75, e_76, e_77⟩, e_78, hSt_79, h01_80, hPl_81, hSm_82⟩ := hKp.2
      replace e_62 : g_38 220 = .inr (8, [.int td_46, .int (nI n), .ref (B + 221), .ref (B + 222), .ref (B + 223), .int ey, .int wi, .int ev, .ref (B + 224), .ref (B + 225), .ref (B + 226), .ref (B + 227), .ref (B + 228), .ref (B + 229), .ref (B + 230), .ref (B + 231), .ref (B + 232), .ref (B + 233), .ref (B + 234), .ref (B + 235), .ref (B + 236), .int po_47, .int ps_48]) := e_62
      refine r_callVv (b := 220) (As := []) (rest := []) (ke_goAll l D t B N g_38 _ _ _ _ _ _ _ (by omega) hKp.2 (by omega) hO) mf_yX8_goAll mlX8_115 im_yX8_goAll se_yX8_goAll (by decide) C hS (by omega) e_62 (show vwCl[8]? = some _ from rfl) rfl rfl hl.1 rfl (Nat.le_of_ble_eq_true rfl) dX8_cure_17 ⟨Nat.zero_le _, Nat.zero_le _⟩ (fun g_43 H locs w_44 hS => ?_)
      obtain ⟨w_44, hA⟩ := w_44
      replace hKp : Mk t B g g_43 n ey wi ev o pr w := hKp.tr w_44
      have h2n := (sh1_all n (by omega)).2
      refine lv_iconst (v := (-1)) C.x C.b dX8_cure_20 (by decide) ?_
      refine lv_istore_n (lv' := [(2, .int (-1)), (0, .ref (B + 220)), (1, .int x)]) C.x C.b dX8_cure_21 rfl hl (by decide) rfl (fun ls hl => ?_)
      refine lv_iconst (v := 0) C.x C.b dX8_cure_22 (by decide) ?_
      refine lv_istore_n (lv' := [(3, .int 0), (2, .int (-1)), (0, .ref (B + 220)), (1, .int x)]) C.x C.b dX8_cure_23 rfl hl (by decide) rfl (fun ls hl => ?_)
      refine lv_iconst (v := 0) C.x C.b dX8_cure_24 (by decide) ?_
      refine lv_istore (lv' := [(4, .int 0), (3, .int 0), (2, .int (-1)), (0, .ref (B + 220)), (1, .int x)]) C.x C.b dX8_cure_25 hl (by decide) rfl (fun ls hl => ?_)
      have lp_83 : ∀ (u_84 k_85 : Nat) (b_89 : Int32) (d_90 : Int32) (g_88 : Nat → va_E) (H : Heap) (locs : List Loc) (ls : Array Slot), k_85 + u_84 = (2 ^ n) → (b_89 = cbM (fun s => bz (calmP o n w wi ey s)) pr n k_85) → (d_90 = hmF (fun s => bz (calmP o n w wi ey s)) k_85) → (AllAt t g_88 o n w) → Mk t B g g_88 n ey wi ev o pr w → St D B s.heap N g_88 H locs → lv_has ls 6 [(0, .ref (B + 220)), (1, .int x), (2, .int b_89), (3, .int d_90), (4, .int (nI k_85))] → W p l e (rmOf 5 120 0 0) s m [.ref (B + 220), .int x].toArray below meth c H locs 0 0 (MQ below (qI D B N (fun r g' => Mk t B g g' n ey wi ev o pr w ∧ r = cuM (fun s => bz (calmP o n w wi ey s)) pr n x)) [.ref (B + 220), .int x].toArray s 0 0 (fun q => B ≤ q)) (F0 m 27 ls []) := by
        intro u_84
        induction u_84 with
        | zero =>
          intro k_85 b_89 d_90 g_88 H locs ls hk_86 hbb_91 hcc_92 hA1_93 hKp hS hl
          obtain rfl : (2 ^ n) = k_85 := by omega
          have hA := hA1_93
          refine lv_iload C.x C.b dX8_cure_27 (lv_at hl 4 rfl) ?_
          refine lv_iconst (v := 1) C.x C.b dX8_cure_29 (by decide) ?_
          refine lv_aload_n C.x C.b dX8_cure_30 rfl (lv_at hl 0 rfl) ?_
          obtain ⟨td_94, po_95, ps_96, rg_97, mm_98, st_99, an_100, sp_101, pl_102, nu_103, co_104, sm_105, sw_106, sn_107, sq_108, cl_109, ⟨e_110, e_111, e_112, e_113⟩, ⟨e_114, e_115, e_116, e_117, e_118, e_119, e_120, e_121⟩, ⟨e_122, e_123, e_124, e_125⟩, e_126, hSt_127, h01_128, hPl_129, hSm_130⟩ := hKp.2
          replace e_110 : g_88 220 = .inr (8, [.int td_94, .int (nI n), .ref (B + 221), .ref (B + 222), .ref (B + 223), .int ey, .int wi, .int ev, .ref (B + 224), .ref (B + 225), .ref (B + 226), .ref (B + 227), .ref (B + 228), .ref (B + 229), .ref (B + 230), .ref (B + 231), .ref (B + 232), .ref (B + 233), .ref (B + 234), .ref (B + 235), .ref (B + 236), .int po_95, .int ps_96]) := e_110
          refine r_get ck8 flX8_70 C hS (by omega) e_110 (by decide) rfl dX8_cure_31 ?_
          refine lv_ishl C.x C.b dX8_cure_34 ?_
          refine r_top (y := nI (2 ^ n)) ((sh1_all n (by omega)).1) ?_
          refine lv_icmp_ge (tgt := 117) C.x C.b dX8_cure_35 (by decide) (fun c_131 => ?_) (fun c_131 => absurd (nI_le (Nat.le_refl _) (by omega)) c_131)
          refine lv_iload_n C.x C.b dX8_cure_117 rfl (lv_at hl 2 rfl) ?_
          refine lv_iconst (v := (-1)) C.x C.b dX8_cure_118 (by decide) ?_
          refine lv_icmp_ne (tgt := 124) C.x C.b dX8_cure_119 (by decide) (fun c_132 => ?_) (fun c_132 => ?_)
          · skip
            refine lv_iload_n C.x C.b dX8_cure_124 rfl (lv_at hl 1 rfl) ?_
            refine lv_if_ne (tgt := 136) C.x C.b dX8_cure_125 (by decide) (fun c_133 => ?_) (fun c_133 => ?_)
            · skip
              refine lv_iload_n C.x C.b dX8_cure_136 rfl (lv_at hl 1 rfl) ?_
              refine lv_iconst (v := 1) C.x C.b dX8_cure_137 (by decide) ?_
              refine lv_icmp_ne (tgt := 145) C.x C.b dX8_cure_138 (by decide) (fun c_134 => ?_) (fun c_134 => ?_)
              · skip
                refine lv_iload_n C.x C.b dX8_cure_145 rfl (lv_at hl 3 rfl) ?_
                exact r_iret C hr hlocks hS ⟨hKp, by rw [cuM, if_neg (fun q9 => q9.elim c_41 (fun q9 => q9 c_42)), ← hbb_91, if_neg c_132, if_neg c_133, if_neg c_134, ← hcc_92]⟩ dX8_cure_146
              · skip
                refine lv_iload_n C.x C.b dX8_cure_141 rfl (lv_at hl 2 rfl) ?_
                refine lv_goto (tgt := 146) C.x C.b dX8_cure_142 (by decide) ?_
                exact r_iret C hr hlocks hS ⟨hKp, by rw [cuM, if_neg (fun q9 => q9.elim c_41 (fun q9 => q9 c_42)), ← hbb_91, if_neg c_132, if_neg c_133, if_pos c_134]⟩ dX8_cure_146
            · skip
              refine lv_aload_n C.x C.b dX8_cure_128 rfl (lv_at hl 0 rfl) ?_
              refine lv_iload_n C.x C.b dX8_cure_129 rfl (lv_at hl 2 rfl) ?_
              refine r_callV (b := 220) (As := [.int b_89]) (rest := []) (c_X8_priceOf l D t B N g_88 _ _ _ _ _ _ _ _ b_89 (by omega) e_110 e_112 hn) mf_yX8_priceOf mlX8_131 im_yX8_priceOf se_yX8_priceOf (by decide) C hS (by omega) e_110 (show vwCl[8]? = some _ from rfl) rfl rfl hl.1 rfl (Nat.le_of_ble_eq_true rfl) dX8_cure_130 ⟨Nat.zero_le _, Nat.zero_le _⟩ (fun r_137 g_135 H locs w_136 hS => ?_)
              obtain ⟨rfl, er_137⟩ := w_136
              subst er_137
              refine lv_goto (tgt := 146) C.x C.b dX8_cure_133 (by decide) ?_
              exact r_iret C hr hlocks hS ⟨hKp, by rw [cuM, if_neg (fun q9 => q9.elim c_41 (fun q9 => q9 c_42)), ← hbb_91, if_neg c_132, if_pos c_133]⟩ dX8_cure_146
          · skip
            refine lv_iconst (v := (-1)) C.x C.b dX8_cure_122 (by decide) ?_
            exact r_iret C hr hlocks hS ⟨hKp, by rw [cuM, if_neg (fun q9 => q9.elim c_41 (fun q9 => q9 c_42)), ← hbb_91, if_pos c_132]⟩ dX8_cure_123
        | succ u_84 ih_87 =>
          intro k_85 b_89 d_90 g_88 H locs ls hk_86 hbb_91 hcc_92 hA1_93 hKp hS hl
          have hA := hA1_93
          refine lv_iload C.x C.b dX8_cure_27 (lv_at hl 4 rfl) ?_
          refine lv_iconst (v := 1) C.x C.b dX8_cure_29 (by decide) ?_
          refine lv_aload_n C.x C.b dX8_cure_30 rfl (lv_at hl 0 rfl) ?_
          obtain ⟨td_138, po_139, ps_140, rg_141, mm_142, st_143, an_144, sp_145, pl_146, nu_147, co_148, sm_149, sw_150, sn_151, sq_152, cl_153, ⟨e_154, e_155, e_156, e_157⟩, ⟨e_158, e_159, e_160, e_161, e_162, e_163, e_164, e_165⟩, ⟨e_166, e_167, e_168, e_169⟩, e_170, hSt_171, h01_172, hPl_173, hSm_174⟩ := hKp.2
          replace e_154 : g_88 220 = .inr (8, [.int td_138, .int (nI n), .ref (B + 221), .ref (B + 222), .ref (B + 223), .int ey, .int wi, .int ev, .ref (B + 224), .ref (B + 225), .ref (B + 226), .ref (B + 227), .ref (B + 228), .ref (B + 229), .ref (B + 230), .ref (B + 231), .ref (B + 232), .ref (B + 233), .ref (B + 234), .ref (B + 235), .ref (B + 236), .int po_139, .int ps_140]) := e_154
          refine r_get ck8 flX8_70 C hS (by omega) e_154 (by decide) rfl dX8_cure_31 ?_
          refine lv_ishl C.x C.b dX8_cure_34 ?_
          refine r_top (y := nI (2 ^ n)) ((sh1_all n (by omega)).1) ?_
          refine lv_icmp_ge (tgt := 117) C.x C.b dX8_cure_35 (by decide) (fun c_175 => absurd c_175 (nI_ge (a := k_85) (b := (2 ^ n)) (by omega) (by omega))) (fun c_175 => ?_)
          refine lv_aload_n C.x C.b dX8_cure_38 rfl (lv_at hl 0 rfl) ?_
          refine lv_iload C.x C.b dX8_cure_39 (lv_at hl 4 rfl) ?_
          refine lv_aload_n C.x C.b dX8_cure_41 rfl (lv_at hl 0 rfl) ?_
          refine r_get ck8 flX8_19 C hS (by omega) e_154 (by decide) rfl dX8_cure_42 ?_
          refine lv_bipush (v := 7) C.x C.b dX8_cure_45 (by decide) ?_
          refine lv_iand C.x C.b dX8_cure_47 ?_
          refine r_callV (b := 220) (As := [.int (nI k_85), .int (ey &&& 7)]) (rest := []) (ke_silent l D t B N g_88 _ _ _ _ _ _ _ (nI k_85) (ey &&& 7) (by omega) hKp.2 hA hwi) mf_yX8_isSilent mlX8_127 im_yX8_isSilent se_yX8_isSilent (by decide) C hS (by omega) e_154 (show vwCl[8]? = some _ from rfl) rfl rfl hl.1 rfl (Nat.le_of_ble_eq_true rfl) dX8_cure_48 ⟨Nat.zero_le _, Nat.zero_le _⟩ (fun r_178 g_176 H locs w_177 hS => ?_)
          obtain ⟨w_177, hA, al_179⟩ := w_177
          replace hKp : Mk t B g g_176 n ey wi ev o pr w := hKp.tr w_177
          rcases al_179 with ⟨rfl, q_180⟩ | ⟨rfl, K_181, hk_182, hk_183, -, hk_184, -⟩
          · skip
            have ca_185 : calmP o n w wi ey k_85 := sil_all (X := fun R => obR o n w wi (nI k_85) (ey &&& 7) R) q_180
            refine lv_if_ne (tgt := 57) C.x C.b dX8_cure_51 (by decide) (fun c_186 => ?_) (fun c_186 => absurd c_186 (by decide))
            refine lv_iload_n C.x C.b dX8_cure_57 rfl (lv_at hl 3 rfl) ?_
            refine lv_iconst (v := 1) C.x C.b dX8_cure_58 (by decide) ?_
            refine lv_iadd C.x C.b dX8_cure_59 ?_
            refine lv_istore_n (lv' := [(3, .int (d_90 + 1)), (0, .ref (B + 220)), (1, .int x), (2, .int b_89), (4, .int (nI k_85))]) C.x C.b dX8_cure_60 rfl hl (by decide) rfl (fun ls hl => ?_)
            refine lv_iload_n C.x C.b dX8_cure_61 rfl (lv_at hl 3 rfl) ?_
            refine lv_iconst (v := (-1)) C.x C.b dX8_cure_62 (by decide) ?_
            refine lv_icmp_ne (tgt := 70) C.x C.b dX8_cure_63 (by decide) (fun c_187 => ?_) (fun c_187 => ?_)
            · skip
              refine lv_aload_n C.x C.b dX8_cure_70 rfl (lv_at hl 1 rfl) ?_
              refine lv_iload C.x C.b dX8_cure_71 (lv_at hl 4 rfl) ?_
              obtain ⟨td_188, po_189, ps_190, rg_191, mm_192, st_193, an_194, sp_195, pl_196, nu_197, co_198, sm_199, sw_200, sn_201, sq_202, cl_203, ⟨e_204, e_205, e_206, e_207⟩, ⟨e_208, e_209, e_210, e_211, e_212, e_213, e_214, e_215⟩, ⟨e_216, e_217, e_218, e_219⟩, e_220, hSt_221, h01_222, hPl_223, hSm_224⟩ := hKp.2
              replace e_204 : g_176 220 = .inr (8, [.int td_188, .int (nI n), .ref (B + 221), .ref (B + 222), .ref (B + 223), .int ey, .int wi, .int ev, .ref (B + 224), .ref (B + 225), .ref (B + 226), .ref (B + 227), .ref (B + 228), .ref (B + 229), .ref (B + 230), .ref (B + 231), .ref (B + 232), .ref (B + 233), .ref (B + 234), .ref (B + 235), .ref (B + 236), .int po_189, .int ps_190]) := e_204
              refine r_callV (b := 220) (As := [.int (nI k_85)]) (rest := []) (c_X8_priceOf l D t B N g_176 _ _ _ _ _ _ _ _ (nI k_85) (by omega) e_204 e_206 hn) mf_yX8_priceOf mlX8_131 im_yX8_priceOf se_yX8_priceOf (by decide) C hS (by omega) e_204 (show vwCl[8]? = some _ from rfl) rfl rfl hl.1 rfl (Nat.le_of_ble_eq_true rfl) dX8_cure_73 ⟨Nat.zero_le _, Nat.zero_le _⟩ (fun r_227 g_225 H locs w_226 hS => ?_)
              obtain ⟨rfl, er_227⟩ := w_226
              subst er_227
              refine lv_aload_n C.x C.b dX8_cure_76 rfl (lv_at hl 1 rfl) ?_
              refine lv_iload_n C.x C.b dX8_cure_77 rfl (lv_at hl 3 rfl) ?_
              refine r_callV (b := 220) (As := [.int b_89]) (rest := [.int (prcM pr (nI k_85) n)]) (c_X8_priceOf l D t B N g_176 _ _ _ _ _ _ _ _ b_89 (by omega) e_204 e_206 hn) mf_yX8_priceOf mlX8_131 im_yX8_priceOf se_yX8_priceOf (by decide) C hS (by omega) e_204 (show vwCl[8]? = some _ from rfl) rfl rfl hl.1 rfl (Nat.le_of_ble_eq_true rfl) dX8_cure_78 ⟨Nat.zero_le _, Nat.zero_le _⟩ (fun r_230 g_228 H locs w_229 hS => ?_)
              obtain ⟨rfl, er_230⟩ := w_229
              subst er_230
              refine lv_isub C.x C.b dX8_cure_81 ?_
              refine lv_istore (lv' := [(5, .int ((prcM pr (nI k_85) n) - (prcM pr b_89 n))), (3, .int (d_90 + 1)), (0, .ref (B + 220)), (1, .int x), (2, .int b_89), (4, .int (nI k_85))]) C.x C.b dX8_cure_82 hl (by decide) rfl (fun ls hl => ?_)
              refine lv_iload C.x C.b dX8_cure_84 (lv_at hl 0 rfl) ?_
              refine lv_if_lt (tgt := 108) C.x C.b dX8_cure_86 (by decide) (fun c_231 => ?_) (fun c_231 => ?_)
              · skip
                refine lv_iload C.x C.b dX8_cure_108 (lv_at hl 5 rfl) ?_
                refine lv_istore_n (lv' := [(2, .int (nI k_85)), (5, .int ((prcM pr (nI k_85) n) - (prcM pr b_89 n))), (3, .int (d_90 + 1)), (0, .ref (B + 220)), (1, .int x), (4, .int (nI k_85))]) C.x C.b dX8_cure_110 rfl hl (by decide) rfl (fun ls hl => ?_)
                refine lv_iinc (v := nI (k_85 + 1)) (lv' := [(4, .int (nI (k_85 + 1))), (2, .int (nI k_85)), (5, .int ((prcM pr (nI k_85) n) - (prcM pr b_89 n))), (3, .int (d_90 + 1)), (0, .ref (B + 220)), (1, .int x)]) C.x C.b dX8_cure_111 hl (k := 5) rfl (nI_1 k_85) (by decide) rfl (fun ls hl => ?_)
                refine lv_goto (tgt := 27) C.x C.b dX8_cure_114 (by decide) ?_
                exact ih_87 (k_85 + 1) (nI k_85) (d_90 + 1) g_176 _ _ _ (by omega) (by rw [cbM, ← hbb_91, if_neg (bz_1 ca_185), if_neg c_187, if_pos (Or.inl c_231)]) (by rw [hmF, ← hcc_92, if_neg (bz_1 ca_185)]) hA hKp hS (lv_sub hl [4, 5, 1, 3, 0] rfl)
              · skip
                refine lv_iload C.x C.b dX8_cure_89 (lv_at hl 0 rfl) ?_
                refine lv_if_ne (tgt := 111) C.x C.b dX8_cure_91 (by decide) (fun c_232 => ?_) (fun c_232 => ?_)
                · skip
                  refine lv_iinc (v := nI (k_85 + 1)) (lv' := [(4, .int (nI (k_85 + 1))), (5, .int ((prcM pr (nI k_85) n) - (prcM pr b_89 n))), (3, .int (d_90 + 1)), (0, .ref (B + 220)), (1, .int x), (2, .int b_89)]) C.x C.b dX8_cure_111 hl (k := 5) rfl (nI_1 k_85) (by decide) rfl (fun ls hl => ?_)
                  refine lv_goto (tgt := 27) C.x C.b dX8_cure_114 (by decide) ?_
                  exact ih_87 (k_85 + 1) b_89 (d_90 + 1) g_176 _ _ _ (by omega) (by rw [cbM, ← hbb_91, if_neg (bz_1 ca_185), if_neg c_187, if_neg (fun q9 => q9.elim c_231 (fun q9 => c_232 q9.1))]) (by rw [hmF, ← hcc_92, if_neg (bz_1 ca_185)]) hA hKp hS (lv_sub hl [3, 4, 5, 2, 0] rfl)
                · skip
                  refine lv_aload_n C.x C.b dX8_cure_94 rfl (lv_at hl 2 rfl) ?_
                  refine lv_iload C.x C.b dX8_cure_95 (lv_at hl 5 rfl) ?_
                  refine r_callV (b := 220) (As := [.int (nI k_85)]) (rest := []) (c_X8_ones l D t B N g_176 (nI k_85)) mf_yX8_ones mlX8_134 im_yX8_ones se_yX8_ones (by decide) C hS (by omega) e_204 (show vwCl[8]? = some _ from rfl) rfl rfl hl.1 rfl (Nat.le_of_ble_eq_true rfl) dX8_cure_97 ⟨Nat.zero_le _, Nat.zero_le _⟩ (fun r_235 g_233 H locs w_234 hS => ?_)
                  obtain ⟨rfl, er_235⟩ := w_234
                  subst er_235
                  refine lv_aload_n C.x C.b dX8_cure_100 rfl (lv_at hl 2 rfl) ?_
                  refine lv_iload_n C.x C.b dX8_cure_101 rfl (lv_at hl 4 rfl) ?_
                  refine r_callV (b := 220) (As := [.int b_89]) (rest := [.int (onesL (nI k_85).toBitVec.toNat 0 (nI k_85))]) (c_X8_ones l D t B N g_176 b_89) mf_yX8_ones mlX8_134 im_yX8_ones se_yX8_ones (by decide) C hS (by omega) e_204 (show vwCl[8]? = some _ from rfl) rfl rfl hl.1 rfl (Nat.le_of_ble_eq_true rfl) dX8_cure_102 ⟨Nat.zero_le _, Nat.zero_le _⟩ (fun r_238 g_236 H locs w_237 hS => ?_)
                  obtain ⟨rfl, er_238⟩ := w_237
                  subst er_238
                  refine lv_icmp_ge (tgt := 111) C.x C.b dX8_cure_105 (by decide) (fun c_239 => ?_) (fun c_239 => ?_)
                  · skip
                    refine lv_iinc (v := nI (k_85 + 1)) (lv' := [(4, .int (nI (k_85 + 1))), (5, .int ((prcM pr (nI k_85) n) - (prcM pr b_89 n))), (3, .int (d_90 + 1)), (0, .ref (B + 220)), (1, .int x), (2, .int b_89)]) C.x C.b dX8_cure_111 hl (k := 5) rfl (nI_1 k_85) (by decide) rfl (fun ls hl => ?_)
                    refine lv_goto (tgt := 27) C.x C.b dX8_cure_114 (by decide) ?_
                    exact ih_87 (k_85 + 1) b_89 (d_90 + 1) g_176 _ _ _ (by omega) (by rw [cbM, ← hbb_91, if_neg (bz_1 ca_185), if_neg c_187, if_neg (fun q9 => q9.elim c_231 (fun q9 => absurd q9.2 (Int32.not_lt.mpr c_239)))]) (by rw [hmF, ← hcc_92, if_neg (bz_1 ca_185)]) hA hKp hS (lv_sub hl [3, 4, 5, 2, 0] rfl)
                  · skip
                    refine lv_iload C.x C.b dX8_cure_108 (lv_at hl 5 rfl) ?_
                    refine lv_istore_n (lv' := [(2, .int (nI k_85)), (5, .int ((prcM pr (nI k_85) n) - (prcM pr b_89 n))), (3, .int (d_90 + 1)), (0, .ref (B + 220)), (1, .int x), (4, .int (nI k_85))]) C.x C.b dX8_cure_110 rfl hl (by decide) rfl (fun ls hl => ?_)
                    refine lv_iinc (v := nI (k_85 + 1)) (lv' := [(4, .int (nI (k_85 + 1))), (2, .int (nI k_85)), (5, .int ((prcM pr (nI k_85) n) - (prcM pr b_89 n))), (3, .int (d_90 + 1)), (0, .ref (B + 220)), (1, .int x)]) C.x C.b dX8_cure_111 hl (k := 5) rfl (nI_1 k_85) (by decide) rfl (fun ls hl => ?_)
                    refine lv_goto (tgt := 27) C.x C.b dX8_cure_114 (by decide) ?_
                    exact ih_87 (k_85 + 1) (nI k_85) (d_90 + 1) g_176 _ _ _ (by omega) (by rw [cbM, ← hbb_91, if_neg (bz_1 ca_185), if_neg c_187, if_pos (Or.inr ⟨c_232, Int32.not_le.mp c_239⟩)]) (by rw [hmF, ← hcc_92, if_neg (bz_1 ca_185)]) hA hKp hS (lv_sub hl [4, 5, 1, 3, 0] rfl)
            · skip
              refine lv_iconst (v := (-1)) C.x C.b dX8_cure_66 (by decide) ?_
              refine lv_goto (tgt := 82) C.x C.b dX8_cure_67 (by decide) ?_
              refine lv_istore (lv' := [(5, .int (-1)), (3, .int (d_90 + 1)), (0, .ref (B + 220)), (1, .int x), (2, .int b_89), (4, .int (nI k_85))]) C.x C.b dX8_cure_82 hl (by decide) rfl (fun ls hl => ?_)
              refine lv_iload C.x C.b dX8_cure_84 (lv_at hl 0 rfl) ?_
              refine lv_if_lt (tgt := 108) C.x C.b dX8_cure_86 (by decide) (fun c_240 => ?_) (fun c_240 => absurd (by decide) c_240)
              refine lv_iload C.x C.b dX8_cure_108 (lv_at hl 5 rfl) ?_
              refine lv_istore_n (lv' := [(2, .int (nI k_85)), (5, .int (-1)), (3, .int (d_90 + 1)), (0, .ref (B + 220)), (1, .int x), (4, .int (nI k_85))]) C.x C.b dX8_cure_110 rfl hl (by decide) rfl (fun ls hl => ?_)
              refine lv_iinc (v := nI (k_85 + 1)) (lv' := [(4, .int (nI (k_85 + 1))), (2, .int (nI k_85)), (5, .int (-1)), (3, .int (d_90 + 1)), (0, .ref (B + 220)), (1, .int x)]) C.x C.b dX8_cure_111 hl (k := 5) rfl (nI_1 k_85) (by decide) rfl (fun ls hl => ?_)
              refine lv_goto (tgt := 27) C.x C.b dX8_cure_114 (by decide) ?_
              exact ih_87 (k_85 + 1) (nI k_85) (d_90 + 1) g_176 _ _ _ (by omega) (by rw [cbM, ← hbb_91, if_neg (bz_1 ca_185), if_pos c_187]) (by rw [hmF, ← hcc_92, if_neg (bz_1 ca_185)]) hA hKp hS (lv_sub hl [4, 5, 1, 3, 0] rfl)
          · skip
            have ca_185 : ¬ calmP o n w wi ey k_85 := fun q9 => sil_ne (X := fun R => obR o n w wi (nI k_85) (ey &&& 7) R) hk_182 hk_184 (q9 (K_181 / 16) (by omega) (K_181 % 16) (by omega))
            refine lv_if_ne (tgt := 57) C.x C.b dX8_cure_51 (by decide) (fun c_241 => absurd (by decide) c_241) (fun c_241 => ?_)
            refine lv_goto (tgt := 111) C.x C.b dX8_cure_54 (by decide) ?_
            refine lv_iinc (v := nI (k_85 + 1)) (lv' := [(4, .int (nI (k_85 + 1))), (0, .ref (B + 220)), (1, .int x), (2, .int b_89), (3, .int d_90)]) C.x C.b dX8_cure_111 hl (k := 4) rfl (nI_1 k_85) (by decide) rfl (fun ls hl => ?_)
            refine lv_goto (tgt := 27) C.x C.b dX8_cure_114 (by decide) ?_
            exact ih_87 (k_85 + 1) b_89 d_90 g_176 _ _ _ (by omega) (by rw [cbM, ← hbb_91, if_pos (bz_f ca_185)]) (by rw [hmF, ← hcc_92, if_pos (bz_f ca_185)]) hA hKp hS (lv_sub hl [1, 2, 3, 4, 0] rfl)
      exact lp_83 (2 ^ n) 0 (-1) 0 g_43 _ _ _ (by omega) rfl rfl hA hKp hS (lv_sub hl [3, 4, 2, 1, 0] rfl)
    · skip
      refine lv_iconst (v := (-1)) C.x C.b dX8_cure_14 (by decide) ?_
      exact r_iret C hr hlocks hS ⟨hKp, (cuM_out (Or.inr c_42)).symm⟩ dX8_cure_15
set_option maxHeartbeats 1000000 in
set_option maxRecDepth 100000 in
theorem x_X8_tellers (l : Launch) (D : va_G) (t : Gx) (B N : Nat) (g : Nat → va_E) (n : Nat) (ey wi ev : Int32) (o pr w : Nat → Int32)  (hN : 236 < N) (hM : Msh t B g n ey wi ev o pr w) (hn : n ≤ 8) (hO : okO o) (hwi : ¬ wi = 0)  : Ci l D t B N yX8_tellers cX8_tellers 4 (some .int) 5 120 g [.ref (B + 220)] (fun r g' => Mk t B g g' n ey wi ev o pr w ∧ r = teF (fun s => bz (calmP o n w wi ey s)) n n) := by
  refine Ci.start (by decide) (Nat.le_of_ble_eq_true rfl) ?_
  intro p e s m below meth c ls C hr hlocks hS hl
  replace C : Cx D t p s m [.ref (B + 220)].toArray c cX8_tellers 4 RX8 := C
  replace hl : lv_has ls 4 [(0, .ref (B + 220))] := hl
  have hKp : Mk t B g g n ey wi ev o pr w := Mk.rf hM
  refine lv_aload_n C.x C.b dX8_tellers_0 rfl (lv_at hl 0 rfl) ?_
  refine lv_iconst (v := 0) C.x C.b dX8_tellers_1 (by decide) ?_
  obtain ⟨td_1, po_2, ps_3, rg_4, mm_5, st_6, an_7, sp_8, pl_9, nu_10, co_11, sm_12, sw_13, sn_14, sq_15, cl_16, ⟨e_17, e_18, e_19, e_20⟩, ⟨e_21, e_22, e_23, e_24, e_25, e_26, e_27, e_28⟩, ⟨e_29, e_30, e_31, e_32⟩, e_33, hSt_34, h01_35, hPl_36, hSm_37⟩ := hKp.2
  replace e_17 : g 220 = .inr (8, [.int td_1, .int (nI n), .ref (B + 221), .ref (B + 222), .ref (B + 223), .int ey, .int wi, .int ev, .ref (B + 224), .ref (B + 225), .ref (B + 226), .ref (B + 227), .ref (B + 228), .ref (B + 229), .ref (B + 230), .ref (B + 231), .ref (B + 232), .ref (B + 233), .ref (B + 234), .ref (B + 235), .ref (B + 236), .int po_2, .int ps_3]) := e_17
  refine r_put ck8 flX8_66 C hS (by omega) e_17 (by decide) rfl rfl rfl (Nat.le_of_ble_eq_true rfl) dX8_tellers_2 (fun g_38 H locs e_39 o_40 hS => ?_)
  replace e_39 : g_38 220 = .inr (8, [.int 0, .int (nI n), .ref (B + 221), .ref (B + 222), .ref (B + 223), .int ey, .int wi, .int ev, .ref (B + 224), .ref (B + 225), .ref (B + 226), .ref (B + 227), .ref (B + 228), .ref (B + 229), .ref (B + 230), .ref (B + 231), .ref (B + 232), .ref (B + 233), .ref (B + 234), .ref (B + 235), .ref (B + 236), .int po_2, .int ps_3]) := e_39
  replace hKp : Mk t B g g_38 n ey wi ev o pr w := hKp.obj (td := 0) (po := po_2) (ps := ps_3) e_39 o_40
  refine lv_aload_n C.x C.b dX8_tellers_5 rfl (lv_at hl 0 rfl) ?_
  obtain ⟨td_44, po_45, ps_46, rg_47, mm_48, st_49, an_50, sp_51, pl_52, nu_53, co_54, sm_55, sw_56, sn_57, sq_58, cl_59, ⟨e_60, e_61, e_62, e_63⟩, ⟨e_64, e_65, e_66, e_67, e_68, e_69, e_70, e_71⟩, ⟨e_72, e_73, e_74, e_75⟩, e_76, hSt_77, h01_78, hPl_79, hSm_80⟩ := hKp.2
  replace e_60 : g_38 220 = .inr (8, [.int td_44, .int (nI n), .ref (B + 221), .ref (B + 222), .ref (B + 223), .int ey, .int wi, .int ev, .ref (B + 224), .ref (B + 225), .ref (B + 226), .ref (B + 227), .ref (B + 228), .ref (B + 229), .ref (B + 230), .ref (B + 231), .ref (B + 232), .ref (B + 233), .ref (B + 234), .ref (B + 235), .ref (B + 236), .int po_45, .int ps_46]) := e_60
  refine r_callVv (b := 220) (As := []) (rest := []) (ke_goAll l D t B N g_38 _ _ _ _ _ _ _ (by omega) hKp.2 (by omega) hO) mf_yX8_goAll mlX8_115 im_yX8_goAll se_yX8_goAll (by decide) C hS (by omega) e_60 (show vwCl[8]? = some _ from rfl) rfl rfl hl.1 rfl (Nat.le_of_ble_eq_true rfl) dX8_tellers_6 ⟨Nat.zero_le _, Nat.zero_le _⟩ (fun g_41 H locs w_42 hS => ?_)
  obtain ⟨w_42, hA⟩ := w_42
  replace hKp : Mk t B g g_41 n ey wi ev o pr w := hKp.tr w_42
  refine lv_iconst (v := 1) C.x C.b dX8_tellers_9 (by decide) ?_
  refine lv_aload_n C.x C.b dX8_tellers_10 rfl (lv_at hl 0 rfl) ?_
  obtain ⟨td_81, po_82, ps_83, rg_84, mm_85, st_86, an_87, sp_88, pl_89, nu_90, co_91, sm_92, sw_93, sn_94, sq_95, cl_96, ⟨e_97, e_98, e_99, e_100⟩, ⟨e_101, e_102, e_103, e_104, e_105, e_106, e_107, e_108⟩, ⟨e_109, e_110, e_111, e_112⟩, e_113, hSt_114, h01_115, hPl_116, hSm_117⟩ := hKp.2
  replace e_97 : g_41 220 = .inr (8, [.int td_81, .int (nI n), .ref (B + 221), .ref (B + 222), .ref (B + 223), .int ey, .int wi, .int ev, .ref (B + 224), .ref (B + 225), .ref (B + 226), .ref (B + 227), .ref (B + 228), .ref (B + 229), .ref (B + 230), .ref (B + 231), .ref (B + 232), .ref (B + 233), .ref (B + 234), .ref (B + 235), .ref (B + 236), .int po_82, .int ps_83]) := e_97
  refine r_get ck8 flX8_70 C hS (by omega) e_97 (by decide) rfl dX8_tellers_11 ?_
  refine lv_ishl C.x C.b dX8_tellers_14 ?_
  refine lv_iconst (v := 1) C.x C.b dX8_tellers_15 (by decide) ?_
  refine lv_isub C.x C.b dX8_tellers_16 ?_
  refine r_top (y := nI (2 ^ n - 1)) ((al1_all n (by omega)).1) ?_
  refine lv_istore_n (lv' := [(1, .int (nI (2 ^ n - 1))), (0, .ref (B + 220))]) C.x C.b dX8_tellers_17 rfl hl (by decide) rfl (fun ls hl => ?_)
  refine lv_iconst (v := 0) C.x C.b dX8_tellers_18 (by decide) ?_
  refine lv_istore_n (lv' := [(2, .int 0), (1, .int (nI (2 ^ n - 1))), (0, .ref (B + 220))]) C.x C.b dX8_tellers_19 rfl hl (by decide) rfl (fun ls hl => ?_)
  refine lv_iconst (v := 0) C.x C.b dX8_tellers_20 (by decide) ?_
  refine lv_istore_n (lv' := [(3, .int 0), (2, .int 0), (1, .int (nI (2 ^ n - 1))), (0, .ref (B + 220))]) C.x C.b dX8_tellers_21 rfl hl (by decide) rfl (fun ls hl => ?_)
  have lp_118 : ∀ (u_119 k_120 : Nat) (b_124 : Int32) (g_123 : Nat → va_E) (H : Heap) (locs : List Loc) (ls : Array Slot), k_120 + u_119 = n → (b_124 = teF (fun s => bz (calmP o n w wi ey s)) n k_120) → (AllAt t g_123 o n w) → Mk t B g g_123 n ey wi ev o pr w → St D B s.heap N g_123 H locs → lv_has ls 4 [(1, .int (nI (2 ^ n - 1))), (0, .ref (B + 220)), (2, .int b_124), (3, .int (nI k_120))] → W p l e (rmOf 5 120 0 0) s m [.ref (B + 220)].toArray below meth c H locs 0 0 (MQ below (qI D B N (fun r g' => Mk t B g g' n ey wi ev o pr w ∧ r = teF (fun s => bz (calmP o n w wi ey s)) n n)) [.ref (B + 220)].toArray s 0 0 (fun q => B ≤ q)) (F0 m 22 ls []) := by
    intro u_119
    induction u_119 with
    | zero =>
      intro k_120 b_124 g_123 H locs ls hk_121 hte_125 hA1_126 hKp hS hl
      obtain rfl : n = k_120 := by omega
      have hA := hA1_126
      refine lv_iload_n C.x C.b dX8_tellers_22 rfl (lv_at hl 3 rfl) ?_
      refine lv_aload_n C.x C.b dX8_tellers_23 rfl (lv_at hl 1 rfl) ?_
      obtain ⟨td_127, po_128, ps_129, rg_130, mm_131, st_132, an_133, sp_134, pl_135, nu_136, co_137, sm_138, sw_139, sn_140, sq_141, cl_142, ⟨e_143, e_144, e_145, e_146⟩, ⟨e_147, e_148, e_149, e_150, e_151, e_152, e_153, e_154⟩, ⟨e_155, e_156, e_157, e_158⟩, e_159, hSt_160, h01_161, hPl_162, hSm_163⟩ := hKp.2
      replace e_143 : g_123 220 = .inr (8, [.int td_127, .int (nI n), .ref (B + 221), .ref (B + 222), .ref (B + 223), .int ey, .int wi, .int ev, .ref (B + 224), .ref (B + 225), .ref (B + 226), .ref (B + 227), .ref (B + 228), .ref (B + 229), .ref (B + 230), .ref (B + 231), .ref (B + 232), .ref (B + 233), .ref (B + 234), .ref (B + 235), .ref (B + 236), .int po_128, .int ps_129]) := e_143
      refine r_get ck8 flX8_70 C hS (by omega) e_143 (by decide) rfl dX8_tellers_24 ?_
      refine lv_icmp_ge (tgt := 63) C.x C.b dX8_tellers_27 (by decide) (fun c_164 => ?_) (fun c_164 => absurd (nI_le (Nat.le_refl _) (by omega)) c_164)
      refine lv_iload_n C.x C.b dX8_tellers_63 rfl (lv_at hl 2 rfl) ?_
      exact r_iret C hr hlocks hS ⟨hKp, hte_125⟩ dX8_tellers_64
    | succ u_119 ih_122 =>
      intro k_120 b_124 g_123 H locs ls hk_121 hte_125 hA1_126 hKp hS hl
      have hA := hA1_126
      refine lv_iload_n C.x C.b dX8_tellers_22 rfl (lv_at hl 3 rfl) ?_
      refine lv_aload_n C.x C.b dX8_tellers_23 rfl (lv_at hl 1 rfl) ?_
      obtain ⟨td_165, po_166, ps_167, rg_168, mm_169, st_170, an_171, sp_172, pl_173, nu_174, co_175, sm_176, sw_177, sn_178, sq_179, cl_180, ⟨e_181, e_182, e_183, e_184⟩, ⟨e_185, e_186, e_187, e_188, e_189, e_190, e_191, e_192⟩, ⟨e_193, e_194, e_195, e_196⟩, e_197, hSt_198, h01_199, hPl_200, hSm_201⟩ := hKp.2
      replace e_181 : g_123 220 = .inr (8, [.int td_165, .int (nI n), .ref (B + 221), .ref (B + 222), .ref (B + 223), .int ey, .int wi, .int ev, .ref (B + 224), .ref (B + 225), .ref (B + 226), .ref (B + 227), .ref (B + 228), .ref (B + 229), .ref (B + 230), .ref (B + 231), .ref (B + 232), .ref (B + 233), .ref (B + 234), .ref (B + 235), .ref (B + 236), .int po_166, .int ps_167]) := e_181
      refine r_get ck8 flX8_70 C hS (by omega) e_181 (by decide) rfl dX8_tellers_24 ?_
      refine lv_icmp_ge (tgt := 63) C.x C.b dX8_tellers_27 (by decide) (fun c_202 => absurd c_202 (nI_ge (a := k_120) (b := n) (by omega) (by omega))) (fun c_202 => ?_)
      refine lv_aload_n C.x C.b dX8_tellers_30 rfl (lv_at hl 1 rfl) ?_
      refine lv_iload_n C.x C.b dX8_tellers_31 rfl (lv_at hl 0 rfl) ?_
      refine lv_iconst (v := 1) C.x C.b dX8_tellers_32 (by decide) ?_
      refine lv_iload_n C.x C.b dX8_tellers_33 rfl (lv_at hl 3 rfl) ?_
      refine lv_ishl C.x C.b dX8_tellers_34 ?_
      refine lv_iconst (v := (-1)) C.x C.b dX8_tellers_35 (by decide) ?_
      refine lv_ixor C.x C.b dX8_tellers_36 ?_
      refine lv_iand C.x C.b dX8_tellers_37 ?_
      refine r_top (y := nI (an (2 ^ n - 1) (((1 : Int32) <<< ((nI k_120) &&& 31)) ^^^ (-1)))) (an_eq _ _) ?_
      refine lv_aload_n C.x C.b dX8_tellers_38 rfl (lv_at hl 1 rfl) ?_
      refine r_get ck8 flX8_19 C hS (by omega) e_181 (by decide) rfl dX8_tellers_39 ?_
      refine lv_bipush (v := 7) C.x C.b dX8_tellers_42 (by decide) ?_
      refine lv_iand C.x C.b dX8_tellers_44 ?_
      refine r_callV (b := 220) (As := [.int (nI (an (2 ^ n - 1) (((1 : Int32) <<< ((nI k_120) &&& 31)) ^^^ (-1)))), .int (ey &&& 7)]) (rest := []) (ke_silent l D t B N g_123 _ _ _ _ _ _ _ (nI (an (2 ^ n - 1) (((1 : Int32) <<< ((nI k_120) &&& 31)) ^^^ (-1)))) (ey &&& 7) (by omega) hKp.2 hA hwi) mf_yX8_isSilent mlX8_127 im_yX8_isSilent se_yX8_isSilent (by decide) C hS (by omega) e_181 (show vwCl[8]? = some _ from rfl) rfl rfl hl.1 rfl (Nat.le_of_ble_eq_true rfl) dX8_tellers_45 ⟨Nat.zero_le _, Nat.zero_le _⟩ (fun r_205 g_203 H locs w_204 hS => ?_)
      obtain ⟨w_204, hA, al_206⟩ := w_204
      replace hKp : Mk t B g g_203 n ey wi ev o pr w := hKp.tr w_204
      rcases al_206 with ⟨rfl, q_207⟩ | ⟨rfl, K_208, hk_209, hk_210, -, hk_211, -⟩
      · skip
        have ca_212 : calmP o n w wi ey (an (2 ^ n - 1) (((1 : Int32) <<< ((nI k_120) &&& 31)) ^^^ (-1))) := sil_all (X := fun R => obR o n w wi (nI (an (2 ^ n - 1) (((1 : Int32) <<< ((nI k_120) &&& 31)) ^^^ (-1)))) (ey &&& 7) R) q_207
        refine lv_if_ne (tgt := 57) C.x C.b dX8_tellers_48 (by decide) (fun c_213 => ?_) (fun c_213 => absurd c_213 (by decide))
        refine lv_iinc (v := nI (k_120 + 1)) (lv' := [(3, .int (nI (k_120 + 1))), (1, .int (nI (2 ^ n - 1))), (0, .ref (B + 220)), (2, .int b_124)]) C.x C.b dX8_tellers_57 hl (k := 3) rfl (nI_1 k_120) (by decide) rfl (fun ls hl => ?_)
        refine lv_goto (tgt := 22) C.x C.b dX8_tellers_60 (by decide) ?_
        exact ih_122 (k_120 + 1) b_124 g_203 _ _ _ (by omega) (by rw [teF, ← hte_125, if_neg (bz_1 ca_212)]) hA hKp hS (lv_sub hl [1, 2, 3, 0] rfl)
      · skip
        have ca_212 : ¬ calmP o n w wi ey (an (2 ^ n - 1) (((1 : Int32) <<< ((nI k_120) &&& 31)) ^^^ (-1))) := fun q9 => sil_ne (X := fun R => obR o n w wi (nI (an (2 ^ n - 1) (((1 : Int32) <<< ((nI k_120) &&& 31)) ^^^ (-1)))) (ey &&& 7) R) hk_209 hk_211 (q9 (K_208 / 16) (by omega) (K_208 % 16) (by omega))
        refine lv_if_ne (tgt := 57) C.x C.b dX8_tellers_48 (by decide) (fun c_214 => absurd (by decide) c_214) (fun c_214 => ?_)
        refine lv_iload_n C.x C.b dX8_tellers_51 rfl (lv_at hl 2 rfl) ?_
        refine lv_iconst (v := 1) C.x C.b dX8_tellers_52 (by decide) ?_
        refine lv_iload_n C.x C.b dX8_tellers_53 rfl (lv_at hl 3 rfl) ?_
        refine lv_ishl C.x C.b dX8_tellers_54 ?_
        refine lv_ior C.x C.b dX8_tellers_55 ?_
        refine lv_istore_n (lv' := [(2, .int (b_124 ||| ((1 : Int32) <<< ((nI k_120) &&& 31)))), (1, .int (nI (2 ^ n - 1))), (0, .ref (B + 220)), (3, .int (nI k_120))]) C.x C.b dX8_tellers_56 rfl hl (by decide) rfl (fun ls hl => ?_)
        refine lv_iinc (v := nI (k_120 + 1)) (lv' := [(3, .int (nI (k_120 + 1))), (2, .int (b_124 ||| ((1 : Int32) <<< ((nI k_120) &&& 31)))), (1, .int (nI (2 ^ n - 1))), (0, .ref (B + 220))]) C.x C.b dX8_tellers_57 hl (k := 3) rfl (nI_1 k_120) (by decide) rfl (fun ls hl => ?_)
        refine lv_goto (tgt := 22) C.x C.b dX8_tellers_60 (by decide) ?_
        exact ih_122 (k_120 + 1) (b_124 ||| ((1 : Int32) <<< ((nI k_120) &&& 31))) g_203 _ _ _ (by omega) (by rw [teF, ← hte_125, if_pos (bz_f ca_212)]) hA hKp hS (lv_sub hl [2, 3, 1, 0] rfl)
  exact lp_118 n 0 0 g_41 _ _ _ (by omega) rfl hA hKp hS (lv_sub hl [2, 3, 1, 0] rfl)
