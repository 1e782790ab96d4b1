theorem Msh.clsE {t : Gx} {B : Nat} {g : Nat → va_E} {n : Nat} {ey wi ev : Int32} {o pr w : Nat → Int32} {cl : Nat → Nat} (h : Msh t B g n ey wi ev o pr w) : ∃ cv, g 236 = .inl (t.1, 16, .inl cv) ∧ ∀ b, b < 0 → cv b = nI (cl b) := by
  obtain ⟨td, po, ps, rg, mm, st, an, sp, pl, nu, co, sm, sw, sn, sq, c, -, -, -, e, -⟩ := h
  exact ⟨c, e, fun b hb => absurd hb (Nat.not_lt_zero _)⟩
theorem mrn_new {al : Nat → Nat → Prop} {cl mn : Nat → Nat} {K f : Nat} (h : ClsP al cl mn K) (hm : mn K = f) (hn : ∀ t, t < K → ¬ al t K) : ClsP al (va_up cl K f) (va_up mn (K + 1) (f + 1)) (K + 1) := by
  rw [← hm]
  exact h.new hn
theorem mrn_old {al : Nat → Nat → Prop} {cl mn : Nat → Nat} {K f t : Nat} (h : ClsP al cl mn K) (hm : mn K = f) (ht : t < K) (ha : al t K) : ClsP al (va_up cl K (cl t)) (va_up mn (K + 1) f) (K + 1) := by
  rw [← hm]
  exact h.old ht ha rfl
theorem cn_old {fn : Nat → Int32} {cl : Nat → Nat} {K c : Nat} (h : ∀ b, b < K → fn b = nI (cl b)) (hc : fn K = nI c) : ∀ b, b < K + 1 → fn b = nI (va_up cl K c b) := fun b hb => by
  by_cases e : b = K
  · subst e
    rw [va_up_s]
    exact hc
  · rw [va_up_n e]
    exact h b (by omega)
theorem no_s {P : Nat → Prop} {k : Nat} (h : ∀ t, t < k → ¬ P t) (hk : ¬ P k) : ∀ t, t < k + 1 → ¬ P t := fun t ht => by
  by_cases e : t = k
  · subst e
    exact hk
  · exact h t (by omega)

set_option maxHeartbeats 1000000 in
set_option maxRecDepth 100000 in
theorem x_X8_classesOf (l : Launch) (D : va_G) (t : Gx) (B N : Nat) (g : Nat → va_E) (n : Nat) (ey wi ev : Int32) (o pr w : Nat → Int32) (q : Nat) (hN : 236 < N) (hM : Msh t B g n ey wi ev o pr w) (hn : n ≤ 8) (hO : okO o) (hwi : ¬ wi = 0) (hq : q < 16) (hA : AllAt t g o n w) : Ci l D t B N yX8_classesOf cX8_classesOf 5 (some .int) 4 97 g [.ref (B + 220), .int (nI q)] (fun r g' => Mk t B g g' n ey wi ev o pr w ∧ AllAt t g' o n w ∧ ∃ cl mn, ClsP (fun b c => alikeR (obR o n w wi ev ey (16 * q + b)) (obR o n w wi ev ey (16 * q + c))) cl mn 16 ∧ r = nI (mn 16) ∧ ∃ cv, g' 236 = .inl (t.1, 16, .inl cv) ∧ ∀ b, b < 16 → cv b = nI (cl b)) := by
  refine Ci.start (by decide) (Nat.le_of_ble_eq_true rfl) ?_
  intro p e s m below meth c ls C hr hlocks hS hl
  replace C : Cx D t p s m [.ref (B + 220), .int (nI q)].toArray c cX8_classesOf 5 RX8 := C
  replace hl : lv_has ls 5 [(0, .ref (B + 220)), (1, .int (nI q))] := hl
  have hKp : Mk t B g g n ey wi ev o pr w := Mk.rf hM
  refine lv_iconst (v := 0) C.x C.b dX8_classesOf_0 (by decide) ?_
  refine lv_istore_n (lv' := [(2, .int 0), (0, .ref (B + 220)), (1, .int (nI q))]) C.x C.b dX8_classesOf_1 rfl hl (by decide) rfl (fun ls hl => ?_)
  refine lv_iconst (v := 0) C.x C.b dX8_classesOf_2 (by decide) ?_
  refine lv_istore_n (lv' := [(3, .int 0), (2, .int 0), (0, .ref (B + 220)), (1, .int (nI q))]) C.x C.b dX8_classesOf_3 rfl hl (by decide) rfl (fun ls hl => ?_)
  have lp_1 : ∀ (u_2 k_3 : Nat) (f_7 : Nat) (cl_8 : Nat → Nat) (mn_9 : Nat → Nat) (g_6 : Nat → va_E) (H : Heap) (locs : List Loc) (ls : Array Slot), k_3 + u_2 = 16 → (f_7 ≤ k_3) → (mn_9 k_3 = f_7) → (ClsP (fun b c => alikeR (obR o n w wi ev ey (16 * q + b)) (obR o n w wi ev ey (16 * q + c))) cl_8 mn_9 k_3) → (∃ cv, g_6 236 = .inl (t.1, 16, .inl cv) ∧ ∀ b, b < k_3 → cv b = nI (cl_8 b)) → (AllAt t g_6 o n w) → Mk t B g g_6 n ey wi ev o pr w → St D B s.heap N g_6 H locs → lv_has ls 5 [(0, .ref (B + 220)), (1, .int (nI q)), (2, .int (nI f_7)), (3, .int (nI k_3))] → W p l e (rmOf 4 97 0 0) s m [.ref (B + 220), .int (nI q)].toArray below meth c H locs 0 0 (MQ below (qI D B N (fun r g' => Mk t B g g' n ey wi ev o pr w ∧ AllAt t g' o n w ∧ ∃ cl mn, ClsP (fun b c => alikeR (obR o n w wi ev ey (16 * q + b)) (obR o n w wi ev ey (16 * q + c))) cl mn 16 ∧ r = nI (mn 16) ∧ ∃ cv, g' 236 = .inl (t.1, 16, .inl cv) ∧ ∀ b, b < 16 → cv b = nI (cl b))) [.ref (B + 220), .int (nI q)].toArray s 0 0 (fun q => B ≤ q)) (F0 m 4 ls []) := by
    intro u_2
    induction u_2 with
    | zero =>
      intro k_3 f_7 cl_8 mn_9 g_6 H locs ls hk_4 hf_10 hm_11 hcp_12 hcv_13 hA1_14 hKp hS hl
      obtain rfl : 16 = k_3 := by omega
      have hA := hA1_14
      refine lv_iload_n C.x C.b dX8_classesOf_4 rfl (lv_at hl 3 rfl) ?_
      refine lv_bipush (v := 16) C.x C.b dX8_classesOf_5 (by decide) ?_
      refine lv_icmp_ge (tgt := 114) C.x C.b dX8_classesOf_7 (by decide) (fun c_15 => ?_) (fun c_15 => absurd (by decide) c_15)
      refine lv_iload_n C.x C.b dX8_classesOf_114 rfl (lv_at hl 2 rfl) ?_
      exact r_iret C hr hlocks hS ⟨hKp, hA, cl_8, mn_9, hcp_12, by rw [hm_11], hcv_13⟩ dX8_classesOf_115
    | succ u_2 ih_5 =>
      intro k_3 f_7 cl_8 mn_9 g_6 H locs ls hk_4 hf_10 hm_11 hcp_12 hcv_13 hA1_14 hKp hS hl
      have hA := hA1_14
      obtain ⟨cv_16, e_17, hcv_18⟩ := hcv_13
      refine lv_iload_n C.x C.b dX8_classesOf_4 rfl (lv_at hl 3 rfl) ?_
      refine lv_bipush (v := 16) C.x C.b dX8_classesOf_5 (by decide) ?_
      refine lv_icmp_ge (tgt := 114) C.x C.b dX8_classesOf_7 (by decide) (fun c_19 => absurd c_19 (nI_ge (a := k_3) (b := 16) (by omega) (by decide))) (fun c_19 => ?_)
      refine lv_aload_n C.x C.b dX8_classesOf_10 rfl (lv_at hl 0 rfl) ?_
      obtain ⟨td_20, po_21, ps_22, rg_23, mm_24, st_25, an_26, sp_27, pl_28, nu_29, co_30, sm_31, sw_32, sn_33, sq_34, cl_35, ⟨e_36, e_37, e_38, e_39⟩, ⟨e_40, e_41, e_42, e_43, e_44, e_45, e_46, e_47⟩, ⟨e_48, e_49, e_50, e_51⟩, e_52, hSt_53, h01_54, hPl_55, hSm_56⟩ := hKp.2
      replace e_36 : g_6 220 = .inr (8, [.int td_20, .int (nI n), .ref (B + 221), .ref (B + 222), .ref (B + 223), .int ey, .int wi, .int ev, .ref (B + 224), .ref (B + 225), .ref (B + 226), .ref (B + 227), .ref (B + 228), .ref (B + 229), .ref (B + 230), .ref (B + 231), .ref (B + 232), .ref (B + 233), .ref (B + 234), .ref (B + 235), .ref (B + 236), .int po_21, .int ps_22]) := e_36
      refine r_get ck8 flX8_63 C hS (by omega) e_36 (by decide) rfl dX8_classesOf_11 ?_
      refine lv_iload_n C.x C.b dX8_classesOf_14 rfl (lv_at hl 3 rfl) ?_
      refine lv_iconst (v := (-1)) C.x C.b dX8_classesOf_15 (by decide) ?_
      refine r_iastN k_3 rfl (by omega) (by decide) C hS (by omega) e_17 dX8_classesOf_16 (fun g_57 H locs e_58 o_59 hS => ?_)
      replace e_58 : g_57 236 = .inl (t.1, 16, .inl (upd cv_16 k_3 (-1))) := e_58
      replace hKp : Mk t B g g_57 n ey wi ev o pr w := hKp.cls e_58 o_59
      replace hA := hA.keep (g' := g_57) (fun j h1 h2 => o_59 j (by omega))
      refine lv_iconst (v := 0) C.x C.b dX8_classesOf_17 (by decide) ?_
      refine lv_istore (lv' := [(4, .int 0), (0, .ref (B + 220)), (1, .int (nI q)), (2, .int (nI f_7)), (3, .int (nI k_3))]) C.x C.b dX8_classesOf_18 hl (by decide) rfl (fun ls hl => ?_)
      have lp_60 : ∀ (u_61 k_62 : Nat) (g_65 : Nat → va_E) (H : Heap) (locs : List Loc) (ls : Array Slot), k_62 + u_61 = k_3 → (∃ cv, g_65 236 = .inl (t.1, 16, .inl cv) ∧ (∀ b, b < k_3 → cv b = nI (cl_8 b)) ∧ ((cv k_3 = -1 ∧ ∀ t, t < k_62 → ¬ alikeR (obR o n w wi ev ey (16 * q + t)) (obR o n w wi ev ey (16 * q + k_3))) ∨ ∃ t, t < k_62 ∧ alikeR (obR o n w wi ev ey (16 * q + t)) (obR o n w wi ev ey (16 * q + k_3)) ∧ cv k_3 = nI (cl_8 t))) → (AllAt t g_65 o n w) → Mk t B g g_65 n ey wi ev o pr w → St D B s.heap N g_65 H locs → lv_has ls 5 [(0, .ref (B + 220)), (1, .int (nI q)), (2, .int (nI f_7)), (3, .int (nI k_3)), (4, .int (nI k_62))] → W p l e (rmOf 4 97 0 0) s m [.ref (B + 220), .int (nI q)].toArray below meth c H locs 0 0 (MQ below (qI D B N (fun r g' => Mk t B g g' n ey wi ev o pr w ∧ AllAt t g' o n w ∧ ∃ cl mn, ClsP (fun b c => alikeR (obR o n w wi ev ey (16 * q + b)) (obR o n w wi ev ey (16 * q + c))) cl mn 16 ∧ r = nI (mn 16) ∧ ∃ cv, g' 236 = .inl (t.1, 16, .inl cv) ∧ ∀ b, b < 16 → cv b = nI (cl b))) [.ref (B + 220), .int (nI q)].toArray s 0 0 (fun q => B ≤ q)) (F0 m 20 ls []) := by
        intro u_61
        induction u_61 with
        | zero =>
          intro k_62 g_65 H locs ls hk_63 hin_66 hA2_67 hKp hS hl
          obtain rfl : k_3 = k_62 := by omega
          have hA := hA2_67
          obtain ⟨cv_68, e_69, hcv_70, alt_71⟩ := hin_66
          refine lv_iload C.x C.b dX8_classesOf_20 (lv_at hl 4 rfl) ?_
          refine lv_iload_n C.x C.b dX8_classesOf_22 rfl (lv_at hl 3 rfl) ?_
          refine lv_icmp_ge (tgt := 84) C.x C.b dX8_classesOf_23 (by decide) (fun c_72 => ?_) (fun c_72 => absurd (nI_le (Nat.le_refl _) (by omega)) c_72)
          rcases alt_71 with ⟨h_73, h_74⟩ | ⟨t_75, ht_76, ha_77, hc_78⟩
          · skip
            refine lv_aload_n C.x C.b dX8_classesOf_84 rfl (lv_at hl 0 rfl) ?_
            obtain ⟨td_79, po_80, ps_81, rg_82, mm_83, st_84, an_85, sp_86, pl_87, nu_88, co_89, sm_90, sw_91, sn_92, sq_93, cl_94, ⟨e_95, e_96, e_97, e_98⟩, ⟨e_99, e_100, e_101, e_102, e_103, e_104, e_105, e_106⟩, ⟨e_107, e_108, e_109, e_110⟩, e_111, hSt_112, h01_113, hPl_114, hSm_115⟩ := hKp.2
            replace e_95 : g_65 220 = .inr (8, [.int td_79, .int (nI n), .ref (B + 221), .ref (B + 222), .ref (B + 223), .int ey, .int wi, .int ev, .ref (B + 224), .ref (B + 225), .ref (B + 226), .ref (B + 227), .ref (B + 228), .ref (B + 229), .ref (B + 230), .ref (B + 231), .ref (B + 232), .ref (B + 233), .ref (B + 234), .ref (B + 235), .ref (B + 236), .int po_80, .int ps_81]) := e_95
            refine r_get ck8 flX8_63 C hS (by omega) e_95 (by decide) rfl dX8_classesOf_85 ?_
            refine lv_iload_n C.x C.b dX8_classesOf_88 rfl (lv_at hl 3 rfl) ?_
            refine r_ialdN k_3 rfl (by omega) (by decide) C hS (by omega) e_69 dX8_classesOf_89 ?_
            refine lv_iconst (v := (-1)) C.x C.b dX8_classesOf_90 (by decide) ?_
            refine lv_icmp_eq (tgt := 97) C.x C.b dX8_classesOf_91 (by decide) (fun c_116 => ?_) (fun c_116 => absurd h_73 c_116)
            refine lv_aload_n C.x C.b dX8_classesOf_97 rfl (lv_at hl 0 rfl) ?_
            refine r_get ck8 flX8_63 C hS (by omega) e_95 (by decide) rfl dX8_classesOf_98 ?_
            refine lv_iload_n C.x C.b dX8_classesOf_101 rfl (lv_at hl 3 rfl) ?_
            refine lv_iload_n C.x C.b dX8_classesOf_102 rfl (lv_at hl 2 rfl) ?_
            refine r_iastN k_3 rfl (by omega) (by decide) C hS (by omega) e_69 dX8_classesOf_103 (fun g_117 H locs e_118 o_119 hS => ?_)
            replace e_118 : g_117 236 = .inl (t.1, 16, .inl (upd cv_68 k_3 (nI f_7))) := e_118
            replace hKp : Mk t B g g_117 n ey wi ev o pr w := hKp.cls e_118 o_119
            replace hA := hA.keep (g' := g_117) (fun j h1 h2 => o_119 j (by omega))
            refine lv_iload_n C.x C.b dX8_classesOf_104 rfl (lv_at hl 2 rfl) ?_
            refine lv_iconst (v := 1) C.x C.b dX8_classesOf_105 (by decide) ?_
            refine lv_iadd C.x C.b dX8_classesOf_106 ?_
            refine r_top (y := nI (f_7 + 1)) (nI_1 _) ?_
            refine lv_istore_n (lv' := [(2, .int (nI (f_7 + 1))), (0, .ref (B + 220)), (1, .int (nI q)), (3, .int (nI k_3)), (4, .int (nI k_3))]) C.x C.b dX8_classesOf_107 rfl hl (by decide) rfl (fun ls hl => ?_)
            refine lv_iinc (v := nI (k_3 + 1)) (lv' := [(3, .int (nI (k_3 + 1))), (2, .int (nI (f_7 + 1))), (0, .ref (B + 220)), (1, .int (nI q)), (4, .int (nI k_3))]) C.x C.b dX8_classesOf_108 hl (k := 3) rfl (nI_1 k_3) (by decide) rfl (fun ls hl => ?_)
            refine lv_goto (tgt := 4) C.x C.b dX8_classesOf_111 (by decide) ?_
            exact ih_5 (k_3 + 1) (f_7 + 1) (va_up cl_8 k_3 f_7) (va_up mn_9 (k_3 + 1) (f_7 + 1)) g_117 _ _ _ (by omega) (by omega) va_up_s (mrn_new hcp_12 hm_11 h_74) ⟨_, e_118, lrn_cn hcv_70⟩ hA hKp hS (lv_sub hl [2, 3, 1, 0] rfl)
          · skip
            refine lv_aload_n C.x C.b dX8_classesOf_84 rfl (lv_at hl 0 rfl) ?_
            obtain ⟨td_120, po_121, ps_122, rg_123, mm_124, st_125, an_126, sp_127, pl_128, nu_129, co_130, sm_131, sw_132, sn_133, sq_134, cl_135, ⟨e_136, e_137, e_138, e_139⟩, ⟨e_140, e_141, e_142, e_143, e_144, e_145, e_146, e_147⟩, ⟨e_148, e_149, e_150, e_151⟩, e_152, hSt_153, h01_154, hPl_155, hSm_156⟩ := hKp.2
            replace e_136 : g_65 220 = .inr (8, [.int td_120, .int (nI n), .ref (B + 221), .ref (B + 222), .ref (B + 223), .int ey, .int wi, .int ev, .ref (B + 224), .ref (B + 225), .ref (B + 226), .ref (B + 227), .ref (B + 228), .ref (B + 229), .ref (B + 230), .ref (B + 231), .ref (B + 232), .ref (B + 233), .ref (B + 234), .ref (B + 235), .ref (B + 236), .int po_121, .int ps_122]) := e_136
            refine r_get ck8 flX8_63 C hS (by omega) e_136 (by decide) rfl dX8_classesOf_85 ?_
            refine lv_iload_n C.x C.b dX8_classesOf_88 rfl (lv_at hl 3 rfl) ?_
            refine r_ialdN k_3 rfl (by omega) (by decide) C hS (by omega) e_69 dX8_classesOf_89 ?_
            refine lv_iconst (v := (-1)) C.x C.b dX8_classesOf_90 (by decide) ?_
            refine lv_icmp_eq (tgt := 97) C.x C.b dX8_classesOf_91 (by decide) (fun c_157 => absurd c_157 (fun q => nI_nm1 (by have := ClsP.lt hcp_12 (b := t_75) (by omega) (Nat.le_refl _); have := hcp_12.le _ (Nat.le_refl _); omega) (hc_78.symm.trans q))) (fun c_157 => ?_)
            refine lv_goto (tgt := 108) C.x C.b dX8_classesOf_94 (by decide) ?_
            refine lv_iinc (v := nI (k_3 + 1)) (lv' := [(3, .int (nI (k_3 + 1))), (0, .ref (B + 220)), (1, .int (nI q)), (2, .int (nI f_7)), (4, .int (nI k_3))]) C.x C.b dX8_classesOf_108 hl (k := 3) rfl (nI_1 k_3) (by decide) rfl (fun ls hl => ?_)
            refine lv_goto (tgt := 4) C.x C.b dX8_classesOf_111 (by decide) ?_
            exact ih_5 (k_3 + 1) f_7 (va_up cl_8 k_3 (cl_8 t_75)) (va_up mn_9 (k_3 + 1) f_7) g_65 _ _ _ (by omega) (by omega) va_up_s (mrn_old (t := t_75) hcp_12 hm_11 (by omega) ha_77) ⟨_, e_69, cn_old hcv_70 hc_78⟩ hA hKp hS (lv_sub hl [1, 2, 3, 0] rfl)
        | succ u_61 ih_64 =>
          intro k_62 g_65 H locs ls hk_63 hin_66 hA2_67 hKp hS hl
          have hA := hA2_67
          obtain ⟨cv_158, e_159, hcv_160, alt_161⟩ := hin_66
          refine lv_iload C.x C.b dX8_classesOf_20 (lv_at hl 4 rfl) ?_
          refine lv_iload_n C.x C.b dX8_classesOf_22 rfl (lv_at hl 3 rfl) ?_
          refine lv_icmp_ge (tgt := 84) C.x C.b dX8_classesOf_23 (by decide) (fun c_162 => absurd c_162 (nI_ge (a := k_62) (b := k_3) (by omega) (by omega))) (fun c_162 => ?_)
          rcases alt_161 with ⟨h_163, h_164⟩ | ⟨t_165, ht_166, ha_167, hc_168⟩
          · skip
            refine lv_aload_n C.x C.b dX8_classesOf_26 rfl (lv_at hl 0 rfl) ?_
            obtain ⟨td_169, po_170, ps_171, rg_172, mm_173, st_174, an_175, sp_176, pl_177, nu_178, co_179, sm_180, sw_181, sn_182, sq_183, cl_184, ⟨e_185, e_186, e_187, e_188⟩, ⟨e_189, e_190, e_191, e_192, e_193, e_194, e_195, e_196⟩, ⟨e_197, e_198, e_199, e_200⟩, e_201, hSt_202, h01_203, hPl_204, hSm_205⟩ := hKp.2
            replace e_185 : g_65 220 = .inr (8, [.int td_169, .int (nI n), .ref (B + 221), .ref (B + 222), .ref (B + 223), .int ey, .int wi, .int ev, .ref (B + 224), .ref (B + 225), .ref (B + 226), .ref (B + 227), .ref (B + 228), .ref (B + 229), .ref (B + 230), .ref (B + 231), .ref (B + 232), .ref (B + 233), .ref (B + 234), .ref (B + 235), .ref (B + 236), .int po_170, .int ps_171]) := e_185
            refine r_get ck8 flX8_63 C hS (by omega) e_185 (by decide) rfl dX8_classesOf_27 ?_
            refine lv_iload_n C.x C.b dX8_classesOf_30 rfl (lv_at hl 3 rfl) ?_
            refine r_ialdN k_3 rfl (by omega) (by decide) C hS (by omega) e_159 dX8_classesOf_31 ?_
            refine lv_iconst (v := (-1)) C.x C.b dX8_classesOf_32 (by decide) ?_
            refine lv_icmp_ne (tgt := 84) C.x C.b dX8_classesOf_33 (by decide) (fun c_206 => absurd h_163 c_206) (fun c_206 => ?_)
            refine lv_aload_n C.x C.b dX8_classesOf_36 rfl (lv_at hl 0 rfl) ?_
            refine lv_bipush (v := 16) C.x C.b dX8_classesOf_37 (by decide) ?_
            refine lv_iload_n C.x C.b dX8_classesOf_39 rfl (lv_at hl 1 rfl) ?_
            refine lv_imul C.x C.b dX8_classesOf_40 ?_
            refine r_top (y := nI (16 * q)) (pk_mul 16 q) ?_
            refine lv_iload C.x C.b dX8_classesOf_41 (lv_at hl 4 rfl) ?_
            refine lv_iadd C.x C.b dX8_classesOf_43 ?_
            refine r_top (y := nI ((16 * q) + k_62)) (nI_add (16 * q) k_62) ?_
            refine lv_bipush (v := 16) C.x C.b dX8_classesOf_44 (by decide) ?_
            refine lv_iload_n C.x C.b dX8_classesOf_46 rfl (lv_at hl 1 rfl) ?_
            refine lv_imul C.x C.b dX8_classesOf_47 ?_
            refine r_top (y := nI (16 * q)) (pk_mul 16 q) ?_
            refine lv_iload_n C.x C.b dX8_classesOf_48 rfl (lv_at hl 3 rfl) ?_
            refine lv_iadd C.x C.b dX8_classesOf_49 ?_
            refine r_top (y := nI ((16 * q) + k_3)) (nI_add (16 * q) k_3) ?_
            refine lv_aload_n C.x C.b dX8_classesOf_50 rfl (lv_at hl 0 rfl) ?_
            refine r_get ck8 flX8_80 C hS (by omega) e_185 (by decide) rfl dX8_classesOf_51 ?_
            refine lv_aload_n C.x C.b dX8_classesOf_54 rfl (lv_at hl 0 rfl) ?_
            refine r_get ck8 flX8_19 C hS (by omega) e_185 (by decide) rfl dX8_classesOf_55 ?_
            refine r_callV (b := 220) (As := [.int (nI ((16 * q) + k_62)), .int (nI ((16 * q) + k_3)), .int ev, .int ey]) (rest := []) (ke_unlike l D t B N g_65 _ _ _ _ _ _ _ ((16 * q) + k_62) ((16 * q) + k_3) ev ey (by omega) hKp.2 hA (by omega) (by omega) hwi) mf_yX8_unlike mlX8_111 im_yX8_unlike se_yX8_unlike (by decide) C hS (by omega) e_185 (show vwCl[8]? = some _ from rfl) rfl rfl hl.1 rfl (Nat.le_of_ble_eq_true rfl) dX8_classesOf_58 ⟨Nat.zero_le _, Nat.zero_le _⟩ (fun r_209 g_207 H locs w_208 hS => ?_)
            obtain ⟨w_208, fo_210, tw_211, hf_212⟩ := w_208
            have ia_213 := foS_no obR_le fo_210
            replace hKp : Mk t B g g_207 n ey wi ev o pr w := hKp.tr w_208
            replace hA := hA.keep (g' := g_207) (fun j h1 h2 => hf_212 j (by omega))
            have e_214 : g_207 236 = .inl (t.1, 16, .inl cv_158) := (hf_212 _ (by omega)).trans e_159
            refine lv_iconst (v := (-1)) C.x C.b dX8_classesOf_61 (by decide) ?_
            refine lv_icmp_ne (tgt := 78) C.x C.b dX8_classesOf_62 (by decide) (fun c_215 => ?_) (fun c_215 => ?_)
            · skip
              refine lv_iinc (v := nI (k_62 + 1)) (lv' := [(4, .int (nI (k_62 + 1))), (0, .ref (B + 220)), (1, .int (nI q)), (2, .int (nI f_7)), (3, .int (nI k_3))]) C.x C.b dX8_classesOf_78 hl (k := 4) rfl (nI_1 k_62) (by decide) rfl (fun ls hl => ?_)
              refine lv_goto (tgt := 20) C.x C.b dX8_classesOf_81 (by decide) ?_
              exact ih_64 (k_62 + 1) g_207 _ _ _ (by omega) ⟨_, e_214, hcv_160, Or.inl ⟨h_163, no_s h_164 (fun q => c_215 (ia_213.mpr q))⟩⟩ hA hKp hS (lv_sub hl [1, 2, 3, 4, 0] rfl)
            · skip
              refine lv_aload_n C.x C.b dX8_classesOf_65 rfl (lv_at hl 0 rfl) ?_
              obtain ⟨td_216, po_217, ps_218, rg_219, mm_220, st_221, an_222, sp_223, pl_224, nu_225, co_226, sm_227, sw_228, sn_229, sq_230, cl_231, ⟨e_232, e_233, e_234, e_235⟩, ⟨e_236, e_237, e_238, e_239, e_240, e_241, e_242, e_243⟩, ⟨e_244, e_245, e_246, e_247⟩, e_248, hSt_249, h01_250, hPl_251, hSm_252⟩ := hKp.2
              replace e_232 : g_207 220 = .inr (8, [.int td_216, .int (nI n), .ref (B + 221), .ref (B + 222), .ref (B + 223), .int ey, .int wi, .int ev, .ref (B + 224), .ref (B + 225), .ref (B + 226), .ref (B + 227), .ref (B + 228), .ref (B + 229), .ref (B + 230), .ref (B + 231), .ref (B + 232), .ref (B + 233), .ref (B + 234), .ref (B + 235), .ref (B + 236), .int po_217, .int ps_218]) := e_232
              refine r_get ck8 flX8_63 C hS (by omega) e_232 (by decide) rfl dX8_classesOf_66 ?_
              refine lv_iload_n C.x C.b dX8_classesOf_69 rfl (lv_at hl 3 rfl) ?_
              refine lv_aload_n C.x C.b dX8_classesOf_70 rfl (lv_at hl 0 rfl) ?_
              refine r_get ck8 flX8_63 C hS (by omega) e_232 (by decide) rfl dX8_classesOf_71 ?_
              refine lv_iload C.x C.b dX8_classesOf_74 (lv_at hl 4 rfl) ?_
              refine r_ialdN k_62 rfl (by omega) (by decide) C hS (by omega) e_214 dX8_classesOf_76 ?_
              refine r_iastN k_3 rfl (by omega) (by decide) C hS (by omega) e_214 dX8_classesOf_77 (fun g_253 H locs e_254 o_255 hS => ?_)
              replace e_254 : g_253 236 = .inl (t.1, 16, .inl (upd cv_158 k_3 (cv_158 k_62))) := e_254
              replace hKp : Mk t B g g_253 n ey wi ev o pr w := hKp.cls e_254 o_255
              replace hA := hA.keep (g' := g_253) (fun j h1 h2 => o_255 j (by omega))
              refine lv_iinc (v := nI (k_62 + 1)) (lv' := [(4, .int (nI (k_62 + 1))), (0, .ref (B + 220)), (1, .int (nI q)), (2, .int (nI f_7)), (3, .int (nI k_3))]) C.x C.b dX8_classesOf_78 hl (k := 4) rfl (nI_1 k_62) (by decide) rfl (fun ls hl => ?_)
              refine lv_goto (tgt := 20) C.x C.b dX8_classesOf_81 (by decide) ?_
              exact ih_64 (k_62 + 1) g_253 _ _ _ (by omega) ⟨_, e_254, fun b hb => (up_n (by omega)).trans (hcv_160 b hb), Or.inr ⟨k_62, by omega, ia_213.mp c_215, up_s.trans (hcv_160 k_62 (by omega))⟩⟩ hA hKp hS (lv_sub hl [1, 2, 3, 4, 0] rfl)
          · skip
            refine lv_aload_n C.x C.b dX8_classesOf_26 rfl (lv_at hl 0 rfl) ?_
            obtain ⟨td_256, po_257, ps_258, rg_259, mm_260, st_261, an_262, sp_263, pl_264, nu_265, co_266, sm_267, sw_268, sn_269, sq_270, cl_271, ⟨e_272, e_273, e_274, e_275⟩, ⟨e_276, e_277, e_278, e_279, e_280, e_281, e_282, e_283⟩, ⟨e_284, e_285, e_286, e_287⟩, e_288, hSt_289, h01_290, hPl_291, hSm_292⟩ := hKp.2
            replace e_272 : g_65 220 = .inr (8, [.int td_256, .int (nI n), .ref (B + 221), .ref (B + 222), .ref (B + 223), .int ey, .int wi, .int ev, .ref (B + 224), .ref (B + 225), .ref (B + 226), .ref (B + 227), .ref (B + 228), .ref (B + 229), .ref (B + 230), .ref (B + 231), .ref (B + 232), .ref (B + 233), .ref (B + 234), .ref (B + 235), .ref (B + 236), .int po_257, .int ps_258]) := e_272
            refine r_get ck8 flX8_63 C hS (by omega) e_272 (by decide) rfl dX8_classesOf_27 ?_
            refine lv_iload_n C.x C.b dX8_classesOf_30 rfl (lv_at hl 3 rfl) ?_
            refine r_ialdN k_3 rfl (by omega) (by decide) C hS (by omega) e_159 dX8_classesOf_31 ?_
            refine lv_iconst (v := (-1)) C.x C.b dX8_classesOf_32 (by decide) ?_
            refine lv_icmp_ne (tgt := 84) C.x C.b dX8_classesOf_33 (by decide) (fun c_293 => ?_) (fun c_293 => absurd c_293 (fun q => nI_nm1 (by have := ClsP.lt hcp_12 (b := t_165) (by omega) (Nat.le_refl _); have := hcp_12.le _ (Nat.le_refl _); omega) (hc_168.symm.trans q)))
            refine lv_aload_n C.x C.b dX8_classesOf_84 rfl (lv_at hl 0 rfl) ?_
            refine r_get ck8 flX8_63 C hS (by omega) e_272 (by decide) rfl dX8_classesOf_85 ?_
            refine lv_iload_n C.x C.b dX8_classesOf_88 rfl (lv_at hl 3 rfl) ?_
            refine r_ialdN k_3 rfl (by omega) (by decide) C hS (by omega) e_159 dX8_classesOf_89 ?_
            refine lv_iconst (v := (-1)) C.x C.b dX8_classesOf_90 (by decide) ?_
            refine lv_icmp_eq (tgt := 97) C.x C.b dX8_classesOf_91 (by decide) (fun c_294 => absurd c_294 (fun q => nI_nm1 (by have := ClsP.lt hcp_12 (b := t_165) (by omega) (Nat.le_refl _); have := hcp_12.le _ (Nat.le_refl _); omega) (hc_168.symm.trans q))) (fun c_294 => ?_)
            refine lv_goto (tgt := 108) C.x C.b dX8_classesOf_94 (by decide) ?_
            refine lv_iinc (v := nI (k_3 + 1)) (lv' := [(3, .int (nI (k_3 + 1))), (0, .ref (B + 220)), (1, .int (nI q)), (2, .int (nI f_7)), (4, .int (nI k_62))]) C.x C.b dX8_classesOf_108 hl (k := 3) rfl (nI_1 k_3) (by decide) rfl (fun ls hl => ?_)
            refine lv_goto (tgt := 4) C.x C.b dX8_classesOf_111 (by decide) ?_
            exact ih_5 (k_3 + 1) f_7 (va_up cl_8 k_3 (cl_8 t_165)) (va_up mn_9 (k_3 + 1) f_7) g_65 _ _ _ (by omega) (by omega) va_up_s (mrn_old (t := t_165) hcp_12 hm_11 (by omega) ha_167) ⟨_, e_159, cn_old hcv_160 hc_168⟩ hA hKp hS (lv_sub hl [1, 2, 3, 0] rfl)
      exact lp_60 k_3 0 g_57 _ _ _ (by omega) ⟨_, e_58, fun b hb => (up_n (by omega)).trans (hcv_18 b hb), Or.inl ⟨up_s, fun t h => absurd h (Nat.not_lt_zero _)⟩⟩ hA hKp hS (lv_sub hl [1, 2, 3, 4, 0] rfl)
  exact lp_1 16 0 0 (fun _ => 0) (fun _ => 0) g _ _ _ (by omega) (Nat.le_refl _) rfl ⟨rfl, fun b hb => absurd hb (Nat.not_lt_zero _)⟩ (hKp.2.clsE) hA hKp hS (lv_sub hl [2, 3, 1, 0] rfl)
set_option maxHeartbeats 1000000 in
set_option maxRecDepth 100000 in
theorem x_X8_classes (l : Launch) (D : va_G) (t : Gx) (B N : Nat) (g : Nat → va_E) (n : Nat) (ey wi ev : Int32) (o pr w : Nat → Int32) (x : Int32) (hN : 236 < N) (hM : Msh t B g n ey wi ev o pr w) (hn : n ≤ 8) (hO : okO o) (hwi : ¬ wi = 0)  : Ci l D t B N yX8_classes cX8_classes 2 (some .int) 5 121 g [.ref (B + 220), .int x] (fun r g' => Mk t B g g' n ey wi ev o pr w ∧ clsA (fun a b => obR o n w wi ev ey (16 * a + b)) x r) := by
  refine Ci.start (by decide) (Nat.le_of_ble_eq_true rfl) ?_
  intro p e s m below meth c ls C hr hlocks hS hl
  replace C : Cx D t p s m [.ref (B + 220), .int x].toArray c cX8_classes 2 RX8 := C
  replace hl : lv_has ls 2 [(0, .ref (B + 220)), (1, .int x)] := hl
  have hKp : Mk t B g g n ey wi ev o pr w := Mk.rf hM
  refine lv_aload_n C.x C.b dX8_classes_0 rfl (lv_at hl 0 rfl) ?_
  refine lv_iconst (v := 0) C.x C.b dX8_classes_1 (by decide) ?_
  obtain ⟨td_1, po_2, ps_3, rg_4, mm_5, st_6, an_7, sp_8, pl_9, nu_10, co_11, sm_12, sw_13, sn_14, sq_15, cl_16, ⟨e_17, e_18, e_19, e_20⟩, ⟨e_21, e_22, e_23, e_24, e_25, e_26, e_27, e_28⟩, ⟨e_29, e_30, e_31, e_32⟩, e_33, hSt_34, h01_35, hPl_36, hSm_37⟩ := hKp.2
  replace e_17 : g 220 = .inr (8, [.int td_1, .int (nI n), .ref (B + 221), .ref (B + 222), .ref (B + 223), .int ey, .int wi, .int ev, .ref (B + 224), .ref (B + 225), .ref (B + 226), .ref (B + 227), .ref (B + 228), .ref (B + 229), .ref (B + 230), .ref (B + 231), .ref (B + 232), .ref (B + 233), .ref (B + 234), .ref (B + 235), .ref (B + 236), .int po_2, .int ps_3]) := e_17
  refine r_put ck8 flX8_66 C hS (by omega) e_17 (by decide) rfl rfl rfl (Nat.le_of_ble_eq_true rfl) dX8_classes_2 (fun g_38 H locs e_39 o_40 hS => ?_)
  replace e_39 : g_38 220 = .inr (8, [.int 0, .int (nI n), .ref (B + 221), .ref (B + 222), .ref (B + 223), .int ey, .int wi, .int ev, .ref (B + 224), .ref (B + 225), .ref (B + 226), .ref (B + 227), .ref (B + 228), .ref (B + 229), .ref (B + 230), .ref (B + 231), .ref (B + 232), .ref (B + 233), .ref (B + 234), .ref (B + 235), .ref (B + 236), .int po_2, .int ps_3]) := e_39
  replace hKp : Mk t B g g_38 n ey wi ev o pr w := hKp.obj (td := 0) (po := po_2) (ps := ps_3) e_39 o_40
  refine lv_aload_n C.x C.b dX8_classes_5 rfl (lv_at hl 0 rfl) ?_
  refine lv_iload_n C.x C.b dX8_classes_6 rfl (lv_at hl 1 rfl) ?_
  obtain ⟨td_44, po_45, ps_46, rg_47, mm_48, st_49, an_50, sp_51, pl_52, nu_53, co_54, sm_55, sw_56, sn_57, sq_58, cl_59, ⟨e_60, e_61, e_62, e_63⟩, ⟨e_64, e_65, e_66, e_67, e_68, e_69, e_70, e_71⟩, ⟨e_72, e_73, e_74, e_75⟩, e_76, hSt_77, h01_78, hPl_79, hSm_80⟩ := hKp.2
  replace e_60 : g_38 220 = .inr (8, [.int td_44, .int (nI n), .ref (B + 221), .ref (B + 222), .ref (B + 223), .int ey, .int wi, .int ev, .ref (B + 224), .ref (B + 225), .ref (B + 226), .ref (B + 227), .ref (B + 228), .ref (B + 229), .ref (B + 230), .ref (B + 231), .ref (B + 232), .ref (B + 233), .ref (B + 234), .ref (B + 235), .ref (B + 236), .int po_45, .int ps_46]) := e_60
  refine r_callV (b := 220) (As := [.int x]) (rest := []) (c_X8_isInput l D t B N g_38 x) mf_yX8_isInput mlX8_108 im_yX8_isInput se_yX8_isInput (by decide) C hS (by omega) e_60 (show vwCl[8]? = some _ from rfl) rfl rfl hl.1 rfl (Nat.le_of_ble_eq_true rfl) dX8_classes_7 ⟨Nat.zero_le _, Nat.zero_le _⟩ (fun r_43 g_41 H locs w_42 hS => ?_)
  obtain ⟨rfl, er_43⟩ := w_42
  by_cases b_81 : inP 16 x
  · rw [bz_t b_81] at er_43
    subst er_43
    obtain ⟨q_82, hq_83, rfl⟩ := inP_nI b_81 (by decide)
    refine lv_if_ne (tgt := 15) C.x C.b dX8_classes_10 (by decide) (fun c_84 => ?_) (fun c_84 => absurd c_84 (by decide))
    refine lv_aload_n C.x C.b dX8_classes_15 rfl (lv_at hl 0 rfl) ?_
    refine r_callVv (b := 220) (As := []) (rest := []) (ke_goAll l D t B N g_38 _ _ _ _ _ _ _ (by omega) hKp.2 (by omega) hO) mf_yX8_goAll mlX8_115 im_yX8_goAll se_yX8_goAll (by decide) C hS (by omega) e_60 (show vwCl[8]? = some _ from rfl) rfl rfl hl.1 rfl (Nat.le_of_ble_eq_true rfl) dX8_classes_16 ⟨Nat.zero_le _, Nat.zero_le _⟩ (fun g_85 H locs w_86 hS => ?_)
    obtain ⟨w_86, hA⟩ := w_86
    replace hKp : Mk t B g g_85 n ey wi ev o pr w := hKp.tr w_86
    refine lv_aload_n C.x C.b dX8_classes_19 rfl (lv_at hl 0 rfl) ?_
    refine lv_iload_n C.x C.b dX8_classes_20 rfl (lv_at hl 1 rfl) ?_
    obtain ⟨td_91, po_92, ps_93, rg_94, mm_95, st_96, an_97, sp_98, pl_99, nu_100, co_101, sm_102, sw_103, sn_104, sq_105, cl_106, ⟨e_107, e_108, e_109, e_110⟩, ⟨e_111, e_112, e_113, e_114, e_115, e_116, e_117, e_118⟩, ⟨e_119, e_120, e_121, e_122⟩, e_123, hSt_124, h01_125, hPl_126, hSm_127⟩ := hKp.2
    replace e_107 : g_85 220 = .inr (8, [.int td_91, .int (nI n), .ref (B + 221), .ref (B + 222), .ref (B + 223), .int ey, .int wi, .int ev, .ref (B + 224), .ref (B + 225), .ref (B + 226), .ref (B + 227), .ref (B + 228), .ref (B + 229), .ref (B + 230), .ref (B + 231), .ref (B + 232), .ref (B + 233), .ref (B + 234), .ref (B + 235), .ref (B + 236), .int po_92, .int ps_93]) := e_107
    refine r_callV (b := 220) (As := [.int (nI q_82)]) (rest := []) (x_X8_classesOf l D t B N g_85 _ _ _ _ _ _ _ q_82 (by omega) hKp.2 (by omega) hO hwi (by omega) hA) mf_yX8_classesOf mlX8_118 im_yX8_classesOf se_yX8_classesOf (by decide) C hS (by omega) e_107 (show vwCl[8]? = some _ from rfl) rfl rfl hl.1 rfl (Nat.le_of_ble_eq_true rfl) dX8_classes_21 ⟨Nat.zero_le _, Nat.zero_le _⟩ (fun r_90 g_88 H locs w_89 hS => ?_)
    obtain ⟨w_89, hA, cl_128, mn_129, hcp_130, hr_131, cv_132, e_133, hcv_134⟩ := w_89
    replace hKp : Mk t B g g_88 n ey wi ev o pr w := hKp.tr w_89
    subst hr_131
    exact r_iret C hr hlocks hS ⟨hKp, Or.inr ⟨q_82, by omega, rfl, cl_128, mn_129, hcp_130, rfl⟩⟩ dX8_classes_24
  · rw [bz_f b_81] at er_43
    subst er_43
    refine lv_if_ne (tgt := 15) C.x C.b dX8_classes_10 (by decide) (fun c_135 => absurd (by decide) c_135) (fun c_135 => ?_)
    refine lv_iconst (v := (-1)) C.x C.b dX8_classes_13 (by decide) ?_
    exact r_iret C hr hlocks hS ⟨hKp, Or.inl ⟨b_81, rfl⟩⟩ dX8_classes_14
set_option maxHeartbeats 1000000 in
set_option maxRecDepth 100000 in
theorem x_X8_classOf (l : Launch) (D : va_G) (t : Gx) (B N : Nat) (g : Nat → va_E) (n : Nat) (ey wi ev : Int32) (o pr w : Nat → Int32) (x y : Int32) (hN : 236 < N) (hM : Msh t B g n ey wi ev o pr w) (hn : n ≤ 8) (hO : okO o) (hwi : ¬ wi = 0)  : Ci l D t B N yX8_classOf cX8_classOf 3 (some .int) 5 121 g [.ref (B + 220), .int x, .int y] (fun r g' => Mk t B g g' n ey wi ev o pr w ∧ clsB (fun a b => obR o n w wi ev ey (16 * a + b)) x y r) := by
  refine Ci.start (by decide) (Nat.le_of_ble_eq_true rfl) ?_
  intro p e s m below meth c ls C hr hlocks hS hl
  replace C : Cx D t p s m [.ref (B + 220), .int x, .int y].toArray c cX8_classOf 3 RX8 := C
  replace hl : lv_has ls 3 [(0, .ref (B + 220)), (1, .int x), (2, .int y)] := hl
  have hKp : Mk t B g g n ey wi ev o pr w := Mk.rf hM
  refine lv_aload_n C.x C.b dX8_classOf_0 rfl (lv_at hl 0 rfl) ?_
  refine lv_iconst (v := 0) C.x C.b dX8_classOf_1 (by decide) ?_
  obtain ⟨td_1, po_2, ps_3, rg_4, mm_5, st_6, an_7, sp_8, pl_9, nu_10, co_11, sm_12, sw_13, sn_14, sq_15, cl_16, ⟨e_17, e_18, e_19, e_20⟩, ⟨e_21, e_22, e_23, e_24, e_25, e_26, e_27, e_28⟩, ⟨e_29, e_30, e_31, e_32⟩, e_33, hSt_34, h01_35, hPl_36, hSm_37⟩ := hKp.2
  replace e_17 : g 220 = .inr (8, [.int td_1, .int (nI n), .ref (B + 221), .ref (B + 222), .ref (B + 223), .int ey, .int wi, .int ev, .ref (B + 224), .ref (B + 225), .ref (B + 226), .ref (B + 227), .ref (B + 228), .ref (B + 229), .ref (B + 230), .ref (B + 231), .ref (B + 232), .ref (B + 233), .ref (B + 234), .ref (B + 235), .ref (B + 236), .int po_2, .int ps_3]) := e_17
  refine r_put ck8 flX8_66 C hS (by omega) e_17 (by decide) rfl rfl rfl (Nat.le_of_ble_eq_true rfl) dX8_classOf_2 (fun g_38 H locs e_39 o_40 hS => ?_)
  replace e_39 : g_38 220 = .inr (8, [.int 0, .int (nI n), .ref (B + 221), .ref (B + 222), .ref (B + 223), .int ey, .int wi, .int ev, .ref (B + 224), .ref (B + 225), .ref (B + 226), .ref (B + 227), .ref (B + 228), .ref (B + 229), .ref (B + 230), .ref (B + 231), .ref (B + 232), .ref (B + 233), .ref (B + 234), .ref (B + 235), .ref (B + 236), .int po_2, .int ps_3]) := e_39
  replace hKp : Mk t B g g_38 n ey wi ev o pr w := hKp.obj (td := 0) (po := po_2) (ps := ps_3) e_39 o_40
  refine lv_aload_n C.x C.b dX8_classOf_5 rfl (lv_at hl 0 rfl) ?_
  refine lv_iload_n C.x C.b dX8_classOf_6 rfl (lv_at hl 1 rfl) ?_
  obtain ⟨td_44, po_45, ps_46, rg_47, mm_48, st_49, an_50, sp_51, pl_52, nu_53, co_54, sm_55, sw_56, sn_57, sq_58, cl_59, ⟨e_60, e_61, e_62, e_63⟩, ⟨e_64, e_65, e_66, e_67, e_68, e_69, e_70, e_71⟩, ⟨e_72, e_73, e_74, e_75⟩, e_76, hSt_77, h01_78, hPl_79, hSm_80⟩ := hKp.2
  replace e_60 : g_38 220 = .inr (8, [.int td_44, .int (nI n), .ref (B + 221), .ref (B + 222), .ref (B + 223), .int ey, .int wi, .int ev, .ref (B + 224), .ref (B + 225), .ref (B + 226), .ref (B + 227), .ref (B + 228), .ref (B + 229), .ref (B + 230), .ref (B + 231), .ref (B + 232), .ref (B + 233), .ref (B + 234), .ref (B + 235), .ref (B + 236), .int po_45, .int ps_46]) := e_60
  refine r_callV (b := 220) (As := [.int x]) (rest := []) (c_X8_isInput l D t B N g_38 x) mf_yX8_isInput mlX8_108 im_yX8_isInput se_yX8_isInput (by decide) C hS (by omega) e_60 (show vwCl[8]? = some _ from rfl) rfl rfl hl.1 rfl (Nat.le_of_ble_eq_true rfl) dX8_classOf_7 ⟨Nat.zero_le _, Nat.zero_le _⟩ (fun r_43 g_41 H locs w_42 hS => ?_)
  obtain ⟨rfl, er_43⟩ := w_42
  by_cases b_81 : inP 16 x
  · rw [bz_t b_81] at er_43
    subst er_43
    obtain ⟨q_82, hq_83, rfl⟩ := inP_nI b_81 (by decide)
    refine lv_if_eq (tgt := 21) C.x C.b dX8_classOf_10 (by decide) (fun c_84 => absurd c_84 (by decide)) (fun c_84 => ?_)
    refine lv_aload_n C.x C.b dX8_classOf_13 rfl (lv_at hl 0 rfl) ?_
    refine lv_iload_n C.x C.b dX8_classOf_14 rfl (lv_at hl 2 rfl) ?_
    refine r_callV (b := 220) (As := [.int y]) (rest := []) (c_X8_isInput l D t B N g_38 y) mf_yX8_isInput mlX8_108 im_yX8_isInput se_yX8_isInput (by decide) C hS (by omega) e_60 (show vwCl[8]? = some _ from rfl) rfl rfl hl.1 rfl (Nat.le_of_ble_eq_true rfl) dX8_classOf_15 ⟨Nat.zero_le _, Nat.zero_le _⟩ (fun r_87 g_85 H locs w_86 hS => ?_)
    obtain ⟨rfl, er_87⟩ := w_86
    by_cases b_88 : inP 16 y
    · rw [bz_t b_88] at er_87
      subst er_87
      obtain ⟨q_89, hq_90, rfl⟩ := inP_nI b_88 (by decide)
      refine lv_if_ne (tgt := 23) C.x C.b dX8_classOf_18 (by decide) (fun c_91 => ?_) (fun c_91 => absurd c_91 (by decide))
      refine lv_aload_n C.x C.b dX8_classOf_23 rfl (lv_at hl 0 rfl) ?_
      refine r_callVv (b := 220) (As := []) (rest := []) (ke_goAll l D t B N g_38 _ _ _ _ _ _ _ (by omega) hKp.2 (by omega) hO) mf_yX8_goAll mlX8_115 im_yX8_goAll se_yX8_goAll (by decide) C hS (by omega) e_60 (show vwCl[8]? = some _ from rfl) rfl rfl hl.1 rfl (Nat.le_of_ble_eq_true rfl) dX8_classOf_24 ⟨Nat.zero_le _, Nat.zero_le _⟩ (fun g_92 H locs w_93 hS => ?_)
      obtain ⟨w_93, hA⟩ := w_93
      replace hKp : Mk t B g g_92 n ey wi ev o pr w := hKp.tr w_93
      refine lv_aload_n C.x C.b dX8_classOf_27 rfl (lv_at hl 0 rfl) ?_
      refine lv_iload_n C.x C.b dX8_classOf_28 rfl (lv_at hl 1 rfl) ?_
      obtain ⟨td_98, po_99, ps_100, rg_101, mm_102, st_103, an_104, sp_105, pl_106, nu_107, co_108, sm_109, sw_110, sn_111, sq_112, cl_113, ⟨e_114, e_115, e_116, e_117⟩, ⟨e_118, e_119, e_120, e_121, e_122, e_123, e_124, e_125⟩, ⟨e_126, e_127, e_128, e_129⟩, e_130, hSt_131, h01_132, hPl_133, hSm_134⟩ := hKp.2
      replace e_114 : g_92 220 = .inr (8, [.int td_98, .int (nI n), .ref (B + 221), .ref (B + 222), .ref (B + 223), .int ey, .int wi, .int ev, .ref (B + 224), .ref (B + 225), .ref (B + 226), .ref (B + 227), .ref (B + 228), .ref (B + 229), .ref (B + 230), .ref (B + 231), .ref (B + 232), .ref (B + 233), .ref (B + 234), .ref (B + 235), .ref (B + 236), .int po_99, .int ps_100]) := e_114
      refine r_callV (b := 220) (As := [.int (nI q_82)]) (rest := []) (x_X8_classesOf l D t B N g_92 _ _ _ _ _ _ _ q_82 (by omega) hKp.2 (by omega) hO hwi (by omega) hA) mf_yX8_classesOf mlX8_118 im_yX8_classesOf se_yX8_classesOf (by decide) C hS (by omega) e_114 (show vwCl[8]? = some _ from rfl) rfl rfl hl.1 rfl (Nat.le_of_ble_eq_true rfl) dX8_classOf_29 ⟨Nat.zero_le _, Nat.zero_le _⟩ (fun r_97 g_95 H locs w_96 hS => ?_)
      obtain ⟨w_96, hA, cl_135, mn_136, hcp_137, hr_138, cv_139, e_140, hcv_141⟩ := w_96
      replace hKp : Mk t B g g_95 n ey wi ev o pr w := hKp.tr w_96
      subst hr_138
      refine lv_pop C.x C.b dX8_classOf_32 rfl ?_
      refine lv_aload_n C.x C.b dX8_classOf_33 rfl (lv_at hl 0 rfl) ?_
      obtain ⟨td_142, po_143, ps_144, rg_145, mm_146, st_147, an_148, sp_149, pl_150, nu_151, co_152, sm_153, sw_154, sn_155, sq_156, cl_157, ⟨e_158, e_159, e_160, e_161⟩, ⟨e_162, e_163, e_164, e_165, e_166, e_167, e_168, e_169⟩, ⟨e_170, e_171, e_172, e_173⟩, e_174, hSt_175, h01_176, hPl_177, hSm_178⟩ := hKp.2
      replace e_158 : g_95 220 = .inr (8, [.int td_142, .int (nI n), .ref (B + 221), .ref (B + 222), .ref (B + 223), .int ey, .int wi, .int ev, .ref (B + 224), .ref (B + 225), .ref (B + 226), .ref (B + 227), .ref (B + 228), .ref (B + 229), .ref (B + 230), .ref (B + 231), .ref (B + 232), .ref (B + 233), .ref (B + 234), .ref (B + 235), .ref (B + 236), .int po_143, .int ps_144]) := e_158
      refine r_get ck8 flX8_63 C hS (by omega) e_158 (by decide) rfl dX8_classOf_34 ?_
      refine lv_iload_n C.x C.b dX8_classOf_37 rfl (lv_at hl 2 rfl) ?_
      refine r_ialdN q_89 rfl (by omega) (by decide) C hS (by omega) e_140 dX8_classOf_38 ?_
      exact r_iret C hr hlocks hS ⟨hKp, Or.inr ⟨q_82, q_89, by omega, by omega, rfl, rfl, cl_135, mn_136, hcp_137, hcv_141 q_89 (by omega)⟩⟩ dX8_classOf_39
    · rw [bz_f b_88] at er_87
      subst er_87
      refine lv_if_ne (tgt := 23) C.x C.b dX8_classOf_18 (by decide) (fun c_179 => absurd (by decide) c_179) (fun c_179 => ?_)
      refine lv_iconst (v := (-1)) C.x C.b dX8_classOf_21 (by decide) ?_
      exact r_iret C hr hlocks hS ⟨hKp, Or.inl ⟨fun q => b_88 q.2, rfl⟩⟩ dX8_classOf_22
  · rw [bz_f b_81] at er_43
    subst er_43
    refine lv_if_eq (tgt := 21) C.x C.b dX8_classOf_10 (by decide) (fun c_180 => ?_) (fun c_180 => absurd (by decide) c_180)
    refine lv_iconst (v := (-1)) C.x C.b dX8_classOf_21 (by decide) ?_
    exact r_iret C hr hlocks hS ⟨hKp, Or.inl ⟨fun q => b_81 q.1, rfl⟩⟩ dX8_classOf_22
set_option maxHeartbeats 1000000 in
set_option maxRecDepth 100000 in
theorem x_X8_most (l : Launch) (D : va_G) (t : Gx) (B N : Nat) (g : Nat → va_E) (n : Nat) (ey wi ev : Int32) (o pr w : Nat → Int32)  (hN : 236 < N) (hM : Msh t B g n ey wi ev o pr w) (hn : n ≤ 8) (hO : okO o) (hwi : ¬ wi = 0)  : Ci l D t B N yX8_most cX8_most 4 (some .int) 5 121 g [.ref (B + 220)] (fun r g' => Mk t B g g' n ey wi ev o pr w ∧ mostA (fun a b => obR o n w wi ev ey (16 * a + b)) r) := by
  refine Ci.start (by decide) (Nat.le_of_ble_eq_true rfl) ?_
  intro p e s m below meth c ls C hr hlocks hS hl
  replace C : Cx D t p s m [.ref (B + 220)].toArray c cX8_most 4 RX8 := C
  replace hl : lv_has ls 4 [(0, .ref (B + 220))] := hl
  have hKp : Mk t B g g n ey wi ev o pr w := Mk.rf hM
  refine lv_aload_n C.x C.b dX8_most_0 rfl (lv_at hl 0 rfl) ?_
  refine lv_iconst (v := 0) C.x C.b dX8_most_1 (by decide) ?_
  obtain ⟨td_1, po_2, ps_3, rg_4, mm_5, st_6, an_7, sp_8, pl_9, nu_10, co_11, sm_12, sw_13, sn_14, sq_15, cl_16, ⟨e_17, e_18, e_19, e_20⟩, ⟨e_21, e_22, e_23, e_24, e_25, e_26, e_27, e_28⟩, ⟨e_29, e_30, e_31, e_32⟩, e_33, hSt_34, h01_35, hPl_36, hSm_37⟩ := hKp.2
  replace e_17 : g 220 = .inr (8, [.int td_1, .int (nI n), .ref (B + 221), .ref (B + 222), .ref (B + 223), .int ey, .int wi, .int ev, .ref (B + 224), .ref (B + 225), .ref (B + 226), .ref (B + 227), .ref (B + 228), .ref (B + 229), .ref (B + 230), .ref (B + 231), .ref (B + 232), .ref (B + 233), .ref (B + 234), .ref (B + 235), .ref (B + 236), .int po_2, .int ps_3]) := e_17
  refine r_put ck8 flX8_66 C hS (by omega) e_17 (by decide) rfl rfl rfl (Nat.le_of_ble_eq_true rfl) dX8_most_2 (fun g_38 H locs e_39 o_40 hS => ?_)
  replace e_39 : g_38 220 = .inr (8, [.int 0, .int (nI n), .ref (B + 221), .ref (B + 222), .ref (B + 223), .int ey, .int wi, .int ev, .ref (B + 224), .ref (B + 225), .ref (B + 226), .ref (B + 227), .ref (B + 228), .ref (B + 229), .ref (B + 230), .ref (B + 231), .ref (B + 232), .ref (B + 233), .ref (B + 234), .ref (B + 235), .ref (B + 236), .int po_2, .int ps_3]) := e_39
  replace hKp : Mk t B g g_38 n ey wi ev o pr w := hKp.obj (td := 0) (po := po_2) (ps := ps_3) e_39 o_40
  refine lv_aload_n C.x C.b dX8_most_5 rfl (lv_at hl 0 rfl) ?_
  obtain ⟨td_44, po_45, ps_46, rg_47, mm_48, st_49, an_50, sp_51, pl_52, nu_53, co_54, sm_55, sw_56, sn_57, sq_58, cl_59, ⟨e_60, e_61, e_62, e_63⟩, ⟨e_64, e_65, e_66, e_67, e_68, e_69, e_70, e_71⟩, ⟨e_72, e_73, e_74, e_75⟩, e_76, hSt_77, h01_78, hPl_79, hSm_80⟩ := hKp.2
  replace e_60 : g_38 220 = .inr (8, [.int td_44, .int (nI n), .ref (B + 221), .ref (B + 222), .ref (B + 223), .int ey, .int wi, .int ev, .ref (B + 224), .ref (B + 225), .ref (B + 226), .ref (B + 227), .ref (B + 228), .ref (B + 229), .ref (B + 230), .ref (B + 231), .ref (B + 232), .ref (B + 233), .ref (B + 234), .ref (B + 235), .ref (B + 236), .int po_45, .int ps_46]) := e_60
  refine r_callVv (b := 220) (As := []) (rest := []) (ke_goAll l D t B N g_38 _ _ _ _ _ _ _ (by omega) hKp.2 (by omega) hO) mf_yX8_goAll mlX8_115 im_yX8_goAll se_yX8_goAll (by decide) C hS (by omega) e_60 (show vwCl[8]? = some _ from rfl) rfl rfl hl.1 rfl (Nat.le_of_ble_eq_true rfl) dX8_most_6 ⟨Nat.zero_le _, Nat.zero_le _⟩ (fun g_41 H locs w_42 hS => ?_)
  obtain ⟨w_42, hA⟩ := w_42
  replace hKp : Mk t B g g_41 n ey wi ev o pr w := hKp.tr w_42
  refine lv_iconst (v := 0) C.x C.b dX8_most_9 (by decide) ?_
  refine lv_istore_n (lv' := [(1, .int 0), (0, .ref (B + 220))]) C.x C.b dX8_most_10 rfl hl (by decide) rfl (fun ls hl => ?_)
  refine lv_iconst (v := 0) C.x C.b dX8_most_11 (by decide) ?_
  refine lv_istore_n (lv' := [(2, .int 0), (1, .int 0), (0, .ref (B + 220))]) C.x C.b dX8_most_12 rfl hl (by decide) rfl (fun ls hl => ?_)
  have lp_81 : ∀ (u_82 k_83 : Nat) (b_87 : Nat) (f_88 : Nat → Nat) (g_86 : Nat → va_E) (H : Heap) (locs : List Loc) (ls : Array Slot), k_83 + u_82 = 16 → (b_87 = maxTo f_88 k_83) → (b_87 ≤ 16) → (∀ a, a < k_83 → ∃ cl mn, ClsP (fun b_87 c => alikeR (obR o n w wi ev ey (16 * a + b_87)) (obR o n w wi ev ey (16 * a + c))) cl mn 16 ∧ f_88 a = mn 16) → (AllAt t g_86 o n w) → Mk t B g g_86 n ey wi ev o pr w → St D B s.heap N g_86 H locs → lv_has ls 4 [(0, .ref (B + 220)), (1, .int (nI b_87)), (2, .int (nI k_83))] → W p l e (rmOf 5 121 0 0) s m [.ref (B + 220)].toArray below meth c H locs 0 0 (MQ below (qI D B N (fun r g' => Mk t B g g' n ey wi ev o pr w ∧ mostA (fun a b => obR o n w wi ev ey (16 * a + b)) r)) [.ref (B + 220)].toArray s 0 0 (fun q => B ≤ q)) (F0 m 13 ls []) := by
    intro u_82
    induction u_82 with
    | zero =>
      intro k_83 b_87 f_88 g_86 H locs ls hk_84 hmx_89 hb9_90 hcf_91 hA1_92 hKp hS hl
      obtain rfl : 16 = k_83 := by omega
      have hA := hA1_92
      refine lv_iload_n C.x C.b dX8_most_13 rfl (lv_at hl 2 rfl) ?_
      refine lv_bipush (v := 16) C.x C.b dX8_most_14 (by decide) ?_
      refine lv_icmp_ge (tgt := 38) C.x C.b dX8_most_16 (by decide) (fun c_93 => ?_) (fun c_93 => absurd (by decide) c_93)
      refine lv_iload_n C.x C.b dX8_most_38 rfl (lv_at hl 1 rfl) ?_
      exact r_iret C hr hlocks hS ⟨hKp, f_88, hcf_91, by rw [hmx_89]⟩ dX8_most_39
    | succ u_82 ih_85 =>
      intro k_83 b_87 f_88 g_86 H locs ls hk_84 hmx_89 hb9_90 hcf_91 hA1_92 hKp hS hl
      have hA := hA1_92
      refine lv_iload_n C.x C.b dX8_most_13 rfl (lv_at hl 2 rfl) ?_
      refine lv_bipush (v := 16) C.x C.b dX8_most_14 (by decide) ?_
      refine lv_icmp_ge (tgt := 38) C.x C.b dX8_most_16 (by decide) (fun c_94 => absurd c_94 (nI_ge (a := k_83) (b := 16) (by omega) (by decide))) (fun c_94 => ?_)
      refine lv_aload_n C.x C.b dX8_most_19 rfl (lv_at hl 0 rfl) ?_
      refine lv_iload_n C.x C.b dX8_most_20 rfl (lv_at hl 2 rfl) ?_
      obtain ⟨td_98, po_99, ps_100, rg_101, mm_102, st_103, an_104, sp_105, pl_106, nu_107, co_108, sm_109, sw_110, sn_111, sq_112, cl_113, ⟨e_114, e_115, e_116, e_117⟩, ⟨e_118, e_119, e_120, e_121, e_122, e_123, e_124, e_125⟩, ⟨e_126, e_127, e_128, e_129⟩, e_130, hSt_131, h01_132, hPl_133, hSm_134⟩ := hKp.2
      replace e_114 : g_86 220 = .inr (8, [.int td_98, .int (nI n), .ref (B + 221), .ref (B + 222), .ref (B + 223), .int ey, .int wi, .int ev, .ref (B + 224), .ref (B + 225), .ref (B + 226), .ref (B + 227), .ref (B + 228), .ref (B + 229), .ref (B + 230), .ref (B + 231), .ref (B + 232), .ref (B + 233), .ref (B + 234), .ref (B + 235), .ref (B + 236), .int po_99, .int ps_100]) := e_114
      refine r_callV (b := 220) (As := [.int (nI k_83)]) (rest := []) (x_X8_classesOf l D t B N g_86 _ _ _ _ _ _ _ k_83 (by omega) hKp.2 (by omega) hO hwi (by omega) hA) mf_yX8_classesOf mlX8_118 im_yX8_classesOf se_yX8_classesOf (by decide) C hS (by omega) e_114 (show vwCl[8]? = some _ from rfl) rfl rfl hl.1 rfl (Nat.le_of_ble_eq_true rfl) dX8_most_21 ⟨Nat.zero_le _, Nat.zero_le _⟩ (fun r_97 g_95 H locs w_96 hS => ?_)
      obtain ⟨w_96, hA, cl_135, mn_136, hcp_137, hr_138, cv_139, e_140, hcv_141⟩ := w_96
      replace hKp : Mk t B g g_95 n ey wi ev o pr w := hKp.tr w_96
      subst hr_138
      refine lv_istore_n (lv' := [(3, .int (nI (mn_136 16))), (0, .ref (B + 220)), (1, .int (nI b_87)), (2, .int (nI k_83))]) C.x C.b dX8_most_24 rfl hl (by decide) rfl (fun ls hl => ?_)
      refine lv_iload_n C.x C.b dX8_most_25 rfl (lv_at hl 0 rfl) ?_
      refine lv_iload_n C.x C.b dX8_most_26 rfl (lv_at hl 2 rfl) ?_
      refine lv_icmp_le (tgt := 32) C.x C.b dX8_most_27 (by decide) (fun c_142 => ?_) (fun c_142 => ?_)
      · skip
        refine lv_iinc (v := nI (k_83 + 1)) (lv' := [(2, .int (nI (k_83 + 1))), (3, .int (nI (mn_136 16))), (0, .ref (B + 220)), (1, .int (nI b_87))]) C.x C.b dX8_most_32 hl (k := 3) rfl (nI_1 k_83) (by decide) rfl (fun ls hl => ?_)
        refine lv_goto (tgt := 13) C.x C.b dX8_most_35 (by decide) ?_
        exact ih_85 (k_83 + 1) b_87 (va_up f_88 k_83 (mn_136 16)) g_95 _ _ _ (by omega) ((maxTo_s hmx_89).symm.trans (Nat.max_eq_left ((nI_leI (by have := hcp_137.le 16 (by omega); omega) (by omega)).mp c_142))).symm (by have := hcp_137.le 16 (by omega); omega) (cf_s hcf_91 ⟨cl_135, mn_136, hcp_137, rfl⟩) hA hKp hS (lv_sub hl [2, 3, 0] rfl)
      · skip
        refine lv_iload_n C.x C.b dX8_most_30 rfl (lv_at hl 0 rfl) ?_
        refine lv_istore_n (lv' := [(1, .int (nI (mn_136 16))), (3, .int (nI (mn_136 16))), (0, .ref (B + 220)), (2, .int (nI k_83))]) C.x C.b dX8_most_31 rfl hl (by decide) rfl (fun ls hl => ?_)
        refine lv_iinc (v := nI (k_83 + 1)) (lv' := [(2, .int (nI (k_83 + 1))), (1, .int (nI (mn_136 16))), (3, .int (nI (mn_136 16))), (0, .ref (B + 220))]) C.x C.b dX8_most_32 hl (k := 3) rfl (nI_1 k_83) (by decide) rfl (fun ls hl => ?_)
        refine lv_goto (tgt := 13) C.x C.b dX8_most_35 (by decide) ?_
        exact ih_85 (k_83 + 1) (mn_136 16) (va_up f_88 k_83 (mn_136 16)) g_95 _ _ _ (by omega) ((maxTo_s hmx_89).symm.trans (Nat.max_eq_right (Nat.le_of_lt (Nat.lt_of_not_le (fun q9 => c_142 ((nI_leI (by have := hcp_137.le 16 (by omega); omega) (by omega)).mpr q9)))))).symm (by have := hcp_137.le 16 (by omega); omega) (cf_s hcf_91 ⟨cl_135, mn_136, hcp_137, rfl⟩) hA hKp hS (lv_sub hl [3, 1, 0] rfl)
  exact lp_81 16 0 0 (fun _ => 0) g_41 _ _ _ (by omega) rfl (by omega) (fun a h => absurd h (Nat.not_lt_zero _)) hA hKp hS (lv_sub hl [2, 1, 0] rfl)
set_option maxHeartbeats 1000000 in
set_option maxRecDepth 100000 in
theorem x_X8_silent (l : Launch) (D : va_G) (t : Gx) (B N : Nat) (g : Nat → va_E) (n : Nat) (ey wi ev : Int32) (o pr w : Nat → Int32)  (hN : 236 < N) (hM : Msh t B g n ey wi ev o pr w) (hn : n ≤ 8) (hO : okO o) (hwi : ¬ wi = 0)  : Ci l D t B N yX8_silent cX8_silent 1 (some .boolean) 5 120 g [.ref (B + 220)] (fun r g' => Mk t B g g' n ey wi ev o pr w ∧ ((r = 1 ∧ ∀ J, J < 256 → ¬ J % 16 = 0 → alikeR (obR o n w wi ev ey (J / 16 * 16)) (obR o n w wi ev ey J)) ∨ (r = 0 ∧ ∃ K, K < 256 ∧ ¬ K % 16 = 0 ∧ ¬ alikeR (obR o n w wi ev ey (K / 16 * 16)) (obR o n w wi ev ey K)))) := by
  refine Ci.start (by decide) (Nat.le_of_ble_eq_true rfl) ?_
  intro p e s m below meth c ls C hr hlocks hS hl
  replace C : Cx D t p s m [.ref (B + 220)].toArray c cX8_silent 1 RX8 := C
  replace hl : lv_has ls 1 [(0, .ref (B + 220))] := hl
  have hKp : Mk t B g g n ey wi ev o pr w := Mk.rf hM
  refine lv_aload_n C.x C.b dX8_silent_0 rfl (lv_at hl 0 rfl) ?_
  refine lv_iconst (v := 0) C.x C.b dX8_silent_1 (by decide) ?_
  obtain ⟨td_1, po_2, ps_3, rg_4, mm_5, st_6, an_7, sp_8, pl_9, nu_10, co_11, sm_12, sw_13, sn_14, sq_15, cl_16, ⟨e_17, e_18, e_19, e_20⟩, ⟨e_21, e_22, e_23, e_24, e_25, e_26, e_27, e_28⟩, ⟨e_29, e_30, e_31, e_32⟩, e_33, hSt_34, h01_35, hPl_36, hSm_37⟩ := hKp.2
  replace e_17 : g 220 = .inr (8, [.int td_1, .int (nI n), .ref (B + 221), .ref (B + 222), .ref (B + 223), .int ey, .int wi, .int ev, .ref (B + 224), .ref (B + 225), .ref (B + 226), .ref (B + 227), .ref (B + 228), .ref (B + 229), .ref (B + 230), .ref (B + 231), .ref (B + 232), .ref (B + 233), .ref (B + 234), .ref (B + 235), .ref (B + 236), .int po_2, .int ps_3]) := e_17
  refine r_put ck8 flX8_66 C hS (by omega) e_17 (by decide) rfl rfl rfl (Nat.le_of_ble_eq_true rfl) dX8_silent_2 (fun g_38 H locs e_39 o_40 hS => ?_)
  replace e_39 : g_38 220 = .inr (8, [.int 0, .int (nI n), .ref (B + 221), .ref (B + 222), .ref (B + 223), .int ey, .int wi, .int ev, .ref (B + 224), .ref (B + 225), .ref (B + 226), .ref (B + 227), .ref (B + 228), .ref (B + 229), .ref (B + 230), .ref (B + 231), .ref (B + 232), .ref (B + 233), .ref (B + 234), .ref (B + 235), .ref (B + 236), .int po_2, .int ps_3]) := e_39
  replace hKp : Mk t B g g_38 n ey wi ev o pr w := hKp.obj (td := 0) (po := po_2) (ps := ps_3) e_39 o_40
  refine lv_aload_n C.x C.b dX8_silent_5 rfl (lv_at hl 0 rfl) ?_
  obtain ⟨td_44, po_45, ps_46, rg_47, mm_48, st_49, an_50, sp_51, pl_52, nu_53, co_54, sm_55, sw_56, sn_57, sq_58, cl_59, ⟨e_60, e_61, e_62, e_63⟩, ⟨e_64, e_65, e_66, e_67, e_68, e_69, e_70, e_71⟩, ⟨e_72, e_73, e_74, e_75⟩, e_76, hSt_77, h01_78, hPl_79, hSm_80⟩ := hKp.2
  replace e_60 : g_38 220 = .inr (8, [.int td_44, .int (nI n), .ref (B + 221), .ref (B + 222), .ref (B + 223), .int ey, .int wi, .int ev, .ref (B + 224), .ref (B + 225), .ref (B + 226), .ref (B + 227), .ref (B + 228), .ref (B + 229), .ref (B + 230), .ref (B + 231), .ref (B + 232), .ref (B + 233), .ref (B + 234), .ref (B + 235), .ref (B + 236), .int po_45, .int ps_46]) := e_60
  refine r_callVv (b := 220) (As := []) (rest := []) (ke_goAll l D t B N g_38 _ _ _ _ _ _ _ (by omega) hKp.2 (by omega) hO) mf_yX8_goAll mlX8_115 im_yX8_goAll se_yX8_goAll (by decide) C hS (by omega) e_60 (show vwCl[8]? = some _ from rfl) rfl rfl hl.1 rfl (Nat.le_of_ble_eq_true rfl) dX8_silent_6 ⟨Nat.zero_le _, Nat.zero_le _⟩ (fun g_41 H locs w_42 hS => ?_)
  obtain ⟨w_42, hA⟩ := w_42
  replace hKp : Mk t B g g_41 n ey wi ev o pr w := hKp.tr w_42
  refine lv_aload_n C.x C.b dX8_silent_9 rfl (lv_at hl 0 rfl) ?_
  refine lv_aload_n C.x C.b dX8_silent_10 rfl (lv_at hl 0 rfl) ?_
  obtain ⟨td_81, po_82, ps_83, rg_84, mm_85, st_86, an_87, sp_88, pl_89, nu_90, co_91, sm_92, sw_93, sn_94, sq_95, cl_96, ⟨e_97, e_98, e_99, e_100⟩, ⟨e_101, e_102, e_103, e_104, e_105, e_106, e_107, e_108⟩, ⟨e_109, e_110, e_111, e_112⟩, e_113, hSt_114, h01_115, hPl_116, hSm_117⟩ := hKp.2
  replace e_97 : g_41 220 = .inr (8, [.int td_81, .int (nI n), .ref (B + 221), .ref (B + 222), .ref (B + 223), .int ey, .int wi, .int ev, .ref (B + 224), .ref (B + 225), .ref (B + 226), .ref (B + 227), .ref (B + 228), .ref (B + 229), .ref (B + 230), .ref (B + 231), .ref (B + 232), .ref (B + 233), .ref (B + 234), .ref (B + 235), .ref (B + 236), .int po_82, .int ps_83]) := e_97
  refine r_get ck8 flX8_80 C hS (by omega) e_97 (by decide) rfl dX8_silent_11 ?_
  refine lv_aload_n C.x C.b dX8_silent_14 rfl (lv_at hl 0 rfl) ?_
  refine r_get ck8 flX8_19 C hS (by omega) e_97 (by decide) rfl dX8_silent_15 ?_
  refine r_callV (b := 220) (As := [.int ev, .int ey]) (rest := []) (ke_silent l D t B N g_41 _ _ _ _ _ _ _ ev ey (by omega) hKp.2 hA hwi) mf_yX8_isSilent mlX8_127 im_yX8_isSilent se_yX8_isSilent (by decide) C hS (by omega) e_97 (show vwCl[8]? = some _ from rfl) rfl rfl hl.1 rfl (Nat.le_of_ble_eq_true rfl) dX8_silent_18 ⟨Nat.zero_le _, Nat.zero_le _⟩ (fun r_120 g_118 H locs w_119 hS => ?_)
  obtain ⟨w_119, hA, al_121⟩ := w_119
  replace hKp : Mk t B g g_118 n ey wi ev o pr w := hKp.tr w_119
  exact r_zret C hr hlocks hS (al_121.elim (fun q => Or.inr q.1) (fun q => Or.inl q.1)) ⟨hKp, al_121.elim Or.inl (fun q => Or.inr ⟨q.1, q.2.elim fun K k => ⟨K, k.1, k.2.1, k.2.2.2.1⟩⟩)⟩ dX8_silent_21
