/-! the law's cases -/
def LwC (p : Program) (s : State) (m : MethodId) (c : Code) (D : va_G) (t : Gx) (B b L : Nat) (xs : Nat → Int32) : Prop := Cx D t p s m #[.ref b] c cL_law 4 RL ∧ va_X b L xs s s.heap ∧ b < s.heap.size ∧ b < B ∧ L ≤ 2560
theorem law_in0 {i L : Nat} (hin : i + 5 ≤ L) (hL : L ≤ 2560) : vp_in (nI i) L := vp_in_nI (by omega) (by omega)
theorem law_in1 {i L : Nat} (hin : i + 5 ≤ L) (hL : L ≤ 2560) : vp_in (nI i + 1) L := by
  rw [show nI i + 1 = nI (i + 1) from nI_add i 1]
  exact vp_in_nI (by omega) (by omega)
theorem law_in2 {i L : Nat} (hin : i + 5 ≤ L) (hL : L ≤ 2560) : vp_in (nI i + 2) L := by
  rw [show nI i + 2 = nI (i + 2) from nI_add i 2]
  exact vp_in_nI (by omega) (by omega)
theorem law_in3 {i L : Nat} (hin : i + 5 ≤ L) (hL : L ≤ 2560) : vp_in (nI i + 3) L := by
  rw [show nI i + 3 = nI (i + 3) from nI_add i 3]
  exact vp_in_nI (by omega) (by omega)
theorem law_in4 {i L : Nat} (hin : i + 5 ≤ L) (hL : L ≤ 2560) : vp_in (nI i + 4) L := by
  rw [show nI i + 4 = nI (i + 4) from nI_add i 4]
  exact vp_in_nI (by omega) (by omega)
section LWC
variable {p : Program} {l : Launch} {e : Env} {s : State} {m : MethodId} {below : List Frame} {meth : Method} {c : Code} {H : Heap} {locs : List Loc} {Q : State → Prop} {D : va_G} {t : Gx} {B b L : Nat} {xs : Nat → Int32} {g : Nat → va_E} {i : Nat} {ls : Array Slot}
set_option maxHeartbeats 1000000 in
set_option maxRecDepth 100000 in
theorem lc_0 (hC : LwC p s m c D t B b L xs) (hin : i + 5 ≤ L) (hI : LwK t B g) (hS : St D B s.heap 237 g H locs) (hl : lv_has ls 4 [(0, .ref b), (1, .ref (B + 0)), (2, .ref (B + 220)), (3, .int (nI i))])
    (kk : ∀ (g2 : Nat → va_E) (H : Heap) (locs : List Loc) (ls : Array Slot), LwK t B g2 → St D B s.heap 237 g2 H locs → lv_has ls 4 [(0, .ref b), (1, .ref (B + 0)), (2, .ref (B + 220)), (3, .int (nI i))] → W p l e room_1 s m #[.ref b] below meth c H locs 600000 7302250 Q (F0 m 608 ls [])) : W p l e room_1 s m #[.ref b] below meth c H locs 600000 7302250 Q (F0 m 120 ls []) := by
  obtain ⟨C, hX, hbl, hbB, hL⟩ := hC
  have hbA : ¬ (fun q : Nat => B ≤ q) b := Nat.not_le.mpr hbB
  obtain ⟨n, ey, wi, ev, o, pr, w, o', pr', w', hLS, hPO, hCO, hQ⟩ := hI
  obtain ⟨v0, e0⟩ := hLS.1.2.2.2.1
  obtain ⟨x1, ex1⟩ : ∃ y, xs (nI i + 1).toNatClampNeg = y := ⟨_, rfl⟩
  obtain ⟨x2, ex2⟩ : ∃ y, xs (nI i + 2).toNatClampNeg = y := ⟨_, rfl⟩
  obtain ⟨x3, ex3⟩ : ∃ y, xs (nI i + 3).toNatClampNeg = y := ⟨_, rfl⟩
  obtain ⟨x4, ex4⟩ : ∃ y, xs (nI i + 4).toNatClampNeg = y := ⟨_, rfl⟩
  refine lv_aload_n C.x C.b dL_law_120 rfl (lv_at hl 1 rfl) ?_
  refine lv_aload_n C.x C.b dL_law_121 rfl (lv_at hl 0 rfl) ?_
  refine lv_iload_n C.x C.b dL_law_122 rfl (lv_at hl 3 rfl) ?_
  refine lv_iconst (v := 1) C.x C.b dL_law_123 (by decide) ?_
  refine lv_iadd C.x C.b dL_law_124 ?_
  refine va_sld C.x C.b hX hbl hbA hS.2 (law_in1 hin hL) dL_law_125 ?_
  refine r_top ex1 ?_
  refine r_callV (b := 0) (As := [.int x1]) (rest := []) (x_X7_order l D t B 237 g o pr w n ey wi ev x1 (by omega) hLS.1.1 hLS.1.2.1 hLS.1.2.2.1 hLS.1.2.2.2) mf_yX7_order mlL_13 im_yX7_order se_yX7_order (by decide) C hS (by omega) e0 (show vwCl[7]? = some _ from rfl) rfl rfl hl.1 rfl (Nat.le_of_ble_eq_true rfl) dL_law_126 (by decide) (fun r1 g1 H locs w1 hS => ?_)
  have hf1 : ∀ j, 220 ≤ j → g1 j = g j := by rcases w1 with ⟨_, _, _, _, q, _⟩ | ⟨_, _, _, q⟩ <;> exact fun j hj => q j (by omega)
  have hM1 := hLS.mid hf1
  obtain ⟨td, po, ps, m0, m1, m2, m3⟩ := hM1.core
  refine lv_pop C.x C.b dL_law_129 rfl ?_
  refine lv_aload_n C.x C.b dL_law_130 rfl (lv_at hl 2 rfl) ?_
  refine lv_aload_n C.x C.b dL_law_131 rfl (lv_at hl 0 rfl) ?_
  refine lv_iload_n C.x C.b dL_law_132 rfl (lv_at hl 3 rfl) ?_
  refine lv_iconst (v := 1) C.x C.b dL_law_133 (by decide) ?_
  refine lv_iadd C.x C.b dL_law_134 ?_
  refine va_sld C.x C.b hX hbl hbA hS.2 (law_in1 hin hL) dL_law_135 ?_
  refine r_top ex1 ?_
  refine r_callV (b := 220) (As := [.int x1]) (rest := []) (c_X8_order l D t B 237 g1 td n ey wi ev po ps o' pr' w' x1 (by omega) m0 m1 m2 m3 hLS.1.2.1) mf_yX8_order mlL_17 im_yX8_order se_yX8_order (by decide) C hS (by omega) (show g1 220 = .inr (8, _) from m0) (show vwCl[8]? = some _ from rfl) rfl rfl hl.1 rfl (Nat.le_of_ble_eq_true rfl) dL_law_136 (by decide) (fun r2 g2 H locs w2 hS => ?_)
  obtain ⟨hr12, hI2⟩ := pq_order hLS hPO hCO hQ w1 w2
  refine lv_pop C.x C.b dL_law_139 rfl ?_
  refine lv_goto (tgt := 608) C.x C.b dL_law_140 (by decide) ?_
  exact kk g2 _ _ ls hI2 hS hl
set_option maxHeartbeats 1000000 in
set_option maxRecDepth 100000 in
theorem lc_1 (hC : LwC p s m c D t B b L xs) (hin : i + 5 ≤ L) (hI : LwK t B g) (hS : St D B s.heap 237 g H locs) (hl : lv_has ls 4 [(0, .ref b), (1, .ref (B + 0)), (2, .ref (B + 220)), (3, .int (nI i))])
    (kk : ∀ (g2 : Nat → va_E) (H : Heap) (locs : List Loc) (ls : Array Slot), LwK t B g2 → St D B s.heap 237 g2 H locs → lv_has ls 4 [(0, .ref b), (1, .ref (B + 0)), (2, .ref (B + 220)), (3, .int (nI i))] → W p l e room_1 s m #[.ref b] below meth c H locs 600000 7302250 Q (F0 m 608 ls [])) : W p l e room_1 s m #[.ref b] below meth c H locs 600000 7302250 Q (F0 m 143 ls []) := by
  obtain ⟨C, hX, hbl, hbB, hL⟩ := hC
  have hbA : ¬ (fun q : Nat => B ≤ q) b := Nat.not_le.mpr hbB
  obtain ⟨n, ey, wi, ev, o, pr, w, o', pr', w', hLS, hPO, hCO, hQ⟩ := hI
  obtain ⟨v0, e0⟩ := hLS.1.2.2.2.1
  obtain ⟨x1, ex1⟩ : ∃ y, xs (nI i + 1).toNatClampNeg = y := ⟨_, rfl⟩
  obtain ⟨x2, ex2⟩ : ∃ y, xs (nI i + 2).toNatClampNeg = y := ⟨_, rfl⟩
  obtain ⟨x3, ex3⟩ : ∃ y, xs (nI i + 3).toNatClampNeg = y := ⟨_, rfl⟩
  obtain ⟨x4, ex4⟩ : ∃ y, xs (nI i + 4).toNatClampNeg = y := ⟨_, rfl⟩
  refine lv_aload_n C.x C.b dL_law_143 rfl (lv_at hl 1 rfl) ?_
  refine lv_aload_n C.x C.b dL_law_144 rfl (lv_at hl 0 rfl) ?_
  refine lv_iload_n C.x C.b dL_law_145 rfl (lv_at hl 3 rfl) ?_
  refine lv_iconst (v := 1) C.x C.b dL_law_146 (by decide) ?_
  refine lv_iadd C.x C.b dL_law_147 ?_
  refine va_sld C.x C.b hX hbl hbA hS.2 (law_in1 hin hL) dL_law_148 ?_
  refine r_top ex1 ?_
  refine lv_aload_n C.x C.b dL_law_149 rfl (lv_at hl 0 rfl) ?_
  refine lv_iload_n C.x C.b dL_law_150 rfl (lv_at hl 3 rfl) ?_
  refine lv_iconst (v := 2) C.x C.b dL_law_151 (by decide) ?_
  refine lv_iadd C.x C.b dL_law_152 ?_
  refine va_sld C.x C.b hX hbl hbA hS.2 (law_in2 hin hL) dL_law_153 ?_
  refine r_top ex2 ?_
  refine r_callV (b := 0) (As := [.int x1, .int x2]) (rest := []) (x_X7_change l D t B 237 g o pr w n ey wi ev x1 x2 (by omega) hLS.1.1 hLS.1.2.1 hLS.1.2.2.1 hLS.1.2.2.2) mf_yX7_change mlL_18 im_yX7_change se_yX7_change (by decide) C hS (by omega) e0 (show vwCl[7]? = some _ from rfl) rfl rfl hl.1 rfl (Nat.le_of_ble_eq_true rfl) dL_law_154 (by decide) (fun r1 g1 H locs w1 hS => ?_)
  have hf1 : ∀ j, 220 ≤ j → g1 j = g j := by rcases w1 with ⟨_, _, _, _, _, _, q, _⟩ | ⟨_, _, _, q⟩ <;> exact fun j hj => q j (by omega)
  have hM1 := hLS.mid hf1
  obtain ⟨td, po, ps, m0, m1, m2, m3⟩ := hM1.core
  refine lv_pop C.x C.b dL_law_157 rfl ?_
  refine lv_aload_n C.x C.b dL_law_158 rfl (lv_at hl 2 rfl) ?_
  refine lv_aload_n C.x C.b dL_law_159 rfl (lv_at hl 0 rfl) ?_
  refine lv_iload_n C.x C.b dL_law_160 rfl (lv_at hl 3 rfl) ?_
  refine lv_iconst (v := 1) C.x C.b dL_law_161 (by decide) ?_
  refine lv_iadd C.x C.b dL_law_162 ?_
  refine va_sld C.x C.b hX hbl hbA hS.2 (law_in1 hin hL) dL_law_163 ?_
  refine r_top ex1 ?_
  refine lv_aload_n C.x C.b dL_law_164 rfl (lv_at hl 0 rfl) ?_
  refine lv_iload_n C.x C.b dL_law_165 rfl (lv_at hl 3 rfl) ?_
  refine lv_iconst (v := 2) C.x C.b dL_law_166 (by decide) ?_
  refine lv_iadd C.x C.b dL_law_167 ?_
  refine va_sld C.x C.b hX hbl hbA hS.2 (law_in2 hin hL) dL_law_168 ?_
  refine r_top ex2 ?_
  refine r_callV (b := 220) (As := [.int x1, .int x2]) (rest := []) (c_X8_change l D t B 237 g1 td n ey wi ev po ps o' pr' w' x1 x2 (by omega) m0 m1 m2 m3 hLS.1.2.1) mf_yX8_change mlL_22 im_yX8_change se_yX8_change (by decide) C hS (by omega) (show g1 220 = .inr (8, _) from m0) (show vwCl[8]? = some _ from rfl) rfl rfl hl.1 rfl (Nat.le_of_ble_eq_true rfl) dL_law_169 (by decide) (fun r2 g2 H locs w2 hS => ?_)
  obtain ⟨hr12, hI2⟩ := pq_change hLS hPO hCO hQ w1 w2
  refine lv_pop C.x C.b dL_law_172 rfl ?_
  refine lv_goto (tgt := 608) C.x C.b dL_law_173 (by decide) ?_
  exact kk g2 _ _ ls hI2 hS hl
set_option maxHeartbeats 1000000 in
set_option maxRecDepth 100000 in
theorem lc_2 (hC : LwC p s m c D t B b L xs) (hin : i + 5 ≤ L) (hI : LwK t B g) (hS : St D B s.heap 237 g H locs) (hl : lv_has ls 4 [(0, .ref b), (1, .ref (B + 0)), (2, .ref (B + 220)), (3, .int (nI i))])
    (kk : ∀ (g2 : Nat → va_E) (H : Heap) (locs : List Loc) (ls : Array Slot), LwK t B g2 → St D B s.heap 237 g2 H locs → lv_has ls 4 [(0, .ref b), (1, .ref (B + 0)), (2, .ref (B + 220)), (3, .int (nI i))] → W p l e room_1 s m #[.ref b] below meth c H locs 600000 7302250 Q (F0 m 608 ls [])) : W p l e room_1 s m #[.ref b] below meth c H locs 600000 7302250 Q (F0 m 176 ls []) := by
  obtain ⟨C, hX, hbl, hbB, hL⟩ := hC
  have hbA : ¬ (fun q : Nat => B ≤ q) b := Nat.not_le.mpr hbB
  obtain ⟨n, ey, wi, ev, o, pr, w, o', pr', w', hLS, hPO, hCO, hQ⟩ := hI
  obtain ⟨v0, e0⟩ := hLS.1.2.2.2.1
  obtain ⟨x1, ex1⟩ : ∃ y, xs (nI i + 1).toNatClampNeg = y := ⟨_, rfl⟩
  obtain ⟨x2, ex2⟩ : ∃ y, xs (nI i + 2).toNatClampNeg = y := ⟨_, rfl⟩
  obtain ⟨x3, ex3⟩ : ∃ y, xs (nI i + 3).toNatClampNeg = y := ⟨_, rfl⟩
  obtain ⟨x4, ex4⟩ : ∃ y, xs (nI i + 4).toNatClampNeg = y := ⟨_, rfl⟩
  refine lv_aload_n C.x C.b dL_law_176 rfl (lv_at hl 1 rfl) ?_
  refine r_callVv (b := 0) (As := []) (rest := []) (x_X7_clear l D t B 237 g o pr w n ey wi ev  (by omega) hLS.1.1 hLS.1.2.1 hLS.1.2.2.1 hLS.1.2.2.2) mf_yX7_clear mlL_23 im_yX7_clear se_yX7_clear (by decide) C hS (by omega) e0 (show vwCl[7]? = some _ from rfl) rfl rfl hl.1 rfl (Nat.le_of_ble_eq_true rfl) dL_law_177 (by decide) (fun g1 H locs w1 hS => ?_)
  have hf1 := w1.2.1
  have hM1 := hLS.mid hf1
  obtain ⟨td, po, ps, m0, m1, m2, m3⟩ := hM1.core
  refine lv_aload_n C.x C.b dL_law_180 rfl (lv_at hl 2 rfl) ?_
  refine r_callVv (b := 220) (As := []) (rest := []) (c_X8_clear l D t B 237 g1 td n ey wi ev po ps o' pr' w'  (by omega) m0 m1 m2 m3 hLS.1.2.1) mf_yX8_clear mlL_26 im_yX8_clear se_yX8_clear (by decide) C hS (by omega) (show g1 220 = .inr (8, _) from m0) (show vwCl[8]? = some _ from rfl) rfl rfl hl.1 rfl (Nat.le_of_ble_eq_true rfl) dL_law_181 (by decide) (fun g2 H locs w2 hS => ?_)
  have hI2 := pq_clear hLS w1 w2
  refine lv_goto (tgt := 608) C.x C.b dL_law_184 (by decide) ?_
  exact kk g2 _ _ ls hI2 hS hl
set_option maxHeartbeats 1000000 in
set_option maxRecDepth 100000 in
theorem lc_3 (hC : LwC p s m c D t B b L xs) (hin : i + 5 ≤ L) (hI : LwK t B g) (hS : St D B s.heap 237 g H locs) (hl : lv_has ls 4 [(0, .ref b), (1, .ref (B + 0)), (2, .ref (B + 220)), (3, .int (nI i))])
    (kk : ∀ (g2 : Nat → va_E) (H : Heap) (locs : List Loc) (ls : Array Slot), LwK t B g2 → St D B s.heap 237 g2 H locs → lv_has ls 4 [(0, .ref b), (1, .ref (B + 0)), (2, .ref (B + 220)), (3, .int (nI i))] → W p l e room_1 s m #[.ref b] below meth c H locs 600000 7302250 Q (F0 m 608 ls [])) : W p l e room_1 s m #[.ref b] below meth c H locs 600000 7302250 Q (F0 m 187 ls []) := by
  obtain ⟨C, hX, hbl, hbB, hL⟩ := hC
  have hbA : ¬ (fun q : Nat => B ≤ q) b := Nat.not_le.mpr hbB
  obtain ⟨n, ey, wi, ev, o, pr, w, o', pr', w', hLS, hPO, hCO, hQ⟩ := hI
  obtain ⟨v0, e0⟩ := hLS.1.2.2.2.1
  obtain ⟨x1, ex1⟩ : ∃ y, xs (nI i + 1).toNatClampNeg = y := ⟨_, rfl⟩
  obtain ⟨x2, ex2⟩ : ∃ y, xs (nI i + 2).toNatClampNeg = y := ⟨_, rfl⟩
  obtain ⟨x3, ex3⟩ : ∃ y, xs (nI i + 3).toNatClampNeg = y := ⟨_, rfl⟩
  obtain ⟨x4, ex4⟩ : ∃ y, xs (nI i + 4).toNatClampNeg = y := ⟨_, rfl⟩
  refine lv_aload_n C.x C.b dL_law_187 rfl (lv_at hl 1 rfl) ?_
  refine lv_aload_n C.x C.b dL_law_188 rfl (lv_at hl 0 rfl) ?_
  refine lv_iload_n C.x C.b dL_law_189 rfl (lv_at hl 3 rfl) ?_
  refine lv_iconst (v := 1) C.x C.b dL_law_190 (by decide) ?_
  refine lv_iadd C.x C.b dL_law_191 ?_
  refine va_sld C.x C.b hX hbl hbA hS.2 (law_in1 hin hL) dL_law_192 ?_
  refine r_top ex1 ?_
  refine lv_aload_n C.x C.b dL_law_193 rfl (lv_at hl 0 rfl) ?_
  refine lv_iload_n C.x C.b dL_law_194 rfl (lv_at hl 3 rfl) ?_
  refine lv_iconst (v := 2) C.x C.b dL_law_195 (by decide) ?_
  refine lv_iadd C.x C.b dL_law_196 ?_
  refine va_sld C.x C.b hX hbl hbA hS.2 (law_in2 hin hL) dL_law_197 ?_
  refine r_top ex2 ?_
  refine r_callV (b := 0) (As := [.int x1, .int x2]) (rest := []) (x_X7_word l D t B 237 g o pr w n ey wi ev x1 x2 (by omega) hLS.1.1 hLS.1.2.1 hLS.1.2.2.1 hLS.1.2.2.2) mf_yX7_word mlL_27 im_yX7_word se_yX7_word (by decide) C hS (by omega) e0 (show vwCl[7]? = some _ from rfl) rfl rfl hl.1 rfl (Nat.le_of_ble_eq_true rfl) dL_law_198 (by decide) (fun r1 g1 H locs w1 hS => ?_)
  have hf1 : ∀ j, 220 ≤ j → g1 j = g j := by rcases w1 with ⟨_, _, _, _, _, q, _⟩ | ⟨_, _, _, q⟩ <;> exact fun j hj => q j (by omega)
  have hM1 := hLS.mid hf1
  obtain ⟨td, po, ps, m0, m1, m2, m3⟩ := hM1.core
  refine lv_pop C.x C.b dL_law_201 rfl ?_
  refine lv_aload_n C.x C.b dL_law_202 rfl (lv_at hl 2 rfl) ?_
  refine lv_aload_n C.x C.b dL_law_203 rfl (lv_at hl 0 rfl) ?_
  refine lv_iload_n C.x C.b dL_law_204 rfl (lv_at hl 3 rfl) ?_
  refine lv_iconst (v := 1) C.x C.b dL_law_205 (by decide) ?_
  refine lv_iadd C.x C.b dL_law_206 ?_
  refine va_sld C.x C.b hX hbl hbA hS.2 (law_in1 hin hL) dL_law_207 ?_
  refine r_top ex1 ?_
  refine lv_aload_n C.x C.b dL_law_208 rfl (lv_at hl 0 rfl) ?_
  refine lv_iload_n C.x C.b dL_law_209 rfl (lv_at hl 3 rfl) ?_
  refine lv_iconst (v := 2) C.x C.b dL_law_210 (by decide) ?_
  refine lv_iadd C.x C.b dL_law_211 ?_
  refine va_sld C.x C.b hX hbl hbA hS.2 (law_in2 hin hL) dL_law_212 ?_
  refine r_top ex2 ?_
  refine r_callV (b := 220) (As := [.int x1, .int x2]) (rest := []) (c_X8_word l D t B 237 g1 td n ey wi ev po ps o' pr' w' x1 x2 (by omega) m0 m1 m2 m3 hLS.1.2.1) mf_yX8_word mlL_30 im_yX8_word se_yX8_word (by decide) C hS (by omega) (show g1 220 = .inr (8, _) from m0) (show vwCl[8]? = some _ from rfl) rfl rfl hl.1 rfl (Nat.le_of_ble_eq_true rfl) dL_law_213 (by decide) (fun r2 g2 H locs w2 hS => ?_)
  obtain ⟨hr12, hI2⟩ := pq_word hLS hPO hCO hQ w1 w2
  refine lv_pop C.x C.b dL_law_216 rfl ?_
  refine lv_goto (tgt := 608) C.x C.b dL_law_217 (by decide) ?_
  exact kk g2 _ _ ls hI2 hS hl
set_option maxHeartbeats 1000000 in
set_option maxRecDepth 100000 in
theorem lc_4 (hC : LwC p s m c D t B b L xs) (hin : i + 5 ≤ L) (hI : LwK t B g) (hS : St D B s.heap 237 g H locs) (hl : lv_has ls 4 [(0, .ref b), (1, .ref (B + 0)), (2, .ref (B + 220)), (3, .int (nI i))])
    (kk : ∀ (g2 : Nat → va_E) (H : Heap) (locs : List Loc) (ls : Array Slot), LwK t B g2 → St D B s.heap 237 g2 H locs → lv_has ls 4 [(0, .ref b), (1, .ref (B + 0)), (2, .ref (B + 220)), (3, .int (nI i))] → W p l e room_1 s m #[.ref b] below meth c H locs 600000 7302250 Q (F0 m 608 ls [])) : W p l e room_1 s m #[.ref b] below meth c H locs 600000 7302250 Q (F0 m 220 ls []) := by
  obtain ⟨C, hX, hbl, hbB, hL⟩ := hC
  have hbA : ¬ (fun q : Nat => B ≤ q) b := Nat.not_le.mpr hbB
  obtain ⟨n, ey, wi, ev, o, pr, w, o', pr', w', hLS, hPO, hCO, hQ⟩ := hI
  obtain ⟨v0, e0⟩ := hLS.1.2.2.2.1
  obtain ⟨x1, ex1⟩ : ∃ y, xs (nI i + 1).toNatClampNeg = y := ⟨_, rfl⟩
  obtain ⟨x2, ex2⟩ : ∃ y, xs (nI i + 2).toNatClampNeg = y := ⟨_, rfl⟩
  obtain ⟨x3, ex3⟩ : ∃ y, xs (nI i + 3).toNatClampNeg = y := ⟨_, rfl⟩
  obtain ⟨x4, ex4⟩ : ∃ y, xs (nI i + 4).toNatClampNeg = y := ⟨_, rfl⟩
  refine lv_aload_n C.x C.b dL_law_220 rfl (lv_at hl 1 rfl) ?_
  refine lv_aload_n C.x C.b dL_law_221 rfl (lv_at hl 0 rfl) ?_
  refine lv_iload_n C.x C.b dL_law_222 rfl (lv_at hl 3 rfl) ?_
  refine lv_iconst (v := 1) C.x C.b dL_law_223 (by decide) ?_
  refine lv_iadd C.x C.b dL_law_224 ?_
  refine va_sld C.x C.b hX hbl hbA hS.2 (law_in1 hin hL) dL_law_225 ?_
  refine r_top ex1 ?_
  refine lv_aload_n C.x C.b dL_law_226 rfl (lv_at hl 0 rfl) ?_
  refine lv_iload_n C.x C.b dL_law_227 rfl (lv_at hl 3 rfl) ?_
  refine lv_iconst (v := 2) C.x C.b dL_law_228 (by decide) ?_
  refine lv_iadd C.x C.b dL_law_229 ?_
  refine va_sld C.x C.b hX hbl hbA hS.2 (law_in2 hin hL) dL_law_230 ?_
  refine r_top ex2 ?_
  refine r_callV (b := 0) (As := [.int x1, .int x2]) (rest := []) (x_X7_watch l D t B 237 g o pr w n ey wi ev x1 x2 (by omega) hLS.1.1 hLS.1.2.1 hLS.1.2.2.1 hLS.1.2.2.2) mf_yX7_watch mlL_31 im_yX7_watch se_yX7_watch (by decide) C hS (by omega) e0 (show vwCl[7]? = some _ from rfl) rfl rfl hl.1 rfl (Nat.le_of_ble_eq_true rfl) dL_law_231 (by decide) (fun r1 g1 H locs w1 hS => ?_)
  have hf1 : ∀ j, 220 ≤ j → g1 j = g j := by rcases w1 with ⟨_, _, _, _, q, _⟩ | ⟨_, _, _, q⟩ <;> exact fun j hj => q j (by omega)
  have hM1 := hLS.mid hf1
  obtain ⟨td, po, ps, m0, m1, m2, m3⟩ := hM1.core
  refine lv_pop C.x C.b dL_law_234 rfl ?_
  refine lv_aload_n C.x C.b dL_law_235 rfl (lv_at hl 2 rfl) ?_
  refine lv_aload_n C.x C.b dL_law_236 rfl (lv_at hl 0 rfl) ?_
  refine lv_iload_n C.x C.b dL_law_237 rfl (lv_at hl 3 rfl) ?_
  refine lv_iconst (v := 1) C.x C.b dL_law_238 (by decide) ?_
  refine lv_iadd C.x C.b dL_law_239 ?_
  refine va_sld C.x C.b hX hbl hbA hS.2 (law_in1 hin hL) dL_law_240 ?_
  refine r_top ex1 ?_
  refine lv_aload_n C.x C.b dL_law_241 rfl (lv_at hl 0 rfl) ?_
  refine lv_iload_n C.x C.b dL_law_242 rfl (lv_at hl 3 rfl) ?_
  refine lv_iconst (v := 2) C.x C.b dL_law_243 (by decide) ?_
  refine lv_iadd C.x C.b dL_law_244 ?_
  refine va_sld C.x C.b hX hbl hbA hS.2 (law_in2 hin hL) dL_law_245 ?_
  refine r_top ex2 ?_
  refine r_callV (b := 220) (As := [.int x1, .int x2]) (rest := []) (c_X8_watch l D t B 237 g1 td n ey wi ev po ps o' pr' w' x1 x2 (by omega) m0 m1 m2 m3 hLS.1.2.1) mf_yX8_watch mlL_34 im_yX8_watch se_yX8_watch (by decide) C hS (by omega) (show g1 220 = .inr (8, _) from m0) (show vwCl[8]? = some _ from rfl) rfl rfl hl.1 rfl (Nat.le_of_ble_eq_true rfl) dL_law_246 (by decide) (fun r2 g2 H locs w2 hS => ?_)
  obtain ⟨hr12, hI2⟩ := pq_watch hLS hPO hCO hQ w1 w2
  refine lv_pop C.x C.b dL_law_249 rfl ?_
  refine lv_goto (tgt := 608) C.x C.b dL_law_250 (by decide) ?_
  exact kk g2 _ _ ls hI2 hS hl
set_option maxHeartbeats 1000000 in
set_option maxRecDepth 100000 in
theorem lc_5 (hC : LwC p s m c D t B b L xs) (hin : i + 5 ≤ L) (hI : LwK t B g) (hS : St D B s.heap 237 g H locs) (hl : lv_has ls 4 [(0, .ref b), (1, .ref (B + 0)), (2, .ref (B + 220)), (3, .int (nI i))])
    (kk : ∀ (g2 : Nat → va_E) (H : Heap) (locs : List Loc) (ls : Array Slot), LwK t B g2 → St D B s.heap 237 g2 H locs → lv_has ls 4 [(0, .ref b), (1, .ref (B + 0)), (2, .ref (B + 220)), (3, .int (nI i))] → W p l e room_1 s m #[.ref b] below meth c H locs 600000 7302250 Q (F0 m 608 ls [])) : W p l e room_1 s m #[.ref b] below meth c H locs 600000 7302250 Q (F0 m 253 ls []) := by
  obtain ⟨C, hX, hbl, hbB, hL⟩ := hC
  have hbA : ¬ (fun q : Nat => B ≤ q) b := Nat.not_le.mpr hbB
  obtain ⟨n, ey, wi, ev, o, pr, w, o', pr', w', hLS, hPO, hCO, hQ⟩ := hI
  obtain ⟨v0, e0⟩ := hLS.1.2.2.2.1
  obtain ⟨x1, ex1⟩ : ∃ y, xs (nI i + 1).toNatClampNeg = y := ⟨_, rfl⟩
  obtain ⟨x2, ex2⟩ : ∃ y, xs (nI i + 2).toNatClampNeg = y := ⟨_, rfl⟩
  obtain ⟨x3, ex3⟩ : ∃ y, xs (nI i + 3).toNatClampNeg = y := ⟨_, rfl⟩
  obtain ⟨x4, ex4⟩ : ∃ y, xs (nI i + 4).toNatClampNeg = y := ⟨_, rfl⟩
  by_cases hb2 : x2 = 0
  · skip
    refine lv_aload_n C.x C.b dL_law_253 rfl (lv_at hl 1 rfl) ?_
    refine lv_aload_n C.x C.b dL_law_254 rfl (lv_at hl 0 rfl) ?_
    refine lv_iload_n C.x C.b dL_law_255 rfl (lv_at hl 3 rfl) ?_
    refine lv_iconst (v := 1) C.x C.b dL_law_256 (by decide) ?_
    refine lv_iadd C.x C.b dL_law_257 ?_
    refine va_sld C.x C.b hX hbl hbA hS.2 (law_in1 hin hL) dL_law_258 ?_
    refine r_top ex1 ?_
    refine lv_aload_n C.x C.b dL_law_259 rfl (lv_at hl 0 rfl) ?_
    refine lv_iload_n C.x C.b dL_law_260 rfl (lv_at hl 3 rfl) ?_
    refine lv_iconst (v := 2) C.x C.b dL_law_261 (by decide) ?_
    refine lv_iadd C.x C.b dL_law_262 ?_
    refine va_sld C.x C.b hX hbl hbA hS.2 (law_in2 hin hL) dL_law_263 ?_
    refine r_top ex2 ?_
    refine lv_if_eq (tgt := 271) C.x C.b dL_law_264 (by decide) (fun _ => ?_) (fun q => absurd hb2 q)
    refine lv_iconst (v := 0) C.x C.b dL_law_271 (by decide) ?_
    refine r_callV (b := 0) (As := [.int x1, .int 0]) (rest := []) (x_X7_even l D t B 237 g o pr w n ey wi ev x1 0 (by omega) hLS.1.1 hLS.1.2.1 hLS.1.2.2.1 hLS.1.2.2.2) mf_yX7_even mlL_35 im_yX7_even se_yX7_even (by decide) C hS (by omega) e0 (show vwCl[7]? = some _ from rfl) rfl rfl hl.1 rfl (Nat.le_of_ble_eq_true rfl) dL_law_272 (by decide) (fun r1 g1 H locs w1 hS => ?_)
    have hf1 : ∀ j, 220 ≤ j → g1 j = g j := by rcases w1 with ⟨_, _, _, _, q, _⟩ | ⟨_, _, _, q⟩ <;> exact fun j hj => q j (by omega)
    have hM1 := hLS.mid hf1
    obtain ⟨td, po, ps, m0, m1, m2, m3⟩ := hM1.core
    refine lv_pop C.x C.b dL_law_275 rfl ?_
    refine lv_aload_n C.x C.b dL_law_276 rfl (lv_at hl 2 rfl) ?_
    refine lv_aload_n C.x C.b dL_law_277 rfl (lv_at hl 0 rfl) ?_
    refine lv_iload_n C.x C.b dL_law_278 rfl (lv_at hl 3 rfl) ?_
    refine lv_iconst (v := 1) C.x C.b dL_law_279 (by decide) ?_
    refine lv_iadd C.x C.b dL_law_280 ?_
    refine va_sld C.x C.b hX hbl hbA hS.2 (law_in1 hin hL) dL_law_281 ?_
    refine r_top ex1 ?_
    refine lv_aload_n C.x C.b dL_law_282 rfl (lv_at hl 0 rfl) ?_
    refine lv_iload_n C.x C.b dL_law_283 rfl (lv_at hl 3 rfl) ?_
    refine lv_iconst (v := 2) C.x C.b dL_law_284 (by decide) ?_
    refine lv_iadd C.x C.b dL_law_285 ?_
    refine va_sld C.x C.b hX hbl hbA hS.2 (law_in2 hin hL) dL_law_286 ?_
    refine r_top ex2 ?_
    refine lv_if_eq (tgt := 294) C.x C.b dL_law_287 (by decide) (fun _ => ?_) (fun q => absurd hb2 q)
    refine lv_iconst (v := 0) C.x C.b dL_law_294 (by decide) ?_
    refine r_callV (b := 220) (As := [.int x1, .int 0]) (rest := []) (c_X8_even l D t B 237 g1 td n ey wi ev po ps o' pr' w' x1 0 (by omega) m0 m1 m2 m3 hLS.1.2.1) mf_yX8_even mlL_39 im_yX8_even se_yX8_even (by decide) C hS (by omega) (show g1 220 = .inr (8, _) from m0) (show vwCl[8]? = some _ from rfl) rfl rfl hl.1 rfl (Nat.le_of_ble_eq_true rfl) dL_law_295 (by decide) (fun r2 g2 H locs w2 hS => ?_)
    obtain ⟨hr12, hI2⟩ := pq_even hLS hPO hCO hQ w1 w2
    refine lv_pop C.x C.b dL_law_298 rfl ?_
    refine lv_goto (tgt := 608) C.x C.b dL_law_299 (by decide) ?_
    exact kk g2 _ _ ls hI2 hS hl
  · skip
    refine lv_aload_n C.x C.b dL_law_253 rfl (lv_at hl 1 rfl) ?_
    refine lv_aload_n C.x C.b dL_law_254 rfl (lv_at hl 0 rfl) ?_
    refine lv_iload_n C.x C.b dL_law_255 rfl (lv_at hl 3 rfl) ?_
    refine lv_iconst (v := 1) C.x C.b dL_law_256 (by decide) ?_
    refine lv_iadd C.x C.b dL_law_257 ?_
    refine va_sld C.x C.b hX hbl hbA hS.2 (law_in1 hin hL) dL_law_258 ?_
    refine r_top ex1 ?_
    refine lv_aload_n C.x C.b dL_law_259 rfl (lv_at hl 0 rfl) ?_
    refine lv_iload_n C.x C.b dL_law_260 rfl (lv_at hl 3 rfl) ?_
    refine lv_iconst (v := 2) C.x C.b dL_law_261 (by decide) ?_
    refine lv_iadd C.x C.b dL_law_262 ?_
    refine va_sld C.x C.b hX hbl hbA hS.2 (law_in2 hin hL) dL_law_263 ?_
    refine r_top ex2 ?_
    refine lv_if_eq (tgt := 271) C.x C.b dL_law_264 (by decide) (fun q => absurd q hb2) (fun _ => ?_)
    refine lv_iconst (v := 1) C.x C.b dL_law_267 (by decide) ?_
    refine lv_goto (tgt := 272) C.x C.b dL_law_268 (by decide) ?_
    refine r_callV (b := 0) (As := [.int x1, .int 1]) (rest := []) (x_X7_even l D t B 237 g o pr w n ey wi ev x1 1 (by omega) hLS.1.1 hLS.1.2.1 hLS.1.2.2.1 hLS.1.2.2.2) mf_yX7_even mlL_35 im_yX7_even se_yX7_even (by decide) C hS (by omega) e0 (show vwCl[7]? = some _ from rfl) rfl rfl hl.1 rfl (Nat.le_of_ble_eq_true rfl) dL_law_272 (by decide) (fun r1 g1 H locs w1 hS => ?_)
    have hf1 : ∀ j, 220 ≤ j → g1 j = g j := by rcases w1 with ⟨_, _, _, _, q, _⟩ | ⟨_, _, _, q⟩ <;> exact fun j hj => q j (by omega)
    have hM1 := hLS.mid hf1
    obtain ⟨td, po, ps, m0, m1, m2, m3⟩ := hM1.core
    refine lv_pop C.x C.b dL_law_275 rfl ?_
    refine lv_aload_n C.x C.b dL_law_276 rfl (lv_at hl 2 rfl) ?_
    refine lv_aload_n C.x C.b dL_law_277 rfl (lv_at hl 0 rfl) ?_
    refine lv_iload_n C.x C.b dL_law_278 rfl (lv_at hl 3 rfl) ?_
    refine lv_iconst (v := 1) C.x C.b dL_law_279 (by decide) ?_
    refine lv_iadd C.x C.b dL_law_280 ?_
    refine va_sld C.x C.b hX hbl hbA hS.2 (law_in1 hin hL) dL_law_281 ?_
    refine r_top ex1 ?_
    refine lv_aload_n C.x C.b dL_law_282 rfl (lv_at hl 0 rfl) ?_
    refine lv_iload_n C.x C.b dL_law_283 rfl (lv_at hl 3 rfl) ?_
    refine lv_iconst (v := 2) C.x C.b dL_law_284 (by decide) ?_
    refine lv_iadd C.x C.b dL_law_285 ?_
    refine va_sld C.x C.b hX hbl hbA hS.2 (law_in2 hin hL) dL_law_286 ?_
    refine r_top ex2 ?_
    refine lv_if_eq (tgt := 294) C.x C.b dL_law_287 (by decide) (fun q => absurd q hb2) (fun _ => ?_)
    refine lv_iconst (v := 1) C.x C.b dL_law_290 (by decide) ?_
    refine lv_goto (tgt := 295) C.x C.b dL_law_291 (by decide) ?_
    refine r_callV (b := 220) (As := [.int x1, .int 1]) (rest := []) (c_X8_even l D t B 237 g1 td n ey wi ev po ps o' pr' w' x1 1 (by omega) m0 m1 m2 m3 hLS.1.2.1) mf_yX8_even mlL_39 im_yX8_even se_yX8_even (by decide) C hS (by omega) (show g1 220 = .inr (8, _) from m0) (show vwCl[8]? = some _ from rfl) rfl rfl hl.1 rfl (Nat.le_of_ble_eq_true rfl) dL_law_295 (by decide) (fun r2 g2 H locs w2 hS => ?_)
    obtain ⟨hr12, hI2⟩ := pq_even hLS hPO hCO hQ w1 w2
    refine lv_pop C.x C.b dL_law_298 rfl ?_
    refine lv_goto (tgt := 608) C.x C.b dL_law_299 (by decide) ?_
    exact kk g2 _ _ ls hI2 hS hl
set_option maxHeartbeats 1000000 in
set_option maxRecDepth 100000 in
theorem lc_6 (hC : LwC p s m c D t B b L xs) (hin : i + 5 ≤ L) (hI : LwK t B g) (hS : St D B s.heap 237 g H locs) (hl : lv_has ls 4 [(0, .ref b), (1, .ref (B + 0)), (2, .ref (B + 220)), (3, .int (nI i))])
    (kk : ∀ (g2 : Nat → va_E) (H : Heap) (locs : List Loc) (ls : Array Slot), LwK t B g2 → St D B s.heap 237 g2 H locs → lv_has ls 4 [(0, .ref b), (1, .ref (B + 0)), (2, .ref (B + 220)), (3, .int (nI i))] → W p l e room_1 s m #[.ref b] below meth c H locs 600000 7302250 Q (F0 m 608 ls [])) : W p l e room_1 s m #[.ref b] below meth c H locs 600000 7302250 Q (F0 m 302 ls []) := by
  obtain ⟨C, hX, hbl, hbB, hL⟩ := hC
  have hbA : ¬ (fun q : Nat => B ≤ q) b := Nat.not_le.mpr hbB
  obtain ⟨n, ey, wi, ev, o, pr, w, o', pr', w', hLS, hPO, hCO, hQ⟩ := hI
  obtain ⟨v0, e0⟩ := hLS.1.2.2.2.1
  obtain ⟨x1, ex1⟩ : ∃ y, xs (nI i + 1).toNatClampNeg = y := ⟨_, rfl⟩
  obtain ⟨x2, ex2⟩ : ∃ y, xs (nI i + 2).toNatClampNeg = y := ⟨_, rfl⟩
  obtain ⟨x3, ex3⟩ : ∃ y, xs (nI i + 3).toNatClampNeg = y := ⟨_, rfl⟩
  obtain ⟨x4, ex4⟩ : ∃ y, xs (nI i + 4).toNatClampNeg = y := ⟨_, rfl⟩
  refine lv_aload_n C.x C.b dL_law_302 rfl (lv_at hl 1 rfl) ?_
  refine lv_aload_n C.x C.b dL_law_303 rfl (lv_at hl 0 rfl) ?_
  refine lv_iload_n C.x C.b dL_law_304 rfl (lv_at hl 3 rfl) ?_
  refine lv_iconst (v := 1) C.x C.b dL_law_305 (by decide) ?_
  refine lv_iadd C.x C.b dL_law_306 ?_
  refine va_sld C.x C.b hX hbl hbA hS.2 (law_in1 hin hL) dL_law_307 ?_
  refine r_top ex1 ?_
  refine lv_aload_n C.x C.b dL_law_308 rfl (lv_at hl 0 rfl) ?_
  refine lv_iload_n C.x C.b dL_law_309 rfl (lv_at hl 3 rfl) ?_
  refine lv_iconst (v := 2) C.x C.b dL_law_310 (by decide) ?_
  refine lv_iadd C.x C.b dL_law_311 ?_
  refine va_sld C.x C.b hX hbl hbA hS.2 (law_in2 hin hL) dL_law_312 ?_
  refine r_top ex2 ?_
  refine r_callV (b := 0) (As := [.int x1, .int x2]) (rest := []) (x_X7_price l D t B 237 g o pr w n ey wi ev x1 x2 (by omega) hLS.1.1 hLS.1.2.1 hLS.1.2.2.1 hLS.1.2.2.2) mf_yX7_price mlL_40 im_yX7_price se_yX7_price (by decide) C hS (by omega) e0 (show vwCl[7]? = some _ from rfl) rfl rfl hl.1 rfl (Nat.le_of_ble_eq_true rfl) dL_law_313 (by decide) (fun r1 g1 H locs w1 hS => ?_)
  have hf1 : ∀ j, 220 ≤ j → g1 j = g j := by rcases w1 with ⟨_, _, _, _, _, _, q⟩ | ⟨_, _, _, q⟩ <;> exact fun j hj => q j (by omega)
  have hM1 := hLS.mid hf1
  obtain ⟨td, po, ps, m0, m1, m2, m3⟩ := hM1.core
  refine lv_pop C.x C.b dL_law_316 rfl ?_
  refine lv_aload_n C.x C.b dL_law_317 rfl (lv_at hl 2 rfl) ?_
  refine lv_aload_n C.x C.b dL_law_318 rfl (lv_at hl 0 rfl) ?_
  refine lv_iload_n C.x C.b dL_law_319 rfl (lv_at hl 3 rfl) ?_
  refine lv_iconst (v := 1) C.x C.b dL_law_320 (by decide) ?_
  refine lv_iadd C.x C.b dL_law_321 ?_
  refine va_sld C.x C.b hX hbl hbA hS.2 (law_in1 hin hL) dL_law_322 ?_
  refine r_top ex1 ?_
  refine lv_aload_n C.x C.b dL_law_323 rfl (lv_at hl 0 rfl) ?_
  refine lv_iload_n C.x C.b dL_law_324 rfl (lv_at hl 3 rfl) ?_
  refine lv_iconst (v := 2) C.x C.b dL_law_325 (by decide) ?_
  refine lv_iadd C.x C.b dL_law_326 ?_
  refine va_sld C.x C.b hX hbl hbA hS.2 (law_in2 hin hL) dL_law_327 ?_
  refine r_top ex2 ?_
  refine r_callV (b := 220) (As := [.int x1, .int x2]) (rest := []) (c_X8_price l D t B 237 g1 td n ey wi ev po ps o' pr' w' x1 x2 (by omega) m0 m1 m2 m3 hLS.1.2.1) mf_yX8_price mlL_43 im_yX8_price se_yX8_price (by decide) C hS (by omega) (show g1 220 = .inr (8, _) from m0) (show vwCl[8]? = some _ from rfl) rfl rfl hl.1 rfl (Nat.le_of_ble_eq_true rfl) dL_law_328 (by decide) (fun r2 g2 H locs w2 hS => ?_)
  obtain ⟨hr12, hI2⟩ := pq_price hLS hPO hCO hQ w1 w2
  refine lv_pop C.x C.b dL_law_331 rfl ?_
  refine lv_goto (tgt := 608) C.x C.b dL_law_332 (by decide) ?_
  exact kk g2 _ _ ls hI2 hS hl
set_option maxHeartbeats 1000000 in
set_option maxRecDepth 100000 in
theorem lc_7 (hC : LwC p s m c D t B b L xs) (hin : i + 5 ≤ L) (hI : LwK t B g) (hS : St D B s.heap 237 g H locs) (hl : lv_has ls 4 [(0, .ref b), (1, .ref (B + 0)), (2, .ref (B + 220)), (3, .int (nI i))])
    (kk : ∀ (g2 : Nat → va_E) (H : Heap) (locs : List Loc) (ls : Array Slot), LwK t B g2 → St D B s.heap 237 g2 H locs → lv_has ls 4 [(0, .ref b), (1, .ref (B + 0)), (2, .ref (B + 220)), (3, .int (nI i))] → W p l e room_1 s m #[.ref b] below meth c H locs 600000 7302250 Q (F0 m 608 ls [])) : W p l e room_1 s m #[.ref b] below meth c H locs 600000 7302250 Q (F0 m 335 ls []) := by
  obtain ⟨C, hX, hbl, hbB, hL⟩ := hC
  have hbA : ¬ (fun q : Nat => B ≤ q) b := Nat.not_le.mpr hbB
  obtain ⟨n, ey, wi, ev, o, pr, w, o', pr', w', hLS, hPO, hCO, hQ⟩ := hI
  obtain ⟨v0, e0⟩ := hLS.1.2.2.2.1
  obtain ⟨x1, ex1⟩ : ∃ y, xs (nI i + 1).toNatClampNeg = y := ⟨_, rfl⟩
  obtain ⟨x2, ex2⟩ : ∃ y, xs (nI i + 2).toNatClampNeg = y := ⟨_, rfl⟩
  obtain ⟨x3, ex3⟩ : ∃ y, xs (nI i + 3).toNatClampNeg = y := ⟨_, rfl⟩
  obtain ⟨x4, ex4⟩ : ∃ y, xs (nI i + 4).toNatClampNeg = y := ⟨_, rfl⟩
  refine lv_aload_n C.x C.b dL_law_335 rfl (lv_at hl 1 rfl) ?_
  refine lv_aload_n C.x C.b dL_law_336 rfl (lv_at hl 0 rfl) ?_
  refine lv_iload_n C.x C.b dL_law_337 rfl (lv_at hl 3 rfl) ?_
  refine lv_iconst (v := 1) C.x C.b dL_law_338 (by decide) ?_
  refine lv_iadd C.x C.b dL_law_339 ?_
  refine va_sld C.x C.b hX hbl hbA hS.2 (law_in1 hin hL) dL_law_340 ?_
  refine r_top ex1 ?_
  refine r_callV (b := 0) (As := [.int x1]) (rest := []) (kA_X7_look l D t B 237 g o pr w n ey wi ev x1 (by omega) hLS.1.1 hLS.1.2.1 hLS.1.2.2.1 hLS.1.2.2.2) mf_yX7_look mlL_44 im_yX7_look se_yX7_look (by decide) C hS (by omega) e0 (show vwCl[7]? = some _ from rfl) rfl rfl hl.1 rfl (Nat.le_of_ble_eq_true rfl) dL_law_341 (by decide) (fun r1 g1 H locs w1 hS => ?_)
  have hf1 : ∀ j, 220 ≤ j → g1 j = g j := (w1.1.kp.cst hLS.1).2
  have hM1 := hLS.mid hf1
  obtain ⟨td, po, ps, m0, m1, m2, m3⟩ := hM1.core
  refine lv_pop C.x C.b dL_law_344 rfl ?_
  refine lv_aload_n C.x C.b dL_law_345 rfl (lv_at hl 2 rfl) ?_
  refine lv_aload_n C.x C.b dL_law_346 rfl (lv_at hl 0 rfl) ?_
  refine lv_iload_n C.x C.b dL_law_347 rfl (lv_at hl 3 rfl) ?_
  refine lv_iconst (v := 1) C.x C.b dL_law_348 (by decide) ?_
  refine lv_iadd C.x C.b dL_law_349 ?_
  refine va_sld C.x C.b hX hbl hbA hS.2 (law_in1 hin hL) dL_law_350 ?_
  refine r_top ex1 ?_
  refine r_callV (b := 220) (As := [.int x1]) (rest := []) (c_X8_look l D t B 237 g1 td n ey wi ev po ps o' pr' w' x1 (by omega) m0 m1 m2 m3 hLS.1.2.1) mf_yX8_look mlL_47 im_yX8_look se_yX8_look (by decide) C hS (by omega) (show g1 220 = .inr (8, _) from m0) (show vwCl[8]? = some _ from rfl) rfl rfl hl.1 rfl (Nat.le_of_ble_eq_true rfl) dL_law_351 (by decide) (fun r2 g2 H locs w2 hS => ?_)
  obtain ⟨hr12, hI2⟩ := pq_look hLS hPO hCO hQ w1 w2
  refine lv_pop C.x C.b dL_law_354 rfl ?_
  refine lv_goto (tgt := 608) C.x C.b dL_law_355 (by decide) ?_
  exact kk g2 _ _ ls hI2 hS hl
set_option maxHeartbeats 1000000 in
set_option maxRecDepth 100000 in
theorem lc_8 (hC : LwC p s m c D t B b L xs) (hin : i + 5 ≤ L) (hI : LwK t B g) (hS : St D B s.heap 237 g H locs) (hl : lv_has ls 4 [(0, .ref b), (1, .ref (B + 0)), (2, .ref (B + 220)), (3, .int (nI i))])
    (kk : ∀ (g2 : Nat → va_E) (H : Heap) (locs : List Loc) (ls : Array Slot), LwK t B g2 → St D B s.heap 237 g2 H locs → lv_has ls 4 [(0, .ref b), (1, .ref (B + 0)), (2, .ref (B + 220)), (3, .int (nI i))] → W p l e room_1 s m #[.ref b] below meth c H locs 600000 7302250 Q (F0 m 608 ls [])) : W p l e room_1 s m #[.ref b] below meth c H locs 600000 7302250 Q (F0 m 358 ls []) := by
  obtain ⟨C, hX, hbl, hbB, hL⟩ := hC
  have hbA : ¬ (fun q : Nat => B ≤ q) b := Nat.not_le.mpr hbB
  obtain ⟨n, ey, wi, ev, o, pr, w, o', pr', w', hLS, hPO, hCO, hQ⟩ := hI
  obtain ⟨v0, e0⟩ := hLS.1.2.2.2.1
  obtain ⟨x1, ex1⟩ : ∃ y, xs (nI i + 1).toNatClampNeg = y := ⟨_, rfl⟩
  obtain ⟨x2, ex2⟩ : ∃ y, xs (nI i + 2).toNatClampNeg = y := ⟨_, rfl⟩
  obtain ⟨x3, ex3⟩ : ∃ y, xs (nI i + 3).toNatClampNeg = y := ⟨_, rfl⟩
  obtain ⟨x4, ex4⟩ : ∃ y, xs (nI i + 4).toNatClampNeg = y := ⟨_, rfl⟩
  refine lv_aload_n C.x C.b dL_law_358 rfl (lv_at hl 1 rfl) ?_
  refine lv_aload_n C.x C.b dL_law_359 rfl (lv_at hl 0 rfl) ?_
  refine lv_iload_n C.x C.b dL_law_360 rfl (lv_at hl 3 rfl) ?_
  refine lv_iconst (v := 1) C.x C.b dL_law_361 (by decide) ?_
  refine lv_iadd C.x C.b dL_law_362 ?_
  refine va_sld C.x C.b hX hbl hbA hS.2 (law_in1 hin hL) dL_law_363 ?_
  refine r_top ex1 ?_
  refine lv_aload_n C.x C.b dL_law_364 rfl (lv_at hl 0 rfl) ?_
  refine lv_iload_n C.x C.b dL_law_365 rfl (lv_at hl 3 rfl) ?_
  refine lv_iconst (v := 2) C.x C.b dL_law_366 (by decide) ?_
  refine lv_iadd C.x C.b dL_law_367 ?_
  refine va_sld C.x C.b hX hbl hbA hS.2 (law_in2 hin hL) dL_law_368 ?_
  refine r_top ex2 ?_
  refine lv_aload_n C.x C.b dL_law_369 rfl (lv_at hl 0 rfl) ?_
  refine lv_iload_n C.x C.b dL_law_370 rfl (lv_at hl 3 rfl) ?_
  refine lv_iconst (v := 3) C.x C.b dL_law_371 (by decide) ?_
  refine lv_iadd C.x C.b dL_law_372 ?_
  refine va_sld C.x C.b hX hbl hbA hS.2 (law_in3 hin hL) dL_law_373 ?_
  refine r_top ex3 ?_
  refine r_callV (b := 0) (As := [.int x1, .int x2, .int x3]) (rest := []) (x_X7_run l D t B 237 g o pr w n ey wi ev o' w' x1 x2 x3 (by omega) hLS.1.1 hLS.1.2.1 hLS.1.2.2.1 hLS.1.2.2.2 hLS.2.2.1.1 hLS.2.2.1.2.2.1 hLS.2.2.1.2.2.2.2 hLS.2.2.2.1 hLS.2.2.2.2) mf_yX7_run mlL_48 im_yX7_run se_yX7_run (by decide) C hS (by omega) e0 (show vwCl[7]? = some _ from rfl) rfl rfl hl.1 rfl (Nat.le_of_ble_eq_true rfl) dL_law_374 (by decide) (fun r1 g1 H locs w1 hS => ?_)
  have hf1 : ∀ j, 220 ≤ j → g1 j = g j := (w1.1.cst hLS.1).2
  have hM1 := hLS.mid hf1
  obtain ⟨td, po, ps, m0, m1, m2, m3⟩ := hM1.core
  refine lv_pop C.x C.b dL_law_377 rfl ?_
  refine lv_aload_n C.x C.b dL_law_378 rfl (lv_at hl 2 rfl) ?_
  refine lv_aload_n C.x C.b dL_law_379 rfl (lv_at hl 0 rfl) ?_
  refine lv_iload_n C.x C.b dL_law_380 rfl (lv_at hl 3 rfl) ?_
  refine lv_iconst (v := 1) C.x C.b dL_law_381 (by decide) ?_
  refine lv_iadd C.x C.b dL_law_382 ?_
  refine va_sld C.x C.b hX hbl hbA hS.2 (law_in1 hin hL) dL_law_383 ?_
  refine r_top ex1 ?_
  refine lv_aload_n C.x C.b dL_law_384 rfl (lv_at hl 0 rfl) ?_
  refine lv_iload_n C.x C.b dL_law_385 rfl (lv_at hl 3 rfl) ?_
  refine lv_iconst (v := 2) C.x C.b dL_law_386 (by decide) ?_
  refine lv_iadd C.x C.b dL_law_387 ?_
  refine va_sld C.x C.b hX hbl hbA hS.2 (law_in2 hin hL) dL_law_388 ?_
  refine r_top ex2 ?_
  refine lv_aload_n C.x C.b dL_law_389 rfl (lv_at hl 0 rfl) ?_
  refine lv_iload_n C.x C.b dL_law_390 rfl (lv_at hl 3 rfl) ?_
  refine lv_iconst (v := 3) C.x C.b dL_law_391 (by decide) ?_
  refine lv_iadd C.x C.b dL_law_392 ?_
  refine va_sld C.x C.b hX hbl hbA hS.2 (law_in3 hin hL) dL_law_393 ?_
  refine r_top ex3 ?_
  refine r_callV (b := 220) (As := [.int x1, .int x2, .int x3]) (rest := []) (k_X8_run l D t B 237 g1 n ey wi ev o' pr' w' x1 x2 x3 (by omega) hM1 hLS.1.2.1 hLS.2.2.1.2.2.2.2 (wd_ne hLS.2.2.2.2)) mf_yX8_run mlL_52 im_yX8_run se_yX8_run (by decide) C hS (by omega) (show g1 220 = .inr (8, _) from m0) (show vwCl[8]? = some _ from rfl) rfl rfl hl.1 rfl (Nat.le_of_ble_eq_true rfl) dL_law_394 (by decide) (fun r2 g2 H locs w2 hS => ?_)
  have hI2 := pq_hv hLS hPO hCO hQ w1.1 w1.2.2 w2
  refine lv_pop C.x C.b dL_law_397 rfl ?_
  refine lv_goto (tgt := 608) C.x C.b dL_law_398 (by decide) ?_
  exact kk g2 _ _ ls hI2 hS hl
set_option maxHeartbeats 1000000 in
set_option maxRecDepth 100000 in
theorem lc_9 (hC : LwC p s m c D t B b L xs) (hin : i + 5 ≤ L) (hI : LwK t B g) (hS : St D B s.heap 237 g H locs) (hl : lv_has ls 4 [(0, .ref b), (1, .ref (B + 0)), (2, .ref (B + 220)), (3, .int (nI i))])
    (kk : ∀ (g2 : Nat → va_E) (H : Heap) (locs : List Loc) (ls : Array Slot), LwK t B g2 → St D B s.heap 237 g2 H locs → lv_has ls 4 [(0, .ref b), (1, .ref (B + 0)), (2, .ref (B + 220)), (3, .int (nI i))] → W p l e room_1 s m #[.ref b] below meth c H locs 600000 7302250 Q (F0 m 608 ls [])) : W p l e room_1 s m #[.ref b] below meth c H locs 600000 7302250 Q (F0 m 401 ls []) := by
  obtain ⟨C, hX, hbl, hbB, hL⟩ := hC
  have hbA : ¬ (fun q : Nat => B ≤ q) b := Nat.not_le.mpr hbB
  obtain ⟨n, ey, wi, ev, o, pr, w, o', pr', w', hLS, hPO, hCO, hQ⟩ := hI
  obtain ⟨v0, e0⟩ := hLS.1.2.2.2.1
  obtain ⟨x1, ex1⟩ : ∃ y, xs (nI i + 1).toNatClampNeg = y := ⟨_, rfl⟩
  obtain ⟨x2, ex2⟩ : ∃ y, xs (nI i + 2).toNatClampNeg = y := ⟨_, rfl⟩
  obtain ⟨x3, ex3⟩ : ∃ y, xs (nI i + 3).toNatClampNeg = y := ⟨_, rfl⟩
  obtain ⟨x4, ex4⟩ : ∃ y, xs (nI i + 4).toNatClampNeg = y := ⟨_, rfl⟩
  refine lv_aload_n C.x C.b dL_law_401 rfl (lv_at hl 1 rfl) ?_
  refine lv_aload_n C.x C.b dL_law_402 rfl (lv_at hl 0 rfl) ?_
  refine lv_iload_n C.x C.b dL_law_403 rfl (lv_at hl 3 rfl) ?_
  refine lv_iconst (v := 1) C.x C.b dL_law_404 (by decide) ?_
  refine lv_iadd C.x C.b dL_law_405 ?_
  refine va_sld C.x C.b hX hbl hbA hS.2 (law_in1 hin hL) dL_law_406 ?_
  refine r_top ex1 ?_
  refine lv_aload_n C.x C.b dL_law_407 rfl (lv_at hl 0 rfl) ?_
  refine lv_iload_n C.x C.b dL_law_408 rfl (lv_at hl 3 rfl) ?_
  refine lv_iconst (v := 2) C.x C.b dL_law_409 (by decide) ?_
  refine lv_iadd C.x C.b dL_law_410 ?_
  refine va_sld C.x C.b hX hbl hbA hS.2 (law_in2 hin hL) dL_law_411 ?_
  refine r_top ex2 ?_
  refine lv_aload_n C.x C.b dL_law_412 rfl (lv_at hl 0 rfl) ?_
  refine lv_iload_n C.x C.b dL_law_413 rfl (lv_at hl 3 rfl) ?_
  refine lv_iconst (v := 3) C.x C.b dL_law_414 (by decide) ?_
  refine lv_iadd C.x C.b dL_law_415 ?_
  refine va_sld C.x C.b hX hbl hbA hS.2 (law_in3 hin hL) dL_law_416 ?_
  refine r_top ex3 ?_
  refine lv_aload_n C.x C.b dL_law_417 rfl (lv_at hl 0 rfl) ?_
  refine lv_iload_n C.x C.b dL_law_418 rfl (lv_at hl 3 rfl) ?_
  refine lv_iconst (v := 4) C.x C.b dL_law_419 (by decide) ?_
  refine lv_iadd C.x C.b dL_law_420 ?_
  refine va_sld C.x C.b hX hbl hbA hS.2 (law_in4 hin hL) dL_law_421 ?_
  refine r_top ex4 ?_
  refine r_callV (b := 0) (As := [.int x1, .int x2, .int x3, .int x4]) (rest := []) (x_X7_seen l D t B 237 g o pr w n ey wi ev o' w' x1 x2 x3 x4 (by omega) hLS.1.1 hLS.1.2.1 hLS.1.2.2.1 hLS.1.2.2.2 hLS.2.2.1.1 hLS.2.2.1.2.2.1 hLS.2.2.1.2.2.2.2 hLS.2.2.2.1 hLS.2.2.2.2) mf_yX7_seen mlL_53 im_yX7_seen se_yX7_seen (by decide) C hS (by omega) e0 (show vwCl[7]? = some _ from rfl) rfl rfl hl.1 rfl (Nat.le_of_ble_eq_true rfl) dL_law_422 (by decide) (fun r1 g1 H locs w1 hS => ?_)
  have hf1 : ∀ j, 220 ≤ j → g1 j = g j := (w1.1.cst hLS.1).2
  have hM1 := hLS.mid hf1
  obtain ⟨td, po, ps, m0, m1, m2, m3⟩ := hM1.core
  refine lv_pop C.x C.b dL_law_425 rfl ?_
  refine lv_aload_n C.x C.b dL_law_426 rfl (lv_at hl 2 rfl) ?_
  refine lv_aload_n C.x C.b dL_law_427 rfl (lv_at hl 0 rfl) ?_
  refine lv_iload_n C.x C.b dL_law_428 rfl (lv_at hl 3 rfl) ?_
  refine lv_iconst (v := 1) C.x C.b dL_law_429 (by decide) ?_
  refine lv_iadd C.x C.b dL_law_430 ?_
  refine va_sld C.x C.b hX hbl hbA hS.2 (law_in1 hin hL) dL_law_431 ?_
  refine r_top ex1 ?_
  refine lv_aload_n C.x C.b dL_law_432 rfl (lv_at hl 0 rfl) ?_
  refine lv_iload_n C.x C.b dL_law_433 rfl (lv_at hl 3 rfl) ?_
  refine lv_iconst (v := 2) C.x C.b dL_law_434 (by decide) ?_
  refine lv_iadd C.x C.b dL_law_435 ?_
  refine va_sld C.x C.b hX hbl hbA hS.2 (law_in2 hin hL) dL_law_436 ?_
  refine r_top ex2 ?_
  refine lv_aload_n C.x C.b dL_law_437 rfl (lv_at hl 0 rfl) ?_
  refine lv_iload_n C.x C.b dL_law_438 rfl (lv_at hl 3 rfl) ?_
  refine lv_iconst (v := 3) C.x C.b dL_law_439 (by decide) ?_
  refine lv_iadd C.x C.b dL_law_440 ?_
  refine va_sld C.x C.b hX hbl hbA hS.2 (law_in3 hin hL) dL_law_441 ?_
  refine r_top ex3 ?_
  refine lv_aload_n C.x C.b dL_law_442 rfl (lv_at hl 0 rfl) ?_
  refine lv_iload_n C.x C.b dL_law_443 rfl (lv_at hl 3 rfl) ?_
  refine lv_iconst (v := 4) C.x C.b dL_law_444 (by decide) ?_
  refine lv_iadd C.x C.b dL_law_445 ?_
  refine va_sld C.x C.b hX hbl hbA hS.2 (law_in4 hin hL) dL_law_446 ?_
  refine r_top ex4 ?_
  refine r_callV (b := 220) (As := [.int x1, .int x2, .int x3, .int x4]) (rest := []) (k_X8_seen l D t B 237 g1 n ey wi ev o' pr' w' x1 x2 x3 x4 (by omega) hM1 hLS.1.2.1 hLS.2.2.1.2.2.2.2 (wd_ne hLS.2.2.2.2)) mf_yX8_seen mlL_57 im_yX8_seen se_yX8_seen (by decide) C hS (by omega) (show g1 220 = .inr (8, _) from m0) (show vwCl[8]? = some _ from rfl) rfl rfl hl.1 rfl (Nat.le_of_ble_eq_true rfl) dL_law_447 (by decide) (fun r2 g2 H locs w2 hS => ?_)
  have hI2 := pq_hv hLS hPO hCO hQ w1.1 w1.2.2 w2
  refine lv_pop C.x C.b dL_law_450 rfl ?_
  refine lv_goto (tgt := 608) C.x C.b dL_law_451 (by decide) ?_
  exact kk g2 _ _ ls hI2 hS hl
set_option maxHeartbeats 1000000 in
set_option maxRecDepth 100000 in
theorem lc_10 (hC : LwC p s m c D t B b L xs) (hin : i + 5 ≤ L) (hI : LwK t B g) (hS : St D B s.heap 237 g H locs) (hl : lv_has ls 4 [(0, .ref b), (1, .ref (B + 0)), (2, .ref (B + 220)), (3, .int (nI i))])
    (kk : ∀ (g2 : Nat → va_E) (H : Heap) (locs : List Loc) (ls : Array Slot), LwK t B g2 → St D B s.heap 237 g2 H locs → lv_has ls 4 [(0, .ref b), (1, .ref (B + 0)), (2, .ref (B + 220)), (3, .int (nI i))] → W p l e room_1 s m #[.ref b] below meth c H locs 600000 7302250 Q (F0 m 608 ls [])) : W p l e room_1 s m #[.ref b] below meth c H locs 600000 7302250 Q (F0 m 454 ls []) := by
  obtain ⟨C, hX, hbl, hbB, hL⟩ := hC
  have hbA : ¬ (fun q : Nat => B ≤ q) b := Nat.not_le.mpr hbB
  obtain ⟨n, ey, wi, ev, o, pr, w, o', pr', w', hLS, hPO, hCO, hQ⟩ := hI
  obtain ⟨v0, e0⟩ := hLS.1.2.2.2.1
  obtain ⟨x1, ex1⟩ : ∃ y, xs (nI i + 1).toNatClampNeg = y := ⟨_, rfl⟩
  obtain ⟨x2, ex2⟩ : ∃ y, xs (nI i + 2).toNatClampNeg = y := ⟨_, rfl⟩
  obtain ⟨x3, ex3⟩ : ∃ y, xs (nI i + 3).toNatClampNeg = y := ⟨_, rfl⟩
  obtain ⟨x4, ex4⟩ : ∃ y, xs (nI i + 4).toNatClampNeg = y := ⟨_, rfl⟩
  refine lv_aload_n C.x C.b dL_law_454 rfl (lv_at hl 1 rfl) ?_
  refine lv_aload_n C.x C.b dL_law_455 rfl (lv_at hl 0 rfl) ?_
  refine lv_iload_n C.x C.b dL_law_456 rfl (lv_at hl 3 rfl) ?_
  refine lv_iconst (v := 1) C.x C.b dL_law_457 (by decide) ?_
  refine lv_iadd C.x C.b dL_law_458 ?_
  refine va_sld C.x C.b hX hbl hbA hS.2 (law_in1 hin hL) dL_law_459 ?_
  refine r_top ex1 ?_
  refine r_callV (b := 0) (As := [.int x1]) (rest := []) (x_X7_classes l D t B 237 g o pr w n ey wi ev o' w' x1 (by omega) hLS.1.1 hLS.1.2.1 hLS.1.2.2.1 hLS.1.2.2.2 hLS.2.2.1.1 hLS.2.2.1.2.2.1 hLS.2.2.1.2.2.2.2 hLS.2.2.2.1 hLS.2.2.2.2 hPO) mf_yX7_classes mlL_58 im_yX7_classes se_yX7_classes (by decide) C hS (by omega) e0 (show vwCl[7]? = some _ from rfl) rfl rfl hl.1 rfl (Nat.le_of_ble_eq_true rfl) dL_law_460 (by decide) (fun r1 g1 H locs w1 hS => ?_)
  have hf1 : ∀ j, 220 ≤ j → g1 j = g j := (w1.1.cst hLS.1).2
  have hM1 := hLS.mid hf1
  obtain ⟨td, po, ps, m0, m1, m2, m3⟩ := hM1.core
  refine lv_pop C.x C.b dL_law_463 rfl ?_
  refine lv_aload_n C.x C.b dL_law_464 rfl (lv_at hl 2 rfl) ?_
  refine lv_aload_n C.x C.b dL_law_465 rfl (lv_at hl 0 rfl) ?_
  refine lv_iload_n C.x C.b dL_law_466 rfl (lv_at hl 3 rfl) ?_
  refine lv_iconst (v := 1) C.x C.b dL_law_467 (by decide) ?_
  refine lv_iadd C.x C.b dL_law_468 ?_
  refine va_sld C.x C.b hX hbl hbA hS.2 (law_in1 hin hL) dL_law_469 ?_
  refine r_top ex1 ?_
  refine r_callV (b := 220) (As := [.int x1]) (rest := []) (k_X8_classes l D t B 237 g1 n ey wi ev o' pr' w' x1 (by omega) hM1 hLS.1.2.1 hLS.2.2.1.2.2.2.2 (wd_ne hLS.2.2.2.2)) mf_yX8_classes mlL_61 im_yX8_classes se_yX8_classes (by decide) C hS (by omega) (show g1 220 = .inr (8, _) from m0) (show vwCl[8]? = some _ from rfl) rfl rfl hl.1 rfl (Nat.le_of_ble_eq_true rfl) dL_law_470 (by decide) (fun r2 g2 H locs w2 hS => ?_)
  have hI2 := pq_cl hLS hCO hQ w1.1 w1.2.2.1 w1.2.2.2 w2
  refine lv_pop C.x C.b dL_law_473 rfl ?_
  refine lv_goto (tgt := 608) C.x C.b dL_law_474 (by decide) ?_
  exact kk g2 _ _ ls hI2 hS hl
set_option maxHeartbeats 1000000 in
set_option maxRecDepth 100000 in
theorem lc_11 (hC : LwC p s m c D t B b L xs) (hin : i + 5 ≤ L) (hI : LwK t B g) (hS : St D B s.heap 237 g H locs) (hl : lv_has ls 4 [(0, .ref b), (1, .ref (B + 0)), (2, .ref (B + 220)), (3, .int (nI i))])
    (kk : ∀ (g2 : Nat → va_E) (H : Heap) (locs : List Loc) (ls : Array Slot), LwK t B g2 → St D B s.heap 237 g2 H locs → lv_has ls 4 [(0, .ref b), (1, .ref (B + 0)), (2, .ref (B + 220)), (3, .int (nI i))] → W p l e room_1 s m #[.ref b] below meth c H locs 600000 7302250 Q (F0 m 608 ls [])) : W p l e room_1 s m #[.ref b] below meth c H locs 600000 7302250 Q (F0 m 477 ls []) := by
  obtain ⟨C, hX, hbl, hbB, hL⟩ := hC
  have hbA : ¬ (fun q : Nat => B ≤ q) b := Nat.not_le.mpr hbB
  obtain ⟨n, ey, wi, ev, o, pr, w, o', pr', w', hLS, hPO, hCO, hQ⟩ := hI
  obtain ⟨v0, e0⟩ := hLS.1.2.2.2.1
  obtain ⟨x1, ex1⟩ : ∃ y, xs (nI i + 1).toNatClampNeg = y := ⟨_, rfl⟩
  obtain ⟨x2, ex2⟩ : ∃ y, xs (nI i + 2).toNatClampNeg = y := ⟨_, rfl⟩
  obtain ⟨x3, ex3⟩ : ∃ y, xs (nI i + 3).toNatClampNeg = y := ⟨_, rfl⟩
  obtain ⟨x4, ex4⟩ : ∃ y, xs (nI i + 4).toNatClampNeg = y := ⟨_, rfl⟩
  refine lv_aload_n C.x C.b dL_law_477 rfl (lv_at hl 1 rfl) ?_
  refine lv_aload_n C.x C.b dL_law_478 rfl (lv_at hl 0 rfl) ?_
  refine lv_iload_n C.x C.b dL_law_479 rfl (lv_at hl 3 rfl) ?_
  refine lv_iconst (v := 1) C.x C.b dL_law_480 (by decide) ?_
  refine lv_iadd C.x C.b dL_law_481 ?_
  refine va_sld C.x C.b hX hbl hbA hS.2 (law_in1 hin hL) dL_law_482 ?_
  refine r_top ex1 ?_
  refine lv_aload_n C.x C.b dL_law_483 rfl (lv_at hl 0 rfl) ?_
  refine lv_iload_n C.x C.b dL_law_484 rfl (lv_at hl 3 rfl) ?_
  refine lv_iconst (v := 2) C.x C.b dL_law_485 (by decide) ?_
  refine lv_iadd C.x C.b dL_law_486 ?_
  refine va_sld C.x C.b hX hbl hbA hS.2 (law_in2 hin hL) dL_law_487 ?_
  refine r_top ex2 ?_
  refine r_callV (b := 0) (As := [.int x1, .int x2]) (rest := []) (x_X7_classOf l D t B 237 g o pr w n ey wi ev o' w' x1 x2 (by omega) hLS.1.1 hLS.1.2.1 hLS.1.2.2.1 hLS.1.2.2.2 hLS.2.2.1.1 hLS.2.2.1.2.2.1 hLS.2.2.1.2.2.2.2 hLS.2.2.2.1 hLS.2.2.2.2 hPO) mf_yX7_classOf mlL_62 im_yX7_classOf se_yX7_classOf (by decide) C hS (by omega) e0 (show vwCl[7]? = some _ from rfl) rfl rfl hl.1 rfl (Nat.le_of_ble_eq_true rfl) dL_law_488 (by decide) (fun r1 g1 H locs w1 hS => ?_)
  have hf1 : ∀ j, 220 ≤ j → g1 j = g j := (w1.1.cst hLS.1).2
  have hM1 := hLS.mid hf1
  obtain ⟨td, po, ps, m0, m1, m2, m3⟩ := hM1.core
  refine lv_pop C.x C.b dL_law_491 rfl ?_
  refine lv_aload_n C.x C.b dL_law_492 rfl (lv_at hl 2 rfl) ?_
  refine lv_aload_n C.x C.b dL_law_493 rfl (lv_at hl 0 rfl) ?_
  refine lv_iload_n C.x C.b dL_law_494 rfl (lv_at hl 3 rfl) ?_
  refine lv_iconst (v := 1) C.x C.b dL_law_495 (by decide) ?_
  refine lv_iadd C.x C.b dL_law_496 ?_
  refine va_sld C.x C.b hX hbl hbA hS.2 (law_in1 hin hL) dL_law_497 ?_
  refine r_top ex1 ?_
  refine lv_aload_n C.x C.b dL_law_498 rfl (lv_at hl 0 rfl) ?_
  refine lv_iload_n C.x C.b dL_law_499 rfl (lv_at hl 3 rfl) ?_
  refine lv_iconst (v := 2) C.x C.b dL_law_500 (by decide) ?_
  refine lv_iadd C.x C.b dL_law_501 ?_
  refine va_sld C.x C.b hX hbl hbA hS.2 (law_in2 hin hL) dL_law_502 ?_
  refine r_top ex2 ?_
  refine r_callV (b := 220) (As := [.int x1, .int x2]) (rest := []) (k_X8_classOf l D t B 237 g1 n ey wi ev o' pr' w' x1 x2 (by omega) hM1 hLS.1.2.1 hLS.2.2.1.2.2.2.2 (wd_ne hLS.2.2.2.2)) mf_yX8_classOf mlL_66 im_yX8_classOf se_yX8_classOf (by decide) C hS (by omega) (show g1 220 = .inr (8, _) from m0) (show vwCl[8]? = some _ from rfl) rfl rfl hl.1 rfl (Nat.le_of_ble_eq_true rfl) dL_law_503 (by decide) (fun r2 g2 H locs w2 hS => ?_)
  have hI2 := pq_cl hLS hCO hQ w1.1 w1.2.2.1 w1.2.2.2 w2
  refine lv_pop C.x C.b dL_law_506 rfl ?_
  refine lv_goto (tgt := 608) C.x C.b dL_law_507 (by decide) ?_
  exact kk g2 _ _ ls hI2 hS hl
set_option maxHeartbeats 1000000 in
set_option maxRecDepth 100000 in
theorem lc_12 (hC : LwC p s m c D t B b L xs) (hin : i + 5 ≤ L) (hI : LwK t B g) (hS : St D B s.heap 237 g H locs) (hl : lv_has ls 4 [(0, .ref b), (1, .ref (B + 0)), (2, .ref (B + 220)), (3, .int (nI i))])
    (kk : ∀ (g2 : Nat → va_E) (H : Heap) (locs : List Loc) (ls : Array Slot), LwK t B g2 → St D B s.heap 237 g2 H locs → lv_has ls 4 [(0, .ref b), (1, .ref (B + 0)), (2, .ref (B + 220)), (3, .int (nI i))] → W p l e room_1 s m #[.ref b] below meth c H locs 600000 7302250 Q (F0 m 608 ls [])) : W p l e room_1 s m #[.ref b] below meth c H locs 600000 7302250 Q (F0 m 510 ls []) := by
  obtain ⟨C, hX, hbl, hbB, hL⟩ := hC
  have hbA : ¬ (fun q : Nat => B ≤ q) b := Nat.not_le.mpr hbB
  obtain ⟨n, ey, wi, ev, o, pr, w, o', pr', w', hLS, hPO, hCO, hQ⟩ := hI
  obtain ⟨v0, e0⟩ := hLS.1.2.2.2.1
  obtain ⟨x1, ex1⟩ : ∃ y, xs (nI i + 1).toNatClampNeg = y := ⟨_, rfl⟩
  obtain ⟨x2, ex2⟩ : ∃ y, xs (nI i + 2).toNatClampNeg = y := ⟨_, rfl⟩
  obtain ⟨x3, ex3⟩ : ∃ y, xs (nI i + 3).toNatClampNeg = y := ⟨_, rfl⟩
  obtain ⟨x4, ex4⟩ : ∃ y, xs (nI i + 4).toNatClampNeg = y := ⟨_, rfl⟩
  refine lv_aload_n C.x C.b dL_law_510 rfl (lv_at hl 1 rfl) ?_
  refine r_callV (b := 0) (As := []) (rest := []) (x_X7_most l D t B 237 g o pr w n ey wi ev o' w'  (by omega) hLS.1.1 hLS.1.2.1 hLS.1.2.2.1 hLS.1.2.2.2 hLS.2.2.1.1 hLS.2.2.1.2.2.1 hLS.2.2.1.2.2.2.2 hLS.2.2.2.1 hLS.2.2.2.2 hPO) mf_yX7_most mlL_67 im_yX7_most se_yX7_most (by decide) C hS (by omega) e0 (show vwCl[7]? = some _ from rfl) rfl rfl hl.1 rfl (Nat.le_of_ble_eq_true rfl) dL_law_511 (by decide) (fun r1 g1 H locs w1 hS => ?_)
  have hf1 : ∀ j, 220 ≤ j → g1 j = g j := (w1.1.cst hLS.1).2
  have hM1 := hLS.mid hf1
  obtain ⟨td, po, ps, m0, m1, m2, m3⟩ := hM1.core
  refine lv_pop C.x C.b dL_law_514 rfl ?_
  refine lv_aload_n C.x C.b dL_law_515 rfl (lv_at hl 2 rfl) ?_
  refine r_callV (b := 220) (As := []) (rest := []) (k_X8_most l D t B 237 g1 n ey wi ev o' pr' w'  (by omega) hM1 hLS.1.2.1 hLS.2.2.1.2.2.2.2 (wd_ne hLS.2.2.2.2)) mf_yX8_most mlL_71 im_yX8_most se_yX8_most (by decide) C hS (by omega) (show g1 220 = .inr (8, _) from m0) (show vwCl[8]? = some _ from rfl) rfl rfl hl.1 rfl (Nat.le_of_ble_eq_true rfl) dL_law_516 (by decide) (fun r2 g2 H locs w2 hS => ?_)
  have hI2 := pq_cl hLS hCO hQ w1.1 w1.2.2.1 w1.2.2.2 w2
  refine lv_pop C.x C.b dL_law_519 rfl ?_
  refine lv_goto (tgt := 608) C.x C.b dL_law_520 (by decide) ?_
  exact kk g2 _ _ ls hI2 hS hl
set_option maxHeartbeats 1000000 in
set_option maxRecDepth 100000 in
theorem lc_13 (hC : LwC p s m c D t B b L xs) (hin : i + 5 ≤ L) (hI : LwK t B g) (hS : St D B s.heap 237 g H locs) (hl : lv_has ls 4 [(0, .ref b), (1, .ref (B + 0)), (2, .ref (B + 220)), (3, .int (nI i))])
    (kk : ∀ (g2 : Nat → va_E) (H : Heap) (locs : List Loc) (ls : Array Slot), LwK t B g2 → St D B s.heap 237 g2 H locs → lv_has ls 4 [(0, .ref b), (1, .ref (B + 0)), (2, .ref (B + 220)), (3, .int (nI i))] → W p l e room_1 s m #[.ref b] below meth c H locs 600000 7302250 Q (F0 m 608 ls [])) : W p l e room_1 s m #[.ref b] below meth c H locs 600000 7302250 Q (F0 m 523 ls []) := by
  obtain ⟨C, hX, hbl, hbB, hL⟩ := hC
  have hbA : ¬ (fun q : Nat => B ≤ q) b := Nat.not_le.mpr hbB
  obtain ⟨n, ey, wi, ev, o, pr, w, o', pr', w', hLS, hPO, hCO, hQ⟩ := hI
  obtain ⟨v0, e0⟩ := hLS.1.2.2.2.1
  obtain ⟨x1, ex1⟩ : ∃ y, xs (nI i + 1).toNatClampNeg = y := ⟨_, rfl⟩
  obtain ⟨x2, ex2⟩ : ∃ y, xs (nI i + 2).toNatClampNeg = y := ⟨_, rfl⟩
  obtain ⟨x3, ex3⟩ : ∃ y, xs (nI i + 3).toNatClampNeg = y := ⟨_, rfl⟩
  obtain ⟨x4, ex4⟩ : ∃ y, xs (nI i + 4).toNatClampNeg = y := ⟨_, rfl⟩
  refine lv_aload_n C.x C.b dL_law_523 rfl (lv_at hl 1 rfl) ?_
  refine r_callV (b := 0) (As := []) (rest := []) (x_X7_silent l D t B 237 g o pr w n ey wi ev o' w'  (by omega) hLS.1.1 hLS.1.2.1 hLS.1.2.2.1 hLS.1.2.2.2 hLS.2.2.1.1 hLS.2.2.1.2.2.1 hLS.2.2.1.2.2.2.2 hLS.2.2.2.1 hLS.2.2.2.2 hPO) mf_yX7_silent mlL_72 im_yX7_silent se_yX7_silent (by decide) C hS (by omega) e0 (show vwCl[7]? = some _ from rfl) rfl rfl hl.1 rfl (Nat.le_of_ble_eq_true rfl) dL_law_524 (by decide) (fun r1 g1 H locs w1 hS => ?_)
  have hf1 : ∀ j, 220 ≤ j → g1 j = g j := (w1.1.cst hLS.1).2
  have hM1 := hLS.mid hf1
  obtain ⟨td, po, ps, m0, m1, m2, m3⟩ := hM1.core
  refine lv_pop C.x C.b dL_law_527 rfl ?_
  refine lv_aload_n C.x C.b dL_law_528 rfl (lv_at hl 2 rfl) ?_
  refine r_callV (b := 220) (As := []) (rest := []) (k_X8_silent l D t B 237 g1 n ey wi ev o' pr' w'  (by omega) hM1 hLS.1.2.1 hLS.2.2.1.2.2.2.2 (wd_ne hLS.2.2.2.2)) mf_yX8_silent mlL_76 im_yX8_silent se_yX8_silent (by decide) C hS (by omega) (show g1 220 = .inr (8, _) from m0) (show vwCl[8]? = some _ from rfl) rfl rfl hl.1 rfl (Nat.le_of_ble_eq_true rfl) dL_law_529 (by decide) (fun r2 g2 H locs w2 hS => ?_)
  have hI2 := pq_cl hLS hCO hQ w1.1 w1.2.2.1 w1.2.2.2 w2
  refine lv_pop C.x C.b dL_law_532 rfl ?_
  refine lv_goto (tgt := 608) C.x C.b dL_law_533 (by decide) ?_
  exact kk g2 _ _ ls hI2 hS hl
set_option maxHeartbeats 1000000 in
set_option maxRecDepth 100000 in
theorem lc_14 (hC : LwC p s m c D t B b L xs) (hin : i + 5 ≤ L) (hI : LwK t B g) (hS : St D B s.heap 237 g H locs) (hl : lv_has ls 4 [(0, .ref b), (1, .ref (B + 0)), (2, .ref (B + 220)), (3, .int (nI i))])
    (kk : ∀ (g2 : Nat → va_E) (H : Heap) (locs : List Loc) (ls : Array Slot), LwK t B g2 → St D B s.heap 237 g2 H locs → lv_has ls 4 [(0, .ref b), (1, .ref (B + 0)), (2, .ref (B + 220)), (3, .int (nI i))] → W p l e room_1 s m #[.ref b] below meth c H locs 600000 7302250 Q (F0 m 608 ls [])) : W p l e room_1 s m #[.ref b] below meth c H locs 600000 7302250 Q (F0 m 536 ls []) := by
  obtain ⟨C, hX, hbl, hbB, hL⟩ := hC
  have hbA : ¬ (fun q : Nat => B ≤ q) b := Nat.not_le.mpr hbB
  obtain ⟨n, ey, wi, ev, o, pr, w, o', pr', w', hLS, hPO, hCO, hQ⟩ := hI
  obtain ⟨v0, e0⟩ := hLS.1.2.2.2.1
  obtain ⟨x1, ex1⟩ : ∃ y, xs (nI i + 1).toNatClampNeg = y := ⟨_, rfl⟩
  obtain ⟨x2, ex2⟩ : ∃ y, xs (nI i + 2).toNatClampNeg = y := ⟨_, rfl⟩
  obtain ⟨x3, ex3⟩ : ∃ y, xs (nI i + 3).toNatClampNeg = y := ⟨_, rfl⟩
  obtain ⟨x4, ex4⟩ : ∃ y, xs (nI i + 4).toNatClampNeg = y := ⟨_, rfl⟩
  refine lv_aload_n C.x C.b dL_law_536 rfl (lv_at hl 1 rfl) ?_
  refine lv_aload_n C.x C.b dL_law_537 rfl (lv_at hl 0 rfl) ?_
  refine lv_iload_n C.x C.b dL_law_538 rfl (lv_at hl 3 rfl) ?_
  refine lv_iconst (v := 1) C.x C.b dL_law_539 (by decide) ?_
  refine lv_iadd C.x C.b dL_law_540 ?_
  refine va_sld C.x C.b hX hbl hbA hS.2 (law_in1 hin hL) dL_law_541 ?_
  refine r_top ex1 ?_
  refine r_callV (b := 0) (As := [.int x1]) (rest := []) (x_X7_pair l D t B 237 g o pr w n ey wi ev o' w' x1 (by omega) hLS.1.1 hLS.1.2.1 hLS.1.2.2.1 hLS.1.2.2.2 hLS.2.2.1.1 hLS.2.2.1.2.2.1 hLS.2.2.1.2.2.2.2 hLS.2.2.2.1 hLS.2.2.2.2 hPO) mf_yX7_pair mlL_77 im_yX7_pair se_yX7_pair (by decide) C hS (by omega) e0 (show vwCl[7]? = some _ from rfl) rfl rfl hl.1 rfl (Nat.le_of_ble_eq_true rfl) dL_law_542 (by decide) (fun r1 g1 H locs w1 hS => ?_)
  have hf1 : ∀ j, 220 ≤ j → g1 j = g j := (w1.1.cst hLS.1).2
  have hM1 := hLS.mid hf1
  obtain ⟨td, po, ps, m0, m1, m2, m3⟩ := hM1.core
  refine lv_pop C.x C.b dL_law_545 rfl ?_
  refine lv_aload_n C.x C.b dL_law_546 rfl (lv_at hl 2 rfl) ?_
  refine lv_aload_n C.x C.b dL_law_547 rfl (lv_at hl 0 rfl) ?_
  refine lv_iload_n C.x C.b dL_law_548 rfl (lv_at hl 3 rfl) ?_
  refine lv_iconst (v := 1) C.x C.b dL_law_549 (by decide) ?_
  refine lv_iadd C.x C.b dL_law_550 ?_
  refine va_sld C.x C.b hX hbl hbA hS.2 (law_in1 hin hL) dL_law_551 ?_
  refine r_top ex1 ?_
  refine r_callV (b := 220) (As := [.int x1]) (rest := []) (k_X8_pair l D t B 237 g1 n ey wi ev o' pr' w' x1 (by omega) hM1 hLS.1.2.1 hLS.2.2.1.2.2.2.2 (wd_ne hLS.2.2.2.2)) mf_yX8_pair mlL_80 im_yX8_pair se_yX8_pair (by decide) C hS (by omega) (show g1 220 = .inr (8, _) from m0) (show vwCl[8]? = some _ from rfl) rfl rfl hl.1 rfl (Nat.le_of_ble_eq_true rfl) dL_law_552 (by decide) (fun r2 g2 H locs w2 hS => ?_)
  have hI2 := pq_cl hLS hCO hQ w1.1 w1.2.2.1 w1.2.2.2 w2
  refine lv_pop C.x C.b dL_law_555 rfl ?_
  refine lv_goto (tgt := 608) C.x C.b dL_law_556 (by decide) ?_
  exact kk g2 _ _ ls hI2 hS hl
set_option maxHeartbeats 1000000 in
set_option maxRecDepth 100000 in
theorem lc_15 (hC : LwC p s m c D t B b L xs) (hin : i + 5 ≤ L) (hI : LwK t B g) (hS : St D B s.heap 237 g H locs) (hl : lv_has ls 4 [(0, .ref b), (1, .ref (B + 0)), (2, .ref (B + 220)), (3, .int (nI i))])
    (kk : ∀ (g2 : Nat → va_E) (H : Heap) (locs : List Loc) (ls : Array Slot), LwK t B g2 → St D B s.heap 237 g2 H locs → lv_has ls 4 [(0, .ref b), (1, .ref (B + 0)), (2, .ref (B + 220)), (3, .int (nI i))] → W p l e room_1 s m #[.ref b] below meth c H locs 600000 7302250 Q (F0 m 608 ls [])) : W p l e room_1 s m #[.ref b] below meth c H locs 600000 7302250 Q (F0 m 559 ls []) := by
  obtain ⟨C, hX, hbl, hbB, hL⟩ := hC
  have hbA : ¬ (fun q : Nat => B ≤ q) b := Nat.not_le.mpr hbB
  obtain ⟨n, ey, wi, ev, o, pr, w, o', pr', w', hLS, hPO, hCO, hQ⟩ := hI
  obtain ⟨v0, e0⟩ := hLS.1.2.2.2.1
  obtain ⟨x1, ex1⟩ : ∃ y, xs (nI i + 1).toNatClampNeg = y := ⟨_, rfl⟩
  obtain ⟨x2, ex2⟩ : ∃ y, xs (nI i + 2).toNatClampNeg = y := ⟨_, rfl⟩
  obtain ⟨x3, ex3⟩ : ∃ y, xs (nI i + 3).toNatClampNeg = y := ⟨_, rfl⟩
  obtain ⟨x4, ex4⟩ : ∃ y, xs (nI i + 4).toNatClampNeg = y := ⟨_, rfl⟩
  refine lv_aload_n C.x C.b dL_law_559 rfl (lv_at hl 1 rfl) ?_
  refine lv_aload_n C.x C.b dL_law_560 rfl (lv_at hl 0 rfl) ?_
  refine lv_iload_n C.x C.b dL_law_561 rfl (lv_at hl 3 rfl) ?_
  refine lv_iconst (v := 1) C.x C.b dL_law_562 (by decide) ?_
  refine lv_iadd C.x C.b dL_law_563 ?_
  refine va_sld C.x C.b hX hbl hbA hS.2 (law_in1 hin hL) dL_law_564 ?_
  refine r_top ex1 ?_
  refine r_callV (b := 0) (As := [.int x1]) (rest := []) (x_X7_cure l D t B 237 g o pr w n ey wi ev o' w' x1 (by omega) hLS.1.1 hLS.1.2.1 hLS.1.2.2.1 hLS.1.2.2.2 hLS.2.2.1.1 hLS.2.2.1.2.2.1 hLS.2.2.1.2.2.2.2 hLS.2.2.2.1 hLS.2.2.2.2 hCO) mf_yX7_cure mlL_81 im_yX7_cure se_yX7_cure (by decide) C hS (by omega) e0 (show vwCl[7]? = some _ from rfl) rfl rfl hl.1 rfl (Nat.le_of_ble_eq_true rfl) dL_law_565 (by decide) (fun r1 g1 H locs w1 hS => ?_)
  have hf1 : ∀ j, 220 ≤ j → g1 j = g j := (w1.1.cst hLS.1).2
  have hM1 := hLS.mid hf1
  obtain ⟨td, po, ps, m0, m1, m2, m3⟩ := hM1.core
  refine lv_pop C.x C.b dL_law_568 rfl ?_
  refine lv_aload_n C.x C.b dL_law_569 rfl (lv_at hl 2 rfl) ?_
  refine lv_aload_n C.x C.b dL_law_570 rfl (lv_at hl 0 rfl) ?_
  refine lv_iload_n C.x C.b dL_law_571 rfl (lv_at hl 3 rfl) ?_
  refine lv_iconst (v := 1) C.x C.b dL_law_572 (by decide) ?_
  refine lv_iadd C.x C.b dL_law_573 ?_
  refine va_sld C.x C.b hX hbl hbA hS.2 (law_in1 hin hL) dL_law_574 ?_
  refine r_top ex1 ?_
  refine r_callV (b := 220) (As := [.int x1]) (rest := []) (k_X8_cure l D t B 237 g1 n ey wi ev o' pr' w' x1 (by omega) hM1 hLS.1.2.1 hLS.2.2.1.2.2.2.2 (wd_ne hLS.2.2.2.2)) mf_yX8_cure mlL_84 im_yX8_cure se_yX8_cure (by decide) C hS (by omega) (show g1 220 = .inr (8, _) from m0) (show vwCl[8]? = some _ from rfl) rfl rfl hl.1 rfl (Nat.le_of_ble_eq_true rfl) dL_law_575 (by decide) (fun r2 g2 H locs w2 hS => ?_)
  have hI2 := pq_cu hLS hPO hQ w1.1 w1.2.2.1 w1.2.2.2 w2
  refine lv_pop C.x C.b dL_law_578 rfl ?_
  refine lv_goto (tgt := 608) C.x C.b dL_law_579 (by decide) ?_
  exact kk g2 _ _ ls hI2 hS hl
set_option maxHeartbeats 1000000 in
set_option maxRecDepth 100000 in
theorem lc_16 (hC : LwC p s m c D t B b L xs) (hin : i + 5 ≤ L) (hI : LwK t B g) (hS : St D B s.heap 237 g H locs) (hl : lv_has ls 4 [(0, .ref b), (1, .ref (B + 0)), (2, .ref (B + 220)), (3, .int (nI i))])
    (kk : ∀ (g2 : Nat → va_E) (H : Heap) (locs : List Loc) (ls : Array Slot), LwK t B g2 → St D B s.heap 237 g2 H locs → lv_has ls 4 [(0, .ref b), (1, .ref (B + 0)), (2, .ref (B + 220)), (3, .int (nI i))] → W p l e room_1 s m #[.ref b] below meth c H locs 600000 7302250 Q (F0 m 608 ls [])) : W p l e room_1 s m #[.ref b] below meth c H locs 600000 7302250 Q (F0 m 582 ls []) := by
  obtain ⟨C, hX, hbl, hbB, hL⟩ := hC
  have hbA : ¬ (fun q : Nat => B ≤ q) b := Nat.not_le.mpr hbB
  obtain ⟨n, ey, wi, ev, o, pr, w, o', pr', w', hLS, hPO, hCO, hQ⟩ := hI
  obtain ⟨v0, e0⟩ := hLS.1.2.2.2.1
  obtain ⟨x1, ex1⟩ : ∃ y, xs (nI i + 1).toNatClampNeg = y := ⟨_, rfl⟩
  obtain ⟨x2, ex2⟩ : ∃ y, xs (nI i + 2).toNatClampNeg = y := ⟨_, rfl⟩
  obtain ⟨x3, ex3⟩ : ∃ y, xs (nI i + 3).toNatClampNeg = y := ⟨_, rfl⟩
  obtain ⟨x4, ex4⟩ : ∃ y, xs (nI i + 4).toNatClampNeg = y := ⟨_, rfl⟩
  refine lv_aload_n C.x C.b dL_law_582 rfl (lv_at hl 1 rfl) ?_
  refine r_callV (b := 0) (As := []) (rest := []) (kA_X7_reached l D t B 237 g o pr w n ey wi ev  (by omega) hLS.1.1 hLS.1.2.1 hLS.1.2.2.1 hLS.1.2.2.2) mf_yX7_reached mlL_85 im_yX7_reached se_yX7_reached (by decide) C hS (by omega) e0 (show vwCl[7]? = some _ from rfl) rfl rfl hl.1 rfl (Nat.le_of_ble_eq_true rfl) dL_law_583 (by decide) (fun r1 g1 H locs w1 hS => ?_)
  have hf1 : ∀ j, 220 ≤ j → g1 j = g j := (w1.kp.cst hLS.1).2
  have hM1 := hLS.mid hf1
  obtain ⟨td, po, ps, m0, m1, m2, m3⟩ := hM1.core
  refine lv_pop C.x C.b dL_law_586 rfl ?_
  refine lv_aload_n C.x C.b dL_law_587 rfl (lv_at hl 2 rfl) ?_
  refine r_callV (b := 220) (As := []) (rest := []) (k_X8_reached l D t B 237 g1 n ey wi ev o' pr' w'  (by omega) hM1 hLS.1.2.1 hLS.2.2.1.2.2.2.2 (wd_ne hLS.2.2.2.2)) mf_yX8_reached mlL_88 im_yX8_reached se_yX8_reached (by decide) C hS (by omega) (show g1 220 = .inr (8, _) from m0) (show vwCl[8]? = some _ from rfl) rfl rfl hl.1 rfl (Nat.le_of_ble_eq_true rfl) dL_law_588 (by decide) (fun r2 g2 H locs w2 hS => ?_)
  have hI2 := pq_hv hLS hPO hCO hQ w1.kp (fun j h => w1.1 j (Or.inr h)) w2
  refine lv_pop C.x C.b dL_law_591 rfl ?_
  refine lv_goto (tgt := 608) C.x C.b dL_law_592 (by decide) ?_
  exact kk g2 _ _ ls hI2 hS hl
set_option maxHeartbeats 1000000 in
set_option maxRecDepth 100000 in
theorem lc_17 (hC : LwC p s m c D t B b L xs) (hin : i + 5 ≤ L) (hI : LwK t B g) (hS : St D B s.heap 237 g H locs) (hl : lv_has ls 4 [(0, .ref b), (1, .ref (B + 0)), (2, .ref (B + 220)), (3, .int (nI i))])
    (kk : ∀ (g2 : Nat → va_E) (H : Heap) (locs : List Loc) (ls : Array Slot), LwK t B g2 → St D B s.heap 237 g2 H locs → lv_has ls 4 [(0, .ref b), (1, .ref (B + 0)), (2, .ref (B + 220)), (3, .int (nI i))] → W p l e room_1 s m #[.ref b] below meth c H locs 600000 7302250 Q (F0 m 608 ls [])) : W p l e room_1 s m #[.ref b] below meth c H locs 600000 7302250 Q (F0 m 595 ls []) := by
  obtain ⟨C, hX, hbl, hbB, hL⟩ := hC
  have hbA : ¬ (fun q : Nat => B ≤ q) b := Nat.not_le.mpr hbB
  obtain ⟨n, ey, wi, ev, o, pr, w, o', pr', w', hLS, hPO, hCO, hQ⟩ := hI
  obtain ⟨v0, e0⟩ := hLS.1.2.2.2.1
  obtain ⟨x1, ex1⟩ : ∃ y, xs (nI i + 1).toNatClampNeg = y := ⟨_, rfl⟩
  obtain ⟨x2, ex2⟩ : ∃ y, xs (nI i + 2).toNatClampNeg = y := ⟨_, rfl⟩
  obtain ⟨x3, ex3⟩ : ∃ y, xs (nI i + 3).toNatClampNeg = y := ⟨_, rfl⟩
  obtain ⟨x4, ex4⟩ : ∃ y, xs (nI i + 4).toNatClampNeg = y := ⟨_, rfl⟩
  refine lv_aload_n C.x C.b dL_law_595 rfl (lv_at hl 1 rfl) ?_
  refine r_callV (b := 0) (As := []) (rest := []) (x_X7_tellers l D t B 237 g o pr w n ey wi ev o' w'  (by omega) hLS.1.1 hLS.1.2.1 hLS.1.2.2.1 hLS.1.2.2.2 hLS.2.2.1.1 hLS.2.2.1.2.2.1 hLS.2.2.1.2.2.2.2 hLS.2.2.2.1 hLS.2.2.2.2 hCO) mf_yX7_tellers mlL_89 im_yX7_tellers se_yX7_tellers (by decide) C hS (by omega) e0 (show vwCl[7]? = some _ from rfl) rfl rfl hl.1 rfl (Nat.le_of_ble_eq_true rfl) dL_law_596 (by decide) (fun r1 g1 H locs w1 hS => ?_)
  have hf1 : ∀ j, 220 ≤ j → g1 j = g j := (w1.1.cst hLS.1).2
  have hM1 := hLS.mid hf1
  obtain ⟨td, po, ps, m0, m1, m2, m3⟩ := hM1.core
  refine lv_aload_n C.x C.b dL_law_599 rfl (lv_at hl 2 rfl) ?_
  refine r_callV (b := 220) (As := []) (rest := [.int r1]) (x_X8_tellers l D t B 237 g1 n ey wi ev o' pr' w'  (by omega) hM1 hLS.1.2.1 hLS.2.2.1.2.2.2.2 (wd_ne hLS.2.2.2.2)) mf_yX8_tellers mlL_92 im_yX8_tellers se_yX8_tellers (by decide) C hS (by omega) (show g1 220 = .inr (8, _) from m0) (show vwCl[8]? = some _ from rfl) rfl rfl hl.1 rfl (Nat.le_of_ble_eq_true rfl) dL_law_600 (by decide) (fun r2 g2 H locs w2 hS => ?_)
  have hI2 := pq_cu hLS hPO hQ w1.1 w1.2.2.1 w1.2.2.2 w2.1
  have hr12 := w1.2.1.trans w2.2.symm
  refine lv_icmp_eq (tgt := 608) C.x C.b dL_law_603 (by decide) (fun _ => ?_) (fun q => absurd hr12 q)
  exact kk g2 _ _ ls hI2 hS hl
end LWC
