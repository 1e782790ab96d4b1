abbrev RW : Type := (Nat → Int32) × (Nat → Int32) × (Nat → Int32) × Nat
def radd (S : RW) (x y z : Int32) : RW := (upd S.1 S.2.2.2 x, upd S.2.1 S.2.2.2 y, upd S.2.2.1 S.2.2.2 z, S.2.2.2 + 1)
/-- the first k events that no even place hides -/
def rowF (ev : Int32) (ep ew en : Nat → Int32) (S : RW) : Nat → RW
  | 0 => S
  | k + 1 => if ((ev >>> (ep k &&& 31)) &&& 1) = 0 then radd (rowF ev ep ew en S k) (ep k) (ew k) (en k) else rowF ev ep ew en S k
theorem rowF_le (ev : Int32) (ep2 ew2 en2 ep ew en : Nat → Int32) : ∀ k, (rowF ev ep2 ew2 en2 (ep, ew, en, 0) k).2.2.2 ≤ k
  | 0 => Nat.le_refl 0
  | k + 1 => by
    have h := rowF_le ev ep2 ew2 en2 ep ew en k
    rw [rowF]
    split
    · show (rowF ev ep2 ew2 en2 (ep, ew, en, 0) k).2.2.2 + 1 ≤ k + 1
      omega
    · omega
def rowC (ey ev : Int32) (ct ec : Nat → Int32) (sp : Int32) (S : RW) : RW := if (ey &&& 1) = 0 then S else radd S (-1) 1 (2 * cwF ct ec ev 8 + if sp = 0 then 0 else 1)
def rowA (ey an : Int32) (S : RW) : RW := if (ey &&& 8) = 0 then S else radd S (-1) 8 an
/-- what the eyes ey see of a run, ev even, laid over S -/
def fillF (ey ev : Int32) (ep ew en ct ec : Nat → Int32) (len : Nat) (an sp : Int32) (S : RW) : RW := rowA ey an (rowC ey ev ct ec sp (rowF ev ep ew en S len))
theorem fillF_le (ey ev : Int32) (ep2 ew2 en2 ct ec : Nat → Int32) (len : Nat) (an sp : Int32) (ep ew en : Nat → Int32) (h : len ≤ 40) : (fillF ey ev ep2 ew2 en2 ct ec len an sp (ep, ew, en, 0)).2.2.2 ≤ 42 := by
  have h1 := rowF_le ev ep2 ew2 en2 ep ew en len
  unfold fillF rowA rowC radd
  split <;> split <;> (try dsimp only) <;> omega
abbrev isRowS (t : Gx) (B : Nat) (g : Nat → va_E) (i : Nat) (S : RW) : Prop := isRow t B g i S.1 S.2.1 S.2.2.1 S.2.2.2
def minF (x y : Int32) : Int32 := if y < x then y else x
def maxF (x y : Int32) : Int32 := if x < y then y else x
theorem minF_nI {a b : Nat} (ha : a < 2 ^ 31) (hb : b < 2 ^ 31) : minF (nI a) (nI b) = nI (min a b) := by
  unfold minF
  by_cases h : b < a
  · rw [if_pos (nI_lt h ha), Nat.min_eq_right (by omega)]
  · rw [if_neg (nI_nlt (by omega) hb), Nat.min_eq_left (by omega)]
theorem maxF_nI {a b : Nat} (ha : a < 2 ^ 31) (hb : b < 2 ^ 31) : maxF (nI a) (nI b) = nI (max a b) := by
  unfold maxF
  by_cases h : a < b
  · rw [if_pos (nI_lt h hb), Nat.max_eq_right (by omega)]
  · rw [if_neg (nI_nlt (by omega) ha), Nat.max_eq_left (by omega)]
theorem co_min : Cond.code Lib.Math.min.name Lib.Math.min.code 2 (some .int) ∈ lw_good := mgT 411 (by decide +kernel) rfl
theorem co_max : Cond.code Lib.Math.max.name Lib.Math.max.code 2 (some .int) ∈ lw_good := mgT 422 (by decide +kernel) rfl
section RM
variable {p : Program} {l : Launch} {e : Env} {R : Room} {s : State} {m : MethodId} {args : Array Value} {below : List Frame} {meth : Method} {c : Code} {H : Heap} {locs : List Loc} {cells slots : Nat} {Q : State → Prop}
variable {cc : ByteArray} {pc nL : Nat} {ls : Array Slot} {rest : List Value} {D : va_G} {t : Gx} {own : String} {index : Nat}
theorem r_mmin (hl : Cond.methodLink own index yJ9_min_7cf53 ∈ lw_good) (C : Cx D t p s m args c cc nL own) (hsize : ls.size = nL) (hfr : 1 ≤ R.frames) (hlo : (rest.map fun v => v.category).sum + 13 ≤ R.locals) (hcs : cells ≤ R.cells ∧ slots ≤ R.slots) {x y : Int32} (hdg : decode cc pc = .ok (.invokestatic index, 3))
    (kk : W p l e R s m args below meth c H locs cells slots Q (F0 m (pc + 3) ls (.int (minF x y) :: rest))) : W p l e R s m args below meth c H locs cells slots Q (F0 m pc ls (.int y :: .int x :: rest)) :=
  va_mmin C.x C.b (C.1.2.2.1.trans hsize.symm) C.o (C.w hl) (C.w sm_yJ9_min_7cf53) (C.w ini_J9) (C.w co_min) hfr hlo hcs.1 hcs.2 hdg kk
theorem r_mmax (hl : Cond.methodLink own index yJ9_max_7cf53 ∈ lw_good) (C : Cx D t p s m args c cc nL own) (hsize : ls.size = nL) (hfr : 1 ≤ R.frames) (hlo : (rest.map fun v => v.category).sum + 13 ≤ R.locals) (hcs : cells ≤ R.cells ∧ slots ≤ R.slots) {x y : Int32} (hdg : decode cc pc = .ok (.invokestatic index, 3))
    (kk : W p l e R s m args below meth c H locs cells slots Q (F0 m (pc + 3) ls (.int (maxF x y) :: rest))) : W p l e R s m args below meth c H locs cells slots Q (F0 m pc ls (.int y :: .int x :: rest)) :=
  va_mmax C.x C.b (C.1.2.2.1.trans hsize.symm) C.o (C.w hl) (C.w sm_yJ9_max_7cf53) (C.w ini_J9) (C.w co_max) hfr hlo hcs.1 hcs.2 hdg kk
end RM
def bc1 (x : Int32) : Int32 := x - (ush x 1 &&& 1431655765)
def bc2 (x : Int32) : Int32 := (x &&& 858993459) + (ush x 2 &&& 858993459)
def bc3 (x : Int32) : Int32 := (x + ush x 4) &&& 252645135
def bc4 (x : Int32) : Int32 := x + ush x 8
def bc5 (x : Int32) : Int32 := x + ush x 16
def bcF (x : Int32) : Int32 := bc5 (bc4 (bc3 (bc2 (bc1 x)))) &&& 63
/-- r is the first difference of two rows, or -1 -/
def foS (w1 n1 : Nat → Int32) (l1 : Nat) (w2 n2 : Nat → Int32) (l2 : Nat) (r : Int32) : Prop := (l1 = l2 ∧ (∀ q, q < l1 → w1 q = w2 q ∧ n1 q = n2 q) ∧ r = -1) ∨ ∃ k, k ≤ l1 ∧ k ≤ l2 ∧ (k < l1 ∨ k < l2) ∧ (∀ q, q < k → w1 q = w2 q ∧ n1 q = n2 q) ∧ (k < l1 → k < l2 → ¬ (w1 k = w2 k ∧ n1 k = n2 k)) ∧ r = nI k
set_option maxHeartbeats 1000000 in
set_option maxRecDepth 100000 in
theorem c_X4_has (l : Launch) (D : va_G) (t : Gx) (B N : Nat) (g : Nat → va_E) (i : Nat) (ep ew en : Nat → Int32) (len : Nat) (x : Int32) (hi : i + 3 < N) (hR : isRow t B g i ep ew en len) : Ci l D t B N yX4_has cX4_has 2 (some .boolean) 0 0 g [.ref (B + i), .int x] (fun r g' => g = g' ∧ r = bz (inP len x)) := by
  refine Ci.start (by decide) (Nat.le_of_ble_eq_true rfl) ?_
  intro p e s m below meth c ls C hr hlocks hS hl
  replace C : Cx D t p s m [.ref (B + i), .int x].toArray c cX4_has 2 RX4 := C
  replace hl : lv_has ls 2 [(0, .ref (B + i)), (1, .int x)] := hl
  obtain ⟨e0, e1, e2, e3⟩ := hR
  refine lv_iload_n C.x C.b dX4_has_0 rfl (lv_at hl 1 rfl) ?_
  refine lv_if_lt (tgt := 16) C.x C.b dX4_has_1 (by decide) (fun c_1 => ?_) (fun c_1 => ?_)
  · skip
    refine lv_iconst (v := 0) C.x C.b dX4_has_16 (by decide) ?_
    exact r_zret C hr hlocks hS (by decide) ⟨rfl, (bz_f (fun q => q.1 c_1)).symm⟩ dX4_has_17
  · skip
    refine lv_iload_n C.x C.b dX4_has_4 rfl (lv_at hl 1 rfl) ?_
    refine lv_aload_n C.x C.b dX4_has_5 rfl (lv_at hl 0 rfl) ?_
    refine r_get ck4 flX4_21 C hS (by omega) e0 (by decide) rfl dX4_has_6 ?_
    refine lv_icmp_ge (tgt := 16) C.x C.b dX4_has_9 (by decide) (fun c_2 => ?_) (fun c_2 => ?_)
    · skip
      refine lv_iconst (v := 0) C.x C.b dX4_has_16 (by decide) ?_
      exact r_zret C hr hlocks hS (by decide) ⟨rfl, (bz_f (fun q => q.2 c_2)).symm⟩ dX4_has_17
    · skip
      refine lv_iconst (v := 1) C.x C.b dX4_has_12 (by decide) ?_
      refine lv_goto (tgt := 17) C.x C.b dX4_has_13 (by decide) ?_
      exact r_zret C hr hlocks hS (by decide) ⟨rfl, (bz_t ⟨c_1, c_2⟩).symm⟩ dX4_has_17
set_option maxHeartbeats 1000000 in
set_option maxRecDepth 100000 in
theorem c_X4_add (l : Launch) (D : va_G) (t : Gx) (B N : Nat) (g : Nat → va_E) (i : Nat) (ep ew en : Nat → Int32) (len : Nat) (x y z : Int32) (hi : i + 3 < N) (hR : isRow t B g i ep ew en len) (hn : len < 42) : Cv l D t B N N 0 0 yX4_add cX4_add 4 0 0 g [.ref (B + i), .int x, .int y, .int z] (fun g' => isRow t B g' i (upd ep len x) (upd ew len y) (upd en len z) (len + 1) ∧ ∀ j, (j < i ∨ i + 3 < j) → g' j = g j) := by
  refine Cv.start (by decide) (Nat.le_of_ble_eq_true rfl) ?_
  intro p e s m below meth c ls C hr hlocks hnm hS hl
  replace C : Cx D t p s m [.ref (B + i), .int x, .int y, .int z].toArray c cX4_add 4 RX4 := C
  replace hl : lv_has ls 4 [(0, .ref (B + i)), (1, .int x), (2, .int y), (3, .int z)] := hl
  obtain ⟨e0, e1, e2, e3⟩ := hR
  refine lv_aload_n C.x C.b dX4_add_0 rfl (lv_at hl 0 rfl) ?_
  refine r_get ck4 flX4_21 C hS (by omega) e0 (by decide) rfl dX4_add_1 ?_
  refine lv_bipush (v := 42) C.x C.b dX4_add_4 (by decide) ?_
  refine lv_icmp_lt (tgt := 10) C.x C.b dX4_add_6 (by decide) (fun c_1 => ?_) (fun c_1 => absurd (nI_lt hn (by decide)) c_1)
  refine lv_aload_n C.x C.b dX4_add_10 rfl (lv_at hl 0 rfl) ?_
  refine r_get ck4 flX4_11 C hS (by omega) e0 (by decide) rfl dX4_add_11 ?_
  refine lv_aload_n C.x C.b dX4_add_14 rfl (lv_at hl 0 rfl) ?_
  refine r_get ck4 flX4_21 C hS (by omega) e0 (by decide) rfl dX4_add_15 ?_
  refine lv_iload_n C.x C.b dX4_add_18 rfl (lv_at hl 1 rfl) ?_
  refine r_iastN len rfl (by omega) (by decide) C hS (by omega) e1 dX4_add_19 (fun g_2 H locs e_3 o_4 hS => ?_)
  replace e_3 : g_2 (i + 1) = .inl (t.1, 42, .inl (upd ep len x)) := e_3
  refine lv_aload_n C.x C.b dX4_add_20 rfl (lv_at hl 0 rfl) ?_
  have e_5 : g_2 i = .inr (4, [.ref (B + (i + 1)), .ref (B + (i + 2)), .ref (B + (i + 3)), .int (nI len)]) := (o_4 _ (by omega)).trans e0
  refine r_get ck4 flX4_15 C hS (by omega) e_5 (by decide) rfl dX4_add_21 ?_
  refine lv_aload_n C.x C.b dX4_add_24 rfl (lv_at hl 0 rfl) ?_
  refine r_get ck4 flX4_21 C hS (by omega) e_5 (by decide) rfl dX4_add_25 ?_
  refine lv_iload_n C.x C.b dX4_add_28 rfl (lv_at hl 2 rfl) ?_
  have e_6 : g_2 (i + 2) = .inl (t.1, 42, .inl ew) := (o_4 _ (by omega)).trans e2
  refine r_iastN len rfl (by omega) (by decide) C hS (by omega) e_6 dX4_add_29 (fun g_7 H locs e_8 o_9 hS => ?_)
  replace e_8 : g_7 (i + 2) = .inl (t.1, 42, .inl (upd ew len y)) := e_8
  refine lv_aload_n C.x C.b dX4_add_30 rfl (lv_at hl 0 rfl) ?_
  have e_10 : g_7 i = .inr (4, [.ref (B + (i + 1)), .ref (B + (i + 2)), .ref (B + (i + 3)), .int (nI len)]) := (o_9 _ (by omega)).trans e_5
  refine r_get ck4 flX4_18 C hS (by omega) e_10 (by decide) rfl dX4_add_31 ?_
  refine lv_aload_n C.x C.b dX4_add_34 rfl (lv_at hl 0 rfl) ?_
  refine r_get ck4 flX4_21 C hS (by omega) e_10 (by decide) rfl dX4_add_35 ?_
  refine lv_iload_n C.x C.b dX4_add_38 rfl (lv_at hl 3 rfl) ?_
  have e_11 : g_2 (i + 3) = .inl (t.1, 42, .inl en) := (o_4 _ (by omega)).trans e3
  have e_12 : g_7 (i + 3) = .inl (t.1, 42, .inl en) := (o_9 _ (by omega)).trans e_11
  refine r_iastN len rfl (by omega) (by decide) C hS (by omega) e_12 dX4_add_39 (fun g_13 H locs e_14 o_15 hS => ?_)
  replace e_14 : g_13 (i + 3) = .inl (t.1, 42, .inl (upd en len z)) := e_14
  refine lv_aload_n C.x C.b dX4_add_40 rfl (lv_at hl 0 rfl) ?_
  refine lv_dup C.x C.b dX4_add_41 rfl ?_
  have e_16 : g_13 i = .inr (4, [.ref (B + (i + 1)), .ref (B + (i + 2)), .ref (B + (i + 3)), .int (nI len)]) := (o_15 _ (by omega)).trans e_10
  refine r_get ck4 flX4_21 C hS (by omega) e_16 (by decide) rfl dX4_add_42 ?_
  refine lv_iconst (v := 1) C.x C.b dX4_add_45 (by decide) ?_
  refine lv_iadd C.x C.b dX4_add_46 ?_
  refine r_top (y := nI (len + 1)) (nI_1 len) ?_
  refine r_put ck4 flX4_21 C hS (by omega) e_16 (by decide) rfl rfl rfl (Nat.le_of_ble_eq_true rfl) dX4_add_47 (fun g_17 H locs e_18 o_19 hS => ?_)
  replace e_18 : g_17 i = .inr (4, [.ref (B + (i + 1)), .ref (B + (i + 2)), .ref (B + (i + 3)), .int (nI (len + 1))]) := e_18
  have e_20 : g_7 (i + 1) = .inl (t.1, 42, .inl (upd ep len x)) := (o_9 _ (by omega)).trans e_3
  have e_21 : g_13 (i + 1) = .inl (t.1, 42, .inl (upd ep len x)) := (o_15 _ (by omega)).trans e_20
  have e_22 : g_17 (i + 1) = .inl (t.1, 42, .inl (upd ep len x)) := (o_19 _ (by omega)).trans e_21
  have e_23 : g_13 (i + 2) = .inl (t.1, 42, .inl (upd ew len y)) := (o_15 _ (by omega)).trans e_8
  have e_24 : g_17 (i + 2) = .inl (t.1, 42, .inl (upd ew len y)) := (o_19 _ (by omega)).trans e_23
  have e_25 : g_17 (i + 3) = .inl (t.1, 42, .inl (upd en len z)) := (o_19 _ (by omega)).trans e_14
  exact r_vret C hr hlocks hS ⟨⟨e_18, e_22, e_24, e_25⟩, fun j hj => (o_19 j (by omega)).trans ((o_15 j (by omega)).trans ((o_9 j (by omega)).trans (o_4 j (by omega))))⟩ dX4_add_50
set_option maxHeartbeats 1000000 in
set_option maxRecDepth 100000 in
theorem c_X4_fill (l : Launch) (D : va_G) (t : Gx) (B N : Nat) (g : Nat → va_E) (i : Nat) (ep ew en : Nat → Int32) (len : Nat) (i2 : Nat) (ep2 ew2 en2 ct ec : Nat → Int32) (ln2 : Nat) (st vi an sp : Int32) (ey ev : Int32) (hi : i + 3 < N) (hR : isRow t B g i ep ew en len) (hi2 : i2 + 5 < N) (hd : i + 3 < i2 ∨ i2 + 5 < i) (hR2 : isRun t B g i2 ep2 ew2 en2 ct ec ln2 st vi an sp) (hn2 : ln2 ≤ 40) : Cv l D t B N N 0 0 yX4_fill cX4_fill 5 1 23 g [.ref (B + i), .ref (B + i2), .int ey, .int ev] (fun g' => isRowS t B g' i (fillF ey ev ep2 ew2 en2 ct ec ln2 an sp (ep, ew, en, 0)) ∧ ∀ j, (j < i ∨ i + 3 < j) → g' j = g j) := by
  refine Cv.start (by decide) (Nat.le_of_ble_eq_true rfl) ?_
  intro p e s m below meth c ls C hr hlocks hnm hS hl
  replace C : Cx D t p s m [.ref (B + i), .ref (B + i2), .int ey, .int ev].toArray c cX4_fill 5 RX4 := C
  replace hl : lv_has ls 5 [(0, .ref (B + i)), (1, .ref (B + i2)), (2, .int ey), (3, .int ev)] := hl
  obtain ⟨e0, e1, e2, e3⟩ := hR
  obtain ⟨f0, f1, f2, f3, f4, f5⟩ := hR2
  refine lv_aload_n C.x C.b dX4_fill_0 rfl (lv_at hl 0 rfl) ?_
  refine lv_iconst (v := 0) C.x C.b dX4_fill_1 (by decide) ?_
  refine r_put ck4 flX4_21 C hS (by omega) e0 (by decide) rfl rfl rfl (Nat.le_of_ble_eq_true rfl) dX4_fill_2 (fun g_1 H locs e_2 o_3 hS => ?_)
  replace e_2 : g_1 i = .inr (4, [.ref (B + (i + 1)), .ref (B + (i + 2)), .ref (B + (i + 3)), .int 0]) := e_2
  refine lv_iconst (v := 0) C.x C.b dX4_fill_5 (by decide) ?_
  refine lv_istore (lv' := [(4, .int 0), (0, .ref (B + i)), (1, .ref (B + i2)), (2, .int ey), (3, .int ev)]) C.x C.b dX4_fill_6 hl (by decide) rfl (fun ls hl => ?_)
  have lp_4 : ∀ (u_5 k_6 : Nat) (g_10 : Nat → va_E) (H : Heap) (locs : List Loc) (ls : Array Slot), k_6 + u_5 = ln2 → (g_10 i = .inr (4, [.ref (B + (i + 1)), .ref (B + (i + 2)), .ref (B + (i + 3)), .int (nI (rowF ev ep2 ew2 en2 (ep, ew, en, 0) k_6).2.2.2)])) → (g_10 (i + 1) = .inl (t.1, 42, .inl ((rowF ev ep2 ew2 en2 (ep, ew, en, 0) k_6).1))) → (g_10 (i + 2) = .inl (t.1, 42, .inl ((rowF ev ep2 ew2 en2 (ep, ew, en, 0) k_6).2.1))) → (g_10 (i + 3) = .inl (t.1, 42, .inl ((rowF ev ep2 ew2 en2 (ep, ew, en, 0) k_6).2.2.1))) → (∀ j, (j < i ∨ i + 3 < j) → g_10 j = g_1 j) → St D B s.heap N g_10 H locs → lv_has ls 5 [(0, .ref (B + i)), (1, .ref (B + i2)), (2, .int ey), (3, .int ev), (4, .int (nI k_6))] → W p l e (rmOf 1 23 0 0) s m [.ref (B + i), .ref (B + i2), .int ey, .int ev].toArray below meth c H locs 0 0 (MQ below (qV D B N (fun g' => isRowS t B g' i (fillF ey ev ep2 ew2 en2 ct ec ln2 an sp (ep, ew, en, 0)) ∧ ∀ j, (j < i ∨ i + 3 < j) → g' j = g j)) [.ref (B + i), .ref (B + i2), .int ey, .int ev].toArray s 0 0 (fun q => B ≤ q)) (F0 m 8 ls []) := by
    intro u_5
    induction u_5 with
    | zero =>
      intro k_6 g_10 H locs ls hk_7 e_11 e_12 e_13 e_14 hf_9 hS hl
      obtain rfl : ln2 = k_6 := by omega
      refine lv_iload C.x C.b dX4_fill_8 (lv_at hl 4 rfl) ?_
      refine lv_aload_n C.x C.b dX4_fill_10 rfl (lv_at hl 1 rfl) ?_
      have e_15 : g_1 i2 = .inr (5, [.ref (B + (i2 + 1)), .ref (B + (i2 + 2)), .ref (B + (i2 + 3)), .ref (B + (i2 + 4)), .ref (B + (i2 + 5)), .int (nI ln2), .int st, .int vi, .int an, .int sp]) := (o_3 _ (by omega)).trans f0
      have e_16 : g_10 i2 = .inr (5, [.ref (B + (i2 + 1)), .ref (B + (i2 + 2)), .ref (B + (i2 + 3)), .ref (B + (i2 + 4)), .ref (B + (i2 + 5)), .int (nI ln2), .int st, .int vi, .int an, .int sp]) := (hf_9 _ (by omega)).trans e_15
      refine r_get ck5 flX4_25 C hS (by omega) e_16 (by decide) rfl dX4_fill_11 ?_
      refine lv_icmp_ge (tgt := 62) C.x C.b dX4_fill_14 (by decide) (fun c_17 => ?_) (fun c_17 => absurd (nI_le (Nat.le_refl _) (by omega)) c_17)
      refine lv_iload_n C.x C.b dX4_fill_62 rfl (lv_at hl 2 rfl) ?_
      refine lv_iconst (v := 1) C.x C.b dX4_fill_63 (by decide) ?_
      refine lv_iand C.x C.b dX4_fill_64 ?_
      refine lv_if_eq (tgt := 94) C.x C.b dX4_fill_65 (by decide) (fun c_18 => ?_) (fun c_18 => ?_)
      · skip
        refine lv_iload_n C.x C.b dX4_fill_94 rfl (lv_at hl 2 rfl) ?_
        refine lv_bipush (v := 8) C.x C.b dX4_fill_95 (by decide) ?_
        refine lv_iand C.x C.b dX4_fill_97 ?_
        refine lv_if_eq (tgt := 112) C.x C.b dX4_fill_98 (by decide) (fun c_19 => ?_) (fun c_19 => ?_)
        · skip
          exact r_vret C hr hlocks hS ⟨by rw [fillF, rowA, rowC, if_pos c_19, if_pos c_18]; exact ⟨e_11, e_12, e_13, e_14⟩, fun j hj => (hf_9 j (by omega)).trans (o_3 j (by omega))⟩ dX4_fill_112
        · skip
          refine lv_aload_n C.x C.b dX4_fill_101 rfl (lv_at hl 0 rfl) ?_
          refine lv_iconst (v := (-1)) C.x C.b dX4_fill_102 (by decide) ?_
          refine lv_bipush (v := 8) C.x C.b dX4_fill_103 (by decide) ?_
          refine lv_aload_n C.x C.b dX4_fill_105 rfl (lv_at hl 1 rfl) ?_
          refine r_get ck5 flX4_43 C hS (by omega) e_16 (by decide) rfl dX4_fill_106 ?_
          refine r_callVv (b := i) (As := [.int (-1), .int 8, .int an]) (rest := []) (c_X4_add l D t B N g_10 i _ _ _ ((rowF ev ep2 ew2 en2 (ep, ew, en, 0) ln2).2.2.2) (-1) 8 an (by omega) ⟨e_11, e_12, e_13, e_14⟩ (by have := rowF_le ev ep2 ew2 en2 ep ew en ln2; omega)) mf_yX4_add mlX4_31 im_yX4_add se_yX4_add (by decide) C hS (by omega) e_11 (show vwCl[4]? = some _ from rfl) rfl rfl hl.1 rfl (Nat.le_of_ble_eq_true rfl) dX4_fill_109 ⟨Nat.zero_le _, Nat.zero_le _⟩ (fun g_20 H locs w_21 hS => ?_)
          obtain ⟨⟨e_23, e_24, e_25, e_26⟩, hf_27⟩ := w_21
          exact r_vret C hr hlocks hS ⟨by rw [fillF, rowA, rowC, if_neg c_19, if_pos c_18]; exact ⟨e_23, e_24, e_25, e_26⟩, fun j hj => (hf_27 j (by omega)).trans ((hf_9 j (by omega)).trans (o_3 j (by omega)))⟩ dX4_fill_112
      · skip
        refine lv_aload_n C.x C.b dX4_fill_68 rfl (lv_at hl 0 rfl) ?_
        refine lv_iconst (v := (-1)) C.x C.b dX4_fill_69 (by decide) ?_
        refine lv_iconst (v := 1) C.x C.b dX4_fill_70 (by decide) ?_
        refine lv_iconst (v := 2) C.x C.b dX4_fill_71 (by decide) ?_
        refine lv_aload_n C.x C.b dX4_fill_72 rfl (lv_at hl 1 rfl) ?_
        refine lv_iload_n C.x C.b dX4_fill_73 rfl (lv_at hl 3 rfl) ?_
        have e_28 : g_1 (i2 + 1) = .inl (t.1, 40, .inl ep2) := (o_3 _ (by omega)).trans f1
        have e_29 : g_10 (i2 + 1) = .inl (t.1, 40, .inl ep2) := (hf_9 _ (by omega)).trans e_28
        have e_30 : g_1 (i2 + 2) = .inl (t.1, 40, .inl ew2) := (o_3 _ (by omega)).trans f2
        have e_31 : g_10 (i2 + 2) = .inl (t.1, 40, .inl ew2) := (hf_9 _ (by omega)).trans e_30
        have e_32 : g_1 (i2 + 3) = .inl (t.1, 40, .inl en2) := (o_3 _ (by omega)).trans f3
        have e_33 : g_10 (i2 + 3) = .inl (t.1, 40, .inl en2) := (hf_9 _ (by omega)).trans e_32
        have e_34 : g_1 (i2 + 4) = .inl (t.1, 8, .inl ct) := (o_3 _ (by omega)).trans f4
        have e_35 : g_10 (i2 + 4) = .inl (t.1, 8, .inl ct) := (hf_9 _ (by omega)).trans e_34
        have e_36 : g_1 (i2 + 5) = .inl (t.1, 8, .inl ec) := (o_3 _ (by omega)).trans f5
        have e_37 : g_10 (i2 + 5) = .inl (t.1, 8, .inl ec) := (hf_9 _ (by omega)).trans e_36
        refine r_callV (b := i2) (As := [.int ev]) (rest := [.int 2, .int 1, .int (-1), .ref (B + i)]) (c_X5_costWith l D t B N g_10 i2 _ _ _ _ _ _ _ _ _ _ ev (by omega) ⟨e_16, e_29, e_31, e_33, e_35, e_37⟩) mf_yX5_costWith mlX4_35 im_yX5_costWith se_yX5_costWith (by decide) C hS (by omega) e_16 (show vwCl[5]? = some _ from rfl) rfl rfl hl.1 rfl (Nat.le_of_ble_eq_true rfl) dX4_fill_74 ⟨Nat.zero_le _, Nat.zero_le _⟩ (fun r_40 g_38 H locs w_39 hS => ?_)
        obtain ⟨rfl, er_40⟩ := w_39
        subst er_40
        refine lv_imul C.x C.b dX4_fill_77 ?_
        refine lv_aload_n C.x C.b dX4_fill_78 rfl (lv_at hl 1 rfl) ?_
        refine r_get ck5 flX4_39 C hS (by omega) e_16 (by decide) rfl dX4_fill_79 ?_
        refine lv_if_eq (tgt := 89) C.x C.b dX4_fill_82 (by decide) (fun c_41 => ?_) (fun c_41 => ?_)
        · skip
          refine lv_iconst (v := 0) C.x C.b dX4_fill_89 (by decide) ?_
          refine lv_iadd C.x C.b dX4_fill_90 ?_
          refine r_callVv (b := i) (As := [.int (-1), .int 1, .int ((2 * (cwF ct ec ev 8)) + 0)]) (rest := []) (c_X4_add l D t B N g_10 i _ _ _ ((rowF ev ep2 ew2 en2 (ep, ew, en, 0) ln2).2.2.2) (-1) 1 ((2 * (cwF ct ec ev 8)) + 0) (by omega) ⟨e_11, e_12, e_13, e_14⟩ (Nat.lt_of_le_of_lt (rowF_le ev ep2 ew2 en2 ep ew en _) (by omega))) mf_yX4_add mlX4_31 im_yX4_add se_yX4_add (by decide) C hS (by omega) e_11 (show vwCl[4]? = some _ from rfl) rfl rfl hl.1 rfl (Nat.le_of_ble_eq_true rfl) dX4_fill_91 ⟨Nat.zero_le _, Nat.zero_le _⟩ (fun g_42 H locs w_43 hS => ?_)
          obtain ⟨⟨e_45, e_46, e_47, e_48⟩, hf_49⟩ := w_43
          refine lv_iload_n C.x C.b dX4_fill_94 rfl (lv_at hl 2 rfl) ?_
          refine lv_bipush (v := 8) C.x C.b dX4_fill_95 (by decide) ?_
          refine lv_iand C.x C.b dX4_fill_97 ?_
          refine lv_if_eq (tgt := 112) C.x C.b dX4_fill_98 (by decide) (fun c_50 => ?_) (fun c_50 => ?_)
          · skip
            exact r_vret C hr hlocks hS ⟨by rw [fillF, rowA, rowC, if_pos c_50, if_neg c_18, if_pos c_41]; exact ⟨e_45, e_46, e_47, e_48⟩, fun j hj => (hf_49 j (by omega)).trans ((hf_9 j (by omega)).trans (o_3 j (by omega)))⟩ dX4_fill_112
          · skip
            refine lv_aload_n C.x C.b dX4_fill_101 rfl (lv_at hl 0 rfl) ?_
            refine lv_iconst (v := (-1)) C.x C.b dX4_fill_102 (by decide) ?_
            refine lv_bipush (v := 8) C.x C.b dX4_fill_103 (by decide) ?_
            refine lv_aload_n C.x C.b dX4_fill_105 rfl (lv_at hl 1 rfl) ?_
            have e_51 : g_42 i2 = .inr (5, [.ref (B + (i2 + 1)), .ref (B + (i2 + 2)), .ref (B + (i2 + 3)), .ref (B + (i2 + 4)), .ref (B + (i2 + 5)), .int (nI ln2), .int st, .int vi, .int an, .int sp]) := (hf_49 _ (by omega)).trans e_16
            refine r_get ck5 flX4_43 C hS (by omega) e_51 (by decide) rfl dX4_fill_106 ?_
            refine r_callVv (b := i) (As := [.int (-1), .int 8, .int an]) (rest := []) (c_X4_add l D t B N g_42 i _ _ _ (((rowF ev ep2 ew2 en2 (ep, ew, en, 0) ln2).2.2.2) + 1) (-1) 8 an (by omega) ⟨e_45, e_46, e_47, e_48⟩ (by have := rowF_le ev ep2 ew2 en2 ep ew en ln2; omega)) mf_yX4_add mlX4_31 im_yX4_add se_yX4_add (by decide) C hS (by omega) e_45 (show vwCl[4]? = some _ from rfl) rfl rfl hl.1 rfl (Nat.le_of_ble_eq_true rfl) dX4_fill_109 ⟨Nat.zero_le _, Nat.zero_le _⟩ (fun g_52 H locs w_53 hS => ?_)
            obtain ⟨⟨e_55, e_56, e_57, e_58⟩, hf_59⟩ := w_53
            exact r_vret C hr hlocks hS ⟨by rw [fillF, rowA, rowC, if_neg c_50, if_neg c_18, if_pos c_41]; exact ⟨e_55, e_56, e_57, e_58⟩, fun j hj => (hf_59 j (by omega)).trans ((hf_49 j (by omega)).trans ((hf_9 j (by omega)).trans (o_3 j (by omega))))⟩ dX4_fill_112
        · skip
          refine lv_iconst (v := 1) C.x C.b dX4_fill_85 (by decide) ?_
          refine lv_goto (tgt := 90) C.x C.b dX4_fill_86 (by decide) ?_
          refine lv_iadd C.x C.b dX4_fill_90 ?_
          refine r_callVv (b := i) (As := [.int (-1), .int 1, .int ((2 * (cwF ct ec ev 8)) + 1)]) (rest := []) (c_X4_add l D t B N g_10 i _ _ _ ((rowF ev ep2 ew2 en2 (ep, ew, en, 0) ln2).2.2.2) (-1) 1 ((2 * (cwF ct ec ev 8)) + 1) (by omega) ⟨e_11, e_12, e_13, e_14⟩ (Nat.lt_of_le_of_lt (rowF_le ev ep2 ew2 en2 ep ew en _) (by omega))) mf_yX4_add mlX4_31 im_yX4_add se_yX4_add (by decide) C hS (by omega) e_11 (show vwCl[4]? = some _ from rfl) rfl rfl hl.1 rfl (Nat.le_of_ble_eq_true rfl) dX4_fill_91 ⟨Nat.zero_le _, Nat.zero_le _⟩ (fun g_60 H locs w_61 hS => ?_)
          obtain ⟨⟨e_63, e_64, e_65, e_66⟩, hf_67⟩ := w_61
          refine lv_iload_n C.x C.b dX4_fill_94 rfl (lv_at hl 2 rfl) ?_
          refine lv_bipush (v := 8) C.x C.b dX4_fill_95 (by decide) ?_
          refine lv_iand C.x C.b dX4_fill_97 ?_
          refine lv_if_eq (tgt := 112) C.x C.b dX4_fill_98 (by decide) (fun c_68 => ?_) (fun c_68 => ?_)
          · skip
            exact r_vret C hr hlocks hS ⟨by rw [fillF, rowA, rowC, if_pos c_68, if_neg c_18, if_neg c_41]; exact ⟨e_63, e_64, e_65, e_66⟩, fun j hj => (hf_67 j (by omega)).trans ((hf_9 j (by omega)).trans (o_3 j (by omega)))⟩ dX4_fill_112
          · skip
            refine lv_aload_n C.x C.b dX4_fill_101 rfl (lv_at hl 0 rfl) ?_
            refine lv_iconst (v := (-1)) C.x C.b dX4_fill_102 (by decide) ?_
            refine lv_bipush (v := 8) C.x C.b dX4_fill_103 (by decide) ?_
            refine lv_aload_n C.x C.b dX4_fill_105 rfl (lv_at hl 1 rfl) ?_
            have e_69 : g_60 i2 = .inr (5, [.ref (B + (i2 + 1)), .ref (B + (i2 + 2)), .ref (B + (i2 + 3)), .ref (B + (i2 + 4)), .ref (B + (i2 + 5)), .int (nI ln2), .int st, .int vi, .int an, .int sp]) := (hf_67 _ (by omega)).trans e_16
            refine r_get ck5 flX4_43 C hS (by omega) e_69 (by decide) rfl dX4_fill_106 ?_
            refine r_callVv (b := i) (As := [.int (-1), .int 8, .int an]) (rest := []) (c_X4_add l D t B N g_60 i _ _ _ (((rowF ev ep2 ew2 en2 (ep, ew, en, 0) ln2).2.2.2) + 1) (-1) 8 an (by omega) ⟨e_63, e_64, e_65, e_66⟩ (by have := rowF_le ev ep2 ew2 en2 ep ew en ln2; omega)) mf_yX4_add mlX4_31 im_yX4_add se_yX4_add (by decide) C hS (by omega) e_63 (show vwCl[4]? = some _ from rfl) rfl rfl hl.1 rfl (Nat.le_of_ble_eq_true rfl) dX4_fill_109 ⟨Nat.zero_le _, Nat.zero_le _⟩ (fun g_70 H locs w_71 hS => ?_)
            obtain ⟨⟨e_73, e_74, e_75, e_76⟩, hf_77⟩ := w_71
            exact r_vret C hr hlocks hS ⟨by rw [fillF, rowA, rowC, if_neg c_68, if_neg c_18, if_neg c_41]; exact ⟨e_73, e_74, e_75, e_76⟩, fun j hj => (hf_77 j (by omega)).trans ((hf_67 j (by omega)).trans ((hf_9 j (by omega)).trans (o_3 j (by omega))))⟩ dX4_fill_112
    | succ u_5 ih_8 =>
      intro k_6 g_10 H locs ls hk_7 e_11 e_12 e_13 e_14 hf_9 hS hl
      refine lv_iload C.x C.b dX4_fill_8 (lv_at hl 4 rfl) ?_
      refine lv_aload_n C.x C.b dX4_fill_10 rfl (lv_at hl 1 rfl) ?_
      have e_78 : g_1 i2 = .inr (5, [.ref (B + (i2 + 1)), .ref (B + (i2 + 2)), .ref (B + (i2 + 3)), .ref (B + (i2 + 4)), .ref (B + (i2 + 5)), .int (nI ln2), .int st, .int vi, .int an, .int sp]) := (o_3 _ (by omega)).trans f0
      have e_79 : g_10 i2 = .inr (5, [.ref (B + (i2 + 1)), .ref (B + (i2 + 2)), .ref (B + (i2 + 3)), .ref (B + (i2 + 4)), .ref (B + (i2 + 5)), .int (nI ln2), .int st, .int vi, .int an, .int sp]) := (hf_9 _ (by omega)).trans e_78
      refine r_get ck5 flX4_25 C hS (by omega) e_79 (by decide) rfl dX4_fill_11 ?_
      refine lv_icmp_ge (tgt := 62) C.x C.b dX4_fill_14 (by decide) (fun c_80 => absurd c_80 (nI_ge (a := k_6) (b := ln2) (by omega) (by omega))) (fun c_80 => ?_)
      refine lv_iload_n C.x C.b dX4_fill_17 rfl (lv_at hl 3 rfl) ?_
      refine lv_aload_n C.x C.b dX4_fill_18 rfl (lv_at hl 1 rfl) ?_
      refine r_get ck5 flX4_28 C hS (by omega) e_79 (by decide) rfl dX4_fill_19 ?_
      refine lv_iload C.x C.b dX4_fill_22 (lv_at hl 4 rfl) ?_
      have e_81 : g_1 (i2 + 1) = .inl (t.1, 40, .inl ep2) := (o_3 _ (by omega)).trans f1
      have e_82 : g_10 (i2 + 1) = .inl (t.1, 40, .inl ep2) := (hf_9 _ (by omega)).trans e_81
      refine r_ialdN k_6 rfl (by omega) (by decide) C hS (by omega) e_82 dX4_fill_24 ?_
      refine lv_ishr C.x C.b dX4_fill_25 ?_
      refine lv_iconst (v := 1) C.x C.b dX4_fill_26 (by decide) ?_
      refine lv_iand C.x C.b dX4_fill_27 ?_
      refine lv_if_ne (tgt := 56) C.x C.b dX4_fill_28 (by decide) (fun c_83 => ?_) (fun c_83 => ?_)
      · skip
        refine lv_iinc (v := nI (k_6 + 1)) (lv' := [(4, .int (nI (k_6 + 1))), (0, .ref (B + i)), (1, .ref (B + i2)), (2, .int ey), (3, .int ev)]) C.x C.b dX4_fill_56 hl (k := 4) rfl (nI_1 k_6) (by decide) rfl (fun ls hl => ?_)
        refine lv_goto (tgt := 8) C.x C.b dX4_fill_59 (by decide) ?_
        have z_84 : (rowF ev ep2 ew2 en2 (ep, ew, en, 0) (k_6 + 1)) = (rowF ev ep2 ew2 en2 (ep, ew, en, 0) k_6) := if_neg c_83
        exact ih_8 (k_6 + 1) g_10 _ _ _ (by omega) (by rw [z_84]; exact e_11) (by rw [z_84]; exact e_12) (by rw [z_84]; exact e_13) (by rw [z_84]; exact e_14) (fun j hj => hf_9 j hj) hS (lv_sub hl [1, 2, 3, 4, 0] rfl)
      · skip
        refine lv_aload_n C.x C.b dX4_fill_31 rfl (lv_at hl 0 rfl) ?_
        refine lv_aload_n C.x C.b dX4_fill_32 rfl (lv_at hl 1 rfl) ?_
        refine r_get ck5 flX4_28 C hS (by omega) e_79 (by decide) rfl dX4_fill_33 ?_
        refine lv_iload C.x C.b dX4_fill_36 (lv_at hl 4 rfl) ?_
        refine r_ialdN k_6 rfl (by omega) (by decide) C hS (by omega) e_82 dX4_fill_38 ?_
        refine lv_aload_n C.x C.b dX4_fill_39 rfl (lv_at hl 1 rfl) ?_
        refine r_get ck5 flX4_29 C hS (by omega) e_79 (by decide) rfl dX4_fill_40 ?_
        refine lv_iload C.x C.b dX4_fill_43 (lv_at hl 4 rfl) ?_
        have e_85 : g_1 (i2 + 2) = .inl (t.1, 40, .inl ew2) := (o_3 _ (by omega)).trans f2
        have e_86 : g_10 (i2 + 2) = .inl (t.1, 40, .inl ew2) := (hf_9 _ (by omega)).trans e_85
        refine r_ialdN k_6 rfl (by omega) (by decide) C hS (by omega) e_86 dX4_fill_45 ?_
        refine lv_aload_n C.x C.b dX4_fill_46 rfl (lv_at hl 1 rfl) ?_
        refine r_get ck5 flX4_30 C hS (by omega) e_79 (by decide) rfl dX4_fill_47 ?_
        refine lv_iload C.x C.b dX4_fill_50 (lv_at hl 4 rfl) ?_
        have e_87 : g_1 (i2 + 3) = .inl (t.1, 40, .inl en2) := (o_3 _ (by omega)).trans f3
        have e_88 : g_10 (i2 + 3) = .inl (t.1, 40, .inl en2) := (hf_9 _ (by omega)).trans e_87
        refine r_ialdN k_6 rfl (by omega) (by decide) C hS (by omega) e_88 dX4_fill_52 ?_
        refine r_callVv (b := i) (As := [.int (ep2 k_6), .int (ew2 k_6), .int (en2 k_6)]) (rest := []) (c_X4_add l D t B N g_10 i _ _ _ ((rowF ev ep2 ew2 en2 (ep, ew, en, 0) k_6).2.2.2) (ep2 k_6) (ew2 k_6) (en2 k_6) (by omega) ⟨e_11, e_12, e_13, e_14⟩ (Nat.lt_of_le_of_lt (rowF_le ev ep2 ew2 en2 ep ew en _) (by omega))) mf_yX4_add mlX4_31 im_yX4_add se_yX4_add (by decide) C hS (by omega) e_11 (show vwCl[4]? = some _ from rfl) rfl rfl hl.1 rfl (Nat.le_of_ble_eq_true rfl) dX4_fill_53 ⟨Nat.zero_le _, Nat.zero_le _⟩ (fun g_89 H locs w_90 hS => ?_)
        obtain ⟨⟨e_92, e_93, e_94, e_95⟩, hf_96⟩ := w_90
        refine lv_iinc (v := nI (k_6 + 1)) (lv' := [(4, .int (nI (k_6 + 1))), (0, .ref (B + i)), (1, .ref (B + i2)), (2, .int ey), (3, .int ev)]) C.x C.b dX4_fill_56 hl (k := 4) rfl (nI_1 k_6) (by decide) rfl (fun ls hl => ?_)
        refine lv_goto (tgt := 8) C.x C.b dX4_fill_59 (by decide) ?_
        have z_97 : (rowF ev ep2 ew2 en2 (ep, ew, en, 0) (k_6 + 1)) = radd (rowF ev ep2 ew2 en2 (ep, ew, en, 0) k_6) (ep2 k_6) (ew2 k_6) (en2 k_6) := if_pos c_83
        exact ih_8 (k_6 + 1) g_89 _ _ _ (by omega) (by rw [z_97]; exact e_92) (by rw [z_97]; exact e_93) (by rw [z_97]; exact e_94) (by rw [z_97]; exact e_95) (fun j hj => (hf_96 j (by omega)).trans (hf_9 j hj)) hS (lv_sub hl [1, 2, 3, 4, 0] rfl)
  have e_98 : g_1 (i + 1) = .inl (t.1, 42, .inl ep) := (o_3 _ (by omega)).trans e1
  have e_99 : g_1 (i + 2) = .inl (t.1, 42, .inl ew) := (o_3 _ (by omega)).trans e2
  have e_100 : g_1 (i + 3) = .inl (t.1, 42, .inl en) := (o_3 _ (by omega)).trans e3
  exact lp_4 ln2 0 g_1 _ _ _ (by omega) e_2 e_98 e_99 e_100 (fun _ _ => rfl) hS (lv_sub hl [1, 2, 3, 4, 0] rfl)
set_option maxHeartbeats 1000000 in
set_option maxRecDepth 100000 in
theorem c_J6_bitCount_0f7a4 (l : Launch) (D : va_G) (t : Gx) (B N : Nat) (g : Nat → va_E) (x : Int32)  : Ci l D t B N yJ6_bitCount_0f7a4 cJ6_bitCount_0f7a4 1 (some .int) 0 0 g [.int x] (fun r g' => g = g' ∧ r = bcF x) := by
  refine Ci.start (by decide) (Nat.le_of_ble_eq_true rfl) ?_
  intro p e s m below meth c ls C hr hlocks hS hl
  replace C : Cx D t p s m [.int x].toArray c cJ6_bitCount_0f7a4 1 RJ6 := C
  replace hl : lv_has ls 1 [(0, .int x)] := hl
  refine lv_iload_n C.x C.b dJ6_bitCount_0f7a4_0 rfl (lv_at hl 0 rfl) ?_
  refine lv_iload_n C.x C.b dJ6_bitCount_0f7a4_1 rfl (lv_at hl 0 rfl) ?_
  refine lv_iconst (v := 1) C.x C.b dJ6_bitCount_0f7a4_2 (by decide) ?_
  refine lv_iushr (v := (ush x 1)) C.x C.b dJ6_bitCount_0f7a4_3 rfl ?_
  refine lv_ldcw (v := 1431655765) C.x C.b C.o (C.w kkJ6_265) dJ6_bitCount_0f7a4_4 ?_
  refine lv_iand C.x C.b dJ6_bitCount_0f7a4_7 ?_
  refine lv_isub C.x C.b dJ6_bitCount_0f7a4_8 ?_
  refine r_top (y := (bc1 x)) (rfl) ?_
  refine lv_istore_n (lv' := [(0, .int (bc1 x))]) C.x C.b dJ6_bitCount_0f7a4_9 rfl hl (by decide) rfl (fun ls hl => ?_)
  refine lv_iload_n C.x C.b dJ6_bitCount_0f7a4_10 rfl (lv_at hl 0 rfl) ?_
  refine lv_ldcw (v := 858993459) C.x C.b C.o (C.w kkJ6_266) dJ6_bitCount_0f7a4_11 ?_
  refine lv_iand C.x C.b dJ6_bitCount_0f7a4_14 ?_
  refine lv_iload_n C.x C.b dJ6_bitCount_0f7a4_15 rfl (lv_at hl 0 rfl) ?_
  refine lv_iconst (v := 2) C.x C.b dJ6_bitCount_0f7a4_16 (by decide) ?_
  refine lv_iushr (v := (ush (bc1 x) 2)) C.x C.b dJ6_bitCount_0f7a4_17 rfl ?_
  refine lv_ldcw (v := 858993459) C.x C.b C.o (C.w kkJ6_266) dJ6_bitCount_0f7a4_18 ?_
  refine lv_iand C.x C.b dJ6_bitCount_0f7a4_21 ?_
  refine lv_iadd C.x C.b dJ6_bitCount_0f7a4_22 ?_
  refine r_top (y := (bc2 (bc1 x))) (rfl) ?_
  refine lv_istore_n (lv' := [(0, .int (bc2 (bc1 x)))]) C.x C.b dJ6_bitCount_0f7a4_23 rfl hl (by decide) rfl (fun ls hl => ?_)
  refine lv_iload_n C.x C.b dJ6_bitCount_0f7a4_24 rfl (lv_at hl 0 rfl) ?_
  refine lv_iload_n C.x C.b dJ6_bitCount_0f7a4_25 rfl (lv_at hl 0 rfl) ?_
  refine lv_iconst (v := 4) C.x C.b dJ6_bitCount_0f7a4_26 (by decide) ?_
  refine lv_iushr (v := (ush (bc2 (bc1 x)) 4)) C.x C.b dJ6_bitCount_0f7a4_27 rfl ?_
  refine lv_iadd C.x C.b dJ6_bitCount_0f7a4_28 ?_
  refine lv_ldcw (v := 252645135) C.x C.b C.o (C.w kkJ6_267) dJ6_bitCount_0f7a4_29 ?_
  refine lv_iand C.x C.b dJ6_bitCount_0f7a4_32 ?_
  refine r_top (y := (bc3 (bc2 (bc1 x)))) (rfl) ?_
  refine lv_istore_n (lv' := [(0, .int (bc3 (bc2 (bc1 x))))]) C.x C.b dJ6_bitCount_0f7a4_33 rfl hl (by decide) rfl (fun ls hl => ?_)
  refine lv_iload_n C.x C.b dJ6_bitCount_0f7a4_34 rfl (lv_at hl 0 rfl) ?_
  refine lv_iload_n C.x C.b dJ6_bitCount_0f7a4_35 rfl (lv_at hl 0 rfl) ?_
  refine lv_bipush (v := 8) C.x C.b dJ6_bitCount_0f7a4_36 (by decide) ?_
  refine lv_iushr (v := (ush (bc3 (bc2 (bc1 x))) 8)) C.x C.b dJ6_bitCount_0f7a4_38 rfl ?_
  refine lv_iadd C.x C.b dJ6_bitCount_0f7a4_39 ?_
  refine r_top (y := (bc4 (bc3 (bc2 (bc1 x))))) (rfl) ?_
  refine lv_istore_n (lv' := [(0, .int (bc4 (bc3 (bc2 (bc1 x)))))]) C.x C.b dJ6_bitCount_0f7a4_40 rfl hl (by decide) rfl (fun ls hl => ?_)
  refine lv_iload_n C.x C.b dJ6_bitCount_0f7a4_41 rfl (lv_at hl 0 rfl) ?_
  refine lv_iload_n C.x C.b dJ6_bitCount_0f7a4_42 rfl (lv_at hl 0 rfl) ?_
  refine lv_bipush (v := 16) C.x C.b dJ6_bitCount_0f7a4_43 (by decide) ?_
  refine lv_iushr (v := (ush (bc4 (bc3 (bc2 (bc1 x)))) 16)) C.x C.b dJ6_bitCount_0f7a4_45 rfl ?_
  refine lv_iadd C.x C.b dJ6_bitCount_0f7a4_46 ?_
  refine r_top (y := (bc5 (bc4 (bc3 (bc2 (bc1 x)))))) (rfl) ?_
  refine lv_istore_n (lv' := [(0, .int (bc5 (bc4 (bc3 (bc2 (bc1 x))))))]) C.x C.b dJ6_bitCount_0f7a4_47 rfl hl (by decide) rfl (fun ls hl => ?_)
  refine lv_iload_n C.x C.b dJ6_bitCount_0f7a4_48 rfl (lv_at hl 0 rfl) ?_
  refine lv_bipush (v := 63) C.x C.b dJ6_bitCount_0f7a4_49 (by decide) ?_
  refine lv_iand C.x C.b dJ6_bitCount_0f7a4_51 ?_
  exact r_iret C hr hlocks hS ⟨rfl, rfl⟩ dJ6_bitCount_0f7a4_52
set_option maxHeartbeats 1000000 in
set_option maxRecDepth 100000 in
theorem c_X4_firstOtherwise (l : Launch) (D : va_G) (t : Gx) (B N : Nat) (g : Nat → va_E) (i : Nat) (ep ew en : Nat → Int32) (len : Nat) (i2 : Nat) (ep2 ew2 en2 : Nat → Int32) (len2 : Nat) (hi : i + 3 < N) (hR : isRow t B g i ep ew en len) (hi2 : i2 + 3 < N) (hR2 : isRow t B g i2 ep2 ew2 en2 len2) (hn : len ≤ 42) (hn2 : len2 ≤ 42) : Ci l D t B N yX4_firstOtherwise cX4_firstOtherwise 4 (some .int) 1 13 g [.ref (B + i), .ref (B + i2)] (fun r g' => g = g' ∧ foS ew en len ew2 en2 len2 r) := by
  refine Ci.start (by decide) (Nat.le_of_ble_eq_true rfl) ?_
  intro p e s m below meth c ls C hr hlocks hS hl
  replace C : Cx D t p s m [.ref (B + i), .ref (B + i2)].toArray c cX4_firstOtherwise 4 RX4 := C
  replace hl : lv_has ls 4 [(0, .ref (B + i)), (1, .ref (B + i2))] := hl
  obtain ⟨e0, e1, e2, e3⟩ := hR
  obtain ⟨f0, f1, f2, f3⟩ := hR2
  refine lv_aload_n C.x C.b dX4_firstOtherwise_0 rfl (lv_at hl 0 rfl) ?_
  refine r_get ck4 flX4_21 C hS (by omega) e0 (by decide) rfl dX4_firstOtherwise_1 ?_
  refine lv_aload_n C.x C.b dX4_firstOtherwise_4 rfl (lv_at hl 1 rfl) ?_
  refine r_get ck4 flX4_21 C hS (by omega) f0 (by decide) rfl dX4_firstOtherwise_5 ?_
  refine r_mmin mlX4_46 C hl.1 (by decide) (Nat.le_of_ble_eq_true rfl) ⟨Nat.zero_le _, Nat.zero_le _⟩ dX4_firstOtherwise_8 ?_
  refine r_top (y := nI (min len len2)) (minF_nI (by omega) (by omega)) ?_
  refine lv_istore_n (lv' := [(2, .int (nI (min len len2))), (0, .ref (B + i)), (1, .ref (B + i2))]) C.x C.b dX4_firstOtherwise_11 rfl hl (by decide) rfl (fun ls hl => ?_)
  refine lv_iconst (v := 0) C.x C.b dX4_firstOtherwise_12 (by decide) ?_
  refine lv_istore_n (lv' := [(3, .int 0), (2, .int (nI (min len len2))), (0, .ref (B + i)), (1, .ref (B + i2))]) C.x C.b dX4_firstOtherwise_13 rfl hl (by decide) rfl (fun ls hl => ?_)
  have lp_1 : ∀ (u_2 k_3 : Nat) (H : Heap) (locs : List Loc) (ls : Array Slot), k_3 + u_2 = (min len len2) → (∀ q, q < k_3 → ew q = ew2 q ∧ en q = en2 q) → St D B s.heap N g H locs → lv_has ls 4 [(2, .int (nI (min len len2))), (0, .ref (B + i)), (1, .ref (B + i2)), (3, .int (nI k_3))] → W p l e (rmOf 1 13 0 0) s m [.ref (B + i), .ref (B + i2)].toArray below meth c H locs 0 0 (MQ below (qI D B N (fun r g' => g = g' ∧ foS ew en len ew2 en2 len2 r)) [.ref (B + i), .ref (B + i2)].toArray s 0 0 (fun q => B ≤ q)) (F0 m 14 ls []) := by
    intro u_2
    induction u_2 with
    | zero =>
      intro k_3 H locs ls hk_4 hq hS hl
      obtain rfl : (min len len2) = k_3 := by omega
      refine lv_iload_n C.x C.b dX4_firstOtherwise_14 rfl (lv_at hl 3 rfl) ?_
      refine lv_iload_n C.x C.b dX4_firstOtherwise_15 rfl (lv_at hl 0 rfl) ?_
      refine lv_icmp_ge (tgt := 57) C.x C.b dX4_firstOtherwise_16 (by decide) (fun c_7 => ?_) (fun c_7 => absurd (nI_le (Nat.le_refl _) (by omega)) c_7)
      refine lv_aload_n C.x C.b dX4_firstOtherwise_57 rfl (lv_at hl 1 rfl) ?_
      refine r_get ck4 flX4_21 C hS (by omega) e0 (by decide) rfl dX4_firstOtherwise_58 ?_
      refine lv_aload_n C.x C.b dX4_firstOtherwise_61 rfl (lv_at hl 2 rfl) ?_
      refine r_get ck4 flX4_21 C hS (by omega) f0 (by decide) rfl dX4_firstOtherwise_62 ?_
      refine lv_icmp_ne (tgt := 72) C.x C.b dX4_firstOtherwise_65 (by decide) (fun c_8 => ?_) (fun c_8 => ?_)
      · skip
        refine lv_iload_n C.x C.b dX4_firstOtherwise_72 rfl (lv_at hl 0 rfl) ?_
        have hll : ¬ len = len2 := fun q => c_8 (by rw [q])
        exact r_iret C hr hlocks hS ⟨rfl, Or.inr ⟨min len len2, by omega, by omega, by omega, hq, fun _ _ => by omega, rfl⟩⟩ dX4_firstOtherwise_73
      · skip
        refine lv_iconst (v := (-1)) C.x C.b dX4_firstOtherwise_68 (by decide) ?_
        refine lv_goto (tgt := 73) C.x C.b dX4_firstOtherwise_69 (by decide) ?_
        have hll : len = len2 := (nI_eq (by omega) (by omega)).mp c_8
        exact r_iret C hr hlocks hS ⟨rfl, Or.inl ⟨hll, fun q h => hq q (by omega), rfl⟩⟩ dX4_firstOtherwise_73
    | succ u_2 ih_5 =>
      intro k_3 H locs ls hk_4 hq hS hl
      refine lv_iload_n C.x C.b dX4_firstOtherwise_14 rfl (lv_at hl 3 rfl) ?_
      refine lv_iload_n C.x C.b dX4_firstOtherwise_15 rfl (lv_at hl 0 rfl) ?_
      refine lv_icmp_ge (tgt := 57) C.x C.b dX4_firstOtherwise_16 (by decide) (fun c_9 => absurd c_9 (nI_ge (a := k_3) (b := (min len len2)) (by omega) (by omega))) (fun c_9 => ?_)
      refine lv_aload_n C.x C.b dX4_firstOtherwise_19 rfl (lv_at hl 1 rfl) ?_
      refine r_get ck4 flX4_15 C hS (by omega) e0 (by decide) rfl dX4_firstOtherwise_20 ?_
      refine lv_iload_n C.x C.b dX4_firstOtherwise_23 rfl (lv_at hl 3 rfl) ?_
      refine r_ialdN k_3 rfl (by omega) (by decide) C hS (by omega) e2 dX4_firstOtherwise_24 ?_
      refine lv_aload_n C.x C.b dX4_firstOtherwise_25 rfl (lv_at hl 2 rfl) ?_
      refine r_get ck4 flX4_15 C hS (by omega) f0 (by decide) rfl dX4_firstOtherwise_26 ?_
      refine lv_iload_n C.x C.b dX4_firstOtherwise_29 rfl (lv_at hl 3 rfl) ?_
      refine r_ialdN k_3 rfl (by omega) (by decide) C hS (by omega) f2 dX4_firstOtherwise_30 ?_
      refine lv_icmp_ne (tgt := 49) C.x C.b dX4_firstOtherwise_31 (by decide) (fun c_10 => ?_) (fun c_10 => ?_)
      · skip
        refine lv_iload_n C.x C.b dX4_firstOtherwise_49 rfl (lv_at hl 3 rfl) ?_
        exact r_iret C hr hlocks hS ⟨rfl, Or.inr ⟨k_3, by omega, by omega, by omega, hq, fun _ _ q => c_10 q.1, rfl⟩⟩ dX4_firstOtherwise_50
      · skip
        refine lv_aload_n C.x C.b dX4_firstOtherwise_34 rfl (lv_at hl 1 rfl) ?_
        refine r_get ck4 flX4_18 C hS (by omega) e0 (by decide) rfl dX4_firstOtherwise_35 ?_
        refine lv_iload_n C.x C.b dX4_firstOtherwise_38 rfl (lv_at hl 3 rfl) ?_
        refine r_ialdN k_3 rfl (by omega) (by decide) C hS (by omega) e3 dX4_firstOtherwise_39 ?_
        refine lv_aload_n C.x C.b dX4_firstOtherwise_40 rfl (lv_at hl 2 rfl) ?_
        refine r_get ck4 flX4_18 C hS (by omega) f0 (by decide) rfl dX4_firstOtherwise_41 ?_
        refine lv_iload_n C.x C.b dX4_firstOtherwise_44 rfl (lv_at hl 3 rfl) ?_
        refine r_ialdN k_3 rfl (by omega) (by decide) C hS (by omega) f3 dX4_firstOtherwise_45 ?_
        refine lv_icmp_eq (tgt := 51) C.x C.b dX4_firstOtherwise_46 (by decide) (fun c_11 => ?_) (fun c_11 => ?_)
        · skip
          refine lv_iinc (v := nI (k_3 + 1)) (lv' := [(3, .int (nI (k_3 + 1))), (2, .int (nI (min len len2))), (0, .ref (B + i)), (1, .ref (B + i2))]) C.x C.b dX4_firstOtherwise_51 hl (k := 3) rfl (nI_1 k_3) (by decide) rfl (fun ls hl => ?_)
          refine lv_goto (tgt := 14) C.x C.b dX4_firstOtherwise_54 (by decide) ?_
          exact ih_5 (k_3 + 1) _ _ _ (by omega) (lt_s hq ⟨c_10, c_11⟩) hS (lv_sub hl [1, 2, 3, 0] rfl)
        · skip
          refine lv_iload_n C.x C.b dX4_firstOtherwise_49 rfl (lv_at hl 3 rfl) ?_
          exact r_iret C hr hlocks hS ⟨rfl, Or.inr ⟨k_3, by omega, by omega, by omega, hq, fun _ _ q => c_11 q.2, rfl⟩⟩ dX4_firstOtherwise_50
  exact lp_1 (min len len2) 0 _ _ _ (by omega) (fun _ h => absurd h (Nat.not_lt_zero _)) hS (lv_sub hl [1, 2, 3, 0] rfl)
