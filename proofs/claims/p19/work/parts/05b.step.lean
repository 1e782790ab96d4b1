def bitsL : Nat → Int32 → Int32 → Int32
  | 0, n, _ => n
  | k + 1, n, x => if x = 0 then n else bitsL k (n + 1) (ush x 1)
theorem tn0 {z : Int32} (h : z.toBitVec.toNat < 2 ^ 0) : z = 0 := Int32.toBitVec_inj.mp (BitVec.eq_of_toNat_eq (by show z.toBitVec.toNat = 0; omega))
theorem ush1_lt {z : Int32} {u : Nat} (h : z.toBitVec.toNat < 2 ^ (u + 1)) : (ush z 1).toBitVec.toNat < 2 ^ u := by
  have e := pk_ushr z 1 1 (by decide)
  unfold ush
  rw [e]
  rw [Nat.pow_succ] at h
  omega
theorem bitsL_s {u : Nat} {k z : Int32} (h : ¬ z = 0) : bitsL (u + 1) k z = bitsL u (k + 1) (ush z 1) := by
  rw [bitsL, if_neg h]
theorem bitsL_0 {u : Nat} {k z : Int32} (h : z = 0) : bitsL (u + 1) k z = k := by
  rw [bitsL, if_pos h]
theorem kdF_nI {v : Nat} (h : v < 40960) : kdF (nI v) = nI (v / 4096) := by
  unfold kdF
  rw [pk_shrN (by omega) _ 12 (by decide)]
theorem lo2_nI {v : Nat} (h : v < 2 ^ 31) : lo2 (nI v) = v % 4 := by
  unfold lo2
  rw [pk_andN (by omega) 2 (by decide), nI_clamp (by omega)]
theorem aF_nI {v : Nat} (h : v < 40960) : aF (nI v) = v / 256 % 4 := by
  unfold aF
  rw [pk_shrN (by omega) _ 8 (by decide), lo2_nI (by omega)]
theorem bF_nI {v : Nat} (h : v < 40960) : bF (nI v) = v / 16 % 4 := by
  unfold bF
  rw [pk_shrN (by omega) _ 4 (by decide), lo2_nI (by omega)]
theorem cF_nI (v : Nat) : cF (nI v) = nI (v % 16) := by
  unfold cF
  rw [show (15 : Int32) = nI (2 ^ 4 - 1) from rfl, fa_and, Nat.and_two_pow_sub_one_eq_mod]
def numF (kd a b : Int32) : Int32 := if kd = 5 then nI (lo3 b) else if kd = 6 then nI (lo3 b) else if kd = 7 then (if a = 0 then 1 else 0) else 0
def cosM (kd b : Int32) : Int32 := if kd = 4 then 1 + bitsL 32 0 b else 1
theorem upd_upd (f : Nat → Int32) (i : Nat) (x y : Int32) : upd (upd f i x) i y = upd f i y := by
  funext j
  by_cases e : j = i
  · rw [e, pk_us, pk_us]
  · rw [pk_un e, pk_un e, pk_un e]
theorem upd_self (f : Nat → Int32) (i : Nat) : upd f i (f i) = f := by
  funext j
  by_cases e : j = i
  · rw [e, pk_us]
  · rw [pk_un e]
theorem upd_same0 (f : Nat → Int32) (i : Nat) : upd f i (f i + 0) = f := by
  rw [show f i + 0 = f i by simp, upd_self]
theorem workR_0 {a : Nat} {b c0 : Int32} {rg mm : Nat → Int32} : workR 0 a b c0 rg mm = rg := rfl
theorem workM_0 {a : Nat} {b : Int32} {rg mm : Nat → Int32} : workM 0 a b rg mm = mm := rfl
theorem numF_0 {a b : Int32} : numF 0 a b = 0 := rfl
theorem cosM_0 {b : Int32} : cosM 0 b = 1 := rfl
theorem nextF_0 {a c0 pt : Int32} : nextF 0 a c0 pt = -1 := rfl
theorem workR_1 {a : Nat} {b c0 : Int32} {rg mm : Nat → Int32} : workR 1 a b c0 rg mm = upd rg a c0 := rfl
theorem workM_1 {a : Nat} {b : Int32} {rg mm : Nat → Int32} : workM 1 a b rg mm = mm := rfl
theorem numF_1 {a b : Int32} : numF 1 a b = 0 := rfl
theorem cosM_1 {b : Int32} : cosM 1 b = 1 := rfl
theorem nextF_1 {a c0 pt : Int32} : nextF 1 a c0 pt = pt + 1 := rfl
theorem workR_2 {a : Nat} {b c0 : Int32} {rg mm : Nat → Int32} : workR 2 a b c0 rg mm = upd rg a (rg a + b) := rfl
theorem workM_2 {a : Nat} {b : Int32} {rg mm : Nat → Int32} : workM 2 a b rg mm = mm := rfl
theorem numF_2 {a b : Int32} : numF 2 a b = 0 := rfl
theorem cosM_2 {b : Int32} : cosM 2 b = 1 := rfl
theorem nextF_2 {a c0 pt : Int32} : nextF 2 a c0 pt = pt + 1 := rfl
theorem workR_3 {a : Nat} {b c0 : Int32} {rg mm : Nat → Int32} : workR 3 a b c0 rg mm = upd rg a (rg a ^^^ b) := rfl
theorem workM_3 {a : Nat} {b : Int32} {rg mm : Nat → Int32} : workM 3 a b rg mm = mm := rfl
theorem numF_3 {a b : Int32} : numF 3 a b = 0 := rfl
theorem cosM_3 {b : Int32} : cosM 3 b = 1 := rfl
theorem nextF_3 {a c0 pt : Int32} : nextF 3 a c0 pt = pt + 1 := rfl
theorem workR_4 {a : Nat} {b c0 : Int32} {rg mm : Nat → Int32} : workR 4 a b c0 rg mm = upd rg a (rg a * b) := rfl
theorem workM_4 {a : Nat} {b : Int32} {rg mm : Nat → Int32} : workM 4 a b rg mm = mm := rfl
theorem numF_4 {a b : Int32} : numF 4 a b = 0 := rfl
theorem cosM_4 {b : Int32} : cosM 4 b = 1 + bitsL 32 0 b := rfl
theorem nextF_4 {a c0 pt : Int32} : nextF 4 a c0 pt = pt + 1 := rfl
theorem workR_5 {a : Nat} {b c0 : Int32} {rg mm : Nat → Int32} : workR 5 a b c0 rg mm = upd rg a (mm (lo3 b)) := rfl
theorem workM_5 {a : Nat} {b : Int32} {rg mm : Nat → Int32} : workM 5 a b rg mm = mm := rfl
theorem numF_5 {a b : Int32} : numF 5 a b = nI (lo3 b) := rfl
theorem cosM_5 {b : Int32} : cosM 5 b = 1 := rfl
theorem nextF_5 {a c0 pt : Int32} : nextF 5 a c0 pt = pt + 1 := rfl
theorem workR_6 {a : Nat} {b c0 : Int32} {rg mm : Nat → Int32} : workR 6 a b c0 rg mm = rg := rfl
theorem workM_6 {a : Nat} {b : Int32} {rg mm : Nat → Int32} : workM 6 a b rg mm = upd mm (lo3 b) (rg a) := rfl
theorem numF_6 {a b : Int32} : numF 6 a b = nI (lo3 b) := rfl
theorem cosM_6 {b : Int32} : cosM 6 b = 1 := rfl
theorem nextF_6 {a c0 pt : Int32} : nextF 6 a c0 pt = pt + 1 := rfl
theorem workR_7 {a : Nat} {b c0 : Int32} {rg mm : Nat → Int32} : workR 7 a b c0 rg mm = rg := rfl
theorem workM_7 {a : Nat} {b : Int32} {rg mm : Nat → Int32} : workM 7 a b rg mm = mm := rfl
theorem numF_7 {a b : Int32} : numF 7 a b = (if a = 0 then 1 else 0) := rfl
theorem cosM_7 {b : Int32} : cosM 7 b = 1 := rfl
theorem nextF_7 {a c0 pt : Int32} : nextF 7 a c0 pt = (if a = 0 then c0 else pt + 1) := rfl
theorem workR_8 {a : Nat} {b c0 : Int32} {rg mm : Nat → Int32} : workR 8 a b c0 rg mm = rg := rfl
theorem workM_8 {a : Nat} {b : Int32} {rg mm : Nat → Int32} : workM 8 a b rg mm = mm := rfl
theorem numF_8 {a b : Int32} : numF 8 a b = 0 := rfl
theorem cosM_8 {b : Int32} : cosM 8 b = 1 := rfl
theorem nextF_8 {a c0 pt : Int32} : nextF 8 a c0 pt = c0 := rfl
theorem workR_9 {a : Nat} {b c0 : Int32} {rg mm : Nat → Int32} : workR 9 a b c0 rg mm = upd rg a (rg a + (if b = 0 then 0 else c0)) := rfl
theorem workM_9 {a : Nat} {b : Int32} {rg mm : Nat → Int32} : workM 9 a b rg mm = mm := rfl
theorem numF_9 {a b : Int32} : numF 9 a b = 0 := rfl
theorem cosM_9 {b : Int32} : cosM 9 b = 1 := rfl
theorem nextF_9 {a c0 pt : Int32} : nextF 9 a c0 pt = pt + 1 := rfl
set_option maxHeartbeats 1000000 in
set_option maxRecDepth 100000 in
theorem c_X8_bits (l : Launch) (D : va_G) (t : Gx) (B N : Nat) (g : Nat → va_E) (x : Int32)  : Ci l D t B N yX8_bits cX8_bits 4 (some .int) 0 0 g [.ref (B + 220), .int x] (fun r g' => g = g' ∧ r = bitsL 32 0 x) := by
  refine Ci.start (by decide) (Nat.le_of_ble_eq_true rfl) ?_
  intro p e s m below meth c ls C hr hlocks hS hl
  replace C : Cx D t p s m [.ref (B + 220), .int x].toArray c cX8_bits 4 RX8 := C
  replace hl : lv_has ls 4 [(0, .ref (B + 220)), (1, .int x)] := hl
  refine lv_iconst (v := 0) C.x C.b dX8_bits_0 (by decide) ?_
  refine lv_istore_n (lv' := [(2, .int 0), (0, .ref (B + 220)), (1, .int x)]) C.x C.b dX8_bits_1 rfl hl (by decide) rfl (fun ls hl => ?_)
  refine lv_iload_n C.x C.b dX8_bits_2 rfl (lv_at hl 2 rfl) ?_
  refine lv_istore_n (lv' := [(3, .int x), (2, .int 0), (0, .ref (B + 220)), (1, .int x)]) C.x C.b dX8_bits_3 rfl hl (by decide) rfl (fun ls hl => ?_)
  have lp : ∀ (u : Nat) (z k : Int32) (H : Heap) (locs : List Loc) (ls : Array Slot), z.toBitVec.toNat < 2 ^ u → bitsL u k z = bitsL 32 0 x → St D B s.heap N g H locs → lv_has ls 4 [(0, .ref (B + 220)), (2, .int k), (3, .int z)] → W p l e (rmOf 0 0 0 0) s m [.ref (B + 220), .int x].toArray below meth c H locs 0 0 (MQ below (qI D B N (fun r g' => g = g' ∧ r = bitsL 32 0 x)) [.ref (B + 220), .int x].toArray s 0 0 (fun q => B ≤ q)) (F0 m 4 ls []) := by
    intro u
    induction u with
    | zero =>
      intro z k H locs ls hz hG hS hl
      have hz0 : z = 0 := tn0 hz
      refine lv_iload_n C.x C.b dX8_bits_4 rfl (lv_at hl 2 rfl) ?_
      refine lv_if_eq (tgt := 19) C.x C.b dX8_bits_5 (by decide) (fun c_1 => ?_) (fun c_1 => absurd hz0 c_1)
      refine lv_iload_n C.x C.b dX8_bits_19 rfl (lv_at hl 1 rfl) ?_
      exact r_iret C hr hlocks hS ⟨rfl, by rw [← hG]; rfl⟩ dX8_bits_20
    | succ u ih =>
      intro z k H locs ls hz hG hS hl
      refine lv_iload_n C.x C.b dX8_bits_4 rfl (lv_at hl 2 rfl) ?_
      refine lv_if_eq (tgt := 19) C.x C.b dX8_bits_5 (by decide) (fun c_2 => ?_) (fun c_2 => ?_)
      · skip
        refine lv_iload_n C.x C.b dX8_bits_19 rfl (lv_at hl 1 rfl) ?_
        exact r_iret C hr hlocks hS ⟨rfl, by rw [← hG]; exact (bitsL_0 c_2).symm⟩ dX8_bits_20
      · skip
        refine lv_iload_n C.x C.b dX8_bits_8 rfl (lv_at hl 1 rfl) ?_
        refine lv_iconst (v := 1) C.x C.b dX8_bits_9 (by decide) ?_
        refine lv_iadd C.x C.b dX8_bits_10 ?_
        refine lv_istore_n (lv' := [(2, .int (k + 1)), (0, .ref (B + 220)), (3, .int z)]) C.x C.b dX8_bits_11 rfl hl (by decide) rfl (fun ls hl => ?_)
        refine lv_iload_n C.x C.b dX8_bits_12 rfl (lv_at hl 2 rfl) ?_
        refine lv_iconst (v := 1) C.x C.b dX8_bits_13 (by decide) ?_
        refine lv_iushr (v := (ush z 1)) C.x C.b dX8_bits_14 rfl ?_
        refine lv_istore_n (lv' := [(3, .int (ush z 1)), (2, .int (k + 1)), (0, .ref (B + 220))]) C.x C.b dX8_bits_15 rfl hl (by decide) rfl (fun ls hl => ?_)
        refine lv_goto (tgt := 4) C.x C.b dX8_bits_16 (by decide) ?_
        exact ih _ _ _ _ _ (ush1_lt hz) ((bitsL_s c_2).symm.trans hG) hS (lv_sub hl [2, 1, 0] rfl)
  exact lp 32 x 0 _ _ _ x.toBitVec.isLt rfl hS (lv_sub hl [2, 1, 0] rfl)
set_option maxHeartbeats 1000000 in
set_option maxRecDepth 100000 in
theorem c_X8_kindAt (l : Launch) (D : va_G) (t : Gx) (B N : Nat) (g : Nat → va_E) (td : Int32) (n : Nat) (ey wi ev po ps : Int32) (o : Nat → Int32) (pl : Nat → Int32) (k h : Nat) (hN : 236 < N) (m220 : g 220 = mObj B td n ey wi ev po ps) (m221 : g 221 = .inl (t.1, 10, .inl o)) (m229 : g 229 = .inl (t.1, 10240, .inl pl)) (hk : k < 10240) (hh : h < 10) (hp : pl k = nI h) : Ci l D t B N yX8_kindAt cX8_kindAt 2 (some .int) 0 0 g [.ref (B + 220), .int (nI k)] (fun r g' => g = g' ∧ r = o h / 4096) := by
  refine Ci.start (by decide) (Nat.le_of_ble_eq_true rfl) ?_
  intro p e s m below meth c ls C hr hlocks hS hl
  replace C : Cx D t p s m [.ref (B + 220), .int (nI k)].toArray c cX8_kindAt 2 RX8 := C
  replace hl : lv_has ls 2 [(0, .ref (B + 220)), (1, .int (nI k))] := hl
  replace m220 : g 220 = .inr (8, [.int td, .int (nI n), .ref (B + 221), .ref (B + 222), .ref (B + 223), .int ey, .int wi, .int ev, .ref (B + 224), .ref (B + 225), .ref (B + 226), .ref (B + 227), .ref (B + 228), .ref (B + 229), .ref (B + 230), .ref (B + 231), .ref (B + 232), .ref (B + 233), .ref (B + 234), .ref (B + 235), .ref (B + 236), .int po, .int ps]) := m220
  refine lv_aload_n C.x C.b dX8_kindAt_0 rfl (lv_at hl 0 rfl) ?_
  refine r_get ck8 flX8_7 C hS (by omega) m220 (by decide) rfl dX8_kindAt_1 ?_
  refine lv_aload_n C.x C.b dX8_kindAt_4 rfl (lv_at hl 0 rfl) ?_
  refine r_get ck8 flX8_42 C hS (by omega) m220 (by decide) rfl dX8_kindAt_5 ?_
  refine lv_iload_n C.x C.b dX8_kindAt_8 rfl (lv_at hl 1 rfl) ?_
  refine r_ialdN k rfl (by omega) (by decide) C hS (by omega) m229 dX8_kindAt_9 ?_
  refine r_top (y := nI h) (hp) ?_
  refine r_ialdN h rfl (by omega) (by decide) C hS (by omega) m221 dX8_kindAt_10 ?_
  refine lv_sipush (v := 4096) C.x C.b dX8_kindAt_11 (by decide) ?_
  refine lv_idiv C.x C.b dX8_kindAt_14 (by decide) ?_
  exact r_iret C hr hlocks hS ⟨rfl, rfl⟩ dX8_kindAt_15
set_option maxHeartbeats 1000000 in
set_option maxRecDepth 100000 in
theorem c_X8_step (l : Launch) (D : va_G) (t : Gx) (B N : Nat) (g : Nat → va_E) (td : Int32) (n : Nat) (ey wi ev po ps : Int32) (o : Nat → Int32) (rg : Nat → Int32) (mm : Nat → Int32) (nu : Nat → Int32) (co : Nat → Int32) (k h v : Nat) (hN : 236 < N) (m220 : g 220 = mObj B td n ey wi ev po ps) (m221 : g 221 = .inl (t.1, 10, .inl o)) (m224 : g 224 = .inl (t.1, 4, .inl rg)) (m225 : g 225 = .inl (t.1, 8, .inl mm)) (m230 : g 230 = .inl (t.1, 10240, .inl nu)) (m231 : g 231 = .inl (t.1, 10240, .inl co)) (hk : k < 10240) (hh : h < 8) (hv : o h = nI v) (hvl : v < 40960) : Ci l D t B N yX8_step cX8_step 8 (some .int) 1 23 g [.ref (B + 220), .int (nI k), .int (nI h)] (fun r g' => r = nextF (kdF (o h)) (rg (aF (o h))) (cF (o h)) (nI h) ∧ (g' 224 = .inl (t.1, 4, .inl (workR (kdF (o h)) (aF (o h)) (rg (bF (o h))) (cF (o h)) rg mm)) ∧ g' 225 = .inl (t.1, 8, .inl (workM (kdF (o h)) (aF (o h)) (rg (bF (o h))) rg mm)) ∧ g' 230 = .inl (t.1, 10240, .inl (upd nu k (numF (kdF (o h)) (rg (aF (o h))) (rg (bF (o h)))))) ∧ g' 231 = .inl (t.1, 10240, .inl (upd co k (cosM (kdF (o h)) (rg (bF (o h))))))) ∧ ∀ j, (j ≠ 224 ∧ j ≠ 225 ∧ j ≠ 230 ∧ j ≠ 231) → g' j = g j) := by
  refine Ci.start (by decide) (Nat.le_of_ble_eq_true rfl) ?_
  intro p e s m below meth c ls C hr hlocks hS hl
  replace C : Cx D t p s m [.ref (B + 220), .int (nI k), .int (nI h)].toArray c cX8_step 8 RX8 := C
  replace hl : lv_has ls 8 [(0, .ref (B + 220)), (1, .int (nI k)), (2, .int (nI h))] := hl
  replace m220 : g 220 = .inr (8, [.int td, .int (nI n), .ref (B + 221), .ref (B + 222), .ref (B + 223), .int ey, .int wi, .int ev, .ref (B + 224), .ref (B + 225), .ref (B + 226), .ref (B + 227), .ref (B + 228), .ref (B + 229), .ref (B + 230), .ref (B + 231), .ref (B + 232), .ref (B + 233), .ref (B + 234), .ref (B + 235), .ref (B + 236), .int po, .int ps]) := m220
  have haF : aF (o h) = v / 256 % 4 := by rw [hv]; exact aF_nI hvl
  have hbF : bF (o h) = v / 16 % 4 := by rw [hv]; exact bF_nI hvl
  have hcF : cF (o h) = nI (v % 16) := by rw [hv]; exact cF_nI v
  refine lv_aload_n C.x C.b dX8_step_0 rfl (lv_at hl 0 rfl) ?_
  refine r_get ck8 flX8_7 C hS (by omega) m220 (by decide) rfl dX8_step_1 ?_
  refine lv_iload_n C.x C.b dX8_step_4 rfl (lv_at hl 2 rfl) ?_
  refine r_ialdN h rfl (by omega) (by decide) C hS (by omega) m221 dX8_step_5 ?_
  refine r_top (y := nI v) (hv) ?_
  refine lv_sipush (v := 4096) C.x C.b dX8_step_6 (by decide) ?_
  refine lv_idiv C.x C.b dX8_step_9 (by decide) ?_
  refine r_top (y := nI (v / 4096)) (pk_div (d := 4096) (by omega) (by decide) (by decide)) ?_
  have hcase : v / 4096 = 0 ∨ v / 4096 = 1 ∨ v / 4096 = 2 ∨ v / 4096 = 3 ∨ v / 4096 = 4 ∨ v / 4096 = 5 ∨ v / 4096 = 6 ∨ v / 4096 = 7 ∨ v / 4096 = 8 ∨ v / 4096 = 9 := by omega
  rcases hcase with hk | hk | hk | hk | hk | hk | hk | hk | hk | hk
  · have hkd : kdF (o h) = 0 := by rw [hv, kdF_nI hvl, hk]; rfl
    refine r_top (y := 0) (by rw [hk]; rfl) ?_
    refine lv_istore_n (lv' := [(3, .int 0), (0, .ref (B + 220)), (1, .int (nI k)), (2, .int (nI h))]) C.x C.b dX8_step_10 rfl hl (by decide) rfl (fun ls hl => ?_)
    refine lv_aload_n C.x C.b dX8_step_11 rfl (lv_at hl 1 rfl) ?_
    refine r_get ck8 flX8_7 C hS (by omega) m220 (by decide) rfl dX8_step_12 ?_
    refine lv_iload_n C.x C.b dX8_step_15 rfl (lv_at hl 3 rfl) ?_
    refine r_ialdN h rfl (by omega) (by decide) C hS (by omega) m221 dX8_step_16 ?_
    refine r_top (y := nI v) (hv) ?_
    refine lv_sipush (v := 256) C.x C.b dX8_step_17 (by decide) ?_
    refine lv_idiv C.x C.b dX8_step_20 (by decide) ?_
    refine r_top (y := nI (v / 256)) (pk_div (d := 256) (by omega) (by decide) (by decide)) ?_
    refine lv_iconst (v := 4) C.x C.b dX8_step_21 (by decide) ?_
    refine lv_irem C.x C.b dX8_step_22 (by decide) ?_
    refine r_top (y := nI (v / 256 % 4)) (pk_rem (by omega) (by decide) (by decide)) ?_
    refine lv_istore (lv' := [(4, .int (nI (v / 256 % 4))), (3, .int 0), (0, .ref (B + 220)), (1, .int (nI k)), (2, .int (nI h))]) C.x C.b dX8_step_23 hl (by decide) rfl (fun ls hl => ?_)
    refine lv_aload_n C.x C.b dX8_step_25 rfl (lv_at hl 2 rfl) ?_
    refine r_get ck8 flX8_7 C hS (by omega) m220 (by decide) rfl dX8_step_26 ?_
    refine lv_iload_n C.x C.b dX8_step_29 rfl (lv_at hl 4 rfl) ?_
    refine r_ialdN h rfl (by omega) (by decide) C hS (by omega) m221 dX8_step_30 ?_
    refine r_top (y := nI v) (hv) ?_
    refine lv_bipush (v := 16) C.x C.b dX8_step_31 (by decide) ?_
    refine lv_idiv C.x C.b dX8_step_33 (by decide) ?_
    refine r_top (y := nI (v / 16)) (pk_div (d := 16) (by omega) (by decide) (by decide)) ?_
    refine lv_iconst (v := 4) C.x C.b dX8_step_34 (by decide) ?_
    refine lv_irem C.x C.b dX8_step_35 (by decide) ?_
    refine r_top (y := nI (v / 16 % 4)) (pk_rem (by omega) (by decide) (by decide)) ?_
    refine lv_istore (lv' := [(5, .int (nI (v / 16 % 4))), (4, .int (nI (v / 256 % 4))), (3, .int 0), (0, .ref (B + 220)), (1, .int (nI k)), (2, .int (nI h))]) C.x C.b dX8_step_36 hl (by decide) rfl (fun ls hl => ?_)
    refine lv_aload_n C.x C.b dX8_step_38 rfl (lv_at hl 3 rfl) ?_
    refine r_get ck8 flX8_7 C hS (by omega) m220 (by decide) rfl dX8_step_39 ?_
    refine lv_iload_n C.x C.b dX8_step_42 rfl (lv_at hl 5 rfl) ?_
    refine r_ialdN h rfl (by omega) (by decide) C hS (by omega) m221 dX8_step_43 ?_
    refine r_top (y := nI v) (hv) ?_
    refine lv_bipush (v := 16) C.x C.b dX8_step_44 (by decide) ?_
    refine lv_irem C.x C.b dX8_step_46 (by decide) ?_
    refine r_top (y := nI (v % 16)) (pk_rem (by omega) (by decide) (by decide)) ?_
    refine lv_istore (lv' := [(6, .int (nI (v % 16))), (5, .int (nI (v / 16 % 4))), (4, .int (nI (v / 256 % 4))), (3, .int 0), (0, .ref (B + 220)), (1, .int (nI k)), (2, .int (nI h))]) C.x C.b dX8_step_47 hl (by decide) rfl (fun ls hl => ?_)
    refine lv_aload_n C.x C.b dX8_step_49 rfl (lv_at hl 4 rfl) ?_
    refine r_get ck8 flX8_26 C hS (by omega) m220 (by decide) rfl dX8_step_50 ?_
    refine lv_iload C.x C.b dX8_step_53 (lv_at hl 1 rfl) ?_
    refine r_ialdN (v / 16 % 4) rfl (by omega) (by decide) C hS (by omega) m224 dX8_step_55 ?_
    refine lv_istore (lv' := [(7, .int (rg (v / 16 % 4))), (6, .int (nI (v % 16))), (5, .int (nI (v / 16 % 4))), (4, .int (nI (v / 256 % 4))), (3, .int 0), (0, .ref (B + 220)), (1, .int (nI k)), (2, .int (nI h))]) C.x C.b dX8_step_56 hl (by decide) rfl (fun ls hl => ?_)
    refine lv_aload_n C.x C.b dX8_step_58 rfl (lv_at hl 5 rfl) ?_
    refine r_get ck8 flX8_48 C hS (by omega) m220 (by decide) rfl dX8_step_59 ?_
    refine lv_iload_n C.x C.b dX8_step_62 rfl (lv_at hl 6 rfl) ?_
    refine lv_iload_n C.x C.b dX8_step_63 rfl (lv_at hl 4 rfl) ?_
    refine lv_iconst (v := 4) C.x C.b dX8_step_64 (by decide) ?_
    refine lv_icmp_ne (tgt := 79) C.x C.b dX8_step_65 (by decide) (fun c_1 => ?_) (fun c_1 => absurd c_1 (by decide))
    refine lv_iconst (v := 1) C.x C.b dX8_step_79 (by decide) ?_
    refine r_iastN k rfl (by omega) (by decide) C hS (by omega) m231 dX8_step_80 (fun g_2 H locs e_3 o_4 hS => ?_)
    replace e_3 : g_2 231 = .inl (t.1, 10240, .inl (upd co k 1)) := e_3
    refine lv_aload_n C.x C.b dX8_step_81 rfl (lv_at hl 5 rfl) ?_
    have e_5 : g_2 220 = .inr (8, [.int td, .int (nI n), .ref (B + 221), .ref (B + 222), .ref (B + 223), .int ey, .int wi, .int ev, .ref (B + 224), .ref (B + 225), .ref (B + 226), .ref (B + 227), .ref (B + 228), .ref (B + 229), .ref (B + 230), .ref (B + 231), .ref (B + 232), .ref (B + 233), .ref (B + 234), .ref (B + 235), .ref (B + 236), .int po, .int ps]) := (o_4 _ (by omega)).trans m220
    refine r_get ck8 flX8_45 C hS (by omega) e_5 (by decide) rfl dX8_step_82 ?_
    refine lv_iload_n C.x C.b dX8_step_85 rfl (lv_at hl 6 rfl) ?_
    refine lv_iconst (v := 0) C.x C.b dX8_step_86 (by decide) ?_
    have e_6 : g_2 230 = .inl (t.1, 10240, .inl nu) := (o_4 _ (by omega)).trans m230
    refine r_iastN k rfl (by omega) (by decide) C hS (by omega) e_6 dX8_step_87 (fun g_7 H locs e_8 o_9 hS => ?_)
    replace e_8 : g_7 230 = .inl (t.1, 10240, .inl (upd nu k 0)) := e_8
    refine lv_iload_n C.x C.b dX8_step_88 rfl (lv_at hl 4 rfl) ?_
    refine lv_if_ne (tgt := 94) C.x C.b dX8_step_89 (by decide) (fun c_10 => absurd (by decide) c_10) (fun c_10 => ?_)
    refine lv_iconst (v := (-1)) C.x C.b dX8_step_92 (by decide) ?_
    have e_11 : g_2 224 = .inl (t.1, 4, .inl rg) := (o_4 _ (by omega)).trans m224
    have e_12 : g_7 224 = .inl (t.1, 4, .inl rg) := (o_9 _ (by omega)).trans e_11
    have e_13 : g_2 225 = .inl (t.1, 8, .inl mm) := (o_4 _ (by omega)).trans m225
    have e_14 : g_7 225 = .inl (t.1, 8, .inl mm) := (o_9 _ (by omega)).trans e_13
    have e_15 : g_7 231 = .inl (t.1, 10240, .inl (upd co k 1)) := (o_9 _ (by omega)).trans e_3
    have e_16 : g_7 220 = .inr (8, [.int td, .int (nI n), .ref (B + 221), .ref (B + 222), .ref (B + 223), .int ey, .int wi, .int ev, .ref (B + 224), .ref (B + 225), .ref (B + 226), .ref (B + 227), .ref (B + 228), .ref (B + 229), .ref (B + 230), .ref (B + 231), .ref (B + 232), .ref (B + 233), .ref (B + 234), .ref (B + 235), .ref (B + 236), .int po, .int ps]) := (o_9 _ (by omega)).trans e_5
    have e_17 : g_2 221 = .inl (t.1, 10, .inl o) := (o_4 _ (by omega)).trans m221
    have e_18 : g_7 221 = .inl (t.1, 10, .inl o) := (o_9 _ (by omega)).trans e_17
    have z_19_r : workR (kdF (o h)) (aF (o h)) (rg (bF (o h))) (cF (o h)) rg mm = rg := by rw [hkd, hbF, haF, hcF, workR_0]
    have z_19_m : workM (kdF (o h)) (aF (o h)) (rg (bF (o h))) rg mm = mm := by rw [hkd, workM_0]
    have z_19_n : upd nu k (numF (kdF (o h)) (rg (aF (o h))) (rg (bF (o h)))) = (upd nu k 0) := by rw [hkd, numF_0]
    have z_19_c : upd co k (cosM (kdF (o h)) (rg (bF (o h)))) = (upd co k 1) := by rw [hkd, cosM_0]
    have z_19_x : (-1) = nextF (kdF (o h)) (rg (aF (o h))) (cF (o h)) (nI h) := by rw [hkd, nextF_0]
    exact r_iret C hr hlocks hS ⟨z_19_x, ⟨by rw [z_19_r]; exact e_12, by rw [z_19_m]; exact e_14, by rw [z_19_n]; exact e_8, by rw [z_19_c]; exact e_15⟩, fun j hj => (o_9 j (by omega)).trans (o_4 j (by omega))⟩ dX8_step_93
  · have hkd : kdF (o h) = 1 := by rw [hv, kdF_nI hvl, hk]; rfl
    refine r_top (y := 1) (by rw [hk]; rfl) ?_
    refine lv_istore_n (lv' := [(3, .int 1), (0, .ref (B + 220)), (1, .int (nI k)), (2, .int (nI h))]) C.x C.b dX8_step_10 rfl hl (by decide) rfl (fun ls hl => ?_)
    refine lv_aload_n C.x C.b dX8_step_11 rfl (lv_at hl 1 rfl) ?_
    refine r_get ck8 flX8_7 C hS (by omega) m220 (by decide) rfl dX8_step_12 ?_
    refine lv_iload_n C.x C.b dX8_step_15 rfl (lv_at hl 3 rfl) ?_
    refine r_ialdN h rfl (by omega) (by decide) C hS (by omega) m221 dX8_step_16 ?_
    refine r_top (y := nI v) (hv) ?_
    refine lv_sipush (v := 256) C.x C.b dX8_step_17 (by decide) ?_
    refine lv_idiv C.x C.b dX8_step_20 (by decide) ?_
    refine r_top (y := nI (v / 256)) (pk_div (d := 256) (by omega) (by decide) (by decide)) ?_
    refine lv_iconst (v := 4) C.x C.b dX8_step_21 (by decide) ?_
    refine lv_irem C.x C.b dX8_step_22 (by decide) ?_
    refine r_top (y := nI (v / 256 % 4)) (pk_rem (by omega) (by decide) (by decide)) ?_
    refine lv_istore (lv' := [(4, .int (nI (v / 256 % 4))), (3, .int 1), (0, .ref (B + 220)), (1, .int (nI k)), (2, .int (nI h))]) C.x C.b dX8_step_23 hl (by decide) rfl (fun ls hl => ?_)
    refine lv_aload_n C.x C.b dX8_step_25 rfl (lv_at hl 2 rfl) ?_
    refine r_get ck8 flX8_7 C hS (by omega) m220 (by decide) rfl dX8_step_26 ?_
    refine lv_iload_n C.x C.b dX8_step_29 rfl (lv_at hl 4 rfl) ?_
    refine r_ialdN h rfl (by omega) (by decide) C hS (by omega) m221 dX8_step_30 ?_
    refine r_top (y := nI v) (hv) ?_
    refine lv_bipush (v := 16) C.x C.b dX8_step_31 (by decide) ?_
    refine lv_idiv C.x C.b dX8_step_33 (by decide) ?_
    refine r_top (y := nI (v / 16)) (pk_div (d := 16) (by omega) (by decide) (by decide)) ?_
    refine lv_iconst (v := 4) C.x C.b dX8_step_34 (by decide) ?_
    refine lv_irem C.x C.b dX8_step_35 (by decide) ?_
    refine r_top (y := nI (v / 16 % 4)) (pk_rem (by omega) (by decide) (by decide)) ?_
    refine lv_istore (lv' := [(5, .int (nI (v / 16 % 4))), (4, .int (nI (v / 256 % 4))), (3, .int 1), (0, .ref (B + 220)), (1, .int (nI k)), (2, .int (nI h))]) C.x C.b dX8_step_36 hl (by decide) rfl (fun ls hl => ?_)
    refine lv_aload_n C.x C.b dX8_step_38 rfl (lv_at hl 3 rfl) ?_
    refine r_get ck8 flX8_7 C hS (by omega) m220 (by decide) rfl dX8_step_39 ?_
    refine lv_iload_n C.x C.b dX8_step_42 rfl (lv_at hl 5 rfl) ?_
    refine r_ialdN h rfl (by omega) (by decide) C hS (by omega) m221 dX8_step_43 ?_
    refine r_top (y := nI v) (hv) ?_
    refine lv_bipush (v := 16) C.x C.b dX8_step_44 (by decide) ?_
    refine lv_irem C.x C.b dX8_step_46 (by decide) ?_
    refine r_top (y := nI (v % 16)) (pk_rem (by omega) (by decide) (by decide)) ?_
    refine lv_istore (lv' := [(6, .int (nI (v % 16))), (5, .int (nI (v / 16 % 4))), (4, .int (nI (v / 256 % 4))), (3, .int 1), (0, .ref (B + 220)), (1, .int (nI k)), (2, .int (nI h))]) C.x C.b dX8_step_47 hl (by decide) rfl (fun ls hl => ?_)
    refine lv_aload_n C.x C.b dX8_step_49 rfl (lv_at hl 4 rfl) ?_
    refine r_get ck8 flX8_26 C hS (by omega) m220 (by decide) rfl dX8_step_50 ?_
    refine lv_iload C.x C.b dX8_step_53 (lv_at hl 1 rfl) ?_
    refine r_ialdN (v / 16 % 4) rfl (by omega) (by decide) C hS (by omega) m224 dX8_step_55 ?_
    refine lv_istore (lv' := [(7, .int (rg (v / 16 % 4))), (6, .int (nI (v % 16))), (5, .int (nI (v / 16 % 4))), (4, .int (nI (v / 256 % 4))), (3, .int 1), (0, .ref (B + 220)), (1, .int (nI k)), (2, .int (nI h))]) C.x C.b dX8_step_56 hl (by decide) rfl (fun ls hl => ?_)
    refine lv_aload_n C.x C.b dX8_step_58 rfl (lv_at hl 5 rfl) ?_
    refine r_get ck8 flX8_48 C hS (by omega) m220 (by decide) rfl dX8_step_59 ?_
    refine lv_iload_n C.x C.b dX8_step_62 rfl (lv_at hl 6 rfl) ?_
    refine lv_iload_n C.x C.b dX8_step_63 rfl (lv_at hl 4 rfl) ?_
    refine lv_iconst (v := 4) C.x C.b dX8_step_64 (by decide) ?_
    refine lv_icmp_ne (tgt := 79) C.x C.b dX8_step_65 (by decide) (fun c_20 => ?_) (fun c_20 => absurd c_20 (by decide))
    refine lv_iconst (v := 1) C.x C.b dX8_step_79 (by decide) ?_
    refine r_iastN k rfl (by omega) (by decide) C hS (by omega) m231 dX8_step_80 (fun g_21 H locs e_22 o_23 hS => ?_)
    replace e_22 : g_21 231 = .inl (t.1, 10240, .inl (upd co k 1)) := e_22
    refine lv_aload_n C.x C.b dX8_step_81 rfl (lv_at hl 5 rfl) ?_
    have e_24 : g_21 220 = .inr (8, [.int td, .int (nI n), .ref (B + 221), .ref (B + 222), .ref (B + 223), .int ey, .int wi, .int ev, .ref (B + 224), .ref (B + 225), .ref (B + 226), .ref (B + 227), .ref (B + 228), .ref (B + 229), .ref (B + 230), .ref (B + 231), .ref (B + 232), .ref (B + 233), .ref (B + 234), .ref (B + 235), .ref (B + 236), .int po, .int ps]) := (o_23 _ (by omega)).trans m220
    refine r_get ck8 flX8_45 C hS (by omega) e_24 (by decide) rfl dX8_step_82 ?_
    refine lv_iload_n C.x C.b dX8_step_85 rfl (lv_at hl 6 rfl) ?_
    refine lv_iconst (v := 0) C.x C.b dX8_step_86 (by decide) ?_
    have e_25 : g_21 230 = .inl (t.1, 10240, .inl nu) := (o_23 _ (by omega)).trans m230
    refine r_iastN k rfl (by omega) (by decide) C hS (by omega) e_25 dX8_step_87 (fun g_26 H locs e_27 o_28 hS => ?_)
    replace e_27 : g_26 230 = .inl (t.1, 10240, .inl (upd nu k 0)) := e_27
    refine lv_iload_n C.x C.b dX8_step_88 rfl (lv_at hl 4 rfl) ?_
    refine lv_if_ne (tgt := 94) C.x C.b dX8_step_89 (by decide) (fun c_29 => ?_) (fun c_29 => absurd c_29 (by decide))
    refine lv_iload_n C.x C.b dX8_step_94 rfl (lv_at hl 4 rfl) ?_
    refine lv_iconst (v := 1) C.x C.b dX8_step_95 (by decide) ?_
    refine lv_icmp_ne (tgt := 108) C.x C.b dX8_step_96 (by decide) (fun c_30 => absurd (by decide) c_30) (fun c_30 => ?_)
    refine lv_aload_n C.x C.b dX8_step_99 rfl (lv_at hl 5 rfl) ?_
    have e_31 : g_26 220 = .inr (8, [.int td, .int (nI n), .ref (B + 221), .ref (B + 222), .ref (B + 223), .int ey, .int wi, .int ev, .ref (B + 224), .ref (B + 225), .ref (B + 226), .ref (B + 227), .ref (B + 228), .ref (B + 229), .ref (B + 230), .ref (B + 231), .ref (B + 232), .ref (B + 233), .ref (B + 234), .ref (B + 235), .ref (B + 236), .int po, .int ps]) := (o_28 _ (by omega)).trans e_24
    refine r_get ck8 flX8_26 C hS (by omega) e_31 (by decide) rfl dX8_step_100 ?_
    refine lv_iload C.x C.b dX8_step_103 (lv_at hl 3 rfl) ?_
    refine lv_iload C.x C.b dX8_step_105 (lv_at hl 1 rfl) ?_
    have e_32 : g_21 224 = .inl (t.1, 4, .inl rg) := (o_23 _ (by omega)).trans m224
    have e_33 : g_26 224 = .inl (t.1, 4, .inl rg) := (o_28 _ (by omega)).trans e_32
    refine r_iastN (v / 256 % 4) rfl (by omega) (by decide) C hS (by omega) e_33 dX8_step_107 (fun g_34 H locs e_35 o_36 hS => ?_)
    replace e_35 : g_34 224 = .inl (t.1, 4, .inl (upd rg (v / 256 % 4) (nI (v % 16)))) := e_35
    refine lv_iload_n C.x C.b dX8_step_108 rfl (lv_at hl 4 rfl) ?_
    refine lv_iconst (v := 2) C.x C.b dX8_step_109 (by decide) ?_
    refine lv_icmp_ne (tgt := 130) C.x C.b dX8_step_110 (by decide) (fun c_37 => ?_) (fun c_37 => absurd c_37 (by decide))
    refine lv_iload_n C.x C.b dX8_step_130 rfl (lv_at hl 4 rfl) ?_
    refine lv_iconst (v := 3) C.x C.b dX8_step_131 (by decide) ?_
    refine lv_icmp_ne (tgt := 152) C.x C.b dX8_step_132 (by decide) (fun c_38 => ?_) (fun c_38 => absurd c_38 (by decide))
    refine lv_iload_n C.x C.b dX8_step_152 rfl (lv_at hl 4 rfl) ?_
    refine lv_iconst (v := 4) C.x C.b dX8_step_153 (by decide) ?_
    refine lv_icmp_ne (tgt := 174) C.x C.b dX8_step_154 (by decide) (fun c_39 => ?_) (fun c_39 => absurd c_39 (by decide))
    refine lv_iload_n C.x C.b dX8_step_174 rfl (lv_at hl 4 rfl) ?_
    refine lv_iconst (v := 5) C.x C.b dX8_step_175 (by decide) ?_
    refine lv_icmp_ne (tgt := 196) C.x C.b dX8_step_176 (by decide) (fun c_40 => ?_) (fun c_40 => absurd c_40 (by decide))
    refine lv_iload_n C.x C.b dX8_step_196 rfl (lv_at hl 4 rfl) ?_
    refine lv_bipush (v := 6) C.x C.b dX8_step_197 (by decide) ?_
    refine lv_icmp_ne (tgt := 219) C.x C.b dX8_step_199 (by decide) (fun c_41 => ?_) (fun c_41 => absurd c_41 (by decide))
    refine lv_iload_n C.x C.b dX8_step_219 rfl (lv_at hl 4 rfl) ?_
    refine lv_iconst (v := 5) C.x C.b dX8_step_220 (by decide) ?_
    refine lv_icmp_eq (tgt := 230) C.x C.b dX8_step_221 (by decide) (fun c_42 => absurd c_42 (by decide)) (fun c_42 => ?_)
    refine lv_iload_n C.x C.b dX8_step_224 rfl (lv_at hl 4 rfl) ?_
    refine lv_bipush (v := 6) C.x C.b dX8_step_225 (by decide) ?_
    refine lv_icmp_ne (tgt := 241) C.x C.b dX8_step_227 (by decide) (fun c_43 => ?_) (fun c_43 => absurd c_43 (by decide))
    refine lv_iload_n C.x C.b dX8_step_241 rfl (lv_at hl 4 rfl) ?_
    refine lv_bipush (v := 7) C.x C.b dX8_step_242 (by decide) ?_
    refine lv_icmp_ne (tgt := 264) C.x C.b dX8_step_244 (by decide) (fun c_44 => ?_) (fun c_44 => absurd c_44 (by decide))
    refine lv_iload_n C.x C.b dX8_step_264 rfl (lv_at hl 4 rfl) ?_
    refine lv_bipush (v := 9) C.x C.b dX8_step_265 (by decide) ?_
    refine lv_icmp_ne (tgt := 292) C.x C.b dX8_step_267 (by decide) (fun c_45 => ?_) (fun c_45 => absurd c_45 (by decide))
    refine lv_iload_n C.x C.b dX8_step_292 rfl (lv_at hl 4 rfl) ?_
    refine lv_bipush (v := 8) C.x C.b dX8_step_293 (by decide) ?_
    refine lv_icmp_eq (tgt := 314) C.x C.b dX8_step_295 (by decide) (fun c_46 => absurd c_46 (by decide)) (fun c_46 => ?_)
    refine lv_iload_n C.x C.b dX8_step_298 rfl (lv_at hl 4 rfl) ?_
    refine lv_bipush (v := 7) C.x C.b dX8_step_299 (by decide) ?_
    refine lv_icmp_ne (tgt := 319) C.x C.b dX8_step_301 (by decide) (fun c_47 => ?_) (fun c_47 => absurd c_47 (by decide))
    refine lv_iload_n C.x C.b dX8_step_319 rfl (lv_at hl 7 rfl) ?_
    refine lv_iconst (v := 1) C.x C.b dX8_step_320 (by decide) ?_
    refine lv_iadd C.x C.b dX8_step_321 ?_
    refine r_top (y := (nI h + 1)) (rfl) ?_
    have e_48 : g_21 225 = .inl (t.1, 8, .inl mm) := (o_23 _ (by omega)).trans m225
    have e_49 : g_26 225 = .inl (t.1, 8, .inl mm) := (o_28 _ (by omega)).trans e_48
    have e_50 : g_34 225 = .inl (t.1, 8, .inl mm) := (o_36 _ (by omega)).trans e_49
    have e_51 : g_34 230 = .inl (t.1, 10240, .inl (upd nu k 0)) := (o_36 _ (by omega)).trans e_27
    have e_52 : g_26 231 = .inl (t.1, 10240, .inl (upd co k 1)) := (o_28 _ (by omega)).trans e_22
    have e_53 : g_34 231 = .inl (t.1, 10240, .inl (upd co k 1)) := (o_36 _ (by omega)).trans e_52
    have e_54 : g_34 220 = .inr (8, [.int td, .int (nI n), .ref (B + 221), .ref (B + 222), .ref (B + 223), .int ey, .int wi, .int ev, .ref (B + 224), .ref (B + 225), .ref (B + 226), .ref (B + 227), .ref (B + 228), .ref (B + 229), .ref (B + 230), .ref (B + 231), .ref (B + 232), .ref (B + 233), .ref (B + 234), .ref (B + 235), .ref (B + 236), .int po, .int ps]) := (o_36 _ (by omega)).trans e_31
    have e_55 : g_21 221 = .inl (t.1, 10, .inl o) := (o_23 _ (by omega)).trans m221
    have e_56 : g_26 221 = .inl (t.1, 10, .inl o) := (o_28 _ (by omega)).trans e_55
    have e_57 : g_34 221 = .inl (t.1, 10, .inl o) := (o_36 _ (by omega)).trans e_56
    have z_58_r : workR (kdF (o h)) (aF (o h)) (rg (bF (o h))) (cF (o h)) rg mm = (upd rg (v / 256 % 4) (nI (v % 16))) := by rw [hkd, hbF, haF, hcF, workR_1]
    have z_58_m : workM (kdF (o h)) (aF (o h)) (rg (bF (o h))) rg mm = mm := by rw [hkd, workM_1]
    have z_58_n : upd nu k (numF (kdF (o h)) (rg (aF (o h))) (rg (bF (o h)))) = (upd nu k 0) := by rw [hkd, numF_1]
    have z_58_c : upd co k (cosM (kdF (o h)) (rg (bF (o h)))) = (upd co k 1) := by rw [hkd, cosM_1]
    have z_58_x : (nI h + 1) = nextF (kdF (o h)) (rg (aF (o h))) (cF (o h)) (nI h) := by rw [hkd, nextF_1]
    exact r_iret C hr hlocks hS ⟨z_58_x, ⟨by rw [z_58_r]; exact e_35, by rw [z_58_m]; exact e_50, by rw [z_58_n]; exact e_51, by rw [z_58_c]; exact e_53⟩, fun j hj => (o_36 j (by omega)).trans ((o_28 j (by omega)).trans (o_23 j (by omega)))⟩ dX8_step_322
  · have hkd : kdF (o h) = 2 := by rw [hv, kdF_nI hvl, hk]; rfl
    refine r_top (y := 2) (by rw [hk]; rfl) ?_
    refine lv_istore_n (lv' := [(3, .int 2), (0, .ref (B + 220)), (1, .int (nI k)), (2, .int (nI h))]) C.x C.b dX8_step_10 rfl hl (by decide) rfl (fun ls hl => ?_)
    refine lv_aload_n C.x C.b dX8_step_11 rfl (lv_at hl 1 rfl) ?_
    refine r_get ck8 flX8_7 C hS (by omega) m220 (by decide) rfl dX8_step_12 ?_
    refine lv_iload_n C.x C.b dX8_step_15 rfl (lv_at hl 3 rfl) ?_
    refine r_ialdN h rfl (by omega) (by decide) C hS (by omega) m221 dX8_step_16 ?_
    refine r_top (y := nI v) (hv) ?_
    refine lv_sipush (v := 256) C.x C.b dX8_step_17 (by decide) ?_
    refine lv_idiv C.x C.b dX8_step_20 (by decide) ?_
    refine r_top (y := nI (v / 256)) (pk_div (d := 256) (by omega) (by decide) (by decide)) ?_
    refine lv_iconst (v := 4) C.x C.b dX8_step_21 (by decide) ?_
    refine lv_irem C.x C.b dX8_step_22 (by decide) ?_
    refine r_top (y := nI (v / 256 % 4)) (pk_rem (by omega) (by decide) (by decide)) ?_
    refine lv_istore (lv' := [(4, .int (nI (v / 256 % 4))), (3, .int 2), (0, .ref (B + 220)), (1, .int (nI k)), (2, .int (nI h))]) C.x C.b dX8_step_23 hl (by decide) rfl (fun ls hl => ?_)
    refine lv_aload_n C.x C.b dX8_step_25 rfl (lv_at hl 2 rfl) ?_
    refine r_get ck8 flX8_7 C hS (by omega) m220 (by decide) rfl dX8_step_26 ?_
    refine lv_iload_n C.x C.b dX8_step_29 rfl (lv_at hl 4 rfl) ?_
    refine r_ialdN h rfl (by omega) (by decide) C hS (by omega) m221 dX8_step_30 ?_
    refine r_top (y := nI v) (hv) ?_
    refine lv_bipush (v := 16) C.x C.b dX8_step_31 (by decide) ?_
    refine lv_idiv C.x C.b dX8_step_33 (by decide) ?_
    refine r_top (y := nI (v / 16)) (pk_div (d := 16) (by omega) (by decide) (by decide)) ?_
    refine lv_iconst (v := 4) C.x C.b dX8_step_34 (by decide) ?_
    refine lv_irem C.x C.b dX8_step_35 (by decide) ?_
    refine r_top (y := nI (v / 16 % 4)) (pk_rem (by omega) (by decide) (by decide)) ?_
    refine lv_istore (lv' := [(5, .int (nI (v / 16 % 4))), (4, .int (nI (v / 256 % 4))), (3, .int 2), (0, .ref (B + 220)), (1, .int (nI k)), (2, .int (nI h))]) C.x C.b dX8_step_36 hl (by decide) rfl (fun ls hl => ?_)
    refine lv_aload_n C.x C.b dX8_step_38 rfl (lv_at hl 3 rfl) ?_
    refine r_get ck8 flX8_7 C hS (by omega) m220 (by decide) rfl dX8_step_39 ?_
    refine lv_iload_n C.x C.b dX8_step_42 rfl (lv_at hl 5 rfl) ?_
    refine r_ialdN h rfl (by omega) (by decide) C hS (by omega) m221 dX8_step_43 ?_
    refine r_top (y := nI v) (hv) ?_
    refine lv_bipush (v := 16) C.x C.b dX8_step_44 (by decide) ?_
    refine lv_irem C.x C.b dX8_step_46 (by decide) ?_
    refine r_top (y := nI (v % 16)) (pk_rem (by omega) (by decide) (by decide)) ?_
    refine lv_istore (lv' := [(6, .int (nI (v % 16))), (5, .int (nI (v / 16 % 4))), (4, .int (nI (v / 256 % 4))), (3, .int 2), (0, .ref (B + 220)), (1, .int (nI k)), (2, .int (nI h))]) C.x C.b dX8_step_47 hl (by decide) rfl (fun ls hl => ?_)
    refine lv_aload_n C.x C.b dX8_step_49 rfl (lv_at hl 4 rfl) ?_
    refine r_get ck8 flX8_26 C hS (by omega) m220 (by decide) rfl dX8_step_50 ?_
    refine lv_iload C.x C.b dX8_step_53 (lv_at hl 1 rfl) ?_
    refine r_ialdN (v / 16 % 4) rfl (by omega) (by decide) C hS (by omega) m224 dX8_step_55 ?_
    refine lv_istore (lv' := [(7, .int (rg (v / 16 % 4))), (6, .int (nI (v % 16))), (5, .int (nI (v / 16 % 4))), (4, .int (nI (v / 256 % 4))), (3, .int 2), (0, .ref (B + 220)), (1, .int (nI k)), (2, .int (nI h))]) C.x C.b dX8_step_56 hl (by decide) rfl (fun ls hl => ?_)
    refine lv_aload_n C.x C.b dX8_step_58 rfl (lv_at hl 5 rfl) ?_
    refine r_get ck8 flX8_48 C hS (by omega) m220 (by decide) rfl dX8_step_59 ?_
    refine lv_iload_n C.x C.b dX8_step_62 rfl (lv_at hl 6 rfl) ?_
    refine lv_iload_n C.x C.b dX8_step_63 rfl (lv_at hl 4 rfl) ?_
    refine lv_iconst (v := 4) C.x C.b dX8_step_64 (by decide) ?_
    refine lv_icmp_ne (tgt := 79) C.x C.b dX8_step_65 (by decide) (fun c_59 => ?_) (fun c_59 => absurd c_59 (by decide))
    refine lv_iconst (v := 1) C.x C.b dX8_step_79 (by decide) ?_
    refine r_iastN k rfl (by omega) (by decide) C hS (by omega) m231 dX8_step_80 (fun g_60 H locs e_61 o_62 hS => ?_)
    replace e_61 : g_60 231 = .inl (t.1, 10240, .inl (upd co k 1)) := e_61
    refine lv_aload_n C.x C.b dX8_step_81 rfl (lv_at hl 5 rfl) ?_
    have e_63 : g_60 220 = .inr (8, [.int td, .int (nI n), .ref (B + 221), .ref (B + 222), .ref (B + 223), .int ey, .int wi, .int ev, .ref (B + 224), .ref (B + 225), .ref (B + 226), .ref (B + 227), .ref (B + 228), .ref (B + 229), .ref (B + 230), .ref (B + 231), .ref (B + 232), .ref (B + 233), .ref (B + 234), .ref (B + 235), .ref (B + 236), .int po, .int ps]) := (o_62 _ (by omega)).trans m220
    refine r_get ck8 flX8_45 C hS (by omega) e_63 (by decide) rfl dX8_step_82 ?_
    refine lv_iload_n C.x C.b dX8_step_85 rfl (lv_at hl 6 rfl) ?_
    refine lv_iconst (v := 0) C.x C.b dX8_step_86 (by decide) ?_
    have e_64 : g_60 230 = .inl (t.1, 10240, .inl nu) := (o_62 _ (by omega)).trans m230
    refine r_iastN k rfl (by omega) (by decide) C hS (by omega) e_64 dX8_step_87 (fun g_65 H locs e_66 o_67 hS => ?_)
    replace e_66 : g_65 230 = .inl (t.1, 10240, .inl (upd nu k 0)) := e_66
    refine lv_iload_n C.x C.b dX8_step_88 rfl (lv_at hl 4 rfl) ?_
    refine lv_if_ne (tgt := 94) C.x C.b dX8_step_89 (by decide) (fun c_68 => ?_) (fun c_68 => absurd c_68 (by decide))
    refine lv_iload_n C.x C.b dX8_step_94 rfl (lv_at hl 4 rfl) ?_
    refine lv_iconst (v := 1) C.x C.b dX8_step_95 (by decide) ?_
    refine lv_icmp_ne (tgt := 108) C.x C.b dX8_step_96 (by decide) (fun c_69 => ?_) (fun c_69 => absurd c_69 (by decide))
    refine lv_iload_n C.x C.b dX8_step_108 rfl (lv_at hl 4 rfl) ?_
    refine lv_iconst (v := 2) C.x C.b dX8_step_109 (by decide) ?_
    refine lv_icmp_ne (tgt := 130) C.x C.b dX8_step_110 (by decide) (fun c_70 => absurd (by decide) c_70) (fun c_70 => ?_)
    refine lv_aload_n C.x C.b dX8_step_113 rfl (lv_at hl 5 rfl) ?_
    have e_71 : g_65 220 = .inr (8, [.int td, .int (nI n), .ref (B + 221), .ref (B + 222), .ref (B + 223), .int ey, .int wi, .int ev, .ref (B + 224), .ref (B + 225), .ref (B + 226), .ref (B + 227), .ref (B + 228), .ref (B + 229), .ref (B + 230), .ref (B + 231), .ref (B + 232), .ref (B + 233), .ref (B + 234), .ref (B + 235), .ref (B + 236), .int po, .int ps]) := (o_67 _ (by omega)).trans e_63
    refine r_get ck8 flX8_26 C hS (by omega) e_71 (by decide) rfl dX8_step_114 ?_
    refine lv_iload C.x C.b dX8_step_117 (lv_at hl 3 rfl) ?_
    refine lv_aload_n C.x C.b dX8_step_119 rfl (lv_at hl 5 rfl) ?_
    refine r_get ck8 flX8_26 C hS (by omega) e_71 (by decide) rfl dX8_step_120 ?_
    refine lv_iload C.x C.b dX8_step_123 (lv_at hl 3 rfl) ?_
    have e_72 : g_60 224 = .inl (t.1, 4, .inl rg) := (o_62 _ (by omega)).trans m224
    have e_73 : g_65 224 = .inl (t.1, 4, .inl rg) := (o_67 _ (by omega)).trans e_72
    refine r_ialdN (v / 256 % 4) rfl (by omega) (by decide) C hS (by omega) e_73 dX8_step_125 ?_
    refine lv_iload C.x C.b dX8_step_126 (lv_at hl 0 rfl) ?_
    refine lv_iadd C.x C.b dX8_step_128 ?_
    refine r_iastN (v / 256 % 4) rfl (by omega) (by decide) C hS (by omega) e_73 dX8_step_129 (fun g_74 H locs e_75 o_76 hS => ?_)
    replace e_75 : g_74 224 = .inl (t.1, 4, .inl (upd rg (v / 256 % 4) ((rg (v / 256 % 4)) + (rg (v / 16 % 4))))) := e_75
    refine lv_iload_n C.x C.b dX8_step_130 rfl (lv_at hl 4 rfl) ?_
    refine lv_iconst (v := 3) C.x C.b dX8_step_131 (by decide) ?_
    refine lv_icmp_ne (tgt := 152) C.x C.b dX8_step_132 (by decide) (fun c_77 => ?_) (fun c_77 => absurd c_77 (by decide))
    refine lv_iload_n C.x C.b dX8_step_152 rfl (lv_at hl 4 rfl) ?_
    refine lv_iconst (v := 4) C.x C.b dX8_step_153 (by decide) ?_
    refine lv_icmp_ne (tgt := 174) C.x C.b dX8_step_154 (by decide) (fun c_78 => ?_) (fun c_78 => absurd c_78 (by decide))
    refine lv_iload_n C.x C.b dX8_step_174 rfl (lv_at hl 4 rfl) ?_
    refine lv_iconst (v := 5) C.x C.b dX8_step_175 (by decide) ?_
    refine lv_icmp_ne (tgt := 196) C.x C.b dX8_step_176 (by decide) (fun c_79 => ?_) (fun c_79 => absurd c_79 (by decide))
    refine lv_iload_n C.x C.b dX8_step_196 rfl (lv_at hl 4 rfl) ?_
    refine lv_bipush (v := 6) C.x C.b dX8_step_197 (by decide) ?_
    refine lv_icmp_ne (tgt := 219) C.x C.b dX8_step_199 (by decide) (fun c_80 => ?_) (fun c_80 => absurd c_80 (by decide))
    refine lv_iload_n C.x C.b dX8_step_219 rfl (lv_at hl 4 rfl) ?_
    refine lv_iconst (v := 5) C.x C.b dX8_step_220 (by decide) ?_
    refine lv_icmp_eq (tgt := 230) C.x C.b dX8_step_221 (by decide) (fun c_81 => absurd c_81 (by decide)) (fun c_81 => ?_)
    refine lv_iload_n C.x C.b dX8_step_224 rfl (lv_at hl 4 rfl) ?_
    refine lv_bipush (v := 6) C.x C.b dX8_step_225 (by decide) ?_
    refine lv_icmp_ne (tgt := 241) C.x C.b dX8_step_227 (by decide) (fun c_82 => ?_) (fun c_82 => absurd c_82 (by decide))
    refine lv_iload_n C.x C.b dX8_step_241 rfl (lv_at hl 4 rfl) ?_
    refine lv_bipush (v := 7) C.x C.b dX8_step_242 (by decide) ?_
    refine lv_icmp_ne (tgt := 264) C.x C.b dX8_step_244 (by decide) (fun c_83 => ?_) (fun c_83 => absurd c_83 (by decide))
    refine lv_iload_n C.x C.b dX8_step_264 rfl (lv_at hl 4 rfl) ?_
    refine lv_bipush (v := 9) C.x C.b dX8_step_265 (by decide) ?_
    refine lv_icmp_ne (tgt := 292) C.x C.b dX8_step_267 (by decide) (fun c_84 => ?_) (fun c_84 => absurd c_84 (by decide))
    refine lv_iload_n C.x C.b dX8_step_292 rfl (lv_at hl 4 rfl) ?_
    refine lv_bipush (v := 8) C.x C.b dX8_step_293 (by decide) ?_
    refine lv_icmp_eq (tgt := 314) C.x C.b dX8_step_295 (by decide) (fun c_85 => absurd c_85 (by decide)) (fun c_85 => ?_)
    refine lv_iload_n C.x C.b dX8_step_298 rfl (lv_at hl 4 rfl) ?_
    refine lv_bipush (v := 7) C.x C.b dX8_step_299 (by decide) ?_
    refine lv_icmp_ne (tgt := 319) C.x C.b dX8_step_301 (by decide) (fun c_86 => ?_) (fun c_86 => absurd c_86 (by decide))
    refine lv_iload_n C.x C.b dX8_step_319 rfl (lv_at hl 7 rfl) ?_
    refine lv_iconst (v := 1) C.x C.b dX8_step_320 (by decide) ?_
    refine lv_iadd C.x C.b dX8_step_321 ?_
    refine r_top (y := (nI h + 1)) (rfl) ?_
    have e_87 : g_60 225 = .inl (t.1, 8, .inl mm) := (o_62 _ (by omega)).trans m225
    have e_88 : g_65 225 = .inl (t.1, 8, .inl mm) := (o_67 _ (by omega)).trans e_87
    have e_89 : g_74 225 = .inl (t.1, 8, .inl mm) := (o_76 _ (by omega)).trans e_88
    have e_90 : g_74 230 = .inl (t.1, 10240, .inl (upd nu k 0)) := (o_76 _ (by omega)).trans e_66
    have e_91 : g_65 231 = .inl (t.1, 10240, .inl (upd co k 1)) := (o_67 _ (by omega)).trans e_61
    have e_92 : g_74 231 = .inl (t.1, 10240, .inl (upd co k 1)) := (o_76 _ (by omega)).trans e_91
    have e_93 : g_74 220 = .inr (8, [.int td, .int (nI n), .ref (B + 221), .ref (B + 222), .ref (B + 223), .int ey, .int wi, .int ev, .ref (B + 224), .ref (B + 225), .ref (B + 226), .ref (B + 227), .ref (B + 228), .ref (B + 229), .ref (B + 230), .ref (B + 231), .ref (B + 232), .ref (B + 233), .ref (B + 234), .ref (B + 235), .ref (B + 236), .int po, .int ps]) := (o_76 _ (by omega)).trans e_71
    have e_94 : g_60 221 = .inl (t.1, 10, .inl o) := (o_62 _ (by omega)).trans m221
    have e_95 : g_65 221 = .inl (t.1, 10, .inl o) := (o_67 _ (by omega)).trans e_94
    have e_96 : g_74 221 = .inl (t.1, 10, .inl o) := (o_76 _ (by omega)).trans e_95
    have z_97_r : workR (kdF (o h)) (aF (o h)) (rg (bF (o h))) (cF (o h)) rg mm = (upd rg (v / 256 % 4) ((rg (v / 256 % 4)) + (rg (v / 16 % 4)))) := by rw [hkd, hbF, haF, hcF, workR_2]
    have z_97_m : workM (kdF (o h)) (aF (o h)) (rg (bF (o h))) rg mm = mm := by rw [hkd, workM_2]
    have z_97_n : upd nu k (numF (kdF (o h)) (rg (aF (o h))) (rg (bF (o h)))) = (upd nu k 0) := by rw [hkd, numF_2]
    have z_97_c : upd co k (cosM (kdF (o h)) (rg (bF (o h)))) = (upd co k 1) := by rw [hkd, cosM_2]
    have z_97_x : (nI h + 1) = nextF (kdF (o h)) (rg (aF (o h))) (cF (o h)) (nI h) := by rw [hkd, nextF_2]
    exact r_iret C hr hlocks hS ⟨z_97_x, ⟨by rw [z_97_r]; exact e_75, by rw [z_97_m]; exact e_89, by rw [z_97_n]; exact e_90, by rw [z_97_c]; exact e_92⟩, fun j hj => (o_76 j (by omega)).trans ((o_67 j (by omega)).trans (o_62 j (by omega)))⟩ dX8_step_322
  · have hkd : kdF (o h) = 3 := by rw [hv, kdF_nI hvl, hk]; rfl
    refine r_top (y := 3) (by rw [hk]; rfl) ?_
    refine lv_istore_n (lv' := [(3, .int 3), (0, .ref (B + 220)), (1, .int (nI k)), (2, .int (nI h))]) C.x C.b dX8_step_10 rfl hl (by decide) rfl (fun ls hl => ?_)
    refine lv_aload_n C.x C.b dX8_step_11 rfl (lv_at hl 1 rfl) ?_
    refine r_get ck8 flX8_7 C hS (by omega) m220 (by decide) rfl dX8_step_12 ?_
    refine lv_iload_n C.x C.b dX8_step_15 rfl (lv_at hl 3 rfl) ?_
    refine r_ialdN h rfl (by omega) (by decide) C hS (by omega) m221 dX8_step_16 ?_
    refine r_top (y := nI v) (hv) ?_
    refine lv_sipush (v := 256) C.x C.b dX8_step_17 (by decide) ?_
    refine lv_idiv C.x C.b dX8_step_20 (by decide) ?_
    refine r_top (y := nI (v / 256)) (pk_div (d := 256) (by omega) (by decide) (by decide)) ?_
    refine lv_iconst (v := 4) C.x C.b dX8_step_21 (by decide) ?_
    refine lv_irem C.x C.b dX8_step_22 (by decide) ?_
    refine r_top (y := nI (v / 256 % 4)) (pk_rem (by omega) (by decide) (by decide)) ?_
    refine lv_istore (lv' := [(4, .int (nI (v / 256 % 4))), (3, .int 3), (0, .ref (B + 220)), (1, .int (nI k)), (2, .int (nI h))]) C.x C.b dX8_step_23 hl (by decide) rfl (fun ls hl => ?_)
    refine lv_aload_n C.x C.b dX8_step_25 rfl (lv_at hl 2 rfl) ?_
    refine r_get ck8 flX8_7 C hS (by omega) m220 (by decide) rfl dX8_step_26 ?_
    refine lv_iload_n C.x C.b dX8_step_29 rfl (lv_at hl 4 rfl) ?_
    refine r_ialdN h rfl (by omega) (by decide) C hS (by omega) m221 dX8_step_30 ?_
    refine r_top (y := nI v) (hv) ?_
    refine lv_bipush (v := 16) C.x C.b dX8_step_31 (by decide) ?_
    refine lv_idiv C.x C.b dX8_step_33 (by decide) ?_
    refine r_top (y := nI (v / 16)) (pk_div (d := 16) (by omega) (by decide) (by decide)) ?_
    refine lv_iconst (v := 4) C.x C.b dX8_step_34 (by decide) ?_
    refine lv_irem C.x C.b dX8_step_35 (by decide) ?_
    refine r_top (y := nI (v / 16 % 4)) (pk_rem (by omega) (by decide) (by decide)) ?_
    refine lv_istore (lv' := [(5, .int (nI (v / 16 % 4))), (4, .int (nI (v / 256 % 4))), (3, .int 3), (0, .ref (B + 220)), (1, .int (nI k)), (2, .int (nI h))]) C.x C.b dX8_step_36 hl (by decide) rfl (fun ls hl => ?_)
    refine lv_aload_n C.x C.b dX8_step_38 rfl (lv_at hl 3 rfl) ?_
    refine r_get ck8 flX8_7 C hS (by omega) m220 (by decide) rfl dX8_step_39 ?_
    refine lv_iload_n C.x C.b dX8_step_42 rfl (lv_at hl 5 rfl) ?_
    refine r_ialdN h rfl (by omega) (by decide) C hS (by omega) m221 dX8_step_43 ?_
    refine r_top (y := nI v) (hv) ?_
    refine lv_bipush (v := 16) C.x C.b dX8_step_44 (by decide) ?_
    refine lv_irem C.x C.b dX8_step_46 (by decide) ?_
    refine r_top (y := nI (v % 16)) (pk_rem (by omega) (by decide) (by decide)) ?_
    refine lv_istore (lv' := [(6, .int (nI (v % 16))), (5, .int (nI (v / 16 % 4))), (4, .int (nI (v / 256 % 4))), (3, .int 3), (0, .ref (B + 220)), (1, .int (nI k)), (2, .int (nI h))]) C.x C.b dX8_step_47 hl (by decide) rfl (fun ls hl => ?_)
    refine lv_aload_n C.x C.b dX8_step_49 rfl (lv_at hl 4 rfl) ?_
    refine r_get ck8 flX8_26 C hS (by omega) m220 (by decide) rfl dX8_step_50 ?_
    refine lv_iload C.x C.b dX8_step_53 (lv_at hl 1 rfl) ?_
    refine r_ialdN (v / 16 % 4) rfl (by omega) (by decide) C hS (by omega) m224 dX8_step_55 ?_
    refine lv_istore (lv' := [(7, .int (rg (v / 16 % 4))), (6, .int (nI (v % 16))), (5, .int (nI (v / 16 % 4))), (4, .int (nI (v / 256 % 4))), (3, .int 3), (0, .ref (B + 220)), (1, .int (nI k)), (2, .int (nI h))]) C.x C.b dX8_step_56 hl (by decide) rfl (fun ls hl => ?_)
    refine lv_aload_n C.x C.b dX8_step_58 rfl (lv_at hl 5 rfl) ?_
    refine r_get ck8 flX8_48 C hS (by omega) m220 (by decide) rfl dX8_step_59 ?_
    refine lv_iload_n C.x C.b dX8_step_62 rfl (lv_at hl 6 rfl) ?_
    refine lv_iload_n C.x C.b dX8_step_63 rfl (lv_at hl 4 rfl) ?_
    refine lv_iconst (v := 4) C.x C.b dX8_step_64 (by decide) ?_
    refine lv_icmp_ne (tgt := 79) C.x C.b dX8_step_65 (by decide) (fun c_98 => ?_) (fun c_98 => absurd c_98 (by decide))
    refine lv_iconst (v := 1) C.x C.b dX8_step_79 (by decide) ?_
    refine r_iastN k rfl (by omega) (by decide) C hS (by omega) m231 dX8_step_80 (fun g_99 H locs e_100 o_101 hS => ?_)
    replace e_100 : g_99 231 = .inl (t.1, 10240, .inl (upd co k 1)) := e_100
    refine lv_aload_n C.x C.b dX8_step_81 rfl (lv_at hl 5 rfl) ?_
    have e_102 : g_99 220 = .inr (8, [.int td, .int (nI n), .ref (B + 221), .ref (B + 222), .ref (B + 223), .int ey, .int wi, .int ev, .ref (B + 224), .ref (B + 225), .ref (B + 226), .ref (B + 227), .ref (B + 228), .ref (B + 229), .ref (B + 230), .ref (B + 231), .ref (B + 232), .ref (B + 233), .ref (B + 234), .ref (B + 235), .ref (B + 236), .int po, .int ps]) := (o_101 _ (by omega)).trans m220
    refine r_get ck8 flX8_45 C hS (by omega) e_102 (by decide) rfl dX8_step_82 ?_
    refine lv_iload_n C.x C.b dX8_step_85 rfl (lv_at hl 6 rfl) ?_
    refine lv_iconst (v := 0) C.x C.b dX8_step_86 (by decide) ?_
    have e_103 : g_99 230 = .inl (t.1, 10240, .inl nu) := (o_101 _ (by omega)).trans m230
    refine r_iastN k rfl (by omega) (by decide) C hS (by omega) e_103 dX8_step_87 (fun g_104 H locs e_105 o_106 hS => ?_)
    replace e_105 : g_104 230 = .inl (t.1, 10240, .inl (upd nu k 0)) := e_105
    refine lv_iload_n C.x C.b dX8_step_88 rfl (lv_at hl 4 rfl) ?_
    refine lv_if_ne (tgt := 94) C.x C.b dX8_step_89 (by decide) (fun c_107 => ?_) (fun c_107 => absurd c_107 (by decide))
    refine lv_iload_n C.x C.b dX8_step_94 rfl (lv_at hl 4 rfl) ?_
    refine lv_iconst (v := 1) C.x C.b dX8_step_95 (by decide) ?_
    refine lv_icmp_ne (tgt := 108) C.x C.b dX8_step_96 (by decide) (fun c_108 => ?_) (fun c_108 => absurd c_108 (by decide))
    refine lv_iload_n C.x C.b dX8_step_108 rfl (lv_at hl 4 rfl) ?_
    refine lv_iconst (v := 2) C.x C.b dX8_step_109 (by decide) ?_
    refine lv_icmp_ne (tgt := 130) C.x C.b dX8_step_110 (by decide) (fun c_109 => ?_) (fun c_109 => absurd c_109 (by decide))
    refine lv_iload_n C.x C.b dX8_step_130 rfl (lv_at hl 4 rfl) ?_
    refine lv_iconst (v := 3) C.x C.b dX8_step_131 (by decide) ?_
    refine lv_icmp_ne (tgt := 152) C.x C.b dX8_step_132 (by decide) (fun c_110 => absurd (by decide) c_110) (fun c_110 => ?_)
    refine lv_aload_n C.x C.b dX8_step_135 rfl (lv_at hl 5 rfl) ?_
    have e_111 : g_104 220 = .inr (8, [.int td, .int (nI n), .ref (B + 221), .ref (B + 222), .ref (B + 223), .int ey, .int wi, .int ev, .ref (B + 224), .ref (B + 225), .ref (B + 226), .ref (B + 227), .ref (B + 228), .ref (B + 229), .ref (B + 230), .ref (B + 231), .ref (B + 232), .ref (B + 233), .ref (B + 234), .ref (B + 235), .ref (B + 236), .int po, .int ps]) := (o_106 _ (by omega)).trans e_102
    refine r_get ck8 flX8_26 C hS (by omega) e_111 (by decide) rfl dX8_step_136 ?_
    refine lv_iload C.x C.b dX8_step_139 (lv_at hl 3 rfl) ?_
    refine lv_aload_n C.x C.b dX8_step_141 rfl (lv_at hl 5 rfl) ?_
    refine r_get ck8 flX8_26 C hS (by omega) e_111 (by decide) rfl dX8_step_142 ?_
    refine lv_iload C.x C.b dX8_step_145 (lv_at hl 3 rfl) ?_
    have e_112 : g_99 224 = .inl (t.1, 4, .inl rg) := (o_101 _ (by omega)).trans m224
    have e_113 : g_104 224 = .inl (t.1, 4, .inl rg) := (o_106 _ (by omega)).trans e_112
    refine r_ialdN (v / 256 % 4) rfl (by omega) (by decide) C hS (by omega) e_113 dX8_step_147 ?_
    refine lv_iload C.x C.b dX8_step_148 (lv_at hl 0 rfl) ?_
    refine lv_ixor C.x C.b dX8_step_150 ?_
    refine r_iastN (v / 256 % 4) rfl (by omega) (by decide) C hS (by omega) e_113 dX8_step_151 (fun g_114 H locs e_115 o_116 hS => ?_)
    replace e_115 : g_114 224 = .inl (t.1, 4, .inl (upd rg (v / 256 % 4) ((rg (v / 256 % 4)) ^^^ (rg (v / 16 % 4))))) := e_115
    refine lv_iload_n C.x C.b dX8_step_152 rfl (lv_at hl 4 rfl) ?_
    refine lv_iconst (v := 4) C.x C.b dX8_step_153 (by decide) ?_
    refine lv_icmp_ne (tgt := 174) C.x C.b dX8_step_154 (by decide) (fun c_117 => ?_) (fun c_117 => absurd c_117 (by decide))
    refine lv_iload_n C.x C.b dX8_step_174 rfl (lv_at hl 4 rfl) ?_
    refine lv_iconst (v := 5) C.x C.b dX8_step_175 (by decide) ?_
    refine lv_icmp_ne (tgt := 196) C.x C.b dX8_step_176 (by decide) (fun c_118 => ?_) (fun c_118 => absurd c_118 (by decide))
    refine lv_iload_n C.x C.b dX8_step_196 rfl (lv_at hl 4 rfl) ?_
    refine lv_bipush (v := 6) C.x C.b dX8_step_197 (by decide) ?_
    refine lv_icmp_ne (tgt := 219) C.x C.b dX8_step_199 (by decide) (fun c_119 => ?_) (fun c_119 => absurd c_119 (by decide))
    refine lv_iload_n C.x C.b dX8_step_219 rfl (lv_at hl 4 rfl) ?_
    refine lv_iconst (v := 5) C.x C.b dX8_step_220 (by decide) ?_
    refine lv_icmp_eq (tgt := 230) C.x C.b dX8_step_221 (by decide) (fun c_120 => absurd c_120 (by decide)) (fun c_120 => ?_)
    refine lv_iload_n C.x C.b dX8_step_224 rfl (lv_at hl 4 rfl) ?_
    refine lv_bipush (v := 6) C.x C.b dX8_step_225 (by decide) ?_
    refine lv_icmp_ne (tgt := 241) C.x C.b dX8_step_227 (by decide) (fun c_121 => ?_) (fun c_121 => absurd c_121 (by decide))
    refine lv_iload_n C.x C.b dX8_step_241 rfl (lv_at hl 4 rfl) ?_
    refine lv_bipush (v := 7) C.x C.b dX8_step_242 (by decide) ?_
    refine lv_icmp_ne (tgt := 264) C.x C.b dX8_step_244 (by decide) (fun c_122 => ?_) (fun c_122 => absurd c_122 (by decide))
    refine lv_iload_n C.x C.b dX8_step_264 rfl (lv_at hl 4 rfl) ?_
    refine lv_bipush (v := 9) C.x C.b dX8_step_265 (by decide) ?_
    refine lv_icmp_ne (tgt := 292) C.x C.b dX8_step_267 (by decide) (fun c_123 => ?_) (fun c_123 => absurd c_123 (by decide))
    refine lv_iload_n C.x C.b dX8_step_292 rfl (lv_at hl 4 rfl) ?_
    refine lv_bipush (v := 8) C.x C.b dX8_step_293 (by decide) ?_
    refine lv_icmp_eq (tgt := 314) C.x C.b dX8_step_295 (by decide) (fun c_124 => absurd c_124 (by decide)) (fun c_124 => ?_)
    refine lv_iload_n C.x C.b dX8_step_298 rfl (lv_at hl 4 rfl) ?_
    refine lv_bipush (v := 7) C.x C.b dX8_step_299 (by decide) ?_
    refine lv_icmp_ne (tgt := 319) C.x C.b dX8_step_301 (by decide) (fun c_125 => ?_) (fun c_125 => absurd c_125 (by decide))
    refine lv_iload_n C.x C.b dX8_step_319 rfl (lv_at hl 7 rfl) ?_
    refine lv_iconst (v := 1) C.x C.b dX8_step_320 (by decide) ?_
    refine lv_iadd C.x C.b dX8_step_321 ?_
    refine r_top (y := (nI h + 1)) (rfl) ?_
    have e_126 : g_99 225 = .inl (t.1, 8, .inl mm) := (o_101 _ (by omega)).trans m225
    have e_127 : g_104 225 = .inl (t.1, 8, .inl mm) := (o_106 _ (by omega)).trans e_126
    have e_128 : g_114 225 = .inl (t.1, 8, .inl mm) := (o_116 _ (by omega)).trans e_127
    have e_129 : g_114 230 = .inl (t.1, 10240, .inl (upd nu k 0)) := (o_116 _ (by omega)).trans e_105
    have e_130 : g_104 231 = .inl (t.1, 10240, .inl (upd co k 1)) := (o_106 _ (by omega)).trans e_100
    have e_131 : g_114 231 = .inl (t.1, 10240, .inl (upd co k 1)) := (o_116 _ (by omega)).trans e_130
    have e_132 : g_114 220 = .inr (8, [.int td, .int (nI n), .ref (B + 221), .ref (B + 222), .ref (B + 223), .int ey, .int wi, .int ev, .ref (B + 224), .ref (B + 225), .ref (B + 226), .ref (B + 227), .ref (B + 228), .ref (B + 229), .ref (B + 230), .ref (B + 231), .ref (B + 232), .ref (B + 233), .ref (B + 234), .ref (B + 235), .ref (B + 236), .int po, .int ps]) := (o_116 _ (by omega)).trans e_111
    have e_133 : g_99 221 = .inl (t.1, 10, .inl o) := (o_101 _ (by omega)).trans m221
    have e_134 : g_104 221 = .inl (t.1, 10, .inl o) := (o_106 _ (by omega)).trans e_133
    have e_135 : g_114 221 = .inl (t.1, 10, .inl o) := (o_116 _ (by omega)).trans e_134
    have z_136_r : workR (kdF (o h)) (aF (o h)) (rg (bF (o h))) (cF (o h)) rg mm = (upd rg (v / 256 % 4) ((rg (v / 256 % 4)) ^^^ (rg (v / 16 % 4)))) := by rw [hkd, hbF, haF, hcF, workR_3]
    have z_136_m : workM (kdF (o h)) (aF (o h)) (rg (bF (o h))) rg mm = mm := by rw [hkd, workM_3]
    have z_136_n : upd nu k (numF (kdF (o h)) (rg (aF (o h))) (rg (bF (o h)))) = (upd nu k 0) := by rw [hkd, numF_3]
    have z_136_c : upd co k (cosM (kdF (o h)) (rg (bF (o h)))) = (upd co k 1) := by rw [hkd, cosM_3]
    have z_136_x : (nI h + 1) = nextF (kdF (o h)) (rg (aF (o h))) (cF (o h)) (nI h) := by rw [hkd, nextF_3]
    exact r_iret C hr hlocks hS ⟨z_136_x, ⟨by rw [z_136_r]; exact e_115, by rw [z_136_m]; exact e_128, by rw [z_136_n]; exact e_129, by rw [z_136_c]; exact e_131⟩, fun j hj => (o_116 j (by omega)).trans ((o_106 j (by omega)).trans (o_101 j (by omega)))⟩ dX8_step_322
  · have hkd : kdF (o h) = 4 := by rw [hv, kdF_nI hvl, hk]; rfl
    refine r_top (y := 4) (by rw [hk]; rfl) ?_
    refine lv_istore_n (lv' := [(3, .int 4), (0, .ref (B + 220)), (1, .int (nI k)), (2, .int (nI h))]) C.x C.b dX8_step_10 rfl hl (by decide) rfl (fun ls hl => ?_)
    refine lv_aload_n C.x C.b dX8_step_11 rfl (lv_at hl 1 rfl) ?_
    refine r_get ck8 flX8_7 C hS (by omega) m220 (by decide) rfl dX8_step_12 ?_
    refine lv_iload_n C.x C.b dX8_step_15 rfl (lv_at hl 3 rfl) ?_
    refine r_ialdN h rfl (by omega) (by decide) C hS (by omega) m221 dX8_step_16 ?_
    refine r_top (y := nI v) (hv) ?_
    refine lv_sipush (v := 256) C.x C.b dX8_step_17 (by decide) ?_
    refine lv_idiv C.x C.b dX8_step_20 (by decide) ?_
    refine r_top (y := nI (v / 256)) (pk_div (d := 256) (by omega) (by decide) (by decide)) ?_
    refine lv_iconst (v := 4) C.x C.b dX8_step_21 (by decide) ?_
    refine lv_irem C.x C.b dX8_step_22 (by decide) ?_
    refine r_top (y := nI (v / 256 % 4)) (pk_rem (by omega) (by decide) (by decide)) ?_
    refine lv_istore (lv' := [(4, .int (nI (v / 256 % 4))), (3, .int 4), (0, .ref (B + 220)), (1, .int (nI k)), (2, .int (nI h))]) C.x C.b dX8_step_23 hl (by decide) rfl (fun ls hl => ?_)
    refine lv_aload_n C.x C.b dX8_step_25 rfl (lv_at hl 2 rfl) ?_
    refine r_get ck8 flX8_7 C hS (by omega) m220 (by decide) rfl dX8_step_26 ?_
    refine lv_iload_n C.x C.b dX8_step_29 rfl (lv_at hl 4 rfl) ?_
    refine r_ialdN h rfl (by omega) (by decide) C hS (by omega) m221 dX8_step_30 ?_
    refine r_top (y := nI v) (hv) ?_
    refine lv_bipush (v := 16) C.x C.b dX8_step_31 (by decide) ?_
    refine lv_idiv C.x C.b dX8_step_33 (by decide) ?_
    refine r_top (y := nI (v / 16)) (pk_div (d := 16) (by omega) (by decide) (by decide)) ?_
    refine lv_iconst (v := 4) C.x C.b dX8_step_34 (by decide) ?_
    refine lv_irem C.x C.b dX8_step_35 (by decide) ?_
    refine r_top (y := nI (v / 16 % 4)) (pk_rem (by omega) (by decide) (by decide)) ?_
    refine lv_istore (lv' := [(5, .int (nI (v / 16 % 4))), (4, .int (nI (v / 256 % 4))), (3, .int 4), (0, .ref (B + 220)), (1, .int (nI k)), (2, .int (nI h))]) C.x C.b dX8_step_36 hl (by decide) rfl (fun ls hl => ?_)
    refine lv_aload_n C.x C.b dX8_step_38 rfl (lv_at hl 3 rfl) ?_
    refine r_get ck8 flX8_7 C hS (by omega) m220 (by decide) rfl dX8_step_39 ?_
    refine lv_iload_n C.x C.b dX8_step_42 rfl (lv_at hl 5 rfl) ?_
    refine r_ialdN h rfl (by omega) (by decide) C hS (by omega) m221 dX8_step_43 ?_
    refine r_top (y := nI v) (hv) ?_
    refine lv_bipush (v := 16) C.x C.b dX8_step_44 (by decide) ?_
    refine lv_irem C.x C.b dX8_step_46 (by decide) ?_
    refine r_top (y := nI (v % 16)) (pk_rem (by omega) (by decide) (by decide)) ?_
    refine lv_istore (lv' := [(6, .int (nI (v % 16))), (5, .int (nI (v / 16 % 4))), (4, .int (nI (v / 256 % 4))), (3, .int 4), (0, .ref (B + 220)), (1, .int (nI k)), (2, .int (nI h))]) C.x C.b dX8_step_47 hl (by decide) rfl (fun ls hl => ?_)
    refine lv_aload_n C.x C.b dX8_step_49 rfl (lv_at hl 4 rfl) ?_
    refine r_get ck8 flX8_26 C hS (by omega) m220 (by decide) rfl dX8_step_50 ?_
    refine lv_iload C.x C.b dX8_step_53 (lv_at hl 1 rfl) ?_
    refine r_ialdN (v / 16 % 4) rfl (by omega) (by decide) C hS (by omega) m224 dX8_step_55 ?_
    refine lv_istore (lv' := [(7, .int (rg (v / 16 % 4))), (6, .int (nI (v % 16))), (5, .int (nI (v / 16 % 4))), (4, .int (nI (v / 256 % 4))), (3, .int 4), (0, .ref (B + 220)), (1, .int (nI k)), (2, .int (nI h))]) C.x C.b dX8_step_56 hl (by decide) rfl (fun ls hl => ?_)
    refine lv_aload_n C.x C.b dX8_step_58 rfl (lv_at hl 5 rfl) ?_
    refine r_get ck8 flX8_48 C hS (by omega) m220 (by decide) rfl dX8_step_59 ?_
    refine lv_iload_n C.x C.b dX8_step_62 rfl (lv_at hl 6 rfl) ?_
    refine lv_iload_n C.x C.b dX8_step_63 rfl (lv_at hl 4 rfl) ?_
    refine lv_iconst (v := 4) C.x C.b dX8_step_64 (by decide) ?_
    refine lv_icmp_ne (tgt := 79) C.x C.b dX8_step_65 (by decide) (fun c_137 => absurd (by decide) c_137) (fun c_137 => ?_)
    refine lv_iconst (v := 1) C.x C.b dX8_step_68 (by decide) ?_
    refine lv_aload_n C.x C.b dX8_step_69 rfl (lv_at hl 5 rfl) ?_
    refine lv_iload C.x C.b dX8_step_70 (lv_at hl 0 rfl) ?_
    refine r_callV (b := 220) (As := [.int (rg (v / 16 % 4))]) (rest := [.int 1, .int (nI k), .ref (B + 231)]) (c_X8_bits l D t B N g (rg (v / 16 % 4))) mf_yX8_bits mlX8_87 im_yX8_bits se_yX8_bits (by decide) C hS (by omega) m220 (show vwCl[8]? = some _ from rfl) rfl rfl hl.1 rfl (Nat.le_of_ble_eq_true rfl) dX8_step_72 ⟨Nat.zero_le _, Nat.zero_le _⟩ (fun r_140 g_138 H locs w_139 hS => ?_)
    obtain ⟨rfl, er_140⟩ := w_139
    subst er_140
    refine lv_iadd C.x C.b dX8_step_75 ?_
    refine lv_goto (tgt := 80) C.x C.b dX8_step_76 (by decide) ?_
    refine r_iastN k rfl (by omega) (by decide) C hS (by omega) m231 dX8_step_80 (fun g_141 H locs e_142 o_143 hS => ?_)
    replace e_142 : g_141 231 = .inl (t.1, 10240, .inl (upd co k (1 + (bitsL 32 0 (rg (v / 16 % 4)))))) := e_142
    refine lv_aload_n C.x C.b dX8_step_81 rfl (lv_at hl 5 rfl) ?_
    have e_144 : g_141 220 = .inr (8, [.int td, .int (nI n), .ref (B + 221), .ref (B + 222), .ref (B + 223), .int ey, .int wi, .int ev, .ref (B + 224), .ref (B + 225), .ref (B + 226), .ref (B + 227), .ref (B + 228), .ref (B + 229), .ref (B + 230), .ref (B + 231), .ref (B + 232), .ref (B + 233), .ref (B + 234), .ref (B + 235), .ref (B + 236), .int po, .int ps]) := (o_143 _ (by omega)).trans m220
    refine r_get ck8 flX8_45 C hS (by omega) e_144 (by decide) rfl dX8_step_82 ?_
    refine lv_iload_n C.x C.b dX8_step_85 rfl (lv_at hl 6 rfl) ?_
    refine lv_iconst (v := 0) C.x C.b dX8_step_86 (by decide) ?_
    have e_145 : g_141 230 = .inl (t.1, 10240, .inl nu) := (o_143 _ (by omega)).trans m230
    refine r_iastN k rfl (by omega) (by decide) C hS (by omega) e_145 dX8_step_87 (fun g_146 H locs e_147 o_148 hS => ?_)
    replace e_147 : g_146 230 = .inl (t.1, 10240, .inl (upd nu k 0)) := e_147
    refine lv_iload_n C.x C.b dX8_step_88 rfl (lv_at hl 4 rfl) ?_
    refine lv_if_ne (tgt := 94) C.x C.b dX8_step_89 (by decide) (fun c_149 => ?_) (fun c_149 => absurd c_149 (by decide))
    refine lv_iload_n C.x C.b dX8_step_94 rfl (lv_at hl 4 rfl) ?_
    refine lv_iconst (v := 1) C.x C.b dX8_step_95 (by decide) ?_
    refine lv_icmp_ne (tgt := 108) C.x C.b dX8_step_96 (by decide) (fun c_150 => ?_) (fun c_150 => absurd c_150 (by decide))
    refine lv_iload_n C.x C.b dX8_step_108 rfl (lv_at hl 4 rfl) ?_
    refine lv_iconst (v := 2) C.x C.b dX8_step_109 (by decide) ?_
    refine lv_icmp_ne (tgt := 130) C.x C.b dX8_step_110 (by decide) (fun c_151 => ?_) (fun c_151 => absurd c_151 (by decide))
    refine lv_iload_n C.x C.b dX8_step_130 rfl (lv_at hl 4 rfl) ?_
    refine lv_iconst (v := 3) C.x C.b dX8_step_131 (by decide) ?_
    refine lv_icmp_ne (tgt := 152) C.x C.b dX8_step_132 (by decide) (fun c_152 => ?_) (fun c_152 => absurd c_152 (by decide))
    refine lv_iload_n C.x C.b dX8_step_152 rfl (lv_at hl 4 rfl) ?_
    refine lv_iconst (v := 4) C.x C.b dX8_step_153 (by decide) ?_
    refine lv_icmp_ne (tgt := 174) C.x C.b dX8_step_154 (by decide) (fun c_153 => absurd (by decide) c_153) (fun c_153 => ?_)
    refine lv_aload_n C.x C.b dX8_step_157 rfl (lv_at hl 5 rfl) ?_
    have e_154 : g_146 220 = .inr (8, [.int td, .int (nI n), .ref (B + 221), .ref (B + 222), .ref (B + 223), .int ey, .int wi, .int ev, .ref (B + 224), .ref (B + 225), .ref (B + 226), .ref (B + 227), .ref (B + 228), .ref (B + 229), .ref (B + 230), .ref (B + 231), .ref (B + 232), .ref (B + 233), .ref (B + 234), .ref (B + 235), .ref (B + 236), .int po, .int ps]) := (o_148 _ (by omega)).trans e_144
    refine r_get ck8 flX8_26 C hS (by omega) e_154 (by decide) rfl dX8_step_158 ?_
    refine lv_iload C.x C.b dX8_step_161 (lv_at hl 3 rfl) ?_
    refine lv_aload_n C.x C.b dX8_step_163 rfl (lv_at hl 5 rfl) ?_
    refine r_get ck8 flX8_26 C hS (by omega) e_154 (by decide) rfl dX8_step_164 ?_
    refine lv_iload C.x C.b dX8_step_167 (lv_at hl 3 rfl) ?_
    have e_155 : g_141 224 = .inl (t.1, 4, .inl rg) := (o_143 _ (by omega)).trans m224
    have e_156 : g_146 224 = .inl (t.1, 4, .inl rg) := (o_148 _ (by omega)).trans e_155
    refine r_ialdN (v / 256 % 4) rfl (by omega) (by decide) C hS (by omega) e_156 dX8_step_169 ?_
    refine lv_iload C.x C.b dX8_step_170 (lv_at hl 0 rfl) ?_
    refine lv_imul C.x C.b dX8_step_172 ?_
    refine r_iastN (v / 256 % 4) rfl (by omega) (by decide) C hS (by omega) e_156 dX8_step_173 (fun g_157 H locs e_158 o_159 hS => ?_)
    replace e_158 : g_157 224 = .inl (t.1, 4, .inl (upd rg (v / 256 % 4) ((rg (v / 256 % 4)) * (rg (v / 16 % 4))))) := e_158
    refine lv_iload_n C.x C.b dX8_step_174 rfl (lv_at hl 4 rfl) ?_
    refine lv_iconst (v := 5) C.x C.b dX8_step_175 (by decide) ?_
    refine lv_icmp_ne (tgt := 196) C.x C.b dX8_step_176 (by decide) (fun c_160 => ?_) (fun c_160 => absurd c_160 (by decide))
    refine lv_iload_n C.x C.b dX8_step_196 rfl (lv_at hl 4 rfl) ?_
    refine lv_bipush (v := 6) C.x C.b dX8_step_197 (by decide) ?_
    refine lv_icmp_ne (tgt := 219) C.x C.b dX8_step_199 (by decide) (fun c_161 => ?_) (fun c_161 => absurd c_161 (by decide))
    refine lv_iload_n C.x C.b dX8_step_219 rfl (lv_at hl 4 rfl) ?_
    refine lv_iconst (v := 5) C.x C.b dX8_step_220 (by decide) ?_
    refine lv_icmp_eq (tgt := 230) C.x C.b dX8_step_221 (by decide) (fun c_162 => absurd c_162 (by decide)) (fun c_162 => ?_)
    refine lv_iload_n C.x C.b dX8_step_224 rfl (lv_at hl 4 rfl) ?_
    refine lv_bipush (v := 6) C.x C.b dX8_step_225 (by decide) ?_
    refine lv_icmp_ne (tgt := 241) C.x C.b dX8_step_227 (by decide) (fun c_163 => ?_) (fun c_163 => absurd c_163 (by decide))
    refine lv_iload_n C.x C.b dX8_step_241 rfl (lv_at hl 4 rfl) ?_
    refine lv_bipush (v := 7) C.x C.b dX8_step_242 (by decide) ?_
    refine lv_icmp_ne (tgt := 264) C.x C.b dX8_step_244 (by decide) (fun c_164 => ?_) (fun c_164 => absurd c_164 (by decide))
    refine lv_iload_n C.x C.b dX8_step_264 rfl (lv_at hl 4 rfl) ?_
    refine lv_bipush (v := 9) C.x C.b dX8_step_265 (by decide) ?_
    refine lv_icmp_ne (tgt := 292) C.x C.b dX8_step_267 (by decide) (fun c_165 => ?_) (fun c_165 => absurd c_165 (by decide))
    refine lv_iload_n C.x C.b dX8_step_292 rfl (lv_at hl 4 rfl) ?_
    refine lv_bipush (v := 8) C.x C.b dX8_step_293 (by decide) ?_
    refine lv_icmp_eq (tgt := 314) C.x C.b dX8_step_295 (by decide) (fun c_166 => absurd c_166 (by decide)) (fun c_166 => ?_)
    refine lv_iload_n C.x C.b dX8_step_298 rfl (lv_at hl 4 rfl) ?_
    refine lv_bipush (v := 7) C.x C.b dX8_step_299 (by decide) ?_
    refine lv_icmp_ne (tgt := 319) C.x C.b dX8_step_301 (by decide) (fun c_167 => ?_) (fun c_167 => absurd c_167 (by decide))
    refine lv_iload_n C.x C.b dX8_step_319 rfl (lv_at hl 7 rfl) ?_
    refine lv_iconst (v := 1) C.x C.b dX8_step_320 (by decide) ?_
    refine lv_iadd C.x C.b dX8_step_321 ?_
    refine r_top (y := (nI h + 1)) (rfl) ?_
    have e_168 : g_141 225 = .inl (t.1, 8, .inl mm) := (o_143 _ (by omega)).trans m225
    have e_169 : g_146 225 = .inl (t.1, 8, .inl mm) := (o_148 _ (by omega)).trans e_168
    have e_170 : g_157 225 = .inl (t.1, 8, .inl mm) := (o_159 _ (by omega)).trans e_169
    have e_171 : g_157 230 = .inl (t.1, 10240, .inl (upd nu k 0)) := (o_159 _ (by omega)).trans e_147
    have e_172 : g_146 231 = .inl (t.1, 10240, .inl (upd co k (1 + (bitsL 32 0 (rg (v / 16 % 4)))))) := (o_148 _ (by omega)).trans e_142
    have e_173 : g_157 231 = .inl (t.1, 10240, .inl (upd co k (1 + (bitsL 32 0 (rg (v / 16 % 4)))))) := (o_159 _ (by omega)).trans e_172
    have e_174 : g_157 220 = .inr (8, [.int td, .int (nI n), .ref (B + 221), .ref (B + 222), .ref (B + 223), .int ey, .int wi, .int ev, .ref (B + 224), .ref (B + 225), .ref (B + 226), .ref (B + 227), .ref (B + 228), .ref (B + 229), .ref (B + 230), .ref (B + 231), .ref (B + 232), .ref (B + 233), .ref (B + 234), .ref (B + 235), .ref (B + 236), .int po, .int ps]) := (o_159 _ (by omega)).trans e_154
    have e_175 : g_141 221 = .inl (t.1, 10, .inl o) := (o_143 _ (by omega)).trans m221
    have e_176 : g_146 221 = .inl (t.1, 10, .inl o) := (o_148 _ (by omega)).trans e_175
    have e_177 : g_157 221 = .inl (t.1, 10, .inl o) := (o_159 _ (by omega)).trans e_176
    have z_178_r : workR (kdF (o h)) (aF (o h)) (rg (bF (o h))) (cF (o h)) rg mm = (upd rg (v / 256 % 4) ((rg (v / 256 % 4)) * (rg (v / 16 % 4)))) := by rw [hkd, hbF, haF, hcF, workR_4]
    have z_178_m : workM (kdF (o h)) (aF (o h)) (rg (bF (o h))) rg mm = mm := by rw [hkd, workM_4]
    have z_178_n : upd nu k (numF (kdF (o h)) (rg (aF (o h))) (rg (bF (o h)))) = (upd nu k 0) := by rw [hkd, numF_4]
    have z_178_c : upd co k (cosM (kdF (o h)) (rg (bF (o h)))) = (upd co k (1 + (bitsL 32 0 (rg (v / 16 % 4))))) := by rw [hkd, hbF, cosM_4]
    have z_178_x : (nI h + 1) = nextF (kdF (o h)) (rg (aF (o h))) (cF (o h)) (nI h) := by rw [hkd, nextF_4]
    exact r_iret C hr hlocks hS ⟨z_178_x, ⟨by rw [z_178_r]; exact e_158, by rw [z_178_m]; exact e_170, by rw [z_178_n]; exact e_171, by rw [z_178_c]; exact e_173⟩, fun j hj => (o_159 j (by omega)).trans ((o_148 j (by omega)).trans (o_143 j (by omega)))⟩ dX8_step_322
  · have hkd : kdF (o h) = 5 := by rw [hv, kdF_nI hvl, hk]; rfl
    refine r_top (y := 5) (by rw [hk]; rfl) ?_
    refine lv_istore_n (lv' := [(3, .int 5), (0, .ref (B + 220)), (1, .int (nI k)), (2, .int (nI h))]) C.x C.b dX8_step_10 rfl hl (by decide) rfl (fun ls hl => ?_)
    refine lv_aload_n C.x C.b dX8_step_11 rfl (lv_at hl 1 rfl) ?_
    refine r_get ck8 flX8_7 C hS (by omega) m220 (by decide) rfl dX8_step_12 ?_
    refine lv_iload_n C.x C.b dX8_step_15 rfl (lv_at hl 3 rfl) ?_
    refine r_ialdN h rfl (by omega) (by decide) C hS (by omega) m221 dX8_step_16 ?_
    refine r_top (y := nI v) (hv) ?_
    refine lv_sipush (v := 256) C.x C.b dX8_step_17 (by decide) ?_
    refine lv_idiv C.x C.b dX8_step_20 (by decide) ?_
    refine r_top (y := nI (v / 256)) (pk_div (d := 256) (by omega) (by decide) (by decide)) ?_
    refine lv_iconst (v := 4) C.x C.b dX8_step_21 (by decide) ?_
    refine lv_irem C.x C.b dX8_step_22 (by decide) ?_
    refine r_top (y := nI (v / 256 % 4)) (pk_rem (by omega) (by decide) (by decide)) ?_
    refine lv_istore (lv' := [(4, .int (nI (v / 256 % 4))), (3, .int 5), (0, .ref (B + 220)), (1, .int (nI k)), (2, .int (nI h))]) C.x C.b dX8_step_23 hl (by decide) rfl (fun ls hl => ?_)
    refine lv_aload_n C.x C.b dX8_step_25 rfl (lv_at hl 2 rfl) ?_
    refine r_get ck8 flX8_7 C hS (by omega) m220 (by decide) rfl dX8_step_26 ?_
    refine lv_iload_n C.x C.b dX8_step_29 rfl (lv_at hl 4 rfl) ?_
    refine r_ialdN h rfl (by omega) (by decide) C hS (by omega) m221 dX8_step_30 ?_
    refine r_top (y := nI v) (hv) ?_
    refine lv_bipush (v := 16) C.x C.b dX8_step_31 (by decide) ?_
    refine lv_idiv C.x C.b dX8_step_33 (by decide) ?_
    refine r_top (y := nI (v / 16)) (pk_div (d := 16) (by omega) (by decide) (by decide)) ?_
    refine lv_iconst (v := 4) C.x C.b dX8_step_34 (by decide) ?_
    refine lv_irem C.x C.b dX8_step_35 (by decide) ?_
    refine r_top (y := nI (v / 16 % 4)) (pk_rem (by omega) (by decide) (by decide)) ?_
    refine lv_istore (lv' := [(5, .int (nI (v / 16 % 4))), (4, .int (nI (v / 256 % 4))), (3, .int 5), (0, .ref (B + 220)), (1, .int (nI k)), (2, .int (nI h))]) C.x C.b dX8_step_36 hl (by decide) rfl (fun ls hl => ?_)
    refine lv_aload_n C.x C.b dX8_step_38 rfl (lv_at hl 3 rfl) ?_
    refine r_get ck8 flX8_7 C hS (by omega) m220 (by decide) rfl dX8_step_39 ?_
    refine lv_iload_n C.x C.b dX8_step_42 rfl (lv_at hl 5 rfl) ?_
    refine r_ialdN h rfl (by omega) (by decide) C hS (by omega) m221 dX8_step_43 ?_
    refine r_top (y := nI v) (hv) ?_
    refine lv_bipush (v := 16) C.x C.b dX8_step_44 (by decide) ?_
    refine lv_irem C.x C.b dX8_step_46 (by decide) ?_
    refine r_top (y := nI (v % 16)) (pk_rem (by omega) (by decide) (by decide)) ?_
    refine lv_istore (lv' := [(6, .int (nI (v % 16))), (5, .int (nI (v / 16 % 4))), (4, .int (nI (v / 256 % 4))), (3, .int 5), (0, .ref (B + 220)), (1, .int (nI k)), (2, .int (nI h))]) C.x C.b dX8_step_47 hl (by decide) rfl (fun ls hl => ?_)
    refine lv_aload_n C.x C.b dX8_step_49 rfl (lv_at hl 4 rfl) ?_
    refine r_get ck8 flX8_26 C hS (by omega) m220 (by decide) rfl dX8_step_50 ?_
    refine lv_iload C.x C.b dX8_step_53 (lv_at hl 1 rfl) ?_
    refine r_ialdN (v / 16 % 4) rfl (by omega) (by decide) C hS (by omega) m224 dX8_step_55 ?_
    refine lv_istore (lv' := [(7, .int (rg (v / 16 % 4))), (6, .int (nI (v % 16))), (5, .int (nI (v / 16 % 4))), (4, .int (nI (v / 256 % 4))), (3, .int 5), (0, .ref (B + 220)), (1, .int (nI k)), (2, .int (nI h))]) C.x C.b dX8_step_56 hl (by decide) rfl (fun ls hl => ?_)
    refine lv_aload_n C.x C.b dX8_step_58 rfl (lv_at hl 5 rfl) ?_
    refine r_get ck8 flX8_48 C hS (by omega) m220 (by decide) rfl dX8_step_59 ?_
    refine lv_iload_n C.x C.b dX8_step_62 rfl (lv_at hl 6 rfl) ?_
    refine lv_iload_n C.x C.b dX8_step_63 rfl (lv_at hl 4 rfl) ?_
    refine lv_iconst (v := 4) C.x C.b dX8_step_64 (by decide) ?_
    refine lv_icmp_ne (tgt := 79) C.x C.b dX8_step_65 (by decide) (fun c_179 => ?_) (fun c_179 => absurd c_179 (by decide))
    refine lv_iconst (v := 1) C.x C.b dX8_step_79 (by decide) ?_
    refine r_iastN k rfl (by omega) (by decide) C hS (by omega) m231 dX8_step_80 (fun g_180 H locs e_181 o_182 hS => ?_)
    replace e_181 : g_180 231 = .inl (t.1, 10240, .inl (upd co k 1)) := e_181
    refine lv_aload_n C.x C.b dX8_step_81 rfl (lv_at hl 5 rfl) ?_
    have e_183 : g_180 220 = .inr (8, [.int td, .int (nI n), .ref (B + 221), .ref (B + 222), .ref (B + 223), .int ey, .int wi, .int ev, .ref (B + 224), .ref (B + 225), .ref (B + 226), .ref (B + 227), .ref (B + 228), .ref (B + 229), .ref (B + 230), .ref (B + 231), .ref (B + 232), .ref (B + 233), .ref (B + 234), .ref (B + 235), .ref (B + 236), .int po, .int ps]) := (o_182 _ (by omega)).trans m220
    refine r_get ck8 flX8_45 C hS (by omega) e_183 (by decide) rfl dX8_step_82 ?_
    refine lv_iload_n C.x C.b dX8_step_85 rfl (lv_at hl 6 rfl) ?_
    refine lv_iconst (v := 0) C.x C.b dX8_step_86 (by decide) ?_
    have e_184 : g_180 230 = .inl (t.1, 10240, .inl nu) := (o_182 _ (by omega)).trans m230
    refine r_iastN k rfl (by omega) (by decide) C hS (by omega) e_184 dX8_step_87 (fun g_185 H locs e_186 o_187 hS => ?_)
    replace e_186 : g_185 230 = .inl (t.1, 10240, .inl (upd nu k 0)) := e_186
    refine lv_iload_n C.x C.b dX8_step_88 rfl (lv_at hl 4 rfl) ?_
    refine lv_if_ne (tgt := 94) C.x C.b dX8_step_89 (by decide) (fun c_188 => ?_) (fun c_188 => absurd c_188 (by decide))
    refine lv_iload_n C.x C.b dX8_step_94 rfl (lv_at hl 4 rfl) ?_
    refine lv_iconst (v := 1) C.x C.b dX8_step_95 (by decide) ?_
    refine lv_icmp_ne (tgt := 108) C.x C.b dX8_step_96 (by decide) (fun c_189 => ?_) (fun c_189 => absurd c_189 (by decide))
    refine lv_iload_n C.x C.b dX8_step_108 rfl (lv_at hl 4 rfl) ?_
    refine lv_iconst (v := 2) C.x C.b dX8_step_109 (by decide) ?_
    refine lv_icmp_ne (tgt := 130) C.x C.b dX8_step_110 (by decide) (fun c_190 => ?_) (fun c_190 => absurd c_190 (by decide))
    refine lv_iload_n C.x C.b dX8_step_130 rfl (lv_at hl 4 rfl) ?_
    refine lv_iconst (v := 3) C.x C.b dX8_step_131 (by decide) ?_
    refine lv_icmp_ne (tgt := 152) C.x C.b dX8_step_132 (by decide) (fun c_191 => ?_) (fun c_191 => absurd c_191 (by decide))
    refine lv_iload_n C.x C.b dX8_step_152 rfl (lv_at hl 4 rfl) ?_
    refine lv_iconst (v := 4) C.x C.b dX8_step_153 (by decide) ?_
    refine lv_icmp_ne (tgt := 174) C.x C.b dX8_step_154 (by decide) (fun c_192 => ?_) (fun c_192 => absurd c_192 (by decide))
    refine lv_iload_n C.x C.b dX8_step_174 rfl (lv_at hl 4 rfl) ?_
    refine lv_iconst (v := 5) C.x C.b dX8_step_175 (by decide) ?_
    refine lv_icmp_ne (tgt := 196) C.x C.b dX8_step_176 (by decide) (fun c_193 => absurd (by decide) c_193) (fun c_193 => ?_)
    refine lv_aload_n C.x C.b dX8_step_179 rfl (lv_at hl 5 rfl) ?_
    have e_194 : g_185 220 = .inr (8, [.int td, .int (nI n), .ref (B + 221), .ref (B + 222), .ref (B + 223), .int ey, .int wi, .int ev, .ref (B + 224), .ref (B + 225), .ref (B + 226), .ref (B + 227), .ref (B + 228), .ref (B + 229), .ref (B + 230), .ref (B + 231), .ref (B + 232), .ref (B + 233), .ref (B + 234), .ref (B + 235), .ref (B + 236), .int po, .int ps]) := (o_187 _ (by omega)).trans e_183
    refine r_get ck8 flX8_26 C hS (by omega) e_194 (by decide) rfl dX8_step_180 ?_
    refine lv_iload C.x C.b dX8_step_183 (lv_at hl 3 rfl) ?_
    refine lv_aload_n C.x C.b dX8_step_185 rfl (lv_at hl 5 rfl) ?_
    refine r_get ck8 flX8_29 C hS (by omega) e_194 (by decide) rfl dX8_step_186 ?_
    refine lv_iload C.x C.b dX8_step_189 (lv_at hl 0 rfl) ?_
    refine lv_bipush (v := 7) C.x C.b dX8_step_191 (by decide) ?_
    refine lv_iand C.x C.b dX8_step_193 ?_
    have e_195 : g_180 225 = .inl (t.1, 8, .inl mm) := (o_182 _ (by omega)).trans m225
    have e_196 : g_185 225 = .inl (t.1, 8, .inl mm) := (o_187 _ (by omega)).trans e_195
    refine r_ialdN (lo3 (rg (v / 16 % 4))) (lo3_eq _) (lo3_lt _) (by decide) C hS (by omega) e_196 dX8_step_194 ?_
    have e_197 : g_180 224 = .inl (t.1, 4, .inl rg) := (o_182 _ (by omega)).trans m224
    have e_198 : g_185 224 = .inl (t.1, 4, .inl rg) := (o_187 _ (by omega)).trans e_197
    refine r_iastN (v / 256 % 4) rfl (by omega) (by decide) C hS (by omega) e_198 dX8_step_195 (fun g_199 H locs e_200 o_201 hS => ?_)
    replace e_200 : g_199 224 = .inl (t.1, 4, .inl (upd rg (v / 256 % 4) (mm (lo3 (rg (v / 16 % 4)))))) := e_200
    refine lv_iload_n C.x C.b dX8_step_196 rfl (lv_at hl 4 rfl) ?_
    refine lv_bipush (v := 6) C.x C.b dX8_step_197 (by decide) ?_
    refine lv_icmp_ne (tgt := 219) C.x C.b dX8_step_199 (by decide) (fun c_202 => ?_) (fun c_202 => absurd c_202 (by decide))
    refine lv_iload_n C.x C.b dX8_step_219 rfl (lv_at hl 4 rfl) ?_
    refine lv_iconst (v := 5) C.x C.b dX8_step_220 (by decide) ?_
    refine lv_icmp_eq (tgt := 230) C.x C.b dX8_step_221 (by decide) (fun c_203 => ?_) (fun c_203 => absurd (by decide) c_203)
    refine lv_aload_n C.x C.b dX8_step_230 rfl (lv_at hl 5 rfl) ?_
    have e_204 : g_199 220 = .inr (8, [.int td, .int (nI n), .ref (B + 221), .ref (B + 222), .ref (B + 223), .int ey, .int wi, .int ev, .ref (B + 224), .ref (B + 225), .ref (B + 226), .ref (B + 227), .ref (B + 228), .ref (B + 229), .ref (B + 230), .ref (B + 231), .ref (B + 232), .ref (B + 233), .ref (B + 234), .ref (B + 235), .ref (B + 236), .int po, .int ps]) := (o_201 _ (by omega)).trans e_194
    refine r_get ck8 flX8_45 C hS (by omega) e_204 (by decide) rfl dX8_step_231 ?_
    refine lv_iload_n C.x C.b dX8_step_234 rfl (lv_at hl 6 rfl) ?_
    refine lv_iload C.x C.b dX8_step_235 (lv_at hl 0 rfl) ?_
    refine lv_bipush (v := 7) C.x C.b dX8_step_237 (by decide) ?_
    refine lv_iand C.x C.b dX8_step_239 ?_
    have e_205 : g_199 230 = .inl (t.1, 10240, .inl (upd nu k 0)) := (o_201 _ (by omega)).trans e_186
    refine r_iastN k rfl (by omega) (by decide) C hS (by omega) e_205 dX8_step_240 (fun g_206 H locs e_207 o_208 hS => ?_)
    replace e_207 : g_206 230 = .inl (t.1, 10240, .inl (upd (upd nu k 0) k ((rg (v / 16 % 4)) &&& 7))) := e_207
    refine lv_iload_n C.x C.b dX8_step_241 rfl (lv_at hl 4 rfl) ?_
    refine lv_bipush (v := 7) C.x C.b dX8_step_242 (by decide) ?_
    refine lv_icmp_ne (tgt := 264) C.x C.b dX8_step_244 (by decide) (fun c_209 => ?_) (fun c_209 => absurd c_209 (by decide))
    refine lv_iload_n C.x C.b dX8_step_264 rfl (lv_at hl 4 rfl) ?_
    refine lv_bipush (v := 9) C.x C.b dX8_step_265 (by decide) ?_
    refine lv_icmp_ne (tgt := 292) C.x C.b dX8_step_267 (by decide) (fun c_210 => ?_) (fun c_210 => absurd c_210 (by decide))
    refine lv_iload_n C.x C.b dX8_step_292 rfl (lv_at hl 4 rfl) ?_
    refine lv_bipush (v := 8) C.x C.b dX8_step_293 (by decide) ?_
    refine lv_icmp_eq (tgt := 314) C.x C.b dX8_step_295 (by decide) (fun c_211 => absurd c_211 (by decide)) (fun c_211 => ?_)
    refine lv_iload_n C.x C.b dX8_step_298 rfl (lv_at hl 4 rfl) ?_
    refine lv_bipush (v := 7) C.x C.b dX8_step_299 (by decide) ?_
    refine lv_icmp_ne (tgt := 319) C.x C.b dX8_step_301 (by decide) (fun c_212 => ?_) (fun c_212 => absurd c_212 (by decide))
    refine lv_iload_n C.x C.b dX8_step_319 rfl (lv_at hl 7 rfl) ?_
    refine lv_iconst (v := 1) C.x C.b dX8_step_320 (by decide) ?_
    refine lv_iadd C.x C.b dX8_step_321 ?_
    refine r_top (y := (nI h + 1)) (rfl) ?_
    have e_213 : g_206 224 = .inl (t.1, 4, .inl (upd rg (v / 256 % 4) (mm (lo3 (rg (v / 16 % 4)))))) := (o_208 _ (by omega)).trans e_200
    have e_214 : g_199 225 = .inl (t.1, 8, .inl mm) := (o_201 _ (by omega)).trans e_196
    have e_215 : g_206 225 = .inl (t.1, 8, .inl mm) := (o_208 _ (by omega)).trans e_214
    have e_216 : g_185 231 = .inl (t.1, 10240, .inl (upd co k 1)) := (o_187 _ (by omega)).trans e_181
    have e_217 : g_199 231 = .inl (t.1, 10240, .inl (upd co k 1)) := (o_201 _ (by omega)).trans e_216
    have e_218 : g_206 231 = .inl (t.1, 10240, .inl (upd co k 1)) := (o_208 _ (by omega)).trans e_217
    have e_219 : g_206 220 = .inr (8, [.int td, .int (nI n), .ref (B + 221), .ref (B + 222), .ref (B + 223), .int ey, .int wi, .int ev, .ref (B + 224), .ref (B + 225), .ref (B + 226), .ref (B + 227), .ref (B + 228), .ref (B + 229), .ref (B + 230), .ref (B + 231), .ref (B + 232), .ref (B + 233), .ref (B + 234), .ref (B + 235), .ref (B + 236), .int po, .int ps]) := (o_208 _ (by omega)).trans e_204
    have e_220 : g_180 221 = .inl (t.1, 10, .inl o) := (o_182 _ (by omega)).trans m221
    have e_221 : g_185 221 = .inl (t.1, 10, .inl o) := (o_187 _ (by omega)).trans e_220
    have e_222 : g_199 221 = .inl (t.1, 10, .inl o) := (o_201 _ (by omega)).trans e_221
    have e_223 : g_206 221 = .inl (t.1, 10, .inl o) := (o_208 _ (by omega)).trans e_222
    have z_224_r : workR (kdF (o h)) (aF (o h)) (rg (bF (o h))) (cF (o h)) rg mm = (upd rg (v / 256 % 4) (mm (lo3 (rg (v / 16 % 4))))) := by rw [hkd, hbF, haF, hcF, workR_5]
    have z_224_m : workM (kdF (o h)) (aF (o h)) (rg (bF (o h))) rg mm = mm := by rw [hkd, workM_5]
    have z_224_n : upd nu k (numF (kdF (o h)) (rg (aF (o h))) (rg (bF (o h)))) = (upd (upd nu k 0) k ((rg (v / 16 % 4)) &&& 7)) := by rw [hkd, hbF, numF_5]; rw [lo3_eq (rg (v / 16 % 4))]; exact (upd_upd _ _ _ _).symm
    have z_224_c : upd co k (cosM (kdF (o h)) (rg (bF (o h)))) = (upd co k 1) := by rw [hkd, cosM_5]
    have z_224_x : (nI h + 1) = nextF (kdF (o h)) (rg (aF (o h))) (cF (o h)) (nI h) := by rw [hkd, nextF_5]
    exact r_iret C hr hlocks hS ⟨z_224_x, ⟨by rw [z_224_r]; exact e_213, by rw [z_224_m]; exact e_215, by rw [z_224_n]; exact e_207, by rw [z_224_c]; exact e_218⟩, fun j hj => (o_208 j (by omega)).trans ((o_201 j (by omega)).trans ((o_187 j (by omega)).trans (o_182 j (by omega))))⟩ dX8_step_322
  · have hkd : kdF (o h) = 6 := by rw [hv, kdF_nI hvl, hk]; rfl
    refine r_top (y := 6) (by rw [hk]; rfl) ?_
    refine lv_istore_n (lv' := [(3, .int 6), (0, .ref (B + 220)), (1, .int (nI k)), (2, .int (nI h))]) C.x C.b dX8_step_10 rfl hl (by decide) rfl (fun ls hl => ?_)
    refine lv_aload_n C.x C.b dX8_step_11 rfl (lv_at hl 1 rfl) ?_
    refine r_get ck8 flX8_7 C hS (by omega) m220 (by decide) rfl dX8_step_12 ?_
    refine lv_iload_n C.x C.b dX8_step_15 rfl (lv_at hl 3 rfl) ?_
    refine r_ialdN h rfl (by omega) (by decide) C hS (by omega) m221 dX8_step_16 ?_
    refine r_top (y := nI v) (hv) ?_
    refine lv_sipush (v := 256) C.x C.b dX8_step_17 (by decide) ?_
    refine lv_idiv C.x C.b dX8_step_20 (by decide) ?_
    refine r_top (y := nI (v / 256)) (pk_div (d := 256) (by omega) (by decide) (by decide)) ?_
    refine lv_iconst (v := 4) C.x C.b dX8_step_21 (by decide) ?_
    refine lv_irem C.x C.b dX8_step_22 (by decide) ?_
    refine r_top (y := nI (v / 256 % 4)) (pk_rem (by omega) (by decide) (by decide)) ?_
    refine lv_istore (lv' := [(4, .int (nI (v / 256 % 4))), (3, .int 6), (0, .ref (B + 220)), (1, .int (nI k)), (2, .int (nI h))]) C.x C.b dX8_step_23 hl (by decide) rfl (fun ls hl => ?_)
    refine lv_aload_n C.x C.b dX8_step_25 rfl (lv_at hl 2 rfl) ?_
    refine r_get ck8 flX8_7 C hS (by omega) m220 (by decide) rfl dX8_step_26 ?_
    refine lv_iload_n C.x C.b dX8_step_29 rfl (lv_at hl 4 rfl) ?_
    refine r_ialdN h rfl (by omega) (by decide) C hS (by omega) m221 dX8_step_30 ?_
    refine r_top (y := nI v) (hv) ?_
    refine lv_bipush (v := 16) C.x C.b dX8_step_31 (by decide) ?_
    refine lv_idiv C.x C.b dX8_step_33 (by decide) ?_
    refine r_top (y := nI (v / 16)) (pk_div (d := 16) (by omega) (by decide) (by decide)) ?_
    refine lv_iconst (v := 4) C.x C.b dX8_step_34 (by decide) ?_
    refine lv_irem C.x C.b dX8_step_35 (by decide) ?_
    refine r_top (y := nI (v / 16 % 4)) (pk_rem (by omega) (by decide) (by decide)) ?_
    refine lv_istore (lv' := [(5, .int (nI (v / 16 % 4))), (4, .int (nI (v / 256 % 4))), (3, .int 6), (0, .ref (B + 220)), (1, .int (nI k)), (2, .int (nI h))]) C.x C.b dX8_step_36 hl (by decide) rfl (fun ls hl => ?_)
    refine lv_aload_n C.x C.b dX8_step_38 rfl (lv_at hl 3 rfl) ?_
    refine r_get ck8 flX8_7 C hS (by omega) m220 (by decide) rfl dX8_step_39 ?_
    refine lv_iload_n C.x C.b dX8_step_42 rfl (lv_at hl 5 rfl) ?_
    refine r_ialdN h rfl (by omega) (by decide) C hS (by omega) m221 dX8_step_43 ?_
    refine r_top (y := nI v) (hv) ?_
    refine lv_bipush (v := 16) C.x C.b dX8_step_44 (by decide) ?_
    refine lv_irem C.x C.b dX8_step_46 (by decide) ?_
    refine r_top (y := nI (v % 16)) (pk_rem (by omega) (by decide) (by decide)) ?_
    refine lv_istore (lv' := [(6, .int (nI (v % 16))), (5, .int (nI (v / 16 % 4))), (4, .int (nI (v / 256 % 4))), (3, .int 6), (0, .ref (B + 220)), (1, .int (nI k)), (2, .int (nI h))]) C.x C.b dX8_step_47 hl (by decide) rfl (fun ls hl => ?_)
    refine lv_aload_n C.x C.b dX8_step_49 rfl (lv_at hl 4 rfl) ?_
    refine r_get ck8 flX8_26 C hS (by omega) m220 (by decide) rfl dX8_step_50 ?_
    refine lv_iload C.x C.b dX8_step_53 (lv_at hl 1 rfl) ?_
    refine r_ialdN (v / 16 % 4) rfl (by omega) (by decide) C hS (by omega) m224 dX8_step_55 ?_
    refine lv_istore (lv' := [(7, .int (rg (v / 16 % 4))), (6, .int (nI (v % 16))), (5, .int (nI (v / 16 % 4))), (4, .int (nI (v / 256 % 4))), (3, .int 6), (0, .ref (B + 220)), (1, .int (nI k)), (2, .int (nI h))]) C.x C.b dX8_step_56 hl (by decide) rfl (fun ls hl => ?_)
    refine lv_aload_n C.x C.b dX8_step_58 rfl (lv_at hl 5 rfl) ?_
    refine r_get ck8 flX8_48 C hS (by omega) m220 (by decide) rfl dX8_step_59 ?_
    refine lv_iload_n C.x C.b dX8_step_62 rfl (lv_at hl 6 rfl) ?_
    refine lv_iload_n C.x C.b dX8_step_63 rfl (lv_at hl 4 rfl) ?_
    refine lv_iconst (v := 4) C.x C.b dX8_step_64 (by decide) ?_
    refine lv_icmp_ne (tgt := 79) C.x C.b dX8_step_65 (by decide) (fun c_225 => ?_) (fun c_225 => absurd c_225 (by decide))
    refine lv_iconst (v := 1) C.x C.b dX8_step_79 (by decide) ?_
    refine r_iastN k rfl (by omega) (by decide) C hS (by omega) m231 dX8_step_80 (fun g_226 H locs e_227 o_228 hS => ?_)
    replace e_227 : g_226 231 = .inl (t.1, 10240, .inl (upd co k 1)) := e_227
    refine lv_aload_n C.x C.b dX8_step_81 rfl (lv_at hl 5 rfl) ?_
    have e_229 : g_226 220 = .inr (8, [.int td, .int (nI n), .ref (B + 221), .ref (B + 222), .ref (B + 223), .int ey, .int wi, .int ev, .ref (B + 224), .ref (B + 225), .ref (B + 226), .ref (B + 227), .ref (B + 228), .ref (B + 229), .ref (B + 230), .ref (B + 231), .ref (B + 232), .ref (B + 233), .ref (B + 234), .ref (B + 235), .ref (B + 236), .int po, .int ps]) := (o_228 _ (by omega)).trans m220
    refine r_get ck8 flX8_45 C hS (by omega) e_229 (by decide) rfl dX8_step_82 ?_
    refine lv_iload_n C.x C.b dX8_step_85 rfl (lv_at hl 6 rfl) ?_
    refine lv_iconst (v := 0) C.x C.b dX8_step_86 (by decide) ?_
    have e_230 : g_226 230 = .inl (t.1, 10240, .inl nu) := (o_228 _ (by omega)).trans m230
    refine r_iastN k rfl (by omega) (by decide) C hS (by omega) e_230 dX8_step_87 (fun g_231 H locs e_232 o_233 hS => ?_)
    replace e_232 : g_231 230 = .inl (t.1, 10240, .inl (upd nu k 0)) := e_232
    refine lv_iload_n C.x C.b dX8_step_88 rfl (lv_at hl 4 rfl) ?_
    refine lv_if_ne (tgt := 94) C.x C.b dX8_step_89 (by decide) (fun c_234 => ?_) (fun c_234 => absurd c_234 (by decide))
    refine lv_iload_n C.x C.b dX8_step_94 rfl (lv_at hl 4 rfl) ?_
    refine lv_iconst (v := 1) C.x C.b dX8_step_95 (by decide) ?_
    refine lv_icmp_ne (tgt := 108) C.x C.b dX8_step_96 (by decide) (fun c_235 => ?_) (fun c_235 => absurd c_235 (by decide))
    refine lv_iload_n C.x C.b dX8_step_108 rfl (lv_at hl 4 rfl) ?_
    refine lv_iconst (v := 2) C.x C.b dX8_step_109 (by decide) ?_
    refine lv_icmp_ne (tgt := 130) C.x C.b dX8_step_110 (by decide) (fun c_236 => ?_) (fun c_236 => absurd c_236 (by decide))
    refine lv_iload_n C.x C.b dX8_step_130 rfl (lv_at hl 4 rfl) ?_
    refine lv_iconst (v := 3) C.x C.b dX8_step_131 (by decide) ?_
    refine lv_icmp_ne (tgt := 152) C.x C.b dX8_step_132 (by decide) (fun c_237 => ?_) (fun c_237 => absurd c_237 (by decide))
    refine lv_iload_n C.x C.b dX8_step_152 rfl (lv_at hl 4 rfl) ?_
    refine lv_iconst (v := 4) C.x C.b dX8_step_153 (by decide) ?_
    refine lv_icmp_ne (tgt := 174) C.x C.b dX8_step_154 (by decide) (fun c_238 => ?_) (fun c_238 => absurd c_238 (by decide))
    refine lv_iload_n C.x C.b dX8_step_174 rfl (lv_at hl 4 rfl) ?_
    refine lv_iconst (v := 5) C.x C.b dX8_step_175 (by decide) ?_
    refine lv_icmp_ne (tgt := 196) C.x C.b dX8_step_176 (by decide) (fun c_239 => ?_) (fun c_239 => absurd c_239 (by decide))
    refine lv_iload_n C.x C.b dX8_step_196 rfl (lv_at hl 4 rfl) ?_
    refine lv_bipush (v := 6) C.x C.b dX8_step_197 (by decide) ?_
    refine lv_icmp_ne (tgt := 219) C.x C.b dX8_step_199 (by decide) (fun c_240 => absurd (by decide) c_240) (fun c_240 => ?_)
    refine lv_aload_n C.x C.b dX8_step_202 rfl (lv_at hl 5 rfl) ?_
    have e_241 : g_231 220 = .inr (8, [.int td, .int (nI n), .ref (B + 221), .ref (B + 222), .ref (B + 223), .int ey, .int wi, .int ev, .ref (B + 224), .ref (B + 225), .ref (B + 226), .ref (B + 227), .ref (B + 228), .ref (B + 229), .ref (B + 230), .ref (B + 231), .ref (B + 232), .ref (B + 233), .ref (B + 234), .ref (B + 235), .ref (B + 236), .int po, .int ps]) := (o_233 _ (by omega)).trans e_229
    refine r_get ck8 flX8_29 C hS (by omega) e_241 (by decide) rfl dX8_step_203 ?_
    refine lv_iload C.x C.b dX8_step_206 (lv_at hl 0 rfl) ?_
    refine lv_bipush (v := 7) C.x C.b dX8_step_208 (by decide) ?_
    refine lv_iand C.x C.b dX8_step_210 ?_
    refine lv_aload_n C.x C.b dX8_step_211 rfl (lv_at hl 5 rfl) ?_
    refine r_get ck8 flX8_26 C hS (by omega) e_241 (by decide) rfl dX8_step_212 ?_
    refine lv_iload C.x C.b dX8_step_215 (lv_at hl 3 rfl) ?_
    have e_242 : g_226 224 = .inl (t.1, 4, .inl rg) := (o_228 _ (by omega)).trans m224
    have e_243 : g_231 224 = .inl (t.1, 4, .inl rg) := (o_233 _ (by omega)).trans e_242
    refine r_ialdN (v / 256 % 4) rfl (by omega) (by decide) C hS (by omega) e_243 dX8_step_217 ?_
    have e_244 : g_226 225 = .inl (t.1, 8, .inl mm) := (o_228 _ (by omega)).trans m225
    have e_245 : g_231 225 = .inl (t.1, 8, .inl mm) := (o_233 _ (by omega)).trans e_244
    refine r_iastN (lo3 (rg (v / 16 % 4))) (lo3_eq _) (lo3_lt _) (by decide) C hS (by omega) e_245 dX8_step_218 (fun g_246 H locs e_247 o_248 hS => ?_)
    replace e_247 : g_246 225 = .inl (t.1, 8, .inl (upd mm (lo3 (rg (v / 16 % 4))) (rg (v / 256 % 4)))) := e_247
    refine lv_iload_n C.x C.b dX8_step_219 rfl (lv_at hl 4 rfl) ?_
    refine lv_iconst (v := 5) C.x C.b dX8_step_220 (by decide) ?_
    refine lv_icmp_eq (tgt := 230) C.x C.b dX8_step_221 (by decide) (fun c_249 => absurd c_249 (by decide)) (fun c_249 => ?_)
    refine lv_iload_n C.x C.b dX8_step_224 rfl (lv_at hl 4 rfl) ?_
    refine lv_bipush (v := 6) C.x C.b dX8_step_225 (by decide) ?_
    refine lv_icmp_ne (tgt := 241) C.x C.b dX8_step_227 (by decide) (fun c_250 => absurd (by decide) c_250) (fun c_250 => ?_)
    refine lv_aload_n C.x C.b dX8_step_230 rfl (lv_at hl 5 rfl) ?_
    have e_251 : g_246 220 = .inr (8, [.int td, .int (nI n), .ref (B + 221), .ref (B + 222), .ref (B + 223), .int ey, .int wi, .int ev, .ref (B + 224), .ref (B + 225), .ref (B + 226), .ref (B + 227), .ref (B + 228), .ref (B + 229), .ref (B + 230), .ref (B + 231), .ref (B + 232), .ref (B + 233), .ref (B + 234), .ref (B + 235), .ref (B + 236), .int po, .int ps]) := (o_248 _ (by omega)).trans e_241
    refine r_get ck8 flX8_45 C hS (by omega) e_251 (by decide) rfl dX8_step_231 ?_
    refine lv_iload_n C.x C.b dX8_step_234 rfl (lv_at hl 6 rfl) ?_
    refine lv_iload C.x C.b dX8_step_235 (lv_at hl 0 rfl) ?_
    refine lv_bipush (v := 7) C.x C.b dX8_step_237 (by decide) ?_
    refine lv_iand C.x C.b dX8_step_239 ?_
    have e_252 : g_246 230 = .inl (t.1, 10240, .inl (upd nu k 0)) := (o_248 _ (by omega)).trans e_232
    refine r_iastN k rfl (by omega) (by decide) C hS (by omega) e_252 dX8_step_240 (fun g_253 H locs e_254 o_255 hS => ?_)
    replace e_254 : g_253 230 = .inl (t.1, 10240, .inl (upd (upd nu k 0) k ((rg (v / 16 % 4)) &&& 7))) := e_254
    refine lv_iload_n C.x C.b dX8_step_241 rfl (lv_at hl 4 rfl) ?_
    refine lv_bipush (v := 7) C.x C.b dX8_step_242 (by decide) ?_
    refine lv_icmp_ne (tgt := 264) C.x C.b dX8_step_244 (by decide) (fun c_256 => ?_) (fun c_256 => absurd c_256 (by decide))
    refine lv_iload_n C.x C.b dX8_step_264 rfl (lv_at hl 4 rfl) ?_
    refine lv_bipush (v := 9) C.x C.b dX8_step_265 (by decide) ?_
    refine lv_icmp_ne (tgt := 292) C.x C.b dX8_step_267 (by decide) (fun c_257 => ?_) (fun c_257 => absurd c_257 (by decide))
    refine lv_iload_n C.x C.b dX8_step_292 rfl (lv_at hl 4 rfl) ?_
    refine lv_bipush (v := 8) C.x C.b dX8_step_293 (by decide) ?_
    refine lv_icmp_eq (tgt := 314) C.x C.b dX8_step_295 (by decide) (fun c_258 => absurd c_258 (by decide)) (fun c_258 => ?_)
    refine lv_iload_n C.x C.b dX8_step_298 rfl (lv_at hl 4 rfl) ?_
    refine lv_bipush (v := 7) C.x C.b dX8_step_299 (by decide) ?_
    refine lv_icmp_ne (tgt := 319) C.x C.b dX8_step_301 (by decide) (fun c_259 => ?_) (fun c_259 => absurd c_259 (by decide))
    refine lv_iload_n C.x C.b dX8_step_319 rfl (lv_at hl 7 rfl) ?_
    refine lv_iconst (v := 1) C.x C.b dX8_step_320 (by decide) ?_
    refine lv_iadd C.x C.b dX8_step_321 ?_
    refine r_top (y := (nI h + 1)) (rfl) ?_
    have e_260 : g_246 224 = .inl (t.1, 4, .inl rg) := (o_248 _ (by omega)).trans e_243
    have e_261 : g_253 224 = .inl (t.1, 4, .inl rg) := (o_255 _ (by omega)).trans e_260
    have e_262 : g_253 225 = .inl (t.1, 8, .inl (upd mm (lo3 (rg (v / 16 % 4))) (rg (v / 256 % 4)))) := (o_255 _ (by omega)).trans e_247
    have e_263 : g_231 231 = .inl (t.1, 10240, .inl (upd co k 1)) := (o_233 _ (by omega)).trans e_227
    have e_264 : g_246 231 = .inl (t.1, 10240, .inl (upd co k 1)) := (o_248 _ (by omega)).trans e_263
    have e_265 : g_253 231 = .inl (t.1, 10240, .inl (upd co k 1)) := (o_255 _ (by omega)).trans e_264
    have e_266 : g_253 220 = .inr (8, [.int td, .int (nI n), .ref (B + 221), .ref (B + 222), .ref (B + 223), .int ey, .int wi, .int ev, .ref (B + 224), .ref (B + 225), .ref (B + 226), .ref (B + 227), .ref (B + 228), .ref (B + 229), .ref (B + 230), .ref (B + 231), .ref (B + 232), .ref (B + 233), .ref (B + 234), .ref (B + 235), .ref (B + 236), .int po, .int ps]) := (o_255 _ (by omega)).trans e_251
    have e_267 : g_226 221 = .inl (t.1, 10, .inl o) := (o_228 _ (by omega)).trans m221
    have e_268 : g_231 221 = .inl (t.1, 10, .inl o) := (o_233 _ (by omega)).trans e_267
    have e_269 : g_246 221 = .inl (t.1, 10, .inl o) := (o_248 _ (by omega)).trans e_268
    have e_270 : g_253 221 = .inl (t.1, 10, .inl o) := (o_255 _ (by omega)).trans e_269
    have z_271_r : workR (kdF (o h)) (aF (o h)) (rg (bF (o h))) (cF (o h)) rg mm = rg := by rw [hkd, hbF, haF, hcF, workR_6]
    have z_271_m : workM (kdF (o h)) (aF (o h)) (rg (bF (o h))) rg mm = (upd mm (lo3 (rg (v / 16 % 4))) (rg (v / 256 % 4))) := by rw [hkd, hbF, haF, workM_6]
    have z_271_n : upd nu k (numF (kdF (o h)) (rg (aF (o h))) (rg (bF (o h)))) = (upd (upd nu k 0) k ((rg (v / 16 % 4)) &&& 7)) := by rw [hkd, hbF, numF_6]; rw [lo3_eq (rg (v / 16 % 4))]; exact (upd_upd _ _ _ _).symm
    have z_271_c : upd co k (cosM (kdF (o h)) (rg (bF (o h)))) = (upd co k 1) := by rw [hkd, cosM_6]
    have z_271_x : (nI h + 1) = nextF (kdF (o h)) (rg (aF (o h))) (cF (o h)) (nI h) := by rw [hkd, nextF_6]
    exact r_iret C hr hlocks hS ⟨z_271_x, ⟨by rw [z_271_r]; exact e_261, by rw [z_271_m]; exact e_262, by rw [z_271_n]; exact e_254, by rw [z_271_c]; exact e_265⟩, fun j hj => (o_255 j (by omega)).trans ((o_248 j (by omega)).trans ((o_233 j (by omega)).trans (o_228 j (by omega))))⟩ dX8_step_322
  · have hkd : kdF (o h) = 7 := by rw [hv, kdF_nI hvl, hk]; rfl
    refine r_top (y := 7) (by rw [hk]; rfl) ?_
    refine lv_istore_n (lv' := [(3, .int 7), (0, .ref (B + 220)), (1, .int (nI k)), (2, .int (nI h))]) C.x C.b dX8_step_10 rfl hl (by decide) rfl (fun ls hl => ?_)
    refine lv_aload_n C.x C.b dX8_step_11 rfl (lv_at hl 1 rfl) ?_
    refine r_get ck8 flX8_7 C hS (by omega) m220 (by decide) rfl dX8_step_12 ?_
    refine lv_iload_n C.x C.b dX8_step_15 rfl (lv_at hl 3 rfl) ?_
    refine r_ialdN h rfl (by omega) (by decide) C hS (by omega) m221 dX8_step_16 ?_
    refine r_top (y := nI v) (hv) ?_
    refine lv_sipush (v := 256) C.x C.b dX8_step_17 (by decide) ?_
    refine lv_idiv C.x C.b dX8_step_20 (by decide) ?_
    refine r_top (y := nI (v / 256)) (pk_div (d := 256) (by omega) (by decide) (by decide)) ?_
    refine lv_iconst (v := 4) C.x C.b dX8_step_21 (by decide) ?_
    refine lv_irem C.x C.b dX8_step_22 (by decide) ?_
    refine r_top (y := nI (v / 256 % 4)) (pk_rem (by omega) (by decide) (by decide)) ?_
    refine lv_istore (lv' := [(4, .int (nI (v / 256 % 4))), (3, .int 7), (0, .ref (B + 220)), (1, .int (nI k)), (2, .int (nI h))]) C.x C.b dX8_step_23 hl (by decide) rfl (fun ls hl => ?_)
    refine lv_aload_n C.x C.b dX8_step_25 rfl (lv_at hl 2 rfl) ?_
    refine r_get ck8 flX8_7 C hS (by omega) m220 (by decide) rfl dX8_step_26 ?_
    refine lv_iload_n C.x C.b dX8_step_29 rfl (lv_at hl 4 rfl) ?_
    refine r_ialdN h rfl (by omega) (by decide) C hS (by omega) m221 dX8_step_30 ?_
    refine r_top (y := nI v) (hv) ?_
    refine lv_bipush (v := 16) C.x C.b dX8_step_31 (by decide) ?_
    refine lv_idiv C.x C.b dX8_step_33 (by decide) ?_
    refine r_top (y := nI (v / 16)) (pk_div (d := 16) (by omega) (by decide) (by decide)) ?_
    refine lv_iconst (v := 4) C.x C.b dX8_step_34 (by decide) ?_
    refine lv_irem C.x C.b dX8_step_35 (by decide) ?_
    refine r_top (y := nI (v / 16 % 4)) (pk_rem (by omega) (by decide) (by decide)) ?_
    refine lv_istore (lv' := [(5, .int (nI (v / 16 % 4))), (4, .int (nI (v / 256 % 4))), (3, .int 7), (0, .ref (B + 220)), (1, .int (nI k)), (2, .int (nI h))]) C.x C.b dX8_step_36 hl (by decide) rfl (fun ls hl => ?_)
    refine lv_aload_n C.x C.b dX8_step_38 rfl (lv_at hl 3 rfl) ?_
    refine r_get ck8 flX8_7 C hS (by omega) m220 (by decide) rfl dX8_step_39 ?_
    refine lv_iload_n C.x C.b dX8_step_42 rfl (lv_at hl 5 rfl) ?_
    refine r_ialdN h rfl (by omega) (by decide) C hS (by omega) m221 dX8_step_43 ?_
    refine r_top (y := nI v) (hv) ?_
    refine lv_bipush (v := 16) C.x C.b dX8_step_44 (by decide) ?_
    refine lv_irem C.x C.b dX8_step_46 (by decide) ?_
    refine r_top (y := nI (v % 16)) (pk_rem (by omega) (by decide) (by decide)) ?_
    refine lv_istore (lv' := [(6, .int (nI (v % 16))), (5, .int (nI (v / 16 % 4))), (4, .int (nI (v / 256 % 4))), (3, .int 7), (0, .ref (B + 220)), (1, .int (nI k)), (2, .int (nI h))]) C.x C.b dX8_step_47 hl (by decide) rfl (fun ls hl => ?_)
    refine lv_aload_n C.x C.b dX8_step_49 rfl (lv_at hl 4 rfl) ?_
    refine r_get ck8 flX8_26 C hS (by omega) m220 (by decide) rfl dX8_step_50 ?_
    refine lv_iload C.x C.b dX8_step_53 (lv_at hl 1 rfl) ?_
    refine r_ialdN (v / 16 % 4) rfl (by omega) (by decide) C hS (by omega) m224 dX8_step_55 ?_
    refine lv_istore (lv' := [(7, .int (rg (v / 16 % 4))), (6, .int (nI (v % 16))), (5, .int (nI (v / 16 % 4))), (4, .int (nI (v / 256 % 4))), (3, .int 7), (0, .ref (B + 220)), (1, .int (nI k)), (2, .int (nI h))]) C.x C.b dX8_step_56 hl (by decide) rfl (fun ls hl => ?_)
    refine lv_aload_n C.x C.b dX8_step_58 rfl (lv_at hl 5 rfl) ?_
    refine r_get ck8 flX8_48 C hS (by omega) m220 (by decide) rfl dX8_step_59 ?_
    refine lv_iload_n C.x C.b dX8_step_62 rfl (lv_at hl 6 rfl) ?_
    refine lv_iload_n C.x C.b dX8_step_63 rfl (lv_at hl 4 rfl) ?_
    refine lv_iconst (v := 4) C.x C.b dX8_step_64 (by decide) ?_
    refine lv_icmp_ne (tgt := 79) C.x C.b dX8_step_65 (by decide) (fun c_272 => ?_) (fun c_272 => absurd c_272 (by decide))
    refine lv_iconst (v := 1) C.x C.b dX8_step_79 (by decide) ?_
    refine r_iastN k rfl (by omega) (by decide) C hS (by omega) m231 dX8_step_80 (fun g_273 H locs e_274 o_275 hS => ?_)
    replace e_274 : g_273 231 = .inl (t.1, 10240, .inl (upd co k 1)) := e_274
    refine lv_aload_n C.x C.b dX8_step_81 rfl (lv_at hl 5 rfl) ?_
    have e_276 : g_273 220 = .inr (8, [.int td, .int (nI n), .ref (B + 221), .ref (B + 222), .ref (B + 223), .int ey, .int wi, .int ev, .ref (B + 224), .ref (B + 225), .ref (B + 226), .ref (B + 227), .ref (B + 228), .ref (B + 229), .ref (B + 230), .ref (B + 231), .ref (B + 232), .ref (B + 233), .ref (B + 234), .ref (B + 235), .ref (B + 236), .int po, .int ps]) := (o_275 _ (by omega)).trans m220
    refine r_get ck8 flX8_45 C hS (by omega) e_276 (by decide) rfl dX8_step_82 ?_
    refine lv_iload_n C.x C.b dX8_step_85 rfl (lv_at hl 6 rfl) ?_
    refine lv_iconst (v := 0) C.x C.b dX8_step_86 (by decide) ?_
    have e_277 : g_273 230 = .inl (t.1, 10240, .inl nu) := (o_275 _ (by omega)).trans m230
    refine r_iastN k rfl (by omega) (by decide) C hS (by omega) e_277 dX8_step_87 (fun g_278 H locs e_279 o_280 hS => ?_)
    replace e_279 : g_278 230 = .inl (t.1, 10240, .inl (upd nu k 0)) := e_279
    refine lv_iload_n C.x C.b dX8_step_88 rfl (lv_at hl 4 rfl) ?_
    refine lv_if_ne (tgt := 94) C.x C.b dX8_step_89 (by decide) (fun c_281 => ?_) (fun c_281 => absurd c_281 (by decide))
    refine lv_iload_n C.x C.b dX8_step_94 rfl (lv_at hl 4 rfl) ?_
    refine lv_iconst (v := 1) C.x C.b dX8_step_95 (by decide) ?_
    refine lv_icmp_ne (tgt := 108) C.x C.b dX8_step_96 (by decide) (fun c_282 => ?_) (fun c_282 => absurd c_282 (by decide))
    refine lv_iload_n C.x C.b dX8_step_108 rfl (lv_at hl 4 rfl) ?_
    refine lv_iconst (v := 2) C.x C.b dX8_step_109 (by decide) ?_
    refine lv_icmp_ne (tgt := 130) C.x C.b dX8_step_110 (by decide) (fun c_283 => ?_) (fun c_283 => absurd c_283 (by decide))
    refine lv_iload_n C.x C.b dX8_step_130 rfl (lv_at hl 4 rfl) ?_
    refine lv_iconst (v := 3) C.x C.b dX8_step_131 (by decide) ?_
    refine lv_icmp_ne (tgt := 152) C.x C.b dX8_step_132 (by decide) (fun c_284 => ?_) (fun c_284 => absurd c_284 (by decide))
    refine lv_iload_n C.x C.b dX8_step_152 rfl (lv_at hl 4 rfl) ?_
    refine lv_iconst (v := 4) C.x C.b dX8_step_153 (by decide) ?_
    refine lv_icmp_ne (tgt := 174) C.x C.b dX8_step_154 (by decide) (fun c_285 => ?_) (fun c_285 => absurd c_285 (by decide))
    refine lv_iload_n C.x C.b dX8_step_174 rfl (lv_at hl 4 rfl) ?_
    refine lv_iconst (v := 5) C.x C.b dX8_step_175 (by decide) ?_
    refine lv_icmp_ne (tgt := 196) C.x C.b dX8_step_176 (by decide) (fun c_286 => ?_) (fun c_286 => absurd c_286 (by decide))
    refine lv_iload_n C.x C.b dX8_step_196 rfl (lv_at hl 4 rfl) ?_
    refine lv_bipush (v := 6) C.x C.b dX8_step_197 (by decide) ?_
    refine lv_icmp_ne (tgt := 219) C.x C.b dX8_step_199 (by decide) (fun c_287 => ?_) (fun c_287 => absurd c_287 (by decide))
    refine lv_iload_n C.x C.b dX8_step_219 rfl (lv_at hl 4 rfl) ?_
    refine lv_iconst (v := 5) C.x C.b dX8_step_220 (by decide) ?_
    refine lv_icmp_eq (tgt := 230) C.x C.b dX8_step_221 (by decide) (fun c_288 => absurd c_288 (by decide)) (fun c_288 => ?_)
    refine lv_iload_n C.x C.b dX8_step_224 rfl (lv_at hl 4 rfl) ?_
    refine lv_bipush (v := 6) C.x C.b dX8_step_225 (by decide) ?_
    refine lv_icmp_ne (tgt := 241) C.x C.b dX8_step_227 (by decide) (fun c_289 => ?_) (fun c_289 => absurd c_289 (by decide))
    refine lv_iload_n C.x C.b dX8_step_241 rfl (lv_at hl 4 rfl) ?_
    refine lv_bipush (v := 7) C.x C.b dX8_step_242 (by decide) ?_
    refine lv_icmp_ne (tgt := 264) C.x C.b dX8_step_244 (by decide) (fun c_290 => absurd (by decide) c_290) (fun c_290 => ?_)
    refine lv_aload_n C.x C.b dX8_step_247 rfl (lv_at hl 5 rfl) ?_
    have e_291 : g_278 220 = .inr (8, [.int td, .int (nI n), .ref (B + 221), .ref (B + 222), .ref (B + 223), .int ey, .int wi, .int ev, .ref (B + 224), .ref (B + 225), .ref (B + 226), .ref (B + 227), .ref (B + 228), .ref (B + 229), .ref (B + 230), .ref (B + 231), .ref (B + 232), .ref (B + 233), .ref (B + 234), .ref (B + 235), .ref (B + 236), .int po, .int ps]) := (o_280 _ (by omega)).trans e_276
    refine r_get ck8 flX8_26 C hS (by omega) e_291 (by decide) rfl dX8_step_248 ?_
    refine lv_iload C.x C.b dX8_step_251 (lv_at hl 3 rfl) ?_
    have e_292 : g_273 224 = .inl (t.1, 4, .inl rg) := (o_275 _ (by omega)).trans m224
    have e_293 : g_278 224 = .inl (t.1, 4, .inl rg) := (o_280 _ (by omega)).trans e_292
    refine r_ialdN (v / 256 % 4) rfl (by omega) (by decide) C hS (by omega) e_293 dX8_step_253 ?_
    refine lv_if_ne (tgt := 264) C.x C.b dX8_step_254 (by decide) (fun c_294 => ?_) (fun c_294 => ?_)
    · skip
      refine lv_iload_n C.x C.b dX8_step_264 rfl (lv_at hl 4 rfl) ?_
      refine lv_bipush (v := 9) C.x C.b dX8_step_265 (by decide) ?_
      refine lv_icmp_ne (tgt := 292) C.x C.b dX8_step_267 (by decide) (fun c_295 => ?_) (fun c_295 => absurd c_295 (by decide))
      refine lv_iload_n C.x C.b dX8_step_292 rfl (lv_at hl 4 rfl) ?_
      refine lv_bipush (v := 8) C.x C.b dX8_step_293 (by decide) ?_
      refine lv_icmp_eq (tgt := 314) C.x C.b dX8_step_295 (by decide) (fun c_296 => absurd c_296 (by decide)) (fun c_296 => ?_)
      refine lv_iload_n C.x C.b dX8_step_298 rfl (lv_at hl 4 rfl) ?_
      refine lv_bipush (v := 7) C.x C.b dX8_step_299 (by decide) ?_
      refine lv_icmp_ne (tgt := 319) C.x C.b dX8_step_301 (by decide) (fun c_297 => absurd (by decide) c_297) (fun c_297 => ?_)
      refine lv_aload_n C.x C.b dX8_step_304 rfl (lv_at hl 5 rfl) ?_
      refine r_get ck8 flX8_45 C hS (by omega) e_291 (by decide) rfl dX8_step_305 ?_
      refine lv_iload_n C.x C.b dX8_step_308 rfl (lv_at hl 6 rfl) ?_
      refine r_ialdN k rfl (by omega) (by decide) C hS (by omega) e_279 dX8_step_309 ?_
      refine r_top (y := 0) (pk_us) ?_
      refine lv_iconst (v := 1) C.x C.b dX8_step_310 (by decide) ?_
      refine lv_icmp_ne (tgt := 319) C.x C.b dX8_step_311 (by decide) (fun c_298 => ?_) (fun c_298 => absurd c_298 (by decide))
      refine lv_iload_n C.x C.b dX8_step_319 rfl (lv_at hl 7 rfl) ?_
      refine lv_iconst (v := 1) C.x C.b dX8_step_320 (by decide) ?_
      refine lv_iadd C.x C.b dX8_step_321 ?_
      refine r_top (y := (nI h + 1)) (rfl) ?_
      have e_299 : g_273 225 = .inl (t.1, 8, .inl mm) := (o_275 _ (by omega)).trans m225
      have e_300 : g_278 225 = .inl (t.1, 8, .inl mm) := (o_280 _ (by omega)).trans e_299
      have e_301 : g_278 231 = .inl (t.1, 10240, .inl (upd co k 1)) := (o_280 _ (by omega)).trans e_274
      have e_302 : g_273 221 = .inl (t.1, 10, .inl o) := (o_275 _ (by omega)).trans m221
      have e_303 : g_278 221 = .inl (t.1, 10, .inl o) := (o_280 _ (by omega)).trans e_302
      have z_304_r : workR (kdF (o h)) (aF (o h)) (rg (bF (o h))) (cF (o h)) rg mm = rg := by rw [hkd, hbF, haF, hcF, workR_7]
      have z_304_m : workM (kdF (o h)) (aF (o h)) (rg (bF (o h))) rg mm = mm := by rw [hkd, workM_7]
      have z_304_n : upd nu k (numF (kdF (o h)) (rg (aF (o h))) (rg (bF (o h)))) = (upd nu k 0) := by rw [hkd, haF, numF_7, if_neg c_294]
      have z_304_c : upd co k (cosM (kdF (o h)) (rg (bF (o h)))) = (upd co k 1) := by rw [hkd, cosM_7]
      have z_304_x : (nI h + 1) = nextF (kdF (o h)) (rg (aF (o h))) (cF (o h)) (nI h) := by rw [hkd, haF, hcF, nextF_7, if_neg c_294]
      exact r_iret C hr hlocks hS ⟨z_304_x, ⟨by rw [z_304_r]; exact e_293, by rw [z_304_m]; exact e_300, by rw [z_304_n]; exact e_279, by rw [z_304_c]; exact e_301⟩, fun j hj => (o_280 j (by omega)).trans (o_275 j (by omega))⟩ dX8_step_322
    · skip
      refine lv_aload_n C.x C.b dX8_step_257 rfl (lv_at hl 5 rfl) ?_
      refine r_get ck8 flX8_45 C hS (by omega) e_291 (by decide) rfl dX8_step_258 ?_
      refine lv_iload_n C.x C.b dX8_step_261 rfl (lv_at hl 6 rfl) ?_
      refine lv_iconst (v := 1) C.x C.b dX8_step_262 (by decide) ?_
      refine r_iastN k rfl (by omega) (by decide) C hS (by omega) e_279 dX8_step_263 (fun g_305 H locs e_306 o_307 hS => ?_)
      replace e_306 : g_305 230 = .inl (t.1, 10240, .inl (upd (upd nu k 0) k 1)) := e_306
      refine lv_iload_n C.x C.b dX8_step_264 rfl (lv_at hl 4 rfl) ?_
      refine lv_bipush (v := 9) C.x C.b dX8_step_265 (by decide) ?_
      refine lv_icmp_ne (tgt := 292) C.x C.b dX8_step_267 (by decide) (fun c_308 => ?_) (fun c_308 => absurd c_308 (by decide))
      refine lv_iload_n C.x C.b dX8_step_292 rfl (lv_at hl 4 rfl) ?_
      refine lv_bipush (v := 8) C.x C.b dX8_step_293 (by decide) ?_
      refine lv_icmp_eq (tgt := 314) C.x C.b dX8_step_295 (by decide) (fun c_309 => absurd c_309 (by decide)) (fun c_309 => ?_)
      refine lv_iload_n C.x C.b dX8_step_298 rfl (lv_at hl 4 rfl) ?_
      refine lv_bipush (v := 7) C.x C.b dX8_step_299 (by decide) ?_
      refine lv_icmp_ne (tgt := 319) C.x C.b dX8_step_301 (by decide) (fun c_310 => absurd (by decide) c_310) (fun c_310 => ?_)
      refine lv_aload_n C.x C.b dX8_step_304 rfl (lv_at hl 5 rfl) ?_
      have e_311 : g_305 220 = .inr (8, [.int td, .int (nI n), .ref (B + 221), .ref (B + 222), .ref (B + 223), .int ey, .int wi, .int ev, .ref (B + 224), .ref (B + 225), .ref (B + 226), .ref (B + 227), .ref (B + 228), .ref (B + 229), .ref (B + 230), .ref (B + 231), .ref (B + 232), .ref (B + 233), .ref (B + 234), .ref (B + 235), .ref (B + 236), .int po, .int ps]) := (o_307 _ (by omega)).trans e_291
      refine r_get ck8 flX8_45 C hS (by omega) e_311 (by decide) rfl dX8_step_305 ?_
      refine lv_iload_n C.x C.b dX8_step_308 rfl (lv_at hl 6 rfl) ?_
      refine r_ialdN k rfl (by omega) (by decide) C hS (by omega) e_306 dX8_step_309 ?_
      refine r_top (y := 1) (pk_us) ?_
      refine lv_iconst (v := 1) C.x C.b dX8_step_310 (by decide) ?_
      refine lv_icmp_ne (tgt := 319) C.x C.b dX8_step_311 (by decide) (fun c_312 => absurd (by decide) c_312) (fun c_312 => ?_)
      refine lv_iload C.x C.b dX8_step_314 (lv_at hl 1 rfl) ?_
      refine lv_goto (tgt := 322) C.x C.b dX8_step_316 (by decide) ?_
      have e_313 : g_305 224 = .inl (t.1, 4, .inl rg) := (o_307 _ (by omega)).trans e_293
      have e_314 : g_273 225 = .inl (t.1, 8, .inl mm) := (o_275 _ (by omega)).trans m225
      have e_315 : g_278 225 = .inl (t.1, 8, .inl mm) := (o_280 _ (by omega)).trans e_314
      have e_316 : g_305 225 = .inl (t.1, 8, .inl mm) := (o_307 _ (by omega)).trans e_315
      have e_317 : g_278 231 = .inl (t.1, 10240, .inl (upd co k 1)) := (o_280 _ (by omega)).trans e_274
      have e_318 : g_305 231 = .inl (t.1, 10240, .inl (upd co k 1)) := (o_307 _ (by omega)).trans e_317
      have e_319 : g_273 221 = .inl (t.1, 10, .inl o) := (o_275 _ (by omega)).trans m221
      have e_320 : g_278 221 = .inl (t.1, 10, .inl o) := (o_280 _ (by omega)).trans e_319
      have e_321 : g_305 221 = .inl (t.1, 10, .inl o) := (o_307 _ (by omega)).trans e_320
      have z_322_r : workR (kdF (o h)) (aF (o h)) (rg (bF (o h))) (cF (o h)) rg mm = rg := by rw [hkd, hbF, haF, hcF, workR_7]
      have z_322_m : workM (kdF (o h)) (aF (o h)) (rg (bF (o h))) rg mm = mm := by rw [hkd, workM_7]
      have z_322_n : upd nu k (numF (kdF (o h)) (rg (aF (o h))) (rg (bF (o h)))) = (upd (upd nu k 0) k 1) := by rw [hkd, haF, numF_7, if_pos c_294]; exact (upd_upd _ _ _ _).symm
      have z_322_c : upd co k (cosM (kdF (o h)) (rg (bF (o h)))) = (upd co k 1) := by rw [hkd, cosM_7]
      have z_322_x : nI (v % 16) = nextF (kdF (o h)) (rg (aF (o h))) (cF (o h)) (nI h) := by rw [hkd, haF, hcF, nextF_7, if_pos c_294]
      exact r_iret C hr hlocks hS ⟨z_322_x, ⟨by rw [z_322_r]; exact e_313, by rw [z_322_m]; exact e_316, by rw [z_322_n]; exact e_306, by rw [z_322_c]; exact e_318⟩, fun j hj => (o_307 j (by omega)).trans ((o_280 j (by omega)).trans (o_275 j (by omega)))⟩ dX8_step_322
  · have hkd : kdF (o h) = 8 := by rw [hv, kdF_nI hvl, hk]; rfl
    refine r_top (y := 8) (by rw [hk]; rfl) ?_
    refine lv_istore_n (lv' := [(3, .int 8), (0, .ref (B + 220)), (1, .int (nI k)), (2, .int (nI h))]) C.x C.b dX8_step_10 rfl hl (by decide) rfl (fun ls hl => ?_)
    refine lv_aload_n C.x C.b dX8_step_11 rfl (lv_at hl 1 rfl) ?_
    refine r_get ck8 flX8_7 C hS (by omega) m220 (by decide) rfl dX8_step_12 ?_
    refine lv_iload_n C.x C.b dX8_step_15 rfl (lv_at hl 3 rfl) ?_
    refine r_ialdN h rfl (by omega) (by decide) C hS (by omega) m221 dX8_step_16 ?_
    refine r_top (y := nI v) (hv) ?_
    refine lv_sipush (v := 256) C.x C.b dX8_step_17 (by decide) ?_
    refine lv_idiv C.x C.b dX8_step_20 (by decide) ?_
    refine r_top (y := nI (v / 256)) (pk_div (d := 256) (by omega) (by decide) (by decide)) ?_
    refine lv_iconst (v := 4) C.x C.b dX8_step_21 (by decide) ?_
    refine lv_irem C.x C.b dX8_step_22 (by decide) ?_
    refine r_top (y := nI (v / 256 % 4)) (pk_rem (by omega) (by decide) (by decide)) ?_
    refine lv_istore (lv' := [(4, .int (nI (v / 256 % 4))), (3, .int 8), (0, .ref (B + 220)), (1, .int (nI k)), (2, .int (nI h))]) C.x C.b dX8_step_23 hl (by decide) rfl (fun ls hl => ?_)
    refine lv_aload_n C.x C.b dX8_step_25 rfl (lv_at hl 2 rfl) ?_
    refine r_get ck8 flX8_7 C hS (by omega) m220 (by decide) rfl dX8_step_26 ?_
    refine lv_iload_n C.x C.b dX8_step_29 rfl (lv_at hl 4 rfl) ?_
    refine r_ialdN h rfl (by omega) (by decide) C hS (by omega) m221 dX8_step_30 ?_
    refine r_top (y := nI v) (hv) ?_
    refine lv_bipush (v := 16) C.x C.b dX8_step_31 (by decide) ?_
    refine lv_idiv C.x C.b dX8_step_33 (by decide) ?_
    refine r_top (y := nI (v / 16)) (pk_div (d := 16) (by omega) (by decide) (by decide)) ?_
    refine lv_iconst (v := 4) C.x C.b dX8_step_34 (by decide) ?_
    refine lv_irem C.x C.b dX8_step_35 (by decide) ?_
    refine r_top (y := nI (v / 16 % 4)) (pk_rem (by omega) (by decide) (by decide)) ?_
    refine lv_istore (lv' := [(5, .int (nI (v / 16 % 4))), (4, .int (nI (v / 256 % 4))), (3, .int 8), (0, .ref (B + 220)), (1, .int (nI k)), (2, .int (nI h))]) C.x C.b dX8_step_36 hl (by decide) rfl (fun ls hl => ?_)
    refine lv_aload_n C.x C.b dX8_step_38 rfl (lv_at hl 3 rfl) ?_
    refine r_get ck8 flX8_7 C hS (by omega) m220 (by decide) rfl dX8_step_39 ?_
    refine lv_iload_n C.x C.b dX8_step_42 rfl (lv_at hl 5 rfl) ?_
    refine r_ialdN h rfl (by omega) (by decide) C hS (by omega) m221 dX8_step_43 ?_
    refine r_top (y := nI v) (hv) ?_
    refine lv_bipush (v := 16) C.x C.b dX8_step_44 (by decide) ?_
    refine lv_irem C.x C.b dX8_step_46 (by decide) ?_
    refine r_top (y := nI (v % 16)) (pk_rem (by omega) (by decide) (by decide)) ?_
    refine lv_istore (lv' := [(6, .int (nI (v % 16))), (5, .int (nI (v / 16 % 4))), (4, .int (nI (v / 256 % 4))), (3, .int 8), (0, .ref (B + 220)), (1, .int (nI k)), (2, .int (nI h))]) C.x C.b dX8_step_47 hl (by decide) rfl (fun ls hl => ?_)
    refine lv_aload_n C.x C.b dX8_step_49 rfl (lv_at hl 4 rfl) ?_
    refine r_get ck8 flX8_26 C hS (by omega) m220 (by decide) rfl dX8_step_50 ?_
    refine lv_iload C.x C.b dX8_step_53 (lv_at hl 1 rfl) ?_
    refine r_ialdN (v / 16 % 4) rfl (by omega) (by decide) C hS (by omega) m224 dX8_step_55 ?_
    refine lv_istore (lv' := [(7, .int (rg (v / 16 % 4))), (6, .int (nI (v % 16))), (5, .int (nI (v / 16 % 4))), (4, .int (nI (v / 256 % 4))), (3, .int 8), (0, .ref (B + 220)), (1, .int (nI k)), (2, .int (nI h))]) C.x C.b dX8_step_56 hl (by decide) rfl (fun ls hl => ?_)
    refine lv_aload_n C.x C.b dX8_step_58 rfl (lv_at hl 5 rfl) ?_
    refine r_get ck8 flX8_48 C hS (by omega) m220 (by decide) rfl dX8_step_59 ?_
    refine lv_iload_n C.x C.b dX8_step_62 rfl (lv_at hl 6 rfl) ?_
    refine lv_iload_n C.x C.b dX8_step_63 rfl (lv_at hl 4 rfl) ?_
    refine lv_iconst (v := 4) C.x C.b dX8_step_64 (by decide) ?_
    refine lv_icmp_ne (tgt := 79) C.x C.b dX8_step_65 (by decide) (fun c_323 => ?_) (fun c_323 => absurd c_323 (by decide))
    refine lv_iconst (v := 1) C.x C.b dX8_step_79 (by decide) ?_
    refine r_iastN k rfl (by omega) (by decide) C hS (by omega) m231 dX8_step_80 (fun g_324 H locs e_325 o_326 hS => ?_)
    replace e_325 : g_324 231 = .inl (t.1, 10240, .inl (upd co k 1)) := e_325
    refine lv_aload_n C.x C.b dX8_step_81 rfl (lv_at hl 5 rfl) ?_
    have e_327 : g_324 220 = .inr (8, [.int td, .int (nI n), .ref (B + 221), .ref (B + 222), .ref (B + 223), .int ey, .int wi, .int ev, .ref (B + 224), .ref (B + 225), .ref (B + 226), .ref (B + 227), .ref (B + 228), .ref (B + 229), .ref (B + 230), .ref (B + 231), .ref (B + 232), .ref (B + 233), .ref (B + 234), .ref (B + 235), .ref (B + 236), .int po, .int ps]) := (o_326 _ (by omega)).trans m220
    refine r_get ck8 flX8_45 C hS (by omega) e_327 (by decide) rfl dX8_step_82 ?_
    refine lv_iload_n C.x C.b dX8_step_85 rfl (lv_at hl 6 rfl) ?_
    refine lv_iconst (v := 0) C.x C.b dX8_step_86 (by decide) ?_
    have e_328 : g_324 230 = .inl (t.1, 10240, .inl nu) := (o_326 _ (by omega)).trans m230
    refine r_iastN k rfl (by omega) (by decide) C hS (by omega) e_328 dX8_step_87 (fun g_329 H locs e_330 o_331 hS => ?_)
    replace e_330 : g_329 230 = .inl (t.1, 10240, .inl (upd nu k 0)) := e_330
    refine lv_iload_n C.x C.b dX8_step_88 rfl (lv_at hl 4 rfl) ?_
    refine lv_if_ne (tgt := 94) C.x C.b dX8_step_89 (by decide) (fun c_332 => ?_) (fun c_332 => absurd c_332 (by decide))
    refine lv_iload_n C.x C.b dX8_step_94 rfl (lv_at hl 4 rfl) ?_
    refine lv_iconst (v := 1) C.x C.b dX8_step_95 (by decide) ?_
    refine lv_icmp_ne (tgt := 108) C.x C.b dX8_step_96 (by decide) (fun c_333 => ?_) (fun c_333 => absurd c_333 (by decide))
    refine lv_iload_n C.x C.b dX8_step_108 rfl (lv_at hl 4 rfl) ?_
    refine lv_iconst (v := 2) C.x C.b dX8_step_109 (by decide) ?_
    refine lv_icmp_ne (tgt := 130) C.x C.b dX8_step_110 (by decide) (fun c_334 => ?_) (fun c_334 => absurd c_334 (by decide))
    refine lv_iload_n C.x C.b dX8_step_130 rfl (lv_at hl 4 rfl) ?_
    refine lv_iconst (v := 3) C.x C.b dX8_step_131 (by decide) ?_
    refine lv_icmp_ne (tgt := 152) C.x C.b dX8_step_132 (by decide) (fun c_335 => ?_) (fun c_335 => absurd c_335 (by decide))
    refine lv_iload_n C.x C.b dX8_step_152 rfl (lv_at hl 4 rfl) ?_
    refine lv_iconst (v := 4) C.x C.b dX8_step_153 (by decide) ?_
    refine lv_icmp_ne (tgt := 174) C.x C.b dX8_step_154 (by decide) (fun c_336 => ?_) (fun c_336 => absurd c_336 (by decide))
    refine lv_iload_n C.x C.b dX8_step_174 rfl (lv_at hl 4 rfl) ?_
    refine lv_iconst (v := 5) C.x C.b dX8_step_175 (by decide) ?_
    refine lv_icmp_ne (tgt := 196) C.x C.b dX8_step_176 (by decide) (fun c_337 => ?_) (fun c_337 => absurd c_337 (by decide))
    refine lv_iload_n C.x C.b dX8_step_196 rfl (lv_at hl 4 rfl) ?_
    refine lv_bipush (v := 6) C.x C.b dX8_step_197 (by decide) ?_
    refine lv_icmp_ne (tgt := 219) C.x C.b dX8_step_199 (by decide) (fun c_338 => ?_) (fun c_338 => absurd c_338 (by decide))
    refine lv_iload_n C.x C.b dX8_step_219 rfl (lv_at hl 4 rfl) ?_
    refine lv_iconst (v := 5) C.x C.b dX8_step_220 (by decide) ?_
    refine lv_icmp_eq (tgt := 230) C.x C.b dX8_step_221 (by decide) (fun c_339 => absurd c_339 (by decide)) (fun c_339 => ?_)
    refine lv_iload_n C.x C.b dX8_step_224 rfl (lv_at hl 4 rfl) ?_
    refine lv_bipush (v := 6) C.x C.b dX8_step_225 (by decide) ?_
    refine lv_icmp_ne (tgt := 241) C.x C.b dX8_step_227 (by decide) (fun c_340 => ?_) (fun c_340 => absurd c_340 (by decide))
    refine lv_iload_n C.x C.b dX8_step_241 rfl (lv_at hl 4 rfl) ?_
    refine lv_bipush (v := 7) C.x C.b dX8_step_242 (by decide) ?_
    refine lv_icmp_ne (tgt := 264) C.x C.b dX8_step_244 (by decide) (fun c_341 => ?_) (fun c_341 => absurd c_341 (by decide))
    refine lv_iload_n C.x C.b dX8_step_264 rfl (lv_at hl 4 rfl) ?_
    refine lv_bipush (v := 9) C.x C.b dX8_step_265 (by decide) ?_
    refine lv_icmp_ne (tgt := 292) C.x C.b dX8_step_267 (by decide) (fun c_342 => ?_) (fun c_342 => absurd c_342 (by decide))
    refine lv_iload_n C.x C.b dX8_step_292 rfl (lv_at hl 4 rfl) ?_
    refine lv_bipush (v := 8) C.x C.b dX8_step_293 (by decide) ?_
    refine lv_icmp_eq (tgt := 314) C.x C.b dX8_step_295 (by decide) (fun c_343 => ?_) (fun c_343 => absurd (by decide) c_343)
    refine lv_iload C.x C.b dX8_step_314 (lv_at hl 1 rfl) ?_
    refine lv_goto (tgt := 322) C.x C.b dX8_step_316 (by decide) ?_
    have e_344 : g_324 224 = .inl (t.1, 4, .inl rg) := (o_326 _ (by omega)).trans m224
    have e_345 : g_329 224 = .inl (t.1, 4, .inl rg) := (o_331 _ (by omega)).trans e_344
    have e_346 : g_324 225 = .inl (t.1, 8, .inl mm) := (o_326 _ (by omega)).trans m225
    have e_347 : g_329 225 = .inl (t.1, 8, .inl mm) := (o_331 _ (by omega)).trans e_346
    have e_348 : g_329 231 = .inl (t.1, 10240, .inl (upd co k 1)) := (o_331 _ (by omega)).trans e_325
    have e_349 : g_329 220 = .inr (8, [.int td, .int (nI n), .ref (B + 221), .ref (B + 222), .ref (B + 223), .int ey, .int wi, .int ev, .ref (B + 224), .ref (B + 225), .ref (B + 226), .ref (B + 227), .ref (B + 228), .ref (B + 229), .ref (B + 230), .ref (B + 231), .ref (B + 232), .ref (B + 233), .ref (B + 234), .ref (B + 235), .ref (B + 236), .int po, .int ps]) := (o_331 _ (by omega)).trans e_327
    have e_350 : g_324 221 = .inl (t.1, 10, .inl o) := (o_326 _ (by omega)).trans m221
    have e_351 : g_329 221 = .inl (t.1, 10, .inl o) := (o_331 _ (by omega)).trans e_350
    have z_352_r : workR (kdF (o h)) (aF (o h)) (rg (bF (o h))) (cF (o h)) rg mm = rg := by rw [hkd, hbF, haF, hcF, workR_8]
    have z_352_m : workM (kdF (o h)) (aF (o h)) (rg (bF (o h))) rg mm = mm := by rw [hkd, workM_8]
    have z_352_n : upd nu k (numF (kdF (o h)) (rg (aF (o h))) (rg (bF (o h)))) = (upd nu k 0) := by rw [hkd, numF_8]
    have z_352_c : upd co k (cosM (kdF (o h)) (rg (bF (o h)))) = (upd co k 1) := by rw [hkd, cosM_8]
    have z_352_x : nI (v % 16) = nextF (kdF (o h)) (rg (aF (o h))) (cF (o h)) (nI h) := by rw [hkd, hcF, nextF_8]
    exact r_iret C hr hlocks hS ⟨z_352_x, ⟨by rw [z_352_r]; exact e_345, by rw [z_352_m]; exact e_347, by rw [z_352_n]; exact e_330, by rw [z_352_c]; exact e_348⟩, fun j hj => (o_331 j (by omega)).trans (o_326 j (by omega))⟩ dX8_step_322
  · have hkd : kdF (o h) = 9 := by rw [hv, kdF_nI hvl, hk]; rfl
    refine r_top (y := 9) (by rw [hk]; rfl) ?_
    refine lv_istore_n (lv' := [(3, .int 9), (0, .ref (B + 220)), (1, .int (nI k)), (2, .int (nI h))]) C.x C.b dX8_step_10 rfl hl (by decide) rfl (fun ls hl => ?_)
    refine lv_aload_n C.x C.b dX8_step_11 rfl (lv_at hl 1 rfl) ?_
    refine r_get ck8 flX8_7 C hS (by omega) m220 (by decide) rfl dX8_step_12 ?_
    refine lv_iload_n C.x C.b dX8_step_15 rfl (lv_at hl 3 rfl) ?_
    refine r_ialdN h rfl (by omega) (by decide) C hS (by omega) m221 dX8_step_16 ?_
    refine r_top (y := nI v) (hv) ?_
    refine lv_sipush (v := 256) C.x C.b dX8_step_17 (by decide) ?_
    refine lv_idiv C.x C.b dX8_step_20 (by decide) ?_
    refine r_top (y := nI (v / 256)) (pk_div (d := 256) (by omega) (by decide) (by decide)) ?_
    refine lv_iconst (v := 4) C.x C.b dX8_step_21 (by decide) ?_
    refine lv_irem C.x C.b dX8_step_22 (by decide) ?_
    refine r_top (y := nI (v / 256 % 4)) (pk_rem (by omega) (by decide) (by decide)) ?_
    refine lv_istore (lv' := [(4, .int (nI (v / 256 % 4))), (3, .int 9), (0, .ref (B + 220)), (1, .int (nI k)), (2, .int (nI h))]) C.x C.b dX8_step_23 hl (by decide) rfl (fun ls hl => ?_)
    refine lv_aload_n C.x C.b dX8_step_25 rfl (lv_at hl 2 rfl) ?_
    refine r_get ck8 flX8_7 C hS (by omega) m220 (by decide) rfl dX8_step_26 ?_
    refine lv_iload_n C.x C.b dX8_step_29 rfl (lv_at hl 4 rfl) ?_
    refine r_ialdN h rfl (by omega) (by decide) C hS (by omega) m221 dX8_step_30 ?_
    refine r_top (y := nI v) (hv) ?_
    refine lv_bipush (v := 16) C.x C.b dX8_step_31 (by decide) ?_
    refine lv_idiv C.x C.b dX8_step_33 (by decide) ?_
    refine r_top (y := nI (v / 16)) (pk_div (d := 16) (by omega) (by decide) (by decide)) ?_
    refine lv_iconst (v := 4) C.x C.b dX8_step_34 (by decide) ?_
    refine lv_irem C.x C.b dX8_step_35 (by decide) ?_
    refine r_top (y := nI (v / 16 % 4)) (pk_rem (by omega) (by decide) (by decide)) ?_
    refine lv_istore (lv' := [(5, .int (nI (v / 16 % 4))), (4, .int (nI (v / 256 % 4))), (3, .int 9), (0, .ref (B + 220)), (1, .int (nI k)), (2, .int (nI h))]) C.x C.b dX8_step_36 hl (by decide) rfl (fun ls hl => ?_)
    refine lv_aload_n C.x C.b dX8_step_38 rfl (lv_at hl 3 rfl) ?_
    refine r_get ck8 flX8_7 C hS (by omega) m220 (by decide) rfl dX8_step_39 ?_
    refine lv_iload_n C.x C.b dX8_step_42 rfl (lv_at hl 5 rfl) ?_
    refine r_ialdN h rfl (by omega) (by decide) C hS (by omega) m221 dX8_step_43 ?_
    refine r_top (y := nI v) (hv) ?_
    refine lv_bipush (v := 16) C.x C.b dX8_step_44 (by decide) ?_
    refine lv_irem C.x C.b dX8_step_46 (by decide) ?_
    refine r_top (y := nI (v % 16)) (pk_rem (by omega) (by decide) (by decide)) ?_
    refine lv_istore (lv' := [(6, .int (nI (v % 16))), (5, .int (nI (v / 16 % 4))), (4, .int (nI (v / 256 % 4))), (3, .int 9), (0, .ref (B + 220)), (1, .int (nI k)), (2, .int (nI h))]) C.x C.b dX8_step_47 hl (by decide) rfl (fun ls hl => ?_)
    refine lv_aload_n C.x C.b dX8_step_49 rfl (lv_at hl 4 rfl) ?_
    refine r_get ck8 flX8_26 C hS (by omega) m220 (by decide) rfl dX8_step_50 ?_
    refine lv_iload C.x C.b dX8_step_53 (lv_at hl 1 rfl) ?_
    refine r_ialdN (v / 16 % 4) rfl (by omega) (by decide) C hS (by omega) m224 dX8_step_55 ?_
    refine lv_istore (lv' := [(7, .int (rg (v / 16 % 4))), (6, .int (nI (v % 16))), (5, .int (nI (v / 16 % 4))), (4, .int (nI (v / 256 % 4))), (3, .int 9), (0, .ref (B + 220)), (1, .int (nI k)), (2, .int (nI h))]) C.x C.b dX8_step_56 hl (by decide) rfl (fun ls hl => ?_)
    refine lv_aload_n C.x C.b dX8_step_58 rfl (lv_at hl 5 rfl) ?_
    refine r_get ck8 flX8_48 C hS (by omega) m220 (by decide) rfl dX8_step_59 ?_
    refine lv_iload_n C.x C.b dX8_step_62 rfl (lv_at hl 6 rfl) ?_
    refine lv_iload_n C.x C.b dX8_step_63 rfl (lv_at hl 4 rfl) ?_
    refine lv_iconst (v := 4) C.x C.b dX8_step_64 (by decide) ?_
    refine lv_icmp_ne (tgt := 79) C.x C.b dX8_step_65 (by decide) (fun c_353 => ?_) (fun c_353 => absurd c_353 (by decide))
    refine lv_iconst (v := 1) C.x C.b dX8_step_79 (by decide) ?_
    refine r_iastN k rfl (by omega) (by decide) C hS (by omega) m231 dX8_step_80 (fun g_354 H locs e_355 o_356 hS => ?_)
    replace e_355 : g_354 231 = .inl (t.1, 10240, .inl (upd co k 1)) := e_355
    refine lv_aload_n C.x C.b dX8_step_81 rfl (lv_at hl 5 rfl) ?_
    have e_357 : g_354 220 = .inr (8, [.int td, .int (nI n), .ref (B + 221), .ref (B + 222), .ref (B + 223), .int ey, .int wi, .int ev, .ref (B + 224), .ref (B + 225), .ref (B + 226), .ref (B + 227), .ref (B + 228), .ref (B + 229), .ref (B + 230), .ref (B + 231), .ref (B + 232), .ref (B + 233), .ref (B + 234), .ref (B + 235), .ref (B + 236), .int po, .int ps]) := (o_356 _ (by omega)).trans m220
    refine r_get ck8 flX8_45 C hS (by omega) e_357 (by decide) rfl dX8_step_82 ?_
    refine lv_iload_n C.x C.b dX8_step_85 rfl (lv_at hl 6 rfl) ?_
    refine lv_iconst (v := 0) C.x C.b dX8_step_86 (by decide) ?_
    have e_358 : g_354 230 = .inl (t.1, 10240, .inl nu) := (o_356 _ (by omega)).trans m230
    refine r_iastN k rfl (by omega) (by decide) C hS (by omega) e_358 dX8_step_87 (fun g_359 H locs e_360 o_361 hS => ?_)
    replace e_360 : g_359 230 = .inl (t.1, 10240, .inl (upd nu k 0)) := e_360
    refine lv_iload_n C.x C.b dX8_step_88 rfl (lv_at hl 4 rfl) ?_
    refine lv_if_ne (tgt := 94) C.x C.b dX8_step_89 (by decide) (fun c_362 => ?_) (fun c_362 => absurd c_362 (by decide))
    refine lv_iload_n C.x C.b dX8_step_94 rfl (lv_at hl 4 rfl) ?_
    refine lv_iconst (v := 1) C.x C.b dX8_step_95 (by decide) ?_
    refine lv_icmp_ne (tgt := 108) C.x C.b dX8_step_96 (by decide) (fun c_363 => ?_) (fun c_363 => absurd c_363 (by decide))
    refine lv_iload_n C.x C.b dX8_step_108 rfl (lv_at hl 4 rfl) ?_
    refine lv_iconst (v := 2) C.x C.b dX8_step_109 (by decide) ?_
    refine lv_icmp_ne (tgt := 130) C.x C.b dX8_step_110 (by decide) (fun c_364 => ?_) (fun c_364 => absurd c_364 (by decide))
    refine lv_iload_n C.x C.b dX8_step_130 rfl (lv_at hl 4 rfl) ?_
    refine lv_iconst (v := 3) C.x C.b dX8_step_131 (by decide) ?_
    refine lv_icmp_ne (tgt := 152) C.x C.b dX8_step_132 (by decide) (fun c_365 => ?_) (fun c_365 => absurd c_365 (by decide))
    refine lv_iload_n C.x C.b dX8_step_152 rfl (lv_at hl 4 rfl) ?_
    refine lv_iconst (v := 4) C.x C.b dX8_step_153 (by decide) ?_
    refine lv_icmp_ne (tgt := 174) C.x C.b dX8_step_154 (by decide) (fun c_366 => ?_) (fun c_366 => absurd c_366 (by decide))
    refine lv_iload_n C.x C.b dX8_step_174 rfl (lv_at hl 4 rfl) ?_
    refine lv_iconst (v := 5) C.x C.b dX8_step_175 (by decide) ?_
    refine lv_icmp_ne (tgt := 196) C.x C.b dX8_step_176 (by decide) (fun c_367 => ?_) (fun c_367 => absurd c_367 (by decide))
    refine lv_iload_n C.x C.b dX8_step_196 rfl (lv_at hl 4 rfl) ?_
    refine lv_bipush (v := 6) C.x C.b dX8_step_197 (by decide) ?_
    refine lv_icmp_ne (tgt := 219) C.x C.b dX8_step_199 (by decide) (fun c_368 => ?_) (fun c_368 => absurd c_368 (by decide))
    refine lv_iload_n C.x C.b dX8_step_219 rfl (lv_at hl 4 rfl) ?_
    refine lv_iconst (v := 5) C.x C.b dX8_step_220 (by decide) ?_
    refine lv_icmp_eq (tgt := 230) C.x C.b dX8_step_221 (by decide) (fun c_369 => absurd c_369 (by decide)) (fun c_369 => ?_)
    refine lv_iload_n C.x C.b dX8_step_224 rfl (lv_at hl 4 rfl) ?_
    refine lv_bipush (v := 6) C.x C.b dX8_step_225 (by decide) ?_
    refine lv_icmp_ne (tgt := 241) C.x C.b dX8_step_227 (by decide) (fun c_370 => ?_) (fun c_370 => absurd c_370 (by decide))
    refine lv_iload_n C.x C.b dX8_step_241 rfl (lv_at hl 4 rfl) ?_
    refine lv_bipush (v := 7) C.x C.b dX8_step_242 (by decide) ?_
    refine lv_icmp_ne (tgt := 264) C.x C.b dX8_step_244 (by decide) (fun c_371 => ?_) (fun c_371 => absurd c_371 (by decide))
    refine lv_iload_n C.x C.b dX8_step_264 rfl (lv_at hl 4 rfl) ?_
    refine lv_bipush (v := 9) C.x C.b dX8_step_265 (by decide) ?_
    refine lv_icmp_ne (tgt := 292) C.x C.b dX8_step_267 (by decide) (fun c_372 => absurd (by decide) c_372) (fun c_372 => ?_)
    refine lv_iload C.x C.b dX8_step_270 (lv_at hl 0 rfl) ?_
    refine lv_if_eq (tgt := 292) C.x C.b dX8_step_272 (by decide) (fun c_373 => ?_) (fun c_373 => ?_)
    · skip
      refine lv_iload_n C.x C.b dX8_step_292 rfl (lv_at hl 4 rfl) ?_
      refine lv_bipush (v := 8) C.x C.b dX8_step_293 (by decide) ?_
      refine lv_icmp_eq (tgt := 314) C.x C.b dX8_step_295 (by decide) (fun c_374 => absurd c_374 (by decide)) (fun c_374 => ?_)
      refine lv_iload_n C.x C.b dX8_step_298 rfl (lv_at hl 4 rfl) ?_
      refine lv_bipush (v := 7) C.x C.b dX8_step_299 (by decide) ?_
      refine lv_icmp_ne (tgt := 319) C.x C.b dX8_step_301 (by decide) (fun c_375 => ?_) (fun c_375 => absurd c_375 (by decide))
      refine lv_iload_n C.x C.b dX8_step_319 rfl (lv_at hl 7 rfl) ?_
      refine lv_iconst (v := 1) C.x C.b dX8_step_320 (by decide) ?_
      refine lv_iadd C.x C.b dX8_step_321 ?_
      refine r_top (y := (nI h + 1)) (rfl) ?_
      have e_376 : g_354 224 = .inl (t.1, 4, .inl rg) := (o_356 _ (by omega)).trans m224
      have e_377 : g_359 224 = .inl (t.1, 4, .inl rg) := (o_361 _ (by omega)).trans e_376
      have e_378 : g_354 225 = .inl (t.1, 8, .inl mm) := (o_356 _ (by omega)).trans m225
      have e_379 : g_359 225 = .inl (t.1, 8, .inl mm) := (o_361 _ (by omega)).trans e_378
      have e_380 : g_359 231 = .inl (t.1, 10240, .inl (upd co k 1)) := (o_361 _ (by omega)).trans e_355
      have e_381 : g_359 220 = .inr (8, [.int td, .int (nI n), .ref (B + 221), .ref (B + 222), .ref (B + 223), .int ey, .int wi, .int ev, .ref (B + 224), .ref (B + 225), .ref (B + 226), .ref (B + 227), .ref (B + 228), .ref (B + 229), .ref (B + 230), .ref (B + 231), .ref (B + 232), .ref (B + 233), .ref (B + 234), .ref (B + 235), .ref (B + 236), .int po, .int ps]) := (o_361 _ (by omega)).trans e_357
      have e_382 : g_354 221 = .inl (t.1, 10, .inl o) := (o_356 _ (by omega)).trans m221
      have e_383 : g_359 221 = .inl (t.1, 10, .inl o) := (o_361 _ (by omega)).trans e_382
      have z_384_r : workR (kdF (o h)) (aF (o h)) (rg (bF (o h))) (cF (o h)) rg mm = rg := by rw [hkd, hbF, haF, hcF, workR_9]; rw [if_pos c_373]; exact upd_same0 _ _
      have z_384_m : workM (kdF (o h)) (aF (o h)) (rg (bF (o h))) rg mm = mm := by rw [hkd, workM_9]
      have z_384_n : upd nu k (numF (kdF (o h)) (rg (aF (o h))) (rg (bF (o h)))) = (upd nu k 0) := by rw [hkd, numF_9]
      have z_384_c : upd co k (cosM (kdF (o h)) (rg (bF (o h)))) = (upd co k 1) := by rw [hkd, cosM_9]
      have z_384_x : (nI h + 1) = nextF (kdF (o h)) (rg (aF (o h))) (cF (o h)) (nI h) := by rw [hkd, nextF_9]
      exact r_iret C hr hlocks hS ⟨z_384_x, ⟨by rw [z_384_r]; exact e_377, by rw [z_384_m]; exact e_379, by rw [z_384_n]; exact e_360, by rw [z_384_c]; exact e_380⟩, fun j hj => (o_361 j (by omega)).trans (o_356 j (by omega))⟩ dX8_step_322
    · skip
      refine lv_aload_n C.x C.b dX8_step_275 rfl (lv_at hl 5 rfl) ?_
      have e_385 : g_359 220 = .inr (8, [.int td, .int (nI n), .ref (B + 221), .ref (B + 222), .ref (B + 223), .int ey, .int wi, .int ev, .ref (B + 224), .ref (B + 225), .ref (B + 226), .ref (B + 227), .ref (B + 228), .ref (B + 229), .ref (B + 230), .ref (B + 231), .ref (B + 232), .ref (B + 233), .ref (B + 234), .ref (B + 235), .ref (B + 236), .int po, .int ps]) := (o_361 _ (by omega)).trans e_357
      refine r_get ck8 flX8_26 C hS (by omega) e_385 (by decide) rfl dX8_step_276 ?_
      refine lv_iload C.x C.b dX8_step_279 (lv_at hl 3 rfl) ?_
      refine lv_aload_n C.x C.b dX8_step_281 rfl (lv_at hl 5 rfl) ?_
      refine r_get ck8 flX8_26 C hS (by omega) e_385 (by decide) rfl dX8_step_282 ?_
      refine lv_iload C.x C.b dX8_step_285 (lv_at hl 3 rfl) ?_
      have e_386 : g_354 224 = .inl (t.1, 4, .inl rg) := (o_356 _ (by omega)).trans m224
      have e_387 : g_359 224 = .inl (t.1, 4, .inl rg) := (o_361 _ (by omega)).trans e_386
      refine r_ialdN (v / 256 % 4) rfl (by omega) (by decide) C hS (by omega) e_387 dX8_step_287 ?_
      refine lv_iload C.x C.b dX8_step_288 (lv_at hl 1 rfl) ?_
      refine lv_iadd C.x C.b dX8_step_290 ?_
      refine r_iastN (v / 256 % 4) rfl (by omega) (by decide) C hS (by omega) e_387 dX8_step_291 (fun g_388 H locs e_389 o_390 hS => ?_)
      replace e_389 : g_388 224 = .inl (t.1, 4, .inl (upd rg (v / 256 % 4) ((rg (v / 256 % 4)) + (nI (v % 16))))) := e_389
      refine lv_iload_n C.x C.b dX8_step_292 rfl (lv_at hl 4 rfl) ?_
      refine lv_bipush (v := 8) C.x C.b dX8_step_293 (by decide) ?_
      refine lv_icmp_eq (tgt := 314) C.x C.b dX8_step_295 (by decide) (fun c_391 => absurd c_391 (by decide)) (fun c_391 => ?_)
      refine lv_iload_n C.x C.b dX8_step_298 rfl (lv_at hl 4 rfl) ?_
      refine lv_bipush (v := 7) C.x C.b dX8_step_299 (by decide) ?_
      refine lv_icmp_ne (tgt := 319) C.x C.b dX8_step_301 (by decide) (fun c_392 => ?_) (fun c_392 => absurd c_392 (by decide))
      refine lv_iload_n C.x C.b dX8_step_319 rfl (lv_at hl 7 rfl) ?_
      refine lv_iconst (v := 1) C.x C.b dX8_step_320 (by decide) ?_
      refine lv_iadd C.x C.b dX8_step_321 ?_
      refine r_top (y := (nI h + 1)) (rfl) ?_
      have e_393 : g_354 225 = .inl (t.1, 8, .inl mm) := (o_356 _ (by omega)).trans m225
      have e_394 : g_359 225 = .inl (t.1, 8, .inl mm) := (o_361 _ (by omega)).trans e_393
      have e_395 : g_388 225 = .inl (t.1, 8, .inl mm) := (o_390 _ (by omega)).trans e_394
      have e_396 : g_388 230 = .inl (t.1, 10240, .inl (upd nu k 0)) := (o_390 _ (by omega)).trans e_360
      have e_397 : g_359 231 = .inl (t.1, 10240, .inl (upd co k 1)) := (o_361 _ (by omega)).trans e_355
      have e_398 : g_388 231 = .inl (t.1, 10240, .inl (upd co k 1)) := (o_390 _ (by omega)).trans e_397
      have e_399 : g_388 220 = .inr (8, [.int td, .int (nI n), .ref (B + 221), .ref (B + 222), .ref (B + 223), .int ey, .int wi, .int ev, .ref (B + 224), .ref (B + 225), .ref (B + 226), .ref (B + 227), .ref (B + 228), .ref (B + 229), .ref (B + 230), .ref (B + 231), .ref (B + 232), .ref (B + 233), .ref (B + 234), .ref (B + 235), .ref (B + 236), .int po, .int ps]) := (o_390 _ (by omega)).trans e_385
      have e_400 : g_354 221 = .inl (t.1, 10, .inl o) := (o_356 _ (by omega)).trans m221
      have e_401 : g_359 221 = .inl (t.1, 10, .inl o) := (o_361 _ (by omega)).trans e_400
      have e_402 : g_388 221 = .inl (t.1, 10, .inl o) := (o_390 _ (by omega)).trans e_401
      have z_403_r : workR (kdF (o h)) (aF (o h)) (rg (bF (o h))) (cF (o h)) rg mm = (upd rg (v / 256 % 4) ((rg (v / 256 % 4)) + (nI (v % 16)))) := by rw [hkd, hbF, haF, hcF, workR_9]; rw [if_neg c_373]
      have z_403_m : workM (kdF (o h)) (aF (o h)) (rg (bF (o h))) rg mm = mm := by rw [hkd, workM_9]
      have z_403_n : upd nu k (numF (kdF (o h)) (rg (aF (o h))) (rg (bF (o h)))) = (upd nu k 0) := by rw [hkd, numF_9]
      have z_403_c : upd co k (cosM (kdF (o h)) (rg (bF (o h)))) = (upd co k 1) := by rw [hkd, cosM_9]
      have z_403_x : (nI h + 1) = nextF (kdF (o h)) (rg (aF (o h))) (cF (o h)) (nI h) := by rw [hkd, nextF_9]
      exact r_iret C hr hlocks hS ⟨z_403_x, ⟨by rw [z_403_r]; exact e_389, by rw [z_403_m]; exact e_395, by rw [z_403_n]; exact e_396, by rw [z_403_c]; exact e_398⟩, fun j hj => (o_390 j (by omega)).trans ((o_361 j (by omega)).trans (o_356 j (by omega)))⟩ dX8_step_322
