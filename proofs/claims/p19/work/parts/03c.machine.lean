def ush (x y : Int32) : Int32 := (x.toUInt32 >>> (y.toUInt32 &&& Int32.toUInt32 31)).toInt32
def nlz5 (n x : Int32) : Int32 := n - (ush x 1)
def nlz4 (n x : Int32) : Int32 := if x < 4 then nlz5 n x else nlz5 (n + -2) (ush x 2)
def nlz3 (n x : Int32) : Int32 := if x < 16 then nlz4 n x else nlz4 (n + -4) (ush x 4)
def nlz2 (n x : Int32) : Int32 := if x < 256 then nlz3 n x else nlz3 (n + -8) (ush x 8)
def nlz1 (n x : Int32) : Int32 := if x < 65536 then nlz2 n x else nlz2 (n + -16) (ush x 16)
/-- the leading zeros of x -/
def nlzF (x : Int32) : Int32 := if 0 < x then nlz1 31 x else if x = 0 then 32 else 0
def lo2 (x : Int32) : Nat := (x &&& 3).toNatClampNeg
def lo3 (x : Int32) : Nat := (x &&& 7).toNatClampNeg
theorem lo2_eq (x : Int32) : x &&& 3 = nI (lo2 x) := by
  obtain ⟨j, hj, e⟩ := pk_andE x (m := 3) 2 (by decide)
  unfold lo2
  rw [e, nI_clamp (by omega)]
theorem lo2_lt (x : Int32) : lo2 x < 4 := by
  obtain ⟨j, hj, e⟩ := pk_andE x (m := 3) 2 (by decide)
  unfold lo2
  rw [e, nI_clamp (by omega)]
  exact hj
theorem lo3_eq (x : Int32) : x &&& 7 = nI (lo3 x) := by
  obtain ⟨j, hj, e⟩ := pk_andE x (m := 7) 3 (by decide)
  unfold lo3
  rw [e, nI_clamp (by omega)]
theorem lo3_lt (x : Int32) : lo3 x < 8 := by
  obtain ⟨j, hj, e⟩ := pk_andE x (m := 7) 3 (by decide)
  unfold lo3
  rw [e, nI_clamp (by omega)]
  exact hj
def nextF (kd a c0 pt : Int32) : Int32 := if kd = 0 then -1 else if kd = 7 then (if a = 0 then c0 else pt + 1) else if kd = 8 then c0 else pt + 1
def workR (kd : Int32) (a : Nat) (b c0 : Int32) (rg mm : Nat → Int32) : Nat → Int32 := if kd = 1 then upd rg a c0 else if kd = 2 then upd rg a (rg a + b) else if kd = 3 then upd rg a (rg a ^^^ b) else if kd = 4 then upd rg a (rg a * b) else if kd = 5 then upd rg a (mm (lo3 b)) else if kd = 9 then upd rg a (rg a + (if b = 0 then 0 else c0)) else rg
def workM (kd : Int32) (a : Nat) (b : Int32) (rg mm : Nat → Int32) : Nat → Int32 := if kd = 6 then upd mm (lo3 b) (rg a) else mm
theorem sw_out_1_9 {x : Int32} (h1 : ¬ x = 1) (h2 : ¬ x = 2) (h3 : ¬ x = 3) (h4 : ¬ x = 4) (h5 : ¬ x = 5) (h6 : ¬ x = 6) (h7 : ¬ x = 7) (h8 : ¬ x = 8) (h9 : ¬ x = 9) : x.toInt < 1 ∨ 9 < x.toInt := by
  have a1 : x.toInt ≠ 1 := i32_ne h1
  have a2 : x.toInt ≠ 2 := i32_ne h2
  have a3 : x.toInt ≠ 3 := i32_ne h3
  have a4 : x.toInt ≠ 4 := i32_ne h4
  have a5 : x.toInt ≠ 5 := i32_ne h5
  have a6 : x.toInt ≠ 6 := i32_ne h6
  have a7 : x.toInt ≠ 7 := i32_ne h7
  have a8 : x.toInt ≠ 8 := i32_ne h8
  have a9 : x.toInt ≠ 9 := i32_ne h9
  omega
def rg0 (rg : Nat → Int32) (op se : Int32) : Nat → Int32 := upd (upd (upd (upd rg 0 (op &&& 3)) 1 ((op >>> (2 &&& 31)) &&& 3)) 2 (se &&& 3)) 3 ((se >>> (2 &&& 31)) &&& 3)
/-- f with the first k of w copied in -/
def cpF (w f : Nat → Int32) : Nat → Nat → Int32
  | 0 => f
  | k + 1 => upd (cpF w f k) k (w k)
/-- does the step tell: 0 no, 1 a line, 2 a branch -/
def tlc (kd ey wi : Int32) : Nat := if (kd = 5 ∨ kd = 6) ∧ ¬ (ey &&& 2) = 0 ∧ ¬ wi ≤ 0 then 1 else if kd = 7 ∧ ¬ (ey &&& 4) = 0 then 2 else 0
def tuf : Nat → (Nat → Int32) → Nat → Int32 → Nat → Int32
  | 0, f, _, _ => f
  | _ + 1, f, k, x => upd f k x
def tln : Nat → Nat → Nat
  | 0, k => k
  | _ + 1, k => k + 1
def what : Nat → Int32
  | 1 => 2
  | 2 => 4
  | _ => 0
def tnum : Nat → Int32 → Int32 → Int32 → Int32
  | 1, _, b, wi => (b &&& 7) / wi
  | _, a, _, _ => if a = 0 then 1 else 0
set_option maxHeartbeats 1000000 in
set_option maxRecDepth 100000 in
theorem c_J6_numberOfLeadingZeros_0f7a4 (l : Launch) (D : va_G) (t : Gx) (B N : Nat) (g : Nat → va_E) (x : Int32)  : Ci l D t B N yJ6_numberOfLeadingZeros_0f7a4 cJ6_numberOfLeadingZeros_0f7a4 2 (some .int) 0 0 g [.int x] (fun r g' => g = g' ∧ r = nlzF x) := by
  refine Ci.start (by decide) (Nat.le_of_ble_eq_true rfl) ?_
  intro p e s m below meth c ls C hr hlocks hS hl
  replace C : Cx D t p s m [.int x].toArray c cJ6_numberOfLeadingZeros_0f7a4 2 RJ6 := C
  replace hl : lv_has ls 2 [(0, .int x)] := hl
  refine lv_iload_n C.x C.b dJ6_numberOfLeadingZeros_0f7a4_0 rfl (lv_at hl 0 rfl) ?_
  refine lv_if_gt (tgt := 15) C.x C.b dJ6_numberOfLeadingZeros_0f7a4_1 (by decide) (fun c_1 => ?_) (fun c_1 => ?_)
  · skip
    refine lv_bipush (v := 31) C.x C.b dJ6_numberOfLeadingZeros_0f7a4_15 (by decide) ?_
    refine lv_istore_n (lv' := [(1, .int 31), (0, .int x)]) C.x C.b dJ6_numberOfLeadingZeros_0f7a4_17 rfl hl (by decide) rfl (fun ls hl => ?_)
    refine lv_iload_n C.x C.b dJ6_numberOfLeadingZeros_0f7a4_18 rfl (lv_at hl 1 rfl) ?_
    refine lv_ldcw (v := 65536) C.x C.b C.o (C.w kkJ6_264) dJ6_numberOfLeadingZeros_0f7a4_19 ?_
    refine lv_icmp_lt (tgt := 33) C.x C.b dJ6_numberOfLeadingZeros_0f7a4_22 (by decide) (fun c_2 => ?_) (fun c_2 => ?_)
    · skip
      refine lv_iload_n C.x C.b dJ6_numberOfLeadingZeros_0f7a4_33 rfl (lv_at hl 1 rfl) ?_
      refine lv_sipush (v := 256) C.x C.b dJ6_numberOfLeadingZeros_0f7a4_34 (by decide) ?_
      refine lv_icmp_lt (tgt := 48) C.x C.b dJ6_numberOfLeadingZeros_0f7a4_37 (by decide) (fun c_3 => ?_) (fun c_3 => ?_)
      · skip
        refine lv_iload_n C.x C.b dJ6_numberOfLeadingZeros_0f7a4_48 rfl (lv_at hl 1 rfl) ?_
        refine lv_bipush (v := 16) C.x C.b dJ6_numberOfLeadingZeros_0f7a4_49 (by decide) ?_
        refine lv_icmp_lt (tgt := 61) C.x C.b dJ6_numberOfLeadingZeros_0f7a4_51 (by decide) (fun c_4 => ?_) (fun c_4 => ?_)
        · skip
          refine lv_iload_n C.x C.b dJ6_numberOfLeadingZeros_0f7a4_61 rfl (lv_at hl 1 rfl) ?_
          refine lv_iconst (v := 4) C.x C.b dJ6_numberOfLeadingZeros_0f7a4_62 (by decide) ?_
          refine lv_icmp_lt (tgt := 73) C.x C.b dJ6_numberOfLeadingZeros_0f7a4_63 (by decide) (fun c_5 => ?_) (fun c_5 => ?_)
          · skip
            refine lv_iload_n C.x C.b dJ6_numberOfLeadingZeros_0f7a4_73 rfl (lv_at hl 0 rfl) ?_
            refine lv_iload_n C.x C.b dJ6_numberOfLeadingZeros_0f7a4_74 rfl (lv_at hl 1 rfl) ?_
            refine lv_iconst (v := 1) C.x C.b dJ6_numberOfLeadingZeros_0f7a4_75 (by decide) ?_
            refine lv_iushr (v := (ush x 1)) C.x C.b dJ6_numberOfLeadingZeros_0f7a4_76 rfl ?_
            refine lv_isub C.x C.b dJ6_numberOfLeadingZeros_0f7a4_77 ?_
            exact r_iret C hr hlocks hS ⟨rfl, by simp only [nlzF, nlz1, nlz2, nlz3, nlz4, nlz5, c_1, c_2, c_3, c_4, c_5, not_true_eq_false, not_false_eq_true, and_true, true_and, and_false, false_and, and_self, or_true, or_false, true_or, false_or, ite_true, ite_false, if_true, if_false, ↓reduceIte, reduceCtorEq]⟩ dJ6_numberOfLeadingZeros_0f7a4_78
          · skip
            refine lv_iinc (v := (31 + -2)) (lv' := [(1, .int (31 + -2)), (0, .int x)]) C.x C.b dJ6_numberOfLeadingZeros_0f7a4_66 hl (k := 0) rfl (rfl) (by decide) rfl (fun ls hl => ?_)
            refine lv_iload_n C.x C.b dJ6_numberOfLeadingZeros_0f7a4_69 rfl (lv_at hl 1 rfl) ?_
            refine lv_iconst (v := 2) C.x C.b dJ6_numberOfLeadingZeros_0f7a4_70 (by decide) ?_
            refine lv_iushr (v := (ush x 2)) C.x C.b dJ6_numberOfLeadingZeros_0f7a4_71 rfl ?_
            refine lv_istore_n (lv' := [(0, .int (ush x 2)), (1, .int (31 + -2))]) C.x C.b dJ6_numberOfLeadingZeros_0f7a4_72 rfl hl (by decide) rfl (fun ls hl => ?_)
            refine lv_iload_n C.x C.b dJ6_numberOfLeadingZeros_0f7a4_73 rfl (lv_at hl 1 rfl) ?_
            refine lv_iload_n C.x C.b dJ6_numberOfLeadingZeros_0f7a4_74 rfl (lv_at hl 0 rfl) ?_
            refine lv_iconst (v := 1) C.x C.b dJ6_numberOfLeadingZeros_0f7a4_75 (by decide) ?_
            refine lv_iushr (v := (ush (ush x 2) 1)) C.x C.b dJ6_numberOfLeadingZeros_0f7a4_76 rfl ?_
            refine lv_isub C.x C.b dJ6_numberOfLeadingZeros_0f7a4_77 ?_
            exact r_iret C hr hlocks hS ⟨rfl, by simp only [nlzF, nlz1, nlz2, nlz3, nlz4, nlz5, c_1, c_2, c_3, c_4, c_5, not_true_eq_false, not_false_eq_true, and_true, true_and, and_false, false_and, and_self, or_true, or_false, true_or, false_or, ite_true, ite_false, if_true, if_false, ↓reduceIte, reduceCtorEq]⟩ dJ6_numberOfLeadingZeros_0f7a4_78
        · skip
          refine lv_iinc (v := (31 + -4)) (lv' := [(1, .int (31 + -4)), (0, .int x)]) C.x C.b dJ6_numberOfLeadingZeros_0f7a4_54 hl (k := 0) rfl (rfl) (by decide) rfl (fun ls hl => ?_)
          refine lv_iload_n C.x C.b dJ6_numberOfLeadingZeros_0f7a4_57 rfl (lv_at hl 1 rfl) ?_
          refine lv_iconst (v := 4) C.x C.b dJ6_numberOfLeadingZeros_0f7a4_58 (by decide) ?_
          refine lv_iushr (v := (ush x 4)) C.x C.b dJ6_numberOfLeadingZeros_0f7a4_59 rfl ?_
          refine lv_istore_n (lv' := [(0, .int (ush x 4)), (1, .int (31 + -4))]) C.x C.b dJ6_numberOfLeadingZeros_0f7a4_60 rfl hl (by decide) rfl (fun ls hl => ?_)
          refine lv_iload_n C.x C.b dJ6_numberOfLeadingZeros_0f7a4_61 rfl (lv_at hl 0 rfl) ?_
          refine lv_iconst (v := 4) C.x C.b dJ6_numberOfLeadingZeros_0f7a4_62 (by decide) ?_
          refine lv_icmp_lt (tgt := 73) C.x C.b dJ6_numberOfLeadingZeros_0f7a4_63 (by decide) (fun c_6 => ?_) (fun c_6 => ?_)
          · skip
            refine lv_iload_n C.x C.b dJ6_numberOfLeadingZeros_0f7a4_73 rfl (lv_at hl 1 rfl) ?_
            refine lv_iload_n C.x C.b dJ6_numberOfLeadingZeros_0f7a4_74 rfl (lv_at hl 0 rfl) ?_
            refine lv_iconst (v := 1) C.x C.b dJ6_numberOfLeadingZeros_0f7a4_75 (by decide) ?_
            refine lv_iushr (v := (ush (ush x 4) 1)) C.x C.b dJ6_numberOfLeadingZeros_0f7a4_76 rfl ?_
            refine lv_isub C.x C.b dJ6_numberOfLeadingZeros_0f7a4_77 ?_
            exact r_iret C hr hlocks hS ⟨rfl, by simp only [nlzF, nlz1, nlz2, nlz3, nlz4, nlz5, c_1, c_2, c_3, c_4, c_6, not_true_eq_false, not_false_eq_true, and_true, true_and, and_false, false_and, and_self, or_true, or_false, true_or, false_or, ite_true, ite_false, if_true, if_false, ↓reduceIte, reduceCtorEq]⟩ dJ6_numberOfLeadingZeros_0f7a4_78
          · skip
            refine lv_iinc (v := ((31 + -4) + -2)) (lv' := [(1, .int ((31 + -4) + -2)), (0, .int (ush x 4))]) C.x C.b dJ6_numberOfLeadingZeros_0f7a4_66 hl (k := 1) rfl (rfl) (by decide) rfl (fun ls hl => ?_)
            refine lv_iload_n C.x C.b dJ6_numberOfLeadingZeros_0f7a4_69 rfl (lv_at hl 1 rfl) ?_
            refine lv_iconst (v := 2) C.x C.b dJ6_numberOfLeadingZeros_0f7a4_70 (by decide) ?_
            refine lv_iushr (v := (ush (ush x 4) 2)) C.x C.b dJ6_numberOfLeadingZeros_0f7a4_71 rfl ?_
            refine lv_istore_n (lv' := [(0, .int (ush (ush x 4) 2)), (1, .int ((31 + -4) + -2))]) C.x C.b dJ6_numberOfLeadingZeros_0f7a4_72 rfl hl (by decide) rfl (fun ls hl => ?_)
            refine lv_iload_n C.x C.b dJ6_numberOfLeadingZeros_0f7a4_73 rfl (lv_at hl 1 rfl) ?_
            refine lv_iload_n C.x C.b dJ6_numberOfLeadingZeros_0f7a4_74 rfl (lv_at hl 0 rfl) ?_
            refine lv_iconst (v := 1) C.x C.b dJ6_numberOfLeadingZeros_0f7a4_75 (by decide) ?_
            refine lv_iushr (v := (ush (ush (ush x 4) 2) 1)) C.x C.b dJ6_numberOfLeadingZeros_0f7a4_76 rfl ?_
            refine lv_isub C.x C.b dJ6_numberOfLeadingZeros_0f7a4_77 ?_
            exact r_iret C hr hlocks hS ⟨rfl, by simp only [nlzF, nlz1, nlz2, nlz3, nlz4, nlz5, c_1, c_2, c_3, c_4, c_6, not_true_eq_false, not_false_eq_true, and_true, true_and, and_false, false_and, and_self, or_true, or_false, true_or, false_or, ite_true, ite_false, if_true, if_false, ↓reduceIte, reduceCtorEq]⟩ dJ6_numberOfLeadingZeros_0f7a4_78
      · skip
        refine lv_iinc (v := (31 + -8)) (lv' := [(1, .int (31 + -8)), (0, .int x)]) C.x C.b dJ6_numberOfLeadingZeros_0f7a4_40 hl (k := 0) rfl (rfl) (by decide) rfl (fun ls hl => ?_)
        refine lv_iload_n C.x C.b dJ6_numberOfLeadingZeros_0f7a4_43 rfl (lv_at hl 1 rfl) ?_
        refine lv_bipush (v := 8) C.x C.b dJ6_numberOfLeadingZeros_0f7a4_44 (by decide) ?_
        refine lv_iushr (v := (ush x 8)) C.x C.b dJ6_numberOfLeadingZeros_0f7a4_46 rfl ?_
        refine lv_istore_n (lv' := [(0, .int (ush x 8)), (1, .int (31 + -8))]) C.x C.b dJ6_numberOfLeadingZeros_0f7a4_47 rfl hl (by decide) rfl (fun ls hl => ?_)
        refine lv_iload_n C.x C.b dJ6_numberOfLeadingZeros_0f7a4_48 rfl (lv_at hl 0 rfl) ?_
        refine lv_bipush (v := 16) C.x C.b dJ6_numberOfLeadingZeros_0f7a4_49 (by decide) ?_
        refine lv_icmp_lt (tgt := 61) C.x C.b dJ6_numberOfLeadingZeros_0f7a4_51 (by decide) (fun c_7 => ?_) (fun c_7 => ?_)
        · skip
          refine lv_iload_n C.x C.b dJ6_numberOfLeadingZeros_0f7a4_61 rfl (lv_at hl 0 rfl) ?_
          refine lv_iconst (v := 4) C.x C.b dJ6_numberOfLeadingZeros_0f7a4_62 (by decide) ?_
          refine lv_icmp_lt (tgt := 73) C.x C.b dJ6_numberOfLeadingZeros_0f7a4_63 (by decide) (fun c_8 => ?_) (fun c_8 => ?_)
          · skip
            refine lv_iload_n C.x C.b dJ6_numberOfLeadingZeros_0f7a4_73 rfl (lv_at hl 1 rfl) ?_
            refine lv_iload_n C.x C.b dJ6_numberOfLeadingZeros_0f7a4_74 rfl (lv_at hl 0 rfl) ?_
            refine lv_iconst (v := 1) C.x C.b dJ6_numberOfLeadingZeros_0f7a4_75 (by decide) ?_
            refine lv_iushr (v := (ush (ush x 8) 1)) C.x C.b dJ6_numberOfLeadingZeros_0f7a4_76 rfl ?_
            refine lv_isub C.x C.b dJ6_numberOfLeadingZeros_0f7a4_77 ?_
            exact r_iret C hr hlocks hS ⟨rfl, by simp only [nlzF, nlz1, nlz2, nlz3, nlz4, nlz5, c_1, c_2, c_3, c_7, c_8, not_true_eq_false, not_false_eq_true, and_true, true_and, and_false, false_and, and_self, or_true, or_false, true_or, false_or, ite_true, ite_false, if_true, if_false, ↓reduceIte, reduceCtorEq]⟩ dJ6_numberOfLeadingZeros_0f7a4_78
          · skip
            refine lv_iinc (v := ((31 + -8) + -2)) (lv' := [(1, .int ((31 + -8) + -2)), (0, .int (ush x 8))]) C.x C.b dJ6_numberOfLeadingZeros_0f7a4_66 hl (k := 1) rfl (rfl) (by decide) rfl (fun ls hl => ?_)
            refine lv_iload_n C.x C.b dJ6_numberOfLeadingZeros_0f7a4_69 rfl (lv_at hl 1 rfl) ?_
            refine lv_iconst (v := 2) C.x C.b dJ6_numberOfLeadingZeros_0f7a4_70 (by decide) ?_
            refine lv_iushr (v := (ush (ush x 8) 2)) C.x C.b dJ6_numberOfLeadingZeros_0f7a4_71 rfl ?_
            refine lv_istore_n (lv' := [(0, .int (ush (ush x 8) 2)), (1, .int ((31 + -8) + -2))]) C.x C.b dJ6_numberOfLeadingZeros_0f7a4_72 rfl hl (by decide) rfl (fun ls hl => ?_)
            refine lv_iload_n C.x C.b dJ6_numberOfLeadingZeros_0f7a4_73 rfl (lv_at hl 1 rfl) ?_
            refine lv_iload_n C.x C.b dJ6_numberOfLeadingZeros_0f7a4_74 rfl (lv_at hl 0 rfl) ?_
            refine lv_iconst (v := 1) C.x C.b dJ6_numberOfLeadingZeros_0f7a4_75 (by decide) ?_
            refine lv_iushr (v := (ush (ush (ush x 8) 2) 1)) C.x C.b dJ6_numberOfLeadingZeros_0f7a4_76 rfl ?_
            refine lv_isub C.x C.b dJ6_numberOfLeadingZeros_0f7a4_77 ?_
            exact r_iret C hr hlocks hS ⟨rfl, by simp only [nlzF, nlz1, nlz2, nlz3, nlz4, nlz5, c_1, c_2, c_3, c_7, c_8, not_true_eq_false, not_false_eq_true, and_true, true_and, and_false, false_and, and_self, or_true, or_false, true_or, false_or, ite_true, ite_false, if_true, if_false, ↓reduceIte, reduceCtorEq]⟩ dJ6_numberOfLeadingZeros_0f7a4_78
        · skip
          refine lv_iinc (v := ((31 + -8) + -4)) (lv' := [(1, .int ((31 + -8) + -4)), (0, .int (ush x 8))]) C.x C.b dJ6_numberOfLeadingZeros_0f7a4_54 hl (k := 1) rfl (rfl) (by decide) rfl (fun ls hl => ?_)
          refine lv_iload_n C.x C.b dJ6_numberOfLeadingZeros_0f7a4_57 rfl (lv_at hl 1 rfl) ?_
          refine lv_iconst (v := 4) C.x C.b dJ6_numberOfLeadingZeros_0f7a4_58 (by decide) ?_
          refine lv_iushr (v := (ush (ush x 8) 4)) C.x C.b dJ6_numberOfLeadingZeros_0f7a4_59 rfl ?_
          refine lv_istore_n (lv' := [(0, .int (ush (ush x 8) 4)), (1, .int ((31 + -8) + -4))]) C.x C.b dJ6_numberOfLeadingZeros_0f7a4_60 rfl hl (by decide) rfl (fun ls hl => ?_)
          refine lv_iload_n C.x C.b dJ6_numberOfLeadingZeros_0f7a4_61 rfl (lv_at hl 0 rfl) ?_
          refine lv_iconst (v := 4) C.x C.b dJ6_numberOfLeadingZeros_0f7a4_62 (by decide) ?_
          refine lv_icmp_lt (tgt := 73) C.x C.b dJ6_numberOfLeadingZeros_0f7a4_63 (by decide) (fun c_9 => ?_) (fun c_9 => ?_)
          · skip
            refine lv_iload_n C.x C.b dJ6_numberOfLeadingZeros_0f7a4_73 rfl (lv_at hl 1 rfl) ?_
            refine lv_iload_n C.x C.b dJ6_numberOfLeadingZeros_0f7a4_74 rfl (lv_at hl 0 rfl) ?_
            refine lv_iconst (v := 1) C.x C.b dJ6_numberOfLeadingZeros_0f7a4_75 (by decide) ?_
            refine lv_iushr (v := (ush (ush (ush x 8) 4) 1)) C.x C.b dJ6_numberOfLeadingZeros_0f7a4_76 rfl ?_
            refine lv_isub C.x C.b dJ6_numberOfLeadingZeros_0f7a4_77 ?_
            exact r_iret C hr hlocks hS ⟨rfl, by simp only [nlzF, nlz1, nlz2, nlz3, nlz4, nlz5, c_1, c_2, c_3, c_7, c_9, not_true_eq_false, not_false_eq_true, and_true, true_and, and_false, false_and, and_self, or_true, or_false, true_or, false_or, ite_true, ite_false, if_true, if_false, ↓reduceIte, reduceCtorEq]⟩ dJ6_numberOfLeadingZeros_0f7a4_78
          · skip
            refine lv_iinc (v := (((31 + -8) + -4) + -2)) (lv' := [(1, .int (((31 + -8) + -4) + -2)), (0, .int (ush (ush x 8) 4))]) C.x C.b dJ6_numberOfLeadingZeros_0f7a4_66 hl (k := 1) rfl (rfl) (by decide) rfl (fun ls hl => ?_)
            refine lv_iload_n C.x C.b dJ6_numberOfLeadingZeros_0f7a4_69 rfl (lv_at hl 1 rfl) ?_
            refine lv_iconst (v := 2) C.x C.b dJ6_numberOfLeadingZeros_0f7a4_70 (by decide) ?_
            refine lv_iushr (v := (ush (ush (ush x 8) 4) 2)) C.x C.b dJ6_numberOfLeadingZeros_0f7a4_71 rfl ?_
            refine lv_istore_n (lv' := [(0, .int (ush (ush (ush x 8) 4) 2)), (1, .int (((31 + -8) + -4) + -2))]) C.x C.b dJ6_numberOfLeadingZeros_0f7a4_72 rfl hl (by decide) rfl (fun ls hl => ?_)
            refine lv_iload_n C.x C.b dJ6_numberOfLeadingZeros_0f7a4_73 rfl (lv_at hl 1 rfl) ?_
            refine lv_iload_n C.x C.b dJ6_numberOfLeadingZeros_0f7a4_74 rfl (lv_at hl 0 rfl) ?_
            refine lv_iconst (v := 1) C.x C.b dJ6_numberOfLeadingZeros_0f7a4_75 (by decide) ?_
            refine lv_iushr (v := (ush (ush (ush (ush x 8) 4) 2) 1)) C.x C.b dJ6_numberOfLeadingZeros_0f7a4_76 rfl ?_
            refine lv_isub C.x C.b dJ6_numberOfLeadingZeros_0f7a4_77 ?_
            exact r_iret C hr hlocks hS ⟨rfl, by simp only [nlzF, nlz1, nlz2, nlz3, nlz4, nlz5, c_1, c_2, c_3, c_7, c_9, not_true_eq_false, not_false_eq_true, and_true, true_and, and_false, false_and, and_self, or_true, or_false, true_or, false_or, ite_true, ite_false, if_true, if_false, ↓reduceIte, reduceCtorEq]⟩ dJ6_numberOfLeadingZeros_0f7a4_78
    · skip
      refine lv_iinc (v := (31 + -16)) (lv' := [(1, .int (31 + -16)), (0, .int x)]) C.x C.b dJ6_numberOfLeadingZeros_0f7a4_25 hl (k := 0) rfl (rfl) (by decide) rfl (fun ls hl => ?_)
      refine lv_iload_n C.x C.b dJ6_numberOfLeadingZeros_0f7a4_28 rfl (lv_at hl 1 rfl) ?_
      refine lv_bipush (v := 16) C.x C.b dJ6_numberOfLeadingZeros_0f7a4_29 (by decide) ?_
      refine lv_iushr (v := (ush x 16)) C.x C.b dJ6_numberOfLeadingZeros_0f7a4_31 rfl ?_
      refine lv_istore_n (lv' := [(0, .int (ush x 16)), (1, .int (31 + -16))]) C.x C.b dJ6_numberOfLeadingZeros_0f7a4_32 rfl hl (by decide) rfl (fun ls hl => ?_)
      refine lv_iload_n C.x C.b dJ6_numberOfLeadingZeros_0f7a4_33 rfl (lv_at hl 0 rfl) ?_
      refine lv_sipush (v := 256) C.x C.b dJ6_numberOfLeadingZeros_0f7a4_34 (by decide) ?_
      refine lv_icmp_lt (tgt := 48) C.x C.b dJ6_numberOfLeadingZeros_0f7a4_37 (by decide) (fun c_10 => ?_) (fun c_10 => ?_)
      · skip
        refine lv_iload_n C.x C.b dJ6_numberOfLeadingZeros_0f7a4_48 rfl (lv_at hl 0 rfl) ?_
        refine lv_bipush (v := 16) C.x C.b dJ6_numberOfLeadingZeros_0f7a4_49 (by decide) ?_
        refine lv_icmp_lt (tgt := 61) C.x C.b dJ6_numberOfLeadingZeros_0f7a4_51 (by decide) (fun c_11 => ?_) (fun c_11 => ?_)
        · skip
          refine lv_iload_n C.x C.b dJ6_numberOfLeadingZeros_0f7a4_61 rfl (lv_at hl 0 rfl) ?_
          refine lv_iconst (v := 4) C.x C.b dJ6_numberOfLeadingZeros_0f7a4_62 (by decide) ?_
          refine lv_icmp_lt (tgt := 73) C.x C.b dJ6_numberOfLeadingZeros_0f7a4_63 (by decide) (fun c_12 => ?_) (fun c_12 => ?_)
          · skip
            refine lv_iload_n C.x C.b dJ6_numberOfLeadingZeros_0f7a4_73 rfl (lv_at hl 1 rfl) ?_
            refine lv_iload_n C.x C.b dJ6_numberOfLeadingZeros_0f7a4_74 rfl (lv_at hl 0 rfl) ?_
            refine lv_iconst (v := 1) C.x C.b dJ6_numberOfLeadingZeros_0f7a4_75 (by decide) ?_
            refine lv_iushr (v := (ush (ush x 16) 1)) C.x C.b dJ6_numberOfLeadingZeros_0f7a4_76 rfl ?_
            refine lv_isub C.x C.b dJ6_numberOfLeadingZeros_0f7a4_77 ?_
            exact r_iret C hr hlocks hS ⟨rfl, by simp only [nlzF, nlz1, nlz2, nlz3, nlz4, nlz5, c_1, c_2, c_10, c_11, c_12, not_true_eq_false, not_false_eq_true, and_true, true_and, and_false, false_and, and_self, or_true, or_false, true_or, false_or, ite_true, ite_false, if_true, if_false, ↓reduceIte, reduceCtorEq]⟩ dJ6_numberOfLeadingZeros_0f7a4_78
          · skip
            refine lv_iinc (v := ((31 + -16) + -2)) (lv' := [(1, .int ((31 + -16) + -2)), (0, .int (ush x 16))]) C.x C.b dJ6_numberOfLeadingZeros_0f7a4_66 hl (k := 1) rfl (rfl) (by decide) rfl (fun ls hl => ?_)
            refine lv_iload_n C.x C.b dJ6_numberOfLeadingZeros_0f7a4_69 rfl (lv_at hl 1 rfl) ?_
            refine lv_iconst (v := 2) C.x C.b dJ6_numberOfLeadingZeros_0f7a4_70 (by decide) ?_
            refine lv_iushr (v := (ush (ush x 16) 2)) C.x C.b dJ6_numberOfLeadingZeros_0f7a4_71 rfl ?_
            refine lv_istore_n (lv' := [(0, .int (ush (ush x 16) 2)), (1, .int ((31 + -16) + -2))]) C.x C.b dJ6_numberOfLeadingZeros_0f7a4_72 rfl hl (by decide) rfl (fun ls hl => ?_)
            refine lv_iload_n C.x C.b dJ6_numberOfLeadingZeros_0f7a4_73 rfl (lv_at hl 1 rfl) ?_
            refine lv_iload_n C.x C.b dJ6_numberOfLeadingZeros_0f7a4_74 rfl (lv_at hl 0 rfl) ?_
            refine lv_iconst (v := 1) C.x C.b dJ6_numberOfLeadingZeros_0f7a4_75 (by decide) ?_
            refine lv_iushr (v := (ush (ush (ush x 16) 2) 1)) C.x C.b dJ6_numberOfLeadingZeros_0f7a4_76 rfl ?_
            refine lv_isub C.x C.b dJ6_numberOfLeadingZeros_0f7a4_77 ?_
            exact r_iret C hr hlocks hS ⟨rfl, by simp only [nlzF, nlz1, nlz2, nlz3, nlz4, nlz5, c_1, c_2, c_10, c_11, c_12, not_true_eq_false, not_false_eq_true, and_true, true_and, and_false, false_and, and_self, or_true, or_false, true_or, false_or, ite_true, ite_false, if_true, if_false, ↓reduceIte, reduceCtorEq]⟩ dJ6_numberOfLeadingZeros_0f7a4_78
        · skip
          refine lv_iinc (v := ((31 + -16) + -4)) (lv' := [(1, .int ((31 + -16) + -4)), (0, .int (ush x 16))]) C.x C.b dJ6_numberOfLeadingZeros_0f7a4_54 hl (k := 1) rfl (rfl) (by decide) rfl (fun ls hl => ?_)
          refine lv_iload_n C.x C.b dJ6_numberOfLeadingZeros_0f7a4_57 rfl (lv_at hl 1 rfl) ?_
          refine lv_iconst (v := 4) C.x C.b dJ6_numberOfLeadingZeros_0f7a4_58 (by decide) ?_
          refine lv_iushr (v := (ush (ush x 16) 4)) C.x C.b dJ6_numberOfLeadingZeros_0f7a4_59 rfl ?_
          refine lv_istore_n (lv' := [(0, .int (ush (ush x 16) 4)), (1, .int ((31 + -16) + -4))]) C.x C.b dJ6_numberOfLeadingZeros_0f7a4_60 rfl hl (by decide) rfl (fun ls hl => ?_)
          refine lv_iload_n C.x C.b dJ6_numberOfLeadingZeros_0f7a4_61 rfl (lv_at hl 0 rfl) ?_
          refine lv_iconst (v := 4) C.x C.b dJ6_numberOfLeadingZeros_0f7a4_62 (by decide) ?_
          refine lv_icmp_lt (tgt := 73) C.x C.b dJ6_numberOfLeadingZeros_0f7a4_63 (by decide) (fun c_13 => ?_) (fun c_13 => ?_)
          · skip
            refine lv_iload_n C.x C.b dJ6_numberOfLeadingZeros_0f7a4_73 rfl (lv_at hl 1 rfl) ?_
            refine lv_iload_n C.x C.b dJ6_numberOfLeadingZeros_0f7a4_74 rfl (lv_at hl 0 rfl) ?_
            refine lv_iconst (v := 1) C.x C.b dJ6_numberOfLeadingZeros_0f7a4_75 (by decide) ?_
            refine lv_iushr (v := (ush (ush (ush x 16) 4) 1)) C.x C.b dJ6_numberOfLeadingZeros_0f7a4_76 rfl ?_
            refine lv_isub C.x C.b dJ6_numberOfLeadingZeros_0f7a4_77 ?_
            exact r_iret C hr hlocks hS ⟨rfl, by simp only [nlzF, nlz1, nlz2, nlz3, nlz4, nlz5, c_1, c_2, c_10, c_11, c_13, not_true_eq_false, not_false_eq_true, and_true, true_and, and_false, false_and, and_self, or_true, or_false, true_or, false_or, ite_true, ite_false, if_true, if_false, ↓reduceIte, reduceCtorEq]⟩ dJ6_numberOfLeadingZeros_0f7a4_78
          · skip
            refine lv_iinc (v := (((31 + -16) + -4) + -2)) (lv' := [(1, .int (((31 + -16) + -4) + -2)), (0, .int (ush (ush x 16) 4))]) C.x C.b dJ6_numberOfLeadingZeros_0f7a4_66 hl (k := 1) rfl (rfl) (by decide) rfl (fun ls hl => ?_)
            refine lv_iload_n C.x C.b dJ6_numberOfLeadingZeros_0f7a4_69 rfl (lv_at hl 1 rfl) ?_
            refine lv_iconst (v := 2) C.x C.b dJ6_numberOfLeadingZeros_0f7a4_70 (by decide) ?_
            refine lv_iushr (v := (ush (ush (ush x 16) 4) 2)) C.x C.b dJ6_numberOfLeadingZeros_0f7a4_71 rfl ?_
            refine lv_istore_n (lv' := [(0, .int (ush (ush (ush x 16) 4) 2)), (1, .int (((31 + -16) + -4) + -2))]) C.x C.b dJ6_numberOfLeadingZeros_0f7a4_72 rfl hl (by decide) rfl (fun ls hl => ?_)
            refine lv_iload_n C.x C.b dJ6_numberOfLeadingZeros_0f7a4_73 rfl (lv_at hl 1 rfl) ?_
            refine lv_iload_n C.x C.b dJ6_numberOfLeadingZeros_0f7a4_74 rfl (lv_at hl 0 rfl) ?_
            refine lv_iconst (v := 1) C.x C.b dJ6_numberOfLeadingZeros_0f7a4_75 (by decide) ?_
            refine lv_iushr (v := (ush (ush (ush (ush x 16) 4) 2) 1)) C.x C.b dJ6_numberOfLeadingZeros_0f7a4_76 rfl ?_
            refine lv_isub C.x C.b dJ6_numberOfLeadingZeros_0f7a4_77 ?_
            exact r_iret C hr hlocks hS ⟨rfl, by simp only [nlzF, nlz1, nlz2, nlz3, nlz4, nlz5, c_1, c_2, c_10, c_11, c_13, not_true_eq_false, not_false_eq_true, and_true, true_and, and_false, false_and, and_self, or_true, or_false, true_or, false_or, ite_true, ite_false, if_true, if_false, ↓reduceIte, reduceCtorEq]⟩ dJ6_numberOfLeadingZeros_0f7a4_78
      · skip
        refine lv_iinc (v := ((31 + -16) + -8)) (lv' := [(1, .int ((31 + -16) + -8)), (0, .int (ush x 16))]) C.x C.b dJ6_numberOfLeadingZeros_0f7a4_40 hl (k := 1) rfl (rfl) (by decide) rfl (fun ls hl => ?_)
        refine lv_iload_n C.x C.b dJ6_numberOfLeadingZeros_0f7a4_43 rfl (lv_at hl 1 rfl) ?_
        refine lv_bipush (v := 8) C.x C.b dJ6_numberOfLeadingZeros_0f7a4_44 (by decide) ?_
        refine lv_iushr (v := (ush (ush x 16) 8)) C.x C.b dJ6_numberOfLeadingZeros_0f7a4_46 rfl ?_
        refine lv_istore_n (lv' := [(0, .int (ush (ush x 16) 8)), (1, .int ((31 + -16) + -8))]) C.x C.b dJ6_numberOfLeadingZeros_0f7a4_47 rfl hl (by decide) rfl (fun ls hl => ?_)
        refine lv_iload_n C.x C.b dJ6_numberOfLeadingZeros_0f7a4_48 rfl (lv_at hl 0 rfl) ?_
        refine lv_bipush (v := 16) C.x C.b dJ6_numberOfLeadingZeros_0f7a4_49 (by decide) ?_
        refine lv_icmp_lt (tgt := 61) C.x C.b dJ6_numberOfLeadingZeros_0f7a4_51 (by decide) (fun c_14 => ?_) (fun c_14 => ?_)
        · skip
          refine lv_iload_n C.x C.b dJ6_numberOfLeadingZeros_0f7a4_61 rfl (lv_at hl 0 rfl) ?_
          refine lv_iconst (v := 4) C.x C.b dJ6_numberOfLeadingZeros_0f7a4_62 (by decide) ?_
          refine lv_icmp_lt (tgt := 73) C.x C.b dJ6_numberOfLeadingZeros_0f7a4_63 (by decide) (fun c_15 => ?_) (fun c_15 => ?_)
          · skip
            refine lv_iload_n C.x C.b dJ6_numberOfLeadingZeros_0f7a4_73 rfl (lv_at hl 1 rfl) ?_
            refine lv_iload_n C.x C.b dJ6_numberOfLeadingZeros_0f7a4_74 rfl (lv_at hl 0 rfl) ?_
            refine lv_iconst (v := 1) C.x C.b dJ6_numberOfLeadingZeros_0f7a4_75 (by decide) ?_
            refine lv_iushr (v := (ush (ush (ush x 16) 8) 1)) C.x C.b dJ6_numberOfLeadingZeros_0f7a4_76 rfl ?_
            refine lv_isub C.x C.b dJ6_numberOfLeadingZeros_0f7a4_77 ?_
            exact r_iret C hr hlocks hS ⟨rfl, by simp only [nlzF, nlz1, nlz2, nlz3, nlz4, nlz5, c_1, c_2, c_10, c_14, c_15, not_true_eq_false, not_false_eq_true, and_true, true_and, and_false, false_and, and_self, or_true, or_false, true_or, false_or, ite_true, ite_false, if_true, if_false, ↓reduceIte, reduceCtorEq]⟩ dJ6_numberOfLeadingZeros_0f7a4_78
          · skip
            refine lv_iinc (v := (((31 + -16) + -8) + -2)) (lv' := [(1, .int (((31 + -16) + -8) + -2)), (0, .int (ush (ush x 16) 8))]) C.x C.b dJ6_numberOfLeadingZeros_0f7a4_66 hl (k := 1) rfl (rfl) (by decide) rfl (fun ls hl => ?_)
            refine lv_iload_n C.x C.b dJ6_numberOfLeadingZeros_0f7a4_69 rfl (lv_at hl 1 rfl) ?_
            refine lv_iconst (v := 2) C.x C.b dJ6_numberOfLeadingZeros_0f7a4_70 (by decide) ?_
            refine lv_iushr (v := (ush (ush (ush x 16) 8) 2)) C.x C.b dJ6_numberOfLeadingZeros_0f7a4_71 rfl ?_
            refine lv_istore_n (lv' := [(0, .int (ush (ush (ush x 16) 8) 2)), (1, .int (((31 + -16) + -8) + -2))]) C.x C.b dJ6_numberOfLeadingZeros_0f7a4_72 rfl hl (by decide) rfl (fun ls hl => ?_)
            refine lv_iload_n C.x C.b dJ6_numberOfLeadingZeros_0f7a4_73 rfl (lv_at hl 1 rfl) ?_
            refine lv_iload_n C.x C.b dJ6_numberOfLeadingZeros_0f7a4_74 rfl (lv_at hl 0 rfl) ?_
            refine lv_iconst (v := 1) C.x C.b dJ6_numberOfLeadingZeros_0f7a4_75 (by decide) ?_
            refine lv_iushr (v := (ush (ush (ush (ush x 16) 8) 2) 1)) C.x C.b dJ6_numberOfLeadingZeros_0f7a4_76 rfl ?_
            refine lv_isub C.x C.b dJ6_numberOfLeadingZeros_0f7a4_77 ?_
            exact r_iret C hr hlocks hS ⟨rfl, by simp only [nlzF, nlz1, nlz2, nlz3, nlz4, nlz5, c_1, c_2, c_10, c_14, c_15, not_true_eq_false, not_false_eq_true, and_true, true_and, and_false, false_and, and_self, or_true, or_false, true_or, false_or, ite_true, ite_false, if_true, if_false, ↓reduceIte, reduceCtorEq]⟩ dJ6_numberOfLeadingZeros_0f7a4_78
        · skip
          refine lv_iinc (v := (((31 + -16) + -8) + -4)) (lv' := [(1, .int (((31 + -16) + -8) + -4)), (0, .int (ush (ush x 16) 8))]) C.x C.b dJ6_numberOfLeadingZeros_0f7a4_54 hl (k := 1) rfl (rfl) (by decide) rfl (fun ls hl => ?_)
          refine lv_iload_n C.x C.b dJ6_numberOfLeadingZeros_0f7a4_57 rfl (lv_at hl 1 rfl) ?_
          refine lv_iconst (v := 4) C.x C.b dJ6_numberOfLeadingZeros_0f7a4_58 (by decide) ?_
          refine lv_iushr (v := (ush (ush (ush x 16) 8) 4)) C.x C.b dJ6_numberOfLeadingZeros_0f7a4_59 rfl ?_
          refine lv_istore_n (lv' := [(0, .int (ush (ush (ush x 16) 8) 4)), (1, .int (((31 + -16) + -8) + -4))]) C.x C.b dJ6_numberOfLeadingZeros_0f7a4_60 rfl hl (by decide) rfl (fun ls hl => ?_)
          refine lv_iload_n C.x C.b dJ6_numberOfLeadingZeros_0f7a4_61 rfl (lv_at hl 0 rfl) ?_
          refine lv_iconst (v := 4) C.x C.b dJ6_numberOfLeadingZeros_0f7a4_62 (by decide) ?_
          refine lv_icmp_lt (tgt := 73) C.x C.b dJ6_numberOfLeadingZeros_0f7a4_63 (by decide) (fun c_16 => ?_) (fun c_16 => ?_)
          · skip
            refine lv_iload_n C.x C.b dJ6_numberOfLeadingZeros_0f7a4_73 rfl (lv_at hl 1 rfl) ?_
            refine lv_iload_n C.x C.b dJ6_numberOfLeadingZeros_0f7a4_74 rfl (lv_at hl 0 rfl) ?_
            refine lv_iconst (v := 1) C.x C.b dJ6_numberOfLeadingZeros_0f7a4_75 (by decide) ?_
            refine lv_iushr (v := (ush (ush (ush (ush x 16) 8) 4) 1)) C.x C.b dJ6_numberOfLeadingZeros_0f7a4_76 rfl ?_
            refine lv_isub C.x C.b dJ6_numberOfLeadingZeros_0f7a4_77 ?_
            exact r_iret C hr hlocks hS ⟨rfl, by simp only [nlzF, nlz1, nlz2, nlz3, nlz4, nlz5, c_1, c_2, c_10, c_14, c_16, not_true_eq_false, not_false_eq_true, and_true, true_and, and_false, false_and, and_self, or_true, or_false, true_or, false_or, ite_true, ite_false, if_true, if_false, ↓reduceIte, reduceCtorEq]⟩ dJ6_numberOfLeadingZeros_0f7a4_78
          · skip
            refine lv_iinc (v := ((((31 + -16) + -8) + -4) + -2)) (lv' := [(1, .int ((((31 + -16) + -8) + -4) + -2)), (0, .int (ush (ush (ush x 16) 8) 4))]) C.x C.b dJ6_numberOfLeadingZeros_0f7a4_66 hl (k := 1) rfl (rfl) (by decide) rfl (fun ls hl => ?_)
            refine lv_iload_n C.x C.b dJ6_numberOfLeadingZeros_0f7a4_69 rfl (lv_at hl 1 rfl) ?_
            refine lv_iconst (v := 2) C.x C.b dJ6_numberOfLeadingZeros_0f7a4_70 (by decide) ?_
            refine lv_iushr (v := (ush (ush (ush (ush x 16) 8) 4) 2)) C.x C.b dJ6_numberOfLeadingZeros_0f7a4_71 rfl ?_
            refine lv_istore_n (lv' := [(0, .int (ush (ush (ush (ush x 16) 8) 4) 2)), (1, .int ((((31 + -16) + -8) + -4) + -2))]) C.x C.b dJ6_numberOfLeadingZeros_0f7a4_72 rfl hl (by decide) rfl (fun ls hl => ?_)
            refine lv_iload_n C.x C.b dJ6_numberOfLeadingZeros_0f7a4_73 rfl (lv_at hl 1 rfl) ?_
            refine lv_iload_n C.x C.b dJ6_numberOfLeadingZeros_0f7a4_74 rfl (lv_at hl 0 rfl) ?_
            refine lv_iconst (v := 1) C.x C.b dJ6_numberOfLeadingZeros_0f7a4_75 (by decide) ?_
            refine lv_iushr (v := (ush (ush (ush (ush (ush x 16) 8) 4) 2) 1)) C.x C.b dJ6_numberOfLeadingZeros_0f7a4_76 rfl ?_
            refine lv_isub C.x C.b dJ6_numberOfLeadingZeros_0f7a4_77 ?_
            exact r_iret C hr hlocks hS ⟨rfl, by simp only [nlzF, nlz1, nlz2, nlz3, nlz4, nlz5, c_1, c_2, c_10, c_14, c_16, not_true_eq_false, not_false_eq_true, and_true, true_and, and_false, false_and, and_self, or_true, or_false, true_or, false_or, ite_true, ite_false, if_true, if_false, ↓reduceIte, reduceCtorEq]⟩ dJ6_numberOfLeadingZeros_0f7a4_78
  · skip
    refine lv_iload_n C.x C.b dJ6_numberOfLeadingZeros_0f7a4_4 rfl (lv_at hl 0 rfl) ?_
    refine lv_if_ne (tgt := 13) C.x C.b dJ6_numberOfLeadingZeros_0f7a4_5 (by decide) (fun c_17 => ?_) (fun c_17 => ?_)
    · skip
      refine lv_iconst (v := 0) C.x C.b dJ6_numberOfLeadingZeros_0f7a4_13 (by decide) ?_
      exact r_iret C hr hlocks hS ⟨rfl, by simp only [nlzF, nlz1, nlz2, nlz3, nlz4, nlz5, c_1, c_17, not_true_eq_false, not_false_eq_true, and_true, true_and, and_false, false_and, and_self, or_true, or_false, true_or, false_or, ite_true, ite_false, if_true, if_false, ↓reduceIte, reduceCtorEq]⟩ dJ6_numberOfLeadingZeros_0f7a4_14
    · skip
      refine lv_bipush (v := 32) C.x C.b dJ6_numberOfLeadingZeros_0f7a4_8 (by decide) ?_
      refine lv_goto (tgt := 14) C.x C.b dJ6_numberOfLeadingZeros_0f7a4_10 (by decide) ?_
      exact r_iret C hr hlocks hS ⟨rfl, by rw [c_17]; decide⟩ dJ6_numberOfLeadingZeros_0f7a4_14
set_option maxHeartbeats 1000000 in
set_option maxRecDepth 100000 in
theorem c_X1_bitsOf (l : Launch) (D : va_G) (t : Gx) (B N : Nat) (g : Nat → va_E) (x : Int32)  : Ci l D t B N yX1_bitsOf cX1_bitsOf 1 (some .int) 1 21 g [.int x] (fun r g' => g = g' ∧ r = 32 - nlzF x) := by
  refine Ci.start (by decide) (Nat.le_of_ble_eq_true rfl) ?_
  intro p e s m below meth c ls C hr hlocks hS hl
  replace C : Cx D t p s m [.int x].toArray c cX1_bitsOf 1 RX1 := C
  replace hl : lv_has ls 1 [(0, .int x)] := hl
  refine lv_bipush (v := 32) C.x C.b dX1_bitsOf_0 (by decide) ?_
  refine lv_iload_n C.x C.b dX1_bitsOf_2 rfl (lv_at hl 0 rfl) ?_
  refine r_callS (As := [.int x]) (rest := [.int 32]) (c_J6_numberOfLeadingZeros_0f7a4 l D t B N g x) mf_yJ6_numberOfLeadingZeros_0f7a4 mlX1_93 sm_yJ6_numberOfLeadingZeros_0f7a4 (by decide) C hS rfl hl.1 rfl (Nat.le_of_ble_eq_true rfl) dX1_bitsOf_3 ⟨Nat.zero_le _, Nat.zero_le _⟩ (fun r_3 g_1 H locs w_2 hS => ?_)
  obtain ⟨rfl, er_3⟩ := w_2
  subst er_3
  refine lv_isub C.x C.b dX1_bitsOf_6 ?_
  exact r_iret C hr hlocks hS ⟨rfl, rfl⟩ dX1_bitsOf_7
set_option maxHeartbeats 1000000 in
set_option maxRecDepth 100000 in
theorem c_X1_next (l : Launch) (D : va_G) (t : Gx) (B N : Nat) (g : Nat → va_E) (rg mm : Nat → Int32) (pt : Int32) (kd a c0 : Int32) (h6 : 8 < N) (hM : isMach t B g 6 rg mm pt) : Ci l D t B N yX1_next cX1_next 4 (some .int) 0 0 g [.ref (B + 6), .int kd, .int a, .int c0] (fun r g' => g = g' ∧ r = nextF kd a c0 pt) := by
  refine Ci.start (by decide) (Nat.le_of_ble_eq_true rfl) ?_
  intro p e s m below meth c ls C hr hlocks hS hl
  replace C : Cx D t p s m [.ref (B + 6), .int kd, .int a, .int c0].toArray c cX1_next 4 RX1 := C
  replace hl : lv_has ls 4 [(0, .ref (B + 6)), (1, .int kd), (2, .int a), (3, .int c0)] := hl
  obtain ⟨e0, e1, e2⟩ := hM
  refine lv_iload_n C.x C.b dX1_next_0 rfl (lv_at hl 1 rfl) ?_
  by_cases h_1 : kd = 0
  · refine lv_lookup (off := 35) (tgt := 36) C.x C.b dX1_next_1 (by decide) (by rw [h_1]; decide) (by decide) ?_
    refine lv_iconst (v := (-1)) C.x C.b dX1_next_36 (by decide) ?_
    exact r_iret C hr hlocks hS ⟨rfl, by rw [nextF, if_pos h_1]⟩ dX1_next_37
  by_cases h_2 : kd = 7
  · refine lv_lookup (off := 37) (tgt := 38) C.x C.b dX1_next_1 (by decide) (by rw [h_2]; decide) (by decide) ?_
    refine lv_iload_n C.x C.b dX1_next_38 rfl (lv_at hl 2 rfl) ?_
    refine lv_if_ne (tgt := 46) C.x C.b dX1_next_39 (by decide) (fun c_3 => ?_) (fun c_3 => ?_)
    · skip
      refine lv_aload_n C.x C.b dX1_next_46 rfl (lv_at hl 0 rfl) ?_
      refine r_get ck1 flX1_18 C hS (by omega) e0 (by decide) rfl dX1_next_47 ?_
      refine lv_iconst (v := 1) C.x C.b dX1_next_50 (by decide) ?_
      refine lv_iadd C.x C.b dX1_next_51 ?_
      exact r_iret C hr hlocks hS ⟨rfl, by rw [nextF, if_neg h_1, if_pos h_2, if_neg c_3]⟩ dX1_next_52
    · skip
      refine lv_iload_n C.x C.b dX1_next_42 rfl (lv_at hl 3 rfl) ?_
      refine lv_goto (tgt := 52) C.x C.b dX1_next_43 (by decide) ?_
      exact r_iret C hr hlocks hS ⟨rfl, by rw [nextF, if_neg h_1, if_pos h_2, if_pos c_3]⟩ dX1_next_52
  by_cases h_4 : kd = 8
  · refine lv_lookup (off := 52) (tgt := 53) C.x C.b dX1_next_1 (by decide) (by rw [h_4]; decide) (by decide) ?_
    refine lv_iload_n C.x C.b dX1_next_53 rfl (lv_at hl 3 rfl) ?_
    exact r_iret C hr hlocks hS ⟨rfl, by rw [nextF, if_neg h_1, if_neg h_2, if_pos h_4]⟩ dX1_next_54
  refine lv_lookup (off := 54) (tgt := 55) C.x C.b dX1_next_1 (by decide) (by show Op.lookupswitch.offset [(0, 35), (7, 37), (8, 52)] 54 _ = 54; rw [lv_osw h_1 (by decide), lv_osw h_2 (by decide), lv_osw h_4 (by decide)]; rfl) (by decide) ?_
  refine lv_aload_n C.x C.b dX1_next_55 rfl (lv_at hl 0 rfl) ?_
  refine r_get ck1 flX1_18 C hS (by omega) e0 (by decide) rfl dX1_next_56 ?_
  refine lv_iconst (v := 1) C.x C.b dX1_next_59 (by decide) ?_
  refine lv_iadd C.x C.b dX1_next_60 ?_
  exact r_iret C hr hlocks hS ⟨rfl, by rw [nextF, if_neg h_1, if_neg h_2, if_neg h_4]⟩ dX1_next_61
set_option maxHeartbeats 1000000 in
set_option maxRecDepth 100000 in
theorem c_X1_work (l : Launch) (D : va_G) (t : Gx) (B N : Nat) (g : Nat → va_E) (rg mm : Nat → Int32) (pt : Int32) (kd : Int32) (a : Nat) (b c0 : Int32) (h6 : 8 < N) (hM : isMach t B g 6 rg mm pt) (ha : a < 4) : Cv l D t B N N 0 0 yX1_work cX1_work 5 0 0 g [.ref (B + 6), .int kd, .int (nI a), .int b, .int c0] (fun g' => isMach t B g' 6 (workR kd a b c0 rg mm) (workM kd a b rg mm) pt ∧ ∀ j, (j < 6 ∨ 8 < j) → g' j = g j) := by
  refine Cv.start (by decide) (Nat.le_of_ble_eq_true rfl) ?_
  intro p e s m below meth c ls C hr hlocks hnm hS hl
  replace C : Cx D t p s m [.ref (B + 6), .int kd, .int (nI a), .int b, .int c0].toArray c cX1_work 5 RX1 := C
  replace hl : lv_has ls 5 [(0, .ref (B + 6)), (1, .int kd), (2, .int (nI a)), (3, .int b), (4, .int c0)] := hl
  obtain ⟨e0, e1, e2⟩ := hM
  refine lv_iload_n C.x C.b dX1_work_0 rfl (lv_at hl 1 rfl) ?_
  by_cases h_1 : kd = 1
  · refine lv_tableIn (off := 51) (tgt := 52) C.x C.b dX1_work_1 (by rw [h_1]; decide) (by rw [h_1]; decide) (by rw [h_1]; rfl) (by decide) ?_
    refine lv_aload_n C.x C.b dX1_work_52 rfl (lv_at hl 0 rfl) ?_
    refine r_get ck1 flX1_9 C hS (by omega) e0 (by decide) rfl dX1_work_53 ?_
    refine lv_iload_n C.x C.b dX1_work_56 rfl (lv_at hl 2 rfl) ?_
    refine lv_iload C.x C.b dX1_work_57 (lv_at hl 4 rfl) ?_
    refine r_iastN a rfl ha (by decide) C hS (by omega) e1 dX1_work_59 (fun g_2 H locs e_3 o_4 hS => ?_)
    replace e_3 : g_2 (6 + 1) = .inl (t.1, 4, .inl (upd rg a c0)) := e_3
    refine lv_goto (tgt := 160) C.x C.b dX1_work_60 (by decide) ?_
    have e_5 : g_2 6 = .inr (1, [.ref (B + (6 + 1)), .ref (B + (6 + 2)), .int pt]) := (o_4 _ (by omega)).trans e0
    have e_6 : g_2 (6 + 2) = .inl (t.1, 8, .inl mm) := (o_4 _ (by omega)).trans e2
    exact r_vret C hr hlocks hS ⟨by rw [workR, workM, if_pos h_1, if_neg (show ¬ kd = 6 by rw [h_1]; decide)]; exact ⟨e_5, e_3, e_6⟩, fun j hj => (o_4 j (by omega))⟩ dX1_work_160
  by_cases h_7 : kd = 2
  · refine lv_tableIn (off := 62) (tgt := 63) C.x C.b dX1_work_1 (by rw [h_7]; decide) (by rw [h_7]; decide) (by rw [h_7]; rfl) (by decide) ?_
    refine lv_aload_n C.x C.b dX1_work_63 rfl (lv_at hl 0 rfl) ?_
    refine r_get ck1 flX1_9 C hS (by omega) e0 (by decide) rfl dX1_work_64 ?_
    refine lv_iload_n C.x C.b dX1_work_67 rfl (lv_at hl 2 rfl) ?_
    refine lv_dup2_11 C.x C.b dX1_work_68 rfl rfl ?_
    refine r_ialdN a rfl ha (by decide) C hS (by omega) e1 dX1_work_69 ?_
    refine lv_iload_n C.x C.b dX1_work_70 rfl (lv_at hl 3 rfl) ?_
    refine lv_iadd C.x C.b dX1_work_71 ?_
    refine r_iastN a rfl ha (by decide) C hS (by omega) e1 dX1_work_72 (fun g_8 H locs e_9 o_10 hS => ?_)
    replace e_9 : g_8 (6 + 1) = .inl (t.1, 4, .inl (upd rg a ((rg a) + b))) := e_9
    refine lv_goto (tgt := 160) C.x C.b dX1_work_73 (by decide) ?_
    have e_11 : g_8 6 = .inr (1, [.ref (B + (6 + 1)), .ref (B + (6 + 2)), .int pt]) := (o_10 _ (by omega)).trans e0
    have e_12 : g_8 (6 + 2) = .inl (t.1, 8, .inl mm) := (o_10 _ (by omega)).trans e2
    exact r_vret C hr hlocks hS ⟨by rw [workR, workM, if_neg h_1, if_pos h_7, if_neg (show ¬ kd = 6 by rw [h_7]; decide)]; exact ⟨e_11, e_9, e_12⟩, fun j hj => (o_10 j (by omega))⟩ dX1_work_160
  by_cases h_13 : kd = 3
  · refine lv_tableIn (off := 75) (tgt := 76) C.x C.b dX1_work_1 (by rw [h_13]; decide) (by rw [h_13]; decide) (by rw [h_13]; rfl) (by decide) ?_
    refine lv_aload_n C.x C.b dX1_work_76 rfl (lv_at hl 0 rfl) ?_
    refine r_get ck1 flX1_9 C hS (by omega) e0 (by decide) rfl dX1_work_77 ?_
    refine lv_iload_n C.x C.b dX1_work_80 rfl (lv_at hl 2 rfl) ?_
    refine lv_dup2_11 C.x C.b dX1_work_81 rfl rfl ?_
    refine r_ialdN a rfl ha (by decide) C hS (by omega) e1 dX1_work_82 ?_
    refine lv_iload_n C.x C.b dX1_work_83 rfl (lv_at hl 3 rfl) ?_
    refine lv_ixor C.x C.b dX1_work_84 ?_
    refine r_iastN a rfl ha (by decide) C hS (by omega) e1 dX1_work_85 (fun g_14 H locs e_15 o_16 hS => ?_)
    replace e_15 : g_14 (6 + 1) = .inl (t.1, 4, .inl (upd rg a ((rg a) ^^^ b))) := e_15
    refine lv_goto (tgt := 160) C.x C.b dX1_work_86 (by decide) ?_
    have e_17 : g_14 6 = .inr (1, [.ref (B + (6 + 1)), .ref (B + (6 + 2)), .int pt]) := (o_16 _ (by omega)).trans e0
    have e_18 : g_14 (6 + 2) = .inl (t.1, 8, .inl mm) := (o_16 _ (by omega)).trans e2
    exact r_vret C hr hlocks hS ⟨by rw [workR, workM, if_neg h_1, if_neg h_7, if_pos h_13, if_neg (show ¬ kd = 6 by rw [h_13]; decide)]; exact ⟨e_17, e_15, e_18⟩, fun j hj => (o_16 j (by omega))⟩ dX1_work_160
  by_cases h_19 : kd = 4
  · refine lv_tableIn (off := 88) (tgt := 89) C.x C.b dX1_work_1 (by rw [h_19]; decide) (by rw [h_19]; decide) (by rw [h_19]; rfl) (by decide) ?_
    refine lv_aload_n C.x C.b dX1_work_89 rfl (lv_at hl 0 rfl) ?_
    refine r_get ck1 flX1_9 C hS (by omega) e0 (by decide) rfl dX1_work_90 ?_
    refine lv_iload_n C.x C.b dX1_work_93 rfl (lv_at hl 2 rfl) ?_
    refine lv_dup2_11 C.x C.b dX1_work_94 rfl rfl ?_
    refine r_ialdN a rfl ha (by decide) C hS (by omega) e1 dX1_work_95 ?_
    refine lv_iload_n C.x C.b dX1_work_96 rfl (lv_at hl 3 rfl) ?_
    refine lv_imul C.x C.b dX1_work_97 ?_
    refine r_iastN a rfl ha (by decide) C hS (by omega) e1 dX1_work_98 (fun g_20 H locs e_21 o_22 hS => ?_)
    replace e_21 : g_20 (6 + 1) = .inl (t.1, 4, .inl (upd rg a ((rg a) * b))) := e_21
    refine lv_goto (tgt := 160) C.x C.b dX1_work_99 (by decide) ?_
    have e_23 : g_20 6 = .inr (1, [.ref (B + (6 + 1)), .ref (B + (6 + 2)), .int pt]) := (o_22 _ (by omega)).trans e0
    have e_24 : g_20 (6 + 2) = .inl (t.1, 8, .inl mm) := (o_22 _ (by omega)).trans e2
    exact r_vret C hr hlocks hS ⟨by rw [workR, workM, if_neg h_1, if_neg h_7, if_neg h_13, if_pos h_19, if_neg (show ¬ kd = 6 by rw [h_19]; decide)]; exact ⟨e_23, e_21, e_24⟩, fun j hj => (o_22 j (by omega))⟩ dX1_work_160
  by_cases h_25 : kd = 5
  · refine lv_tableIn (off := 101) (tgt := 102) C.x C.b dX1_work_1 (by rw [h_25]; decide) (by rw [h_25]; decide) (by rw [h_25]; rfl) (by decide) ?_
    refine lv_aload_n C.x C.b dX1_work_102 rfl (lv_at hl 0 rfl) ?_
    refine r_get ck1 flX1_9 C hS (by omega) e0 (by decide) rfl dX1_work_103 ?_
    refine lv_iload_n C.x C.b dX1_work_106 rfl (lv_at hl 2 rfl) ?_
    refine lv_aload_n C.x C.b dX1_work_107 rfl (lv_at hl 0 rfl) ?_
    refine r_get ck1 flX1_15 C hS (by omega) e0 (by decide) rfl dX1_work_108 ?_
    refine lv_iload_n C.x C.b dX1_work_111 rfl (lv_at hl 3 rfl) ?_
    refine lv_bipush (v := 7) C.x C.b dX1_work_112 (by decide) ?_
    refine lv_iand C.x C.b dX1_work_114 ?_
    refine r_ialdN (lo3 b) (lo3_eq b) (lo3_lt b) (by decide) C hS (by omega) e2 dX1_work_115 ?_
    refine r_iastN a rfl ha (by decide) C hS (by omega) e1 dX1_work_116 (fun g_26 H locs e_27 o_28 hS => ?_)
    replace e_27 : g_26 (6 + 1) = .inl (t.1, 4, .inl (upd rg a (mm (lo3 b)))) := e_27
    refine lv_goto (tgt := 160) C.x C.b dX1_work_117 (by decide) ?_
    have e_29 : g_26 6 = .inr (1, [.ref (B + (6 + 1)), .ref (B + (6 + 2)), .int pt]) := (o_28 _ (by omega)).trans e0
    have e_30 : g_26 (6 + 2) = .inl (t.1, 8, .inl mm) := (o_28 _ (by omega)).trans e2
    exact r_vret C hr hlocks hS ⟨by rw [workR, workM, if_neg h_1, if_neg h_7, if_neg h_13, if_neg h_19, if_pos h_25, if_neg (show ¬ kd = 6 by rw [h_25]; decide)]; exact ⟨e_29, e_27, e_30⟩, fun j hj => (o_28 j (by omega))⟩ dX1_work_160
  by_cases h_31 : kd = 6
  · refine lv_tableIn (off := 119) (tgt := 120) C.x C.b dX1_work_1 (by rw [h_31]; decide) (by rw [h_31]; decide) (by rw [h_31]; rfl) (by decide) ?_
    refine lv_aload_n C.x C.b dX1_work_120 rfl (lv_at hl 0 rfl) ?_
    refine r_get ck1 flX1_15 C hS (by omega) e0 (by decide) rfl dX1_work_121 ?_
    refine lv_iload_n C.x C.b dX1_work_124 rfl (lv_at hl 3 rfl) ?_
    refine lv_bipush (v := 7) C.x C.b dX1_work_125 (by decide) ?_
    refine lv_iand C.x C.b dX1_work_127 ?_
    refine lv_aload_n C.x C.b dX1_work_128 rfl (lv_at hl 0 rfl) ?_
    refine r_get ck1 flX1_9 C hS (by omega) e0 (by decide) rfl dX1_work_129 ?_
    refine lv_iload_n C.x C.b dX1_work_132 rfl (lv_at hl 2 rfl) ?_
    refine r_ialdN a rfl ha (by decide) C hS (by omega) e1 dX1_work_133 ?_
    refine r_iastN (lo3 b) (lo3_eq b) (lo3_lt b) (by decide) C hS (by omega) e2 dX1_work_134 (fun g_32 H locs e_33 o_34 hS => ?_)
    replace e_33 : g_32 (6 + 2) = .inl (t.1, 8, .inl (upd mm (lo3 b) (rg a))) := e_33
    refine lv_goto (tgt := 160) C.x C.b dX1_work_135 (by decide) ?_
    have e_35 : g_32 6 = .inr (1, [.ref (B + (6 + 1)), .ref (B + (6 + 2)), .int pt]) := (o_34 _ (by omega)).trans e0
    have e_36 : g_32 (6 + 1) = .inl (t.1, 4, .inl rg) := (o_34 _ (by omega)).trans e1
    exact r_vret C hr hlocks hS ⟨by rw [workR, workM, if_neg h_1, if_neg h_7, if_neg h_13, if_neg h_19, if_neg h_25, if_neg (show ¬ kd = 9 by rw [h_31]; decide), if_pos h_31]; exact ⟨e_35, e_36, e_33⟩, fun j hj => (o_34 j (by omega))⟩ dX1_work_160
  by_cases h_37 : kd = 7
  · refine lv_tableIn (off := 159) (tgt := 160) C.x C.b dX1_work_1 (by rw [h_37]; decide) (by rw [h_37]; decide) (by rw [h_37]; rfl) (by decide) ?_
    exact r_vret C hr hlocks hS ⟨by rw [workR, workM, if_neg h_1, if_neg h_7, if_neg h_13, if_neg h_19, if_neg h_25, if_neg (show ¬ kd = 9 by rw [h_37]; decide), if_neg h_31]; exact ⟨e0, e1, e2⟩, fun _ _ => rfl⟩ dX1_work_160
  by_cases h_38 : kd = 8
  · refine lv_tableIn (off := 159) (tgt := 160) C.x C.b dX1_work_1 (by rw [h_38]; decide) (by rw [h_38]; decide) (by rw [h_38]; rfl) (by decide) ?_
    exact r_vret C hr hlocks hS ⟨by rw [workR, workM, if_neg h_1, if_neg h_7, if_neg h_13, if_neg h_19, if_neg h_25, if_neg (show ¬ kd = 9 by rw [h_38]; decide), if_neg h_31]; exact ⟨e0, e1, e2⟩, fun _ _ => rfl⟩ dX1_work_160
  by_cases h_39 : kd = 9
  · refine lv_tableIn (off := 137) (tgt := 138) C.x C.b dX1_work_1 (by rw [h_39]; decide) (by rw [h_39]; decide) (by rw [h_39]; rfl) (by decide) ?_
    refine lv_aload_n C.x C.b dX1_work_138 rfl (lv_at hl 0 rfl) ?_
    refine r_get ck1 flX1_9 C hS (by omega) e0 (by decide) rfl dX1_work_139 ?_
    refine lv_iload_n C.x C.b dX1_work_142 rfl (lv_at hl 2 rfl) ?_
    refine lv_dup2_11 C.x C.b dX1_work_143 rfl rfl ?_
    refine r_ialdN a rfl ha (by decide) C hS (by omega) e1 dX1_work_144 ?_
    refine lv_iload_n C.x C.b dX1_work_145 rfl (lv_at hl 3 rfl) ?_
    refine lv_if_eq (tgt := 154) C.x C.b dX1_work_146 (by decide) (fun c_40 => ?_) (fun c_40 => ?_)
    · skip
      refine lv_iconst (v := 0) C.x C.b dX1_work_154 (by decide) ?_
      refine lv_iadd C.x C.b dX1_work_155 ?_
      refine r_iastN a rfl ha (by decide) C hS (by omega) e1 dX1_work_156 (fun g_41 H locs e_42 o_43 hS => ?_)
      replace e_42 : g_41 (6 + 1) = .inl (t.1, 4, .inl (upd rg a ((rg a) + 0))) := e_42
      refine lv_goto (tgt := 160) C.x C.b dX1_work_157 (by decide) ?_
      have e_44 : g_41 6 = .inr (1, [.ref (B + (6 + 1)), .ref (B + (6 + 2)), .int pt]) := (o_43 _ (by omega)).trans e0
      have e_45 : g_41 (6 + 2) = .inl (t.1, 8, .inl mm) := (o_43 _ (by omega)).trans e2
      exact r_vret C hr hlocks hS ⟨by rw [workR, workM, if_neg h_1, if_neg h_7, if_neg h_13, if_neg h_19, if_neg h_25, if_pos h_39, if_pos c_40, if_neg h_31]; exact ⟨e_44, e_42, e_45⟩, fun j hj => (o_43 j (by omega))⟩ dX1_work_160
    · skip
      refine lv_iload C.x C.b dX1_work_149 (lv_at hl 4 rfl) ?_
      refine lv_goto (tgt := 155) C.x C.b dX1_work_151 (by decide) ?_
      refine lv_iadd C.x C.b dX1_work_155 ?_
      refine r_iastN a rfl ha (by decide) C hS (by omega) e1 dX1_work_156 (fun g_46 H locs e_47 o_48 hS => ?_)
      replace e_47 : g_46 (6 + 1) = .inl (t.1, 4, .inl (upd rg a ((rg a) + c0))) := e_47
      refine lv_goto (tgt := 160) C.x C.b dX1_work_157 (by decide) ?_
      have e_49 : g_46 6 = .inr (1, [.ref (B + (6 + 1)), .ref (B + (6 + 2)), .int pt]) := (o_48 _ (by omega)).trans e0
      have e_50 : g_46 (6 + 2) = .inl (t.1, 8, .inl mm) := (o_48 _ (by omega)).trans e2
      exact r_vret C hr hlocks hS ⟨by rw [workR, workM, if_neg h_1, if_neg h_7, if_neg h_13, if_neg h_19, if_neg h_25, if_pos h_39, if_neg c_40, if_neg h_31]; exact ⟨e_49, e_47, e_50⟩, fun j hj => (o_48 j (by omega))⟩ dX1_work_160
  refine lv_tableOut (tgt := 160) C.x C.b dX1_work_1 (sw_out_1_9 h_1 h_7 h_13 h_19 h_25 h_31 h_37 h_38 h_39) (by decide) ?_
  exact r_vret C hr hlocks hS ⟨by rw [workR, workM, if_neg h_1, if_neg h_7, if_neg h_13, if_neg h_19, if_neg h_25, if_neg h_39, if_neg h_31]; exact ⟨e0, e1, e2⟩, fun _ _ => rfl⟩ dX1_work_160
set_option maxHeartbeats 1000000 in
set_option maxRecDepth 100000 in
theorem c_X1_begin (l : Launch) (D : va_G) (t : Gx) (B N : Nat) (g : Nat → va_E) (rg mm : Nat → Int32) (pt : Int32) (o pr w : Nat → Int32) (n : Nat) (op se : Int32) (h6 : 8 < N) (hM : isMach t B g 6 rg mm pt) (hP : isProg t B g 1 o pr w n) : Cv l D t B N N 0 0 yX1_begin cX1_begin 5 0 0 g [.ref (B + 6), .ref (B + 1), .int op, .int se] (fun g' => isMach t B g' 6 (rg0 rg op se) (cpF w mm 8) 0 ∧ ∀ j, (j < 6 ∨ 8 < j) → g' j = g j) := by
  refine Cv.start (by decide) (Nat.le_of_ble_eq_true rfl) ?_
  intro p e s m below meth c ls C hr hlocks hnm hS hl
  replace C : Cx D t p s m [.ref (B + 6), .ref (B + 1), .int op, .int se].toArray c cX1_begin 5 RX1 := C
  replace hl : lv_has ls 5 [(0, .ref (B + 6)), (1, .ref (B + 1)), (2, .int op), (3, .int se)] := hl
  obtain ⟨e0, e1, e2⟩ := hM
  obtain ⟨p0, p1, p2, p3⟩ := hP
  refine lv_aload_n C.x C.b dX1_begin_0 rfl (lv_at hl 0 rfl) ?_
  refine lv_iconst (v := 0) C.x C.b dX1_begin_1 (by decide) ?_
  refine r_put ck1 flX1_18 C hS (by omega) e0 (by decide) rfl rfl rfl (Nat.le_of_ble_eq_true rfl) dX1_begin_2 (fun g_1 H locs e_2 o_3 hS => ?_)
  replace e_2 : g_1 6 = .inr (1, [.ref (B + (6 + 1)), .ref (B + (6 + 2)), .int 0]) := e_2
  refine lv_aload_n C.x C.b dX1_begin_5 rfl (lv_at hl 0 rfl) ?_
  refine r_get ck1 flX1_9 C hS (by omega) e_2 (by decide) rfl dX1_begin_6 ?_
  refine lv_iconst (v := 0) C.x C.b dX1_begin_9 (by decide) ?_
  refine lv_iload_n C.x C.b dX1_begin_10 rfl (lv_at hl 2 rfl) ?_
  refine lv_iconst (v := 3) C.x C.b dX1_begin_11 (by decide) ?_
  refine lv_iand C.x C.b dX1_begin_12 ?_
  have e_4 : g_1 (6 + 1) = .inl (t.1, 4, .inl rg) := (o_3 _ (by omega)).trans e1
  refine r_iastN 0 rfl (by omega) (by decide) C hS (by omega) e_4 dX1_begin_13 (fun g_5 H locs e_6 o_7 hS => ?_)
  replace e_6 : g_5 (6 + 1) = .inl (t.1, 4, .inl (upd rg 0 (op &&& 3))) := e_6
  refine lv_aload_n C.x C.b dX1_begin_14 rfl (lv_at hl 0 rfl) ?_
  have e_8 : g_5 6 = .inr (1, [.ref (B + (6 + 1)), .ref (B + (6 + 2)), .int 0]) := (o_7 _ (by omega)).trans e_2
  refine r_get ck1 flX1_9 C hS (by omega) e_8 (by decide) rfl dX1_begin_15 ?_
  refine lv_iconst (v := 1) C.x C.b dX1_begin_18 (by decide) ?_
  refine lv_iload_n C.x C.b dX1_begin_19 rfl (lv_at hl 2 rfl) ?_
  refine lv_iconst (v := 2) C.x C.b dX1_begin_20 (by decide) ?_
  refine lv_ishr C.x C.b dX1_begin_21 ?_
  refine lv_iconst (v := 3) C.x C.b dX1_begin_22 (by decide) ?_
  refine lv_iand C.x C.b dX1_begin_23 ?_
  refine r_iastN 1 rfl (by omega) (by decide) C hS (by omega) e_6 dX1_begin_24 (fun g_9 H locs e_10 o_11 hS => ?_)
  replace e_10 : g_9 (6 + 1) = .inl (t.1, 4, .inl (upd (upd rg 0 (op &&& 3)) 1 ((op >>> (2 &&& 31)) &&& 3))) := e_10
  refine lv_aload_n C.x C.b dX1_begin_25 rfl (lv_at hl 0 rfl) ?_
  have e_12 : g_9 6 = .inr (1, [.ref (B + (6 + 1)), .ref (B + (6 + 2)), .int 0]) := (o_11 _ (by omega)).trans e_8
  refine r_get ck1 flX1_9 C hS (by omega) e_12 (by decide) rfl dX1_begin_26 ?_
  refine lv_iconst (v := 2) C.x C.b dX1_begin_29 (by decide) ?_
  refine lv_iload_n C.x C.b dX1_begin_30 rfl (lv_at hl 3 rfl) ?_
  refine lv_iconst (v := 3) C.x C.b dX1_begin_31 (by decide) ?_
  refine lv_iand C.x C.b dX1_begin_32 ?_
  refine r_iastN 2 rfl (by omega) (by decide) C hS (by omega) e_10 dX1_begin_33 (fun g_13 H locs e_14 o_15 hS => ?_)
  replace e_14 : g_13 (6 + 1) = .inl (t.1, 4, .inl (upd (upd (upd rg 0 (op &&& 3)) 1 ((op >>> (2 &&& 31)) &&& 3)) 2 (se &&& 3))) := e_14
  refine lv_aload_n C.x C.b dX1_begin_34 rfl (lv_at hl 0 rfl) ?_
  have e_16 : g_13 6 = .inr (1, [.ref (B + (6 + 1)), .ref (B + (6 + 2)), .int 0]) := (o_15 _ (by omega)).trans e_12
  refine r_get ck1 flX1_9 C hS (by omega) e_16 (by decide) rfl dX1_begin_35 ?_
  refine lv_iconst (v := 3) C.x C.b dX1_begin_38 (by decide) ?_
  refine lv_iload_n C.x C.b dX1_begin_39 rfl (lv_at hl 3 rfl) ?_
  refine lv_iconst (v := 2) C.x C.b dX1_begin_40 (by decide) ?_
  refine lv_ishr C.x C.b dX1_begin_41 ?_
  refine lv_iconst (v := 3) C.x C.b dX1_begin_42 (by decide) ?_
  refine lv_iand C.x C.b dX1_begin_43 ?_
  refine r_iastN 3 rfl (by omega) (by decide) C hS (by omega) e_14 dX1_begin_44 (fun g_17 H locs e_18 o_19 hS => ?_)
  replace e_18 : g_17 (6 + 1) = .inl (t.1, 4, .inl (upd (upd (upd (upd rg 0 (op &&& 3)) 1 ((op >>> (2 &&& 31)) &&& 3)) 2 (se &&& 3)) 3 ((se >>> (2 &&& 31)) &&& 3))) := e_18
  refine lv_iconst (v := 0) C.x C.b dX1_begin_45 (by decide) ?_
  refine lv_istore (lv' := [(4, .int 0), (0, .ref (B + 6)), (1, .ref (B + 1)), (2, .int op), (3, .int se)]) C.x C.b dX1_begin_46 hl (by decide) rfl (fun ls hl => ?_)
  have lp_20 : ∀ (u_21 k_22 : Nat) (g_26 : Nat → va_E) (H : Heap) (locs : List Loc) (ls : Array Slot), k_22 + u_21 = 8 → (g_26 (6 + 2) = .inl (t.1, 8, .inl (cpF w mm k_22))) → (∀ j, (j ≠ 6 + 2) → g_26 j = g_17 j) → St D B s.heap N g_26 H locs → lv_has ls 5 [(0, .ref (B + 6)), (1, .ref (B + 1)), (2, .int op), (3, .int se), (4, .int (nI k_22))] → W p l e (rmOf 0 0 0 0) s m [.ref (B + 6), .ref (B + 1), .int op, .int se].toArray below meth c H locs 0 0 (MQ below (qV D B N (fun g' => isMach t B g' 6 (rg0 rg op se) (cpF w mm 8) 0 ∧ ∀ j, (j < 6 ∨ 8 < j) → g' j = g j)) [.ref (B + 6), .ref (B + 1), .int op, .int se].toArray s 0 0 (fun q => B ≤ q)) (F0 m 48 ls []) := by
    intro u_21
    induction u_21 with
    | zero =>
      intro k_22 g_26 H locs ls hk_23 e_27 hf_25 hS hl
      obtain rfl : 8 = k_22 := by omega
      refine lv_iload C.x C.b dX1_begin_48 (lv_at hl 4 rfl) ?_
      refine lv_bipush (v := 8) C.x C.b dX1_begin_50 (by decide) ?_
      refine lv_icmp_ge (tgt := 75) C.x C.b dX1_begin_52 (by decide) (fun c_28 => ?_) (fun c_28 => absurd (by decide) c_28)
      have e_29 : g_17 6 = .inr (1, [.ref (B + (6 + 1)), .ref (B + (6 + 2)), .int 0]) := (o_19 _ (by omega)).trans e_16
      have e_30 : g_26 6 = .inr (1, [.ref (B + (6 + 1)), .ref (B + (6 + 2)), .int 0]) := (hf_25 _ (by omega)).trans e_29
      have e_31 : g_26 (6 + 1) = .inl (t.1, 4, .inl (upd (upd (upd (upd rg 0 (op &&& 3)) 1 ((op >>> (2 &&& 31)) &&& 3)) 2 (se &&& 3)) 3 ((se >>> (2 &&& 31)) &&& 3))) := (hf_25 _ (by omega)).trans e_18
      exact r_vret C hr hlocks hS ⟨⟨e_30, e_31, e_27⟩, fun j hj => (hf_25 j (by omega)).trans ((o_19 j (by omega)).trans ((o_15 j (by omega)).trans ((o_11 j (by omega)).trans ((o_7 j (by omega)).trans (o_3 j (by omega))))))⟩ dX1_begin_75
    | succ u_21 ih_24 =>
      intro k_22 g_26 H locs ls hk_23 e_27 hf_25 hS hl
      refine lv_iload C.x C.b dX1_begin_48 (lv_at hl 4 rfl) ?_
      refine lv_bipush (v := 8) C.x C.b dX1_begin_50 (by decide) ?_
      refine lv_icmp_ge (tgt := 75) C.x C.b dX1_begin_52 (by decide) (fun c_32 => absurd c_32 (nI_ge (a := k_22) (b := 8) (by omega) (by decide))) (fun c_32 => ?_)
      refine lv_aload_n C.x C.b dX1_begin_55 rfl (lv_at hl 0 rfl) ?_
      have e_33 : g_17 6 = .inr (1, [.ref (B + (6 + 1)), .ref (B + (6 + 2)), .int 0]) := (o_19 _ (by omega)).trans e_16
      have e_34 : g_26 6 = .inr (1, [.ref (B + (6 + 1)), .ref (B + (6 + 2)), .int 0]) := (hf_25 _ (by omega)).trans e_33
      refine r_get ck1 flX1_15 C hS (by omega) e_34 (by decide) rfl dX1_begin_56 ?_
      refine lv_iload C.x C.b dX1_begin_59 (lv_at hl 4 rfl) ?_
      refine lv_aload_n C.x C.b dX1_begin_61 rfl (lv_at hl 1 rfl) ?_
      have e_35 : g_1 1 = .inr (3, [.ref (B + (1 + 1)), .ref (B + (1 + 2)), .ref (B + (1 + 3)), .int (nI n)]) := (o_3 _ (by omega)).trans p0
      have e_36 : g_5 1 = .inr (3, [.ref (B + (1 + 1)), .ref (B + (1 + 2)), .ref (B + (1 + 3)), .int (nI n)]) := (o_7 _ (by omega)).trans e_35
      have e_37 : g_9 1 = .inr (3, [.ref (B + (1 + 1)), .ref (B + (1 + 2)), .ref (B + (1 + 3)), .int (nI n)]) := (o_11 _ (by omega)).trans e_36
      have e_38 : g_13 1 = .inr (3, [.ref (B + (1 + 1)), .ref (B + (1 + 2)), .ref (B + (1 + 3)), .int (nI n)]) := (o_15 _ (by omega)).trans e_37
      have e_39 : g_17 1 = .inr (3, [.ref (B + (1 + 1)), .ref (B + (1 + 2)), .ref (B + (1 + 3)), .int (nI n)]) := (o_19 _ (by omega)).trans e_38
      have e_40 : g_26 1 = .inr (3, [.ref (B + (1 + 1)), .ref (B + (1 + 2)), .ref (B + (1 + 3)), .int (nI n)]) := (hf_25 _ (by omega)).trans e_39
      refine r_get ck3 flX1_56 C hS (by omega) e_40 (by decide) rfl dX1_begin_62 ?_
      refine lv_iload C.x C.b dX1_begin_65 (lv_at hl 4 rfl) ?_
      have e_41 : g_1 (1 + 3) = .inl (t.1, 8, .inl w) := (o_3 _ (by omega)).trans p3
      have e_42 : g_5 (1 + 3) = .inl (t.1, 8, .inl w) := (o_7 _ (by omega)).trans e_41
      have e_43 : g_9 (1 + 3) = .inl (t.1, 8, .inl w) := (o_11 _ (by omega)).trans e_42
      have e_44 : g_13 (1 + 3) = .inl (t.1, 8, .inl w) := (o_15 _ (by omega)).trans e_43
      have e_45 : g_17 (1 + 3) = .inl (t.1, 8, .inl w) := (o_19 _ (by omega)).trans e_44
      have e_46 : g_26 (1 + 3) = .inl (t.1, 8, .inl w) := (hf_25 _ (by omega)).trans e_45
      refine r_ialdN k_22 rfl (by omega) (by decide) C hS (by omega) e_46 dX1_begin_67 ?_
      refine r_iastN k_22 rfl (by omega) (by decide) C hS (by omega) e_27 dX1_begin_68 (fun g_47 H locs e_48 o_49 hS => ?_)
      replace e_48 : g_47 (6 + 2) = .inl (t.1, 8, .inl (upd (cpF w mm k_22) k_22 (w k_22))) := e_48
      refine lv_iinc (v := nI (k_22 + 1)) (lv' := [(4, .int (nI (k_22 + 1))), (0, .ref (B + 6)), (1, .ref (B + 1)), (2, .int op), (3, .int se)]) C.x C.b dX1_begin_69 hl (k := 4) rfl (nI_1 k_22) (by decide) rfl (fun ls hl => ?_)
      refine lv_goto (tgt := 48) C.x C.b dX1_begin_72 (by decide) ?_
      exact ih_24 (k_22 + 1) g_47 _ _ _ (by omega) e_48 (fun j hj => (o_49 j (by omega)).trans (hf_25 j hj)) hS (lv_sub hl [1, 2, 3, 4, 0] rfl)
  have e_50 : g_1 (6 + 2) = .inl (t.1, 8, .inl mm) := (o_3 _ (by omega)).trans e2
  have e_51 : g_5 (6 + 2) = .inl (t.1, 8, .inl mm) := (o_7 _ (by omega)).trans e_50
  have e_52 : g_9 (6 + 2) = .inl (t.1, 8, .inl mm) := (o_11 _ (by omega)).trans e_51
  have e_53 : g_13 (6 + 2) = .inl (t.1, 8, .inl mm) := (o_15 _ (by omega)).trans e_52
  have e_54 : g_17 (6 + 2) = .inl (t.1, 8, .inl mm) := (o_19 _ (by omega)).trans e_53
  exact lp_20 8 0 g_17 _ _ _ (by omega) e_54 (fun _ _ => rfl) hS (lv_sub hl [1, 2, 3, 4, 0] rfl)
set_option maxHeartbeats 1000000 in
set_option maxRecDepth 100000 in
theorem c_X1_tellOf (l : Launch) (D : va_G) (t : Gx) (B N : Nat) (g : Nat → va_E) (rg mm : Nat → Int32) (pt : Int32) (ey wi ev : Int32) (i : Nat) (ep ew en ct ec : Nat → Int32) (len : Nat) (st vi an sp : Int32) (kd a b : Int32) (h6 : 8 < N) (hM : isMach t B g 6 rg mm pt) (hW : isWat g 5 ey wi ev) (h9 : 9 ≤ i) (hi : i + 5 < N) (hR : isRun t B g i ep ew en ct ec len st vi an sp) (hn : len < 40) : Cv l D t B N N 0 0 yX1_tellOf cX1_tellOf 7 1 23 g [.ref (B + 6), .int kd, .int a, .int b, .ref (B + 5), .ref (B + i)] (fun g' => isRun t B g' i (tuf (tlc kd ey wi) ep len pt) (tuf (tlc kd ey wi) ew len (what (tlc kd ey wi))) (tuf (tlc kd ey wi) en len (tnum (tlc kd ey wi) a b wi)) ct ec (tln (tlc kd ey wi) len) st vi an sp ∧ ∀ j, (j < i ∨ i + 5 < j) → g' j = g j) := by
  refine Cv.start (by decide) (Nat.le_of_ble_eq_true rfl) ?_
  intro p e s m below meth c ls C hr hlocks hnm hS hl
  replace C : Cx D t p s m [.ref (B + 6), .int kd, .int a, .int b, .ref (B + 5), .ref (B + i)].toArray c cX1_tellOf 7 RX1 := C
  replace hl : lv_has ls 7 [(0, .ref (B + 6)), (1, .int kd), (2, .int a), (3, .int b), (4, .ref (B + 5)), (5, .ref (B + i))] := hl
  obtain ⟨e0, e1, e2⟩ := hM
  obtain ⟨r0, r1, r2, r3, r4, r5⟩ := hR
  refine lv_iload_n C.x C.b dX1_tellOf_0 rfl (lv_at hl 1 rfl) ?_
  refine lv_iconst (v := 5) C.x C.b dX1_tellOf_1 (by decide) ?_
  refine lv_icmp_eq (tgt := 11) C.x C.b dX1_tellOf_2 (by decide) (fun c_1 => ?_) (fun c_1 => ?_)
  · skip
    refine lv_iconst (v := 1) C.x C.b dX1_tellOf_11 (by decide) ?_
    refine lv_goto (tgt := 16) C.x C.b dX1_tellOf_12 (by decide) ?_
    refine lv_istore (lv' := [(6, .int 1), (0, .ref (B + 6)), (1, .int kd), (2, .int a), (3, .int b), (4, .ref (B + 5)), (5, .ref (B + i))]) C.x C.b dX1_tellOf_16 hl (by decide) rfl (fun ls hl => ?_)
    refine lv_iload C.x C.b dX1_tellOf_18 (lv_at hl 0 rfl) ?_
    refine lv_if_eq (tgt := 61) C.x C.b dX1_tellOf_20 (by decide) (fun c_2 => absurd c_2 (by decide)) (fun c_2 => ?_)
    refine lv_aload C.x C.b dX1_tellOf_23 (lv_at hl 5 rfl) ?_
    refine r_get ck6 flX1_81 C hS (by omega) hW (by decide) rfl dX1_tellOf_25 ?_
    refine lv_iconst (v := 2) C.x C.b dX1_tellOf_28 (by decide) ?_
    refine lv_iand C.x C.b dX1_tellOf_29 ?_
    refine lv_if_eq (tgt := 61) C.x C.b dX1_tellOf_30 (by decide) (fun c_3 => ?_) (fun c_3 => ?_)
    · skip
      refine lv_iload_n C.x C.b dX1_tellOf_61 rfl (lv_at hl 2 rfl) ?_
      refine lv_bipush (v := 7) C.x C.b dX1_tellOf_62 (by decide) ?_
      refine lv_icmp_ne (tgt := 96) C.x C.b dX1_tellOf_64 (by decide) (fun c_4 => ?_) (fun c_4 => absurd c_4 (show ¬ kd = 7 by rw [c_1]; decide))
      have hw_5 : tlc kd ey wi = 0 := (if_neg (fun q => q.2.1 c_3)).trans (if_neg (fun q => absurd q.1 (show ¬ kd = 7 by rw [c_1]; decide)))
      exact r_vret C hr hlocks hS ⟨by rw [hw_5]; exact ⟨r0, r1, r2, r3, r4, r5⟩, fun _ _ => rfl⟩ dX1_tellOf_96
    · skip
      refine lv_aload C.x C.b dX1_tellOf_33 (lv_at hl 5 rfl) ?_
      refine r_get ck6 flX1_86 C hS (by omega) hW (by decide) rfl dX1_tellOf_35 ?_
      refine lv_if_le (tgt := 61) C.x C.b dX1_tellOf_38 (by decide) (fun c_6 => ?_) (fun c_6 => ?_)
      · skip
        refine lv_iload_n C.x C.b dX1_tellOf_61 rfl (lv_at hl 2 rfl) ?_
        refine lv_bipush (v := 7) C.x C.b dX1_tellOf_62 (by decide) ?_
        refine lv_icmp_ne (tgt := 96) C.x C.b dX1_tellOf_64 (by decide) (fun c_7 => ?_) (fun c_7 => absurd c_7 (show ¬ kd = 7 by rw [c_1]; decide))
        have hw_8 : tlc kd ey wi = 0 := (if_neg (fun q => q.2.2 c_6)).trans (if_neg (fun q => absurd q.1 (show ¬ kd = 7 by rw [c_1]; decide)))
        exact r_vret C hr hlocks hS ⟨by rw [hw_8]; exact ⟨r0, r1, r2, r3, r4, r5⟩, fun _ _ => rfl⟩ dX1_tellOf_96
      · skip
        refine lv_aload C.x C.b dX1_tellOf_41 (lv_at hl 6 rfl) ?_
        refine lv_aload_n C.x C.b dX1_tellOf_43 rfl (lv_at hl 1 rfl) ?_
        refine r_get ck1 flX1_18 C hS (by omega) e0 (by decide) rfl dX1_tellOf_44 ?_
        refine lv_iconst (v := 2) C.x C.b dX1_tellOf_47 (by decide) ?_
        refine lv_iload_n C.x C.b dX1_tellOf_48 rfl (lv_at hl 4 rfl) ?_
        refine lv_bipush (v := 7) C.x C.b dX1_tellOf_49 (by decide) ?_
        refine lv_iand C.x C.b dX1_tellOf_51 ?_
        refine lv_aload C.x C.b dX1_tellOf_52 (lv_at hl 5 rfl) ?_
        refine r_get ck6 flX1_86 C hS (by omega) hW (by decide) rfl dX1_tellOf_54 ?_
        refine lv_idiv C.x C.b dX1_tellOf_57 (fun q => c_6 (by rw [q]; decide)) ?_
        refine r_callVv (b := i) (As := [.int pt, .int 2, .int ((b &&& 7) / wi)]) (rest := []) (c_X5_tell l D t B N g i _ _ _ _ _ _ _ _ _ _ pt 2 ((b &&& 7) / wi) (by omega) ⟨r0, r1, r2, r3, r4, r5⟩ (by omega)) mf_yX5_tell mlX1_89 im_yX5_tell se_yX5_tell (by decide) C hS (by omega) r0 (show vwCl[5]? = some _ from rfl) rfl rfl hl.1 rfl (Nat.le_of_ble_eq_true rfl) dX1_tellOf_58 ⟨Nat.zero_le _, Nat.zero_le _⟩ (fun g_9 H locs w_10 hS => ?_)
        obtain ⟨⟨e_12, e_13, e_14, e_15, e_16, e_17⟩, hf_18⟩ := w_10
        refine lv_iload_n C.x C.b dX1_tellOf_61 rfl (lv_at hl 2 rfl) ?_
        refine lv_bipush (v := 7) C.x C.b dX1_tellOf_62 (by decide) ?_
        refine lv_icmp_ne (tgt := 96) C.x C.b dX1_tellOf_64 (by decide) (fun c_19 => ?_) (fun c_19 => absurd c_19 (show ¬ kd = 7 by rw [c_1]; decide))
        have hw_20 : tlc kd ey wi = 1 := if_pos ⟨Or.inl c_1, c_3, c_6⟩
        exact r_vret C hr hlocks hS ⟨by rw [hw_20]; exact ⟨e_12, e_13, e_14, e_15, e_16, e_17⟩, fun j hj => (hf_18 j (by omega))⟩ dX1_tellOf_96
  · skip
    refine lv_iload_n C.x C.b dX1_tellOf_5 rfl (lv_at hl 1 rfl) ?_
    refine lv_bipush (v := 6) C.x C.b dX1_tellOf_6 (by decide) ?_
    refine lv_icmp_ne (tgt := 15) C.x C.b dX1_tellOf_8 (by decide) (fun c_21 => ?_) (fun c_21 => ?_)
    · skip
      refine lv_iconst (v := 0) C.x C.b dX1_tellOf_15 (by decide) ?_
      refine lv_istore (lv' := [(6, .int 0), (0, .ref (B + 6)), (1, .int kd), (2, .int a), (3, .int b), (4, .ref (B + 5)), (5, .ref (B + i))]) C.x C.b dX1_tellOf_16 hl (by decide) rfl (fun ls hl => ?_)
      refine lv_iload C.x C.b dX1_tellOf_18 (lv_at hl 0 rfl) ?_
      refine lv_if_eq (tgt := 61) C.x C.b dX1_tellOf_20 (by decide) (fun c_22 => ?_) (fun c_22 => absurd (by decide) c_22)
      refine lv_iload_n C.x C.b dX1_tellOf_61 rfl (lv_at hl 2 rfl) ?_
      refine lv_bipush (v := 7) C.x C.b dX1_tellOf_62 (by decide) ?_
      refine lv_icmp_ne (tgt := 96) C.x C.b dX1_tellOf_64 (by decide) (fun c_23 => ?_) (fun c_23 => ?_)
      · skip
        have hw_24 : tlc kd ey wi = 0 := (if_neg (fun q => q.1.elim c_1 c_21)).trans (if_neg (fun q => c_23 q.1))
        exact r_vret C hr hlocks hS ⟨by rw [hw_24]; exact ⟨r0, r1, r2, r3, r4, r5⟩, fun _ _ => rfl⟩ dX1_tellOf_96
      · skip
        refine lv_aload C.x C.b dX1_tellOf_67 (lv_at hl 5 rfl) ?_
        refine r_get ck6 flX1_81 C hS (by omega) hW (by decide) rfl dX1_tellOf_69 ?_
        refine lv_iconst (v := 4) C.x C.b dX1_tellOf_72 (by decide) ?_
        refine lv_iand C.x C.b dX1_tellOf_73 ?_
        refine lv_if_eq (tgt := 96) C.x C.b dX1_tellOf_74 (by decide) (fun c_25 => ?_) (fun c_25 => ?_)
        · skip
          have hw_26 : tlc kd ey wi = 0 := (if_neg (fun q => q.1.elim c_1 c_21)).trans (if_neg (fun q => q.2 c_25))
          exact r_vret C hr hlocks hS ⟨by rw [hw_26]; exact ⟨r0, r1, r2, r3, r4, r5⟩, fun _ _ => rfl⟩ dX1_tellOf_96
        · skip
          refine lv_aload C.x C.b dX1_tellOf_77 (lv_at hl 6 rfl) ?_
          refine lv_aload_n C.x C.b dX1_tellOf_79 rfl (lv_at hl 1 rfl) ?_
          refine r_get ck1 flX1_18 C hS (by omega) e0 (by decide) rfl dX1_tellOf_80 ?_
          refine lv_iconst (v := 4) C.x C.b dX1_tellOf_83 (by decide) ?_
          refine lv_iload_n C.x C.b dX1_tellOf_84 rfl (lv_at hl 3 rfl) ?_
          refine lv_if_ne (tgt := 92) C.x C.b dX1_tellOf_85 (by decide) (fun c_27 => ?_) (fun c_27 => ?_)
          · skip
            refine lv_iconst (v := 0) C.x C.b dX1_tellOf_92 (by decide) ?_
            refine r_callVv (b := i) (As := [.int pt, .int 4, .int 0]) (rest := []) (c_X5_tell l D t B N g i _ _ _ _ _ _ _ _ _ _ pt 4 0 (by omega) ⟨r0, r1, r2, r3, r4, r5⟩ (by omega)) mf_yX5_tell mlX1_89 im_yX5_tell se_yX5_tell (by decide) C hS (by omega) r0 (show vwCl[5]? = some _ from rfl) rfl rfl hl.1 rfl (Nat.le_of_ble_eq_true rfl) dX1_tellOf_93 ⟨Nat.zero_le _, Nat.zero_le _⟩ (fun g_28 H locs w_29 hS => ?_)
            obtain ⟨⟨e_31, e_32, e_33, e_34, e_35, e_36⟩, hf_37⟩ := w_29
            have hw_38 : tlc kd ey wi = 2 := (if_neg (fun q => q.1.elim c_1 c_21)).trans (if_pos ⟨c_23, c_25⟩)
            have z_39 : tnum 2 a b wi = 0 := if_neg c_27
            exact r_vret C hr hlocks hS ⟨by rw [hw_38, z_39]; exact ⟨e_31, e_32, e_33, e_34, e_35, e_36⟩, fun j hj => (hf_37 j (by omega))⟩ dX1_tellOf_96
          · skip
            refine lv_iconst (v := 1) C.x C.b dX1_tellOf_88 (by decide) ?_
            refine lv_goto (tgt := 93) C.x C.b dX1_tellOf_89 (by decide) ?_
            refine r_callVv (b := i) (As := [.int pt, .int 4, .int 1]) (rest := []) (c_X5_tell l D t B N g i _ _ _ _ _ _ _ _ _ _ pt 4 1 (by omega) ⟨r0, r1, r2, r3, r4, r5⟩ (by omega)) mf_yX5_tell mlX1_89 im_yX5_tell se_yX5_tell (by decide) C hS (by omega) r0 (show vwCl[5]? = some _ from rfl) rfl rfl hl.1 rfl (Nat.le_of_ble_eq_true rfl) dX1_tellOf_93 ⟨Nat.zero_le _, Nat.zero_le _⟩ (fun g_40 H locs w_41 hS => ?_)
            obtain ⟨⟨e_43, e_44, e_45, e_46, e_47, e_48⟩, hf_49⟩ := w_41
            have hw_50 : tlc kd ey wi = 2 := (if_neg (fun q => q.1.elim c_1 c_21)).trans (if_pos ⟨c_23, c_25⟩)
            have z_51 : tnum 2 a b wi = 1 := if_pos c_27
            exact r_vret C hr hlocks hS ⟨by rw [hw_50, z_51]; exact ⟨e_43, e_44, e_45, e_46, e_47, e_48⟩, fun j hj => (hf_49 j (by omega))⟩ dX1_tellOf_96
    · skip
      refine lv_iconst (v := 1) C.x C.b dX1_tellOf_11 (by decide) ?_
      refine lv_goto (tgt := 16) C.x C.b dX1_tellOf_12 (by decide) ?_
      refine lv_istore (lv' := [(6, .int 1), (0, .ref (B + 6)), (1, .int kd), (2, .int a), (3, .int b), (4, .ref (B + 5)), (5, .ref (B + i))]) C.x C.b dX1_tellOf_16 hl (by decide) rfl (fun ls hl => ?_)
      refine lv_iload C.x C.b dX1_tellOf_18 (lv_at hl 0 rfl) ?_
      refine lv_if_eq (tgt := 61) C.x C.b dX1_tellOf_20 (by decide) (fun c_52 => absurd c_52 (by decide)) (fun c_52 => ?_)
      refine lv_aload C.x C.b dX1_tellOf_23 (lv_at hl 5 rfl) ?_
      refine r_get ck6 flX1_81 C hS (by omega) hW (by decide) rfl dX1_tellOf_25 ?_
      refine lv_iconst (v := 2) C.x C.b dX1_tellOf_28 (by decide) ?_
      refine lv_iand C.x C.b dX1_tellOf_29 ?_
      refine lv_if_eq (tgt := 61) C.x C.b dX1_tellOf_30 (by decide) (fun c_53 => ?_) (fun c_53 => ?_)
      · skip
        refine lv_iload_n C.x C.b dX1_tellOf_61 rfl (lv_at hl 2 rfl) ?_
        refine lv_bipush (v := 7) C.x C.b dX1_tellOf_62 (by decide) ?_
        refine lv_icmp_ne (tgt := 96) C.x C.b dX1_tellOf_64 (by decide) (fun c_54 => ?_) (fun c_54 => absurd c_54 (show ¬ kd = 7 by rw [c_21]; decide))
        have hw_55 : tlc kd ey wi = 0 := (if_neg (fun q => q.2.1 c_53)).trans (if_neg (fun q => absurd q.1 (show ¬ kd = 7 by rw [c_21]; decide)))
        exact r_vret C hr hlocks hS ⟨by rw [hw_55]; exact ⟨r0, r1, r2, r3, r4, r5⟩, fun _ _ => rfl⟩ dX1_tellOf_96
      · skip
        refine lv_aload C.x C.b dX1_tellOf_33 (lv_at hl 5 rfl) ?_
        refine r_get ck6 flX1_86 C hS (by omega) hW (by decide) rfl dX1_tellOf_35 ?_
        refine lv_if_le (tgt := 61) C.x C.b dX1_tellOf_38 (by decide) (fun c_56 => ?_) (fun c_56 => ?_)
        · skip
          refine lv_iload_n C.x C.b dX1_tellOf_61 rfl (lv_at hl 2 rfl) ?_
          refine lv_bipush (v := 7) C.x C.b dX1_tellOf_62 (by decide) ?_
          refine lv_icmp_ne (tgt := 96) C.x C.b dX1_tellOf_64 (by decide) (fun c_57 => ?_) (fun c_57 => absurd c_57 (show ¬ kd = 7 by rw [c_21]; decide))
          have hw_58 : tlc kd ey wi = 0 := (if_neg (fun q => q.2.2 c_56)).trans (if_neg (fun q => absurd q.1 (show ¬ kd = 7 by rw [c_21]; decide)))
          exact r_vret C hr hlocks hS ⟨by rw [hw_58]; exact ⟨r0, r1, r2, r3, r4, r5⟩, fun _ _ => rfl⟩ dX1_tellOf_96
        · skip
          refine lv_aload C.x C.b dX1_tellOf_41 (lv_at hl 6 rfl) ?_
          refine lv_aload_n C.x C.b dX1_tellOf_43 rfl (lv_at hl 1 rfl) ?_
          refine r_get ck1 flX1_18 C hS (by omega) e0 (by decide) rfl dX1_tellOf_44 ?_
          refine lv_iconst (v := 2) C.x C.b dX1_tellOf_47 (by decide) ?_
          refine lv_iload_n C.x C.b dX1_tellOf_48 rfl (lv_at hl 4 rfl) ?_
          refine lv_bipush (v := 7) C.x C.b dX1_tellOf_49 (by decide) ?_
          refine lv_iand C.x C.b dX1_tellOf_51 ?_
          refine lv_aload C.x C.b dX1_tellOf_52 (lv_at hl 5 rfl) ?_
          refine r_get ck6 flX1_86 C hS (by omega) hW (by decide) rfl dX1_tellOf_54 ?_
          refine lv_idiv C.x C.b dX1_tellOf_57 (fun q => c_56 (by rw [q]; decide)) ?_
          refine r_callVv (b := i) (As := [.int pt, .int 2, .int ((b &&& 7) / wi)]) (rest := []) (c_X5_tell l D t B N g i _ _ _ _ _ _ _ _ _ _ pt 2 ((b &&& 7) / wi) (by omega) ⟨r0, r1, r2, r3, r4, r5⟩ (by omega)) mf_yX5_tell mlX1_89 im_yX5_tell se_yX5_tell (by decide) C hS (by omega) r0 (show vwCl[5]? = some _ from rfl) rfl rfl hl.1 rfl (Nat.le_of_ble_eq_true rfl) dX1_tellOf_58 ⟨Nat.zero_le _, Nat.zero_le _⟩ (fun g_59 H locs w_60 hS => ?_)
          obtain ⟨⟨e_62, e_63, e_64, e_65, e_66, e_67⟩, hf_68⟩ := w_60
          refine lv_iload_n C.x C.b dX1_tellOf_61 rfl (lv_at hl 2 rfl) ?_
          refine lv_bipush (v := 7) C.x C.b dX1_tellOf_62 (by decide) ?_
          refine lv_icmp_ne (tgt := 96) C.x C.b dX1_tellOf_64 (by decide) (fun c_69 => ?_) (fun c_69 => absurd c_69 (show ¬ kd = 7 by rw [c_21]; decide))
          have hw_70 : tlc kd ey wi = 1 := if_pos ⟨Or.inr c_21, c_53, c_56⟩
          exact r_vret C hr hlocks hS ⟨by rw [hw_70]; exact ⟨e_62, e_63, e_64, e_65, e_66, e_67⟩, fun j hj => (hf_68 j (by omega))⟩ dX1_tellOf_96
