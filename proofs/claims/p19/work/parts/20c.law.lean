/-! THE CLAIM OUT OF ONE WALK OF THE LAW'S BODY. Your part is whole_start (and what it stands on); all else here is the same for every law, but numbers. -/
def R_law : String := "LoopTellsLaw"
def lw_P (b : Addr) (xs : List Int32) (args : Array Value) (s : State) : Prop := args = #[.ref b] ∧ s.IntsAt b xs ∧ xs.length ≤ 2560 ∧ (Jvm.Cond.and given_1 narrow_1).before args s = true
def lw_Q (_ : Array Value) (s : State) (o : Outcome) (t : State) : Prop := o = .returned (some (.int 1)) ∧ Framed s o t [] 600000 7302250
def lw_Z (below : List Frame) (a : Array Value) (s : State) : State → Prop := fun t => ∃ o, t.status = .running ∧ Ended t below o ∧ lw_Q a s o t
/-- the law's own end, with 1 on the stack, nothing written that was there before, its room as the claim has it -/
theorem lw_ret {p : Program} {l : Launch} {e : Env} {s : State} {m : MethodId} {below : List Frame} {meth : Method} {c : Code} {b : Nat} (hx : p.tables.exec = Jvm.exec) (hb : c.code = code) (hr : meth.sig.returnType = ret) (hlocks : meth.locks = false) {pc : Nat} {H : Heap} {ls : Array Slot} (hdg : decode code pc = .ok (.ireturn, 1)) : W p l e room_1 s m #[Value.ref b] below meth c H [] 600000 7302250 (lw_Z below #[Value.ref b] s) (F0 m pc ls [.int 1]) := by
  intro T hT X
  obtain ⟨fs, hret, hrun, hended, hW, hframe⟩ := X.leave (v := some (.int 1)) (hlocks := hlocks) (fun h => by rw [hr] at h; cases h)
  have hmeth' : T.vm.method? m = some meth := X.method'
  refine ⟨T.setFrames fs, ?_, .returned (some (.int 1)), hrun, hended, rfl, ⟨_, rfl⟩, hW, hframe⟩
  jvm_step X.here [X.here.top, hx, hb, hdg, hmeth', hr, ret, narrow_b1]
  (try refine ⟨rfl, ?_⟩); (try refine ⟨rfl, ?_⟩)
  first | (intro acts; rw [hret _ acts rfl rfl rfl]) | rw [hret _ _ rfl rfl rfl]
  exact Steps.refl _
/-- what holds at the law's entry: the machine, the code, the tables' words (any of lw_tbl by 'hts w (by decide +kernel)'), the script of L ints xs at the cell b, what the Statement gives of the start (any of its parts by flat_of_before) -/
def lw_At (p : Program) (s : State) (m : MethodId) (meth : Method) (c : Code) (b L : Nat) (xs : Nat → Int32) : Prop :=
  p.tables.exec = Jvm.exec ∧ c.code = code ∧ meth.sig.returnType = ret ∧ c.maxLocals = 4 ∧ s.vm.findClass R_law = some m.cls ∧ (∀ w ∈ lw_tbl, w.before #[Value.ref b] s = true) ∧ va_X b L xs s s.heap ∧ b < s.heap.size ∧ meth.locks = false ∧ (Jvm.Cond.and given_1 narrow_1).before #[Value.ref b] s = true
theorem law_go {i L : Nat} (hi : i ≤ L) (hL : L ≤ 2560) (q : ¬ (Int32.ofNat L - 5) < nI i) : i + 5 ≤ L := by
  rcases Nat.lt_or_ge L (i + 5) with h | h
  · refine absurd ?_ q
    have e : (Int32.ofNat L - 5).toInt = (L : Int) - 5 := by
      have e1 : (nI L).toInt = (L : Int) := nI_toInt (by omega)
      have e2 : (5 : Int32).toInt = 5 := rfl
      show (nI L - 5).toInt = _
      rw [Int32.toInt_sub, e1, e2]
      exact Int.bmod_eq_of_le (by omega) (by omega)
    rw [Int32.lt_iff_toInt_lt, e, nI_toInt (by omega)]
    omega
  · exact h
set_option maxHeartbeats 4000000 in
set_option maxRecDepth 100000 in
theorem law_loop {p : Program} {e : Env} {s : State} {m : MethodId} {below : List Frame} {meth : Method} {c : Code} (l : Launch) {D : va_G} {t : Gx} {B b L : Nat} {xs : Nat → Int32} (hC : LwC p s m c D t B b L xs) (hr : meth.sig.returnType = ret) (hlocks : meth.locks = false) (hB : s.heap.size ≤ B) :
    ∀ (u i : Nat) (g : Nat → va_E) (H : Heap) (locs : List Loc) (ls : Array Slot), i ≤ L → L + 1 ≤ i + u → LwK t B g → St D B s.heap 237 g H locs → lv_has ls 4 [(0, .ref b), (1, .ref (B + 0)), (2, .ref (B + 220)), (3, .int (nI i))] → W p l e room_1 s m #[.ref b] below meth c H locs 600000 7302250 (lw_Z below #[.ref b] s) (F0 m 18 ls []) := by
  intro u
  induction u with
  | zero =>
    intro i g H locs ls h1 h2
    exact absurd h2 (by omega)
  | succ u ih =>
    intro i g H locs ls hi hu hI hS hl
    obtain ⟨C, hX, hbl, hbB, hL⟩ := id hC
    have hbA : ¬ (fun q : Nat => B ≤ q) b := Nat.not_le.mpr hbB
    refine lv_iload_n C.x C.b dL_law_18 rfl (lv_at hl 3 rfl) ?_
    refine lv_aload_n C.x C.b dL_law_19 rfl (lv_at hl 0 rfl) ?_
    refine va_slen C.x C.b hX hbl hbA hS.2 dL_law_20 ?_
    refine lv_iconst (v := 5) C.x C.b dL_law_21 (by decide) ?_
    refine lv_isub C.x C.b dL_law_22 ?_
    refine lv_icmp_gt (tgt := 614) C.x C.b dL_law_23 (by decide) (fun q => ?_) (fun q => ?_)
    · refine lv_iconst (v := 1) C.x C.b dL_law_614 (by decide) ?_
      refine va_forget (fun q hq => Nat.le_trans hB (hS.2.2.2 q hq)) ?_
      exact lw_ret C.x C.b hr hlocks dL_law_615
    · have hin : i + 5 ≤ L := law_go hi hL q
      refine lv_aload_n C.x C.b dL_law_26 rfl (lv_at hl 0 rfl) ?_
      refine lv_iload_n C.x C.b dL_law_27 rfl (lv_at hl 3 rfl) ?_
      refine va_sld C.x C.b hX hbl hbA hS.2 (law_in0 hin hL) dL_law_28 ?_
      obtain ⟨k, hk, ek⟩ := pk_andE (xs (nI i).toNatClampNeg) (m := 31) 5 (by decide)
      refine lv_bipush (v := 31) C.x C.b dL_law_29 (by decide) ?_
      refine lv_iand C.x C.b dL_law_31 ?_
      refine r_top ek ?_
      have kk : ∀ (g2 : Nat → va_E) (H : Heap) (locs : List Loc) (ls : Array Slot), LwK t B g2 → St D B s.heap 237 g2 H locs → lv_has ls 4 [(0, .ref b), (1, .ref (B + 0)), (2, .ref (B + 220)), (3, .int (nI i))] → W p l e room_1 s m #[.ref b] below meth c H locs 600000 7302250 (lw_Z below #[.ref b] s) (F0 m 608 ls []) := by
        intro g2 H locs ls hI hS hl
        refine lv_iinc (v := nI (i + 5)) (lv' := [(3, .int (nI (i + 5))), (0, .ref b), (1, .ref (B + 0)), (2, .ref (B + 220))]) C.x C.b dL_law_608 hl (k := 3) rfl (nI_add i 5) (by decide) rfl (fun ls hl => ?_)
        refine lv_goto (tgt := 18) C.x C.b dL_law_611 (by decide) ?_
        exact ih (i + 5) g2 _ _ _ (by omega) (by omega) hI hS (lv_sub hl [1, 2, 3, 0] rfl)
      have hk2 : k < 32 := by omega
      rcases (show k = 0 ∨ k = 1 ∨ k = 2 ∨ k = 3 ∨ k = 4 ∨ k = 5 ∨ k = 6 ∨ k = 7 ∨ k = 8 ∨ k = 9 ∨ k = 10 ∨ k = 11 ∨ k = 12 ∨ k = 13 ∨ k = 14 ∨ k = 15 ∨ k = 16 ∨ k = 17 ∨ 18 ≤ k by omega) with rfl | rfl | rfl | rfl | rfl | rfl | rfl | rfl | rfl | rfl | rfl | rfl | rfl | rfl | rfl | rfl | rfl | rfl | h18
      · exact lv_tableIn (tgt := 120) (off := 88) C.x C.b dL_law_32 (by decide) (by decide) rfl rfl (lc_0 hC hin hI hS hl kk)
      · exact lv_tableIn (tgt := 143) (off := 111) C.x C.b dL_law_32 (by decide) (by decide) rfl rfl (lc_1 hC hin hI hS hl kk)
      · exact lv_tableIn (tgt := 176) (off := 144) C.x C.b dL_law_32 (by decide) (by decide) rfl rfl (lc_2 hC hin hI hS hl kk)
      · exact lv_tableIn (tgt := 187) (off := 155) C.x C.b dL_law_32 (by decide) (by decide) rfl rfl (lc_3 hC hin hI hS hl kk)
      · exact lv_tableIn (tgt := 220) (off := 188) C.x C.b dL_law_32 (by decide) (by decide) rfl rfl (lc_4 hC hin hI hS hl kk)
      · exact lv_tableIn (tgt := 253) (off := 221) C.x C.b dL_law_32 (by decide) (by decide) rfl rfl (lc_5 hC hin hI hS hl kk)
      · exact lv_tableIn (tgt := 302) (off := 270) C.x C.b dL_law_32 (by decide) (by decide) rfl rfl (lc_6 hC hin hI hS hl kk)
      · exact lv_tableIn (tgt := 335) (off := 303) C.x C.b dL_law_32 (by decide) (by decide) rfl rfl (lc_7 hC hin hI hS hl kk)
      · exact lv_tableIn (tgt := 358) (off := 326) C.x C.b dL_law_32 (by decide) (by decide) rfl rfl (lc_8 hC hin hI hS hl kk)
      · exact lv_tableIn (tgt := 401) (off := 369) C.x C.b dL_law_32 (by decide) (by decide) rfl rfl (lc_9 hC hin hI hS hl kk)
      · exact lv_tableIn (tgt := 454) (off := 422) C.x C.b dL_law_32 (by decide) (by decide) rfl rfl (lc_10 hC hin hI hS hl kk)
      · exact lv_tableIn (tgt := 477) (off := 445) C.x C.b dL_law_32 (by decide) (by decide) rfl rfl (lc_11 hC hin hI hS hl kk)
      · exact lv_tableIn (tgt := 510) (off := 478) C.x C.b dL_law_32 (by decide) (by decide) rfl rfl (lc_12 hC hin hI hS hl kk)
      · exact lv_tableIn (tgt := 523) (off := 491) C.x C.b dL_law_32 (by decide) (by decide) rfl rfl (lc_13 hC hin hI hS hl kk)
      · exact lv_tableIn (tgt := 536) (off := 504) C.x C.b dL_law_32 (by decide) (by decide) rfl rfl (lc_14 hC hin hI hS hl kk)
      · exact lv_tableIn (tgt := 559) (off := 527) C.x C.b dL_law_32 (by decide) (by decide) rfl rfl (lc_15 hC hin hI hS hl kk)
      · exact lv_tableIn (tgt := 582) (off := 550) C.x C.b dL_law_32 (by decide) (by decide) rfl rfl (lc_16 hC hin hI hS hl kk)
      · exact lv_tableIn (tgt := 595) (off := 563) C.x C.b dL_law_32 (by decide) (by decide) rfl rfl (lc_17 hC hin hI hS hl kk)
      · exact lv_tableOut (tgt := 608) C.x C.b dL_law_32 (Or.inr (by rw [nI_toInt (by omega)]; omega)) rfl (kk g _ _ ls hI hS hl)
set_option maxHeartbeats 4000000 in
set_option maxRecDepth 100000 in
theorem whole_start {p : Program} {e : Env} {s : State} {m : MethodId} {below : List Frame} {meth : Method} {c : Code} (l : Launch) {b L : Nat} {xs : Nat → Int32} (hL : L ≤ 2560) (C0 : lw_At p s m meth c b L xs) : W p l e room_1 s m #[Value.ref b] below meth c s.heap [] 0 0 (lw_Z below #[Value.ref b] s) (entryFrame m ([Value.ref b] : List Value).toArray 4) := by
  obtain ⟨hx, hb, hr, hml, hown, hts, hX, hbl, hlocks, hgv⟩ := C0
  have htg : ∀ w ∈ lw_good, w.before #[Value.ref b] s = true := fun w hw => hts w (lw_good_in hw).1
  obtain ⟨c0, iS0, hKn0⟩ := u_known (C := RX0) (T := TX0) (N := 5) (n := 5) htg ck0.2.1 (htg _ ins_X0)
  obtain ⟨c1, iS1, hKn1⟩ := u_known (C := RX1) (T := TX1) (N := 3) (n := 3) htg ck1.2.1 (htg _ ins_X1)
  obtain ⟨c2, iS2, hKn2⟩ := u_known (C := RX2) (T := TX2) (N := 4) (n := 4) htg ck2.2.1 (htg _ ins_X2)
  obtain ⟨c3, iS3, hKn3⟩ := u_known (C := RX3) (T := TX3) (N := 4) (n := 4) htg ck3.2.1 (htg _ ins_X3)
  obtain ⟨c4, iS4, hKn4⟩ := u_known (C := RX4) (T := TX4) (N := 4) (n := 4) htg ck4.2.1 (htg _ ins_X4)
  obtain ⟨c5, iS5, hKn5⟩ := u_known (C := RX5) (T := TX5) (N := 10) (n := 10) htg ck5.2.1 (htg _ ins_X5)
  obtain ⟨c6, iS6, hKn6⟩ := u_known (C := RX6) (T := TX6) (N := 3) (n := 3) htg ck6.2.1 (htg _ ins_X6)
  obtain ⟨c7, iS7, hKn7⟩ := u_known (C := RX7) (T := TX7) (N := 9) (n := 9) htg ck7.2.1 (htg _ ins_X7)
  obtain ⟨c8, iS8, hKn8⟩ := u_known (C := RX8) (T := TX8) (N := 23) (n := 23) htg ck8.2.1 (htg _ ins_X8)
  obtain ⟨dC, dI, hKc⟩ : ∃ (dC : Nat → ClassId) (dI : Nat → Nat → Nat), ∀ (k : Nat) (q : vw_C), vwCl[k]? = some q → u_Kn s q.1 q.2.1 q.2.2 (dC k) (dI k) := by
    refine ⟨fun k => match k with | 0 => c0 | 1 => c1 | 2 => c2 | 3 => c3 | 4 => c4 | 5 => c5 | 6 => c6 | 7 => c7 | _ => c8, fun k => match k with | 0 => iS0 | 1 => iS1 | 2 => iS2 | 3 => iS3 | 4 => iS4 | 5 => iS5 | 6 => iS6 | 7 => iS7 | _ => iS8, ?_⟩
    intro k q hq
    match k, hq with
    | 0, hq => cases hq; exact hKn0
    | 1, hq => cases hq; exact hKn1
    | 2, hq => cases hq; exact hKn2
    | 3, hq => cases hq; exact hKn3
    | 4, hq => cases hq; exact hKn4
    | 5, hq => cases hq; exact hKn5
    | 6, hq => cases hq; exact hKn6
    | 7, hq => cases hq; exact hKn7
    | 8, hq => cases hq; exact hKn8
    | k + 9, hq => simp [vwCl] at hq
  obtain ⟨t1, kI, pI, fI, hkI, hI⟩ := Cond.arrayClass_spec (htg _ ac_int)
  obtain ⟨t2, kZ, pZ, fZ, hkZ, hZ⟩ := Cond.arrayClass_spec (htg _ ac_boolean)
  have ao4 : (Cond.arrayOver (.object RX4)).before #[Value.ref b] s = true := (hts _ (List.mem_append_right _ (List.mem_of_getElem? (i := 174) (by decide +kernel))))
  have ao5 : (Cond.arrayOver (.object RX5)).before #[Value.ref b] s = true := (hts _ (List.mem_append_right _ (List.mem_of_getElem? (i := 198) (by decide +kernel))))
  have aoA : (Cond.arrayOver (.array .int)).before #[Value.ref b] s = true := (hts _ (List.mem_append_right _ (List.mem_of_getElem? (i := 170) (by decide +kernel))))
  obtain ⟨p4, t3, k4, f4, -, hk4, hK4, n4⟩ := Cond.arrayOver_spec ao4
  obtain ⟨p5, t4, k5, f5, -, hk5, hK5, n5⟩ := Cond.arrayOver_spec ao5
  obtain ⟨pA, t5, kA, fA, -, hkA, hKA, nA⟩ := arrayOverA_spec aoA
  have hK : va_K (dC, dI) vwCl (tysOf (t1, t2, t3, t4, t5)) s := by
    refine ⟨hKc, fun k q hq => ?_⟩
    match k, hq with
    | 0, hq => cases hq; exact ⟨fun _ _ => ⟨(fun _ h => by cases h), kI, hkI, pI, hI⟩, fI⟩
    | 1, hq => cases hq; exact ⟨fun _ _ => ⟨(fun _ h => by cases h), kZ, hkZ, pZ, hZ⟩, fZ⟩
    | 2, hq => cases hq; exact ⟨fun _ _ => ⟨(fun _ h => by cases h), k4, hk4, p4, hK4⟩, ⟨k4, p4, hk4, hK4, f4, n4⟩⟩
    | 3, hq => cases hq; exact ⟨fun _ _ => ⟨(fun _ h => by cases h), k5, hk5, p5, hK5⟩, ⟨k5, p5, hk5, hK5, f5, n5⟩⟩
    | 4, hq => cases hq; exact ⟨fun _ _ => ⟨(fun _ h => by cases h), kA, hkA, pA, hKA⟩, nA⟩
    | k + 5, hq => cases hq
  have hNest : ∀ q ∈ nestL, va_Nw (.methodLinkNest q.1 q.2.1 q.2.2 RX7) s := by
    refine List.forall_mem_cons.mpr ⟨va_Nw.of rfl (hts _ (List.mem_append_right _ (List.mem_of_getElem? (i := 22) (by decide +kernel)))), ?_⟩
    refine List.forall_mem_cons.mpr ⟨va_Nw.of rfl (hts _ (List.mem_append_right _ (List.mem_of_getElem? (i := 49) (by decide +kernel)))), ?_⟩
    refine List.forall_mem_cons.mpr ⟨va_Nw.of rfl (hts _ (List.mem_append_right _ (List.mem_of_getElem? (i := 73) (by decide +kernel)))), ?_⟩
    refine List.forall_mem_cons.mpr ⟨va_Nw.of rfl (hts _ (List.mem_append_right _ (List.mem_of_getElem? (i := 89) (by decide +kernel)))), ?_⟩
    refine List.forall_mem_cons.mpr ⟨va_Nw.of rfl (hts _ (List.mem_append_right _ (List.mem_of_getElem? (i := 142) (by decide +kernel)))), ?_⟩
    refine List.forall_mem_cons.mpr ⟨va_Nw.of rfl (hts _ (List.mem_append_right _ (List.mem_of_getElem? (i := 172) (by decide +kernel)))), ?_⟩
    refine List.forall_mem_cons.mpr ⟨va_Nw.of rfl (hts _ (List.mem_append_right _ (List.mem_of_getElem? (i := 175) (by decide +kernel)))), ?_⟩
    refine List.forall_mem_cons.mpr ⟨va_Nw.of rfl (hts _ (List.mem_append_right _ (List.mem_of_getElem? (i := 200) (by decide +kernel)))), ?_⟩
    refine List.forall_mem_cons.mpr ⟨va_Nw.of rfl (hts _ (List.mem_append_right _ (List.mem_of_getElem? (i := 201) (by decide +kernel)))), ?_⟩
    exact fun _ h => absurd h List.not_mem_nil
  have C : Cx (dC, dI) (t1, t2, t3, t4, t5) p s m #[.ref b] c cL_law 4 RL := ⟨⟨hx, hb, hml, hown, htg⟩, hK, hNest, va_AO.of ao4, va_AO.of ao5, (show va_Nw (.arrayOver (.array .int)) s from aoA)⟩
  generalize (dC, dI) = D at C
  generalize (t1, t2, t3, t4, t5) = t at C
  have hl := lv_entry ([.ref b]) (n := 4) (Nat.le_of_ble_eq_true rfl)
  rw [lg_entry_eq]
  generalize (lg_sl ([.ref b]) ++ List.replicate (4 - (lg_sl ([.ref b])).length) Slot.unset).toArray = ls at hl ⊢
  replace hl : lv_has ls 4 [(0, .ref b)] := hl
  have hS : St D s.heap.size s.heap 0 (fun _ => .inr (0, [])) s.heap [] := ⟨⟨rfl, fun i hi => absurd hi (Nat.not_lt_zero _)⟩, va_S.rf⟩
  refine r_new ck7 clL_7 ins_X7 ini_X7 df7 C hS (by decide) (by decide) dL_law_0 (fun g1 H e1 o1 hS => ?_)
  replace hS : St D s.heap.size s.heap 1 g1 H [] := hS
  refine lv_dup C.x C.b dL_law_3 rfl ?_
  refine r_callI (b := 0) (As := []) (rest := [.ref (s.heap.size + 0)]) (c2_X7_init l D t s.heap.size g1 e1) mf_yX7_init mlL_9 im_yX7_init rfl (by decide) C hS rfl hl.1 rfl (Nat.le_of_ble_eq_true rfl) dL_law_4 (by decide) (fun g2 H locs w2 hS => ?_)
  refine lv_astore_n (lv' := [(1, .ref (s.heap.size + 0)), (0, .ref b)]) C.x C.b dL_law_7 rfl hl (by decide) rfl (fun ls hl => ?_)
  refine r_new ck8 clL_10 ins_X8 ini_X8 df8 C hS (by decide) (by decide) dL_law_8 (fun g3 H e3 o3 hS => ?_)
  replace hS : St D s.heap.size s.heap 221 g3 H locs := hS
  refine lv_dup C.x C.b dL_law_11 rfl ?_
  refine r_callI (b := 220) (As := []) (rest := [.ref (s.heap.size + 220)]) (c_X8_init l D t s.heap.size g3 e3) mf_yX8_init mlL_12 im_yX8_init rfl (by decide) C hS rfl hl.1 rfl (Nat.le_of_ble_eq_true rfl) dL_law_12 (by decide) (fun g4 H locs w4 hS => ?_)
  refine lv_astore_n (lv' := [(2, .ref (s.heap.size + 220)), (1, .ref (s.heap.size + 0)), (0, .ref b)]) C.x C.b dL_law_15 rfl hl (by decide) rfl (fun ls hl => ?_)
  refine lv_iconst (v := 0) C.x C.b dL_law_16 (by decide) ?_
  refine lv_istore_n (lv' := [(3, .int (nI 0)), (2, .ref (s.heap.size + 220)), (1, .ref (s.heap.size + 0)), (0, .ref b)]) C.x C.b dL_law_17 rfl hl (by decide) rfl (fun ls hl => ?_)
  refine W.widen (k := 600000) (n := 7302250) (by decide) (by decide) ?_
  have hI : LwK t s.heap.size g4 := law_firstK (w2.1.fr (fun j hj => o3 j (by omega))) (x2_keep w2.2.1 (fun j h1 h2 => o3 j (by omega))) (x0_keep w2.2.2 (fun j h1 h2 => o3 j (by omega))) w4
  exact law_loop l ⟨C, hX, hbl, hbl, by omega⟩ hr hlocks (Nat.le_refl _) (L + 1) 0 g4 _ _ _ (Nat.zero_le _) (by omega) hI hS (lv_sub hl [3, 2, 1, 0] rfl)
set_option maxHeartbeats 4000000 in
theorem lw_walk (l : Launch) (b : Addr) (xs : List Int32) : MetFree l x (headSpec (Jvm.Cond.code x code maxLocals ret :: tables_1) room_1) (lw_P b xs) (fun _ _ _ _ _ => True) lw_Q := by
  refine MetFree.of_bodyS (code := code) (maxLocals := maxLocals) (ret := ret) (by decide) ?_ ?_
  · intro args s m h hn
    obtain ⟨meth, c, h1, h2, h3, h4, h5, h6, -, -⟩ := Cond.code_spec hn (atoms_spec (ws := Jvm.Cond.code x code maxLocals ret :: tables_1) h _ List.mem_cons_self)
    exact ⟨meth, c, h1, h2, h3, h4, h5, h6⟩
  · intro p e s m args below meth c s₁ B hml0 hP _
    obtain ⟨rfl, hx, hbd, hgv⟩ := hP
    obtain ⟨scr, harrAt, hlist, hof, hsmall⟩ := hx
    obtain ⟨hcb, hkn, -, -⟩ := State.arrayAt?_spec harrAt
    have hown : s.vm.findClass R_law = some m.cls := findClass_of_methodNamed B.named
    have hts0 : ∀ c ∈ (Jvm.Cond.code x code maxLocals ret :: tables_1), c.before #[Value.ref b] s = true := atoms_spec (ws := Jvm.Cond.code x code maxLocals ret :: tables_1) B.pre
    have hts : ∀ w ∈ lw_tbl, w.before #[Value.ref b] s = true := k2_hts_sels lw_privs (fun w hw => hts0 w (List.mem_cons_of_mem _ hw)) lw_privs_ok
    have hml : c.maxLocals = 4 := B.maxLocals_eq (hts0 _ List.mem_cons_self)
    have X₀ : Stand p l e room_1 s m #[Value.ref b] below meth c s₁ [] 0 0 := Stand.of_body B
    have hh0 : s₁.heap = s.heap := by rw [B.state]; rfl
    have hsz : scr.slots.size = xs.length := by rw [← Array.length_toList, hlist, List.length_map]
    have hval : ∀ j : Nat, j < xs.length → scr.slots[j]? = some (.int (xs.getD j 0)) := fun j hj => by
      rw [← Array.getElem?_toList, hlist]
      simp [hj]
    have hbl : b < s.heap.size := (Array.getElem?_eq_some_iff.mp hcb).1
    have hX : va_X b xs.length (fun j => xs.getD j 0) s s.heap := ⟨scr, hcb, hof, hkn, hsz, hval⟩
    have K : W p l e room_1 s m #[Value.ref b] below meth c s₁.heap [] 0 0 (lw_Z below #[Value.ref b] s) (entryFrame m ([Value.ref b] : List Value).toArray 4) := by
      rw [hh0]
      exact whole_start l hbd ⟨B.exec, B.bytes, B.returns, hml, hown, hts, hX, hbl, B.notSynchronized, hgv⟩
    obtain ⟨t, a1, o, b1, b2, b3⟩ := K s₁ rfl X₀
    exact ⟨t, o, a1, b1, b2, b3⟩
theorem lw_pre_spec {args : Array Value} {s : State} (h : (Jvm.Cond.and given_1 narrow_1).before args s = true) (hr : rest_1_c.before args s = true) : ∃ (b : Addr) (xs : List Int32), lw_P b xs args s := by
  have hs := flat_of_before _ h
  have hq := flat_of_before _ hr
  have hc : (Cond.count 1).before args s = true := hs _ (by decide +kernel)
  have harr : (Cond.arrayOf (.arg 0) .int).before args s = true := hs _ (by decide +kernel)
  have hle : (Cond.le (.length (.arg 0)) (.int 2560)).before args s = true := hs _ (by decide +kernel)
  have hlen : (Cond.isInt (.length (.arg 0))).before args s = true := hq _ (by decide +kernel)
  have hall : (Cond.all (.arg 0) (.isInt (.elem (.arg 0) (.index 0)))).before args s = true := hq _ (by decide +kernel)
  obtain ⟨b, xs, hb, hx⟩ := State.ints_of_pre rfl harr hlen hall
  have hsm : xs.length < 2 ^ 31 := hx.choose_spec.2.2.2
  have hev : (Term.length (.arg 0)).eval args s none [] s = some (.int xs.length.toInt32) := hx.length_eval hb
  have hv := Cond.le_ints hev (show (Term.int 2560).eval args s none [] s = some (.int 2560) from rfl)
  have hd : xs.length.toInt32 ≤ 2560 := by
    simpa [Cond.before, Cond.holds, hv] using hle
  have hN : xs.length ≤ 2560 := (Int32.ofNat_le_ofNat hsm (by decide)).mp (show Int32.ofNat xs.length ≤ Int32.ofNat 2560 from hd)
  exact ⟨b, xs, Cond.one_arg hc (show args[0]? = some (.ref b) from hb), hx, hN, h⟩
theorem lw_comes (l : Launch) : Comes l x (Jvm.Cond.code x code maxLocals ret :: tables_1) room_1 (fun tb e args s => Calls_1 tb e args s ∧ rest_1 tb e args s ∧ Pre_1 tb e args s)
    (fun _ _ args s o t => lw_Q args s o t) := by
  intro p e ha hc hk s m args below hf hfit hheap happ hpre
  obtain ⟨b, xs, hP⟩ := lw_pre_spec hpre.2.2 hpre.2.1
  obtain ⟨k, o, h1, h2, h3, hQ⟩ := lw_walk l b xs p e ha hc hk s m args below hf ((Spec.applies_iff_loose hf).mp happ).1 hP trivial
  exact ⟨k, o, h1, h2, h3, hQ⟩
theorem lw_frame {s t : State} {o : Outcome} {args : Array Value} (h : Framed s o t [] 600000 7302250) :
    Framed s o t (fieldLocs frame_1_writes args s ++ arrayLocs frame_1_arrays args s ++ staticLocs frame_1_statics s) 600000 7302250 := h
theorem lw_limb (L : Cond) (hL : ∀ (args : Array Value) (s t : State), L.after args s (.returned (some (.int 1))) t = true) :
    ArmFor flags0 classFile x code maxLocals ret World_1 tables_1 room_1 Calls_1 rest_1 Pre_1
      (fun tb e a s o t => postC L tb e a s o t ∧ Framed s o t (fieldLocs frame_1_writes a s ++ arrayLocs frame_1_arrays a s ++ staticLocs frame_1_statics s) 600000 7302250) := by
  intro l _ _ _ p e ha hc hk s m args below hf hfit hheap happ hpre
  obtain ⟨k, o, h1, h2, h3, rfl, hF⟩ := lw_comes l p e ha hc hk s m args below hf hfit hheap happ hpre
  exact ⟨k, _, h1, h2, h3, hL args s _, lw_frame hF⟩
theorem i_vc : Claimed_1_1 ∧ Claimed_1_2 := ⟨lw_limb limb_1_1 (fun args s t => by simp [limb_1_1, Cond.after, Cond.holds, Cond.value]), lw_limb limb_1_2 (fun args s t => Cond.after_iff.mpr (by
  first | (rw [show limb_1_2 = Cond.eq .result (.int 1) from rfl, Cond.eq_ints (x := 1) (y := 1) rfl rfl]; simp; done) | (simp [limb_1_2, Cond.value, Term.eval]; done)))⟩
