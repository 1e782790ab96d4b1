/-! int[16][16] -/
section MN
def mrw (cI : ClassId) : Cell := arrV cI 16 (fun _ => .int 0)
def mout (cA : ClassId) (A i : Nat) : Cell := arrV cA 16 (fun j => if j < i then .ref (A + 1 + j) else .null)
def mfil (T : State) (cA cI : ClassId) : Nat → State
  | 0 => T.pushCell (mout cA T.heap.size 0)
  | i + 1 => ((mfil T cA cI i).pushCell (mrw cI)).setCell T.heap.size (mout cA T.heap.size (i + 1))
theorem mout_set {cA : ClassId} {A i : Nat} (h : i < 16) : (mout cA A i).setSlot i (.ref (A + 1 + i)) = mout cA A (i + 1) := by
  unfold mout
  rw [arrV_store]
  congr 1
  funext j
  unfold updV
  by_cases e : j = i
  · subst e
    rw [if_pos rfl, if_pos (by omega)]
  · rw [if_neg e]
    show (if j < i then Value.ref (A + 1 + j) else Value.null) = _
    by_cases h1 : j < i
    · rw [if_pos h1, if_pos (by omega)]
    · rw [if_neg h1, if_neg (by omega)]
theorem mrw_size {cI : ClassId} : (mrw cI).slots.size = 16 := arrV_size ..
theorem mout_size {cA : ClassId} {A i : Nat} : (mout cA A i).slots.size = 16 := arrV_size ..
theorem mfil_facts (T : State) (cA cI : ClassId) : ∀ i, (mfil T cA cI i).heap.size = T.heap.size + 1 + i ∧ (mfil T cA cI i).heap[T.heap.size]? = some (mout cA T.heap.size i) ∧ (mfil T cA cI i).vm = T.vm ∧ (mfil T cA cI i).slotsUsed = T.slotsUsed + 16 + i * 16
  | 0 => ⟨by simp [mfil], by simp [mfil], rfl, by simp [mfil, mout_size]⟩
  | i + 1 => by
    obtain ⟨a, b, d, u⟩ := mfil_facts T cA cI i
    have hlt : T.heap.size < (mfil T cA cI i).heap.size := by omega
    refine ⟨?_, State.heap_setCell_self (c := mout cA T.heap.size i) (by rw [State.heap_pushCell_of_lt (h := hlt)]; exact b), by simp [mfil, d], ?_⟩
    · simp [mfil, State.setCell, a]; omega
    · simp [mfil, u, mrw_size]; omega
theorem mfil_old (T : State) (cA cI : ClassId) {a : Addr} (ha : a < T.heap.size) : ∀ i, (mfil T cA cI i).heap[a]? = T.heap[a]?
  | 0 => State.heap_pushCell_of_lt _ _ ha
  | i + 1 => by
    have f1 := (mfil_facts T cA cI i).1
    show (((mfil T cA cI i).pushCell (mrw cI)).setCell T.heap.size _).heap[a]? = _
    have hlt : a < (mfil T cA cI i).heap.size := Nat.lt_of_lt_of_le ha (by rw [f1]; omega)
    rw [State.heap_setCell_other (Nat.ne_of_gt ha), State.heap_pushCell_of_lt (h := hlt)]
    exact mfil_old T cA cI ha i
theorem mfil_in (T : State) (cA cI : ClassId) : ∀ i j, j < i → (mfil T cA cI i).heap[T.heap.size + 1 + j]? = some (mrw cI)
  | 0, _, h => absurd h (Nat.not_lt_zero _)
  | i + 1, j, h => by
    have f1 := (mfil_facts T cA cI i).1
    show (((mfil T cA cI i).pushCell (mrw cI)).setCell T.heap.size _).heap[T.heap.size + 1 + j]? = _
    rw [State.heap_setCell_other (show T.heap.size ≠ T.heap.size + 1 + j by omega)]
    rcases Nat.lt_or_ge j i with hj | hj
    · have hlt : T.heap.size + 1 + j < (mfil T cA cI i).heap.size := by rw [f1]; omega
      rw [State.heap_pushCell_of_lt (h := hlt)]
      exact mfil_in T cA cI i j hj
    · obtain rfl : j = i := by omega
      rw [← f1]
      exact State.heap_pushCell_size _ _
theorem mfil_top (T : State) (f : JFrame) (cA cI : ClassId) : ∀ i, mfil (T.setTop f) cA cI i = (mfil T cA cI i).setTop f
  | 0 => rfl
  | i + 1 => by simp only [mfil, mfil_top T f cA cI i, State.heap_setTop, State.pushCell_setTop, State.setCell_setTop]
theorem mfil_stand {p : Program} {l : Launch} {e : Env} {R : Room} {s : State} {m : MethodId} {args : Array Value} {below : List Frame} {meth : Method} {c : Code} {T : State} {locs : List Loc} {cells slots : Nat} (X : Stand p l e R s m args below meth c T locs cells slots) (cA cI : ClassId) :
    ∀ i, i ≤ 16 → Stand p l e R s m args below meth c (mfil T cA cI i) (locs ++ (List.range i).map fun j => ⟨T.heap.size, j⟩) (cells + 1 + i) (slots + 16 + i * 16)
  | 0, _ => by
    have h := X.pushed (mout cA T.heap.size 0)
    rw [mout_size] at h
    simpa [mfil] using h
  | i + 1, hi => by
    have Xi := mfil_stand X cA cI i (by omega)
    obtain ⟨f1, f2, f3, f4⟩ := mfil_facts T cA cI i
    have hlt : T.heap.size < (mfil T cA cI i).heap.size := by rw [f1]; omega
    have hcell : ((mfil T cA cI i).pushCell (mrw cI)).heap[T.heap.size]? = some (mout cA T.heap.size i) := by rw [State.heap_pushCell_of_lt (h := hlt)]; exact f2
    have h := (Xi.pushed (mrw cI)).stored hcell i (.ref (T.heap.size + 1 + i))
    rw [mrw_size, mout_set (by omega)] at h
    have e2 : (locs ++ (List.range (i + 1)).map fun j => (⟨T.heap.size, j⟩ : Loc)) = (locs ++ (List.range i).map fun j => (⟨T.heap.size, j⟩ : Loc)) ++ [⟨T.heap.size, i⟩] := by simp [List.range_succ, List.append_assoc]
    have e3 : slots + 16 + (i + 1) * 16 = slots + 16 + i * 16 + 16 := by omega
    rw [e2, e3]
    exact h
section
variable {E : CtlPost} {e : Env} {d : Bool} {acts : List Action} {s : State}
theorem mw_new {c comp : ClassId} {k : Class} {ty : FieldType} {v : Value} (hk : s.vm.classes[c]? = some k) (hkind : k.kind = .array comp ty) (hlimit : ¬ 16 > e.platform.arrayLengthLimit) (hheap : ¬ 16 * componentBytes ty > e.platform.maxHeapBytes) (hfit : fits ty v = true) (hdef : v.isDefault = true) {Q : Addr → Pre} (h1 : s.heap.size < e.platform.maxCells) (h2 : s.slotsUsed + 16 ≤ e.platform.maxSlots)
    (hq : Q s.heap.size d acts (s.pushCell (arrV c 16 (fun _ => v)))) : wp (Jvm.newArray c 16 v) Q E e d acts s := by
  have hfits : ∀ i u, (Array.replicate 16 v)[i]? = some u → s.fitsSlot c .none i u = true := by
    intro i u hu
    simp only [Array.getElem?_replicate] at hu
    split at hu
    · cases hu; simp [State.fitsSlot, State.slotType?, hk, hkind, hfit]
    · cases hu
  have hda : allocActs (Array.replicate 16 v) s.heap.size acts = acts := by
    have hall : ((Array.replicate 16 v).all (·.isDefault)) = true := by
      rw [Array.all_replicate]; split <;> simp [hdef]
    unfold allocActs; rw [if_pos hall]
  rw [← arrV_new] at hq
  simp only [Jvm.newArray, Jvm.arrayFits, wp_bind', Jvm.W.ask, Jvm.W.ite, hlimit, if_false, wp_pure', Jvm.W.theClass, hk, hkind, hheap, Jvm.W.alloc, Jvm.W.stop, Option.some.injEq, exists_eq_left', Array.size_replicate, hda]
  rw [if_neg (by omega)]
  exact ⟨h1, h2, hfits, hq⟩
theorem mw_ref {ty : FieldType} {v : Value} (h : ty.isReference = true) (hv : v = .null ∨ ∃ a, v = .ref a) : fits ty v = true := by
  rcases hv with rfl | ⟨a, rfl⟩ <;> cases ty <;> simp [FieldType.isReference] at h <;> rfl
theorem mw_in {cI cc : ClassId} {kI : Class} (hk : s.vm.classes[cI]? = some kI) (hkind : kI.kind = .array cc .int) (hlimit : ¬ 16 > e.platform.arrayLengthLimit) (hheap : ¬ 16 * componentBytes .int > e.platform.maxHeapBytes) {Q : Addr → Pre} (h1 : s.heap.size < e.platform.maxCells) (h2 : s.slotsUsed + 16 ≤ e.platform.maxSlots)
    (hq : Q s.heap.size d acts (s.pushCell (mrw cI))) : wp (multianewarray.make cI [16]) Q E e d acts s := by
  rw [multianewarray.make]
  have h0 : ¬ (16 : Int32) < 0 := by decide
  simp only [wp_bind', Jvm.W.ite, h0, if_false, wp_pure', Jvm.W.theClass, hk, hkind, Option.some.injEq, exists_eq_left']
  exact mw_new hk hkind hlimit hheap rfl rfl h1 h2 hq
theorem mw_two {cA cI cc : ClassId} {kA kI : Class} (hkA : s.vm.classes[cA]? = some kA) (hkindA : kA.kind = .array cI (.array .int)) (hk : s.vm.classes[cI]? = some kI) (hkind : kI.kind = .array cc .int) (hlimit : ¬ 16 > e.platform.arrayLengthLimit) (hheap : ¬ 64 > e.platform.maxHeapBytes) (h1 : s.heap.size + 17 ≤ e.platform.maxCells) (h2 : s.slotsUsed + 272 ≤ e.platform.maxSlots) {Q : Addr → Pre}
    (hq : ∀ d' acts', Q s.heap.size d' acts' (mfil s cA cI 16)) : wp (multianewarray.make cA [16, 16]) Q E e d acts s := by
  have hfind : ([(16 : Int32)].find? (· < 0)) = none := by decide
  have h0 : ¬ (16 : Int32) < 0 := by decide
  have hN : (16 : Int32).toNatClampNeg = 16 := by decide
  rw [multianewarray.make]
  simp only [wp_bind', Jvm.W.ite, h0, if_false, wp_pure', Jvm.W.theClass, hkA, hkindA, Option.some.injEq, exists_eq_left', hN]
  refine mw_new hkA hkindA hlimit hheap (mw_ref rfl (Or.inl rfl)) rfl (by omega) (by omega) ?_
  simp only [hfind]
  rw [ite_self, wp_bind', Std.Legacy.Range.forIn_eq_forIn_range']
  show wp (forIn (List.range' 0 16 1) PUnit.unit _) _ E e d acts _
  refine wp_forIn_inv (fun rest s' => ∃ i, i ≤ 16 ∧ rest = List.range' i (16 - i) ∧ s' = mfil s cA cI i) _ _ ⟨0, Nat.zero_le _, rfl, rfl⟩ ?_ ?_
  · rintro x rest s' d' acts' Q' ⟨i, hi, hl, rfl⟩ hnext
    have hlt : i < 16 := by
      rcases Nat.lt_or_ge i 16 with h | h
      · exact h
      · rw [show 16 - i = 0 from by omega] at hl; simp at hl
    obtain ⟨rfl, hrest⟩ : x = i ∧ rest = List.range' (i + 1) (16 - (i + 1)) := by
      rw [show 16 - i = (16 - (i + 1)) + 1 from by omega, List.range'_succ] at hl
      exact ⟨(List.cons.inj hl).1, (List.cons.inj hl).2⟩
    obtain ⟨f1, f2, f3, f4⟩ := mfil_facts s cA cI x
    simp only [wp_bind']
    refine mw_in (by rw [f3]; exact hk) hkind hlimit hheap (by rw [f1]; omega) (by rw [f4]; omega) ?_
    have hlt0 : s.heap.size < (mfil s cA cI x).heap.size := by rw [f1]; omega
    simp only [wp_bind', Jvm.W.writeLoc, wp_pure']
    refine ⟨mout cA s.heap.size x, by rw [State.heap_pushCell_of_lt (h := hlt0)]; exact f2, (fun h => by cases h), by rw [mout_size]; exact hlt, ?_, hnext _ _ _ ⟨x + 1, hlt, hrest, ?_⟩⟩
    · show State.fitsSlot _ cA .none _ _ = true
      simp [State.fitsSlot, State.slotType?, f3, hkA, hkindA]
      rfl
    · rw [f1, mout_set hlt]; rfl
  · rintro s' d' acts' ⟨i, hi, hl, rfl⟩
    have hiN : i = 16 := by
      rcases Nat.lt_or_ge i 16 with h | h
      · rw [show 16 - i = (16 - (i + 1)) + 1 from by omega, List.range'_succ] at hl; cases hl
      · omega
    subst hiN
    simp only [wp_pure']
    exact hq _ _
end
section
variable {p : Program} {l : Launch} {e : Env} {R : Room} {s : State} {m : MethodId} {args : Array Value} {below : List Frame} {meth : Method} {c : Code} {H : Heap} {locs : List Loc} {cells slots : Nat} {Q : State → Prop}
variable {cc : ByteArray} {pc nL : Nat} {ls : Array Slot} {rest : List Value} {D : va_G} {t : Gx} {own : String} {B N : Nat} {g : Nat → va_E} {H0 : Heap}
theorem w_mna {index : Nat} (hexec : p.tables.exec = Jvm.exec) (hb : c.code = cc) (hown : s.vm.findClass own = some m.cls) (hclink : (Cond.classLink own index "[[I").before args s = true) (hover : (Cond.arrayOver (.array .int)).before args s = true) (harr : (Cond.arrayClass .int).before args s = true) (hdg : decode cc pc = .ok (.multianewarray index 2, 4)) (hcells : cells + 17 ≤ R.cells) (hslots : slots + 272 ≤ R.slots)
    (kk : ∀ (cA cI : ClassId) (H1 : Heap), s.vm.findClass "[[I" = some cA → s.vm.findClass "[I" = some cI → H1.size = H.size + 17 → H1[H.size]? = some (mout cA H.size 16) → (∀ j, j < 16 → H1[H.size + 1 + j]? = some (mrw cI)) → (∀ q : Nat, q < H.size → H1[q]? = H[q]?) →
      W p l e R s m args below meth c H1 (locs ++ (List.range 16).map fun j => ⟨H.size, j⟩) (cells + 17) (slots + 272) Q (F0 m (pc + 4) ls (.ref H.size :: rest))) : W p l e R s m args below meth c H locs cells slots Q (F0 m pc ls (.int 16 :: .int 16 :: rest)) := by
  intro T hT X
  subst hT; subst hb
  have hpl : e.platform.magicAccessors = ({} : Platform).magicAccessors := by rw [X.admits.platform]
  obtain ⟨cI, cA, kA, hcI, -, hkA, hkindA, hnA⟩ := arrayOverA_spec hover
  obtain ⟨cI', kI, cc', hcI', hkI, hkindI⟩ := Cond.arrayClass_spec harr
  have eI : cI' = cI := Option.some.inj (hcI'.symm.trans hcI)
  subst eI
  obtain ⟨c0, hfc0, hcl⟩ := Cond.classLink_spec hown hclink e.platform hpl
  have eA : cA = c0 := Option.some.inj ((show s.vm.findClass "[[I" = some cA from hnA).symm.trans hfc0)
  subst eA
  obtain ⟨hg₁, hwarm₁, hready₁⟩ := State.classEntry (e := e) X.warmed hcl
  generalize T.vm.noted m.cls index (.cls cA) = vm₁ at hg₁ hwarm₁ hready₁
  have hal : s.vm.Alike vm₁ := hwarm₁.alike
  obtain ⟨kA₁, hkA₁, heA⟩ := hal.2.2 _ _ hkA
  obtain ⟨kI₁, hkI₁, heI⟩ := hal.2.2 _ _ hkI
  have hkindA₁ : kA₁.kind = .array cI' (.array .int) := by rw [heA]; exact hkindA
  have hkindI₁ : kI₁.kind = .array cc' .int := by rw [heI]; exact hkindI
  have X₁ := X.noted hwarm₁
  have XF := mfil_stand X₁ cA cI' 16 (Nat.le_refl _)
  obtain ⟨f1, f2, f3, f4⟩ := mfil_facts (T.setVm vm₁) cA cI' 16
  obtain ⟨hr1, hr2⟩ := X.roomAbove hcells hslots
  obtain ⟨t', a1, b1⟩ := kk cA cI' (mfil (T.setVm vm₁) cA cI' 16).heap hnA hcI f1 f2 (fun j hj => mfil_in (T.setVm vm₁) cA cI' 16 j hj) (fun q hq => mfil_old (T.setVm vm₁) cA cI' hq 16) _ rfl XF
  refine ⟨t', ?_, b1⟩
  have hl1 : ¬ 16 > e.platform.arrayLengthLimit := by rw [Launch.admits_arrayLengthLimit X.admits]; omega
  have hh1 : ¬ 64 > e.platform.maxHeapBytes := by rw [Launch.admits_maxHeapBytes X.admits]; omega
  jvm_step X.here [hexec, hdg]
  simp only [multianewarray.sem, wp_bind', Jvm.W.resolveClassAt_links (State.method?_setTop (F0 m pc ls (.int 16 :: .int 16 :: rest)) X.here.top) hg₁]
  rw [Jvm.W.popN, if_neg (by decide)]
  refine ⟨F0 m pc ls (.int 16 :: .int 16 :: rest), State.topJava?_setTop' (s := T.setVm vm₁) _ X.here.top, [.int 16, .int 16], rest, rfl, rfl, ?_⟩
  simp only [List.mapM_cons, List.mapM_nil, wp_bind', wp_pure']
  refine mw_two hkA₁ hkindA₁ hkI₁ hkindI₁ hl1 hh1 (by show T.heap.size + _ ≤ _; omega) (by show T.slotsUsed + _ ≤ _; omega) (fun d' acts' => ?_)
  have eS : ((T.setTop (F0 m pc ls (.int 16 :: .int 16 :: rest))).setVm vm₁).setTop { F0 m pc ls (.int 16 :: .int 16 :: rest) with stack := rest } = (T.setVm vm₁).setTop { F0 m pc ls (.int 16 :: .int 16 :: rest) with stack := rest } := by
    show ((T.setVm vm₁).setTop _).setTop _ = _
    rw [State.setTop_setTop]
  rw [eS, mfil_top]
  simp only [wp_bind', Jvm.W.mark, Jvm.W.pushRef, State.topJava?_setTop' _ XF.here.top, Option.some.injEq, exists_eq_left', State.setTop_setTop, State.heap_setTop]
  intro acts
  simp [jvm, XF.here.top]
  exact a1
theorem r_mna {index : Nat} (hcl : Cond.classLink own index "[[I" ∈ lw_good) (harr : Cond.arrayClass .int ∈ lw_good) (C : Cx D t p s m args c cc nL own) (hS : St D B H0 N g H locs) (hcells : cells + 17 ≤ R.cells) (hslots : slots + 272 ≤ R.slots) (hdg : decode cc pc = .ok (.multianewarray index 2, 4))
    (kk : ∀ (g' : Nat → va_E) (H1 : Heap) (locs1 : List Loc), g' N = .inl (t.2.2.2.2, 16, .inr (.inr (.inr (.inr (fun k => if k < 16 then some (B + (N + 1 + k)) else none))))) → (∀ k, k < 16 → g' (N + 1 + k) = .inl (t.1, 16, .inl (fun _ => 0))) → (∀ j, j < N → g' j = g j) → St D B H0 (N + 17) g' H1 locs1 → W p l e R s m args below meth c H1 locs1 (cells + 17) (slots + 272) Q (F0 m (pc + 4) ls (.ref (B + N) :: rest))) : W p l e R s m args below meth c H locs cells slots Q (F0 m pc ls (.int 16 :: .int 16 :: rest)) := by
  have hsz : H.size = B + N := hS.size
  refine w_mna C.x C.b C.o (C.w hcl) C.2.2.2.2.2 (C.w harr) hdg hcells hslots fun cA cI H1 h1 h2 h3 h4 h5 h6 => ?_
  have eA : cA = t.2.2.2.2 := Option.some.inj (h1.symm.trans (C.k.2 4 _ rfl).2)
  have eI : cI = t.1 := Option.some.inj (h2.symm.trans (C.k.2 0 _ rfl).2)
  subst eA
  subst eI
  rw [hsz]
  rw [hsz] at h3 h4 h5
  have q1 : ∀ j, j < N → va_at D vwCl (B + j, g j) H1 := fun j hj => (hS.1.2 j hj).kept (h6 _ (by show B + j < H.size; omega))
  let g' : Nat → va_E := fun j => if j < N then g j else if j = N then .inl (t.2.2.2.2, 16, .inr (.inr (.inr (.inr (fun k => if k < 16 then some (B + (N + 1 + k)) else none))))) else .inl (t.1, 16, .inl (fun _ => 0))
  have e1 : g' N = .inl (t.2.2.2.2, 16, .inr (.inr (.inr (.inr (fun k => if k < 16 then some (B + (N + 1 + k)) else none))))) := by
    show (if N < N then _ else _) = _
    rw [if_neg (by omega), if_pos rfl]
  have e2 : ∀ k, g' (N + 1 + k) = .inl (t.1, 16, .inl (fun _ => 0)) := fun k => by
    show (if N + 1 + k < N then _ else _) = _
    rw [if_neg (by omega), if_neg (by omega)]
  have e3 : ∀ j, j < N → g' j = g j := fun j hj => if_pos hj
  refine kk g' H1 _ e1 (fun k _ => e2 k) e3 ⟨⟨by omega, fun j hj => ?_⟩, ⟨by have := hS.2.1; omega, fun q hq hA => (h6 q (Nat.lt_of_lt_of_le hq hS.2.1)).trans (hS.2.2.1 q hq hA), ?_⟩⟩
  · rcases Nat.lt_or_ge j N with h | h
    · rw [e3 j h]
      exact q1 j h
    · rcases Nat.eq_or_lt_of_le h with h | h
      · subst h
        rw [e1]
        show H1[B + N]? = some (vp_cell _ _)
        rw [h4, vp_cell_q]
        unfold mout
        congr 2
        funext k
        by_cases hk : k < 16
        · rw [if_pos hk, if_pos hk]
          show Value.ref (B + N + 1 + k) = Value.ref (B + (N + 1 + k))
          rw [show B + N + 1 + k = B + (N + 1 + k) by omega]
        · rw [if_neg hk, if_neg hk]
          rfl
      · obtain ⟨k, rfl⟩ : ∃ k, j = N + 1 + k := ⟨j - (N + 1), by omega⟩
        rw [e2 k]
        show H1[B + (N + 1 + k)]? = some (vp_cell _ _)
        rw [show B + (N + 1 + k) = B + N + 1 + k by omega, h5 k (by omega), vp_cell_i]
        rfl
  · intro q hq
    rcases List.mem_append.mp hq with h | h
    · exact hS.2.2.2 q h
    · obtain ⟨j, -, rfl⟩ := List.mem_map.mp h
      exact Nat.le_add_right _ _
end
end MN
