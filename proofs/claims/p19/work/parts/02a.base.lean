/-! THE WORLD BY NUMBERS: every cell that came since the law began lies at B + i; g i is what it holds. -/
def lw_good : List Cond := lw_tbl.filter goodWord
theorem mg {w : Cond} (h : w ∈ lw_tbl) (hg : goodWord w = true) : w ∈ lw_good := List.mem_filter.mpr ⟨h, hg⟩
theorem mgT (k : Nat) {w : Cond} (h : tables_1[k]? = some w) (hg : goodWord w = true) : w ∈ lw_good := mg (List.mem_append_right _ (List.mem_of_getElem? h)) hg
theorem mgS (k : Nat) {q : MethodName × Nat} (h : lw_privs[k]? = some q) (hg : goodWord (Cond.selects q.1.cls q.1 q.1) = true) : Cond.selects q.1.cls q.1 q.1 ∈ lw_good := mg (List.mem_append_left _ (List.mem_map.mpr ⟨q, List.mem_of_getElem? h, rfl⟩)) hg
theorem lw_good_in {w : Cond} (h : w ∈ lw_good) : w ∈ lw_tbl ∧ goodWord w = true := List.mem_filter.mp h
abbrev wu (y : MethodName) (cc : ByteArray) (n : Nat) (ret : Option FieldType) : List Cond := Cond.code y cc n ret :: lw_good
theorem wu_good {y : MethodName} {cc : ByteArray} {n : Nat} {ret : Option FieldType} (h : Cond.code y cc n ret ∈ lw_good) : GoodIn lw_good (wu y cc n ret) := fun w hw => by
  have hm : w ∈ lw_good := by
    rcases List.mem_cons.mp hw with e | e
    · rw [e]; exact h
    · exact e
  exact ⟨hm, good_of_word (lw_good_in hm).2⟩
theorem va_up_s {α : Type} {f : Nat → α} {k : Nat} {v : α} : va_up f k v k = v := if_pos rfl
theorem va_up_n {α : Type} {f : Nat → α} {k j : Nat} {v : α} (h : j ≠ k) : va_up f k v j = f j := if_neg h
/-- the array classes: int, boolean, Row, Run, int[] -/
abbrev Gx : Type := ClassId × ClassId × ClassId × ClassId × ClassId
abbrev tysOf (t : Gx) : List (ClassId × FieldType) := [(t.1, .int), (t.2.1, .boolean), (t.2.2.1, .object RX4), (t.2.2.2.1, .object RX5), (t.2.2.2.2, .array .int)]
abbrev wl (B N : Nat) (g : Nat → va_E) : va_W := (List.range N).map (fun i => (B + i, g i))
theorem wl_get {B N i : Nat} {g : Nat → va_E} (h : i < N) : (wl B N g)[i]? = some (B + i, g i) := by
  rw [List.getElem?_map, List.getElem?_range h]
  rfl
theorem wl_inv {B N k : Nat} {g : Nat → va_E} {q : Nat × va_E} (h : (wl B N g)[k]? = some q) : k < N ∧ q = (B + k, g k) := by
  have hk : k < N := by
    have := (List.getElem?_eq_some_iff.mp h).1
    simpa using this
  rw [wl_get hk] at h
  exact ⟨hk, (Option.some.inj h).symm⟩
def Hp (D : va_G) (B N : Nat) (g : Nat → va_E) (H : Heap) : Prop := H.size = B + N ∧ ∀ i, i < N → va_at D vwCl (B + i, g i) H
theorem Hp.P {D : va_G} {B N : Nat} {g : Nat → va_E} {H : Heap} (h : Hp D B N g H) : va_P D vwCl (wl B N g) H := fun k q hq => by
  obtain ⟨hk, e⟩ := wl_inv hq
  rw [e]
  exact h.2 k hk
theorem Hp.put {D : va_G} {B N i : Nat} {g : Nat → va_E} {H H1 : Heap} {e : va_E} (h : Hp D B N g H) (he : va_at D vwCl (B + i, e) H1) (z : H1.size = H.size) (oq : ∀ q : Nat, q ≠ B + i → H1[q]? = H[q]?) : Hp D B N (va_up g i e) H1 := by
  refine ⟨z.trans h.1, fun j hj => ?_⟩
  by_cases hji : j = i
  · subst hji
    rw [va_up_s]
    exact he
  · rw [va_up_n hji]
    exact (h.2 j hj).kept (oq _ (by show B + j ≠ B + i; omega))
theorem Hp.push {D : va_G} {B N : Nat} {g : Nat → va_E} {H H1 : Heap} {e : va_E} (h : Hp D B N g H) (he : va_at D vwCl (B + N, e) H1) (z : H1.size = H.size + 1) (oq : ∀ q : Nat, q < H.size → H1[q]? = H[q]?) : Hp D B (N + 1) (va_up g N e) H1 := by
  refine ⟨by rw [z, h.1]; omega, fun j hj => ?_⟩
  by_cases hji : j = N
  · subst hji
    rw [va_up_s]
    exact he
  · rw [va_up_n hji]
    exact (h.2 j (by omega)).kept (oq _ (by show B + j < H.size; rw [h.1]; omega))
/-- the world now, and what has changed since the method began -/
def St (D : va_G) (B : Nat) (H0 : Heap) (N : Nat) (g : Nat → va_E) (H : Heap) (locs : List Loc) : Prop := Hp D B N g H ∧ va_S (fun q => B ≤ q) H0 H locs
theorem St.size {D : va_G} {B N : Nat} {H0 H : Heap} {g : Nat → va_E} {locs : List Loc} (h : St D B H0 N g H locs) : H.size = B + N := h.1.1
theorem St.cell {D : va_G} {B N i : Nat} {H0 H : Heap} {g : Nat → va_E} {locs : List Loc} {e : va_E} (h : St D B H0 N g H locs) (hi : i < N) (he : g i = e) : va_at D vwCl (B + i, e) H := by
  rw [← he]
  exact h.1.2 i hi
theorem St.put {D : va_G} {B N i k : Nat} {H0 H H1 : Heap} {g : Nat → va_E} {locs : List Loc} {e : va_E} (h : St D B H0 N g H locs) (he : va_at D vwCl (B + i, e) H1) (z : H1.size = H.size) (oq : ∀ q : Nat, q ≠ B + i → H1[q]? = H[q]?) : St D B H0 N (va_up g i e) H1 (locs ++ [⟨B + i, k⟩]) := ⟨h.1.put he z oq, h.2.put z oq (Nat.le_add_right _ _)⟩
theorem St.push {D : va_G} {B N : Nat} {H0 H H1 : Heap} {g : Nat → va_E} {locs : List Loc} {e : va_E} (h : St D B H0 N g H locs) (he : va_at D vwCl (B + N, e) H1) (z : H1.size = H.size + 1) (oq : ∀ q : Nat, q < H.size → H1[q]? = H[q]?) : St D B H0 (N + 1) (va_up g N e) H1 locs :=
  ⟨h.1.push he z oq, Nat.le_trans h.2.1 (by omega), fun x h1 h2 => (oq x (Nat.lt_of_lt_of_le h1 h.2.1)).trans (h.2.2.1 x h1 h2), h.2.2.2⟩
def nestL : List (String × Nat × MethodName) := [(RX7, 11, yX3_init), (RX7, 18, yX6_init), (RX7, 25, yX1_init), (RX7, 32, yX5_init), (RX7, 39, yX4_init), (RX2, 22, yX5_init), (RX2, 33, yX4_init), (RX0, 23, yX4_init), (RX0, 35, yX5_init)]
def Hk (D : va_G) (t : Gx) (U : State) : Prop := va_K D vwCl (tysOf t) U ∧ (∀ q ∈ nestL, va_Nw (.methodLinkNest q.1 q.2.1 q.2.2 RX7) U) ∧ va_AO RX4 U ∧ va_AO RX5 U ∧ va_Nw (.arrayOver (.array .int)) U
theorem ao_moved {ty : FieldType} {u U : State} (hvm : u.vm.Alike U.vm) (h : va_Nw (.arrayOver ty) u) : va_Nw (.arrayOver ty) U := by
  have h1 : (Cond.arrayOver ty).before #[] (u.setVm U.vm) = true := by rw [Cond.arrayOver_setVmC hvm]; exact h
  exact h1
theorem Hk.warm {D : va_G} {t : Gx} {s U : State} (hW : s.WarmedH U.vm) (h : Hk D t s) : Hk D t U :=
  ⟨va_K.moved hW.alike h.1, fun q hq => va_Nw.warmM hW (h.2.1 q hq), va_AO.moved hW.alike h.2.2.1, va_AO.moved hW.alike h.2.2.2.1, ao_moved hW.alike h.2.2.2.2⟩
theorem Hk.same {D : va_G} {t : Gx} {s U : State} (e : s.vm = U.vm) (h : Hk D t s) : Hk D t U := by
  have hal : s.vm.Alike U.vm := by rw [e]; exact Vm.Alike.refl U.vm
  exact ⟨va_K.moved hal h.1, fun q hq => va_Nw.same rfl e (h.2.1 q hq), va_AO.moved hal h.2.2.1, va_AO.moved hal h.2.2.2.1, ao_moved hal h.2.2.2.2⟩
/-- what holds of a method's body -/
def Cx (D : va_G) (t : Gx) (p : Program) (s : State) (m : MethodId) (args : Array Value) (c : Code) (cc : ByteArray) (nL : Nat) (own : String) : Prop :=
  CallFix p m c cc nL s args lw_good own ∧ Hk D t s
abbrev preH (D : va_G) (t : Gx) (B N : Nat) (g : Nat → va_E) : State → Prop := fun U => Hp D B N g U.heap ∧ Hk D t U
abbrev qI (D : va_G) (B N : Nat) (post : Int32 → (Nat → va_E) → Prop) : Array Value → State → Outcome → State → Prop := va_Qi post (fun g' u => Hp D B N g' u.heap) (fun q => B ≤ q)
abbrev qV (D : va_G) (B N : Nat) (post : (Nat → va_E) → Prop) : Array Value → State → Outcome → State → Prop := va_Qv post (fun g' u => Hp D B N g' u.heap) (fun q => B ≤ q)
abbrev rmOf (fr lo mc ms : Nat) : Room := { frames := fr, cells := mc, slots := ms, locals := lo }
/-- a contract whose answer is an int -/
def Ci (l : Launch) (D : va_G) (t : Gx) (B N : Nat) (y : MethodName) (cc : ByteArray) (nL : Nat) (ret : Option FieldType) (fr lo : Nat) (g : Nat → va_E) (av : List Value) (post : Int32 → (Nat → va_E) → Prop) : Prop :=
  Met l y (wu y cc nL ret) (rmOf fr lo 0 0) (va_Pc av (preH D t B N g)) (qI D B N post) 0 0 (fun q => B ≤ q)
/-- a contract without an answer -/
def Cv (l : Launch) (D : va_G) (t : Gx) (B N N' mc ms : Nat) (y : MethodName) (cc : ByteArray) (nL : Nat) (fr lo : Nat) (g : Nat → va_E) (av : List Value) (post : (Nat → va_E) → Prop) : Prop :=
  Met l y (wu y cc nL none) (rmOf fr lo mc ms) (va_Pc av (preH D t B N g)) (qV D B N' post) mc ms (fun q => B ≤ q)
theorem pre_blind {D : va_G} {t : Gx} {B N : Nat} {g : Nat → va_E} {av : List Value} : FrameBlind (va_Pc av (preH D t B N g)) := fun _ _ _ _ q => ⟨q.1, q.2.1, q.2.2.same rfl⟩
theorem Ci.start {l : Launch} {D : va_G} {t : Gx} {B N : Nat} {y : MethodName} {cc : ByteArray} {nL : Nat} {ret : Option FieldType} {fr lo : Nat} {g : Nat → va_E} {av : List Value} {post : Int32 → (Nat → va_E) → Prop} (hy : plainName y.cls = true) (hlen : (lg_sl av).length ≤ nL)
    (body : ∀ (p : Program) (e : Env) (s : State) (m : MethodId) (below : List Frame) (meth : Method) (c : Code) (ls : Array Slot), Cx D t p s m av.toArray c cc nL y.cls → meth.sig.returnType = ret → meth.locks = false → St D B s.heap N g s.heap [] → lv_has ls nL (lv_args 0 av) →
      W p l e (rmOf fr lo 0 0) s m av.toArray below meth c s.heap [] 0 0 (MQ below (qI D B N post) av.toArray s 0 0 (fun q => B ≤ q)) (F0 m 0 ls [])) : Ci l D t B N y cc nL ret fr lo g av post := by
  refine Met.ofW (cc := cc) (maxL := nL) (ret := ret) hy rfl ?_
  intro p e s m args below meth c s₁ Bd hml hv
  obtain ⟨rfl, hP, hK⟩ := hv
  have hts := atoms_spec (ws := wu y cc nL ret) Bd.pre
  rw [lg_entry_eq]
  exact body p e s m below meth c _ ⟨⟨Bd.exec, Bd.bytes, hml, findClass_of_methodNamed Bd.named, fun w hw => hts w (List.mem_cons_of_mem _ hw)⟩, hK⟩ Bd.returns Bd.notSynchronized ⟨hP, va_S.rf⟩ (lv_entry av hlen)
theorem Cv.start {l : Launch} {D : va_G} {t : Gx} {B N N' mc ms : Nat} {y : MethodName} {cc : ByteArray} {nL : Nat} {fr lo : Nat} {g : Nat → va_E} {av : List Value} {post : (Nat → va_E) → Prop} (hy : plainName y.cls = true) (hlen : (lg_sl av).length ≤ nL)
    (body : ∀ (p : Program) (e : Env) (s : State) (m : MethodId) (below : List Frame) (meth : Method) (c : Code) (ls : Array Slot), Cx D t p s m av.toArray c cc nL y.cls → meth.sig.returnType = none → meth.locks = false → meth.name = y.name → St D B s.heap N g s.heap [] → lv_has ls nL (lv_args 0 av) →
      W p l e (rmOf fr lo mc ms) s m av.toArray below meth c s.heap [] 0 0 (MQ below (qV D B N' post) av.toArray s mc ms (fun q => B ≤ q)) (F0 m 0 ls [])) : Cv l D t B N N' mc ms y cc nL fr lo g av post := by
  refine Met.ofW (cc := cc) (maxL := nL) (ret := none) hy rfl ?_
  intro p e s m args below meth c s₁ Bd hml hv
  obtain ⟨rfl, hP, hK⟩ := hv
  have hts := atoms_spec (ws := wu y cc nL none) Bd.pre
  rw [lg_entry_eq]
  exact body p e s m below meth c _ ⟨⟨Bd.exec, Bd.bytes, hml, findClass_of_methodNamed Bd.named, fun w hw => hts w (List.mem_cons_of_mem _ hw)⟩, hK⟩ Bd.returns Bd.notSynchronized (name_of_methodNamed Bd.named Bd.method).1 ⟨hP, va_S.rf⟩ (lv_entry av hlen)
/-- a class's own facts: its number, its fields -/
def CK (ci : Nat) (C : String) (T : u_T) (N : Nat) (ty0 : Nat → FieldType) : Prop := vwCl[ci]? = some (C, T, N) ∧ (∀ w ∈ u_ws C T N, w ∈ lw_good) ∧ (∀ k, k < N → parseFieldDescriptor (T k).2.2.1 = some (ty0 k)) ∧ (∀ a, a < N → ∀ b, b < N → a ≠ b → (T a).2.1 ≠ (T b).2.1)
/-- a method's own facts -/
def MF (y : MethodName) (cc : ByteArray) (nL : Nat) (ret : Option FieldType) (n : Nat) : Prop := Cond.initialized y.cls ∈ lw_good ∧ Cond.code y cc nL ret ∈ lw_good ∧ y.cls ≠ "java/lang/invoke/MethodHandle" ∧ y.cls ≠ "java/lang/invoke/VarHandle" ∧ (parseMethodDescriptor y.desc).map (fun d => d.parameters.length) = some n
section RO
variable {p : Program} {l : Launch} {e : Env} {R : Room} {s : State} {m : MethodId} {args : Array Value} {below : List Frame} {meth : Method} {c : Code} {H : Heap} {locs : List Loc} {cells slots : Nat} {Q : State → Prop}
variable {cc : ByteArray} {pc nL : Nat} {ls : Array Slot} {rest : List Value} {D : va_G} {t : Gx} {own : String} {B N : Nat} {g : Nat → va_E} {H0 : Heap}
theorem Cx.x (C : Cx D t p s m args c cc nL own) : p.tables.exec = Jvm.exec := C.1.1
theorem Cx.b (C : Cx D t p s m args c cc nL own) : c.code = cc := C.1.2.1
theorem Cx.o (C : Cx D t p s m args c cc nL own) : s.vm.findClass own = some m.cls := C.1.2.2.2.1
theorem Cx.w (C : Cx D t p s m args c cc nL own) {w : Cond} (h : w ∈ lw_good) : w.before args s = true := C.1.2.2.2.2 w h
theorem Cx.k (C : Cx D t p s m args c cc nL own) : va_K D vwCl (tysOf t) s := C.2.1
theorem r_iret {post : Int32 → (Nat → va_E) → Prop} {v : Int32} (C : Cx D t p s m args c cc nL own) (hr : meth.sig.returnType = some .int) (hlocks : meth.locks = false) (hS : St D B s.heap N g H locs) (hp : post v g) (hdg : decode cc pc = .ok (.ireturn, 1)) :
    W p l e R s m args below meth c H locs cells slots (MQ below (qI D B N post) args s cells slots (fun q => B ≤ q)) (F0 m pc ls [.int v]) :=
  W.iret C.x C.b hr (fun u hu _ => ⟨⟨v, g, rfl, hp, show Hp D B N g u.heap by rw [hu]; exact hS.1⟩, hS.2.F hu⟩) hS.2.2.2 hdg hlocks
theorem nar_z {v : Int32} (h : v = 0 ∨ v = 1) : narrow .boolean (.int v) = .int v := by
  rcases h with h | h <;> subst h <;> rfl
theorem r_zret {post : Int32 → (Nat → va_E) → Prop} {v : Int32} (C : Cx D t p s m args c cc nL own) (hr : meth.sig.returnType = some .boolean) (hlocks : meth.locks = false) (hS : St D B s.heap N g H locs) (hn : v = 0 ∨ v = 1) (hp : post v g) (hdg : decode cc pc = .ok (.ireturn, 1)) :
    W p l e R s m args below meth c H locs cells slots (MQ below (qI D B N post) args s cells slots (fun q => B ≤ q)) (F0 m pc ls [.int v]) :=
  W.zret C.x C.b hr (nar_z hn) (fun u hu _ => ⟨⟨v, g, rfl, hp, show Hp D B N g u.heap by rw [hu]; exact hS.1⟩, hS.2.F hu⟩) hS.2.2.2 hdg hlocks
theorem r_vret {post : (Nat → va_E) → Prop} (C : Cx D t p s m args c cc nL own) (hr : meth.sig.returnType = none) (hlocks : meth.locks = false) (hS : St D B s.heap N g H locs) (hp : post g) (hdg : decode cc pc = .ok (.return_, 1)) :
    W p l e R s m args below meth c H locs cells slots (MQ below (qV D B N post) args s cells slots (fun q => B ≤ q)) (F0 m pc ls []) :=
  W.vret C.x C.b hr (fun u hu _ => ⟨⟨g, rfl, hp, show Hp D B N g u.heap by rw [hu]; exact hS.1⟩, hS.2.F hu⟩) hS.2.2.2 hdg hlocks
theorem r_get {ci Nf k index i : Nat} {Cn : String} {T : u_T} {ty0 : Nat → FieldType} {fs : List Value} {v : Value} (K : CK ci Cn T Nf ty0) (hl : Cond.fieldLink own index (T k).1 (T k).2.1 (T k).2.2.1 ∈ lw_good) (C : Cx D t p s m args c cc nL own) (hS : St D B H0 N g H locs) (hi : i < N) (he : g i = .inr (ci, fs)) (hk : k < Nf) (hv : fs[k]? = some v) (hdg : decode cc pc = .ok (.getfield index, 3))
    (kk : W p l e R s m args below meth c H locs cells slots Q (F0 m (pc + 3) ls (v :: rest))) : W p l e R s m args below meth c H locs cells slots Q (F0 m pc ls (.ref (B + i) :: rest)) :=
  va_get (D := D) (ci := ci) (v := v) (C := Cn) (T := T) (N := Nf) (Ts := lw_good) C.x C.b C.1.2.2.2.2 K.2.1 C.o C.k hS.1.P i (by rw [wl_get hi, he]) K.1 k hk (C.w hl) (fun _ h9 => h9) hv hdg kk
theorem r_put {ci Nf k index i : Nat} {Cn : String} {T : u_T} {ty0 : Nat → FieldType} {fs : List Value} {v : Value} (K : CK ci Cn T Nf ty0) (hl : Cond.fieldLink own index (T k).1 (T k).2.1 (T k).2.2.1 ∈ lw_good) (C : Cx D t p s m args c cc nL own) (hS : St D B H0 N g H locs) (hi : i < N) (he : g i = .inr (ci, fs)) (hk : k < Nf) (hfin : (T k).2.2.2 = false) (hn : narrow (ty0 k) v = v) (hfit : fits (ty0 k) v = true) (hlen : k < fs.length) (hdg : decode cc pc = .ok (.putfield index, 3))
    (kk : ∀ (g' : Nat → va_E) (H1 : Heap) (locs1 : List Loc), g' i = .inr (ci, fs.set k v) → (∀ j, j ≠ i → g' j = g j) → St D B H0 N g' H1 locs1 → W p l e R s m args below meth c H1 locs1 cells slots Q (F0 m (pc + 3) ls rest)) : W p l e R s m args below meth c H locs cells slots Q (F0 m pc ls (v :: .ref (B + i) :: rest)) := by
  have hap := va_apart (own := own) C.1.2.2.2.2 K.2.1 ty0 K.2.2.1 K.2.2.2 C.k K.1
  obtain ⟨r, h1, cell, q1, q2, q3, q4⟩ := hS.cell hi he
  have hr : r = (Cn, T, Nf) := Option.some.inj (h1.symm.trans K.1)
  subst hr
  obtain ⟨hSl, hfc, kC, hkC, hkind⟩ := C.k.1 ci _ K.1
  obtain ⟨cf, kf, fi, f, hif, hsl⟩ := hSl k hk
  have hlay := C.w (K.2.1 _ (u_in_lay hk))
  unfold u_lay at hlay
  rw [if_neg (by rw [hfin]; decide)] at hlay
  have hst := (u_facts hfc hkC (u_lays C.1.2.2.2.2 K.2.1 hk) hif).1
  have h6 := u_store hfc hkC hkind hlay hif (K.2.2.1 k hk) hn hfit
  refine W.putK C.x C.b (f := f) ⟨C.o, C.w hl, ⟨_, _, _, hif⟩, hst⟩ (by rw [q2]; exact h6) q1 q3 (by rw [hsl]; exact k2_hasslot (q4 k hk)) rfl rfl hdg fun H' e1 e2 e3 => ?_
  rw [hsl] at e1 ⊢
  exact kk _ H' _ va_up_s (fun j hj => va_up_n hj) (hS.put (e := .inr (ci, fs.set k v)) ⟨_, K.1, t_OB.to (V := updV (vp_V fs) k v) ⟨_, e1, q2, q3, t_set q4 hap hk v⟩ (fun j _ => vp_updV_set hlen v j)⟩ e2 e3)
theorem r_putF {ci Nf k index i : Nat} {Cn : String} {T : u_T} {ty0 : Nat → FieldType} {fs : List Value} {v : Value} (K : CK ci Cn T Nf ty0) (hl : Cond.fieldLink own index (T k).1 (T k).2.1 (T k).2.2.1 ∈ lw_good) (C : Cx D t p s m args c cc nL own) (hS : St D B H0 N g H locs) (hi : i < N) (he : g i = .inr (ci, fs)) (hk : k < Nf) (hfin : (T k).2.2.2 = true) (hin2 : meth.name = "<init>") (hdecl : (T k).1 = own) (hn : narrow (ty0 k) v = v) (hfit : fits (ty0 k) v = true) (hlen : k < fs.length) (hdg : decode cc pc = .ok (.putfield index, 3))
    (kk : ∀ (g' : Nat → va_E) (H1 : Heap) (locs1 : List Loc), g' i = .inr (ci, fs.set k v) → (∀ j, j ≠ i → g' j = g j) → St D B H0 N g' H1 locs1 → W p l e R s m args below meth c H1 locs1 cells slots Q (F0 m (pc + 3) ls rest)) : W p l e R s m args below meth c H locs cells slots Q (F0 m pc ls (v :: .ref (B + i) :: rest)) := by
  have hap := va_apart (own := own) C.1.2.2.2.2 K.2.1 ty0 K.2.2.1 K.2.2.2 C.k K.1
  obtain ⟨r, h1, cell, q1, q2, q3, q4⟩ := hS.cell hi he
  have hr : r = (Cn, T, Nf) := Option.some.inj (h1.symm.trans K.1)
  subst hr
  obtain ⟨hSl, hfc, kC, hkC, hkind⟩ := C.k.1 ci _ K.1
  obtain ⟨cf, kf, fi, f, hif, hsl⟩ := hSl k hk
  have hlay := C.w (K.2.1 _ (u_in_lay hk))
  unfold u_lay at hlay
  rw [if_pos hfin] at hlay
  have hst := (u_facts hfc hkC (u_lays C.1.2.2.2.2 K.2.1 hk) hif).1
  have hcf : m.cls = cf := by
    obtain ⟨_, _, c', _, _, _, -, -, hf', -, -, -, hown2, -⟩ := Cond.laysFinal_spec hlay
    have e1 : c' = cf := by have := hif.symm.trans hf'; simp at this; exact this.1.symm
    rw [hdecl] at hown2
    rw [← e1]; exact Option.some.inj (C.o.symm.trans hown2)
  have h6 := u_fits hfc hkC hkind (Or.inr hlay) hif (K.2.2.1 k hk) hn hfit
  refine W.putFinK C.x C.b C.o (C.w hl) hif hst hcf hin2 (by rw [q2]; exact h6) q1 q3 (by rw [hsl]; exact k2_hasslot (q4 k hk)) rfl rfl hdg fun H' e1 e2 e3 => ?_
  rw [hsl] at e1 ⊢
  exact kk _ H' _ va_up_s (fun j hj => va_up_n hj) (hS.put (e := .inr (ci, fs.set k v)) ⟨_, K.1, t_OB.to (V := updV (vp_V fs) k v) ⟨_, e1, q2, q3, t_set q4 hap hk v⟩ (fun j _ => vp_updV_set hlen v j)⟩ e2 e3)
end RO
