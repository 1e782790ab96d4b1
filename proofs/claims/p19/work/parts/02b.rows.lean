/-! array rows, making, calls -/
section RO
variable {p : Program} {l : Launch} {e : Env} {R : Room} {s : State} {m : MethodId} {args : Array Value} {below : List Frame} {meth : Method} {c : Code} {H : Heap} {locs : List Loc} {cells slots : Nat} {Q : State → Prop}
variable {cc : ByteArray} {pc nL : Nat} {ls : Array Slot} {rest : List Value} {D : va_G} {t : Gx} {own : String} {B N : Nat} {g : Nat → va_E} {H0 : Heap}
theorem r_iald {i n : Nat} {f : Nat → Int32} {x : Int32} (C : Cx D t p s m args c cc nL own) (hS : St D B H0 N g H locs) (hi : i < N) (he : g i = .inl (t.1, n, .inl f)) (hin : vp_in x n) (hdg : decode cc pc = .ok (.iaload, 1))
    (kk : W p l e R s m args below meth c H locs cells slots Q (F0 m (pc + 1) ls (.int (f x.toNatClampNeg) :: rest))) : W p l e R s m args below meth c H locs cells slots Q (F0 m pc ls (.int x :: .ref (B + i) :: rest)) :=
  va_iald C.x C.b C.k hS.1.P i 0 (by rw [wl_get hi, he]) rfl hin hdg kk
theorem r_ialdN {i n : Nat} {f : Nat → Int32} (k : Nat) {x : Int32} (hx : x = nI k) (hk : k < n) (hn : n < 2 ^ 31) (C : Cx D t p s m args c cc nL own) (hS : St D B H0 N g H locs) (hi : i < N) (he : g i = .inl (t.1, n, .inl f)) (hdg : decode cc pc = .ok (.iaload, 1))
    (kk : W p l e R s m args below meth c H locs cells slots Q (F0 m (pc + 1) ls (.int (f k) :: rest))) : W p l e R s m args below meth c H locs cells slots Q (F0 m pc ls (.int x :: .ref (B + i) :: rest)) := by
  subst hx
  refine r_iald C hS hi he (vp_in_nI hk hn) hdg ?_
  rw [nI_clamp (by omega)]
  exact kk
theorem r_zald {i n : Nat} {f : Nat → Int32} {x : Int32} (C : Cx D t p s m args c cc nL own) (hS : St D B H0 N g H locs) (hi : i < N) (he : g i = .inl (t.2.1, n, .inl f)) (hin : vp_in x n) (hdg : decode cc pc = .ok (.baload, 1))
    (kk : W p l e R s m args below meth c H locs cells slots Q (F0 m (pc + 1) ls (.int (f x.toNatClampNeg) :: rest))) : W p l e R s m args below meth c H locs cells slots Q (F0 m pc ls (.int x :: .ref (B + i) :: rest)) :=
  va_zald C.x C.b C.k hS.1.P i 1 (by rw [wl_get hi, he]) rfl hin hdg kk
theorem r_zaldN {i n : Nat} {f : Nat → Int32} (k : Nat) {x : Int32} (hx : x = nI k) (hk : k < n) (hn : n < 2 ^ 31) (C : Cx D t p s m args c cc nL own) (hS : St D B H0 N g H locs) (hi : i < N) (he : g i = .inl (t.2.1, n, .inl f)) (hdg : decode cc pc = .ok (.baload, 1))
    (kk : W p l e R s m args below meth c H locs cells slots Q (F0 m (pc + 1) ls (.int (f k) :: rest))) : W p l e R s m args below meth c H locs cells slots Q (F0 m pc ls (.int x :: .ref (B + i) :: rest)) := by
  subst hx
  refine r_zald C hS hi he (vp_in_nI hk hn) hdg ?_
  rw [nI_clamp (by omega)]
  exact kk
theorem r_iast {i n : Nat} {f : Nat → Int32} {x v : Int32} (C : Cx D t p s m args c cc nL own) (hS : St D B H0 N g H locs) (hi : i < N) (he : g i = .inl (t.1, n, .inl f)) (hin : vp_in x n) (hdg : decode cc pc = .ok (.iastore, 1))
    (kk : ∀ (g' : Nat → va_E) (H1 : Heap) (locs1 : List Loc), g' i = .inl (t.1, n, .inl (upd f x.toNatClampNeg v)) → (∀ j, j ≠ i → g' j = g j) → St D B H0 N g' H1 locs1 → W p l e R s m args below meth c H1 locs1 cells slots Q (F0 m (pc + 1) ls rest)) : W p l e R s m args below meth c H locs cells slots Q (F0 m pc ls (.int v :: .int x :: .ref (B + i) :: rest)) := by
  refine W.iast C.x C.b (hS.cell hi he) ((C.k.2 0 _ rfl).1 n (fun j => .int (f j))) (fun q => by cases q) (by show ¬ (x < 0 ∨ (arrV _ _ _).slots.size ≤ _); rw [arrV_size]; exact hin) rfl rfl hdg fun H1 e z oq => ?_
  refine kk _ H1 _ va_up_s (fun j hj => va_up_n hj) (hS.put ?_ z oq)
  show H1[B + i]? = some (vp_cell _ _)
  rw [e, vp_cell_i, vp_cell_i, arrV_store]
  congr 2
  funext q
  by_cases hq : q = x.toNatClampNeg
  · subst hq
    simp [updV, upd]
  · simp [updV, upd, hq]
theorem r_iastN {i n : Nat} {f : Nat → Int32} (k : Nat) {x v : Int32} (hx : x = nI k) (hk : k < n) (hn : n < 2 ^ 31) (C : Cx D t p s m args c cc nL own) (hS : St D B H0 N g H locs) (hi : i < N) (he : g i = .inl (t.1, n, .inl f)) (hdg : decode cc pc = .ok (.iastore, 1))
    (kk : ∀ (g' : Nat → va_E) (H1 : Heap) (locs1 : List Loc), g' i = .inl (t.1, n, .inl (upd f k v)) → (∀ j, j ≠ i → g' j = g j) → St D B H0 N g' H1 locs1 → W p l e R s m args below meth c H1 locs1 cells slots Q (F0 m (pc + 1) ls rest)) : W p l e R s m args below meth c H locs cells slots Q (F0 m pc ls (.int v :: .int x :: .ref (B + i) :: rest)) := by
  subst hx
  refine r_iast C hS hi he (vp_in_nI hk hn) hdg (fun g' H1 locs1 h1 h2 h3 => kk g' H1 locs1 ?_ h2 h3)
  rw [h1, nI_clamp (by omega)]
theorem nar_zz {v : Int32} (h : v = 0 ∨ v = 1) : vp_nar .boolean v = v := by
  rcases h with h | h <;> subst h <;> rfl
theorem r_zastN {i n : Nat} {f : Nat → Int32} (k : Nat) {x v : Int32} (hx : x = nI k) (hk : k < n) (hn : n < 2 ^ 31) (hv : v = 0 ∨ v = 1) (C : Cx D t p s m args c cc nL own) (hS : St D B H0 N g H locs) (hi : i < N) (he : g i = .inl (t.2.1, n, .inl f)) (hdg : decode cc pc = .ok (.bastore, 1))
    (kk : ∀ (g' : Nat → va_E) (H1 : Heap) (locs1 : List Loc), g' i = .inl (t.2.1, n, .inl (upd f k v)) → (∀ j, j ≠ i → g' j = g j) → St D B H0 N g' H1 locs1 → W p l e R s m args below meth c H1 locs1 cells slots Q (F0 m (pc + 1) ls rest)) : W p l e R s m args below meth c H locs cells slots Q (F0 m pc ls (.int v :: .int x :: .ref (B + i) :: rest)) := by
  subst hx
  have hin : vp_in (nI k) n := vp_in_nI hk hn
  refine W.zast C.x C.b (hS.cell hi he) ((C.k.2 1 _ rfl).1 n (fun j => .int (f j))) (fun q => by cases q) (by show ¬ (nI k < 0 ∨ (arrV _ _ _).slots.size ≤ _); rw [arrV_size]; exact hin) rfl rfl hdg fun H1 e z oq => ?_
  refine kk _ H1 _ va_up_s (fun j hj => va_up_n hj) (hS.put ?_ z oq)
  show H1[B + i]? = some (vp_cell _ _)
  rw [e, nar_z hv, vp_cell_i, vp_cell_i, arrV_store, nI_clamp (by omega)]
  congr 2
  funext q
  by_cases hq : q = k
  · subst hq
    simp [updV, upd]
  · simp [updV, upd, hq]
theorem r_alen {i n : Nat} {f : Nat → Int32} (C : Cx D t p s m args c cc nL own) (hS : St D B H0 N g H locs) (hi : i < N) (he : g i = .inl (t.1, n, .inl f)) (hdg : decode cc pc = .ok (.arraylength, 1))
    (kk : W p l e R s m args below meth c H locs cells slots Q (F0 m (pc + 1) ls (.int (nI n) :: rest))) : W p l e R s m args below meth c H locs cells slots Q (F0 m pc ls (.ref (B + i) :: rest)) :=
  W.alen (n := nI n) C.x C.b (hS.cell hi he) ((C.k.2 0 _ rfl).1 n (fun j => .int (f j))) (by rw [vp_cell_i, arrV_size]; rfl) rfl rfl hdg kk
/-- a reference out of an array of references of kind ty (the number t0 of tysOf) -/
theorem r_aald {i n a : Nat} {f : Nat → Option Nat} (k : Nat) {x : Int32} (hx : x = nI k) (hk : k < n) (hn : n < 2 ^ 31) (ha : f k = some a) (C : Cx D t p s m args c cc nL own) (hS : St D B H0 N g H locs) (hi : i < N) (t0 : Nat) {cA : ClassId} {ty : FieldType} (ht : (tysOf t)[t0]? = some (cA, ty)) (hty : ty.isReference = true) (he : g i = .inl (cA, n, .inr (.inr (.inr (.inr f))))) (hdg : decode cc pc = .ok (.aaload, 1))
    (kk : W p l e R s m args below meth c H locs cells slots Q (F0 m (pc + 1) ls (.ref a :: rest))) : W p l e R s m args below meth c H locs cells slots Q (F0 m pc ls (.int x :: .ref (B + i) :: rest)) := by
  subst hx
  have hin : vp_in (nI k) n := vp_in_nI hk hn
  exact W.aald (v := .ref a) (ty := ty) C.x C.b (hS.cell hi he) ((C.k.2 t0 _ ht).1 n (fun j => va_rf (f j))) hty (fun q => by cases q) (by show ¬ (nI k < 0 ∨ (arrV _ _ _).slots.size ≤ _); rw [arrV_size]; exact hin) (by show (arrV _ _ _).slots[_]? = _; rw [nI_clamp (by omega), arrV_read _ _ hk, ha]; rfl) rfl rfl hdg kk
/-- an object into an array of references -/
theorem r_aast {i n b ci : Nat} {f : Nat → Option Nat} {vs : List Value} {r : vw_C} (k : Nat) {x : Int32} (hx : x = nI k) (hk : k < n) (hn : n < 2 ^ 31) (C : Cx D t p s m args c cc nL own) (hS : St D B H0 N g H locs) (hi : i < N) (hbN : b < N) (t0 : Nat) {cA : ClassId} (ht : (tysOf t)[t0]? = some (cA, .object r.1)) (hc : vwCl[ci]? = some r) (hv : g b = .inr (ci, vs)) (he : g i = .inl (cA, n, .inr (.inr (.inr (.inr f))))) (hdg : decode cc pc = .ok (.aastore, 1))
    (kk : ∀ (g' : Nat → va_E) (H1 : Heap) (locs1 : List Loc), g' i = .inl (cA, n, .inr (.inr (.inr (.inr (va_up f k (some (B + b))))))) → (∀ j, j ≠ i → g' j = g j) → St D B H0 N g' H1 locs1 → W p l e R s m args below meth c H1 locs1 cells slots Q (F0 m (pc + 1) ls rest)) : W p l e R s m args below meth c H locs cells slots Q (F0 m pc ls (.ref (B + b) :: .int x :: .ref (B + i) :: rest)) := by
  subst hx
  have hin : vp_in (nI k) n := vp_in_nI hk hn
  have h0 : ¬ nI k < 0 := fun q => hin (Or.inl q)
  have hlt : (nI k).toNatClampNeg < n := Nat.not_le.mp fun q => hin (Or.inr q)
  obtain ⟨r', hr', cellV, g1, g2, g3, -⟩ := hS.cell hbN hv
  have hcls := (C.k.1 ci r hc).2
  obtain ⟨kA, comp, k1, k2, k3, -⟩ := (C.k.2 t0 _ ht).2
  have hcomp : comp = D.1 ci := Option.some.inj (k3.symm.trans hcls.1)
  subst hcomp
  obtain ⟨kC, hkC, -⟩ := hcls.2
  refine W.aast C.x C.b (hS.cell hi he) (fun q h => by cases h) (fun h => by cases h) k1 k2 rfl hkC ⟨h0, by show _ < (arrV _ _ _).slots.size; rw [arrV_size]; exact hlt⟩ g1 (fun q h => by rw [g3] at h; cases h) (by rw [g2]; exact hkC) (by rw [g2]; exact va_assign hcls) rfl rfl hdg fun H1 e z oq => ?_
  refine kk _ H1 _ va_up_s (fun j hj => va_up_n hj) (hS.put ?_ z oq)
  show H1[B + i]? = some (vp_cell _ _)
  rw [e, vp_cell_q, vp_cell_q, arrV_store, nI_clamp (by omega)]
  congr 2
  funext q
  by_cases hq : q = k
  · subst hq
    simp [updV, va_up, va_rf]
  · simp [updV, va_up, hq]
theorem r_new {ci Nf index : Nat} {Cn : String} {T : u_T} {ty0 : Nat → FieldType} {fs : List Value} (K : CK ci Cn T Nf ty0) (hcl : Cond.classLink own index Cn ∈ lw_good) (hins : Cond.instantiable Cn Nf ∈ lw_good) (hini : Cond.initialized Cn ∈ lw_good) (hfs : ∀ j, j < Nf → defaultValue (ty0 j) = vp_V fs j) (C : Cx D t p s m args c cc nL own) (hS : St D B H0 N g H locs) (hcells : cells + 1 ≤ R.cells) (hslots : slots + Nf ≤ R.slots) (hdg : decode cc pc = .ok (.new index, 3))
    (kk : ∀ (g' : Nat → va_E) (H1 : Heap), g' N = .inr (ci, fs) → (∀ j, j < N → g' j = g j) → St D B H0 (N + 1) g' H1 locs → W p l e R s m args below meth c H1 locs (cells + 1) (slots + Nf) Q (F0 m (pc + 3) ls (.ref (B + N) :: rest))) : W p l e R s m args below meth c H locs cells slots Q (F0 m pc ls rest) := by
  have hKn := C.k.1 ci _ K.1
  refine W.newcK C.x C.b C.o (C.w hcl) (C.w hins) (C.w hini) rfl hdg hcells hslots hKn.2.1 hS.size fun H1 kC hkC e1 z1 o1 => ?_
  refine kk _ H1 va_up_s (fun j hj => va_up_n (Nat.ne_of_lt hj)) (hS.push ⟨_, K.1, (u_born ty0 C.1.2.2.2.2 K.2.1 hKn hkC e1 K.2.2.1).to hfs⟩ (by rw [z1, hS.size]) (fun q hq => o1 q (by rw [← hS.size]; exact hq)))
theorem r_newI {n : Int32} {n' : Nat} (harr : Cond.arrayClass .int ∈ lw_good) (C : Cx D t p s m args c cc nL own) (hS : St D B H0 N g H locs) (hn : n = nI n') (hn' : n' < 100000) (hcells : cells + 1 ≤ R.cells) (hslots : slots + n' ≤ R.slots) (hdg : decode cc pc = .ok (.newarray .int, 2))
    (kk : ∀ (g' : Nat → va_E) (H1 : Heap), g' N = .inl (t.1, n', .inl (fun _ => 0)) → (∀ j, j < N → g' j = g j) → St D B H0 (N + 1) g' H1 locs → W p l e R s m args below meth c H1 locs (cells + 1) (slots + n') Q (F0 m (pc + 2) ls (.ref (B + N) :: rest))) : W p l e R s m args below meth c H locs cells slots Q (F0 m pc ls (.int n :: rest)) := by
  subst hn
  refine va_newaK C.x C.b (atype := .int) (C.w harr) rfl hdg rfl (nI_pos (by omega)) (nI_clamp (by omega)) (by show n' * 4 ≤ _; omega) hcells hslots hS.size fun H1 cA e1 z1 o1 hAr hNm => ?_
  have hc : cA = t.1 := Option.some.inj (hNm.symm.trans (C.k.2 0 _ rfl).2)
  subst hc
  exact kk _ H1 va_up_s (fun j hj => va_up_n (Nat.ne_of_lt hj)) (hS.push (e := .inl (t.1, n', .inl (fun _ => 0))) e1 (by rw [z1, hS.size]) (fun q hq => o1 q (by rw [← hS.size]; exact hq)))
theorem r_newZ {n : Int32} {n' : Nat} (harr : Cond.arrayClass .boolean ∈ lw_good) (C : Cx D t p s m args c cc nL own) (hS : St D B H0 N g H locs) (hn : n = nI n') (hn' : n' < 100000) (hcells : cells + 1 ≤ R.cells) (hslots : slots + n' ≤ R.slots) (hdg : decode cc pc = .ok (.newarray .boolean, 2))
    (kk : ∀ (g' : Nat → va_E) (H1 : Heap), g' N = .inl (t.2.1, n', .inl (fun _ => 0)) → (∀ j, j < N → g' j = g j) → St D B H0 (N + 1) g' H1 locs → W p l e R s m args below meth c H1 locs (cells + 1) (slots + n') Q (F0 m (pc + 2) ls (.ref (B + N) :: rest))) : W p l e R s m args below meth c H locs cells slots Q (F0 m pc ls (.int n :: rest)) := by
  subst hn
  refine va_newaK C.x C.b (atype := .boolean) (C.w harr) rfl hdg rfl (nI_pos (by omega)) (nI_clamp (by omega)) (by show n' * 1 ≤ _; omega) hcells hslots hS.size fun H1 cA e1 z1 o1 hAr hNm => ?_
  have hc : cA = t.2.1 := Option.some.inj (hNm.symm.trans (C.k.2 1 _ rfl).2)
  subst hc
  exact kk _ H1 va_up_s (fun j hj => va_up_n (Nat.ne_of_lt hj)) (hS.push (e := .inl (t.2.1, n', .inl (fun _ => 0))) e1 (by rw [z1, hS.size]) (fun q hq => o1 q (by rw [← hS.size]; exact hq)))
theorem r_newQ {n : Int32} {n' index : Nat} {Cn : String} (t0 : Nat) {cQ : ClassId} (ht : (tysOf t)[t0]? = some (cQ, .object Cn)) (hcl : Cond.classLink own index Cn ∈ lw_good) (hov : va_AO Cn s) (C : Cx D t p s m args c cc nL own) (hS : St D B H0 N g H locs) (hn : n = nI n') (hn' : n' < 100000) (hcells : cells + 1 ≤ R.cells) (hslots : slots + n' ≤ R.slots) (hdg : decode cc pc = .ok (.anewarray index, 3))
    (kk : ∀ (g' : Nat → va_E) (H1 : Heap), g' N = .inl (cQ, n', .inr (.inr (.inr (.inr (fun _ => none))))) → (∀ j, j < N → g' j = g j) → St D B H0 (N + 1) g' H1 locs → W p l e R s m args below meth c H1 locs (cells + 1) (slots + n') Q (F0 m (pc + 3) ls (.ref (B + N) :: rest))) : W p l e R s m args below meth c H locs cells slots Q (F0 m pc ls (.int n :: rest)) := by
  subst hn
  have hcl2 : (nI n').toNatClampNeg = n' := nI_clamp (by omega)
  refine W.anew C.x C.b C.o (C.w hcl) (va_AO.use hov) rfl hdg rfl (nI_pos (by omega)) (by rw [hcl2]; omega) hcells (by rw [hcl2]; exact hslots) fun cA kA comp f1 f2 f3 f4 => ?_
  rw [hcl2]
  obtain ⟨kA2, comp2, -, -, -, h4⟩ := (C.k.2 t0 _ ht).2
  have hc : cA = cQ := Option.some.inj (f1.symm.trans h4)
  subst hc
  have hsz : H.size = B + N := hS.size
  rw [hsz]
  refine kk _ _ va_up_s (fun j hj => va_up_n (Nat.ne_of_lt hj)) (hS.push (e := .inl (cA, n', .inr (.inr (.inr (.inr (fun _ => none)))))) ?_ (Array.size_push _) (fun q hq => by rw [Array.getElem?_push, if_neg (Nat.ne_of_lt hq)]))
  show (H.push _)[B + N]? = some (vp_cell _ _)
  rw [vp_cell_q, ← hsz, Array.getElem?_push_size, ← arrV_new]
  rfl
end RO
