/-! calls -/
section RC
variable {p : Program} {l : Launch} {e : Env} {R : Room} {s : State} {m : MethodId} {args : Array Value} {below : List Frame} {meth : Method} {c : Code} {H : Heap} {locs : List Loc} {cells slots : Nat} {Q : State → Prop}
variable {cc : ByteArray} {pc nL : Nat} {ls : Array Slot} {rest st : List Value} {D : va_G} {t : Gx} {own : String} {B N : Nat} {g : Nat → va_E}
variable {y : MethodName} {cy : ByteArray} {nLy index n fr lo : Nat} {ret : Option FieldType} {As : List Value}
/-- invokevirtual, an int comes back -/
theorem r_callV {b ci : Nat} {fs : List Value} {q : vw_C} {post : Int32 → (Nat → va_E) → Prop} (hM : Ci l D t B N y cy nLy ret fr lo g (.ref (B + b) :: As) post) (F : MF y cy nLy ret n) (hl : Cond.methodLink own index y ∈ lw_good) (hin : Cond.instanceMethod y ∈ lw_good) (hse : Cond.selects y.cls y y ∈ lw_good) (hR : fr + 1 ≤ R.frames ∧ 8 + (nLy + 11) + lo ≤ R.locals)
    (C : Cx D t p s m args c cc nL own) (hS : St D B s.heap N g H locs) (hbN : b < N) (he : g b = .inr (ci, fs)) (hc : vwCl[ci]? = some q) (hq : q.1 = y.cls) (hn : As.length = n) (hsize : ls.size = nL) (hst : st = As.reverse ++ .ref (B + b) :: rest) (hroom : (rest.map fun v => v.category).sum ≤ 8) (hdg : decode cc pc = .ok (.invokevirtual index, 3)) (hcs : cells ≤ R.cells ∧ slots ≤ R.slots)
    (kk : ∀ (r : Int32) (g' : Nat → va_E) (H1 : Heap) (locs1 : List Loc), post r g' → St D B s.heap N g' H1 locs1 → W p l e R s m args below meth c H1 locs1 cells slots Q (F0 m (pc + 3) ls (.int r :: rest))) : W p l e R s m args below meth c H locs cells slots Q (F0 m pc ls st) := by
  have cw : CallW R s args own y.cls index y cy nLy ret (wu y cy nLy ret) (rmOf fr lo 0 0) 0 0 n := ⟨callB_of (ws' := lw_good) n C.1.2.2.2.2 (wu_good F.2.1) rfl rfl rfl (C.w F.1) (C.w hl) F.2.2 hR, C.w hin, C.w hse⟩
  obtain ⟨r9, h9, cell, k1, k2, k3, -⟩ := hS.cell hbN he
  have hrecv : ∃ cellB : Cell, H[B + b]? = some cellB ∧ cellB.vm.isStatics = false ∧ s.vm.findClass y.cls = some cellB.cls := ⟨cell, k1, by rw [k3]; rfl, by rw [k2, ← hq]; exact (C.k.1 ci q hc).2.1⟩
  refine va_calli (va_runV C.1 hM cw ⟨pre_blind, hrecv, fun U hU hW => ⟨rfl, show Hp D B N g U.heap by rw [hU]; exact hS.1, C.2.warm hW⟩⟩ rfl hn hsize hst (lv_room hroom) hdg hcs) hS.2 (fun _ _ h => h) (fun _ h => h) (fun r u t' H1 locs1 ht hvm hw hB hz1 hk1 hS1 => ?_)
  exact kk r u H1 locs1 hw ⟨by rw [← ht]; exact hB, hS1⟩
/-- invokevirtual, nothing comes back -/
theorem r_callVv {b ci : Nat} {fs : List Value} {q : vw_C} {post : (Nat → va_E) → Prop} (hM : Cv l D t B N N 0 0 y cy nLy fr lo g (.ref (B + b) :: As) post) (F : MF y cy nLy none n) (hl : Cond.methodLink own index y ∈ lw_good) (hin : Cond.instanceMethod y ∈ lw_good) (hse : Cond.selects y.cls y y ∈ lw_good) (hR : fr + 1 ≤ R.frames ∧ 8 + (nLy + 11) + lo ≤ R.locals)
    (C : Cx D t p s m args c cc nL own) (hS : St D B s.heap N g H locs) (hbN : b < N) (he : g b = .inr (ci, fs)) (hc : vwCl[ci]? = some q) (hq : q.1 = y.cls) (hn : As.length = n) (hsize : ls.size = nL) (hst : st = As.reverse ++ .ref (B + b) :: rest) (hroom : (rest.map fun v => v.category).sum ≤ 8) (hdg : decode cc pc = .ok (.invokevirtual index, 3)) (hcs : cells ≤ R.cells ∧ slots ≤ R.slots)
    (kk : ∀ (g' : Nat → va_E) (H1 : Heap) (locs1 : List Loc), post g' → St D B s.heap N g' H1 locs1 → W p l e R s m args below meth c H1 locs1 cells slots Q (F0 m (pc + 3) ls rest)) : W p l e R s m args below meth c H locs cells slots Q (F0 m pc ls st) := by
  have cw : CallW R s args own y.cls index y cy nLy none (wu y cy nLy none) (rmOf fr lo 0 0) 0 0 n := ⟨callB_of (ws' := lw_good) n C.1.2.2.2.2 (wu_good F.2.1) rfl rfl rfl (C.w F.1) (C.w hl) F.2.2 hR, C.w hin, C.w hse⟩
  obtain ⟨r9, h9, cell, k1, k2, k3, -⟩ := hS.cell hbN he
  have hrecv : ∃ cellB : Cell, H[B + b]? = some cellB ∧ cellB.vm.isStatics = false ∧ s.vm.findClass y.cls = some cellB.cls := ⟨cell, k1, by rw [k3]; rfl, by rw [k2, ← hq]; exact (C.k.1 ci q hc).2.1⟩
  refine va_callv (va_runV C.1 hM cw ⟨pre_blind, hrecv, fun U hU hW => ⟨rfl, show Hp D B N g U.heap by rw [hU]; exact hS.1, C.2.warm hW⟩⟩ rfl hn hsize hst (lv_room hroom) hdg hcs) hS.2 (fun _ _ h => h) (fun _ h => h) (fun u t' H1 locs1 ht hvm hw hB hz1 hk1 hS1 => ?_)
  exact kk u H1 locs1 hw ⟨by rw [← ht]; exact hB, hS1⟩
/-- invokestatic, an int comes back -/
theorem r_callS {post : Int32 → (Nat → va_E) → Prop} (hM : Ci l D t B N y cy nLy ret fr lo g As post) (F : MF y cy nLy ret n) (hl : Cond.methodLink own index y ∈ lw_good) (hst0 : Cond.static y ∈ lw_good) (hR : fr + 1 ≤ R.frames ∧ 8 + (nLy + 11) + lo ≤ R.locals)
    (C : Cx D t p s m args c cc nL own) (hS : St D B s.heap N g H locs) (hn : As.length = n) (hsize : ls.size = nL) (hst : st = As.reverse ++ rest) (hroom : (rest.map fun v => v.category).sum ≤ 8) (hdg : decode cc pc = .ok (.invokestatic index, 3)) (hcs : cells ≤ R.cells ∧ slots ≤ R.slots)
    (kk : ∀ (r : Int32) (g' : Nat → va_E) (H1 : Heap) (locs1 : List Loc), post r g' → St D B s.heap N g' H1 locs1 → W p l e R s m args below meth c H1 locs1 cells slots Q (F0 m (pc + 3) ls (.int r :: rest))) : W p l e R s m args below meth c H locs cells slots Q (F0 m pc ls st) := by
  have cw : CallB R s args own index y cy nLy ret (wu y cy nLy ret) (rmOf fr lo 0 0) 0 0 n := callB_of (ws' := lw_good) n C.1.2.2.2.2 (wu_good F.2.1) rfl rfl rfl (C.w F.1) (C.w hl) F.2.2 hR
  refine va_calli (va_runS C.1 hM ⟨cw, C.w hst0⟩ ⟨pre_blind, fun U hU hW => ⟨rfl, show Hp D B N g U.heap by rw [hU]; exact hS.1, C.2.warm hW⟩⟩ rfl hn hsize hst (lv_room hroom) hdg hcs) hS.2 (fun _ _ h => h) (fun _ h => h) (fun r u t' H1 locs1 ht hvm hw hB hz1 hk1 hS1 => ?_)
  exact kk r u H1 locs1 hw ⟨by rw [← ht]; exact hB, hS1⟩
/-- invokespecial <init> -/
theorem r_callI {b N' mc ms : Nat} {post : (Nat → va_E) → Prop} (hM : Cv l D t B N N' mc ms y cy nLy fr lo g (.ref (B + b) :: As) post) (F : MF y cy nLy none n) (hl : Cond.methodLink own index y ∈ lw_good) (hin : Cond.instanceMethod y ∈ lw_good) (hnm : y.name = "<init>") (hR : fr + 1 ≤ R.frames ∧ 8 + (nLy + 11) + lo ≤ R.locals)
    (C : Cx D t p s m args c cc nL own) (hS : St D B s.heap N g H locs) (hn : As.length = n) (hsize : ls.size = nL) (hst : st = As.reverse ++ .ref (B + b) :: rest) (hroom : (rest.map fun v => v.category).sum ≤ 8) (hdg : decode cc pc = .ok (.invokespecial index, 3)) (hcs : cells + mc ≤ R.cells ∧ slots + ms ≤ R.slots)
    (kk : ∀ (g' : Nat → va_E) (H1 : Heap) (locs1 : List Loc), post g' → St D B s.heap N' g' H1 locs1 → W p l e R s m args below meth c H1 locs1 (cells + mc) (slots + ms) Q (F0 m (pc + 3) ls rest)) : W p l e R s m args below meth c H locs cells slots Q (F0 m pc ls st) := by
  have cw : CallB R s args own index y cy nLy none (wu y cy nLy none) (rmOf fr lo mc ms) mc ms n := callB_of (ws' := lw_good) n C.1.2.2.2.2 (wu_good F.2.1) rfl rfl rfl (C.w F.1) (C.w hl) F.2.2 hR
  refine va_callv (va_runI C.1 hM ⟨cw, hnm, C.w hin⟩ ⟨pre_blind, fun U hU hW => ⟨rfl, show Hp D B N g U.heap by rw [hU]; exact hS.1, C.2.warm hW⟩⟩ rfl hn hsize hst (lv_room hroom) hdg hcs) hS.2 (fun _ _ h => h) (fun _ h => h) (fun u t' H1 locs1 ht hvm hw hB hz1 hk1 hS1 => ?_)
  exact kk u H1 locs1 hw ⟨by rw [← ht]; exact hB, hS1⟩
/-- invokespecial <init> of a nest mate -/
theorem r_callIN {b N' mc ms : Nat} {post : (Nat → va_E) → Prop} (hM : Cv l D t B N N' mc ms y cy nLy fr lo g (.ref (B + b) :: As) post) (F : MF y cy nLy none n) (hl : (own, index, y) ∈ nestL) (hin : Cond.instanceMethod y ∈ lw_good) (hnm : y.name = "<init>") (hR : fr + 1 ≤ R.frames ∧ 8 + (nLy + 11) + lo ≤ R.locals)
    (C : Cx D t p s m args c cc nL own) (hS : St D B s.heap N g H locs) (hn : As.length = n) (hsize : ls.size = nL) (hst : st = As.reverse ++ .ref (B + b) :: rest) (hroom : (rest.map fun v => v.category).sum ≤ 8) (hdg : decode cc pc = .ok (.invokespecial index, 3)) (hcs : cells + mc ≤ R.cells ∧ slots + ms ≤ R.slots)
    (kk : ∀ (g' : Nat → va_E) (H1 : Heap) (locs1 : List Loc), post g' → St D B s.heap N' g' H1 locs1 → W p l e R s m args below meth c H1 locs1 (cells + mc) (slots + ms) Q (F0 m (pc + 3) ls rest)) : W p l e R s m args below meth c H locs cells slots Q (F0 m pc ls st) := by
  have cw : va_CN R s args own index y RX7 cy nLy none (wu y cy nLy none) (rmOf fr lo mc ms) mc ms n := va_cnB (ws' := lw_good) n C.1.2.2.2.2 (wu_good F.2.1) rfl rfl rfl (C.2.2.1 _ hl) (C.w F.1) F.2.2 hR
  refine va_callv (va_runIN C.1 hM ⟨cw, hnm, C.w hin⟩ ⟨pre_blind, fun U hU hW => ⟨rfl, show Hp D B N g U.heap by rw [hU]; exact hS.1, C.2.warm hW⟩⟩ rfl hn hsize hst (lv_room hroom) hdg hcs) hS.2 (fun _ _ h => h) (fun _ h => h) (fun u t' H1 locs1 ht hvm hw hB hz1 hk1 hS1 => ?_)
  exact kk u H1 locs1 hw ⟨by rw [← ht]; exact hB, hS1⟩
theorem r_objInit {a : Nat} (hl : Cond.methodLink own index objectInit ∈ lw_good) (hin : Cond.instanceMethod objectInit ∈ lw_good) (hco : Cond.code objectInit ⟨#[0xb1]⟩ 1 none ∈ lw_good) (C : Cx D t p s m args c cc nL own) (hsize : ls.size = nL) (hdg : decode cc pc = .ok (.invokespecial index, 3)) (hfr : 1 ≤ R.frames) (hlo : (rest.map fun v => v.category).sum + 12 ≤ R.locals)
    (kk : W p l e R s m args below meth c H locs cells slots Q (F0 m (pc + 3) ls rest)) : W p l e R s m args below meth c H locs cells slots Q (F0 m pc ls (.ref a :: rest)) :=
  W.objInit C.x C.b C.o (C.w hl) (C.w hin) (C.w hco) rfl (by rw [C.1.2.2.1]; exact hsize) rfl hdg hfr (by show 2 * 0 + _ + 12 ≤ _; omega) kk
end RC
