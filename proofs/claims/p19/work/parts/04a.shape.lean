/-! THE SHAPE of the class's own rows: what lies where; lengths within bounds -/
def sMach (t : Gx) (B : Nat) (g : Nat → va_E) : Prop := ∃ rg mm pt, isMach t B g 6 rg mm pt
def sRun (t : Gx) (B : Nat) (g : Nat → va_E) (i : Nat) : Prop := ∃ ep ew en ct ec len st vi an sp, isRun t B g i ep ew en ct ec len st vi an sp ∧ len ≤ 40 ∧ (sp = 0 ∨ sp = 1)
def sRow (t : Gx) (B : Nat) (g : Nat → va_E) (i : Nat) : Prop := ∃ ep ew en len, isRow t B g i ep ew en len ∧ len ≤ 42
def runId (i : Nat) : Prop := i = 9 ∨ i = 42 ∨ ∃ k, k < 16 ∧ i = 124 + 6 * k
def rowId (i : Nat) : Prop := i = 15 ∨ i = 19 ∨ i = 116 ∨ i = 120 ∨ ∃ k, k < 16 ∧ i = 49 + 4 * k
def cnQ (B : Nat) : Nat → Option Nat := fun k => if k < 16 then some (B + (25 + k)) else none
def lrQ (B : Nat) : Nat → Option Nat := fun k => if k < 16 then some (B + (49 + 4 * k)) else none
def ruQ (B : Nat) : Nat → Option Nat := fun k => if k < 16 then some (B + (124 + 6 * k)) else none
theorem cnQ_at {B k : Nat} (h : k < 16) : cnQ B k = some (B + (25 + k)) := if_pos h
theorem lrQ_at {B k : Nat} (h : k < 16) : lrQ B k = some (B + (49 + 4 * k)) := if_pos h
theorem ruQ_at {B k : Nat} (h : k < 16) : ruQ B k = some (B + (124 + 6 * k)) := if_pos h
def sFix (t : Gx) (B : Nat) (g : Nat → va_E) : Prop := g 23 = .inr (2, [.ref (B + 24), .ref (B + 41), .ref (B + 42), .ref (B + 48)]) ∧ g 24 = .inl (t.2.2.2.2, 16, .inr (.inr (.inr (.inr (cnQ B))))) ∧ g 48 = .inl (t.2.2.1, 16, .inr (.inr (.inr (.inr (lrQ B))))) ∧ g 115 = .inl (t.2.2.2.1, 16, .inr (.inr (.inr (.inr (ruQ B)))))
def sCnt (t : Gx) (g : Nat → va_E) : Prop := ∃ cn, g 41 = .inl (t.1, 16, .inl cn)
def sCn (t : Gx) (g : Nat → va_E) (k : Nat) : Prop := ∃ f, g (25 + k) = .inl (t.1, 16, .inl f)
def sCur (B : Nat) (g : Nat → va_E) : Prop := ∃ kn, g 113 = .inr (0, [.ref (B + 114), .ref (B + 115), .ref (B + 116), .ref (B + 120), .int kn]) ∧ (kn = 0 ∨ kn = 1)
def sCalm (t : Gx) (g : Nat → va_E) : Prop := ∃ cm, g 114 = .inl (t.2.1, 256, .inl cm) ∧ ∀ q, cm q = 0 ∨ cm q = 1
def sTop (B : Nat) (g : Nat → va_E) : Prop := ∃ v, g 0 = .inr (7, [.ref (B + 1), .ref (B + 5), .ref (B + 6), .ref (B + 9), .ref (B + 15), .ref (B + 19), .ref (B + 23), .ref (B + 113), .int v])
def Scr (t : Gx) (B : Nat) (g : Nat → va_E) : Prop := sTop B g ∧ sMach t B g ∧ (∀ i, runId i → sRun t B g i) ∧ (∀ i, rowId i → sRow t B g i) ∧ sFix t B g ∧ sCnt t g ∧ (∀ k, k < 16 → sCn t g k) ∧ sCur B g ∧ sCalm t g
/-- the program, the watcher and the model stay; the class's own rows keep their shape -/
def Kp (t : Gx) (B : Nat) (g g' : Nat → va_E) : Prop := (∀ j, ((1 ≤ j ∧ j ≤ 5) ∨ 220 ≤ j) → g' j = g j) ∧ Scr t B g'
theorem Kp.rf {t : Gx} {B : Nat} {g : Nat → va_E} (h : Scr t B g) : Kp t B g g := ⟨fun _ _ => rfl, h⟩
theorem Kp.tr {t : Gx} {B : Nat} {g g' g'' : Nat → va_E} (h : Kp t B g g') (h' : Kp t B g' g'') : Kp t B g g'' := ⟨fun j hj => (h'.1 j hj).trans (h.1 j hj), h'.2⟩
section SH
variable {t : Gx} {B : Nat} {g g' : Nat → va_E}
theorem sMach.keep (h : sMach t B g) (k : ∀ j, 6 ≤ j → j ≤ 8 → g' j = g j) : sMach t B g' := by
  obtain ⟨rg, mm, pt, h⟩ := h
  exact ⟨rg, mm, pt, h.keep k⟩
theorem sRun.keep {i : Nat} (h : sRun t B g i) (k : ∀ j, i ≤ j → j ≤ i + 5 → g' j = g j) : sRun t B g' i := by
  obtain ⟨ep, ew, en, ct, ec, len, st, vi, an, sp, h, q⟩ := h
  exact ⟨ep, ew, en, ct, ec, len, st, vi, an, sp, h.keep k, q⟩
theorem sRow.keep {i : Nat} (h : sRow t B g i) (k : ∀ j, i ≤ j → j ≤ i + 3 → g' j = g j) : sRow t B g' i := by
  obtain ⟨ep, ew, en, len, h, q⟩ := h
  exact ⟨ep, ew, en, len, h.keep k, q⟩
theorem Scr.upd (h : Scr t B g) (hT : sTop B g' ∨ g' 0 = g 0) (hM : sMach t B g' ∨ ∀ j, 6 ≤ j → j ≤ 8 → g' j = g j) (hR : ∀ i, runId i → sRun t B g' i ∨ ∀ j, i ≤ j → j ≤ i + 5 → g' j = g j) (hW : ∀ i, rowId i → sRow t B g' i ∨ ∀ j, i ≤ j → j ≤ i + 3 → g' j = g j) (hF : g' 23 = g 23 ∧ g' 24 = g 24 ∧ g' 48 = g 48 ∧ g' 115 = g 115) (hC : sCnt t g' ∨ g' 41 = g 41) (hN : ∀ k, k < 16 → sCn t g' k ∨ g' (25 + k) = g (25 + k)) (hU : sCur B g' ∨ g' 113 = g 113) (hK : sCalm t g' ∨ g' 114 = g 114) : Scr t B g' := by
  obtain ⟨a, b, c, d, ⟨e1, e2, e3, e4⟩, f, n, u, k⟩ := h
  refine ⟨?_, ?_, ?_, ?_, ⟨hF.1.trans e1, hF.2.1.trans e2, hF.2.2.1.trans e3, hF.2.2.2.trans e4⟩, ?_, ?_, ?_, ?_⟩
  · exact hT.elim id (fun q => a.elim fun v hv => ⟨v, q.trans hv⟩)
  · exact hM.elim id (fun q => b.keep q)
  · exact fun i hi => (hR i hi).elim id (fun q => (c i hi).keep q)
  · exact fun i hi => (hW i hi).elim id (fun q => (d i hi).keep q)
  · exact hC.elim id (fun q => f.elim fun v hv => ⟨v, q.trans hv⟩)
  · exact fun i hi => (hN i hi).elim id (fun q => (n i hi).elim fun v hv => ⟨v, q.trans hv⟩)
  · exact hU.elim id (fun q => u.elim fun v hv => ⟨v, q.trans hv.1, hv.2⟩)
  · exact hK.elim id (fun q => k.elim fun v hv => ⟨v, q.trans hv.1, hv.2⟩)
theorem runId.ap {i i' : Nat} (h : runId i) (h' : runId i') (n : i' ≠ i) : i' + 5 < i ∨ i + 5 < i' := by
  rcases h with rfl | rfl | ⟨k, hk, rfl⟩ <;> rcases h' with rfl | rfl | ⟨k', hk', rfl⟩ <;> omega
theorem rowId.ap {i i' : Nat} (h : rowId i) (h' : rowId i') (n : i' ≠ i) : i' + 3 < i ∨ i + 3 < i' := by
  rcases h with rfl | rfl | rfl | rfl | ⟨k, hk, rfl⟩ <;> rcases h' with rfl | rfl | rfl | rfl | ⟨k', hk', rfl⟩ <;> omega
theorem runId.row {i i' : Nat} (h : runId i) (h' : rowId i') : i' + 3 < i ∨ i + 5 < i' := by
  rcases h with rfl | rfl | ⟨k, hk, rfl⟩ <;> rcases h' with rfl | rfl | rfl | rfl | ⟨k', hk', rfl⟩ <;> omega
theorem runId.off {i j : Nat} (h : runId i) (hj : j ≤ 8 ∨ j = 23 ∨ j = 24 ∨ (25 ≤ j ∧ j ≤ 41) ∨ j = 48 ∨ (113 ≤ j ∧ j ≤ 115) ∨ 220 ≤ j) : j < i ∨ i + 5 < j := by
  rcases h with rfl | rfl | ⟨k, hk, rfl⟩ <;> omega
theorem rowId.off {i j : Nat} (h : rowId i) (hj : j ≤ 8 ∨ j = 23 ∨ j = 24 ∨ (25 ≤ j ∧ j ≤ 41) ∨ j = 48 ∨ (113 ≤ j ∧ j ≤ 115) ∨ 220 ≤ j) : j < i ∨ i + 3 < j := by
  rcases h with rfl | rfl | rfl | rfl | ⟨k, hk, rfl⟩ <;> omega
theorem runId.lo {i : Nat} (h : runId i) : 9 ≤ i ∧ i + 5 < 220 := by
  rcases h with rfl | rfl | ⟨k, hk, rfl⟩ <;> omega
theorem rowId.lo {i : Nat} (h : rowId i) : 9 ≤ i ∧ i + 3 < 220 := by
  rcases h with rfl | rfl | rfl | rfl | ⟨k, hk, rfl⟩ <;> omega
theorem Scr.row (h : Scr t B g) {i : Nat} (hi : rowId i) (hR : sRow t B g' i) (hf : ∀ j, (j < i ∨ i + 3 < j) → g' j = g j) : Scr t B g' :=
  h.upd (Or.inr (hf _ (hi.off (by omega)))) (Or.inr fun j h1 h2 => hf _ (hi.off (by omega))) (fun i' hi' => Or.inr fun j h1 h2 => hf j (by have := hi'.row hi; omega))
    (fun i' hi' => if e : i' = i then Or.inl (e ▸ hR) else Or.inr fun j h1 h2 => hf j (by have := hi.ap hi' e; omega)) ⟨hf _ (hi.off (by omega)), hf _ (hi.off (by omega)), hf _ (hi.off (by omega)), hf _ (hi.off (by omega))⟩ (Or.inr (hf _ (hi.off (by omega)))) (fun k hk => Or.inr (hf _ (hi.off (by omega)))) (Or.inr (hf _ (hi.off (by omega)))) (Or.inr (hf _ (hi.off (by omega))))
/-- the machine and one run have changed -/
theorem Scr.go (h : Scr t B g) {i : Nat} (hi : runId i) (hM : sMach t B g') (hR : sRun t B g' i) (hf : ∀ j, (j < 6 ∨ (8 < j ∧ (j < i ∨ i + 5 < j))) → g' j = g j) : Scr t B g' :=
  h.upd (Or.inr (hf _ (by omega))) (Or.inl hM) (fun i' hi' => if e : i' = i then Or.inl (e ▸ hR) else Or.inr fun j h1 h2 => hf j (by have := hi.ap hi' e; have := hi'.lo; omega))
    (fun i' hi' => Or.inr fun j h1 h2 => hf j (by have := hi.row hi'; have := hi'.lo; omega)) ⟨hf _ (by have := hi.off (j := 23) (by omega); omega), hf _ (by have := hi.off (j := 24) (by omega); omega), hf _ (by have := hi.off (j := 48) (by omega); omega), hf _ (by have := hi.off (j := 115) (by omega); omega)⟩ (Or.inr (hf _ (by have := hi.off (j := 41) (by omega); omega))) (fun k hk => Or.inr (hf _ (by have := hi.off (j := 25 + k) (by omega); omega))) (Or.inr (hf _ (by have := hi.off (j := 113) (by omega); omega))) (Or.inr (hf _ (by have := hi.off (j := 114) (by omega); omega)))
/-- one cell beside the runs and rows has changed -/
theorem Scr.one (h : Scr t B g) {a : Nat} (hf : ∀ j, j ≠ a → g' j = g j) (ha : a = 0 ∨ (25 ≤ a ∧ a ≤ 41) ∨ a = 113 ∨ a = 114) (hT : a = 0 → sTop B g') (hC : a = 41 → sCnt t g') (hN : ∀ k, k < 16 → a = 25 + k → sCn t g' k) (hU : a = 113 → sCur B g') (hK : a = 114 → sCalm t g') : Scr t B g' :=
  h.upd (if e : a = 0 then Or.inl (hT e) else Or.inr (hf _ (by omega))) (Or.inr fun j h1 h2 => hf _ (by omega)) (fun i' hi' => Or.inr fun j h1 h2 => hf j (by have := hi'.off (j := a) (by omega); omega)) (fun i' hi' => Or.inr fun j h1 h2 => hf j (by have := hi'.off (j := a) (by omega); omega)) ⟨hf _ (by omega), hf _ (by omega), hf _ (by omega), hf _ (by omega)⟩ (if e : a = 41 then Or.inl (hC e) else Or.inr (hf _ (by omega))) (fun k hk => if e : a = 25 + k then Or.inl (hN k hk e) else Or.inr (hf _ (by omega))) (if e : a = 113 then Or.inl (hU e) else Or.inr (hf _ (by omega))) (if e : a = 114 then Or.inl (hK e) else Or.inr (hf _ (by omega)))
theorem Scr.core (h : Scr t B g) (hf : ∀ j, (j = 0 ∨ 6 ≤ j) → g' j = g j) : Scr t B g' :=
  h.upd (Or.inr (hf _ (by omega))) (Or.inr fun j h1 h2 => hf _ (by omega)) (fun i' hi' => Or.inr fun j h1 h2 => hf j (by have := hi'.lo; omega)) (fun i' hi' => Or.inr fun j h1 h2 => hf j (by have := hi'.lo; omega)) ⟨hf _ (by omega), hf _ (by omega), hf _ (by omega), hf _ (by omega)⟩ (Or.inr (hf _ (by omega))) (fun k hk => Or.inr (hf _ (by omega))) (Or.inr (hf _ (by omega))) (Or.inr (hf _ (by omega)))
end SH
theorem Met.mono {l : Launch} {y : MethodName} {ws : List Cond} {rm : Room} {Pc : Array Value → State → Prop} {Qc Q2 : Array Value → State → Outcome → State → Prop} {mc ms : Nat} {free : Addr → Prop} (h : Met l y ws rm Pc Qc mc ms free) (hq : ∀ a st o t, Qc a st o t → Q2 a st o t) : Met l y ws rm Pc Q2 mc ms free := by
  intro p e ha hc hk s m args below hf happ hP hK
  obtain ⟨k, o, h1, h2, h3, hQ, hL⟩ := h p e ha hc hk s m args below hf happ hP hK
  exact ⟨k, o, h1, h2, h3, hq _ _ _ _ hQ, hL⟩
theorem Cv.mono {l : Launch} {D : va_G} {t : Gx} {B N N' mc ms : Nat} {y : MethodName} {cc : ByteArray} {nL fr lo : Nat} {g : Nat → va_E} {av : List Value} {post post2 : (Nat → va_E) → Prop} (h : Cv l D t B N N' mc ms y cc nL fr lo g av post) (hq : ∀ g', post g' → post2 g') : Cv l D t B N N' mc ms y cc nL fr lo g av post2 :=
  Met.mono h (fun _ _ _ _ ⟨⟨u, h1, h2, h3⟩, h4⟩ => ⟨⟨u, h1, hq u h2, h3⟩, h4⟩)
theorem Ci.mono {l : Launch} {D : va_G} {t : Gx} {B N : Nat} {y : MethodName} {cc : ByteArray} {nL : Nat} {ret : Option FieldType} {fr lo : Nat} {g : Nat → va_E} {av : List Value} {post post2 : Int32 → (Nat → va_E) → Prop} (h : Ci l D t B N y cc nL ret fr lo g av post) (hq : ∀ r g', post r g' → post2 r g') : Ci l D t B N y cc nL ret fr lo g av post2 :=
  Met.mono h (fun _ _ _ _ ⟨⟨r, u, h1, h2, h3⟩, h4⟩ => ⟨⟨r, u, h1, hq r u h2, h3⟩, h4⟩)
theorem gor_len {o : Nat → Int32} {n : Nat} {ey wi : Int32} : ∀ (k : Nat) (S : GS), (gor o n ey wi k S).2.2.2.2.2.2.2.2.1 ≤ S.2.2.2.2.2.2.2.2.1 + k
  | 0, S => Nat.le_refl _
  | k + 1, S => by
    rw [gor]
    split
    · obtain ⟨rg, mm, pt, ep, ew, en, ct, ec, len, st, vi⟩ := S
      refine Nat.le_trans (gor_len k _) ?_
      have hx : ∀ w, tln w len + k ≤ len + (k + 1) := fun w => by have := tln_le w (Nat.le_refl len); omega
      exact hx _
    · exact Nat.le_add_right _ _
/-- Machine.go, by shape -/
theorem k_go (l : Launch) (D : va_G) (t : Gx) (B N : Nat) (g : Nat → va_E) (o pr w : Nat → Int32) (n : Nat) (ey wi ev : Int32) (i : Nat) (op se : Int32) (hN : 220 ≤ N) (hP : isProg t B g 1 o pr w n) (hW : isWat g 5 ey wi ev) (hn : n ≤ 8) (hi : runId i) (hS : Scr t B g) : Cv l D t B N N 0 0 yX1_go cX1_go 7 3 78 g [.ref (B + 6), .ref (B + 1), .ref (B + 5), .int op, .int se, .ref (B + i)] (fun g' => Kp t B g g') := by
  obtain ⟨rg, mm, pt, hM⟩ := hS.2.1
  obtain ⟨ep, ew, en, ct, ec, len, st, vi, an, sp, hR, -, -⟩ := hS.2.2.1 i hi
  have hlo := hi.lo
  refine (c_X1_go l D t B N g rg mm pt o pr w n ey wi ev i ep ew en ct ec len st vi an sp op se (by omega) hM hP hW (by omega) (by omega) hR hn).mono ?_
  intro g' h
  obtain ⟨⟨h1, h2⟩, hf⟩ := h
  refine ⟨fun j hj => hf j (by omega), hS.go hi ⟨_, _, _, h1⟩ ⟨_, _, _, _, _, _, _, _, _, _, h2, ?_, bz_01 _⟩ hf⟩
  have := gor_len (o := o) (n := n) (ey := ey) (wi := wi) 40 (rg0 rg op se, cpF w mm 8, 0, ep, ew, en, zf ct 8, zf ec 8, 0, 0, 0)
  simpa using this
/-- Row.fill, by shape -/
theorem k_fill (l : Launch) (D : va_G) (t : Gx) (B N : Nat) (g : Nat → va_E) (i i2 : Nat) (ey ev : Int32) (hN : 220 ≤ N) (hi : rowId i) (hi2 : runId i2) (hS : Scr t B g) : Cv l D t B N N 0 0 yX4_fill cX4_fill 5 1 23 g [.ref (B + i), .ref (B + i2), .int ey, .int ev] (fun g' => Kp t B g g') := by
  obtain ⟨ep, ew, en, len, hR, -⟩ := hS.2.2.2.1 i hi
  obtain ⟨ep2, ew2, en2, ct, ec, ln2, st, vi, an, sp, hR2, hl2, -⟩ := hS.2.2.1 i2 hi2
  have hlo := hi.lo
  have hlo2 := hi2.lo
  have hap := hi2.row hi
  refine (c_X4_fill l D t B N g i ep ew en len i2 ep2 ew2 en2 ct ec ln2 st vi an sp ey ev (by omega) hR (by omega) (by omega) hR2 hl2).mono ?_
  intro g' h
  obtain ⟨h1, hf⟩ := h
  exact ⟨fun j hj => hf j (by omega), hS.row hi ⟨_, _, _, _, h1, fillF_le _ _ _ _ _ _ _ _ _ _ _ _ _ hl2⟩ hf⟩
theorem upd01 {f : Nat → Int32} (h : ∀ q, f q = 0 ∨ f q = 1) (k : Nat) {v : Int32} (hv : v = 0 ∨ v = 1) : ∀ q, upd f k v q = 0 ∨ upd f k v q = 1 := fun q => by
  by_cases e : q = k
  · rw [e, pk_us]; exact hv
  · rw [pk_un e]; exact h q
section KS
variable {t : Gx} {B : Nat} {g0 g g' : Nat → va_E}
theorem Kp.st (h : Kp t B g0 g) (hf : ∀ j, ((1 ≤ j ∧ j ≤ 5) ∨ 220 ≤ j) → g' j = g j) (hs : Scr t B g') : Kp t B g0 g' := ⟨fun j hj => (hf j hj).trans (h.1 j hj), hs⟩
theorem Kp.cnt (h : Kp t B g0 g) {f : Nat → Int32} (e : g' 41 = .inl (t.1, 16, .inl f)) (hf : ∀ j, j ≠ 41 → g' j = g j) : Kp t B g0 g' :=
  h.st (fun j hj => hf j (by omega)) (h.2.one hf (by omega) (fun q => absurd q (by decide)) (fun _ => ⟨f, e⟩) (fun k hk q => absurd q (by omega)) (fun q => absurd q (by decide)) (fun q => absurd q (by decide)))
theorem Kp.cn (h : Kp t B g0 g) {f : Nat → Int32} {k : Nat} (hk : k < 16) (e : g' (25 + k) = .inl (t.1, 16, .inl f)) (hf : ∀ j, j ≠ 25 + k → g' j = g j) : Kp t B g0 g' :=
  h.st (fun j hj => hf j (by omega)) (h.2.one hf (by omega) (fun q => absurd q (by omega)) (fun q => absurd q (by omega)) (fun k' hk' q => ⟨f, by rw [← q]; exact e⟩) (fun q => absurd q (by omega)) (fun q => absurd q (by omega)))
theorem Kp.cal (h : Kp t B g0 g) {f : Nat → Int32} (e : g' 114 = .inl (t.2.1, 256, .inl f)) (h01 : ∀ q, f q = 0 ∨ f q = 1) (hf : ∀ j, j ≠ 114 → g' j = g j) : Kp t B g0 g' :=
  h.st (fun j hj => hf j (by omega)) (h.2.one hf (by omega) (fun q => absurd q (by decide)) (fun q => absurd q (by decide)) (fun k hk q => absurd q (by omega)) (fun q => absurd q (by decide)) (fun _ => ⟨f, e, h01⟩))
theorem Kp.cur (h : Kp t B g0 g) {v : Int32} (hv : v = 0 ∨ v = 1) (e : g' 113 = .inr (0, [.ref (B + 114), .ref (B + 115), .ref (B + 116), .ref (B + 120), .int v])) (hf : ∀ j, j ≠ 113 → g' j = g j) : Kp t B g0 g' :=
  h.st (fun j hj => hf j (by omega)) (h.2.one hf (by omega) (fun q => absurd q (by decide)) (fun q => absurd q (by decide)) (fun k hk q => absurd q (by omega)) (fun _ => ⟨v, e, hv⟩) (fun q => absurd q (by decide)))
theorem Kp.top (h : Kp t B g0 g) {v : Int32} (e : g' 0 = .inr (7, [.ref (B + 1), .ref (B + 5), .ref (B + 6), .ref (B + 9), .ref (B + 15), .ref (B + 19), .ref (B + 23), .ref (B + 113), .int v])) (hf : ∀ j, j ≠ 0 → g' j = g j) : Kp t B g0 g' :=
  h.st (fun j hj => hf j (by omega)) (h.2.one hf (by omega) (fun _ => ⟨v, e⟩) (fun q => absurd q (by decide)) (fun k hk q => absurd q (by omega)) (fun q => absurd q (by decide)) (fun q => absurd q (by decide)))
end KS
