/-! THE SHAPE of the model's rows -/
def okSt (st : Nat → Int32) : Prop := ∀ r, r < 256 → ∃ s, s ≤ 40 ∧ st r = nI s
def ok01 (sp : Nat → Int32) : Prop := ∀ q, sp q = 0 ∨ sp q = 1
def okSm (sm : Nat → Int32) : Prop := (∃ a, a ≤ 42 ∧ sm 0 = nI a) ∧ ∃ b, b ≤ 42 ∧ sm 1 = nI b
def Msh (t : Gx) (B : Nat) (g : Nat → va_E) (n : Nat) (ey wi ev : Int32) (o pr w : Nat → Int32) : Prop := ∃ (td po ps : Int32) (rg mm st an sp pl nu co sm sw sn sq cl : Nat → Int32),
  (g 220 = mObj B td n ey wi ev po ps ∧ g 221 = .inl (t.1, 10, .inl o) ∧ g 222 = .inl (t.1, 10, .inl pr) ∧ g 223 = .inl (t.1, 8, .inl w)) ∧
  (g 224 = .inl (t.1, 4, .inl rg) ∧ g 225 = .inl (t.1, 8, .inl mm) ∧ g 226 = .inl (t.1, 256, .inl st) ∧ g 227 = .inl (t.1, 256, .inl an) ∧ g 228 = .inl (t.2.1, 256, .inl sp) ∧ g 229 = .inl (t.1, 10240, .inl pl) ∧ g 230 = .inl (t.1, 10240, .inl nu) ∧ g 231 = .inl (t.1, 10240, .inl co)) ∧
  (g 232 = .inl (t.1, 2, .inl sm) ∧ g 233 = .inl (t.1, 84, .inl sw) ∧ g 234 = .inl (t.1, 84, .inl sn) ∧ g 235 = .inl (t.1, 84, .inl sq)) ∧ g 236 = .inl (t.1, 16, .inl cl) ∧
  okSt st ∧ ok01 sp ∧ okPl pl ∧ okSm sm
/-- the class stays; the model's core stays, its rows keep their shape -/
def Mk (t : Gx) (B : Nat) (g0 g : Nat → va_E) (n : Nat) (ey wi ev : Int32) (o pr w : Nat → Int32) : Prop := (∀ j, j < 220 → g j = g0 j) ∧ Msh t B g n ey wi ev o pr w
section MSH
variable {t : Gx} {B : Nat} {g g' g0 : Nat → va_E} {n : Nat} {ey wi ev : Int32} {o pr w : Nat → Int32}
theorem Mk.rf (h : Msh t B g n ey wi ev o pr w) : Mk t B g g n ey wi ev o pr w := ⟨fun _ _ => rfl, h⟩
theorem Mk.tr {g'' : Nat → va_E} (h : Mk t B g g' n ey wi ev o pr w) (h' : Mk t B g' g'' n ey wi ev o pr w) : Mk t B g g'' n ey wi ev o pr w := ⟨fun j hj => (h'.1 j hj).trans (h.1 j hj), h'.2⟩
theorem Mk.obj (h : Mk t B g0 g n ey wi ev o pr w) {td po ps : Int32} (e : g' 220 = mObj B td n ey wi ev po ps) (hf : ∀ j, j ≠ 220 → g' j = g j) : Mk t B g0 g' n ey wi ev o pr w := by
  obtain ⟨hc, td0, po0, ps0, rg, mm, st, an, sp, pl, nu, co, sm, sw, sn, sq, cl, ⟨a0, a1, a2, a3⟩, ⟨b0, b1, b2, b3, b4, b5, b6, b7⟩, ⟨c0, c1, c2, c3⟩, d0, h1, h2, h3, h4⟩ := h
  exact ⟨fun j hj => (hf j (by omega)).trans (hc j hj), td, po, ps, rg, mm, st, an, sp, pl, nu, co, sm, sw, sn, sq, cl, ⟨e, (hf _ (by decide)).trans a1, (hf _ (by decide)).trans a2, (hf _ (by decide)).trans a3⟩, ⟨(hf _ (by decide)).trans b0, (hf _ (by decide)).trans b1, (hf _ (by decide)).trans b2, (hf _ (by decide)).trans b3, (hf _ (by decide)).trans b4, (hf _ (by decide)).trans b5, (hf _ (by decide)).trans b6, (hf _ (by decide)).trans b7⟩, ⟨(hf _ (by decide)).trans c0, (hf _ (by decide)).trans c1, (hf _ (by decide)).trans c2, (hf _ (by decide)).trans c3⟩, (hf _ (by decide)).trans d0, h1, h2, h3, h4⟩
theorem Mk.cls (h : Mk t B g0 g n ey wi ev o pr w) {f : Nat → Int32} (e : g' 236 = .inl (t.1, 16, .inl f)) (hf : ∀ j, j ≠ 236 → g' j = g j) : Mk t B g0 g' n ey wi ev o pr w := by
  obtain ⟨hc, td, po, ps, rg, mm, st, an, sp, pl, nu, co, sm, sw, sn, sq, cl, ⟨a0, a1, a2, a3⟩, ⟨b0, b1, b2, b3, b4, b5, b6, b7⟩, ⟨c0, c1, c2, c3⟩, d0, h1, h2, h3, h4⟩ := h
  exact ⟨fun j hj => (hf j (by omega)).trans (hc j hj), td, po, ps, rg, mm, st, an, sp, pl, nu, co, sm, sw, sn, sq, f, ⟨(hf _ (by decide)).trans a0, (hf _ (by decide)).trans a1, (hf _ (by decide)).trans a2, (hf _ (by decide)).trans a3⟩, ⟨(hf _ (by decide)).trans b0, (hf _ (by decide)).trans b1, (hf _ (by decide)).trans b2, (hf _ (by decide)).trans b3, (hf _ (by decide)).trans b4, (hf _ (by decide)).trans b5, (hf _ (by decide)).trans b6, (hf _ (by decide)).trans b7⟩, ⟨(hf _ (by decide)).trans c0, (hf _ (by decide)).trans c1, (hf _ (by decide)).trans c2, (hf _ (by decide)).trans c3⟩, e, h1, h2, h3, h4⟩
theorem Mk.see (h : Mk t B g0 g n ey wi ev o pr w) {sm' sw' sn' sq' : Nat → Int32} (e : g' 232 = .inl (t.1, 2, .inl sm') ∧ g' 233 = .inl (t.1, 84, .inl sw') ∧ g' 234 = .inl (t.1, 84, .inl sn') ∧ g' 235 = .inl (t.1, 84, .inl sq')) (hs : okSm sm') (hf : ∀ j, (j < 232 ∨ 235 < j) → g' j = g j) : Mk t B g0 g' n ey wi ev o pr w := by
  obtain ⟨hc, td, po, ps, rg, mm, st, an, sp, pl, nu, co, sm, sw, sn, sq, cl, ⟨a0, a1, a2, a3⟩, ⟨b0, b1, b2, b3, b4, b5, b6, b7⟩, ⟨c0, c1, c2, c3⟩, d0, h1, h2, h3, h4⟩ := h
  exact ⟨fun j hj => (hf j (by omega)).trans (hc j hj), td, po, ps, rg, mm, st, an, sp, pl, nu, co, sm', sw', sn', sq', cl, ⟨(hf _ (by decide)).trans a0, (hf _ (by decide)).trans a1, (hf _ (by decide)).trans a2, (hf _ (by decide)).trans a3⟩, ⟨(hf _ (by decide)).trans b0, (hf _ (by decide)).trans b1, (hf _ (by decide)).trans b2, (hf _ (by decide)).trans b3, (hf _ (by decide)).trans b4, (hf _ (by decide)).trans b5, (hf _ (by decide)).trans b6, (hf _ (by decide)).trans b7⟩, e, (hf _ (by decide)).trans d0, h1, h2, h3, hs⟩
theorem Mk.run (h : Mk t B g0 g n ey wi ev o pr w) {rg' mm' st' an' sp' pl' nu' co' : Nat → Int32} (e : g' 224 = .inl (t.1, 4, .inl rg') ∧ g' 225 = .inl (t.1, 8, .inl mm') ∧ g' 226 = .inl (t.1, 256, .inl st') ∧ g' 227 = .inl (t.1, 256, .inl an') ∧ g' 228 = .inl (t.2.1, 256, .inl sp') ∧ g' 229 = .inl (t.1, 10240, .inl pl') ∧ g' 230 = .inl (t.1, 10240, .inl nu') ∧ g' 231 = .inl (t.1, 10240, .inl co')) (hs : okSt st' ∧ ok01 sp' ∧ okPl pl') (hf : ∀ j, (j < 224 ∨ 231 < j) → g' j = g j) : Mk t B g0 g' n ey wi ev o pr w := by
  obtain ⟨hc, td, po, ps, rg, mm, st, an, sp, pl, nu, co, sm, sw, sn, sq, cl, ⟨a0, a1, a2, a3⟩, ⟨b0, b1, b2, b3, b4, b5, b6, b7⟩, ⟨c0, c1, c2, c3⟩, d0, h1, h2, h3, h4⟩ := h
  exact ⟨fun j hj => (hf j (by omega)).trans (hc j hj), td, po, ps, rg', mm', st', an', sp', pl', nu', co', sm, sw, sn, sq, cl, ⟨(hf _ (by decide)).trans a0, (hf _ (by decide)).trans a1, (hf _ (by decide)).trans a2, (hf _ (by decide)).trans a3⟩, e, ⟨(hf _ (by decide)).trans c0, (hf _ (by decide)).trans c1, (hf _ (by decide)).trans c2, (hf _ (by decide)).trans c3⟩, (hf _ (by decide)).trans d0, hs.1, hs.2.1, hs.2.2, h4⟩
end MSH
theorem okPl_upd {pl : Nat → Int32} (h : okPl pl) (k : Nat) {q : Nat} (hq : q < 8) : okPl (upd pl k (nI q)) := fun j hj => by
  by_cases e : j = k
  · rw [e, pk_us]; exact ⟨q, hq, rfl⟩
  · rw [pk_un e]; exact h j hj
theorem okSt_upd {st : Nat → Int32} (h : okSt st) (k : Nat) {q : Nat} (hq : q ≤ 40) : okSt (upd st k (nI q)) := fun j hj => by
  by_cases e : j = k
  · rw [e, pk_us]; exact ⟨q, hq, rfl⟩
  · rw [pk_un e]; exact h j hj
theorem mgo_ok {o : Nat → Int32} {n R : Nat} (hn : n ≤ 8) : ∀ (k : Nat) (S : MS), okPl S.2.2.2.1 → okPl (mgo o n R k S).2.2.2.1 ∧ (mgo o n R k S).2.2.2.2.2.2 ≤ S.2.2.2.2.2.2 + k
  | 0, S, h => ⟨h, Nat.le_refl _⟩
  | k + 1, S, h => by
    rw [mgo]
    split
    · rename_i hp
      obtain ⟨rg, mm, pt, pl, nu, co, s⟩ := S
      obtain ⟨q, hq, e⟩ := inP_nI hp (by omega)
      have e2 : pt = nI q := e
      subst e2
      have hcl : (nI q).toNatClampNeg = q := nI_clamp (by omega)
      have h1 := mgo_ok (o := o) (R := R) hn k (mst1 R (nI q).toNatClampNeg (o (nI q).toNatClampNeg) (rg, mm, nI q, pl, nu, co, s)) (by
        show okPl (upd pl (40 * R + s) (nI (nI q).toNatClampNeg))
        rw [hcl]
        exact okPl_upd h _ (by omega))
      refine ⟨h1.1, Nat.le_trans h1.2 ?_⟩
      show s + 1 + k ≤ s + (k + 1)
      omega
    · exact ⟨h, Nat.le_add_right _ _⟩
theorem mg1_ok {o w : Nat → Int32} {n R : Nat} (hn : n ≤ 8) {T : MT} (h1 : okSt T.2.2.1) (h2 : ok01 T.2.2.2.2.1) (h3 : okPl T.2.2.2.2.2.1) : okSt (mg1 o n w R T).2.2.1 ∧ ok01 (mg1 o n w R T).2.2.2.2.1 ∧ okPl (mg1 o n w R T).2.2.2.2.2.1 := by
  have h := mgo_ok (o := o) (R := R) hn 40 (rgM T.1 R, cpF w T.2.1 8, 0, T.2.2.2.2.2.1, T.2.2.2.2.2.2.1, T.2.2.2.2.2.2.2, 0) h3
  have h0 := h.2
  dsimp only at h0
  exact ⟨okSt_upd h1 _ (by omega), upd01 h2 _ (bz_01 _), h.1⟩
theorem mAll_ok {o w : Nat → Int32} {n : Nat} (hn : n ≤ 8) {T : MT} (h1 : okSt T.2.2.1) (h2 : ok01 T.2.2.2.2.1) (h3 : okPl T.2.2.2.2.2.1) : ∀ k, okSt (mAll o n w k T).2.2.1 ∧ ok01 (mAll o n w k T).2.2.2.2.1 ∧ okPl (mAll o n w k T).2.2.2.2.2.1
  | 0 => ⟨h1, h2, h3⟩
  | k + 1 => by
    have h := mAll_ok (o := o) (w := w) hn h1 h2 h3 k
    exact mg1_ok hn h.1 h.2.1 h.2.2
theorem okSm_upd0 {sm : Nat → Int32} (h : okSm sm) {c : Nat} (hc : c ≤ 42) : okSm (upd sm 0 (nI c)) := ⟨⟨c, hc, pk_us⟩, by rw [pk_un (by decide)]; exact h.2⟩
theorem okSm_upd1 {sm : Nat → Int32} (h : okSm sm) {c : Nat} (hc : c ≤ 42) : okSm (upd sm 1 (nI c)) := ⟨by rw [pk_un (by decide)]; exact h.1, ⟨c, hc, pk_us⟩⟩
theorem k_goes (l : Launch) (D : va_G) (t : Gx) (B N : Nat) (g : Nat → va_E) (n : Nat) (ey wi ev : Int32) (o pr w : Nat → Int32) (R : Nat) (hN : 236 < N) (hM : Msh t B g n ey wi ev o pr w) (hn : n ≤ 8) (hO : okO o) (hR : R < 256) : Cv l D t B N N 0 0 yX8_goes cX8_goes 5 2 50 g [.ref (B + 220), .int (nI R)] (fun g' => Mk t B g g' n ey wi ev o pr w) := by
  obtain ⟨td, po, ps, rg, mm, st, an, sp, pl, nu, co, sm, sw, sn, sq, cl, ⟨a0, a1, a2, a3⟩, ⟨b0, b1, b2, b3, b4, b5, b6, b7⟩, -, -, h1, h2, h3, -⟩ := id hM
  refine (c_X8_goes l D t B N g td n ey wi ev po ps o w rg mm st an sp pl nu co R hN a0 a1 a3 b0 b1 b2 b3 b4 b5 b6 b7 hn hR hO).mono ?_
  intro g' h
  exact (Mk.rf hM).run h.1 (mg1_ok (o := o) (w := w) (R := R) hn (T := (rg, mm, st, an, sp, pl, nu, co)) h1 h2 h3) h.2
theorem k_goAll (l : Launch) (D : va_G) (t : Gx) (B N : Nat) (g : Nat → va_E) (n : Nat) (ey wi ev : Int32) (o pr w : Nat → Int32) (hN : 236 < N) (hM : Msh t B g n ey wi ev o pr w) (hn : n ≤ 8) (hO : okO o) : Cv l D t B N N 0 0 yX8_goAll cX8_goAll 2 3 74 g [.ref (B + 220)] (fun g' => Mk t B g g' n ey wi ev o pr w) := by
  obtain ⟨td, po, ps, rg, mm, st, an, sp, pl, nu, co, sm, sw, sn, sq, cl, ⟨a0, a1, a2, a3⟩, ⟨b0, b1, b2, b3, b4, b5, b6, b7⟩, -, -, h1, h2, h3, -⟩ := id hM
  refine (c_X8_goAll l D t B N g td n ey wi ev po ps o w rg mm st an sp pl nu co hN a0 a1 a3 b0 b1 b2 b3 b4 b5 b6 b7 hn hO).mono ?_
  intro g' h
  exact (Mk.rf hM).run h.1 (mAll_ok (o := o) (w := w) hn (T := (rg, mm, st, an, sp, pl, nu, co)) h1 h2 h3 256) h.2
