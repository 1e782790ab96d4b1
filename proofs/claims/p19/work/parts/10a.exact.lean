/-! contracts by what is to be observed -/
def RunOb (t : Gx) (B : Nat) (g : Nat → va_E) (i : Nat) (o : Nat → Int32) (n : Nat) (w : Nat → Int32) (ey wi : Int32) (R : Nat) : Prop := ∃ ep ew en ct ec len st vi an sp, isRun t B g i ep ew en ct ec len st vi an sp ∧ len ≤ 40 ∧ (sp = 0 ∨ sp = 1) ∧ RunV o n w ey wi R ep ew en ct ec len st an sp
def RowOb (t : Gx) (B : Nat) (g : Nat → va_E) (i : Nat) (X : RW) : Prop := ∃ ep ew en len, isRow t B g i ep ew en len ∧ len ≤ 42 ∧ eqR 0 (ep, ew, en, len) X
theorem RunOb.keep {t : Gx} {B : Nat} {g g' : Nat → va_E} {i : Nat} {o : Nat → Int32} {n : Nat} {w : Nat → Int32} {ey wi : Int32} {R : Nat} (h : RunOb t B g i o n w ey wi R) (k : ∀ j, i ≤ j → j ≤ i + 5 → g' j = g j) : RunOb t B g' i o n w ey wi R := by
  obtain ⟨ep, ew, en, ct, ec, len, st, vi, an, sp, h, q⟩ := h
  exact ⟨ep, ew, en, ct, ec, len, st, vi, an, sp, h.keep k, q⟩
theorem RowOb.keep {t : Gx} {B : Nat} {g g' : Nat → va_E} {i : Nat} {X : RW} (h : RowOb t B g i X) (k : ∀ j, i ≤ j → j ≤ i + 3 → g' j = g j) : RowOb t B g' i X := by
  obtain ⟨ep, ew, en, len, h, q⟩ := h
  exact ⟨ep, ew, en, len, h.keep k, q⟩
theorem wd_pos {x : Int32} (h : isWd x) : ¬ x ≤ 0 := by
  rcases h with rfl | rfl | rfl | rfl <;> decide
/-- Machine.go -/
theorem ke_go (l : Launch) (D : va_G) (t : Gx) (B N : Nat) (g : Nat → va_E) (o pr w : Nat → Int32) (n : Nat) (ey wi ev : Int32) (o' w' : Nat → Int32) (i a b : Nat) (hN : 220 ≤ N) (hP : isProg t B g 1 o pr w n) (hW : isWat g 5 ey wi ev) (hn : n ≤ 8) (hi : runId i) (hS : Scr t B g) (hE : ∀ q, q < n → o q = o' q) (hW2 : ∀ q, q < 8 → w q = w' q) (hO : okO o') (hwd : isWd wi) (ha : a < 16) (hb : b < 16) :
    Cv l D t B N N 0 0 yX1_go cX1_go 7 3 78 g [.ref (B + 6), .ref (B + 1), .ref (B + 5), .int (nI a), .int (nI b), .ref (B + i)] (fun g' => Kp t B g g' ∧ RunOb t B g' i o' n w' ey wi (16 * a + b) ∧ ∀ j, (j < 6 ∨ (8 < j ∧ (j < i ∨ i + 5 < j))) → g' j = g j) := by
  obtain ⟨rg, mm, pt, hM⟩ := hS.2.1
  obtain ⟨ep, ew, en, ct, ec, len, st, vi, an, sp, hR, -, -⟩ := hS.2.2.1 i hi
  have hlo := hi.lo
  refine (c_X1_go l D t B N g rg mm pt o pr w n ey wi ev i ep ew en ct ec len st vi an sp (nI a) (nI b) (by omega) hM hP hW (by omega) (by omega) hR hn).mono ?_
  intro g' h
  obtain ⟨⟨h1, h2⟩, hf⟩ := h
  have hl : (gor o n ey wi 40 (rg0 rg (nI a) (nI b), cpF w mm 8, 0, ep, ew, en, zf ct 8, zf ec 8, 0, 0, 0)).2.2.2.2.2.2.2.2.1 ≤ 40 := by
    have := gor_len (o := o) (n := n) (ey := ey) (wi := wi) 40 (rg0 rg (nI a) (nI b), cpF w mm 8, 0, ep, ew, en, zf ct 8, zf ec 8, 0, 0, 0)
    simpa using this
  refine ⟨⟨fun j hj => hf j (by omega), hS.go hi ⟨_, _, _, h1⟩ ⟨_, _, _, _, _, _, _, _, _, _, h2, hl, bz_01 _⟩ hf⟩, ⟨_, _, _, _, _, _, _, _, _, _, h2, hl, bz_01 _, ?_⟩, hf⟩
  exact RunV.of (RR.all hn hO hE hW2 (wd_pos hwd) ha hb)
/-- Row.fill -/
theorem ke_fill (l : Launch) (D : va_G) (t : Gx) (B N : Nat) (g : Nat → va_E) (o' w' : Nat → Int32) (n : Nat) (ey wi : Int32) (R i i2 : Nat) (y x z : Int32) (hN : 220 ≤ N) (hi : rowId i) (hi2 : runId i2) (hS : Scr t B g) (hR2 : RunOb t B g i2 o' n w' ey wi R) (h1 : (y &&& 1) = 0 ↔ (z &&& 1) = 0) (h8 : (y &&& 8) = 0 ↔ (z &&& 8) = 0) (h2 : (z &&& 2) = 0 ↔ (ey &&& 2) = 0) (h4 : (z &&& 4) = 0 ↔ (ey &&& 4) = 0) :
    Cv l D t B N N 0 0 yX4_fill cX4_fill 5 1 23 g [.ref (B + i), .ref (B + i2), .int y, .int x] (fun g' => Kp t B g g' ∧ RowOb t B g' i (obR o' n w' wi x z R) ∧ ∀ j, (j < i ∨ i + 3 < j) → g' j = g j) := by
  obtain ⟨ep, ew, en, len, hR, -⟩ := hS.2.2.2.1 i hi
  obtain ⟨ep2, ew2, en2, ct, ec, ln2, st, vi, an, sp, hR2, hl2, -, hV⟩ := hR2
  have hlo := hi.lo
  have hlo2 := hi2.lo
  have hap := hi2.row hi
  refine (c_X4_fill l D t B N g i ep ew en len i2 ep2 ew2 en2 ct ec ln2 st vi an sp y x (by omega) hR (by omega) (by omega) hR2 hl2).mono ?_
  intro g' h
  obtain ⟨q1, hf⟩ := h
  exact ⟨⟨fun j hj => hf j (by omega), hS.row hi ⟨_, _, _, _, q1, fillF_le _ _ _ _ _ _ _ _ _ _ _ _ _ hl2⟩ hf⟩, ⟨_, _, _, _, q1, fillF_le _ _ _ _ _ _ _ _ _ _ _ _ _ hl2, hV.2.2.2.2 x y z ep ew en h1 h8 h2 h4⟩, hf⟩
/-- the model's rows hold run R -/
def SegAt (t : Gx) (g : Nat → va_E) (o : Nat → Int32) (n : Nat) (w : Nat → Int32) (R : Nat) : Prop := ∃ st an sp pl nu co, (g 226 = .inl (t.1, 256, .inl st) ∧ g 227 = .inl (t.1, 256, .inl an) ∧ g 228 = .inl (t.2.1, 256, .inl sp) ∧ g 229 = .inl (t.1, 10240, .inl pl) ∧ g 230 = .inl (t.1, 10240, .inl nu) ∧ g 231 = .inl (t.1, 10240, .inl co)) ∧ Seg o n w st an sp pl nu co R
theorem cellI {c : ClassId} {k : Nat} {f f' : Nat → Int32} (h : (Sum.inl (c, k, Sum.inl f) : va_E) = Sum.inl (c, k, Sum.inl f')) : f = f' := by
  injection h with h
  injection h with h1 h
  injection h with h2 h
  injection h
theorem SegAt.use {t : Gx} {g : Nat → va_E} {o : Nat → Int32} {n : Nat} {w st an sp pl nu co : Nat → Int32} {R : Nat} (h : SegAt t g o n w R) (e1 : g 226 = .inl (t.1, 256, .inl st)) (e2 : g 227 = .inl (t.1, 256, .inl an)) (e3 : g 228 = .inl (t.2.1, 256, .inl sp)) (e4 : g 229 = .inl (t.1, 10240, .inl pl)) (e5 : g 230 = .inl (t.1, 10240, .inl nu)) (e6 : g 231 = .inl (t.1, 10240, .inl co)) : Seg o n w st an sp pl nu co R := by
  obtain ⟨st', an', sp', pl', nu', co', ⟨f1, f2, f3, f4, f5, f6⟩, h⟩ := h
  rw [cellI (e1.symm.trans f1), cellI (e2.symm.trans f2), cellI (e3.symm.trans f3), cellI (e4.symm.trans f4), cellI (e5.symm.trans f5), cellI (e6.symm.trans f6)]
  exact h
theorem Seg.of {o w rg mm st an sp pl nu co : Nat → Int32} {n R : Nat} (hn : n ≤ 8) : Seg o n w (mg1 o n w R (rg, mm, st, an, sp, pl, nu, co)).2.2.1 (mg1 o n w R (rg, mm, st, an, sp, pl, nu, co)).2.2.2.1 (mg1 o n w R (rg, mm, st, an, sp, pl, nu, co)).2.2.2.2.1 (mg1 o n w R (rg, mm, st, an, sp, pl, nu, co)).2.2.2.2.2.1 (mg1 o n w R (rg, mm, st, an, sp, pl, nu, co)).2.2.2.2.2.2.1 (mg1 o n w R (rg, mm, st, an, sp, pl, nu, co)).2.2.2.2.2.2.2 R := by
  have h := MM.all (o := o) (w := w) (R := R) (rg := rg) (mm := mm) (pl := pl) (nu := nu) (co := co) hn
  refine ⟨?_, ?_, ?_, fun q hq => ?_⟩
  · show upd st R (nI (mgo o n R 40 (rgM rg R, cpF w mm 8, 0, pl, nu, co, 0)).2.2.2.2.2.2) R = _
    rw [up_s, h.2.2.2.1]
    rfl
  · show upd an R ((mgo o n R 40 (rgM rg R, cpF w mm 8, 0, pl, nu, co, 0)).1 0) R = _
    rw [up_s, h.1 0 (by omega)]
    rfl
  · show upd sp R (bz (inP n (mgo o n R 40 (rgM rg R, cpF w mm 8, 0, pl, nu, co, 0)).2.2.1)) R = _
    rw [up_s, h.2.2.1]
    rfl
  · exact h.2.2.2.2 q (by rw [h.2.2.2.1]; exact hq)
/-- Model.goes -/
theorem ke_goes (l : Launch) (D : va_G) (t : Gx) (B N : Nat) (g : Nat → va_E) (n : Nat) (ey wi ev : Int32) (o pr w : Nat → Int32) (R : Nat) (hN : 236 < N) (hM : Msh t B g n ey wi ev o pr w) (hn : n ≤ 8) (hO : okO o) (hR : R < 256) : Cv l D t B N N 0 0 yX8_goes cX8_goes 5 2 50 g [.ref (B + 220), .int (nI R)] (fun g' => Mk t B g g' n ey wi ev o pr w ∧ SegAt t g' o n w R) := by
  obtain ⟨td, po, ps, rg, mm, st, an, sp, pl, nu, co, sm, sw, sn, sq, cl, ⟨a0, a1, a2, a3⟩, ⟨b0, b1, b2, b3, b4, b5, b6, b7⟩, -, -, h1, h2, h3, -⟩ := id hM
  refine (c_X8_goes l D t B N g td n ey wi ev po ps o w rg mm st an sp pl nu co R hN a0 a1 a3 b0 b1 b2 b3 b4 b5 b6 b7 hn hR hO).mono ?_
  intro g' h
  exact ⟨(Mk.rf hM).run h.1 (mg1_ok (o := o) (w := w) (R := R) hn (T := (rg, mm, st, an, sp, pl, nu, co)) h1 h2 h3) h.2, _, _, _, _, _, _, h.1.2.2, Seg.of (rg := rg) (mm := mm) (st := st) (an := an) (sp := sp) (pl := pl) (nu := nu) (co := co) hn⟩
