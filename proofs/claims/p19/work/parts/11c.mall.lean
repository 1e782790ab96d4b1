/-! the model's rows of all runs -/
def AllAt (t : Gx) (g : Nat → va_E) (o : Nat → Int32) (n : Nat) (w : Nat → Int32) : Prop := ∃ st an sp pl nu co, (g 226 = .inl (t.1, 256, .inl st) ∧ g 227 = .inl (t.1, 256, .inl an) ∧ g 228 = .inl (t.2.1, 256, .inl sp) ∧ g 229 = .inl (t.1, 10240, .inl pl) ∧ g 230 = .inl (t.1, 10240, .inl nu) ∧ g 231 = .inl (t.1, 10240, .inl co)) ∧ ∀ R, R < 256 → Seg o n w st an sp pl nu co R
theorem AllAt.keep {t : Gx} {g g' : Nat → va_E} {o : Nat → Int32} {n : Nat} {w : Nat → Int32} (h : AllAt t g o n w) (k : ∀ j, 226 ≤ j → j ≤ 231 → g' j = g j) : AllAt t g' o n w := by
  obtain ⟨st, an, sp, pl, nu, co, ⟨f1, f2, f3, f4, f5, f6⟩, h⟩ := h
  exact ⟨st, an, sp, pl, nu, co, ⟨(k _ (by omega) (by omega)).trans f1, (k _ (by omega) (by omega)).trans f2, (k _ (by omega) (by omega)).trans f3, (k _ (by omega) (by omega)).trans f4, (k _ (by omega) (by omega)).trans f5, (k _ (by omega) (by omega)).trans f6⟩, h⟩
theorem AllAt.use {t : Gx} {g : Nat → va_E} {o : Nat → Int32} {n : Nat} {w st an sp pl nu co : Nat → Int32} (h : AllAt t g o n w) (e1 : g 226 = .inl (t.1, 256, .inl st)) (e2 : g 227 = .inl (t.1, 256, .inl an)) (e3 : g 228 = .inl (t.2.1, 256, .inl sp)) (e4 : g 229 = .inl (t.1, 10240, .inl pl)) (e5 : g 230 = .inl (t.1, 10240, .inl nu)) (e6 : g 231 = .inl (t.1, 10240, .inl co)) : ∀ R, R < 256 → Seg o n w st an sp pl nu co R := by
  obtain ⟨st', an', sp', pl', nu', co', ⟨f1, f2, f3, f4, f5, f6⟩, h⟩ := h
  rw [cellI (e1.symm.trans f1), cellI (e2.symm.trans f2), cellI (e3.symm.trans f3), cellI (e4.symm.trans f4), cellI (e5.symm.trans f5), cellI (e6.symm.trans f6)]
  exact h
theorem mgo_keep {o : Nat → Int32} {n R j : Nat} (hj : j < 40 * R) : ∀ (k : Nat) (S : MS), (mgo o n R k S).2.2.2.1 j = S.2.2.2.1 j ∧ (mgo o n R k S).2.2.2.2.1 j = S.2.2.2.2.1 j ∧ (mgo o n R k S).2.2.2.2.2.1 j = S.2.2.2.2.2.1 j
  | 0, S => ⟨rfl, rfl, rfl⟩
  | k + 1, S => by
    rw [mgo]
    split
    · obtain ⟨rg, mm, pt, pl, nu, co, s⟩ := S
      obtain ⟨a, b, c⟩ := mgo_keep (o := o) (n := n) hj k (mst1 R (rg, mm, pt, pl, nu, co, s).2.2.1.toNatClampNeg (o (rg, mm, pt, pl, nu, co, s).2.2.1.toNatClampNeg) (rg, mm, pt, pl, nu, co, s))
      exact ⟨a.trans (up_n (by omega)), b.trans (up_n (by omega)), c.trans (up_n (by omega))⟩
    · exact ⟨rfl, rfl, rfl⟩
theorem seg_all {o w : Nat → Int32} {n : Nat} (hn : n ≤ 8) (T : MT) : ∀ (k R : Nat), R < k → Seg o n w (mAll o n w k T).2.2.1 (mAll o n w k T).2.2.2.1 (mAll o n w k T).2.2.2.2.1 (mAll o n w k T).2.2.2.2.2.1 (mAll o n w k T).2.2.2.2.2.2.1 (mAll o n w k T).2.2.2.2.2.2.2 R
  | 0, R, h => absurd h (Nat.not_lt_zero _)
  | k + 1, R, h => by
    by_cases e : R = k
    · subst e
      exact Seg.of (rg := (mAll o n w R T).1) (mm := (mAll o n w R T).2.1) (st := (mAll o n w R T).2.2.1) (an := (mAll o n w R T).2.2.2.1) (sp := (mAll o n w R T).2.2.2.2.1) (pl := (mAll o n w R T).2.2.2.2.2.1) (nu := (mAll o n w R T).2.2.2.2.2.2.1) (co := (mAll o n w R T).2.2.2.2.2.2.2) hn
    · obtain ⟨h1, h2, h3, h4⟩ := seg_all hn T k R (by omega)
      have hs := obS_le (o := o) (n := n) (w := w) (R := R)
      refine ⟨(up_n e).trans h1, (up_n e).trans h2, (up_n e).trans h3, fun q hq => ?_⟩
      obtain ⟨a, b, c⟩ := mgo_keep (o := o) (n := n) (R := k) (j := 40 * R + q) (by omega) 40 (rgM (mAll o n w k T).1 k, cpF w (mAll o n w k T).2.1 8, 0, (mAll o n w k T).2.2.2.2.2.1, (mAll o n w k T).2.2.2.2.2.2.1, (mAll o n w k T).2.2.2.2.2.2.2, 0)
      obtain ⟨a2, b2, c2⟩ := h4 q hq
      exact ⟨a.trans a2, b.trans b2, c.trans c2⟩
theorem ke_goAll (l : Launch) (D : va_G) (t : Gx) (B N : Nat) (g : Nat → va_E) (n : Nat) (ey wi ev : Int32) (o pr w : Nat → Int32) (hN : 236 < N) (hM : Msh t B g n ey wi ev o pr w) (hn : n ≤ 8) (hO : okO o) : Cv l D t B N N 0 0 yX8_goAll cX8_goAll 2 3 74 g [.ref (B + 220)] (fun g' => Mk t B g g' n ey wi ev o pr w ∧ AllAt t g' o n w) := by
  obtain ⟨td, po, ps, rg, mm, st, an, sp, pl, nu, co, sm, sw, sn, sq, cl, ⟨a0, a1, a2, a3⟩, ⟨b0, b1, b2, b3, b4, b5, b6, b7⟩, -, -, h1, h2, h3, -⟩ := id hM
  refine (c_X8_goAll l D t B N g td n ey wi ev po ps o w rg mm st an sp pl nu co hN a0 a1 a3 b0 b1 b2 b3 b4 b5 b6 b7 hn hO).mono ?_
  intro g' h
  exact ⟨(Mk.rf hM).run h.1 (mAll_ok (o := o) (w := w) hn (T := (rg, mm, st, an, sp, pl, nu, co)) h1 h2 h3 256) h.2, _, _, _, _, _, _, h.1.2.2, fun R hR => seg_all hn (rg, mm, st, an, sp, pl, nu, co) 256 R hR⟩
/-- two rows side by side in the model's hands -/
def TwoAt (t : Gx) (g : Nat → va_E) (X Y : RW) : Prop := ∃ sm sw sn sq, (g 232 = .inl (t.1, 2, .inl sm) ∧ g 233 = .inl (t.1, 84, .inl sw) ∧ g 234 = .inl (t.1, 84, .inl sn) ∧ g 235 = .inl (t.1, 84, .inl sq)) ∧ sm 0 = nI X.2.2.2 ∧ sm 1 = nI Y.2.2.2 ∧ (∀ q, q < X.2.2.2 → sw q = X.1 q ∧ sn q = X.2.1 q ∧ sq q = X.2.2.1 q) ∧ ∀ q, q < Y.2.2.2 → sw (42 + q) = Y.1 q ∧ sn (42 + q) = Y.2.1 q ∧ sq (42 + q) = Y.2.2.1 q
theorem ke_unlike (l : Launch) (D : va_G) (t : Gx) (B N : Nat) (g : Nat → va_E) (n : Nat) (ey wi ev : Int32) (o pr w : Nat → Int32) (R Q : Nat) (x y : Int32) (hN : 236 < N) (hM : Msh t B g n ey wi ev o pr w) (hA : AllAt t g o n w) (hR : R < 256) (hQ : Q < 256) (hwi : ¬ wi = 0) : Ci l D t B N yX8_unlike cX8_unlike 6 (some .int) 3 72 g [.ref (B + 220), .int (nI R), .int (nI Q), .int x, .int y]
    (fun r g' => Mk t B g g' n ey wi ev o pr w ∧ foS (obR o n w wi x y R).1 (obR o n w wi x y R).2.1 (obR o n w wi x y R).2.2.2 (obR o n w wi x y Q).1 (obR o n w wi x y Q).2.1 (obR o n w wi x y Q).2.2.2 r ∧ TwoAt t g' (obR o n w wi x y R) (obR o n w wi x y Q) ∧ ∀ j, (j < 232 ∨ 235 < j) → g' j = g j) := by
  obtain ⟨td, po, ps, rg, mm, st, an, sp, pl, nu, co, sm, sw, sn, sq, cl, ⟨a0, a1, a2, a3⟩, ⟨b0, b1, b2, b3, b4, b5, b6, b7⟩, ⟨c0, c1, c2, c3⟩, d0, h1, h2, h3, h4⟩ := id hM
  have hS := hA.use b2 b3 b4 b5 b6 b7
  have sR := hS R hR
  have sQ := hS Q hQ
  refine (c_X8_unlike l D t B N g td n ey wi ev po ps o st an sp pl nu co sm sw sn sq R Q (obS o n w R) (obS o n w Q) x y hN a0 a1 b2 b3 b4 b5 b6 b7 c0 c1 c2 c3 hR hQ sR.1 obS_le sQ.1 obS_le h3 hwi).mono ?_
  intro r g' h
  obtain ⟨hc, hfo, hf⟩ := h
  have hfo2 := unl_can sR.1 obS_le sQ.1 obS_le hfo
  rw [sR.see, sQ.see] at hfo2
  refine ⟨(Mk.rf hM).see hc (okSm_upd1 (okSm_upd0 h4 (lookR_le _ _ _ _ _ _ _ _ _ _ _ _ _ _ _ obS_le)) (lookR_le _ _ _ _ _ _ _ _ _ _ _ _ _ _ _ obS_le)) hf, hfo2, ?_, hf⟩
  have r0 := sR.lrel (wi := wi) (x := x) (y := y) (A := 0) (sw := sw) (sn := sn) (sq := sq)
  revert hc r0
  generalize lookR o pl nu co wi x y 0 R (obS o n w R) (an R) (sp R) (sw, sn, sq, 0) = X0
  intro hc r0
  have r1 := sQ.lrel (wi := wi) (x := x) (y := y) (A := 1) (sw := X0.1) (sn := X0.2.1) (sq := X0.2.2.1)
  revert hc r1
  generalize lookR o pl nu co wi x y 1 Q (obS o n w Q) (an Q) (sp Q) (X0.1, X0.2.1, X0.2.2.1, 0) = X1
  intro hc r1
  have hle := obR_le (o := o) (n := n) (w := w) (wi := wi) (x := x) (y := y) (R := R)
  refine ⟨_, _, _, _, hc, ?_, ?_, fun q hq => ?_, fun q hq => ?_⟩
  · rw [up_n (by decide), up_s, r0.1]
  · rw [up_s, r1.1]
  · have a := r1.2.2 q (by omega)
    have b := r0.2.1 q hq
    rw [show 42 * 0 + q = q by omega] at b
    exact ⟨a.1.trans b.1, a.2.1.trans b.2.1, a.2.2.trans b.2.2⟩
  · exact r1.2.1 q hq
/-- Model.isSilent -/
theorem ke_silent (l : Launch) (D : va_G) (t : Gx) (B N : Nat) (g : Nat → va_E) (n : Nat) (ey wi ev : Int32) (o pr w : Nat → Int32) (x y : Int32) (hN : 236 < N) (hM : Msh t B g n ey wi ev o pr w) (hA : AllAt t g o n w) (hwi : ¬ wi = 0) : Ci l D t B N yX8_isSilent cX8_isSilent 4 (some .boolean) 4 97 g [.ref (B + 220), .int x, .int y]
    (fun r g' => Mk t B g g' n ey wi ev o pr w ∧ AllAt t g' o n w ∧ ((r = 1 ∧ ∀ J, J < 256 → ¬ J % 16 = 0 → alikeR (obR o n w wi x y (J / 16 * 16)) (obR o n w wi x y J)) ∨ (r = 0 ∧ ∃ K, K < 256 ∧ ¬ K % 16 = 0 ∧ (∃ td, g' 220 = mObj B td n ey wi ev (nI (K / 16)) (nI (K % 16))) ∧ ¬ alikeR (obR o n w wi x y (K / 16 * 16)) (obR o n w wi x y K) ∧ ∀ J, J < K → ¬ J % 16 = 0 → alikeR (obR o n w wi x y (J / 16 * 16)) (obR o n w wi x y J)))) := by
  obtain ⟨td, po, ps, rg, mm, st, an, sp, pl, nu, co, sm, sw, sn, sq, cl, ⟨a0, a1, a2, a3⟩, ⟨b0, b1, b2, b3, b4, b5, b6, b7⟩, ⟨c0, c1, c2, c3⟩, d0, h1, h2, h3, h4⟩ := id hM
  have hS := hA.use b2 b3 b4 b5 b6 b7
  refine (c_X8_isSilent l D t B N g td n ey wi ev po ps o st an sp pl nu co sm sw sn sq x y hN a0 a1 b2 b3 b4 b5 b6 b7 c0 c1 c2 c3 h1 h3 h4 hwi).mono ?_
  intro r g' h
  obtain ⟨po', ps', sm', sw', sn', sq', e0, e1, hs, hr, hf⟩ := h
  refine ⟨⟨fun j hj => hf j (by omega), td, po', ps', rg, mm, st, an, sp, pl, nu, co, sm', sw', sn', sq', cl, ⟨e0, (hf _ (by omega)).trans a1, (hf _ (by omega)).trans a2, (hf _ (by omega)).trans a3⟩, ⟨(hf _ (by omega)).trans b0, (hf _ (by omega)).trans b1, (hf _ (by omega)).trans b2, (hf _ (by omega)).trans b3, (hf _ (by omega)).trans b4, (hf _ (by omega)).trans b5, (hf _ (by omega)).trans b6, (hf _ (by omega)).trans b7⟩, e1, (hf _ (by omega)).trans d0, h1, h2, h3, hs⟩, hA.keep (fun j q1 q2 => hf j (by omega)), ?_⟩
  have see : ∀ R, R < 256 → seeM o pl nu co st an sp wi x y R = obR o n w wi x y R := fun R hR => (hS R hR).see
  rcases hr with ⟨q1, q2⟩ | ⟨q1, K, k1, k2, k3, k4, k5, k6⟩
  · refine Or.inl ⟨q1, fun J hJ hJ2 => ?_⟩
    have := q2 J hJ hJ2
    rw [see _ (by omega), see _ hJ] at this
    exact this
  · refine Or.inr ⟨q1, K, k1, k2, ⟨td, by rw [e0, k3, k4]⟩, ?_, fun J hJ hJ2 => ?_⟩
    · rw [see _ (by omega), see _ k1] at k5
      exact k5
    · have := k6 J hJ hJ2
      rw [see _ (by omega), see _ (by omega)] at this
      exact this
