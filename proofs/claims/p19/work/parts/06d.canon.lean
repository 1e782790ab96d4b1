/-! what a look leaves, whatever lay there before -/
abbrev zz : Nat → Int32 := fun _ => 0
def relM (A : Nat) (sw sn sq : Nat → Int32) (S T : RW) : Prop := S.2.2.2 = T.2.2.2 ∧ (∀ q, q < T.2.2.2 → S.1 (42 * A + q) = T.1 q ∧ S.2.1 (42 * A + q) = T.2.1 q ∧ S.2.2.1 (42 * A + q) = T.2.2.1 q) ∧ ∀ j, j < 42 * A → S.1 j = sw j ∧ S.2.1 j = sn j ∧ S.2.2.1 j = sq j
theorem relM_add {A : Nat} {sw sn sq : Nat → Int32} {S T : RW} (h : relM A sw sn sq S T) (x y z : Int32) : relM A sw sn sq (raddM A S x y z) (raddM 0 T x y z) := by
  obtain ⟨h1, h2, h3⟩ := h
  refine ⟨by show S.2.2.2 + 1 = T.2.2.2 + 1; rw [h1], fun q hq => ?_, fun j hj => ?_⟩
  · have hq' : q < T.2.2.2 + 1 := hq
    show upd S.1 (42 * A + S.2.2.2) x (42 * A + q) = upd T.1 (42 * 0 + T.2.2.2) x q ∧ upd S.2.1 (42 * A + S.2.2.2) y (42 * A + q) = upd T.2.1 (42 * 0 + T.2.2.2) y q ∧ upd S.2.2.1 (42 * A + S.2.2.2) z (42 * A + q) = upd T.2.2.1 (42 * 0 + T.2.2.2) z q
    rw [h1, show 42 * 0 + T.2.2.2 = T.2.2.2 by omega]
    by_cases e : q = T.2.2.2
    · rw [e, pk_us, pk_us, pk_us, pk_us, pk_us, pk_us]
      exact ⟨rfl, rfl, rfl⟩
    · have e2 : 42 * A + q ≠ 42 * A + T.2.2.2 := by omega
      simp only [pk_un e, pk_un e2]
      exact h2 q (by omega)
  · show upd S.1 (42 * A + S.2.2.2) x j = sw j ∧ upd S.2.1 (42 * A + S.2.2.2) y j = sn j ∧ upd S.2.2.1 (42 * A + S.2.2.2) z j = sq j
    rw [pk_un (by omega), pk_un (by omega), pk_un (by omega)]
    exact h3 j hj
theorem relM_0 (A : Nat) (sw sn sq : Nat → Int32) : relM A sw sn sq (sw, sn, sq, 0) (zz, zz, zz, 0) := ⟨rfl, fun q hq => absurd hq (Nat.not_lt_zero _), fun _ _ => ⟨rfl, rfl, rfl⟩⟩
theorem rowM_rel (o pl nu : Nat → Int32) (wi x y : Int32) (A R : Nat) (sw sn sq : Nat → Int32) : ∀ q, relM A sw sn sq (rowM o pl nu wi x y A R (sw, sn, sq, 0) q) (rowM o pl nu wi x y 0 R (zz, zz, zz, 0) q)
  | 0 => relM_0 A sw sn sq
  | q + 1 => by
    have h := rowM_rel o pl nu wi x y A R sw sn sq q
    rw [rowM, rowM]
    split
    · exact h
    · split
      · exact relM_add h _ _ _
      · split
        · exact relM_add h _ _ _
        · exact h
theorem lookR_rel (o pl nu co : Nat → Int32) (wi x y : Int32) (A R s1 : Nat) (an sp : Int32) (sw sn sq : Nat → Int32) : relM A sw sn sq (lookR o pl nu co wi x y A R s1 an sp (sw, sn, sq, 0)) (lookR o pl nu co wi x y 0 R s1 an sp (zz, zz, zz, 0)) := by
  have h := rowM_rel o pl nu wi x y A R sw sn sq s1
  unfold lookR rowAM rowCM
  split <;> split
  · exact h
  · exact relM_add h _ _ _
  · exact relM_add h _ _ _
  · exact relM_add (relM_add h _ _ _) _ _ _
/-- the row that the eyes y see of run R, x even -/
def seeM (o pl nu co st an sp : Nat → Int32) (wi x y : Int32) (R : Nat) : RW := lookR o pl nu co wi x y 0 R (st R).toNatClampNeg (an R) (sp R) (zz, zz, zz, 0)
/-- two rows are seen alike -/
def alikeR (X Y : RW) : Prop := X.2.2.2 = Y.2.2.2 ∧ ∀ q, q < X.2.2.2 → X.1 q = Y.1 q ∧ X.2.1 q = Y.2.1 q
theorem foS_congr {w1 n1 w2 n2 v1 m1 v2 m2 : Nat → Int32} {l1 l2 k1 k2 : Nat} {r : Int32} (h : foS w1 n1 l1 w2 n2 l2 r) (e1 : l1 = k1) (e2 : l2 = k2) (h1 : ∀ q, q < k1 → w1 q = v1 q ∧ n1 q = m1 q) (h2 : ∀ q, q < k2 → w2 q = v2 q ∧ n2 q = m2 q) : foS v1 m1 k1 v2 m2 k2 r := by
  subst e1
  subst e2
  rcases h with ⟨a, b, c⟩ | ⟨k, a, b, c, d, f, e⟩
  · refine Or.inl ⟨a, fun q hq => ?_, c⟩
    have := b q hq
    have x1 := h1 q hq
    have x2 := h2 q (by omega)
    exact ⟨by rw [← x1.1, ← x2.1]; exact this.1, by rw [← x1.2, ← x2.2]; exact this.2⟩
  · refine Or.inr ⟨k, a, b, c, fun q hq => ?_, fun g1 g2 hh => ?_, e⟩
    · have := d q hq
      have x1 := h1 q (by omega)
      have x2 := h2 q (by omega)
      exact ⟨by rw [← x1.1, ← x2.1]; exact this.1, by rw [← x1.2, ← x2.2]; exact this.2⟩
    · have x1 := h1 k g1
      have x2 := h2 k g2
      exact f g1 g2 ⟨by rw [x1.1, x2.1]; exact hh.1, by rw [x1.2, x2.2]; exact hh.2⟩
/-- what unlike says, of the rows alone -/
theorem unl_can {o pl nu co st an sp sw sn sq : Nat → Int32} {wi x y r : Int32} {R Q s1 s2 : Nat} (hs : st R = nI s1) (hs1 : s1 ≤ 40) (hs2 : st Q = nI s2) (hs3 : s2 ≤ 40)
    (h : foS (lookR o pl nu co wi x y 1 Q s2 (an Q) (sp Q) ((lookR o pl nu co wi x y 0 R s1 (an R) (sp R) (sw, sn, sq, 0)).1, (lookR o pl nu co wi x y 0 R s1 (an R) (sp R) (sw, sn, sq, 0)).2.1, (lookR o pl nu co wi x y 0 R s1 (an R) (sp R) (sw, sn, sq, 0)).2.2.1, 0)).1 (lookR o pl nu co wi x y 1 Q s2 (an Q) (sp Q) ((lookR o pl nu co wi x y 0 R s1 (an R) (sp R) (sw, sn, sq, 0)).1, (lookR o pl nu co wi x y 0 R s1 (an R) (sp R) (sw, sn, sq, 0)).2.1, (lookR o pl nu co wi x y 0 R s1 (an R) (sp R) (sw, sn, sq, 0)).2.2.1, 0)).2.1 (lookR o pl nu co wi x y 0 R s1 (an R) (sp R) (sw, sn, sq, 0)).2.2.2
      (fun q => (lookR o pl nu co wi x y 1 Q s2 (an Q) (sp Q) ((lookR o pl nu co wi x y 0 R s1 (an R) (sp R) (sw, sn, sq, 0)).1, (lookR o pl nu co wi x y 0 R s1 (an R) (sp R) (sw, sn, sq, 0)).2.1, (lookR o pl nu co wi x y 0 R s1 (an R) (sp R) (sw, sn, sq, 0)).2.2.1, 0)).1 (42 + q)) (fun q => (lookR o pl nu co wi x y 1 Q s2 (an Q) (sp Q) ((lookR o pl nu co wi x y 0 R s1 (an R) (sp R) (sw, sn, sq, 0)).1, (lookR o pl nu co wi x y 0 R s1 (an R) (sp R) (sw, sn, sq, 0)).2.1, (lookR o pl nu co wi x y 0 R s1 (an R) (sp R) (sw, sn, sq, 0)).2.2.1, 0)).2.1 (42 + q)) (lookR o pl nu co wi x y 1 Q s2 (an Q) (sp Q) ((lookR o pl nu co wi x y 0 R s1 (an R) (sp R) (sw, sn, sq, 0)).1, (lookR o pl nu co wi x y 0 R s1 (an R) (sp R) (sw, sn, sq, 0)).2.1, (lookR o pl nu co wi x y 0 R s1 (an R) (sp R) (sw, sn, sq, 0)).2.2.1, 0)).2.2.2 r) :
    foS (seeM o pl nu co st an sp wi x y R).1 (seeM o pl nu co st an sp wi x y R).2.1 (seeM o pl nu co st an sp wi x y R).2.2.2 (seeM o pl nu co st an sp wi x y Q).1 (seeM o pl nu co st an sp wi x y Q).2.1 (seeM o pl nu co st an sp wi x y Q).2.2.2 r := by
  have eR : seeM o pl nu co st an sp wi x y R = lookR o pl nu co wi x y 0 R s1 (an R) (sp R) (zz, zz, zz, 0) := by unfold seeM; rw [hs, nI_clamp (by omega)]
  have eQ : seeM o pl nu co st an sp wi x y Q = lookR o pl nu co wi x y 0 Q s2 (an Q) (sp Q) (zz, zz, zz, 0) := by unfold seeM; rw [hs2, nI_clamp (by omega)]
  rw [eR, eQ]
  have h0 := lookR_rel o pl nu co wi x y 0 R s1 (an R) (sp R) sw sn sq
  have hle := lookR_le o pl nu co wi x y 0 R s1 (an R) (sp R) zz zz zz hs1
  generalize lookR o pl nu co wi x y 0 R s1 (an R) (sp R) (sw, sn, sq, 0) = X0 at h h0
  generalize lookR o pl nu co wi x y 0 R s1 (an R) (sp R) (zz, zz, zz, 0) = X at h0 hle ⊢
  have h1 := lookR_rel o pl nu co wi x y 1 Q s2 (an Q) (sp Q) X0.1 X0.2.1 X0.2.2.1
  generalize lookR o pl nu co wi x y 1 Q s2 (an Q) (sp Q) (X0.1, X0.2.1, X0.2.2.1, 0) = X1 at h h1
  generalize lookR o pl nu co wi x y 0 Q s2 (an Q) (sp Q) (zz, zz, zz, 0) = Y at h1 ⊢
  refine foS_congr h h0.1 h1.1 (fun q hq => ?_) (fun q hq => ?_)
  · have a := h1.2.2 q (by omega)
    have b := h0.2.1 q hq
    rw [show 42 * 0 + q = q by omega] at b
    exact ⟨a.1.trans b.1, a.2.1.trans b.2.1⟩
  · have a := h1.2.1 q hq
    exact ⟨a.1, a.2.1⟩
theorem foS_no {X Y : RW} {r : Int32} (hX : X.2.2.2 ≤ 42) (h : foS X.1 X.2.1 X.2.2.2 Y.1 Y.2.1 Y.2.2.2 r) : r = -1 ↔ alikeR X Y := by
  rcases h with ⟨a, b, c⟩ | ⟨k, a, b, c, d, f, e⟩
  · exact ⟨fun _ => ⟨a, b⟩, fun _ => c⟩
  · refine ⟨fun q => absurd q ?_, fun q => absurd q ?_⟩
    · rw [e]
      exact fun q => absurd (show nI k < 0 by rw [q]; decide) (nI_pos (by omega))
    · rintro ⟨h1, h2⟩
      exact f (by omega) (by omega) (h2 k (by omega))
