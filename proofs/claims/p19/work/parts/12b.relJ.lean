/-! the relation, with what is kept of the classes -/
def LwJ (t : Gx) (B : Nat) (g : Nat → va_E) : Prop := ∃ (n : Nat) (ey wi ev : Int32) (o pr w o' pr' w' : Nat → Int32), LwS t B g n ey wi ev o pr w o' pr' w' ∧ PartOk t g (fun a b => obR o' n w' wi ev ey (16 * a + b))
theorem part_fgt {t : Gx} {B : Nat} {g1 g2 : Nat → va_E} {X : Nat → Nat → RW} (h : ∃ cn, g1 41 = .inl (t.1, 16, .inl cn) ∧ ∀ a, a < 16 → cn a = 0) (k : ∀ j, j < 220 → g2 j = g1 j) : PartOk t g2 X := by
  obtain ⟨cn, e, z⟩ := h
  exact PartOk.zero ((k _ (by omega)).trans e) z
section RELJ
variable {t : Gx} {B : Nat} {g g1 g2 : Nat → va_E} {n : Nat} {ey wi ev : Int32} {o pr w o' pr' w' : Nat → Int32}
theorem pj_hv (h : LwS t B g n ey wi ev o pr w o' pr' w') (hP : PartOk t g (fun a b => obR o' n w' wi ev ey (16 * a + b))) (w1 : Kp t B g g1) (k : ∀ j, 25 ≤ j → j ≤ 41 → g1 j = g j) (w2 : Mk t B g1 g2 n ey wi ev o' pr' w') : LwJ t B g2 :=
  ⟨n, ey, wi, ev, o, pr, w, o', pr', w', ⟨(w1.cst h.1).1.fr w2.1, w2.2, h.2.2⟩, hP.keep (fun j h1 h2 => (w2.1 j (by omega)).trans (k j h1 h2))⟩
theorem pj_cl (h : LwS t B g n ey wi ev o pr w o' pr' w') (w1 : Kp t B g g1) (hP : PartOk t g1 (fun a b => obR o' n w' wi ev ey (16 * a + b))) (w2 : Mk t B g1 g2 n ey wi ev o' pr' w') : LwJ t B g2 :=
  ⟨n, ey, wi, ev, o, pr, w, o', pr', w', ⟨(w1.cst h.1).1.fr w2.1, w2.2, h.2.2⟩, hP.keep (fun j h1 h2 => w2.1 j (by omega))⟩
theorem pj_order {r1 r2 x po ps : Int32} (h : LwS t B g n ey wi ev o pr w o' pr' w') (hP : PartOk t g (fun a b => obR o' n w' wi ev ey (16 * a + b)))
    (w1 : (inP 40960 x ∧ n < 8 ∧ r1 = nI n ∧ Cst t B g1 (upd o n x) (upd pr n 1) w (n + 1) ey wi ev ∧ ((∀ j, 220 ≤ j → g1 j = g j) ∧ Fgt t B g1)) ∨ (¬ (inP 40960 x ∧ n < 8) ∧ r1 = -1 ∧ Cst t B g1 o pr w n ey wi ev ∧ (∀ j, 6 ≤ j → g1 j = g j)))
    (w2 : (inP 40960 x ∧ n < 8 ∧ r2 = nI n ∧ Mco t B g2 0 (n + 1) ey wi ev po ps (upd o' n x) pr' w' ∧ (∀ j, (j < 220 ∨ 223 < j) → g2 j = g1 j)) ∨ (¬ (inP 40960 x ∧ n < 8) ∧ r2 = -1 ∧ Mco t B g2 0 n ey wi ev po ps o' pr' w' ∧ (∀ j, (j < 220 ∨ 223 < j) → g2 j = g1 j))) : r1 = r2 ∧ LwJ t B g2 := by
  rcases w1 with ⟨a1, a2, a3, a4, a5, a6⟩ | ⟨a1, a3, a4, a5⟩
  · have k2 : ∀ j, j < 220 → g2 j = g1 j := by rcases w2 with ⟨_, _, _, _, q⟩ | ⟨_, _, _, q⟩ <;> exact fun j hj => q j (Or.inl hj)
    obtain ⟨e, n9, ey9, wi9, ev9, o9, pr9, w9, oo9, pp9, ww9, h9⟩ := pl_order h (Or.inl ⟨a1, a2, a3, a4, a5⟩) w2
    exact ⟨e, n9, ey9, wi9, ev9, o9, pr9, w9, oo9, pp9, ww9, h9, part_fgt (B := B) a6.1 k2⟩
  · rcases w2 with ⟨b1, b2, -⟩ | ⟨b1, b3, b4, b5⟩
    · exact absurd ⟨b1, b2⟩ a1
    · exact ⟨a3.trans b3.symm, n, ey, wi, ev, _, _, _, _, _, _, ⟨a4.fr (fun j hj => b5 j (Or.inl hj)), msh_re (h.2.1.fr (fun j hj => a5 j (by omega))) b4 b5, h.2.2⟩, hP.keep (fun j h1 h2 => (b5 j (by omega)).trans (a5 j (by omega)))⟩
theorem pj_change {r1 r2 x y po ps : Int32} (h : LwS t B g n ey wi ev o pr w o' pr' w') (hP : PartOk t g (fun a b => obR o' n w' wi ev ey (16 * a + b)))
    (w1 : (∃ q, q < n ∧ x = nI q ∧ inP 40960 y ∧ r1 = 1 ∧ Cst t B g1 (upd o q y) pr w n ey wi ev ∧ ((∀ j, 220 ≤ j → g1 j = g j) ∧ Fgt t B g1)) ∨ (¬ (inP n x ∧ inP 40960 y) ∧ r1 = 0 ∧ Cst t B g1 o pr w n ey wi ev ∧ (∀ j, 6 ≤ j → g1 j = g j)))
    (w2 : (∃ q, q < n ∧ x = nI q ∧ inP 40960 y ∧ r2 = 1 ∧ Mco t B g2 0 n ey wi ev po ps (upd o' q y) pr' w' ∧ (∀ j, (j < 220 ∨ 223 < j) → g2 j = g1 j)) ∨ (¬ (inP n x ∧ inP 40960 y) ∧ r2 = 0 ∧ Mco t B g2 0 n ey wi ev po ps o' pr' w' ∧ (∀ j, (j < 220 ∨ 223 < j) → g2 j = g1 j))) : r1 = r2 ∧ LwJ t B g2 := by
  have hn := h.n8
  rcases w1 with ⟨q, c1, c2, a1, a3, a4, a5, a6⟩ | ⟨a1, a3, a4, a5⟩
  · have k2 : ∀ j, j < 220 → g2 j = g1 j := by rcases w2 with ⟨_, _, _, _, _, _, q⟩ | ⟨_, _, _, q⟩ <;> exact fun j hj => q j (Or.inl hj)
    obtain ⟨e, n9, ey9, wi9, ev9, o9, pr9, w9, oo9, pp9, ww9, h9⟩ := pl_change h (Or.inl ⟨q, c1, c2, a1, a3, a4, a5⟩) w2
    exact ⟨e, n9, ey9, wi9, ev9, o9, pr9, w9, oo9, pp9, ww9, h9, part_fgt (B := B) a6.1 k2⟩
  · rcases w2 with ⟨k2, d1, d2, b1, -⟩ | ⟨b1, b3, b4, b5⟩
    · exact absurd ⟨by rw [d2]; exact inP_of d1 (by omega), b1⟩ a1
    · exact ⟨a3.trans b3.symm, n, ey, wi, ev, _, _, _, _, _, _, ⟨a4.fr (fun j hj => b5 j (Or.inl hj)), msh_re (h.2.1.fr (fun j hj => a5 j (by omega))) b4 b5, h.2.2⟩, hP.keep (fun j h1 h2 => (b5 j (by omega)).trans (a5 j (by omega)))⟩
theorem pj_clear {po ps : Int32} (h : LwS t B g n ey wi ev o pr w o' pr' w')
    (w1 : Cst t B g1 o pr w 0 ey wi 0 ∧ ((∀ j, 220 ≤ j → g1 j = g j) ∧ Fgt t B g1)) (w2 : Mco t B g2 0 0 ey wi 0 po ps o' (on1 pr' 10) w' ∧ (∀ j, (j < 220 ∨ 223 < j) → g2 j = g1 j)) : LwJ t B g2 := by
  obtain ⟨n9, ey9, wi9, ev9, o9, pr9, w9, oo9, pp9, ww9, h9⟩ := pl_clear h ⟨w1.1, w1.2.1⟩ w2
  exact ⟨n9, ey9, wi9, ev9, o9, pr9, w9, oo9, pp9, ww9, h9, part_fgt (B := B) w1.2.2.1 (fun j hj => w2.2 j (Or.inl hj))⟩
theorem pj_word {r1 r2 x y po ps : Int32} (h : LwS t B g n ey wi ev o pr w o' pr' w') (hP : PartOk t g (fun a b => obR o' n w' wi ev ey (16 * a + b)))
    (w1 : (∃ q, q < 8 ∧ x = nI q ∧ r1 = 1 ∧ Cst t B g1 o pr (upd w q y) n ey wi ev ∧ ((∀ j, 220 ≤ j → g1 j = g j) ∧ Fgt t B g1)) ∨ (¬ inP 8 x ∧ r1 = 0 ∧ Cst t B g1 o pr w n ey wi ev ∧ (∀ j, 6 ≤ j → g1 j = g j)))
    (w2 : (∃ q, q < 8 ∧ x = nI q ∧ r2 = 1 ∧ Mco t B g2 0 n ey wi ev po ps o' pr' (upd w' q y) ∧ (∀ j, (j < 220 ∨ 223 < j) → g2 j = g1 j)) ∨ (¬ inP 8 x ∧ r2 = 0 ∧ Mco t B g2 0 n ey wi ev po ps o' pr' w' ∧ (∀ j, (j < 220 ∨ 223 < j) → g2 j = g1 j))) : r1 = r2 ∧ LwJ t B g2 := by
  rcases w1 with ⟨q, c1, c2, a3, a4, a5, a6⟩ | ⟨a1, a3, a4, a5⟩
  · have k2 : ∀ j, j < 220 → g2 j = g1 j := by rcases w2 with ⟨_, _, _, _, _, q⟩ | ⟨_, _, _, q⟩ <;> exact fun j hj => q j (Or.inl hj)
    obtain ⟨e, n9, ey9, wi9, ev9, o9, pr9, w9, oo9, pp9, ww9, h9⟩ := pl_word h (Or.inl ⟨q, c1, c2, a3, a4, a5⟩) w2
    exact ⟨e, n9, ey9, wi9, ev9, o9, pr9, w9, oo9, pp9, ww9, h9, part_fgt (B := B) a6.1 k2⟩
  · rcases w2 with ⟨k2, d1, d2, -⟩ | ⟨b1, b3, b4, b5⟩
    · exact absurd (by rw [d2]; exact inP_of d1 (by omega)) a1
    · exact ⟨a3.trans b3.symm, n, ey, wi, ev, _, _, _, _, _, _, ⟨a4.fr (fun j hj => b5 j (Or.inl hj)), msh_re (h.2.1.fr (fun j hj => a5 j (by omega))) b4 b5, h.2.2⟩, hP.keep (fun j h1 h2 => (b5 j (by omega)).trans (a5 j (by omega)))⟩
theorem pj_watch {r1 r2 x y po ps : Int32} (h : LwS t B g n ey wi ev o pr w o' pr' w') (hP : PartOk t g (fun a b => obR o' n w' wi ev ey (16 * a + b)))
    (w1 : (okE x ∧ isWd y ∧ r1 = 1 ∧ Cst t B g1 o pr w n x y ev ∧ ((∀ j, 220 ≤ j → g1 j = g j) ∧ Fgt t B g1)) ∨ (¬ (okE x ∧ isWd y) ∧ r1 = 0 ∧ Cst t B g1 o pr w n ey wi ev ∧ (∀ j, 6 ≤ j → g1 j = g j)))
    (w2 : (okE x ∧ isWd y ∧ r2 = 1 ∧ Mco t B g2 0 n x y ev po ps o' pr' w' ∧ (∀ j, (j < 220 ∨ 223 < j) → g2 j = g1 j)) ∨ (¬ (okE x ∧ isWd y) ∧ r2 = 0 ∧ Mco t B g2 0 n ey wi ev po ps o' pr' w' ∧ (∀ j, (j < 220 ∨ 223 < j) → g2 j = g1 j))) : r1 = r2 ∧ LwJ t B g2 := by
  rcases w1 with ⟨c1, c2, a3, a4, a5, a6⟩ | ⟨a1, a3, a4, a5⟩
  · have k2 : ∀ j, j < 220 → g2 j = g1 j := by rcases w2 with ⟨_, _, _, _, q⟩ | ⟨_, _, _, q⟩ <;> exact fun j hj => q j (Or.inl hj)
    obtain ⟨e, n9, ey9, wi9, ev9, o9, pr9, w9, oo9, pp9, ww9, h9⟩ := pl_watch h (Or.inl ⟨c1, c2, a3, a4, a5⟩) w2
    exact ⟨e, n9, ey9, wi9, ev9, o9, pr9, w9, oo9, pp9, ww9, h9, part_fgt (B := B) a6.1 k2⟩
  · rcases w2 with ⟨d1, d2, -⟩ | ⟨b1, b3, b4, b5⟩
    · exact absurd ⟨d1, d2⟩ a1
    · exact ⟨a3.trans b3.symm, n, ey, wi, ev, _, _, _, _, _, _, ⟨a4.fr (fun j hj => b5 j (Or.inl hj)), msh_re (h.2.1.fr (fun j hj => a5 j (by omega))) b4 b5, h.2.2⟩, hP.keep (fun j h1 h2 => (b5 j (by omega)).trans (a5 j (by omega)))⟩
theorem pj_even {r1 r2 x y po ps : Int32} (h : LwS t B g n ey wi ev o pr w o' pr' w') (hP : PartOk t g (fun a b => obR o' n w' wi ev ey (16 * a + b)))
    (w1 : (inP n x ∧ ¬ hev ev x = y ∧ r1 = 1 ∧ Cst t B g1 o pr w n ey wi (ev ^^^ (1 <<< (x &&& 31))) ∧ ((∀ j, 42 ≤ j → g1 j = g j) ∧ ∃ cn, g1 41 = .inl (t.1, 16, .inl cn) ∧ ∀ a, a < 16 → cn a = 0)) ∨ (¬ (inP n x ∧ ¬ hev ev x = y) ∧ r1 = 0 ∧ Cst t B g1 o pr w n ey wi ev ∧ (∀ j, 6 ≤ j → g1 j = g j)))
    (w2 : (inP n x ∧ ¬ hevM ev x = y ∧ r2 = 1 ∧ Mco t B g2 0 n ey wi (ev ^^^ (1 <<< (x &&& 31))) po ps o' pr' w' ∧ (∀ j, (j < 220 ∨ 223 < j) → g2 j = g1 j)) ∨ (¬ (inP n x ∧ ¬ hevM ev x = y) ∧ r2 = 0 ∧ Mco t B g2 0 n ey wi ev po ps o' pr' w' ∧ (∀ j, (j < 220 ∨ 223 < j) → g2 j = g1 j))) : r1 = r2 ∧ LwJ t B g2 := by
  rcases w1 with ⟨c1, c2, a3, a4, a5, a6⟩ | ⟨a1, a3, a4, a5⟩
  · have k2 : ∀ j, j < 220 → g2 j = g1 j := by rcases w2 with ⟨_, _, _, _, q⟩ | ⟨_, _, _, q⟩ <;> exact fun j hj => q j (Or.inl hj)
    obtain ⟨e, n9, ey9, wi9, ev9, o9, pr9, w9, oo9, pp9, ww9, h9⟩ := pl_even h (Or.inl ⟨c1, c2, a3, a4, fun j hj => a5 j (by omega)⟩) w2
    exact ⟨e, n9, ey9, wi9, ev9, o9, pr9, w9, oo9, pp9, ww9, h9, part_fgt (B := B) a6 k2⟩
  · rcases w2 with ⟨d1, d2, -⟩ | ⟨b1, b3, b4, b5⟩
    · exact absurd ⟨d1, by rw [hev_eq]; exact d2⟩ a1
    · exact ⟨a3.trans b3.symm, n, ey, wi, ev, _, _, _, _, _, _, ⟨a4.fr (fun j hj => b5 j (Or.inl hj)), msh_re (h.2.1.fr (fun j hj => a5 j (by omega))) b4 b5, h.2.2⟩, hP.keep (fun j h1 h2 => (b5 j (by omega)).trans (a5 j (by omega)))⟩
theorem pj_price {r1 r2 x y po ps : Int32} (h : LwS t B g n ey wi ev o pr w o' pr' w') (hP : PartOk t g (fun a b => obR o' n w' wi ev ey (16 * a + b)))
    (w1 : (∃ q, q < n ∧ x = nI q ∧ okPr y ∧ r1 = 1 ∧ Cst t B g1 o (upd pr q y) w n ey wi ev ∧ (∀ j, 6 ≤ j → g1 j = g j)) ∨ (¬ (inP n x ∧ okPr y) ∧ r1 = 0 ∧ Cst t B g1 o pr w n ey wi ev ∧ (∀ j, 6 ≤ j → g1 j = g j)))
    (w2 : (∃ q, q < n ∧ x = nI q ∧ okPr y ∧ r2 = 1 ∧ Mco t B g2 0 n ey wi ev po ps o' (upd pr' q y) w' ∧ (∀ j, (j < 220 ∨ 223 < j) → g2 j = g1 j)) ∨ (¬ (inP n x ∧ okPr y) ∧ r2 = 0 ∧ Mco t B g2 0 n ey wi ev po ps o' pr' w' ∧ (∀ j, (j < 220 ∨ 223 < j) → g2 j = g1 j))) : r1 = r2 ∧ LwJ t B g2 := by
  have hn := h.n8
  obtain ⟨hC, hM, ⟨q1, q2, q3, q4, q5⟩, hE⟩ := h
  rcases w1 with ⟨k, c1, c2, a1, a3, a4, a5⟩ | ⟨a1, a3, a4, a5⟩
  · rcases w2 with ⟨k2, d1, d2, b1, b3, b4, b5⟩ | ⟨b1, b3, b4, b5⟩
    · obtain rfl : k = k2 := (nI_eq (by omega) (by omega)).mp (c2.symm.trans d2)
      exact ⟨a3.trans b3.symm, n, ey, wi, ev, _, _, _, _, _, _, ⟨a4.fr (fun j hj => b5 j (Or.inl hj)), msh_re (hM.fr (fun j hj => a5 j (by omega))) b4 b5, ⟨q1, fun q hq => up_e (q2 q hq), q3, fun q h1 h2 => (up_n (by omega)).trans (q4 q h1 h2), q5⟩, hE⟩, hP.keep (fun j h1 h2 => (b5 j (by omega)).trans (a5 j (by omega)))⟩
    · exact absurd ⟨by rw [c2]; exact inP_of c1 (by omega), a1⟩ b1
  · rcases w2 with ⟨k2, d1, d2, b1, -⟩ | ⟨b1, b3, b4, b5⟩
    · exact absurd ⟨by rw [d2]; exact inP_of d1 (by omega), b1⟩ a1
    · exact ⟨a3.trans b3.symm, n, ey, wi, ev, _, _, _, _, _, _, ⟨a4.fr (fun j hj => b5 j (Or.inl hj)), msh_re (hM.fr (fun j hj => a5 j (by omega))) b4 b5, ⟨q1, q2, q3, q4, q5⟩, hE⟩, hP.keep (fun j h1 h2 => (b5 j (by omega)).trans (a5 j (by omega)))⟩
theorem pj_look {r1 r2 x po ps : Int32} (h : LwS t B g n ey wi ev o pr w o' pr' w') (hP : PartOk t g (fun a b => obR o' n w' wi ev ey (16 * a + b))) (w1 : KpA t B g g1 ∧ r1 = lookF o pr w n ey wi ev x) (w2 : r2 = lookM o' pr' w' n ey wi ev x ∧ Mco t B g2 0 n ey wi ev po ps o' pr' w' ∧ (∀ j, (j < 220 ∨ 223 < j) → g2 j = g1 j)) : r1 = r2 ∧ LwJ t B g2 := by
  have w1k := w1.1.kp
  exact ⟨by rw [w1.2, w2.1]; exact look_eq h.n8 h.2.2.1, n, ey, wi, ev, o, pr, w, o', pr', w', ⟨(w1k.cst h.1).1.fr (fun j hj => w2.2.2 j (Or.inl hj)), msh_re (h.2.1.fr (w1k.cst h.1).2) w2.2.1 w2.2.2, h.2.2⟩, hP.keep (fun j h1 h2 => (w2.2.2 j (by omega)).trans (w1.1.1 j (by omega)))⟩
end RELJ
theorem clsA_uniq {X : Nat → Nat → RW} {x r r' : Int32} (h : clsA X x r) (h' : clsA X x r') : r = r' := by
  rcases h with ⟨a1, e⟩ | ⟨a, ha, rfl, cl, mn, hc, e⟩
  · rcases h' with ⟨-, e'⟩ | ⟨a, ha, rfl, -⟩
    · rw [e, e']
    · exact absurd (inP_of ha (by omega)) a1
  · rcases h' with ⟨b1, -⟩ | ⟨a', ha', q, cl', mn', hc', e'⟩
    · exact absurd (inP_of ha (by omega)) b1
    · have : a = a' := (nI_eq (by omega) (by omega)).mp q
      subst this
      rw [e, e', (hc.uniq (eqv_al (X a)) hc' 16 (Nat.le_refl _)).1]
theorem clsB_uniq {X : Nat → Nat → RW} {x y r r' : Int32} (h : clsB X x y r) (h' : clsB X x y r') : r = r' := by
  rcases h with ⟨a1, e⟩ | ⟨a, b, ha, hb, rfl, rfl, cl, mn, hc, e⟩
  · rcases h' with ⟨-, e'⟩ | ⟨a, b, ha, hb, rfl, rfl, -⟩
    · rw [e, e']
    · exact absurd ⟨inP_of ha (by omega), inP_of hb (by omega)⟩ a1
  · rcases h' with ⟨b1, -⟩ | ⟨a', b', ha', hb', q, q2, cl', mn', hc', e'⟩
    · exact absurd ⟨inP_of ha (by omega), inP_of hb (by omega)⟩ b1
    · have : a = a' := (nI_eq (by omega) (by omega)).mp q
      subst this
      have : b = b' := (nI_eq (by omega) (by omega)).mp q2
      subst this
      rw [e, e', (hc.uniq (eqv_al (X a)) hc' 16 (Nat.le_refl _)).2 b hb]
theorem mostA_uniq {X : Nat → Nat → RW} {r r' : Int32} (h : mostA X r) (h' : mostA X r') : r = r' := by
  obtain ⟨f, hf, e⟩ := h
  obtain ⟨f', hf', e'⟩ := h'
  rw [e, e', maxTo_congr (fun a ha => ?_)]
  obtain ⟨cl, mn, hc, e1⟩ := hf a ha
  obtain ⟨cl', mn', hc', e2⟩ := hf' a ha
  rw [e1, e2, (hc.uniq (eqv_al (X a)) hc' 16 (Nat.le_refl _)).1]
theorem silA_eq {X : Nat → RW} {r r' : Int32} (h : (r = 1 ∧ ∀ a, a < 16 → ∃ cl mn, ClsP (fun b c => alikeR (X (16 * a + b)) (X (16 * a + c))) cl mn 16 ∧ mn 16 ≤ 1) ∨ (r = 0 ∧ ∃ a, a < 16 ∧ ∃ cl mn, ClsP (fun b c => alikeR (X (16 * a + b)) (X (16 * a + c))) cl mn 16 ∧ 1 < mn 16))
    (h' : (r' = 1 ∧ ∀ J, J < 256 → ¬ J % 16 = 0 → alikeR (X (J / 16 * 16)) (X J)) ∨ (r' = 0 ∧ ∃ K, K < 256 ∧ ¬ K % 16 = 0 ∧ ¬ alikeR (X (K / 16 * 16)) (X K))) : r = r' := by
  rcases h with ⟨e, h⟩ | ⟨e, a, ha, cl, mn, hc, hm⟩
  · rcases h' with ⟨e', -⟩ | ⟨e', K, k1, k2, k3⟩
    · rw [e, e']
    · have := qt_all (X := fun b => X (16 * (K / 16) + b)) (h (K / 16) (by omega)) (K % 16) (by omega)
      exact absurd this (sil_ne k1 k3)
  · rcases h' with ⟨e', h'⟩ | ⟨e', -⟩
    · have h2 := sil_all h' a ha
      have h3 := hc.one (fun b hb => (hc.zero (eqv_al (fun b => X (16 * a + b))) (by omega) hb).mpr (h2 b hb)) 16 (Nat.le_refl _)
      omega
    · rw [e, e']
theorem law_firstJ {t : Gx} {B : Nat} {g1 g2 : Nat → va_E} (h : Cst t B g1 zz zz zz 0 15 1 0) (h2 : X2P t B g1) (hM : Msh t B g2 0 15 1 0 zz (upd (upd (upd (upd (upd (upd (upd (upd (upd (upd zz 0 1) 1 1) 2 1) 3 1) 4 1) 5 1) 6 1) 7 1) 8 1) 9 1) zz ∧ ∀ j, j < 220 → g2 j = g1 j) : LwJ t B g2 := by
  obtain ⟨n9, ey9, wi9, ev9, o9, pr9, w9, oo9, pp9, ww9, h9⟩ := law_first h hM
  exact ⟨n9, ey9, wi9, ev9, o9, pr9, w9, oo9, pp9, ww9, h9, PartOk.zero ((hM.2 _ (by omega)).trans h2.2.1) (fun _ _ => rfl)⟩
