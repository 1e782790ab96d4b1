/-! the relation, with what is kept of the cures -/
def ze_f (x : va_E) : Nat → Int32 := match x with
  | .inl (_, _, .inl f) => f
  | _ => fun _ => 0
def PrOk (f : Nat → Int32) : Prop := ∀ q, q < 10 → okPr (f q)
theorem PrOk.up {f : Nat → Int32} {k : Nat} {y : Int32} (h : PrOk f) (hy : okPr y) : PrOk (upd f k y) := fun q hq => by
  by_cases e : q = k
  · rw [e, up_s]
    exact hy
  · rw [up_n e]
    exact h q hq
def LwK (t : Gx) (B : Nat) (g : Nat → va_E) : Prop := ∃ (n : Nat) (ey wi ev : Int32) (o pr w o' pr' w' : Nat → Int32), LwS t B g n ey wi ev o pr w o' pr' w' ∧ PartOk t g (fun a b => obR o' n w' wi ev ey (16 * a + b)) ∧ CureOk t B g o' n w' wi ey ∧ PrOk pr'
theorem CureOk.keep {t : Gx} {B : Nat} {g g' : Nat → va_E} {o w : Nat → Int32} {n : Nat} {wi ey : Int32} (h : CureOk t B g o n w wi ey) (e1 : g' 113 = g 113) (e2 : g' 114 = g 114) : CureOk t B g' o n w wi ey :=
  h.imp (fun q => e1.trans q) (fun ⟨cm, q, z⟩ => ⟨cm, e2.trans q, z⟩)
theorem cure_fgt {t : Gx} {B : Nat} {g1 g2 : Nat → va_E} {o w : Nat → Int32} {n : Nat} {wi ey : Int32} (h : g1 113 = .inr (0, [.ref (B + 114), .ref (B + 115), .ref (B + 116), .ref (B + 120), .int 0])) (k : ∀ j, j < 220 → g2 j = g1 j) : CureOk t B g2 o n w wi ey := Or.inl ((k _ (by omega)).trans h)
theorem pr_of {t : Gx} {B : Nat} {g : Nat → va_E} {n : Nat} {ey wi ev : Int32} {o pr w f : Nat → Int32} (h : Msh t B g n ey wi ev o pr w) (e : g 222 = .inl (t.1, 10, .inl f)) (hf : PrOk f) : PrOk pr := by
  obtain ⟨_, _, _, _, _, m2, _⟩ := h.core
  have q : pr = f := congrArg ze_f (m2.symm.trans e)
  rw [q]
  exact hf
section RELK
variable {t : Gx} {B : Nat} {g g1 g2 : Nat → va_E} {n : Nat} {ey wi ev : Int32} {o pr w o' pr' w' : Nat → Int32}
theorem pq_hv (h : LwS t B g n ey wi ev o pr w o' pr' w') (hP : PartOk t g (fun a b => obR o' n w' wi ev ey (16 * a + b))) (hCu : CureOk t B g o' n w' wi ey) (hQ : PrOk pr') (w1 : Kp t B g g1) (k : ∀ j, 23 ≤ j → g1 j = g j) (w2 : Mk t B g1 g2 n ey wi ev o' pr' w') : LwK t B g2 :=
  ⟨n, ey, wi, ev, o, pr, w, o', pr', w', ⟨(w1.cst h.1).1.fr w2.1, w2.2, h.2.2⟩, hP.keep (fun j h1 h2 => (w2.1 j (by omega)).trans (k j (by omega))), hCu.keep ((w2.1 _ (by omega)).trans (k _ (by omega))) ((w2.1 _ (by omega)).trans (k _ (by omega))), hQ⟩
theorem pq_cl (h : LwS t B g n ey wi ev o pr w o' pr' w') (hCu : CureOk t B g o' n w' wi ey) (hQ : PrOk pr') (w1 : Kp t B g g1) (hP : PartOk t g1 (fun a b => obR o' n w' wi ev ey (16 * a + b))) (k : ∀ j, 113 ≤ j → g1 j = g j) (w2 : Mk t B g1 g2 n ey wi ev o' pr' w') : LwK t B g2 :=
  ⟨n, ey, wi, ev, o, pr, w, o', pr', w', ⟨(w1.cst h.1).1.fr w2.1, w2.2, h.2.2⟩, hP.keep (fun j h1 h2 => w2.1 j (by omega)), hCu.keep ((w2.1 _ (by omega)).trans (k _ (by omega))) ((w2.1 _ (by omega)).trans (k _ (by omega))), hQ⟩
theorem pq_cu (h : LwS t B g n ey wi ev o pr w o' pr' w') (hP : PartOk t g (fun a b => obR o' n w' wi ev ey (16 * a + b))) (hQ : PrOk pr') (w1 : Kp t B g g1) (hCu : CureOk t B g1 o' n w' wi ey) (k : ∀ j, (9 ≤ j ∧ j ≤ 112) → g1 j = g j) (w2 : Mk t B g1 g2 n ey wi ev o' pr' w') : LwK t B g2 :=
  ⟨n, ey, wi, ev, o, pr, w, o', pr', w', ⟨(w1.cst h.1).1.fr w2.1, w2.2, h.2.2⟩, hP.keep (fun j h1 h2 => (w2.1 j (by omega)).trans (k j (by omega))), hCu.keep (w2.1 _ (by omega)) (w2.1 _ (by omega)), hQ⟩
theorem pq_even {r1 r2 x y po ps : Int32} (h : LwS t B g n ey wi ev o pr w o' pr' w') (hP : PartOk t g (fun a b => obR o' n w' wi ev ey (16 * a + b))) (hCu : CureOk t B g o' n w' wi ey) (hQ : PrOk pr')
    (w1 : (inP n x ∧ ¬ hev ev x = y ∧ r1 = 1 ∧ Cst t B g1 o pr w n ey wi (ev ^^^ (1 <<< (x &&& 31))) ∧ ((∀ j, 42 ≤ j → g1 j = g j) ∧ ∃ cn, g1 41 = .inl (t.1, 16, .inl cn) ∧ ∀ a, a < 16 → cn a = 0)) ∨ (¬ (inP n x ∧ ¬ hev ev x = y) ∧ r1 = 0 ∧ Cst t B g1 o pr w n ey wi ev ∧ (∀ j, 6 ≤ j → g1 j = g j)))
    (w2 : (inP n x ∧ ¬ hevM ev x = y ∧ r2 = 1 ∧ Mco t B g2 0 n ey wi (ev ^^^ (1 <<< (x &&& 31))) po ps o' pr' w' ∧ (∀ j, (j < 220 ∨ 223 < j) → g2 j = g1 j)) ∨ (¬ (inP n x ∧ ¬ hevM ev x = y) ∧ r2 = 0 ∧ Mco t B g2 0 n ey wi ev po ps o' pr' w' ∧ (∀ j, (j < 220 ∨ 223 < j) → g2 j = g1 j))) : r1 = r2 ∧ LwK t B g2 := by
  rcases w1 with ⟨c1, c2, a3, a4, a5, a6⟩ | ⟨a1, a3, a4, a5⟩
  · rcases w2 with ⟨d1, d2, b3, b4, b5⟩ | ⟨b1, b3, b4, b5⟩
    · exact ⟨a3.trans b3.symm, n, ey, wi, _, _, _, _, _, _, _, ⟨a4.fr (fun j hj => b5 j (Or.inl hj)), msh_re (h.2.1.fr (fun j hj => a5 j (by omega))) b4 b5, h.2.2⟩, part_fgt (B := B) a6 (fun j hj => b5 j (Or.inl hj)), hCu.keep ((b5 _ (by omega)).trans (a5 _ (by omega))) ((b5 _ (by omega)).trans (a5 _ (by omega))), hQ⟩
    · exact absurd ⟨c1, by rw [← hev_eq]; exact c2⟩ b1
  · rcases w2 with ⟨d1, d2, -⟩ | ⟨b1, b3, b4, b5⟩
    · exact absurd ⟨d1, by rw [hev_eq]; exact d2⟩ a1
    · exact ⟨a3.trans b3.symm, n, ey, wi, ev, _, _, _, _, _, _, ⟨a4.fr (fun j hj => b5 j (Or.inl hj)), msh_re (h.2.1.fr (fun j hj => a5 j (by omega))) b4 b5, h.2.2⟩, hP.keep (fun j h1 h2 => (b5 j (by omega)).trans (a5 j (by omega))), hCu.keep ((b5 _ (by omega)).trans (a5 _ (by omega))) ((b5 _ (by omega)).trans (a5 _ (by omega))), hQ⟩
theorem pq_order {r1 r2 x po ps : Int32} (h : LwS t B g n ey wi ev o pr w o' pr' w') (hP : PartOk t g (fun a b => obR o' n w' wi ev ey (16 * a + b))) (hCu : CureOk t B g o' n w' wi ey) (hQ : PrOk pr')
    (w1 : (inP 40960 x ∧ n < 8 ∧ r1 = nI n ∧ Cst t B g1 (upd o n x) (upd pr n 1) w (n + 1) ey wi ev ∧ ((∀ j, 220 ≤ j → g1 j = g j) ∧ Fgt t B g1)) ∨ (¬ (inP 40960 x ∧ n < 8) ∧ r1 = -1 ∧ Cst t B g1 o pr w n ey wi ev ∧ (∀ j, 6 ≤ j → g1 j = g j)))
    (w2 : (inP 40960 x ∧ n < 8 ∧ r2 = nI n ∧ Mco t B g2 0 (n + 1) ey wi ev po ps (upd o' n x) pr' w' ∧ (∀ j, (j < 220 ∨ 223 < j) → g2 j = g1 j)) ∨ (¬ (inP 40960 x ∧ n < 8) ∧ r2 = -1 ∧ Mco t B g2 0 n ey wi ev po ps o' pr' w' ∧ (∀ j, (j < 220 ∨ 223 < j) → g2 j = g1 j))) : r1 = r2 ∧ LwK t B g2 := by
  rcases w1 with ⟨a1, a2, a3, a4, a5, a6⟩ | ⟨a1, a3, a4, a5⟩
  · have k2 : ∀ j, j < 220 → g2 j = g1 j := by rcases w2 with ⟨_, _, _, _, q⟩ | ⟨_, _, _, q⟩ <;> exact fun j hj => q j (Or.inl hj)
    have e2 : g2 222 = .inl (t.1, 10, .inl pr') := by rcases w2 with ⟨_, _, _, q, _⟩ | ⟨_, _, q, _⟩ <;> exact q.2.2.1
    obtain ⟨e, n9, ey9, wi9, ev9, o9, pr9, w9, oo9, pp9, ww9, h9⟩ := pl_order h (Or.inl ⟨a1, a2, a3, a4, a5⟩) w2
    exact ⟨e, n9, ey9, wi9, ev9, o9, pr9, w9, oo9, pp9, ww9, h9, part_fgt (B := B) a6.1 k2, cure_fgt a6.2 k2, pr_of h9.2.1 e2 hQ⟩
  · rcases w2 with ⟨b1, b2, -⟩ | ⟨b1, b3, b4, b5⟩
    · exact absurd ⟨b1, b2⟩ a1
    · exact ⟨a3.trans b3.symm, n, ey, wi, ev, _, _, _, _, _, _, ⟨a4.fr (fun j hj => b5 j (Or.inl hj)), msh_re (h.2.1.fr (fun j hj => a5 j (by omega))) b4 b5, h.2.2⟩, hP.keep (fun j h1 h2 => (b5 j (by omega)).trans (a5 j (by omega))), hCu.keep ((b5 _ (by omega)).trans (a5 _ (by omega))) ((b5 _ (by omega)).trans (a5 _ (by omega))), hQ⟩
theorem pq_change {r1 r2 x y po ps : Int32} (h : LwS t B g n ey wi ev o pr w o' pr' w') (hP : PartOk t g (fun a b => obR o' n w' wi ev ey (16 * a + b))) (hCu : CureOk t B g o' n w' wi ey) (hQ : PrOk pr')
    (w1 : (∃ q, q < n ∧ x = nI q ∧ inP 40960 y ∧ r1 = 1 ∧ Cst t B g1 (upd o q y) pr w n ey wi ev ∧ ((∀ j, 220 ≤ j → g1 j = g j) ∧ Fgt t B g1)) ∨ (¬ (inP n x ∧ inP 40960 y) ∧ r1 = 0 ∧ Cst t B g1 o pr w n ey wi ev ∧ (∀ j, 6 ≤ j → g1 j = g j)))
    (w2 : (∃ q, q < n ∧ x = nI q ∧ inP 40960 y ∧ r2 = 1 ∧ Mco t B g2 0 n ey wi ev po ps (upd o' q y) pr' w' ∧ (∀ j, (j < 220 ∨ 223 < j) → g2 j = g1 j)) ∨ (¬ (inP n x ∧ inP 40960 y) ∧ r2 = 0 ∧ Mco t B g2 0 n ey wi ev po ps o' pr' w' ∧ (∀ j, (j < 220 ∨ 223 < j) → g2 j = g1 j))) : r1 = r2 ∧ LwK t B g2 := by
  have hn := h.n8
  rcases w1 with ⟨q, c1, c2, a1, a3, a4, a5, a6⟩ | ⟨a1, a3, a4, a5⟩
  · have k2 : ∀ j, j < 220 → g2 j = g1 j := by rcases w2 with ⟨_, _, _, _, _, _, q⟩ | ⟨_, _, _, q⟩ <;> exact fun j hj => q j (Or.inl hj)
    have e2 : g2 222 = .inl (t.1, 10, .inl pr') := by rcases w2 with ⟨_, _, _, _, _, q, _⟩ | ⟨_, _, q, _⟩ <;> exact q.2.2.1
    obtain ⟨e, n9, ey9, wi9, ev9, o9, pr9, w9, oo9, pp9, ww9, h9⟩ := pl_change h (Or.inl ⟨q, c1, c2, a1, a3, a4, a5⟩) w2
    exact ⟨e, n9, ey9, wi9, ev9, o9, pr9, w9, oo9, pp9, ww9, h9, part_fgt (B := B) a6.1 k2, cure_fgt a6.2 k2, pr_of h9.2.1 e2 hQ⟩
  · rcases w2 with ⟨k2, d1, d2, b1, -⟩ | ⟨b1, b3, b4, b5⟩
    · exact absurd ⟨by rw [d2]; exact inP_of d1 (by omega), b1⟩ a1
    · exact ⟨a3.trans b3.symm, n, ey, wi, ev, _, _, _, _, _, _, ⟨a4.fr (fun j hj => b5 j (Or.inl hj)), msh_re (h.2.1.fr (fun j hj => a5 j (by omega))) b4 b5, h.2.2⟩, hP.keep (fun j h1 h2 => (b5 j (by omega)).trans (a5 j (by omega))), hCu.keep ((b5 _ (by omega)).trans (a5 _ (by omega))) ((b5 _ (by omega)).trans (a5 _ (by omega))), hQ⟩
theorem pq_clear {po ps : Int32} (h : LwS t B g n ey wi ev o pr w o' pr' w')
    (w1 : Cst t B g1 o pr w 0 ey wi 0 ∧ ((∀ j, 220 ≤ j → g1 j = g j) ∧ Fgt t B g1)) (w2 : Mco t B g2 0 0 ey wi 0 po ps o' (on1 pr' 10) w' ∧ (∀ j, (j < 220 ∨ 223 < j) → g2 j = g1 j)) : LwK t B g2 := by
  obtain ⟨n9, ey9, wi9, ev9, o9, pr9, w9, oo9, pp9, ww9, h9⟩ := pl_clear h ⟨w1.1, w1.2.1⟩ w2
  exact ⟨n9, ey9, wi9, ev9, o9, pr9, w9, oo9, pp9, ww9, h9, part_fgt (B := B) w1.2.2.1 (fun j hj => w2.2 j (Or.inl hj)), cure_fgt w1.2.2.2 (fun j hj => w2.2 j (Or.inl hj)), pr_of h9.2.1 w2.1.2.2.1 (fun q hq => by rw [on1_at hq]; exact ⟨by decide, by decide⟩)⟩
theorem pq_word {r1 r2 x y po ps : Int32} (h : LwS t B g n ey wi ev o pr w o' pr' w') (hP : PartOk t g (fun a b => obR o' n w' wi ev ey (16 * a + b))) (hCu : CureOk t B g o' n w' wi ey) (hQ : PrOk pr')
    (w1 : (∃ q, q < 8 ∧ x = nI q ∧ r1 = 1 ∧ Cst t B g1 o pr (upd w q y) n ey wi ev ∧ ((∀ j, 220 ≤ j → g1 j = g j) ∧ Fgt t B g1)) ∨ (¬ inP 8 x ∧ r1 = 0 ∧ Cst t B g1 o pr w n ey wi ev ∧ (∀ j, 6 ≤ j → g1 j = g j)))
    (w2 : (∃ q, q < 8 ∧ x = nI q ∧ r2 = 1 ∧ Mco t B g2 0 n ey wi ev po ps o' pr' (upd w' q y) ∧ (∀ j, (j < 220 ∨ 223 < j) → g2 j = g1 j)) ∨ (¬ inP 8 x ∧ r2 = 0 ∧ Mco t B g2 0 n ey wi ev po ps o' pr' w' ∧ (∀ j, (j < 220 ∨ 223 < j) → g2 j = g1 j))) : r1 = r2 ∧ LwK t B g2 := by
  rcases w1 with ⟨q, c1, c2, a3, a4, a5, a6⟩ | ⟨a1, a3, a4, a5⟩
  · have k2 : ∀ j, j < 220 → g2 j = g1 j := by rcases w2 with ⟨_, _, _, _, _, q⟩ | ⟨_, _, _, q⟩ <;> exact fun j hj => q j (Or.inl hj)
    have e2 : g2 222 = .inl (t.1, 10, .inl pr') := by rcases w2 with ⟨_, _, _, _, q, _⟩ | ⟨_, _, q, _⟩ <;> exact q.2.2.1
    obtain ⟨e, n9, ey9, wi9, ev9, o9, pr9, w9, oo9, pp9, ww9, h9⟩ := pl_word h (Or.inl ⟨q, c1, c2, a3, a4, a5⟩) w2
    exact ⟨e, n9, ey9, wi9, ev9, o9, pr9, w9, oo9, pp9, ww9, h9, part_fgt (B := B) a6.1 k2, cure_fgt a6.2 k2, pr_of h9.2.1 e2 hQ⟩
  · rcases w2 with ⟨k2, d1, d2, -⟩ | ⟨b1, b3, b4, b5⟩
    · exact absurd (by rw [d2]; exact inP_of d1 (by omega)) a1
    · exact ⟨a3.trans b3.symm, n, ey, wi, ev, _, _, _, _, _, _, ⟨a4.fr (fun j hj => b5 j (Or.inl hj)), msh_re (h.2.1.fr (fun j hj => a5 j (by omega))) b4 b5, h.2.2⟩, hP.keep (fun j h1 h2 => (b5 j (by omega)).trans (a5 j (by omega))), hCu.keep ((b5 _ (by omega)).trans (a5 _ (by omega))) ((b5 _ (by omega)).trans (a5 _ (by omega))), hQ⟩
theorem pq_watch {r1 r2 x y po ps : Int32} (h : LwS t B g n ey wi ev o pr w o' pr' w') (hP : PartOk t g (fun a b => obR o' n w' wi ev ey (16 * a + b))) (hCu : CureOk t B g o' n w' wi ey) (hQ : PrOk pr')
    (w1 : (okE x ∧ isWd y ∧ r1 = 1 ∧ Cst t B g1 o pr w n x y ev ∧ ((∀ j, 220 ≤ j → g1 j = g j) ∧ Fgt t B g1)) ∨ (¬ (okE x ∧ isWd y) ∧ r1 = 0 ∧ Cst t B g1 o pr w n ey wi ev ∧ (∀ j, 6 ≤ j → g1 j = g j)))
    (w2 : (okE x ∧ isWd y ∧ r2 = 1 ∧ Mco t B g2 0 n x y ev po ps o' pr' w' ∧ (∀ j, (j < 220 ∨ 223 < j) → g2 j = g1 j)) ∨ (¬ (okE x ∧ isWd y) ∧ r2 = 0 ∧ Mco t B g2 0 n ey wi ev po ps o' pr' w' ∧ (∀ j, (j < 220 ∨ 223 < j) → g2 j = g1 j))) : r1 = r2 ∧ LwK t B g2 := by
  rcases w1 with ⟨c1, c2, a3, a4, a5, a6⟩ | ⟨a1, a3, a4, a5⟩
  · have k2 : ∀ j, j < 220 → g2 j = g1 j := by rcases w2 with ⟨_, _, _, _, q⟩ | ⟨_, _, _, q⟩ <;> exact fun j hj => q j (Or.inl hj)
    have e2 : g2 222 = .inl (t.1, 10, .inl pr') := by rcases w2 with ⟨_, _, _, q, _⟩ | ⟨_, _, q, _⟩ <;> exact q.2.2.1
    obtain ⟨e, n9, ey9, wi9, ev9, o9, pr9, w9, oo9, pp9, ww9, h9⟩ := pl_watch h (Or.inl ⟨c1, c2, a3, a4, a5⟩) w2
    exact ⟨e, n9, ey9, wi9, ev9, o9, pr9, w9, oo9, pp9, ww9, h9, part_fgt (B := B) a6.1 k2, cure_fgt a6.2 k2, pr_of h9.2.1 e2 hQ⟩
  · rcases w2 with ⟨d1, d2, -⟩ | ⟨b1, b3, b4, b5⟩
    · exact absurd ⟨d1, d2⟩ a1
    · exact ⟨a3.trans b3.symm, n, ey, wi, ev, _, _, _, _, _, _, ⟨a4.fr (fun j hj => b5 j (Or.inl hj)), msh_re (h.2.1.fr (fun j hj => a5 j (by omega))) b4 b5, h.2.2⟩, hP.keep (fun j h1 h2 => (b5 j (by omega)).trans (a5 j (by omega))), hCu.keep ((b5 _ (by omega)).trans (a5 _ (by omega))) ((b5 _ (by omega)).trans (a5 _ (by omega))), hQ⟩
theorem pq_price {r1 r2 x y po ps : Int32} (h : LwS t B g n ey wi ev o pr w o' pr' w') (hP : PartOk t g (fun a b => obR o' n w' wi ev ey (16 * a + b))) (hCu : CureOk t B g o' n w' wi ey) (hQ : PrOk pr')
    (w1 : (∃ q, q < n ∧ x = nI q ∧ okPr y ∧ r1 = 1 ∧ Cst t B g1 o (upd pr q y) w n ey wi ev ∧ (∀ j, 6 ≤ j → g1 j = g j)) ∨ (¬ (inP n x ∧ okPr y) ∧ r1 = 0 ∧ Cst t B g1 o pr w n ey wi ev ∧ (∀ j, 6 ≤ j → g1 j = g j)))
    (w2 : (∃ q, q < n ∧ x = nI q ∧ okPr y ∧ r2 = 1 ∧ Mco t B g2 0 n ey wi ev po ps o' (upd pr' q y) w' ∧ (∀ j, (j < 220 ∨ 223 < j) → g2 j = g1 j)) ∨ (¬ (inP n x ∧ okPr y) ∧ r2 = 0 ∧ Mco t B g2 0 n ey wi ev po ps o' pr' w' ∧ (∀ j, (j < 220 ∨ 223 < j) → g2 j = g1 j))) : r1 = r2 ∧ LwK t B g2 := by
  have hn := h.n8
  obtain ⟨hC, hM, ⟨q1, q2, q3, q4, q5⟩, hE⟩ := h
  rcases w1 with ⟨k, c1, c2, a1, a3, a4, a5⟩ | ⟨a1, a3, a4, a5⟩
  · rcases w2 with ⟨k2, d1, d2, b1, b3, b4, b5⟩ | ⟨b1, b3, b4, b5⟩
    · obtain rfl : k = k2 := (nI_eq (by omega) (by omega)).mp (c2.symm.trans d2)
      exact ⟨a3.trans b3.symm, n, ey, wi, ev, _, _, _, _, _, _, ⟨a4.fr (fun j hj => b5 j (Or.inl hj)), msh_re (hM.fr (fun j hj => a5 j (by omega))) b4 b5, ⟨q1, fun q hq => up_e (q2 q hq), q3, fun q h1 h2 => (up_n (by omega)).trans (q4 q h1 h2), q5⟩, hE⟩, hP.keep (fun j h1 h2 => (b5 j (by omega)).trans (a5 j (by omega))), hCu.keep ((b5 _ (by omega)).trans (a5 _ (by omega))) ((b5 _ (by omega)).trans (a5 _ (by omega))), hQ.up a1⟩
    · exact absurd ⟨by rw [c2]; exact inP_of c1 (by omega), a1⟩ b1
  · rcases w2 with ⟨k2, d1, d2, b1, -⟩ | ⟨b1, b3, b4, b5⟩
    · exact absurd ⟨by rw [d2]; exact inP_of d1 (by omega), b1⟩ a1
    · exact ⟨a3.trans b3.symm, n, ey, wi, ev, _, _, _, _, _, _, ⟨a4.fr (fun j hj => b5 j (Or.inl hj)), msh_re (hM.fr (fun j hj => a5 j (by omega))) b4 b5, ⟨q1, q2, q3, q4, q5⟩, hE⟩, hP.keep (fun j h1 h2 => (b5 j (by omega)).trans (a5 j (by omega))), hCu.keep ((b5 _ (by omega)).trans (a5 _ (by omega))) ((b5 _ (by omega)).trans (a5 _ (by omega))), hQ⟩
theorem pq_look {r1 r2 x po ps : Int32} (h : LwS t B g n ey wi ev o pr w o' pr' w') (hP : PartOk t g (fun a b => obR o' n w' wi ev ey (16 * a + b))) (hCu : CureOk t B g o' n w' wi ey) (hQ : PrOk pr') (w1 : KpA t B g g1 ∧ r1 = lookF o pr w n ey wi ev x) (w2 : r2 = lookM o' pr' w' n ey wi ev x ∧ Mco t B g2 0 n ey wi ev po ps o' pr' w' ∧ (∀ j, (j < 220 ∨ 223 < j) → g2 j = g1 j)) : r1 = r2 ∧ LwK t B g2 := by
  have w1k := w1.1.kp
  exact ⟨by rw [w1.2, w2.1]; exact look_eq h.n8 h.2.2.1, n, ey, wi, ev, o, pr, w, o', pr', w', ⟨(w1k.cst h.1).1.fr (fun j hj => w2.2.2 j (Or.inl hj)), msh_re (h.2.1.fr (w1k.cst h.1).2) w2.2.1 w2.2.2, h.2.2⟩, hP.keep (fun j h1 h2 => (w2.2.2 j (by omega)).trans (w1.1.1 j (by omega))), hCu.keep ((w2.2.2 _ (by omega)).trans (w1.1.1 _ (by omega))) ((w2.2.2 _ (by omega)).trans (w1.1.1 _ (by omega))), hQ⟩
end RELK
theorem law_firstK {t : Gx} {B : Nat} {g1 g2 : Nat → va_E} (h : Cst t B g1 zz zz zz 0 15 1 0) (h2 : X2P t B g1) (h0 : X0P t B g1) (hM : Msh t B g2 0 15 1 0 zz (upd (upd (upd (upd (upd (upd (upd (upd (upd (upd zz 0 1) 1 1) 2 1) 3 1) 4 1) 5 1) 6 1) 7 1) 8 1) 9 1) zz ∧ ∀ j, j < 220 → g2 j = g1 j) : LwK t B g2 := by
  obtain ⟨n9, ey9, wi9, ev9, o9, pr9, w9, oo9, pp9, ww9, h9⟩ := law_first h hM
  have okz : okPr 1 := ⟨by decide, by decide⟩
  obtain ⟨_, _, _, _, _, m2, _⟩ := hM.1.core
  refine ⟨n9, ey9, wi9, ev9, o9, pr9, w9, oo9, pp9, ww9, h9, PartOk.zero ((hM.2 _ (by omega)).trans h2.2.1) (fun _ _ => rfl), cure_fgt h0.1.1 hM.2, pr_of h9.2.1 m2 (fun q hq => ?_)⟩
  rcases (show q = 0 ∨ q = 1 ∨ q = 2 ∨ q = 3 ∨ q = 4 ∨ q = 5 ∨ q = 6 ∨ q = 7 ∨ q = 8 ∨ q = 9 by omega) with rfl | rfl | rfl | rfl | rfl | rfl | rfl | rfl | rfl | rfl <;> exact okz
