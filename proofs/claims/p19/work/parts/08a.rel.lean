/-! the class's state beside the model's -/
def LwR (n : Nat) (o pr w o' pr' w' : Nat → Int32) : Prop := (∀ q, q < n → o q = o' q) ∧ (∀ q, q < n → pr q = pr' q) ∧ (∀ q, q < 8 → w q = w' q) ∧ (∀ q, n ≤ q → q < 10 → pr' q = 1) ∧ okO o'
def LwS (t : Gx) (B : Nat) (g : Nat → va_E) (n : Nat) (ey wi ev : Int32) (o pr w o' pr' w' : Nat → Int32) : Prop := Cst t B g o pr w n ey wi ev ∧ Msh t B g n ey wi ev o' pr' w' ∧ LwR n o pr w o' pr' w' ∧ okE ey ∧ isWd wi
def LwI (t : Gx) (B : Nat) (g : Nat → va_E) : Prop := ∃ (n : Nat) (ey wi ev : Int32) (o pr w o' pr' w' : Nat → Int32), LwS t B g n ey wi ev o pr w o' pr' w'
theorem wd_ne {x : Int32} (h : isWd x) : ¬ x = 0 := by
  rcases h with rfl | rfl | rfl | rfl <;> decide
section REL
variable {t : Gx} {B : Nat} {g g1 g2 : Nat → va_E} {n : Nat} {ey wi ev : Int32} {o pr w o' pr' w' : Nat → Int32}
theorem LwS.n8 (h : LwS t B g n ey wi ev o pr w o' pr' w') : n ≤ 8 := h.1.2.1
theorem Msh.fr (h : Msh t B g n ey wi ev o' pr' w') (k : ∀ j, 220 ≤ j → g1 j = g j) : Msh t B g1 n ey wi ev o' pr' w' := by
  obtain ⟨td, po, ps, rg, mm, st, an, sp, pl, nu, co, sm, sw, sn, sq, cl, ⟨a1, a2, a3, a4⟩, ⟨b1, b2, b3, b4, b5, b6, b7, b8⟩, ⟨c1, c2, c3, c4⟩, d1, q⟩ := h
  exact ⟨td, po, ps, rg, mm, st, an, sp, pl, nu, co, sm, sw, sn, sq, cl, ⟨(k _ (by omega)).trans a1, (k _ (by omega)).trans a2, (k _ (by omega)).trans a3, (k _ (by omega)).trans a4⟩, ⟨(k _ (by omega)).trans b1, (k _ (by omega)).trans b2, (k _ (by omega)).trans b3, (k _ (by omega)).trans b4, (k _ (by omega)).trans b5, (k _ (by omega)).trans b6, (k _ (by omega)).trans b7, (k _ (by omega)).trans b8⟩, ⟨(k _ (by omega)).trans c1, (k _ (by omega)).trans c2, (k _ (by omega)).trans c3, (k _ (by omega)).trans c4⟩, (k _ (by omega)).trans d1, q⟩
theorem Msh.core (h : Msh t B g n ey wi ev o' pr' w') : ∃ td po ps, g 220 = mObj B td n ey wi ev po ps ∧ g 221 = .inl (t.1, 10, .inl o') ∧ g 222 = .inl (t.1, 10, .inl pr') ∧ g 223 = .inl (t.1, 8, .inl w') := by
  obtain ⟨td, po, ps, rg, mm, st, an, sp, pl, nu, co, sm, sw, sn, sq, cl, a, -⟩ := h
  exact ⟨td, po, ps, a⟩
theorem msh_re {td2 ey2 wi2 ev2 po2 ps2 : Int32} {n2 : Nat} {o2 pr2 w2 : Nat → Int32} (h : Msh t B g n ey wi ev o' pr' w') (hc : Mco t B g1 td2 n2 ey2 wi2 ev2 po2 ps2 o2 pr2 w2) (k : ∀ j, (j < 220 ∨ 223 < j) → g1 j = g j) : Msh t B g1 n2 ey2 wi2 ev2 o2 pr2 w2 := by
  obtain ⟨td, po, ps, rg, mm, st, an, sp, pl, nu, co, sm, sw, sn, sq, cl, -, ⟨b1, b2, b3, b4, b5, b6, b7, b8⟩, ⟨c1, c2, c3, c4⟩, d1, q⟩ := h
  exact ⟨td2, po2, ps2, rg, mm, st, an, sp, pl, nu, co, sm, sw, sn, sq, cl, hc, ⟨(k _ (by omega)).trans b1, (k _ (by omega)).trans b2, (k _ (by omega)).trans b3, (k _ (by omega)).trans b4, (k _ (by omega)).trans b5, (k _ (by omega)).trans b6, (k _ (by omega)).trans b7, (k _ (by omega)).trans b8⟩, ⟨(k _ (by omega)).trans c1, (k _ (by omega)).trans c2, (k _ (by omega)).trans c3, (k _ (by omega)).trans c4⟩, (k _ (by omega)).trans d1, q⟩
theorem Cst.fr (h : Cst t B g o pr w n ey wi ev) (k : ∀ j, j < 220 → g1 j = g j) : Cst t B g1 o pr w n ey wi ev :=
  ⟨h.1.keep (fun j h1 h2 => k j (by omega)), h.2.1, h.2.2.1.keep (k 5 (by omega)), h.2.2.2.upd (Or.inr (k _ (by omega))) (Or.inr fun j h1 h2 => k j (by omega)) (fun i hi => Or.inr fun j h1 h2 => k j (by have := hi.lo; omega)) (fun i hi => Or.inr fun j h1 h2 => k j (by have := hi.lo; omega)) ⟨k _ (by omega), k _ (by omega), k _ (by omega), k _ (by omega)⟩ (Or.inr (k _ (by omega))) (fun i hi => Or.inr (k _ (by omega))) (Or.inr (k _ (by omega))) (Or.inr (k _ (by omega)))⟩
theorem up_s {f : Nat → Int32} {k : Nat} {v : Int32} : upd f k v k = v := if_pos rfl
theorem up_n {f : Nat → Int32} {k j : Nat} {v : Int32} (h : j ≠ k) : upd f k v j = f j := if_neg h
theorem up_e {f f' : Nat → Int32} {k j : Nat} {v : Int32} (h : f j = f' j) : upd f k v j = upd f' k v j := by
  by_cases e : j = k
  · subst e
    rw [up_s, up_s]
  · rw [up_n e, up_n e, h]
theorem okO_up {k : Nat} {v : Int32} (h : okO o') (hv : inP 40960 v) : okO (upd o' k v) := by
  intro q hq
  by_cases e : q = k
  · subst e
    obtain ⟨j, hj, e⟩ := inP_nI hv (by decide)
    exact ⟨j, hj, by rw [up_s, e]⟩
  · rw [up_n e]
    exact h q hq
theorem on1_at {f : Nat → Int32} : ∀ {k q : Nat}, q < k → on1 f k q = 1
  | 0, q, h => absurd h (Nat.not_lt_zero _)
  | k + 1, q, h => by
    show upd (on1 f k) k 1 q = 1
    by_cases e : q = k
    · subst e
      rw [up_s]
    · rw [up_n e]
      exact on1_at (by omega)
theorem hev_eq {x : Int32} : hev ev x = hevM ev x := by
  unfold hev hevM
  obtain ⟨j, hj, e⟩ := pk_andE (ev >>> (x &&& 31)) (m := 1) 1 (by decide)
  rw [e]
  rcases (show j = 0 ∨ j = 1 by omega) with rfl | rfl <;> decide
theorem in_sub {x : Int32} {n k : Nat} (hn : n ≤ 8) (hk : k ≤ 100) (h : ¬ x < nI k) : (¬ (nI k + nI n) ≤ x) ↔ inP n (x - nI k) := by
  have h0 : ¬ x < 0 := fun q => h (Int32.lt_of_lt_of_le q (nI_pos' (by omega)))
  obtain ⟨j, hj, rfl⟩ := nI_of h0
  have h1 : k ≤ j := by
    rcases Nat.lt_or_ge j k with q | q
    · exact absurd (nI_lt q (by omega)) h
    · exact q
  obtain ⟨i, rfl⟩ : ∃ i, j = k + i := ⟨j - k, by omega⟩
  have e : nI (k + i) - nI k = nI i := by rw [← nI_add, Int32.add_comm, Int32.add_sub_cancel]
  rw [e, nI_add]
  constructor
  · intro q
    have : i < n := by
      rcases Nat.lt_or_ge i n with h2 | h2
      · exact h2
      · exact absurd (nI_le (by omega) (by omega)) q
    exact inP_of this (by omega)
  · intro q
    obtain ⟨a, ha, e2⟩ := inP_nI q (by omega)
    have := (nI_eq (by omega) (by omega)).mp e2
    exact nI_ge (by omega) (by omega)
theorem look_eq {x : Int32} (hn : n ≤ 8) (h : LwR n o pr w o' pr' w') : lookF o pr w n ey wi ev x = lookM o' pr' w' n ey wi ev x := by
  have e1 : ∀ f f' : Nat → Int32, (∀ q, q < n → f q = f' q) → ∀ y, inP n y → f y.toNatClampNeg = f' y.toNatClampNeg := fun f f' hf y hy => by
    obtain ⟨a, ha, rfl⟩ := inP_nI hy (by omega)
    rw [nI_clamp (by omega)]
    exact hf a ha
  unfold lookF lookM lrF
  by_cases h0 : x = 0
  · rw [if_pos h0, if_pos h0]
  rw [if_neg h0, if_neg h0]
  by_cases h1 : x = 1
  · rw [if_pos h1, if_pos h1]
  rw [if_neg h1, if_neg h1]
  by_cases h2 : x = 2
  · rw [if_pos h2, if_pos h2]
  rw [if_neg h2, if_neg h2]
  by_cases h3 : x = 3
  · rw [if_pos h3, if_pos h3]
  rw [if_neg h3, if_neg h3]
  have a1 : (¬ x < 10 ∧ ¬ (10 + nI n) ≤ x) ↔ (¬ x < 10 ∧ inP n (x - 10)) := and_congr_right fun q => in_sub (k := 10) hn (by omega) q
  have a2 : (¬ x < 30 ∧ ¬ (30 + nI n) ≤ x) ↔ (¬ x < 30 ∧ inP n (x - 30)) := and_congr_right fun q => in_sub (k := 30) hn (by omega) q
  by_cases b1 : ¬ x < 10 ∧ inP n (x - 10)
  · rw [if_pos (a1.mpr b1), if_pos b1]
    exact e1 o o' h.1 _ b1.2
  rw [if_neg (fun q => b1 (a1.mp q)), if_neg b1]
  by_cases b2 : ¬ x < 30 ∧ inP n (x - 30)
  · rw [if_pos (a2.mpr b2), if_pos b2]
    exact e1 pr pr' h.2.1 _ b2.2
  rw [if_neg (fun q => b2 (a2.mp q)), if_neg b2]
  by_cases b3 : ¬ x < 50 ∧ ¬ 58 ≤ x
  · rw [if_pos b3, if_pos b3]
    have b4 : inP 8 (x - 50) := (in_sub (x := x) (n := 8) (k := 50) (by omega) (by omega) b3.1).mp b3.2
    obtain ⟨a, ha, e⟩ := inP_nI b4 (by decide)
    rw [e, nI_clamp (by omega)]
    exact h.2.2.1 a ha
  · rw [if_neg b3, if_neg b3]
/-- a heavy call of the class, then of the model -/
theorem pl_heavy (h : LwS t B g n ey wi ev o pr w o' pr' w') (w1 : Kp t B g g1) (w2 : Mk t B g1 g2 n ey wi ev o' pr' w') : LwI t B g2 :=
  ⟨n, ey, wi, ev, o, pr, w, o', pr', w', (w1.cst h.1).1.fr w2.1, w2.2, h.2.2⟩
theorem LwS.mid (h : LwS t B g n ey wi ev o pr w o' pr' w') (k : ∀ j, 220 ≤ j → g1 j = g j) : Msh t B g1 n ey wi ev o' pr' w' := h.2.1.fr k
theorem pl_order {r1 r2 x po ps : Int32} (h : LwS t B g n ey wi ev o pr w o' pr' w')
    (w1 : (inP 40960 x ∧ n < 8 ∧ r1 = nI n ∧ Cst t B g1 (upd o n x) (upd pr n 1) w (n + 1) ey wi ev ∧ (∀ j, 220 ≤ j → g1 j = g j)) ∨ (¬ (inP 40960 x ∧ n < 8) ∧ r1 = -1 ∧ Cst t B g1 o pr w n ey wi ev ∧ (∀ j, 220 ≤ j → g1 j = g j)))
    (w2 : (inP 40960 x ∧ n < 8 ∧ r2 = nI n ∧ Mco t B g2 0 (n + 1) ey wi ev po ps (upd o' n x) pr' w' ∧ (∀ j, (j < 220 ∨ 223 < j) → g2 j = g1 j)) ∨ (¬ (inP 40960 x ∧ n < 8) ∧ r2 = -1 ∧ Mco t B g2 0 n ey wi ev po ps o' pr' w' ∧ (∀ j, (j < 220 ∨ 223 < j) → g2 j = g1 j))) : r1 = r2 ∧ LwI t B g2 := by
  obtain ⟨hC, hM, ⟨q1, q2, q3, q4, q5⟩, hE⟩ := h
  rcases w1 with ⟨a1, a2, a3, a4, a5⟩ | ⟨a1, a3, a4, a5⟩
  · rcases w2 with ⟨b1, b2, b3, b4, b5⟩ | ⟨b1, b3, b4, b5⟩
    · refine ⟨a3.trans b3.symm, n + 1, ey, wi, ev, _, _, _, _, _, _, a4.fr (fun j hj => b5 j (Or.inl hj)), msh_re (hM.fr a5) b4 b5, ⟨fun q hq => ?_, fun q hq => ?_, q3, fun q h1 h2 => q4 q (by omega) h2, okO_up q5 a1⟩, hE⟩
      · by_cases e : q = n
        · subst e
          rw [up_s, up_s]
        · rw [up_n e, up_n e]
          exact q1 q (by omega)
      · by_cases e : q = n
        · subst e
          rw [up_s]
          exact (q4 _ (by omega) (by omega)).symm
        · rw [up_n e]
          exact q2 q (by omega)
    · exact absurd ⟨a1, a2⟩ b1
  · rcases w2 with ⟨b1, b2, b3, b4, b5⟩ | ⟨b1, b3, b4, b5⟩
    · exact absurd ⟨b1, b2⟩ a1
    · exact ⟨a3.trans b3.symm, n, ey, wi, ev, _, _, _, _, _, _, a4.fr (fun j hj => b5 j (Or.inl hj)), msh_re (hM.fr a5) b4 b5, ⟨q1, q2, q3, q4, q5⟩, hE⟩
theorem pl_change {r1 r2 x y po ps : Int32} (h : LwS t B g n ey wi ev o pr w o' pr' w')
    (w1 : (∃ q, q < n ∧ x = nI q ∧ inP 40960 y ∧ r1 = 1 ∧ Cst t B g1 (upd o q y) pr w n ey wi ev ∧ (∀ j, 220 ≤ j → g1 j = g j)) ∨ (¬ (inP n x ∧ inP 40960 y) ∧ r1 = 0 ∧ Cst t B g1 o pr w n ey wi ev ∧ (∀ j, 220 ≤ j → g1 j = g j)))
    (w2 : (∃ q, q < n ∧ x = nI q ∧ inP 40960 y ∧ r2 = 1 ∧ Mco t B g2 0 n ey wi ev po ps (upd o' q y) pr' w' ∧ (∀ j, (j < 220 ∨ 223 < j) → g2 j = g1 j)) ∨ (¬ (inP n x ∧ inP 40960 y) ∧ r2 = 0 ∧ Mco t B g2 0 n ey wi ev po ps o' pr' w' ∧ (∀ j, (j < 220 ∨ 223 < j) → g2 j = g1 j))) : r1 = r2 ∧ LwI t B g2 := by
  have hn := h.n8
  obtain ⟨hC, hM, ⟨q1, q2, q3, q4, q5⟩, hE⟩ := h
  rcases w1 with ⟨k, c1, c2, a1, a3, a4, a5⟩ | ⟨a1, a3, a4, a5⟩
  · rcases w2 with ⟨k2, d1, d2, b1, b3, b4, b5⟩ | ⟨b1, b3, b4, b5⟩
    · obtain rfl : k = k2 := (nI_eq (by omega) (by omega)).mp (c2.symm.trans d2)
      exact ⟨a3.trans b3.symm, n, ey, wi, ev, _, _, _, _, _, _, a4.fr (fun j hj => b5 j (Or.inl hj)), msh_re (hM.fr a5) b4 b5, ⟨fun q hq => up_e (q1 q hq), q2, q3, q4, okO_up q5 a1⟩, hE⟩
    · exact absurd ⟨by rw [c2]; exact inP_of c1 (by omega), a1⟩ b1
  · rcases w2 with ⟨k2, d1, d2, b1, b3, b4, b5⟩ | ⟨b1, b3, b4, b5⟩
    · exact absurd ⟨by rw [d2]; exact inP_of d1 (by omega), b1⟩ a1
    · exact ⟨a3.trans b3.symm, n, ey, wi, ev, _, _, _, _, _, _, a4.fr (fun j hj => b5 j (Or.inl hj)), msh_re (hM.fr a5) b4 b5, ⟨q1, q2, q3, q4, q5⟩, hE⟩
theorem pl_clear {po ps : Int32} (h : LwS t B g n ey wi ev o pr w o' pr' w')
    (w1 : Cst t B g1 o pr w 0 ey wi 0 ∧ (∀ j, 220 ≤ j → g1 j = g j)) (w2 : Mco t B g2 0 0 ey wi 0 po ps o' (on1 pr' 10) w' ∧ (∀ j, (j < 220 ∨ 223 < j) → g2 j = g1 j)) : LwI t B g2 := by
  obtain ⟨hC, hM, ⟨q1, q2, q3, q4, q5⟩, hE⟩ := h
  exact ⟨0, ey, wi, 0, _, _, _, _, _, _, w1.1.fr (fun j hj => w2.2 j (Or.inl hj)), msh_re (hM.fr w1.2) w2.1 w2.2, ⟨fun q hq => absurd hq (Nat.not_lt_zero _), fun q hq => absurd hq (Nat.not_lt_zero _), q3, fun q _ h2 => on1_at h2, q5⟩, hE⟩
theorem pl_word {r1 r2 x y po ps : Int32} (h : LwS t B g n ey wi ev o pr w o' pr' w')
    (w1 : (∃ q, q < 8 ∧ x = nI q ∧ r1 = 1 ∧ Cst t B g1 o pr (upd w q y) n ey wi ev ∧ (∀ j, 220 ≤ j → g1 j = g j)) ∨ (¬ inP 8 x ∧ r1 = 0 ∧ Cst t B g1 o pr w n ey wi ev ∧ (∀ j, 220 ≤ j → g1 j = g j)))
    (w2 : (∃ q, q < 8 ∧ x = nI q ∧ r2 = 1 ∧ Mco t B g2 0 n ey wi ev po ps o' pr' (upd w' q y) ∧ (∀ j, (j < 220 ∨ 223 < j) → g2 j = g1 j)) ∨ (¬ inP 8 x ∧ r2 = 0 ∧ Mco t B g2 0 n ey wi ev po ps o' pr' w' ∧ (∀ j, (j < 220 ∨ 223 < j) → g2 j = g1 j))) : r1 = r2 ∧ LwI t B g2 := by
  obtain ⟨hC, hM, ⟨q1, q2, q3, q4, q5⟩, hE⟩ := h
  rcases w1 with ⟨k, c1, c2, a3, a4, a5⟩ | ⟨a1, a3, a4, a5⟩
  · rcases w2 with ⟨k2, d1, d2, b3, b4, b5⟩ | ⟨b1, b3, b4, b5⟩
    · obtain rfl : k = k2 := (nI_eq (by omega) (by omega)).mp (c2.symm.trans d2)
      exact ⟨a3.trans b3.symm, n, ey, wi, ev, _, _, _, _, _, _, a4.fr (fun j hj => b5 j (Or.inl hj)), msh_re (hM.fr a5) b4 b5, ⟨q1, q2, fun q hq => up_e (q3 q hq), q4, q5⟩, hE⟩
    · exact absurd (by rw [c2]; exact inP_of c1 (by omega)) b1
  · rcases w2 with ⟨k2, d1, d2, b3, b4, b5⟩ | ⟨b1, b3, b4, b5⟩
    · exact absurd (by rw [d2]; exact inP_of d1 (by omega)) a1
    · exact ⟨a3.trans b3.symm, n, ey, wi, ev, _, _, _, _, _, _, a4.fr (fun j hj => b5 j (Or.inl hj)), msh_re (hM.fr a5) b4 b5, ⟨q1, q2, q3, q4, q5⟩, hE⟩
theorem pl_watch {r1 r2 x y po ps : Int32} (h : LwS t B g n ey wi ev o pr w o' pr' w')
    (w1 : (okE x ∧ isWd y ∧ r1 = 1 ∧ Cst t B g1 o pr w n x y ev ∧ (∀ j, 220 ≤ j → g1 j = g j)) ∨ (¬ (okE x ∧ isWd y) ∧ r1 = 0 ∧ Cst t B g1 o pr w n ey wi ev ∧ (∀ j, 220 ≤ j → g1 j = g j)))
    (w2 : (okE x ∧ isWd y ∧ r2 = 1 ∧ Mco t B g2 0 n x y ev po ps o' pr' w' ∧ (∀ j, (j < 220 ∨ 223 < j) → g2 j = g1 j)) ∨ (¬ (okE x ∧ isWd y) ∧ r2 = 0 ∧ Mco t B g2 0 n ey wi ev po ps o' pr' w' ∧ (∀ j, (j < 220 ∨ 223 < j) → g2 j = g1 j))) : r1 = r2 ∧ LwI t B g2 := by
  obtain ⟨hC, hM, hR, hE⟩ := h
  rcases w1 with ⟨c1, c2, a3, a4, a5⟩ | ⟨a1, a3, a4, a5⟩
  · rcases w2 with ⟨d1, d2, b3, b4, b5⟩ | ⟨b1, b3, b4, b5⟩
    · exact ⟨a3.trans b3.symm, n, x, y, ev, _, _, _, _, _, _, a4.fr (fun j hj => b5 j (Or.inl hj)), msh_re (hM.fr a5) b4 b5, hR, c1, c2⟩
    · exact absurd ⟨c1, c2⟩ b1
  · rcases w2 with ⟨d1, d2, b3, b4, b5⟩ | ⟨b1, b3, b4, b5⟩
    · exact absurd ⟨d1, d2⟩ a1
    · exact ⟨a3.trans b3.symm, n, ey, wi, ev, _, _, _, _, _, _, a4.fr (fun j hj => b5 j (Or.inl hj)), msh_re (hM.fr a5) b4 b5, hR, hE⟩
theorem pl_even {r1 r2 x y po ps : Int32} (h : LwS t B g n ey wi ev o pr w o' pr' w')
    (w1 : (inP n x ∧ ¬ hev ev x = y ∧ r1 = 1 ∧ Cst t B g1 o pr w n ey wi (ev ^^^ (1 <<< (x &&& 31))) ∧ (∀ j, 220 ≤ j → g1 j = g j)) ∨ (¬ (inP n x ∧ ¬ hev ev x = y) ∧ r1 = 0 ∧ Cst t B g1 o pr w n ey wi ev ∧ (∀ j, 220 ≤ j → g1 j = g j)))
    (w2 : (inP n x ∧ ¬ hevM ev x = y ∧ r2 = 1 ∧ Mco t B g2 0 n ey wi (ev ^^^ (1 <<< (x &&& 31))) po ps o' pr' w' ∧ (∀ j, (j < 220 ∨ 223 < j) → g2 j = g1 j)) ∨ (¬ (inP n x ∧ ¬ hevM ev x = y) ∧ r2 = 0 ∧ Mco t B g2 0 n ey wi ev po ps o' pr' w' ∧ (∀ j, (j < 220 ∨ 223 < j) → g2 j = g1 j))) : r1 = r2 ∧ LwI t B g2 := by
  obtain ⟨hC, hM, hR, hE⟩ := h
  rw [hev_eq] at w1
  rcases w1 with ⟨c1, c2, a3, a4, a5⟩ | ⟨a1, a3, a4, a5⟩
  · rcases w2 with ⟨d1, d2, b3, b4, b5⟩ | ⟨b1, b3, b4, b5⟩
    · exact ⟨a3.trans b3.symm, n, ey, wi, _, _, _, _, _, _, _, a4.fr (fun j hj => b5 j (Or.inl hj)), msh_re (hM.fr a5) b4 b5, hR, hE⟩
    · exact absurd ⟨c1, c2⟩ b1
  · rcases w2 with ⟨d1, d2, b3, b4, b5⟩ | ⟨b1, b3, b4, b5⟩
    · exact absurd ⟨d1, d2⟩ a1
    · exact ⟨a3.trans b3.symm, n, ey, wi, ev, _, _, _, _, _, _, a4.fr (fun j hj => b5 j (Or.inl hj)), msh_re (hM.fr a5) b4 b5, hR, hE⟩
theorem pl_price {r1 r2 x y po ps : Int32} (h : LwS t B g n ey wi ev o pr w o' pr' w')
    (w1 : (∃ q, q < n ∧ x = nI q ∧ okPr y ∧ r1 = 1 ∧ Cst t B g1 o (upd pr q y) w n ey wi ev ∧ (∀ j, 220 ≤ j → g1 j = g j)) ∨ (¬ (inP n x ∧ okPr y) ∧ r1 = 0 ∧ Cst t B g1 o pr w n ey wi ev ∧ (∀ j, 220 ≤ j → g1 j = g j)))
    (w2 : (∃ q, q < n ∧ x = nI q ∧ okPr y ∧ r2 = 1 ∧ Mco t B g2 0 n ey wi ev po ps o' (upd pr' q y) w' ∧ (∀ j, (j < 220 ∨ 223 < j) → g2 j = g1 j)) ∨ (¬ (inP n x ∧ okPr y) ∧ r2 = 0 ∧ Mco t B g2 0 n ey wi ev po ps o' pr' w' ∧ (∀ j, (j < 220 ∨ 223 < j) → g2 j = g1 j))) : r1 = r2 ∧ LwI t B g2 := by
  have hn := h.n8
  obtain ⟨hC, hM, ⟨q1, q2, q3, q4, q5⟩, hE⟩ := h
  rcases w1 with ⟨k, c1, c2, a1, a3, a4, a5⟩ | ⟨a1, a3, a4, a5⟩
  · rcases w2 with ⟨k2, d1, d2, b1, b3, b4, b5⟩ | ⟨b1, b3, b4, b5⟩
    · obtain rfl : k = k2 := (nI_eq (by omega) (by omega)).mp (c2.symm.trans d2)
      exact ⟨a3.trans b3.symm, n, ey, wi, ev, _, _, _, _, _, _, a4.fr (fun j hj => b5 j (Or.inl hj)), msh_re (hM.fr a5) b4 b5, ⟨q1, fun q hq => up_e (q2 q hq), q3, fun q h1 h2 => (up_n (by omega)).trans (q4 q h1 h2), q5⟩, hE⟩
    · exact absurd ⟨by rw [c2]; exact inP_of c1 (by omega), a1⟩ b1
  · rcases w2 with ⟨k2, d1, d2, b1, b3, b4, b5⟩ | ⟨b1, b3, b4, b5⟩
    · exact absurd ⟨by rw [d2]; exact inP_of d1 (by omega), b1⟩ a1
    · exact ⟨a3.trans b3.symm, n, ey, wi, ev, _, _, _, _, _, _, a4.fr (fun j hj => b5 j (Or.inl hj)), msh_re (hM.fr a5) b4 b5, ⟨q1, q2, q3, q4, q5⟩, hE⟩
theorem pl_look {r1 r2 x po ps : Int32} (h : LwS t B g n ey wi ev o pr w o' pr' w') (w1 : Kp t B g g1 ∧ r1 = lookF o pr w n ey wi ev x) (w2 : r2 = lookM o' pr' w' n ey wi ev x ∧ Mco t B g2 0 n ey wi ev po ps o' pr' w' ∧ (∀ j, (j < 220 ∨ 223 < j) → g2 j = g1 j)) : r1 = r2 ∧ LwI t B g2 := by
  refine ⟨by rw [w1.2, w2.1]; exact look_eq h.n8 h.2.2.1, n, ey, wi, ev, o, pr, w, o', pr', w', (w1.1.cst h.1).1.fr (fun j hj => w2.2.2 j (Or.inl hj)), msh_re (h.2.1.fr (w1.1.cst h.1).2) w2.2.1 w2.2.2, h.2.2⟩
theorem law_first (h : Cst t B g1 zz zz zz 0 15 1 0) (hM : Msh t B g2 0 15 1 0 zz (upd (upd (upd (upd (upd (upd (upd (upd (upd (upd zz 0 1) 1 1) 2 1) 3 1) 4 1) 5 1) 6 1) 7 1) 8 1) 9 1) zz ∧ ∀ j, j < 220 → g2 j = g1 j) : LwI t B g2 := by
  refine ⟨0, 15, 1, 0, zz, zz, zz, zz, _, zz, h.fr hM.2, hM.1, ⟨fun _ _ => rfl, fun q hq => absurd hq (Nat.not_lt_zero _), fun _ _ => rfl, fun q _ h2 => ?_, fun q _ => ⟨0, by omega, rfl⟩⟩, by decide, by decide⟩
  rcases (show q = 0 ∨ q = 1 ∨ q = 2 ∨ q = 3 ∨ q = 4 ∨ q = 5 ∨ q = 6 ∨ q = 7 ∨ q = 8 ∨ q = 9 by omega) with rfl | rfl | rfl | rfl | rfl | rfl | rfl | rfl | rfl | rfl <;> rfl
end REL
