/-! the two machines in step -/
section RRS
variable {o o' : Nat → Int32} {n R : Nat} {ey wi : Int32}
/-- registers, memory, place; events, costs, how many, steps: against the model's -/
def RRv (o' : Nat → Int32) (R : Nat) (ey wi : Int32) (rg mm : Nat → Int32) (pt : Int32) (ep ew en ct ec : Nat → Int32) (len : Nat) (st : Int32) (rg' mm' : Nat → Int32) (pt' : Int32) (pl nu co : Nat → Int32) (s : Nat) : Prop :=
  (∀ q, q < 4 → rg q = rg' q) ∧ (∀ q, q < 8 → mm q = mm' q) ∧ pt = pt' ∧ st = nI s ∧
  (∀ (x : Int32) (A : Nat) (a b c a' b' c' : Nat → Int32), eqR A (rowF x ep ew en (a, b, c, 0) len) (rowM o' pl nu wi x ey A R (a', b', c', 0) s)) ∧ ∀ x : Int32, cwF ct ec x 8 = cosE o' pl co x R s
def RR (o' : Nat → Int32) (R : Nat) (ey wi : Int32) (S : GS) (T : MS) : Prop := RRv o' R ey wi S.1 S.2.1 S.2.2.1 S.2.2.2.1 S.2.2.2.2.1 S.2.2.2.2.2.1 S.2.2.2.2.2.2.1 S.2.2.2.2.2.2.2.1 S.2.2.2.2.2.2.2.2.1 S.2.2.2.2.2.2.2.2.2.1 T.1 T.2.1 T.2.2.1 T.2.2.2.1 T.2.2.2.2.1 T.2.2.2.2.2.1 T.2.2.2.2.2.2
theorem aF_lt (x : Int32) : aF x < 4 := lo2_lt _
theorem bF_lt (x : Int32) : bF x < 4 := lo2_lt _
theorem workR_eq {kd b c0 : Int32} {a : Nat} {rg mm rg' mm' : Nat → Int32} (ha : a < 4) (h1 : ∀ q, q < 4 → rg q = rg' q) (h2 : ∀ q, q < 8 → mm q = mm' q) : ∀ q, q < 4 → workR kd a b c0 rg mm q = workR kd a b c0 rg' mm' q := by
  intro q hq
  unfold workR
  rw [h1 a ha, h2 _ (lo3_lt b)]
  repeat' split
  all_goals first | exact up_e (h1 q hq) | exact h1 q hq
theorem workM_eq {kd b : Int32} {a : Nat} {rg mm rg' mm' : Nat → Int32} (ha : a < 4) (h1 : ∀ q, q < 4 → rg q = rg' q) (h2 : ∀ q, q < 8 → mm q = mm' q) : ∀ q, q < 8 → workM kd a b rg mm q = workM kd a b rg' mm' q := by
  intro q hq
  unfold workM
  rw [h1 a ha]
  split
  · exact up_e (h2 q hq)
  · exact h2 q hq
theorem rowM_step {pl nu : Nat → Int32} {x y a b : Int32} {A h v s : Nat} {S : RW} (hv : o' h = nI v) (hvl : v < 40960) (hh : h < 8) :
    rowM o' (upd pl (40 * R + s) (nI h)) (upd nu (40 * R + s) (numF (kdF (nI v)) a b)) wi x y A R S (s + 1) =
      if ((x >>> (nI h &&& 31)) &&& 1) = 1 then rowM o' pl nu wi x y A R S s else if (kdF (nI v) = 5 ∨ kdF (nI v) = 6) ∧ ¬ (y &&& 2) = 0 then raddM A (rowM o' pl nu wi x y A R S s) 2 (nI (lo3 b) / wi) (nI h) else if kdF (nI v) = 7 ∧ ¬ (y &&& 4) = 0 then raddM A (rowM o' pl nu wi x y A R S s) 4 (if a = 0 then 1 else 0) (nI h) else rowM o' pl nu wi x y A R S s := by
  have e1 : kA o' (upd pl (40 * R + s) (nI h)) (40 * R + s) = kdF (nI v) := by
    rw [kA_eq up_s (by omega), hv, kd_div hvl]
  have e2 : rowM o' (upd pl (40 * R + s) (nI h)) (upd nu (40 * R + s) (numF (kdF (nI v)) a b)) wi x y A R S s = rowM o' pl nu wi x y A R S s := rowM_congr (fun q hq => ⟨up_n (by omega), up_n (by omega)⟩)
  rw [rowM, e1, e2, up_s, up_s]
  split
  · rfl
  · split
    · next h5 =>
      have : numF (kdF (nI v)) a b = nI (lo3 b) := by
        unfold numF
        rcases h5.1 with q | q
        · rw [if_pos q]
        · rw [if_neg (by rw [q]; decide), if_pos q]
      rw [this]
    · split
      · next h7 =>
        have : numF (kdF (nI v)) a b = if a = 0 then 1 else 0 := by
          unfold numF
          rw [if_neg (by rw [h7.1]; decide), if_neg (by rw [h7.1]; decide), if_pos h7.1]
        rw [this]
      · rfl
theorem tl_1 {kd : Int32} (h : (kd = 5 ∨ kd = 6) ∧ ¬ (ey &&& 2) = 0) (hw : ¬ wi ≤ 0) : tlc kd ey wi = 1 := if_pos ⟨h.1, h.2, hw⟩
theorem tl_2 {kd : Int32} (h1 : ¬ ((kd = 5 ∨ kd = 6) ∧ ¬ (ey &&& 2) = 0)) (h : kd = 7 ∧ ¬ (ey &&& 4) = 0) : tlc kd ey wi = 2 := by
  unfold tlc
  rw [if_neg (fun q => h1 ⟨q.1, q.2.1⟩), if_pos h]
theorem tl_0 {kd : Int32} (h1 : ¬ ((kd = 5 ∨ kd = 6) ∧ ¬ (ey &&& 2) = 0)) (h : ¬ (kd = 7 ∧ ¬ (ey &&& 4) = 0)) : tlc kd ey wi = 0 := by
  unfold tlc
  rw [if_neg (fun q => h1 ⟨q.1, q.2.1⟩), if_neg h]
theorem rowF_step {x p w z : Int32} {ep ew en : Nat → Int32} {len : Nat} {S : RW} : rowF x (upd ep len p) (upd ew len w) (upd en len z) S (len + 1) = if ((x >>> (p &&& 31)) &&& 1) = 0 then radd (rowF x ep ew en S len) p w z else rowF x ep ew en S len := by
  have e : rowF x (upd ep len p) (upd ew len w) (upd en len z) S len = rowF x ep ew en S len := rowF_congr (fun q hq => ⟨up_n (by omega), up_n (by omega), up_n (by omega)⟩)
  rw [rowF, e, up_s, up_s, up_s]
theorem RRv.step {rg mm ep ew en ct ec rg' mm' pl nu co : Nat → Int32} {pt st pt' : Int32} {len s h v : Nat} (H : RRv o' R ey wi rg mm pt ep ew en ct ec len st rg' mm' pt' pl nu co s) (hv : o' h = nI v) (hvl : v < 40960) (hh : h < 8) (hw : ¬ wi ≤ 0) (vi : Int32) :
    RR o' R ey wi (gst ey wi h (nI v) (rg, mm, pt, ep, ew, en, ct, ec, len, st, vi)) (mst1 R h (nI v) (rg', mm', pt', pl, nu, co, s)) := by
  obtain ⟨h1, h2, h3, h4, h5, h6⟩ := H
  have ea := h1 _ (aF_lt (nI v))
  have eb := h1 _ (bF_lt (nI v))
  refine ⟨?_, ?_, ?_, ?_, ?_, ?_⟩
  · show ∀ q, q < 4 → workR (kdF (nI v)) (aF (nI v)) (rg (bF (nI v))) (cF (nI v)) rg mm q = workR (kdF (nI v)) (aF (nI v)) (rg' (bF (nI v))) (cF (nI v)) rg' mm' q
    rw [eb]
    exact workR_eq (aF_lt _) h1 h2
  · show ∀ q, q < 8 → workM (kdF (nI v)) (aF (nI v)) (rg (bF (nI v))) rg mm q = workM (kdF (nI v)) (aF (nI v)) (rg' (bF (nI v))) rg' mm' q
    rw [eb]
    exact workM_eq (aF_lt _) h1 h2
  · show nextF (kdF (nI v)) (rg (aF (nI v))) (cF (nI v)) (nI h) = nextF (kdF (nI v)) (rg' (aF (nI v))) (cF (nI v)) (nI h)
    rw [ea]
  · show st + 1 = nI (s + 1)
    rw [h4, nI_1]
  · intro x A a b c a' b' c'
    have E := h5 x A a b c a' b' c'
    show eqR A (rowF x (tuf (tlc (kdF (nI v)) ey wi) ep len (nI h)) (tuf (tlc (kdF (nI v)) ey wi) ew len (what (tlc (kdF (nI v)) ey wi))) (tuf (tlc (kdF (nI v)) ey wi) en len (tnum (tlc (kdF (nI v)) ey wi) (rg (aF (nI v))) (rg (bF (nI v))) wi)) (a, b, c, 0) (tln (tlc (kdF (nI v)) ey wi) len))
      (rowM o' (upd pl (40 * R + s) (nI h)) (upd nu (40 * R + s) (numF (kdF (nI v)) (rg' (aF (nI v))) (rg' (bF (nI v))))) wi x ey A R (a', b', c', 0) (s + 1))
    rw [rowM_step hv hvl hh, ea, eb]
    by_cases k1 : (kdF (nI v) = 5 ∨ kdF (nI v) = 6) ∧ ¬ (ey &&& 2) = 0
    · rw [tl_1 k1 hw, if_pos k1]
      show eqR A (rowF x (upd ep len (nI h)) (upd ew len 2) (upd en len ((rg' (bF (nI v)) &&& 7) / wi)) (a, b, c, 0) (len + 1)) _
      rw [rowF_step, lo3_eq]
      by_cases b1 : ((x >>> (nI h &&& 31)) &&& 1) = 1
      · rw [if_pos b1, if_neg (fun q => absurd b1 (bit_n.mpr q))]
        exact E
      · rw [if_neg b1, if_pos (bit_n.mp b1)]
        exact eqR_add E
    · rw [if_neg k1]
      by_cases k2 : kdF (nI v) = 7 ∧ ¬ (ey &&& 4) = 0
      · rw [tl_2 k1 k2, if_pos k2]
        show eqR A (rowF x (upd ep len (nI h)) (upd ew len 4) (upd en len (if rg' (aF (nI v)) = 0 then 1 else 0)) (a, b, c, 0) (len + 1)) _
        rw [rowF_step]
        by_cases b1 : ((x >>> (nI h &&& 31)) &&& 1) = 1
        · rw [if_pos b1, if_neg (fun q => absurd b1 (bit_n.mpr q))]
          exact E
        · rw [if_neg b1, if_pos (bit_n.mp b1)]
          exact eqR_add E
      · rw [tl_0 k1 k2, if_neg k2, ite_self]
        exact E
  · intro x
    show cwF (upd ct h (ct h + costF (kdF (nI v)) (rg (bF (nI v))))) (upd ec h (ec h + ecoF (kdF (nI v)))) x 8 = cosE o' (upd pl (40 * R + s) (nI h)) (upd co (40 * R + s) (cosM (kdF (nI v)) (rg' (bF (nI v))))) x R (s + 1)
    have e1 : kA o' (upd pl (40 * R + s) (nI h)) (40 * R + s) = kdF (nI v) := by
      rw [kA_eq up_s (by omega), hv, kd_div hvl]
    rw [cwF_up hh, h6 x, cosE, cosE_congr (pl' := pl) (co' := co) (fun q hq => ⟨up_n (by omega), up_n (by omega)⟩), e1, up_s, up_s, cos_eq, eb]
    congr 1
    by_cases b1 : ((x >>> (nI h &&& 31)) &&& 1) = 1
    · rw [if_neg (fun q => absurd b1 (bit_n.mpr q))]
      unfold ecoF costF
      by_cases k4 : kdF (nI v) = 4
      · rw [if_pos k4, if_pos ⟨b1, k4⟩]
      · rw [if_neg k4, if_neg (fun q => k4 q.2), if_neg k4]
    · rw [if_pos (bit_n.mp b1), if_neg (fun q => b1 q.1)]
theorem RR.run (hn : n ≤ 8) (hO : okO o') (hE : ∀ q, q < n → o q = o' q) (hw : ¬ wi ≤ 0) : ∀ (k : Nat) (S : GS) (T : MS), RR o' R ey wi S T → RR o' R ey wi (gor o n ey wi k S) (mgo o' n R k T)
  | 0, S, T, h => h
  | k + 1, S, T, h => by
    obtain ⟨rg, mm, pt, ep, ew, en, ct, ec, len, st, vi⟩ := S
    obtain ⟨rg', mm', pt', pl, nu, co, s⟩ := T
    have e : pt = pt' := h.2.2.1
    subst e
    by_cases c : inP n pt
    · obtain ⟨q, hq, rfl⟩ := inP_nI c (by omega)
      obtain ⟨v, hvl, hv⟩ := hO q (by omega)
      rw [gor_step hq, mgo_step hq, hE q hq, hv]
      exact RR.run hn hO hE hw k _ _ (RRv.step h hv hvl (by omega) hw vi)
    · have e1 := gor_stop (o := o) (n := n) (ey := ey) (wi := wi) (k := k) (S := (rg, mm, pt, ep, ew, en, ct, ec, len, st, vi)) c
      have e2 := mgo_stop (o := o') (n := n) (R := R) (k := k + 1) (S := (rg', mm', pt, pl, nu, co, s)) c
      rw [e1, e2]
      exact h
theorem and_3 {a : Nat} (h : a < 16) : nI a &&& 3 = nI (a % 4) := pk_andN (by omega) 2 (by decide)
theorem shr_3 {a : Nat} (h : a < 16) : (nI a >>> (2 &&& 31)) &&& 3 = nI (a / 4 % 4) := by
  rw [pk_shrN (by omega) _ 2 (by decide)]
  exact pk_andN (by omega) 2 (by decide)
theorem rg_eq {rg rg' : Nat → Int32} {a b : Nat} (ha : a < 16) (hb : b < 16) : ∀ q, q < 4 → rg0 rg (nI a) (nI b) q = rgM rg' (16 * a + b) q := by
  intro q hq
  unfold rg0 rgM
  rw [and_3 ha, shr_3 ha, and_3 hb, shr_3 hb]
  rw [show (16 * a + b) / 16 % 4 = a % 4 by omega, show (16 * a + b) / 64 = a / 4 % 4 by omega, show (16 * a + b) % 4 = b % 4 by omega, show (16 * a + b) / 4 % 4 = b / 4 % 4 by omega]
  rcases (show q = 0 ∨ q = 1 ∨ q = 2 ∨ q = 3 by omega) with rfl | rfl | rfl | rfl <;> rfl
/-- the two runs of the inputs a, b, whatever lay there before -/
theorem RR.all {w w' rg mm ep ew en ct ec rg' mm' pl nu co : Nat → Int32} {a b : Nat} (hn : n ≤ 8) (hO : okO o') (hE : ∀ q, q < n → o q = o' q) (hW : ∀ q, q < 8 → w q = w' q) (hw : ¬ wi ≤ 0) (ha : a < 16) (hb : b < 16) :
    RR o' (16 * a + b) ey wi (gor o n ey wi 40 (rg0 rg (nI a) (nI b), cpF w mm 8, 0, ep, ew, en, zf ct 8, zf ec 8, 0, 0, 0)) (mgo o' n (16 * a + b) 40 (rgM rg' (16 * a + b), cpF w' mm' 8, 0, pl, nu, co, 0)) := by
  refine RR.run hn hO hE hw 40 _ _ ⟨rg_eq ha hb, fun q hq => ?_, rfl, rfl, fun x A a b c a' b' c' => ⟨rfl, fun q hq => absurd hq (Nat.not_lt_zero _)⟩, fun x => cwF_zero (Nat.le_refl 8)⟩
  show cpF w mm 8 q = cpF w' mm' 8 q
  rw [cpF_at hq, cpF_at hq, hW q hq]
theorem rowM_eyes {pl nu : Nat → Int32} {x y : Int32} {A : Nat} {S : RW} (h2 : (y &&& 2) = 0 ↔ (ey &&& 2) = 0) (h4 : (y &&& 4) = 0 ↔ (ey &&& 4) = 0) : ∀ k, rowM o' pl nu wi x y A R S k = rowM o' pl nu wi x ey A R S k
  | 0 => rfl
  | k + 1 => by
    have e2 : (¬ (y &&& 2) = 0) = ¬ (ey &&& 2) = 0 := propext (not_congr h2)
    have e4 : (¬ (y &&& 4) = 0) = ¬ (ey &&& 4) = 0 := propext (not_congr h4)
    rw [rowM, rowM, rowM_eyes h2 h4 k]
    simp only [e2, e4]
/-- what the eyes see of the two runs: y the class's eyes (any with the runs' eyes on lines and branches), z the model's -/
theorem RR.fill {S : GS} {T : MS} {x y z an sp : Int32} {A : Nat} {a b c a' b' c' : Nat → Int32} (h : RR o' R ey wi S T) (h1 : (y &&& 1) = 0 ↔ (z &&& 1) = 0) (h8 : (y &&& 8) = 0 ↔ (z &&& 8) = 0) (h2 : (z &&& 2) = 0 ↔ (ey &&& 2) = 0) (h4 : (z &&& 4) = 0 ↔ (ey &&& 4) = 0) :
    eqR A (fillF y x S.2.2.2.1 S.2.2.2.2.1 S.2.2.2.2.2.1 S.2.2.2.2.2.2.1 S.2.2.2.2.2.2.2.1 S.2.2.2.2.2.2.2.2.1 an sp (a, b, c, 0)) (lookR o' T.2.2.2.1 T.2.2.2.2.1 T.2.2.2.2.2.1 wi x z A R T.2.2.2.2.2.2 an sp (a', b', c', 0)) := by
  unfold fillF lookR rowA rowAM
  have E : eqR A (rowC y x S.2.2.2.2.2.2.1 S.2.2.2.2.2.2.2.1 sp (rowF x S.2.2.2.1 S.2.2.2.2.1 S.2.2.2.2.2.1 (a, b, c, 0) S.2.2.2.2.2.2.2.2.1)) (rowCM o' T.2.2.2.1 T.2.2.2.2.2.1 x z A R T.2.2.2.2.2.2 sp (rowM o' T.2.2.2.1 T.2.2.2.2.1 wi x z A R (a', b', c', 0) T.2.2.2.2.2.2)) := by
    unfold rowC rowCM
    rw [rowM_eyes h2 h4, h.2.2.2.2.2 x]
    by_cases q : (z &&& 1) = 0
    · rw [if_pos q, if_pos (h1.mpr q)]
      exact h.2.2.2.2.1 x A a b c a' b' c'
    · rw [if_neg q, if_neg (fun k => q (h1.mp k))]
      exact eqR_add (h.2.2.2.2.1 x A a b c a' b' c')
  by_cases q : (z &&& 8) = 0
  · rw [if_pos q, if_pos (h8.mpr q)]
    exact E
  · rw [if_neg q, if_neg (fun k => q (h8.mp k))]
    exact eqR_add E
end RRS
