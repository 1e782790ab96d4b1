/-! what is to be observed of a run: the model's run over empty rows -/
section OBS
def MR (o : Nat → Int32) (n : Nat) (w : Nat → Int32) (R : Nat) : MS := mgo o n R 40 (rgM zz R, cpF w zz 8, 0, zz, zz, zz, 0)
def obA (o : Nat → Int32) (n : Nat) (w : Nat → Int32) (R : Nat) : Int32 := (MR o n w R).1 0
def obS (o : Nat → Int32) (n : Nat) (w : Nat → Int32) (R : Nat) : Nat := (MR o n w R).2.2.2.2.2.2
noncomputable def obP (o : Nat → Int32) (n : Nat) (w : Nat → Int32) (R : Nat) : Int32 := bz (inP n (MR o n w R).2.2.1)
def obC (o : Nat → Int32) (n : Nat) (w : Nat → Int32) (x : Int32) (R : Nat) : Int32 := cosE o (MR o n w R).2.2.2.1 (MR o n w R).2.2.2.2.2.1 x R (obS o n w R)
noncomputable def obR (o : Nat → Int32) (n : Nat) (w : Nat → Int32) (wi x y : Int32) (R : Nat) : RW := lookR o (MR o n w R).2.2.2.1 (MR o n w R).2.2.2.2.1 (MR o n w R).2.2.2.2.2.1 wi x y 0 R (obS o n w R) (obA o n w R) (obP o n w R) (zz, zz, zz, 0)
variable {o o' w w' : Nat → Int32} {n R : Nat} {ey wi : Int32}
/-- two runs of the model, whatever lay there before -/
def MMv (R : Nat) (rg mm : Nat → Int32) (pt : Int32) (pl nu co : Nat → Int32) (s : Nat) (rg' mm' : Nat → Int32) (pt' : Int32) (pl' nu' co' : Nat → Int32) (s' : Nat) : Prop :=
  (∀ q, q < 4 → rg q = rg' q) ∧ (∀ q, q < 8 → mm q = mm' q) ∧ pt = pt' ∧ s = s' ∧ ∀ q, q < s → pl (40 * R + q) = pl' (40 * R + q) ∧ nu (40 * R + q) = nu' (40 * R + q) ∧ co (40 * R + q) = co' (40 * R + q)
def MM (R : Nat) (S T : MS) : Prop := MMv R S.1 S.2.1 S.2.2.1 S.2.2.2.1 S.2.2.2.2.1 S.2.2.2.2.2.1 S.2.2.2.2.2.2 T.1 T.2.1 T.2.2.1 T.2.2.2.1 T.2.2.2.2.1 T.2.2.2.2.2.1 T.2.2.2.2.2.2
theorem MM.run (hn : n ≤ 8) : ∀ (k : Nat) (S T : MS), MM R S T → MM R (mgo o n R k S) (mgo o n R k T)
  | 0, S, T, h => h
  | k + 1, S, T, h => by
    obtain ⟨rg, mm, pt, pl, nu, co, s⟩ := S
    obtain ⟨rg', mm', pt', pl', nu', co', s'⟩ := T
    obtain ⟨h1, h2, h3, h4, h5⟩ := h
    replace h1 : ∀ q, q < 4 → rg q = rg' q := h1
    replace h2 : ∀ q, q < 8 → mm q = mm' q := h2
    replace h5 : ∀ q, q < s → pl (40 * R + q) = pl' (40 * R + q) ∧ nu (40 * R + q) = nu' (40 * R + q) ∧ co (40 * R + q) = co' (40 * R + q) := h5
    have e : pt = pt' := h3
    have e4 : s = s' := h4
    subst e
    subst e4
    by_cases c : inP n pt
    · obtain ⟨q, hq, rfl⟩ := inP_nI c (by omega)
      rw [mgo_step hq, mgo_step hq]
      have ea := h1 _ (aF_lt (o q))
      have eb := h1 _ (bF_lt (o q))
      refine MM.run hn k _ _ ⟨?_, ?_, ?_, rfl, fun j hj => ?_⟩
      · show ∀ j, j < 4 → workR (kdF (o q)) (aF (o q)) (rg (bF (o q))) (cF (o q)) rg mm j = workR (kdF (o q)) (aF (o q)) (rg' (bF (o q))) (cF (o q)) rg' mm' j
        rw [eb]
        exact workR_eq (aF_lt _) h1 h2
      · show ∀ j, j < 8 → workM (kdF (o q)) (aF (o q)) (rg (bF (o q))) rg mm j = workM (kdF (o q)) (aF (o q)) (rg' (bF (o q))) rg' mm' j
        rw [eb]
        exact workM_eq (aF_lt _) h1 h2
      · show nextF (kdF (o q)) (rg (aF (o q))) (cF (o q)) (nI q) = nextF (kdF (o q)) (rg' (aF (o q))) (cF (o q)) (nI q)
        rw [ea]
      · replace hj : j < s + 1 := hj
        show upd pl (40 * R + s) (nI q) (40 * R + j) = upd pl' (40 * R + s) (nI q) (40 * R + j) ∧ upd nu (40 * R + s) (numF (kdF (o q)) (rg (aF (o q))) (rg (bF (o q)))) (40 * R + j) = upd nu' (40 * R + s) (numF (kdF (o q)) (rg' (aF (o q))) (rg' (bF (o q)))) (40 * R + j) ∧ upd co (40 * R + s) (cosM (kdF (o q)) (rg (bF (o q)))) (40 * R + j) = upd co' (40 * R + s) (cosM (kdF (o q)) (rg' (bF (o q)))) (40 * R + j)
        rw [ea, eb]
        by_cases c2 : j = s
        · subst c2
          rw [up_s, up_s, up_s, up_s, up_s, up_s]
          exact ⟨rfl, rfl, rfl⟩
        · obtain ⟨k1, k2, k3⟩ := h5 j (by omega)
          rw [up_n (by omega), up_n (by omega), up_n (by omega), up_n (by omega), up_n (by omega), up_n (by omega)]
          exact ⟨k1, k2, k3⟩
    · have e1 := mgo_stop (o := o) (n := n) (R := R) (k := k + 1) (S := (rg, mm, pt, pl, nu, co, s)) c
      have e2 := mgo_stop (o := o) (n := n) (R := R) (k := k + 1) (S := (rg', mm', pt, pl', nu', co', s)) c
      rw [e1, e2]
      exact ⟨h1, h2, rfl, rfl, h5⟩
theorem MM.all {rg mm pl nu co : Nat → Int32} (hn : n ≤ 8) : MM R (mgo o n R 40 (rgM rg R, cpF w mm 8, 0, pl, nu, co, 0)) (MR o n w R) := by
  refine MM.run hn 40 _ _ ⟨fun q hq => ?_, fun q hq => ?_, rfl, rfl, fun q hq => absurd hq (Nat.not_lt_zero _)⟩
  · show rgM rg R q = rgM zz R q
    unfold rgM
    rcases (show q = 0 ∨ q = 1 ∨ q = 2 ∨ q = 3 by omega) with rfl | rfl | rfl | rfl <;> rfl
  · show cpF w mm 8 q = cpF w zz 8 q
    rw [cpF_at hq, cpF_at hq]
/-- the model's rows hold run R -/
def Seg (o : Nat → Int32) (n : Nat) (w : Nat → Int32) (st an sp pl nu co : Nat → Int32) (R : Nat) : Prop :=
  st R = nI (obS o n w R) ∧ an R = obA o n w R ∧ sp R = obP o n w R ∧ ∀ q, q < obS o n w R → pl (40 * R + q) = (MR o n w R).2.2.2.1 (40 * R + q) ∧ nu (40 * R + q) = (MR o n w R).2.2.2.2.1 (40 * R + q) ∧ co (40 * R + q) = (MR o n w R).2.2.2.2.2.1 (40 * R + q)
theorem mgo_le : ∀ (k : Nat) (S : MS), (mgo o n R k S).2.2.2.2.2.2 ≤ S.2.2.2.2.2.2 + k
  | 0, S => Nat.le_refl _
  | k + 1, S => by
    rw [mgo]
    split
    · obtain ⟨rg, mm, pt, pl, nu, co, s⟩ := S
      refine Nat.le_trans (mgo_le k _) ?_
      show s + 1 + k ≤ s + (k + 1)
      omega
    · omega
theorem obS_le : obS o n w R ≤ 40 := by
  have := mgo_le (o := o) (n := n) (R := R) 40 (rgM zz R, cpF w zz 8, 0, zz, zz, zz, 0)
  show (mgo o n R 40 _).2.2.2.2.2.2 ≤ 40
  have e : ((rgM zz R, cpF w zz 8, 0, zz, zz, zz, 0) : MS).2.2.2.2.2.2 = 0 := rfl
  omega
theorem Seg.cost {st an sp pl nu co : Nat → Int32} {x : Int32} (h : Seg o n w st an sp pl nu co R) : cosE o pl co x R (obS o n w R) = obC o n w x R := cosE_congr (fun q hq => ⟨(h.2.2.2 q hq).1, (h.2.2.2 q hq).2.2⟩)
theorem Seg.look {st an sp pl nu co : Nat → Int32} {x y : Int32} {A : Nat} {S : RW} (h : Seg o n w st an sp pl nu co R) : lookR o pl nu co wi x y A R (obS o n w R) (an R) (sp R) S = lookR o (MR o n w R).2.2.2.1 (MR o n w R).2.2.2.2.1 (MR o n w R).2.2.2.2.2.1 wi x y A R (obS o n w R) (obA o n w R) (obP o n w R) S := by
  unfold lookR rowCM
  rw [h.2.1, h.2.2.1, rowM_congr (pl' := (MR o n w R).2.2.2.1) (nu' := (MR o n w R).2.2.2.2.1) (fun q hq => ⟨(h.2.2.2 q hq).1, (h.2.2.2 q hq).2.1⟩), h.cost]
  rfl
theorem Seg.see {st an sp pl nu co : Nat → Int32} {x y : Int32} (h : Seg o n w st an sp pl nu co R) : seeM o pl nu co st an sp wi x y R = obR o n w wi x y R := by
  have e : (st R).toNatClampNeg = obS o n w R := by rw [h.1, nI_clamp (by have := obS_le (o := o) (n := n) (w := w) (R := R); omega)]
  unfold seeM
  rw [e, h.look]
  rfl
/-- a run of the class, by what is to be observed -/
def RunV (o : Nat → Int32) (n : Nat) (w : Nat → Int32) (ey wi : Int32) (R : Nat) (ep ew en ct ec : Nat → Int32) (len : Nat) (st an sp : Int32) : Prop :=
  an = obA o n w R ∧ st = nI (obS o n w R) ∧ sp = obP o n w R ∧ (∀ x, cwF ct ec x 8 = obC o n w x R) ∧
  ∀ (x y z : Int32) (a b c : Nat → Int32), ((y &&& 1) = 0 ↔ (z &&& 1) = 0) → ((y &&& 8) = 0 ↔ (z &&& 8) = 0) → ((z &&& 2) = 0 ↔ (ey &&& 2) = 0) → ((z &&& 4) = 0 ↔ (ey &&& 4) = 0) → eqR 0 (fillF y x ep ew en ct ec len an sp (a, b, c, 0)) (obR o n w wi x z R)
theorem RunV.of {S : GS} (h : RR o R ey wi S (MR o n w R)) : RunV o n w ey wi R S.2.2.2.1 S.2.2.2.2.1 S.2.2.2.2.2.1 S.2.2.2.2.2.2.1 S.2.2.2.2.2.2.2.1 S.2.2.2.2.2.2.2.2.1 S.2.2.2.2.2.2.2.2.2.1 (S.1 0) (bz (inP n S.2.2.1)) := by
  have e1 : S.1 0 = obA o n w R := h.1 0 (by omega)
  have e2 : bz (inP n S.2.2.1) = obP o n w R := by
    unfold obP
    rw [h.2.2.1]
  refine ⟨e1, h.2.2.2.1, e2, fun x => h.2.2.2.2.2 x, fun x y z a b c h1 h8 h2 h4 => ?_⟩
  rw [e1, e2]
  exact RR.fill h h1 h8 h2 h4
end OBS
