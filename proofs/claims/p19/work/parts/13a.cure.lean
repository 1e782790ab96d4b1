/-! cures: what the eyes but that on the answer see, whatever is even -/
theorem eyes_all : ∀ k, k < 16 → (((nI k &&& -9) &&& 1) = 0 ↔ ((nI k &&& 7) &&& 1) = 0) ∧ ((nI k &&& -9) &&& 8) = 0 ∧ ((nI k &&& 7) &&& 8) = 0 ∧ (((nI k &&& 7) &&& 2) = 0 ↔ (nI k &&& 2) = 0) ∧ (((nI k &&& 7) &&& 4) = 0 ↔ (nI k &&& 4) = 0) ∧ (((nI k &&& -9) &&& 1) = 0 ↔ (nI k &&& 1) = 0) ∧ ∀ z, z < 10 → ((eyeOnF (nI z) &&& (nI k &&& -9)) = 0 ↔ (eyeOnF (nI z) &&& (nI k &&& 7)) = 0) := by decide +kernel
theorem okE_nI {ey : Int32} (h : okE ey) : ∃ k, k < 16 ∧ ey = nI k := by
  obtain ⟨j, hj, rfl⟩ := nI_of h.1
  refine ⟨j, ?_, rfl⟩
  rcases Nat.lt_or_ge j 16 with q | q
  · exact q
  · exact absurd (show nI 15 < nI j from nI_lt (by omega) hj) h.2
section CUR
variable {o w : Nat → Int32} {n R : Nat} {wi y : Int32}
/-- the places of a run are places -/
theorem mgo_pl : ∀ (k : Nat) (S : MS), n ≤ 8 → (∀ q, q < S.2.2.2.2.2.2 → ∃ h, h < n ∧ S.2.2.2.1 (40 * R + q) = nI h) → ∀ q, q < (mgo o n R k S).2.2.2.2.2.2 → ∃ h, h < n ∧ (mgo o n R k S).2.2.2.1 (40 * R + q) = nI h
  | 0, S, _, h => h
  | k + 1, S, hn, h => by
    obtain ⟨rg, mm, pt, pl, nu, co, s⟩ := S
    by_cases c : inP n pt
    · obtain ⟨q, hq, rfl⟩ := inP_nI c (by omega)
      rw [mgo_step hq]
      refine mgo_pl k _ hn (fun j hj => ?_)
      replace hj : j < s + 1 := hj
      show ∃ h, h < n ∧ upd pl (40 * R + s) (nI q) (40 * R + j) = nI h
      by_cases e : j = s
      · subst e
        exact ⟨q, hq, by rw [up_s]⟩
      · rw [up_n (by omega)]
        exact h j (show j < s by omega)
    · have e1 := mgo_stop (o := o) (n := n) (R := R) (k := k + 1) (S := (rg, mm, pt, pl, nu, co, s)) c
      rw [e1]
      exact h
theorem MR_pl (hn : n ≤ 8) : ∀ q, q < obS o n w R → ∃ h, h < n ∧ (MR o n w R).2.2.2.1 (40 * R + q) = nI h := mgo_pl 40 _ hn (fun q hq => absurd hq (Nat.not_lt_zero _))
/-- two sets that agree where it matters -/
def agree (o : Nat → Int32) (n : Nat) (y x x2 : Int32) : Prop := ∀ q, q < n → ¬ (eyeOnF (kdF (o q)) &&& y) = 0 → ((x >>> (nI q &&& 31)) &&& 1) = ((x2 >>> (nI q &&& 31)) &&& 1)
theorem eye_line {kd : Int32} (h : (kd = 5 ∨ kd = 6) ∧ ¬ (y &&& 2) = 0) : ¬ (eyeOnF kd &&& y) = 0 := by
  have e : eyeOnF kd = 2 := by
    rcases h.1 with rfl | rfl <;> decide
  rw [e, Int32.and_comm]
  exact h.2
theorem eye_br {kd : Int32} (h : kd = 7 ∧ ¬ (y &&& 4) = 0) : ¬ (eyeOnF kd &&& y) = 0 := by
  have e : eyeOnF kd = 4 := by
    rw [h.1]
    decide
  rw [e, Int32.and_comm]
  exact h.2
theorem eye_co {kd : Int32} (h : kd = 4) (hy : ¬ (y &&& 1) = 0) : ¬ (eyeOnF kd &&& y) = 0 := by
  have e : eyeOnF kd = 1 := by
    rw [h]
    decide
  rw [e, Int32.and_comm]
  exact hy
theorem kA_kd {pl : Nat → Int32} {k h : Nat} (hO : okO o) (hh : h < 8) (e : pl k = nI h) : kA o pl k = kdF (o h) := by
  obtain ⟨v, hv, ev⟩ := hO h hh
  rw [kA_eq e (by omega), ev, kd_div hv]
theorem rowM_agree {pl nu : Nat → Int32} {x x2 : Int32} {A : Nat} {S : RW} (hn : n ≤ 8) (hO : okO o) (h : agree o n y x x2) : ∀ k, (∀ q, q < k → ∃ h, h < n ∧ pl (40 * R + q) = nI h) → rowM o pl nu wi x y A R S k = rowM o pl nu wi x2 y A R S k
  | 0, _ => rfl
  | k + 1, hp => by
    obtain ⟨p, hpn, ep⟩ := hp k (by omega)
    have ih := rowM_agree (nu := nu) (A := A) (S := S) hn hO h k (fun q hq => hp q (by omega))
    rw [rowM, rowM, ih, kA_kd hO (by omega) ep, ep]
    by_cases k1 : (kdF (o p) = 5 ∨ kdF (o p) = 6) ∧ ¬ (y &&& 2) = 0
    · rw [h p hpn (eye_line k1)]
    · by_cases k2 : kdF (o p) = 7 ∧ ¬ (y &&& 4) = 0
      · rw [h p hpn (eye_br k2)]
      · rw [if_neg k1, if_neg k2, ite_self, ite_self]
theorem cosE_agree {pl co : Nat → Int32} {x x2 : Int32} (hn : n ≤ 8) (hO : okO o) (hy : ¬ (y &&& 1) = 0) (h : agree o n y x x2) : ∀ k, (∀ q, q < k → ∃ h, h < n ∧ pl (40 * R + q) = nI h) → cosE o pl co x R k = cosE o pl co x2 R k
  | 0, _ => rfl
  | k + 1, hp => by
    obtain ⟨p, hpn, ep⟩ := hp k (by omega)
    have ih := cosE_agree (co := co) hn hO hy h k (fun q hq => hp q (by omega))
    rw [cosE, cosE, ih, kA_kd hO (by omega) ep, ep]
    by_cases k4 : kdF (o p) = 4
    · rw [h p hpn (eye_co k4 hy)]
    · rw [if_neg (fun q => k4 q.2), if_neg (fun q => k4 q.2)]
theorem obR_agree {x x2 : Int32} (hn : n ≤ 8) (hO : okO o) (h : agree o n y x x2) : obR o n w wi x y R = obR o n w wi x2 y R := by
  unfold obR lookR rowCM
  rw [rowM_agree hn hO h _ (MR_pl hn)]
  by_cases c : (y &&& 1) = 0
  · rw [if_pos c, if_pos c]
  · rw [if_neg c, if_neg c, cosE_agree hn hO c h _ (MR_pl hn)]
end CUR
/-- runs that are always seen alike -/
theorem fill_alike {ey y x an an2 sp sp2 : Int32} {ep ew en ct ec ep2 ew2 en2 ct2 ec2 : Nat → Int32} {len len2 : Nat} {S : RW} (h : alike ey ep ew en ct ec len sp ep2 ew2 en2 ct2 ec2 len2 sp2) (h1 : (y &&& 1) = 0 ↔ (ey &&& 1) = 0) (h8 : (y &&& 8) = 0) : fillF y x ep ew en ct ec len an sp S = fillF y x ep2 ew2 en2 ct2 ec2 len2 an2 sp2 S := by
  obtain ⟨hc, hl, he⟩ := h
  subst hl
  unfold fillF rowA rowC
  rw [if_pos h8, if_pos h8, rowF_congr he]
  by_cases c : (y &&& 1) = 0
  · rw [if_pos c, if_pos c]
  · obtain ⟨e1, e2⟩ := hc (fun q => c (h1.mpr q))
    rw [if_neg c, if_neg c, cwF_congr e2, e1]
theorem eqR_al {S X Y : RW} (h : eqR 0 S X) (k : eqR 0 S Y) : alikeR X Y := by
  refine ⟨h.1.symm.trans k.1, fun q hq => ?_⟩
  have a := h.2 q (by rw [h.1]; exact hq)
  have b := k.2 q (by rw [h.1]; exact hq)
  rw [Nat.mul_zero, Nat.zero_add] at a b
  exact ⟨a.2.1.symm.trans b.2.1, a.2.2.symm.trans b.2.2⟩
theorem run_alike {o w : Nat → Int32} {n R R2 : Nat} {ey wi st st2 an an2 sp sp2 : Int32} {ep ew en ct ec ep2 ew2 en2 ct2 ec2 : Nat → Int32} {len len2 : Nat} (hE : okE ey) (h1 : RunV o n w ey wi R ep ew en ct ec len st an sp) (h2 : RunV o n w ey wi R2 ep2 ew2 en2 ct2 ec2 len2 st2 an2 sp2) (h : alike ey ep ew en ct ec len sp ep2 ew2 en2 ct2 ec2 len2 sp2) (x : Int32) : alikeR (obR o n w wi x (ey &&& 7) R) (obR o n w wi x (ey &&& 7) R2) := by
  obtain ⟨k, hk, rfl⟩ := okE_nI hE
  obtain ⟨e1, e8, e8b, e2, e4, e1b, -⟩ := eyes_all k hk
  have a := h1.2.2.2.2 x (nI k &&& -9) (nI k &&& 7) zz zz zz e1 ⟨fun _ => e8b, fun _ => e8⟩ e2 e4
  have b := h2.2.2.2.2 x (nI k &&& -9) (nI k &&& 7) zz zz zz e1 ⟨fun _ => e8b, fun _ => e8⟩ e2 e4
  rw [fill_alike (an2 := an2) h e1b e8] at a
  exact eqR_al a b
/-! the places that matter, as a number -/
theorem fa_or (a b : Nat) : nI a ||| nI b = nI (a ||| b) := by
  apply Int32.toBitVec_inj.1
  show BitVec.ofNat 32 a ||| BitVec.ofNat 32 b = BitVec.ofNat 32 (a ||| b)
  apply BitVec.eq_of_getLsbD_eq
  intro i hi
  simp [hi]
def undN (o : Nat → Int32) (y : Int32) : Nat → Nat
  | 0 => 0
  | k + 1 => if (eyeOnF (o k >>> (12 &&& 31)) &&& y) = 0 then undN o y k else undN o y k ||| 2 ^ k
theorem undN_lt {o : Nat → Int32} {y : Int32} : ∀ k, undN o y k < 2 ^ k
  | 0 => by
    show 0 < 1
    omega
  | k + 1 => by
    have h := undN_lt (o := o) (y := y) k
    have h2 : 2 ^ k < 2 ^ (k + 1) := Nat.pow_lt_pow_right (by omega) (by omega)
    rw [undN]
    split
    · omega
    · exact Nat.or_lt_two_pow (by omega) h2
theorem undN_eq {o : Nat → Int32} {y : Int32} : ∀ k, k ≤ 8 → undF o y k = nI (undN o y k)
  | 0, _ => rfl
  | k + 1, h => by
    rw [undF, undN, undN_eq k (by omega), (sh1_all k (by omega)).1]
    split
    · rfl
    · exact fa_or _ _
theorem undN_bit {o : Nat → Int32} {y : Int32} : ∀ k q, q < k → ((undN o y k).testBit q = true ↔ ¬ (eyeOnF (o q >>> (12 &&& 31)) &&& y) = 0)
  | 0, q, h => absurd h (Nat.not_lt_zero _)
  | k + 1, q, h => by
    rw [undN]
    by_cases e : q = k
    · subst e
      split
      · next c =>
        rw [Nat.testBit_lt_two_pow (undN_lt q)]
        exact ⟨(fun q => by cases q), fun q => absurd c q⟩
      · next c =>
        rw [Nat.testBit_or, Nat.testBit_two_pow_self, Bool.or_true]
        exact ⟨fun _ => c, fun _ => rfl⟩
    · have ih := undN_bit (o := o) (y := y) k q (by omega)
      split
      · exact ih
      · rw [Nat.testBit_or, Nat.testBit_two_pow_of_ne (by omega), Bool.or_false]
        exact ih
theorem bit_nI {a q : Nat} (ha : a < 2 ^ 31) (hq : q < 8) : ((nI a >>> (nI q &&& 31)) &&& 1) = nI (a / 2 ^ q % 2) := by
  have e : nI a >>> (nI q &&& 31) = nI (a / 2 ^ q) := by
    rcases (show q = 0 ∨ q = 1 ∨ q = 2 ∨ q = 3 ∨ q = 4 ∨ q = 5 ∨ q = 6 ∨ q = 7 by omega) with rfl | rfl | rfl | rfl | rfl | rfl | rfl | rfl <;> exact pk_shrN ha _ _ (by decide)
  rw [e]
  exact pk_andN (Nat.lt_of_le_of_lt (Nat.div_le_self _ _) (by omega)) 1 (by decide)
theorem bit_tb {a c q : Nat} (ha : a < 2 ^ 31) (hc : c < 2 ^ 31) (hq : q < 8) (h : a.testBit q = c.testBit q) : ((nI a >>> (nI q &&& 31)) &&& 1) = ((nI c >>> (nI q &&& 31)) &&& 1) := by
  rw [bit_nI ha hq, bit_nI hc hq, ← Nat.toNat_testBit, ← Nat.toNat_testBit, h]
theorem agree_mask {o : Nat → Int32} {n s : Nat} {y : Int32} (hn : n ≤ 8) (hs : s < 256) : agree o n y (nI s) (nI (s &&& undN o y n)) := fun q hq hv => by
  refine bit_tb (by omega) (Nat.lt_of_le_of_lt Nat.and_le_left (by omega)) (by omega) ?_
  rw [Nat.testBit_and, (undN_bit n q hq).mpr hv, Bool.and_true]
theorem mask_in {a m : Nat} : nI (a &&& m) &&& (nI m ^^^ -1) = 0 := by
  apply Int32.toBitVec_inj.1
  show BitVec.ofNat 32 (a &&& m) &&& (BitVec.ofNat 32 m ^^^ (-1 : Int32).toBitVec) = 0#32
  apply BitVec.eq_of_getLsbD_eq
  intro i hi
  have e : (-1 : Int32).toBitVec = BitVec.allOnes 32 := by decide
  rw [e]
  simp only [BitVec.getLsbD_and, BitVec.getLsbD_xor, BitVec.getLsbD_ofNat, BitVec.getLsbD_allOnes, Nat.testBit_and, hi, decide_true, Bool.true_and, BitVec.getLsbD_zero, Nat.zero_testBit]
  cases a.testBit i <;> cases m.testBit i <;> rfl
