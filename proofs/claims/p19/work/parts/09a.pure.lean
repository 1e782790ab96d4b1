/-! A RUN OF THE CLASS BESIDE THE SAME RUN OF THE MODEL -/
theorem nI_sub {a c : Nat} (h : c ≤ a) : nI a - nI c = nI (a - c) := by
  obtain ⟨d, rfl⟩ := Nat.exists_eq_add_of_le h
  rw [Nat.add_sub_cancel_left, ← nI_add, Int32.add_comm, Int32.add_sub_cancel]
/-- the bits of m, by halving -/
def blN : Nat → Nat → Nat
  | 0, _ => 0
  | u + 1, m => if m = 0 then 0 else blN u (m / 2) + 1
theorem blN_0 (u : Nat) : blN u 0 = 0 := by
  cases u with
  | zero => rfl
  | succ u => rw [blN, if_pos rfl]
theorem blN_range : ∀ (u c m : Nat), c < u → 2 ^ c ≤ m → m < 2 ^ (c + 1) → blN u m = c + 1
  | 0, c, m, h, _, _ => absurd h (Nat.not_lt_zero _)
  | u + 1, 0, m, _, h1, h2 => by
    obtain rfl : m = 1 := by omega
    rw [blN, if_neg (by omega)]
    rw [show (1 : Nat) / 2 = 0 from rfl, blN_0]
  | u + 1, c + 1, m, h, h1, h2 => by
    have h3 : 2 ^ (c + 1) = 2 * 2 ^ c := by rw [Nat.pow_succ]; omega
    have h4 : 2 ^ (c + 1 + 1) = 2 * 2 ^ (c + 1) := by rw [Nat.pow_succ 2 (c + 1)]; omega
    have h5 : 0 < 2 ^ c := Nat.two_pow_pos c
    rw [blN, if_neg (by omega), blN_range u c (m / 2) (by omega) (by omega) (by omega)]
theorem bits_bl : ∀ (u : Nat) (k z : Int32), bitsL u k z = k + nI (blN u z.toBitVec.toNat)
  | 0, k, z => (Int32.add_zero k).symm
  | u + 1, k, z => by
    by_cases h : z = 0
    · rw [bitsL_0 h, h]
      show k = k + nI (blN (u + 1) 0)
      rw [blN_0]
      exact (Int32.add_zero k).symm
    · have hm : ¬ z.toBitVec.toNat = 0 := fun q => h (tn0 (by omega))
      have e := pk_ushr z 1 1 (by decide)
      rw [bitsL_s h, bits_bl u, blN, if_neg hm]
      unfold ush
      rw [e, Int32.add_assoc, show (1 : Int32) = nI 1 from rfl, nI_add, Nat.add_comm 1]
theorem nlz5_of {a c m : Nat} (hc : c ≤ a) (h1 : 2 ^ c ≤ m) (h2 : m < 2 ^ (c + 1)) (h3 : c < 2) : nlz5 (nI a) (nI m) = nI (a - c) := by
  have hm : m < 4 := by
    rcases (show c = 0 ∨ c = 1 by omega) with rfl | rfl <;> simp at h2 <;> omega
  have e : m / 2 ^ 1 = c := by
    rcases (show c = 0 ∨ c = 1 by omega) with rfl | rfl <;> simp at h1 h2 <;> omega
  unfold nlz5 ush
  rw [pk_ushrN (by omega) 1 1 (by decide), e, nI_sub hc]
theorem nlz_ge {c k m : Nat} (h1 : 2 ^ c ≤ m) (h2 : m < 2 ^ (c + 1)) : m < 2 ^ k ↔ c < k := by
  constructor
  · intro h
    rcases Nat.lt_or_ge c k with q | q
    · exact q
    · have := Nat.pow_le_pow_right (n := 2) (by omega) q
      omega
  · intro h
    have := Nat.pow_le_pow_right (n := 2) (by omega) (show c + 1 ≤ k by omega)
    omega
theorem nlz_dn {c k m : Nat} (h1 : 2 ^ c ≤ m) (h2 : m < 2 ^ (c + 1)) (h : k ≤ c) : 2 ^ (c - k) ≤ m / 2 ^ k ∧ m / 2 ^ k < 2 ^ (c - k + 1) := by
  have hp : 0 < 2 ^ k := Nat.two_pow_pos k
  have e1 : 2 ^ (c - k) * 2 ^ k = 2 ^ c := by rw [← Nat.pow_add]; congr 1; omega
  have e2 : 2 ^ (c - k + 1) * 2 ^ k = 2 ^ (c + 1) := by rw [← Nat.pow_add]; congr 1; omega
  exact ⟨(Nat.le_div_iff_mul_le hp).mpr (by omega), (Nat.div_lt_iff_lt_mul hp).mpr (by omega)⟩
theorem nlz_m {a k : Nat} (h : k ≤ a) : nI a + -(nI k) = nI (a - k) := by rw [← Int32.sub_eq_add_neg, nI_sub h]
theorem nlz4_of {a c m : Nat} (hc : c ≤ a) (h1 : 2 ^ c ≤ m) (h2 : m < 2 ^ (c + 1)) (h3 : c < 4) : nlz4 (nI a) (nI m) = nI (a - c) := by
  have hm : m < 2 ^ 4 := (nlz_ge h1 h2).mpr h3
  unfold nlz4
  by_cases q : c < 2
  · have := (nlz_ge (k := 2) h1 h2).mpr q
    rw [if_pos (show nI m < 4 from (show nI m < nI 4 from nI_lt (by omega) (by omega))), nlz5_of hc h1 h2 q]
  · have q2 := mt (nlz_ge (k := 2) h1 h2).mp q
    obtain ⟨d1, d2⟩ := nlz_dn (k := 2) h1 h2 (by omega)
    rw [if_neg (show ¬ nI m < 4 from (show ¬ nI m < nI 4 from nI_nlt (by omega) (by omega)))]
    unfold ush
    rw [pk_ushrN (by omega) 2 2 (by decide), show nI a + -2 = nI (a - 2) from nlz_m (a := a) (k := 2) (by omega), nlz5_of (by omega) d1 d2 (by omega)]
    congr 1
    omega
theorem nlz3_of {a c m : Nat} (hc : c ≤ a) (h1 : 2 ^ c ≤ m) (h2 : m < 2 ^ (c + 1)) (h3 : c < 8) : nlz3 (nI a) (nI m) = nI (a - c) := by
  have hm : m < 2 ^ 8 := (nlz_ge h1 h2).mpr h3
  unfold nlz3
  by_cases q : c < 4
  · have := (nlz_ge (k := 4) h1 h2).mpr q
    rw [if_pos (show nI m < 16 from (show nI m < nI 16 from nI_lt (by omega) (by omega))), nlz4_of hc h1 h2 q]
  · have q2 := mt (nlz_ge (k := 4) h1 h2).mp q
    obtain ⟨d1, d2⟩ := nlz_dn (k := 4) h1 h2 (by omega)
    rw [if_neg (show ¬ nI m < 16 from (show ¬ nI m < nI 16 from nI_nlt (by omega) (by omega)))]
    unfold ush
    rw [pk_ushrN (by omega) 4 4 (by decide), show nI a + -4 = nI (a - 4) from nlz_m (a := a) (k := 4) (by omega), nlz4_of (by omega) d1 d2 (by omega)]
    congr 1
    omega
theorem nlz2_of {a c m : Nat} (hc : c ≤ a) (h1 : 2 ^ c ≤ m) (h2 : m < 2 ^ (c + 1)) (h3 : c < 16) : nlz2 (nI a) (nI m) = nI (a - c) := by
  have hm : m < 2 ^ 16 := (nlz_ge h1 h2).mpr h3
  unfold nlz2
  by_cases q : c < 8
  · have := (nlz_ge (k := 8) h1 h2).mpr q
    rw [if_pos (show nI m < 256 from (show nI m < nI 256 from nI_lt (by omega) (by omega))), nlz3_of hc h1 h2 q]
  · have q2 := mt (nlz_ge (k := 8) h1 h2).mp q
    obtain ⟨d1, d2⟩ := nlz_dn (k := 8) h1 h2 (by omega)
    rw [if_neg (show ¬ nI m < 256 from (show ¬ nI m < nI 256 from nI_nlt (by omega) (by omega)))]
    unfold ush
    rw [pk_ushrN (by omega) 8 8 (by decide), show nI a + -8 = nI (a - 8) from nlz_m (a := a) (k := 8) (by omega), nlz3_of (by omega) d1 d2 (by omega)]
    congr 1
    omega
theorem nlz1_of {a c m : Nat} (hc : c ≤ a) (h1 : 2 ^ c ≤ m) (h2 : m < 2 ^ (c + 1)) (h3 : c < 31) : nlz1 (nI a) (nI m) = nI (a - c) := by
  have hm : m < 2 ^ 31 := (nlz_ge h1 h2).mpr h3
  unfold nlz1
  by_cases q : c < 16
  · have := (nlz_ge (k := 16) h1 h2).mpr q
    rw [if_pos (show nI m < 65536 from (show nI m < nI 65536 from nI_lt (by omega) (by omega))), nlz2_of hc h1 h2 q]
  · have q2 := mt (nlz_ge (k := 16) h1 h2).mp q
    obtain ⟨d1, d2⟩ := nlz_dn (k := 16) h1 h2 (by omega)
    rw [if_neg (show ¬ nI m < 65536 from (show ¬ nI m < nI 65536 from nI_nlt (by omega) (by omega)))]
    unfold ush
    rw [pk_ushrN (by omega) 16 16 (by decide), show nI a + -16 = nI (a - 16) from nlz_m (a := a) (k := 16) (by omega), nlz2_of (by omega) d1 d2 (by omega)]
    congr 1
    omega
theorem neg_big {z : Int32} (h : z < 0) : 2 ^ 31 ≤ z.toBitVec.toNat := by
  have h1 : z.toInt < 0 := Int32.lt_iff_toInt_lt.mp h
  have h2 : z.toInt = z.toBitVec.toInt := rfl
  have h3 := BitVec.toInt_eq_toNat_cond z.toBitVec
  rw [h2, h3] at h1
  split at h1 <;> omega
theorem bits_eq (z : Int32) : bitsL 32 0 z = 32 - nlzF z := by
  rw [bits_bl, Int32.zero_add]
  unfold nlzF
  by_cases h : 0 < z
  · rw [if_pos h]
    obtain ⟨m, hm, rfl⟩ := nI_of (x := z) (fun q => Int32.lt_irrefl (Int32.lt_trans h q))
    have h0 : m ≠ 0 := fun q => by
      subst q
      exact absurd h (by decide)
    have e : (nI m).toBitVec.toNat = m := by
      show (BitVec.ofNat 32 m).toNat = m
      rw [BitVec.toNat_ofNat]
      exact Nat.mod_eq_of_lt (by omega)
    have g1 := Nat.log2_self_le h0
    have g2 := Nat.lt_log2_self (n := m)
    have g3 : m.log2 < 31 := (nlz_ge g1 g2).mp hm
    rw [e, blN_range 32 m.log2 m (by omega) g1 g2, show (31 : Int32) = nI 31 from rfl, nlz1_of (by omega) g1 g2 g3, show (32 : Int32) = nI 32 from rfl, nI_sub (by omega)]
    congr 1
    omega
  · rw [if_neg h]
    by_cases h0 : z = 0
    · rw [if_pos h0, h0]
      decide
    · rw [if_neg h0]
      have hz : z < 0 := by
        rcases Int32.lt_or_eq_of_le (Int32.not_lt.mp h) with q | q
        · exact q
        · exact absurd q h0
      rw [blN_range 32 31 z.toBitVec.toNat (by omega) (neg_big hz) z.toBitVec.isLt]
      rfl
theorem cos_eq (kd z : Int32) : cosM kd z = costF kd z := by
  unfold cosM costF
  rw [bits_eq]
theorem bit01 (y : Int32) : (y &&& 1) = 0 ∨ (y &&& 1) = 1 := by
  obtain ⟨j, hj, e⟩ := pk_andE y (m := 1) 1 (by decide)
  rw [e]
  rcases (show j = 0 ∨ j = 1 by omega) with rfl | rfl
  · exact Or.inl rfl
  · exact Or.inr rfl
theorem bit_n {y : Int32} : ¬ (y &&& 1) = 1 ↔ (y &&& 1) = 0 := by
  rcases bit01 y with h | h <;> rw [h] <;> decide
theorem kd_div {v : Nat} (h : v < 40960) : nI v / 4096 = kdF (nI v) := by
  rw [kdF_nI h]
  exact pk_div (d := 4096) (by omega) (by decide) (by decide)
/-- the class's row S against the model's row M at A -/
def eqR (A : Nat) (S M : RW) : Prop := S.2.2.2 = M.2.2.2 ∧ ∀ q, q < S.2.2.2 → S.1 q = M.2.2.1 (42 * A + q) ∧ S.2.1 q = M.1 (42 * A + q) ∧ S.2.2.1 q = M.2.1 (42 * A + q)
theorem eqR_add {A : Nat} {S M : RW} {x y z : Int32} (h : eqR A S M) : eqR A (radd S x y z) (raddM A M y z x) := by
  obtain ⟨e, h⟩ := h
  refine ⟨by show S.2.2.2 + 1 = M.2.2.2 + 1; omega, fun q hq => ?_⟩
  replace hq : q < S.2.2.2 + 1 := hq
  show upd S.1 S.2.2.2 x q = upd M.2.2.1 (42 * A + M.2.2.2) x (42 * A + q) ∧ upd S.2.1 S.2.2.2 y q = upd M.1 (42 * A + M.2.2.2) y (42 * A + q) ∧ upd S.2.2.1 S.2.2.2 z q = upd M.2.1 (42 * A + M.2.2.2) z (42 * A + q)
  rw [← e]
  by_cases c : q = S.2.2.2
  · subst c
    rw [up_s, up_s, up_s, up_s, up_s, up_s]
    exact ⟨rfl, rfl, rfl⟩
  · rw [up_n c, up_n c, up_n c, up_n (by omega), up_n (by omega), up_n (by omega)]
    exact h q (by omega)
theorem rowF_congr {x : Int32} {ep ew en ep' ew' en' : Nat → Int32} {S : RW} : ∀ {k : Nat}, (∀ q, q < k → ep q = ep' q ∧ ew q = ew' q ∧ en q = en' q) → rowF x ep ew en S k = rowF x ep' ew' en' S k
  | 0, _ => rfl
  | k + 1, h => by
    obtain ⟨h1, h2, h3⟩ := h k (by omega)
    rw [rowF, rowF, h1, h2, h3, rowF_congr (fun q hq => h q (by omega))]
theorem rowM_congr {o pl nu pl' nu' : Nat → Int32} {wi x y : Int32} {A R : Nat} {S : RW} : ∀ {k : Nat}, (∀ q, q < k → pl (40 * R + q) = pl' (40 * R + q) ∧ nu (40 * R + q) = nu' (40 * R + q)) → rowM o pl nu wi x y A R S k = rowM o pl' nu' wi x y A R S k
  | 0, _ => rfl
  | k + 1, h => by
    obtain ⟨h1, h2⟩ := h k (by omega)
    have h3 : kA o pl (40 * R + k) = kA o pl' (40 * R + k) := by unfold kA; rw [h1]
    rw [rowM, rowM, h1, h2, h3, rowM_congr (fun q hq => h q (by omega))]
theorem cosE_congr {o pl co pl' co' : Nat → Int32} {x : Int32} {R : Nat} : ∀ {k : Nat}, (∀ q, q < k → pl (40 * R + q) = pl' (40 * R + q) ∧ co (40 * R + q) = co' (40 * R + q)) → cosE o pl co x R k = cosE o pl' co' x R k
  | 0, _ => rfl
  | k + 1, h => by
    obtain ⟨h1, h2⟩ := h k (by omega)
    have h3 : kA o pl (40 * R + k) = kA o pl' (40 * R + k) := by unfold kA; rw [h1]
    rw [cosE, cosE, h1, h2, h3, cosE_congr (fun q hq => h q (by omega))]
theorem cwF_congr {ct ec ct' ec' : Nat → Int32} {x : Int32} : ∀ {k : Nat}, (∀ q, q < k → ct q = ct' q ∧ ec q = ec' q) → cwF ct ec x k = cwF ct' ec' x k
  | 0, _ => rfl
  | k + 1, h => by
    obtain ⟨h1, h2⟩ := h k (by omega)
    rw [cwF, cwF, h1, h2, cwF_congr (fun q hq => h q (by omega))]
theorem cwF_up {ct ec : Nat → Int32} {x u v : Int32} {h : Nat} : ∀ {k : Nat}, h < k → cwF (upd ct h (ct h + u)) (upd ec h (ec h + v)) x k = cwF ct ec x k + if ((x >>> (nI h &&& 31)) &&& 1) = 0 then u else v
  | 0, q => absurd q (Nat.not_lt_zero _)
  | k + 1, q => by
    rw [cwF, cwF]
    by_cases c : h = k
    · subst c
      rw [cwF_congr (ct' := ct) (ec' := ec) (fun q hq => ⟨up_n (by omega), up_n (by omega)⟩), up_s, up_s]
      by_cases b : ((x >>> (nI h &&& 31)) &&& 1) = 0
      · rw [if_pos b, if_pos b, if_pos b, Int32.add_assoc]
      · rw [if_neg b, if_neg b, if_neg b, Int32.add_assoc]
    · rw [cwF_up (by omega), up_n (fun e => c e.symm), up_n (fun e => c e.symm), Int32.add_assoc, Int32.add_assoc]
      congr 1
      exact Int32.add_comm _ _
theorem zf_at {f : Nat → Int32} : ∀ {k q : Nat}, q < k → zf f k q = 0
  | 0, q, h => absurd h (Nat.not_lt_zero _)
  | k + 1, q, h => by
    show upd (zf f k) k 0 q = 0
    by_cases c : q = k
    · subst c
      rw [up_s]
    · rw [up_n c, zf_at (by omega)]
theorem cwF_zero {f g : Nat → Int32} {x : Int32} : ∀ {k : Nat}, k ≤ 8 → cwF (zf f 8) (zf g 8) x k = 0
  | 0, _ => rfl
  | k + 1, h => by
    rw [cwF, cwF_zero (by omega), zf_at (by omega), zf_at (by omega), ite_self]
    rfl
theorem cpF_at {w f : Nat → Int32} : ∀ {k q : Nat}, q < k → cpF w f k q = w q
  | 0, q, h => absurd h (Nat.not_lt_zero _)
  | k + 1, q, h => by
    show upd (cpF w f k) k (w k) q = w q
    by_cases c : q = k
    · subst c
      rw [up_s]
    · rw [up_n c, cpF_at (by omega)]
