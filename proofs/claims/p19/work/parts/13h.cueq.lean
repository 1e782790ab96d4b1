/-! the two cures are one -/
section CUE
variable {pr pr' cf : Nat → Int32} {n : Nat}
theorem prc_eq {x : Int32} : ∀ k, (∀ q, q < k → pr q = pr' q) → prcOf pr x k = prcM pr' x k
  | 0, _ => rfl
  | k + 1, h => by
    rw [prcOf, prcM, prc_eq k (fun q hq => h q (by omega)), h k (by omega)]
    by_cases c : ((x >>> (nI k &&& 31)) &&& 1) = 1
    · rw [if_pos c, if_neg (fun q => absurd c (bit_n.mpr q))]
    · rw [if_neg c, if_pos (bit_n.mp c)]
theorem prc_le {x : Int32} : ∀ k, (∀ q, q < k → okPr (pr' q)) → ∃ p, p ≤ 99 * k ∧ prcM pr' x k = nI p
  | 0, _ => ⟨0, by omega, rfl⟩
  | k + 1, h => by
    obtain ⟨p, hp, e⟩ := prc_le (x := x) k (fun q hq => h q (by omega))
    obtain ⟨j, hj, ej⟩ := nI_of2 (M := 99) (n := 99) rfl (h k (by omega)).1 (h k (by omega)).2
    rw [prcM]
    split
    · exact ⟨p + j, by omega, by rw [e, ej, nI_add]⟩
    · exact ⟨p, by omega, e⟩
theorem sub_neg {a b : Nat} (ha : a ≤ 800) (hb : b ≤ 800) : ((nI a - nI b) < 0 ↔ a < b) ∧ ((nI a - nI b) = 0 ↔ a = b) := by
  have e : (nI a - nI b).toInt = (a : Int) - b := by
    rw [Int32.toInt_sub, nI_toInt (by omega), nI_toInt (by omega)]
    exact Int.bmod_eq_of_le (by omega) (by omega)
  constructor
  · rw [Int32.lt_iff_toInt_lt, e]
    show (a : Int) - b < 0 ↔ _
    omega
  · rw [← Int32.toInt_inj, e]
    show (a : Int) - b = 0 ↔ _
    omega
theorem ones_all : ∀ k, k < 256 → bcF (nI k) = onesL (nI k).toBitVec.toNat 0 (nI k) := by decide +kernel
theorem bt_eq {k b : Nat} (hn : n ≤ 8) (he : ∀ q, q < n → pr q = pr' q) (hp : ∀ q, q < n → okPr (pr' q)) (hk : k < 256) (hb : b < 256) : btC pr n (nI k) (nI b) = 0 ↔ ¬ ((prcM pr' (nI k) n - prcM pr' (nI b) n) < 0 ∨ ((prcM pr' (nI k) n - prcM pr' (nI b) n) = 0 ∧ onesL (nI k).toBitVec.toNat 0 (nI k) < onesL (nI b).toBitVec.toNat 0 (nI b))) := by
  unfold btC
  rw [prc_eq n he, prc_eq n he, ones_all k hk, ones_all b hb]
  obtain ⟨p, hp1, e1⟩ := prc_le (x := nI k) n hp
  obtain ⟨q, hq1, e2⟩ := prc_le (x := nI b) n hp
  rw [e1, e2]
  obtain ⟨s1, s2⟩ := sub_neg (a := p) (b := q) (by omega) (by omega)
  rw [s1, s2]
  generalize onesL (nI k).toBitVec.toNat 0 (nI k) = u
  generalize onesL (nI b).toBitVec.toNat 0 (nI b) = v
  by_cases c : p = q
  · subst c
    rw [if_pos rfl]
    by_cases d : u < v
    · rw [if_pos d]
      exact ⟨fun z => absurd z (by decide), fun z => absurd (Or.inr ⟨rfl, d⟩) z⟩
    · rw [if_neg d]
      exact ⟨fun _ z => z.elim (fun z => absurd z (Nat.lt_irrefl _)) (fun z => d z.2), fun _ => rfl⟩
  · rw [if_neg (fun z => c ((nI_eq (by omega) (by omega)).mp z))]
    by_cases d : p < q
    · rw [if_pos (nI_lt d (by omega))]
      exact ⟨fun z => absurd z (by decide), fun z => absurd (Or.inl d) z⟩
    · rw [if_neg (fun z => d ((nI_ltI (by omega) (by omega)).mp z))]
      exact ⟨fun _ z => z.elim d (fun z => c z.1), fun _ => rfl⟩
theorem cb_eq (hn : n ≤ 8) (he : ∀ q, q < n → pr q = pr' q) (hp : ∀ q, q < n → okPr (pr' q)) : ∀ k, k ≤ 256 → cbF cf pr n k = cbM cf pr' n k ∧ (cbM cf pr' n k = -1 ∨ ∃ b, b < k ∧ cbM cf pr' n k = nI b)
  | 0, _ => ⟨rfl, Or.inl rfl⟩
  | k + 1, h => by
    obtain ⟨i1, i2⟩ := cb_eq hn he hp k (by omega)
    rw [cbF, cbM, i1]
    by_cases c : cf k = 0
    · rw [if_pos c, if_pos c]
      exact ⟨rfl, i2.imp id (fun ⟨b, hb, e⟩ => ⟨b, by omega, e⟩)⟩
    · rw [if_neg c, if_neg c]
      rcases i2 with i2 | ⟨b, hb, e⟩
      · rw [if_pos i2, if_pos i2]
        exact ⟨rfl, Or.inr ⟨k, by omega, rfl⟩⟩
      · rw [e, if_neg (nI_nm1 (by omega)), if_neg (nI_nm1 (by omega))]
        have bt := bt_eq (k := k) (b := b) hn he hp (by omega) (by omega)
        by_cases d : btC pr n (nI k) (nI b) = 0
        · rw [if_pos d, if_neg (bt.mp d)]
          exact ⟨rfl, Or.inr ⟨b, by omega, rfl⟩⟩
        · rw [if_neg d, if_pos (Decidable.not_not.mp (fun z => d (bt.mpr z)))]
          exact ⟨rfl, Or.inr ⟨k, by omega, rfl⟩⟩
theorem cu_eq {x : Int32} (hn : n ≤ 8) (he : ∀ q, q < n → pr q = pr' q) (hp : ∀ q, q < n → okPr (pr' q)) : cuO cf pr n x = cuM cf pr' n x := by
  unfold cuO cuM
  rw [(cb_eq hn he hp (2 ^ n) (sh1_all n (by omega)).2).1, prc_eq n he]
end CUE
