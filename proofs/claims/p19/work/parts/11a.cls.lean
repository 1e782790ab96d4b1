/-! class numbers -/
section CLS
variable {al : Nat → Nat → Prop} {cl mn cl' mn' rep : Nat → Nat} {s : Nat}
def Eqv (al : Nat → Nat → Prop) : Prop := (∀ a, al a a) ∧ (∀ a b, al a b → al b a) ∧ ∀ a b c, al a b → al b c → al a c
def ClsP (al : Nat → Nat → Prop) (cl mn : Nat → Nat) (s : Nat) : Prop := mn 0 = 0 ∧ ∀ b, b < s → ((∃ t, t < b ∧ al t b ∧ cl b = cl t) ∧ mn (b + 1) = mn b) ∨ ((∀ t, t < b → ¬ al t b) ∧ cl b = mn b ∧ mn (b + 1) = mn b + 1)
theorem ClsP.sub {s' : Nat} (h : ClsP al cl mn s) (hs : s' ≤ s) : ClsP al cl mn s' := ⟨h.1, fun b hb => h.2 b (by omega)⟩
theorem ClsP.le (h : ClsP al cl mn s) : ∀ b, b ≤ s → mn b ≤ b
  | 0, _ => by rw [h.1]; omega
  | b + 1, hb => by
    have := h.le b (by omega)
    rcases h.2 b (by omega) with ⟨-, q⟩ | ⟨-, -, q⟩ <;> omega
theorem ClsP.mono (h : ClsP al cl mn s) {b : Nat} : ∀ c, b + c ≤ s → mn b ≤ mn (b + c)
  | 0, _ => Nat.le_refl _
  | c + 1, hb => by
    have := h.mono (b := b) c (by omega)
    rcases h.2 (b + c) (by omega) with ⟨-, q⟩ | ⟨-, -, q⟩
    · show mn b ≤ mn (b + c + 1)
      omega
    · show mn b ≤ mn (b + c + 1)
      omega
theorem ClsP.lt1 (h : ClsP al cl mn s) : ∀ k b, b < k → b < s → cl b < mn (b + 1)
  | 0, b, hk, _ => absurd hk (Nat.not_lt_zero _)
  | k + 1, b, hk, hb => by
    rcases h.2 b hb with ⟨⟨t, ht, -, e⟩, q⟩ | ⟨-, e, q⟩
    · have h1 := h.lt1 k t (by omega) (by omega)
      have h2 := h.mono (b := t + 1) (b - (t + 1)) (by omega)
      rw [show t + 1 + (b - (t + 1)) = b by omega] at h2
      omega
    · omega
theorem ClsP.lt (h : ClsP al cl mn s) {b c : Nat} (hb : b < c) (hc : c ≤ s) : cl b < mn c := by
  have h1 := h.lt1 (b + 1) b (by omega) (by omega)
  have h2 := h.mono (b := b + 1) (c - (b + 1)) (by omega)
  rw [show b + 1 + (c - (b + 1)) = c by omega] at h2
  omega
/-- two secrets are of a class just when they are alike -/
theorem ClsP.iff (hE : Eqv al) (h : ClsP al cl mn s) : ∀ k b, b < k → b < s → ∀ t, t < b → (al t b ↔ cl t = cl b)
  | 0, b, hk, _, _, _ => absurd hk (Nat.not_lt_zero _)
  | k + 1, b, hk, hb, t, ht => by
    rcases h.2 b hb with ⟨⟨t0, ht0, ha, e⟩, -⟩ | ⟨hn, e, -⟩
    · rw [e]
      have hi : al t b ↔ al t t0 := ⟨fun q => hE.2.2 _ _ _ q (hE.2.1 _ _ ha), fun q => hE.2.2 _ _ _ q ha⟩
      rw [hi]
      rcases Nat.lt_trichotomy t t0 with q | q | q
      · exact h.iff hE k t0 (by omega) (by omega) t q
      · subst q
        exact ⟨fun _ => rfl, fun _ => hE.1 _⟩
      · have := h.iff hE k t (by omega) (by omega) t0 q
        exact ⟨fun x => (this.mp (hE.2.1 _ _ x)).symm, fun x => hE.2.1 _ _ (this.mpr x.symm)⟩
    · have := h.lt ht (show b ≤ s by omega)
      exact ⟨fun q => absurd q (hn t ht), fun q => by omega⟩
theorem ClsP.iff2 (hE : Eqv al) (h : ClsP al cl mn s) {a b : Nat} (ha : a < s) (hb : b < s) : al a b ↔ cl a = cl b := by
  rcases Nat.lt_trichotomy a b with q | q | q
  · exact h.iff hE (b + 1) b (by omega) hb a q
  · subst q
    exact ⟨fun _ => rfl, fun _ => hE.1 _⟩
  · have := h.iff hE (a + 1) a (by omega) ha b q
    exact ⟨fun x => (this.mp (hE.2.1 _ _ x)).symm, fun x => hE.2.1 _ _ (this.mpr x.symm)⟩
theorem ClsP.uniq (hE : Eqv al) (h : ClsP al cl mn s) (h' : ClsP al cl' mn' s) : ∀ b, b ≤ s → mn b = mn' b ∧ ∀ t, t < b → cl t = cl' t
  | 0, _ => ⟨by rw [h.1, h'.1], fun t q => absurd q (Nat.not_lt_zero _)⟩
  | b + 1, hb => by
    obtain ⟨i1, i2⟩ := h.uniq hE h' b (by omega)
    rcases h.2 b (by omega) with ⟨⟨t, ht, ha, e⟩, q⟩ | ⟨hn, e, q⟩
    · rcases h'.2 b (by omega) with ⟨⟨t', ht', ha', e'⟩, q'⟩ | ⟨hn', -, -⟩
      · refine ⟨by omega, fun c hc => ?_⟩
        by_cases k : c = b
        · subst k
          rw [e, e', ← i2 t' ht']
          exact (h.iff2 hE (by omega) (by omega)).mp (hE.2.2 _ _ _ ha (hE.2.1 _ _ ha'))
        · exact i2 c (by omega)
      · exact absurd ha (hn' t ht)
    · rcases h'.2 b (by omega) with ⟨⟨t', ht', ha', -⟩, -⟩ | ⟨-, e', q'⟩
      · exact absurd ha' (hn t' ht')
      · refine ⟨by omega, fun c hc => ?_⟩
        by_cases k : c = b
        · subst k
          omega
        · exact i2 c (by omega)
theorem ClsP.zero (hE : Eqv al) (h : ClsP al cl mn s) (hs : 0 < s) {b : Nat} (hb : b < s) : cl b = 0 ↔ al 0 b := by
  have e : cl 0 = 0 := by
    rcases h.2 0 hs with ⟨⟨t, ht, -, -⟩, -⟩ | ⟨-, e, -⟩
    · exact absurd ht (Nat.not_lt_zero _)
    · rw [e, h.1]
  rw [h.iff2 hE hs hb, e]
  exact ⟨fun q => q.symm, fun q => q.symm⟩
theorem vu_s {α : Type} {f : Nat → α} {k : Nat} {v : α} : va_up f k v k = v := va_up_s
theorem ClsP.old (h : ClsP al cl mn s) {t c : Nat} (ht : t < s) (ha : al t s) (hc : c = cl t) : ClsP al (va_up cl s c) (va_up mn (s + 1) (mn s)) (s + 1) := by
  refine ⟨by rw [va_up_n (by omega)]; exact h.1, fun b hb => ?_⟩
  by_cases e : b = s
  · subst e
    refine Or.inl ⟨⟨t, ht, ha, ?_⟩, ?_⟩
    · rw [va_up_s, va_up_n (by omega)]
      exact hc
    · rw [va_up_s, va_up_n (by omega)]
  · rw [va_up_n e, va_up_n (j := b + 1) (by omega), va_up_n (j := b) (by omega)]
    rcases h.2 b (by omega) with ⟨⟨t', ht', ha', e'⟩, q⟩ | q
    · refine Or.inl ⟨⟨t', ht', ha', ?_⟩, q⟩
      rw [va_up_n (by omega)]
      exact e'
    · exact Or.inr q
theorem ClsP.new (h : ClsP al cl mn s) (hn : ∀ t, t < s → ¬ al t s) : ClsP al (va_up cl s (mn s)) (va_up mn (s + 1) (mn s + 1)) (s + 1) := by
  refine ⟨by rw [va_up_n (by omega)]; exact h.1, fun b hb => ?_⟩
  by_cases e : b = s
  · subst e
    refine Or.inr ⟨hn, ?_, ?_⟩
    · rw [va_up_s, va_up_n (by omega)]
    · rw [va_up_s, va_up_n (by omega)]
  · rw [va_up_n e, va_up_n (j := b + 1) (by omega), va_up_n (j := b) (by omega)]
    rcases h.2 b (by omega) with ⟨⟨t', ht', ha', e'⟩, q⟩ | q
    · refine Or.inl ⟨⟨t', ht', ha', ?_⟩, q⟩
      rw [va_up_n (by omega)]
      exact e'
    · exact Or.inr q
/-- if s is alike with no class's first, it is alike with none -/
theorem ClsP.none (hE : Eqv al) (h : ClsP al cl mn s) {f : Nat} (hf : mn s = f) (hr : ∀ k, k < f → rep k < s ∧ cl (rep k) = k) (hn : ∀ k, k < f → ¬ al (rep k) s) : ∀ t, t < s → ¬ al t s := by
  intro t ht ha
  have h1 : cl t < f := by
    have := h.lt ht (Nat.le_refl s)
    omega
  obtain ⟨h2, h3⟩ := hr _ h1
  exact hn _ h1 (hE.2.2 _ _ _ ((h.iff2 hE h2 ht).mpr h3) ha)
end CLS
theorem alikeR_rf (X : RW) : alikeR X X := ⟨rfl, fun _ _ => ⟨rfl, rfl⟩⟩
theorem alikeR_sy {X Y : RW} (h : alikeR X Y) : alikeR Y X := ⟨h.1.symm, fun q hq => by
  obtain ⟨a, b⟩ := h.2 q (by rw [h.1]; exact hq)
  exact ⟨a.symm, b.symm⟩⟩
theorem alikeR_tr {X Y Z : RW} (h : alikeR X Y) (k : alikeR Y Z) : alikeR X Z := ⟨h.1.trans k.1, fun q hq => by
  obtain ⟨a, b⟩ := h.2 q hq
  obtain ⟨c, d⟩ := k.2 q (by rw [← h.1]; exact hq)
  exact ⟨a.trans c, b.trans d⟩⟩
theorem eqv_al (X : Nat → RW) : Eqv (fun a b => alikeR (X a) (X b)) := ⟨fun _ => alikeR_rf _, fun _ _ h => alikeR_sy h, fun _ _ _ h k => alikeR_tr h k⟩
/-- the rows of the class against what is to be observed -/
theorem foS_ob {ep ew en ep2 ew2 en2 : Nat → Int32} {l1 l2 : Nat} {X Y : RW} {r : Int32} (h1 : eqR 0 (ep, ew, en, l1) X) (h2 : eqR 0 (ep2, ew2, en2, l2) Y) (h : foS ew en l1 ew2 en2 l2 r) : foS X.1 X.2.1 X.2.2.2 Y.1 Y.2.1 Y.2.2.2 r := by
  refine foS_congr h h1.1 h2.1 (fun q hq => ?_) (fun q hq => ?_)
  · have := h1.2 q (by rw [h1.1]; exact hq)
    rw [Nat.mul_zero, Nat.zero_add] at this
    exact ⟨this.2.1, this.2.2⟩
  · have := h2.2 q (by rw [h2.1]; exact hq)
    rw [Nat.mul_zero, Nat.zero_add] at this
    exact ⟨this.2.1, this.2.2⟩
