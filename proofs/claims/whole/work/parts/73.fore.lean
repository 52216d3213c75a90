/-- What holds of the pass over an ask when the levels below c are done. -/
def pa_I (sp v x : Nat) (A : Nat → Nat → Prop) (L0 : Nat → Nat → Prop) (c : Nat) (st dn tr : Nat → Prop) (N : Nat → Nat → Prop) : Prop :=
  ∃ HL : Nat → Nat → Prop,
    (∀ j, j < c → ∀ t, N j t → fo_D sp 7 v x A t j) ∧
    (∀ t, st t → (∃ k, fo_p sp 7 v x A k t c) ∧ t.testBit x = false) ∧
    (∀ t, dn t → fo_D sp 7 v x A t c) ∧
    (∀ t, tr t → ∃ j, j < c ∧ HL t j) ∧
    (∀ s j, HL s j → j < c ∧ (∀ t, ((fo_sn sp 7 v s t ∧ t.testBit x = true) ∨ fo_sn sp 7 (v - 1) s t) → (j + 1 < c → N (j + 1) t) ∧ (j + 1 = c → dn t)) ∧ (∀ t, fo_sn sp 7 v s t → t.testBit x = false → (j + 1 < c → ∃ j', j' ≤ j + 1 ∧ HL t j') ∧ (j + 1 = c → st t))) ∧
    (∀ j, j < c → ∀ s, L0 j s → (s.testBit x = true → N j s) ∧ (s.testBit x = false → ∃ j', j' ≤ j ∧ HL s j'))
theorem pa_0 (sp v x : Nat) (A : Nat → Nat → Prop) (L0 : Nat → Nat → Prop) {st dn tr : Nat → Prop} (N : Nat → Nat → Prop) (h1 : ∀ t, ¬ st t) (h2 : ∀ t, ¬ dn t) (h3 : ∀ t, ¬ tr t) : pa_I sp v x A L0 0 st dn tr N :=
  ⟨fun _ _ => False, fun j hj => absurd hj (by omega), fun t h => absurd h (h1 t), fun t h => absurd h (h2 t), fun t h => absurd h (h3 t), fun s j h => h.elim, fun j hj => absurd hj (by omega)⟩
theorem pa_S {sp v x : Nat} {A : Nat → Nat → Prop} {L0 : Nat → Nat → Prop} {c : Nat} {st dn tr : Nat → Prop} {N : Nat → Nat → Prop} (hA : ∀ t, L0 c t → A t c) (h : pa_I sp v x A L0 c st dn tr N) {st' dn' tr' lw : Nat → Prop} {N' : Nat → Nat → Prop}
    (hN : ∀ j, j < c → ∀ t, N' j t ↔ N j t) (hNc : ∀ t, N' c t ↔ ((L0 c t ∨ st t) ∧ t.testBit x = true) ∨ dn t)
    (hl : ∀ t, lw t ↔ (L0 c t ∨ st t) ∧ t.testBit x = false ∧ ¬ tr t) (htr : ∀ t, tr' t ↔ tr t ∨ lw t)
    (hdn : ∀ t, dn' t ↔ (∃ s, lw s ∧ fo_sn sp 7 (v - 1) s t) ∨ ((∃ s, lw s ∧ fo_sn sp 7 v s t) ∧ t.testBit x = true))
    (hst : ∀ t, st' t ↔ (∃ s, lw s ∧ fo_sn sp 7 v s t) ∧ t.testBit x = false) : pa_I sp v x A L0 (c + 1) st' dn' tr' N' := by
  obtain ⟨HL, i1, i2, i3, i4, i5, i6⟩ := h
  have hlp : ∀ s, lw s → (∃ k, fo_p sp 7 v x A k s c) ∧ s.testBit x = false := by
    intro s hs
    obtain ⟨h1 | h1, h2, -⟩ := (hl s).mp hs
    · exact ⟨⟨0, hA s h1⟩, h2⟩
    · exact i2 s h1
  have hfr : ∀ t, (L0 c t ∨ st t) → t.testBit x = false → ∃ j', j' ≤ c ∧ (HL t j' ∨ (j' = c ∧ lw t)) := by
    intro t ht hb
    by_cases htt : tr t
    · obtain ⟨j, h1, h2⟩ := i4 t htt
      exact ⟨j, by omega, Or.inl h2⟩
    · exact ⟨c, Nat.le_refl _, Or.inr ⟨rfl, (hl t).mpr ⟨ht, hb, htt⟩⟩⟩
  refine ⟨fun s j => HL s j ∨ (j = c ∧ lw s), ?_, ?_, ?_, ?_, ?_, ?_⟩
  · intro j hj t ht
    by_cases hjc : j < c
    · exact i1 j hjc t ((hN j hjc t).mp ht)
    · have hjc : j = c := by omega
      subst hjc
      rcases (hNc t).mp ht with ⟨h1 | h1, h2⟩ | h1
      · exact ⟨0, t, j, hA t h1, Or.inl ⟨h2, rfl, rfl⟩⟩
      · rw [(i2 t h1).2] at h2; cases h2
      · exact i3 t h1
  · intro t ht
    obtain ⟨⟨s, h1, h2⟩, h3⟩ := (hst t).mp ht
    obtain ⟨⟨k, hk⟩, hb⟩ := hlp s h1
    exact ⟨⟨k + 1, s, c, rfl, hk, hb, h2, h3⟩, h3⟩
  · intro t ht
    rcases (hdn t).mp ht with ⟨s, h1, h2⟩ | ⟨⟨s, h1, h2⟩, h3⟩
    · obtain ⟨⟨k, hk⟩, hb⟩ := hlp s h1
      exact ⟨k, s, c, hk, Or.inr ⟨hb, rfl, Or.inr h2⟩⟩
    · obtain ⟨⟨k, hk⟩, hb⟩ := hlp s h1
      exact ⟨k, s, c, hk, Or.inr ⟨hb, rfl, Or.inl ⟨h2, h3⟩⟩⟩
  · intro t ht
    rcases (htr t).mp ht with h1 | h1
    · obtain ⟨j, h2, h3⟩ := i4 t h1
      exact ⟨j, by omega, Or.inl h3⟩
    · exact ⟨c, by omega, Or.inr ⟨rfl, h1⟩⟩
  · rintro s j (hs | ⟨rfl, hs⟩)
    · obtain ⟨a, b, d⟩ := i5 s j hs
      refine ⟨by omega, fun t ht => ⟨fun hj => ?_, fun hj => absurd hj (by omega)⟩, fun t ht hb => ⟨fun hj => ?_, fun hj => absurd hj (by omega)⟩⟩
      · by_cases hjc : j + 1 < c
        · exact (hN _ hjc t).mpr ((b t ht).1 hjc)
        · have hjc : j + 1 = c := by omega
          rw [hjc]
          exact (hNc t).mpr (Or.inr ((b t ht).2 hjc))
      · by_cases hjc : j + 1 < c
        · obtain ⟨j', h1, h2⟩ := (d t ht hb).1 hjc
          exact ⟨j', h1, Or.inl h2⟩
        · have hjc : j + 1 = c := by omega
          rw [hjc]
          exact hfr t (Or.inr ((d t ht hb).2 hjc)) hb
    · refine ⟨by omega, fun t ht => ⟨fun hj => absurd hj (by omega), fun _ => (hdn t).mpr ?_⟩, fun t ht hb => ⟨fun hj => absurd hj (by omega), fun _ => (hst t).mpr ⟨⟨s, hs, ht⟩, hb⟩⟩⟩
      rcases ht with ⟨h1, h2⟩ | h1
      · exact Or.inr ⟨⟨s, hs, h1⟩, h2⟩
      · exact Or.inl ⟨s, hs, h1⟩
  · intro j hj s hs
    by_cases hjc : j < c
    · obtain ⟨a, b⟩ := i6 j hjc s hs
      refine ⟨fun q => (hN j hjc s).mpr (a q), fun q => ?_⟩
      obtain ⟨j', h1, h2⟩ := b q
      exact ⟨j', h1, Or.inl h2⟩
    · have hjc : j = c := by omega
      subst hjc
      exact ⟨fun q => (hNc s).mpr (Or.inl ⟨Or.inl hs, q⟩), fun q => hfr s (Or.inl hs) q⟩
/-- F spells A as far as n: each of F is in A, each of A has one of F that is no dearer. -/
def fo_ok (n : Nat) (A F : Nat → Nat → Prop) : Prop := (∀ j, j ≤ n → ∀ t, F j t → A t j) ∧ ∀ t c, c ≤ n → A t c → ∃ j, j ≤ c ∧ F j t
theorem pa_E {sp v x n : Nat} {A : Nat → Nat → Prop} {L0 : Nat → Nat → Prop} (hA : fo_ok n A L0) {st dn tr : Nat → Prop} {N : Nat → Nat → Prop} (h : pa_I sp v x A L0 (n + 1) st dn tr N) : fo_ok n (fo_D sp 7 v x A) N := by
  obtain ⟨HL, i1, i2, i3, i4, i5, i6⟩ := h
  refine ⟨fun j hj t ht => i1 j (by omega) t ht, ?_⟩
  have key : ∀ k s c, c ≤ n → fo_p sp 7 v x A k s c → (s.testBit x = true → ∃ j, j ≤ c ∧ N j s) ∧ (s.testBit x = false → ∃ j, j ≤ c ∧ HL s j) := by
    intro k
    induction k with
    | zero =>
      intro s c hc hp
      obtain ⟨j, h1, h2⟩ := hA.2 s c hc hp
      obtain ⟨a, b⟩ := i6 j (by omega) s h2
      refine ⟨fun q => ⟨j, h1, a q⟩, fun q => ?_⟩
      obtain ⟨j', h3, h4⟩ := b q
      exact ⟨j', by omega, h4⟩
    | succ k ih =>
      rintro s c hc ⟨s0, c0, rfl, hp, hb, hn, hb2⟩
      refine ⟨fun q => absurd (hb2.symm.trans q) (by decide), fun q => ?_⟩
      obtain ⟨j, h1, h2⟩ := (ih s0 c0 (by omega) hp).2 hb
      obtain ⟨j', h3, h4⟩ := ((i5 s0 j h2).2.2 s hn hb2).1 (by omega)
      exact ⟨j', by omega, h4⟩
  rintro t c hc ⟨k, s, c0, hp, ⟨hb, rfl, rfl⟩ | ⟨hb, rfl, hn⟩⟩
  · exact (key k t c hc hp).1 hb
  · obtain ⟨j, h1, h2⟩ := (key k s c0 (by omega) hp).2 hb
    exact ⟨j + 1, by omega, ((i5 s j h2).2.1 t hn).1 (by omega)⟩
theorem ok_T {sp v n : Nat} {D F F' : Nat → Nat → Prop} (h : fo_ok n D F) (hF : ∀ j, j ≤ n → ∀ t, F' j t ↔ ∃ s, F j s ∧ fo_sn sp 7 v s t) : fo_ok n (fo_T sp 7 v true D) F' := by
  refine ⟨fun j hj t ht => ?_, fun t c hc ht => ?_⟩
  · obtain ⟨s, h1, h2⟩ := (hF j hj t).mp ht
    exact ⟨s, h.1 j hj s h1, h2⟩
  · obtain ⟨s, h1, h2⟩ := ht
    obtain ⟨j, h3, h4⟩ := h.2 s c hc h1
    exact ⟨j, h3, (hF j (by omega) t).mpr ⟨s, h4, h2⟩⟩
theorem ok_dr {n : Nat} {A F F' : Nat → Nat → Prop} (h : fo_ok n A F) (hF : ∀ j, j ≤ n → ∀ t, F' j t ↔ F j t ∧ ∀ i, i < j → ¬ F i t) : fo_ok n A F' := by
  refine ⟨fun j hj t ht => h.1 j hj t ((hF j hj t).mp ht).1, fun t c hc ht => ?_⟩
  obtain ⟨j, h1, h2⟩ := h.2 t c hc ht
  have key : ∀ m, ∀ j, j ≤ m → j ≤ c → F j t → ∃ j, j ≤ c ∧ F' j t := by
    intro m
    induction m with
    | zero => intro j hj hc2 hf; exact ⟨j, hc2, (hF j (by omega) t).mpr ⟨hf, fun i hi => absurd hi (by omega)⟩⟩
    | succ m ih =>
      intro j hj hc2 hf
      by_cases hq : ∃ i, i < j ∧ F i t
      · obtain ⟨i, h3, h4⟩ := hq
        exact ih i (by omega) (by omega) h4
      · exact ⟨j, hc2, (hF j (by omega) t).mpr ⟨hf, fun i hi hfi => hq ⟨i, hi, hfi⟩⟩⟩
  exact key j j (Nat.le_refl _) h1 h2
theorem fo_cheap {sp U v : Nat} (xs : Nat → Nat) (tk : Nat → Bool) : ∀ i, ∃ s c, c ≤ i ∧ fo_A sp U v xs tk i s c
  | 0 => ⟨0, 0, Nat.le_refl _, rfl, rfl⟩
  | i + 1 => by
    obtain ⟨s, c, h1, h2⟩ := fo_cheap (sp := sp) (U := U) (v := v) xs tk i
    have : ∃ c', c' ≤ i + 1 ∧ fo_D sp U v (xs i) (fo_A sp U v xs tk i) s c' := by
      cases hb : s.testBit (xs i)
      · exact ⟨c + 1, by omega, 0, s, c, h2, Or.inr ⟨hb, rfl, Or.inr (fo_rf _ _ _ _)⟩⟩
      · exact ⟨c, by omega, 0, s, c, h2, Or.inl ⟨hb, rfl, rfl⟩⟩
    obtain ⟨c', h3, h4⟩ := this
    refine ⟨s, c', h3, ?_⟩
    rw [fo_A, fo_T]
    cases tk i
    · exact h4
    · exact ⟨s, h4, fo_rf _ _ _ _⟩
theorem fo_fin {sp v n m : Nat} {xs : Nat → Nat} {tk : Nat → Bool} {F : Nat → Nat → Prop} (h : fo_ok n (fo_A sp 7 v xs tk n) F) (h1 : m ≤ n) (h2 : ∀ j, j < m → ∀ t, ¬ F j t) (h3 : m < n → ∃ t, F m t) : fo_L sp 7 v xs tk n m := by
  obtain ⟨s, c, q1, q2⟩ := fo_cheap (sp := sp) (U := 7) (v := v) xs tk n
  obtain ⟨j, q3, q4⟩ := h.2 s c q1 q2
  have hmj : m ≤ j := Nat.le_of_not_lt (fun z => h2 j z s q4)
  refine ⟨?_, fun s' c' hc' => ?_⟩
  · by_cases hm : m < n
    · obtain ⟨t, ht⟩ := h3 hm
      exact ⟨t, h.1 m h1 t ht⟩
    · have : j = m := by omega
      subst this
      exact ⟨s, h.1 j h1 s q4⟩
  · by_cases hcn : c' ≤ n
    · obtain ⟨j', r1, r2⟩ := h.2 s' c' hcn hc'
      have : m ≤ j' := Nat.le_of_not_lt (fun z => h2 j' z s' r2)
      omega
    · omega
theorem fo_VA {sp v : Nat} {xs : Nat → Nat} {tk : Nat → Bool} {n : Nat} (hx : ∀ i, i < n → xs i < 7) {i s c : Nat} (hi : i ≤ n) (h : fo_A sp 7 v xs tk i s c) : fo_V sp 7 s := (fo_siA (Nat.le_refl 7) tk hx i hi s c h).1
theorem fo_VD {sp v x : Nat} (hx : x < 7) {A : Nat → Nat → Prop} (hA : ∀ s c, A s c → fo_V sp 7 s) {s c : Nat} (h : fo_D sp 7 v x A s c) : fo_V sp 7 s := by
  have hs : fo_sim sp 7 v A A := fun s c ha => ⟨hA s c ha, s, c, 0, s, ha, by omega, fo_rf _ _ _ _, fun _ _ h => h, hA s c ha⟩
  exact (fo_siD (Nat.le_refl 7) hx hs s c h).1
