/-- The places of the model that a state S speaks of. -/
def vd (S : ab_S) (a j : Nat) : Prop := (a = 83 ∧ (j = 0 ∨ j = 1 ∨ j = 2 ∨ j = 6 ∨ j = 9 ∨ j = 10 ∨ j = 11 ∨ j = 12 ∨ j = 24)) ∨ ((a = 84 ∨ a = 85 ∨ a = 86) ∧ j < S.1.length) ∨ ((a = 87 ∨ a = 88) ∧ j < S.2.1.length) ∨ (89 ≤ a ∧ a ≤ 96 ∧ j < 4) ∨ (a = 97 ∧ j < 256) ∨ (a = 98 ∧ j < 28) ∨ (a = 99 ∧ j < 200)
theorem mo_pt {w w1 : pm_W} {S : ab_S} (h : mo_R w S) (e : ∀ a j, vd S a j → w1.1 a j = w.1 a j) : mo_R w1 S := by
  obtain ⟨h1, h2, h3, h4, h5⟩ := h
  have f : ∀ j, (j = 0 ∨ j = 1 ∨ j = 2 ∨ j = 6 ∨ j = 9 ∨ j = 10 ∨ j = 11 ∨ j = 12 ∨ j = 24) → w1.1 83 j = w.1 83 j := fun j hj => e 83 j (Or.inl ⟨rfl, hj⟩)
  have lt : ∀ {l : List ab_E} {i : Nat} {x : ab_E}, l[i]? = some x → i < l.length := fun hx => (List.getElem?_eq_some_iff.mp hx).1
  refine ⟨⟨(f 6 (by omega)).trans h1.1, fun i x hx => ?_⟩, ⟨(f 9 (by omega)).trans h2.1, fun i x hx => ?_⟩, fun p hp => ?_, ?_, ⟨(f 24 (by omega)).trans h5.1, fun i x q1 q2 => ?_⟩⟩
  · have := lt hx
    rw [e 84 i (by unfold vd; omega), e 85 i (by unfold vd; omega), e 86 i (by unfold vd; omega)]
    exact h1.2 i x hx
  · have := lt hx
    rw [e 87 i (by unfold vd; omega), e 88 i (by unfold vd; omega)]
    exact h2.2 i x hx
  · have hA := h3 p hp
    unfold mo_A at hA ⊢
    rw [e 89 p (by unfold vd; omega), e 90 p (by unfold vd; omega), e 91 p (by unfold vd; omega), e 92 p (by unfold vd; omega), e 93 p (by unfold vd; omega), e 94 p (by unfold vd; omega), e 95 p (by unfold vd; omega), e 96 p (by unfold vd; omega)]
    obtain ⟨a1, a2, a3, a4, a5, a6, a7, a8, a9⟩ := hA
    refine ⟨a1, a2, a3, a4, a5, a6, a7, fun j hj => ?_, fun j hj => ?_⟩
    · rw [e 97 _ (by unfold vd; omega)]; exact a8 j hj
    · rw [e 98 _ (by unfold vd; omega)]; exact a9 j hj
  · unfold mn at h4 ⊢
    rw [f 0 (by omega), f 1 (by omega), f 2 (by omega), f 10 (by omega), f 12 (by omega), f 11 (by omega)]
    exact h4
  · rw [e 99 _ (by have := Nat.mod_lt i (show 0 < 200 by decide); unfold vd; omega)]
    exact h5.2 i x q1 q2
/-- What shelf s of the model holds, seen as a model. -/
def vw (w : pm_W) (s : Nat) : pm_W := (fun a j => if a = 83 ∧ j = 0 then w.1 107 s else w.1 108 (600 * s + sl_o a j), w.2)
theorem vd_o {S : ab_S} (h1 : S.1.length ≤ 12) (h2 : S.2.1.length ≤ 16) {a j : Nat} (h : vd S a j) (h0 : ¬ (a = 83 ∧ j = 0)) : sl_o a j < 592 ∧ sl_c (sl_o a j) = a ∧ sl_j (sl_o a j) = j := by
  have key : ∀ a, a < 100 → ∀ j, j < 256 → 83 ≤ a → (a = 83 → (j = 1 ∨ j = 2 ∨ j = 6 ∨ j = 9 ∨ j = 10 ∨ j = 11 ∨ j = 12 ∨ j = 24)) → (84 ≤ a ∧ a ≤ 86 → j < 12) → (87 ≤ a ∧ a ≤ 88 → j < 16) → (89 ≤ a ∧ a ≤ 96 → j < 4) → (a = 98 → j < 28) → (a = 99 → j < 200) → sl_o a j < 592 ∧ sl_c (sl_o a j) = a ∧ sl_j (sl_o a j) = j := by
    intro a ha j hj h83 q1 q2 q3 q4 q5 q6
    by_cases e : a = 83
    · subst e
      rcases q1 rfl with rfl | rfl | rfl | rfl | rfl | rfl | rfl | rfl <;> decide
    · rcases (show a = 84 ∨ a = 85 ∨ a = 86 ∨ a = 87 ∨ a = 88 ∨ a = 89 ∨ a = 90 ∨ a = 91 ∨ a = 92 ∨ a = 93 ∨ a = 94 ∨ a = 95 ∨ a = 96 ∨ a = 97 ∨ a = 98 ∨ a = 99 by omega) with rfl | rfl | rfl | rfl | rfl | rfl | rfl | rfl | rfl | rfl | rfl | rfl | rfl | rfl | rfl | rfl
      · have hq := q2 (by decide)
        have e2 : sl_o 84 j = 8 + 3 * j := by simp [sl_o]
        rw [e2]
        exact ⟨by omega, sl_84 hq⟩
      · have hq := q2 (by decide)
        have e2 : sl_o 85 j = 8 + 3 * j + 1 := by simp [sl_o]
        rw [e2]
        exact ⟨by omega, sl_85 hq⟩
      · have hq := q2 (by decide)
        have e2 : sl_o 86 j = 8 + 3 * j + 2 := by simp [sl_o]
        rw [e2]
        exact ⟨by omega, sl_86 hq⟩
      · have hq := q3 (by decide)
        have e2 : sl_o 87 j = 44 + 2 * j := by simp [sl_o]
        rw [e2]
        exact ⟨by omega, sl_87 hq⟩
      · have hq := q3 (by decide)
        have e2 : sl_o 88 j = 44 + 2 * j + 1 := by simp [sl_o]
        rw [e2]
        exact ⟨by omega, sl_88 hq⟩
      · have hq := q4 (by decide)
        have e2 : sl_o 89 j = 76 + 8 * j := by simp [sl_o]
        rw [e2]
        exact ⟨by omega, sl_89 hq⟩
      · have hq := q4 (by decide)
        have e2 : sl_o 90 j = 76 + 8 * j + 1 := by simp [sl_o]
        rw [e2]
        exact ⟨by omega, sl_90 hq⟩
      · have hq := q4 (by decide)
        have e2 : sl_o 91 j = 76 + 8 * j + 2 := by simp [sl_o]
        rw [e2]
        exact ⟨by omega, sl_91 hq⟩
      · have hq := q4 (by decide)
        have e2 : sl_o 92 j = 76 + 8 * j + 3 := by simp [sl_o]
        rw [e2]
        exact ⟨by omega, sl_92 hq⟩
      · have hq := q4 (by decide)
        have e2 : sl_o 93 j = 76 + 8 * j + 4 := by simp [sl_o]
        rw [e2]
        exact ⟨by omega, sl_93 hq⟩
      · have hq := q4 (by decide)
        have e2 : sl_o 94 j = 76 + 8 * j + 5 := by simp [sl_o]
        rw [e2]
        exact ⟨by omega, sl_94 hq⟩
      · have hq := q4 (by decide)
        have e2 : sl_o 95 j = 76 + 8 * j + 6 := by simp [sl_o]
        rw [e2]
        exact ⟨by omega, sl_95 hq⟩
      · have hq := q4 (by decide)
        have e2 : sl_o 96 j = 76 + 8 * j + 7 := by simp [sl_o]
        rw [e2]
        exact ⟨by omega, sl_96 hq⟩
      · have hq := hj
        have e2 : sl_o 97 j = 108 + j := by simp [sl_o]
        rw [e2]
        exact ⟨by omega, sl_97 hq⟩
      · have hq := q5 rfl
        have e2 : sl_o 98 j = 364 + j := by simp [sl_o]
        rw [e2]
        exact ⟨by omega, sl_98 hq⟩
      · have hq := q6 rfl
        have e2 : sl_o 99 j = 392 + j := by simp [sl_o]
        rw [e2]
        exact ⟨by omega, sl_99 hq⟩
  unfold vd at h
  exact key a (by omega) j (by omega) (by omega) (by omega) (by omega) (by omega) (by omega) (by omega) (by omega)
theorem ab_len {S : ab_S} (hI : ab_I S) : S.1.length ≤ 12 ∧ S.2.1.length ≤ 16 := by
  obtain ⟨⟨n, a1, a2, a3, a4⟩, b, -⟩ := hI
  exact ⟨by omega, b⟩
theorem vw_keep {w w1 : pm_W} {S : ab_S} (hR : mo_R w S) (hI : ab_I S) {s : Nat} (hK : kp_I w s 592 w1) : mo_R (vw w1 s) S := by
  obtain ⟨k1, k2, k3, k4, k5, k6⟩ := hK
  refine mo_pt hR (fun a j hv => ?_)
  show (if a = 83 ∧ j = 0 then w1.1 107 s else w1.1 108 (600 * s + sl_o a j)) = w.1 a j
  by_cases h0 : a = 83 ∧ j = 0
  · rw [if_pos h0, h0.1, h0.2]; exact k5
  · rw [if_neg h0]
    obtain ⟨q1, q2, q3⟩ := vd_o (ab_len hI).1 (ab_len hI).2 hv h0
    rw [k1 _ q1]
    by_cases h6 : a = 86
    · subst h6
      rw [sl_e6 q2 q3]
      have hj : j < S.1.length := by unfold vd at hv; omega
      have hg := hR.1.2 j _ (List.getElem?_eq_getElem hj)
      have hok := (hI.2.2.1 _ (List.getElem_mem hj)).2.2.2
      rw [← hg.2.2] at hok
      rcases hok with z | z
      · rw [if_pos z, z]
      · rw [if_neg (by rw [z]; decide), z]
    · exact sl_ev q2 q3 h6
theorem vw_back {w w1 : pm_W} {T : ab_S} {s : Nat} (hR : mo_R (vw w s) T) (hI : ab_I T) (hB : bk_I w s 592 0 w1) : mo_R w1 T := by
  obtain ⟨k1, k2, k3, k4⟩ := hB
  refine mo_pt hR (fun a j hv => ?_)
  show w1.1 a j = (if a = 83 ∧ j = 0 then w.1 107 s else w.1 108 (600 * s + sl_o a j))
  by_cases h0 : a = 83 ∧ j = 0
  · rw [if_pos h0, h0.1, h0.2]; exact k3
  · rw [if_neg h0]
    obtain ⟨q1, q2, q3⟩ := vd_o (ab_len hI).1 (ab_len hI).2 hv h0
    have h9 := k1 _ q1
    rw [q2, q3] at h9
    rw [h9]
    unfold sl_d
    by_cases h6 : a = 86
    · subst h6
      rw [q2, if_pos rfl]
      have hj : j < T.1.length := by unfold vd at hv; omega
      have hg : (if 86 = 83 ∧ j = 0 then w.1 107 s else w.1 108 (600 * s + sl_o 86 j)) = _ := (hR.1.2 j _ (List.getElem?_eq_getElem hj)).2.2
      rw [if_neg (by omega)] at hg
      have hok := (hI.2.2.1 _ (List.getElem_mem hj)).2.2.2
      rw [← hg] at hok
      rcases hok with z | z
      · rw [z]; rfl
      · rw [z]; rfl
    · rw [q2, if_neg h6]
theorem vw_fr {w w1 : pm_W} {T : ab_S} {s : Nat} (h : mo_R (vw w s) T) (e7 : w1.1 107 = w.1 107) (e8 : w1.1 108 = w.1 108) : mo_R (vw w1 s) T := by
  refine mo_pt h (fun a j _ => ?_)
  show (if a = 83 ∧ j = 0 then w1.1 107 s else w1.1 108 (600 * s + sl_o a j)) = (if a = 83 ∧ j = 0 then w.1 107 s else w.1 108 (600 * s + sl_o a j))
  rw [e7, e8]
/-- The model holds S, its shelves sh. -/
def mm_R (w : pm_W) (S : ab_S) (sh : Nat → Option ab_S) : Prop := mo_R w S ∧ w.1 83 25 = -1 ∧ ∀ s, s < 2 → (sh s = none → w.1 107 s < 0) ∧ ∀ T, sh s = some T → mo_R (vw w s) T
theorem mm_fr {w w1 : pm_W} {S S' : ab_S} {sh : Nat → Option ab_S} (h : mm_R w S sh) (h1 : mo_R w1 S') (h2 : w1.1 83 25 = -1) (e7 : w1.1 107 = w.1 107) (e8 : w1.1 108 = w.1 108) : mm_R w1 S' sh := ⟨h1, h2, fun s hs => ⟨fun q => by rw [e7]; exact (h.2.2 s hs).1 q, fun T hT => vw_fr ((h.2.2 s hs).2 T hT) e7 e8⟩⟩
theorem m_keep {w : pm_W} {S : ab_S} {sh : Nat → Option ab_S} (hM : mm_R w S sh) (hI : ab_I S) (hT : ∀ s T, s < 2 → sh s = some T → ab_I T) (x : Int32) : pm_C pm_L0 MX5_keep [.ref 83, .int x] w (pm_qi fun r w1 => r = (pu_keep S sh x).1 ∧ mm_R w1 S (pu_keep S sh x).2 ∧ mfr w w1 [107, 108] [38]) := by
  refine pm_moni (c_X5_keep0 w x) (fun r w1 hq => ?_)
  obtain ⟨hR, h25, hsh⟩ := id hM
  rcases hq with ⟨q1, rfl, rfl⟩ | ⟨s, hs, rfl, rfl, hK⟩
  · rw [pu_keep, if_neg (by rw [q1]; decide)]
    exact ⟨rfl, hM, mfr_rf _ _ _⟩
  · rw [pu_keep, if_pos (show pm_bw (nI s) 0 1 = true from bw_nI (n := 1) (by omega) (by decide)), nI_clamp (by omega)]
    obtain ⟨k1, k2, k3, k4, k5, k6⟩ := id hK
    refine ⟨rfl, ⟨mo_cong hR (fun a q1 q2 => k4.1 a (by omega) (by simp; omega)) (fun j hj => k4.2.1 j (by simp; omega)), (k4.2.1 25 (by decide)).trans h25, fun t ht => ?_⟩, k4⟩
    by_cases e : t = s
    · subst e
      show (va_up sh t (some S) t = none → _) ∧ ∀ T, va_up sh t (some S) t = some T → _
      rw [va_up_self]
      refine ⟨fun z => absurd z (by simp), fun T z => ?_⟩
      cases z
      exact vw_keep hR hI hK
    · show (va_up sh s (some S) t = none → _) ∧ ∀ T, va_up sh s (some S) t = some T → _
      rw [va_up_ne _ _ e]
      refine ⟨fun z => by rw [k6 t e]; exact (hsh t ht).1 z, fun T z => ?_⟩
      refine mo_pt ((hsh t ht).2 T z) (fun a j hv => ?_)
      show (if a = 83 ∧ j = 0 then w1.1 107 t else w1.1 108 (600 * t + sl_o a j)) = (if a = 83 ∧ j = 0 then w.1 107 t else w.1 108 (600 * t + sl_o a j))
      by_cases h0 : a = 83 ∧ j = 0
      · rw [if_pos h0, if_pos h0]; exact k6 t e
      · rw [if_neg h0, if_neg h0]
        have := (vd_o (ab_len (hT t T ht z)).1 (ab_len (hT t T ht z)).2 hv h0).1
        exact k2 _ (by omega)
theorem m_back {w : pm_W} {S : ab_S} {sh : Nat → Option ab_S} (hM : mm_R w S sh) (hT : ∀ s T, s < 2 → sh s = some T → ab_I T) (x : Int32) : pm_C pm_L0 MX5_back [.ref 83, .int x] w (pm_qi fun r w1 => r = (pu_back S sh x).1 ∧ mm_R w1 (pu_back S sh x).2 sh ∧ mfr w w1 [84, 85, 86, 87, 88, 89, 90, 91, 92, 93, 94, 95, 96, 97, 98, 99] [0, 1, 2, 6, 9, 10, 11, 12, 24, 38]) := by
  refine pm_moni (c_X5_back0 w x) (fun r w1 hq => ?_)
  obtain ⟨hR, h25, hsh⟩ := id hM
  rcases hq with ⟨q1, rfl, rfl⟩ | ⟨s, hs, rfl, ⟨q1, rfl, rfl⟩ | ⟨q1, rfl, hB⟩⟩
  · rw [pu_back, if_neg (by rw [q1]; decide)]
    exact ⟨rfl, hM, mfr_rf _ _ _⟩
  · rw [pu_back, if_pos (show pm_bw (nI s) 0 1 = true from bw_nI (n := 1) (by omega) (by decide)), nI_clamp (by omega)]
    cases hz : sh s with
    | none => exact ⟨rfl, hM, mfr_rf _ _ _⟩
    | some T =>
      obtain ⟨sp, e4, s1, s2, -⟩ := (hT s T hs hz).1
      have h7 : w1.1 107 s = nI sp := ((hsh s hs).2 T hz).2.2.2.1.1.trans e4
      rw [h7] at q1
      exact absurd q1 (nI_pos (by omega))
  · rw [pu_back, if_pos (show pm_bw (nI s) 0 1 = true from bw_nI (n := 1) (by omega) (by decide)), nI_clamp (by omega)]
    cases hz : sh s with
    | none => exact absurd ((hsh s hs).1 hz) q1
    | some T =>
      have k4 := hB.2.2.2
      exact ⟨rfl, mm_fr hM (vw_back ((hsh s hs).2 T hz) (hT s T hs hz) hB) ((k4.2.1 25 (by decide)).trans h25) (k4.1 107 (by decide) (by decide)) (k4.1 108 (by decide) (by decide)), k4⟩

