def ab_k0 (S T : ab_S) : Prop := ∀ q, (T.2.2.1 q).2.1 0 = (S.2.2.1 q).2.1 0
theorem k0_tr {S T U : ab_S} (h : ab_k0 S T) (k : ab_k0 T U) : ab_k0 S U := fun q => (k q).trans (h q)
theorem k0_up {ak : Nat → ab_A} {p : Nat} {A : ab_A} (h : A.2.1 0 = (ak p).2.1 0) (q : Nat) : (va_up ak p A q).2.1 0 = (ak q).2.1 0 := by
  by_cases e : q = p
  · subst e; rw [va_up_self]; exact h
  · rw [va_up_ne _ _ e]
theorem k0_inc (A : ab_A) {j : Nat} (h : ¬ 0 = j) : (ab_inc A j).2.1 0 = A.2.1 0 := pk_un h
theorem k0_waste (A : ab_A) : (ab_waste A).2.1 0 = A.2.1 0 := show upd A.2.1 4 (A.2.1 4 + 1) 0 = A.2.1 0 from pk_un (by decide)
theorem k0_save (A : ab_A) : (ab_save A).2.1 0 = A.2.1 0 := show upd A.2.1 5 (A.2.1 5 + 1) 0 = A.2.1 0 from pk_un (by decide)
theorem k0_learn (A : ab_A) (b : Int32) : (ab_learn A b).2.1 0 = A.2.1 0 := by
  unfold ab_learn
  split <;> rfl
theorem k0_serve (S : ab_S) (b : Int32) (p : Nat) (f : Int32) : ab_k0 S (ab_serve S b p f).1 := by
  unfold ab_serve
  split
  · exact fun q => rfl
  · split
    · intro q
      show (ab_wa S.2.2.1 _ q).2.1 0 = _
      unfold ab_wa
      split
      · exact k0_up (k0_waste _) q
      · rfl
    · intro q
      show (ab_ta S.2.2.1 p f q).2.1 0 = _
      unfold ab_ta
      split
      · exact k0_up (k0_waste _) q
      · exact k0_up (k0_inc _ (by decide)) q
theorem k0_sv : ∀ (n : Nat) (S : ab_S), ab_k0 S (ab_sv n S).1
  | 0, S => fun q => rfl
  | n + 1, S => by
    unfold ab_sv
    split
    next => exact fun q => rfl
    next k hk =>
      refine k0_tr (T := (S.1, S.2.1.eraseIdx k, va_up S.2.2.1 (S.2.1.getD k (0, 0, 0)).2.1 (ab_inc (S.2.2.1 (S.2.1.getD k (0, 0, 0)).2.1) 3), S.2.2.2.1, S.2.2.2.2)) (fun q => k0_up (k0_inc _ (by decide)) q) ?_
      exact k0_tr (k0_serve _ _ _ _) (k0_sv n _)
theorem k0_tick (S : ab_S) (n : Nat) (dm : Option (Int32 × Nat)) : ab_k0 S (ab_tick S n dm).1 := by
  cases dm with
  | none => exact k0_tr (S := S) (T := ab_tk S) (fun q => rfl) (k0_sv n _)
  | some d => exact k0_tr (S := S) (T := ab_tk S) (fun q => rfl) (k0_tr (k0_serve _ _ _ _) (k0_sv _ _))
theorem k0_wish (S : ab_S) (p : Nat) (b : Int32) (sd : Bool) : ab_k0 S (ab_wish S p b sd) := by
  have h := wish_ask S p b sd
  intro q
  rw [h]
theorem k0_end (S : ab_S) (n pc p : Nat) (b : Int32) : ab_k0 S (ab_end S n pc p b) := by
  have h1 : ab_k0 S (ab_ln S p b) := fun q => k0_up (k0_learn _ _) q
  unfold ab_end
  split
  · exact k0_tr h1 (k0_tr (k0_wish _ _ _ _) (k0_tick _ _ _))
  · exact k0_tr h1 (k0_wish _ _ _ _)
theorem k0_a1 (S : ab_S) (n p : Nat) (b : Int32) : ab_k0 S (ab_a1 S n p b) := by
  unfold ab_a1
  split
  · intro q
    show ((if _ then _ else _ : Nat → ab_A) q).2.1 0 = _
    split
    · rw [k0_up (k0_save _) q]
      exact k0_up (k0_inc _ (by decide)) q
    · exact k0_up (k0_inc _ (by decide)) q
  · exact k0_tr (S := S) (T := ab_dem S p b) (fun q => k0_up (k0_inc _ (by decide)) q) (k0_tick _ _ _)
theorem row_end (S : ab_S) (n pc p : Nat) (b : Int32) : (ab_end S n pc p b).2.2.2.2 = S.2.2.2.2 := by
  unfold ab_end
  split
  · exact (kp_tick _ _ _).1.trans (kp_wish _ _ _ _).1
  · exact (kp_wish _ _ _ _).1
theorem row_ans (S : ab_S) (n pc p : Nat) (b : Int32) : (ab_ans S n pc p b).2.2.2.2 = S.2.2.2.2 ++ [b] := (row_end _ _ _ _ _).trans (kp_a1 (ab_a0 S p b) n p b).1
def ab_K (S : ab_S) : Prop := ab_sm (fun p => (S.2.2.1 p).2.1 0) 4 = nI S.2.2.2.2.length
theorem K_k0 {S T : ab_S} (h : ab_K S) (k : ab_k0 S T) (e : T.2.2.2.2 = S.2.2.2.2) : ab_K T := by
  unfold ab_K at h ⊢
  rw [show (fun p => (T.2.2.1 p).2.1 0) = (fun p => (S.2.2.1 p).2.1 0) from funext k, e]
  exact h
theorem K_a0 {S : ab_S} (h : ab_K S) {p : Nat} (hp : p < 4) (b : Int32) : ab_K (ab_a0 S p b) := by
  unfold ab_K at h ⊢
  have hl : (ab_a0 S p b).2.2.2.2.length = S.2.2.2.2.length + 1 := by
    show (S.2.2.2.2 ++ [b]).length = _
    rw [List.length_append, List.length_singleton]
  rw [hl, ← nI_1, ← h]
  have hf : ∀ q, ((ab_a0 S p b).2.2.1 q).2.1 0 = if q = p then (S.2.2.1 q).2.1 0 + 1 else (S.2.2.1 q).2.1 0 := by
    intro q
    show (va_up S.2.2.1 p (ab_inc (S.2.2.1 p) 0) q).2.1 0 = _
    by_cases e : q = p
    · subst e; rw [va_up_self, if_pos rfl]; exact (pk_us : upd (S.2.2.1 q).2.1 0 _ 0 = _)
    · rw [va_up_ne _ _ e, if_neg e]
  simp only [ab_sm, hf]
  rcases (show p = 0 ∨ p = 1 ∨ p = 2 ∨ p = 3 by omega) with rfl | rfl | rfl | rfl <;> simp <;> ac_rfl
theorem K_ans {S : ab_S} (h : ab_K S) (n pc : Nat) {p : Nat} (hp : p < 4) (b : Int32) : ab_K (ab_ans S n pc p b) := K_k0 (K_a0 h hp b) (k0_tr (k0_a1 _ _ _ _) (k0_end _ _ _ _ _)) ((row_end _ _ _ _ _).trans (kp_a1 _ _ _ _).1)
theorem k0_idl (S : ab_S) (n : Nat) : ∀ k, ab_k0 S (ab_idl S n k).1 ∧ (ab_idl S n k).1.2.2.2.2 = S.2.2.2.2
  | 0 => ⟨fun q => rfl, rfl⟩
  | k + 1 => ⟨k0_tr (k0_idl S n k).1 (k0_tick _ _ _), (kp_tick _ _ _).1.trans (k0_idl S n k).2⟩
/-- What always holds. -/
def al_I (N : Nat) (S : ab_S) : Prop := ab_I S ∧ ab_J S ∧ ab_K S ∧ S.2.2.2.2.length ≤ N
theorem al_m {N M : Nat} {S : ab_S} (h : al_I N S) (k : N ≤ M) : al_I M S := ⟨h.1, h.2.1, h.2.2.1, Nat.le_trans h.2.2.2 k⟩
theorem aok_new : ab_aok ab_new := ⟨Or.inl rfl, fun j _ => Or.inl rfl, ⟨by decide, by decide⟩, ⟨by decide, by decide⟩, Or.inl rfl, fun _ => rfl⟩
theorem bw_12 {x lo hi : Int32} {n : Nat} (hn : hi.toInt = n) (hl : 0 ≤ lo) (h : pm_bw x lo hi = true) : ∃ q, q ≤ n ∧ x = nI q := by
  have h := pm_bw_t.mp h
  exact bw_of (n := n) hn (pm_bw_t.mpr ⟨Int32.le_trans hl h.1, h.2⟩)
theorem bw_lo {x hi : Int32} {n : Nat} (hn : hi.toInt = n) (h : pm_bw x 1 hi = true) : ∃ q, 1 ≤ q ∧ q ≤ n ∧ x = nI q := by
  have h2 : n < 2 ^ 31 := by have := hi.toInt_lt; omega
  obtain ⟨q, h1, rfl⟩ := bw_12 hn (by decide) h
  have h3 := (pm_bw_t.mp h).1
  rw [show (1 : Int32) = nI 1 from rfl, nI_leI (by decide) (by omega)] at h3
  exact ⟨q, h3, h1, rfl⟩
theorem I_beg {a b c : Int32} (ha : pm_bw a 1 12 = true) (hb : pm_bw b 1 3 = true) (hc : pm_bw c 1 4 = true) : ab_I (ab_beg a b c) := by
  obtain ⟨x, a1, a2, rfl⟩ := bw_lo (n := 12) (by decide) ha
  obtain ⟨y, b1, b2, rfl⟩ := bw_lo (n := 3) (by decide) hb
  obtain ⟨z, c1, c2, rfl⟩ := bw_lo (n := 4) (by decide) hc
  exact ⟨⟨x, rfl, a1, a2, Nat.zero_le _⟩, Nat.zero_le _, fun e he => absurd he (by simp [ab_beg]), fun e he => absurd he (by simp [ab_beg]), ⟨Int32.le_refl 0, show (0 : Int32) ≤ 63 by decide⟩, fun p _ => aok_new, ⟨y, rfl, b1, b2⟩, ⟨z, rfl, c1, c2⟩, Nat.zero_le _⟩
theorem al_beg {a b c : Int32} (ha : pm_bw a 1 12 = true) (hb : pm_bw b 1 3 = true) (hc : pm_bw c 1 4 = true) (N : Nat) : al_I N (ab_beg a b c) := ⟨I_beg ha hb hc, J_beg a b c, show ab_sm (fun _ => 0) 4 = nI 0 by decide, Nat.zero_le _⟩
theorem al_clear {N : Nat} {S : ab_S} (h : al_I N S) (a b c : Int32) : al_I N (pu_clear S a b c).2 := by
  unfold pu_clear
  split
  next q => exact al_beg q.1 q.2.1 q.2.2 N
  next => exact h
theorem al_ak {N : Nat} {S : ab_S} (h : al_I N S) {p : Nat} {A : ab_A} (hA : ab_aok A) (h0 : A.2.1 0 = (S.2.2.1 p).2.1 0) : al_I N (S.1, S.2.1, va_up S.2.2.1 p A, S.2.2.2) := by
  obtain ⟨⟨h1, h2, h3, h4, h5, h6, h7, h8, h9⟩, hJ, hK, hN⟩ := h
  exact ⟨⟨h1, h2, h3, h4, h5, aok_up h6 hA, h7, h8, h9⟩, hJ, K_k0 hK (fun q => k0_up h0 q) rfl, hN⟩
theorem al_share {N : Nat} {S : ab_S} (h : al_I N S) (p n : Int32) : al_I N (pu_share S p n).2 := by
  unfold pu_share
  split
  next q =>
    obtain ⟨k, hk, rfl⟩ := as_of q
    split
    · split
      · exact h
      · rw [nI_clamp (by omega)]
        exact al_ak h (p := k) (h.1.2.2.2.2.2.1 k hk) rfl
    · exact h
  next => exact h
theorem al_kind {N : Nat} {S : ab_S} (h : al_I N S) (p k r : Int32) : al_I N (pu_kind S p k r).2 := by
  unfold pu_kind
  split
  next q =>
    obtain ⟨j, hj, rfl⟩ := as_of q
    split
    next q2 =>
      rw [nI_clamp (by omega)]
      obtain ⟨a1, a2, a3, a4, a5, a6⟩ := h.1.2.2.2.2.2.1 j hj
      exact al_ak h (p := j) ⟨a1, a2, pm_bw_t.mp q2.1, pm_bw_t.mp q2.2, Or.inl rfl, a6⟩ rfl
    next => exact h
  next => exact h
theorem al_hint {N : Nat} {S : ab_S} (h : al_I N S) (p a b : Int32) : al_I N (pu_hint S p a b).2 := by
  unfold pu_hint
  split
  next q =>
    obtain ⟨j, hj, rfl⟩ := as_of q
    split
    next q2 =>
      rw [nI_clamp (by omega)]
      split
      next q3 =>
        obtain ⟨a1, a2, a3, a4, a5, a6⟩ := h.1.2.2.2.2.2.1 j hj
        have h1 : al_I N (ab_fld (ab_fld S j 5 a) j 6 b) := by
          have he : ab_fld (ab_fld S j 5 a) j 6 b = (S.1, S.2.1, va_up S.2.2.1 j (upd (upd (S.2.2.1 j).1 5 a) 6 b, (S.2.2.1 j).2), S.2.2.2) := by
            unfold ab_fld
            have : va_up S.2.2.1 j (upd (S.2.2.1 j).1 5 a, (S.2.2.1 j).2) j = (upd (S.2.2.1 j).1 5 a, (S.2.2.1 j).2) := va_up_self _ _ _
            simp only [this]
            congr 3
            funext q
            by_cases e : q = j
            · subst e; rw [va_up_self, va_up_self]
            · rw [va_up_ne _ _ e, va_up_ne _ _ e, va_up_ne _ _ e]
          rw [he]
          exact al_ak h (p := j) ⟨a1, a2, a3, a4, Or.inr ⟨(pm_bw_t.mp q2.1).1, q2.2.2, (pm_bw_t.mp q2.2.1).2, q3⟩, a6⟩ rfl
        exact h1
      next => exact h
    next => exact h
  next => exact h
theorem al_ask {N : Nat} {S : ab_S} (h : al_I N S) (hN : N < 1000000) (p b : Int32) : al_I (N + 1) (pu_ask S p b).2 := by
  unfold pu_ask
  split
  next q =>
    obtain ⟨j, hj, rfl⟩ := as_of q
    split
    next q2 =>
      rw [nI_clamp (by omega)]
      obtain ⟨hI, hJ, hK, hL⟩ := h
      refine ⟨I_ans hI (by omega) hj (pm_bw_t.mp q2), J_ans hJ _ _ _ _, K_ans hK _ _ hj b, ?_⟩
      show (ab_ans S _ _ j b).2.2.2.2.length ≤ N + 1
      rw [row_ans, List.length_append, List.length_singleton]
      omega
    next => exact al_m h (by omega)
  next => exact al_m h (by omega)
theorem al_idle {N : Nat} {S : ab_S} (h : al_I N S) (n : Int32) : al_I N (pu_idle S n).2 := by
  unfold pu_idle
  split
  next q =>
    obtain ⟨hI, hJ, hK, hL⟩ := h
    obtain ⟨k1, k2⟩ := k0_idl S (S.2.2.2.1 5).toNatClampNeg n.toNatClampNeg
    exact ⟨I_idl hI _ _, J_idl hJ _ _, K_k0 hK k1 k2, by rw [show ∀ T : ab_S, T.2.2.2.2 = S.2.2.2.2 → T.2.2.2.2.length = S.2.2.2.2.length from fun T e => by rw [e]]; exact hL; exact k2⟩
  next => exact h

