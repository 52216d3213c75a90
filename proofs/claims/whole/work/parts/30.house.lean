/-- the house: room, line, askers, numbers by their slots (4 space, 5 speed, 6 pace, 7 arm, 8 way, 9 ticks), all asks since clear -/
abbrev ab_S : Type := List ab_E × List ab_E × (Nat → ab_A) × (Nat → Int32) × List Int32
def hs_ok (L : pm_L) (hb : Nat) : Prop := L.1 hb = (3, 11) ∧ L.2 hb 0 = some (hb + 1) ∧ L.2 hb 1 = some (hb + 6) ∧ L.2 hb 2 = some (hb + 11) ∧ L.2 hb 3 = some (hb + 12) ∧ L.1 (hb + 11) = (14, 4) ∧ L.1 (hb + 12) = (10, 24) ∧ hd_ok L (hb + 1) 12 ∧ hd_ok L (hb + 6) 16 ∧ ∀ p, p < 4 → L.2 (hb + 11) p = some (hb + 13 + 3 * p) ∧ as_ok L (hb + 13 + 3 * p)
def hs_R (w : pm_W) (hb : Nat) (S : ab_S) : Prop := hd_R w (hb + 1) S.1 ∧ hd_R w (hb + 6) S.2.1 ∧ (∀ p, p < 4 → as_R w (hb + 13 + 3 * p) (S.2.2.1 p)) ∧ (∀ j, 4 ≤ j → j < 10 → w.1 hb j = S.2.2.2.1 j) ∧ w.1 hb 10 = nI S.2.2.2.2.length ∧ ∀ (i : Nat) (x : Int32), S.2.2.2.2[i]? = some x → S.2.2.2.2.length ≤ i + 24 → w.1 (hb + 12) ((i + 1) % 24) = x
theorem hs_R_cong {w w' : pm_W} {hb : Nat} {S : ab_S} (h : hs_R w hb S) (e : ∀ x, hb ≤ x → x < hb + 25 → w'.1 x = w.1 x) : hs_R w' hb S := by
  obtain ⟨h1, h2, h3, h4, h5, h6⟩ := h
  refine ⟨hd_R_cong h1 (fun a q1 q2 => e a (by omega) (by omega)), hd_R_cong h2 (fun a q1 q2 => e a (by omega) (by omega)), fun p hp => as_R_cong (h3 p hp) (fun a q1 q2 => e a (by omega) (by omega)), fun j q1 q2 => ?_, ?_, fun i x q1 q2 => ?_⟩
  · rw [e hb (by omega) (by omega)]; exact h4 j q1 q2
  · rw [e hb (by omega) (by omega)]; exact h5
  · rw [e (hb + 12) (by omega) (by omega)]; exact h6 i x q1 q2
theorem hs_room {w w1 : pm_W} {hb : Nat} {S : ab_S} {l : List ab_E} (h : hs_R w hb S) (hl : hd_R w1 (hb + 1) l) (hf : fr_out w w1 (hb + 1) (hb + 1 + 5)) : hs_R w1 hb (l, S.2) := by
  obtain ⟨h1, h2, h3, h4, h5, h6⟩ := h
  refine ⟨hl, hd_R_cong h2 (fun a q1 q2 => hf.1 a (by omega)), fun p hp => as_R_cong (h3 p hp) (fun a q1 q2 => hf.1 a (by omega)), fun j q1 q2 => ?_, ?_, fun i x q1 q2 => ?_⟩
  · rw [hf.1 hb (by omega)]; exact h4 j q1 q2
  · rw [hf.1 hb (by omega)]; exact h5
  · rw [hf.1 (hb + 12) (by omega)]; exact h6 i x q1 q2
theorem hs_line {w w1 : pm_W} {hb : Nat} {S : ab_S} {l : List ab_E} (h : hs_R w hb S) (hl : hd_R w1 (hb + 6) l) (hf : fr_out w w1 (hb + 6) (hb + 6 + 5)) : hs_R w1 hb (S.1, l, S.2.2) := by
  obtain ⟨h1, h2, h3, h4, h5, h6⟩ := h
  refine ⟨hd_R_cong h1 (fun a q1 q2 => hf.1 a (by omega)), hl, fun p hp => as_R_cong (h3 p hp) (fun a q1 q2 => hf.1 a (by omega)), fun j q1 q2 => ?_, ?_, fun i x q1 q2 => ?_⟩
  · rw [hf.1 hb (by omega)]; exact h4 j q1 q2
  · rw [hf.1 hb (by omega)]; exact h5
  · rw [hf.1 (hb + 12) (by omega)]; exact h6 i x q1 q2
theorem hs_ask {w w1 : pm_W} {hb : Nat} {S : ab_S} {p : Nat} {A : ab_A} (h : hs_R w hb S) (hp : p < 4) (hl : as_R w1 (hb + 13 + 3 * p) A) (hf : fr_out w w1 (hb + 13 + 3 * p) (hb + 13 + 3 * p + 3)) : hs_R w1 hb (S.1, S.2.1, va_up S.2.2.1 p A, S.2.2.2) := by
  obtain ⟨h1, h2, h3, h4, h5, h6⟩ := h
  refine ⟨hd_R_cong h1 (fun a q1 q2 => hf.1 a (by omega)), hd_R_cong h2 (fun a q1 q2 => hf.1 a (by omega)), fun q hq => ?_, fun j q1 q2 => ?_, ?_, fun i x q1 q2 => ?_⟩
  · by_cases hqp : q = p
    · subst hqp
      show as_R w1 _ (va_up S.2.2.1 q A q)
      rw [va_up_self]
      exact hl
    · show as_R w1 _ (va_up S.2.2.1 p A q)
      rw [va_up_ne _ _ hqp]
      exact as_R_cong (h3 q hq) (fun a q1 q2 => hf.1 a (by omega))
  · rw [hf.1 hb (by omega)]; exact h4 j q1 q2
  · rw [hf.1 hb (by omega)]; exact h5
  · rw [hf.1 (hb + 12) (by omega)]; exact h6 i x q1 q2
theorem hs_num {w : pm_W} {hb : Nat} {S : ab_S} {j : Nat} {x : Int32} (h : hs_R w hb S) (q1 : 4 ≤ j) (q2 : j < 10) : hs_R (pm_s w hb (upd (w.1 hb) j x)) hb (S.1, S.2.1, S.2.2.1, upd S.2.2.2.1 j x, S.2.2.2.2) := by
  obtain ⟨h1, h2, h3, h4, h5, h6⟩ := h
  refine ⟨hd_R_cong h1 (fun a q1 q2 => pm_s_ne (by omega)), hd_R_cong h2 (fun a q1 q2 => pm_s_ne (by omega)), fun p hp => as_R_cong (h3 p hp) (fun a q1 q2 => pm_s_ne (by omega)), fun t q1 q2 => ?_, ?_, fun i y q1 q2 => ?_⟩
  · rw [pm_s_at]
    by_cases htj : t = j
    · subst htj; show upd _ _ _ _ = upd _ _ _ _; rw [pk_us, pk_us]
    · show upd _ _ _ _ = upd _ _ _ _; rw [pk_un htj, pk_un htj]; exact h4 t q1 q2
  · rw [pm_s_at, pk_un (by omega)]; exact h5
  · rw [pm_s_ne (by omega)]; exact h6 i y q1 q2
-- what the house does
def ab_mg (rm : List ab_E) (ak : Nat → ab_A) (p : Nat) (e : ab_E) : Bool := e.2.1 == p || decide ((ak e.2.1).1 4 < nI (ab_cnt rm e.2.1))
def ab_gl (rm : List ab_E) (ak : Nat → ab_A) (p : Nat) (e : ab_E) : Bool := ab_mg rm ak p e && ab_lf (ak e.2.1) e.1
/-- the place of the one that goes; the length if none may go -/
def ab_lv (rm : List ab_E) (ak : Nat → ab_A) (p : Nat) : Nat := if rm.findIdx (ab_gl rm ak p) < rm.length then rm.findIdx (ab_gl rm ak p) else rm.findIdx (ab_mg rm ak p)
def ab_arm (m : Nat → Int32) (b : Int32) : Nat → Int32 := upd (upd m 8 (m 8 + ab_abs (b - m 7))) 7 b
def ab_wa (ak : Nat → ab_A) (e : ab_E) : Nat → ab_A := if e.2.2 = 1 then va_up ak e.2.1 (ab_waste (ak e.2.1)) else ak
def ab_ta (ak : Nat → ab_A) (p : Nat) (f : Int32) : Nat → ab_A := if f = 1 then va_up ak p (ab_waste (ak p)) else va_up ak p (ab_inc (ak p) 6)
def ab_serve (S : ab_S) (b : Int32) (p : Nat) (f : Int32) : ab_S × Int32 :=
  if nI S.1.length < S.2.2.2.1 4 then ((S.1 ++ [(b, p, f)], S.2.1, S.2.2.1, ab_arm S.2.2.2.1 b, S.2.2.2.2), 1)
  else if ab_lv S.1 S.2.2.1 p < S.1.length then ((S.1.eraseIdx (ab_lv S.1 S.2.2.1 p) ++ [(b, p, f)], S.2.1, ab_wa S.2.2.1 (S.1.getD (ab_lv S.1 S.2.2.1 p) (0, 0, 0)), ab_arm S.2.2.2.1 b, S.2.2.2.2), 1)
  else ((S.1, S.2.1, ab_ta S.2.2.1 p f, ab_arm S.2.2.2.1 b, S.2.2.2.2), 0)
def ab_sv : Nat → ab_S → ab_S × Int32
  | 0, S => (S, 0)
  | n + 1, S => match ab_nr S.2.1 (S.2.2.2.1 7) S.2.1.length with
    | none => (S, 0)
    | some k =>
      let e := S.2.1.getD k (0, 0, 0)
      let r := ab_serve (S.1, S.2.1.eraseIdx k, va_up S.2.2.1 e.2.1 (ab_inc (S.2.2.1 e.2.1) 3), S.2.2.2.1, S.2.2.2.2) e.1 e.2.1 1
      let r2 := ab_sv n r.1
      (r2.1, r.2 + r2.2)
def ab_tk (S : ab_S) : ab_S := (S.1, S.2.1, S.2.2.1, upd S.2.2.2.1 9 (S.2.2.2.1 9 + 1), S.2.2.2.2)
/-- a tick; with a demanded block, or none -/
def ab_tick (S : ab_S) (n : Nat) (dm : Option (Int32 × Nat)) : ab_S × Int32 := match dm with
  | none => ab_sv n (ab_tk S)
  | some d =>
    let r := ab_serve (ab_tk S) d.1 d.2 0
    let r2 := ab_sv (n - 1) r.1
    (r2.1, r.2 + r2.2)
-- what always holds
def ab_eok (e : ab_E) : Prop := e.2.1 < 4 ∧ 0 ≤ e.1 ∧ e.1 ≤ 63 ∧ (e.2.2 = 0 ∨ e.2.2 = 1)
def ab_aok (A : ab_A) : Prop := (A.1 7 = -1 ∨ (0 ≤ A.1 7 ∧ A.1 7 ≤ 63)) ∧ (∀ j, j < 64 → A.2.2 j = -1 ∨ (0 ≤ A.2.2 j ∧ A.2.2 j ≤ 63)) ∧ (0 ≤ A.1 2 ∧ A.1 2 ≤ 5) ∧ (0 ≤ A.1 3 ∧ A.1 3 ≤ 8) ∧ (A.1 5 = -1 ∨ (0 ≤ A.1 5 ∧ A.1 5 ≤ A.1 6 ∧ A.1 6 ≤ 63 ∧ A.1 2 = 4)) ∧ (A.1 7 = -1 → A.1 8 = 0)
def ab_I (S : ab_S) : Prop := (∃ n, S.2.2.2.1 4 = nI n ∧ 1 ≤ n ∧ n ≤ 12 ∧ S.1.length ≤ n) ∧ S.2.1.length ≤ 16 ∧ (∀ e ∈ S.1, ab_eok e) ∧ (∀ e ∈ S.2.1, ab_eok e) ∧ (0 ≤ S.2.2.2.1 7 ∧ S.2.2.2.1 7 ≤ 63) ∧ (∀ p, p < 4 → ab_aok (S.2.2.1 p)) ∧ (∃ n, S.2.2.2.1 5 = nI n ∧ 1 ≤ n ∧ n ≤ 3) ∧ (∃ n, S.2.2.2.1 6 = nI n ∧ 1 ≤ n ∧ n ≤ 4) ∧ S.2.2.2.2.length ≤ 1000000
theorem aok_waste {A : ab_A} (h : ab_aok A) : ab_aok (ab_waste A) := by
  obtain ⟨h1, h2, h3, h4, h5⟩ := h
  unfold ab_waste
  by_cases hc : A.1 2 = 5
  · simp only [if_pos hc]
    refine ⟨h1, h2, h3, ?_, h5⟩
    show 0 ≤ upd A.1 3 (A.1 3 / 2) 3 ∧ upd A.1 3 (A.1 3 / 2) 3 ≤ 8
    rw [pk_us]
    obtain ⟨j, hj, e⟩ := nI_of2 (n := 8) (M := 8) (by decide) (Int32.not_lt.mpr h4.1) h4.2
    rw [e, show (2 : Int32) = nI 2 from rfl, pk_div (by omega) (by decide) (by decide)]
    exact ⟨nI_pos' (by omega), nI_le (b := 8) (by omega) (by decide)⟩
  · simp only [if_neg hc]
    exact ⟨h1, h2, h3, h4, h5⟩
theorem aok_save {A : ab_A} (h : ab_aok A) : ab_aok (ab_save A) := by
  obtain ⟨h1, h2, h3, h4, h5⟩ := h
  unfold ab_save
  by_cases hc : A.1 2 = 5
  · simp only [if_pos hc]
    refine ⟨h1, h2, h3, ?_, h5⟩
    show 0 ≤ upd A.1 3 (ab_min (A.1 3 + 1) 8) 3 ∧ upd A.1 3 (ab_min (A.1 3 + 1) 8) 3 ≤ 8
    rw [pk_us]
    obtain ⟨j, hj, e⟩ := nI_of2 (n := 8) (M := 8) (by decide) (Int32.not_lt.mpr h4.1) h4.2
    rw [e, nI_1]
    unfold ab_min
    by_cases h9 : (8 : Int32) < nI (j + 1)
    · rw [if_pos h9]; decide
    · rw [if_neg h9]
      exact ⟨nI_pos' (by omega), Int32.not_lt.mp h9⟩
  · simp only [if_neg hc]
    exact ⟨h1, h2, h3, h4, h5⟩
theorem aok_inc {A : ab_A} (h : ab_aok A) (j : Nat) : ab_aok (ab_inc A j) := h
theorem aok_up {ak : Nat → ab_A} {p : Nat} {A : ab_A} (h : ∀ q, q < 4 → ab_aok (ak q)) (hA : ab_aok A) : ∀ q, q < 4 → ab_aok (va_up ak p A q) := by
  intro q hq
  by_cases hqp : q = p
  · subst hqp; rw [va_up_self]; exact hA
  · rw [va_up_ne _ _ hqp]; exact h q hq
theorem lv_le (rm : List ab_E) (ak : Nat → ab_A) (p : Nat) : ab_lv rm ak p ≤ rm.length := by
  unfold ab_lv
  split
  · omega
  · exact List.findIdx_le_length
theorem eok_at {l : List ab_E} (h : ∀ e ∈ l, ab_eok e) {i : Nat} (hi : i < l.length) : ab_eok (l.getD i (0, 0, 0)) := by
  rw [List.getD_eq_getElem?_getD, List.getElem?_eq_getElem hi]
  exact h _ (List.getElem_mem hi)
theorem eok_add {l : List ab_E} (h : ∀ e ∈ l, ab_eok e) {x : ab_E} (hx : ab_eok x) : ∀ e ∈ l ++ [x], ab_eok e := by
  intro e he
  rcases List.mem_append.mp he with he | he
  · exact h e he
  · rw [List.mem_singleton.mp he]; exact hx
theorem eok_rem {l : List ab_E} (h : ∀ e ∈ l, ab_eok e) (i : Nat) : ∀ e ∈ l.eraseIdx i, ab_eok e := fun e he => h e (List.mem_of_mem_eraseIdx he)
theorem arm_at (m : Nat → Int32) (b : Int32) : ab_arm m b 7 = b ∧ ab_arm m b 4 = m 4 ∧ ab_arm m b 5 = m 5 ∧ ab_arm m b 6 = m 6 ∧ ab_arm m b 9 = m 9 := ⟨rfl, rfl, rfl, rfl, rfl⟩
theorem I_serve {S : ab_S} (h : ab_I S) {b : Int32} {p : Nat} {f : Int32} (he : ab_eok (b, p, f)) : ab_I (ab_serve S b p f).1 := by
  obtain ⟨⟨n, e4, n1, n2, n3⟩, h2, h3, h4, h5, h6, h7, h8, h9⟩ := h
  unfold ab_serve
  split
  next hc =>
    rw [e4, nI_ltI (by omega) (by omega)] at hc
    refine ⟨⟨n, e4, n1, n2, by simp; omega⟩, h2, eok_add h3 he, h4, ⟨he.2.1, he.2.2.1⟩, h6, h7, h8, h9⟩
  next hc =>
    split
    next hl =>
      refine ⟨⟨n, e4, n1, n2, ?_⟩, h2, eok_add (eok_rem h3 _) he, h4, ⟨he.2.1, he.2.2.1⟩, ?_, h7, h8, h9⟩
      · simp only [List.length_append, List.length_eraseIdx, if_pos hl, List.length_singleton]
        omega
      · show ∀ q, q < 4 → ab_aok (ab_wa _ _ q)
        unfold ab_wa
        split
        · exact aok_up h6 (aok_waste (h6 _ (eok_at h3 hl).1))
        · exact h6
    next hl =>
      refine ⟨⟨n, e4, n1, n2, n3⟩, h2, h3, h4, ⟨he.2.1, he.2.2.1⟩, ?_, h7, h8, h9⟩
      show ∀ q, q < 4 → ab_aok (ab_ta _ _ _ q)
      unfold ab_ta
      split
      · exact aok_up h6 (aok_waste (h6 _ he.1))
      · exact aok_up h6 (aok_inc (h6 _ he.1) 6)
theorem I_sv : ∀ {n : Nat} {S : ab_S}, ab_I S → ab_I (ab_sv n S).1
  | 0, S, h => h
  | n + 1, S, h => by
    unfold ab_sv
    split
    next => exact h
    next k hk =>
      have hk2 := ab_nr_lt hk
      obtain ⟨h1, h2, h3, h4, h5, h6, h7, h8, h9⟩ := h
      have hek := eok_at h4 hk2
      have hI : ab_I (S.1, S.2.1.eraseIdx k, va_up S.2.2.1 (S.2.1.getD k (0, 0, 0)).2.1 (ab_inc (S.2.2.1 (S.2.1.getD k (0, 0, 0)).2.1) 3), S.2.2.2.1, S.2.2.2.2) := by
        refine ⟨h1, ?_, h3, eok_rem h4 _, h5, aok_up h6 (aok_inc (h6 _ hek.1) 3), h7, h8, h9⟩
        show (S.2.1.eraseIdx k).length ≤ 16
        rw [List.length_eraseIdx, if_pos hk2]
        omega
      have hV := I_serve hI (b := (S.2.1.getD k (0, 0, 0)).1) (p := (S.2.1.getD k (0, 0, 0)).2.1) (f := 1) ⟨hek.1, hek.2.1, hek.2.2.1, Or.inr rfl⟩
      exact I_sv (n := n) hV
theorem I_tk {S : ab_S} (h : ab_I S) : ab_I (ab_tk S) := h
theorem I_tick {S : ab_S} (h : ab_I S) {n : Nat} {dm : Option (Int32 × Nat)} (hd : ∀ d, dm = some d → ab_eok (d.1, d.2, 0)) : ab_I (ab_tick S n dm).1 := by
  cases dm with
  | none => exact I_sv (I_tk h)
  | some d => exact I_sv (I_serve (I_tk h) (hd d rfl))
theorem far_lt {b a : Int32} (hb : 0 ≤ b ∧ b ≤ 63) (ha : 0 ≤ a ∧ a ≤ 63) : ab_abs (b - a) < 64 := by
  obtain ⟨j, hj, rfl⟩ := nI_of2 (n := 63) (M := 63) (by decide) (Int32.not_lt.mpr hb.1) hb.2
  obtain ⟨i, hi, rfl⟩ := nI_of2 (n := 63) (M := 63) (by decide) (Int32.not_lt.mpr ha.1) ha.2
  have h1 : (nI j - nI i).toInt = (j : Int) - i := pk_sub_toInt (by omega) (by omega)
  unfold ab_abs
  have h64 : (64 : Int32).toInt = 64 := by decide
  have h0 : (0 : Int32).toInt = 0 := by decide
  split
  next h => rw [Int32.lt_iff_toInt_lt, h1, h64]; omega
  next h =>
    rw [Int32.le_iff_toInt_le, h1, h0] at h
    rw [Int32.lt_iff_toInt_lt, Int32.toInt_neg, h1, h64]
    have : (-((j : Int) - i)).bmod (2 ^ 32) = -((j : Int) - i) := by
      rw [Int.bmod_eq_of_le] <;> omega
    omega
