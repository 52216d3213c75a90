/-- what is known of an asker: its fields by their slots (2 kind, 3 reach, 4 share, 5 from, 6 to, 7 last, 8 step), its counts, what followed -/
abbrev ab_A : Type := (Nat → Int32) × (Nat → Int32) × (Nat → Int32)
def as_ok (L : pm_L) (a : Nat) : Prop := L.1 a = (0, 10) ∧ L.2 a 0 = some (a + 1) ∧ L.2 a 1 = some (a + 2) ∧ L.1 (a + 1) = (10, 7) ∧ L.1 (a + 2) = (10, 64)
def as_R (w : pm_W) (a : Nat) (A : ab_A) : Prop := (∀ j, 2 ≤ j → j < 9 → w.1 a j = A.1 j) ∧ (∀ j, j < 7 → w.1 (a + 1) j = A.2.1 j) ∧ (∀ j, j < 64 → w.1 (a + 2) j = A.2.2 j)
theorem as_R_cong {w w' : pm_W} {a : Nat} {A : ab_A} (h : as_R w a A) (e : ∀ x, a ≤ x → x < a + 3 → w'.1 x = w.1 x) : as_R w' a A := by
  obtain ⟨h1, h2, h3⟩ := h
  exact ⟨fun j q1 q2 => by rw [e a (by omega) (by omega)]; exact h1 j q1 q2, fun j q => by rw [e (a + 1) (by omega) (by omega)]; exact h2 j q, fun j q => by rw [e (a + 2) (by omega) (by omega)]; exact h3 j q⟩
def ab_sp (A : ab_A) (x : Int32) : Bool := !decide (A.1 5 = -1) && (decide (A.1 5 ≤ x) && decide (x ≤ A.1 6))
def ab_lf (A : ab_A) (b : Int32) : Bool := !decide (A.1 7 = -1) && (ab_sp A b && (!ab_sp A (A.1 7) || decide (b < A.1 7)))
def ab_become (A : ab_A) (k r : Int32) : ab_A := (upd (upd (upd (upd A.1 2 k) 3 r) 5 (-1)) 6 (-1), A.2.1, A.2.2)
def ab_waste (A : ab_A) : ab_A := (if A.1 2 = 5 then upd A.1 3 (A.1 3 / 2) else A.1, upd A.2.1 4 (A.2.1 4 + 1), A.2.2)
def ab_save (A : ab_A) : ab_A := (if A.1 2 = 5 then upd A.1 3 (ab_min (A.1 3 + 1) 8) else A.1, upd A.2.1 5 (A.2.1 5 + 1), A.2.2)
def ab_inc (A : ab_A) (j : Nat) : ab_A := (A.1, upd A.2.1 j (A.2.1 j + 1), A.2.2)
def ab_learn (A : ab_A) (b : Int32) : ab_A := if A.1 7 = -1 then (upd A.1 7 b, A.2.1, A.2.2) else (upd (upd A.1 8 (b - A.1 7)) 7 b, A.2.1, upd A.2.2 (A.1 7).toNatClampNeg b)
def ab_new : ab_A := (fun j => if j = 5 ∨ j = 6 ∨ j = 7 then -1 else 0, fun _ => 0, fun _ => -1)

theorem ix_in {x : Int32} {n : Nat} {hi : Int32} (h : 0 ≤ x ∧ x ≤ hi) (hn : hi.toInt < n) : vp_in x n := by
  rw [vp_in_iff]
  have h1 := Int32.le_iff_toInt_le.mp h.1
  have h2 := Int32.le_iff_toInt_le.mp h.2
  have h3 : (0 : Int32).toInt = 0 := by decide
  omega

set_option maxRecDepth 4000 in
theorem c_X0_become {L : pm_L} {a : Nat} (ha : as_ok L a) {w : pm_W} {A : ab_A} (hR : as_R w a A) (kd r : Int32) : pm_C L MX0_become [.ref a, .int kd, .int r] w (pm_qv fun w1 => as_R w1 a (ab_become A kd r) ∧ w1.1 a 9 = w.1 a 9 ∧ fr_out w w1 a (a + 3)) := by
  obtain ⟨e1, e2, e3, e4, e5⟩ := ha
  obtain ⟨h1, h2, h3⟩ := hR
  refine pm_start (lv := [some (.ref _), some (.int _), some (.int _)]) (plainFor_of_name pf0) (Nat.le_of_ble_eq_true rfl) rfl ?_
  refine pm_aload_n dX0_become_0 rfl ?_
  refine pm_iload_n dX0_become_1 rfl ?_
  refine pm_putI (ci := 0) (j := 2) (n := 10) (by first | assumption | rfl) (by decide) (by decide) rfl fl_RX0_47 rfl rfl dX0_become_2 ?_
  refine pm_aload_n dX0_become_5 rfl ?_
  refine pm_iload_n dX0_become_6 rfl ?_
  refine pm_putI (ci := 0) (j := 3) (n := 10) (by first | assumption | rfl) (by decide) (by decide) rfl fl_RX0_50 rfl rfl dX0_become_7 ?_
  refine pm_aload_n dX0_become_10 rfl ?_
  refine pm_iconst (x := -1) dX0_become_11 rfl ?_
  refine pm_putI (ci := 0) (j := 5) (n := 10) (by first | assumption | rfl) (by decide) (by decide) rfl fl_RX0_53 rfl rfl dX0_become_12 ?_
  refine pm_aload_n dX0_become_15 rfl ?_
  refine pm_iconst (x := -1) dX0_become_16 rfl ?_
  refine pm_putI (ci := 0) (j := 6) (n := 10) (by first | assumption | rfl) (by decide) (by decide) rfl fl_RX0_56 rfl rfl dX0_become_17 ?_
  refine pm_vret dX0_become_20 rfl ?_
  refine ⟨⟨fun j q1 q2 => ?_, fun j q => ?_, fun j q => ?_⟩, ?_, fr_st (fr_st (fr_st (fr_s (by omega) (by omega)) (by omega) (by omega)) (by omega) (by omega)) (by omega) (by omega)⟩
  · rcases (show j = 2 ∨ j = 3 ∨ j = 4 ∨ j = 5 ∨ j = 6 ∨ j = 7 ∨ j = 8 by omega) with rfl | rfl | rfl | rfl | rfl | rfl | rfl <;> simp [pm_s, upd, ab_become, h1]
  · simp [pm_s, ab_become, h2 j q]
  · simp [pm_s, ab_become, h3 j q]
  · simp [pm_s, upd]

set_option maxRecDepth 4000 in
theorem c_X0_spans {L : pm_L} {a : Nat} (ha : as_ok L a) {w : pm_W} {A : ab_A} (hR : as_R w a A) (x : Int32) : pm_C L MX0_spans [.ref a, .int x] w (pm_qi fun r w1 => r = pm_z (ab_sp A x) ∧ w1 = w) := by
  obtain ⟨e1, e2, e3, e4, e5⟩ := ha
  obtain ⟨h1, h2, h3⟩ := hR
  refine pm_start (lv := [some (.ref _), some (.int _)]) (plainFor_of_name pf0) (Nat.le_of_ble_eq_true rfl) rfl ?_
  refine pm_aload_n dX0_spans_0 rfl ?_
  refine pm_getI (ci := 0) (j := 5) (n := 10) (by first | assumption | rfl) (by decide) (by decide) rfl fl_RX0_53 rfl dX0_spans_1 ?_
  rw [h1 5 (by decide) (by decide)]
  refine pm_iconst (x := -1) dX0_spans_4 rfl ?_
  refine pm_icmp_eq (tgt := 28) dX0_spans_5 (by decide) (fun c5 => ?_) (fun c5 => ?_)
  · refine pm_iconst (x := 0) dX0_spans_28 rfl ?_
    refine pm_zret dX0_spans_29 rfl (by first | exact Or.inl rfl | exact Or.inr rfl | assumption) ?_
    exact ⟨by simp [ab_sp, c5, pm_z], rfl⟩
  · refine pm_aload_n dX0_spans_8 rfl ?_
    refine pm_getI (ci := 0) (j := 5) (n := 10) (by first | assumption | rfl) (by decide) (by decide) rfl fl_RX0_53 rfl dX0_spans_9 ?_
    rw [h1 5 (by decide) (by decide)]
    refine pm_iload_n dX0_spans_12 rfl ?_
    refine pm_icmp_gt (tgt := 28) dX0_spans_13 (by decide) (fun c13 => ?_) (fun c13 => ?_)
    · refine pm_iconst (x := 0) dX0_spans_28 rfl ?_
      refine pm_zret dX0_spans_29 rfl (by first | exact Or.inl rfl | exact Or.inr rfl | assumption) ?_
      exact ⟨by simp [ab_sp, c5, Int32.not_le.mpr c13, pm_z], rfl⟩
    · refine pm_iload_n dX0_spans_16 rfl ?_
      refine pm_aload_n dX0_spans_17 rfl ?_
      refine pm_getI (ci := 0) (j := 6) (n := 10) (by first | assumption | rfl) (by decide) (by decide) rfl fl_RX0_56 rfl dX0_spans_18 ?_
      rw [h1 6 (by decide) (by decide)]
      refine pm_icmp_gt (tgt := 28) dX0_spans_21 (by decide) (fun c21 => ?_) (fun c21 => ?_)
      · refine pm_iconst (x := 0) dX0_spans_28 rfl ?_
        refine pm_zret dX0_spans_29 rfl (by first | exact Or.inl rfl | exact Or.inr rfl | assumption) ?_
        exact ⟨by simp [ab_sp, c5, Int32.not_lt.mp c13, Int32.not_le.mpr c21, pm_z], rfl⟩
      · refine pm_iconst (x := 1) dX0_spans_24 rfl ?_
        refine pm_goto (tgt := 29) dX0_spans_25 (by decide) ?_
        refine pm_zret dX0_spans_29 rfl (by first | exact Or.inl rfl | exact Or.inr rfl | assumption) ?_
        exact ⟨by simp [ab_sp, c5, Int32.not_lt.mp c13, Int32.not_lt.mp c21, pm_z], rfl⟩

set_option maxRecDepth 4000 in
theorem c_X0_hasLeft {L : pm_L} {a : Nat} (ha : as_ok L a) {w : pm_W} {A : ab_A} (hR : as_R w a A) (b : Int32) : pm_C L MX0_hasLeft [.ref a, .int b] w (pm_qi fun r w1 => r = pm_z (ab_lf A b) ∧ w1 = w) := by
  obtain ⟨e1, e2, e3, e4, e5⟩ := ha
  obtain ⟨h1, h2, h3⟩ := hR
  refine pm_start (lv := [some (.ref _), some (.int _)]) (plainFor_of_name pf0) (Nat.le_of_ble_eq_true rfl) rfl ?_
  refine pm_aload_n dX0_hasLeft_0 rfl ?_
  refine pm_getI (ci := 0) (j := 7) (n := 10) (by first | assumption | rfl) (by decide) (by decide) rfl fl_RX0_32 rfl dX0_hasLeft_1 ?_
  rw [h1 7 (by decide) (by decide)]
  refine pm_iconst (x := -1) dX0_hasLeft_4 rfl ?_
  refine pm_icmp_eq (tgt := 39) dX0_hasLeft_5 (by decide) (fun c5 => ?_) (fun c5 => ?_)
  · refine pm_iconst (x := 0) dX0_hasLeft_39 rfl ?_
    refine pm_zret dX0_hasLeft_40 rfl (by first | exact Or.inl rfl | exact Or.inr rfl | assumption) ?_
    exact ⟨by simp [ab_lf, c5, pm_z], rfl⟩
  · refine pm_aload_n dX0_hasLeft_8 rfl ?_
    refine pm_iload_n dX0_hasLeft_9 rfl ?_
    refine pm_cVi (as := [.int _]) (by first | assumption | rfl) (by decide) rfl ml_RX0_59 (by decide) (Nat.le_of_ble_eq_true rfl) dX0_hasLeft_10 (c_X0_spans ⟨e1, e2, e3, e4, e5⟩ ⟨h1, h2, h3⟩ _) (fun x1 w1 hq => ?_)
    obtain ⟨rfl, rfl⟩ := hq
    refine pm_if_eq (tgt := 39) dX0_hasLeft_13 (by decide) (fun c13 => ?_) (fun c13 => ?_)
    · refine pm_iconst (x := 0) dX0_hasLeft_39 rfl ?_
      refine pm_zret dX0_hasLeft_40 rfl (by first | exact Or.inl rfl | exact Or.inr rfl | assumption) ?_
      rw [pm_z_0] at c13
      exact ⟨by simp [ab_lf, c5, c13, pm_z], rfl⟩
    · rw [pm_z_1] at c13
      refine pm_aload_n dX0_hasLeft_16 rfl ?_
      refine pm_aload_n dX0_hasLeft_17 rfl ?_
      refine pm_getI (ci := 0) (j := 7) (n := 10) (by first | assumption | rfl) (by decide) (by decide) rfl fl_RX0_32 rfl dX0_hasLeft_18 ?_
      rw [h1 7 (by decide) (by decide)]
      refine pm_cVi (as := [.int _]) (by first | assumption | rfl) (by decide) rfl ml_RX0_59 (by decide) (Nat.le_of_ble_eq_true rfl) dX0_hasLeft_21 (c_X0_spans ⟨e1, e2, e3, e4, e5⟩ ⟨h1, h2, h3⟩ _) (fun x1 w1 hq => ?_)
      obtain ⟨rfl, rfl⟩ := hq
      refine pm_if_eq (tgt := 35) dX0_hasLeft_24 (by decide) (fun c24 => ?_) (fun c24 => ?_)
      · refine pm_iconst (x := 1) dX0_hasLeft_35 rfl ?_
        refine pm_goto (tgt := 40) dX0_hasLeft_36 (by decide) ?_
        refine pm_zret dX0_hasLeft_40 rfl (by first | exact Or.inl rfl | exact Or.inr rfl | assumption) ?_
        rw [pm_z_0] at c24
        exact ⟨by simp [ab_lf, c5, c13, c24, pm_z], rfl⟩
      · rw [pm_z_1] at c24
        refine pm_aload_n dX0_hasLeft_27 rfl ?_
        refine pm_getI (ci := 0) (j := 7) (n := 10) (by first | assumption | rfl) (by decide) (by decide) rfl fl_RX0_32 rfl dX0_hasLeft_28 ?_
        rw [h1 7 (by decide) (by decide)]
        refine pm_iload_n dX0_hasLeft_31 rfl ?_
        refine pm_icmp_le (tgt := 39) dX0_hasLeft_32 (by decide) (fun c32 => ?_) (fun c32 => ?_)
        · refine pm_iconst (x := 0) dX0_hasLeft_39 rfl ?_
          refine pm_zret dX0_hasLeft_40 rfl (by first | exact Or.inl rfl | exact Or.inr rfl | assumption) ?_
          exact ⟨by simp [ab_lf, c5, c13, c24, Int32.not_lt.mpr c32, pm_z], rfl⟩
        · refine pm_iconst (x := 1) dX0_hasLeft_35 rfl ?_
          refine pm_goto (tgt := 40) dX0_hasLeft_36 (by decide) ?_
          refine pm_zret dX0_hasLeft_40 rfl (by first | exact Or.inl rfl | exact Or.inr rfl | assumption) ?_
          exact ⟨by simp [ab_lf, c5, c13, c24, Int32.not_le.mp c32, pm_z], rfl⟩

set_option maxRecDepth 4000 in
theorem c_X0_countWasted {L : pm_L} {a : Nat} (ha : as_ok L a) {w : pm_W} {A : ab_A} (hR : as_R w a A) : pm_C L MX0_countWasted [.ref a] w (pm_qv fun w1 => as_R w1 a (ab_waste A) ∧ w1.1 a 9 = w.1 a 9 ∧ fr_out w w1 a (a + 3)) := by
  obtain ⟨e1, e2, e3, e4, e5⟩ := ha
  obtain ⟨h1, h2, h3⟩ := hR
  refine pm_start (lv := [some (.ref _)]) (plainFor_of_name pf0) (Nat.le_of_ble_eq_true rfl) rfl ?_
  refine pm_aload_n dX0_countWasted_0 rfl ?_
  refine pm_getR (ci := 0) (j := 0) (n := 10) (by first | assumption | rfl) (by decide) (by decide) rfl fl_RX0_9 rfl (by first | assumption | rfl) dX0_countWasted_1 ?_
  refine pm_iconst (x := nI 4) dX0_countWasted_4 rfl ?_
  refine pm_dup2 dX0_countWasted_5 rfl rfl ?_
  refine pm_ialdN (by first | assumption | rfl) (by decide) (by first | decide | omega) dX0_countWasted_6 ?_
  refine pm_iconst (x := 1) dX0_countWasted_7 rfl ?_
  refine pm_iadd dX0_countWasted_8 ?_
  refine pm_iastN (by first | assumption | rfl) (by decide) (by first | decide | omega) dX0_countWasted_9 ?_
  refine pm_aload_n dX0_countWasted_10 rfl ?_
  refine pm_getI (ci := 0) (j := 2) (n := 10) (by first | assumption | rfl) (by decide) (by decide) rfl fl_RX0_47 rfl dX0_countWasted_11 ?_
  rw [show (pm_s w (a + 1) (upd (w.1 (a + 1)) 4 (w.1 (a + 1) 4 + 1))).1 a 2 = A.1 2 by rw [pm_s_ne (by omega)]; exact h1 2 (by decide) (by decide)]
  refine pm_iconst (x := 5) dX0_countWasted_14 rfl ?_
  refine pm_icmp_ne (tgt := 28) dX0_countWasted_15 (by decide) (fun c15 => ?_) (fun c15 => ?_)
  · refine pm_vret dX0_countWasted_28 rfl ?_
    refine ⟨⟨fun j q1 q2 => ?_, fun j q => ?_, fun j q => ?_⟩, ?_, fr_s (by omega) (by omega)⟩
    · rcases (show j = 2 ∨ j = 3 ∨ j = 4 ∨ j = 5 ∨ j = 6 ∨ j = 7 ∨ j = 8 by omega) with rfl | rfl | rfl | rfl | rfl | rfl | rfl <;> simp [pm_s, upd, ab_waste, h1, c15]
    · by_cases hj : j = 4
      · subst hj; simp [pm_s, upd, ab_waste, h2]
      · simp [pm_s, upd, ab_waste, hj, h2 j q]
    · simp [pm_s, ab_waste, h3 j q]
    · simp [pm_s, upd]
  · refine pm_aload_n dX0_countWasted_18 rfl ?_
    refine pm_aload_n dX0_countWasted_19 rfl ?_
    refine pm_getI (ci := 0) (j := 3) (n := 10) (by first | assumption | rfl) (by decide) (by decide) rfl fl_RX0_50 rfl dX0_countWasted_20 ?_
    refine pm_iconst (x := 2) dX0_countWasted_23 rfl ?_
    refine pm_idiv dX0_countWasted_24 (by decide) ?_
    refine pm_putI (ci := 0) (j := 3) (n := 10) (by first | assumption | rfl) (by decide) (by decide) rfl fl_RX0_50 rfl rfl dX0_countWasted_25 ?_
    refine pm_vret dX0_countWasted_28 rfl ?_
    refine ⟨⟨fun j q1 q2 => ?_, fun j q => ?_, fun j q => ?_⟩, ?_, fr_st (fr_s (by omega) (by omega)) (by omega) (by omega)⟩
    · rcases (show j = 2 ∨ j = 3 ∨ j = 4 ∨ j = 5 ∨ j = 6 ∨ j = 7 ∨ j = 8 by omega) with rfl | rfl | rfl | rfl | rfl | rfl | rfl <;> simp [pm_s, upd, ab_waste, h1, c15]
    · by_cases hj : j = 4
      · subst hj; simp [pm_s, upd, ab_waste, h2]
      · simp [pm_s, upd, ab_waste, hj, h2 j q]
    · simp [pm_s, ab_waste, h3 j q]
    · simp [pm_s, upd]

set_option maxRecDepth 4000 in
theorem c_X0_countSaved {L : pm_L} {a : Nat} (ha : as_ok L a) {w : pm_W} {A : ab_A} (hR : as_R w a A) : pm_C L MX0_countSaved [.ref a] w (pm_qv fun w1 => as_R w1 a (ab_save A) ∧ w1.1 a 9 = w.1 a 9 ∧ fr_out w w1 a (a + 3)) := by
  obtain ⟨e1, e2, e3, e4, e5⟩ := ha
  obtain ⟨h1, h2, h3⟩ := hR
  refine pm_start (lv := [some (.ref _)]) (plainFor_of_name pf0) (Nat.le_of_ble_eq_true rfl) rfl ?_
  refine pm_aload_n dX0_countSaved_0 rfl ?_
  refine pm_getR (ci := 0) (j := 0) (n := 10) (by first | assumption | rfl) (by decide) (by decide) rfl fl_RX0_9 rfl (by first | assumption | rfl) dX0_countSaved_1 ?_
  refine pm_iconst (x := nI 5) dX0_countSaved_4 rfl ?_
  refine pm_dup2 dX0_countSaved_5 rfl rfl ?_
  refine pm_ialdN (by first | assumption | rfl) (by decide) (by first | decide | omega) dX0_countSaved_6 ?_
  refine pm_iconst (x := 1) dX0_countSaved_7 rfl ?_
  refine pm_iadd dX0_countSaved_8 ?_
  refine pm_iastN (by first | assumption | rfl) (by decide) (by first | decide | omega) dX0_countSaved_9 ?_
  refine pm_aload_n dX0_countSaved_10 rfl ?_
  refine pm_getI (ci := 0) (j := 2) (n := 10) (by first | assumption | rfl) (by decide) (by decide) rfl fl_RX0_47 rfl dX0_countSaved_11 ?_
  rw [show (pm_s w (a + 1) (upd (w.1 (a + 1)) 5 (w.1 (a + 1) 5 + 1))).1 a 2 = A.1 2 by rw [pm_s_ne (by omega)]; exact h1 2 (by decide) (by decide)]
  refine pm_iconst (x := 5) dX0_countSaved_14 rfl ?_
  refine pm_icmp_ne (tgt := 33) dX0_countSaved_15 (by decide) (fun c15 => ?_) (fun c15 => ?_)
  · refine pm_vret dX0_countSaved_33 rfl ?_
    refine ⟨⟨fun j q1 q2 => ?_, fun j q => ?_, fun j q => ?_⟩, ?_, fr_s (by omega) (by omega)⟩
    · rcases (show j = 2 ∨ j = 3 ∨ j = 4 ∨ j = 5 ∨ j = 6 ∨ j = 7 ∨ j = 8 by omega) with rfl | rfl | rfl | rfl | rfl | rfl | rfl <;> simp [pm_s, upd, ab_save, h1, c15]
    · by_cases hj : j = 5
      · subst hj; simp [pm_s, upd, ab_save, h2]
      · simp [pm_s, upd, ab_save, hj, h2 j q]
    · simp [pm_s, ab_save, h3 j q]
    · simp [pm_s, upd]
  · refine pm_aload_n dX0_countSaved_18 rfl ?_
    refine pm_aload_n dX0_countSaved_19 rfl ?_
    refine pm_getI (ci := 0) (j := 3) (n := 10) (by first | assumption | rfl) (by decide) (by decide) rfl fl_RX0_50 rfl dX0_countSaved_20 ?_
    refine pm_iconst (x := 1) dX0_countSaved_23 rfl ?_
    refine pm_iadd dX0_countSaved_24 ?_
    refine pm_bipush (x := 8) dX0_countSaved_25 rfl ?_
    refine pm_cSi (as := [.int _, .int _]) ml_RX0_63 (by decide) (Nat.le_of_ble_eq_true rfl) dX0_countSaved_27 (c_J9_min_7cf53 L _ _ _) (fun x1 w1 hq => ?_)
    obtain ⟨rfl, rfl⟩ := hq
    refine pm_putI (ci := 0) (j := 3) (n := 10) (by first | assumption | rfl) (by decide) (by decide) rfl fl_RX0_50 rfl rfl dX0_countSaved_30 ?_
    refine pm_vret dX0_countSaved_33 rfl ?_
    refine ⟨⟨fun j q1 q2 => ?_, fun j q => ?_, fun j q => ?_⟩, ?_, fr_st (fr_s (by omega) (by omega)) (by omega) (by omega)⟩
    · rcases (show j = 2 ∨ j = 3 ∨ j = 4 ∨ j = 5 ∨ j = 6 ∨ j = 7 ∨ j = 8 by omega) with rfl | rfl | rfl | rfl | rfl | rfl | rfl <;> simp [pm_s, upd, ab_save, h1, c15]
    · by_cases hj : j = 5
      · subst hj; simp [pm_s, upd, ab_save, h2]
      · simp [pm_s, upd, ab_save, hj, h2 j q]
    · simp [pm_s, ab_save, h3 j q]
    · simp [pm_s, upd]

set_option maxRecDepth 4000 in
theorem c_X0_learn {L : pm_L} {a : Nat} (ha : as_ok L a) {w : pm_W} {A : ab_A} (hR : as_R w a A) (hl : A.1 7 = -1 ∨ (0 ≤ A.1 7 ∧ A.1 7 ≤ 63)) (b : Int32) : pm_C L MX0_learn [.ref a, .int b] w (pm_qv fun w1 => as_R w1 a (ab_learn A b) ∧ (A.1 7 = -1 → w1.1 a 9 = w.1 a 9) ∧ (¬ A.1 7 = -1 → w1.1 a 9 = A.1 8) ∧ fr_out w w1 a (a + 3)) := by
  obtain ⟨e1, e2, e3, e4, e5⟩ := ha
  obtain ⟨h1, h2, h3⟩ := hR
  refine pm_start (lv := [some (.ref _), some (.int _)]) (plainFor_of_name pf0) (Nat.le_of_ble_eq_true rfl) rfl ?_
  refine pm_aload_n dX0_learn_0 rfl ?_
  refine pm_getI (ci := 0) (j := 7) (n := 10) (by first | assumption | rfl) (by decide) (by decide) rfl fl_RX0_32 rfl dX0_learn_1 ?_
  rw [h1 7 (by decide) (by decide)]
  refine pm_iconst (x := -1) dX0_learn_4 rfl ?_
  refine pm_icmp_eq (tgt := 36) dX0_learn_5 (by decide) (fun c5 => ?_) (fun c5 => ?_)
  · refine pm_aload_n dX0_learn_36 rfl ?_
    refine pm_iload_n dX0_learn_37 rfl ?_
    refine pm_putI (ci := 0) (j := 7) (n := 10) (by first | assumption | rfl) (by decide) (by decide) rfl fl_RX0_32 rfl rfl dX0_learn_38 ?_
    refine pm_vret dX0_learn_41 rfl ?_
    refine ⟨⟨fun j q1 q2 => ?_, fun j q => ?_, fun j q => ?_⟩, fun _ => ?_, fun h => absurd c5 h, fr_s (by omega) (by omega)⟩
    · rcases (show j = 2 ∨ j = 3 ∨ j = 4 ∨ j = 5 ∨ j = 6 ∨ j = 7 ∨ j = 8 by omega) with rfl | rfl | rfl | rfl | rfl | rfl | rfl <;> simp [pm_s, upd, ab_learn, h1, c5]
    · simp [pm_s, ab_learn, h2 j q, c5]
    · simp [pm_s, ab_learn, h3 j q, c5]
    · simp [pm_s, upd]
  · have hlr := hl.resolve_left c5
    refine pm_aload_n dX0_learn_8 rfl ?_
    refine pm_getR (ci := 0) (j := 1) (n := 10) (by first | assumption | rfl) (by decide) (by decide) rfl fl_RX0_15 rfl (by first | assumption | rfl) dX0_learn_9 ?_
    refine pm_aload_n dX0_learn_12 rfl ?_
    refine pm_getI (ci := 0) (j := 7) (n := 10) (by first | assumption | rfl) (by decide) (by decide) rfl fl_RX0_32 rfl dX0_learn_13 ?_
    rw [h1 7 (by decide) (by decide)]
    refine pm_iload_n dX0_learn_16 rfl ?_
    refine pm_iast (by first | assumption | rfl) (by exact ix_in hlr (by decide)) dX0_learn_17 ?_
    refine pm_aload_n dX0_learn_18 rfl ?_
    refine pm_aload_n dX0_learn_19 rfl ?_
    refine pm_getI (ci := 0) (j := 8) (n := 10) (by first | assumption | rfl) (by decide) (by decide) rfl fl_RX0_35 rfl dX0_learn_20 ?_
    refine pm_topi (A.1 8) (by rw [pm_s_ne (by omega)]; exact h1 8 (by decide) (by decide)) ?_
    refine pm_putI (ci := 0) (j := 9) (n := 10) (by first | assumption | rfl) (by decide) (by decide) rfl fl_RX0_38 rfl rfl dX0_learn_23 ?_
    refine pm_aload_n dX0_learn_26 rfl ?_
    refine pm_iload_n dX0_learn_27 rfl ?_
    refine pm_aload_n dX0_learn_28 rfl ?_
    refine pm_getI (ci := 0) (j := 7) (n := 10) (by first | assumption | rfl) (by decide) (by decide) rfl fl_RX0_32 rfl dX0_learn_29 ?_
    refine pm_topi (A.1 7) (by simp [pm_s, upd, h1]) ?_
    refine pm_isub dX0_learn_32 ?_
    refine pm_putI (ci := 0) (j := 8) (n := 10) (by first | assumption | rfl) (by decide) (by decide) rfl fl_RX0_35 rfl rfl dX0_learn_33 ?_
    refine pm_aload_n dX0_learn_36 rfl ?_
    refine pm_iload_n dX0_learn_37 rfl ?_
    refine pm_putI (ci := 0) (j := 7) (n := 10) (by first | assumption | rfl) (by decide) (by decide) rfl fl_RX0_32 rfl rfl dX0_learn_38 ?_
    refine pm_vret dX0_learn_41 rfl ?_
    refine ⟨⟨fun j q1 q2 => ?_, fun j q => ?_, fun j q => ?_⟩, fun h => absurd h c5, fun _ => ?_, fr_st (fr_st (fr_st (fr_s (by omega) (by omega)) (by omega) (by omega)) (by omega) (by omega)) (by omega) (by omega)⟩
    · rcases (show j = 2 ∨ j = 3 ∨ j = 4 ∨ j = 5 ∨ j = 6 ∨ j = 7 ∨ j = 8 by omega) with rfl | rfl | rfl | rfl | rfl | rfl | rfl <;> simp [pm_s, upd, ab_learn, h1, c5]
    · simp [pm_s, ab_learn, h2 j q, c5]
    · by_cases hj : j = (A.1 7).toNatClampNeg
      · simp [pm_s, upd, ab_learn, c5, hj]
      · simp [pm_s, upd, ab_learn, c5, hj, h3 j q]
    · simp [pm_s, upd]

set_option maxRecDepth 4000 in
theorem c_X0_isSteady {L : pm_L} {a : Nat} (ha : as_ok L a) {w : pm_W} {A : ab_A} (hR : as_R w a A) : pm_C L MX0_isSteady [.ref a] w (pm_qi fun r w1 => r = pm_z (!decide (A.1 8 = 0) && decide (A.1 8 = w.1 a 9)) ∧ w1 = w) := by
  obtain ⟨e1, e2, e3, e4, e5⟩ := ha
  obtain ⟨h1, h2, h3⟩ := hR
  refine pm_start (lv := [some (.ref _)]) (plainFor_of_name pf0) (Nat.le_of_ble_eq_true rfl) rfl ?_
  refine pm_aload_n dX0_isSteady_0 rfl ?_
  refine pm_getI (ci := 0) (j := 8) (n := 10) (by first | assumption | rfl) (by decide) (by decide) rfl fl_RX0_35 rfl dX0_isSteady_1 ?_
  rw [h1 8 (by decide) (by decide)]
  refine pm_if_eq (tgt := 22) dX0_isSteady_4 (by decide) (fun c4 => ?_) (fun c4 => ?_)
  · refine pm_iconst (x := 0) dX0_isSteady_22 rfl ?_
    refine pm_zret dX0_isSteady_23 rfl (by first | exact Or.inl rfl | exact Or.inr rfl | assumption) ?_
    exact ⟨by simp [c4, pm_z], rfl⟩
  · refine pm_aload_n dX0_isSteady_7 rfl ?_
    refine pm_getI (ci := 0) (j := 8) (n := 10) (by first | assumption | rfl) (by decide) (by decide) rfl fl_RX0_35 rfl dX0_isSteady_8 ?_
    rw [h1 8 (by decide) (by decide)]
    refine pm_aload_n dX0_isSteady_11 rfl ?_
    refine pm_getI (ci := 0) (j := 9) (n := 10) (by first | assumption | rfl) (by decide) (by decide) rfl fl_RX0_38 rfl dX0_isSteady_12 ?_
    refine pm_icmp_ne (tgt := 22) dX0_isSteady_15 (by decide) (fun c15 => ?_) (fun c15 => ?_)
    · refine pm_iconst (x := 0) dX0_isSteady_22 rfl ?_
      refine pm_zret dX0_isSteady_23 rfl (by first | exact Or.inl rfl | exact Or.inr rfl | assumption) ?_
      exact ⟨by simp [c4, c15, pm_z], rfl⟩
    · refine pm_iconst (x := 1) dX0_isSteady_18 rfl ?_
      refine pm_goto (tgt := 23) dX0_isSteady_19 (by decide) ?_
      refine pm_zret dX0_isSteady_23 rfl (by first | exact Or.inl rfl | exact Or.inr rfl | assumption) ?_
      rw [c15] at c4
      exact ⟨by simp [c4, c15, pm_z], rfl⟩

set_option maxRecDepth 4000 in
theorem c_X0_begin {L : pm_L} {a : Nat} (ha : as_ok L a) (w : pm_W) : pm_C L MX0_begin [.ref a] w (pm_qv fun w1 => as_R w1 a ab_new ∧ fr_out w w1 a (a + 3)) := by
  obtain ⟨e1, e2, e3, e4, e5⟩ := ha
  refine pm_start (lv := [some (.ref _)]) (plainFor_of_name pf0) (Nat.le_of_ble_eq_true rfl) rfl ?_
  refine pm_aload_n dX0_begin_0 rfl ?_
  refine pm_getR (ci := 0) (j := 0) (n := 10) (by first | assumption | rfl) (by decide) (by decide) rfl fl_RX0_9 rfl (by first | assumption | rfl) dX0_begin_1 ?_
  refine pm_iconst (x := 0) dX0_begin_4 rfl ?_
  refine pm_cSv (as := [.ref _, .int _]) ml_RX0_18 (by decide) (Nat.le_of_ble_eq_true rfl) dX0_begin_5 (c_J7_fill_53178 (n := 7) (by assumption) (by decide) _ _) (fun w1 hq => ?_)
  subst hq
  refine pm_aload_n dX0_begin_8 rfl ?_
  refine pm_getR (ci := 0) (j := 1) (n := 10) (by first | assumption | rfl) (by decide) (by decide) rfl fl_RX0_15 rfl (by first | assumption | rfl) dX0_begin_9 ?_
  refine pm_iconst (x := -1) dX0_begin_12 rfl ?_
  refine pm_cSv (as := [.ref _, .int _]) ml_RX0_18 (by decide) (Nat.le_of_ble_eq_true rfl) dX0_begin_13 (c_J7_fill_53178 (n := 64) (by assumption) (by decide) _ _) (fun w1 hq => ?_)
  subst hq
  refine pm_aload_n dX0_begin_16 rfl ?_
  refine pm_iconst (x := 0) dX0_begin_17 rfl ?_
  refine pm_iconst (x := 0) dX0_begin_18 rfl ?_
  refine pm_cVv (as := [.int _, .int _]) (by first | assumption | rfl) (by decide) rfl ml_RX0_24 (by decide) (Nat.le_of_ble_eq_true rfl) dX0_begin_19 (c_X0_become (A := (_, _, _)) ⟨e1, e2, e3, e4, e5⟩ ⟨fun j _ _ => rfl, fun j _ => rfl, fun j _ => rfl⟩ _ _) (fun w1 hq => ?_)
  obtain ⟨⟨b1, b2, b3⟩, b4, b5⟩ := hq
  refine pm_aload_n dX0_begin_22 rfl ?_
  refine pm_iconst (x := 0) dX0_begin_23 rfl ?_
  refine pm_putI (ci := 0) (j := 4) (n := 10) (by first | assumption | rfl) (by decide) (by decide) rfl fl_RX0_28 rfl rfl dX0_begin_24 ?_
  refine pm_aload_n dX0_begin_27 rfl ?_
  refine pm_iconst (x := -1) dX0_begin_28 rfl ?_
  refine pm_putI (ci := 0) (j := 7) (n := 10) (by first | assumption | rfl) (by decide) (by decide) rfl fl_RX0_32 rfl rfl dX0_begin_29 ?_
  refine pm_aload_n dX0_begin_32 rfl ?_
  refine pm_iconst (x := 0) dX0_begin_33 rfl ?_
  refine pm_putI (ci := 0) (j := 8) (n := 10) (by first | assumption | rfl) (by decide) (by decide) rfl fl_RX0_35 rfl rfl dX0_begin_34 ?_
  refine pm_aload_n dX0_begin_37 rfl ?_
  refine pm_iconst (x := 0) dX0_begin_38 rfl ?_
  refine pm_putI (ci := 0) (j := 9) (n := 10) (by first | assumption | rfl) (by decide) (by decide) rfl fl_RX0_38 rfl rfl dX0_begin_39 ?_
  refine pm_vret dX0_begin_42 rfl ?_
  refine ⟨⟨fun j q1 q2 => ?_, fun j q => ?_, fun j q => ?_⟩, fr_st (fr_st (fr_st (fr_st (fr_tr (fr_st (fr_s (by omega) (by omega)) (by omega) (by omega)) b5) (by omega) (by omega)) (by omega) (by omega)) (by omega) (by omega)) (by omega) (by omega)⟩
  · rcases (show j = 2 ∨ j = 3 ∨ j = 4 ∨ j = 5 ∨ j = 6 ∨ j = 7 ∨ j = 8 by omega) with rfl | rfl | rfl | rfl | rfl | rfl | rfl <;> simp [pm_s, upd, ab_new, b1, ab_become]
  · simp only [pm_s]
    simp [b2 j q, ab_become, pm_s, fl, q, ab_new]
  · simp only [pm_s]
    simp [b3 j q, ab_become, pm_s, fl, q, ab_new]

set_option maxRecDepth 4000 in
theorem c_X0_copyFrom {L : pm_L} {a a2 : Nat} (ha : as_ok L a) (ha2 : as_ok L a2) (hd : a + 3 ≤ a2 ∨ a2 + 3 ≤ a) {w : pm_W} {A : ab_A} (hR : as_R w a2 A) : pm_C L MX0_copyFrom [.ref a, .ref a2] w (pm_qv fun w1 => as_R w1 a A ∧ w1.1 a 9 = w.1 a2 9 ∧ fr_out w w1 a (a + 3)) := by
  obtain ⟨e1, e2, e3, e4, e5⟩ := ha
  obtain ⟨b1, b2, b3, b4, b5⟩ := ha2
  obtain ⟨h1, h2, h3⟩ := hR
  refine pm_start (lv := [some (.ref _), some (.ref _)]) (plainFor_of_name pf0) (Nat.le_of_ble_eq_true rfl) rfl ?_
  refine pm_aload_n dX0_copyFrom_0 rfl ?_
  refine pm_getR (ci := 0) (j := 0) (n := 10) (by first | assumption | rfl) (by decide) (by decide) rfl fl_RX0_9 rfl (by first | assumption | rfl) dX0_copyFrom_1 ?_
  refine pm_iconst (x := 0) dX0_copyFrom_4 rfl ?_
  refine pm_aload_n dX0_copyFrom_5 rfl ?_
  refine pm_getR (ci := 0) (j := 0) (n := 10) (by first | assumption | rfl) (by decide) (by decide) rfl fl_RX0_9 rfl (by first | assumption | rfl) dX0_copyFrom_6 ?_
  refine pm_iconst (x := 0) dX0_copyFrom_9 rfl ?_
  refine pm_bipush (x := 7) dX0_copyFrom_10 rfl ?_
  refine pm_copy ml_RX0_41 ml_copy (by first | assumption | rfl) (by first | assumption | rfl) (by decide) (by decide) (by decide) (by decide) (by decide) (by decide) (by decide) dX0_copyFrom_12 ?_
  refine pm_aload_n dX0_copyFrom_15 rfl ?_
  refine pm_getR (ci := 0) (j := 1) (n := 10) (by first | assumption | rfl) (by decide) (by decide) rfl fl_RX0_15 rfl (by first | assumption | rfl) dX0_copyFrom_16 ?_
  refine pm_iconst (x := 0) dX0_copyFrom_19 rfl ?_
  refine pm_aload_n dX0_copyFrom_20 rfl ?_
  refine pm_getR (ci := 0) (j := 1) (n := 10) (by first | assumption | rfl) (by decide) (by decide) rfl fl_RX0_15 rfl (by first | assumption | rfl) dX0_copyFrom_21 ?_
  refine pm_iconst (x := 0) dX0_copyFrom_24 rfl ?_
  refine pm_bipush (x := 64) dX0_copyFrom_25 rfl ?_
  refine pm_copy ml_RX0_41 ml_copy (by first | assumption | rfl) (by first | assumption | rfl) (by decide) (by decide) (by decide) (by decide) (by decide) (by decide) (by decide) dX0_copyFrom_27 ?_
  refine pm_aload_n dX0_copyFrom_30 rfl ?_
  refine pm_aload_n dX0_copyFrom_31 rfl ?_
  refine pm_getI (ci := 0) (j := 2) (n := 10) (by first | assumption | rfl) (by decide) (by decide) rfl fl_RX0_47 rfl dX0_copyFrom_32 ?_
  refine pm_putI (ci := 0) (j := 2) (n := 10) (by first | assumption | rfl) (by decide) (by decide) rfl fl_RX0_47 rfl rfl dX0_copyFrom_35 ?_
  refine pm_aload_n dX0_copyFrom_38 rfl ?_
  refine pm_aload_n dX0_copyFrom_39 rfl ?_
  refine pm_getI (ci := 0) (j := 3) (n := 10) (by first | assumption | rfl) (by decide) (by decide) rfl fl_RX0_50 rfl dX0_copyFrom_40 ?_
  refine pm_putI (ci := 0) (j := 3) (n := 10) (by first | assumption | rfl) (by decide) (by decide) rfl fl_RX0_50 rfl rfl dX0_copyFrom_43 ?_
  refine pm_aload_n dX0_copyFrom_46 rfl ?_
  refine pm_aload_n dX0_copyFrom_47 rfl ?_
  refine pm_getI (ci := 0) (j := 4) (n := 10) (by first | assumption | rfl) (by decide) (by decide) rfl fl_RX0_28 rfl dX0_copyFrom_48 ?_
  refine pm_putI (ci := 0) (j := 4) (n := 10) (by first | assumption | rfl) (by decide) (by decide) rfl fl_RX0_28 rfl rfl dX0_copyFrom_51 ?_
  refine pm_aload_n dX0_copyFrom_54 rfl ?_
  refine pm_aload_n dX0_copyFrom_55 rfl ?_
  refine pm_getI (ci := 0) (j := 5) (n := 10) (by first | assumption | rfl) (by decide) (by decide) rfl fl_RX0_53 rfl dX0_copyFrom_56 ?_
  refine pm_putI (ci := 0) (j := 5) (n := 10) (by first | assumption | rfl) (by decide) (by decide) rfl fl_RX0_53 rfl rfl dX0_copyFrom_59 ?_
  refine pm_aload_n dX0_copyFrom_62 rfl ?_
  refine pm_aload_n dX0_copyFrom_63 rfl ?_
  refine pm_getI (ci := 0) (j := 6) (n := 10) (by first | assumption | rfl) (by decide) (by decide) rfl fl_RX0_56 rfl dX0_copyFrom_64 ?_
  refine pm_putI (ci := 0) (j := 6) (n := 10) (by first | assumption | rfl) (by decide) (by decide) rfl fl_RX0_56 rfl rfl dX0_copyFrom_67 ?_
  refine pm_aload_n dX0_copyFrom_70 rfl ?_
  refine pm_aload_n dX0_copyFrom_71 rfl ?_
  refine pm_getI (ci := 0) (j := 7) (n := 10) (by first | assumption | rfl) (by decide) (by decide) rfl fl_RX0_32 rfl dX0_copyFrom_72 ?_
  refine pm_putI (ci := 0) (j := 7) (n := 10) (by first | assumption | rfl) (by decide) (by decide) rfl fl_RX0_32 rfl rfl dX0_copyFrom_75 ?_
  refine pm_aload_n dX0_copyFrom_78 rfl ?_
  refine pm_aload_n dX0_copyFrom_79 rfl ?_
  refine pm_getI (ci := 0) (j := 8) (n := 10) (by first | assumption | rfl) (by decide) (by decide) rfl fl_RX0_35 rfl dX0_copyFrom_80 ?_
  refine pm_putI (ci := 0) (j := 8) (n := 10) (by first | assumption | rfl) (by decide) (by decide) rfl fl_RX0_35 rfl rfl dX0_copyFrom_83 ?_
  refine pm_aload_n dX0_copyFrom_86 rfl ?_
  refine pm_aload_n dX0_copyFrom_87 rfl ?_
  refine pm_getI (ci := 0) (j := 9) (n := 10) (by first | assumption | rfl) (by decide) (by decide) rfl fl_RX0_38 rfl dX0_copyFrom_88 ?_
  refine pm_putI (ci := 0) (j := 9) (n := 10) (by first | assumption | rfl) (by decide) (by decide) rfl fl_RX0_38 rfl rfl dX0_copyFrom_91 ?_
  refine pm_vret dX0_copyFrom_94 rfl ?_
  have n1 : a2 ≠ a := by omega
  have n2 : a2 ≠ a + 1 := by omega
  have n3 : a2 ≠ a + 2 := by omega
  have n4 : a2 + 1 ≠ a := by omega
  have n5 : a2 + 2 ≠ a := by omega
  have n6 : a2 + 2 ≠ a + 1 := by omega
  have z0 : (0 : Int32).toNatClampNeg = 0 := by decide
  have z7 : (7 : Int32).toNatClampNeg = 7 := by decide
  have z64 : (64 : Int32).toNatClampNeg = 64 := by decide
  refine ⟨⟨fun j q1 q2 => ?_, fun j q => ?_, fun j q => ?_⟩, ?_, ?_⟩
  · rcases (show j = 2 ∨ j = 3 ∨ j = 4 ∨ j = 5 ∨ j = 6 ∨ j = 7 ∨ j = 8 by omega) with rfl | rfl | rfl | rfl | rfl | rfl | rfl <;> simp [pm_s, upd, h1, n1, n2, n3]
  · simp only [pm_s, z0, z7, z64]
    simp [cpy_at q, h2 j q, n1, n2, n4, n5]
  · simp only [pm_s, z0, z7, z64]
    simp [cpy_at q, h3 j q, n1, n2, n3, n4, n5, n6]
  · simp [pm_s, upd, n1, n2, n3]
  · repeat (first | exact fr_rf _ _ _ | refine fr_st ?_ (by omega) (by omega))

