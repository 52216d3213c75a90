theorem moA_at {w w1 : pm_W} {t : Nat} {A : ab_A} (h : mo_A w t A) (e : ∀ a, 89 ≤ a → a ≤ 96 → w1.1 a t = w.1 a t) (e7 : w1.1 97 = w.1 97) (e8 : w1.1 98 = w.1 98) : mo_A w1 t A := by
  unfold mo_A
  rw [e 89 (by decide) (by decide), e 90 (by decide) (by decide), e 91 (by decide) (by decide), e 92 (by decide) (by decide), e 93 (by decide) (by decide), e 94 (by decide) (by decide), e 95 (by decide) (by decide), e 96 (by decide) (by decide), e7, e8]
  exact h

set_option maxRecDepth 4000 in
theorem c_X5_kind {w : pm_W} {S : ab_S} (hR : mo_R w S) (p k r : Int32) : pm_C pm_L0 MX5_kind [.ref 83, .int p, .int k, .int r] w (pm_qi fun x w1 => x = (pu_kind S p k r).1 ∧ mo_R w1 (pu_kind S p k r).2 ∧ mfr w w1 [89, 90, 91, 92, 93, 94, 95, 96, 97, 98] []) := by
  obtain ⟨g1, g2, g3, g4, g5⟩ := id hR
  refine pm_start (lv := [some (.ref _), some (.int _), some (.int _), some (.int _), none]) (plainFor_of_name pf5) (Nat.le_of_ble_eq_true rfl) rfl ?_
  refine pm_iload_n dX5_kind_0 rfl ?_
  refine pm_cSi (as := [.int _]) ml_RX5_137 (by decide) (Nat.le_of_ble_eq_true rfl) dX5_kind_1 (c_X5_isAsker pm_L0 _ _) (fun x1 w1 hq => ?_)
  obtain ⟨rfl, hw9⟩ := hq
  have hw9 := hw9.symm
  subst hw9
  refine pm_if_ne (tgt := 10) dX5_kind_4 (by decide) (fun c4 => ?_) (fun c4 => ?_)
  · rw [pm_z_1] at c4
    obtain ⟨q, hq4, rfl⟩ := as_of c4
    refine pm_iload_n dX5_kind_10 rfl ?_
    refine pm_i2l dX5_kind_11 ?_
    refine pm_lconst (x := 0) dX5_kind_12 rfl ?_
    refine pm_ldc2 kc_RX5_141 dX5_kind_13 ?_
    refine pm_cSi (as := [.long _, .long _, .long _]) ml_RX5_96 (by decide) (Nat.le_of_ble_eq_true rfl) dX5_kind_16 (c_X5_in (n := k) (a := 0) (b := 5) pm_L0 _ rfl (by decide) (by decide)) (fun x1 w1 hq => ?_)
    obtain ⟨rfl, hw9⟩ := hq
    have hw9 := hw9.symm
    subst hw9
    refine pm_if_eq (tgt := 34) dX5_kind_19 (by decide) (fun c19 => ?_) (fun c19 => ?_)
    · refine pm_bipush (x := -102) dX5_kind_34 rfl ?_
      refine pm_iret dX5_kind_36 rfl ?_
      rw [pm_z_0] at c19
      rw [pu_kind, if_pos c4, if_neg (by rintro ⟨z1, -⟩; rw [c19] at z1; cases z1)]
      exact ⟨rfl, hR, mfr_rf _ _ _⟩
    · refine pm_iload_n dX5_kind_22 rfl ?_
      refine pm_i2l dX5_kind_23 ?_
      refine pm_lconst (x := 0) dX5_kind_24 rfl ?_
      refine pm_ldc2 kc_RX5_143 dX5_kind_25 ?_
      refine pm_cSi (as := [.long _, .long _, .long _]) ml_RX5_96 (by decide) (Nat.le_of_ble_eq_true rfl) dX5_kind_28 (c_X5_in (n := r) (a := 0) (b := 8) pm_L0 _ rfl (by decide) (by decide)) (fun x1 w1 hq => ?_)
      obtain ⟨rfl, hw9⟩ := hq
      have hw9 := hw9.symm
      subst hw9
      refine pm_if_ne (tgt := 37) dX5_kind_31 (by decide) (fun c31 => ?_) (fun c31 => ?_)
      · refine pm_aload_n dX5_kind_37 rfl ?_
        refine pm_getR (ci := 5) (j := 13) (n := 39) (by first | assumption | rfl) (by decide) (by decide) rfl fl_RX5_26 rfl (by first | assumption | rfl) dX5_kind_38 ?_
        refine pm_iload_n dX5_kind_41 rfl ?_
        refine pm_ialdN (by first | assumption | rfl) (by first | assumption | omega) (by first | decide | omega) dX5_kind_42 ?_
        rw [(g3 q hq4).1]
        refine pm_istore (lv' := [some (.ref _), some (.int _), some (.int _), some (.int _), some (.int _)]) dX5_kind_43 (by decide) rfl ?_
        refine pm_aload_n dX5_kind_45 rfl ?_
        refine pm_getR (ci := 5) (j := 13) (n := 39) (by first | assumption | rfl) (by decide) (by decide) rfl fl_RX5_26 rfl (by first | assumption | rfl) dX5_kind_46 ?_
        refine pm_iload_n dX5_kind_49 rfl ?_
        refine pm_iload_n dX5_kind_50 rfl ?_
        refine pm_iastN (by first | assumption | rfl) (by first | assumption | omega) (by first | decide | omega) dX5_kind_51 ?_
        refine pm_aload_n dX5_kind_52 rfl ?_
        refine pm_getR (ci := 5) (j := 14) (n := 39) (by first | assumption | rfl) (by decide) (by decide) rfl fl_RX5_29 rfl (by first | assumption | rfl) dX5_kind_53 ?_
        refine pm_iload_n dX5_kind_56 rfl ?_
        refine pm_iload_n dX5_kind_57 rfl ?_
        refine pm_iastN (by first | assumption | rfl) (by first | assumption | omega) (by first | decide | omega) dX5_kind_58 ?_
        refine pm_aload_n dX5_kind_59 rfl ?_
        refine pm_getR (ci := 5) (j := 15) (n := 39) (by first | assumption | rfl) (by decide) (by decide) rfl fl_RX5_32 rfl (by first | assumption | rfl) dX5_kind_60 ?_
        refine pm_iload_n dX5_kind_63 rfl ?_
        refine pm_iload_n dX5_kind_64 rfl ?_
        refine pm_iastN (by first | assumption | rfl) (by first | assumption | omega) (by first | decide | omega) dX5_kind_65 ?_
        refine pm_aload_n dX5_kind_66 rfl ?_
        refine pm_getR (ci := 5) (j := 17) (n := 39) (by first | assumption | rfl) (by decide) (by decide) rfl fl_RX5_38 rfl (by first | assumption | rfl) dX5_kind_67 ?_
        refine pm_iload_n dX5_kind_70 rfl ?_
        refine pm_iconst (x := -1) dX5_kind_71 rfl ?_
        refine pm_iastN (by first | assumption | rfl) (by first | assumption | omega) (by first | decide | omega) dX5_kind_72 ?_
        refine pm_iload dX5_kind_73 rfl ?_
        refine pm_iret dX5_kind_75 rfl ?_
        rw [pm_z_1] at c19 c31
        rw [pu_kind, if_pos c4, if_pos ⟨c19, c31⟩, nI_clamp (by omega)]
        refine ⟨rfl, mo_ask hR (fun t ht => ?_) (mfr_c (mfr_c (mfr_c (mfr_c (mfr_rf _ [89, 90, 91, 92, 93, 94, 95, 96, 97, 98] []) (k := 89) (by decide) (by decide) _) (k := 90) (by decide) (by decide) _) (k := 91) (by decide) (by decide) _) (k := 93) (by decide) (by decide) _), mfr_c (mfr_c (mfr_c (mfr_c (mfr_rf _ [89, 90, 91, 92, 93, 94, 95, 96, 97, 98] []) (k := 89) (by decide) (by decide) _) (k := 90) (by decide) (by decide) _) (k := 91) (by decide) (by decide) _) (k := 93) (by decide) (by decide) _⟩
        by_cases htq : t = q
        · subst htq
          rw [va_up_self]
          obtain ⟨h1, h2, h3, h4, h5, h6, h7, h8, h9⟩ := g3 t ht
          refine ⟨by simp [pm_s, upd, ab_become], ?_, by simp [pm_s, upd, ab_become, h3], by simp [pm_s, upd, ab_become], fun z => absurd (by simp [ab_become, upd]) z, by simp [pm_s, upd, ab_become, h6], by simp [pm_s, upd, ab_become, h7], fun j hj => by simp only [pm_s]; exact h8 j hj, fun j hj => by simp only [pm_s]; exact h9 j hj⟩
          simp [pm_s, upd, ab_become]
        · rw [va_up_ne _ _ htq]
          refine moA_at (g3 t ht) (fun a z1 z2 => ?_) (by simp [pm_s]) (by simp [pm_s])
          rcases (show a = 89 ∨ a = 90 ∨ a = 91 ∨ a = 92 ∨ a = 93 ∨ a = 94 ∨ a = 95 ∨ a = 96 by omega) with rfl | rfl | rfl | rfl | rfl | rfl | rfl | rfl <;> simp [pm_s, upd, htq]
      · refine pm_bipush (x := -102) dX5_kind_34 rfl ?_
        refine pm_iret dX5_kind_36 rfl ?_
        rw [pm_z_0] at c31
        rw [pu_kind, if_pos c4, if_neg (by rintro ⟨-, z1⟩; rw [c31] at z1; cases z1)]
        exact ⟨rfl, hR, mfr_rf _ _ _⟩
  · refine pm_bipush (x := -101) dX5_kind_7 rfl ?_
    refine pm_iret dX5_kind_9 rfl ?_
    rw [pm_z_0] at c4
    rw [pu_kind, if_neg (by rw [c4]; decide)]
    exact ⟨rfl, hR, mfr_rf _ _ _⟩

set_option maxRecDepth 4000 in
theorem c_X5_hint {w : pm_W} {S : ab_S} (hR : mo_R w S) (p a b : Int32) : pm_C pm_L0 MX5_hint [.ref 83, .int p, .int a, .int b] w (pm_qi fun x w1 => x = (pu_hint S p a b).1 ∧ mo_R w1 (pu_hint S p a b).2 ∧ mfr w w1 [89, 90, 91, 92, 93, 94, 95, 96, 97, 98] []) := by
  obtain ⟨g1, g2, g3, g4, g5⟩ := id hR
  refine pm_start (lv := [some (.ref _), some (.int _), some (.int _), some (.int _)]) (plainFor_of_name pf5) (Nat.le_of_ble_eq_true rfl) rfl ?_
  refine pm_iload_n dX5_hint_0 rfl ?_
  refine pm_cSi (as := [.int _]) ml_RX5_137 (by decide) (Nat.le_of_ble_eq_true rfl) dX5_hint_1 (c_X5_isAsker pm_L0 _ _) (fun x1 w1 hq => ?_)
  obtain ⟨rfl, hw9⟩ := hq
  have hw9 := hw9.symm
  subst hw9
  refine pm_if_ne (tgt := 10) dX5_hint_4 (by decide) (fun c4 => ?_) (fun c4 => ?_)
  · rw [pm_z_1] at c4
    obtain ⟨q, hq4, rfl⟩ := as_of c4
    refine pm_iload_n dX5_hint_10 rfl ?_
    refine pm_cSi (as := [.int _]) ml_RX5_145 (by decide) (Nat.le_of_ble_eq_true rfl) dX5_hint_11 (c_X5_isBlock pm_L0 _ _) (fun x1 w1 hq => ?_)
    obtain ⟨rfl, hw9⟩ := hq
    have hw9 := hw9.symm
    subst hw9
    refine pm_if_eq (tgt := 29) dX5_hint_14 (by decide) (fun c14 => ?_) (fun c14 => ?_)
    · refine pm_bipush (x := -102) dX5_hint_29 rfl ?_
      refine pm_iret dX5_hint_31 rfl ?_
      rw [pm_z_0] at c14
      rw [pu_hint, if_pos c4, if_neg (by rintro ⟨z1, -, -⟩; rw [c14] at z1; cases z1)]
      exact ⟨rfl, hR, mfr_rf _ _ _⟩
    · refine pm_iload_n dX5_hint_17 rfl ?_
      refine pm_cSi (as := [.int _]) ml_RX5_145 (by decide) (Nat.le_of_ble_eq_true rfl) dX5_hint_18 (c_X5_isBlock pm_L0 _ _) (fun x1 w1 hq => ?_)
      obtain ⟨rfl, hw9⟩ := hq
      have hw9 := hw9.symm
      subst hw9
      refine pm_if_eq (tgt := 29) dX5_hint_21 (by decide) (fun c21 => ?_) (fun c21 => ?_)
      · refine pm_bipush (x := -102) dX5_hint_29 rfl ?_
        refine pm_iret dX5_hint_31 rfl ?_
        rw [pm_z_0] at c21
        rw [pu_hint, if_pos c4, if_neg (by rintro ⟨-, z1, -⟩; rw [c21] at z1; cases z1)]
        exact ⟨rfl, hR, mfr_rf _ _ _⟩
      · refine pm_iload_n dX5_hint_24 rfl ?_
        refine pm_iload_n dX5_hint_25 rfl ?_
        refine pm_icmp_le (tgt := 32) dX5_hint_26 (by decide) (fun c26 => ?_) (fun c26 => ?_)
        · refine pm_aload_n dX5_hint_32 rfl ?_
          refine pm_getR (ci := 5) (j := 13) (n := 39) (by first | assumption | rfl) (by decide) (by decide) rfl fl_RX5_26 rfl (by first | assumption | rfl) dX5_hint_33 ?_
          refine pm_iload_n dX5_hint_36 rfl ?_
          refine pm_ialdN (by first | assumption | rfl) (by first | assumption | omega) (by first | decide | omega) dX5_hint_37 ?_
          rw [(g3 q hq4).1]
          refine pm_iconst (x := 4) dX5_hint_38 rfl ?_
          refine pm_icmp_eq (tgt := 45) dX5_hint_39 (by decide) (fun c39 => ?_) (fun c39 => ?_)
          · refine pm_aload_n dX5_hint_45 rfl ?_
            refine pm_getR (ci := 5) (j := 17) (n := 39) (by first | assumption | rfl) (by decide) (by decide) rfl fl_RX5_38 rfl (by first | assumption | rfl) dX5_hint_46 ?_
            refine pm_iload_n dX5_hint_49 rfl ?_
            refine pm_iload_n dX5_hint_50 rfl ?_
            refine pm_iastN (by first | assumption | rfl) (by first | assumption | omega) (by first | decide | omega) dX5_hint_51 ?_
            refine pm_aload_n dX5_hint_52 rfl ?_
            refine pm_getR (ci := 5) (j := 18) (n := 39) (by first | assumption | rfl) (by decide) (by decide) rfl fl_RX5_41 rfl (by first | assumption | rfl) dX5_hint_53 ?_
            refine pm_iload_n dX5_hint_56 rfl ?_
            refine pm_iload_n dX5_hint_57 rfl ?_
            refine pm_iastN (by first | assumption | rfl) (by first | assumption | omega) (by first | decide | omega) dX5_hint_58 ?_
            refine pm_iconst (x := 1) dX5_hint_59 rfl ?_
            refine pm_iret dX5_hint_60 rfl ?_
            rw [pm_z_1] at c14 c21
            rw [pu_hint, if_pos c4, if_pos ⟨c14, c21, c26⟩, nI_clamp (by omega), if_pos c39]
            refine ⟨rfl, ?_, mfr_c (mfr_c (mfr_rf _ [89, 90, 91, 92, 93, 94, 95, 96, 97, 98] []) (k := 93) (by decide) (by decide) _) (k := 94) (by decide) (by decide) _⟩
            have e9 : ab_fld (ab_fld S q 5 a) q 6 b = (S.1, S.2.1, va_up S.2.2.1 q (upd (upd (S.2.2.1 q).1 5 a) 6 b, (S.2.2.1 q).2), S.2.2.2) := by
              simp only [ab_fld, va_up_self]
              congr 3
              funext t
              by_cases h : t = q
              · subst h; rw [va_up_self, va_up_self]
              · rw [va_up_ne _ _ h, va_up_ne _ _ h, va_up_ne _ _ h]
            rw [e9]
            refine mo_ask hR (fun t ht => ?_) (mfr_c (mfr_c (mfr_rf _ [89, 90, 91, 92, 93, 94, 95, 96, 97, 98] []) (k := 93) (by decide) (by decide) _) (k := 94) (by decide) (by decide) _)
            by_cases htq : t = q
            · subst htq
              rw [va_up_self]
              obtain ⟨h1, h2, h3, h4, h5, h6, h7, h8, h9⟩ := g3 t ht
              refine ⟨by simp [pm_s, upd, h1], ?_, by simp [pm_s, upd, h3], by simp [pm_s, upd], fun z => by simp [pm_s, upd], by simp [pm_s, upd, h6], by simp [pm_s, upd, h7], fun j hj => by simp only [pm_s]; exact h8 j hj, fun j hj => by simp only [pm_s]; exact h9 j hj⟩
              simpa [pm_s, upd] using h2
            · rw [va_up_ne _ _ htq]
              refine moA_at (g3 t ht) (fun a z1 z2 => ?_) (by simp [pm_s]) (by simp [pm_s])
              rcases (show a = 89 ∨ a = 90 ∨ a = 91 ∨ a = 92 ∨ a = 93 ∨ a = 94 ∨ a = 95 ∨ a = 96 by omega) with rfl | rfl | rfl | rfl | rfl | rfl | rfl | rfl <;> simp [pm_s, upd, htq]
          · refine pm_bipush (x := -103) dX5_hint_42 rfl ?_
            refine pm_iret dX5_hint_44 rfl ?_
            rw [pm_z_1] at c14 c21
            rw [pu_hint, if_pos c4, if_pos ⟨c14, c21, c26⟩, nI_clamp (by omega), if_neg c39]
            exact ⟨rfl, hR, mfr_rf _ _ _⟩
        · refine pm_bipush (x := -102) dX5_hint_29 rfl ?_
          refine pm_iret dX5_hint_31 rfl ?_
          rw [pu_hint, if_pos c4, if_neg (by rintro ⟨-, -, z1⟩; exact c26 z1)]
          exact ⟨rfl, hR, mfr_rf _ _ _⟩
  · refine pm_bipush (x := -101) dX5_hint_7 rfl ?_
    refine pm_iret dX5_hint_9 rfl ?_
    rw [pm_z_0] at c4
    rw [pu_hint, if_neg (by rw [c4]; decide)]
    exact ⟨rfl, hR, mfr_rf _ _ _⟩

