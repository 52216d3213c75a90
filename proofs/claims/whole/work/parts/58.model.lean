def ab_pk (S : ab_S) (p : Int32) (j : Nat) (q : Nat) : Int32 := if p = -1 ∨ p = nI q then ab_t1 S q j else 0
theorem pk_all (S : ab_S) (j : Nat) : ab_sm (ab_pk S (-1) j) 4 = ab_sm (fun q => ab_t1 S q j) 4 := by
  simp [ab_sm, ab_pk]
theorem pk_one (S : ab_S) (j : Nat) {q : Nat} (hq : q < 4) : ab_sm (ab_pk S (nI q) j) 4 = ab_t1 S q j := by
  have hm : ¬ nI q = -1 := nI_ne_m1 (by omega)
  have he : ∀ t, t < 4 → (nI q = nI t ↔ q = t) := fun t ht => nI_eq (by omega) (by omega)
  simp only [ab_sm, ab_pk, hm, false_or, he 0 (by decide), he 1 (by decide), he 2 (by decide), he 3 (by decide)]
  rcases (show q = 0 ∨ q = 1 ∨ q = 2 ∨ q = 3 by omega) with rfl | rfl | rfl | rfl <;> simp

theorem c_X5_told {w : pm_W} {S : ab_S} (hR : mo_R w S) (hI : ab_I S) (p x : Int32) : pm_C pm_L0 MX5_told [.ref 83, .int p, .int x] w (pm_qi fun r w1 => r = pu_told S p x ∧ w1 = w) := by
  have loop : ∀ (p : Int32) (j : Nat), j < 10 → ∀ i, i ≤ 4 → pm_R pm_L0 MX5_told 35 [some (.ref 83), some (.int p), some (.int (nI j)), some (.int (ab_sm (ab_pk S p j) i)), some (.int (nI i))] [] w (pm_qi fun r w1 => r = ab_sm (ab_pk S p j) 4 ∧ w1 = w) := by
    intro p j hj
    refine up_loop 4 (fun i hi ih => ?_)
    refine pm_iload dX5_told_35 rfl ?_
    refine pm_iconst (x := nI 4) dX5_told_37 rfl ?_
    refine pm_icmp_ge (tgt := 72) dX5_told_38 (by decide) (fun c38 => ?_) (fun c38 => ?_)
    · refine pm_iload_n dX5_told_72 rfl ?_
      refine pm_iret dX5_told_73 rfl ?_
      rw [nI_leI (by omega) (by omega)] at c38
      have : i = 4 := by omega
      subst this
      exact ⟨rfl, rfl⟩
    · have hlt : i < 4 := by
        rw [nI_leI (by omega) (by omega)] at c38
        omega
      refine pm_iload_n dX5_told_41 rfl ?_
      refine pm_iload_n dX5_told_42 rfl ?_
      refine pm_iconst (x := -1) dX5_told_43 rfl ?_
      refine pm_icmp_eq (tgt := 53) dX5_told_44 (by decide) (fun c44 => ?_) (fun c44 => ?_)
      · refine pm_aload_n dX5_told_53 rfl ?_
        refine pm_iload dX5_told_54 rfl ?_
        refine pm_iload_n dX5_told_56 rfl ?_
        refine pm_cVi (as := [.int _, .int _]) (by first | assumption | rfl) (by decide) rfl ml_RX5_211 (by decide) (Nat.le_of_ble_eq_true rfl) dX5_told_57 (c_X5_toldOf hR hI hlt hj) (fun x1 w1 hq => ?_)
        obtain ⟨rfl, hw9⟩ := hq
        have hw9 := hw9.symm
        subst hw9
        refine pm_goto (tgt := 64) dX5_told_60 (by decide) ?_
        refine pm_iadd dX5_told_64 ?_
        refine pm_istore_n (lv' := [some (.ref _), some (.int _), some (.int _), some (.int _), some (.int _)]) dX5_told_65 (by decide) rfl ?_
        refine pm_iinc (y := _ + 1) (lv' := [some (.ref _), some (.int _), some (.int _), some (.int _), some (.int _)]) dX5_told_66 rfl rfl (by decide) rfl ?_
        refine pm_goto (tgt := 35) dX5_told_69 (by decide) ?_
        rw [nI_1]
        have h9 := ih hlt
        rw [show ab_sm (ab_pk S p j) (i + 1) = ab_sm (ab_pk S p j) i + ab_pk S p j i from rfl, show ab_pk S p j i = ab_t1 S i j from if_pos (Or.inl c44)] at h9
        exact h9
      · refine pm_iload_n dX5_told_47 rfl ?_
        refine pm_iload dX5_told_48 rfl ?_
        refine pm_icmp_ne (tgt := 63) dX5_told_50 (by decide) (fun c50 => ?_) (fun c50 => ?_)
        · refine pm_iconst (x := 0) dX5_told_63 rfl ?_
          refine pm_iadd dX5_told_64 ?_
          refine pm_istore_n (lv' := [some (.ref _), some (.int _), some (.int _), some (.int _), some (.int _)]) dX5_told_65 (by decide) rfl ?_
          refine pm_iinc (y := _ + 1) (lv' := [some (.ref _), some (.int _), some (.int _), some (.int _), some (.int _)]) dX5_told_66 rfl rfl (by decide) rfl ?_
          refine pm_goto (tgt := 35) dX5_told_69 (by decide) ?_
          rw [nI_1]
          have h9 := ih hlt
          rw [show ab_sm (ab_pk S p j) (i + 1) = ab_sm (ab_pk S p j) i + ab_pk S p j i from rfl, show ab_pk S p j i = 0 from if_neg (fun h => h.elim c44 c50)] at h9
          exact h9
        · refine pm_aload_n dX5_told_53 rfl ?_
          refine pm_iload dX5_told_54 rfl ?_
          refine pm_iload_n dX5_told_56 rfl ?_
          refine pm_cVi (as := [.int _, .int _]) (by first | assumption | rfl) (by decide) rfl ml_RX5_211 (by decide) (Nat.le_of_ble_eq_true rfl) dX5_told_57 (c_X5_toldOf hR hI hlt hj) (fun x1 w1 hq => ?_)
          obtain ⟨rfl, hw9⟩ := hq
          have hw9 := hw9.symm
          subst hw9
          refine pm_goto (tgt := 64) dX5_told_60 (by decide) ?_
          refine pm_iadd dX5_told_64 ?_
          refine pm_istore_n (lv' := [some (.ref _), some (.int _), some (.int _), some (.int _), some (.int _)]) dX5_told_65 (by decide) rfl ?_
          refine pm_iinc (y := _ + 1) (lv' := [some (.ref _), some (.int _), some (.int _), some (.int _), some (.int _)]) dX5_told_66 rfl rfl (by decide) rfl ?_
          refine pm_goto (tgt := 35) dX5_told_69 (by decide) ?_
          rw [nI_1]
          have h9 := ih hlt
          rw [show ab_sm (ab_pk S p j) (i + 1) = ab_sm (ab_pk S p j) i + ab_pk S p j i from rfl, show ab_pk S p j i = ab_t1 S i j from if_pos (Or.inr c50)] at h9
          exact h9
  refine pm_start (lv := [some (.ref _), some (.int _), some (.int _), none, none]) (plainFor_of_name pf5) (Nat.le_of_ble_eq_true rfl) rfl ?_
  by_cases c0 : p = -1
  ·
    refine pm_iload_n dX5_told_0 rfl ?_
    refine pm_iconst (x := -1) dX5_told_1 rfl ?_
    refine pm_icmp_eq (tgt := 15) dX5_told_2 (by decide) (fun c2 => ?_) (fun c2 => absurd c0 c2)
    refine pm_iload_n dX5_told_15 rfl ?_
    refine pm_i2l dX5_told_16 ?_
    refine pm_lconst (x := 0) dX5_told_17 rfl ?_
    refine pm_ldc2 kc_RX5_209 dX5_told_18 ?_
    refine pm_cSi (as := [.long _, .long _, .long _]) ml_RX5_96 (by decide) (Nat.le_of_ble_eq_true rfl) dX5_told_21 (c_X5_in (n := x) (a := 0) (b := 9) pm_L0 _ rfl (by decide) (by decide)) (fun x1 w1 hq => ?_)
    obtain ⟨rfl, hw9⟩ := hq
    have hw9 := hw9.symm
    subst hw9
    refine pm_if_ne (tgt := 30) dX5_told_24 (by decide) (fun c24 => ?_) (fun c24 => ?_)
    · rw [pm_z_1] at c24
      obtain ⟨j, hj9, rfl⟩ := bw_of (n := 9) (by decide) c24
      refine pm_iconst (x := 0) dX5_told_30 rfl ?_
      refine pm_istore_n (lv' := [some (.ref _), some (.int _), some (.int _), some (.int _), none]) dX5_told_31 (by decide) rfl ?_
      refine pm_iconst (x := 0) dX5_told_32 rfl ?_
      refine pm_istore (lv' := [some (.ref _), some (.int _), some (.int _), some (.int _), some (.int _)]) dX5_told_33 (by decide) rfl ?_
      have h9 := loop p j (by omega) 0 (Nat.zero_le _)
      rw [c0, pk_all] at h9
      rw [pu_told, if_pos (Or.inl c0), if_pos c24, if_pos c0, nI_clamp (by omega), c0]
      exact h9
    · refine pm_bipush (x := -102) dX5_told_27 rfl ?_
      refine pm_iret dX5_told_29 rfl ?_
      rw [pm_z_0] at c24
      refine ⟨?_, rfl⟩
      rw [pu_told, if_pos (Or.inl c0), if_neg (by rw [c24]; decide)]
  ·
    refine pm_iload_n dX5_told_0 rfl ?_
    refine pm_iconst (x := -1) dX5_told_1 rfl ?_
    refine pm_icmp_eq (tgt := 15) dX5_told_2 (by decide) (fun c2 => absurd c2 c0) (fun c2 => ?_)
    refine pm_iload_n dX5_told_5 rfl ?_
    refine pm_cSi (as := [.int _]) ml_RX5_137 (by decide) (Nat.le_of_ble_eq_true rfl) dX5_told_6 (c_X5_isAsker pm_L0 _ _) (fun x1 w1 hq => ?_)
    obtain ⟨rfl, hw9⟩ := hq
    have hw9 := hw9.symm
    subst hw9
    refine pm_if_ne (tgt := 15) dX5_told_9 (by decide) (fun c9 => ?_) (fun c9 => ?_)
    · rw [pm_z_1] at c9
      obtain ⟨q, hq4, rfl⟩ := as_of c9
      refine pm_iload_n dX5_told_15 rfl ?_
      refine pm_i2l dX5_told_16 ?_
      refine pm_lconst (x := 0) dX5_told_17 rfl ?_
      refine pm_ldc2 kc_RX5_209 dX5_told_18 ?_
      refine pm_cSi (as := [.long _, .long _, .long _]) ml_RX5_96 (by decide) (Nat.le_of_ble_eq_true rfl) dX5_told_21 (c_X5_in (n := x) (a := 0) (b := 9) pm_L0 _ rfl (by decide) (by decide)) (fun x1 w1 hq => ?_)
      obtain ⟨rfl, hw9⟩ := hq
      have hw9 := hw9.symm
      subst hw9
      refine pm_if_ne (tgt := 30) dX5_told_24 (by decide) (fun c24 => ?_) (fun c24 => ?_)
      · rw [pm_z_1] at c24
        obtain ⟨j, hj9, rfl⟩ := bw_of (n := 9) (by decide) c24
        refine pm_iconst (x := 0) dX5_told_30 rfl ?_
        refine pm_istore_n (lv' := [some (.ref _), some (.int _), some (.int _), some (.int _), none]) dX5_told_31 (by decide) rfl ?_
        refine pm_iconst (x := 0) dX5_told_32 rfl ?_
        refine pm_istore (lv' := [some (.ref _), some (.int _), some (.int _), some (.int _), some (.int _)]) dX5_told_33 (by decide) rfl ?_
        have h9 := loop (nI q) j (by omega) 0 (Nat.zero_le _)
        rw [pk_one S j hq4] at h9
        rw [pu_told, if_pos (Or.inr c9), if_pos c24, if_neg c0, nI_clamp (by omega), nI_clamp (by omega)]
        exact h9
      · refine pm_bipush (x := -102) dX5_told_27 rfl ?_
        refine pm_iret dX5_told_29 rfl ?_
        rw [pm_z_0] at c24
        refine ⟨?_, rfl⟩
        rw [pu_told, if_pos (Or.inr c9), if_neg (by rw [c24]; decide)]
    · refine pm_bipush (x := -101) dX5_told_12 rfl ?_
      refine pm_iret dX5_told_14 rfl ?_
      rw [pm_z_0] at c9
      refine ⟨?_, rfl⟩
      rw [pu_told, if_neg (by rw [c9]; simp [c0])]

theorem mo_share {w : pm_W} {p q : Nat} {A : ab_A} (h : mo_A w q A) (x : Int32) : mo_A (pm_s w 92 (upd (w.1 92) p x)) q (if q = p then (upd A.1 4 x, A.2) else A) := by
  obtain ⟨h1, h2, h3, h4, h5, h6, h7, h8, h9⟩ := h
  have k : ∀ a, a ≠ 92 → (pm_s w 92 (upd (w.1 92) p x)).1 a = w.1 a := fun a ha => pm_s_ne ha
  by_cases hq : q = p
  · subst hq
    rw [if_pos rfl]
    unfold mo_A
    rw [k 89 (by decide), k 90 (by decide), k 91 (by decide), k 93 (by decide), k 94 (by decide), k 95 (by decide), k 96 (by decide), k 97 (by decide), k 98 (by decide), pm_s_at]
    exact ⟨h1, h2, by rw [pk_us]; exact (show upd A.1 4 x 4 = x from pk_us).symm, h4, h5, h6, h7, h8, h9⟩
  · rw [if_neg hq]
    unfold mo_A
    rw [k 89 (by decide), k 90 (by decide), k 91 (by decide), k 93 (by decide), k 94 (by decide), k 95 (by decide), k 96 (by decide), k 97 (by decide), k 98 (by decide), pm_s_at, pk_un hq]
    exact ⟨h1, h2, h3, h4, h5, h6, h7, h8, h9⟩
def ab_so (S : ab_S) (p : Nat) (n : Int32) : Nat → Int32
  | 0 => n
  | k + 1 => ab_so S p n k + (if k = p then 0 else (S.2.2.1 k).1 4)
theorem so_eq (S : ab_S) {p : Nat} (hp : p < 4) (n : Int32) : ab_so S p n 4 = ab_sm (fun q => ab_t1 S q 8) 4 - (S.2.2.1 p).1 4 + n := by
  have e : ∀ q, ab_t1 S q 8 = (S.2.2.1 q).1 4 := fun q => rfl
  simp only [ab_so, ab_sm, e]
  rcases (show p = 0 ∨ p = 1 ∨ p = 2 ∨ p = 3 by omega) with rfl | rfl | rfl | rfl
  · simp only [if_true, if_neg (show ¬ 1 = 0 by decide), if_neg (show ¬ 2 = 0 by decide), if_neg (show ¬ 3 = 0 by decide)]
    generalize (S.2.2.1 0).1 4 = a
    generalize (S.2.2.1 1).1 4 = b
    generalize (S.2.2.1 2).1 4 = c
    generalize (S.2.2.1 3).1 4 = d
    rw [show (0 + a + b + c + d) = (b + c + d) + a by rw [Int32.zero_add]; ac_rfl, Int32.add_sub_cancel, Int32.add_zero]
    ac_rfl
  · simp only [if_true, if_neg (show ¬ 0 = 1 by decide), if_neg (show ¬ 2 = 1 by decide), if_neg (show ¬ 3 = 1 by decide)]
    generalize (S.2.2.1 0).1 4 = a
    generalize (S.2.2.1 1).1 4 = b
    generalize (S.2.2.1 2).1 4 = c
    generalize (S.2.2.1 3).1 4 = d
    rw [show (0 + a + b + c + d) = (a + c + d) + b by rw [Int32.zero_add]; ac_rfl, Int32.add_sub_cancel, Int32.add_zero]
    ac_rfl
  · simp only [if_true, if_neg (show ¬ 0 = 2 by decide), if_neg (show ¬ 1 = 2 by decide), if_neg (show ¬ 3 = 2 by decide)]
    generalize (S.2.2.1 0).1 4 = a
    generalize (S.2.2.1 1).1 4 = b
    generalize (S.2.2.1 2).1 4 = c
    generalize (S.2.2.1 3).1 4 = d
    rw [show (0 + a + b + c + d) = (a + b + d) + c by rw [Int32.zero_add]; ac_rfl, Int32.add_sub_cancel, Int32.add_zero]
    ac_rfl
  · simp only [if_true, if_neg (show ¬ 0 = 3 by decide), if_neg (show ¬ 1 = 3 by decide), if_neg (show ¬ 2 = 3 by decide)]
    generalize (S.2.2.1 0).1 4 = a
    generalize (S.2.2.1 1).1 4 = b
    generalize (S.2.2.1 2).1 4 = c
    generalize (S.2.2.1 3).1 4 = d
    rw [show (0 + a + b + c + d) = (a + b + c) + d by rw [Int32.zero_add], Int32.add_sub_cancel, Int32.add_zero]
    ac_rfl

set_option maxRecDepth 4000 in
theorem c_X5_share {w : pm_W} {S : ab_S} (hR : mo_R w S) (p n : Int32) : pm_C pm_L0 MX5_share [.ref 83, .int p, .int n] w (pm_qi fun r w1 => r = (pu_share S p n).1 ∧ mo_R w1 (pu_share S p n).2 ∧ mfr w w1 [89, 90, 91, 92, 93, 94, 95, 96, 97, 98] []) := by
  obtain ⟨g1, g2, g3, g4, g5⟩ := id hR
  have loop : ∀ q, q < 4 → pm_bw (nI q) 0 3 = true → pm_bw n 0 12 = true → ∀ i, i ≤ 4 → pm_R pm_L0 MX5_share 30 [some (.ref 83), some (.int (nI q)), some (.int n), some (.int (ab_so S q n i)), some (.int (nI i))] [] w (pm_qi fun r w1 => r = (pu_share S (nI q) n).1 ∧ mo_R w1 (pu_share S (nI q) n).2 ∧ mfr w w1 [89, 90, 91, 92, 93, 94, 95, 96, 97, 98] []) := by
    intro q hq4 c4 c19
    refine up_loop 4 (fun i hi ih => ?_)
    refine pm_iload dX5_share_30 rfl ?_
    refine pm_iconst (x := nI 4) dX5_share_32 rfl ?_
    refine pm_icmp_ge (tgt := 62) dX5_share_33 (by decide) (fun c33 => ?_) (fun c33 => ?_)
    · have hi4 : i = 4 := by
        rw [nI_leI (by omega) (by omega)] at c33
        omega
      subst hi4
      refine pm_iload_n dX5_share_62 rfl ?_
      refine pm_aload_n dX5_share_63 rfl ?_
      refine pm_getI (ci := 5) (j := 0) (n := 39) (by first | assumption | rfl) (by decide) (by decide) rfl fl_RX5_102 rfl dX5_share_64 ?_
      rw [g4.1, so_eq S hq4]
      refine pm_icmp_le (tgt := 73) dX5_share_67 (by decide) (fun c67 => ?_) (fun c67 => ?_)
      · refine pm_aload_n dX5_share_73 rfl ?_
        refine pm_getR (ci := 5) (j := 16) (n := 39) (by first | assumption | rfl) (by decide) (by decide) rfl fl_RX5_35 rfl (by first | assumption | rfl) dX5_share_74 ?_
        refine pm_iload_n dX5_share_77 rfl ?_
        refine pm_ialdN (by first | assumption | rfl) (by first | assumption | omega) (by first | decide | omega) dX5_share_78 ?_
        rw [(g3 q hq4).2.2.1]
        refine pm_istore (lv' := [some (.ref _), some (.int _), some (.int _), some (.int _), some (.int _)]) dX5_share_79 (by decide) rfl ?_
        refine pm_aload_n dX5_share_81 rfl ?_
        refine pm_getR (ci := 5) (j := 16) (n := 39) (by first | assumption | rfl) (by decide) (by decide) rfl fl_RX5_35 rfl (by first | assumption | rfl) dX5_share_82 ?_
        refine pm_iload_n dX5_share_85 rfl ?_
        refine pm_iload_n dX5_share_86 rfl ?_
        refine pm_iastN (by first | assumption | rfl) (by first | assumption | omega) (by first | decide | omega) dX5_share_87 ?_
        refine pm_iload dX5_share_88 rfl ?_
        refine pm_iret dX5_share_90 rfl ?_
        rw [pu_share, if_pos c4, if_pos c19, nI_clamp (by omega), if_neg (Int32.not_lt.mpr c67)]
        refine ⟨rfl, ?_, mfr_wd (mfr_c (mfr_rf _ [92] []) (k := 92) (by decide) (by decide) _) (by decide) (by decide)⟩
        refine mo_ask hR (fun t ht => ?_) (mfr_wd (mfr_c (mfr_rf _ [92] []) (k := 92) (by decide) (by decide) _) (by decide) (by decide))
        have h9 := mo_share (p := q) (g3 t ht) n
        by_cases htq : t = q
        · subst htq; rw [if_pos rfl] at h9; rw [va_up_self]; exact h9
        · rw [if_neg htq] at h9; rw [va_up_ne _ _ htq]; exact h9
      · refine pm_bipush (x := -103) dX5_share_70 rfl ?_
        refine pm_iret dX5_share_72 rfl ?_
        rw [pu_share, if_pos c4, if_pos c19, nI_clamp (by omega), if_pos (Int32.not_le.mp c67)]
        exact ⟨rfl, hR, mfr_rf _ _ _⟩
    · have hlt : i < 4 := by
        rw [nI_leI (by omega) (by omega)] at c33
        omega
      refine pm_iload_n dX5_share_36 rfl ?_
      refine pm_iload dX5_share_37 rfl ?_
      refine pm_iload_n dX5_share_39 rfl ?_
      refine pm_icmp_ne (tgt := 47) dX5_share_40 (by decide) (fun c40 => ?_) (fun c40 => ?_)
      · refine pm_aload_n dX5_share_47 rfl ?_
        refine pm_getR (ci := 5) (j := 16) (n := 39) (by first | assumption | rfl) (by decide) (by decide) rfl fl_RX5_35 rfl (by first | assumption | rfl) dX5_share_48 ?_
        refine pm_iload dX5_share_51 rfl ?_
        refine pm_ialdN (by first | assumption | rfl) (by first | assumption | omega) (by first | decide | omega) dX5_share_53 ?_
        refine pm_iadd dX5_share_54 ?_
        refine pm_istore_n (lv' := [some (.ref _), some (.int _), some (.int _), some (.int _), some (.int _)]) dX5_share_55 (by decide) rfl ?_
        refine pm_iinc (y := _ + 1) (lv' := [some (.ref _), some (.int _), some (.int _), some (.int _), some (.int _)]) dX5_share_56 rfl rfl (by decide) rfl ?_
        refine pm_goto (tgt := 30) dX5_share_59 (by decide) ?_
        rw [nI_eq (by omega) (by omega)] at c40
        rw [nI_1]
        have h9 := ih hlt
        rw [ab_so, if_neg c40, ← (g3 i hlt).2.2.1] at h9
        exact h9
      · refine pm_iconst (x := 0) dX5_share_43 rfl ?_
        refine pm_goto (tgt := 54) dX5_share_44 (by decide) ?_
        refine pm_iadd dX5_share_54 ?_
        refine pm_istore_n (lv' := [some (.ref _), some (.int _), some (.int _), some (.int _), some (.int _)]) dX5_share_55 (by decide) rfl ?_
        refine pm_iinc (y := _ + 1) (lv' := [some (.ref _), some (.int _), some (.int _), some (.int _), some (.int _)]) dX5_share_56 rfl rfl (by decide) rfl ?_
        refine pm_goto (tgt := 30) dX5_share_59 (by decide) ?_
        rw [nI_eq (by omega) (by omega)] at c40
        rw [nI_1]
        have h9 := ih hlt
        rw [ab_so, if_pos c40] at h9
        exact h9
  refine pm_start (lv := [some (.ref _), some (.int _), some (.int _), none, none]) (plainFor_of_name pf5) (Nat.le_of_ble_eq_true rfl) rfl ?_
  refine pm_iload_n dX5_share_0 rfl ?_
  refine pm_cSi (as := [.int _]) ml_RX5_137 (by decide) (Nat.le_of_ble_eq_true rfl) dX5_share_1 (c_X5_isAsker pm_L0 _ _) (fun x1 w1 hq => ?_)
  obtain ⟨rfl, hw9⟩ := hq
  have hw9 := hw9.symm
  subst hw9
  refine pm_if_ne (tgt := 10) dX5_share_4 (by decide) (fun c4 => ?_) (fun c4 => ?_)
  · rw [pm_z_1] at c4
    obtain ⟨q, hq4, rfl⟩ := as_of c4
    refine pm_iload_n dX5_share_10 rfl ?_
    refine pm_i2l dX5_share_11 ?_
    refine pm_lconst (x := 0) dX5_share_12 rfl ?_
    refine pm_ldc2 kc_RX5_129 dX5_share_13 ?_
    refine pm_cSi (as := [.long _, .long _, .long _]) ml_RX5_96 (by decide) (Nat.le_of_ble_eq_true rfl) dX5_share_16 (c_X5_in (n := n) (a := 0) (b := 12) pm_L0 _ rfl (by decide) (by decide)) (fun x1 w1 hq => ?_)
    obtain ⟨rfl, hw9⟩ := hq
    have hw9 := hw9.symm
    subst hw9
    refine pm_if_ne (tgt := 25) dX5_share_19 (by decide) (fun c19 => ?_) (fun c19 => ?_)
    · rw [pm_z_1] at c19
      refine pm_iload_n dX5_share_25 rfl ?_
      refine pm_istore_n (lv' := [some (.ref _), some (.int _), some (.int _), some (.int _), none]) dX5_share_26 (by decide) rfl ?_
      refine pm_iconst (x := 0) dX5_share_27 rfl ?_
      refine pm_istore (lv' := [some (.ref _), some (.int _), some (.int _), some (.int _), some (.int _)]) dX5_share_28 (by decide) rfl ?_
      exact loop q hq4 c4 c19 0 (Nat.zero_le _)
    · refine pm_bipush (x := -102) dX5_share_22 rfl ?_
      refine pm_iret dX5_share_24 rfl ?_
      rw [pm_z_0] at c19
      rw [pu_share, if_pos c4, if_neg (by rw [c19]; decide)]
      exact ⟨rfl, hR, mfr_rf _ _ _⟩
  · refine pm_bipush (x := -101) dX5_share_7 rfl ?_
    refine pm_iret dX5_share_9 rfl ?_
    rw [pm_z_0] at c4
    rw [pu_share, if_neg (by rw [c4]; decide)]
    exact ⟨rfl, hR, mfr_rf _ _ _⟩

