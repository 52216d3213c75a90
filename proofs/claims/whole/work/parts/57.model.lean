set_option maxRecDepth 4000 in
theorem c_X5_toldOf {w : pm_W} {S : ab_S} (hR : mo_R w S) (hI : ab_I S) {p j : Nat} (hp : p < 4) (hj : j < 10) : pm_C pm_L0 MX5_toldOf [.ref 83, .int (nI p), .int (nI j)] w (pm_qi fun r w1 => r = ab_t1 S p j ∧ w1 = w) := by
  obtain ⟨g1, g2, g3, g4, g5⟩ := id hR
  obtain ⟨⟨sp, i1, i2, i3, i4⟩, i5, i6, i7, i8, i9, i10, i11, i12⟩ := id hI
  refine pm_start (lv := [some (.ref _), some (.int _), some (.int _)]) (plainFor_of_name pf5) (Nat.le_of_ble_eq_true rfl) rfl ?_
  refine pm_iload_n dX5_toldOf_0 rfl ?_
  refine pm_bipush (x := nI 7) dX5_toldOf_1 rfl ?_
  refine pm_icmp_ge (tgt := 20) dX5_toldOf_3 (by decide) (fun c3 => ?_) (fun c3 => ?_)
  · refine pm_iload_n dX5_toldOf_20 rfl ?_
    refine pm_bipush (x := nI 7) dX5_toldOf_21 rfl ?_
    refine pm_icmp_ne (tgt := 34) dX5_toldOf_23 (by decide) (fun c23 => ?_) (fun c23 => ?_)
    · refine pm_iload_n dX5_toldOf_34 rfl ?_
      refine pm_bipush (x := nI 8) dX5_toldOf_35 rfl ?_
      refine pm_icmp_ne (tgt := 49) dX5_toldOf_37 (by decide) (fun c37 => ?_) (fun c37 => ?_)
      · refine pm_aload_n dX5_toldOf_49 rfl ?_
        refine pm_iload_n dX5_toldOf_50 rfl ?_
        refine pm_cVi (as := [.int _]) (by first | assumption | rfl) (by decide) rfl ml_RX5_206 (by decide) (Nat.le_of_ble_eq_true rfl) dX5_toldOf_51 (c_X5_waitsOf g2 i5 (fun x hx => (i7 x hx).1) hp) (fun x1 w1 hq => ?_)
        obtain ⟨rfl, hw9⟩ := hq
        have hw9 := hw9.symm
        subst hw9
        refine pm_iret dX5_toldOf_54 rfl ?_
        rw [nI_leI (by omega) (by omega)] at c3
        rw [nI_eq (by omega) (by omega)] at c23 c37
        refine ⟨?_, rfl⟩
        have hj9 : j = 9 := by omega
        rw [ab_t1, if_neg c23, if_neg c37, if_pos hj9]
      · refine pm_aload_n dX5_toldOf_40 rfl ?_
        refine pm_getR (ci := 5) (j := 16) (n := 39) (by first | assumption | rfl) (by decide) (by decide) rfl fl_RX5_35 rfl (by first | assumption | rfl) dX5_toldOf_41 ?_
        refine pm_iload_n dX5_toldOf_44 rfl ?_
        refine pm_ialdN (by first | assumption | rfl) (by first | assumption | omega | decide) (by first | decide | omega) dX5_toldOf_45 ?_
        refine pm_goto (tgt := 54) dX5_toldOf_46 (by decide) ?_
        refine pm_iret dX5_toldOf_54 rfl ?_
        rw [nI_eq (by omega) (by omega)] at c23 c37
        refine ⟨?_, rfl⟩
        rw [ab_t1, if_neg c23, if_pos c37]
        exact (g3 p hp).2.2.1
    · refine pm_aload_n dX5_toldOf_26 rfl ?_
      refine pm_iload_n dX5_toldOf_27 rfl ?_
      refine pm_cVi (as := [.int _]) (by first | assumption | rfl) (by decide) rfl ml_RX5_148 (by decide) (Nat.le_of_ble_eq_true rfl) dX5_toldOf_28 (c_X5_owned g1 (by omega) (fun x hx => (i6 x hx).1) hp) (fun x1 w1 hq => ?_)
      obtain ⟨rfl, hw9⟩ := hq
      have hw9 := hw9.symm
      subst hw9
      refine pm_goto (tgt := 54) dX5_toldOf_31 (by decide) ?_
      refine pm_iret dX5_toldOf_54 rfl ?_
      rw [nI_eq (by omega) (by omega)] at c23
      refine ⟨?_, rfl⟩
      rw [ab_t1, if_pos c23]
  · rw [nI_leI (by omega) (by omega)] at c3
    refine pm_aload_n dX5_toldOf_6 rfl ?_
    refine pm_getR (ci := 5) (j := 22) (n := 39) (by first | assumption | rfl) (by decide) (by decide) rfl fl_RX5_53 rfl (by first | assumption | rfl) dX5_toldOf_7 ?_
    refine pm_bipush (x := nI 7) dX5_toldOf_10 rfl ?_
    refine pm_iload_n dX5_toldOf_12 rfl ?_
    refine pm_imul dX5_toldOf_13 ?_
    refine pm_iload_n dX5_toldOf_14 rfl ?_
    refine pm_iadd dX5_toldOf_15 ?_
    refine pm_topi (nI (7 * p + j)) (by rw [pk_mul, nI_add]) ?_
    refine pm_ialdN (by first | assumption | rfl) (by first | assumption | omega | decide) (by first | decide | omega) dX5_toldOf_16 ?_
    refine pm_goto (tgt := 54) dX5_toldOf_17 (by decide) ?_
    refine pm_iret dX5_toldOf_54 rfl ?_
    refine ⟨?_, rfl⟩
    rw [ab_t1, if_neg (by omega), if_neg (by omega), if_neg (by omega)]
    exact (g3 p hp).2.2.2.2.2.2.2.2 j (by omega)

set_option maxRecDepth 4000 in
theorem c_X5_reach {w : pm_W} {S : ab_S} (hR : mo_R w S) (p : Int32) : pm_C pm_L0 MX5_reach [.ref 83, .int p] w (pm_qi fun r w1 => r = pu_reach S p ∧ w1 = w) := by
  obtain ⟨g1, g2, g3, g4, g5⟩ := id hR
  refine pm_start (lv := [some (.ref _), some (.int _)]) (plainFor_of_name pf5) (Nat.le_of_ble_eq_true rfl) rfl ?_
  refine pm_iload_n dX5_reach_0 rfl ?_
  refine pm_cSi (as := [.int _]) ml_RX5_137 (by decide) (Nat.le_of_ble_eq_true rfl) dX5_reach_1 (c_X5_isAsker pm_L0 _ _) (fun x1 w1 hq => ?_)
  obtain ⟨rfl, hw9⟩ := hq
  have hw9 := hw9.symm
  subst hw9
  refine pm_if_eq (tgt := 15) dX5_reach_4 (by decide) (fun c4 => ?_) (fun c4 => ?_)
  · refine pm_bipush (x := -101) dX5_reach_15 rfl ?_
    refine pm_iret dX5_reach_17 rfl ?_
    rw [pm_z_0] at c4
    exact ⟨by rw [pu_reach, if_neg (by rw [c4]; decide)], rfl⟩
  · rw [pm_z_1] at c4
    obtain ⟨q, hq4, rfl⟩ := as_of c4
    refine pm_aload_n dX5_reach_7 rfl ?_
    refine pm_iload_n dX5_reach_8 rfl ?_
    refine pm_cVi (as := [.int _]) (by first | assumption | rfl) (by decide) rfl ml_RX5_187 (by decide) (Nat.le_of_ble_eq_true rfl) dX5_reach_9 (c_X5_reachOf hq4 (g3 q hq4)) (fun x1 w1 hq => ?_)
    obtain ⟨rfl, hw9⟩ := hq
    have hw9 := hw9.symm
    subst hw9
    refine pm_goto (tgt := 17) dX5_reach_12 (by decide) ?_
    refine pm_iret dX5_reach_17 rfl ?_
    exact ⟨by rw [pu_reach, if_pos c4, nI_clamp (by omega)], rfl⟩

set_option maxRecDepth 4000 in
theorem c_X5_follows {w : pm_W} {S : ab_S} (hR : mo_R w S) (p b : Int32) : pm_C pm_L0 MX5_follows [.ref 83, .int p, .int b] w (pm_qi fun r w1 => r = pu_follows S p b ∧ w1 = w) := by
  obtain ⟨g1, g2, g3, g4, g5⟩ := id hR
  refine pm_start (lv := [some (.ref _), some (.int _), some (.int _)]) (plainFor_of_name pf5) (Nat.le_of_ble_eq_true rfl) rfl ?_
  refine pm_iload_n dX5_follows_0 rfl ?_
  refine pm_cSi (as := [.int _]) ml_RX5_137 (by decide) (Nat.le_of_ble_eq_true rfl) dX5_follows_1 (c_X5_isAsker pm_L0 _ _) (fun x1 w1 hq => ?_)
  obtain ⟨rfl, hw9⟩ := hq
  have hw9 := hw9.symm
  subst hw9
  refine pm_if_ne (tgt := 12) dX5_follows_4 (by decide) (fun c4 => ?_) (fun c4 => ?_)
  · rw [pm_z_1] at c4
    obtain ⟨q, hq4, rfl⟩ := as_of c4
    refine pm_iload_n dX5_follows_12 rfl ?_
    refine pm_cSi (as := [.int _]) ml_RX5_145 (by decide) (Nat.le_of_ble_eq_true rfl) dX5_follows_13 (c_X5_isBlock pm_L0 _ _) (fun x1 w1 hq => ?_)
    obtain ⟨rfl, hw9⟩ := hq
    have hw9 := hw9.symm
    subst hw9
    refine pm_if_eq (tgt := 33) dX5_follows_16 (by decide) (fun c16 => ?_) (fun c16 => ?_)
    · refine pm_bipush (x := -102) dX5_follows_33 rfl ?_
      refine pm_iret dX5_follows_35 rfl ?_
      rw [pm_z_0] at c16
      exact ⟨by rw [pu_follows, if_pos c4, if_neg (by rw [c16]; decide)], rfl⟩
    · rw [pm_z_1] at c16
      obtain ⟨t, ht, rfl⟩ := bw_of (n := 63) (by decide) c16
      refine pm_aload_n dX5_follows_19 rfl ?_
      refine pm_getR (ci := 5) (j := 21) (n := 39) (by first | assumption | rfl) (by decide) (by decide) rfl fl_RX5_50 rfl (by first | assumption | rfl) dX5_follows_20 ?_
      refine pm_bipush (x := nI 64) dX5_follows_23 rfl ?_
      refine pm_iload_n dX5_follows_25 rfl ?_
      refine pm_imul dX5_follows_26 ?_
      refine pm_iload_n dX5_follows_27 rfl ?_
      refine pm_iadd dX5_follows_28 ?_
      refine pm_topi (nI (64 * q + t)) (by rw [pk_mul, nI_add]) ?_
      refine pm_ialdN (by first | assumption | rfl) (by omega) (by first | decide | omega) dX5_follows_29 ?_
      refine pm_goto (tgt := 35) dX5_follows_30 (by decide) ?_
      refine pm_iret dX5_follows_35 rfl ?_
      exact ⟨by rw [pu_follows, if_pos c4, if_pos c16, nI_clamp (by omega), nI_clamp (by omega)]; exact (g3 q hq4).2.2.2.2.2.2.2.1 t (by omega), rfl⟩
  · refine pm_bipush (x := -101) dX5_follows_7 rfl ?_
    refine pm_goto (tgt := 35) dX5_follows_9 (by decide) ?_
    refine pm_iret dX5_follows_35 rfl ?_
    rw [pm_z_0] at c4
    exact ⟨by rw [pu_follows, if_neg (by rw [c4]; decide)], rfl⟩

set_option maxRecDepth 4000 in
theorem c_X5_house {w : pm_W} {S : ab_S} (hR : mo_R w S) (x : Int32) : pm_C pm_L0 MX5_house [.ref 83, .int x] w (pm_qi fun r w1 => r = pu_house S x ∧ w1 = w) := by
  obtain ⟨g1, g2, g3, g4, g5⟩ := id hR
  refine pm_start (lv := [some (.ref _), some (.int _)]) (plainFor_of_name pf5) (Nat.le_of_ble_eq_true rfl) rfl ?_
  refine pm_iload_n dX5_house_0 rfl ?_
  by_cases hx : pm_bw x 0 7 = true
  · obtain ⟨j, hj, rfl⟩ := bw_of (n := 7) (by decide) hx
    rcases (show j = 0 ∨ j = 1 ∨ j = 2 ∨ j = 3 ∨ j = 4 ∨ j = 5 ∨ j = 6 ∨ j = 7 by omega) with rfl | rfl | rfl | rfl | rfl | rfl | rfl | rfl
    · refine pm_tableIn (off := 47) (tgt := 48) dX5_house_1 (by decide) (by decide) (by decide) (by decide) ?_
      refine pm_aload_n dX5_house_48 rfl ?_
      refine pm_getI (ci := 5) (j := 10) (n := 39) (by first | assumption | rfl) (by decide) (by decide) rfl fl_RX5_117 rfl dX5_house_49 ?_
      refine pm_iret dX5_house_52 rfl ?_
      exact ⟨g4.2.2.2.1, rfl⟩
    · refine pm_tableIn (off := 52) (tgt := 53) dX5_house_1 (by decide) (by decide) (by decide) (by decide) ?_
      refine pm_aload_n dX5_house_53 rfl ?_
      refine pm_getI (ci := 5) (j := 11) (n := 39) (by first | assumption | rfl) (by decide) (by decide) rfl fl_RX5_120 rfl dX5_house_54 ?_
      refine pm_iret dX5_house_57 rfl ?_
      exact ⟨g4.2.2.2.2.2, rfl⟩
    · refine pm_tableIn (off := 57) (tgt := 58) dX5_house_1 (by decide) (by decide) (by decide) (by decide) ?_
      refine pm_aload_n dX5_house_58 rfl ?_
      refine pm_getI (ci := 5) (j := 0) (n := 39) (by first | assumption | rfl) (by decide) (by decide) rfl fl_RX5_102 rfl dX5_house_59 ?_
      refine pm_iret dX5_house_62 rfl ?_
      exact ⟨g4.1, rfl⟩
    · refine pm_tableIn (off := 62) (tgt := 63) dX5_house_1 (by decide) (by decide) (by decide) (by decide) ?_
      refine pm_aload_n dX5_house_63 rfl ?_
      refine pm_getI (ci := 5) (j := 1) (n := 39) (by first | assumption | rfl) (by decide) (by decide) rfl fl_RX5_105 rfl dX5_house_64 ?_
      refine pm_iret dX5_house_67 rfl ?_
      exact ⟨g4.2.1, rfl⟩
    · refine pm_tableIn (off := 67) (tgt := 68) dX5_house_1 (by decide) (by decide) (by decide) (by decide) ?_
      refine pm_aload_n dX5_house_68 rfl ?_
      refine pm_getI (ci := 5) (j := 6) (n := 39) (by first | assumption | rfl) (by decide) (by decide) rfl fl_RX5_111 rfl dX5_house_69 ?_
      refine pm_iret dX5_house_72 rfl ?_
      exact ⟨g1.1, rfl⟩
    · refine pm_tableIn (off := 72) (tgt := 73) dX5_house_1 (by decide) (by decide) (by decide) (by decide) ?_
      refine pm_aload_n dX5_house_73 rfl ?_
      refine pm_getI (ci := 5) (j := 9) (n := 39) (by first | assumption | rfl) (by decide) (by decide) rfl fl_RX5_114 rfl dX5_house_74 ?_
      refine pm_iret dX5_house_77 rfl ?_
      exact ⟨g2.1, rfl⟩
    · refine pm_tableIn (off := 77) (tgt := 78) dX5_house_1 (by decide) (by decide) (by decide) (by decide) ?_
      refine pm_aload_n dX5_house_78 rfl ?_
      refine pm_getI (ci := 5) (j := 12) (n := 39) (by first | assumption | rfl) (by decide) (by decide) rfl fl_RX5_123 rfl dX5_house_79 ?_
      refine pm_iret dX5_house_82 rfl ?_
      exact ⟨g4.2.2.2.2.1, rfl⟩
    · refine pm_tableIn (off := 82) (tgt := 83) dX5_house_1 (by decide) (by decide) (by decide) (by decide) ?_
      refine pm_aload_n dX5_house_83 rfl ?_
      refine pm_getI (ci := 5) (j := 2) (n := 39) (by first | assumption | rfl) (by decide) (by decide) rfl fl_RX5_108 rfl dX5_house_84 ?_
      refine pm_iret dX5_house_87 rfl ?_
      exact ⟨g4.2.2.1, rfl⟩
  · have hx2 : x.toInt < 0 ∨ 7 < x.toInt := by
      rw [Bool.not_eq_true, pm_bw_f, Int32.lt_iff_toInt_lt, Int32.lt_iff_toInt_lt] at hx
      exact hx
    refine pm_tableOut (tgt := 88) dX5_house_1 hx2 (by decide) ?_
    refine pm_bipush (x := -102) dX5_house_88 rfl ?_
    refine pm_iret dX5_house_90 rfl ?_
    refine ⟨?_, rfl⟩
    have hne : ∀ k : Int32, 0 ≤ k.toInt → k.toInt ≤ 7 → ¬ x = k := fun k k1 k2 e => by subst e; omega
    rw [pu_house, if_neg (hne 0 (by decide) (by decide)), if_neg (hne 1 (by decide) (by decide)), if_neg (hne 2 (by decide) (by decide)), if_neg (hne 3 (by decide) (by decide)), if_neg (hne 4 (by decide) (by decide)), if_neg (hne 5 (by decide) (by decide)), if_neg (hne 6 (by decide) (by decide)), if_neg (hne 7 (by decide) (by decide))]

set_option maxRecDepth 4000 in
theorem c_X5_waiting {w : pm_W} {S : ab_S} (hR : mo_R w S) (hI : ab_I S) (x y : Int32) : pm_C pm_L0 MX5_waiting [.ref 83, .int x, .int y] w (pm_qi fun r w1 => r = pu_wait S x y ∧ w1 = w) := by
  obtain ⟨g1, g2, g3, g4, g5⟩ := id hR
  obtain ⟨⟨sp, i1, i2, i3, i4⟩, i5, i6, i7, i8, i9, i10, i11, i12⟩ := id hI
  refine pm_start (lv := [some (.ref _), some (.int _), some (.int _)]) (plainFor_of_name pf5) (Nat.le_of_ble_eq_true rfl) rfl ?_
  refine pm_iload_n dX5_waiting_0 rfl ?_
  refine pm_i2l dX5_waiting_1 ?_
  refine pm_lconst (x := 0) dX5_waiting_2 rfl ?_
  refine pm_lconst (x := 1) dX5_waiting_3 rfl ?_
  refine pm_cSi (as := [.long _, .long _, .long _]) ml_RX5_96 (by decide) (Nat.le_of_ble_eq_true rfl) dX5_waiting_4 (c_X5_in (n := y) (a := 0) (b := 1) pm_L0 _ rfl (by decide) (by decide)) (fun x1 w1 hq => ?_)
  obtain ⟨rfl, hw9⟩ := hq
  have hw9 := hw9.symm
  subst hw9
  refine pm_if_ne (tgt := 13) dX5_waiting_7 (by decide) (fun c7 => ?_) (fun c7 => ?_)
  · rw [pm_z_1] at c7
    refine pm_iload_n dX5_waiting_13 rfl ?_
    refine pm_i2l dX5_waiting_14 ?_
    refine pm_lconst (x := 0) dX5_waiting_15 rfl ?_
    refine pm_aload_n dX5_waiting_16 rfl ?_
    refine pm_getI (ci := 5) (j := 9) (n := 39) (by first | assumption | rfl) (by decide) (by decide) rfl fl_RX5_114 rfl dX5_waiting_17 ?_
    rw [g2.1]
    refine pm_iconst (x := 1) dX5_waiting_20 rfl ?_
    refine pm_isub dX5_waiting_21 ?_
    refine pm_i2l dX5_waiting_22 ?_
    refine pm_cSi (as := [.long _, .long _, .long _]) ml_RX5_96 (by decide) (Nat.le_of_ble_eq_true rfl) dX5_waiting_23 (c_X5_in (n := x) (a := 0) (b := nI S.2.1.length - 1) pm_L0 _ rfl (by decide) rfl) (fun x1 w1 hq => ?_)
    obtain ⟨rfl, hw9⟩ := hq
    have hw9 := hw9.symm
    subst hw9
    refine pm_if_ne (tgt := 33) dX5_waiting_26 (by decide) (fun c26 => ?_) (fun c26 => ?_)
    · rw [pm_z_1] at c26
      obtain ⟨i, hi4, rfl⟩ := bw_len (by omega) c26
      have hat := g2.2 i _ (at_getD hi4)
      refine pm_iload_n dX5_waiting_33 rfl ?_
      refine pm_if_ne (tgt := 46) dX5_waiting_34 (by decide) (fun c34 => ?_) (fun c34 => ?_)
      · refine pm_aload_n dX5_waiting_46 rfl ?_
        refine pm_getR (ci := 5) (j := 8) (n := 39) (by first | assumption | rfl) (by decide) (by decide) rfl fl_RX5_23 rfl (by first | assumption | rfl) dX5_waiting_47 ?_
        refine pm_iload_n dX5_waiting_50 rfl ?_
        refine pm_ialdN (by first | assumption | rfl) (by omega) (by first | decide | omega) dX5_waiting_51 ?_
        refine pm_iret dX5_waiting_52 rfl ?_
        refine ⟨?_, rfl⟩
        rw [pu_wait, if_pos c7, if_pos c26, nI_clamp (by omega), if_neg c34]
        exact hat.2
      · refine pm_aload_n dX5_waiting_37 rfl ?_
        refine pm_getR (ci := 5) (j := 7) (n := 39) (by first | assumption | rfl) (by decide) (by decide) rfl fl_RX5_20 rfl (by first | assumption | rfl) dX5_waiting_38 ?_
        refine pm_iload_n dX5_waiting_41 rfl ?_
        refine pm_ialdN (by first | assumption | rfl) (by omega) (by first | decide | omega) dX5_waiting_42 ?_
        refine pm_goto (tgt := 52) dX5_waiting_43 (by decide) ?_
        refine pm_iret dX5_waiting_52 rfl ?_
        refine ⟨?_, rfl⟩
        rw [pu_wait, if_pos c7, if_pos c26, nI_clamp (by omega), if_pos c34]
        exact hat.1
    · refine pm_iconst (x := -1) dX5_waiting_29 rfl ?_
      refine pm_goto (tgt := 52) dX5_waiting_30 (by decide) ?_
      refine pm_iret dX5_waiting_52 rfl ?_
      rw [pm_z_0] at c26
      refine ⟨?_, rfl⟩
      rw [pu_wait, if_pos c7, if_neg (by rw [c26]; decide)]
  · refine pm_bipush (x := -102) dX5_waiting_10 rfl ?_
    refine pm_iret dX5_waiting_12 rfl ?_
    rw [pm_z_0] at c7
    refine ⟨?_, rfl⟩
    rw [pu_wait, if_neg (by rw [c7]; decide)]

set_option maxRecDepth 4000 in
theorem c_X5_room {w : pm_W} {S : ab_S} (hR : mo_R w S) (hI : ab_I S) (x y : Int32) : pm_C pm_L0 MX5_room [.ref 83, .int x, .int y] w (pm_qi fun r w1 => r = pu_room S x y ∧ w1 = w) := by
  obtain ⟨g1, g2, g3, g4, g5⟩ := id hR
  obtain ⟨⟨sp, i1, i2, i3, i4⟩, i5, i6, i7, i8, i9, i10, i11, i12⟩ := id hI
  refine pm_start (lv := [some (.ref _), some (.int _), some (.int _)]) (plainFor_of_name pf5) (Nat.le_of_ble_eq_true rfl) rfl ?_
  refine pm_iload_n dX5_room_0 rfl ?_
  refine pm_i2l dX5_room_1 ?_
  refine pm_lconst (x := 0) dX5_room_2 rfl ?_
  refine pm_ldc2 kc_RX5_94 dX5_room_3 ?_
  refine pm_cSi (as := [.long _, .long _, .long _]) ml_RX5_96 (by decide) (Nat.le_of_ble_eq_true rfl) dX5_room_6 (c_X5_in (n := y) (a := 0) (b := 3) pm_L0 _ rfl (by decide) (by decide)) (fun x1 w1 hq => ?_)
  obtain ⟨rfl, hw9⟩ := hq
  have hw9 := hw9.symm
  subst hw9
  refine pm_if_ne (tgt := 15) dX5_room_9 (by decide) (fun c9 => ?_) (fun c9 => ?_)
  · rw [pm_z_1] at c9
    refine pm_iload_n dX5_room_15 rfl ?_
    refine pm_i2l dX5_room_16 ?_
    refine pm_lconst (x := 0) dX5_room_17 rfl ?_
    refine pm_aload_n dX5_room_18 rfl ?_
    refine pm_getI (ci := 5) (j := 6) (n := 39) (by first | assumption | rfl) (by decide) (by decide) rfl fl_RX5_111 rfl dX5_room_19 ?_
    rw [g1.1]
    refine pm_iconst (x := 1) dX5_room_22 rfl ?_
    refine pm_isub dX5_room_23 ?_
    refine pm_i2l dX5_room_24 ?_
    refine pm_cSi (as := [.long _, .long _, .long _]) ml_RX5_96 (by decide) (Nat.le_of_ble_eq_true rfl) dX5_room_25 (c_X5_in (n := x) (a := 0) (b := nI S.1.length - 1) pm_L0 _ rfl (by decide) rfl) (fun x1 w1 hq => ?_)
    obtain ⟨rfl, hw9⟩ := hq
    have hw9 := hw9.symm
    subst hw9
    refine pm_if_ne (tgt := 33) dX5_room_28 (by decide) (fun c28 => ?_) (fun c28 => ?_)
    · rw [pm_z_1] at c28
      obtain ⟨i, hi4, rfl⟩ := bw_len (by omega) c28
      have hat := g1.2 i _ (at_getD hi4)
      have heo := eok_at i6 hi4
      refine pm_iload_n dX5_room_33 rfl ?_
      refine pm_if_ne (tgt := 46) dX5_room_34 (by decide) (fun c34 => ?_) (fun c34 => ?_)
      · refine pm_iload_n dX5_room_46 rfl ?_
        refine pm_iconst (x := 1) dX5_room_47 rfl ?_
        refine pm_icmp_ne (tgt := 60) dX5_room_48 (by decide) (fun c48 => ?_) (fun c48 => ?_)
        · refine pm_iload_n dX5_room_60 rfl ?_
          refine pm_iconst (x := 2) dX5_room_61 rfl ?_
          refine pm_icmp_ne (tgt := 77) dX5_room_62 (by decide) (fun c62 => ?_) (fun c62 => ?_)
          · refine pm_aload_n dX5_room_77 rfl ?_
            refine pm_iload_n dX5_room_78 rfl ?_
            refine pm_cVi (as := [.int _]) (by first | assumption | rfl) (by decide) rfl ml_RX5_151 (by decide) (Nat.le_of_ble_eq_true rfl) dX5_room_79 (c_X5_isLeft g1 (by omega) (at_getD hi4) heo.1 (g3 _ heo.1) (i9 _ heo.1)) (fun x1 w1 hq => ?_)
            obtain ⟨rfl, hw9⟩ := hq
            have hw9 := hw9.symm
            subst hw9
            refine pm_if_eq (tgt := 89) dX5_room_82 (by decide) (fun c82 => ?_) (fun c82 => ?_)
            · refine pm_iconst (x := 0) dX5_room_89 rfl ?_
              refine pm_iret dX5_room_90 rfl ?_
              rw [pm_z_0] at c82
              refine ⟨?_, rfl⟩
              rw [pu_room, if_pos c9, if_pos c28, nI_clamp (by omega), if_neg c34, if_neg c48, if_neg c62, c82]
              rfl
            · refine pm_iconst (x := 1) dX5_room_85 rfl ?_
              refine pm_goto (tgt := 90) dX5_room_86 (by decide) ?_
              refine pm_iret dX5_room_90 rfl ?_
              rw [pm_z_1] at c82
              refine ⟨?_, rfl⟩
              rw [pu_room, if_pos c9, if_pos c28, nI_clamp (by omega), if_neg c34, if_neg c48, if_neg c62, c82]
              rfl
          · refine pm_aload_n dX5_room_65 rfl ?_
            refine pm_getR (ci := 5) (j := 5) (n := 39) (by first | assumption | rfl) (by decide) (by decide) rfl fl_RX5_16 rfl (by first | assumption | rfl) dX5_room_66 ?_
            refine pm_iload_n dX5_room_69 rfl ?_
            refine pm_zaldN (by first | assumption | rfl) (by omega) (by first | decide | omega) dX5_room_70 ?_
            rw [hat.2.2]
            refine pm_if_eq (tgt := 89) dX5_room_71 (by decide) (fun c71 => ?_) (fun c71 => ?_)
            · refine pm_iconst (x := 0) dX5_room_89 rfl ?_
              refine pm_iret dX5_room_90 rfl ?_
              refine ⟨?_, rfl⟩
              rw [pu_room, if_pos c9, if_pos c28, nI_clamp (by omega), if_neg c34, if_neg c48, if_pos c62, c71]
            · refine pm_goto (tgt := 85) dX5_room_74 (by decide) ?_
              refine pm_iconst (x := 1) dX5_room_85 rfl ?_
              refine pm_goto (tgt := 90) dX5_room_86 (by decide) ?_
              refine pm_iret dX5_room_90 rfl ?_
              refine ⟨?_, rfl⟩
              rw [pu_room, if_pos c9, if_pos c28, nI_clamp (by omega), if_neg c34, if_neg c48, if_pos c62]
              exact (heo.2.2.2.resolve_left c71).symm
        · refine pm_aload_n dX5_room_51 rfl ?_
          refine pm_getR (ci := 5) (j := 4) (n := 39) (by first | assumption | rfl) (by decide) (by decide) rfl fl_RX5_13 rfl (by first | assumption | rfl) dX5_room_52 ?_
          refine pm_iload_n dX5_room_55 rfl ?_
          refine pm_ialdN (by first | assumption | rfl) (by omega) (by first | decide | omega) dX5_room_56 ?_
          refine pm_goto (tgt := 90) dX5_room_57 (by decide) ?_
          refine pm_iret dX5_room_90 rfl ?_
          refine ⟨?_, rfl⟩
          rw [pu_room, if_pos c9, if_pos c28, nI_clamp (by omega), if_neg c34, if_pos c48]
          exact hat.2.1
      · refine pm_aload_n dX5_room_37 rfl ?_
        refine pm_getR (ci := 5) (j := 3) (n := 39) (by first | assumption | rfl) (by decide) (by decide) rfl fl_RX5_7 rfl (by first | assumption | rfl) dX5_room_38 ?_
        refine pm_iload_n dX5_room_41 rfl ?_
        refine pm_ialdN (by first | assumption | rfl) (by omega) (by first | decide | omega) dX5_room_42 ?_
        refine pm_goto (tgt := 90) dX5_room_43 (by decide) ?_
        refine pm_iret dX5_room_90 rfl ?_
        refine ⟨?_, rfl⟩
        rw [pu_room, if_pos c9, if_pos c28, nI_clamp (by omega), if_pos c34]
        exact hat.1
    · refine pm_iconst (x := -1) dX5_room_31 rfl ?_
      refine pm_iret dX5_room_32 rfl ?_
      rw [pm_z_0] at c28
      refine ⟨?_, rfl⟩
      rw [pu_room, if_pos c9, if_neg (by rw [c28]; decide)]
  · refine pm_bipush (x := -102) dX5_room_12 rfl ?_
    refine pm_iret dX5_room_14 rfl ?_
    rw [pm_z_0] at c9
    refine ⟨?_, rfl⟩
    rw [pu_room, if_neg (by rw [c9]; decide)]

