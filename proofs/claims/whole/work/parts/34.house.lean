theorem hint_n {A : ab_A} (h : ab_aok A) {b : Int32} (hs : ab_sp A b = true) : (0 ≤ b ∧ b ≤ 63) ∧ ∃ n, ab_min (A.1 3) (A.1 6 - b) = nI n ∧ n ≤ 8 := by
  obtain ⟨-, -, -, h4, h5, -⟩ := h
  simp only [ab_sp, Bool.and_eq_true, Bool.not_eq_true', decide_eq_false_iff_not, decide_eq_true_eq] at hs
  obtain ⟨s1, s2, s3⟩ := hs
  obtain ⟨f1, f2, f3, -⟩ := h5.resolve_left s1
  have hb0 : 0 ≤ b := Int32.le_trans f1 s2
  have hb63 : b ≤ 63 := Int32.le_trans s3 f3
  obtain ⟨c, hc, rfl⟩ := nI_of2 (n := 63) (M := 63) (by decide) (Int32.not_lt.mpr hb0) hb63
  obtain ⟨t, ht, et⟩ := nI_of2 (n := 63) (M := 63) (by decide) (Int32.not_lt.mpr (Int32.le_trans hb0 s3)) f3
  obtain ⟨r, hr, er⟩ := nI_of2 (n := 8) (M := 8) (by decide) (Int32.not_lt.mpr h4.1) h4.2
  refine ⟨⟨hb0, hb63⟩, ?_⟩
  rw [et] at s3 ⊢
  rw [nI_leI (by omega) (by omega)] at s3
  rw [er, pk_sub s3, ab_min]
  by_cases hq : nI (t - c) < nI r
  · rw [if_pos hq]
    rw [nI_ltI (by omega) (by omega)] at hq
    exact ⟨t - c, rfl, by omega⟩
  · rw [if_neg hq]
    exact ⟨r, rfl, hr⟩

set_option maxRecDepth 4000 in
theorem c_X3_wish {L : pm_L} {hb : Nat} (hk : hs_ok L hb) {w : pm_W} {S : ab_S} (hR : hs_R w hb S) (hI : ab_I S) {p : Nat} (hp : p < 4) {b : Int32} (hb3 : 0 ≤ b ∧ b ≤ 63) {sd : Bool} (hsd : (!decide ((S.2.2.1 p).1 8 = 0) && decide ((S.2.2.1 p).1 8 = w.1 (hb + 13 + 3 * p) 9)) = sd) : pm_C L MX3_wish [.ref hb, .int (nI p), .int b] w (pm_qv fun w1 => hs_R w1 hb (ab_wish S p b sd) ∧ fr_out w w1 hb (hb + 25)) := by
  obtain ⟨e1, e2, e3, e4, e5, e6, e7, hdr, hdl, hap⟩ := id hk
  obtain ⟨r1, r2, r3, r4, r5, r6, r7, r8, r9⟩ := id hdr
  obtain ⟨l1, l2, l3, l4, l5, l6, l7, l8, l9⟩ := id hdl
  obtain ⟨g1, g2, g3, g4, g5, g6⟩ := id hR
  obtain ⟨⟨sp, i1, i2, i3, i4⟩, i5, i6, i7, i8, i9, i10, i11, i12⟩ := id hI
  obtain ⟨ha0, ⟨a1, a2, a3, a4, a5⟩⟩ := hap p hp
  obtain ⟨kd, hkd, ekd⟩ := nI_of2 (n := 5) (M := 5) (by decide) (Int32.not_lt.mpr (i9 p hp).2.2.1.1) (i9 p hp).2.2.1.2
  obtain ⟨r, hr8, er⟩ := nI_of2 (n := 8) (M := 8) (by decide) (Int32.not_lt.mpr (i9 p hp).2.2.2.1.1) (i9 p hp).2.2.2.1.2
  refine pm_start (lv := [some (.ref _), some (.int _), some (.int _), none]) (plainFor_of_name pf3) (Nat.le_of_ble_eq_true rfl) rfl ?_
  refine pm_aload_n dX3_wish_0 rfl ?_
  refine pm_getR (ci := 3) (j := 2) (n := 11) (by first | assumption | rfl) (by decide) (by decide) rfl fl_RX3_25 rfl (by first | assumption | rfl) dX3_wish_1 ?_
  refine pm_iload_n dX3_wish_4 rfl ?_
  refine pm_kaldN (by first | assumption | rfl) (by first | assumption | omega | decide) (by first | decide | omega) (by first | assumption | rfl) dX3_wish_5 ?_
  refine pm_astore_n (lv' := [some (.ref _), some (.int _), some (.int _), some (.ref _)]) dX3_wish_6 (by decide) rfl ?_
  refine pm_aload_n dX3_wish_7 rfl ?_
  refine pm_getI (ci := 0) (j := 2) (n := 10) (by first | assumption | rfl) (by decide) (by decide) rfl fl_RX3_160 rfl dX3_wish_8 ?_
  rw [show w.1 (hb + 13 + 3 * p) 2 = nI kd from ((g3 p hp).1 2 (by decide) (by decide)).trans ekd]
  rcases (show kd = 0 ∨ kd = 1 ∨ kd = 2 ∨ kd = 3 ∨ kd = 4 ∨ kd = 5 by omega) with rfl | rfl | rfl | rfl | rfl | rfl
  · refine pm_tableOut (tgt := 122) dX3_wish_11 (Or.inl (by decide)) (by decide) ?_
    refine pm_vret dX3_wish_122 rfl ?_
    refine ⟨?_, fr_rf _ _ _⟩
    rw [ab_wish, if_neg (by rw [ekd]; decide), if_neg (by rw [ekd]; decide), if_neg (by rw [ekd]; decide), if_neg (by rw [ekd]; decide)]
    exact hR
  · refine pm_tableIn (off := 33) (tgt := 44) dX3_wish_11 (by decide) (by decide) (by decide) (by decide) ?_
    refine pm_aload_n dX3_wish_44 rfl ?_
    refine pm_iload_n dX3_wish_45 rfl ?_
    refine pm_iload_n dX3_wish_46 rfl ?_
    refine pm_iconst (x := 1) dX3_wish_47 rfl ?_
    refine pm_aload_n dX3_wish_48 rfl ?_
    refine pm_getI (ci := 0) (j := 3) (n := 10) (by first | assumption | rfl) (by decide) (by decide) rfl fl_RX3_163 rfl dX3_wish_49 ?_
    rw [show w.1 (hb + 13 + 3 * p) 3 = nI r from ((g3 p hp).1 3 (by decide) (by decide)).trans er]
    refine pm_cVv (as := [.int _, .int _, .int _, .int _]) (by first | assumption | rfl) (by decide) rfl ml_RX3_166 (by decide) (Nat.le_of_ble_eq_true rfl) dX3_wish_52 (c_X3_wishBySteps hk hR hI hp b 1 (n := r) (by omega)) (fun w1 hq => ?_)
    obtain ⟨q1, q2⟩ := hq
    refine pm_goto (tgt := 122) dX3_wish_55 (by decide) ?_
    refine pm_vret dX3_wish_122 rfl ?_
    refine ⟨?_, q2⟩
    rw [ab_wish, if_pos (show (S.2.2.1 p).1 2 = 1 ∨ (S.2.2.1 p).1 2 = 5 from Or.inl ekd), er, nI_clamp (by omega)]
    exact q1
  · refine pm_tableIn (off := 47) (tgt := 58) dX3_wish_11 (by decide) (by decide) (by decide) (by decide) ?_
    refine pm_aload_n dX3_wish_58 rfl ?_
    refine pm_cVi (as := []) (by first | assumption | rfl) (by decide) rfl ml_RX3_170 (by decide) (Nat.le_of_ble_eq_true rfl) dX3_wish_59 (c_X0_isSteady (hap p hp).2 (g3 p hp)) (fun x1 w1 hq => ?_)
    obtain ⟨rfl, hw9⟩ := hq
    have hw9 := hw9.symm
    subst hw9
    refine pm_if_eq (tgt := 122) dX3_wish_62 (by decide) (fun c62 => ?_) (fun c62 => ?_)
    · refine pm_vret dX3_wish_122 rfl ?_
      rw [hsd, pm_z_0] at c62
      refine ⟨?_, fr_rf _ _ _⟩
      rw [ab_wish, if_neg (by rw [ekd]; decide), if_pos (show (S.2.2.1 p).1 2 = 2 from ekd), if_neg (by rw [c62]; decide)]
      exact hR
    · refine pm_aload_n dX3_wish_65 rfl ?_
      refine pm_iload_n dX3_wish_66 rfl ?_
      refine pm_iload_n dX3_wish_67 rfl ?_
      refine pm_aload_n dX3_wish_68 rfl ?_
      refine pm_getI (ci := 0) (j := 8) (n := 10) (by first | assumption | rfl) (by decide) (by decide) rfl fl_RX3_174 rfl dX3_wish_69 ?_
      rw [show w.1 (hb + 13 + 3 * p) 8 = (S.2.2.1 p).1 8 from (g3 p hp).1 8 (by decide) (by decide)]
      refine pm_aload_n dX3_wish_72 rfl ?_
      refine pm_getI (ci := 0) (j := 3) (n := 10) (by first | assumption | rfl) (by decide) (by decide) rfl fl_RX3_163 rfl dX3_wish_73 ?_
      rw [show w.1 (hb + 13 + 3 * p) 3 = nI r from ((g3 p hp).1 3 (by decide) (by decide)).trans er]
      refine pm_cVv (as := [.int _, .int _, .int _, .int _]) (by first | assumption | rfl) (by decide) rfl ml_RX3_166 (by decide) (Nat.le_of_ble_eq_true rfl) dX3_wish_76 (c_X3_wishBySteps hk hR hI hp b _ (n := r) (by omega)) (fun w1 hq => ?_)
      obtain ⟨q1, q2⟩ := hq
      refine pm_goto (tgt := 122) dX3_wish_79 (by decide) ?_
      refine pm_vret dX3_wish_122 rfl ?_
      rw [hsd, pm_z_1] at c62
      refine ⟨?_, q2⟩
      rw [ab_wish, if_neg (by rw [ekd]; decide), if_pos (show (S.2.2.1 p).1 2 = 2 from ekd), if_pos c62, er, nI_clamp (by omega)]
      exact q1
  · refine pm_tableIn (off := 71) (tgt := 82) dX3_wish_11 (by decide) (by decide) (by decide) (by decide) ?_
    refine pm_aload_n dX3_wish_82 rfl ?_
    refine pm_iload_n dX3_wish_83 rfl ?_
    refine pm_iload_n dX3_wish_84 rfl ?_
    refine pm_cVv (as := [.int _, .int _]) (by first | assumption | rfl) (by decide) rfl ml_RX3_177 (by decide) (Nat.le_of_ble_eq_true rfl) dX3_wish_85 (c_X3_wishWhatFollowed hk hR hI hp hb3 er hr8) (fun w1 hq => ?_)
    obtain ⟨q1, q2⟩ := hq
    refine pm_goto (tgt := 122) dX3_wish_88 (by decide) ?_
    refine pm_vret dX3_wish_122 rfl ?_
    refine ⟨?_, q2⟩
    rw [ab_wish, if_neg (by rw [ekd]; decide), if_neg (by rw [ekd]; decide), if_pos (show (S.2.2.1 p).1 2 = 3 from ekd), er, nI_clamp (by omega)]
    exact q1
  · refine pm_tableIn (off := 80) (tgt := 91) dX3_wish_11 (by decide) (by decide) (by decide) (by decide) ?_
    refine pm_aload_n dX3_wish_91 rfl ?_
    refine pm_iload_n dX3_wish_92 rfl ?_
    refine pm_cVi (as := [.int _]) (by first | assumption | rfl) (by decide) rfl ml_RX3_180 (by decide) (Nat.le_of_ble_eq_true rfl) dX3_wish_93 (c_X0_spans (hap p hp).2 (g3 p hp) _) (fun x1 w1 hq => ?_)
    obtain ⟨rfl, hw9⟩ := hq
    have hw9 := hw9.symm
    subst hw9
    refine pm_if_eq (tgt := 122) dX3_wish_96 (by decide) (fun c96 => ?_) (fun c96 => ?_)
    · refine pm_vret dX3_wish_122 rfl ?_
      rw [pm_z_0] at c96
      refine ⟨?_, fr_rf _ _ _⟩
      rw [ab_wish, if_neg (by rw [ekd]; decide), if_neg (by rw [ekd]; decide), if_neg (by rw [ekd]; decide), if_pos (show (S.2.2.1 p).1 2 = 4 from ekd), if_neg (by rw [c96]; decide)]
      exact hR
    · rw [pm_z_1] at c96
      obtain ⟨-, n1, hn1, hn2⟩ := hint_n (i9 p hp) c96
      refine pm_aload_n dX3_wish_99 rfl ?_
      refine pm_iload_n dX3_wish_100 rfl ?_
      refine pm_iload_n dX3_wish_101 rfl ?_
      refine pm_iconst (x := 1) dX3_wish_102 rfl ?_
      refine pm_aload_n dX3_wish_103 rfl ?_
      refine pm_getI (ci := 0) (j := 3) (n := 10) (by first | assumption | rfl) (by decide) (by decide) rfl fl_RX3_163 rfl dX3_wish_104 ?_
      rw [show w.1 (hb + 13 + 3 * p) 3 = (S.2.2.1 p).1 3 from (g3 p hp).1 3 (by decide) (by decide)]
      refine pm_aload_n dX3_wish_107 rfl ?_
      refine pm_getI (ci := 0) (j := 6) (n := 10) (by first | assumption | rfl) (by decide) (by decide) rfl fl_RX3_183 rfl dX3_wish_108 ?_
      rw [show w.1 (hb + 13 + 3 * p) 6 = (S.2.2.1 p).1 6 from (g3 p hp).1 6 (by decide) (by decide)]
      refine pm_iload_n dX3_wish_111 rfl ?_
      refine pm_isub dX3_wish_112 ?_
      refine pm_cSi (as := [.int _, .int _]) ml_RX3_186 (by decide) (Nat.le_of_ble_eq_true rfl) dX3_wish_113 (c_J9_min_7cf53 L _ _ _) (fun x1 w1 hq => ?_)
      obtain ⟨rfl, hw9⟩ := hq
      have hw9 := hw9.symm
      subst hw9
      rw [hn1]
      refine pm_cVv (as := [.int _, .int _, .int _, .int _]) (by first | assumption | rfl) (by decide) rfl ml_RX3_166 (by decide) (Nat.le_of_ble_eq_true rfl) dX3_wish_116 (c_X3_wishBySteps hk hR hI hp b 1 (n := n1) (by omega)) (fun w1 hq => ?_)
      obtain ⟨q1, q2⟩ := hq
      refine pm_goto (tgt := 122) dX3_wish_119 (by decide) ?_
      refine pm_vret dX3_wish_122 rfl ?_
      refine ⟨?_, q2⟩
      rw [ab_wish, if_neg (by rw [ekd]; decide), if_neg (by rw [ekd]; decide), if_neg (by rw [ekd]; decide), if_pos (show (S.2.2.1 p).1 2 = 4 from ekd), if_pos c96, hn1, nI_clamp (by omega)]
      exact q1
  · refine pm_tableIn (off := 33) (tgt := 44) dX3_wish_11 (by decide) (by decide) (by decide) (by decide) ?_
    refine pm_aload_n dX3_wish_44 rfl ?_
    refine pm_iload_n dX3_wish_45 rfl ?_
    refine pm_iload_n dX3_wish_46 rfl ?_
    refine pm_iconst (x := 1) dX3_wish_47 rfl ?_
    refine pm_aload_n dX3_wish_48 rfl ?_
    refine pm_getI (ci := 0) (j := 3) (n := 10) (by first | assumption | rfl) (by decide) (by decide) rfl fl_RX3_163 rfl dX3_wish_49 ?_
    rw [show w.1 (hb + 13 + 3 * p) 3 = nI r from ((g3 p hp).1 3 (by decide) (by decide)).trans er]
    refine pm_cVv (as := [.int _, .int _, .int _, .int _]) (by first | assumption | rfl) (by decide) rfl ml_RX3_166 (by decide) (Nat.le_of_ble_eq_true rfl) dX3_wish_52 (c_X3_wishBySteps hk hR hI hp b 1 (n := r) (by omega)) (fun w1 hq => ?_)
    obtain ⟨q1, q2⟩ := hq
    refine pm_goto (tgt := 122) dX3_wish_55 (by decide) ?_
    refine pm_vret dX3_wish_122 rfl ?_
    refine ⟨?_, q2⟩
    rw [ab_wish, if_pos (show (S.2.2.1 p).1 2 = 1 ∨ (S.2.2.1 p).1 2 = 5 from Or.inr ekd), er, nI_clamp (by omega)]
    exact q1

