theorem abs_cs {b a : Int32} (hb : 0 ≤ b ∧ b ≤ 63) (ha : 0 ≤ a ∧ a ≤ 63) : (a < b → b - a = ab_abs (b - a)) ∧ (b ≤ a → a - b = ab_abs (b - a)) := by
  obtain ⟨j, hj, rfl⟩ := nI_of2 (n := 63) (M := 63) (by decide) (Int32.not_lt.mpr hb.1) hb.2
  obtain ⟨i, hi, rfl⟩ := nI_of2 (n := 63) (M := 63) (by decide) (Int32.not_lt.mpr ha.1) ha.2
  have h1 : (nI j - nI i).toInt = (j : Int) - i := pk_sub_toInt (by omega) (by omega)
  have h2 : (nI i - nI j).toInt = (i : Int) - j := pk_sub_toInt (by omega) (by omega)
  have h0 : (0 : Int32).toInt = 0 := by decide
  rw [nI_ltI (by omega) (by omega), nI_leI (by omega) (by omega)]
  refine ⟨fun h => ?_, fun h => ?_⟩
  · rw [ab_abs, if_pos]
    rw [Int32.le_iff_toInt_le, h1, h0]
    omega
  · apply Int32.toInt_inj.mp
    rw [h2, ab_abs]
    split
    next h => rw [Int32.le_iff_toInt_le, h1, h0] at h; rw [h1]; omega
    next h =>
      rw [Int32.toInt_neg, h1, Int.bmod_eq_of_le] <;> omega
theorem mr_add {w w1 : pm_W} {l : List ab_E} (h : mr w l) {e : ab_E} (h6 : w1.1 83 6 = nI (l.length + 1)) (h84 : w1.1 84 = upd (w.1 84) l.length e.1) (h85 : w1.1 85 = upd (w.1 85) l.length (nI e.2.1)) (h86 : w1.1 86 = upd (w.1 86) l.length e.2.2) : mr w1 (l ++ [e]) := by
  refine ⟨by rw [h6, List.length_append, List.length_singleton], fun i x hx => ?_⟩
  rw [h84, h85, h86]
  by_cases hi : i < l.length
  · rw [List.getElem?_append_left hi] at hx
    rw [pk_un (by omega), pk_un (by omega), pk_un (by omega)]
    exact h.2 i x hx
  · have hl := (List.getElem?_eq_some_iff.mp hx).1
    rw [List.length_append, List.length_singleton] at hl
    have : i = l.length := by omega
    subst this
    rw [List.getElem?_append_right (by omega), Nat.sub_self] at hx
    cases hx
    rw [pk_us, pk_us, pk_us]
    exact ⟨rfl, rfl, rfl⟩
def ab_sn (S : ab_S) (p : Nat) (z : Bool) : ab_S := if z = true then (S.1, S.2.1, va_up S.2.2.1 p (ab_inc (S.2.2.1 p) 3), S.2.2.2) else S
theorem I_sn {S : ab_S} (h : ab_I S) {p : Nat} (hp : p < 4) (z : Bool) : ab_I (ab_sn S p z) := by
  unfold ab_sn
  split
  · obtain ⟨h1, h2, h3, h4, h5, h6, h7, h8, h9⟩ := h
    exact ⟨h1, h2, h3, h4, h5, aok_up h6 (aok_inc (h6 _ hp) 3), h7, h8, h9⟩
  · exact h

theorem mo_room2 {w w1 : pm_W} {S : ab_S} {l : List ab_E} (h : mo_R w S) (hl : mr w1 l) (hf : mfr w w1 [84, 85, 86] [6, 27]) : mo_R w1 (l, S.2) := by
  obtain ⟨h1, h2, h3, h4, h5⟩ := h
  exact ⟨hl, ml_cong h2 (hf.2.1 9 (by decide)) (hf.1 87 (by decide) (by decide)) (hf.1 88 (by decide) (by decide)), fun p hp => moA_cong (h3 p hp) (fun a q1 q2 => hf.1 a (by omega) (by simp; omega)), mn_cong h4 (fun j hj => hf.2.1 j (by simp; omega)), mw_cong h5 (hf.2.1 24 (by decide)) (hf.1 99 (by decide) (by decide))⟩
theorem serve_add {w : pm_W} {S : ab_S} (hR : mo_R w S) (hl : S.1.length < 12) {b : Int32} {p : Nat} {z : Bool} {Q : Option Value → pm_W → Prop} (hQ0 : ∃ post, Q = pm_qv post) (hQ : ∀ w1, mo_R w1 (S.1 ++ [(b, p, pm_z z)], S.2) → w1.1 83 27 = w.1 83 27 + 1 → mfr w w1 [84, 85, 86] [6, 27] → Q none w1) : pm_R pm_L0 MX5_serve 68 [some (.ref 83), some (.int b), some (.int (nI p)), some (.int (pm_z z))] [] w Q := by
  obtain ⟨post, rfl⟩ := hQ0
  obtain ⟨g1, g2, g3, g4, g5⟩ := id hR
  have hQ : ∀ w1, mo_R w1 (S.1 ++ [(b, p, pm_z z)], S.2) → mfr w w1 [84, 85, 86] [6, 27] → w1.1 83 27 = w.1 83 27 + 1 → mfr w w1 [84, 85, 86] [6, 27] → post w1 := fun w1 a1 a2 a3 a4 => (hQ w1 a1 a3 a4).2
  refine pm_aload_n dX5_serve_68 rfl ?_
  refine pm_getR (ci := 5) (j := 3) (n := 39) (by first | assumption | rfl) (by decide) (by decide) rfl fl_RX5_7 rfl (by first | assumption | rfl) dX5_serve_69 ?_
  refine pm_aload_n dX5_serve_72 rfl ?_
  refine pm_getI (ci := 5) (j := 6) (n := 39) (by first | assumption | rfl) (by decide) (by decide) rfl fl_RX5_111 rfl dX5_serve_73 ?_
  rw [g1.1]
  refine pm_iload_n dX5_serve_76 rfl ?_
  refine pm_iastN (by first | assumption | rfl) (by omega) (by first | decide | omega) dX5_serve_77 ?_
  refine pm_aload_n dX5_serve_78 rfl ?_
  refine pm_getR (ci := 5) (j := 4) (n := 39) (by first | assumption | rfl) (by decide) (by decide) rfl fl_RX5_13 rfl (by first | assumption | rfl) dX5_serve_79 ?_
  refine pm_aload_n dX5_serve_82 rfl ?_
  refine pm_getI (ci := 5) (j := 6) (n := 39) (by first | assumption | rfl) (by decide) (by decide) rfl fl_RX5_111 rfl dX5_serve_83 ?_
  refine pm_topi (nI S.1.length) (by rw [pm_s_ne (by decide)]; exact g1.1) ?_
  refine pm_iload_n dX5_serve_86 rfl ?_
  refine pm_iastN (by first | assumption | rfl) (by omega) (by first | decide | omega) dX5_serve_87 ?_
  refine pm_aload_n dX5_serve_88 rfl ?_
  refine pm_getR (ci := 5) (j := 5) (n := 39) (by first | assumption | rfl) (by decide) (by decide) rfl fl_RX5_16 rfl (by first | assumption | rfl) dX5_serve_89 ?_
  refine pm_aload_n dX5_serve_92 rfl ?_
  refine pm_getI (ci := 5) (j := 6) (n := 39) (by first | assumption | rfl) (by decide) (by decide) rfl fl_RX5_111 rfl dX5_serve_93 ?_
  refine pm_topi (nI S.1.length) (by rw [pm_s_ne (by decide), pm_s_ne (by decide)]; exact g1.1) ?_
  refine pm_iload_n dX5_serve_96 rfl ?_
  refine pm_zastN (by first | assumption | rfl) (by omega) (by first | decide | omega) (by exact pm_z_or z) dX5_serve_97 ?_
  refine pm_aload_n dX5_serve_98 rfl ?_
  refine pm_dup dX5_serve_99 rfl ?_
  refine pm_getI (ci := 5) (j := 6) (n := 39) (by first | assumption | rfl) (by decide) (by decide) rfl fl_RX5_111 rfl dX5_serve_100 ?_
  refine pm_iconst (x := 1) dX5_serve_103 rfl ?_
  refine pm_iadd dX5_serve_104 ?_
  refine pm_putI (ci := 5) (j := 6) (n := 39) (by first | assumption | rfl) (by decide) (by decide) rfl fl_RX5_111 rfl rfl dX5_serve_105 ?_
  refine pm_aload_n dX5_serve_108 rfl ?_
  refine pm_dup dX5_serve_109 rfl ?_
  refine pm_getI (ci := 5) (j := 27) (n := 39) (by first | assumption | rfl) (by decide) (by decide) rfl fl_RX5_164 rfl dX5_serve_110 ?_
  refine pm_iconst (x := 1) dX5_serve_113 rfl ?_
  refine pm_iadd dX5_serve_114 ?_
  refine pm_putI (ci := 5) (j := 27) (n := 39) (by first | assumption | rfl) (by decide) (by decide) rfl fl_RX5_164 rfl rfl dX5_serve_115 ?_
  refine pm_goto (tgt := 149) dX5_serve_118 (by decide) ?_
  refine pm_vret dX5_serve_149 rfl ?_
  refine hQ _ (mo_room2 hR ?_ ?_) ?_ ?_ ?_
  · exact mr_add (e := (b, p, pm_z z)) g1 (by simp [pm_s, upd, g1.1, nI_1]) (by simp [pm_s]) (by simp [pm_s]) (by simp [pm_s])
  · exact mfr_j (mfr_j (mfr_c (mfr_c (mfr_c (mfr_rf _ [84, 85, 86] [6, 27]) (k := 84) (by decide) (by decide) _) (k := 85) (by decide) (by decide) _) (k := 86) (by decide) (by decide) _) (j := 6) (by decide) _) (j := 27) (by decide) _
  · exact mfr_j (mfr_j (mfr_c (mfr_c (mfr_c (mfr_rf _ [84, 85, 86] [6, 27]) (k := 84) (by decide) (by decide) _) (k := 85) (by decide) (by decide) _) (k := 86) (by decide) (by decide) _) (j := 6) (by decide) _) (j := 27) (by decide) _
  · simp [pm_s, upd]
  · exact mfr_j (mfr_j (mfr_c (mfr_c (mfr_c (mfr_rf _ [84, 85, 86] [6, 27]) (k := 84) (by decide) (by decide) _) (k := 85) (by decide) (by decide) _) (k := 86) (by decide) (by decide) _) (j := 6) (by decide) _) (j := 27) (by decide) _

set_option maxRecDepth 4000 in
theorem serve_60 {w : pm_W} {S : ab_S} {b : Int32} (hR : mo_R w (S.1, S.2.1, S.2.2.1, ab_arm S.2.2.2.1 b, S.2.2.2.2)) (hI : ab_I (S.1, S.2.1, S.2.2.1, ab_arm S.2.2.2.1 b, S.2.2.2.2)) {p : Nat} (hp : p < 4) (z : Bool) {w0 : pm_W} (h27 : w.1 83 27 = w0.1 83 27) (hf : mfr w0 w [84, 85, 86, 91, 98] [6, 10, 12, 27]) : pm_R pm_L0 MX5_serve 60 [some (.ref 83), some (.int b), some (.int (nI p)), some (.int (pm_z z))] [] w (pm_qv fun w2 => mo_R w2 (ab_serve S b p (pm_z z)).1 ∧ w2.1 83 27 = w0.1 83 27 + (ab_serve S b p (pm_z z)).2 ∧ mfr w0 w2 [84, 85, 86, 91, 98] [6, 10, 12, 27]) := by
  obtain ⟨g1, g2, g3, g4, g5⟩ := id hR
  obtain ⟨⟨sp, i1, i2, i3, i4⟩, i5, i6, i7, i8, i9, i10, i11, i12⟩ := id hI
  refine pm_aload_n dX5_serve_60 rfl ?_
  refine pm_iload_n dX5_serve_61 rfl ?_
  refine pm_cVi (as := [.int _]) (by first | assumption | rfl) (by decide) rfl ml_RX5_161 (by decide) (Nat.le_of_ble_eq_true rfl) dX5_serve_62 (c_X5_makesRoom hR hI hp) (fun x1 w1 hq => ?_)
  rcases hq with ⟨m1, rfl, hw1⟩ | ⟨m1, m2, rfl, m4, m5⟩ | ⟨m1, m2, rfl, hw1⟩
  · have hw1 := hw1.symm
    subst hw1
    have m1 : nI S.1.length < S.2.2.2.1 4 := m1
    have i1 : S.2.2.2.1 4 = nI sp := i1
    have i4 : S.1.length ≤ sp := i4
    have hlt : S.1.length < 12 := by
      rw [i1, nI_ltI (by omega) (by omega)] at m1
      omega
    refine pm_if_eq (tgt := 121) dX5_serve_65 (by decide) (fun c65 => absurd c65 (by decide)) (fun c65 => ?_)
    refine serve_add hR (show S.1.length < 12 by omega) ⟨_, rfl⟩ (fun w2 a1 a2 a3 => ⟨rfl, ?_⟩)
    rw [ab_serve, if_pos m1]
    exact ⟨a1, by rw [a2, h27], mfr_tr hf (mfr_wd a3 (by decide) (by decide))⟩
  · have m1 : ¬ nI S.1.length < S.2.2.2.1 4 := m1
    have m2 : ab_lv S.1 S.2.2.1 p < S.1.length := m2
    have i4 : S.1.length ≤ sp := i4
    refine pm_if_eq (tgt := 121) dX5_serve_65 (by decide) (fun c65 => absurd c65 (by decide)) (fun c65 => ?_)
    refine serve_add m4 (by show (S.1.eraseIdx _).length < 12; rw [List.length_eraseIdx, if_pos m2]; omega) ⟨_, rfl⟩ (fun w2 a1 a2 a3 => ⟨rfl, ?_⟩)
    rw [ab_serve, if_neg m1, if_pos m2]
    exact ⟨a1, by rw [a2, m5.2.1 27 (by decide), h27], mfr_tr hf (mfr_tr (mfr_wd m5 (by decide) (by decide)) (mfr_wd a3 (by decide) (by decide)))⟩
  · have hw1 := hw1.symm
    subst hw1
    have m1 : ¬ nI S.1.length < S.2.2.2.1 4 := m1
    have m2 : ¬ ab_lv S.1 S.2.2.1 p < S.1.length := m2
    refine pm_if_eq (tgt := 121) dX5_serve_65 (by decide) (fun c65 => ?_) (fun c65 => absurd rfl c65)
    refine pm_iload_n dX5_serve_121 rfl ?_
    refine pm_if_eq (tgt := 133) dX5_serve_122 (by decide) (fun c122 => ?_) (fun c122 => ?_)
    · refine pm_aload_n dX5_serve_133 rfl ?_
      refine pm_getR (ci := 5) (j := 22) (n := 39) (by first | assumption | rfl) (by decide) (by decide) rfl fl_RX5_53 rfl (by first | assumption | rfl) dX5_serve_134 ?_
      refine pm_bipush (x := nI 7) dX5_serve_137 rfl ?_
      refine pm_iload_n dX5_serve_139 rfl ?_
      refine pm_imul dX5_serve_140 ?_
      refine pm_bipush (x := nI 6) dX5_serve_141 rfl ?_
      refine pm_iadd dX5_serve_143 ?_
      refine pm_topi (nI (7 * p + 6)) (by rw [pk_mul, nI_add]) ?_
      refine pm_dup2 dX5_serve_144 rfl rfl ?_
      refine pm_ialdN (by first | assumption | rfl) (by first | assumption | omega | decide) (by first | decide | omega) dX5_serve_145 ?_
      refine pm_iconst (x := 1) dX5_serve_146 rfl ?_
      refine pm_iadd dX5_serve_147 ?_
      refine pm_iastN (by first | assumption | rfl) (by first | assumption | omega | decide) (by first | decide | omega) dX5_serve_148 ?_
      refine pm_vret dX5_serve_149 rfl ?_
      rw [pm_z_0] at c122
      rw [ab_serve, if_neg m1, if_neg m2, c122]
      refine ⟨?_, ?_, mfr_tr hf (mfr_wd (mfr_c (mfr_rf _ [98] []) (by decide) (by decide) _) (by decide) (by decide))⟩
      · rw [ab_ta, if_neg (by decide)]
        refine mo_ask hR (fun q hq => ?_) (mfr_wd (mfr_c (mfr_rf _ [98] []) (k := 98) (by decide) (by decide) _) (by decide) (by decide))
        have h9 := mo_inc (p := p) (j := 6) (by decide) (show mo_A w q (S.2.2.1 q) from g3 q hq)
        by_cases hqp : q = p
        · subst hqp; rw [if_pos rfl] at h9; rw [va_up_self]; exact h9
        · rw [if_neg hqp] at h9; rw [va_up_ne _ _ hqp]; exact h9
      · rw [pm_s_ne (by decide), h27, Int32.add_zero]
    · refine pm_aload_n dX5_serve_125 rfl ?_
      refine pm_iload_n dX5_serve_126 rfl ?_
      refine pm_cVv (as := [.int _]) (by first | assumption | rfl) (by decide) rfl ml_RX5_154 (by decide) (Nat.le_of_ble_eq_true rfl) dX5_serve_127 (c_X5_waste hp g3) (fun w3 hq => ?_)
      obtain ⟨q1, q2⟩ := hq
      refine pm_goto (tgt := 149) dX5_serve_130 (by decide) ?_
      refine pm_vret dX5_serve_149 rfl ?_
      rw [pm_z_1] at c122
      rw [ab_serve, if_neg m1, if_neg m2, c122]
      refine ⟨?_, ?_, mfr_tr hf (mfr_wd q2 (by decide) (by decide))⟩
      · rw [ab_ta, if_pos (by decide)]
        exact mo_ask hR q1 (mfr_wd q2 (by decide) (by decide))
      · rw [q2.2.1 27 (by decide), h27, Int32.add_zero]

