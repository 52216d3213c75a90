set_option maxRecDepth 4000 in
theorem hit_93 {w : pm_W} {S : ab_S} (hR : mo_R w S) (hl : S.1.length ≤ 12) (hz : ∀ e ∈ S.1, e.2.2 = 0 ∨ e.2.2 = 1) {i : Nat} (hil : i < S.1.length) (x1 b : Int32) (o : Nat) : pm_R pm_L0 MX5_hit 93 [some (.ref 83), some (.int x1), some (.int (nI i)), some (.int b), some (.int (nI o))] [] w (pm_qv fun w1 => mo_R w1 (S.1.eraseIdx i ++ [(b, o, 0)], S.2) ∧ mfr w w1 [84, 85, 86] [6]) := by
  obtain ⟨g1, g2, g3, g4, g5⟩ := id hR
  refine pm_aload_n dX5_hit_93 rfl ?_
  refine pm_iload_n dX5_hit_94 rfl ?_
  refine pm_cVv (as := [.int _]) (by first | assumption | rfl) (by decide) rfl ml_RX5_158 (by decide) (Nat.le_of_ble_eq_true rfl) dX5_hit_95 (c_X5_drop g1 hl hz hil) (fun w1 hq => ?_)
  obtain ⟨q1, hf⟩ := hq
  have hlen : (S.1.eraseIdx i).length < 12 := by rw [List.length_eraseIdx, if_pos hil]; omega
  refine pm_aload_n dX5_hit_98 rfl ?_
  refine pm_getR (ci := 5) (j := 3) (n := 39) (by first | assumption | rfl) (by decide) (by decide) rfl fl_RX5_7 rfl (by first | assumption | rfl) dX5_hit_99 ?_
  refine pm_aload_n dX5_hit_102 rfl ?_
  refine pm_getI (ci := 5) (j := 6) (n := 39) (by first | assumption | rfl) (by decide) (by decide) rfl fl_RX5_111 rfl dX5_hit_103 ?_
  rw [q1.1]
  refine pm_iload_n dX5_hit_106 rfl ?_
  refine pm_iastN (by first | assumption | rfl) (by omega) (by first | decide | omega) dX5_hit_107 ?_
  refine pm_aload_n dX5_hit_108 rfl ?_
  refine pm_getR (ci := 5) (j := 4) (n := 39) (by first | assumption | rfl) (by decide) (by decide) rfl fl_RX5_13 rfl (by first | assumption | rfl) dX5_hit_109 ?_
  refine pm_aload_n dX5_hit_112 rfl ?_
  refine pm_getI (ci := 5) (j := 6) (n := 39) (by first | assumption | rfl) (by decide) (by decide) rfl fl_RX5_111 rfl dX5_hit_113 ?_
  refine pm_topi (nI (S.1.eraseIdx i).length) (by rw [pm_s_ne (by decide)]; exact q1.1) ?_
  refine pm_iload dX5_hit_116 rfl ?_
  refine pm_iastN (by first | assumption | rfl) (by omega) (by first | decide | omega) dX5_hit_118 ?_
  refine pm_aload_n dX5_hit_119 rfl ?_
  refine pm_getR (ci := 5) (j := 5) (n := 39) (by first | assumption | rfl) (by decide) (by decide) rfl fl_RX5_16 rfl (by first | assumption | rfl) dX5_hit_120 ?_
  refine pm_aload_n dX5_hit_123 rfl ?_
  refine pm_getI (ci := 5) (j := 6) (n := 39) (by first | assumption | rfl) (by decide) (by decide) rfl fl_RX5_111 rfl dX5_hit_124 ?_
  refine pm_topi (nI (S.1.eraseIdx i).length) (by rw [pm_s_ne (by decide), pm_s_ne (by decide)]; exact q1.1) ?_
  refine pm_iconst (x := 0) dX5_hit_127 rfl ?_
  refine pm_zastN (by first | assumption | rfl) (by omega) (by first | decide | omega) (by first | exact Or.inl rfl | exact Or.inr rfl | assumption) dX5_hit_128 ?_
  refine pm_aload_n dX5_hit_129 rfl ?_
  refine pm_dup dX5_hit_130 rfl ?_
  refine pm_getI (ci := 5) (j := 6) (n := 39) (by first | assumption | rfl) (by decide) (by decide) rfl fl_RX5_111 rfl dX5_hit_131 ?_
  refine pm_iconst (x := 1) dX5_hit_134 rfl ?_
  refine pm_iadd dX5_hit_135 ?_
  refine pm_putI (ci := 5) (j := 6) (n := 39) (by first | assumption | rfl) (by decide) (by decide) rfl fl_RX5_111 rfl rfl dX5_hit_136 ?_
  refine pm_vret dX5_hit_139 rfl ?_
  exact ⟨mo_room hR (mr_add (e := (b, o, 0)) q1 (by simp [pm_s, upd, q1.1, nI_1]) (by simp [pm_s]) (by simp [pm_s]) (by simp [pm_s])) (mfr_j (mfr_c (mfr_c (mfr_c hf (k := 84) (by decide) (by decide) _) (k := 85) (by decide) (by decide) _) (k := 86) (by decide) (by decide) _) (j := 6) (by decide) _), mfr_j (mfr_c (mfr_c (mfr_c hf (k := 84) (by decide) (by decide) _) (k := 85) (by decide) (by decide) _) (k := 86) (by decide) (by decide) _) (j := 6) (by decide) _⟩

theorem save_min {x : Int32} (h : 0 ≤ x ∧ x ≤ 8) : (8 ≤ x → ab_min (x + 1) 8 = x + 0) ∧ (¬ 8 ≤ x → ab_min (x + 1) 8 = x + 1) := by
  obtain ⟨j, hj, rfl⟩ := nI_of2 (n := 8) (M := 8) (by decide) (Int32.not_lt.mpr h.1) h.2
  rw [show (8 : Int32) = nI 8 from rfl, nI_leI (by decide) (by omega), nI_1, ab_min]
  refine ⟨fun q => ?_, fun q => ?_⟩
  · rw [if_pos (by rw [nI_ltI (by decide) (by omega)]; omega), Int32.add_zero]
    congr 1
    omega
  · rw [if_neg (by rw [nI_ltI (by decide) (by omega)]; omega)]

set_option maxRecDepth 4000 in
theorem c_X5_hit {w : pm_W} {S : ab_S} (hR : mo_R w S) (hI : ab_I S) {p i : Nat} (hp : p < 4) (hi : i < S.1.length) : pm_C pm_L0 MX5_hit [.ref 83, .int (nI p), .int (nI i)] w (pm_qv fun w1 => mo_R w1 (ab_hit S p i) ∧ mfr w w1 [84, 85, 86, 91, 98] [6]) := by
  obtain ⟨g1, g2, g3, g4, g5⟩ := id hR
  obtain ⟨⟨sp, i1, i2, i3, i4⟩, i5, i6, i7, i8, i9, i10, i11, i12⟩ := id hI
  have hei := at_getD hi
  have heo := i6 _ (List.mem_of_getElem? hei)
  unfold ab_hit
  generalize S.1.getD i (0, 0, 0) = e at hei heo ⊢
  have he4 : e.2.1 < 4 := heo.1
  refine pm_start (lv := [some (.ref _), some (.int _), some (.int _), none, none]) (plainFor_of_name pf5) (Nat.le_of_ble_eq_true rfl) rfl ?_
  refine pm_aload_n dX5_hit_0 rfl ?_
  refine pm_getR (ci := 5) (j := 22) (n := 39) (by first | assumption | rfl) (by decide) (by decide) rfl fl_RX5_53 rfl (by first | assumption | rfl) dX5_hit_1 ?_
  refine pm_bipush (x := nI 7) dX5_hit_4 rfl ?_
  refine pm_iload_n dX5_hit_6 rfl ?_
  refine pm_imul dX5_hit_7 ?_
  refine pm_iconst (x := nI 1) dX5_hit_8 rfl ?_
  refine pm_iadd dX5_hit_9 ?_
  refine pm_topi (nI (7 * p + 1)) (by rw [pk_mul, nI_add]) ?_
  refine pm_dup2 dX5_hit_10 rfl rfl ?_
  refine pm_ialdN (by first | assumption | rfl) (by first | assumption | omega) (by first | decide | omega) dX5_hit_11 ?_
  refine pm_iconst (x := 1) dX5_hit_12 rfl ?_
  refine pm_iadd dX5_hit_13 ?_
  refine pm_iastN (by first | assumption | rfl) (by first | assumption | omega) (by first | decide | omega) dX5_hit_14 ?_
  have hB : ∀ t, t < 4 → mo_A (pm_s w 98 (upd (w.1 98) (7 * p + 1) (w.1 98 (7 * p + 1) + 1))) t (va_up S.2.2.1 p (ab_inc (S.2.2.1 p) 1) t) := fun t ht => by
    have h9 := mo_inc (p := p) (j := 1) (by decide) (g3 t ht)
    by_cases htp : t = p
    · subst htp; rw [if_pos rfl] at h9; rw [va_up_self]; exact h9
    · rw [if_neg htp] at h9; rw [va_up_ne _ _ htp]; exact h9
  have hf1 : mfr w (pm_s w 98 (upd (w.1 98) (7 * p + 1) (w.1 98 (7 * p + 1) + 1))) [84, 85, 86, 91, 98] [6] := mfr_c (mfr_rf _ _ _) (by decide) (by decide) _
  have hR1 := mo_ask hR hB (mfr_wd (mfr_c (mfr_rf w [98] []) (k := 98) (by decide) (by decide) _) (by decide) (by decide))
  generalize (pm_s w 98 (upd (w.1 98) (7 * p + 1) (w.1 98 (7 * p + 1) + 1))) = wa at hB hf1 hR1 ⊢
  have hgi := hR1.1.2 i e hei
  refine pm_aload_n dX5_hit_15 rfl ?_
  refine pm_getR (ci := 5) (j := 3) (n := 39) (by first | assumption | rfl) (by decide) (by decide) rfl fl_RX5_7 rfl (by first | assumption | rfl) dX5_hit_16 ?_
  refine pm_iload_n dX5_hit_19 rfl ?_
  refine pm_ialdN (by first | assumption | rfl) (by first | assumption | omega) (by first | decide | omega) dX5_hit_20 ?_
  rw [hgi.1]
  refine pm_istore_n (lv' := [some (.ref _), some (.int _), some (.int _), some (.int _), none]) dX5_hit_21 (by decide) rfl ?_
  refine pm_aload_n dX5_hit_22 rfl ?_
  refine pm_getR (ci := 5) (j := 4) (n := 39) (by first | assumption | rfl) (by decide) (by decide) rfl fl_RX5_13 rfl (by first | assumption | rfl) dX5_hit_23 ?_
  refine pm_iload_n dX5_hit_26 rfl ?_
  refine pm_ialdN (by first | assumption | rfl) (by first | assumption | omega) (by first | decide | omega) dX5_hit_27 ?_
  rw [hgi.2.1]
  refine pm_istore (lv' := [some (.ref _), some (.int _), some (.int _), some (.int _), some (.int _)]) dX5_hit_28 (by decide) rfl ?_
  refine pm_aload_n dX5_hit_30 rfl ?_
  refine pm_getR (ci := 5) (j := 5) (n := 39) (by first | assumption | rfl) (by decide) (by decide) rfl fl_RX5_16 rfl (by first | assumption | rfl) dX5_hit_31 ?_
  refine pm_iload_n dX5_hit_34 rfl ?_
  refine pm_zaldN (by first | assumption | rfl) (by first | assumption | omega) (by first | decide | omega) dX5_hit_35 ?_
  rw [hgi.2.2]
  refine pm_if_eq (tgt := 93) dX5_hit_36 (by decide) (fun c36 => ?_) (fun c36 => ?_)
  · refine pm_Rm (hit_93 hR1 (by show S.1.length ≤ 12; omega) (fun x hx => (i6 x hx).2.2.2) hi (nI p) e.1 e.2.1) (fun w2 h2 => ?_)
    refine ⟨?_, mfr_tr hf1 (mfr_wd h2.2 (by decide) (by decide))⟩
    rw [if_neg (fun h => by rw [c36] at h; exact absurd h (by decide))]
    exact h2.1
  · refine pm_aload_n dX5_hit_39 rfl ?_
    refine pm_getR (ci := 5) (j := 22) (n := 39) (by first | assumption | rfl) (by decide) (by decide) rfl fl_RX5_53 rfl (by first | assumption | rfl) dX5_hit_40 ?_
    refine pm_bipush (x := nI 7) dX5_hit_43 rfl ?_
    refine pm_iload dX5_hit_45 rfl ?_
    refine pm_imul dX5_hit_47 ?_
    refine pm_iconst (x := nI 5) dX5_hit_48 rfl ?_
    refine pm_iadd dX5_hit_49 ?_
    refine pm_topi (nI (7 * e.2.1 + 5)) (by rw [pk_mul, nI_add]) ?_
    refine pm_dup2 dX5_hit_50 rfl rfl ?_
    refine pm_ialdN (by first | assumption | rfl) (by first | assumption | omega) (by first | decide | omega) dX5_hit_51 ?_
    refine pm_iconst (x := 1) dX5_hit_52 rfl ?_
    refine pm_iadd dX5_hit_53 ?_
    refine pm_iastN (by first | assumption | rfl) (by first | assumption | omega) (by first | decide | omega) dX5_hit_54 ?_
    have hD : ∀ t, t < 4 → mo_A (pm_s wa 98 (upd (wa.1 98) (7 * e.2.1 + 5) (wa.1 98 (7 * e.2.1 + 5) + 1))) t (if t = e.2.1 then ab_inc (va_up S.2.2.1 p (ab_inc (S.2.2.1 p) 1) t) 5 else va_up S.2.2.1 p (ab_inc (S.2.2.1 p) 1) t) := fun t ht => mo_inc (by decide) (hB t ht)
    have hf2 : mfr w (pm_s wa 98 (upd (wa.1 98) (7 * e.2.1 + 5) (wa.1 98 (7 * e.2.1 + 5) + 1))) [84, 85, 86, 91, 98] [6] := mfr_c hf1 (by decide) (by decide) _
    have hfa : mfr wa (pm_s wa 98 (upd (wa.1 98) (7 * e.2.1 + 5) (wa.1 98 (7 * e.2.1 + 5) + 1))) [91, 98] [] := mfr_c (mfr_rf _ _ _) (by decide) (by decide) _
    generalize (pm_s wa 98 (upd (wa.1 98) (7 * e.2.1 + 5) (wa.1 98 (7 * e.2.1 + 5) + 1))) = wb at hD hf2 hfa ⊢
    have hDo := hD e.2.1 he4
    rw [if_pos rfl] at hDo
    obtain ⟨A1, hA1⟩ : ∃ A1, va_up S.2.2.1 p (ab_inc (S.2.2.1 p) 1) e.2.1 = A1 := ⟨_, rfl⟩
    have hok : ab_aok A1 := by rw [← hA1]; exact aok_up i9 (aok_inc (i9 p hp) 1) e.2.1 he4
    rw [hA1] at hDo ⊢
    refine pm_aload_n dX5_hit_55 rfl ?_
    refine pm_getR (ci := 5) (j := 15) (n := 39) (by first | assumption | rfl) (by decide) (by decide) rfl fl_RX5_32 rfl (by first | assumption | rfl) dX5_hit_56 ?_
    refine pm_iload dX5_hit_59 rfl ?_
    refine pm_dup2 dX5_hit_61 rfl rfl ?_
    refine pm_ialdN (by first | assumption | rfl) (by first | assumption | omega) (by first | decide | omega) dX5_hit_62 ?_
    refine pm_aload_n dX5_hit_63 rfl ?_
    refine pm_getR (ci := 5) (j := 13) (n := 39) (by first | assumption | rfl) (by decide) (by decide) rfl fl_RX5_26 rfl (by first | assumption | rfl) dX5_hit_64 ?_
    refine pm_iload dX5_hit_67 rfl ?_
    refine pm_ialdN (by first | assumption | rfl) (by first | assumption | omega) (by first | decide | omega) dX5_hit_69 ?_
    rw [show wb.1 89 e.2.1 = A1.1 2 from hDo.1]
    refine pm_iconst (x := 5) dX5_hit_70 rfl ?_
    refine pm_icmp_ne (tgt := 90) dX5_hit_71 (by decide) (fun c71 => ?_) (fun c71 => ?_)
    · refine pm_iconst (x := 0) dX5_hit_90 rfl ?_
      refine pm_iadd dX5_hit_91 ?_
      refine pm_iastN (by first | assumption | rfl) (by first | assumption | omega) (by first | decide | omega) dX5_hit_92 ?_
      have hC : ∀ t, t < 4 → mo_A (pm_s wb 91 (upd (wb.1 91) e.2.1 (wb.1 91 e.2.1 + 0))) t (va_up (va_up S.2.2.1 p (ab_inc (S.2.2.1 p) 1)) e.2.1 (ab_save A1) t) := fun t ht => by
        by_cases hto : t = e.2.1
        · subst hto
          rw [va_up_self]
          have h9 := mo_own (p := e.2.1) (x := wb.1 91 e.2.1 + 0) hDo (fun _ h => absurd h c71)
          rw [ab_save, if_neg c71]
          exact h9
        · have h9 := mo_own (p := e.2.1) (x := wb.1 91 e.2.1 + 0) (hD t ht) (fun h => absurd h hto)
          rw [if_neg hto] at h9
          rw [va_up_ne _ _ hto]
          exact h9
      refine pm_Rm (hit_93 (mo_ask hR1 hC (mfr_wd (mfr_c hfa (k := 91) (by decide) (by decide) _) (by decide) (by decide))) (by show S.1.length ≤ 12; omega) (fun x hx => (i6 x hx).2.2.2) hi (nI p) e.1 e.2.1) (fun w2 h2 => ?_)
      refine ⟨?_, mfr_tr (mfr_c hf2 (by decide) (by decide) _) (mfr_wd h2.2 (by decide) (by decide))⟩
      rw [if_pos (heo.2.2.2.resolve_left c36)]
      exact h2.1
    · refine pm_aload_n dX5_hit_74 rfl ?_
      refine pm_getR (ci := 5) (j := 15) (n := 39) (by first | assumption | rfl) (by decide) (by decide) rfl fl_RX5_32 rfl (by first | assumption | rfl) dX5_hit_75 ?_
      refine pm_iload dX5_hit_78 rfl ?_
      refine pm_ialdN (by first | assumption | rfl) (by first | assumption | omega) (by first | decide | omega) dX5_hit_80 ?_
      have e91 : wb.1 91 e.2.1 = A1.1 3 := by
        have := hDo.2.1
        rw [if_pos (show (ab_inc A1 5).1 2 = 5 from c71)] at this
        exact this
      rw [e91]
      refine pm_bipush (x := 8) dX5_hit_81 rfl ?_
      refine pm_icmp_ge (tgt := 90) dX5_hit_83 (by decide) (fun c83 => ?_) (fun c83 => ?_)
      · refine pm_iconst (x := 0) dX5_hit_90 rfl ?_
        refine pm_iadd dX5_hit_91 ?_
        refine pm_iastN (by first | assumption | rfl) (by first | assumption | omega) (by first | decide | omega) dX5_hit_92 ?_
        rw [← e91]
        have hC : ∀ t, t < 4 → mo_A (pm_s wb 91 (upd (wb.1 91) e.2.1 (wb.1 91 e.2.1 + 0))) t (va_up (va_up S.2.2.1 p (ab_inc (S.2.2.1 p) 1)) e.2.1 (ab_save A1) t) := fun t ht => by
          by_cases hto : t = e.2.1
          · subst hto
            rw [va_up_self]
            have h9 := mo_own5 (x := wb.1 91 e.2.1 + 0) hDo c71
            rw [ab_save, if_pos c71, (save_min hok.2.2.2.1).1 c83, ← e91]
            exact h9
          · have h9 := mo_own (p := e.2.1) (x := wb.1 91 e.2.1 + 0) (hD t ht) (fun h => absurd h hto)
            rw [if_neg hto] at h9
            rw [va_up_ne _ _ hto]
            exact h9
        refine pm_Rm (hit_93 (mo_ask hR1 hC (mfr_wd (mfr_c hfa (k := 91) (by decide) (by decide) _) (by decide) (by decide))) (by show S.1.length ≤ 12; omega) (fun x hx => (i6 x hx).2.2.2) hi (nI p) e.1 e.2.1) (fun w2 h2 => ?_)
        refine ⟨?_, mfr_tr (mfr_c hf2 (by decide) (by decide) _) (mfr_wd h2.2 (by decide) (by decide))⟩
        rw [if_pos (heo.2.2.2.resolve_left c36)]
        exact h2.1
      · refine pm_iconst (x := 1) dX5_hit_86 rfl ?_
        refine pm_goto (tgt := 91) dX5_hit_87 (by decide) ?_
        refine pm_iadd dX5_hit_91 ?_
        refine pm_iastN (by first | assumption | rfl) (by first | assumption | omega) (by first | decide | omega) dX5_hit_92 ?_
        rw [← e91]
        have hC : ∀ t, t < 4 → mo_A (pm_s wb 91 (upd (wb.1 91) e.2.1 (wb.1 91 e.2.1 + 1))) t (va_up (va_up S.2.2.1 p (ab_inc (S.2.2.1 p) 1)) e.2.1 (ab_save A1) t) := fun t ht => by
          by_cases hto : t = e.2.1
          · subst hto
            rw [va_up_self]
            have h9 := mo_own5 (x := wb.1 91 e.2.1 + 1) hDo c71
            rw [ab_save, if_pos c71, (save_min hok.2.2.2.1).2 c83, ← e91]
            exact h9
          · have h9 := mo_own (p := e.2.1) (x := wb.1 91 e.2.1 + 1) (hD t ht) (fun h => absurd h hto)
            rw [if_neg hto] at h9
            rw [va_up_ne _ _ hto]
            exact h9
        refine pm_Rm (hit_93 (mo_ask hR1 hC (mfr_wd (mfr_c hfa (k := 91) (by decide) (by decide) _) (by decide) (by decide))) (by show S.1.length ≤ 12; omega) (fun x hx => (i6 x hx).2.2.2) hi (nI p) e.1 e.2.1) (fun w2 h2 => ?_)
        refine ⟨?_, mfr_tr (mfr_c hf2 (by decide) (by decide) _) (mfr_wd h2.2 (by decide) (by decide))⟩
        rw [if_pos (heo.2.2.2.resolve_left c36)]
        exact h2.1

