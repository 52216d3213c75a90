set_option maxRecDepth 4000 in
theorem c_X3_serve {L : pm_L} {hb : Nat} (hk : hs_ok L hb) {w : pm_W} {S : ab_S} (hR : hs_R w hb S) (hI : ab_I S) {b : Int32} {p : Nat} {f : Int32} (he : ab_eok (b, p, f)) : pm_C L MX3_serve [.ref hb, .int b, .int (nI p), .int f] w (pm_qi fun r w1 => r = (ab_serve S b p f).2 ∧ hs_R w1 hb (ab_serve S b p f).1 ∧ fr_out w w1 hb (hb + 25)) := by
  obtain ⟨e1, e2, e3, e4, e5, e6, e7, hdr, hdl, hap⟩ := id hk
  obtain ⟨r1, r2, r3, r4, r5, r6, r7, r8, r9⟩ := id hdr
  obtain ⟨l1, l2, l3, l4, l5, l6, l7, l8, l9⟩ := id hdl
  obtain ⟨g1, g2, g3, g4, g5, g6⟩ := id hR
  obtain ⟨⟨sp, i1, i2, i3, i4⟩, i5, i6, i7, i8, i9, i10, i11, i12⟩ := id hI
  have he4 : p < 4 := he.1
  refine pm_start (lv := [some (.ref _), some (.int _), some (.int _), some (.int _), none]) (plainFor_of_name pf3) (Nat.le_of_ble_eq_true rfl) rfl ?_
  refine pm_aload_n dX3_serve_0 rfl ?_
  refine pm_dup dX3_serve_1 rfl ?_
  refine pm_getI (ci := 3) (j := 8) (n := 11) (by first | assumption | rfl) (by decide) (by decide) rfl fl_RX3_56 rfl dX3_serve_2 ?_
  rw [g4 8 (by decide) (by decide)]
  refine pm_iload_n dX3_serve_5 rfl ?_
  refine pm_aload_n dX3_serve_6 rfl ?_
  refine pm_getI (ci := 3) (j := 7) (n := 11) (by first | assumption | rfl) (by decide) (by decide) rfl fl_RX3_53 rfl dX3_serve_7 ?_
  rw [show (w.1 hb 7) = S.2.2.2.1 7 from g4 7 (by decide) (by decide)]
  refine pm_isub dX3_serve_10 ?_
  refine pm_cSi (as := [.int _]) ml_RX3_130 (by decide) (Nat.le_of_ble_eq_true rfl) dX3_serve_11 (c_J9_abs_0f7a4 L _ _) (fun x1 w1 hq => ?_)
  obtain ⟨rfl, hw9⟩ := hq
  have hw9 := hw9.symm
  subst hw9
  refine pm_iadd dX3_serve_14 ?_
  refine pm_putI (ci := 3) (j := 8) (n := 11) (by first | assumption | rfl) (by decide) (by decide) rfl fl_RX3_56 rfl rfl dX3_serve_15 ?_
  refine pm_aload_n dX3_serve_18 rfl ?_
  refine pm_iload_n dX3_serve_19 rfl ?_
  refine pm_putI (ci := 3) (j := 7) (n := 11) (by first | assumption | rfl) (by decide) (by decide) rfl fl_RX3_53 rfl rfl dX3_serve_20 ?_
  generalize hw2 : pm_s (pm_s w hb (upd (w.1 hb) 8 (S.2.2.2.1 8 + ab_abs (b - S.2.2.2.1 7)))) hb (upd ((pm_s w hb (upd (w.1 hb) 8 (S.2.2.2.1 8 + ab_abs (b - S.2.2.2.1 7)))).1 hb) 7 b) = w2
  have hR2 : hs_R w2 hb (S.1, S.2.1, S.2.2.1, ab_arm S.2.2.2.1 b, S.2.2.2.2) := by
    rw [← hw2]
    exact hs_num (hs_num hR (j := 8) (x := S.2.2.2.1 8 + ab_abs (b - S.2.2.2.1 7)) (by decide) (by decide)) (j := 7) (x := b) (by decide) (by decide)
  have hf2 : fr_out w w2 hb (hb + 25) := by
    rw [← hw2]
    exact fr_st (fr_s (by omega) (by omega)) (by omega) (by omega)
  have hI2 : ab_I (S.1, S.2.1, S.2.2.1, ab_arm S.2.2.2.1 b, S.2.2.2.2) := ⟨⟨sp, i1, i2, i3, i4⟩, i5, i6, i7, ⟨he.2.1, he.2.2.1⟩, i9, i10, i11, i12⟩
  refine pm_aload_n dX3_serve_23 rfl ?_
  refine pm_getR (ci := 3) (j := 0) (n := 11) (by first | assumption | rfl) (by decide) (by decide) rfl fl_RX3_14 rfl (by first | assumption | rfl) dX3_serve_24 ?_
  refine pm_getI (ci := 2) (j := 4) (n := 5) (by first | assumption | rfl) (by decide) (by decide) rfl fl_RX3_135 rfl dX3_serve_27 ?_
  rw [show w2.1 (hb + 1) 4 = nI S.1.length from hR2.1.1]
  refine pm_aload_n dX3_serve_30 rfl ?_
  refine pm_getI (ci := 3) (j := 4) (n := 11) (by first | assumption | rfl) (by decide) (by decide) rfl fl_RX3_43 rfl dX3_serve_31 ?_
  rw [show w2.1 hb 4 = S.2.2.2.1 4 from hR2.2.2.2.1 4 (by decide) (by decide)]
  refine pm_icmp_lt (tgt := 64) dX3_serve_34 (by decide) (fun c34 => ?_) (fun c34 => ?_)
  · refine pm_aload_n dX3_serve_64 rfl ?_
    refine pm_getR (ci := 3) (j := 0) (n := 11) (by first | assumption | rfl) (by decide) (by decide) rfl fl_RX3_14 rfl (by first | assumption | rfl) dX3_serve_65 ?_
    refine pm_iload_n dX3_serve_68 rfl ?_
    refine pm_iload_n dX3_serve_69 rfl ?_
    refine pm_iload_n dX3_serve_70 rfl ?_
    refine pm_cVv (as := [.int _, .int _, .int _]) (by first | assumption | rfl) (by decide) rfl ml_RX3_120 (by decide) (Nat.le_of_ble_eq_true rfl) dX3_serve_71 (c_X2_add hdr (by decide) hR2.1 (by show S.1.length ≤ 12; omega) (by show S.1.length < 12; rw [i1, nI_ltI (by omega) (by omega)] at c34; omega) b he4 f) (fun w1 hq => ?_)
    obtain ⟨p1, p2⟩ := hq
    refine pm_iconst (x := 1) dX3_serve_74 rfl ?_
    refine pm_iret dX3_serve_75 rfl ?_
    rw [ab_serve, if_pos c34]
    exact ⟨rfl, hs_room hR2 p1 p2, fr_tr hf2 (fr_wd p2 (by omega) (by omega))⟩
  · have hlt0 : ¬ S.1.length < sp := by
      rw [i1, nI_ltI (by omega) (by omega)] at c34
      exact c34
    refine pm_aload_n dX3_serve_37 rfl ?_
    refine pm_iload_n dX3_serve_38 rfl ?_
    refine pm_cVi (as := [.int _]) (by first | assumption | rfl) (by decide) rfl ml_RX3_138 (by decide) (Nat.le_of_ble_eq_true rfl) dX3_serve_39 (show pm_C L MX3_leaver [.ref hb, .int (nI p)] w2 (pm_qi fun r w1 => r = ab_enc (ab_lv S.1 S.2.2.1 p) S.1.length ∧ w1 = w2) from c_X3_leaver hk hR2 hI2 he4) (fun x1 w1 hq => ?_)
    obtain ⟨rfl, hw9⟩ := hq
    have hw9 := hw9.symm
    subst hw9
    refine pm_istore (lv' := [some (.ref _), some (.int _), some (.int _), some (.int _), some (.int _)]) dX3_serve_42 (by decide) rfl ?_
    refine pm_iload dX3_serve_44 rfl ?_
    refine pm_iconst (x := -1) dX3_serve_46 rfl ?_
    refine pm_icmp_ne (tgt := 58) dX3_serve_47 (by decide) (fun c47 => ?_) (fun c47 => ?_)
    · have hlv : ab_lv S.1 S.2.2.1 p < S.1.length := by
        rcases Nat.lt_or_ge (ab_lv S.1 S.2.2.1 p) S.1.length with h | h
        · exact h
        · exact absurd (by rw [ab_enc, if_neg (by omega)]) c47
      have hei : S.1[ab_lv S.1 S.2.2.1 p]? = some (S.1.getD (ab_lv S.1 S.2.2.1 p) (0, 0, 0)) := by
        rw [List.getD_eq_getElem?_getD, List.getElem?_eq_getElem hlv]; rfl
      rw [ab_enc, if_pos hlv]
      refine pm_aload_n dX3_serve_58 rfl ?_
      refine pm_iload dX3_serve_59 rfl ?_
      refine pm_cVv (as := [.int _]) (by first | assumption | rfl) (by decide) rfl ml_RX3_144 (by decide) (Nat.le_of_ble_eq_true rfl) dX3_serve_61 (c_X3_letGo hk hR2 hI2 hei) (fun w1 hq => ?_)
      obtain ⟨hR3, hf3⟩ := hq
      refine pm_aload_n dX3_serve_64 rfl ?_
      refine pm_getR (ci := 3) (j := 0) (n := 11) (by first | assumption | rfl) (by decide) (by decide) rfl fl_RX3_14 rfl (by first | assumption | rfl) dX3_serve_65 ?_
      refine pm_iload_n dX3_serve_68 rfl ?_
      refine pm_iload_n dX3_serve_69 rfl ?_
      refine pm_iload_n dX3_serve_70 rfl ?_
      refine pm_cVv (as := [.int _, .int _, .int _]) (by first | assumption | rfl) (by decide) rfl ml_RX3_120 (by decide) (Nat.le_of_ble_eq_true rfl) dX3_serve_71 (c_X2_add hdr (by decide) hR3.1 (by show (S.1.eraseIdx (ab_lv S.1 S.2.2.1 p)).length ≤ 12; rw [List.length_eraseIdx, if_pos hlv]; omega) (by show (S.1.eraseIdx (ab_lv S.1 S.2.2.1 p)).length < 12; rw [List.length_eraseIdx, if_pos hlv]; omega) b he4 f) (fun w1 hq => ?_)
      obtain ⟨p1, p2⟩ := hq
      refine pm_iconst (x := 1) dX3_serve_74 rfl ?_
      refine pm_iret dX3_serve_75 rfl ?_
      rw [ab_serve, if_neg c34, if_pos hlv]
      exact ⟨rfl, hs_room hR3 p1 p2, fr_tr hf2 (fr_tr hf3 (fr_wd p2 (by omega) (by omega)))⟩
    · have hlv : ¬ ab_lv S.1 S.2.2.1 p < S.1.length := by
        intro h
        rw [ab_enc, if_pos h] at c47
        exact nI_ne_m1 (by omega) c47
      refine pm_aload_n dX3_serve_50 rfl ?_
      refine pm_iload_n dX3_serve_51 rfl ?_
      refine pm_iload_n dX3_serve_52 rfl ?_
      refine pm_cVv (as := [.int _, .int _]) (by first | assumption | rfl) (by decide) rfl ml_RX3_141 (by decide) (Nat.le_of_ble_eq_true rfl) dX3_serve_53 (c_X3_turnAway hk hR2 hI2 he4 f) (fun w1 hq => ?_)
      obtain ⟨p1, p2⟩ := hq
      refine pm_iconst (x := 0) dX3_serve_56 rfl ?_
      refine pm_iret dX3_serve_57 rfl ?_
      rw [ab_serve, if_neg c34, if_neg hlv]
      exact ⟨rfl, p1, fr_tr hf2 p2⟩

theorem m5_serve (S : ab_S) (b : Int32) (p : Nat) (f : Int32) : (ab_serve S b p f).1.2.2.2.1 5 = S.2.2.2.1 5 := by
  unfold ab_serve
  split
  · rfl
  · split <;> rfl

set_option maxRecDepth 4000 in
theorem tick_loop {L : pm_L} {hb : Nat} (hk : hs_ok L hb) (w : pm_W) {n : Nat} (hn3 : n ≤ 3) : ∀ (m k : Nat) (w1 : pm_W) (S1 : ab_S) (cm dm pp : Int32), k + m = n → hs_R w1 hb S1 → ab_I S1 → S1.2.2.2.1 5 = nI n → fr_out w w1 hb (hb + 25) → pm_R L MX3_tick 33 [some (.ref hb), some (.int dm), some (.int pp), some (.int cm), some (.int (nI k)), none, none, none] [] w1 (pm_qi fun r w1 => r = cm + (ab_sv m S1).2 ∧ hs_R w1 hb (ab_sv m S1).1 ∧ fr_out w w1 hb (hb + 25)) := by
  obtain ⟨e1, e2, e3, e4, e5, e6, e7, hdr, hdl, hap⟩ := id hk
  obtain ⟨r1, r2, r3, r4, r5, r6, r7, r8, r9⟩ := id hdr
  obtain ⟨l1, l2, l3, l4, l5, l6, l7, l8, l9⟩ := id hdl
  intro m
  induction m with
  | zero =>
      intro k w1 S1 cm dm pp hkm hR1 hI1 hn5 hf1
      refine pm_iload dX3_tick_33 rfl ?_
      refine pm_aload_n dX3_tick_35 rfl ?_
      refine pm_getI (ci := 3) (j := 5) (n := 11) (by first | assumption | rfl) (by decide) (by decide) rfl fl_RX3_47 rfl dX3_tick_36 ?_
      rw [show w1.1 hb 5 = nI n from (hR1.2.2.2.1 5 (by decide) (by decide)).trans hn5]
      refine pm_icmp_ge (tgt := 131) dX3_tick_39 (by decide) (fun c39 => ?_) (fun c39 => absurd (by rw [nI_leI (by omega) (by omega)]; omega) c39)
      refine pm_iload_n dX3_tick_131 rfl ?_
      refine pm_iret dX3_tick_132 rfl ?_
      exact ⟨(Int32.add_zero _).symm, hR1, hf1⟩
  | succ m ih =>
      intro k w1 S1 cm dm pp hkm hR1 hI1 hn5 hf1
      obtain ⟨j1, j5, j6, j7, j8, j9, j10, j11, j12⟩ := id hI1
      refine pm_iload dX3_tick_33 rfl ?_
      refine pm_aload_n dX3_tick_35 rfl ?_
      refine pm_getI (ci := 3) (j := 5) (n := 11) (by first | assumption | rfl) (by decide) (by decide) rfl fl_RX3_47 rfl dX3_tick_36 ?_
      rw [show w1.1 hb 5 = nI n from (hR1.2.2.2.1 5 (by decide) (by decide)).trans hn5]
      refine pm_icmp_ge (tgt := 131) dX3_tick_39 (by decide) (fun c39 => absurd c39 (by rw [nI_leI (by omega) (by omega)]; omega)) (fun c39 => ?_)
      refine pm_aload_n dX3_tick_42 rfl ?_
      refine pm_getR (ci := 3) (j := 1) (n := 11) (by first | assumption | rfl) (by decide) (by decide) rfl fl_RX3_20 rfl (by first | assumption | rfl) dX3_tick_43 ?_
      refine pm_aload_n dX3_tick_46 rfl ?_
      refine pm_getI (ci := 3) (j := 7) (n := 11) (by first | assumption | rfl) (by decide) (by decide) rfl fl_RX3_53 rfl dX3_tick_47 ?_
      rw [show w1.1 hb 7 = S1.2.2.2.1 7 from hR1.2.2.2.1 7 (by decide) (by decide)]
      refine pm_cVi (as := [.int _]) (by first | assumption | rfl) (by decide) rfl ml_RX3_127 (by decide) (Nat.le_of_ble_eq_true rfl) dX3_tick_50 (c_X2_nearest hdl (by decide) hR1.2.1 j5 _ (fun e he => far_lt ⟨(j7 e he).2.1, (j7 e he).2.2.1⟩ j8)) (fun x1 w1 hq => ?_)
      obtain ⟨rfl, hw9⟩ := hq
      have hw9 := hw9.symm
      subst hw9
      refine pm_istore (lv' := [some (.ref _), some (.int _), some (.int _), some (.int _), some (.int _), some (.int _), none, none]) dX3_tick_53 (by decide) rfl ?_
      refine pm_iload dX3_tick_55 rfl ?_
      refine pm_iconst (x := -1) dX3_tick_57 rfl ?_
      refine pm_icmp_ne (tgt := 64) dX3_tick_58 (by decide) (fun c58 => ?_) (fun c58 => ?_)
      · have hnr2 : ∃ k, ab_nr S1.2.1 (S1.2.2.2.1 7) S1.2.1.length = some k := by
          cases hnr : ab_nr S1.2.1 (S1.2.2.2.1 7) S1.2.1.length with
          | none => exact absurd (by rw [hnr]; rfl) c58
          | some k => exact ⟨k, rfl⟩
        obtain ⟨k1, hnr⟩ := hnr2
        rw [hnr]
        have hk1 := ab_nr_lt hnr
        have hei : S1.2.1[k1]? = some (S1.2.1.getD k1 (0, 0, 0)) := by
          rw [List.getD_eq_getElem?_getD, List.getElem?_eq_getElem hk1]; rfl
        have hsv : ab_sv (m + 1) S1 = (let e := S1.2.1.getD k1 (0, 0, 0); let r := ab_serve (S1.1, S1.2.1.eraseIdx k1, va_up S1.2.2.1 e.2.1 (ab_inc (S1.2.2.1 e.2.1) 3), S1.2.2.2.1, S1.2.2.2.2) e.1 e.2.1 1; let r2 := ab_sv m r.1; (r2.1, r.2 + r2.2)) := by
          rw [ab_sv, hnr]
        have heo := j7 _ (List.mem_of_getElem? hei)
        generalize S1.2.1.getD k1 (0, 0, 0) = e at hei hsv heo
        dsimp only at hsv
        have heo4 : e.2.1 < 4 := heo.1
        obtain ⟨ha0, ⟨a1, a2, a3, a4, a5⟩⟩ := hap e.2.1 heo.1
        have hgi := hR1.2.1.2.1 k1 e hei
        show pm_R L MX3_tick 64 [some (.ref hb), some (.int dm), some (.int pp), some (.int cm), some (.int (nI k)), some (.int (nI k1)), none, none] [] w1 _
        refine pm_aload_n dX3_tick_64 rfl ?_
        refine pm_getR (ci := 3) (j := 1) (n := 11) (by first | assumption | rfl) (by decide) (by decide) rfl fl_RX3_20 rfl (by first | assumption | rfl) dX3_tick_65 ?_
        refine pm_getR (ci := 2) (j := 0) (n := 5) (by first | assumption | rfl) (by decide) (by decide) rfl fl_RX3_105 rfl (by first | assumption | rfl) dX3_tick_68 ?_
        refine pm_iload dX3_tick_71 rfl ?_
        refine pm_ialdN (by first | assumption | rfl) (by first | assumption | omega | decide) (by first | decide | omega) dX3_tick_73 ?_
        rw [hgi.1]
        refine pm_istore (lv' := [some (.ref _), some (.int _), some (.int _), some (.int _), some (.int _), some (.int _), some (.int _), none]) dX3_tick_74 (by decide) rfl ?_
        refine pm_aload_n dX3_tick_76 rfl ?_
        refine pm_getR (ci := 3) (j := 1) (n := 11) (by first | assumption | rfl) (by decide) (by decide) rfl fl_RX3_20 rfl (by first | assumption | rfl) dX3_tick_77 ?_
        refine pm_getR (ci := 2) (j := 1) (n := 5) (by first | assumption | rfl) (by decide) (by decide) rfl fl_RX3_108 rfl (by first | assumption | rfl) dX3_tick_80 ?_
        refine pm_iload dX3_tick_83 rfl ?_
        refine pm_ialdN (by first | assumption | rfl) (by first | assumption | omega | decide) (by first | decide | omega) dX3_tick_85 ?_
        rw [hgi.2.1]
        refine pm_istore (lv' := [some (.ref _), some (.int _), some (.int _), some (.int _), some (.int _), some (.int _), some (.int _), some (.int _)]) dX3_tick_86 (by decide) rfl ?_
        refine pm_aload_n dX3_tick_88 rfl ?_
        refine pm_getR (ci := 3) (j := 1) (n := 11) (by first | assumption | rfl) (by decide) (by decide) rfl fl_RX3_20 rfl (by first | assumption | rfl) dX3_tick_89 ?_
        refine pm_iload dX3_tick_92 rfl ?_
        refine pm_cVv (as := [.int _]) (by first | assumption | rfl) (by decide) rfl ml_RX3_117 (by decide) (Nat.le_of_ble_eq_true rfl) dX3_tick_94 (c_X2_remove hdl (by decide) hR1.2.1 j5 hei heo4) (fun w2 hq => ?_)
        obtain ⟨p1, hf2⟩ := hq
        have hR2 := hs_line hR1 p1 hf2
        refine pm_aload_n dX3_tick_97 rfl ?_
        refine pm_getR (ci := 3) (j := 2) (n := 11) (by first | assumption | rfl) (by decide) (by decide) rfl fl_RX3_25 rfl (by first | assumption | rfl) dX3_tick_98 ?_
        refine pm_iload dX3_tick_101 rfl ?_
        refine pm_kaldN (by first | assumption | rfl) (by first | assumption | omega | decide) (by first | decide | omega) (by first | assumption | rfl) dX3_tick_103 ?_
        refine pm_getR (ci := 0) (j := 0) (n := 10) (by first | assumption | rfl) (by decide) (by decide) rfl fl_RX3_82 rfl (by first | assumption | rfl) dX3_tick_104 ?_
        refine pm_iconst (x := nI 3) dX3_tick_107 rfl ?_
        refine pm_dup2 dX3_tick_108 rfl rfl ?_
        refine pm_ialdN (by first | assumption | rfl) (by first | assumption | omega | decide) (by first | decide | omega) dX3_tick_109 ?_
        refine pm_iconst (x := 1) dX3_tick_110 rfl ?_
        refine pm_iadd dX3_tick_111 ?_
        refine pm_iastN (by first | assumption | rfl) (by first | assumption | omega | decide) (by first | decide | omega) dX3_tick_112 ?_
        have hR3 : hs_R (pm_s w2 (hb + 13 + 3 * e.2.1 + 1) (upd (w2.1 (hb + 13 + 3 * e.2.1 + 1)) 3 (w2.1 (hb + 13 + 3 * e.2.1 + 1) 3 + 1))) hb (S1.1, S1.2.1.eraseIdx k1, va_up S1.2.2.1 e.2.1 (ab_inc (S1.2.2.1 e.2.1) 3), S1.2.2.2.1, S1.2.2.2.2) := hs_ask hR2 heo4 (as_inc (hR2.2.2.1 e.2.1 heo4) 3) (fr_s (by omega) (by omega))
        have hI3 : ab_I (S1.1, S1.2.1.eraseIdx k1, va_up S1.2.2.1 e.2.1 (ab_inc (S1.2.2.1 e.2.1) 3), S1.2.2.2.1, S1.2.2.2.2) := by
          refine ⟨j1, ?_, j6, eok_rem j7 _, j8, aok_up j9 (aok_inc (j9 _ heo4) 3), j10, j11, j12⟩
          show (S1.2.1.eraseIdx k1).length ≤ 16
          rw [List.length_eraseIdx, if_pos hk1]
          omega
        have hes : ab_eok (e.1, e.2.1, 1) := ⟨heo.1, heo.2.1, heo.2.2.1, Or.inr rfl⟩
        have hf3 : fr_out w (pm_s w2 (hb + 13 + 3 * e.2.1 + 1) (upd (w2.1 (hb + 13 + 3 * e.2.1 + 1)) 3 (w2.1 (hb + 13 + 3 * e.2.1 + 1) 3 + 1))) hb (hb + 25) := fr_st (fr_tr hf1 (fr_wd hf2 (by omega) (by omega))) (by omega) (by omega)
        generalize pm_s w2 (hb + 13 + 3 * e.2.1 + 1) (upd (w2.1 (hb + 13 + 3 * e.2.1 + 1)) 3 (w2.1 (hb + 13 + 3 * e.2.1 + 1) 3 + 1)) = w3 at hR3 hf3 ⊢
        refine pm_iload_n dX3_tick_113 rfl ?_
        refine pm_aload_n dX3_tick_114 rfl ?_
        refine pm_iload dX3_tick_115 rfl ?_
        refine pm_iload dX3_tick_117 rfl ?_
        refine pm_iconst (x := 1) dX3_tick_119 rfl ?_
        refine pm_cVi (as := [.int _, .int _, .int _]) (by first | assumption | rfl) (by decide) rfl ml_RX3_123 (by decide) (Nat.le_of_ble_eq_true rfl) dX3_tick_120 (c_X3_serve hk hR3 hI3 hes) (fun x4 w4 hq => ?_)
        obtain ⟨rfl, hR4, hf4⟩ := hq
        refine pm_iadd dX3_tick_123 ?_
        refine pm_istore_n (lv' := [some (.ref _), some (.int _), some (.int _), some (.int _), some (.int _), some (.int _), some (.int _), some (.int _)]) dX3_tick_124 (by decide) rfl ?_
        refine pm_iinc (y := _ + 1) (lv' := [some (.ref _), some (.int _), some (.int _), some (.int _), some (.int _), some (.int _), some (.int _), some (.int _)]) dX3_tick_125 rfl rfl (by decide) rfl ?_
        refine pm_goto (tgt := 33) dX3_tick_128 (by decide) ?_
        refine pm_fg (lv' := [some (.ref _), some (.int _), some (.int _), some (.int _), some (.int _), none, none, none]) (pm_le_k rfl (pm_le_k rfl (pm_le_k rfl (pm_le_k rfl (pm_le_k rfl (pm_le_n (pm_le_n (pm_le_n pm_le_0)))))))) ?_
        rw [nI_1]
        have h9 := ih (k + 1) _ _ (cm + (ab_serve (S1.1, S1.2.1.eraseIdx k1, va_up S1.2.2.1 e.2.1 (ab_inc (S1.2.2.1 e.2.1) 3), S1.2.2.2.1, S1.2.2.2.2) e.1 e.2.1 1).2) dm pp (by omega) hR4 (I_serve hI3 hes) ((m5_serve _ _ _ _).trans hn5) (fr_tr hf3 hf4)
        rw [hsv]
        dsimp only
        simp only [Int32.add_assoc] at h9
        exact h9
      · refine pm_goto (tgt := 131) dX3_tick_61 (by decide) ?_
        refine pm_iload_n dX3_tick_131 rfl ?_
        refine pm_iret dX3_tick_132 rfl ?_
        have hnr : ab_nr S1.2.1 (S1.2.2.2.1 7) S1.2.1.length = none := by
          cases hnr : ab_nr S1.2.1 (S1.2.2.2.1 7) S1.2.1.length with
          | none => rfl
          | some k => rw [hnr] at c58; exact absurd c58 (nI_ne_m1 (by have := ab_nr_lt hnr; omega))
        rw [show ab_sv (m + 1) S1 = (S1, 0) by rw [ab_sv, hnr]]
        exact ⟨(Int32.add_zero _).symm, hR1, hf1⟩

set_option maxRecDepth 4000 in
theorem c_X3_tick0 {L : pm_L} {hb : Nat} (hk : hs_ok L hb) {w : pm_W} {S : ab_S} (hR : hs_R w hb S) (hI : ab_I S) {n : Nat} (hn : S.2.2.2.1 5 = nI n) (hn3 : n ≤ 3) : pm_C L MX3_tick [.ref hb, .int (-1), .int (-1)] w (pm_qi fun r w1 => r = (ab_tick S n none).2 ∧ hs_R w1 hb (ab_tick S n none).1 ∧ fr_out w w1 hb (hb + 25)) := by
  obtain ⟨e1, e2, e3, e4, e5, e6, e7, hdr, hdl, hap⟩ := id hk
  obtain ⟨r1, r2, r3, r4, r5, r6, r7, r8, r9⟩ := id hdr
  obtain ⟨l1, l2, l3, l4, l5, l6, l7, l8, l9⟩ := id hdl
  obtain ⟨g1, g2, g3, g4, g5, g6⟩ := id hR
  obtain ⟨⟨sp, i1, i2, i3, i4⟩, i5, i6, i7, i8, i9, i10, i11, i12⟩ := id hI
  refine pm_start (lv := [some (.ref _), some (.int _), some (.int _), none, none, none, none, none]) (plainFor_of_name pf3) (Nat.le_of_ble_eq_true rfl) rfl ?_
  refine pm_aload_n dX3_tick_0 rfl ?_
  refine pm_dup dX3_tick_1 rfl ?_
  refine pm_getI (ci := 3) (j := 9) (n := 11) (by first | assumption | rfl) (by decide) (by decide) rfl fl_RX3_59 rfl dX3_tick_2 ?_
  rw [g4 9 (by decide) (by decide)]
  refine pm_iconst (x := 1) dX3_tick_5 rfl ?_
  refine pm_iadd dX3_tick_6 ?_
  refine pm_putI (ci := 3) (j := 9) (n := 11) (by first | assumption | rfl) (by decide) (by decide) rfl fl_RX3_59 rfl rfl dX3_tick_7 ?_
  have hRt : hs_R (pm_s w hb (upd (w.1 hb) 9 (S.2.2.2.1 9 + 1))) hb (ab_tk S) := hs_num hR (by decide) (by decide)
  have hft : fr_out w (pm_s w hb (upd (w.1 hb) 9 (S.2.2.2.1 9 + 1))) hb (hb + 25) := fr_s (by omega) (by omega)
  generalize pm_s w hb (upd (w.1 hb) 9 (S.2.2.2.1 9 + 1)) = wt at hRt hft ⊢
  refine pm_iconst (x := 0) dX3_tick_10 rfl ?_
  refine pm_istore_n (lv' := [some (.ref _), some (.int _), some (.int _), some (.int _), none, none, none, none]) dX3_tick_11 (by decide) rfl ?_
  refine pm_iconst (x := 0) dX3_tick_12 rfl ?_
  refine pm_istore (lv' := [some (.ref _), some (.int _), some (.int _), some (.int _), some (.int _), none, none, none]) dX3_tick_13 (by decide) rfl ?_
  refine pm_iload_n dX3_tick_15 rfl ?_
  refine pm_iconst (x := -1) dX3_tick_16 rfl ?_
  refine pm_icmp_eq (tgt := 33) dX3_tick_17 (by decide) (fun c17 => ?_) (fun c17 => absurd rfl c17)
  have h9 := tick_loop hk w hn3 n 0 wt (ab_tk S) 0 (-1) (-1) (by omega) hRt (I_tk hI) hn hft
  simp only [Int32.zero_add] at h9
  exact h9

set_option maxRecDepth 4000 in
theorem c_X3_tickD {L : pm_L} {hb : Nat} (hk : hs_ok L hb) {w : pm_W} {S : ab_S} (hR : hs_R w hb S) (hI : ab_I S) {n : Nat} (hn : S.2.2.2.1 5 = nI n) (hn1 : 1 ≤ n) (hn3 : n ≤ 3) {b : Int32} {p : Nat} (he : ab_eok (b, p, 0)) : pm_C L MX3_tick [.ref hb, .int b, .int (nI p)] w (pm_qi fun r w1 => r = (ab_tick S n (some (b, p))).2 ∧ hs_R w1 hb (ab_tick S n (some (b, p))).1 ∧ fr_out w w1 hb (hb + 25)) := by
  obtain ⟨e1, e2, e3, e4, e5, e6, e7, hdr, hdl, hap⟩ := id hk
  obtain ⟨r1, r2, r3, r4, r5, r6, r7, r8, r9⟩ := id hdr
  obtain ⟨l1, l2, l3, l4, l5, l6, l7, l8, l9⟩ := id hdl
  obtain ⟨g1, g2, g3, g4, g5, g6⟩ := id hR
  obtain ⟨⟨sp, i1, i2, i3, i4⟩, i5, i6, i7, i8, i9, i10, i11, i12⟩ := id hI
  have hbn : ¬ b = -1 := fun h => by have := he.2.1; rw [h] at this; exact absurd this (by show ¬ (0 : Int32) ≤ -1; decide)
  refine pm_start (lv := [some (.ref _), some (.int _), some (.int _), none, none, none, none, none]) (plainFor_of_name pf3) (Nat.le_of_ble_eq_true rfl) rfl ?_
  refine pm_aload_n dX3_tick_0 rfl ?_
  refine pm_dup dX3_tick_1 rfl ?_
  refine pm_getI (ci := 3) (j := 9) (n := 11) (by first | assumption | rfl) (by decide) (by decide) rfl fl_RX3_59 rfl dX3_tick_2 ?_
  rw [g4 9 (by decide) (by decide)]
  refine pm_iconst (x := 1) dX3_tick_5 rfl ?_
  refine pm_iadd dX3_tick_6 ?_
  refine pm_putI (ci := 3) (j := 9) (n := 11) (by first | assumption | rfl) (by decide) (by decide) rfl fl_RX3_59 rfl rfl dX3_tick_7 ?_
  have hRt : hs_R (pm_s w hb (upd (w.1 hb) 9 (S.2.2.2.1 9 + 1))) hb (ab_tk S) := hs_num hR (by decide) (by decide)
  have hft : fr_out w (pm_s w hb (upd (w.1 hb) 9 (S.2.2.2.1 9 + 1))) hb (hb + 25) := fr_s (by omega) (by omega)
  generalize pm_s w hb (upd (w.1 hb) 9 (S.2.2.2.1 9 + 1)) = wt at hRt hft ⊢
  refine pm_iconst (x := 0) dX3_tick_10 rfl ?_
  refine pm_istore_n (lv' := [some (.ref _), some (.int _), some (.int _), some (.int _), none, none, none, none]) dX3_tick_11 (by decide) rfl ?_
  refine pm_iconst (x := 0) dX3_tick_12 rfl ?_
  refine pm_istore (lv' := [some (.ref _), some (.int _), some (.int _), some (.int _), some (.int _), none, none, none]) dX3_tick_13 (by decide) rfl ?_
  refine pm_iload_n dX3_tick_15 rfl ?_
  refine pm_iconst (x := -1) dX3_tick_16 rfl ?_
  refine pm_icmp_eq (tgt := 33) dX3_tick_17 (by decide) (fun c17 => absurd c17 hbn) (fun c17 => ?_)
  refine pm_iload_n dX3_tick_20 rfl ?_
  refine pm_aload_n dX3_tick_21 rfl ?_
  refine pm_iload_n dX3_tick_22 rfl ?_
  refine pm_iload_n dX3_tick_23 rfl ?_
  refine pm_iconst (x := 0) dX3_tick_24 rfl ?_
  refine pm_cVi (as := [.int _, .int _, .int _]) (by first | assumption | rfl) (by decide) rfl ml_RX3_123 (by decide) (Nat.le_of_ble_eq_true rfl) dX3_tick_25 (c_X3_serve hk hRt (I_tk hI) he) (fun x4 w4 hq => ?_)
  obtain ⟨rfl, hR4, hf4⟩ := hq
  refine pm_iadd dX3_tick_28 ?_
  refine pm_istore_n (lv' := [some (.ref _), some (.int _), some (.int _), some (.int _), some (.int _), none, none, none]) dX3_tick_29 (by decide) rfl ?_
  refine pm_iinc (y := _ + 1) (lv' := [some (.ref _), some (.int _), some (.int _), some (.int _), some (.int _), none, none, none]) dX3_tick_30 rfl rfl (by decide) rfl ?_
  have h9 := tick_loop hk w hn3 (n - 1) 1 w4 (ab_serve (ab_tk S) b p 0).1 (0 + (ab_serve (ab_tk S) b p 0).2) b (nI p) (by omega) hR4 (I_serve (I_tk hI) he) ((m5_serve _ _ _ _).trans hn) (fr_tr hft hf4)
  rw [Int32.zero_add] at h9
  rw [Int32.zero_add]
  exact h9

