def ab_beg (sp sd pc : Int32) : ab_S := ([], [], fun _ => ab_new, fun j => if j = 4 then sp else if j = 5 then sd else if j = 6 then pc else 0, [])

set_option maxRecDepth 4000 in
theorem c_X3_begin {L : pm_L} {hb : Nat} (hk : hs_ok L hb) (w : pm_W) (sp sd pc : Int32) : pm_C L MX3_begin [.ref hb, .int sp, .int sd, .int pc] w (pm_qv fun w1 => hs_R w1 hb (ab_beg sp sd pc) ∧ fr_out w w1 hb (hb + 25)) := by
  obtain ⟨e1, e2, e3, e4, e5, e6, e7, hdr, hdl, hap⟩ := id hk
  obtain ⟨r1, r2, r3, r4, r5, r6, r7, r8, r9⟩ := id hdr
  obtain ⟨l1, l2, l3, l4, l5, l6, l7, l8, l9⟩ := id hdl
  have loop : ∀ i, i ≤ 4 → ∀ w1, (hd_R w1 (hb + 1) [] ∧ hd_R w1 (hb + 6) [] ∧ (∀ q, q < i → as_R w1 (hb + 13 + 3 * q) ab_new) ∧ fr_out w w1 hb (hb + 25)) → pm_R L MX3_begin 17 [some (.ref hb), some (.int sp), some (.int sd), some (.int pc), some (.int (nI i))] [] w1 (pm_qv fun w1 => hs_R w1 hb (ab_beg sp sd pc) ∧ fr_out w w1 hb (hb + 25)) := by
    refine up_loop 4 (fun i hi ih w1 hw => ?_)
    obtain ⟨h1, h2, h3, hf⟩ := hw
    refine pm_iload dX3_begin_17 rfl ?_
    refine pm_iconst (x := nI 4) dX3_begin_19 rfl ?_
    refine pm_icmp_ge (tgt := 39) dX3_begin_20 (by decide) (fun c20 => ?_) (fun c20 => ?_)
    · refine pm_aload_n dX3_begin_39 rfl ?_
      refine pm_iload_n dX3_begin_40 rfl ?_
      refine pm_putI (ci := 3) (j := 4) (n := 11) (by first | assumption | rfl) (by decide) (by decide) rfl fl_RX3_43 rfl rfl dX3_begin_41 ?_
      refine pm_aload_n dX3_begin_44 rfl ?_
      refine pm_iload_n dX3_begin_45 rfl ?_
      refine pm_putI (ci := 3) (j := 5) (n := 11) (by first | assumption | rfl) (by decide) (by decide) rfl fl_RX3_47 rfl rfl dX3_begin_46 ?_
      refine pm_aload_n dX3_begin_49 rfl ?_
      refine pm_iload_n dX3_begin_50 rfl ?_
      refine pm_putI (ci := 3) (j := 6) (n := 11) (by first | assumption | rfl) (by decide) (by decide) rfl fl_RX3_50 rfl rfl dX3_begin_51 ?_
      refine pm_aload_n dX3_begin_54 rfl ?_
      refine pm_iconst (x := 0) dX3_begin_55 rfl ?_
      refine pm_putI (ci := 3) (j := 7) (n := 11) (by first | assumption | rfl) (by decide) (by decide) rfl fl_RX3_53 rfl rfl dX3_begin_56 ?_
      refine pm_aload_n dX3_begin_59 rfl ?_
      refine pm_iconst (x := 0) dX3_begin_60 rfl ?_
      refine pm_putI (ci := 3) (j := 8) (n := 11) (by first | assumption | rfl) (by decide) (by decide) rfl fl_RX3_56 rfl rfl dX3_begin_61 ?_
      refine pm_aload_n dX3_begin_64 rfl ?_
      refine pm_iconst (x := 0) dX3_begin_65 rfl ?_
      refine pm_putI (ci := 3) (j := 9) (n := 11) (by first | assumption | rfl) (by decide) (by decide) rfl fl_RX3_59 rfl rfl dX3_begin_66 ?_
      refine pm_aload_n dX3_begin_69 rfl ?_
      refine pm_iconst (x := 0) dX3_begin_70 rfl ?_
      refine pm_putI (ci := 3) (j := 10) (n := 11) (by first | assumption | rfl) (by decide) (by decide) rfl fl_RX3_62 rfl rfl dX3_begin_71 ?_
      refine pm_vret dX3_begin_74 rfl ?_
      rw [nI_leI (by omega) (by omega)] at c20
      have hi4 : i = 4 := by omega
      subst hi4
      refine ⟨⟨hd_R_cong h1 (fun a z1 z2 => by simp only [pm_s]; simp only [if_neg (show ¬ a = hb by omega)]), hd_R_cong h2 (fun a z1 z2 => by simp only [pm_s]; simp only [if_neg (show ¬ a = hb by omega)]), fun p hp => as_R_cong (h3 p hp) (fun a z1 z2 => by simp only [pm_s]; simp only [if_neg (show ¬ a = hb by omega)]), fun j q1 q2 => ?_, ?_, fun i x z => by simp [ab_beg] at z⟩, ?_⟩
      · rcases (show j = 4 ∨ j = 5 ∨ j = 6 ∨ j = 7 ∨ j = 8 ∨ j = 9 by omega) with rfl | rfl | rfl | rfl | rfl | rfl <;> simp [pm_s, upd, ab_beg]
      · simp [pm_s, upd, ab_beg, nI_0]
      · exact fr_st (fr_st (fr_st (fr_st (fr_st (fr_st (fr_st hf (by omega) (by omega)) (by omega) (by omega)) (by omega) (by omega)) (by omega) (by omega)) (by omega) (by omega)) (by omega) (by omega)) (by omega) (by omega)
    · have hlt : i < 4 := by
        rw [nI_leI (by omega) (by omega)] at c20
        omega
      obtain ⟨ha0, haok⟩ := hap i hlt
      obtain ⟨a1, a2, a3, a4, a5⟩ := id haok
      refine pm_aload_n dX3_begin_23 rfl ?_
      refine pm_getR (ci := 3) (j := 2) (n := 11) (by first | assumption | rfl) (by decide) (by decide) rfl fl_RX3_25 rfl (by first | assumption | rfl) dX3_begin_24 ?_
      refine pm_iload dX3_begin_27 rfl ?_
      refine pm_kaldN (by first | assumption | rfl) (by first | assumption | omega | decide) (by first | decide | omega) (by first | assumption | rfl) dX3_begin_29 ?_
      refine pm_cVv (as := []) (by first | assumption | rfl) (by decide) rfl ml_RX3_41 (by decide) (Nat.le_of_ble_eq_true rfl) dX3_begin_30 (c_X0_begin haok _) (fun w2 hq => ?_)
      obtain ⟨q1, q2⟩ := hq
      refine pm_iinc (y := _ + 1) (lv' := [some (.ref _), some (.int _), some (.int _), some (.int _), some (.int _)]) dX3_begin_33 rfl rfl (by decide) rfl ?_
      refine pm_goto (tgt := 17) dX3_begin_36 (by decide) ?_
      rw [nI_1]
      refine ih hlt _ ⟨hd_R_cong h1 (fun a z1 z2 => q2.1 a (by omega)), hd_R_cong h2 (fun a z1 z2 => q2.1 a (by omega)), fun q hq => ?_, fr_tr hf (fr_wd q2 (by omega) (by omega))⟩
      by_cases hqi : q = i
      · subst hqi; exact q1
      · exact as_R_cong (h3 q (by omega)) (fun a z1 z2 => q2.1 a (by omega))
  refine pm_start (lv := [some (.ref _), some (.int _), some (.int _), some (.int _), none]) (plainFor_of_name pf3) (Nat.le_of_ble_eq_true rfl) rfl ?_
  refine pm_aload_n dX3_begin_0 rfl ?_
  refine pm_getR (ci := 3) (j := 0) (n := 11) (by first | assumption | rfl) (by decide) (by decide) rfl fl_RX3_14 rfl (by first | assumption | rfl) dX3_begin_1 ?_
  refine pm_cVv (as := []) (by first | assumption | rfl) (by decide) rfl ml_RX3_38 (by decide) (Nat.le_of_ble_eq_true rfl) dX3_begin_4 (c_X2_empty hdr _) (fun w1 hq => ?_)
  obtain ⟨q1, q2⟩ := hq
  refine pm_aload_n dX3_begin_7 rfl ?_
  refine pm_getR (ci := 3) (j := 1) (n := 11) (by first | assumption | rfl) (by decide) (by decide) rfl fl_RX3_20 rfl (by first | assumption | rfl) dX3_begin_8 ?_
  refine pm_cVv (as := []) (by first | assumption | rfl) (by decide) rfl ml_RX3_38 (by decide) (Nat.le_of_ble_eq_true rfl) dX3_begin_11 (c_X2_empty hdl _) (fun w2 hq => ?_)
  obtain ⟨q3, q4⟩ := hq
  refine pm_iconst (x := 0) dX3_begin_14 rfl ?_
  refine pm_istore (lv' := [some (.ref _), some (.int _), some (.int _), some (.int _), some (.int _)]) dX3_begin_15 (by decide) rfl ?_
  exact loop 0 (Nat.zero_le _) w2 ⟨hd_R_cong q1 (fun a z1 z2 => q4.1 a (by omega)), q3, fun q hq => absurd hq (by omega), fr_tr (fr_wd q2 (by omega) (by omega)) (fr_wd q4 (by omega) (by omega))⟩

set_option maxRecDepth 4000 in
theorem c_X3_copyFrom {L : pm_L} {hb hb2 : Nat} (hk : hs_ok L hb) (hk2 : hs_ok L hb2) (hd : hb + 25 ≤ hb2 ∨ hb2 + 25 ≤ hb) {w : pm_W} {S : ab_S} (hR : hs_R w hb2 S) (hl1 : S.1.length ≤ 12) (hl2 : S.2.1.length ≤ 16) : pm_C L MX3_copyFrom [.ref hb, .ref hb2] w (pm_qv fun w1 => hs_R w1 hb S ∧ fr_out w w1 hb (hb + 25)) := by
  obtain ⟨e1, e2, e3, e4, e5, e6, e7, hdr, hdl, hap⟩ := id hk
  obtain ⟨r1, r2, r3, r4, r5, r6, r7, r8, r9⟩ := id hdr
  obtain ⟨l1, l2, l3, l4, l5, l6, l7, l8, l9⟩ := id hdl
  obtain ⟨E1, E2, E3, E4, E5, E6, E7, Hdr, Hdl, Hap⟩ := id hk2
  obtain ⟨G1, G2, G3, G4, G5, G6⟩ := id hR
  have loop : ∀ i, i ≤ 4 → ∀ w1, (hd_R w1 (hb + 1) S.1 ∧ hd_R w1 (hb + 6) S.2.1 ∧ (∀ q, q < i → as_R w1 (hb + 13 + 3 * q) (S.2.2.1 q)) ∧ fr_out w w1 hb (hb + 25)) → pm_R L MX3_copyFrom 24 [some (.ref hb), some (.ref hb2), some (.int (nI i))] [] w1 (pm_qv fun w1 => hs_R w1 hb S ∧ fr_out w w1 hb (hb + 25)) := by
    refine up_loop 4 (fun i hi ih w1 hw => ?_)
    obtain ⟨h1, h2, h3, hf⟩ := hw
    refine pm_iload_n dX3_copyFrom_24 rfl ?_
    refine pm_iconst (x := nI 4) dX3_copyFrom_25 rfl ?_
    refine pm_icmp_ge (tgt := 50) dX3_copyFrom_26 (by decide) (fun c26 => ?_) (fun c26 => ?_)
    · refine pm_aload_n dX3_copyFrom_50 rfl ?_
      refine pm_getR (ci := 3) (j := 3) (n := 11) (by first | assumption | rfl) (by decide) (by decide) rfl fl_RX3_29 rfl (by first | assumption | rfl) dX3_copyFrom_51 ?_
      refine pm_iconst (x := 0) dX3_copyFrom_54 rfl ?_
      refine pm_aload_n dX3_copyFrom_55 rfl ?_
      refine pm_getR (ci := 3) (j := 3) (n := 11) (by first | assumption | rfl) (by decide) (by decide) rfl fl_RX3_29 rfl (by first | assumption | rfl) dX3_copyFrom_56 ?_
      refine pm_iconst (x := 0) dX3_copyFrom_59 rfl ?_
      refine pm_bipush (x := 24) dX3_copyFrom_60 rfl ?_
      refine pm_copy ml_RX3_72 ml_copy (by first | assumption | rfl) (by first | assumption | rfl) (by decide) (by decide) (by decide) (by decide) (by decide) (by decide) (by decide) dX3_copyFrom_62 ?_
      have z0 : (0 : Int32).toNatClampNeg = 0 := by decide
      have z24 : (24 : Int32).toNatClampNeg = 24 := by decide
      rw [z0, z24, hf.1 (hb2 + 12) (by omega)]
      have hf2 : fr_out w (pm_s w1 (hb + 12) (va_cpy (w.1 (hb2 + 12)) (w1.1 (hb + 12)) 0 0 24)) hb (hb + 25) := fr_st hf (by omega) (by omega)
      have k2 : ∀ a, a ≠ hb + 12 → (pm_s w1 (hb + 12) (va_cpy (w.1 (hb2 + 12)) (w1.1 (hb + 12)) 0 0 24)).1 a = w1.1 a := fun a h => pm_s_ne h
      have k3 : ∀ j, j < 24 → (pm_s w1 (hb + 12) (va_cpy (w.1 (hb2 + 12)) (w1.1 (hb + 12)) 0 0 24)).1 (hb + 12) j = w.1 (hb2 + 12) j := fun j hj => by rw [pm_s_at]; exact cpy_at hj
      generalize pm_s w1 (hb + 12) (va_cpy (w.1 (hb2 + 12)) (w1.1 (hb + 12)) 0 0 24) = w2 at hf2 k2 k3 ⊢
      refine pm_aload_n dX3_copyFrom_65 rfl ?_
      refine pm_aload_n dX3_copyFrom_66 rfl ?_
      refine pm_getI (ci := 3) (j := 4) (n := 11) (by first | assumption | rfl) (by decide) (by decide) rfl fl_RX3_43 rfl dX3_copyFrom_67 ?_
      refine pm_putI (ci := 3) (j := 4) (n := 11) (by first | assumption | rfl) (by decide) (by decide) rfl fl_RX3_43 rfl rfl dX3_copyFrom_70 ?_
      refine pm_aload_n dX3_copyFrom_73 rfl ?_
      refine pm_aload_n dX3_copyFrom_74 rfl ?_
      refine pm_getI (ci := 3) (j := 5) (n := 11) (by first | assumption | rfl) (by decide) (by decide) rfl fl_RX3_47 rfl dX3_copyFrom_75 ?_
      refine pm_putI (ci := 3) (j := 5) (n := 11) (by first | assumption | rfl) (by decide) (by decide) rfl fl_RX3_47 rfl rfl dX3_copyFrom_78 ?_
      refine pm_aload_n dX3_copyFrom_81 rfl ?_
      refine pm_aload_n dX3_copyFrom_82 rfl ?_
      refine pm_getI (ci := 3) (j := 6) (n := 11) (by first | assumption | rfl) (by decide) (by decide) rfl fl_RX3_50 rfl dX3_copyFrom_83 ?_
      refine pm_putI (ci := 3) (j := 6) (n := 11) (by first | assumption | rfl) (by decide) (by decide) rfl fl_RX3_50 rfl rfl dX3_copyFrom_86 ?_
      refine pm_aload_n dX3_copyFrom_89 rfl ?_
      refine pm_aload_n dX3_copyFrom_90 rfl ?_
      refine pm_getI (ci := 3) (j := 7) (n := 11) (by first | assumption | rfl) (by decide) (by decide) rfl fl_RX3_53 rfl dX3_copyFrom_91 ?_
      refine pm_putI (ci := 3) (j := 7) (n := 11) (by first | assumption | rfl) (by decide) (by decide) rfl fl_RX3_53 rfl rfl dX3_copyFrom_94 ?_
      refine pm_aload_n dX3_copyFrom_97 rfl ?_
      refine pm_aload_n dX3_copyFrom_98 rfl ?_
      refine pm_getI (ci := 3) (j := 8) (n := 11) (by first | assumption | rfl) (by decide) (by decide) rfl fl_RX3_56 rfl dX3_copyFrom_99 ?_
      refine pm_putI (ci := 3) (j := 8) (n := 11) (by first | assumption | rfl) (by decide) (by decide) rfl fl_RX3_56 rfl rfl dX3_copyFrom_102 ?_
      refine pm_aload_n dX3_copyFrom_105 rfl ?_
      refine pm_aload_n dX3_copyFrom_106 rfl ?_
      refine pm_getI (ci := 3) (j := 9) (n := 11) (by first | assumption | rfl) (by decide) (by decide) rfl fl_RX3_59 rfl dX3_copyFrom_107 ?_
      refine pm_putI (ci := 3) (j := 9) (n := 11) (by first | assumption | rfl) (by decide) (by decide) rfl fl_RX3_59 rfl rfl dX3_copyFrom_110 ?_
      refine pm_aload_n dX3_copyFrom_113 rfl ?_
      refine pm_aload_n dX3_copyFrom_114 rfl ?_
      refine pm_getI (ci := 3) (j := 10) (n := 11) (by first | assumption | rfl) (by decide) (by decide) rfl fl_RX3_62 rfl dX3_copyFrom_115 ?_
      refine pm_putI (ci := 3) (j := 10) (n := 11) (by first | assumption | rfl) (by decide) (by decide) rfl fl_RX3_62 rfl rfl dX3_copyFrom_118 ?_
      refine pm_vret dX3_copyFrom_121 rfl ?_
      rw [nI_leI (by omega) (by omega)] at c26
      have hi4 : i = 4 := by omega
      subst hi4
      have n1 : hb2 ≠ hb := by omega
      have e2 : w2.1 hb2 = w.1 hb2 := hf2.1 hb2 (by omega)
      refine ⟨⟨hd_R_cong h1 (fun a z1 z2 => ?_), hd_R_cong h2 (fun a z1 z2 => ?_), fun p hp => as_R_cong (h3 p hp) (fun a z1 z2 => ?_), fun j q1 q2 => ?_, ?_, fun i x z1 z2 => ?_⟩, ?_⟩
      · have z3 : ¬ a = hb := by omega
        simp only [pm_s, if_neg z3]
        exact k2 a (by omega)
      · have z3 : ¬ a = hb := by omega
        simp only [pm_s, if_neg z3]
        exact k2 a (by omega)
      · have z3 : ¬ a = hb := by omega
        simp only [pm_s, if_neg z3]
        exact k2 a (by omega)
      · rcases (show j = 4 ∨ j = 5 ∨ j = 6 ∨ j = 7 ∨ j = 8 ∨ j = 9 by omega) with rfl | rfl | rfl | rfl | rfl | rfl <;> (simp [pm_s, upd, n1, e2]; exact G4 _ (by decide) (by decide))
      · simp [pm_s, upd, n1, e2]; exact G5
      · have z3 : ¬ hb + 12 = hb := by omega
        simp only [pm_s, if_neg z3]
        rw [k3 _ (Nat.mod_lt _ (by decide))]
        exact G6 i x z1 z2
      · repeat (first | exact hf2 | refine fr_st ?_ (by omega) (by omega))
    · have hlt : i < 4 := by
        rw [nI_leI (by omega) (by omega)] at c26
        omega
      obtain ⟨ha0, haok⟩ := hap i hlt
      obtain ⟨Ha0, Haok⟩ := Hap i hlt
      obtain ⟨a1, a2, a3, a4, a5⟩ := id haok
      refine pm_aload_n dX3_copyFrom_29 rfl ?_
      refine pm_getR (ci := 3) (j := 2) (n := 11) (by first | assumption | rfl) (by decide) (by decide) rfl fl_RX3_25 rfl (by first | assumption | rfl) dX3_copyFrom_30 ?_
      refine pm_iload_n dX3_copyFrom_33 rfl ?_
      refine pm_kaldN (by first | assumption | rfl) (by first | assumption | omega | decide) (by first | decide | omega) (by first | assumption | rfl) dX3_copyFrom_34 ?_
      refine pm_aload_n dX3_copyFrom_35 rfl ?_
      refine pm_getR (ci := 3) (j := 2) (n := 11) (by first | assumption | rfl) (by decide) (by decide) rfl fl_RX3_25 rfl (by first | assumption | rfl) dX3_copyFrom_36 ?_
      refine pm_iload_n dX3_copyFrom_39 rfl ?_
      refine pm_kaldN (by first | assumption | rfl) (by first | assumption | omega | decide) (by first | decide | omega) (by first | assumption | rfl) dX3_copyFrom_40 ?_
      refine pm_cVv (as := [.ref _]) (by first | assumption | rfl) (by decide) rfl ml_RX3_69 (by decide) (Nat.le_of_ble_eq_true rfl) dX3_copyFrom_41 (c_X0_copyFrom haok Haok (by omega) (as_R_cong (G3 i hlt) (fun a z1 z2 => hf.1 a (by omega)))) (fun w2 hq => ?_)
      obtain ⟨q1, -, q2⟩ := hq
      refine pm_iinc (y := _ + 1) (lv' := [some (.ref _), some (.ref _), some (.int _)]) dX3_copyFrom_44 rfl rfl (by decide) rfl ?_
      refine pm_goto (tgt := 24) dX3_copyFrom_47 (by decide) ?_
      rw [nI_1]
      refine ih hlt _ ⟨hd_R_cong h1 (fun a z1 z2 => q2.1 a (by omega)), hd_R_cong h2 (fun a z1 z2 => q2.1 a (by omega)), fun q hq => ?_, fr_tr hf (fr_wd q2 (by omega) (by omega))⟩
      by_cases hqi : q = i
      · subst hqi; exact q1
      · exact as_R_cong (h3 q (by omega)) (fun a z1 z2 => q2.1 a (by omega))
  refine pm_start (lv := [some (.ref _), some (.ref _), none]) (plainFor_of_name pf3) (Nat.le_of_ble_eq_true rfl) rfl ?_
  refine pm_aload_n dX3_copyFrom_0 rfl ?_
  refine pm_getR (ci := 3) (j := 0) (n := 11) (by first | assumption | rfl) (by decide) (by decide) rfl fl_RX3_14 rfl (by first | assumption | rfl) dX3_copyFrom_1 ?_
  refine pm_aload_n dX3_copyFrom_4 rfl ?_
  refine pm_getR (ci := 3) (j := 0) (n := 11) (by first | assumption | rfl) (by decide) (by decide) rfl fl_RX3_14 rfl (by first | assumption | rfl) dX3_copyFrom_5 ?_
  refine pm_cVv (as := [.ref _]) (by first | assumption | rfl) (by decide) rfl ml_RX3_65 (by decide) (Nat.le_of_ble_eq_true rfl) dX3_copyFrom_8 (c_X2_copyFrom hdr Hdr (by omega) (by decide) G1 hl1) (fun w1 hq => ?_)
  obtain ⟨q1, q2⟩ := hq
  refine pm_aload_n dX3_copyFrom_11 rfl ?_
  refine pm_getR (ci := 3) (j := 1) (n := 11) (by first | assumption | rfl) (by decide) (by decide) rfl fl_RX3_20 rfl (by first | assumption | rfl) dX3_copyFrom_12 ?_
  refine pm_aload_n dX3_copyFrom_15 rfl ?_
  refine pm_getR (ci := 3) (j := 1) (n := 11) (by first | assumption | rfl) (by decide) (by decide) rfl fl_RX3_20 rfl (by first | assumption | rfl) dX3_copyFrom_16 ?_
  refine pm_cVv (as := [.ref _]) (by first | assumption | rfl) (by decide) rfl ml_RX3_65 (by decide) (Nat.le_of_ble_eq_true rfl) dX3_copyFrom_19 (c_X2_copyFrom hdl Hdl (by omega) (by decide) (hd_R_cong G2 (fun a z1 z2 => q2.1 a (by omega))) hl2) (fun w2 hq => ?_)
  obtain ⟨q3, q4⟩ := hq
  refine pm_iconst (x := 0) dX3_copyFrom_22 rfl ?_
  refine pm_istore_n (lv' := [some (.ref _), some (.ref _), some (.int _)]) dX3_copyFrom_23 (by decide) rfl ?_
  exact loop 0 (Nat.zero_le _) w2 ⟨hd_R_cong q1 (fun a z1 z2 => q4.1 a (by omega)), q3, fun q hq => absurd hq (by omega), fr_tr (fr_wd q2 (by omega) (by omega)) (fr_wd q4 (by omega) (by omega))⟩

set_option maxRecDepth 4000 in
theorem c_X3_asked {L : pm_L} {hb : Nat} (hk : hs_ok L hb) {w : pm_W} {S : ab_S} (hR : hs_R w hb S) {i : Nat} {x : Int32} (hi : S.2.2.2.2[i]? = some x) (h24 : S.2.2.2.2.length ≤ i + 24) (hlen : S.2.2.2.2.length ≤ 1000000) : pm_C L MX3_asked [.ref hb, .int (nI (i + 1))] w (pm_qi fun r w1 => r = x ∧ w1 = w) := by
  obtain ⟨e1, e2, e3, e4, e5, e6, e7, hdr, hdl, hap⟩ := id hk
  obtain ⟨r1, r2, r3, r4, r5, r6, r7, r8, r9⟩ := id hdr
  obtain ⟨l1, l2, l3, l4, l5, l6, l7, l8, l9⟩ := id hdl
  obtain ⟨g1, g2, g3, g4, g5, g6⟩ := id hR
  have hil := (List.getElem?_eq_some_iff.mp hi).1
  refine pm_start (lv := [some (.ref _), some (.int _)]) (plainFor_of_name pf3) (Nat.le_of_ble_eq_true rfl) rfl ?_
  refine pm_aload_n dX3_asked_0 rfl ?_
  refine pm_getR (ci := 3) (j := 3) (n := 11) (by first | assumption | rfl) (by decide) (by decide) rfl fl_RX3_29 rfl (by first | assumption | rfl) dX3_asked_1 ?_
  refine pm_iload_n dX3_asked_4 rfl ?_
  refine pm_cSi (as := [.int _]) ml_RX3_78 (by decide) (Nat.le_of_ble_eq_true rfl) dX3_asked_5 (c_X3_placeInRow L _ (by omega)) (fun x1 w1 hq => ?_)
  obtain ⟨rfl, hw9⟩ := hq
  have hw9 := hw9.symm
  subst hw9
  refine pm_ialdN (by first | assumption | rfl) (by exact Nat.mod_lt _ (by decide)) (by first | decide | omega) dX3_asked_8 ?_
  refine pm_iret dX3_asked_9 rfl ?_
  exact ⟨g6 i x hi h24, rfl⟩

