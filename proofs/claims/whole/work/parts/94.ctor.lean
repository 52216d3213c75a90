def hs_rl (hb : Nat) (rl : List (Nat × Nat)) : List (Nat × Nat) := (hb + 11, 3) :: as_rl (hb + 22) ((hb + 11, 2) :: as_rl (hb + 19) ((hb + 11, 1) :: as_rl (hb + 16) ((hb + 11, 0) :: as_rl (hb + 13) ((hb, 3) :: (hb, 2) :: (hb, 1) :: hd_rl (hb + 6) ((hb, 0) :: hd_rl (hb + 1) rl)))))
theorem hs_lm {hb : Nat} (hk : hs_ok pm_L0 hb) (rl : List (Nat × Nat)) : hs_ok (lm (hb + 25) (hs_rl hb rl)) hb := by
  obtain ⟨e1, q0, q1, q2, q3, e6, e7, ⟨h0, r0, r1, r2, r3, h5, h6, h7, h8⟩, ⟨k0, l0, l1, l2, l3, k5, k6, k7, k8⟩, hap⟩ := hk
  refine ⟨(lm_1 (by omega) _).trans e1, (lm_2 (by simp [hs_rl, as_rl, hd_rl])).trans q0, (lm_2 (by simp [hs_rl, as_rl, hd_rl])).trans q1, (lm_2 (by simp [hs_rl, as_rl, hd_rl])).trans q2, (lm_2 (by simp [hs_rl, as_rl, hd_rl])).trans q3, (lm_1 (by omega) _).trans e6, (lm_1 (by omega) _).trans e7, ⟨(lm_1 (by omega) _).trans h0, (lm_2 (by simp [hs_rl, as_rl, hd_rl])).trans r0, (lm_2 (by simp [hs_rl, as_rl, hd_rl])).trans r1, (lm_2 (by simp [hs_rl, as_rl, hd_rl])).trans r2, (lm_2 (by simp [hs_rl, as_rl, hd_rl])).trans r3, (lm_1 (by omega) _).trans h5, (lm_1 (by omega) _).trans h6, (lm_1 (by omega) _).trans h7, (lm_1 (by omega) _).trans h8⟩, ⟨(lm_1 (by omega) _).trans k0, (lm_2 (by simp [hs_rl, as_rl, hd_rl])).trans l0, (lm_2 (by simp [hs_rl, as_rl, hd_rl])).trans l1, (lm_2 (by simp [hs_rl, as_rl, hd_rl])).trans l2, (lm_2 (by simp [hs_rl, as_rl, hd_rl])).trans l3, (lm_1 (by omega) _).trans k5, (lm_1 (by omega) _).trans k6, (lm_1 (by omega) _).trans k7, (lm_1 (by omega) _).trans k8⟩, fun p hp => ?_⟩
  obtain ⟨a, b0, b1, b2, b3, b4⟩ := hap p hp
  have hm : ∀ x : Nat × Nat, x = (hb + 11, p) ∨ x = (hb + 13 + 3 * p, 0) ∨ x = (hb + 13 + 3 * p, 1) → x ∈ hs_rl hb rl := by
    rcases (show p = 0 ∨ p = 1 ∨ p = 2 ∨ p = 3 by omega) with rfl | rfl | rfl | rfl <;> intro x hx <;> rcases hx with rfl | rfl | rfl <;> simp [hs_rl, as_rl, hd_rl]
  exact ⟨(lm_2 (hm _ (Or.inl rfl))).trans a, (lm_1 (by omega) _).trans b0, (lm_2 (hm _ (Or.inr (Or.inl rfl)))).trans b1, (lm_2 (hm _ (Or.inr (Or.inr rfl)))).trans b2, (lm_1 (by omega) _).trans b3, (lm_1 (by omega) _).trans b4⟩

set_option maxRecDepth 8000 in
theorem g_X3_init {hb : Nat} (hk : hs_ok pm_L0 hb) (hkn : hb + 25 ≤ 109) (rl : List (Nat × Nat)) (w : pm_W) : pg_C MX3_init 24 454 [.ref hb] (hb + 1) rl w (hb + 25) (hs_rl hb rl) (fun w1 => hs_R w1 hb (ab_beg 4 1 2) ∧ fr1 w w1 hb (hb + 25)) := by
  obtain ⟨e1, q0, q1, q2, q3, e6, e7, hdr, hdl, hap⟩ := id hk
  have a0 : pm_L0.2 (hb + 11) 0 = some (hb + 13) ∧ as_ok pm_L0 (hb + 13) := hap 0 (by decide)
  have a1 : pm_L0.2 (hb + 11) 1 = some (hb + 16) ∧ as_ok pm_L0 (hb + 16) := hap 1 (by decide)
  have a2 : pm_L0.2 (hb + 11) 2 = some (hb + 19) ∧ as_ok pm_L0 (hb + 19) := hap 2 (by decide)
  have a3 : pm_L0.2 (hb + 11) 3 = some (hb + 22) ∧ as_ok pm_L0 (hb + 22) := hap 3 (by decide)
  refine pg_start (lv := [some (.ref _), none]) (plainFor_of_name pf3) rfl rfl (Nat.le_of_ble_eq_true rfl) rfl ?_
  refine pg_aload_n dX3_init_0 rfl ?_
  refine pg_objInit dX3_init_1 oi_RX3 oi_i oi_c (by decide) (Nat.le_of_ble_eq_true rfl) ?_
  refine pg_aload_n dX3_init_4 rfl ?_
  refine pg_new (ci := 2) (N := 5) (by omega) dX3_init_5 rfl (by decide) cl_RX3_9 it_RX2 ii_RX2 hdr.1 (by omega) (by omega) (by omega) (pg_lr (by omega) (pg_ln pg_l0)) (pg_sr (by omega) pg_s0) ?_
  refine pg_dup dX3_init_8 rfl ?_
  refine pg_bipush (x := (nI 12)) dX3_init_9 rfl ?_
  refine pg_callI (as := [.int _]) dX3_init_11 mi_RX3_11 (by decide) (Nat.le_of_ble_eq_true rfl) (g_X2_init (k := hb + 1) hdr (by decide) (by omega) _ _) (by omega) (by omega) (by omega) (pg_lr (by omega) (pg_ln pg_l0)) (pg_sr (by omega) (pg_sr (by omega) pg_s0)) (fun u1 hu1 => ?_)
  have t1f := fr1_tr (fr1_B (fr1_rf w hb (hb + 25)) (by omega) (by omega)) (fr1_wd hu1 (by omega) (by omega))
  refine pg_putR dX3_init_14 (by decide) e1 (by omega) (by omega) (by decide) fl_RX3_14 rfl rfl rfl q0 ?_
  refine pg_aload_n dX3_init_17 rfl ?_
  refine pg_new (ci := 2) (N := 5) (by omega) dX3_init_18 rfl (by decide) cl_RX3_9 it_RX2 ii_RX2 hdl.1 (by omega) (by omega) (by omega) (pg_lr (by omega) (pg_ln pg_l0)) (pg_sr (by omega) pg_s0) ?_
  refine pg_dup dX3_init_21 rfl ?_
  refine pg_bipush (x := (nI 16)) dX3_init_22 rfl ?_
  refine pg_callI (as := [.int _]) dX3_init_24 mi_RX3_11 (by decide) (Nat.le_of_ble_eq_true rfl) (g_X2_init (k := hb + 6) hdl (by decide) (by omega) _ _) (by omega) (by omega) (by omega) (pg_lr (by omega) (pg_ln pg_l0)) (pg_sr (by omega) (pg_sr (by omega) pg_s0)) (fun u6 hu6 => ?_)
  have t6f := fr1_tr (fr1_B (t1f) (by omega) (by omega)) (fr1_wd hu6 (by omega) (by omega))
  refine pg_putR dX3_init_27 (by decide) e1 (by omega) (by omega) (by decide) fl_RX3_20 rfl rfl rfl q1 ?_
  refine pg_aload_n dX3_init_30 rfl ?_
  refine pg_iconst (x := 4) dX3_init_31 rfl ?_
  refine pg_newK (N := 4) (by omega) dX3_init_32 cl_RX3_23 rfl e6 (by omega) (by decide) (by omega) (by omega) (pg_lr (by omega) (pg_ln pg_l0)) (pg_sr (by omega) pg_s0) ?_
  refine pg_putR dX3_init_35 (by decide) e1 (by omega) (by omega) (by decide) fl_RX3_25 rfl rfl rfl q2 ?_
  refine pg_aload_n dX3_init_38 rfl ?_
  refine pg_bipush (x := 24) dX3_init_39 rfl ?_
  refine pg_newI (N := 24) (by omega) dX3_init_41 aw_int rfl e7 (by omega) (by first | decide | omega) (by omega) (by omega) (pg_lr (by omega) (pg_ln pg_l0)) (pg_sr (by omega) pg_s0) ?_
  refine pg_putR dX3_init_43 (by decide) e1 (by omega) (by omega) (by decide) fl_RX3_29 rfl rfl rfl q3 ?_
  refine pg_iconst (x := 0) dX3_init_46 rfl ?_
  refine pg_istore_n (lv' := [some (.ref hb), some (.int (nI 0))]) dX3_init_47 (by decide) rfl ?_
  refine pg_iload_n dX3_init_48 rfl ?_
  refine pg_iconst (x := 4) dX3_init_49 rfl ?_
  refine pg_icmp_ge (tgt := 72) dX3_init_50 (by decide) (fun c => absurd c (by decide)) (fun _ => ?_)
  refine pg_aload_n dX3_init_53 rfl ?_
  refine pg_getR dX3_init_54 (by decide) e1 (by omega) (by decide) fl_RX3_25 rfl (by first | decide | simp [as_rl, hd_rl]) q2 ?_
  refine pg_iload_n dX3_init_57 rfl ?_
  refine pg_new (ci := 0) (N := 10) (by omega) dX3_init_58 rfl (by decide) cl_RX3_23 it_RX0 ii_RX0 a0.2.1 (by omega) (by omega) (by omega) (pg_lr (by omega) (pg_li pg_l0)) (pg_si (pg_sr (by omega) pg_s0)) ?_
  refine pg_dup dX3_init_61 rfl ?_
  refine pg_callIN (as := []) dX3_init_62 mi_RX3_33 (by decide) (Nat.le_of_ble_eq_true rfl) (g_X0_init (k := hb + 13) a0.2 (by omega) _ _) (by omega) (by omega) (by omega) (pg_lr (by omega) (pg_li pg_l0)) (pg_sr (by omega) (pg_si (pg_sr (by omega) pg_s0))) (fun v0 hv0 => ?_)
  have u0f := fr1_tr (fr1_B (fr1_s (t6f) (by omega) (by omega)) (by omega) (by omega)) (fr1_wd hv0 (by omega) (by omega))
  refine pg_astK dX3_init_65 e6 a0.2.1 (by omega) (by omega) (by decide) (by decide) a0.1 ?_
  refine pg_iinc (y := nI 1) (lv' := [some (.ref hb), some (.int (nI 1))]) dX3_init_66 rfl (by decide) (by decide) rfl ?_
  refine pg_goto (tgt := 48) dX3_init_69 (by decide) ?_
  refine pg_iload_n dX3_init_48 rfl ?_
  refine pg_iconst (x := 4) dX3_init_49 rfl ?_
  refine pg_icmp_ge (tgt := 72) dX3_init_50 (by decide) (fun c => absurd c (by decide)) (fun _ => ?_)
  refine pg_aload_n dX3_init_53 rfl ?_
  refine pg_getR dX3_init_54 (by decide) e1 (by omega) (by decide) fl_RX3_25 rfl (by first | decide | simp [as_rl, hd_rl]) q2 ?_
  refine pg_iload_n dX3_init_57 rfl ?_
  refine pg_new (ci := 0) (N := 10) (by omega) dX3_init_58 rfl (by decide) cl_RX3_23 it_RX0 ii_RX0 a1.2.1 (by omega) (by omega) (by omega) (pg_lr (by omega) (pg_li pg_l0)) (pg_si (pg_sr (by omega) pg_s0)) ?_
  refine pg_dup dX3_init_61 rfl ?_
  refine pg_callIN (as := []) dX3_init_62 mi_RX3_33 (by decide) (Nat.le_of_ble_eq_true rfl) (g_X0_init (k := hb + 16) a1.2 (by omega) _ _) (by omega) (by omega) (by omega) (pg_lr (by omega) (pg_li pg_l0)) (pg_sr (by omega) (pg_si (pg_sr (by omega) pg_s0))) (fun v1 hv1 => ?_)
  have u1f := fr1_tr (fr1_B (u0f) (by omega) (by omega)) (fr1_wd hv1 (by omega) (by omega))
  refine pg_astK dX3_init_65 e6 a1.2.1 (by omega) (by omega) (by decide) (by decide) a1.1 ?_
  refine pg_iinc (y := nI 2) (lv' := [some (.ref hb), some (.int (nI 2))]) dX3_init_66 rfl (by decide) (by decide) rfl ?_
  refine pg_goto (tgt := 48) dX3_init_69 (by decide) ?_
  refine pg_iload_n dX3_init_48 rfl ?_
  refine pg_iconst (x := 4) dX3_init_49 rfl ?_
  refine pg_icmp_ge (tgt := 72) dX3_init_50 (by decide) (fun c => absurd c (by decide)) (fun _ => ?_)
  refine pg_aload_n dX3_init_53 rfl ?_
  refine pg_getR dX3_init_54 (by decide) e1 (by omega) (by decide) fl_RX3_25 rfl (by first | decide | simp [as_rl, hd_rl]) q2 ?_
  refine pg_iload_n dX3_init_57 rfl ?_
  refine pg_new (ci := 0) (N := 10) (by omega) dX3_init_58 rfl (by decide) cl_RX3_23 it_RX0 ii_RX0 a2.2.1 (by omega) (by omega) (by omega) (pg_lr (by omega) (pg_li pg_l0)) (pg_si (pg_sr (by omega) pg_s0)) ?_
  refine pg_dup dX3_init_61 rfl ?_
  refine pg_callIN (as := []) dX3_init_62 mi_RX3_33 (by decide) (Nat.le_of_ble_eq_true rfl) (g_X0_init (k := hb + 19) a2.2 (by omega) _ _) (by omega) (by omega) (by omega) (pg_lr (by omega) (pg_li pg_l0)) (pg_sr (by omega) (pg_si (pg_sr (by omega) pg_s0))) (fun v2 hv2 => ?_)
  have u2f := fr1_tr (fr1_B (u1f) (by omega) (by omega)) (fr1_wd hv2 (by omega) (by omega))
  refine pg_astK dX3_init_65 e6 a2.2.1 (by omega) (by omega) (by decide) (by decide) a2.1 ?_
  refine pg_iinc (y := nI 3) (lv' := [some (.ref hb), some (.int (nI 3))]) dX3_init_66 rfl (by decide) (by decide) rfl ?_
  refine pg_goto (tgt := 48) dX3_init_69 (by decide) ?_
  refine pg_iload_n dX3_init_48 rfl ?_
  refine pg_iconst (x := 4) dX3_init_49 rfl ?_
  refine pg_icmp_ge (tgt := 72) dX3_init_50 (by decide) (fun c => absurd c (by decide)) (fun _ => ?_)
  refine pg_aload_n dX3_init_53 rfl ?_
  refine pg_getR dX3_init_54 (by decide) e1 (by omega) (by decide) fl_RX3_25 rfl (by first | decide | simp [as_rl, hd_rl]) q2 ?_
  refine pg_iload_n dX3_init_57 rfl ?_
  refine pg_new (ci := 0) (N := 10) (by omega) dX3_init_58 rfl (by decide) cl_RX3_23 it_RX0 ii_RX0 a3.2.1 (by omega) (by omega) (by omega) (pg_lr (by omega) (pg_li pg_l0)) (pg_si (pg_sr (by omega) pg_s0)) ?_
  refine pg_dup dX3_init_61 rfl ?_
  refine pg_callIN (as := []) dX3_init_62 mi_RX3_33 (by decide) (Nat.le_of_ble_eq_true rfl) (g_X0_init (k := hb + 22) a3.2 (by omega) _ _) (by omega) (by omega) (by omega) (pg_lr (by omega) (pg_li pg_l0)) (pg_sr (by omega) (pg_si (pg_sr (by omega) pg_s0))) (fun v3 hv3 => ?_)
  have u3f := fr1_tr (fr1_B (u2f) (by omega) (by omega)) (fr1_wd hv3 (by omega) (by omega))
  refine pg_astK dX3_init_65 e6 a3.2.1 (by omega) (by omega) (by decide) (by decide) a3.1 ?_
  refine pg_iinc (y := nI 4) (lv' := [some (.ref hb), some (.int (nI 4))]) dX3_init_66 rfl (by decide) (by decide) rfl ?_
  refine pg_goto (tgt := 48) dX3_init_69 (by decide) ?_
  refine pg_iload_n dX3_init_48 rfl ?_
  refine pg_iconst (x := 4) dX3_init_49 rfl ?_
  refine pg_icmp_ge (tgt := 72) dX3_init_50 (by decide) (fun _ => ?_) (fun c => absurd (by decide) c)
  refine pg_aload_n dX3_init_72 rfl ?_
  refine pg_iconst (x := 4) dX3_init_73 rfl ?_
  refine pg_iconst (x := 1) dX3_init_74 rfl ?_
  refine pg_iconst (x := 2) dX3_init_75 rfl ?_
  refine pg_callV (as := [.int _, .int _, .int _]) dX3_init_76 e1 (by omega) (by decide) rfl ml_RX3_34 (by decide) (Nat.le_of_ble_eq_true rfl) (c_X3_begin (hs_lm hk rl) _ 4 1 2) ⟨by omega, by omega⟩ (fun r w9 hq9 => ?_)
  obtain ⟨rfl, hq⟩ := hq9
  refine pg_vret (st := []) dX3_init_79 ?_ (by omega) rfl (by omega) (by omega)
  exact ⟨hq.1, fr1_tr (u3f) (fun a q => hq.2.1 a q)⟩

def ra_rl : List (Nat × Nat) := (26, 1) :: hs_rl 58 ((26, 0) :: hs_rl 33 ((0, 3) :: fo_rl ((0, 2) :: (0, 1) :: (0, 0) :: hs_rl 1 [])))
set_option maxRecDepth 8000 in
theorem g_X4_init (w : pm_W) : pg_C MX4_init 82 1489 [.ref 0] 1 [] w 83 ra_rl (fun w1 => cs_R w1 (ab_beg 4 1 2) (fun _ => none) ∧ fr1 w w1 0 83) := by
  refine pg_start (lv := [some (.ref _), none]) (plainFor_of_name pf4) rfl rfl (Nat.le_of_ble_eq_true rfl) rfl ?_
  refine pg_aload_n dX4_init_0 rfl ?_
  refine pg_objInit dX4_init_1 oi_RX4 oi_i oi_c (by decide) (Nat.le_of_ble_eq_true rfl) ?_
  refine pg_aload_n dX4_init_4 rfl ?_
  refine pg_new (ci := 3) (N := 11) (by omega) dX4_init_5 rfl (by decide) cl_RX4_7 it_RX3 ii_RX3 rfl (by omega) (by omega) (by omega) (pg_lr (by omega) (pg_ln pg_l0)) (pg_sr (by omega) pg_s0) ?_
  refine pg_dup dX4_init_8 rfl ?_
  refine pg_callI (as := []) dX4_init_9 mi_RX4_9 (by decide) (Nat.le_of_ble_eq_true rfl) (g_X3_init (hb := 1) L0_hs1 (by decide) _ _) (by omega) (by omega) (by omega) (pg_lr (by omega) (pg_ln pg_l0)) (pg_sr (by omega) (pg_sr (by omega) pg_s0)) (fun w1 hq1 => ?_)
  refine pg_putR dX4_init_12 (by decide) rfl (by omega) (by omega) (by decide) fl_RX4_10 rfl rfl rfl rfl ?_
  refine pg_aload_n dX4_init_15 rfl ?_
  refine pg_iconst (x := 2) dX4_init_16 rfl ?_
  refine pg_newH (N := 2) (by omega) dX4_init_17 cl_RX4_7 rfl rfl (by omega) (by decide) (by omega) (by omega) (pg_lr (by omega) (pg_ln pg_l0)) (pg_sr (by omega) pg_s0) ?_
  refine pg_putR dX4_init_20 (by decide) rfl (by omega) (by omega) (by decide) fl_RX4_16 rfl rfl rfl rfl ?_
  refine pg_aload_n dX4_init_23 rfl ?_
  refine pg_iconst (x := 2) dX4_init_24 rfl ?_
  refine pg_newZ (N := 2) (by omega) dX4_init_25 aw_boolean rfl rfl (by omega) (by first | decide | omega) (by omega) (by omega) (pg_lr (by omega) (pg_ln pg_l0)) (pg_sr (by omega) pg_s0) ?_
  refine pg_putR dX4_init_27 (by decide) rfl (by omega) (by omega) (by decide) fl_RX4_20 rfl rfl rfl rfl ?_
  refine pg_name (fun w2 => hs_R w2 1 (ab_beg 4 1 2) ∧ (∀ s, w2.1 27 s = 0) ∧ fr1 w w2 0 83) ⟨hs_R_cong hq1.1 (fun x q1 q2 => pm_s_ne (by omega)), fun s => by rw [pm_s_at], fr1_s (fr1_tr (fr1_B (fr1_rf w 0 83) (by omega) (by omega)) (fr1_wd hq1.2 (by omega) (by omega))) (by omega) (by omega)⟩ (fun w2 hw2 => ?_)
  refine pg_aload_n dX4_init_30 rfl ?_
  refine pg_new (ci := 1) (N := 9) (by omega) dX4_init_31 rfl (by decide) cl_RX4_24 it_RX1 ii_RX1 rfl (by omega) (by omega) (by omega) (pg_lr (by omega) (pg_ln pg_l0)) (pg_sr (by omega) pg_s0) ?_
  refine pg_dup dX4_init_34 rfl ?_
  refine pg_callIN (as := []) dX4_init_35 mi_RX4_26 (by decide) (Nat.le_of_ble_eq_true rfl) (g_X1_init _ _) (by omega) (by omega) (by omega) (pg_lr (by omega) (pg_ln pg_l0)) (pg_sr (by omega) (pg_sr (by omega) pg_s0)) (fun w3 hq3 => ?_)
  refine pg_putR dX4_init_38 (by decide) rfl (by omega) (by omega) (by decide) fl_RX4_27 rfl rfl rfl rfl ?_
  refine pg_iconst (x := 0) dX4_init_41 rfl ?_
  refine pg_istore_n (lv' := [some (.ref 0), some (.int (nI 0))]) dX4_init_42 (by decide) rfl ?_
  refine pg_iload_n dX4_init_43 rfl ?_
  refine pg_iconst (x := 2) dX4_init_44 rfl ?_
  refine pg_icmp_ge (tgt := 67) dX4_init_45 (by decide) (fun c => absurd c (by decide)) (fun _ => ?_)
  refine pg_aload_n dX4_init_48 rfl ?_
  refine pg_getR dX4_init_49 (by decide) rfl (by omega) (by decide) fl_RX4_16 rfl (by first | decide | simp [as_rl, hd_rl]) rfl ?_
  refine pg_iload_n dX4_init_52 rfl ?_
  refine pg_new (ci := 3) (N := 11) (by omega) dX4_init_53 rfl (by decide) cl_RX4_7 it_RX3 ii_RX3 rfl (by omega) (by omega) (by omega) (pg_lr (by omega) (pg_li pg_l0)) (pg_si (pg_sr (by omega) pg_s0)) ?_
  refine pg_dup dX4_init_56 rfl ?_
  refine pg_callI (as := []) dX4_init_57 mi_RX4_9 (by decide) (Nat.le_of_ble_eq_true rfl) (g_X3_init (hb := 33) L0_hs33 (by decide) _ _) (by omega) (by omega) (by omega) (pg_lr (by omega) (pg_li pg_l0)) (pg_sr (by omega) (pg_si (pg_sr (by omega) pg_s0))) (fun w4 hq4 => ?_)
  refine pg_astH dX4_init_60 rfl rfl (by omega) (by omega) (by decide) (by decide) rfl ?_
  refine pg_iinc (y := nI 1) (lv' := [some (.ref 0), some (.int (nI 1))]) dX4_init_61 rfl (by decide) (by decide) rfl ?_
  refine pg_goto (tgt := 43) dX4_init_64 (by decide) ?_
  refine pg_iload_n dX4_init_43 rfl ?_
  refine pg_iconst (x := 2) dX4_init_44 rfl ?_
  refine pg_icmp_ge (tgt := 67) dX4_init_45 (by decide) (fun c => absurd c (by decide)) (fun _ => ?_)
  refine pg_aload_n dX4_init_48 rfl ?_
  refine pg_getR dX4_init_49 (by decide) rfl (by omega) (by decide) fl_RX4_16 rfl (by first | decide | simp [as_rl, hd_rl]) rfl ?_
  refine pg_iload_n dX4_init_52 rfl ?_
  refine pg_new (ci := 3) (N := 11) (by omega) dX4_init_53 rfl (by decide) cl_RX4_7 it_RX3 ii_RX3 rfl (by omega) (by omega) (by omega) (pg_lr (by omega) (pg_li pg_l0)) (pg_si (pg_sr (by omega) pg_s0)) ?_
  refine pg_dup dX4_init_56 rfl ?_
  refine pg_callI (as := []) dX4_init_57 mi_RX4_9 (by decide) (Nat.le_of_ble_eq_true rfl) (g_X3_init (hb := 58) L0_hs58 (by decide) _ _) (by omega) (by omega) (by omega) (pg_lr (by omega) (pg_li pg_l0)) (pg_sr (by omega) (pg_si (pg_sr (by omega) pg_s0))) (fun w5 hq5 => ?_)
  refine pg_astH dX4_init_60 rfl rfl (by omega) (by omega) (by decide) (by decide) rfl ?_
  refine pg_iinc (y := nI 2) (lv' := [some (.ref 0), some (.int (nI 2))]) dX4_init_61 rfl (by decide) (by decide) rfl ?_
  refine pg_goto (tgt := 43) dX4_init_64 (by decide) ?_
  refine pg_iload_n dX4_init_43 rfl ?_
  refine pg_iconst (x := 2) dX4_init_44 rfl ?_
  refine pg_icmp_ge (tgt := 67) dX4_init_45 (by decide) (fun _ => ?_) (fun c => absurd (by decide) c)
  refine pg_vret (st := []) dX4_init_67 ?_ (by omega) rfl (by omega) (by omega)
  have hB : fr1 w2 w5 28 83 := fr1_tr (fr1_B (fr1_tr (fr1_B (fr1_tr (fr1_B (fr1_rf w2 28 83) (by omega) (by omega)) (fr1_wd hq3 (by omega) (by omega))) (by omega) (by omega)) (fr1_wd hq4.2 (by omega) (by omega))) (by omega) (by omega)) (fr1_wd hq5.2 (by omega) (by omega))
  refine ⟨⟨hs_R_cong hw2.1 (fun x q1 q2 => hB x (Or.inl (by omega))), fun s hs => ⟨?_, fun T hT => by cases hT⟩⟩, fr1_tr (fr1_B (fr1_tr (fr1_B (fr1_tr (fr1_B (hw2.2.2) (by omega) (by omega)) (fr1_wd hq3 (by omega) (by omega))) (by omega) (by omega)) (fr1_wd hq4.2 (by omega) (by omega))) (by omega) (by omega)) (fr1_wd hq5.2 (by omega) (by omega))⟩
  rw [hB 27 (Or.inl (by decide))]
  exact hw2.2.1 s

