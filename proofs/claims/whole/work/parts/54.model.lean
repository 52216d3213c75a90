theorem mo_num2 {w : pm_W} {S : ab_S} {b x : Int32} (h : mo_R w S) (hx : x = S.2.2.2.1 8 + ab_abs (b - S.2.2.2.1 7)) : mo_R (pm_s (pm_s w 83 (upd (w.1 83) 12 x)) 83 (upd ((pm_s w 83 (upd (w.1 83) 12 x)).1 83) 10 b)) (S.1, S.2.1, S.2.2.1, ab_arm S.2.2.2.1 b, S.2.2.2.2) := by
  obtain ⟨h1, h2, h3, ⟨n0, n1, n2, n3, n4, n5⟩, h5⟩ := h
  subst hx
  rw [pm_s_s, pm_s_at]
  refine ⟨mr_cong h1 (by simp [pm_s, upd]) (pm_s_ne (by decide)) (pm_s_ne (by decide)) (pm_s_ne (by decide)), ml_cong h2 (by simp [pm_s, upd]) (pm_s_ne (by decide)) (pm_s_ne (by decide)), fun p hp => moA_cong (h3 p hp) (fun a q1 q2 => pm_s_ne (by omega)), ?_, mw_cong h5 (by simp [pm_s, upd]) (pm_s_ne (by decide))⟩
  refine ⟨?_, ?_, ?_, ?_, ?_, ?_⟩ <;> simp [pm_s, upd, ab_arm, n0, n1, n2, n5]

theorem fa_us (f : Nat → Int32) (k : Nat) : upd f k (f k) = f := by
  funext j
  unfold upd
  split
  next h => rw [h]
  next => rfl
set_option maxRecDepth 4000 in
theorem c_X5_serve {w : pm_W} {S : ab_S} (hR : mo_R w S) (hI : ab_I S) {b : Int32} {p : Nat} (z : Bool) (he : ab_eok (b, p, pm_z z)) : pm_C pm_L0 MX5_serve [.ref 83, .int b, .int (nI p), .int (pm_z z)] w (pm_qv fun w2 => mo_R w2 (ab_serve (ab_sn S p z) b p (pm_z z)).1 ∧ w2.1 83 27 = w.1 83 27 + (ab_serve (ab_sn S p z) b p (pm_z z)).2 ∧ mfr w w2 [84, 85, 86, 91, 98] [6, 10, 12, 27]) := by
  obtain ⟨g1, g2, g3, g4, g5⟩ := id hR
  obtain ⟨⟨sp, i1, i2, i3, i4⟩, i5, i6, i7, i8, i9, i10, i11, i12⟩ := id hI
  have hp : p < 4 := he.1
  have hIb : ab_I ((ab_sn S p z).1, (ab_sn S p z).2.1, (ab_sn S p z).2.2.1, ab_arm (ab_sn S p z).2.2.2.1 b, (ab_sn S p z).2.2.2.2) := by
    obtain ⟨z1, z2, z3, z4, z5, z6, z7, z8, z9⟩ := I_sn hI hp z
    exact ⟨z1, z2, z3, z4, ⟨he.2.1, he.2.2.1⟩, z6, z7, z8, z9⟩
  have tail : ∀ w1, mo_R w1 (S.1, S.2.1, S.2.2.1, ab_arm S.2.2.2.1 b, S.2.2.2.2) → w1.1 83 27 = w.1 83 27 → mfr w w1 [84, 85, 86, 91, 98] [6, 10, 12, 27] → pm_R pm_L0 MX5_serve 37 [some (.ref 83), some (.int b), some (.int (nI p)), some (.int (pm_z z))] [] w1 (pm_qv fun w2 => mo_R w2 (ab_serve (ab_sn S p z) b p (pm_z z)).1 ∧ w2.1 83 27 = w.1 83 27 + (ab_serve (ab_sn S p z) b p (pm_z z)).2 ∧ mfr w w2 [84, 85, 86, 91, 98] [6, 10, 12, 27]) := by
    intro w1 hR1 h27 hf1
    refine pm_aload_n dX5_serve_37 rfl ?_
    refine pm_getR (ci := 5) (j := 22) (n := 39) (by first | assumption | rfl) (by decide) (by decide) rfl fl_RX5_53 rfl (by first | assumption | rfl) dX5_serve_38 ?_
    refine pm_bipush (x := nI 7) dX5_serve_41 rfl ?_
    refine pm_iload_n dX5_serve_43 rfl ?_
    refine pm_imul dX5_serve_44 ?_
    refine pm_iconst (x := nI 3) dX5_serve_45 rfl ?_
    refine pm_iadd dX5_serve_46 ?_
    refine pm_topi (nI (7 * p + 3)) (by rw [pk_mul, nI_add]) ?_
    refine pm_dup2 dX5_serve_47 rfl rfl ?_
    refine pm_ialdN (by first | assumption | rfl) (by first | assumption | omega | decide) (by first | decide | omega) dX5_serve_48 ?_
    refine pm_iload_n dX5_serve_49 rfl ?_
    refine pm_if_eq (tgt := 57) dX5_serve_50 (by decide) (fun c50 => ?_) (fun c50 => ?_)
    · refine pm_iconst (x := 0) dX5_serve_57 rfl ?_
      refine pm_iadd dX5_serve_58 ?_
      refine pm_iastN (by first | assumption | rfl) (by first | assumption | omega | decide) (by first | decide | omega) dX5_serve_59 ?_
      rw [pm_z_0] at c50
      subst c50
      rw [Int32.add_zero]
      refine serve_60 (w0 := w) ?_ hIb hp false ?_ (mfr_c hf1 (by decide) (by decide) _)
      · refine mo_ask hR1 (ak := S.2.2.1) (fun q hq => ?_) (mfr_wd (mfr_c (mfr_rf _ [98] []) (k := 98) (by decide) (by decide) _) (by decide) (by decide))
        rw [show upd (w1.1 98) (7 * p + 3) (w1.1 98 (7 * p + 3)) = w1.1 98 from fa_us _ _, ← pm_s_id]
        exact hR1.2.2.1 q hq
      · rw [pm_s_ne (by decide)]; exact h27
    · refine pm_iconst (x := 1) dX5_serve_53 rfl ?_
      refine pm_goto (tgt := 58) dX5_serve_54 (by decide) ?_
      refine pm_iadd dX5_serve_58 ?_
      refine pm_iastN (by first | assumption | rfl) (by first | assumption | omega | decide) (by first | decide | omega) dX5_serve_59 ?_
      rw [pm_z_1] at c50
      subst c50
      refine serve_60 (S := ab_sn S p true) (w0 := w) ?_ hIb hp true ?_ (mfr_c hf1 (by decide) (by decide) _)
      · refine mo_ask (S := (S.1, S.2.1, S.2.2.1, ab_arm S.2.2.2.1 b, S.2.2.2.2)) hR1 (ak := va_up S.2.2.1 p (ab_inc (S.2.2.1 p) 3)) (fun q hq => ?_) (mfr_wd (mfr_c (mfr_rf _ [98] []) (k := 98) (by decide) (by decide) _) (by decide) (by decide))
        have h9 := mo_inc (p := p) (j := 3) (by decide) (show mo_A w1 q (S.2.2.1 q) from hR1.2.2.1 q hq)
        by_cases hqp : q = p
        · subst hqp; rw [if_pos rfl] at h9; rw [va_up_self]; exact h9
        · rw [if_neg hqp] at h9; rw [va_up_ne _ _ hqp]; exact h9
      · rw [pm_s_ne (by decide)]; exact h27
  refine pm_start (lv := [some (.ref _), some (.int _), some (.int _), some (.int _)]) (plainFor_of_name pf5) (Nat.le_of_ble_eq_true rfl) rfl ?_
  refine pm_aload_n dX5_serve_0 rfl ?_
  refine pm_dup dX5_serve_1 rfl ?_
  refine pm_getI (ci := 5) (j := 12) (n := 39) (by first | assumption | rfl) (by decide) (by decide) rfl fl_RX5_123 rfl dX5_serve_2 ?_
  rw [g4.2.2.2.2.1]
  refine pm_iload_n dX5_serve_5 rfl ?_
  refine pm_aload_n dX5_serve_6 rfl ?_
  refine pm_getI (ci := 5) (j := 10) (n := 39) (by first | assumption | rfl) (by decide) (by decide) rfl fl_RX5_117 rfl dX5_serve_7 ?_
  rw [g4.2.2.2.1]
  refine pm_icmp_le (tgt := 22) dX5_serve_10 (by decide) (fun c10 => ?_) (fun c10 => ?_)
  · refine pm_aload_n dX5_serve_22 rfl ?_
    refine pm_getI (ci := 5) (j := 10) (n := 39) (by first | assumption | rfl) (by decide) (by decide) rfl fl_RX5_117 rfl dX5_serve_23 ?_
    rw [g4.2.2.2.1]
    refine pm_iload_n dX5_serve_26 rfl ?_
    refine pm_isub dX5_serve_27 ?_
    refine pm_iadd dX5_serve_28 ?_
    refine pm_putI (ci := 5) (j := 12) (n := 39) (by first | assumption | rfl) (by decide) (by decide) rfl fl_RX5_123 rfl rfl dX5_serve_29 ?_
    refine pm_aload_n dX5_serve_32 rfl ?_
    refine pm_iload_n dX5_serve_33 rfl ?_
    refine pm_putI (ci := 5) (j := 10) (n := 39) (by first | assumption | rfl) (by decide) (by decide) rfl fl_RX5_117 rfl rfl dX5_serve_34 ?_
    exact tail _ (mo_num2 hR (congrArg (fun t => S.2.2.2.1 8 + t) ((abs_cs (b := b) (a := S.2.2.2.1 7) ⟨he.2.1, he.2.2.1⟩ i8).2 c10))) (by simp [pm_s, upd]) (mfr_j (mfr_j (mfr_rf _ _ _) (j := 12) (by decide) _) (j := 10) (by decide) _)
  · refine pm_iload_n dX5_serve_13 rfl ?_
    refine pm_aload_n dX5_serve_14 rfl ?_
    refine pm_getI (ci := 5) (j := 10) (n := 39) (by first | assumption | rfl) (by decide) (by decide) rfl fl_RX5_117 rfl dX5_serve_15 ?_
    rw [g4.2.2.2.1]
    refine pm_isub dX5_serve_18 ?_
    refine pm_goto (tgt := 28) dX5_serve_19 (by decide) ?_
    refine pm_iadd dX5_serve_28 ?_
    refine pm_putI (ci := 5) (j := 12) (n := 39) (by first | assumption | rfl) (by decide) (by decide) rfl fl_RX5_123 rfl rfl dX5_serve_29 ?_
    refine pm_aload_n dX5_serve_32 rfl ?_
    refine pm_iload_n dX5_serve_33 rfl ?_
    refine pm_putI (ci := 5) (j := 10) (n := 39) (by first | assumption | rfl) (by decide) (by decide) rfl fl_RX5_117 rfl rfl dX5_serve_34 ?_
    exact tail _ (mo_num2 hR (congrArg (fun t => S.2.2.2.1 8 + t) ((abs_cs (b := b) (a := S.2.2.2.1 7) ⟨he.2.1, he.2.2.1⟩ i8).1 (Int32.not_le.mp c10)))) (by simp [pm_s, upd]) (mfr_j (mfr_j (mfr_rf _ _ _) (j := 12) (by decide) _) (j := 10) (by decide) _)

def ab_lz (l : List ab_E) (arm : Int32) : Option Nat → Int32
  | none => 0
  | some k => ab_abs ((l.getD k (0, 0, 0)).1 - arm)
set_option maxRecDepth 4000 in
theorem c_X5_nearest {w : pm_W} {l : List ab_E} (hm : ml w l) (hl : l.length ≤ 16) {arm : Int32} (harm : w.1 83 10 = arm) (har : 0 ≤ arm ∧ arm ≤ 63) (hb : ∀ e ∈ l, 0 ≤ e.1 ∧ e.1 ≤ 63) : pm_C pm_L0 MX5_nearest [.ref 83] w (pm_qi fun r w1 => r = ab_eo (ab_nr l arm l.length) ∧ w1 = w) := by
  have loop : ∀ i, i ≤ l.length → pm_R pm_L0 MX5_nearest 6 [some (.ref 83), some (.int (ab_eo (ab_nr l arm i))), some (.int (ab_lz l arm (ab_nr l arm i))), some (.int (nI i)), none] [] w (pm_qi fun r w1 => r = ab_eo (ab_nr l arm l.length) ∧ w1 = w) := by
    refine up_loop l.length (fun i hi ih => ?_)
    cases hnr : ab_nr l arm i with
    | none =>
      simp only [ab_eo, ab_lz]
      refine pm_iload_n dX5_nearest_6 rfl ?_
      refine pm_aload_n dX5_nearest_7 rfl ?_
      refine pm_getI (ci := 5) (j := 9) (n := 39) (by first | assumption | rfl) (by decide) (by decide) rfl fl_RX5_114 rfl dX5_nearest_8 ?_
      rw [hm.1]
      refine pm_icmp_ge (tgt := 96) dX5_nearest_11 (by decide) (fun c11 => ?_) (fun c11 => ?_)
      · refine pm_iload_n dX5_nearest_96 rfl ?_
        refine pm_iret dX5_nearest_97 rfl ?_
        rw [nI_leI (by omega) (by omega)] at c11
        have : i = l.length := by omega
        subst this
        rw [hnr]
        exact ⟨rfl, rfl⟩
      · have hlt : i < l.length := by
          rw [nI_leI (by omega) (by omega)] at c11
          omega
        have hbi : w.1 87 i = (l.getD i (0, 0, 0)).1 := (hm.2 i _ (at_getD hlt)).1
        have hbr := hb _ (List.mem_of_getElem? (at_getD hlt))
        refine pm_aload_n dX5_nearest_14 rfl ?_
        refine pm_getR (ci := 5) (j := 7) (n := 39) (by first | assumption | rfl) (by decide) (by decide) rfl fl_RX5_20 rfl (by first | assumption | rfl) dX5_nearest_15 ?_
        refine pm_iload_n dX5_nearest_18 rfl ?_
        refine pm_ialdN (by first | assumption | rfl) (by omega) (by first | decide | omega) dX5_nearest_19 ?_
        rw [hbi]
        refine pm_aload_n dX5_nearest_20 rfl ?_
        refine pm_getI (ci := 5) (j := 10) (n := 39) (by first | assumption | rfl) (by decide) (by decide) rfl fl_RX5_117 rfl dX5_nearest_21 ?_
        rw [harm]
        refine pm_icmp_le (tgt := 41) dX5_nearest_24 (by decide) (fun c24 => ?_) (fun c24 => ?_)
        · refine pm_aload_n dX5_nearest_41 rfl ?_
          refine pm_getI (ci := 5) (j := 10) (n := 39) (by first | assumption | rfl) (by decide) (by decide) rfl fl_RX5_117 rfl dX5_nearest_42 ?_
          rw [harm]
          refine pm_aload_n dX5_nearest_45 rfl ?_
          refine pm_getR (ci := 5) (j := 7) (n := 39) (by first | assumption | rfl) (by decide) (by decide) rfl fl_RX5_20 rfl (by first | assumption | rfl) dX5_nearest_46 ?_
          refine pm_iload_n dX5_nearest_49 rfl ?_
          refine pm_ialdN (by first | assumption | rfl) (by omega) (by first | decide | omega) dX5_nearest_50 ?_
          rw [hbi]
          refine pm_isub dX5_nearest_51 ?_
          refine pm_topi (ab_abs ((l.getD i (0, 0, 0)).1 - arm)) ((abs_cs hbr har).2 c24) ?_
          refine pm_istore (lv' := [some (.ref _), some (.int _), some (.int _), some (.int _), some (.int _)]) dX5_nearest_52 (by decide) rfl ?_
          refine pm_iload_n dX5_nearest_54 rfl ?_
          refine pm_if_lt (tgt := 85) dX5_nearest_55 (by decide) (fun c55 => ?_) (fun c55 => absurd (by decide) c55)
          refine pm_iload_n dX5_nearest_85 rfl ?_
          refine pm_istore_n (lv' := [some (.ref _), some (.int _), some (.int _), some (.int _), some (.int _)]) dX5_nearest_86 (by decide) rfl ?_
          refine pm_iload dX5_nearest_87 rfl ?_
          refine pm_istore_n (lv' := [some (.ref _), some (.int _), some (.int _), some (.int _), some (.int _)]) dX5_nearest_89 (by decide) rfl ?_
          refine pm_iinc (y := _ + 1) (lv' := [some (.ref _), some (.int _), some (.int _), some (.int _), some (.int _)]) dX5_nearest_90 rfl rfl (by decide) rfl ?_
          refine pm_goto (tgt := 6) dX5_nearest_93 (by decide) ?_
          refine pm_fg (lv' := [some (.ref _), some (.int _), some (.int _), some (.int _), none]) (pm_le_k rfl (pm_le_k rfl (pm_le_k rfl (pm_le_k rfl (pm_le_n pm_le_0))))) ?_
          rw [nI_1]
          have h9 := ih hlt
          rw [show ab_nr l arm (i + 1) = some i by simp only [ab_nr, hnr]] at h9
          exact h9
        · refine pm_aload_n dX5_nearest_27 rfl ?_
          refine pm_getR (ci := 5) (j := 7) (n := 39) (by first | assumption | rfl) (by decide) (by decide) rfl fl_RX5_20 rfl (by first | assumption | rfl) dX5_nearest_28 ?_
          refine pm_iload_n dX5_nearest_31 rfl ?_
          refine pm_ialdN (by first | assumption | rfl) (by omega) (by first | decide | omega) dX5_nearest_32 ?_
          rw [hbi]
          refine pm_aload_n dX5_nearest_33 rfl ?_
          refine pm_getI (ci := 5) (j := 10) (n := 39) (by first | assumption | rfl) (by decide) (by decide) rfl fl_RX5_117 rfl dX5_nearest_34 ?_
          rw [harm]
          refine pm_isub dX5_nearest_37 ?_
          refine pm_goto (tgt := 52) dX5_nearest_38 (by decide) ?_
          refine pm_topi (ab_abs ((l.getD i (0, 0, 0)).1 - arm)) ((abs_cs hbr har).1 (Int32.not_le.mp c24)) ?_
          refine pm_istore (lv' := [some (.ref _), some (.int _), some (.int _), some (.int _), some (.int _)]) dX5_nearest_52 (by decide) rfl ?_
          refine pm_iload_n dX5_nearest_54 rfl ?_
          refine pm_if_lt (tgt := 85) dX5_nearest_55 (by decide) (fun c55 => ?_) (fun c55 => absurd (by decide) c55)
          refine pm_iload_n dX5_nearest_85 rfl ?_
          refine pm_istore_n (lv' := [some (.ref _), some (.int _), some (.int _), some (.int _), some (.int _)]) dX5_nearest_86 (by decide) rfl ?_
          refine pm_iload dX5_nearest_87 rfl ?_
          refine pm_istore_n (lv' := [some (.ref _), some (.int _), some (.int _), some (.int _), some (.int _)]) dX5_nearest_89 (by decide) rfl ?_
          refine pm_iinc (y := _ + 1) (lv' := [some (.ref _), some (.int _), some (.int _), some (.int _), some (.int _)]) dX5_nearest_90 rfl rfl (by decide) rfl ?_
          refine pm_goto (tgt := 6) dX5_nearest_93 (by decide) ?_
          refine pm_fg (lv' := [some (.ref _), some (.int _), some (.int _), some (.int _), none]) (pm_le_k rfl (pm_le_k rfl (pm_le_k rfl (pm_le_k rfl (pm_le_n pm_le_0))))) ?_
          rw [nI_1]
          have h9 := ih hlt
          rw [show ab_nr l arm (i + 1) = some i by simp only [ab_nr, hnr]] at h9
          exact h9
    | some k0 =>
      simp only [ab_eo, ab_lz]
      refine pm_iload_n dX5_nearest_6 rfl ?_
      refine pm_aload_n dX5_nearest_7 rfl ?_
      refine pm_getI (ci := 5) (j := 9) (n := 39) (by first | assumption | rfl) (by decide) (by decide) rfl fl_RX5_114 rfl dX5_nearest_8 ?_
      rw [hm.1]
      refine pm_icmp_ge (tgt := 96) dX5_nearest_11 (by decide) (fun c11 => ?_) (fun c11 => ?_)
      · refine pm_iload_n dX5_nearest_96 rfl ?_
        refine pm_iret dX5_nearest_97 rfl ?_
        rw [nI_leI (by omega) (by omega)] at c11
        have : i = l.length := by omega
        subst this
        rw [hnr]
        exact ⟨rfl, rfl⟩
      · have hlt : i < l.length := by
          rw [nI_leI (by omega) (by omega)] at c11
          omega
        have hbi : w.1 87 i = (l.getD i (0, 0, 0)).1 := (hm.2 i _ (at_getD hlt)).1
        have hbr := hb _ (List.mem_of_getElem? (at_getD hlt))
        have hk0 := ab_nr_lt hnr
        have hbk : w.1 87 k0 = (l.getD k0 (0, 0, 0)).1 := (hm.2 k0 _ (at_getD (by omega))).1
        refine pm_aload_n dX5_nearest_14 rfl ?_
        refine pm_getR (ci := 5) (j := 7) (n := 39) (by first | assumption | rfl) (by decide) (by decide) rfl fl_RX5_20 rfl (by first | assumption | rfl) dX5_nearest_15 ?_
        refine pm_iload_n dX5_nearest_18 rfl ?_
        refine pm_ialdN (by first | assumption | rfl) (by omega) (by first | decide | omega) dX5_nearest_19 ?_
        rw [hbi]
        refine pm_aload_n dX5_nearest_20 rfl ?_
        refine pm_getI (ci := 5) (j := 10) (n := 39) (by first | assumption | rfl) (by decide) (by decide) rfl fl_RX5_117 rfl dX5_nearest_21 ?_
        rw [harm]
        refine pm_icmp_le (tgt := 41) dX5_nearest_24 (by decide) (fun c24 => ?_) (fun c24 => ?_)
        · refine pm_aload_n dX5_nearest_41 rfl ?_
          refine pm_getI (ci := 5) (j := 10) (n := 39) (by first | assumption | rfl) (by decide) (by decide) rfl fl_RX5_117 rfl dX5_nearest_42 ?_
          rw [harm]
          refine pm_aload_n dX5_nearest_45 rfl ?_
          refine pm_getR (ci := 5) (j := 7) (n := 39) (by first | assumption | rfl) (by decide) (by decide) rfl fl_RX5_20 rfl (by first | assumption | rfl) dX5_nearest_46 ?_
          refine pm_iload_n dX5_nearest_49 rfl ?_
          refine pm_ialdN (by first | assumption | rfl) (by omega) (by first | decide | omega) dX5_nearest_50 ?_
          rw [hbi]
          refine pm_isub dX5_nearest_51 ?_
          refine pm_topi (ab_abs ((l.getD i (0, 0, 0)).1 - arm)) ((abs_cs hbr har).2 c24) ?_
          refine pm_istore (lv' := [some (.ref _), some (.int _), some (.int _), some (.int _), some (.int _)]) dX5_nearest_52 (by decide) rfl ?_
          refine pm_iload_n dX5_nearest_54 rfl ?_
          refine pm_if_lt (tgt := 85) dX5_nearest_55 (by decide) (fun c55 => absurd c55 (nI_pos (by omega))) (fun c55 => ?_)
          refine pm_iload dX5_nearest_58 rfl ?_
          refine pm_iload_n dX5_nearest_60 rfl ?_
          refine pm_icmp_lt (tgt := 85) dX5_nearest_61 (by decide) (fun c61 => ?_) (fun c61 => ?_)
          · refine pm_iload_n dX5_nearest_85 rfl ?_
            refine pm_istore_n (lv' := [some (.ref _), some (.int _), some (.int _), some (.int _), some (.int _)]) dX5_nearest_86 (by decide) rfl ?_
            refine pm_iload dX5_nearest_87 rfl ?_
            refine pm_istore_n (lv' := [some (.ref _), some (.int _), some (.int _), some (.int _), some (.int _)]) dX5_nearest_89 (by decide) rfl ?_
            refine pm_iinc (y := _ + 1) (lv' := [some (.ref _), some (.int _), some (.int _), some (.int _), some (.int _)]) dX5_nearest_90 rfl rfl (by decide) rfl ?_
            refine pm_goto (tgt := 6) dX5_nearest_93 (by decide) ?_
            refine pm_fg (lv' := [some (.ref _), some (.int _), some (.int _), some (.int _), none]) (pm_le_k rfl (pm_le_k rfl (pm_le_k rfl (pm_le_k rfl (pm_le_n pm_le_0))))) ?_
            rw [nI_1]
            have h9 := ih hlt
            rw [show ab_nr l arm (i + 1) = some i by simp only [ab_nr, hnr]; exact if_pos (Or.inl c61)] at h9
            exact h9
          · refine pm_iload dX5_nearest_64 rfl ?_
            refine pm_iload_n dX5_nearest_66 rfl ?_
            refine pm_icmp_ne (tgt := 90) dX5_nearest_67 (by decide) (fun c67 => ?_) (fun c67 => ?_)
            · refine pm_iinc (y := _ + 1) (lv' := [some (.ref _), some (.int _), some (.int _), some (.int _), some (.int _)]) dX5_nearest_90 rfl rfl (by decide) rfl ?_
              refine pm_goto (tgt := 6) dX5_nearest_93 (by decide) ?_
              refine pm_fg (lv' := [some (.ref _), some (.int _), some (.int _), some (.int _), none]) (pm_le_k rfl (pm_le_k rfl (pm_le_k rfl (pm_le_k rfl (pm_le_n pm_le_0))))) ?_
              rw [nI_1]
              have h9 := ih hlt
              rw [show ab_nr l arm (i + 1) = some k0 by simp only [ab_nr, hnr]; exact if_neg (fun h => h.elim c61 (fun h => c67 h.1))] at h9
              exact h9
            · refine pm_aload_n dX5_nearest_70 rfl ?_
              refine pm_getR (ci := 5) (j := 7) (n := 39) (by first | assumption | rfl) (by decide) (by decide) rfl fl_RX5_20 rfl (by first | assumption | rfl) dX5_nearest_71 ?_
              refine pm_iload_n dX5_nearest_74 rfl ?_
              refine pm_ialdN (by first | assumption | rfl) (by omega) (by first | decide | omega) dX5_nearest_75 ?_
              rw [hbi]
              refine pm_aload_n dX5_nearest_76 rfl ?_
              refine pm_getR (ci := 5) (j := 7) (n := 39) (by first | assumption | rfl) (by decide) (by decide) rfl fl_RX5_20 rfl (by first | assumption | rfl) dX5_nearest_77 ?_
              refine pm_iload_n dX5_nearest_80 rfl ?_
              refine pm_ialdN (by first | assumption | rfl) (by omega) (by first | decide | omega) dX5_nearest_81 ?_
              rw [hbk]
              refine pm_icmp_ge (tgt := 90) dX5_nearest_82 (by decide) (fun c82 => ?_) (fun c82 => ?_)
              · refine pm_iinc (y := _ + 1) (lv' := [some (.ref _), some (.int _), some (.int _), some (.int _), some (.int _)]) dX5_nearest_90 rfl rfl (by decide) rfl ?_
                refine pm_goto (tgt := 6) dX5_nearest_93 (by decide) ?_
                refine pm_fg (lv' := [some (.ref _), some (.int _), some (.int _), some (.int _), none]) (pm_le_k rfl (pm_le_k rfl (pm_le_k rfl (pm_le_k rfl (pm_le_n pm_le_0))))) ?_
                rw [nI_1]
                have h9 := ih hlt
                rw [show ab_nr l arm (i + 1) = some k0 by simp only [ab_nr, hnr]; exact if_neg (fun h => h.elim c61 (fun h => Int32.not_lt.mpr c82 h.2))] at h9
                exact h9
              · refine pm_iload_n dX5_nearest_85 rfl ?_
                refine pm_istore_n (lv' := [some (.ref _), some (.int _), some (.int _), some (.int _), some (.int _)]) dX5_nearest_86 (by decide) rfl ?_
                refine pm_iload dX5_nearest_87 rfl ?_
                refine pm_istore_n (lv' := [some (.ref _), some (.int _), some (.int _), some (.int _), some (.int _)]) dX5_nearest_89 (by decide) rfl ?_
                refine pm_iinc (y := _ + 1) (lv' := [some (.ref _), some (.int _), some (.int _), some (.int _), some (.int _)]) dX5_nearest_90 rfl rfl (by decide) rfl ?_
                refine pm_goto (tgt := 6) dX5_nearest_93 (by decide) ?_
                refine pm_fg (lv' := [some (.ref _), some (.int _), some (.int _), some (.int _), none]) (pm_le_k rfl (pm_le_k rfl (pm_le_k rfl (pm_le_k rfl (pm_le_n pm_le_0))))) ?_
                rw [nI_1]
                have h9 := ih hlt
                rw [show ab_nr l arm (i + 1) = some i by simp only [ab_nr, hnr]; exact if_pos (Or.inr ⟨c67, Int32.not_le.mp c82⟩)] at h9
                exact h9
        · refine pm_aload_n dX5_nearest_27 rfl ?_
          refine pm_getR (ci := 5) (j := 7) (n := 39) (by first | assumption | rfl) (by decide) (by decide) rfl fl_RX5_20 rfl (by first | assumption | rfl) dX5_nearest_28 ?_
          refine pm_iload_n dX5_nearest_31 rfl ?_
          refine pm_ialdN (by first | assumption | rfl) (by omega) (by first | decide | omega) dX5_nearest_32 ?_
          rw [hbi]
          refine pm_aload_n dX5_nearest_33 rfl ?_
          refine pm_getI (ci := 5) (j := 10) (n := 39) (by first | assumption | rfl) (by decide) (by decide) rfl fl_RX5_117 rfl dX5_nearest_34 ?_
          rw [harm]
          refine pm_isub dX5_nearest_37 ?_
          refine pm_goto (tgt := 52) dX5_nearest_38 (by decide) ?_
          refine pm_topi (ab_abs ((l.getD i (0, 0, 0)).1 - arm)) ((abs_cs hbr har).1 (Int32.not_le.mp c24)) ?_
          refine pm_istore (lv' := [some (.ref _), some (.int _), some (.int _), some (.int _), some (.int _)]) dX5_nearest_52 (by decide) rfl ?_
          refine pm_iload_n dX5_nearest_54 rfl ?_
          refine pm_if_lt (tgt := 85) dX5_nearest_55 (by decide) (fun c55 => absurd c55 (nI_pos (by omega))) (fun c55 => ?_)
          refine pm_iload dX5_nearest_58 rfl ?_
          refine pm_iload_n dX5_nearest_60 rfl ?_
          refine pm_icmp_lt (tgt := 85) dX5_nearest_61 (by decide) (fun c61 => ?_) (fun c61 => ?_)
          · refine pm_iload_n dX5_nearest_85 rfl ?_
            refine pm_istore_n (lv' := [some (.ref _), some (.int _), some (.int _), some (.int _), some (.int _)]) dX5_nearest_86 (by decide) rfl ?_
            refine pm_iload dX5_nearest_87 rfl ?_
            refine pm_istore_n (lv' := [some (.ref _), some (.int _), some (.int _), some (.int _), some (.int _)]) dX5_nearest_89 (by decide) rfl ?_
            refine pm_iinc (y := _ + 1) (lv' := [some (.ref _), some (.int _), some (.int _), some (.int _), some (.int _)]) dX5_nearest_90 rfl rfl (by decide) rfl ?_
            refine pm_goto (tgt := 6) dX5_nearest_93 (by decide) ?_
            refine pm_fg (lv' := [some (.ref _), some (.int _), some (.int _), some (.int _), none]) (pm_le_k rfl (pm_le_k rfl (pm_le_k rfl (pm_le_k rfl (pm_le_n pm_le_0))))) ?_
            rw [nI_1]
            have h9 := ih hlt
            rw [show ab_nr l arm (i + 1) = some i by simp only [ab_nr, hnr]; exact if_pos (Or.inl c61)] at h9
            exact h9
          · refine pm_iload dX5_nearest_64 rfl ?_
            refine pm_iload_n dX5_nearest_66 rfl ?_
            refine pm_icmp_ne (tgt := 90) dX5_nearest_67 (by decide) (fun c67 => ?_) (fun c67 => ?_)
            · refine pm_iinc (y := _ + 1) (lv' := [some (.ref _), some (.int _), some (.int _), some (.int _), some (.int _)]) dX5_nearest_90 rfl rfl (by decide) rfl ?_
              refine pm_goto (tgt := 6) dX5_nearest_93 (by decide) ?_
              refine pm_fg (lv' := [some (.ref _), some (.int _), some (.int _), some (.int _), none]) (pm_le_k rfl (pm_le_k rfl (pm_le_k rfl (pm_le_k rfl (pm_le_n pm_le_0))))) ?_
              rw [nI_1]
              have h9 := ih hlt
              rw [show ab_nr l arm (i + 1) = some k0 by simp only [ab_nr, hnr]; exact if_neg (fun h => h.elim c61 (fun h => c67 h.1))] at h9
              exact h9
            · refine pm_aload_n dX5_nearest_70 rfl ?_
              refine pm_getR (ci := 5) (j := 7) (n := 39) (by first | assumption | rfl) (by decide) (by decide) rfl fl_RX5_20 rfl (by first | assumption | rfl) dX5_nearest_71 ?_
              refine pm_iload_n dX5_nearest_74 rfl ?_
              refine pm_ialdN (by first | assumption | rfl) (by omega) (by first | decide | omega) dX5_nearest_75 ?_
              rw [hbi]
              refine pm_aload_n dX5_nearest_76 rfl ?_
              refine pm_getR (ci := 5) (j := 7) (n := 39) (by first | assumption | rfl) (by decide) (by decide) rfl fl_RX5_20 rfl (by first | assumption | rfl) dX5_nearest_77 ?_
              refine pm_iload_n dX5_nearest_80 rfl ?_
              refine pm_ialdN (by first | assumption | rfl) (by omega) (by first | decide | omega) dX5_nearest_81 ?_
              rw [hbk]
              refine pm_icmp_ge (tgt := 90) dX5_nearest_82 (by decide) (fun c82 => ?_) (fun c82 => ?_)
              · refine pm_iinc (y := _ + 1) (lv' := [some (.ref _), some (.int _), some (.int _), some (.int _), some (.int _)]) dX5_nearest_90 rfl rfl (by decide) rfl ?_
                refine pm_goto (tgt := 6) dX5_nearest_93 (by decide) ?_
                refine pm_fg (lv' := [some (.ref _), some (.int _), some (.int _), some (.int _), none]) (pm_le_k rfl (pm_le_k rfl (pm_le_k rfl (pm_le_k rfl (pm_le_n pm_le_0))))) ?_
                rw [nI_1]
                have h9 := ih hlt
                rw [show ab_nr l arm (i + 1) = some k0 by simp only [ab_nr, hnr]; exact if_neg (fun h => h.elim c61 (fun h => Int32.not_lt.mpr c82 h.2))] at h9
                exact h9
              · refine pm_iload_n dX5_nearest_85 rfl ?_
                refine pm_istore_n (lv' := [some (.ref _), some (.int _), some (.int _), some (.int _), some (.int _)]) dX5_nearest_86 (by decide) rfl ?_
                refine pm_iload dX5_nearest_87 rfl ?_
                refine pm_istore_n (lv' := [some (.ref _), some (.int _), some (.int _), some (.int _), some (.int _)]) dX5_nearest_89 (by decide) rfl ?_
                refine pm_iinc (y := _ + 1) (lv' := [some (.ref _), some (.int _), some (.int _), some (.int _), some (.int _)]) dX5_nearest_90 rfl rfl (by decide) rfl ?_
                refine pm_goto (tgt := 6) dX5_nearest_93 (by decide) ?_
                refine pm_fg (lv' := [some (.ref _), some (.int _), some (.int _), some (.int _), none]) (pm_le_k rfl (pm_le_k rfl (pm_le_k rfl (pm_le_k rfl (pm_le_n pm_le_0))))) ?_
                rw [nI_1]
                have h9 := ih hlt
                rw [show ab_nr l arm (i + 1) = some i by simp only [ab_nr, hnr]; exact if_pos (Or.inr ⟨c67, Int32.not_le.mp c82⟩)] at h9
                exact h9
  refine pm_start (lv := [some (.ref _), none, none, none, none]) (plainFor_of_name pf5) (Nat.le_of_ble_eq_true rfl) rfl ?_
  refine pm_iconst (x := -1) dX5_nearest_0 rfl ?_
  refine pm_istore_n (lv' := [some (.ref _), some (.int _), none, none, none]) dX5_nearest_1 (by decide) rfl ?_
  refine pm_iconst (x := 0) dX5_nearest_2 rfl ?_
  refine pm_istore_n (lv' := [some (.ref _), some (.int _), some (.int _), none, none]) dX5_nearest_3 (by decide) rfl ?_
  refine pm_iconst (x := 0) dX5_nearest_4 rfl ?_
  refine pm_istore_n (lv' := [some (.ref _), some (.int _), some (.int _), some (.int _), none]) dX5_nearest_5 (by decide) rfl ?_
  exact loop 0 (Nat.zero_le _)

