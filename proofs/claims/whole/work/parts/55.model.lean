theorem sv_nil {S : ab_S} (h : S.2.1.length = 0) : ∀ m, ab_sv m S = (S, 0)
  | 0 => rfl
  | m + 1 => by
    have : ab_nr S.2.1 (S.2.2.2.1 7) S.2.1.length = none := by rw [h]; rfl
    rw [ab_sv, this]
theorem pm_Rm {L : pm_L} {M : pm_M} {pc : Nat} {lv : List (Option Value)} {st : List Value} {w : pm_W} {post post' : pm_W → Prop} (h : pm_R L M pc lv st w (pm_qv post)) (hq : ∀ w1, post w1 → post' w1) : pm_R L M pc lv st w (pm_qv post') := by
  intro p l e s m args below meth c D G X H locs ls hP hS hl
  intro T hT X0
  obtain ⟨t, a1, o, b1, b2, ⟨⟨r, w1, b3, ⟨b4, b5⟩, b6⟩, b7⟩, b8⟩ := h p l e s m args below meth c D G X H locs ls hP hS hl T hT X0
  exact ⟨t, a1, o, b1, b2, ⟨⟨r, w1, b3, ⟨b4, hq w1 b5⟩, b6⟩, b7⟩, b8⟩
set_option maxRecDepth 4000 in
theorem mt_loop {n : Nat} (hn3 : n ≤ 3) : ∀ (m k : Nat) (w1 : pm_W) (S1 : ab_S), k + m = n → mo_R w1 S1 → ab_I S1 → S1.2.2.2.1 5 = nI n → w1.1 83 25 = -1 → pm_R pm_L0 MX5_tick 12 [some (.ref 83), some (.int (nI k)), none, none, none] [] w1 (pm_qv fun w2 => mo_R w2 (ab_sv m S1).1 ∧ w2.1 83 27 = w1.1 83 27 + (ab_sv m S1).2 ∧ w2.1 83 25 = -1 ∧ mfr w1 w2 [84, 85, 86, 87, 88, 91, 98] [6, 9, 10, 11, 12, 25, 27]) := by
  intro m
  induction m with
  | zero =>
      intro k w1 S1 hkm hR1 hI1 hn5 h25
      refine pm_iload_n dX5_tick_12 rfl ?_
      refine pm_aload_n dX5_tick_13 rfl ?_
      refine pm_getI (ci := 5) (j := 1) (n := 39) (by first | assumption | rfl) (by decide) (by decide) rfl fl_RX5_105 rfl dX5_tick_14 ?_
      rw [show w1.1 83 1 = nI n from hR1.2.2.2.1.2.1.trans hn5]
      refine pm_icmp_ge (tgt := 96) dX5_tick_17 (by decide) (fun c17 => ?_) (fun c17 => absurd (by rw [nI_leI (by omega) (by omega)]; omega) c17)
      refine pm_vret dX5_tick_96 rfl ?_
      exact ⟨hR1, (Int32.add_zero _).symm, h25, mfr_rf _ _ _⟩
  | succ m ih =>
      intro k w1 S1 hkm hR1 hI1 hn5 h25
      obtain ⟨j1, j5, j6, j7, j8, j9, j10, j11, j12⟩ := id hI1
      refine pm_iload_n dX5_tick_12 rfl ?_
      refine pm_aload_n dX5_tick_13 rfl ?_
      refine pm_getI (ci := 5) (j := 1) (n := 39) (by first | assumption | rfl) (by decide) (by decide) rfl fl_RX5_105 rfl dX5_tick_14 ?_
      rw [show w1.1 83 1 = nI n from hR1.2.2.2.1.2.1.trans hn5]
      refine pm_icmp_ge (tgt := 96) dX5_tick_17 (by decide) (fun c17 => absurd c17 (by rw [nI_leI (by omega) (by omega)]; omega)) (fun c17 => ?_)
      refine pm_aload_n dX5_tick_20 rfl ?_
      refine pm_getI (ci := 5) (j := 25) (n := 39) (by first | assumption | rfl) (by decide) (by decide) rfl fl_RX5_59 rfl dX5_tick_21 ?_
      rw [h25]
      refine pm_if_lt (tgt := 50) dX5_tick_24 (by decide) (fun c24 => ?_) (fun c24 => absurd (by decide) c24)
      refine pm_aload_n dX5_tick_50 rfl ?_
      refine pm_getI (ci := 5) (j := 9) (n := 39) (by first | assumption | rfl) (by decide) (by decide) rfl fl_RX5_114 rfl dX5_tick_51 ?_
      rw [hR1.2.1.1]
      refine pm_if_le (tgt := 90) dX5_tick_54 (by decide) (fun c54 => ?_) (fun c54 => ?_)
      · refine pm_iinc (y := _ + 1) (lv' := [some (.ref _), some (.int _), none, none, none]) dX5_tick_90 rfl rfl (by decide) rfl ?_
        refine pm_goto (tgt := 12) dX5_tick_93 (by decide) ?_
        have hl0 : S1.2.1.length = 0 := by
          rcases Nat.eq_zero_or_pos S1.2.1.length with h | h
          · exact h
          · exact absurd c54 (nI_nle h (by omega))
        rw [nI_1]
        have h9 := ih (k + 1) w1 S1 (by omega) hR1 hI1 hn5 h25
        rw [sv_nil hl0] at h9 ⊢
        exact h9
      · have hpos : 0 < S1.2.1.length := by
          rcases Nat.eq_zero_or_pos S1.2.1.length with h | h
          · rw [h] at c54; exact absurd (by decide) c54
          · exact h
        refine pm_aload_n dX5_tick_57 rfl ?_
        refine pm_cVi (as := []) (by first | assumption | rfl) (by decide) rfl ml_RX5_174 (by decide) (Nat.le_of_ble_eq_true rfl) dX5_tick_58 (c_X5_nearest hR1.2.1 j5 hR1.2.2.2.1.2.2.2.1 j8 (fun e he => ⟨(j7 e he).2.1, (j7 e he).2.2.1⟩)) (fun x1 w1 hq => ?_)
        obtain ⟨rfl, hw9⟩ := hq
        have hw9 := hw9.symm
        subst hw9
        have hnr2 : ∃ q, ab_nr S1.2.1 (S1.2.2.2.1 7) S1.2.1.length = some q := by
          cases hnr : ab_nr S1.2.1 (S1.2.2.2.1 7) S1.2.1.length with
          | none => exact absurd (ab_nr_none hnr) (by omega)
          | some q => exact ⟨q, rfl⟩
        obtain ⟨k1, hnr⟩ := hnr2
        rw [hnr]
        have hk1 := ab_nr_lt hnr
        have hei := at_getD hk1
        have hsv : ab_sv (m + 1) S1 = (let e := S1.2.1.getD k1 (0, 0, 0); let r := ab_serve (S1.1, S1.2.1.eraseIdx k1, va_up S1.2.2.1 e.2.1 (ab_inc (S1.2.2.1 e.2.1) 3), S1.2.2.2.1, S1.2.2.2.2) e.1 e.2.1 1; let r2 := ab_sv m r.1; (r2.1, r.2 + r2.2)) := by
          rw [ab_sv, hnr]
        have heo := j7 _ (List.mem_of_getElem? hei)
        generalize S1.2.1.getD k1 (0, 0, 0) = e at hei hsv heo
        dsimp only at hsv
        have heo4 : e.2.1 < 4 := heo.1
        have hgi := hR1.2.1.2 k1 e hei
        show pm_R pm_L0 MX5_tick 61 [some (.ref 83), some (.int (nI k)), none, none, none] [.int (nI k1)] w1 _
        refine pm_istore_n (lv' := [some (.ref _), some (.int _), some (.int _), none, none]) dX5_tick_61 (by decide) rfl ?_
        refine pm_aload_n dX5_tick_62 rfl ?_
        refine pm_getR (ci := 5) (j := 7) (n := 39) (by first | assumption | rfl) (by decide) (by decide) rfl fl_RX5_20 rfl (by first | assumption | rfl) dX5_tick_63 ?_
        refine pm_iload_n dX5_tick_66 rfl ?_
        refine pm_ialdN (by first | assumption | rfl) (by first | assumption | omega | decide) (by first | decide | omega) dX5_tick_67 ?_
        rw [hgi.1]
        refine pm_istore_n (lv' := [some (.ref _), some (.int _), some (.int _), some (.int _), none]) dX5_tick_68 (by decide) rfl ?_
        refine pm_aload_n dX5_tick_69 rfl ?_
        refine pm_getR (ci := 5) (j := 8) (n := 39) (by first | assumption | rfl) (by decide) (by decide) rfl fl_RX5_23 rfl (by first | assumption | rfl) dX5_tick_70 ?_
        refine pm_iload_n dX5_tick_73 rfl ?_
        refine pm_ialdN (by first | assumption | rfl) (by first | assumption | omega | decide) (by first | decide | omega) dX5_tick_74 ?_
        rw [hgi.2]
        refine pm_istore (lv' := [some (.ref _), some (.int _), some (.int _), some (.int _), some (.int _)]) dX5_tick_75 (by decide) rfl ?_
        refine pm_aload_n dX5_tick_77 rfl ?_
        refine pm_iload_n dX5_tick_78 rfl ?_
        refine pm_cVv (as := [.int _]) (by first | assumption | rfl) (by decide) rfl ml_RX5_178 (by decide) (Nat.le_of_ble_eq_true rfl) dX5_tick_79 (c_X5_unwait hR1.2.1 j5 hk1) (fun w2 hq => ?_)
        obtain ⟨p1, hf2⟩ := hq
        have hR2 := mo_line hR1 p1 hf2
        have hI2 : ab_I (S1.1, S1.2.1.eraseIdx k1, S1.2.2) := by
          refine ⟨j1, ?_, j6, eok_rem j7 _, j8, j9, j10, j11, j12⟩
          show (S1.2.1.eraseIdx k1).length ≤ 16
          rw [List.length_eraseIdx, if_pos hk1]
          omega
        have hes : ab_eok (e.1, e.2.1, pm_z true) := ⟨heo.1, heo.2.1, heo.2.2.1, Or.inr rfl⟩
        refine pm_aload_n dX5_tick_82 rfl ?_
        refine pm_iload_n dX5_tick_83 rfl ?_
        refine pm_iload dX5_tick_84 rfl ?_
        refine pm_iconst (x := 1) dX5_tick_86 rfl ?_
        refine pm_cVv (as := [.int _, .int _, .int _]) (by first | assumption | rfl) (by decide) rfl ml_RX5_170 (by decide) (Nat.le_of_ble_eq_true rfl) dX5_tick_87 (c_X5_serve hR2 hI2 true hes) (fun w4 hq => ?_)
        obtain ⟨hR4, h427, hf4⟩ := hq
        refine pm_iinc (y := _ + 1) (lv' := [some (.ref _), some (.int _), some (.int _), some (.int _), some (.int _)]) dX5_tick_90 rfl rfl (by decide) rfl ?_
        refine pm_goto (tgt := 12) dX5_tick_93 (by decide) ?_
        refine pm_fg (lv' := [some (.ref _), some (.int _), none, none, none]) (pm_le_k rfl (pm_le_k rfl (pm_le_n (pm_le_n (pm_le_n pm_le_0))))) ?_
        rw [nI_1]
        have h425 : w4.1 83 25 = -1 := (hf4.2.1 25 (by decide)).trans ((hf2.2.1 25 (by decide)).trans h25)
        have h9 := ih (k + 1) w4 _ (by omega) hR4 (I_serve (I_sn hI2 heo4 true) hes) ((m5_serve _ _ _ _).trans hn5) h425
        rw [hsv]
        refine pm_Rm h9 (fun w5 h5 => ?_)
        obtain ⟨a1, a2, a3, a4⟩ := h5
        refine ⟨a1, ?_, a3, mfr_tr (mfr_wd hf2 (by decide) (by decide)) (mfr_tr (mfr_wd hf4 (by decide) (by decide)) a4)⟩
        rw [a2, h427, hf2.2.1 27 (by decide), Int32.add_assoc]
        rfl

theorem mo_tk {w : pm_W} {S : ab_S} (h : mo_R w S) : mo_R (pm_s w 83 (upd (w.1 83) 11 (S.2.2.2.1 9 + 1))) (ab_tk S) := by
  obtain ⟨h1, h2, h3, ⟨n0, n1, n2, n3, n4, n5⟩, h5⟩ := h
  refine ⟨mr_cong h1 (by simp [pm_s, upd]) (pm_s_ne (by decide)) (pm_s_ne (by decide)) (pm_s_ne (by decide)), ml_cong h2 (by simp [pm_s, upd]) (pm_s_ne (by decide)) (pm_s_ne (by decide)), fun p hp => moA_cong (h3 p hp) (fun a q1 q2 => pm_s_ne (by omega)), ?_, mw_cong h5 (by simp [pm_s, upd]) (pm_s_ne (by decide))⟩
  refine ⟨?_, ?_, ?_, ?_, ?_, ?_⟩ <;> simp [pm_s, upd, ab_tk, n0, n1, n2, n3, n4]

set_option maxRecDepth 4000 in
theorem c_X5_tick0 {w : pm_W} {S : ab_S} (hR : mo_R w S) (hI : ab_I S) {n : Nat} (hn : S.2.2.2.1 5 = nI n) (hn3 : n ≤ 3) (h25 : w.1 83 25 = -1) : pm_C pm_L0 MX5_tick [.ref 83] w (pm_qv fun w2 => mo_R w2 (ab_tick S n none).1 ∧ w2.1 83 27 = w.1 83 27 + (ab_tick S n none).2 ∧ w2.1 83 25 = -1 ∧ mfr w w2 [84, 85, 86, 87, 88, 91, 98] [6, 9, 10, 11, 12, 25, 27]) := by
  obtain ⟨g1, g2, g3, g4, g5⟩ := id hR
  refine pm_start (lv := [some (.ref _), none, none, none, none]) (plainFor_of_name pf5) (Nat.le_of_ble_eq_true rfl) rfl ?_
  refine pm_aload_n dX5_tick_0 rfl ?_
  refine pm_dup dX5_tick_1 rfl ?_
  refine pm_getI (ci := 5) (j := 11) (n := 39) (by first | assumption | rfl) (by decide) (by decide) rfl fl_RX5_120 rfl dX5_tick_2 ?_
  rw [g4.2.2.2.2.2]
  refine pm_iconst (x := 1) dX5_tick_5 rfl ?_
  refine pm_iadd dX5_tick_6 ?_
  refine pm_putI (ci := 5) (j := 11) (n := 39) (by first | assumption | rfl) (by decide) (by decide) rfl fl_RX5_120 rfl rfl dX5_tick_7 ?_
  have hRt := mo_tk hR
  have hft : mfr w (pm_s w 83 (upd (w.1 83) 11 (S.2.2.2.1 9 + 1))) [84, 85, 86, 87, 88, 91, 98] [6, 9, 10, 11, 12, 25, 27] := mfr_j (mfr_rf _ _ _) (by decide) _
  have ht27 : (pm_s w 83 (upd (w.1 83) 11 (S.2.2.2.1 9 + 1))).1 83 27 = w.1 83 27 := by simp [pm_s, upd]
  have ht25 : (pm_s w 83 (upd (w.1 83) 11 (S.2.2.2.1 9 + 1))).1 83 25 = w.1 83 25 := by simp [pm_s, upd]
  have ht26 : (pm_s w 83 (upd (w.1 83) 11 (S.2.2.2.1 9 + 1))).1 83 26 = w.1 83 26 := by simp [pm_s, upd]
  generalize pm_s w 83 (upd (w.1 83) 11 (S.2.2.2.1 9 + 1)) = wt at hRt hft ht27 ht25 ht26 ⊢
  refine pm_iconst (x := 0) dX5_tick_10 rfl ?_
  refine pm_istore_n (lv' := [some (.ref _), some (.int _), none, none, none]) dX5_tick_11 (by decide) rfl ?_
  refine pm_Rm (mt_loop hn3 n 0 wt (ab_tk S) (by omega) hRt (I_tk hI) hn (ht25.trans h25)) (fun w2 h2 => ?_)
  obtain ⟨a1, a2, a3, a4⟩ := h2
  exact ⟨a1, a2.trans (by rw [ht27]; rfl), a3, mfr_tr hft a4⟩

set_option maxRecDepth 4000 in
theorem c_X5_tickD {w : pm_W} {S : ab_S} (hR : mo_R w S) (hI : ab_I S) {n : Nat} (hn : S.2.2.2.1 5 = nI n) (hn1 : 1 ≤ n) (hn3 : n ≤ 3) {b : Int32} {p : Nat} (he : ab_eok (b, p, pm_z false)) (h25 : w.1 83 25 = b) (h26 : w.1 83 26 = nI p) : pm_C pm_L0 MX5_tick [.ref 83] w (pm_qv fun w2 => mo_R w2 (ab_tick S n (some (b, p))).1 ∧ w2.1 83 27 = w.1 83 27 + (ab_tick S n (some (b, p))).2 ∧ w2.1 83 25 = -1 ∧ mfr w w2 [84, 85, 86, 87, 88, 91, 98] [6, 9, 10, 11, 12, 25, 27]) := by
  obtain ⟨g1, g2, g3, g4, g5⟩ := id hR
  refine pm_start (lv := [some (.ref _), none, none, none, none]) (plainFor_of_name pf5) (Nat.le_of_ble_eq_true rfl) rfl ?_
  refine pm_aload_n dX5_tick_0 rfl ?_
  refine pm_dup dX5_tick_1 rfl ?_
  refine pm_getI (ci := 5) (j := 11) (n := 39) (by first | assumption | rfl) (by decide) (by decide) rfl fl_RX5_120 rfl dX5_tick_2 ?_
  rw [g4.2.2.2.2.2]
  refine pm_iconst (x := 1) dX5_tick_5 rfl ?_
  refine pm_iadd dX5_tick_6 ?_
  refine pm_putI (ci := 5) (j := 11) (n := 39) (by first | assumption | rfl) (by decide) (by decide) rfl fl_RX5_120 rfl rfl dX5_tick_7 ?_
  have hRt := mo_tk hR
  have hft : mfr w (pm_s w 83 (upd (w.1 83) 11 (S.2.2.2.1 9 + 1))) [84, 85, 86, 87, 88, 91, 98] [6, 9, 10, 11, 12, 25, 27] := mfr_j (mfr_rf _ _ _) (by decide) _
  have ht27 : (pm_s w 83 (upd (w.1 83) 11 (S.2.2.2.1 9 + 1))).1 83 27 = w.1 83 27 := by simp [pm_s, upd]
  have ht25 : (pm_s w 83 (upd (w.1 83) 11 (S.2.2.2.1 9 + 1))).1 83 25 = w.1 83 25 := by simp [pm_s, upd]
  have ht26 : (pm_s w 83 (upd (w.1 83) 11 (S.2.2.2.1 9 + 1))).1 83 26 = w.1 83 26 := by simp [pm_s, upd]
  generalize pm_s w 83 (upd (w.1 83) 11 (S.2.2.2.1 9 + 1)) = wt at hRt hft ht27 ht25 ht26 ⊢
  refine pm_iconst (x := 0) dX5_tick_10 rfl ?_
  refine pm_istore_n (lv' := [some (.ref _), some (.int _), none, none, none]) dX5_tick_11 (by decide) rfl ?_
  refine pm_iload_n dX5_tick_12 rfl ?_
  refine pm_aload_n dX5_tick_13 rfl ?_
  refine pm_getI (ci := 5) (j := 1) (n := 39) (by first | assumption | rfl) (by decide) (by decide) rfl fl_RX5_105 rfl dX5_tick_14 ?_
  rw [show wt.1 83 1 = nI n from hRt.2.2.2.1.2.1.trans hn]
  refine pm_icmp_ge (tgt := 96) dX5_tick_17 (by decide) (fun c17 => absurd c17 (by rw [show (0 : Int32) = nI 0 from rfl, nI_leI (by omega) (by omega)]; omega)) (fun c17 => ?_)
  refine pm_aload_n dX5_tick_20 rfl ?_
  refine pm_getI (ci := 5) (j := 25) (n := 39) (by first | assumption | rfl) (by decide) (by decide) rfl fl_RX5_59 rfl dX5_tick_21 ?_
  rw [ht25.trans h25]
  refine pm_if_lt (tgt := 50) dX5_tick_24 (by decide) (fun c24 => absurd c24 (Int32.not_lt.mpr he.2.1)) (fun c24 => ?_)
  refine pm_aload_n dX5_tick_27 rfl ?_
  refine pm_getI (ci := 5) (j := 25) (n := 39) (by first | assumption | rfl) (by decide) (by decide) rfl fl_RX5_59 rfl dX5_tick_28 ?_
  rw [ht25.trans h25]
  refine pm_istore_n (lv' := [some (.ref _), some (.int _), some (.int _), none, none]) dX5_tick_31 (by decide) rfl ?_
  refine pm_aload_n dX5_tick_32 rfl ?_
  refine pm_iconst (x := -1) dX5_tick_33 rfl ?_
  refine pm_putI (ci := 5) (j := 25) (n := 39) (by first | assumption | rfl) (by decide) (by decide) rfl fl_RX5_59 rfl rfl dX5_tick_34 ?_
  have hRd : mo_R (pm_s wt 83 (upd (wt.1 83) 25 (-1))) (ab_tk S) := mo_cong hRt (fun a q1 q2 => pm_s_ne (by omega)) (fun j hj => by rw [pm_s_at]; exact pk_un (by omega))
  have hfd : mfr w (pm_s wt 83 (upd (wt.1 83) 25 (-1))) [84, 85, 86, 87, 88, 91, 98] [6, 9, 10, 11, 12, 25, 27] := mfr_j hft (by decide) _
  have hd27 : (pm_s wt 83 (upd (wt.1 83) 25 (-1))).1 83 27 = w.1 83 27 := by simp [pm_s, upd, ht27]
  have hd25 : (pm_s wt 83 (upd (wt.1 83) 25 (-1))).1 83 25 = -1 := by simp [pm_s, upd]
  have hd26 : (pm_s wt 83 (upd (wt.1 83) 25 (-1))).1 83 26 = nI p := by simp [pm_s, upd, ht26, h26]
  generalize pm_s wt 83 (upd (wt.1 83) 25 (-1)) = wd at hRd hfd hd27 hd25 hd26 ⊢
  refine pm_aload_n dX5_tick_37 rfl ?_
  refine pm_iload_n dX5_tick_38 rfl ?_
  refine pm_aload_n dX5_tick_39 rfl ?_
  refine pm_getI (ci := 5) (j := 26) (n := 39) (by first | assumption | rfl) (by decide) (by decide) rfl fl_RX5_167 rfl dX5_tick_40 ?_
  rw [hd26]
  refine pm_iconst (x := 0) dX5_tick_43 rfl ?_
  refine pm_cVv (as := [.int _, .int _, .int _]) (by first | assumption | rfl) (by decide) rfl ml_RX5_170 (by decide) (Nat.le_of_ble_eq_true rfl) dX5_tick_44 (c_X5_serve hRd (I_tk hI) false he) (fun w4 hq => ?_)
  obtain ⟨hR4, h427, hf4⟩ := hq
  refine pm_goto (tgt := 90) dX5_tick_47 (by decide) ?_
  refine pm_iinc (y := _ + 1) (lv' := [some (.ref _), some (.int _), some (.int _), none, none]) dX5_tick_90 rfl rfl (by decide) rfl ?_
  refine pm_goto (tgt := 12) dX5_tick_93 (by decide) ?_
  refine pm_fg (lv' := [some (.ref _), some (.int _), none, none, none]) (pm_le_k rfl (pm_le_k rfl (pm_le_n (pm_le_n (pm_le_n pm_le_0))))) ?_
  rw [show (0 : Int32) + 1 = nI 1 from rfl]
  refine pm_Rm (mt_loop hn3 (n - 1) 1 w4 _ (by omega) hR4 (I_serve (I_tk hI) he) ((m5_serve _ _ _ _).trans hn) ((hf4.2.1 25 (by decide)).trans hd25)) (fun w2 h2 => ?_)
  obtain ⟨a1, a2, a3, a4⟩ := h2
  refine ⟨a1, ?_, a3, mfr_tr hfd (mfr_tr (mfr_wd hf4 (by decide) (by decide)) a4)⟩
  rw [a2, h427, hd27, Int32.add_assoc]
  rfl

set_option maxRecDepth 4000 in
theorem c_X5_reachOf {w : pm_W} {p : Nat} (hp : p < 4) {A : ab_A} (hA : mo_A w p A) : pm_C pm_L0 MX5_reachOf [.ref 83, .int (nI p)] w (pm_qi fun r w1 => r = A.1 3 ∧ w1 = w) := by
  refine pm_start (lv := [some (.ref _), some (.int _)]) (plainFor_of_name pf5) (Nat.le_of_ble_eq_true rfl) rfl ?_
  refine pm_aload_n dX5_reachOf_0 rfl ?_
  refine pm_getR (ci := 5) (j := 13) (n := 39) (by first | assumption | rfl) (by decide) (by decide) rfl fl_RX5_26 rfl (by first | assumption | rfl) dX5_reachOf_1 ?_
  refine pm_iload_n dX5_reachOf_4 rfl ?_
  refine pm_ialdN (by first | assumption | rfl) (by first | assumption | omega | decide) (by first | decide | omega) dX5_reachOf_5 ?_
  rw [hA.1]
  refine pm_iconst (x := 5) dX5_reachOf_6 rfl ?_
  refine pm_icmp_ne (tgt := 19) dX5_reachOf_7 (by decide) (fun c7 => ?_) (fun c7 => ?_)
  · refine pm_aload_n dX5_reachOf_19 rfl ?_
    refine pm_getR (ci := 5) (j := 14) (n := 39) (by first | assumption | rfl) (by decide) (by decide) rfl fl_RX5_29 rfl (by first | assumption | rfl) dX5_reachOf_20 ?_
    refine pm_iload_n dX5_reachOf_23 rfl ?_
    refine pm_ialdN (by first | assumption | rfl) (by first | assumption | omega | decide) (by first | decide | omega) dX5_reachOf_24 ?_
    refine pm_iret dX5_reachOf_25 rfl ?_
    have h := hA.2.1
    rw [if_neg c7] at h
    exact ⟨h, rfl⟩
  · refine pm_aload_n dX5_reachOf_10 rfl ?_
    refine pm_getR (ci := 5) (j := 15) (n := 39) (by first | assumption | rfl) (by decide) (by decide) rfl fl_RX5_32 rfl (by first | assumption | rfl) dX5_reachOf_11 ?_
    refine pm_iload_n dX5_reachOf_14 rfl ?_
    refine pm_ialdN (by first | assumption | rfl) (by first | assumption | omega | decide) (by first | decide | omega) dX5_reachOf_15 ?_
    refine pm_goto (tgt := 25) dX5_reachOf_16 (by decide) ?_
    refine pm_iret dX5_reachOf_25 rfl ?_
    have h := hA.2.1
    rw [if_pos c7] at h
    exact ⟨h, rfl⟩

