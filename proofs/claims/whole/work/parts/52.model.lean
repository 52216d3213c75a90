def dI (l : List ab_E) (f : ab_E → Bool) (k : Nat) (x : Int32) : Prop := (x = -1 ∧ ∀ (j : Nat) (e : ab_E), k ≤ j → l[j]? = some e → f e = false) ∨ ∃ (m : Nat) (e : ab_E), k ≤ m ∧ x = nI m ∧ l[m]? = some e ∧ f e = true ∧ ∀ (j : Nat) (e' : ab_E), k ≤ j → j < m → l[j]? = some e' → f e' = false
theorem dI_start (l : List ab_E) (f : ab_E → Bool) : dI l f l.length (-1) := Or.inl ⟨rfl, fun j e hj he => absurd (List.getElem?_eq_some_iff.mp he).1 (by omega)⟩
theorem dI_yes {l : List ab_E} {f : ab_E → Bool} {k : Nat} {e : ab_E} (hk : l[k]? = some e) (hf : f e = true) : dI l f k (nI k) := Or.inr ⟨k, e, Nat.le_refl _, rfl, hk, hf, fun j e' h1 h2 => absurd h1 (by omega)⟩
theorem dI_no {l : List ab_E} {f : ab_E → Bool} {k : Nat} {e : ab_E} {x : Int32} (hk : l[k]? = some e) (hf : f e = false) (h : dI l f (k + 1) x) : dI l f k x := by
  rcases h with ⟨h1, h2⟩ | ⟨m, y, h1, h2, h3, h4, h5⟩
  · refine Or.inl ⟨h1, fun j z hj hz => ?_⟩
    by_cases hjk : j = k
    · subst hjk
      rw [hk] at hz
      cases hz
      exact hf
    · exact h2 j z (by omega) hz
  · refine Or.inr ⟨m, y, by omega, h2, h3, h4, fun j z hj hm hz => ?_⟩
    by_cases hjk : j = k
    · subst hjk
      rw [hk] at hz
      cases hz
      exact hf
    · exact h5 j z (by omega) hm hz
theorem dI_end {l : List ab_E} {f : ab_E → Bool} {x : Int32} (h : dI l f 0 x) : x = ab_enc (l.findIdx f) l.length := by
  rcases h with ⟨h1, h2⟩ | ⟨m, y, h1, h2, h3, h4, h5⟩
  · rw [lv_none (fun j e _ he => h2 j e (Nat.zero_le _) he), ab_enc, if_neg (by omega)]
    exact h1
  · rw [lv_first h3 h4 (fun j e hj he => h5 j e (Nat.zero_le _) hj he), ab_enc, if_pos (List.getElem?_eq_some_iff.mp h3).1]
    exact h2
theorem nI_m1 (k : Nat) : nI k + (-1) = nI k - 1 := (Int32.sub_eq_add_neg _ _).symm
def mo_MR (w : pm_W) (S : ab_S) (p : Nat) (r : Int32) (w1 : pm_W) : Prop :=
  (nI S.1.length < S.2.2.2.1 4 ∧ r = 1 ∧ w1 = w) ∨
  (¬ nI S.1.length < S.2.2.2.1 4 ∧ ab_lv S.1 S.2.2.1 p < S.1.length ∧ r = 1 ∧ mo_R w1 (S.1.eraseIdx (ab_lv S.1 S.2.2.1 p), S.2.1, ab_wa S.2.2.1 (S.1.getD (ab_lv S.1 S.2.2.1 p) (0, 0, 0)), S.2.2.2) ∧ mfr w w1 [84, 85, 86, 91, 98] [6]) ∨
  (¬ nI S.1.length < S.2.2.2.1 4 ∧ ¬ ab_lv S.1 S.2.2.1 p < S.1.length ∧ r = 0 ∧ w1 = w)

set_option maxRecDepth 4000 in
theorem c_X5_makesRoom {w : pm_W} {S : ab_S} (hR : mo_R w S) (hI : ab_I S) {p : Nat} (hp : p < 4) : pm_C pm_L0 MX5_makesRoom [.ref 83, .int (nI p)] w (pm_qi (mo_MR w S p)) := by
  obtain ⟨g1, g2, g3, g4, g5⟩ := id hR
  obtain ⟨⟨sp, i1, i2, i3, i4⟩, i5, i6, i7, i8, i9, i10, i11, i12⟩ := id hI
  refine pm_start (lv := [some (.ref _), some (.int _), none, none, none]) (plainFor_of_name pf5) (Nat.le_of_ble_eq_true rfl) rfl ?_
  refine pm_aload_n dX5_makesRoom_0 rfl ?_
  refine pm_getI (ci := 5) (j := 6) (n := 39) (by first | assumption | rfl) (by decide) (by decide) rfl fl_RX5_111 rfl dX5_makesRoom_1 ?_
  rw [g1.1]
  refine pm_aload_n dX5_makesRoom_4 rfl ?_
  refine pm_getI (ci := 5) (j := 0) (n := 39) (by first | assumption | rfl) (by decide) (by decide) rfl fl_RX5_102 rfl dX5_makesRoom_5 ?_
  rw [g4.1]
  refine pm_icmp_ge (tgt := 13) dX5_makesRoom_8 (by decide) (fun c8 => ?_) (fun c8 => ?_)
  · have hsp : ¬ nI S.1.length < S.2.2.2.1 4 := Int32.not_lt.mpr c8
    have tail : ∀ o lf : Int32, pm_R pm_L0 MX5_makesRoom 103 [some (.ref 83), some (.int (nI p)), some (.int o), some (.int lf), some (.int (ab_enc (ab_lv S.1 S.2.2.1 p) S.1.length))] [] w (pm_qi (mo_MR w S p)) := by
      intro o lf
      by_cases hlv : ab_lv S.1 S.2.2.1 p < S.1.length
      · rw [ab_enc, if_pos hlv]
        have hei := at_getD hlv
        have heo := i6 _ (List.mem_of_getElem? hei)
        obtain ⟨e, hge⟩ : ∃ e, S.1.getD (ab_lv S.1 S.2.2.1 p) (0, 0, 0) = e := ⟨_, rfl⟩
        rw [hge] at hei heo
        have he4 : e.2.1 < 4 := heo.1
        refine pm_iload dX5_makesRoom_103 rfl ?_
        refine pm_if_ge (tgt := 110) dX5_makesRoom_105 (by decide) (fun c105 => ?_) (fun c105 => absurd (nI_pos' (by omega)) c105)
        refine pm_aload_n dX5_makesRoom_110 rfl ?_
        refine pm_getR (ci := 5) (j := 5) (n := 39) (by first | assumption | rfl) (by decide) (by decide) rfl fl_RX5_16 rfl (by first | assumption | rfl) dX5_makesRoom_111 ?_
        refine pm_iload dX5_makesRoom_114 rfl ?_
        refine pm_zaldN (by first | assumption | rfl) (by first | assumption | omega | decide) (by first | decide | omega) dX5_makesRoom_116 ?_
        rw [show w.1 86 (ab_lv S.1 S.2.2.1 p) = e.2.2 from (g1.2 _ e hei).2.2]
        refine pm_if_eq (tgt := 131) dX5_makesRoom_117 (by decide) (fun c117 => ?_) (fun c117 => ?_)
        · refine pm_aload_n dX5_makesRoom_131 rfl ?_
          refine pm_iload dX5_makesRoom_132 rfl ?_
          refine pm_cVv (as := [.int _]) (by first | assumption | rfl) (by decide) rfl ml_RX5_158 (by decide) (Nat.le_of_ble_eq_true rfl) dX5_makesRoom_134 (c_X5_drop (l := S.1) g1 (by omega) (fun x hx => (i6 x hx).2.2.2) hlv) (fun w2 hq => ?_)
          obtain ⟨q3, q4⟩ := hq
          refine pm_iconst (x := 1) dX5_makesRoom_137 rfl ?_
          refine pm_zret dX5_makesRoom_138 rfl (by first | exact Or.inl rfl | exact Or.inr rfl | assumption) ?_
          have hz : ¬ e.2.2 = 1 := fun h => by rw [c117] at h; exact absurd h (by decide)
          refine Or.inr (Or.inl ⟨hsp, hlv, rfl, ?_, mfr_wd q4 (by decide) (by decide)⟩)
          rw [hge, ab_wa, if_neg hz]
          exact mo_room hR q3 q4
        · refine pm_aload_n dX5_makesRoom_120 rfl ?_
          refine pm_aload_n dX5_makesRoom_121 rfl ?_
          refine pm_getR (ci := 5) (j := 4) (n := 39) (by first | assumption | rfl) (by decide) (by decide) rfl fl_RX5_13 rfl (by first | assumption | rfl) dX5_makesRoom_122 ?_
          refine pm_iload dX5_makesRoom_125 rfl ?_
          refine pm_ialdN (by first | assumption | rfl) (by first | assumption | omega | decide) (by first | decide | omega) dX5_makesRoom_127 ?_
          rw [show w.1 85 (ab_lv S.1 S.2.2.1 p) = nI e.2.1 from (g1.2 _ e hei).2.1]
          refine pm_cVv (as := [.int _]) (by first | assumption | rfl) (by decide) rfl ml_RX5_154 (by decide) (Nat.le_of_ble_eq_true rfl) dX5_makesRoom_128 (c_X5_waste he4 g3) (fun w1 hq => ?_)
          obtain ⟨q1, q2⟩ := hq
          have hR1 := mo_ask hR q1 (mfr_wd q2 (by decide) (by decide))
          refine pm_aload_n dX5_makesRoom_131 rfl ?_
          refine pm_iload dX5_makesRoom_132 rfl ?_
          refine pm_cVv (as := [.int _]) (by first | assumption | rfl) (by decide) rfl ml_RX5_158 (by decide) (Nat.le_of_ble_eq_true rfl) dX5_makesRoom_134 (c_X5_drop (l := S.1) hR1.1 (by omega) (fun x hx => (i6 x hx).2.2.2) hlv) (fun w2 hq => ?_)
          obtain ⟨q3, q4⟩ := hq
          refine pm_iconst (x := 1) dX5_makesRoom_137 rfl ?_
          refine pm_zret dX5_makesRoom_138 rfl (by first | exact Or.inl rfl | exact Or.inr rfl | assumption) ?_
          have hz : e.2.2 = 1 := heo.2.2.2.resolve_left c117
          refine Or.inr (Or.inl ⟨hsp, hlv, rfl, ?_, mfr_tr (mfr_wd q2 (by decide) (by decide)) (mfr_wd q4 (by decide) (by decide))⟩)
          rw [hge, ab_wa, if_pos hz]
          exact mo_room hR1 q3 q4
      · rw [ab_enc, if_neg hlv]
        refine pm_iload dX5_makesRoom_103 rfl ?_
        refine pm_if_ge (tgt := 110) dX5_makesRoom_105 (by decide) (fun c105 => absurd c105 (by decide)) (fun c105 => ?_)
        refine pm_iconst (x := 0) dX5_makesRoom_108 rfl ?_
        refine pm_zret dX5_makesRoom_109 rfl (by first | exact Or.inl rfl | exact Or.inr rfl | assumption) ?_
        exact Or.inr (Or.inr ⟨hsp, hlv, rfl, rfl⟩)
    have loop : ∀ k, k ≤ S.1.length → ∀ o lf : Int32, dI S.1 (ab_mg S.1 S.2.2.1 p) k o → dI S.1 (ab_gl S.1 S.2.2.1 p) k lf → pm_R pm_L0 MX5_makesRoom 25 [some (.ref 83), some (.int (nI p)), some (.int o), some (.int lf), some (.int (nI k - 1))] [] w (pm_qi (mo_MR w S p)) := by
      intro k
      induction k with
      | zero =>
        intro hk o lf d1 d2
        have d1 := dI_end d1
        have d2 := dI_end d2
        refine pm_iload dX5_makesRoom_25 rfl ?_
        refine pm_if_lt (tgt := 92) dX5_makesRoom_27 (by decide) (fun c27 => ?_) (fun c27 => absurd (by decide) c27)
        refine pm_iload_n dX5_makesRoom_92 rfl ?_
        refine pm_if_lt (tgt := 100) dX5_makesRoom_93 (by decide) (fun c93 => ?_) (fun c93 => ?_)
        · have hgl : ¬ S.1.findIdx (ab_gl S.1 S.2.2.1 p) < S.1.length := by
            intro h
            rw [d2, ab_enc, if_pos h] at c93
            exact nI_pos (by omega) c93
          refine pm_iload_n dX5_makesRoom_100 rfl ?_
          refine pm_topi (ab_enc (ab_lv S.1 S.2.2.1 p) S.1.length) (by rw [ab_lv, if_neg hgl]; exact d1) ?_
          refine pm_istore (lv' := [some (.ref _), some (.int _), some (.int _), some (.int _), some (.int _)]) dX5_makesRoom_101 (by decide) rfl ?_
          exact tail _ _
        · have hgl : S.1.findIdx (ab_gl S.1 S.2.2.1 p) < S.1.length := by
            rcases Nat.lt_or_ge (S.1.findIdx (ab_gl S.1 S.2.2.1 p)) S.1.length with h | h
            · exact h
            · exact absurd (by rw [d2, ab_enc, if_neg (by omega)]; exact neg_m1) c93
          refine pm_wld _ rfl ?_
          refine pm_iload_n dX5_makesRoom_96 rfl ?_
          refine pm_topi (ab_enc (ab_lv S.1 S.2.2.1 p) S.1.length) (by rw [ab_lv, if_pos hgl]; exact d2) ?_
          refine pm_goto (tgt := 101) dX5_makesRoom_97 (by decide) ?_
          refine pm_istore (lv' := [some (.ref _), some (.int _), some (.int _), some (.int _), some (.int _)]) dX5_makesRoom_101 (by decide) rfl ?_
          exact tail _ _
      | succ k ih =>
        intro hk o lf d1 d2
        rw [nI_pred]
        refine pm_iload dX5_makesRoom_25 rfl ?_
        refine pm_if_lt (tgt := 92) dX5_makesRoom_27 (by decide) (fun c27 => absurd c27 (nI_pos (by omega))) (fun c27 => ?_)
        have hei : S.1[k]? = some S.1[k] := List.getElem?_eq_getElem (by omega)
        generalize S.1[k] = e at hei
        have heo := i6 e (List.mem_of_getElem? hei)
        have he4 : e.2.1 < 4 := heo.1
        refine pm_aload_n dX5_makesRoom_30 rfl ?_
        refine pm_getR (ci := 5) (j := 4) (n := 39) (by first | assumption | rfl) (by decide) (by decide) rfl fl_RX5_13 rfl (by first | assumption | rfl) dX5_makesRoom_31 ?_
        refine pm_iload dX5_makesRoom_34 rfl ?_
        refine pm_ialdN (by first | assumption | rfl) (by first | assumption | omega | decide) (by first | decide | omega) dX5_makesRoom_36 ?_
        rw [(g1.2 k e hei).2.1]
        refine pm_iload_n dX5_makesRoom_37 rfl ?_
        refine pm_icmp_eq (tgt := 67) dX5_makesRoom_38 (by decide) (fun c38 => ?_) (fun c38 => ?_)
        · refine pm_iload dX5_makesRoom_67 rfl ?_
          refine pm_istore_n (lv' := [some (.ref _), some (.int _), some (.int _), some (.int _), some (.int _)]) dX5_makesRoom_69 (by decide) rfl ?_
          refine pm_aload_n dX5_makesRoom_70 rfl ?_
          refine pm_iload dX5_makesRoom_71 rfl ?_
          refine pm_cVi (as := [.int _]) (by first | assumption | rfl) (by decide) rfl ml_RX5_151 (by decide) (Nat.le_of_ble_eq_true rfl) dX5_makesRoom_73 (c_X5_isLeft g1 (by omega) hei he4 (g3 e.2.1 he4) (i9 e.2.1 he4)) (fun x1 w1 hq => ?_)
          obtain ⟨rfl, hw9⟩ := hq
          have hw9 := hw9.symm
          subst hw9
          refine pm_if_eq (tgt := 84) dX5_makesRoom_76 (by decide) (fun c76 => ?_) (fun c76 => ?_)
          · refine pm_iload_n dX5_makesRoom_84 rfl ?_
            refine pm_istore_n (lv' := [some (.ref _), some (.int _), some (.int _), some (.int _), some (.int _)]) dX5_makesRoom_85 (by decide) rfl ?_
            refine pm_iinc (y := _ + (-1)) (lv' := [some (.ref _), some (.int _), some (.int _), some (.int _), some (.int _)]) dX5_makesRoom_86 rfl rfl (by decide) rfl ?_
            refine pm_goto (tgt := 25) dX5_makesRoom_89 (by decide) ?_
            have hmg : ab_mg S.1 S.2.2.1 p e = true := by
              have := (nI_eq (by omega) (by omega)).mp c38
              simp [ab_mg, this]
            rw [pm_z_0] at c76
            have hgl : ab_gl S.1 S.2.2.1 p e = false := by rw [ab_gl, c76, Bool.and_false]
            rw [nI_m1]
            exact ih (by omega) _ _ (dI_yes hei hmg) (dI_no hei hgl d2)
          · refine pm_iload dX5_makesRoom_79 rfl ?_
            refine pm_goto (tgt := 85) dX5_makesRoom_81 (by decide) ?_
            refine pm_istore_n (lv' := [some (.ref _), some (.int _), some (.int _), some (.int _), some (.int _)]) dX5_makesRoom_85 (by decide) rfl ?_
            refine pm_iinc (y := _ + (-1)) (lv' := [some (.ref _), some (.int _), some (.int _), some (.int _), some (.int _)]) dX5_makesRoom_86 rfl rfl (by decide) rfl ?_
            refine pm_goto (tgt := 25) dX5_makesRoom_89 (by decide) ?_
            have hmg : ab_mg S.1 S.2.2.1 p e = true := by
              have := (nI_eq (by omega) (by omega)).mp c38
              simp [ab_mg, this]
            rw [pm_z_1] at c76
            have hgl : ab_gl S.1 S.2.2.1 p e = true := by rw [ab_gl, hmg, c76]; rfl
            rw [nI_m1]
            exact ih (by omega) _ _ (dI_yes hei hmg) (dI_yes hei hgl)
        · refine pm_aload_n dX5_makesRoom_41 rfl ?_
          refine pm_aload_n dX5_makesRoom_42 rfl ?_
          refine pm_getR (ci := 5) (j := 4) (n := 39) (by first | assumption | rfl) (by decide) (by decide) rfl fl_RX5_13 rfl (by first | assumption | rfl) dX5_makesRoom_43 ?_
          refine pm_iload dX5_makesRoom_46 rfl ?_
          refine pm_ialdN (by first | assumption | rfl) (by first | assumption | omega | decide) (by first | decide | omega) dX5_makesRoom_48 ?_
          rw [(g1.2 k e hei).2.1]
          refine pm_cVi (as := [.int _]) (by first | assumption | rfl) (by decide) rfl ml_RX5_148 (by decide) (Nat.le_of_ble_eq_true rfl) dX5_makesRoom_49 (c_X5_owned g1 (by omega) (fun x hx => (i6 x hx).1) he4) (fun x1 w1 hq => ?_)
          obtain ⟨rfl, hw9⟩ := hq
          have hw9 := hw9.symm
          subst hw9
          refine pm_aload_n dX5_makesRoom_52 rfl ?_
          refine pm_getR (ci := 5) (j := 16) (n := 39) (by first | assumption | rfl) (by decide) (by decide) rfl fl_RX5_35 rfl (by first | assumption | rfl) dX5_makesRoom_53 ?_
          refine pm_aload_n dX5_makesRoom_56 rfl ?_
          refine pm_getR (ci := 5) (j := 4) (n := 39) (by first | assumption | rfl) (by decide) (by decide) rfl fl_RX5_13 rfl (by first | assumption | rfl) dX5_makesRoom_57 ?_
          refine pm_iload dX5_makesRoom_60 rfl ?_
          refine pm_ialdN (by first | assumption | rfl) (by first | assumption | omega | decide) (by first | decide | omega) dX5_makesRoom_62 ?_
          rw [(g1.2 k e hei).2.1]
          refine pm_ialdN (by first | assumption | rfl) (by first | assumption | omega | decide) (by first | decide | omega) dX5_makesRoom_63 ?_
          rw [(g3 e.2.1 he4).2.2.1]
          refine pm_icmp_le (tgt := 86) dX5_makesRoom_64 (by decide) (fun c64 => ?_) (fun c64 => ?_)
          · refine pm_iinc (y := _ + (-1)) (lv' := [some (.ref _), some (.int _), some (.int _), some (.int _), some (.int _)]) dX5_makesRoom_86 rfl rfl (by decide) rfl ?_
            refine pm_goto (tgt := 25) dX5_makesRoom_89 (by decide) ?_
            have hmg : ab_mg S.1 S.2.2.1 p e = false := by
              have q1 : ¬ e.2.1 = p := fun h => c38 (by rw [h])
              have q2 := Int32.not_lt.mpr c64
              simp [ab_mg, q1, q2]
            have hgl : ab_gl S.1 S.2.2.1 p e = false := by rw [ab_gl, hmg]; rfl
            rw [nI_m1]
            exact ih (by omega) _ _ (dI_no hei hmg d1) (dI_no hei hgl d2)
          · refine pm_iload dX5_makesRoom_67 rfl ?_
            refine pm_istore_n (lv' := [some (.ref _), some (.int _), some (.int _), some (.int _), some (.int _)]) dX5_makesRoom_69 (by decide) rfl ?_
            refine pm_aload_n dX5_makesRoom_70 rfl ?_
            refine pm_iload dX5_makesRoom_71 rfl ?_
            refine pm_cVi (as := [.int _]) (by first | assumption | rfl) (by decide) rfl ml_RX5_151 (by decide) (Nat.le_of_ble_eq_true rfl) dX5_makesRoom_73 (c_X5_isLeft g1 (by omega) hei he4 (g3 e.2.1 he4) (i9 e.2.1 he4)) (fun x1 w1 hq => ?_)
            obtain ⟨rfl, hw9⟩ := hq
            have hw9 := hw9.symm
            subst hw9
            refine pm_if_eq (tgt := 84) dX5_makesRoom_76 (by decide) (fun c76 => ?_) (fun c76 => ?_)
            · refine pm_iload_n dX5_makesRoom_84 rfl ?_
              refine pm_istore_n (lv' := [some (.ref _), some (.int _), some (.int _), some (.int _), some (.int _)]) dX5_makesRoom_85 (by decide) rfl ?_
              refine pm_iinc (y := _ + (-1)) (lv' := [some (.ref _), some (.int _), some (.int _), some (.int _), some (.int _)]) dX5_makesRoom_86 rfl rfl (by decide) rfl ?_
              refine pm_goto (tgt := 25) dX5_makesRoom_89 (by decide) ?_
              have hmg : ab_mg S.1 S.2.2.1 p e = true := by
                have := Int32.not_le.mp c64
                simp [ab_mg, this]
              rw [pm_z_0] at c76
              have hgl : ab_gl S.1 S.2.2.1 p e = false := by rw [ab_gl, c76, Bool.and_false]
              rw [nI_m1]
              exact ih (by omega) _ _ (dI_yes hei hmg) (dI_no hei hgl d2)
            · refine pm_iload dX5_makesRoom_79 rfl ?_
              refine pm_goto (tgt := 85) dX5_makesRoom_81 (by decide) ?_
              refine pm_istore_n (lv' := [some (.ref _), some (.int _), some (.int _), some (.int _), some (.int _)]) dX5_makesRoom_85 (by decide) rfl ?_
              refine pm_iinc (y := _ + (-1)) (lv' := [some (.ref _), some (.int _), some (.int _), some (.int _), some (.int _)]) dX5_makesRoom_86 rfl rfl (by decide) rfl ?_
              refine pm_goto (tgt := 25) dX5_makesRoom_89 (by decide) ?_
              have hmg : ab_mg S.1 S.2.2.1 p e = true := by
                have := Int32.not_le.mp c64
                simp [ab_mg, this]
              rw [pm_z_1] at c76
              have hgl : ab_gl S.1 S.2.2.1 p e = true := by rw [ab_gl, hmg, c76]; rfl
              rw [nI_m1]
              exact ih (by omega) _ _ (dI_yes hei hmg) (dI_yes hei hgl)
    refine pm_iconst (x := -1) dX5_makesRoom_13 rfl ?_
    refine pm_istore_n (lv' := [some (.ref _), some (.int _), some (.int _), none, none]) dX5_makesRoom_14 (by decide) rfl ?_
    refine pm_iconst (x := -1) dX5_makesRoom_15 rfl ?_
    refine pm_istore_n (lv' := [some (.ref _), some (.int _), some (.int _), some (.int _), none]) dX5_makesRoom_16 (by decide) rfl ?_
    refine pm_aload_n dX5_makesRoom_17 rfl ?_
    refine pm_getI (ci := 5) (j := 6) (n := 39) (by first | assumption | rfl) (by decide) (by decide) rfl fl_RX5_111 rfl dX5_makesRoom_18 ?_
    rw [g1.1]
    refine pm_iconst (x := 1) dX5_makesRoom_21 rfl ?_
    refine pm_isub dX5_makesRoom_22 ?_
    refine pm_istore (lv' := [some (.ref _), some (.int _), some (.int _), some (.int _), some (.int _)]) dX5_makesRoom_23 (by decide) rfl ?_
    exact loop S.1.length (Nat.le_refl _) _ _ (dI_start _ _) (dI_start _ _)
  · refine pm_iconst (x := 1) dX5_makesRoom_11 rfl ?_
    refine pm_zret dX5_makesRoom_12 rfl (by first | exact Or.inl rfl | exact Or.inr rfl | assumption) ?_
    exact Or.inl ⟨Int32.not_le.mp c8, rfl, rfl⟩

