def fs_F (w : pm_W) (j t : Nat) : Prop := fo_m (w.2 31 j) (w.2 32 j) t = true
/-- Beside the rooms at hand and the two rows of rooms nothing is changed. -/
def fs_r (w w1 : pm_W) : Prop := w1.1 = w.1 ∧ (∀ a, a ≠ 28 → a ≠ 31 → a ≠ 32 → w1.2 a = w.2 a) ∧ w1.2 28 6 = w.2 28 6 ∧ w1.2 28 7 = w.2 28 7
theorem fr_r0 (w : pm_W) : fs_r w w := ⟨rfl, fun _ _ _ _ => rfl, rfl, rfl⟩
theorem fr_rt {w w1 w2 : pm_W} (h : fs_r w w1) (k : fs_r w1 w2) : fs_r w w2 := ⟨k.1.trans h.1, fun a q1 q2 q3 => (k.2.1 a q1 q2 q3).trans (h.2.1 a q1 q2 q3), k.2.2.1.trans h.2.2.1, k.2.2.2.trans h.2.2.2⟩
theorem fr_rk {w w1 : pm_W} {lo hi : Int64} (h : fs_k w w1 lo hi) : fs_r w w1 := ⟨h.1, fun a q1 _ _ => h.2.1 a q1, h.2.2.2.2 6 (by decide) (by decide), h.2.2.2.2 7 (by decide) (by decide)⟩
theorem fr_r1 (w : pm_W) (f : Nat → Int64) : fs_r w (pm_sL w 31 f) := ⟨rfl, fun a _ q _ => pm_sL_ne q, rfl, rfl⟩
theorem fr_r2 (w : pm_W) (f : Nat → Int64) : fs_r w (pm_sL w 32 f) := ⟨rfl, fun a _ _ q => pm_sL_ne q, rfl, rfl⟩
theorem up_k {w1 w2 : pm_W} {sp : Nat} {lo hi : Int64} (hk : fs_k w1 w2 lo hi) (hF : fo_F sp (w1.2 28 6) (w1.2 28 7)) (hV : ∀ r, fo_m lo hi r = true → fo_V sp 7 r) {n : Nat} (hn : n < 1000) : pm_C pm_L0 MX1_serveUpTo [.ref 28, .int (nI n)] w2 (pm_qv fun w3 => ∃ lo1 hi1, fs_k w1 w3 lo1 hi1 ∧ fo_im sp n lo hi lo1 hi1) := by
  obtain ⟨h1, h2, h3, h4, h5⟩ := id hk
  refine pm_monv (c_X1_serveUpTo (sp := sp) (by rw [h5 6 (by decide) (by decide), h5 7 (by decide) (by decide)]; exact hF) (by rw [h3, h4]; exact hV) hn) (fun w3 hq => ?_)
  obtain ⟨lo1, hi1, q1, q2⟩ := hq
  rw [h3, h4] at q2
  exact ⟨lo1, hi1, fs_tr hk q1, q2⟩
theorem pm_topl {L : pm_L} {M : pm_M} {pc : Nat} {lv : List (Option Value)} {st : List Value} {w : pm_W} {Q : Option Value → pm_W → Prop} {x : Int64} (y : Int64) (e : x = y) (h : pm_R L M pc lv (.long y :: st) w Q) : pm_R L M pc lv (.long x :: st) w Q := by subst e; exact h
theorem fo_mand (a b c d : Int64) (t : Nat) : fo_m (a &&& c) (b &&& d) t = (fo_m a b t && fo_m c d t) := by
  unfold fo_m
  split <;> rw [lb_and]
theorem fo_mor (a b c d : Int64) (t : Nat) : fo_m (a ||| c) (b ||| d) t = (fo_m a b t || fo_m c d t) := by
  unfold fo_m
  split <;> rw [lb_or]
theorem fo_mnot (a b : Int64) (t : Nat) : fo_m (a ^^^ (-1)) (b ^^^ (-1)) t = (decide (t < 128) && !fo_m a b t) := by
  unfold fo_m
  split
  · rw [lb_not]
    have h1 : t < 64 := by assumption
    have h2 : t < 128 := by omega
    simp [h1, h2]
  · rw [lb_not]
    have h1 : ¬ t < 64 := by assumption
    by_cases h2 : t < 128
    · have h3 : t - 64 < 64 := by omega
      simp [h2, h3]
    · have h3 : ¬ t - 64 < 64 := by omega
      simp [h2, h3]
theorem fo_m00 (t : Nat) : fo_m 0 0 t = false := by
  unfold fo_m
  split <;> exact lb_0 _
theorem vL_s {f : Nat → Int64} {i : Nat} {x : Int64} : vp_updL f i x i = x := if_pos rfl
theorem vL_n {f : Nat → Int64} {i j : Nat} {x : Int64} (h : ¬ j = i) : vp_updL f i x j = f j := if_neg h
/-- Both rows are written at i. -/
def fs_w (w : pm_W) (i : Nat) (a b : Int64) : pm_W := pm_sL (pm_sL w 31 (vp_updL (w.2 31) i a)) 32 (vp_updL (w.2 32) i b)
theorem fs_wr (w : pm_W) (i : Nat) (a b : Int64) : fs_r w (fs_w w i a b) := fr_rt (fr_r1 w _) (fr_r2 _ _)
theorem fs_wi (w : pm_W) (i : Nat) (a b : Int64) (t : Nat) : fs_F (fs_w w i a b) i t ↔ fo_m a b t = true := by
  show fo_m (vp_updL (w.2 31) i a i) (vp_updL (w.2 32) i b i) t = true ↔ _
  rw [vL_s, vL_s]
theorem fs_wj (w : pm_W) {i j : Nat} (h : ¬ j = i) (a b : Int64) : (fs_w w i a b).2 31 j = w.2 31 j ∧ (fs_w w i a b).2 32 j = w.2 32 j := ⟨vL_n h, vL_n h⟩
theorem fs_kj {w w1 : pm_W} {lo hi : Int64} (h : fs_k w w1 lo hi) (j : Nat) : w1.2 31 j = w.2 31 j ∧ w1.2 32 j = w.2 32 j := ⟨by rw [h.2.1 31 (by decide)], by rw [h.2.1 32 (by decide)]⟩

set_option maxRecDepth 4000 in
theorem c_X1_passTick {w : pm_W} {sp v n : Nat} (hF : fo_F sp (w.2 28 6) (w.2 28 7)) (h8 : w.1 28 8 = nI v) (hv : v < 1000) (hn : n ≤ 24) (hV : ∀ j, j ≤ n → ∀ t, fs_F w j t → fo_V sp 7 t) : pm_C pm_L0 MX1_passTick [.ref 28, .int (nI n)] w (pm_qv fun w1 => fs_r w w1 ∧ ∀ j, j ≤ n → ∀ t, fs_F w1 j t ↔ ∃ s, fs_F w j s ∧ fo_sn sp 7 v s t) := by
  have loop : ∀ i, i ≤ n + 1 → ∀ w1, fs_r w w1 → (∀ j, j < i → ∀ t, fs_F w1 j t ↔ ∃ s, fs_F w j s ∧ fo_sn sp 7 v s t) → (∀ j, i ≤ j → w1.2 31 j = w.2 31 j ∧ w1.2 32 j = w.2 32 j) → pm_R pm_L0 MX1_passTick 2 [some (.ref 28), some (.int (nI n)), some (.int (nI i))] [] w1 (pm_qv fun w1 => fs_r w w1 ∧ ∀ j, j ≤ n → ∀ t, fs_F w1 j t ↔ ∃ s, fs_F w j s ∧ fo_sn sp 7 v s t) := by
    refine up_loop (n + 1) (fun i hi9 ih w1 hr hd ho => ?_)
    refine pm_iload_n dX1_passTick_2 rfl ?_
    refine pm_iload_n dX1_passTick_3 rfl ?_
    refine pm_icmp_gt (tgt := 61) dX1_passTick_4 (by decide) (fun c4 => ?_) (fun c4 => ?_)
    · refine pm_vret dX1_passTick_61 rfl ?_
      have hin : i = n + 1 := by
        rw [nI_ltI (by omega) (by omega)] at c4
        omega
      subst hin
      exact ⟨hr, fun j hj => hd j (by omega)⟩
    · have hlt : i ≤ n := by
        rw [nI_ltI (by omega) (by omega)] at c4
        omega
      obtain ⟨o1, o2⟩ := ho i (Nat.le_refl _)
      refine pm_aload_n dX1_passTick_7 rfl ?_
      refine pm_aload_n dX1_passTick_8 rfl ?_
      refine pm_getR (ci := 1) (j := 2) (n := 9) (by first | assumption | rfl) (by decide) (by decide) rfl fl_RX1_18 rfl (by first | assumption | rfl) dX1_passTick_9 ?_
      refine pm_iload_n dX1_passTick_12 rfl ?_
      refine pm_laldN (by first | assumption | rfl) (by omega) (by first | decide | omega) dX1_passTick_13 ?_
      refine pm_putL (ci := 1) (j := 4) (n := 9) (by first | assumption | rfl) (by decide) (by decide) rfl fl_RX1_92 rfl rfl dX1_passTick_14 ?_
      refine pm_aload_n dX1_passTick_17 rfl ?_
      refine pm_aload_n dX1_passTick_18 rfl ?_
      refine pm_getR (ci := 1) (j := 3) (n := 9) (by first | assumption | rfl) (by decide) (by decide) rfl fl_RX1_22 rfl (by first | assumption | rfl) dX1_passTick_19 ?_
      refine pm_iload_n dX1_passTick_22 rfl ?_
      refine pm_laldN (by first | assumption | rfl) (by omega) (by first | decide | omega) dX1_passTick_23 ?_
      refine pm_putL (ci := 1) (j := 5) (n := 9) (by first | assumption | rfl) (by decide) (by decide) rfl fl_RX1_95 rfl rfl dX1_passTick_24 ?_
      have hk : fs_k w1 _ (w1.2 31 i) (w1.2 32 i) := fs_5 (fs_4 (fs_rf w1) (w1.2 31 i)) (w1.2 32 i)
      refine pm_aload_n dX1_passTick_27 rfl ?_
      refine pm_aload_n dX1_passTick_28 rfl ?_
      refine pm_getI (ci := 1) (j := 8) (n := 9) (by first | assumption | rfl) (by decide) (by decide) rfl fl_RX1_35 rfl dX1_passTick_29 ?_
      refine pm_topi (nI v) ((congrFun (congrFun hr.1 28) 8).trans h8) ?_
      refine pm_cVv (as := [.int _]) (by first | assumption | rfl) (by decide) rfl ml_RX1_98 (by decide) (Nat.le_of_ble_eq_true rfl) dX1_passTick_32 (up_k hk (sp := sp) (by rw [hr.2.2.1, hr.2.2.2]; exact hF) (fun r hh => hV i hlt r (by rw [o1, o2] at hh; exact hh)) hv) (fun w2 hq => ?_)
      obtain ⟨lo1, hi1, hq, him⟩ := hq
      refine pm_aload_n dX1_passTick_35 rfl ?_
      refine pm_getR (ci := 1) (j := 2) (n := 9) (by first | assumption | rfl) (by decide) (by decide) rfl fl_RX1_18 rfl (by first | assumption | rfl) dX1_passTick_36 ?_
      refine pm_iload_n dX1_passTick_39 rfl ?_
      refine pm_aload_n dX1_passTick_40 rfl ?_
      refine pm_getL (ci := 1) (j := 4) (n := 9) (by first | assumption | rfl) (by decide) (by decide) rfl fl_RX1_92 rfl dX1_passTick_41 ?_
      rw [hq.2.2.1]
      refine pm_lastN (by first | assumption | rfl) (by omega) (by first | decide | omega) dX1_passTick_44 ?_
      refine pm_aload_n dX1_passTick_45 rfl ?_
      refine pm_getR (ci := 1) (j := 3) (n := 9) (by first | assumption | rfl) (by decide) (by decide) rfl fl_RX1_22 rfl (by first | assumption | rfl) dX1_passTick_46 ?_
      refine pm_iload_n dX1_passTick_49 rfl ?_
      refine pm_aload_n dX1_passTick_50 rfl ?_
      refine pm_getL (ci := 1) (j := 5) (n := 9) (by first | assumption | rfl) (by decide) (by decide) rfl fl_RX1_95 rfl dX1_passTick_51 ?_
      refine pm_topl hi1 hq.2.2.2.1 ?_
      refine pm_lastN (by first | assumption | rfl) (by omega) (by first | decide | omega) dX1_passTick_54 ?_
      refine pm_iinc (y := _ + 1) (lv' := [some (.ref _), some (.int _), some (.int _)]) dX1_passTick_55 rfl rfl (by decide) rfl ?_
      refine pm_goto (tgt := 2) dX1_passTick_58 (by decide) ?_
      rw [nI_1]
      refine ih (by omega) (fs_w w2 i lo1 hi1) (fr_rt hr (fr_rt (fr_rk hq) (fs_wr _ _ _ _))) (fun j hj t => ?_) (fun j hj => ?_)
      · by_cases hji : j = i
        · subst hji
          rw [fs_wi, him t, o1, o2]
          exact Iff.rfl
        · obtain ⟨z1, z2⟩ := fs_wj w2 hji lo1 hi1
          obtain ⟨z3, z4⟩ := fs_kj hq j
          rw [fs_F, z1, z2, z3, z4]
          exact hd j (by omega) t
      · obtain ⟨z1, z2⟩ := fs_wj w2 (show ¬ j = i by omega) lo1 hi1
        obtain ⟨z3, z4⟩ := fs_kj hq j
        rw [z1, z2, z3, z4]
        exact ho j (by omega)
  refine pm_start (lv := [some (.ref _), some (.int _), none]) (plainFor_of_name pf1) (Nat.le_of_ble_eq_true rfl) rfl ?_
  refine pm_iconst (x := 0) dX1_passTick_0 rfl ?_
  refine pm_istore_n (lv' := [some (.ref _), some (.int _), some (.int _)]) dX1_passTick_1 (by decide) rfl ?_
  exact loop 0 (Nat.zero_le _) w (fr_r0 w) (fun j hj => absurd hj (by omega)) (fun j _ => ⟨rfl, rfl⟩)

set_option maxRecDepth 4000 in
theorem c_X1_dropDearer (w : pm_W) {n : Nat} (hn : n ≤ 24) : pm_C pm_L0 MX1_dropDearer [.ref 28, .int (nI n)] w (pm_qv fun w1 => fs_r w w1 ∧ ∀ j, j ≤ n → ∀ t, fs_F w1 j t ↔ fs_F w j t ∧ ∀ i, i < j → ¬ fs_F w i t) := by
  have loop : ∀ i, i ≤ n + 1 → ∀ w1 sl sh, fs_r w w1 → (∀ j, j < i → ∀ t, fs_F w1 j t ↔ fs_F w j t ∧ ∀ i, i < j → ¬ fs_F w i t) → (∀ j, i ≤ j → w1.2 31 j = w.2 31 j ∧ w1.2 32 j = w.2 32 j) → (∀ t, fo_m sl sh t = true ↔ ∃ j, j < i ∧ fs_F w j t) → pm_R pm_L0 MX1_dropDearer 8 [some (.ref 28), some (.int (nI n)), some (.long sl), none, some (.long sh), none, some (.int (nI i))] [] w1 (pm_qv fun w1 => fs_r w w1 ∧ ∀ j, j ≤ n → ∀ t, fs_F w1 j t ↔ fs_F w j t ∧ ∀ i, i < j → ¬ fs_F w i t) := by
    refine up_loop (n + 1) (fun i hi9 ih w1 sl sh hr hd ho hs => ?_)
    refine pm_iload dX1_dropDearer_8 rfl ?_
    refine pm_iload_n dX1_dropDearer_10 rfl ?_
    refine pm_icmp_gt (tgt := 73) dX1_dropDearer_11 (by decide) (fun c11 => ?_) (fun c11 => ?_)
    · refine pm_vret dX1_dropDearer_73 rfl ?_
      have hin : i = n + 1 := by
        rw [nI_ltI (by omega) (by omega)] at c11
        omega
      subst hin
      exact ⟨hr, fun j hj => hd j (by omega)⟩
    · have hlt : i ≤ n := by
        rw [nI_ltI (by omega) (by omega)] at c11
        omega
      obtain ⟨o1, o2⟩ := ho i (Nat.le_refl _)
      refine pm_aload_n dX1_dropDearer_14 rfl ?_
      refine pm_getR (ci := 1) (j := 2) (n := 9) (by first | assumption | rfl) (by decide) (by decide) rfl fl_RX1_18 rfl (by first | assumption | rfl) dX1_dropDearer_15 ?_
      refine pm_iload dX1_dropDearer_18 rfl ?_
      refine pm_dup2 dX1_dropDearer_20 rfl rfl ?_
      refine pm_laldN (by first | assumption | rfl) (by omega) (by first | decide | omega) dX1_dropDearer_21 ?_
      refine pm_lload_n dX1_dropDearer_22 rfl ?_
      refine pm_ldc2 kc_RX1_90 dX1_dropDearer_23 ?_
      refine pm_lxor dX1_dropDearer_26 ?_
      refine pm_land dX1_dropDearer_27 ?_
      refine pm_lastN (by first | assumption | rfl) (by omega) (by first | decide | omega) dX1_dropDearer_28 ?_
      refine pm_aload_n dX1_dropDearer_29 rfl ?_
      refine pm_getR (ci := 1) (j := 3) (n := 9) (by first | assumption | rfl) (by decide) (by decide) rfl fl_RX1_22 rfl (by first | assumption | rfl) dX1_dropDearer_30 ?_
      refine pm_iload dX1_dropDearer_33 rfl ?_
      refine pm_dup2 dX1_dropDearer_35 rfl rfl ?_
      refine pm_laldN (by first | assumption | rfl) (by omega) (by first | decide | omega) dX1_dropDearer_36 ?_
      refine pm_topl (w1.2 32 i) rfl ?_
      refine pm_lload dX1_dropDearer_37 rfl ?_
      refine pm_ldc2 kc_RX1_90 dX1_dropDearer_39 ?_
      refine pm_lxor dX1_dropDearer_42 ?_
      refine pm_land dX1_dropDearer_43 ?_
      refine pm_lastN (by first | assumption | rfl) (by omega) (by first | decide | omega) dX1_dropDearer_44 ?_
      refine pm_lload_n dX1_dropDearer_45 rfl ?_
      refine pm_aload_n dX1_dropDearer_46 rfl ?_
      refine pm_getR (ci := 1) (j := 2) (n := 9) (by first | assumption | rfl) (by decide) (by decide) rfl fl_RX1_18 rfl (by first | assumption | rfl) dX1_dropDearer_47 ?_
      refine pm_iload dX1_dropDearer_50 rfl ?_
      refine pm_laldN (by first | assumption | rfl) (by omega) (by first | decide | omega) dX1_dropDearer_52 ?_
      refine pm_topl (w1.2 31 i &&& (sl ^^^ (-1))) vL_s ?_
      refine pm_lor dX1_dropDearer_53 ?_
      refine pm_lstore_n (lv' := [some (.ref _), some (.int _), some (.long _), none, some (.long _), none, some (.int _)]) dX1_dropDearer_54 (by decide) rfl ?_
      refine pm_lload dX1_dropDearer_55 rfl ?_
      refine pm_aload_n dX1_dropDearer_57 rfl ?_
      refine pm_getR (ci := 1) (j := 3) (n := 9) (by first | assumption | rfl) (by decide) (by decide) rfl fl_RX1_22 rfl (by first | assumption | rfl) dX1_dropDearer_58 ?_
      refine pm_iload dX1_dropDearer_61 rfl ?_
      refine pm_laldN (by first | assumption | rfl) (by omega) (by first | decide | omega) dX1_dropDearer_63 ?_
      refine pm_topl (w1.2 32 i &&& (sh ^^^ (-1))) vL_s ?_
      refine pm_lor dX1_dropDearer_64 ?_
      refine pm_lstore (lv' := [some (.ref _), some (.int _), some (.long _), none, some (.long _), none, some (.int _)]) dX1_dropDearer_65 (by decide) rfl ?_
      refine pm_iinc (y := _ + 1) (lv' := [some (.ref _), some (.int _), some (.long _), none, some (.long _), none, some (.int _)]) dX1_dropDearer_67 rfl rfl (by decide) rfl ?_
      refine pm_goto (tgt := 8) dX1_dropDearer_70 (by decide) ?_
      rw [nI_1]
      have hnew : ∀ t, fo_m (w1.2 31 i &&& (sl ^^^ (-1))) (w1.2 32 i &&& (sh ^^^ (-1))) t = true ↔ fs_F w i t ∧ ∀ j, j < i → ¬ fs_F w j t := by
        intro t
        rw [fo_mand, fo_mnot, o1, o2, Bool.and_eq_true, Bool.and_eq_true, Bool.not_eq_eq_eq_not, Bool.not_true, decide_eq_true_eq]
        constructor
        · rintro ⟨h1, -, h2⟩
          refine ⟨h1, fun j hj hf => ?_⟩
          have := (hs t).mpr ⟨j, hj, hf⟩
          rw [h2] at this; cases this
        · rintro ⟨h1, h2⟩
          refine ⟨h1, fo_mge h1, ?_⟩
          cases hz : fo_m sl sh t
          · rfl
          · obtain ⟨j, hj, hf⟩ := (hs t).mp hz
            exact absurd hf (h2 j hj)
      refine ih (by omega) (fs_w w1 i (w1.2 31 i &&& (sl ^^^ (-1))) (w1.2 32 i &&& (sh ^^^ (-1)))) _ _ (fr_rt hr (fs_wr _ _ _ _)) (fun j hj t => ?_) (fun j hj => ?_) (fun t => ?_)
      · by_cases hji : j = i
        · subst hji
          rw [fs_wi, hnew t]
        · obtain ⟨z1, z2⟩ := fs_wj w1 hji (w1.2 31 i &&& (sl ^^^ (-1))) (w1.2 32 i &&& (sh ^^^ (-1)))
          rw [fs_F, z1, z2]
          exact hd j (by omega) t
      · obtain ⟨z1, z2⟩ := fs_wj w1 (show ¬ j = i by omega) (w1.2 31 i &&& (sl ^^^ (-1))) (w1.2 32 i &&& (sh ^^^ (-1)))
        rw [z1, z2]
        exact ho j (by omega)
      · rw [fo_mor, Bool.or_eq_true, hs t, hnew t]
        constructor
        · rintro (⟨j, hj, hf⟩ | ⟨hf, -⟩)
          · exact ⟨j, by omega, hf⟩
          · exact ⟨i, by omega, hf⟩
        · rintro ⟨j, hj, hf⟩
          by_cases hq : ∃ j, j < i ∧ fs_F w j t
          · exact Or.inl hq
          · have hji : j = i := by
              rcases Nat.lt_succ_iff_lt_or_eq.mp hj with z | z
              · exact absurd ⟨j, z, hf⟩ hq
              · exact z
            subst hji
            exact Or.inr ⟨hf, fun i hi hfi => hq ⟨i, hi, hfi⟩⟩
  refine pm_start (lv := [some (.ref _), some (.int _), none, none, none, none, none]) (plainFor_of_name pf1) (Nat.le_of_ble_eq_true rfl) rfl ?_
  refine pm_lconst (x := 0) dX1_dropDearer_0 rfl ?_
  refine pm_lstore_n (lv' := [some (.ref _), some (.int _), some (.long _), none, none, none, none]) dX1_dropDearer_1 (by decide) rfl ?_
  refine pm_lconst (x := 0) dX1_dropDearer_2 rfl ?_
  refine pm_lstore (lv' := [some (.ref _), some (.int _), some (.long _), none, some (.long _), none, none]) dX1_dropDearer_3 (by decide) rfl ?_
  refine pm_iconst (x := 0) dX1_dropDearer_5 rfl ?_
  refine pm_istore (lv' := [some (.ref _), some (.int _), some (.long _), none, some (.long _), none, some (.int _)]) dX1_dropDearer_6 (by decide) rfl ?_
  exact loop 0 (Nat.zero_le _) w 0 0 (fr_r0 w) (fun j hj => absurd hj (by omega)) (fun j _ => ⟨rfl, rfl⟩) (fun t => by rw [fo_m00]; exact ⟨fun z => absurd z (by decide), fun ⟨j, hj, _⟩ => absurd hj (by omega)⟩)

set_option maxRecDepth 4000 in
theorem c_X1_cheapest (w : pm_W) {n : Nat} (hn : n ≤ 24) : pm_C pm_L0 MX1_cheapest [.ref 28, .int (nI n)] w (pm_qi fun r w1 => (∃ m, r = nI m ∧ m ≤ n ∧ (∀ j, j < m → ∀ t, ¬ fs_F w j t) ∧ (m < n → ∃ t, fs_F w m t)) ∧ w1 = w) := by
  have loop : ∀ i, i ≤ n → (∀ j, j < i → ∀ t, ¬ fs_F w j t) → pm_R pm_L0 MX1_cheapest 2 [some (.ref 28), some (.int (nI n)), some (.int (nI i))] [] w (pm_qi fun r w1 => (∃ m, r = nI m ∧ m ≤ n ∧ (∀ j, j < m → ∀ t, ¬ fs_F w j t) ∧ (m < n → ∃ t, fs_F w m t)) ∧ w1 = w) := by
    refine up_loop n (fun i hi9 ih hd => ?_)
    refine pm_iload_n dX1_cheapest_2 rfl ?_
    refine pm_iload_n dX1_cheapest_3 rfl ?_
    refine pm_icmp_ge (tgt := 31) dX1_cheapest_4 (by decide) (fun c4 => ?_) (fun c4 => ?_)
    · refine pm_iload_n dX1_cheapest_31 rfl ?_
      refine pm_iret dX1_cheapest_32 rfl ?_
      have hin : i = n := by
        rw [nI_leI (by omega) (by omega)] at c4
        omega
      subst hin
      exact ⟨⟨i, rfl, Nat.le_refl _, hd, fun z => absurd z (by omega)⟩, rfl⟩
    · have hlt : i < n := by
        rw [nI_leI (by omega) (by omega)] at c4
        omega
      refine pm_aload_n dX1_cheapest_7 rfl ?_
      refine pm_getR (ci := 1) (j := 2) (n := 9) (by first | assumption | rfl) (by decide) (by decide) rfl fl_RX1_18 rfl (by first | assumption | rfl) dX1_cheapest_8 ?_
      refine pm_iload_n dX1_cheapest_11 rfl ?_
      refine pm_laldN (by first | assumption | rfl) (by omega) (by first | decide | omega) dX1_cheapest_12 ?_
      refine pm_aload_n dX1_cheapest_13 rfl ?_
      refine pm_getR (ci := 1) (j := 3) (n := 9) (by first | assumption | rfl) (by decide) (by decide) rfl fl_RX1_22 rfl (by first | assumption | rfl) dX1_cheapest_14 ?_
      refine pm_iload_n dX1_cheapest_17 rfl ?_
      refine pm_laldN (by first | assumption | rfl) (by omega) (by first | decide | omega) dX1_cheapest_18 ?_
      refine pm_lor dX1_cheapest_19 ?_
      refine pm_lconst (x := 0) dX1_cheapest_20 rfl ?_
      refine pm_lcmp dX1_cheapest_21 ?_
      refine pm_if_ne (tgt := 31) dX1_cheapest_22 (by decide) (fun c22 => ?_) (fun c22 => ?_)
      · refine pm_iload_n dX1_cheapest_31 rfl ?_
        refine pm_iret dX1_cheapest_32 rfl ?_
        refine ⟨⟨i, rfl, by omega, hd, fun _ => ?_⟩, rfl⟩
        rw [lg_0, fo_m0] at c22
        apply Classical.byContradiction
        intro hz
        refine c22 (fun r => ?_)
        cases hb : fo_m (w.2 31 i) (w.2 32 i) r
        · rfl
        · exact absurd ⟨r, hb⟩ hz
      · refine pm_iinc (y := _ + 1) (lv' := [some (.ref _), some (.int _), some (.int _)]) dX1_cheapest_25 rfl rfl (by decide) rfl ?_
        refine pm_goto (tgt := 2) dX1_cheapest_28 (by decide) ?_
        rw [nI_1]
        rw [lg_0, fo_m0] at c22
        refine ih hlt (fun j hj t ht => ?_)
        rcases Nat.lt_succ_iff_lt_or_eq.mp hj with z | rfl
        · exact hd j z t ht
        · rw [fs_F, c22 t] at ht; cases ht
  refine pm_start (lv := [some (.ref _), some (.int _), none]) (plainFor_of_name pf1) (Nat.le_of_ble_eq_true rfl) rfl ?_
  refine pm_iconst (x := 0) dX1_cheapest_0 rfl ?_
  refine pm_istore_n (lv' := [some (.ref _), some (.int _), some (.int _)]) dX1_cheapest_1 (by decide) rfl ?_
  exact loop 0 (Nat.zero_le _) (fun j hj => absurd hj (by omega))

