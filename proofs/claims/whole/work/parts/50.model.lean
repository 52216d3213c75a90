/-- only the cells cs, and of the model's object only the fields js, are changed; no long -/
def mfr (w w1 : pm_W) (cs js : List Nat) : Prop := (∀ a, a ≠ 83 → a ∉ cs → w1.1 a = w.1 a) ∧ (∀ j, j ∉ js → w1.1 83 j = w.1 83 j) ∧ w1.2 = w.2
theorem mfr_rf (w : pm_W) (cs js : List Nat) : mfr w w cs js := ⟨fun _ _ _ => rfl, fun _ _ => rfl, rfl⟩
theorem mfr_tr {w w1 w2 : pm_W} {cs js : List Nat} (h : mfr w w1 cs js) (k : mfr w1 w2 cs js) : mfr w w2 cs js := ⟨fun a q1 q2 => (k.1 a q1 q2).trans (h.1 a q1 q2), fun j q => (k.2.1 j q).trans (h.2.1 j q), k.2.2.trans h.2.2⟩
theorem mfr_wd {w w1 : pm_W} {cs js cs' js' : List Nat} (h : mfr w w1 cs js) (h1 : ∀ a ∈ cs, a ∈ cs') (h2 : ∀ a ∈ js, a ∈ js') : mfr w w1 cs' js' := ⟨fun a q1 q2 => h.1 a q1 (fun q => q2 (h1 a q)), fun j q => h.2.1 j (fun q2 => q (h2 j q2)), h.2.2⟩
theorem mfr_c {w w1 : pm_W} {cs js : List Nat} (h : mfr w w1 cs js) {k : Nat} (hk : k ∈ cs) (hk2 : k ≠ 83) (f : Nat → Int32) : mfr w (pm_s w1 k f) cs js := ⟨fun a q1 q2 => by rw [pm_s_ne (fun e : a = k => q2 (by rw [e]; exact hk))]; exact h.1 a q1 q2, fun j q => by rw [pm_s_ne (Ne.symm hk2)]; exact h.2.1 j q, h.2.2⟩
theorem mfr_j {w w1 : pm_W} {cs js : List Nat} (h : mfr w w1 cs js) {j : Nat} (hj : j ∈ js) (x : Int32) : mfr w (pm_s w1 83 (upd (w1.1 83) j x)) cs js := ⟨fun a q1 q2 => by rw [pm_s_ne q1]; exact h.1 a q1 q2, fun t q => by rw [pm_s_at, pk_un (fun e : t = j => q (by rw [e]; exact hj))]; exact h.2.1 t q, h.2.2⟩
def mr (w : pm_W) (l : List ab_E) : Prop := w.1 83 6 = nI l.length ∧ ∀ (i : Nat) (e : ab_E), l[i]? = some e → w.1 84 i = e.1 ∧ w.1 85 i = nI e.2.1 ∧ w.1 86 i = e.2.2
def ml (w : pm_W) (l : List ab_E) : Prop := w.1 83 9 = nI l.length ∧ ∀ (i : Nat) (e : ab_E), l[i]? = some e → w.1 87 i = e.1 ∧ w.1 88 i = nI e.2.1
def mo_A (w : pm_W) (p : Nat) (A : ab_A) : Prop := w.1 89 p = A.1 2 ∧ (if A.1 2 = 5 then w.1 91 p else w.1 90 p) = A.1 3 ∧ w.1 92 p = A.1 4 ∧ w.1 93 p = A.1 5 ∧ (¬ A.1 5 = -1 → w.1 94 p = A.1 6) ∧ w.1 95 p = A.1 7 ∧ w.1 96 p = A.1 8 ∧ (∀ j, j < 64 → w.1 97 (64 * p + j) = A.2.2 j) ∧ ∀ j, j < 7 → w.1 98 (7 * p + j) = A.2.1 j
def mn (w : pm_W) (m : Nat → Int32) : Prop := w.1 83 0 = m 4 ∧ w.1 83 1 = m 5 ∧ w.1 83 2 = m 6 ∧ w.1 83 10 = m 7 ∧ w.1 83 12 = m 8 ∧ w.1 83 11 = m 9
def mw (w : pm_W) (rw_ : List Int32) : Prop := w.1 83 24 = nI rw_.length ∧ ∀ (i : Nat) (x : Int32), rw_[i]? = some x → rw_.length ≤ i + 200 → w.1 99 (i % 200) = x
/-- the model holds S -/
def mo_R (w : pm_W) (S : ab_S) : Prop := mr w S.1 ∧ ml w S.2.1 ∧ (∀ p, p < 4 → mo_A w p (S.2.2.1 p)) ∧ mn w S.2.2.2.1 ∧ mw w S.2.2.2.2
theorem mr_cong {w w1 : pm_W} {l : List ab_E} (h : mr w l) (h6 : w1.1 83 6 = w.1 83 6) (e1 : w1.1 84 = w.1 84) (e2 : w1.1 85 = w.1 85) (e3 : w1.1 86 = w.1 86) : mr w1 l := ⟨h6.trans h.1, fun i e he => by rw [e1, e2, e3]; exact h.2 i e he⟩
theorem ml_cong {w w1 : pm_W} {l : List ab_E} (h : ml w l) (h6 : w1.1 83 9 = w.1 83 9) (e1 : w1.1 87 = w.1 87) (e2 : w1.1 88 = w.1 88) : ml w1 l := ⟨h6.trans h.1, fun i e he => by rw [e1, e2]; exact h.2 i e he⟩
theorem moA_cong {w w1 : pm_W} {p : Nat} {A : ab_A} (h : mo_A w p A) (e : ∀ a, 89 ≤ a → a ≤ 98 → w1.1 a = w.1 a) : mo_A w1 p A := by
  unfold mo_A
  rw [e 89 (by decide) (by decide), e 90 (by decide) (by decide), e 91 (by decide) (by decide), e 92 (by decide) (by decide), e 93 (by decide) (by decide), e 94 (by decide) (by decide), e 95 (by decide) (by decide), e 96 (by decide) (by decide), e 97 (by decide) (by decide), e 98 (by decide) (by decide)]
  exact h
theorem mn_cong {w w1 : pm_W} {m : Nat → Int32} (h : mn w m) (e : ∀ j, (j < 3 ∨ 10 ≤ j ∧ j < 13) → w1.1 83 j = w.1 83 j) : mn w1 m := by
  unfold mn
  rw [e 0 (by decide), e 1 (by decide), e 2 (by decide), e 10 (by decide), e 12 (by decide), e 11 (by decide)]
  exact h
theorem mw_cong {w w1 : pm_W} {r : List Int32} (h : mw w r) (e : w1.1 83 24 = w.1 83 24) (e2 : w1.1 99 = w.1 99) : mw w1 r := ⟨e.trans h.1, fun i x q1 q2 => by rw [e2]; exact h.2 i x q1 q2⟩
theorem mo_line {w w1 : pm_W} {S : ab_S} {l : List ab_E} (h : mo_R w S) (hl : ml w1 l) (hf : mfr w w1 [87, 88] [9]) : mo_R w1 (S.1, l, S.2.2) := by
  obtain ⟨h1, h2, h3, h4, h5⟩ := h
  exact ⟨mr_cong h1 (hf.2.1 6 (by decide)) (hf.1 84 (by decide) (by decide)) (hf.1 85 (by decide) (by decide)) (hf.1 86 (by decide) (by decide)), hl, fun p hp => moA_cong (h3 p hp) (fun a q1 q2 => hf.1 a (by omega) (by simp; omega)), mn_cong h4 (fun j hj => hf.2.1 j (by simp; omega)), mw_cong h5 (hf.2.1 24 (by decide)) (hf.1 99 (by decide) (by decide))⟩
theorem mo_room {w w1 : pm_W} {S : ab_S} {l : List ab_E} (h : mo_R w S) (hl : mr w1 l) (hf : mfr w w1 [84, 85, 86] [6]) : mo_R w1 (l, S.2) := by
  obtain ⟨h1, h2, h3, h4, h5⟩ := h
  exact ⟨hl, ml_cong h2 (hf.2.1 9 (by decide)) (hf.1 87 (by decide) (by decide)) (hf.1 88 (by decide) (by decide)), fun p hp => moA_cong (h3 p hp) (fun a q1 q2 => hf.1 a (by omega) (by simp; omega)), mn_cong h4 (fun j hj => hf.2.1 j (by simp; omega)), mw_cong h5 (hf.2.1 24 (by decide)) (hf.1 99 (by decide) (by decide))⟩
theorem mo_ask {w w1 : pm_W} {S : ab_S} {ak : Nat → ab_A} (h : mo_R w S) (hl : ∀ p, p < 4 → mo_A w1 p (ak p)) (hf : mfr w w1 [89, 90, 91, 92, 93, 94, 95, 96, 97, 98] []) : mo_R w1 (S.1, S.2.1, ak, S.2.2.2) := by
  obtain ⟨h1, h2, h3, h4, h5⟩ := h
  exact ⟨mr_cong h1 (hf.2.1 6 (by decide)) (hf.1 84 (by decide) (by decide)) (hf.1 85 (by decide) (by decide)) (hf.1 86 (by decide) (by decide)), ml_cong h2 (hf.2.1 9 (by decide)) (hf.1 87 (by decide) (by decide)) (hf.1 88 (by decide) (by decide)), hl, mn_cong h4 (fun j hj => hf.2.1 j (by simp)), mw_cong h5 (hf.2.1 24 (by decide)) (hf.1 99 (by decide) (by decide))⟩
theorem mo_cong {w w1 : pm_W} {S : ab_S} (h : mo_R w S) (hc : ∀ a, 84 ≤ a → a ≤ 99 → w1.1 a = w.1 a) (hj : ∀ j, j < 25 → w1.1 83 j = w.1 83 j) : mo_R w1 S := by
  obtain ⟨h1, h2, h3, h4, h5⟩ := h
  exact ⟨mr_cong h1 (hj 6 (by decide)) (hc 84 (by decide) (by decide)) (hc 85 (by decide) (by decide)) (hc 86 (by decide) (by decide)), ml_cong h2 (hj 9 (by decide)) (hc 87 (by decide) (by decide)) (hc 88 (by decide) (by decide)), fun p hp => moA_cong (h3 p hp) (fun a q1 q2 => hc a (by omega) (by omega)), mn_cong h4 (fun j q => hj j (by omega)), mw_cong h5 (hj 24 (by decide)) (hc 99 (by decide) (by decide))⟩
/-- the blocks are unlike -/
def ab_U (l : List ab_E) : Prop := ∀ (i j : Nat) (e f : ab_E), l[i]? = some e → l[j]? = some f → e.1 = f.1 → i = j

theorem c_X5_sum (w : pm_W) {j : Nat} (hj : j < 7) : pm_C pm_L0 MX5_sum [.ref 83, .int (nI j)] w (pm_qi fun r w1 => r = ab_sm (fun p => w.1 98 (7 * p + j)) 4 ∧ w1 = w) := by
  have loop : ∀ i, i ≤ 4 → pm_R pm_L0 MX5_sum 4 [some (.ref 83), some (.int (nI j)), some (.int (ab_sm (fun p => w.1 98 (7 * p + j)) i)), some (.int (nI i))] [] w (pm_qi fun r w1 => r = ab_sm (fun p => w.1 98 (7 * p + j)) 4 ∧ w1 = w) := by
    refine up_loop 4 (fun i hi ih => ?_)
    refine pm_iload_n dX5_sum_4 rfl ?_
    refine pm_iconst (x := nI 4) dX5_sum_5 rfl ?_
    refine pm_icmp_ge (tgt := 29) dX5_sum_6 (by decide) (fun c6 => ?_) (fun c6 => ?_)
    · refine pm_iload_n dX5_sum_29 rfl ?_
      refine pm_iret dX5_sum_30 rfl ?_
      rw [nI_leI (by omega) (by omega)] at c6
      have : i = 4 := by omega
      subst this
      exact ⟨rfl, rfl⟩
    · have hlt : i < 4 := by
        rw [nI_leI (by omega) (by omega)] at c6
        omega
      refine pm_iload_n dX5_sum_9 rfl ?_
      refine pm_aload_n dX5_sum_10 rfl ?_
      refine pm_getR (ci := 5) (j := 22) (n := 39) (by first | assumption | rfl) (by decide) (by decide) rfl fl_RX5_53 rfl (by first | assumption | rfl) dX5_sum_11 ?_
      refine pm_bipush (x := nI 7) dX5_sum_14 rfl ?_
      refine pm_iload_n dX5_sum_16 rfl ?_
      refine pm_imul dX5_sum_17 ?_
      refine pm_iload_n dX5_sum_18 rfl ?_
      refine pm_iadd dX5_sum_19 ?_
      refine pm_topi (nI (7 * i + j)) (by rw [pk_mul, nI_add]) ?_
      refine pm_ialdN (by first | assumption | rfl) (by omega) (by first | decide | omega) dX5_sum_20 ?_
      refine pm_iadd dX5_sum_21 ?_
      refine pm_istore_n (lv' := [some (.ref _), some (.int _), some (.int _), some (.int _)]) dX5_sum_22 (by decide) rfl ?_
      refine pm_iinc (y := _ + 1) (lv' := [some (.ref _), some (.int _), some (.int _), some (.int _)]) dX5_sum_23 rfl rfl (by decide) rfl ?_
      refine pm_goto (tgt := 4) dX5_sum_26 (by decide) ?_
      rw [nI_1]
      exact ih hlt
  refine pm_start (lv := [some (.ref _), some (.int _), none, none]) (plainFor_of_name pf5) (Nat.le_of_ble_eq_true rfl) rfl ?_
  refine pm_iconst (x := 0) dX5_sum_0 rfl ?_
  refine pm_istore_n (lv' := [some (.ref _), some (.int _), some (.int _), none]) dX5_sum_1 (by decide) rfl ?_
  refine pm_iconst (x := 0) dX5_sum_2 rfl ?_
  refine pm_istore_n (lv' := [some (.ref _), some (.int _), some (.int _), some (.int _)]) dX5_sum_3 (by decide) rfl ?_
  exact loop 0 (Nat.zero_le _)

theorem fi_last {l : List ab_E} (hu : ab_U l) {x : Int32} {j : Nat} {e : ab_E} (hj : l[j]? = some e) (he : e.1 = x) : ab_enc (ab_fi l x) l.length = nI j := by
  have hf : ab_fi l x = j := lv_first hj (by simpa using he) (fun i f hi hf => by
    rw [beq_eq_false_iff_ne]
    intro hx
    have := hu i j f e hf hj (hx.trans he.symm)
    omega)
  rw [hf, ab_enc, if_pos (List.getElem?_eq_some_iff.mp hj).1]
theorem fi_none {l : List ab_E} {x : Int32} (h : ∀ (j : Nat) (e : ab_E), j < l.length → l[j]? = some e → ¬ e.1 = x) : ab_enc (ab_fi l x) l.length = -1 := by
  have hf : ab_fi l x = l.length := lv_none (fun j e hj he => by rw [beq_eq_false_iff_ne]; exact h j e hj he)
  rw [hf, ab_enc, if_neg (by omega)]

theorem c_X5_placeOf {w : pm_W} {l : List ab_E} (hm : mr w l) (hl : l.length ≤ 12) (hu : ab_U l) (x : Int32) : pm_C pm_L0 MX5_placeOf [.ref 83, .int x] w (pm_qi fun r w1 => r = ab_enc (ab_fi l x) l.length ∧ w1 = w) := by
  have loop : ∀ i, i ≤ l.length → ∀ o : Int32, ((o = -1 ∧ ∀ (j : Nat) (e : ab_E), j < i → l[j]? = some e → ¬ e.1 = x) ∨ ∃ (j : Nat) (e : ab_E), j < i ∧ o = nI j ∧ l[j]? = some e ∧ e.1 = x) → pm_R pm_L0 MX5_placeOf 4 [some (.ref 83), some (.int x), some (.int o), some (.int (nI i))] [] w (pm_qi fun r w1 => r = ab_enc (ab_fi l x) l.length ∧ w1 = w) := by
    refine up_loop l.length (fun i hi ih o hinv => ?_)
    refine pm_iload_n dX5_placeOf_4 rfl ?_
    refine pm_aload_n dX5_placeOf_5 rfl ?_
    refine pm_getI (ci := 5) (j := 6) (n := 39) (by first | assumption | rfl) (by decide) (by decide) rfl fl_RX5_111 rfl dX5_placeOf_6 ?_
    rw [hm.1]
    refine pm_icmp_ge (tgt := 34) dX5_placeOf_9 (by decide) (fun c9 => ?_) (fun c9 => ?_)
    · refine pm_iload_n dX5_placeOf_34 rfl ?_
      refine pm_iret dX5_placeOf_35 rfl ?_
      rw [nI_leI (by omega) (by omega)] at c9
      have hil : i = l.length := by omega
      subst hil
      refine ⟨?_, rfl⟩
      rcases hinv with ⟨h1, h2⟩ | ⟨j, f, h1, h2, h3, h4⟩
      · rw [fi_none h2]; exact h1
      · rw [fi_last hu h3 h4]; exact h2
    · have hlt : i < l.length := by
        rw [nI_leI (by omega) (by omega)] at c9
        omega
      have hei : l[i]? = some l[i] := List.getElem?_eq_getElem hlt
      generalize l[i] = e at hei
      refine pm_aload_n dX5_placeOf_12 rfl ?_
      refine pm_getR (ci := 5) (j := 3) (n := 39) (by first | assumption | rfl) (by decide) (by decide) rfl fl_RX5_7 rfl (by first | assumption | rfl) dX5_placeOf_13 ?_
      refine pm_iload_n dX5_placeOf_16 rfl ?_
      refine pm_ialdN (by first | assumption | rfl) (by omega) (by first | decide | omega) dX5_placeOf_17 ?_
      rw [(hm.2 i e hei).1]
      refine pm_iload_n dX5_placeOf_18 rfl ?_
      refine pm_icmp_ne (tgt := 26) dX5_placeOf_19 (by decide) (fun c19 => ?_) (fun c19 => ?_)
      · refine pm_iload_n dX5_placeOf_26 rfl ?_
        refine pm_istore_n (lv' := [some (.ref _), some (.int _), some (.int _), some (.int _)]) dX5_placeOf_27 (by decide) rfl ?_
        refine pm_iinc (y := _ + 1) (lv' := [some (.ref _), some (.int _), some (.int _), some (.int _)]) dX5_placeOf_28 rfl rfl (by decide) rfl ?_
        refine pm_goto (tgt := 4) dX5_placeOf_31 (by decide) ?_
        rw [nI_1]
        refine ih hlt _ ?_
        rcases hinv with ⟨h1, h2⟩ | ⟨j, f, h1, h2, h3, h4⟩
        · refine Or.inl ⟨h1, fun j f hj hf => ?_⟩
          by_cases hji : j = i
          · subst hji
            rw [hei] at hf
            cases hf
            exact c19
          · exact h2 j f (by omega) hf
        · exact Or.inr ⟨j, f, by omega, h2, h3, h4⟩
      · refine pm_iload_n dX5_placeOf_22 rfl ?_
        refine pm_goto (tgt := 27) dX5_placeOf_23 (by decide) ?_
        refine pm_istore_n (lv' := [some (.ref _), some (.int _), some (.int _), some (.int _)]) dX5_placeOf_27 (by decide) rfl ?_
        refine pm_iinc (y := _ + 1) (lv' := [some (.ref _), some (.int _), some (.int _), some (.int _)]) dX5_placeOf_28 rfl rfl (by decide) rfl ?_
        refine pm_goto (tgt := 4) dX5_placeOf_31 (by decide) ?_
        rw [nI_1]
        exact ih hlt _ (Or.inr ⟨i, e, by omega, rfl, hei, c19⟩)
  refine pm_start (lv := [some (.ref _), some (.int _), none, none]) (plainFor_of_name pf5) (Nat.le_of_ble_eq_true rfl) rfl ?_
  refine pm_iconst (x := -1) dX5_placeOf_0 rfl ?_
  refine pm_istore_n (lv' := [some (.ref _), some (.int _), some (.int _), none]) dX5_placeOf_1 (by decide) rfl ?_
  refine pm_iconst (x := 0) dX5_placeOf_2 rfl ?_
  refine pm_istore_n (lv' := [some (.ref _), some (.int _), some (.int _), some (.int _)]) dX5_placeOf_3 (by decide) rfl ?_
  exact loop 0 (Nat.zero_le _) (-1) (Or.inl ⟨rfl, fun j e hj => absurd hj (by omega)⟩)

theorem c_X5_waitOf {w : pm_W} {l : List ab_E} (hm : ml w l) (hl : l.length ≤ 16) (hu : ab_U l) (x : Int32) : pm_C pm_L0 MX5_waitOf [.ref 83, .int x] w (pm_qi fun r w1 => r = ab_enc (ab_fi l x) l.length ∧ w1 = w) := by
  have loop : ∀ i, i ≤ l.length → ∀ o : Int32, ((o = -1 ∧ ∀ (j : Nat) (e : ab_E), j < i → l[j]? = some e → ¬ e.1 = x) ∨ ∃ (j : Nat) (e : ab_E), j < i ∧ o = nI j ∧ l[j]? = some e ∧ e.1 = x) → pm_R pm_L0 MX5_waitOf 4 [some (.ref 83), some (.int x), some (.int o), some (.int (nI i))] [] w (pm_qi fun r w1 => r = ab_enc (ab_fi l x) l.length ∧ w1 = w) := by
    refine up_loop l.length (fun i hi ih o hinv => ?_)
    refine pm_iload_n dX5_waitOf_4 rfl ?_
    refine pm_aload_n dX5_waitOf_5 rfl ?_
    refine pm_getI (ci := 5) (j := 9) (n := 39) (by first | assumption | rfl) (by decide) (by decide) rfl fl_RX5_114 rfl dX5_waitOf_6 ?_
    rw [hm.1]
    refine pm_icmp_ge (tgt := 34) dX5_waitOf_9 (by decide) (fun c9 => ?_) (fun c9 => ?_)
    · refine pm_iload_n dX5_waitOf_34 rfl ?_
      refine pm_iret dX5_waitOf_35 rfl ?_
      rw [nI_leI (by omega) (by omega)] at c9
      have hil : i = l.length := by omega
      subst hil
      refine ⟨?_, rfl⟩
      rcases hinv with ⟨h1, h2⟩ | ⟨j, f, h1, h2, h3, h4⟩
      · rw [fi_none h2]; exact h1
      · rw [fi_last hu h3 h4]; exact h2
    · have hlt : i < l.length := by
        rw [nI_leI (by omega) (by omega)] at c9
        omega
      have hei : l[i]? = some l[i] := List.getElem?_eq_getElem hlt
      generalize l[i] = e at hei
      refine pm_aload_n dX5_waitOf_12 rfl ?_
      refine pm_getR (ci := 5) (j := 7) (n := 39) (by first | assumption | rfl) (by decide) (by decide) rfl fl_RX5_20 rfl (by first | assumption | rfl) dX5_waitOf_13 ?_
      refine pm_iload_n dX5_waitOf_16 rfl ?_
      refine pm_ialdN (by first | assumption | rfl) (by omega) (by first | decide | omega) dX5_waitOf_17 ?_
      rw [(hm.2 i e hei).1]
      refine pm_iload_n dX5_waitOf_18 rfl ?_
      refine pm_icmp_ne (tgt := 26) dX5_waitOf_19 (by decide) (fun c19 => ?_) (fun c19 => ?_)
      · refine pm_iload_n dX5_waitOf_26 rfl ?_
        refine pm_istore_n (lv' := [some (.ref _), some (.int _), some (.int _), some (.int _)]) dX5_waitOf_27 (by decide) rfl ?_
        refine pm_iinc (y := _ + 1) (lv' := [some (.ref _), some (.int _), some (.int _), some (.int _)]) dX5_waitOf_28 rfl rfl (by decide) rfl ?_
        refine pm_goto (tgt := 4) dX5_waitOf_31 (by decide) ?_
        rw [nI_1]
        refine ih hlt _ ?_
        rcases hinv with ⟨h1, h2⟩ | ⟨j, f, h1, h2, h3, h4⟩
        · refine Or.inl ⟨h1, fun j f hj hf => ?_⟩
          by_cases hji : j = i
          · subst hji
            rw [hei] at hf
            cases hf
            exact c19
          · exact h2 j f (by omega) hf
        · exact Or.inr ⟨j, f, by omega, h2, h3, h4⟩
      · refine pm_iload_n dX5_waitOf_22 rfl ?_
        refine pm_goto (tgt := 27) dX5_waitOf_23 (by decide) ?_
        refine pm_istore_n (lv' := [some (.ref _), some (.int _), some (.int _), some (.int _)]) dX5_waitOf_27 (by decide) rfl ?_
        refine pm_iinc (y := _ + 1) (lv' := [some (.ref _), some (.int _), some (.int _), some (.int _)]) dX5_waitOf_28 rfl rfl (by decide) rfl ?_
        refine pm_goto (tgt := 4) dX5_waitOf_31 (by decide) ?_
        rw [nI_1]
        exact ih hlt _ (Or.inr ⟨i, e, by omega, rfl, hei, c19⟩)
  refine pm_start (lv := [some (.ref _), some (.int _), none, none]) (plainFor_of_name pf5) (Nat.le_of_ble_eq_true rfl) rfl ?_
  refine pm_iconst (x := -1) dX5_waitOf_0 rfl ?_
  refine pm_istore_n (lv' := [some (.ref _), some (.int _), some (.int _), none]) dX5_waitOf_1 (by decide) rfl ?_
  refine pm_iconst (x := 0) dX5_waitOf_2 rfl ?_
  refine pm_istore_n (lv' := [some (.ref _), some (.int _), some (.int _), some (.int _)]) dX5_waitOf_3 (by decide) rfl ?_
  exact loop 0 (Nat.zero_le _) (-1) (Or.inl ⟨rfl, fun j e hj => absurd hj (by omega)⟩)

theorem c_X5_unwait {w : pm_W} {l : List ab_E} (hm : ml w l) (hl : l.length ≤ 16) {i : Nat} (hil : i < l.length) : pm_C pm_L0 MX5_unwait [.ref 83, .int (nI i)] w (pm_qv fun w1 => ml w1 (l.eraseIdx i) ∧ mfr w w1 [87, 88] [9]) := by
  obtain ⟨c, hc⟩ : ∃ c, c + 1 = l.length := ⟨l.length - 1, by omega⟩
  have loop : ∀ j, j ≤ c → i ≤ j → ∀ w1 : pm_W, w1.1 83 9 = nI c ∧ w1.1 87 = sh (w.1 87) i j ∧ w1.1 88 = sh (w.1 88) i j ∧ mfr w w1 [87, 88] [9] → pm_R pm_L0 MX5_unwait 12 [some (.ref 83), some (.int (nI i)), some (.int (nI j))] [] w1 (pm_qv fun w1 => ml w1 (l.eraseIdx i) ∧ mfr w w1 [87, 88] [9]) := by
    refine up_loop c (fun j hj ih hij w1 hw => ?_)
    obtain ⟨g0, g1, g2, gf⟩ := hw
    skip
    refine pm_iload_n dX5_unwait_12 rfl ?_
    refine pm_aload_n dX5_unwait_13 rfl ?_
    refine pm_getI (ci := 5) (j := 9) (n := 39) (by first | assumption | rfl) (by decide) (by decide) rfl fl_RX5_114 rfl dX5_unwait_14 ?_
    rw [g0]
    refine pm_icmp_ge (tgt := 54) dX5_unwait_17 (by decide) (fun c17 => ?_) (fun c17 => ?_)
    · refine pm_vret dX5_unwait_54 rfl ?_
      rw [nI_leI (by omega) (by omega)] at c17
      have hjc : j = c := by omega
      subst hjc
      refine ⟨⟨?_, fun t x hx => ?_⟩, gf⟩
      · rw [g0, List.length_eraseIdx, if_pos hil, ← hc]; rfl
      · have ht : t < j := by
          have := (List.getElem?_eq_some_iff.mp hx).1
          rw [List.length_eraseIdx, if_pos hil] at this
          omega
        rw [List.getElem?_eraseIdx] at hx
        rw [g1, g2, sh_at ht, sh_at ht]
        by_cases h9 : t < i
        · rw [if_pos h9] at hx
          simp only [if_pos h9]
          exact hm.2 t x hx
        · rw [if_neg h9] at hx
          simp only [if_neg h9]
          exact hm.2 (t + 1) x hx
    · have hlt : j < c := by
        rw [nI_leI (by omega) (by omega)] at c17
        omega
      refine pm_aload_n dX5_unwait_20 rfl ?_
      refine pm_getR (ci := 5) (j := 7) (n := 39) (by first | assumption | rfl) (by decide) (by decide) rfl fl_RX5_20 rfl (by first | assumption | rfl) dX5_unwait_21 ?_
      refine pm_iload_n dX5_unwait_24 rfl ?_
      refine pm_aload_n dX5_unwait_25 rfl ?_
      refine pm_getR (ci := 5) (j := 7) (n := 39) (by first | assumption | rfl) (by decide) (by decide) rfl fl_RX5_20 rfl (by first | assumption | rfl) dX5_unwait_26 ?_
      refine pm_iload_n dX5_unwait_29 rfl ?_
      refine pm_iconst (x := 1) dX5_unwait_30 rfl ?_
      refine pm_iadd dX5_unwait_31 ?_
      rw [nI_1]
      refine pm_ialdN (by first | assumption | rfl) (by omega) (by first | decide | omega) dX5_unwait_32 ?_
      refine pm_iastN (by first | assumption | rfl) (by omega) (by first | decide | omega) dX5_unwait_33 ?_
      refine pm_aload_n dX5_unwait_34 rfl ?_
      refine pm_getR (ci := 5) (j := 8) (n := 39) (by first | assumption | rfl) (by decide) (by decide) rfl fl_RX5_23 rfl (by first | assumption | rfl) dX5_unwait_35 ?_
      refine pm_iload_n dX5_unwait_38 rfl ?_
      refine pm_aload_n dX5_unwait_39 rfl ?_
      refine pm_getR (ci := 5) (j := 8) (n := 39) (by first | assumption | rfl) (by decide) (by decide) rfl fl_RX5_23 rfl (by first | assumption | rfl) dX5_unwait_40 ?_
      refine pm_iload_n dX5_unwait_43 rfl ?_
      refine pm_iconst (x := 1) dX5_unwait_44 rfl ?_
      refine pm_iadd dX5_unwait_45 ?_
      rw [nI_1]
      refine pm_ialdN (by first | assumption | rfl) (by omega) (by first | decide | omega) dX5_unwait_46 ?_
      refine pm_iastN (by first | assumption | rfl) (by omega) (by first | decide | omega) dX5_unwait_47 ?_
      refine pm_iinc (y := _ + 1) (lv' := [some (.ref _), some (.int _), some (.int _)]) dX5_unwait_48 rfl rfl (by decide) rfl ?_
      refine pm_goto (tgt := 12) dX5_unwait_51 (by decide) ?_
      rw [nI_1]
      refine ih hlt (by omega) _ ⟨?_, ?_, ?_, ?_⟩
      · simp [pm_s, g0]
      · rw [← sh_succ _ hij]; simp [pm_s, g1]
      · rw [← sh_succ _ hij]; simp [pm_s, g2]
      · exact mfr_c (mfr_c (gf) (by decide) (by decide) _) (by decide) (by decide) _
  refine pm_start (lv := [some (.ref _), some (.int _), none]) (plainFor_of_name pf5) (Nat.le_of_ble_eq_true rfl) rfl ?_
  refine pm_aload_n dX5_unwait_0 rfl ?_
  refine pm_dup dX5_unwait_1 rfl ?_
  refine pm_getI (ci := 5) (j := 9) (n := 39) (by first | assumption | rfl) (by decide) (by decide) rfl fl_RX5_114 rfl dX5_unwait_2 ?_
  rw [hm.1]
  refine pm_iconst (x := 1) dX5_unwait_5 rfl ?_
  refine pm_isub dX5_unwait_6 ?_
  refine pm_putI (ci := 5) (j := 9) (n := 39) (by first | assumption | rfl) (by decide) (by decide) rfl fl_RX5_114 rfl rfl dX5_unwait_7 ?_
  refine pm_iload_n dX5_unwait_10 rfl ?_
  refine pm_istore_n (lv' := [some (.ref _), some (.int _), some (.int _)]) dX5_unwait_11 (by decide) rfl ?_
  refine loop i (by omega) (Nat.le_refl _) _ ⟨?_, ?_, ?_, ?_⟩
  · rw [pm_s_at, pk_us, ← hc]; exact nI_pred c
  · rw [sh_0]; simp [pm_s]
  · rw [sh_0]; simp [pm_s]
  · exact mfr_j (mfr_rf _ _ _) (by decide) _

theorem c_X5_drop {w : pm_W} {l : List ab_E} (hm : mr w l) (hl : l.length ≤ 12) (hz : ∀ e ∈ l, e.2.2 = 0 ∨ e.2.2 = 1) {i : Nat} (hil : i < l.length) : pm_C pm_L0 MX5_drop [.ref 83, .int (nI i)] w (pm_qv fun w1 => mr w1 (l.eraseIdx i) ∧ mfr w w1 [84, 85, 86] [6]) := by
  obtain ⟨c, hc⟩ : ∃ c, c + 1 = l.length := ⟨l.length - 1, by omega⟩
  have hzz : ∀ (w1 : pm_W) (j : Nat), w1.1 86 = sh (w.1 86) i j → j ≤ c → ∀ t, t ≤ c → w1.1 86 t = 0 ∨ w1.1 86 t = 1 := by
    intro w1 j hg hj t ht
    have key : ∀ u, u ≤ c → w.1 86 u = 0 ∨ w.1 86 u = 1 := fun u hu => by
      have he := List.getElem?_eq_getElem (show u < l.length by omega)
      rw [(hm.2 u _ he).2.2]
      exact hz _ (List.getElem_mem _)
    rw [hg, sh]
    split
    next h => exact key (t + 1) (by omega)
    next h => exact key t ht
  have loop : ∀ j, j ≤ c → i ≤ j → ∀ w1 : pm_W, w1.1 83 6 = nI c ∧ w1.1 84 = sh (w.1 84) i j ∧ w1.1 85 = sh (w.1 85) i j ∧ w1.1 86 = sh (w.1 86) i j ∧ mfr w w1 [84, 85, 86] [6] → pm_R pm_L0 MX5_drop 12 [some (.ref 83), some (.int (nI i)), some (.int (nI j))] [] w1 (pm_qv fun w1 => mr w1 (l.eraseIdx i) ∧ mfr w w1 [84, 85, 86] [6]) := by
    refine up_loop c (fun j hj ih hij w1 hw => ?_)
    obtain ⟨g0, g1, g2, g3, gf⟩ := hw
    have hz6 : ∀ (t : Nat), t ≤ c → w1.1 86 t = 0 ∨ w1.1 86 t = 1 := hzz w1 j g3 (by omega)
    refine pm_iload_n dX5_drop_12 rfl ?_
    refine pm_aload_n dX5_drop_13 rfl ?_
    refine pm_getI (ci := 5) (j := 6) (n := 39) (by first | assumption | rfl) (by decide) (by decide) rfl fl_RX5_111 rfl dX5_drop_14 ?_
    rw [g0]
    refine pm_icmp_ge (tgt := 68) dX5_drop_17 (by decide) (fun c17 => ?_) (fun c17 => ?_)
    · refine pm_vret dX5_drop_68 rfl ?_
      rw [nI_leI (by omega) (by omega)] at c17
      have hjc : j = c := by omega
      subst hjc
      refine ⟨⟨?_, fun t x hx => ?_⟩, gf⟩
      · rw [g0, List.length_eraseIdx, if_pos hil, ← hc]; rfl
      · have ht : t < j := by
          have := (List.getElem?_eq_some_iff.mp hx).1
          rw [List.length_eraseIdx, if_pos hil] at this
          omega
        rw [List.getElem?_eraseIdx] at hx
        rw [g1, g2, g3, sh_at ht, sh_at ht, sh_at ht]
        by_cases h9 : t < i
        · rw [if_pos h9] at hx
          simp only [if_pos h9]
          exact hm.2 t x hx
        · rw [if_neg h9] at hx
          simp only [if_neg h9]
          exact hm.2 (t + 1) x hx
    · have hlt : j < c := by
        rw [nI_leI (by omega) (by omega)] at c17
        omega
      refine pm_aload_n dX5_drop_20 rfl ?_
      refine pm_getR (ci := 5) (j := 3) (n := 39) (by first | assumption | rfl) (by decide) (by decide) rfl fl_RX5_7 rfl (by first | assumption | rfl) dX5_drop_21 ?_
      refine pm_iload_n dX5_drop_24 rfl ?_
      refine pm_aload_n dX5_drop_25 rfl ?_
      refine pm_getR (ci := 5) (j := 3) (n := 39) (by first | assumption | rfl) (by decide) (by decide) rfl fl_RX5_7 rfl (by first | assumption | rfl) dX5_drop_26 ?_
      refine pm_iload_n dX5_drop_29 rfl ?_
      refine pm_iconst (x := 1) dX5_drop_30 rfl ?_
      refine pm_iadd dX5_drop_31 ?_
      rw [nI_1]
      refine pm_ialdN (by first | assumption | rfl) (by omega) (by first | decide | omega) dX5_drop_32 ?_
      refine pm_iastN (by first | assumption | rfl) (by omega) (by first | decide | omega) dX5_drop_33 ?_
      refine pm_aload_n dX5_drop_34 rfl ?_
      refine pm_getR (ci := 5) (j := 4) (n := 39) (by first | assumption | rfl) (by decide) (by decide) rfl fl_RX5_13 rfl (by first | assumption | rfl) dX5_drop_35 ?_
      refine pm_iload_n dX5_drop_38 rfl ?_
      refine pm_aload_n dX5_drop_39 rfl ?_
      refine pm_getR (ci := 5) (j := 4) (n := 39) (by first | assumption | rfl) (by decide) (by decide) rfl fl_RX5_13 rfl (by first | assumption | rfl) dX5_drop_40 ?_
      refine pm_iload_n dX5_drop_43 rfl ?_
      refine pm_iconst (x := 1) dX5_drop_44 rfl ?_
      refine pm_iadd dX5_drop_45 ?_
      rw [nI_1]
      refine pm_ialdN (by first | assumption | rfl) (by omega) (by first | decide | omega) dX5_drop_46 ?_
      refine pm_iastN (by first | assumption | rfl) (by omega) (by first | decide | omega) dX5_drop_47 ?_
      refine pm_aload_n dX5_drop_48 rfl ?_
      refine pm_getR (ci := 5) (j := 5) (n := 39) (by first | assumption | rfl) (by decide) (by decide) rfl fl_RX5_16 rfl (by first | assumption | rfl) dX5_drop_49 ?_
      refine pm_iload_n dX5_drop_52 rfl ?_
      refine pm_aload_n dX5_drop_53 rfl ?_
      refine pm_getR (ci := 5) (j := 5) (n := 39) (by first | assumption | rfl) (by decide) (by decide) rfl fl_RX5_16 rfl (by first | assumption | rfl) dX5_drop_54 ?_
      refine pm_iload_n dX5_drop_57 rfl ?_
      refine pm_iconst (x := 1) dX5_drop_58 rfl ?_
      refine pm_iadd dX5_drop_59 ?_
      rw [nI_1]
      refine pm_zaldN (by first | assumption | rfl) (by omega) (by first | decide | omega) dX5_drop_60 ?_
      refine pm_zastN (by first | assumption | rfl) (by omega) (by first | decide | omega) (by first | exact hz6 _ (by omega) | (simp only [pm_s]; exact hz6 _ (by omega))) dX5_drop_61 ?_
      refine pm_iinc (y := _ + 1) (lv' := [some (.ref _), some (.int _), some (.int _)]) dX5_drop_62 rfl rfl (by decide) rfl ?_
      refine pm_goto (tgt := 12) dX5_drop_65 (by decide) ?_
      rw [nI_1]
      refine ih hlt (by omega) _ ⟨?_, ?_, ?_, ?_, ?_⟩
      · simp [pm_s, g0]
      · rw [← sh_succ _ hij]; simp [pm_s, g1]
      · rw [← sh_succ _ hij]; simp [pm_s, g2]
      · rw [← sh_succ _ hij]; simp [pm_s, g3]
      · exact mfr_c (mfr_c (mfr_c (gf) (by decide) (by decide) _) (by decide) (by decide) _) (by decide) (by decide) _
  refine pm_start (lv := [some (.ref _), some (.int _), none]) (plainFor_of_name pf5) (Nat.le_of_ble_eq_true rfl) rfl ?_
  refine pm_aload_n dX5_drop_0 rfl ?_
  refine pm_dup dX5_drop_1 rfl ?_
  refine pm_getI (ci := 5) (j := 6) (n := 39) (by first | assumption | rfl) (by decide) (by decide) rfl fl_RX5_111 rfl dX5_drop_2 ?_
  rw [hm.1]
  refine pm_iconst (x := 1) dX5_drop_5 rfl ?_
  refine pm_isub dX5_drop_6 ?_
  refine pm_putI (ci := 5) (j := 6) (n := 39) (by first | assumption | rfl) (by decide) (by decide) rfl fl_RX5_111 rfl rfl dX5_drop_7 ?_
  refine pm_iload_n dX5_drop_10 rfl ?_
  refine pm_istore_n (lv' := [some (.ref _), some (.int _), some (.int _)]) dX5_drop_11 (by decide) rfl ?_
  refine loop i (by omega) (Nat.le_refl _) _ ⟨?_, ?_, ?_, ?_, ?_⟩
  · rw [pm_s_at, pk_us, ← hc]; exact nI_pred c
  · rw [sh_0]; simp [pm_s]
  · rw [sh_0]; simp [pm_s]
  · rw [sh_0]; simp [pm_s]
  · exact mfr_j (mfr_rf _ _ _) (by decide) _

