/-- an entry of the room or of the line: block, asker, fresh -/
abbrev ab_E : Type := Int32 × Nat × Int32
def ab_cnt (l : List ab_E) (p : Nat) : Nat := l.countP (fun e => e.2.1 == p)
def ab_enc (i n : Nat) : Int32 := if i < n then nI i else -1
def ab_fi (l : List ab_E) (x : Int32) : Nat := l.findIdx (fun e => e.1 == x)
/-- a Held at the cell k, with rows of n -/
def hd_ok (L : pm_L) (k n : Nat) : Prop := L.1 k = (2, 5) ∧ L.2 k 0 = some (k + 2) ∧ L.2 k 1 = some (k + 3) ∧ L.2 k 2 = some (k + 4) ∧ L.2 k 3 = some (k + 1) ∧ L.1 (k + 1) = (10, 4) ∧ L.1 (k + 2) = (10, n) ∧ L.1 (k + 3) = (10, n) ∧ L.1 (k + 4) = (10, n)
/-- it holds the entries l -/
def hd_R (w : pm_W) (k : Nat) (l : List ab_E) : Prop := w.1 k 4 = nI l.length ∧ (∀ (i : Nat) (e : ab_E), l[i]? = some e → w.1 (k + 2) i = e.1 ∧ w.1 (k + 3) i = nI e.2.1 ∧ w.1 (k + 4) i = e.2.2) ∧ ∀ p, p < 4 → w.1 (k + 1) p = nI (ab_cnt l p)
theorem hd_R_cong {w w' : pm_W} {k : Nat} {l : List ab_E} (h : hd_R w k l) (e : ∀ a, k ≤ a → a < k + 5 → w'.1 a = w.1 a) : hd_R w' k l := by
  obtain ⟨h1, h2, h3⟩ := h
  exact ⟨by rw [e k (by omega) (by omega)]; exact h1, fun i x he => by rw [e (k + 2) (by omega) (by omega), e (k + 3) (by omega) (by omega), e (k + 4) (by omega) (by omega)]; exact h2 i x he, fun p hp => by rw [e (k + 1) (by omega) (by omega)]; exact h3 p hp⟩
/-- nothing but the cells from lo to hi is changed, and no long -/
def fr_out (w w1 : pm_W) (lo hi : Nat) : Prop := (∀ a, (a < lo ∨ hi ≤ a) → w1.1 a = w.1 a) ∧ w1.2 = w.2
theorem fr_rf (w : pm_W) (lo hi : Nat) : fr_out w w lo hi := ⟨fun _ _ => rfl, rfl⟩
theorem fr_tr {w w1 w2 : pm_W} {lo hi : Nat} (h1 : fr_out w w1 lo hi) (h2 : fr_out w1 w2 lo hi) : fr_out w w2 lo hi := ⟨fun a h => (h2.1 a h).trans (h1.1 a h), h2.2.trans h1.2⟩
theorem fr_wd {w w1 : pm_W} {lo hi lo' hi' : Nat} (h : fr_out w w1 lo hi) (h1 : lo' ≤ lo) (h2 : hi ≤ hi') : fr_out w w1 lo' hi' := ⟨fun a q => h.1 a (by omega), h.2⟩
theorem fr_s {w : pm_W} {lo hi k : Nat} {f : Nat → Int32} (h1 : lo ≤ k) (h2 : k < hi) : fr_out w (pm_s w k f) lo hi := ⟨fun a q => pm_s_ne (by omega), rfl⟩
theorem fr_st {w w1 : pm_W} {lo hi k : Nat} {f : Nat → Int32} (h : fr_out w w1 lo hi) (h1 : lo ≤ k) (h2 : k < hi) : fr_out w (pm_s w1 k f) lo hi := fr_tr h (fr_s h1 h2)
theorem cnt_nil (p : Nat) : ab_cnt [] p = 0 := rfl
theorem cnt_add (l : List ab_E) (e : ab_E) (p : Nat) : ab_cnt (l ++ [e]) p = ab_cnt l p + if e.2.1 = p then 1 else 0 := by
  unfold ab_cnt
  rw [List.countP_append, List.countP_singleton]
  simp
theorem cnt_rem {l : List ab_E} {i : Nat} {e : ab_E} (h : l[i]? = some e) (p : Nat) : ab_cnt (l.eraseIdx i) p + (if e.2.1 = p then 1 else 0) = ab_cnt l p := by
  unfold ab_cnt
  have hl : i < l.length := (List.getElem?_eq_some_iff.mp h).1
  have e1 : l = l.take i ++ e :: l.drop (i + 1) := by
    have : l[i] = e := (List.getElem?_eq_some_iff.mp h).2
    rw [← this, List.getElem_cons_drop, List.take_append_drop]
  rw [List.eraseIdx_eq_take_drop_succ, List.countP_append]
  conv => rhs; rw [e1, List.countP_append, List.countP_cons]
  simp only [beq_iff_eq]
  omega
theorem cnt_le (l : List ab_E) (p : Nat) : ab_cnt l p ≤ l.length := List.countP_le_length
/-- the nearest to the arm, of two the lesser -/
def ab_nr (l : List ab_E) (arm : Int32) : Nat → Option Nat
  | 0 => none
  | n + 1 => match ab_nr l arm n with
    | none => some n
    | some k => if ab_abs ((l.getD n (0, 0, 0)).1 - arm) < ab_abs ((l.getD k (0, 0, 0)).1 - arm) ∨ (ab_abs ((l.getD n (0, 0, 0)).1 - arm) = ab_abs ((l.getD k (0, 0, 0)).1 - arm) ∧ (l.getD n (0, 0, 0)).1 < (l.getD k (0, 0, 0)).1) then some n else some k
theorem ab_nr_lt {l : List ab_E} {arm : Int32} : ∀ {n k : Nat}, ab_nr l arm n = some k → k < n
  | 0, k, h => by cases h
  | n + 1, k, h => by
    unfold ab_nr at h
    split at h
    next => cases h; omega
    next j hj =>
      have := ab_nr_lt hj
      split at h <;> (cases h; omega)
theorem ab_nr_none {l : List ab_E} {arm : Int32} : ∀ {n : Nat}, ab_nr l arm n = none → n = 0
  | 0, _ => rfl
  | n + 1, h => by
    unfold ab_nr at h
    split at h
    next => cases h
    next j hj => split at h <;> cases h
def ab_eo : Option Nat → Int32
  | none => -1
  | some k => nI k

theorem c_X2_find {L : pm_L} {k n : Nat} (hk : hd_ok L k n) (hn : n ≤ 16) {w : pm_W} {l : List ab_E} (hR : hd_R w k l) (hl : l.length ≤ n) (x : Int32) : pm_C L MX2_find [.ref k, .int x] w (pm_qi fun r w1 => r = ab_enc (ab_fi l x) l.length ∧ w1 = w) := by
  obtain ⟨e1, e2, e3, e4, e5, e6, e7, e8, e9⟩ := hk
  obtain ⟨h1, h2, h3⟩ := hR
  have loop : ∀ i, i ≤ l.length → (∀ (j : Nat) (e : ab_E), j < i → l[j]? = some e → ¬ e.1 = x) → pm_R L MX2_find 2 [some (.ref k), some (.int x), some (.int (nI i))] [] w (pm_qi fun r w1 => r = ab_enc (ab_fi l x) l.length ∧ w1 = w) := by
    refine up_loop l.length (fun i hi ih hno => ?_)
    refine pm_iload_n dX2_find_2 rfl ?_
    refine pm_aload_n dX2_find_3 rfl ?_
    refine pm_getI (ci := 2) (j := 4) (n := 5) (by first | assumption | rfl) (by decide) (by decide) rfl fl_RX2_15 rfl dX2_find_4 ?_
    rw [h1]
    refine pm_icmp_ge (tgt := 28) dX2_find_7 (by decide) (fun c7 => ?_) (fun c7 => ?_)
    · refine pm_iconst (x := -1) dX2_find_28 rfl ?_
      refine pm_iret dX2_find_29 rfl ?_
      rw [nI_leI (by omega) (by omega)] at c7
      refine ⟨?_, rfl⟩
      rw [ab_enc, if_neg]
      intro hlt
      have := List.findIdx_getElem (w := hlt)
      simp at this
      exact hno _ _ (by omega) (List.getElem?_eq_getElem hlt) this
    · have hlt : i < l.length := by
        rw [nI_leI (by omega) (by omega)] at c7
        omega
      refine pm_aload_n dX2_find_10 rfl ?_
      refine pm_getR (ci := 2) (j := 0) (n := 5) (by first | assumption | rfl) (by decide) (by decide) rfl fl_RX2_19 rfl (by first | assumption | rfl) dX2_find_11 ?_
      refine pm_iload_n dX2_find_14 rfl ?_
      refine pm_ialdN (by first | assumption | rfl) (by omega) (by first | decide | omega) dX2_find_15 ?_
      rw [(h2 i _ (List.getElem?_eq_getElem hlt)).1]
      refine pm_iload_n dX2_find_16 rfl ?_
      refine pm_icmp_ne (tgt := 22) dX2_find_17 (by decide) (fun c17 => ?_) (fun c17 => ?_)
      · refine pm_iinc (y := _ + 1) (lv' := [some (.ref _), some (.int _), some (.int _)]) dX2_find_22 rfl rfl (by decide) rfl ?_
        refine pm_goto (tgt := 2) dX2_find_25 (by decide) ?_
        rw [nI_1]
        refine ih hlt (fun j e hj he => ?_)
        by_cases hji : j = i
        · subst hji
          rw [List.getElem?_eq_getElem hlt] at he
          cases he
          exact c17
        · exact hno j e (by omega) he
      · refine pm_iload_n dX2_find_20 rfl ?_
        refine pm_iret dX2_find_21 rfl ?_
        refine ⟨?_, rfl⟩
        have : ab_fi l x = i := by
          unfold ab_fi
          rw [List.findIdx_eq hlt]
          refine ⟨by simpa using c17, fun j hj => ?_⟩
          have := hno j _ hj (List.getElem?_eq_getElem (by omega))
          simpa using this
        rw [this, ab_enc, if_pos hlt]
  refine pm_start (lv := [some (.ref _), some (.int _), none]) (plainFor_of_name pf2) (Nat.le_of_ble_eq_true rfl) rfl ?_
  refine pm_iconst (x := 0) dX2_find_0 rfl ?_
  refine pm_istore_n (lv' := [some (.ref _), some (.int _), some (.int _)]) dX2_find_1 (by decide) rfl ?_
  exact loop 0 (Nat.zero_le _) (fun j e hj => absurd hj (by omega))

set_option maxRecDepth 4000 in
theorem c_X2_hasPlace {L : pm_L} {k n : Nat} (hk : hd_ok L k n) (hn : n ≤ 16) {w : pm_W} {l : List ab_E} (hR : hd_R w k l) (hl : l.length ≤ n) : pm_C L MX2_hasPlace [.ref k] w (pm_qi fun r w1 => r = pm_z (decide (l.length < n)) ∧ w1 = w) := by
  obtain ⟨e1, e2, e3, e4, e5, e6, e7, e8, e9⟩ := hk
  obtain ⟨h1, h2, h3⟩ := hR
  refine pm_start (lv := [some (.ref _)]) (plainFor_of_name pf2) (Nat.le_of_ble_eq_true rfl) rfl ?_
  refine pm_aload_n dX2_hasPlace_0 rfl ?_
  refine pm_getI (ci := 2) (j := 4) (n := 5) (by first | assumption | rfl) (by decide) (by decide) rfl fl_RX2_15 rfl dX2_hasPlace_1 ?_
  refine pm_aload_n dX2_hasPlace_4 rfl ?_
  refine pm_getR (ci := 2) (j := 0) (n := 5) (by first | assumption | rfl) (by decide) (by decide) rfl fl_RX2_19 rfl (by first | assumption | rfl) dX2_hasPlace_5 ?_
  refine pm_alenI (by first | assumption | rfl) dX2_hasPlace_8 ?_
  rw [h1]
  refine pm_icmp_ge (tgt := 16) dX2_hasPlace_9 (by decide) (fun c9 => ?_) (fun c9 => ?_)
  · refine pm_iconst (x := 0) dX2_hasPlace_16 rfl ?_
    refine pm_zret dX2_hasPlace_17 rfl (by first | exact Or.inl rfl | exact Or.inr rfl | assumption) ?_
    rw [show Int32.ofNat n = nI n from rfl, nI_leI (by omega) (by omega)] at c9
    exact ⟨by rw [decide_eq_false (by omega)]; rfl, rfl⟩
  · refine pm_iconst (x := 1) dX2_hasPlace_12 rfl ?_
    refine pm_goto (tgt := 17) dX2_hasPlace_13 (by decide) ?_
    refine pm_zret dX2_hasPlace_17 rfl (by first | exact Or.inl rfl | exact Or.inr rfl | assumption) ?_
    rw [show Int32.ofNat n = nI n from rfl, nI_leI (by omega) (by omega)] at c9
    exact ⟨by rw [decide_eq_true (by omega)]; rfl, rfl⟩

set_option maxRecDepth 4000 in
theorem c_X2_empty {L : pm_L} {k n : Nat} (hk : hd_ok L k n) (w : pm_W) : pm_C L MX2_empty [.ref k] w (pm_qv fun w1 => hd_R w1 k [] ∧ fr_out w w1 k (k + 5)) := by
  obtain ⟨e1, e2, e3, e4, e5, e6, e7, e8, e9⟩ := hk
  refine pm_start (lv := [some (.ref _)]) (plainFor_of_name pf2) (Nat.le_of_ble_eq_true rfl) rfl ?_
  refine pm_aload_n dX2_empty_0 rfl ?_
  refine pm_iconst (x := 0) dX2_empty_1 rfl ?_
  refine pm_putI (ci := 2) (j := 4) (n := 5) (by first | assumption | rfl) (by decide) (by decide) rfl fl_RX2_15 rfl rfl dX2_empty_2 ?_
  refine pm_aload_n dX2_empty_5 rfl ?_
  refine pm_getR (ci := 2) (j := 3) (n := 5) (by first | assumption | rfl) (by decide) (by decide) rfl fl_RX2_9 rfl (by first | assumption | rfl) dX2_empty_6 ?_
  refine pm_iconst (x := 0) dX2_empty_9 rfl ?_
  refine pm_cSv (as := [.ref _, .int _]) ml_RX2_28 (by decide) (by decide) dX2_empty_10 (c_J7_fill_53178 (n := 4) (by assumption) (by decide) _ _) (fun w1 hq => ?_)
  subst hq
  refine pm_vret dX2_empty_13 rfl ?_
  refine ⟨⟨?_, fun i e h => by simp at h, fun p hp => ?_⟩, fr_st (fr_s (by omega) (by omega)) (by omega) (by omega)⟩
  · simp [pm_s, upd, nI_0]
  · simp [pm_s, fl, hp, ab_cnt, nI_0]

set_option maxRecDepth 4000 in
theorem c_X2_add {L : pm_L} {k n : Nat} (hk : hd_ok L k n) (hn : n ≤ 16) {w : pm_W} {l : List ab_E} (hR : hd_R w k l) (hl : l.length ≤ n) (hlt : l.length < n) (b : Int32) {p : Nat} (hp : p < 4) (f : Int32) : pm_C L MX2_add [.ref k, .int b, .int (nI p), .int f] w (pm_qv fun w1 => hd_R w1 k (l ++ [(b, p, f)]) ∧ fr_out w w1 k (k + 5)) := by
  obtain ⟨e1, e2, e3, e4, e5, e6, e7, e8, e9⟩ := hk
  obtain ⟨h1, h2, h3⟩ := hR
  refine pm_start (lv := [some (.ref _), some (.int _), some (.int _), some (.int _)]) (plainFor_of_name pf2) (Nat.le_of_ble_eq_true rfl) rfl ?_
  refine pm_aload_n dX2_add_0 rfl ?_
  refine pm_getR (ci := 2) (j := 0) (n := 5) (by first | assumption | rfl) (by decide) (by decide) rfl fl_RX2_19 rfl (by first | assumption | rfl) dX2_add_1 ?_
  refine pm_aload_n dX2_add_4 rfl ?_
  refine pm_getI (ci := 2) (j := 4) (n := 5) (by first | assumption | rfl) (by decide) (by decide) rfl fl_RX2_15 rfl dX2_add_5 ?_
  rw [h1]
  refine pm_iload_n dX2_add_8 rfl ?_
  refine pm_iastN (by first | assumption | rfl) (by omega) (by first | decide | omega) dX2_add_9 ?_
  refine pm_aload_n dX2_add_10 rfl ?_
  refine pm_getR (ci := 2) (j := 1) (n := 5) (by first | assumption | rfl) (by decide) (by decide) rfl fl_RX2_22 rfl (by first | assumption | rfl) dX2_add_11 ?_
  refine pm_aload_n dX2_add_14 rfl ?_
  refine pm_getI (ci := 2) (j := 4) (n := 5) (by first | assumption | rfl) (by decide) (by decide) rfl fl_RX2_15 rfl dX2_add_15 ?_
  rw [show (pm_s w (k + 2) (upd (w.1 (k + 2)) l.length b)).1 k 4 = nI l.length by rw [pm_s_ne (by omega)]; exact h1]
  refine pm_iload_n dX2_add_18 rfl ?_
  refine pm_iastN (by first | assumption | rfl) (by omega) (by first | decide | omega) dX2_add_19 ?_
  refine pm_aload_n dX2_add_20 rfl ?_
  refine pm_getR (ci := 2) (j := 2) (n := 5) (by first | assumption | rfl) (by decide) (by decide) rfl fl_RX2_25 rfl (by first | assumption | rfl) dX2_add_21 ?_
  refine pm_aload_n dX2_add_24 rfl ?_
  refine pm_getI (ci := 2) (j := 4) (n := 5) (by first | assumption | rfl) (by decide) (by decide) rfl fl_RX2_15 rfl dX2_add_25 ?_
  rw [show (pm_s (pm_s w (k + 2) (upd (w.1 (k + 2)) l.length b)) (k + 3) (upd ((pm_s w (k + 2) (upd (w.1 (k + 2)) l.length b)).1 (k + 3)) l.length (nI p))).1 k 4 = nI l.length by rw [pm_s_ne (by omega), pm_s_ne (by omega)]; exact h1]
  refine pm_iload_n dX2_add_28 rfl ?_
  refine pm_iastN (by first | assumption | rfl) (by omega) (by first | decide | omega) dX2_add_29 ?_
  refine pm_aload_n dX2_add_30 rfl ?_
  refine pm_dup dX2_add_31 rfl ?_
  refine pm_getI (ci := 2) (j := 4) (n := 5) (by first | assumption | rfl) (by decide) (by decide) rfl fl_RX2_15 rfl dX2_add_32 ?_
  refine pm_iconst (x := 1) dX2_add_35 rfl ?_
  refine pm_iadd dX2_add_36 ?_
  refine pm_putI (ci := 2) (j := 4) (n := 5) (by first | assumption | rfl) (by decide) (by decide) rfl fl_RX2_15 rfl rfl dX2_add_37 ?_
  refine pm_aload_n dX2_add_40 rfl ?_
  refine pm_getR (ci := 2) (j := 3) (n := 5) (by first | assumption | rfl) (by decide) (by decide) rfl fl_RX2_9 rfl (by first | assumption | rfl) dX2_add_41 ?_
  refine pm_iload_n dX2_add_44 rfl ?_
  refine pm_dup2 dX2_add_45 rfl rfl ?_
  refine pm_ialdN (by first | assumption | rfl) (by omega) (by first | decide | omega) dX2_add_46 ?_
  refine pm_iconst (x := 1) dX2_add_47 rfl ?_
  refine pm_iadd dX2_add_48 ?_
  refine pm_iastN (by first | assumption | rfl) (by omega) (by first | decide | omega) dX2_add_49 ?_
  refine pm_vret dX2_add_50 rfl ?_
  refine ⟨⟨?_, fun i e he => ?_, fun q hq => ?_⟩, fr_st (fr_st (fr_st (fr_st (fr_s (by omega) (by omega)) (by omega) (by omega)) (by omega) (by omega)) (by omega) (by omega)) (by omega) (by omega)⟩
  · simp [pm_s, upd, h1, nI_1]
  · by_cases hi : i < l.length
    · rw [List.getElem?_append_left hi] at he
      obtain ⟨q1, q2, q3⟩ := h2 i e he
      have : i ≠ l.length := by omega
      simp [pm_s, upd, this, q1, q2, q3]
    · have hi2 : i = l.length := by
        have := (List.getElem?_eq_some_iff.mp he).1
        simp at this
        omega
      subst hi2
      simp at he
      subst he
      simp [pm_s, upd]
  · rw [cnt_add]
    have := h3 q hq
    by_cases hqp : p = q
    · subst hqp
      simp [pm_s, upd, this, nI_1]
    · have h9 : q ≠ p := fun e => hqp e.symm
      simp [pm_s, upd, this, hqp, h9]

