/-- no block twice -/
def ab_J (S : ab_S) : Prop := ab_U S.1 ∧ ab_U S.2.1 ∧ ∀ e ∈ S.1, ∀ f ∈ S.2.1, ¬ e.1 = f.1
theorem U_add {l : List ab_E} (h : ab_U l) {x : ab_E} (hx : ∀ e ∈ l, ¬ e.1 = x.1) : ab_U (l ++ [x]) := by
  intro i j e f hi hj hef
  by_cases h1 : i < l.length
  · rw [List.getElem?_append_left h1] at hi
    by_cases h2 : j < l.length
    · rw [List.getElem?_append_left h2] at hj
      exact h i j e f hi hj hef
    · rw [List.getElem?_append_right (by omega)] at hj
      have := List.mem_singleton.mp (List.mem_of_getElem? hj)
      subst this
      exact absurd hef (hx e (List.mem_of_getElem? hi))
  · have hl := (List.getElem?_eq_some_iff.mp hi).1
    rw [List.length_append, List.length_singleton] at hl
    rw [List.getElem?_append_right (by omega)] at hi
    have := List.mem_singleton.mp (List.mem_of_getElem? hi)
    subst this
    by_cases h2 : j < l.length
    · rw [List.getElem?_append_left h2] at hj
      exact absurd hef.symm (hx f (List.mem_of_getElem? hj))
    · have hl2 := (List.getElem?_eq_some_iff.mp hj).1
      rw [List.length_append, List.length_singleton] at hl2
      omega
theorem U_rem {l : List ab_E} (h : ab_U l) (k : Nat) : ab_U (l.eraseIdx k) := by
  intro i j e f hi hj hef
  rw [List.getElem?_eraseIdx] at hi hj
  by_cases h1 : i < k
  · rw [if_pos h1] at hi
    by_cases h2 : j < k
    · rw [if_pos h2] at hj; exact h i j e f hi hj hef
    · rw [if_neg h2] at hj; have := h i (j + 1) e f hi hj hef; omega
  · rw [if_neg h1] at hi
    by_cases h2 : j < k
    · rw [if_pos h2] at hj; have := h (i + 1) j e f hi hj hef; omega
    · rw [if_neg h2] at hj; have := h (i + 1) (j + 1) e f hi hj hef; omega
theorem rem_no {l : List ab_E} (h : ab_U l) {k : Nat} {e : ab_E} (hk : l[k]? = some e) : ∀ f ∈ l.eraseIdx k, ¬ f.1 = e.1 := by
  intro f hf hef
  obtain ⟨j, hj⟩ := List.getElem?_of_mem hf
  rw [List.getElem?_eraseIdx] at hj
  by_cases h2 : j < k
  · rw [if_pos h2] at hj; have := h j k f e hj hk hef; omega
  · rw [if_neg h2] at hj; have := h (j + 1) k f e hj hk hef; omega
theorem fi_len {l : List ab_E} {b : Int32} (h : ¬ ab_fi l b < l.length) : ∀ e ∈ l, ¬ e.1 = b := by
  have h1 : ab_fi l b = l.length := by have := fi_le l b; omega
  unfold ab_fi at h1
  rw [List.findIdx_eq_length] at h1
  intro e he
  have := h1 e he
  simpa using this
theorem fi_at {l : List ab_E} {b : Int32} (h : ab_fi l b < l.length) : (l.getD (ab_fi l b) (0, 0, 0)).1 = b := by
  have h2 := List.findIdx_getElem (w := h)
  rw [List.getD_eq_getElem?_getD, List.getElem?_eq_getElem h]
  simp only [beq_iff_eq] at h2
  exact h2
theorem J_serve {S : ab_S} (h : ab_J S) {b : Int32} (p : Nat) (f : Int32) (h1 : ∀ e ∈ S.1, ¬ e.1 = b) (h2 : ∀ e ∈ S.2.1, ¬ e.1 = b) : ab_J (ab_serve S b p f).1 := by
  obtain ⟨u1, u2, u3⟩ := h
  have dj : ∀ (l : List ab_E), (∀ e ∈ l, e ∈ S.1) → ∀ e ∈ l ++ [(b, p, f)], ∀ x ∈ S.2.1, ¬ e.1 = x.1 := by
    intro l hl e he x hx
    rcases List.mem_append.mp he with he | he
    · exact u3 e (hl e he) x hx
    · rw [List.mem_singleton.mp he]; exact fun q => h2 x hx q.symm
  unfold ab_serve
  split
  · exact ⟨U_add u1 h1, u2, dj _ (fun _ h => h)⟩
  · split
    · exact ⟨U_add (U_rem u1 _) (fun e he => h1 e (List.mem_of_mem_eraseIdx he)), u2, dj _ (fun _ h => List.mem_of_mem_eraseIdx h)⟩
    · exact ⟨u1, u2, u3⟩
theorem J_sv : ∀ (n : Nat) {S : ab_S}, ab_J S → ab_J (ab_sv n S).1
  | 0, S, h => h
  | n + 1, S, h => by
    unfold ab_sv
    split
    next => exact h
    next k hk =>
      obtain ⟨u1, u2, u3⟩ := h
      have hk2 := ab_nr_lt hk
      have hei := at_getD hk2
      have hJ : ab_J (S.1, S.2.1.eraseIdx k, va_up S.2.2.1 (S.2.1.getD k (0, 0, 0)).2.1 (ab_inc (S.2.2.1 (S.2.1.getD k (0, 0, 0)).2.1) 3), S.2.2.2.1, S.2.2.2.2) := ⟨u1, U_rem u2 _, fun e he f hf => u3 e he f (List.mem_of_mem_eraseIdx hf)⟩
      have hV := J_serve hJ (b := (S.2.1.getD k (0, 0, 0)).1) (S.2.1.getD k (0, 0, 0)).2.1 1 (fun e he => u3 e he _ (List.mem_of_getElem? hei)) (rem_no u2 hei)
      exact J_sv n hV
theorem J_tick {S : ab_S} (h : ab_J S) (n : Nat) : ab_J (ab_tick S n none).1 := J_sv n (S := ab_tk S) h
theorem J_tickD {S : ab_S} (h : ab_J S) (n : Nat) {b : Int32} (p : Nat) (h1 : ∀ e ∈ S.1, ¬ e.1 = b) (h2 : ∀ e ∈ S.2.1, ¬ e.1 = b) : ab_J (ab_tick S n (some (b, p))).1 := J_sv (n - 1) (J_serve (S := ab_tk S) h p 0 h1 h2)
theorem J_dem {S : ab_S} (h : ab_J S) (p : Nat) (b : Int32) : ab_J (ab_dem S p b) ∧ ∀ e ∈ (ab_dem S p b).2.1, ¬ e.1 = b := by
  obtain ⟨u1, u2, u3⟩ := h
  by_cases hc : ab_fi S.2.1 b < S.2.1.length
  · have e1 : (ab_dem S p b).2.1 = S.2.1.eraseIdx (ab_fi S.2.1 b) := by simp only [ab_dem, if_pos hc]
    refine ⟨⟨u1, by rw [e1]; exact U_rem u2 _, by rw [e1]; exact fun e he f hf => u3 e he f (List.mem_of_mem_eraseIdx hf)⟩, ?_⟩
    rw [e1]
    have := rem_no u2 (at_getD hc)
    rw [fi_at hc] at this
    exact this
  · have e1 : (ab_dem S p b).2.1 = S.2.1 := by simp only [ab_dem, if_neg hc]
    exact ⟨⟨u1, by rw [e1]; exact u2, by rw [e1]; exact u3⟩, by rw [e1]; exact fi_len hc⟩
theorem J_hit {S : ab_S} (h : ab_J S) (p : Nat) {i : Nat} (hi : i < S.1.length) : ab_J (ab_hit S p i) := by
  obtain ⟨u1, u2, u3⟩ := h
  refine ⟨U_add (U_rem u1 _) (show ∀ f ∈ S.1.eraseIdx i, ¬ f.1 = (S.1.getD i (0, 0, 0)).1 from rem_no u1 (at_getD hi)), u2, fun e he f hf => ?_⟩
  rcases List.mem_append.mp he with he | he
  · exact u3 e (List.mem_of_mem_eraseIdx he) f hf
  · rw [List.mem_singleton.mp he]
    exact u3 _ (List.mem_of_getElem? (at_getD hi)) f hf
theorem J_w1 {S : ab_S} (h : ab_J S) (p : Nat) (b : Int32) : ab_J (ab_w1 S p b) := by
  unfold ab_w1
  split
  next hc =>
    obtain ⟨u1, u2, u3⟩ := h
    refine ⟨u1, U_add u2 (fi_len (l := S.2.1) (b := b) (by omega)), fun e he f hf => ?_⟩
    rcases List.mem_append.mp hf with hf | hf
    · exact u3 e he f hf
    · rw [List.mem_singleton.mp hf]
      exact fi_len (l := S.1) (b := b) (by omega) e he
  next => exact h
theorem J_ws {S : ab_S} (h : ab_J S) (p : Nat) (g : Nat → Int32) : ∀ n, ab_J (ab_ws S p g n)
  | 0 => h
  | n + 1 => J_w1 (J_ws h p g n) p _
theorem J_wf : ∀ (n : Nat) {S : ab_S}, ab_J S → ∀ (p : Nat) (a : Int32), ab_J (ab_wf n S p a)
  | 0, S, h, p, a => h
  | n + 1, S, h, p, a => by
    unfold ab_wf
    split
    · exact h
    · exact J_wf n (J_w1 h p a) p _
theorem J_wish {S : ab_S} (h : ab_J S) (p : Nat) (b : Int32) (sd : Bool) : ab_J (ab_wish S p b sd) := by
  unfold ab_wish
  split
  · exact J_ws h _ _ _
  · split
    · split
      · exact J_ws h _ _ _
      · exact h
    · split
      · exact J_wf _ h _ _
      · split
        · split
          · exact J_ws h _ _ _
          · exact h
        · exact h
theorem J_end {S : ab_S} (h : ab_J S) (n pc p : Nat) (b : Int32) : ab_J (ab_end S n pc p b) := by
  unfold ab_end
  split
  · exact J_tick (J_wish (S := ab_ln S p b) h p b _) n
  · exact J_wish (S := ab_ln S p b) h p b _
theorem J_a1 {S : ab_S} (h : ab_J S) (n p : Nat) (b : Int32) : ab_J (ab_a1 S n p b) := by
  unfold ab_a1
  split
  next hc => exact J_hit h p hc
  next hc => exact J_tickD (J_dem h p b).1 n p (fi_len (l := S.1) hc) (J_dem h p b).2
theorem J_ans {S : ab_S} (h : ab_J S) (n pc p : Nat) (b : Int32) : ab_J (ab_ans S n pc p b) := J_end (J_a1 (S := ab_a0 S p b) h n p b) n pc p b
theorem J_beg (a b c : Int32) : ab_J (ab_beg a b c) := ⟨fun i j e f h => by simp [ab_beg] at h, fun i j e f h => by simp [ab_beg] at h, fun e he => by simp [ab_beg] at he⟩
theorem enc_nn {i n : Nat} (hn : n < 2 ^ 31) : 0 ≤ ab_enc i n ↔ i < n := by
  unfold ab_enc
  split
  next h => exact ⟨fun _ => h, fun _ => nI_pos' (by omega)⟩
  next h => exact ⟨fun e => absurd e (by decide), fun e => absurd e h⟩
theorem ml_add {w w1 : pm_W} {l : List ab_E} (h : ml w l) {e : ab_E} (h6 : w1.1 83 9 = nI (l.length + 1)) (h84 : w1.1 87 = upd (w.1 87) l.length e.1) (h85 : w1.1 88 = upd (w.1 88) l.length (nI e.2.1)) : ml w1 (l ++ [e]) := by
  refine ⟨by rw [h6, List.length_append, List.length_singleton], fun i x hx => ?_⟩
  rw [h84, h85]
  by_cases hi : i < l.length
  · rw [List.getElem?_append_left hi] at hx
    rw [pk_un (by omega), pk_un (by omega)]
    exact h.2 i x hx
  · have hl := (List.getElem?_eq_some_iff.mp hx).1
    rw [List.length_append, List.length_singleton] at hl
    have : i = l.length := by omega
    subst this
    rw [List.getElem?_append_right (by omega), Nat.sub_self] at hx
    cases hx
    rw [pk_us, pk_us]
    exact ⟨rfl, rfl⟩

set_option maxRecDepth 4000 in
theorem c_X5_wish {w : pm_W} {S : ab_S} (hR : mo_R w S) (hI : ab_I S) (hJ : ab_J S) {p : Nat} (hp : p < 4) (b : Int32) : pm_C pm_L0 MX5_wish [.ref 83, .int (nI p), .int b] w (pm_qv fun w1 => mo_R w1 (ab_w1 S p b) ∧ mfr w w1 [87, 88] [9]) := by
  obtain ⟨g1, g2, g3, g4, g5⟩ := id hR
  obtain ⟨⟨sp, i1, i2, i3, i4⟩, i5, i6, i7, i8, i9, i10, i11, i12⟩ := id hI
  refine pm_start (lv := [some (.ref _), some (.int _), some (.int _)]) (plainFor_of_name pf5) (Nat.le_of_ble_eq_true rfl) rfl ?_
  refine pm_iload_n dX5_wish_0 rfl ?_
  refine pm_cSi (as := [.int _]) ml_RX5_145 (by decide) (Nat.le_of_ble_eq_true rfl) dX5_wish_1 (c_X5_isBlock pm_L0 _ b) (fun x1 w1 hq => ?_)
  obtain ⟨rfl, hw9⟩ := hq
  have hw9 := hw9.symm
  subst hw9
  refine pm_if_eq (tgt := 62) dX5_wish_4 (by decide) (fun c4 => ?_) (fun c4 => ?_)
  · refine pm_vret dX5_wish_62 rfl ?_
    rw [pm_z_0] at c4
    refine ⟨?_, mfr_rf _ _ _⟩
    rw [ab_w1, if_neg]
    · exact hR
    · rintro ⟨z1, z2, z3, z4⟩
      rw [c4] at z1
      cases z1
  · rw [pm_z_1] at c4
    refine pm_aload_n dX5_wish_7 rfl ?_
    refine pm_iload_n dX5_wish_8 rfl ?_
    refine pm_cVi (as := [.int _]) (by first | assumption | rfl) (by decide) rfl ml_RX5_181 (by decide) (Nat.le_of_ble_eq_true rfl) dX5_wish_9 (c_X5_placeOf g1 (by omega) hJ.1 b) (fun x1 w1 hq => ?_)
    obtain ⟨rfl, hw9⟩ := hq
    have hw9 := hw9.symm
    subst hw9
    refine pm_if_ge (tgt := 62) dX5_wish_12 (by decide) (fun c12 => ?_) (fun c12 => ?_)
    · refine pm_vret dX5_wish_62 rfl ?_
      rw [enc_nn (by omega)] at c12
      refine ⟨?_, mfr_rf _ _ _⟩
      rw [ab_w1, if_neg]
      · exact hR
      · rintro ⟨z1, z2, z3, z4⟩
        omega
    · rw [enc_nn (by omega)] at c12
      refine pm_aload_n dX5_wish_15 rfl ?_
      refine pm_iload_n dX5_wish_16 rfl ?_
      refine pm_cVi (as := [.int _]) (by first | assumption | rfl) (by decide) rfl ml_RX5_184 (by decide) (Nat.le_of_ble_eq_true rfl) dX5_wish_17 (c_X5_waitOf g2 i5 hJ.2.1 b) (fun x1 w1 hq => ?_)
      obtain ⟨rfl, hw9⟩ := hq
      have hw9 := hw9.symm
      subst hw9
      refine pm_if_ge (tgt := 62) dX5_wish_20 (by decide) (fun c20 => ?_) (fun c20 => ?_)
      · refine pm_vret dX5_wish_62 rfl ?_
        rw [enc_nn (by omega)] at c20
        refine ⟨?_, mfr_rf _ _ _⟩
        rw [ab_w1, if_neg]
        · exact hR
        · rintro ⟨z1, z2, z3, z4⟩
          omega
      · rw [enc_nn (by omega)] at c20
        refine pm_aload_n dX5_wish_23 rfl ?_
        refine pm_getI (ci := 5) (j := 9) (n := 39) (by first | assumption | rfl) (by decide) (by decide) rfl fl_RX5_114 rfl dX5_wish_24 ?_
        rw [g2.1]
        refine pm_bipush (x := nI 16) dX5_wish_27 rfl ?_
        refine pm_icmp_ge (tgt := 62) dX5_wish_29 (by decide) (fun c29 => ?_) (fun c29 => ?_)
        · refine pm_vret dX5_wish_62 rfl ?_
          rw [nI_leI (by omega) (by omega)] at c29
          refine ⟨?_, mfr_rf _ _ _⟩
          rw [ab_w1, if_neg]
          · exact hR
          · rintro ⟨z1, z2, z3, z4⟩
            omega
        · have hlt : S.2.1.length < 16 := by
            rw [nI_leI (by omega) (by omega)] at c29
            omega
          refine pm_aload_n dX5_wish_32 rfl ?_
          refine pm_getR (ci := 5) (j := 7) (n := 39) (by first | assumption | rfl) (by decide) (by decide) rfl fl_RX5_20 rfl (by first | assumption | rfl) dX5_wish_33 ?_
          refine pm_aload_n dX5_wish_36 rfl ?_
          refine pm_getI (ci := 5) (j := 9) (n := 39) (by first | assumption | rfl) (by decide) (by decide) rfl fl_RX5_114 rfl dX5_wish_37 ?_
          rw [g2.1]
          refine pm_iload_n dX5_wish_40 rfl ?_
          refine pm_iastN (by first | assumption | rfl) (by omega) (by first | decide | omega) dX5_wish_41 ?_
          refine pm_aload_n dX5_wish_42 rfl ?_
          refine pm_getR (ci := 5) (j := 8) (n := 39) (by first | assumption | rfl) (by decide) (by decide) rfl fl_RX5_23 rfl (by first | assumption | rfl) dX5_wish_43 ?_
          refine pm_aload_n dX5_wish_46 rfl ?_
          refine pm_getI (ci := 5) (j := 9) (n := 39) (by first | assumption | rfl) (by decide) (by decide) rfl fl_RX5_114 rfl dX5_wish_47 ?_
          refine pm_topi (nI S.2.1.length) (by rw [pm_s_ne (by decide)]; exact g2.1) ?_
          refine pm_iload_n dX5_wish_50 rfl ?_
          refine pm_iastN (by first | assumption | rfl) (by omega) (by first | decide | omega) dX5_wish_51 ?_
          refine pm_aload_n dX5_wish_52 rfl ?_
          refine pm_dup dX5_wish_53 rfl ?_
          refine pm_getI (ci := 5) (j := 9) (n := 39) (by first | assumption | rfl) (by decide) (by decide) rfl fl_RX5_114 rfl dX5_wish_54 ?_
          refine pm_iconst (x := 1) dX5_wish_57 rfl ?_
          refine pm_iadd dX5_wish_58 ?_
          refine pm_putI (ci := 5) (j := 9) (n := 39) (by first | assumption | rfl) (by decide) (by decide) rfl fl_RX5_114 rfl rfl dX5_wish_59 ?_
          refine pm_vret dX5_wish_62 rfl ?_
          have q1 := fi_le S.1 b
          have q2 := fi_le S.2.1 b
          refine ⟨?_, mfr_j (mfr_c (mfr_c (mfr_rf _ [87, 88] [9]) (k := 87) (by decide) (by decide) _) (k := 88) (by decide) (by decide) _) (j := 9) (by decide) _⟩
          rw [ab_w1, if_pos ⟨c4, hlt, by omega, by omega⟩]
          exact mo_line hR (ml_add (e := (b, p, 1)) g2 (by simp [pm_s, upd, g2.1, nI_1]) (by simp [pm_s]) (by simp [pm_s])) (mfr_j (mfr_c (mfr_c (mfr_rf _ [87, 88] [9]) (k := 87) (by decide) (by decide) _) (k := 88) (by decide) (by decide) _) (j := 9) (by decide) _)

