theorem enc_m1 {i n : Nat} (hi : i ≤ n) (hn : n < 2 ^ 31) : ab_enc i n = -1 ↔ i = n := by
  unfold ab_enc
  by_cases h : i < n
  · rw [if_pos h]
    exact ⟨fun e => absurd e (nI_ne_m1 (by omega)), fun e => by omega⟩
  · rw [if_neg h]
    exact ⟨fun _ => by omega, fun _ => rfl⟩
theorem fi_le (l : List ab_E) (x : Int32) : ab_fi l x ≤ l.length := List.findIdx_le_length
theorem at_getD {l : List ab_E} {i : Nat} (h : i < l.length) : l[i]? = some (l.getD i (0, 0, 0)) := by
  rw [List.getD_eq_getElem?_getD, List.getElem?_eq_getElem h]; rfl
def ab_dem (S : ab_S) (p : Nat) (b : Int32) : ab_S := (S.1, if ab_fi S.2.1 b < S.2.1.length then S.2.1.eraseIdx (ab_fi S.2.1 b) else S.2.1, va_up S.2.2.1 p (ab_inc (S.2.2.1 p) 2), S.2.2.2)
def ab_hit (S : ab_S) (p i : Nat) : ab_S := (S.1.eraseIdx i ++ [((S.1.getD i (0, 0, 0)).1, (S.1.getD i (0, 0, 0)).2.1, 0)], S.2.1, if (S.1.getD i (0, 0, 0)).2.2 = 1 then va_up (va_up S.2.2.1 p (ab_inc (S.2.2.1 p) 1)) (S.1.getD i (0, 0, 0)).2.1 (ab_save (va_up S.2.2.1 p (ab_inc (S.2.2.1 p) 1) (S.1.getD i (0, 0, 0)).2.1)) else va_up S.2.2.1 p (ab_inc (S.2.2.1 p) 1), S.2.2.2)
def ab_w1 (S : ab_S) (p : Nat) (b : Int32) : ab_S := if pm_bw b 0 63 = true ∧ S.2.1.length < 16 ∧ ab_fi S.1 b = S.1.length ∧ ab_fi S.2.1 b = S.2.1.length then (S.1, S.2.1 ++ [(b, p, 1)], S.2.2) else S
def ab_ws (S : ab_S) (p : Nat) (g : Nat → Int32) : Nat → ab_S
  | 0 => S
  | n + 1 => ab_w1 (ab_ws S p g n) p (g (n + 1))
def ab_wf : Nat → ab_S → Nat → Int32 → ab_S
  | 0, S, _, _ => S
  | n + 1, S, p, a => if a = -1 then S else ab_wf n (ab_w1 S p a) p ((S.2.2.1 p).2.2 a.toNatClampNeg)
def ab_wish (S : ab_S) (p : Nat) (b : Int32) (sd : Bool) : ab_S :=
  if (S.2.2.1 p).1 2 = 1 ∨ (S.2.2.1 p).1 2 = 5 then ab_ws S p (fun i => b + nI i * 1) ((S.2.2.1 p).1 3).toNatClampNeg
  else if (S.2.2.1 p).1 2 = 2 then (if sd = true then ab_ws S p (fun i => b + nI i * (S.2.2.1 p).1 8) ((S.2.2.1 p).1 3).toNatClampNeg else S)
  else if (S.2.2.1 p).1 2 = 3 then ab_wf ((S.2.2.1 p).1 3).toNatClampNeg S p ((S.2.2.1 p).2.2 b.toNatClampNeg)
  else if (S.2.2.1 p).1 2 = 4 then (if ab_sp (S.2.2.1 p) b = true then ab_ws S p (fun i => b + nI i * 1) (ab_min ((S.2.2.1 p).1 3) ((S.2.2.1 p).1 6 - b)).toNatClampNeg else S)
  else S
theorem I_dem {S : ab_S} (h : ab_I S) {p : Nat} (hp : p < 4) (b : Int32) : ab_I (ab_dem S p b) := by
  obtain ⟨h1, h2, h3, h4, h5, h6, h7, h8, h9⟩ := h
  refine ⟨h1, ?_, h3, ?_, h5, aok_up h6 (aok_inc (h6 _ hp) 2), h7, h8, h9⟩
  · show (if _ then _ else _ : List ab_E).length ≤ 16
    split
    next hc => rw [List.length_eraseIdx, if_pos hc]; omega
    next => exact h2
  · intro e he
    have he : e ∈ (if ab_fi S.2.1 b < S.2.1.length then S.2.1.eraseIdx (ab_fi S.2.1 b) else S.2.1) := he
    split at he
    · exact eok_rem h4 _ e he
    · exact h4 e he
theorem I_hit {S : ab_S} (h : ab_I S) {p i : Nat} (hp : p < 4) (hi : i < S.1.length) : ab_I (ab_hit S p i) := by
  obtain ⟨⟨n, n0, n1, n2, n3⟩, h2, h3, h4, h5, h6, h7, h8, h9⟩ := h
  have he := eok_at h3 hi
  have hu := aok_up (p := p) h6 (aok_inc (h6 _ hp) 1)
  refine ⟨⟨n, n0, n1, n2, ?_⟩, h2, eok_add (eok_rem h3 _) ⟨he.1, he.2.1, he.2.2.1, Or.inl rfl⟩, h4, h5, ?_, h7, h8, h9⟩
  · show (S.1.eraseIdx i ++ [_]).length ≤ n
    rw [List.length_append, List.length_eraseIdx, if_pos hi, List.length_singleton]
    omega
  · intro q hq
    by_cases hc : (S.1.getD i (0, 0, 0)).2.2 = 1
    · show ab_aok ((ab_hit S p i).2.2.1 q)
      simp only [ab_hit, if_pos hc]
      exact aok_up hu (aok_save (hu _ he.1)) q hq
    · show ab_aok ((ab_hit S p i).2.2.1 q)
      simp only [ab_hit, if_neg hc]
      exact hu q hq
theorem I_w1 {S : ab_S} (h : ab_I S) {p : Nat} (hp : p < 4) (b : Int32) : ab_I (ab_w1 S p b) := by
  unfold ab_w1
  split
  next hc =>
    obtain ⟨h1, h2, h3, h4, h5, h6, h7, h8, h9⟩ := h
    have hb := pm_bw_t.mp hc.1
    refine ⟨h1, ?_, h3, eok_add h4 ⟨hp, hb.1, hb.2, Or.inr rfl⟩, h5, h6, h7, h8, h9⟩
    show (S.2.1 ++ [_]).length ≤ 16
    rw [List.length_append, List.length_singleton]
    omega
  next => exact h
theorem w1_ask (S : ab_S) (p : Nat) (b : Int32) : (ab_w1 S p b).2.2 = S.2.2 := by
  unfold ab_w1
  split <;> rfl
theorem I_ws {S : ab_S} (h : ab_I S) {p : Nat} (hp : p < 4) (g : Nat → Int32) : ∀ n, ab_I (ab_ws S p g n)
  | 0 => h
  | n + 1 => I_w1 (I_ws h hp g n) hp _
theorem I_wf : ∀ (n : Nat) {S : ab_S}, ab_I S → ∀ {p : Nat}, p < 4 → ∀ a, ab_I (ab_wf n S p a)
  | 0, S, h, p, hp, a => h
  | n + 1, S, h, p, hp, a => by
    unfold ab_wf
    split
    · exact h
    · exact I_wf n (I_w1 h hp a) hp _
theorem I_wish {S : ab_S} (h : ab_I S) {p : Nat} (hp : p < 4) (b : Int32) (sd : Bool) : ab_I (ab_wish S p b sd) := by
  unfold ab_wish
  split
  · exact I_ws h hp _ _
  · split
    · split
      · exact I_ws h hp _ _
      · exact h
    · split
      · exact I_wf _ h hp _
      · split
        · split
          · exact I_ws h hp _ _
          · exact h
        · exact h

set_option maxRecDepth 4000 in
theorem c_X3_demand {L : pm_L} {hb : Nat} (hk : hs_ok L hb) {w : pm_W} {S : ab_S} (hR : hs_R w hb S) (hI : ab_I S) {p : Nat} (hp : p < 4) (b : Int32) : pm_C L MX3_demand [.ref hb, .int (nI p), .int b] w (pm_qv fun w1 => hs_R w1 hb (ab_dem S p b) ∧ fr_out w w1 hb (hb + 25)) := by
  obtain ⟨e1, e2, e3, e4, e5, e6, e7, hdr, hdl, hap⟩ := id hk
  obtain ⟨r1, r2, r3, r4, r5, r6, r7, r8, r9⟩ := id hdr
  obtain ⟨l1, l2, l3, l4, l5, l6, l7, l8, l9⟩ := id hdl
  obtain ⟨g1, g2, g3, g4, g5, g6⟩ := id hR
  obtain ⟨⟨sp, i1, i2, i3, i4⟩, i5, i6, i7, i8, i9, i10, i11, i12⟩ := id hI
  obtain ⟨ha0, ⟨a1, a2, a3, a4, a5⟩⟩ := hap p hp
  refine pm_start (lv := [some (.ref _), some (.int _), some (.int _), none]) (plainFor_of_name pf3) (Nat.le_of_ble_eq_true rfl) rfl ?_
  refine pm_aload_n dX3_demand_0 rfl ?_
  refine pm_getR (ci := 3) (j := 1) (n := 11) (by first | assumption | rfl) (by decide) (by decide) rfl fl_RX3_20 rfl (by first | assumption | rfl) dX3_demand_1 ?_
  refine pm_iload_n dX3_demand_4 rfl ?_
  refine pm_cVi (as := [.int _]) (by first | assumption | rfl) (by decide) rfl ml_RX3_85 (by decide) (Nat.le_of_ble_eq_true rfl) dX3_demand_5 (c_X2_find hdl (by decide) g2 i5 b) (fun x1 w1 hq => ?_)
  obtain ⟨rfl, hw9⟩ := hq
  have hw9 := hw9.symm
  subst hw9
  refine pm_istore_n (lv' := [some (.ref _), some (.int _), some (.int _), some (.int _)]) dX3_demand_8 (by decide) rfl ?_
  refine pm_iload_n dX3_demand_9 rfl ?_
  refine pm_iconst (x := -1) dX3_demand_10 rfl ?_
  refine pm_icmp_eq (tgt := 22) dX3_demand_11 (by decide) (fun c11 => ?_) (fun c11 => ?_)
  · refine pm_aload_n dX3_demand_22 rfl ?_
    refine pm_getR (ci := 3) (j := 2) (n := 11) (by first | assumption | rfl) (by decide) (by decide) rfl fl_RX3_25 rfl (by first | assumption | rfl) dX3_demand_23 ?_
    refine pm_iload_n dX3_demand_26 rfl ?_
    refine pm_kaldN (by first | assumption | rfl) (by first | assumption | omega | decide) (by first | decide | omega) (by first | assumption | rfl) dX3_demand_27 ?_
    refine pm_getR (ci := 0) (j := 0) (n := 10) (by first | assumption | rfl) (by decide) (by decide) rfl fl_RX3_82 rfl (by first | assumption | rfl) dX3_demand_28 ?_
    refine pm_iconst (x := nI 2) dX3_demand_31 rfl ?_
    refine pm_dup2 dX3_demand_32 rfl rfl ?_
    refine pm_ialdN (by first | assumption | rfl) (by first | assumption | omega | decide) (by first | decide | omega) dX3_demand_33 ?_
    refine pm_iconst (x := 1) dX3_demand_34 rfl ?_
    refine pm_iadd dX3_demand_35 ?_
    refine pm_iastN (by first | assumption | rfl) (by first | assumption | omega | decide) (by first | decide | omega) dX3_demand_36 ?_
    refine pm_vret dX3_demand_37 rfl ?_
    rw [enc_m1 (fi_le _ _) (by omega)] at c11
    refine ⟨?_, fr_s (by omega) (by omega)⟩
    rw [ab_dem, if_neg (by omega)]
    exact hs_ask hR hp (as_inc (g3 p hp) 2) (fr_s (by omega) (by omega))
  · have hfi : ab_fi S.2.1 b < S.2.1.length := by
      have q1 := fi_le S.2.1 b
      rw [enc_m1 q1 (by omega)] at c11
      omega
    rw [ab_enc, if_pos hfi]
    refine pm_aload_n dX3_demand_14 rfl ?_
    refine pm_getR (ci := 3) (j := 1) (n := 11) (by first | assumption | rfl) (by decide) (by decide) rfl fl_RX3_20 rfl (by first | assumption | rfl) dX3_demand_15 ?_
    refine pm_iload_n dX3_demand_18 rfl ?_
    refine pm_cVv (as := [.int _]) (by first | assumption | rfl) (by decide) rfl ml_RX3_117 (by decide) (Nat.le_of_ble_eq_true rfl) dX3_demand_19 (c_X2_remove hdl (by decide) g2 i5 (at_getD hfi) (eok_at i7 hfi).1) (fun w1 hq => ?_)
    obtain ⟨p1, hf1⟩ := hq
    have hR1 := hs_line hR p1 hf1
    refine pm_aload_n dX3_demand_22 rfl ?_
    refine pm_getR (ci := 3) (j := 2) (n := 11) (by first | assumption | rfl) (by decide) (by decide) rfl fl_RX3_25 rfl (by first | assumption | rfl) dX3_demand_23 ?_
    refine pm_iload_n dX3_demand_26 rfl ?_
    refine pm_kaldN (by first | assumption | rfl) (by first | assumption | omega | decide) (by first | decide | omega) (by first | assumption | rfl) dX3_demand_27 ?_
    refine pm_getR (ci := 0) (j := 0) (n := 10) (by first | assumption | rfl) (by decide) (by decide) rfl fl_RX3_82 rfl (by first | assumption | rfl) dX3_demand_28 ?_
    refine pm_iconst (x := nI 2) dX3_demand_31 rfl ?_
    refine pm_dup2 dX3_demand_32 rfl rfl ?_
    refine pm_ialdN (by first | assumption | rfl) (by first | assumption | omega | decide) (by first | decide | omega) dX3_demand_33 ?_
    refine pm_iconst (x := 1) dX3_demand_34 rfl ?_
    refine pm_iadd dX3_demand_35 ?_
    refine pm_iastN (by first | assumption | rfl) (by first | assumption | omega | decide) (by first | decide | omega) dX3_demand_36 ?_
    refine pm_vret dX3_demand_37 rfl ?_
    refine ⟨?_, fr_st (fr_wd hf1 (by omega) (by omega)) (by omega) (by omega)⟩
    rw [ab_dem, if_pos hfi]
    exact hs_ask hR1 hp (as_inc (hR1.2.2.1 p hp) 2) (fr_s (by omega) (by omega))

set_option maxRecDepth 4000 in
theorem c_X3_hit {L : pm_L} {hb : Nat} (hk : hs_ok L hb) {w : pm_W} {S : ab_S} (hR : hs_R w hb S) (hI : ab_I S) {p i : Nat} (hp : p < 4) (hi : i < S.1.length) : pm_C L MX3_hit [.ref hb, .int (nI p), .int (nI i)] w (pm_qv fun w1 => hs_R w1 hb (ab_hit S p i) ∧ fr_out w w1 hb (hb + 25)) := by
  obtain ⟨e1, e2, e3, e4, e5, e6, e7, hdr, hdl, hap⟩ := id hk
  obtain ⟨r1, r2, r3, r4, r5, r6, r7, r8, r9⟩ := id hdr
  obtain ⟨l1, l2, l3, l4, l5, l6, l7, l8, l9⟩ := id hdl
  obtain ⟨g1, g2, g3, g4, g5, g6⟩ := id hR
  obtain ⟨⟨sp, i1, i2, i3, i4⟩, i5, i6, i7, i8, i9, i10, i11, i12⟩ := id hI
  obtain ⟨ha0, ⟨a1, a2, a3, a4, a5⟩⟩ := hap p hp
  have hei := at_getD hi
  unfold ab_hit
  have heo := i6 _ (List.mem_of_getElem? hei)
  generalize S.1.getD i (0, 0, 0) = e at hei heo ⊢
  have heo4 : e.2.1 < 4 := heo.1
  obtain ⟨ha1, ⟨b1, b2, b3, b4, b5⟩⟩ := hap e.2.1 heo.1
  have hgi := g1.2.1 i e hei
  refine pm_start (lv := [some (.ref _), some (.int _), some (.int _), none, none]) (plainFor_of_name pf3) (Nat.le_of_ble_eq_true rfl) rfl ?_
  refine pm_aload_n dX3_hit_0 rfl ?_
  refine pm_getR (ci := 3) (j := 0) (n := 11) (by first | assumption | rfl) (by decide) (by decide) rfl fl_RX3_14 rfl (by first | assumption | rfl) dX3_hit_1 ?_
  refine pm_getR (ci := 2) (j := 0) (n := 5) (by first | assumption | rfl) (by decide) (by decide) rfl fl_RX3_105 rfl (by first | assumption | rfl) dX3_hit_4 ?_
  refine pm_iload_n dX3_hit_7 rfl ?_
  refine pm_ialdN (by first | assumption | rfl) (by first | assumption | omega | decide) (by first | decide | omega) dX3_hit_8 ?_
  rw [hgi.1]
  refine pm_istore_n (lv' := [some (.ref _), some (.int _), some (.int _), some (.int _), none]) dX3_hit_9 (by decide) rfl ?_
  refine pm_aload_n dX3_hit_10 rfl ?_
  refine pm_getR (ci := 3) (j := 0) (n := 11) (by first | assumption | rfl) (by decide) (by decide) rfl fl_RX3_14 rfl (by first | assumption | rfl) dX3_hit_11 ?_
  refine pm_getR (ci := 2) (j := 1) (n := 5) (by first | assumption | rfl) (by decide) (by decide) rfl fl_RX3_108 rfl (by first | assumption | rfl) dX3_hit_14 ?_
  refine pm_iload_n dX3_hit_17 rfl ?_
  refine pm_ialdN (by first | assumption | rfl) (by first | assumption | omega | decide) (by first | decide | omega) dX3_hit_18 ?_
  rw [hgi.2.1]
  refine pm_istore (lv' := [some (.ref _), some (.int _), some (.int _), some (.int _), some (.int _)]) dX3_hit_19 (by decide) rfl ?_
  refine pm_aload_n dX3_hit_21 rfl ?_
  refine pm_getR (ci := 3) (j := 2) (n := 11) (by first | assumption | rfl) (by decide) (by decide) rfl fl_RX3_25 rfl (by first | assumption | rfl) dX3_hit_22 ?_
  refine pm_iload_n dX3_hit_25 rfl ?_
  refine pm_kaldN (by first | assumption | rfl) (by first | assumption | omega | decide) (by first | decide | omega) (by first | assumption | rfl) dX3_hit_26 ?_
  refine pm_getR (ci := 0) (j := 0) (n := 10) (by first | assumption | rfl) (by decide) (by decide) rfl fl_RX3_82 rfl (by first | assumption | rfl) dX3_hit_27 ?_
  refine pm_iconst (x := nI 1) dX3_hit_30 rfl ?_
  refine pm_dup2 dX3_hit_31 rfl rfl ?_
  refine pm_ialdN (by first | assumption | rfl) (by first | assumption | omega | decide) (by first | decide | omega) dX3_hit_32 ?_
  refine pm_iconst (x := 1) dX3_hit_33 rfl ?_
  refine pm_iadd dX3_hit_34 ?_
  refine pm_iastN (by first | assumption | rfl) (by first | assumption | omega | decide) (by first | decide | omega) dX3_hit_35 ?_
  have hR1 : hs_R (pm_s w (hb + 13 + 3 * p + 1) (upd (w.1 (hb + 13 + 3 * p + 1)) 1 (w.1 (hb + 13 + 3 * p + 1) 1 + 1))) hb (S.1, S.2.1, va_up S.2.2.1 p (ab_inc (S.2.2.1 p) 1), S.2.2.2) := hs_ask hR hp (as_inc (g3 p hp) 1) (fr_s (by omega) (by omega))
  have hf1 : fr_out w (pm_s w (hb + 13 + 3 * p + 1) (upd (w.1 (hb + 13 + 3 * p + 1)) 1 (w.1 (hb + 13 + 3 * p + 1) 1 + 1))) hb (hb + 25) := fr_s (by omega) (by omega)
  generalize pm_s w (hb + 13 + 3 * p + 1) (upd (w.1 (hb + 13 + 3 * p + 1)) 1 (w.1 (hb + 13 + 3 * p + 1) 1 + 1)) = w1 at hR1 hf1 ⊢
  refine pm_aload_n dX3_hit_36 rfl ?_
  refine pm_getR (ci := 3) (j := 0) (n := 11) (by first | assumption | rfl) (by decide) (by decide) rfl fl_RX3_14 rfl (by first | assumption | rfl) dX3_hit_37 ?_
  refine pm_getR (ci := 2) (j := 2) (n := 5) (by first | assumption | rfl) (by decide) (by decide) rfl fl_RX3_111 rfl (by first | assumption | rfl) dX3_hit_40 ?_
  refine pm_iload_n dX3_hit_43 rfl ?_
  refine pm_ialdN (by first | assumption | rfl) (by first | assumption | omega | decide) (by first | decide | omega) dX3_hit_44 ?_
  rw [(hR1.1.2.1 i e hei).2.2]
  refine pm_iconst (x := 1) dX3_hit_45 rfl ?_
  refine pm_icmp_ne (tgt := 59) dX3_hit_46 (by decide) (fun c46 => ?_) (fun c46 => ?_)
  · refine pm_aload_n dX3_hit_59 rfl ?_
    refine pm_getR (ci := 3) (j := 0) (n := 11) (by first | assumption | rfl) (by decide) (by decide) rfl fl_RX3_14 rfl (by first | assumption | rfl) dX3_hit_60 ?_
    refine pm_iload_n dX3_hit_63 rfl ?_
    refine pm_cVv (as := [.int _]) (by first | assumption | rfl) (by decide) rfl ml_RX3_117 (by decide) (Nat.le_of_ble_eq_true rfl) dX3_hit_64 (c_X2_remove hdr (by decide) (l := S.1) hR1.1 (by show S.1.length ≤ 12; omega) hei heo4) (fun w3 hq => ?_)
    obtain ⟨p1, hf3⟩ := hq
    refine pm_aload_n dX3_hit_67 rfl ?_
    refine pm_getR (ci := 3) (j := 0) (n := 11) (by first | assumption | rfl) (by decide) (by decide) rfl fl_RX3_14 rfl (by first | assumption | rfl) dX3_hit_68 ?_
    refine pm_iload_n dX3_hit_71 rfl ?_
    refine pm_iload dX3_hit_72 rfl ?_
    refine pm_iconst (x := 0) dX3_hit_74 rfl ?_
    refine pm_cVv (as := [.int _, .int _, .int _]) (by first | assumption | rfl) (by decide) rfl ml_RX3_120 (by decide) (Nat.le_of_ble_eq_true rfl) dX3_hit_75 (c_X2_add hdr (by decide) p1 (by rw [List.length_eraseIdx, if_pos hi]; omega) (by rw [List.length_eraseIdx, if_pos hi]; omega) e.1 heo4 0) (fun w4 hq => ?_)
    obtain ⟨p4, hf4⟩ := hq
    refine pm_vret dX3_hit_78 rfl ?_
    have hz : fr_out w1 w4 (hb + 1) (hb + 1 + 5) := fr_tr hf3 hf4
    refine ⟨?_, fr_tr hf1 (fr_wd hz (by omega) (by omega))⟩
    rw [if_neg c46]
    exact hs_room hR1 p4 hz
  · refine pm_aload_n dX3_hit_49 rfl ?_
    refine pm_getR (ci := 3) (j := 2) (n := 11) (by first | assumption | rfl) (by decide) (by decide) rfl fl_RX3_25 rfl (by first | assumption | rfl) dX3_hit_50 ?_
    refine pm_iload dX3_hit_53 rfl ?_
    refine pm_kaldN (by first | assumption | rfl) (by first | assumption | omega | decide) (by first | decide | omega) (by first | assumption | rfl) dX3_hit_55 ?_
    refine pm_cVv (as := []) (by first | assumption | rfl) (by decide) rfl ml_RX3_114 (by decide) (Nat.le_of_ble_eq_true rfl) dX3_hit_56 (c_X0_countSaved (hap e.2.1 heo.1).2 (hR1.2.2.1 e.2.1 heo.1)) (fun w2 hq => ?_)
    obtain ⟨q1, -, q3⟩ := hq
    have hR2 := hs_ask hR1 heo4 q1 q3
    have hf2 := fr_tr hf1 (fr_wd q3 (lo' := hb) (hi' := hb + 25) (by omega) (by omega))
    refine pm_aload_n dX3_hit_59 rfl ?_
    refine pm_getR (ci := 3) (j := 0) (n := 11) (by first | assumption | rfl) (by decide) (by decide) rfl fl_RX3_14 rfl (by first | assumption | rfl) dX3_hit_60 ?_
    refine pm_iload_n dX3_hit_63 rfl ?_
    refine pm_cVv (as := [.int _]) (by first | assumption | rfl) (by decide) rfl ml_RX3_117 (by decide) (Nat.le_of_ble_eq_true rfl) dX3_hit_64 (c_X2_remove hdr (by decide) (l := S.1) hR2.1 (by show S.1.length ≤ 12; omega) hei heo4) (fun w3 hq => ?_)
    obtain ⟨p1, hf3⟩ := hq
    refine pm_aload_n dX3_hit_67 rfl ?_
    refine pm_getR (ci := 3) (j := 0) (n := 11) (by first | assumption | rfl) (by decide) (by decide) rfl fl_RX3_14 rfl (by first | assumption | rfl) dX3_hit_68 ?_
    refine pm_iload_n dX3_hit_71 rfl ?_
    refine pm_iload dX3_hit_72 rfl ?_
    refine pm_iconst (x := 0) dX3_hit_74 rfl ?_
    refine pm_cVv (as := [.int _, .int _, .int _]) (by first | assumption | rfl) (by decide) rfl ml_RX3_120 (by decide) (Nat.le_of_ble_eq_true rfl) dX3_hit_75 (c_X2_add hdr (by decide) p1 (by rw [List.length_eraseIdx, if_pos hi]; omega) (by rw [List.length_eraseIdx, if_pos hi]; omega) e.1 heo4 0) (fun w4 hq => ?_)
    obtain ⟨p4, hf4⟩ := hq
    refine pm_vret dX3_hit_78 rfl ?_
    have hz : fr_out w2 w4 (hb + 1) (hb + 1 + 5) := fr_tr hf3 hf4
    refine ⟨?_, fr_tr hf2 (fr_wd hz (by omega) (by omega))⟩
    rw [if_pos c46]
    exact hs_room hR2 p4 hz

set_option maxRecDepth 4000 in
theorem c_X3_wishOne {L : pm_L} {hb : Nat} (hk : hs_ok L hb) {w : pm_W} {S : ab_S} (hR : hs_R w hb S) (hI : ab_I S) {p : Nat} (hp : p < 4) (b : Int32) : pm_C L MX3_wishOne [.ref hb, .int (nI p), .int b] w (pm_qv fun w1 => hs_R w1 hb (ab_w1 S p b) ∧ fr_out w w1 hb (hb + 25)) := by
  obtain ⟨e1, e2, e3, e4, e5, e6, e7, hdr, hdl, hap⟩ := id hk
  obtain ⟨r1, r2, r3, r4, r5, r6, r7, r8, r9⟩ := id hdr
  obtain ⟨l1, l2, l3, l4, l5, l6, l7, l8, l9⟩ := id hdl
  obtain ⟨g1, g2, g3, g4, g5, g6⟩ := id hR
  obtain ⟨⟨sp, i1, i2, i3, i4⟩, i5, i6, i7, i8, i9, i10, i11, i12⟩ := id hI
  refine pm_start (lv := [some (.ref _), some (.int _), some (.int _)]) (plainFor_of_name pf3) (Nat.le_of_ble_eq_true rfl) rfl ?_
  refine pm_iload_n dX3_wishOne_0 rfl ?_
  refine pm_cNi (as := [.int _]) ml_RX3_195 (by decide) (Nat.le_of_ble_eq_true rfl) dX3_wishOne_1 (c_X4_isBlock L _ b) (fun x1 w1 hq => ?_)
  obtain ⟨rfl, hw9⟩ := hq
  have hw9 := hw9.symm
  subst hw9
  refine pm_if_eq (tgt := 51) dX3_wishOne_4 (by decide) (fun c4 => ?_) (fun c4 => ?_)
  · refine pm_vret dX3_wishOne_51 rfl ?_
    rw [pm_z_0] at c4
    refine ⟨?_, fr_rf _ _ _⟩
    rw [ab_w1, if_neg]
    · exact hR
    · rintro ⟨z1, z2, z3, z4⟩
      rw [c4] at z1
      cases z1
  · rw [pm_z_1] at c4
    refine pm_aload_n dX3_wishOne_7 rfl ?_
    refine pm_getR (ci := 3) (j := 1) (n := 11) (by first | assumption | rfl) (by decide) (by decide) rfl fl_RX3_20 rfl (by first | assumption | rfl) dX3_wishOne_8 ?_
    refine pm_cVi (as := []) (by first | assumption | rfl) (by decide) rfl ml_RX3_198 (by decide) (Nat.le_of_ble_eq_true rfl) dX3_wishOne_11 (c_X2_hasPlace hdl (by decide) g2 i5) (fun x1 w1 hq => ?_)
    obtain ⟨rfl, hw9⟩ := hq
    have hw9 := hw9.symm
    subst hw9
    refine pm_if_eq (tgt := 51) dX3_wishOne_14 (by decide) (fun c14 => ?_) (fun c14 => ?_)
    · refine pm_vret dX3_wishOne_51 rfl ?_
      rw [pm_z_0, decide_eq_false_iff_not] at c14
      refine ⟨?_, fr_rf _ _ _⟩
      rw [ab_w1, if_neg]
      · exact hR
      · rintro ⟨z1, z2, z3, z4⟩
        exact c14 z2
    · rw [pm_z_1, decide_eq_true_eq] at c14
      refine pm_aload_n dX3_wishOne_17 rfl ?_
      refine pm_getR (ci := 3) (j := 0) (n := 11) (by first | assumption | rfl) (by decide) (by decide) rfl fl_RX3_14 rfl (by first | assumption | rfl) dX3_wishOne_18 ?_
      refine pm_iload_n dX3_wishOne_21 rfl ?_
      refine pm_cVi (as := [.int _]) (by first | assumption | rfl) (by decide) rfl ml_RX3_85 (by decide) (Nat.le_of_ble_eq_true rfl) dX3_wishOne_22 (c_X2_find hdr (by decide) g1 (by omega) b) (fun x1 w1 hq => ?_)
      obtain ⟨rfl, hw9⟩ := hq
      have hw9 := hw9.symm
      subst hw9
      refine pm_iconst (x := -1) dX3_wishOne_25 rfl ?_
      refine pm_icmp_ne (tgt := 51) dX3_wishOne_26 (by decide) (fun c26 => ?_) (fun c26 => ?_)
      · refine pm_vret dX3_wishOne_51 rfl ?_
        rw [enc_m1 (fi_le _ _) (by omega)] at c26
        refine ⟨?_, fr_rf _ _ _⟩
        rw [ab_w1, if_neg]
        · exact hR
        · rintro ⟨z1, z2, z3, z4⟩
          exact c26 z3
      · rw [enc_m1 (fi_le _ _) (by omega)] at c26
        refine pm_aload_n dX3_wishOne_29 rfl ?_
        refine pm_getR (ci := 3) (j := 1) (n := 11) (by first | assumption | rfl) (by decide) (by decide) rfl fl_RX3_20 rfl (by first | assumption | rfl) dX3_wishOne_30 ?_
        refine pm_iload_n dX3_wishOne_33 rfl ?_
        refine pm_cVi (as := [.int _]) (by first | assumption | rfl) (by decide) rfl ml_RX3_85 (by decide) (Nat.le_of_ble_eq_true rfl) dX3_wishOne_34 (c_X2_find hdl (by decide) g2 i5 b) (fun x1 w1 hq => ?_)
        obtain ⟨rfl, hw9⟩ := hq
        have hw9 := hw9.symm
        subst hw9
        refine pm_iconst (x := -1) dX3_wishOne_37 rfl ?_
        refine pm_icmp_ne (tgt := 51) dX3_wishOne_38 (by decide) (fun c38 => ?_) (fun c38 => ?_)
        · refine pm_vret dX3_wishOne_51 rfl ?_
          rw [enc_m1 (fi_le _ _) (by omega)] at c38
          refine ⟨?_, fr_rf _ _ _⟩
          rw [ab_w1, if_neg]
          · exact hR
          · rintro ⟨z1, z2, z3, z4⟩
            exact c38 z4
        · rw [enc_m1 (fi_le _ _) (by omega)] at c38
          refine pm_aload_n dX3_wishOne_41 rfl ?_
          refine pm_getR (ci := 3) (j := 1) (n := 11) (by first | assumption | rfl) (by decide) (by decide) rfl fl_RX3_20 rfl (by first | assumption | rfl) dX3_wishOne_42 ?_
          refine pm_iload_n dX3_wishOne_45 rfl ?_
          refine pm_iload_n dX3_wishOne_46 rfl ?_
          refine pm_iconst (x := 1) dX3_wishOne_47 rfl ?_
          refine pm_cVv (as := [.int _, .int _, .int _]) (by first | assumption | rfl) (by decide) rfl ml_RX3_120 (by decide) (Nat.le_of_ble_eq_true rfl) dX3_wishOne_48 (c_X2_add hdl (by decide) g2 i5 c14 b hp 1) (fun w1 hq => ?_)
          obtain ⟨p1, hf1⟩ := hq
          refine pm_vret dX3_wishOne_51 rfl ?_
          refine ⟨?_, fr_wd hf1 (by omega) (by omega)⟩
          rw [ab_w1, if_pos ⟨c4, c14, c26, c38⟩]
          exact hs_line hR p1 hf1

theorem c_X3_wishBySteps {L : pm_L} {hb : Nat} (hk : hs_ok L hb) {w : pm_W} {S : ab_S} (hR : hs_R w hb S) (hI : ab_I S) {p : Nat} (hp : p < 4) (b stp : Int32) {n : Nat} (hn : n ≤ 1000) : pm_C L MX3_wishBySteps [.ref hb, .int (nI p), .int b, .int stp, .int (nI n)] w (pm_qv fun w1 => hs_R w1 hb (ab_ws S p (fun i => b + nI i * stp) n) ∧ fr_out w w1 hb (hb + 25)) := by
  obtain ⟨e1, e2, e3, e4, e5, e6, e7, hdr, hdl, hap⟩ := id hk
  obtain ⟨r1, r2, r3, r4, r5, r6, r7, r8, r9⟩ := id hdr
  obtain ⟨l1, l2, l3, l4, l5, l6, l7, l8, l9⟩ := id hdl
  obtain ⟨g1, g2, g3, g4, g5, g6⟩ := id hR
  obtain ⟨⟨sp, i1, i2, i3, i4⟩, i5, i6, i7, i8, i9, i10, i11, i12⟩ := id hI
  have loop : ∀ i, i ≤ n → ∀ w1, hs_R w1 hb (ab_ws S p (fun i => b + nI i * stp) i) → fr_out w w1 hb (hb + 25) → pm_R L MX3_wishBySteps 3 [some (.ref hb), some (.int (nI p)), some (.int b), some (.int stp), some (.int (nI n)), some (.int (nI (i + 1)))] [] w1 (pm_qv fun w1 => hs_R w1 hb (ab_ws S p (fun i => b + nI i * stp) n) ∧ fr_out w w1 hb (hb + 25)) := by
    refine up_loop n (fun i hi ih w1 hR1 hf1 => ?_)
    refine pm_iload dX3_wishBySteps_3 rfl ?_
    refine pm_iload dX3_wishBySteps_5 rfl ?_
    refine pm_icmp_gt (tgt := 27) dX3_wishBySteps_7 (by decide) (fun c7 => ?_) (fun c7 => ?_)
    · refine pm_vret dX3_wishBySteps_27 rfl ?_
      rw [nI_ltI (by omega) (by omega)] at c7
      have : i = n := by omega
      subst this
      exact ⟨hR1, hf1⟩
    · refine pm_aload_n dX3_wishBySteps_10 rfl ?_
      refine pm_iload_n dX3_wishBySteps_11 rfl ?_
      refine pm_iload_n dX3_wishBySteps_12 rfl ?_
      refine pm_iload dX3_wishBySteps_13 rfl ?_
      refine pm_iload_n dX3_wishBySteps_15 rfl ?_
      refine pm_imul dX3_wishBySteps_16 ?_
      refine pm_iadd dX3_wishBySteps_17 ?_
      refine pm_cVv (as := [.int _, .int _]) (by first | assumption | rfl) (by decide) rfl ml_RX3_189 (by decide) (Nat.le_of_ble_eq_true rfl) dX3_wishBySteps_18 (c_X3_wishOne hk hR1 (I_ws hI hp _ i) hp _) (fun w2 hq => ?_)
      obtain ⟨hR2, hf2⟩ := hq
      refine pm_iinc (y := _ + 1) (lv' := [some (.ref _), some (.int _), some (.int _), some (.int _), some (.int _), some (.int _)]) dX3_wishBySteps_21 rfl rfl (by decide) rfl ?_
      refine pm_goto (tgt := 3) dX3_wishBySteps_24 (by decide) ?_
      rw [nI_ltI (by omega) (by omega)] at c7
      rw [nI_1]
      exact ih (by omega) _ hR2 (fr_tr hf1 hf2)
  refine pm_start (lv := [some (.ref _), some (.int _), some (.int _), some (.int _), some (.int _), none]) (plainFor_of_name pf3) (Nat.le_of_ble_eq_true rfl) rfl ?_
  refine pm_iconst (x := nI 1) dX3_wishBySteps_0 rfl ?_
  refine pm_istore (lv' := [some (.ref _), some (.int _), some (.int _), some (.int _), some (.int _), some (.int _)]) dX3_wishBySteps_1 (by decide) rfl ?_
  exact loop 0 (Nat.zero_le _) w hR (fr_rf _ _ _)

theorem ix_lt {x : Int32} {n : Nat} {hi : Int32} (h : 0 ≤ x ∧ x ≤ hi) (hn : hi.toInt < n) : x.toNatClampNeg < n := by
  have h1 := ix_in h hn
  rcases Nat.lt_or_ge x.toNatClampNeg n with q | q
  · exact q
  · exact absurd (Or.inr q) h1
set_option maxRecDepth 4000 in
theorem c_X3_wishWhatFollowed {L : pm_L} {hb : Nat} (hk : hs_ok L hb) {w : pm_W} {S : ab_S} (hR : hs_R w hb S) (hI : ab_I S) {p : Nat} (hp : p < 4) {b : Int32} (hb3 : 0 ≤ b ∧ b ≤ 63) {r : Nat} (hr : (S.2.2.1 p).1 3 = nI r) (hr8 : r ≤ 8) : pm_C L MX3_wishWhatFollowed [.ref hb, .int (nI p), .int b] w (pm_qv fun w1 => hs_R w1 hb (ab_wf r S p ((S.2.2.1 p).2.2 b.toNatClampNeg)) ∧ fr_out w w1 hb (hb + 25)) := by
  obtain ⟨e1, e2, e3, e4, e5, e6, e7, hdr, hdl, hap⟩ := id hk
  obtain ⟨r1, r2, r3, r4, r5, r6, r7, r8, r9⟩ := id hdr
  obtain ⟨l1, l2, l3, l4, l5, l6, l7, l8, l9⟩ := id hdl
  obtain ⟨g1, g2, g3, g4, g5, g6⟩ := id hR
  obtain ⟨⟨sp, i1, i2, i3, i4⟩, i5, i6, i7, i8, i9, i10, i11, i12⟩ := id hI
  obtain ⟨ha0, ⟨a1, a2, a3, a4, a5⟩⟩ := hap p hp
  have loop : ∀ (m k : Nat) (w1 : pm_W) (S1 : ab_S) (at_ : Int32), k + m = r → S1.2.2.1 = S.2.2.1 → hs_R w1 hb S1 → ab_I S1 → (at_ = -1 ∨ (0 ≤ at_ ∧ at_ ≤ 63)) → fr_out w w1 hb (hb + 25) → pm_R L MX3_wishWhatFollowed 18 [some (.ref hb), some (.int (nI p)), some (.int b), some (.ref (hb + 13 + 3 * p)), some (.int at_), some (.int (nI k))] [] w1 (pm_qv fun w2 => hs_R w2 hb (ab_wf m S1 p at_) ∧ fr_out w w2 hb (hb + 25)) := by
    intro m
    induction m with
    | zero =>
      intro k w1 S1 at_ hkm hak hR1 hI1 hat hf1
      refine pm_iload dX3_wishWhatFollowed_18 rfl ?_
      refine pm_aload_n dX3_wishWhatFollowed_20 rfl ?_
      refine pm_getI (ci := 0) (j := 3) (n := 10) (by first | assumption | rfl) (by decide) (by decide) rfl fl_RX3_163 rfl dX3_wishWhatFollowed_21 ?_
      rw [show w1.1 (hb + 13 + 3 * p) 3 = nI r from ((hR1.2.2.1 p hp).1 3 (by decide) (by decide)).trans (by rw [hak]; exact hr)]
      refine pm_icmp_ge (tgt := 55) dX3_wishWhatFollowed_24 (by decide) (fun c24 => ?_) (fun c24 => absurd (by rw [nI_leI (by omega) (by omega)]; omega) c24)
      refine pm_vret dX3_wishWhatFollowed_55 rfl ?_
      exact ⟨hR1, hf1⟩
    | succ m ih =>
      intro k w1 S1 at_ hkm hak hR1 hI1 hat hf1
      refine pm_iload dX3_wishWhatFollowed_18 rfl ?_
      refine pm_aload_n dX3_wishWhatFollowed_20 rfl ?_
      refine pm_getI (ci := 0) (j := 3) (n := 10) (by first | assumption | rfl) (by decide) (by decide) rfl fl_RX3_163 rfl dX3_wishWhatFollowed_21 ?_
      rw [show w1.1 (hb + 13 + 3 * p) 3 = nI r from ((hR1.2.2.1 p hp).1 3 (by decide) (by decide)).trans (by rw [hak]; exact hr)]
      refine pm_icmp_ge (tgt := 55) dX3_wishWhatFollowed_24 (by decide) (fun c24 => absurd c24 (by rw [nI_leI (by omega) (by omega)]; omega)) (fun c24 => ?_)
      refine pm_iload dX3_wishWhatFollowed_27 rfl ?_
      refine pm_iconst (x := -1) dX3_wishWhatFollowed_29 rfl ?_
      refine pm_icmp_eq (tgt := 55) dX3_wishWhatFollowed_30 (by decide) (fun c30 => ?_) (fun c30 => ?_)
      · refine pm_vret dX3_wishWhatFollowed_55 rfl ?_
        rw [ab_wf, if_pos c30]
        exact ⟨hR1, hf1⟩
      · have hatr := hat.resolve_left c30
        refine pm_aload_n dX3_wishWhatFollowed_33 rfl ?_
        refine pm_iload_n dX3_wishWhatFollowed_34 rfl ?_
        refine pm_iload dX3_wishWhatFollowed_35 rfl ?_
        refine pm_cVv (as := [.int _, .int _]) (by first | assumption | rfl) (by decide) rfl ml_RX3_189 (by decide) (Nat.le_of_ble_eq_true rfl) dX3_wishWhatFollowed_37 (c_X3_wishOne hk hR1 hI1 hp _) (fun w2 hq => ?_)
        obtain ⟨hR2, hf2⟩ := hq
        refine pm_aload_n dX3_wishWhatFollowed_40 rfl ?_
        refine pm_getR (ci := 0) (j := 1) (n := 10) (by first | assumption | rfl) (by decide) (by decide) rfl fl_RX3_192 rfl (by first | assumption | rfl) dX3_wishWhatFollowed_41 ?_
        refine pm_iload dX3_wishWhatFollowed_44 rfl ?_
        refine pm_iald (by first | assumption | rfl) (by exact ix_in hatr (by decide)) dX3_wishWhatFollowed_46 ?_
        rw [show w2.1 (hb + 13 + 3 * p + 2) at_.toNatClampNeg = (S1.2.2.1 p).2.2 at_.toNatClampNeg by rw [(hR2.2.2.1 p hp).2.2 _ (ix_lt hatr (by decide)), w1_ask]]
        refine pm_istore (lv' := [some (.ref _), some (.int _), some (.int _), some (.ref _), some (.int _), some (.int _)]) dX3_wishWhatFollowed_47 (by decide) rfl ?_
        refine pm_iinc (y := _ + 1) (lv' := [some (.ref _), some (.int _), some (.int _), some (.ref _), some (.int _), some (.int _)]) dX3_wishWhatFollowed_49 rfl rfl (by decide) rfl ?_
        refine pm_goto (tgt := 18) dX3_wishWhatFollowed_52 (by decide) ?_
        rw [nI_1, ab_wf, if_neg c30]
        exact ih (k + 1) _ _ _ (by omega) (by rw [w1_ask]; exact hak) hR2 (I_w1 hI1 hp _) ((hI1.2.2.2.2.2.1 p hp).2.1 _ (ix_lt hatr (by decide))) (fr_tr hf1 hf2)
  refine pm_start (lv := [some (.ref _), some (.int _), some (.int _), none, none, none]) (plainFor_of_name pf3) (Nat.le_of_ble_eq_true rfl) rfl ?_
  refine pm_aload_n dX3_wishWhatFollowed_0 rfl ?_
  refine pm_getR (ci := 3) (j := 2) (n := 11) (by first | assumption | rfl) (by decide) (by decide) rfl fl_RX3_25 rfl (by first | assumption | rfl) dX3_wishWhatFollowed_1 ?_
  refine pm_iload_n dX3_wishWhatFollowed_4 rfl ?_
  refine pm_kaldN (by first | assumption | rfl) (by first | assumption | omega | decide) (by first | decide | omega) (by first | assumption | rfl) dX3_wishWhatFollowed_5 ?_
  refine pm_astore_n (lv' := [some (.ref _), some (.int _), some (.int _), some (.ref _), none, none]) dX3_wishWhatFollowed_6 (by decide) rfl ?_
  refine pm_aload_n dX3_wishWhatFollowed_7 rfl ?_
  refine pm_getR (ci := 0) (j := 1) (n := 10) (by first | assumption | rfl) (by decide) (by decide) rfl fl_RX3_192 rfl (by first | assumption | rfl) dX3_wishWhatFollowed_8 ?_
  refine pm_iload_n dX3_wishWhatFollowed_11 rfl ?_
  refine pm_iald (by first | assumption | rfl) (by exact ix_in hb3 (by decide)) dX3_wishWhatFollowed_12 ?_
  rw [(g3 p hp).2.2 _ (ix_lt hb3 (by decide))]
  refine pm_istore (lv' := [some (.ref _), some (.int _), some (.int _), some (.ref _), some (.int _), none]) dX3_wishWhatFollowed_13 (by decide) rfl ?_
  refine pm_iconst (x := 0) dX3_wishWhatFollowed_15 rfl ?_
  refine pm_istore (lv' := [some (.ref _), some (.int _), some (.int _), some (.ref _), some (.int _), some (.int _)]) dX3_wishWhatFollowed_16 (by decide) rfl ?_
  exact loop r 0 w S _ (by omega) rfl hR hI ((i9 p hp).2.1 _ (ix_lt hb3 (by decide))) (fr_rf _ _ _)

