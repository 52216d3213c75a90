theorem as_inc {w : pm_W} {a : Nat} {A : ab_A} (h : as_R w a A) (j : Nat) : as_R (pm_s w (a + 1) (upd (w.1 (a + 1)) j (w.1 (a + 1) j + 1))) a (ab_inc A j) := by
  obtain ⟨h1, h2, h3⟩ := h
  refine ⟨fun t q1 q2 => by rw [pm_s_ne (by omega)]; exact h1 t q1 q2, fun t q => ?_, fun t q => by rw [pm_s_ne (by omega)]; exact h3 t q⟩
  rw [pm_s_at]
  by_cases ht : t = j
  · subst ht
    rw [pk_us]
    show _ = upd A.2.1 t (A.2.1 t + 1) t
    rw [pk_us, h2 t q]
  · rw [pk_un ht]
    show _ = upd A.2.1 j (A.2.1 j + 1) t
    rw [pk_un ht]
    exact h2 t q

set_option maxRecDepth 4000 in
theorem c_X3_turnAway {L : pm_L} {hb : Nat} (hk : hs_ok L hb) {w : pm_W} {S : ab_S} (hR : hs_R w hb S) (hI : ab_I S) {p : Nat} (hp : p < 4) (f : Int32) : pm_C L MX3_turnAway [.ref hb, .int (nI p), .int f] w (pm_qv fun w1 => hs_R w1 hb (S.1, S.2.1, ab_ta S.2.2.1 p f, S.2.2.2) ∧ fr_out w w1 hb (hb + 25)) := by
  obtain ⟨e1, e2, e3, e4, e5, e6, e7, hdr, hdl, hap⟩ := id hk
  obtain ⟨r1, r2, r3, r4, r5, r6, r7, r8, r9⟩ := id hdr
  obtain ⟨l1, l2, l3, l4, l5, l6, l7, l8, l9⟩ := id hdl
  obtain ⟨g1, g2, g3, g4, g5, g6⟩ := id hR
  obtain ⟨⟨sp, i1, i2, i3, i4⟩, i5, i6, i7, i8, i9, i10, i11, i12⟩ := id hI
  obtain ⟨ha0, ⟨a1, a2, a3, a4, a5⟩⟩ := hap p hp
  refine pm_start (lv := [some (.ref _), some (.int _), some (.int _)]) (plainFor_of_name pf3) (Nat.le_of_ble_eq_true rfl) rfl ?_
  refine pm_iload_n dX3_turnAway_0 rfl ?_
  refine pm_iconst (x := 1) dX3_turnAway_1 rfl ?_
  refine pm_icmp_ne (tgt := 17) dX3_turnAway_2 (by decide) (fun c2 => ?_) (fun c2 => ?_)
  · refine pm_aload_n dX3_turnAway_17 rfl ?_
    refine pm_getR (ci := 3) (j := 2) (n := 11) (by first | assumption | rfl) (by decide) (by decide) rfl fl_RX3_25 rfl (by first | assumption | rfl) dX3_turnAway_18 ?_
    refine pm_iload_n dX3_turnAway_21 rfl ?_
    refine pm_kaldN (by first | assumption | rfl) (by first | assumption | omega | decide) (by first | decide | omega) (by first | assumption | rfl) dX3_turnAway_22 ?_
    refine pm_getR (ci := 0) (j := 0) (n := 10) (by first | assumption | rfl) (by decide) (by decide) rfl fl_RX3_82 rfl (by first | assumption | rfl) dX3_turnAway_23 ?_
    refine pm_bipush (x := nI 6) dX3_turnAway_26 rfl ?_
    refine pm_dup2 dX3_turnAway_28 rfl rfl ?_
    refine pm_ialdN (by first | assumption | rfl) (by first | assumption | omega | decide) (by first | decide | omega) dX3_turnAway_29 ?_
    refine pm_iconst (x := 1) dX3_turnAway_30 rfl ?_
    refine pm_iadd dX3_turnAway_31 ?_
    refine pm_iastN (by first | assumption | rfl) (by first | assumption | omega | decide) (by first | decide | omega) dX3_turnAway_32 ?_
    refine pm_vret dX3_turnAway_33 rfl ?_
    refine ⟨?_, fr_s (by omega) (by omega)⟩
    rw [ab_ta, if_neg c2]
    exact hs_ask hR hp (as_inc (g3 p hp) 6) (fr_s (by omega) (by omega))
  · refine pm_aload_n dX3_turnAway_5 rfl ?_
    refine pm_getR (ci := 3) (j := 2) (n := 11) (by first | assumption | rfl) (by decide) (by decide) rfl fl_RX3_25 rfl (by first | assumption | rfl) dX3_turnAway_6 ?_
    refine pm_iload_n dX3_turnAway_9 rfl ?_
    refine pm_kaldN (by first | assumption | rfl) (by first | assumption | omega | decide) (by first | decide | omega) (by first | assumption | rfl) dX3_turnAway_10 ?_
    refine pm_cVv (as := []) (by first | assumption | rfl) (by decide) rfl ml_RX3_157 (by decide) (Nat.le_of_ble_eq_true rfl) dX3_turnAway_11 (c_X0_countWasted (hap p hp).2 (g3 p hp)) (fun w1 hq => ?_)
    obtain ⟨q1, -, q3⟩ := hq
    refine pm_goto (tgt := 33) dX3_turnAway_14 (by decide) ?_
    refine pm_vret dX3_turnAway_33 rfl ?_
    refine ⟨?_, fr_wd q3 (by omega) (by omega)⟩
    rw [ab_ta, if_pos c2]
    exact hs_ask hR hp q1 q3

set_option maxRecDepth 4000 in
theorem c_X3_letGo {L : pm_L} {hb : Nat} (hk : hs_ok L hb) {w : pm_W} {S : ab_S} (hR : hs_R w hb S) (hI : ab_I S) {i : Nat} {e : ab_E} (hi : S.1[i]? = some e) : pm_C L MX3_letGo [.ref hb, .int (nI i)] w (pm_qv fun w1 => hs_R w1 hb (S.1.eraseIdx i, S.2.1, ab_wa S.2.2.1 e, S.2.2.2) ∧ fr_out w w1 hb (hb + 25)) := by
  obtain ⟨e1, e2, e3, e4, e5, e6, e7, hdr, hdl, hap⟩ := id hk
  obtain ⟨r1, r2, r3, r4, r5, r6, r7, r8, r9⟩ := id hdr
  obtain ⟨l1, l2, l3, l4, l5, l6, l7, l8, l9⟩ := id hdl
  obtain ⟨g1, g2, g3, g4, g5, g6⟩ := id hR
  obtain ⟨⟨sp, i1, i2, i3, i4⟩, i5, i6, i7, i8, i9, i10, i11, i12⟩ := id hI
  have hil : i < S.1.length := (List.getElem?_eq_some_iff.mp hi).1
  have heo := i6 e (List.mem_of_getElem? hi)
  have heo4 : e.2.1 < 4 := heo.1
  obtain ⟨ha0, ⟨a1, a2, a3, a4, a5⟩⟩ := hap e.2.1 heo.1
  have hgi := g1.2.1 i e hi
  refine pm_start (lv := [some (.ref _), some (.int _)]) (plainFor_of_name pf3) (Nat.le_of_ble_eq_true rfl) rfl ?_
  refine pm_aload_n dX3_letGo_0 rfl ?_
  refine pm_getR (ci := 3) (j := 0) (n := 11) (by first | assumption | rfl) (by decide) (by decide) rfl fl_RX3_14 rfl (by first | assumption | rfl) dX3_letGo_1 ?_
  refine pm_getR (ci := 2) (j := 2) (n := 5) (by first | assumption | rfl) (by decide) (by decide) rfl fl_RX3_111 rfl (by first | assumption | rfl) dX3_letGo_4 ?_
  refine pm_iload_n dX3_letGo_7 rfl ?_
  refine pm_ialdN (by first | assumption | rfl) (by first | assumption | omega | decide) (by first | decide | omega) dX3_letGo_8 ?_
  rw [hgi.2.2]
  refine pm_iconst (x := 1) dX3_letGo_9 rfl ?_
  refine pm_icmp_ne (tgt := 30) dX3_letGo_10 (by decide) (fun c10 => ?_) (fun c10 => ?_)
  · refine pm_aload_n dX3_letGo_30 rfl ?_
    refine pm_getR (ci := 3) (j := 0) (n := 11) (by first | assumption | rfl) (by decide) (by decide) rfl fl_RX3_14 rfl (by first | assumption | rfl) dX3_letGo_31 ?_
    refine pm_iload_n dX3_letGo_34 rfl ?_
    refine pm_cVv (as := [.int _]) (by first | assumption | rfl) (by decide) rfl ml_RX3_117 (by decide) (Nat.le_of_ble_eq_true rfl) dX3_letGo_35 (c_X2_remove hdr (by decide) (l := S.1) g1 (by omega) hi heo.1) (fun w1 hq => ?_)
    obtain ⟨p1, p2⟩ := hq
    refine pm_vret dX3_letGo_38 rfl ?_
    refine ⟨?_, fr_wd p2 (by omega) (by omega)⟩
    rw [ab_wa, if_neg c10]
    exact hs_room hR p1 p2
  · refine pm_aload_n dX3_letGo_13 rfl ?_
    refine pm_getR (ci := 3) (j := 2) (n := 11) (by first | assumption | rfl) (by decide) (by decide) rfl fl_RX3_25 rfl (by first | assumption | rfl) dX3_letGo_14 ?_
    refine pm_aload_n dX3_letGo_17 rfl ?_
    refine pm_getR (ci := 3) (j := 0) (n := 11) (by first | assumption | rfl) (by decide) (by decide) rfl fl_RX3_14 rfl (by first | assumption | rfl) dX3_letGo_18 ?_
    refine pm_getR (ci := 2) (j := 1) (n := 5) (by first | assumption | rfl) (by decide) (by decide) rfl fl_RX3_108 rfl (by first | assumption | rfl) dX3_letGo_21 ?_
    refine pm_iload_n dX3_letGo_24 rfl ?_
    refine pm_ialdN (by first | assumption | rfl) (by first | assumption | omega | decide) (by first | decide | omega) dX3_letGo_25 ?_
    rw [hgi.2.1]
    refine pm_kaldN (by first | assumption | rfl) (by first | assumption | omega | decide) (by first | decide | omega) (by first | assumption | rfl) dX3_letGo_26 ?_
    refine pm_cVv (as := []) (by first | assumption | rfl) (by decide) rfl ml_RX3_157 (by decide) (Nat.le_of_ble_eq_true rfl) dX3_letGo_27 (c_X0_countWasted (hap e.2.1 heo.1).2 (g3 e.2.1 heo.1)) (fun w1 hq => ?_)
    obtain ⟨q1, -, q3⟩ := hq
    have hR2 := hs_ask hR heo.1 q1 q3
    refine pm_aload_n dX3_letGo_30 rfl ?_
    refine pm_getR (ci := 3) (j := 0) (n := 11) (by first | assumption | rfl) (by decide) (by decide) rfl fl_RX3_14 rfl (by first | assumption | rfl) dX3_letGo_31 ?_
    refine pm_iload_n dX3_letGo_34 rfl ?_
    refine pm_cVv (as := [.int _]) (by first | assumption | rfl) (by decide) rfl ml_RX3_117 (by decide) (Nat.le_of_ble_eq_true rfl) dX3_letGo_35 (c_X2_remove hdr (by decide) (l := S.1) hR2.1 (by omega) hi heo.1) (fun w1 hq => ?_)
    obtain ⟨p1, p2⟩ := hq
    refine pm_vret dX3_letGo_38 rfl ?_
    refine ⟨?_, fr_tr (fr_wd q3 (by omega) (by omega)) (fr_wd p2 (by omega) (by omega))⟩
    rw [ab_wa, if_pos c10]
    exact hs_room hR2 p1 p2

theorem lv_first {l : List ab_E} {f : ab_E → Bool} {i : Nat} {e : ab_E} (hi : l[i]? = some e) (hf : f e = true) (hno : ∀ (j : Nat) (x : ab_E), j < i → l[j]? = some x → f x = false) : l.findIdx f = i := by
  have hl := (List.getElem?_eq_some_iff.mp hi).1
  rw [List.findIdx_eq hl]
  refine ⟨?_, fun j hj => ?_⟩
  · rw [(List.getElem?_eq_some_iff.mp hi).2]; exact hf
  · exact hno j _ hj (List.getElem?_eq_getElem (by omega))
theorem lv_none {l : List ab_E} {f : ab_E → Bool} (hno : ∀ (j : Nat) (x : ab_E), j < l.length → l[j]? = some x → f x = false) : l.findIdx f = l.length := by
  rw [List.findIdx_eq_length]
  intro x hx
  obtain ⟨j, hj⟩ := List.getElem?_of_mem hx
  exact hno j x (List.getElem?_eq_some_iff.mp hj).1 hj
theorem no_succ {l : List ab_E} {f : ab_E → Bool} {i : Nat} {e : ab_E} (h : ∀ (j : Nat) (x : ab_E), j < i → l[j]? = some x → f x = false) (hi : l[i]? = some e) (hf : f e = false) : ∀ (j : Nat) (x : ab_E), j < i + 1 → l[j]? = some x → f x = false := by
  intro j x hj hx
  by_cases hji : j = i
  · subst hji
    rw [hi] at hx
    cases hx
    exact hf
  · exact h j x (by omega) hx
set_option maxRecDepth 4000 in
theorem c_X3_leaver {L : pm_L} {hb : Nat} (hk : hs_ok L hb) {w : pm_W} {S : ab_S} (hR : hs_R w hb S) (hI : ab_I S) {p : Nat} (hp : p < 4) : pm_C L MX3_leaver [.ref hb, .int (nI p)] w (pm_qi fun r w1 => r = ab_enc (ab_lv S.1 S.2.2.1 p) S.1.length ∧ w1 = w) := by
  obtain ⟨e1, e2, e3, e4, e5, e6, e7, hdr, hdl, hap⟩ := id hk
  obtain ⟨r1, r2, r3, r4, r5, r6, r7, r8, r9⟩ := id hdr
  obtain ⟨l1, l2, l3, l4, l5, l6, l7, l8, l9⟩ := id hdl
  obtain ⟨g1, g2, g3, g4, g5, g6⟩ := id hR
  obtain ⟨⟨sp, i1, i2, i3, i4⟩, i5, i6, i7, i8, i9, i10, i11, i12⟩ := id hI
  have loop : ∀ i, i ≤ S.1.length → ∀ o : Int32, (∀ (j : Nat) (e : ab_E), j < i → S.1[j]? = some e → ab_gl S.1 S.2.2.1 p e = false) ∧ ((o = -1 ∧ ∀ (j : Nat) (e : ab_E), j < i → S.1[j]? = some e → ab_mg S.1 S.2.2.1 p e = false) ∨ ∃ (k : Nat) (x : ab_E), k < i ∧ o = nI k ∧ S.1[k]? = some x ∧ ab_mg S.1 S.2.2.1 p x = true ∧ ∀ (j : Nat) (e : ab_E), j < k → S.1[j]? = some e → ab_mg S.1 S.2.2.1 p e = false) → pm_R L MX3_leaver 4 [some (.ref hb), some (.int (nI p)), some (.int o), some (.int (nI i)), none] [] w (pm_qi fun r w1 => r = ab_enc (ab_lv S.1 S.2.2.1 p) S.1.length ∧ w1 = w) := by
    refine up_loop S.1.length (fun i hi ih o hinv => ?_)
    obtain ⟨h1, h2⟩ := hinv
    refine pm_iload_n dX3_leaver_4 rfl ?_
    refine pm_aload_n dX3_leaver_5 rfl ?_
    refine pm_getR (ci := 3) (j := 0) (n := 11) (by first | assumption | rfl) (by decide) (by decide) rfl fl_RX3_14 rfl (by first | assumption | rfl) dX3_leaver_6 ?_
    refine pm_getI (ci := 2) (j := 4) (n := 5) (by first | assumption | rfl) (by decide) (by decide) rfl fl_RX3_135 rfl dX3_leaver_9 ?_
    rw [g1.1]
    refine pm_icmp_ge (tgt := 92) dX3_leaver_12 (by decide) (fun c12 => ?_) (fun c12 => ?_)
    · refine pm_iload_n dX3_leaver_92 rfl ?_
      refine pm_iret dX3_leaver_93 rfl ?_
      rw [nI_leI (by omega) (by omega)] at c12
      have hi2 : i = S.1.length := by omega
      subst hi2
      refine ⟨?_, rfl⟩
      have hf := lv_none h1
      rw [ab_lv, hf, if_neg (by omega)]
      rcases h2 with ⟨h2, h3⟩ | ⟨k, x, k1, k2, k3, k4, k5⟩
      · rw [lv_none h3, ab_enc, if_neg (by omega)]; exact h2
      · rw [lv_first k3 k4 k5, ab_enc, if_pos k1]; exact k2
    · have hlt : i < S.1.length := by
        rw [nI_leI (by omega) (by omega)] at c12
        omega
      have hei : S.1[i]? = some S.1[i] := List.getElem?_eq_getElem hlt
      generalize S.1[i] = e at hei
      have heo := i6 e (List.mem_of_getElem? hei)
      have heo4 : e.2.1 < 4 := heo.1
      obtain ⟨ha0, ⟨a1, a2, a3, a4, a5⟩⟩ := hap e.2.1 heo.1
      have hgi := g1.2.1 i e hei
      refine pm_aload_n dX3_leaver_15 rfl ?_
      refine pm_getR (ci := 3) (j := 0) (n := 11) (by first | assumption | rfl) (by decide) (by decide) rfl fl_RX3_14 rfl (by first | assumption | rfl) dX3_leaver_16 ?_
      refine pm_getR (ci := 2) (j := 1) (n := 5) (by first | assumption | rfl) (by decide) (by decide) rfl fl_RX3_108 rfl (by first | assumption | rfl) dX3_leaver_19 ?_
      refine pm_iload_n dX3_leaver_22 rfl ?_
      refine pm_ialdN (by first | assumption | rfl) (by first | assumption | omega | decide) (by first | decide | omega) dX3_leaver_23 ?_
      rw [hgi.2.1]
      refine pm_istore (lv' := [some (.ref _), some (.int _), some (.int _), some (.int _), some (.int _)]) dX3_leaver_24 (by decide) rfl ?_
      refine pm_iload dX3_leaver_26 rfl ?_
      refine pm_iload_n dX3_leaver_28 rfl ?_
      refine pm_icmp_eq (tgt := 55) dX3_leaver_29 (by decide) (fun c29 => ?_) (fun c29 => ?_)
      · refine pm_aload_n dX3_leaver_55 rfl ?_
        refine pm_getR (ci := 3) (j := 2) (n := 11) (by first | assumption | rfl) (by decide) (by decide) rfl fl_RX3_25 rfl (by first | assumption | rfl) dX3_leaver_56 ?_
        refine pm_iload dX3_leaver_59 rfl ?_
        refine pm_kaldN (by first | assumption | rfl) (by first | assumption | omega | decide) (by first | decide | omega) (by first | assumption | rfl) dX3_leaver_61 ?_
        refine pm_aload_n dX3_leaver_62 rfl ?_
        refine pm_getR (ci := 3) (j := 0) (n := 11) (by first | assumption | rfl) (by decide) (by decide) rfl fl_RX3_14 rfl (by first | assumption | rfl) dX3_leaver_63 ?_
        refine pm_getR (ci := 2) (j := 0) (n := 5) (by first | assumption | rfl) (by decide) (by decide) rfl fl_RX3_105 rfl (by first | assumption | rfl) dX3_leaver_66 ?_
        refine pm_iload_n dX3_leaver_69 rfl ?_
        refine pm_ialdN (by first | assumption | rfl) (by first | assumption | omega | decide) (by first | decide | omega) dX3_leaver_70 ?_
        rw [hgi.1]
        refine pm_cVi (as := [.int _]) (by first | assumption | rfl) (by decide) rfl ml_RX3_153 (by decide) (Nat.le_of_ble_eq_true rfl) dX3_leaver_71 (c_X0_hasLeft (hap e.2.1 heo.1).2 (g3 e.2.1 heo.1) _) (fun x1 w1 hq => ?_)
        obtain ⟨rfl, rfl⟩ := hq
        refine pm_if_eq (tgt := 79) dX3_leaver_74 (by decide) (fun c74 => ?_) (fun c74 => ?_)
        · refine pm_iload_n dX3_leaver_79 rfl ?_
          refine pm_iconst (x := -1) dX3_leaver_80 rfl ?_
          refine pm_icmp_ne (tgt := 86) dX3_leaver_81 (by decide) (fun c81 => ?_) (fun c81 => ?_)
          · refine pm_iinc (y := _ + 1) (lv' := [some (.ref _), some (.int _), some (.int _), some (.int _), some (.int _)]) dX3_leaver_86 rfl rfl (by decide) rfl ?_
            refine pm_goto (tgt := 4) dX3_leaver_89 (by decide) ?_
            refine pm_fg (lv' := [some (.ref _), some (.int _), some (.int _), some (.int _), none]) (pm_le_k rfl (pm_le_k rfl (pm_le_k rfl (pm_le_k rfl (pm_le_n pm_le_0))))) ?_
            have hmg : ab_mg S.1 S.2.2.1 p e = true := by
              have := (nI_eq (by omega) (by omega)).mp c29
              simp [ab_mg, this]
            rw [pm_z_0] at c74
            have hgl : ab_gl S.1 S.2.2.1 p e = false := by
              rw [ab_gl, c74, Bool.and_false]
            rw [nI_1]
            refine ih hlt _ ⟨no_succ h1 hei hgl, ?_⟩
            rcases h2 with ⟨h2, h3⟩ | ⟨k, x, k1, k2, k3, k4, k5⟩
            · exact absurd h2 c81
            · exact Or.inr ⟨k, x, by omega, k2, k3, k4, k5⟩
          · refine pm_iload_n dX3_leaver_84 rfl ?_
            refine pm_istore_n (lv' := [some (.ref _), some (.int _), some (.int _), some (.int _), some (.int _)]) dX3_leaver_85 (by decide) rfl ?_
            refine pm_iinc (y := _ + 1) (lv' := [some (.ref _), some (.int _), some (.int _), some (.int _), some (.int _)]) dX3_leaver_86 rfl rfl (by decide) rfl ?_
            refine pm_goto (tgt := 4) dX3_leaver_89 (by decide) ?_
            refine pm_fg (lv' := [some (.ref _), some (.int _), some (.int _), some (.int _), none]) (pm_le_k rfl (pm_le_k rfl (pm_le_k rfl (pm_le_k rfl (pm_le_n pm_le_0))))) ?_
            have hmg : ab_mg S.1 S.2.2.1 p e = true := by
              have := (nI_eq (by omega) (by omega)).mp c29
              simp [ab_mg, this]
            rw [pm_z_0] at c74
            have hgl : ab_gl S.1 S.2.2.1 p e = false := by
              rw [ab_gl, c74, Bool.and_false]
            rw [nI_1]
            refine ih hlt _ ⟨no_succ h1 hei hgl, ?_⟩
            rcases h2 with ⟨h2, h3⟩ | ⟨k, x, k1, k2, k3, k4, k5⟩
            · exact Or.inr ⟨i, e, by omega, rfl, hei, hmg, h3⟩
            · exact absurd (k2.symm.trans c81) (nI_ne_m1 (by omega))
        · refine pm_iload_n dX3_leaver_77 rfl ?_
          refine pm_iret dX3_leaver_78 rfl ?_
          have hmg : ab_mg S.1 S.2.2.1 p e = true := by
            have := (nI_eq (by omega) (by omega)).mp c29
            simp [ab_mg, this]
          rw [pm_z_1] at c74
          have hgl : ab_gl S.1 S.2.2.1 p e = true := by
            rw [ab_gl, hmg, c74]; rfl
          refine ⟨?_, rfl⟩
          have hf := lv_first hei hgl h1
          have : ab_lv S.1 S.2.2.1 p = i := by rw [ab_lv, hf, if_pos hlt]
          rw [this, ab_enc, if_pos hlt]
      · refine pm_aload_n dX3_leaver_32 rfl ?_
        refine pm_getR (ci := 3) (j := 0) (n := 11) (by first | assumption | rfl) (by decide) (by decide) rfl fl_RX3_14 rfl (by first | assumption | rfl) dX3_leaver_33 ?_
        refine pm_getR (ci := 2) (j := 3) (n := 5) (by first | assumption | rfl) (by decide) (by decide) rfl fl_RX3_147 rfl (by first | assumption | rfl) dX3_leaver_36 ?_
        refine pm_iload dX3_leaver_39 rfl ?_
        refine pm_ialdN (by first | assumption | rfl) (by first | assumption | omega | decide) (by first | decide | omega) dX3_leaver_41 ?_
        rw [g1.2.2 e.2.1 heo.1]
        refine pm_aload_n dX3_leaver_42 rfl ?_
        refine pm_getR (ci := 3) (j := 2) (n := 11) (by first | assumption | rfl) (by decide) (by decide) rfl fl_RX3_25 rfl (by first | assumption | rfl) dX3_leaver_43 ?_
        refine pm_iload dX3_leaver_46 rfl ?_
        refine pm_kaldN (by first | assumption | rfl) (by first | assumption | omega | decide) (by first | decide | omega) (by first | assumption | rfl) dX3_leaver_48 ?_
        refine pm_getI (ci := 0) (j := 4) (n := 10) (by first | assumption | rfl) (by decide) (by decide) rfl fl_RX3_150 rfl dX3_leaver_49 ?_
        rw [(g3 e.2.1 heo.1).1 4 (by decide) (by decide)]
        refine pm_icmp_le (tgt := 86) dX3_leaver_52 (by decide) (fun c52 => ?_) (fun c52 => ?_)
        · refine pm_iinc (y := _ + 1) (lv' := [some (.ref _), some (.int _), some (.int _), some (.int _), some (.int _)]) dX3_leaver_86 rfl rfl (by decide) rfl ?_
          refine pm_goto (tgt := 4) dX3_leaver_89 (by decide) ?_
          refine pm_fg (lv' := [some (.ref _), some (.int _), some (.int _), some (.int _), none]) (pm_le_k rfl (pm_le_k rfl (pm_le_k rfl (pm_le_k rfl (pm_le_n pm_le_0))))) ?_
          have hmg : ab_mg S.1 S.2.2.1 p e = false := by
            have q1 : ¬ e.2.1 = p := fun h => c29 (by rw [h])
            have q2 := Int32.not_lt.mpr c52
            simp [ab_mg, q1, q2]
          have hgl : ab_gl S.1 S.2.2.1 p e = false := by
            rw [ab_gl, hmg]; rfl
          rw [nI_1]
          refine ih hlt _ ⟨no_succ h1 hei hgl, ?_⟩
          rcases h2 with ⟨h2, h3⟩ | ⟨k, x, k1, k2, k3, k4, k5⟩
          · exact Or.inl ⟨h2, no_succ h3 hei hmg⟩
          · exact Or.inr ⟨k, x, by omega, k2, k3, k4, k5⟩
        · refine pm_aload_n dX3_leaver_55 rfl ?_
          refine pm_getR (ci := 3) (j := 2) (n := 11) (by first | assumption | rfl) (by decide) (by decide) rfl fl_RX3_25 rfl (by first | assumption | rfl) dX3_leaver_56 ?_
          refine pm_iload dX3_leaver_59 rfl ?_
          refine pm_kaldN (by first | assumption | rfl) (by first | assumption | omega | decide) (by first | decide | omega) (by first | assumption | rfl) dX3_leaver_61 ?_
          refine pm_aload_n dX3_leaver_62 rfl ?_
          refine pm_getR (ci := 3) (j := 0) (n := 11) (by first | assumption | rfl) (by decide) (by decide) rfl fl_RX3_14 rfl (by first | assumption | rfl) dX3_leaver_63 ?_
          refine pm_getR (ci := 2) (j := 0) (n := 5) (by first | assumption | rfl) (by decide) (by decide) rfl fl_RX3_105 rfl (by first | assumption | rfl) dX3_leaver_66 ?_
          refine pm_iload_n dX3_leaver_69 rfl ?_
          refine pm_ialdN (by first | assumption | rfl) (by first | assumption | omega | decide) (by first | decide | omega) dX3_leaver_70 ?_
          rw [hgi.1]
          refine pm_cVi (as := [.int _]) (by first | assumption | rfl) (by decide) rfl ml_RX3_153 (by decide) (Nat.le_of_ble_eq_true rfl) dX3_leaver_71 (c_X0_hasLeft (hap e.2.1 heo.1).2 (g3 e.2.1 heo.1) _) (fun x1 w1 hq => ?_)
          obtain ⟨rfl, rfl⟩ := hq
          refine pm_if_eq (tgt := 79) dX3_leaver_74 (by decide) (fun c74 => ?_) (fun c74 => ?_)
          · refine pm_iload_n dX3_leaver_79 rfl ?_
            refine pm_iconst (x := -1) dX3_leaver_80 rfl ?_
            refine pm_icmp_ne (tgt := 86) dX3_leaver_81 (by decide) (fun c81 => ?_) (fun c81 => ?_)
            · refine pm_iinc (y := _ + 1) (lv' := [some (.ref _), some (.int _), some (.int _), some (.int _), some (.int _)]) dX3_leaver_86 rfl rfl (by decide) rfl ?_
              refine pm_goto (tgt := 4) dX3_leaver_89 (by decide) ?_
              refine pm_fg (lv' := [some (.ref _), some (.int _), some (.int _), some (.int _), none]) (pm_le_k rfl (pm_le_k rfl (pm_le_k rfl (pm_le_k rfl (pm_le_n pm_le_0))))) ?_
              have hmg : ab_mg S.1 S.2.2.1 p e = true := by
                have := Int32.not_le.mp c52
                simp [ab_mg, this]
              rw [pm_z_0] at c74
              have hgl : ab_gl S.1 S.2.2.1 p e = false := by
                rw [ab_gl, c74, Bool.and_false]
              rw [nI_1]
              refine ih hlt _ ⟨no_succ h1 hei hgl, ?_⟩
              rcases h2 with ⟨h2, h3⟩ | ⟨k, x, k1, k2, k3, k4, k5⟩
              · exact absurd h2 c81
              · exact Or.inr ⟨k, x, by omega, k2, k3, k4, k5⟩
            · refine pm_iload_n dX3_leaver_84 rfl ?_
              refine pm_istore_n (lv' := [some (.ref _), some (.int _), some (.int _), some (.int _), some (.int _)]) dX3_leaver_85 (by decide) rfl ?_
              refine pm_iinc (y := _ + 1) (lv' := [some (.ref _), some (.int _), some (.int _), some (.int _), some (.int _)]) dX3_leaver_86 rfl rfl (by decide) rfl ?_
              refine pm_goto (tgt := 4) dX3_leaver_89 (by decide) ?_
              refine pm_fg (lv' := [some (.ref _), some (.int _), some (.int _), some (.int _), none]) (pm_le_k rfl (pm_le_k rfl (pm_le_k rfl (pm_le_k rfl (pm_le_n pm_le_0))))) ?_
              have hmg : ab_mg S.1 S.2.2.1 p e = true := by
                have := Int32.not_le.mp c52
                simp [ab_mg, this]
              rw [pm_z_0] at c74
              have hgl : ab_gl S.1 S.2.2.1 p e = false := by
                rw [ab_gl, c74, Bool.and_false]
              rw [nI_1]
              refine ih hlt _ ⟨no_succ h1 hei hgl, ?_⟩
              rcases h2 with ⟨h2, h3⟩ | ⟨k, x, k1, k2, k3, k4, k5⟩
              · exact Or.inr ⟨i, e, by omega, rfl, hei, hmg, h3⟩
              · exact absurd (k2.symm.trans c81) (nI_ne_m1 (by omega))
          · refine pm_iload_n dX3_leaver_77 rfl ?_
            refine pm_iret dX3_leaver_78 rfl ?_
            have hmg : ab_mg S.1 S.2.2.1 p e = true := by
              have := Int32.not_le.mp c52
              simp [ab_mg, this]
            rw [pm_z_1] at c74
            have hgl : ab_gl S.1 S.2.2.1 p e = true := by
              rw [ab_gl, hmg, c74]; rfl
            refine ⟨?_, rfl⟩
            have hf := lv_first hei hgl h1
            have : ab_lv S.1 S.2.2.1 p = i := by rw [ab_lv, hf, if_pos hlt]
            rw [this, ab_enc, if_pos hlt]
  refine pm_start (lv := [some (.ref _), some (.int _), none, none, none]) (plainFor_of_name pf3) (Nat.le_of_ble_eq_true rfl) rfl ?_
  refine pm_iconst (x := -1) dX3_leaver_0 rfl ?_
  refine pm_istore_n (lv' := [some (.ref _), some (.int _), some (.int _), none, none]) dX3_leaver_1 (by decide) rfl ?_
  refine pm_iconst (x := 0) dX3_leaver_2 rfl ?_
  refine pm_istore_n (lv' := [some (.ref _), some (.int _), some (.int _), some (.int _), none]) dX3_leaver_3 (by decide) rfl ?_
  exact loop 0 (Nat.zero_le _) (-1) ⟨fun j e hj => absurd hj (by omega), Or.inl ⟨rfl, fun j e hj => absurd hj (by omega)⟩⟩

