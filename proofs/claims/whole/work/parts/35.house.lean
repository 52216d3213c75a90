theorem hs_row {w : pm_W} {hb : Nat} {S : ab_S} (h : hs_R w hb S) (b : Int32) : hs_R (pm_s (pm_s w hb (upd (w.1 hb) 10 (nI (S.2.2.2.2.length + 1)))) (hb + 12) (upd ((pm_s w hb (upd (w.1 hb) 10 (nI (S.2.2.2.2.length + 1)))).1 (hb + 12)) ((S.2.2.2.2.length + 1) % 24) b)) hb (S.1, S.2.1, S.2.2.1, S.2.2.2.1, S.2.2.2.2 ++ [b]) := by
  obtain ⟨h1, h2, h3, h4, h5, h6⟩ := h
  have k : ∀ a, hb < a → a ≠ hb + 12 → (pm_s (pm_s w hb (upd (w.1 hb) 10 (nI (S.2.2.2.2.length + 1)))) (hb + 12) (upd ((pm_s w hb (upd (w.1 hb) 10 (nI (S.2.2.2.2.length + 1)))).1 (hb + 12)) ((S.2.2.2.2.length + 1) % 24) b)).1 a = w.1 a := fun a q1 q2 => by rw [pm_s_ne q2, pm_s_ne (by omega)]
  refine ⟨hd_R_cong h1 (fun a q1 q2 => k a (by omega) (by omega)), hd_R_cong h2 (fun a q1 q2 => k a (by omega) (by omega)), fun p hp => as_R_cong (h3 p hp) (fun a q1 q2 => k a (by omega) (by omega)), fun j q1 q2 => ?_, ?_, fun i x q1 q2 => ?_⟩
  · rw [pm_s_ne (by omega), pm_s_at, pk_un (by omega)]
    exact h4 j q1 q2
  · rw [pm_s_ne (by omega), pm_s_at, pk_us]
    show _ = nI (S.2.2.2.2 ++ [b]).length
    rw [List.length_append, List.length_singleton]
  · rw [pm_s_at]
    have q1 : (S.2.2.2.2 ++ [b])[i]? = some x := q1
    have q2 : (S.2.2.2.2 ++ [b]).length ≤ i + 24 := q2
    rw [List.length_append, List.length_singleton] at q2
    by_cases hi : i < S.2.2.2.2.length
    · rw [List.getElem?_append_left hi] at q1
      rw [pk_un (by omega), pm_s_ne (by omega)]
      exact h6 i x q1 (by omega)
    · have hl := (List.getElem?_eq_some_iff.mp q1).1
      rw [List.length_append, List.length_singleton] at hl
      have : i = S.2.2.2.2.length := by omega
      subst this
      rw [List.getElem?_append_right (by omega), Nat.sub_self] at q1
      cases q1
      exact pk_us
-- what a tick and the rest leave alone
def ab_kp (S T : ab_S) : Prop := T.2.2.2.2 = S.2.2.2.2 ∧ T.2.2.2.1 4 = S.2.2.2.1 4 ∧ T.2.2.2.1 5 = S.2.2.2.1 5 ∧ T.2.2.2.1 6 = S.2.2.2.1 6
theorem kp_tr {S T U : ab_S} (h : ab_kp S T) (k : ab_kp T U) : ab_kp S U := ⟨k.1.trans h.1, k.2.1.trans h.2.1, k.2.2.1.trans h.2.2.1, k.2.2.2.trans h.2.2.2⟩
theorem kp_serve (S : ab_S) (b : Int32) (p : Nat) (f : Int32) : ab_kp S (ab_serve S b p f).1 := by
  unfold ab_serve
  split
  · exact ⟨rfl, rfl, rfl, rfl⟩
  · split <;> exact ⟨rfl, rfl, rfl, rfl⟩
theorem kp_sv : ∀ (n : Nat) (S : ab_S), ab_kp S (ab_sv n S).1
  | 0, S => ⟨rfl, rfl, rfl, rfl⟩
  | n + 1, S => by
    unfold ab_sv
    split
    next => exact ⟨rfl, rfl, rfl, rfl⟩
    next k hk => exact kp_tr (kp_serve (S.1, S.2.1.eraseIdx k, va_up S.2.2.1 (S.2.1.getD k (0, 0, 0)).2.1 (ab_inc (S.2.2.1 (S.2.1.getD k (0, 0, 0)).2.1) 3), S.2.2.2.1, S.2.2.2.2) _ _ _) (kp_sv n _)
theorem kp_tick (S : ab_S) (n : Nat) (dm : Option (Int32 × Nat)) : ab_kp S (ab_tick S n dm).1 := by
  cases dm with
  | none => exact kp_tr (S := S) (T := ab_tk S) ⟨rfl, rfl, rfl, rfl⟩ (kp_sv n _)
  | some d => exact kp_tr (S := S) (T := ab_tk S) ⟨rfl, rfl, rfl, rfl⟩ (kp_tr (kp_serve _ _ _ _) (kp_sv _ _))
theorem ws_ask (S : ab_S) (p : Nat) (g : Nat → Int32) : ∀ n, (ab_ws S p g n).2.2 = S.2.2
  | 0 => rfl
  | n + 1 => (w1_ask _ _ _).trans (ws_ask S p g n)
theorem wf_ask : ∀ (n : Nat) (S : ab_S) (p : Nat) (a : Int32), (ab_wf n S p a).2.2 = S.2.2
  | 0, S, p, a => rfl
  | n + 1, S, p, a => by
    unfold ab_wf
    split
    · rfl
    · exact (wf_ask n _ p _).trans (w1_ask _ _ _)
theorem wish_ask (S : ab_S) (p : Nat) (b : Int32) (sd : Bool) : (ab_wish S p b sd).2.2 = S.2.2 := by
  unfold ab_wish
  split
  · exact ws_ask _ _ _ _
  · split
    · split
      · exact ws_ask _ _ _ _
      · rfl
    · split
      · exact wf_ask _ _ _ _
      · split
        · split
          · exact ws_ask _ _ _ _
          · rfl
        · rfl
theorem kp_wish (S : ab_S) (p : Nat) (b : Int32) (sd : Bool) : ab_kp S (ab_wish S p b sd) := by
  have h := wish_ask S p b sd
  exact ⟨by rw [h], by rw [h], by rw [h], by rw [h]⟩
def ab_ln (S : ab_S) (p : Nat) (b : Int32) : ab_S := (S.1, S.2.1, va_up S.2.2.1 p (ab_learn (S.2.2.1 p) b), S.2.2.2)
def ab_sd (A : ab_A) (b : Int32) : Bool := !decide (A.1 7 = -1) && (!decide (b - A.1 7 = 0) && decide (b - A.1 7 = A.1 8))
/-- the end of an ask: learnt, wished, the pace's tick -/
def ab_end (S : ab_S) (n pc p : Nat) (b : Int32) : ab_S := if S.2.2.2.2.length % pc = 0 then (ab_tick (ab_wish (ab_ln S p b) p b (ab_sd (S.2.2.1 p) b)) n none).1 else ab_wish (ab_ln S p b) p b (ab_sd (S.2.2.1 p) b)
def ab_a0 (S : ab_S) (p : Nat) (b : Int32) : ab_S := (S.1, S.2.1, va_up S.2.2.1 p (ab_inc (S.2.2.1 p) 0), S.2.2.2.1, S.2.2.2.2 ++ [b])
def ab_a1 (S : ab_S) (n p : Nat) (b : Int32) : ab_S := if ab_fi S.1 b < S.1.length then ab_hit S p (ab_fi S.1 b) else (ab_tick (ab_dem S p b) n (some (b, p))).1
def ab_ans (S : ab_S) (n pc p : Nat) (b : Int32) : ab_S := ab_end (ab_a1 (ab_a0 S p b) n p b) n pc p b
theorem aok_learn {A : ab_A} (h : ab_aok A) {b : Int32} (hb : 0 ≤ b ∧ b ≤ 63) : ab_aok (ab_learn A b) := by
  obtain ⟨h1, h2, h3, h4, h5, h6⟩ := h
  unfold ab_learn
  have hn : ¬ b = -1 := fun e => by rw [e] at hb; exact absurd hb.1 (by decide)
  split
  next hc => exact ⟨Or.inr hb, h2, h3, h4, h5, fun e => absurd e hn⟩
  next hc =>
    refine ⟨Or.inr hb, fun j hj => ?_, h3, h4, h5, fun e => absurd e hn⟩
    show upd A.2.2 _ b j = -1 ∨ _
    by_cases hj2 : j = (A.1 7).toNatClampNeg
    · rw [hj2, pk_us]
      exact Or.inr (by rw [show (upd (upd A.1 8 (b - A.1 7)) 7 b, A.2.1, upd A.2.2 (A.1 7).toNatClampNeg b).2.2 = upd A.2.2 (A.1 7).toNatClampNeg b from rfl, pk_us]; exact hb)
    · rw [pk_un hj2]
      have := h2 j hj
      show _ ∨ (0 ≤ upd A.2.2 _ b j ∧ upd A.2.2 _ b j ≤ 63)
      rw [pk_un hj2]
      exact this
theorem I_ln {S : ab_S} (h : ab_I S) {p : Nat} (hp : p < 4) {b : Int32} (hb : 0 ≤ b ∧ b ≤ 63) : ab_I (ab_ln S p b) := by
  obtain ⟨h1, h2, h3, h4, h5, h6, h7, h8, h9⟩ := h
  exact ⟨h1, h2, h3, h4, h5, aok_up h6 (aok_learn (h6 _ hp) hb), h7, h8, h9⟩
theorem I_a0 {S : ab_S} (h : ab_I S) (hl : S.2.2.2.2.length < 1000000) {p : Nat} (hp : p < 4) (b : Int32) : ab_I (ab_a0 S p b) := by
  obtain ⟨h1, h2, h3, h4, h5, h6, h7, h8, h9⟩ := h
  refine ⟨h1, h2, h3, h4, h5, aok_up h6 (aok_inc (h6 _ hp) 0), h7, h8, ?_⟩
  show (S.2.2.2.2 ++ [b]).length ≤ 1000000
  rw [List.length_append, List.length_singleton]
  omega
theorem I_a1 {S : ab_S} (h : ab_I S) {n p : Nat} (hp : p < 4) {b : Int32} (hb : 0 ≤ b ∧ b ≤ 63) : ab_I (ab_a1 S n p b) := by
  unfold ab_a1
  split
  next hc => exact I_hit h hp hc
  next hc => exact I_tick (I_dem h hp b) (fun d hd => by cases hd; exact ⟨hp, hb.1, hb.2, Or.inl rfl⟩)
theorem I_end {S : ab_S} (h : ab_I S) {n pc p : Nat} (hp : p < 4) {b : Int32} (hb : 0 ≤ b ∧ b ≤ 63) : ab_I (ab_end S n pc p b) := by
  unfold ab_end
  split
  · exact I_tick (I_wish (I_ln h hp hb) hp b _) (fun d hd => by cases hd)
  · exact I_wish (I_ln h hp hb) hp b _
theorem I_ans {S : ab_S} (h : ab_I S) (hl : S.2.2.2.2.length < 1000000) {n pc p : Nat} (hp : p < 4) {b : Int32} (hb : 0 ≤ b ∧ b ≤ 63) : ab_I (ab_ans S n pc p b) := I_end (I_a1 (I_a0 h hl hp b) hp hb) hp hb
theorem kp_a1 (S : ab_S) (n p : Nat) (b : Int32) : ab_kp S (ab_a1 S n p b) := by
  unfold ab_a1
  split
  · exact ⟨rfl, rfl, rfl, rfl⟩
  · exact kp_tr (S := S) (T := ab_dem S p b) ⟨rfl, rfl, rfl, rfl⟩ (kp_tick _ _ _)

set_option maxRecDepth 4000 in
theorem ans_tail {L : pm_L} {hb : Nat} (hk : hs_ok L hb) {w : pm_W} {S : ab_S} (hR : hs_R w hb S) (hI : ab_I S) {p : Nat} (hp : p < 4) {b : Int32} (hb3 : 0 ≤ b ∧ b ≤ 63) {n pc : Nat} (hn : S.2.2.2.1 5 = nI n) (hn3 : n ≤ 3) (hpc : S.2.2.2.1 6 = nI pc) (hpc1 : 1 ≤ pc) (hpc4 : pc ≤ 4) (x3 : Int32) {w0 : pm_W} (hf0 : fr_out w0 w hb (hb + 25)) : pm_R L MX3_answer 74 [some (.ref hb), some (.int (nI p)), some (.int b), some (.int x3)] [] w (pm_qi fun r w1 => r = (if x3 = -1 then 1 else 0) ∧ hs_R w1 hb (ab_end S n pc p b) ∧ fr_out w0 w1 hb (hb + 25)) := by
  obtain ⟨e1, e2, e3, e4, e5, e6, e7, hdr, hdl, hap⟩ := id hk
  obtain ⟨r1, r2, r3, r4, r5, r6, r7, r8, r9⟩ := id hdr
  obtain ⟨l1, l2, l3, l4, l5, l6, l7, l8, l9⟩ := id hdl
  obtain ⟨g1, g2, g3, g4, g5, g6⟩ := id hR
  obtain ⟨⟨sp, i1, i2, i3, i4⟩, i5, i6, i7, i8, i9, i10, i11, i12⟩ := id hI
  obtain ⟨ha0, ⟨a1, a2, a3, a4, a5⟩⟩ := hap p hp
  refine pm_aload_n dX3_answer_74 rfl ?_
  refine pm_getR (ci := 3) (j := 2) (n := 11) (by first | assumption | rfl) (by decide) (by decide) rfl fl_RX3_25 rfl (by first | assumption | rfl) dX3_answer_75 ?_
  refine pm_iload_n dX3_answer_78 rfl ?_
  refine pm_kaldN (by first | assumption | rfl) (by first | assumption | omega | decide) (by first | decide | omega) (by first | assumption | rfl) dX3_answer_79 ?_
  refine pm_iload_n dX3_answer_80 rfl ?_
  refine pm_cVv (as := [.int _]) (by first | assumption | rfl) (by decide) rfl ml_RX3_99 (by decide) (Nat.le_of_ble_eq_true rfl) dX3_answer_81 (c_X0_learn (hap p hp).2 (g3 p hp) (i9 p hp).1 b) (fun w1 hq => ?_)
  obtain ⟨q1, q2, q3, q4⟩ := hq
  have hR1 : hs_R w1 hb (ab_ln S p b) := hs_ask hR hp q1 q4
  have hI1 := I_ln hI hp hb3
  have hsd : (!decide (((ab_ln S p b).2.2.1 p).1 8 = 0) && decide (((ab_ln S p b).2.2.1 p).1 8 = w1.1 (hb + 13 + 3 * p) 9)) = ab_sd (S.2.2.1 p) b := by
    show (!decide ((va_up S.2.2.1 p (ab_learn (S.2.2.1 p) b) p).1 8 = 0) && decide ((va_up S.2.2.1 p (ab_learn (S.2.2.1 p) b) p).1 8 = w1.1 (hb + 13 + 3 * p) 9)) = _
    rw [va_up_self]
    unfold ab_sd ab_learn
    by_cases h7 : (S.2.2.1 p).1 7 = -1
    · have h8 : (upd (S.2.2.1 p).1 7 b) 8 = 0 := (i9 p hp).2.2.2.2.2 h7
      simp [h7, h8]
    · rw [if_neg h7, q3 h7]
      simp [h7, upd]
  refine pm_aload_n dX3_answer_84 rfl ?_
  refine pm_iload_n dX3_answer_85 rfl ?_
  refine pm_iload_n dX3_answer_86 rfl ?_
  refine pm_cVv (as := [.int _, .int _]) (by first | assumption | rfl) (by decide) rfl ml_RX3_102 (by decide) (Nat.le_of_ble_eq_true rfl) dX3_answer_87 (c_X3_wish hk hR1 hI1 hp hb3 hsd) (fun w2 hq => ?_)
  obtain ⟨hR2, hf2⟩ := hq
  have hI2 := I_wish (sd := ab_sd (S.2.2.1 p) b) hI1 hp b
  have hk2 := kp_wish (ab_ln S p b) p b (ab_sd (S.2.2.1 p) b)
  have hf3 : fr_out w0 w2 hb (hb + 25) := fr_tr hf0 (fr_tr (fr_wd q4 (by omega) (by omega)) hf2)
  refine pm_aload_n dX3_answer_90 rfl ?_
  refine pm_getI (ci := 3) (j := 10) (n := 11) (by first | assumption | rfl) (by decide) (by decide) rfl fl_RX3_62 rfl dX3_answer_91 ?_
  rw [show w2.1 hb 10 = nI S.2.2.2.2.length from hR2.2.2.2.2.1.trans (by rw [hk2.1]; rfl)]
  refine pm_aload_n dX3_answer_94 rfl ?_
  refine pm_getI (ci := 3) (j := 6) (n := 11) (by first | assumption | rfl) (by decide) (by decide) rfl fl_RX3_50 rfl dX3_answer_95 ?_
  rw [show w2.1 hb 6 = nI pc from (hR2.2.2.2.1 6 (by decide) (by decide)).trans (hk2.2.2.2.trans hpc)]
  refine pm_irem dX3_answer_98 (by exact nI_ne0 (by omega) (by omega)) ?_
  rw [pk_rem (by omega) (by omega) (by omega)]
  refine pm_if_ne (tgt := 109) dX3_answer_99 (by decide) (fun c99 => ?_) (fun c99 => ?_)
  · refine pm_iload_n dX3_answer_109 rfl ?_
    refine pm_iconst (x := -1) dX3_answer_110 rfl ?_
    refine pm_icmp_ne (tgt := 118) dX3_answer_111 (by decide) (fun c111 => ?_) (fun c111 => ?_)
    · refine pm_iconst (x := 0) dX3_answer_118 rfl ?_
      refine pm_iret dX3_answer_119 rfl ?_
      have hnz : ¬ S.2.2.2.2.length % pc = 0 := fun e => c99 (by rw [e]; rfl)
      refine ⟨?_, ?_, hf3⟩
      · rw [if_neg c111]
      · rw [ab_end, if_neg hnz]
        exact hR2
    · refine pm_iconst (x := 1) dX3_answer_114 rfl ?_
      refine pm_goto (tgt := 119) dX3_answer_115 (by decide) ?_
      refine pm_iret dX3_answer_119 rfl ?_
      have hnz : ¬ S.2.2.2.2.length % pc = 0 := fun e => c99 (by rw [e]; rfl)
      refine ⟨?_, ?_, hf3⟩
      · rw [if_pos c111]
      · rw [ab_end, if_neg hnz]
        exact hR2
  · have hz : S.2.2.2.2.length % pc = 0 := (nI_eq (a := S.2.2.2.2.length % pc) (b := 0) (by have := Nat.mod_lt S.2.2.2.2.length (show 0 < pc by omega); omega) (by decide)).mp c99
    refine pm_aload_n dX3_answer_102 rfl ?_
    refine pm_iconst (x := -1) dX3_answer_103 rfl ?_
    refine pm_iconst (x := -1) dX3_answer_104 rfl ?_
    refine pm_cVi (as := [.int _, .int _]) (by first | assumption | rfl) (by decide) rfl ml_RX3_92 (by decide) (Nat.le_of_ble_eq_true rfl) dX3_answer_105 (c_X3_tick0 hk hR2 hI2 (n := n) (hk2.2.2.1.trans hn) hn3) (fun x5 w5 hq => ?_)
    obtain ⟨-, hR5, hf5⟩ := hq
    refine pm_pop dX3_answer_108 rfl ?_
    refine pm_iload_n dX3_answer_109 rfl ?_
    refine pm_iconst (x := -1) dX3_answer_110 rfl ?_
    refine pm_icmp_ne (tgt := 118) dX3_answer_111 (by decide) (fun c111 => ?_) (fun c111 => ?_)
    · refine pm_iconst (x := 0) dX3_answer_118 rfl ?_
      refine pm_iret dX3_answer_119 rfl ?_
      refine ⟨?_, ?_, fr_tr hf3 hf5⟩
      · rw [if_neg c111]
      · rw [ab_end, if_pos hz]
        exact hR5
    · refine pm_iconst (x := 1) dX3_answer_114 rfl ?_
      refine pm_goto (tgt := 119) dX3_answer_115 (by decide) ?_
      refine pm_iret dX3_answer_119 rfl ?_
      refine ⟨?_, ?_, fr_tr hf3 hf5⟩
      · rw [if_pos c111]
      · rw [ab_end, if_pos hz]
        exact hR5

set_option maxRecDepth 4000 in
theorem c_X3_answer {L : pm_L} {hb : Nat} (hk : hs_ok L hb) {w : pm_W} {S : ab_S} (hR : hs_R w hb S) (hI : ab_I S) (hlen : S.2.2.2.2.length < 1000000) {p : Nat} (hp : p < 4) {b : Int32} (hb3 : 0 ≤ b ∧ b ≤ 63) {n pc : Nat} (hn : S.2.2.2.1 5 = nI n) (hn1 : 1 ≤ n) (hn3 : n ≤ 3) (hpc : S.2.2.2.1 6 = nI pc) (hpc1 : 1 ≤ pc) (hpc4 : pc ≤ 4) : pm_C L MX3_answer [.ref hb, .int (nI p), .int b] w (pm_qi fun r w1 => r = (if ab_fi S.1 b < S.1.length then 0 else 1) ∧ hs_R w1 hb (ab_ans S n pc p b) ∧ fr_out w w1 hb (hb + 25)) := by
  obtain ⟨e1, e2, e3, e4, e5, e6, e7, hdr, hdl, hap⟩ := id hk
  obtain ⟨r1, r2, r3, r4, r5, r6, r7, r8, r9⟩ := id hdr
  obtain ⟨l1, l2, l3, l4, l5, l6, l7, l8, l9⟩ := id hdl
  obtain ⟨g1, g2, g3, g4, g5, g6⟩ := id hR
  obtain ⟨⟨sp, i1, i2, i3, i4⟩, i5, i6, i7, i8, i9, i10, i11, i12⟩ := id hI
  obtain ⟨ha0, ⟨a1, a2, a3, a4, a5⟩⟩ := hap p hp
  refine pm_start (lv := [some (.ref _), some (.int _), some (.int _), none]) (plainFor_of_name pf3) (Nat.le_of_ble_eq_true rfl) rfl ?_
  refine pm_aload_n dX3_answer_0 rfl ?_
  refine pm_dup dX3_answer_1 rfl ?_
  refine pm_getI (ci := 3) (j := 10) (n := 11) (by first | assumption | rfl) (by decide) (by decide) rfl fl_RX3_62 rfl dX3_answer_2 ?_
  rw [g5]
  refine pm_iconst (x := 1) dX3_answer_5 rfl ?_
  refine pm_iadd dX3_answer_6 ?_
  rw [nI_1]
  refine pm_putI (ci := 3) (j := 10) (n := 11) (by first | assumption | rfl) (by decide) (by decide) rfl fl_RX3_62 rfl rfl dX3_answer_7 ?_
  refine pm_aload_n dX3_answer_10 rfl ?_
  refine pm_getR (ci := 3) (j := 3) (n := 11) (by first | assumption | rfl) (by decide) (by decide) rfl fl_RX3_29 rfl (by first | assumption | rfl) dX3_answer_11 ?_
  refine pm_aload_n dX3_answer_14 rfl ?_
  refine pm_getI (ci := 3) (j := 10) (n := 11) (by first | assumption | rfl) (by decide) (by decide) rfl fl_RX3_62 rfl dX3_answer_15 ?_
  refine pm_topi (nI (S.2.2.2.2.length + 1)) (by rw [pm_s_at]; exact pk_us) ?_
  refine pm_cSi (as := [.int _]) ml_RX3_78 (by decide) (Nat.le_of_ble_eq_true rfl) dX3_answer_18 (c_X3_placeInRow L _ (by omega)) (fun x1 w1 hq => ?_)
  obtain ⟨rfl, hw9⟩ := hq
  have hw9 := hw9.symm
  subst hw9
  refine pm_iload_n dX3_answer_21 rfl ?_
  refine pm_iastN (by first | assumption | rfl) (by first | assumption | omega | exact Nat.mod_lt _ (by decide) | decide) (by first | decide | omega) dX3_answer_22 ?_
  have hRr := hs_row hR b
  have hfr : fr_out w (pm_s (pm_s w hb (upd (w.1 hb) 10 (nI (S.2.2.2.2.length + 1)))) (hb + 12) (upd ((pm_s w hb (upd (w.1 hb) 10 (nI (S.2.2.2.2.length + 1)))).1 (hb + 12)) ((S.2.2.2.2.length + 1) % 24) b)) hb (hb + 25) := fr_st (fr_s (by omega) (by omega)) (by omega) (by omega)
  generalize pm_s (pm_s w hb (upd (w.1 hb) 10 (nI (S.2.2.2.2.length + 1)))) (hb + 12) (upd ((pm_s w hb (upd (w.1 hb) 10 (nI (S.2.2.2.2.length + 1)))).1 (hb + 12)) ((S.2.2.2.2.length + 1) % 24) b) = wr at hRr hfr ⊢
  refine pm_aload_n dX3_answer_23 rfl ?_
  refine pm_getR (ci := 3) (j := 2) (n := 11) (by first | assumption | rfl) (by decide) (by decide) rfl fl_RX3_25 rfl (by first | assumption | rfl) dX3_answer_24 ?_
  refine pm_iload_n dX3_answer_27 rfl ?_
  refine pm_kaldN (by first | assumption | rfl) (by first | assumption | omega | exact Nat.mod_lt _ (by decide) | decide) (by first | decide | omega) (by first | assumption | rfl) dX3_answer_28 ?_
  refine pm_getR (ci := 0) (j := 0) (n := 10) (by first | assumption | rfl) (by decide) (by decide) rfl fl_RX3_82 rfl (by first | assumption | rfl) dX3_answer_29 ?_
  refine pm_iconst (x := nI 0) dX3_answer_32 rfl ?_
  refine pm_dup2 dX3_answer_33 rfl rfl ?_
  refine pm_ialdN (by first | assumption | rfl) (by first | assumption | omega | exact Nat.mod_lt _ (by decide) | decide) (by first | decide | omega) dX3_answer_34 ?_
  refine pm_iconst (x := 1) dX3_answer_35 rfl ?_
  refine pm_iadd dX3_answer_36 ?_
  refine pm_iastN (by first | assumption | rfl) (by first | assumption | omega | exact Nat.mod_lt _ (by decide) | decide) (by first | decide | omega) dX3_answer_37 ?_
  have hR0 : hs_R (pm_s wr (hb + 13 + 3 * p + 1) (upd (wr.1 (hb + 13 + 3 * p + 1)) 0 (wr.1 (hb + 13 + 3 * p + 1) 0 + 1))) hb (ab_a0 S p b) := hs_ask hRr hp (as_inc (hRr.2.2.1 p hp) 0) (fr_s (by omega) (by omega))
  have hf0 : fr_out w (pm_s wr (hb + 13 + 3 * p + 1) (upd (wr.1 (hb + 13 + 3 * p + 1)) 0 (wr.1 (hb + 13 + 3 * p + 1) 0 + 1))) hb (hb + 25) := fr_st hfr (by omega) (by omega)
  generalize pm_s wr (hb + 13 + 3 * p + 1) (upd (wr.1 (hb + 13 + 3 * p + 1)) 0 (wr.1 (hb + 13 + 3 * p + 1) 0 + 1)) = w0 at hR0 hf0 ⊢
  have hI0 := I_a0 hI hlen hp b
  have hI1 := I_a1 (n := n) hI0 hp hb3
  have hk1 := kp_a1 (ab_a0 S p b) n p b
  refine pm_aload_n dX3_answer_38 rfl ?_
  refine pm_getR (ci := 3) (j := 0) (n := 11) (by first | assumption | rfl) (by decide) (by decide) rfl fl_RX3_14 rfl (by first | assumption | rfl) dX3_answer_39 ?_
  refine pm_iload_n dX3_answer_42 rfl ?_
  refine pm_cVi (as := [.int _]) (by first | assumption | rfl) (by decide) rfl ml_RX3_85 (by decide) (Nat.le_of_ble_eq_true rfl) dX3_answer_43 (c_X2_find hdr (by decide) (l := S.1) hR0.1 (by omega) b) (fun x1 w1 hq => ?_)
  obtain ⟨rfl, hw9⟩ := hq
  have hw9 := hw9.symm
  subst hw9
  refine pm_istore_n (lv' := [some (.ref _), some (.int _), some (.int _), some (.int _)]) dX3_answer_46 (by decide) rfl ?_
  refine pm_iload_n dX3_answer_47 rfl ?_
  refine pm_iconst (x := -1) dX3_answer_48 rfl ?_
  refine pm_icmp_ne (tgt := 68) dX3_answer_49 (by decide) (fun c49 => ?_) (fun c49 => ?_)
  · have hfi : ab_fi S.1 b < S.1.length := by
      have q1 := fi_le S.1 b
      rw [enc_m1 q1 (by omega)] at c49
      omega
    have henc : ab_enc (ab_fi S.1 b) S.1.length = nI (ab_fi S.1 b) := if_pos hfi
    rw [henc] at c49
    rw [henc]
    refine pm_aload_n dX3_answer_68 rfl ?_
    refine pm_iload_n dX3_answer_69 rfl ?_
    refine pm_iload_n dX3_answer_70 rfl ?_
    refine pm_cVv (as := [.int _, .int _]) (by first | assumption | rfl) (by decide) rfl ml_RX3_96 (by decide) (Nat.le_of_ble_eq_true rfl) dX3_answer_71 (c_X3_hit hk hR0 hI0 hp (show ab_fi S.1 b < (ab_a0 S p b).1.length from hfi)) (fun w5 hq => ?_)
    obtain ⟨hR5, hf5⟩ := hq
    have hR6 : hs_R w5 hb (ab_a1 (ab_a0 S p b) n p b) := by
      rw [ab_a1, if_pos (show ab_fi (ab_a0 S p b).1 b < (ab_a0 S p b).1.length from hfi)]
      exact hR5
    have h9 := ans_tail hk hR6 hI1 hp hb3 (hk1.2.2.1.trans hn) hn3 (hk1.2.2.2.trans hpc) hpc1 hpc4 (nI (ab_fi S.1 b)) (fr_tr hf0 hf5)
    rw [if_neg c49] at h9
    rw [if_pos hfi]
    exact h9
  · have hfi : ¬ ab_fi S.1 b < S.1.length := by
      rw [enc_m1 (fi_le _ _) (by omega)] at c49
      omega
    refine pm_aload_n dX3_answer_52 rfl ?_
    refine pm_iload_n dX3_answer_53 rfl ?_
    refine pm_iload_n dX3_answer_54 rfl ?_
    refine pm_cVv (as := [.int _, .int _]) (by first | assumption | rfl) (by decide) rfl ml_RX3_88 (by decide) (Nat.le_of_ble_eq_true rfl) dX3_answer_55 (c_X3_demand hk hR0 hI0 hp b) (fun w2 hq => ?_)
    obtain ⟨hR2, hf2⟩ := hq
    refine pm_aload_n dX3_answer_58 rfl ?_
    refine pm_iload_n dX3_answer_59 rfl ?_
    refine pm_iload_n dX3_answer_60 rfl ?_
    refine pm_cVi (as := [.int _, .int _]) (by first | assumption | rfl) (by decide) rfl ml_RX3_92 (by decide) (Nat.le_of_ble_eq_true rfl) dX3_answer_61 (c_X3_tickD hk hR2 (I_dem hI0 hp b) (n := n) hn hn1 hn3 ⟨hp, hb3.1, hb3.2, Or.inl rfl⟩) (fun x5 w5 hq => ?_)
    obtain ⟨-, hR5, hf5⟩ := hq
    refine pm_pop dX3_answer_64 rfl ?_
    refine pm_goto (tgt := 74) dX3_answer_65 (by decide) ?_
    have hR6 : hs_R w5 hb (ab_a1 (ab_a0 S p b) n p b) := by
      rw [ab_a1, if_neg (show ¬ ab_fi (ab_a0 S p b).1 b < (ab_a0 S p b).1.length from hfi)]
      exact hR5
    have h9 := ans_tail hk hR6 hI1 hp hb3 (hk1.2.2.1.trans hn) hn3 (hk1.2.2.2.trans hpc) hpc1 hpc4 (ab_enc (ab_fi S.1 b) S.1.length) (fr_tr hf0 (fr_tr hf2 hf5))
    rw [if_pos c49] at h9
    rw [if_neg hfi]
    exact h9

