theorem cs_a {w w1 : pm_W} {S S' : ab_S} {sh : Nat → Option ab_S} (h : cs_R w S sh) (h1 : hs_R w1 1 S') (hf : fr_out w w1 1 26) : cs_R w1 S' sh := ⟨h1, fun s hs => ⟨by rw [hf.1 27 (by omega)]; exact (h.2 s hs).1, fun T hT => hs_R_cong ((h.2 s hs).2 T hT) (fun x q1 q2 => hf.1 x (by omega))⟩⟩
theorem cs_hi {w w1 : pm_W} {S : ab_S} {sh : Nat → Option ab_S} (h : cs_R w S sh) (hf : ∀ a, a < 28 ∨ (33 ≤ a ∧ a < 83) → w1.1 a = w.1 a) : cs_R w1 S sh := ⟨hs_R_cong h.1 (fun x q1 q2 => hf x (by omega)), fun s hs => ⟨by rw [hf 27 (by omega)]; exact (h.2 s hs).1, fun T hT => hs_R_cong ((h.2 s hs).2 T hT) (fun x q1 q2 => hf x (by omega))⟩⟩
theorem mm_lo {w w1 : pm_W} {S : ab_S} {sh : Nat → Option ab_S} (h : mm_R w S sh) (hf : ∀ a, 83 ≤ a → w1.1 a = w.1 a) : mm_R w1 S sh := mm_fr h (mo_cong h.1 (fun a q1 q2 => hf a (by omega)) (fun j _ => by rw [hf 83 (by omega)])) (by rw [hf 83 (by omega)]; exact h.2.1) (hf 107 (by omega)) (hf 108 (by omega))
/-- Both sides, and what holds of their states. -/
def al_R (N : Nat) (w : pm_W) (S : ab_S) (sh : Nat → Option ab_S) : Prop := cs_R w S sh ∧ mm_R w S sh ∧ al_I N S ∧ ∀ s T, s < 2 → sh s = some T → al_I N T

theorem o_c_clear {N : Nat} {w : pm_W} {S : ab_S} {sh : Nat → Option ab_S} (hC : cs_R w S sh) (hM : mm_R w S sh) (hI : al_I N S) (hN : N < 1000000) (a b c : Int32) : pm_C pm_L0 MX4_clear [.ref 0, .int a, .int b, .int c] w (pm_qi fun r w1 => r = (pu_clear S a b c).1 ∧ cs_R w1 ((pu_clear S a b c).2) sh ∧ mm_R w1 S sh) := by
  refine pm_moni (c_X4_clear hC.1 a b c) (fun r w1 hq => ?_)
  obtain ⟨q1, q2, q3⟩ := hq
  exact ⟨q1, cs_a hC q2 q3, mm_lo hM (fun a ha => q3.1 a (by omega))⟩
theorem o_m_clear {N : Nat} {w : pm_W} {S : ab_S} {sh : Nat → Option ab_S} {T : ab_S} (hC : cs_R w T sh) (hM : mm_R w S sh) (hI : al_I N S) (hN : N < 1000000) (a b c : Int32) : pm_C pm_L0 MX5_clear [.ref 83, .int a, .int b, .int c] w (pm_qi fun r w1 => r = (pu_clear S a b c).1 ∧ cs_R w1 T sh ∧ mm_R w1 ((pu_clear S a b c).2) sh) := by
  refine pm_moni (c_X5_clear hM.1 hI.2.2.1 a b c) (fun r w1 hq => ?_)
  obtain ⟨q1, q2, q3, q4⟩ := hq
  exact ⟨q1, cs_hi hC (fun a ha => q4.1 a (by omega) (by simp; omega)), mm_fr hM q2 (q3.trans hM.2.1) (q4.1 107 (by decide) (by decide)) (q4.1 108 (by decide) (by decide))⟩
theorem o_c_share {N : Nat} {w : pm_W} {S : ab_S} {sh : Nat → Option ab_S} (hC : cs_R w S sh) (hM : mm_R w S sh) (hI : al_I N S) (hN : N < 1000000) (a b : Int32) : pm_C pm_L0 MX4_share [.ref 0, .int a, .int b] w (pm_qi fun r w1 => r = (pu_share S a b).1 ∧ cs_R w1 ((pu_share S a b).2) sh ∧ mm_R w1 S sh) := by
  refine pm_moni (c_X4_share hC.1 a b) (fun r w1 hq => ?_)
  obtain ⟨q1, q2, q3⟩ := hq
  exact ⟨q1, cs_a hC q2 q3, mm_lo hM (fun a ha => q3.1 a (by omega))⟩
theorem o_m_share {N : Nat} {w : pm_W} {S : ab_S} {sh : Nat → Option ab_S} {T : ab_S} (hC : cs_R w T sh) (hM : mm_R w S sh) (hI : al_I N S) (hN : N < 1000000) (a b : Int32) : pm_C pm_L0 MX5_share [.ref 83, .int a, .int b] w (pm_qi fun r w1 => r = (pu_share S a b).1 ∧ cs_R w1 T sh ∧ mm_R w1 ((pu_share S a b).2) sh) := by
  refine pm_moni (c_X5_share hM.1 a b) (fun r w1 hq => ?_)
  obtain ⟨q1, q2, q4⟩ := hq
  exact ⟨q1, cs_hi hC (fun a ha => q4.1 a (by omega) (by simp; omega)), mm_fr hM q2 ((q4.2.1 25 (by decide)).trans hM.2.1) (q4.1 107 (by decide) (by decide)) (q4.1 108 (by decide) (by decide))⟩
theorem o_c_kind {N : Nat} {w : pm_W} {S : ab_S} {sh : Nat → Option ab_S} (hC : cs_R w S sh) (hM : mm_R w S sh) (hI : al_I N S) (hN : N < 1000000) (a b c : Int32) : pm_C pm_L0 MX4_kind [.ref 0, .int a, .int b, .int c] w (pm_qi fun r w1 => r = (pu_kind S a b c).1 ∧ cs_R w1 ((pu_kind S a b c).2) sh ∧ mm_R w1 S sh) := by
  refine pm_moni (c_X4_kind hC.1 a b c) (fun r w1 hq => ?_)
  obtain ⟨q1, q2, q3⟩ := hq
  exact ⟨q1, cs_a hC q2 q3, mm_lo hM (fun a ha => q3.1 a (by omega))⟩
theorem o_m_kind {N : Nat} {w : pm_W} {S : ab_S} {sh : Nat → Option ab_S} {T : ab_S} (hC : cs_R w T sh) (hM : mm_R w S sh) (hI : al_I N S) (hN : N < 1000000) (a b c : Int32) : pm_C pm_L0 MX5_kind [.ref 83, .int a, .int b, .int c] w (pm_qi fun r w1 => r = (pu_kind S a b c).1 ∧ cs_R w1 T sh ∧ mm_R w1 ((pu_kind S a b c).2) sh) := by
  refine pm_moni (c_X5_kind hM.1 a b c) (fun r w1 hq => ?_)
  obtain ⟨q1, q2, q4⟩ := hq
  exact ⟨q1, cs_hi hC (fun a ha => q4.1 a (by omega) (by simp; omega)), mm_fr hM q2 ((q4.2.1 25 (by decide)).trans hM.2.1) (q4.1 107 (by decide) (by decide)) (q4.1 108 (by decide) (by decide))⟩
theorem o_c_hint {N : Nat} {w : pm_W} {S : ab_S} {sh : Nat → Option ab_S} (hC : cs_R w S sh) (hM : mm_R w S sh) (hI : al_I N S) (hN : N < 1000000) (a b c : Int32) : pm_C pm_L0 MX4_hint [.ref 0, .int a, .int b, .int c] w (pm_qi fun r w1 => r = (pu_hint S a b c).1 ∧ cs_R w1 ((pu_hint S a b c).2) sh ∧ mm_R w1 S sh) := by
  refine pm_moni (c_X4_hint hC.1 a b c) (fun r w1 hq => ?_)
  obtain ⟨q1, q2, q3⟩ := hq
  exact ⟨q1, cs_a hC q2 q3, mm_lo hM (fun a ha => q3.1 a (by omega))⟩
theorem o_m_hint {N : Nat} {w : pm_W} {S : ab_S} {sh : Nat → Option ab_S} {T : ab_S} (hC : cs_R w T sh) (hM : mm_R w S sh) (hI : al_I N S) (hN : N < 1000000) (a b c : Int32) : pm_C pm_L0 MX5_hint [.ref 83, .int a, .int b, .int c] w (pm_qi fun r w1 => r = (pu_hint S a b c).1 ∧ cs_R w1 T sh ∧ mm_R w1 ((pu_hint S a b c).2) sh) := by
  refine pm_moni (c_X5_hint hM.1 a b c) (fun r w1 hq => ?_)
  obtain ⟨q1, q2, q4⟩ := hq
  exact ⟨q1, cs_hi hC (fun a ha => q4.1 a (by omega) (by simp; omega)), mm_fr hM q2 ((q4.2.1 25 (by decide)).trans hM.2.1) (q4.1 107 (by decide) (by decide)) (q4.1 108 (by decide) (by decide))⟩
theorem o_c_ask {N : Nat} {w : pm_W} {S : ab_S} {sh : Nat → Option ab_S} (hC : cs_R w S sh) (hM : mm_R w S sh) (hI : al_I N S) (hN : N < 1000000) (a b : Int32) : pm_C pm_L0 MX4_ask [.ref 0, .int a, .int b] w (pm_qi fun r w1 => r = (pu_ask S a b).1 ∧ cs_R w1 ((pu_ask S a b).2) sh ∧ mm_R w1 S sh) := by
  refine pm_moni (c_X4_ask hC.1 hI.1 (Nat.lt_of_le_of_lt hI.2.2.2 hN) a b) (fun r w1 hq => ?_)
  obtain ⟨q1, q2, q3⟩ := hq
  exact ⟨q1, cs_a hC q2 q3, mm_lo hM (fun a ha => q3.1 a (by omega))⟩
theorem o_m_ask {N : Nat} {w : pm_W} {S : ab_S} {sh : Nat → Option ab_S} {T : ab_S} (hC : cs_R w T sh) (hM : mm_R w S sh) (hI : al_I N S) (hN : N < 1000000) (a b : Int32) : pm_C pm_L0 MX5_ask [.ref 83, .int a, .int b] w (pm_qi fun r w1 => r = (pu_ask S a b).1 ∧ cs_R w1 T sh ∧ mm_R w1 ((pu_ask S a b).2) sh) := by
  refine pm_moni (c_X5_ask hM.1 hI.1 hI.2.1 (Nat.lt_of_le_of_lt hI.2.2.2 hN) hM.2.1 a b) (fun r w1 hq => ?_)
  obtain ⟨q1, q2, q3, q4⟩ := hq
  exact ⟨q1, cs_hi hC (fun a ha => q4.1 a (by omega) (by simp; omega)), mm_fr hM q2 q3 (q4.1 107 (by decide) (by decide)) (q4.1 108 (by decide) (by decide))⟩
theorem o_c_idle {N : Nat} {w : pm_W} {S : ab_S} {sh : Nat → Option ab_S} (hC : cs_R w S sh) (hM : mm_R w S sh) (hI : al_I N S) (hN : N < 1000000) (a : Int32) : pm_C pm_L0 MX4_idle [.ref 0, .int a] w (pm_qi fun r w1 => r = (pu_idle S a).1 ∧ cs_R w1 ((pu_idle S a).2) sh ∧ mm_R w1 S sh) := by
  refine pm_moni (c_X4_idle hC.1 hI.1 a) (fun r w1 hq => ?_)
  obtain ⟨q1, q2, q3⟩ := hq
  exact ⟨q1, cs_a hC q2 q3, mm_lo hM (fun a ha => q3.1 a (by omega))⟩
theorem o_m_idle {N : Nat} {w : pm_W} {S : ab_S} {sh : Nat → Option ab_S} {T : ab_S} (hC : cs_R w T sh) (hM : mm_R w S sh) (hI : al_I N S) (hN : N < 1000000) (a : Int32) : pm_C pm_L0 MX5_idle [.ref 83, .int a] w (pm_qi fun r w1 => r = (pu_idle S a).1 ∧ cs_R w1 T sh ∧ mm_R w1 ((pu_idle S a).2) sh) := by
  refine pm_moni (c_X5_idle hM.1 hI.1 hM.2.1 a) (fun r w1 hq => ?_)
  obtain ⟨q1, q2, q3, q4⟩ := hq
  exact ⟨q1, cs_hi hC (fun a ha => q4.1 a (by omega) (by simp; omega)), mm_fr hM q2 q3 (q4.1 107 (by decide) (by decide)) (q4.1 108 (by decide) (by decide))⟩
theorem o_c_told {N : Nat} {w : pm_W} {S : ab_S} {sh : Nat → Option ab_S} (hC : cs_R w S sh) (hM : mm_R w S sh) (hI : al_I N S) (hN : N < 1000000) (a b : Int32) : pm_C pm_L0 MX4_told [.ref 0, .int a, .int b] w (pm_qi fun r w1 => r = pu_told S a b ∧ cs_R w1 (S) sh ∧ mm_R w1 S sh) := by
  refine pm_moni (c_X4_told hC.1 a b) (fun r w1 hq => ?_)
  obtain ⟨q1, rfl⟩ := hq
  exact ⟨q1, hC, hM⟩
theorem o_m_told {N : Nat} {w : pm_W} {S : ab_S} {sh : Nat → Option ab_S} {T : ab_S} (hC : cs_R w T sh) (hM : mm_R w S sh) (hI : al_I N S) (hN : N < 1000000) (a b : Int32) : pm_C pm_L0 MX5_told [.ref 83, .int a, .int b] w (pm_qi fun r w1 => r = pu_told S a b ∧ cs_R w1 T sh ∧ mm_R w1 (S) sh) := by
  refine pm_moni (c_X5_told hM.1 hI.1 a b) (fun r w1 hq => ?_)
  obtain ⟨q1, rfl⟩ := hq
  exact ⟨q1, hC, hM⟩
theorem o_c_reach {N : Nat} {w : pm_W} {S : ab_S} {sh : Nat → Option ab_S} (hC : cs_R w S sh) (hM : mm_R w S sh) (hI : al_I N S) (hN : N < 1000000) (a : Int32) : pm_C pm_L0 MX4_reach [.ref 0, .int a] w (pm_qi fun r w1 => r = pu_reach S a ∧ cs_R w1 (S) sh ∧ mm_R w1 S sh) := by
  refine pm_moni (c_X4_reach hC.1 a) (fun r w1 hq => ?_)
  obtain ⟨q1, rfl⟩ := hq
  exact ⟨q1, hC, hM⟩
theorem o_m_reach {N : Nat} {w : pm_W} {S : ab_S} {sh : Nat → Option ab_S} {T : ab_S} (hC : cs_R w T sh) (hM : mm_R w S sh) (hI : al_I N S) (hN : N < 1000000) (a : Int32) : pm_C pm_L0 MX5_reach [.ref 83, .int a] w (pm_qi fun r w1 => r = pu_reach S a ∧ cs_R w1 T sh ∧ mm_R w1 (S) sh) := by
  refine pm_moni (c_X5_reach hM.1 a) (fun r w1 hq => ?_)
  obtain ⟨q1, rfl⟩ := hq
  exact ⟨q1, hC, hM⟩
theorem o_c_room {N : Nat} {w : pm_W} {S : ab_S} {sh : Nat → Option ab_S} (hC : cs_R w S sh) (hM : mm_R w S sh) (hI : al_I N S) (hN : N < 1000000) (a b : Int32) : pm_C pm_L0 MX4_room [.ref 0, .int a, .int b] w (pm_qi fun r w1 => r = pu_room S a b ∧ cs_R w1 (S) sh ∧ mm_R w1 S sh) := by
  refine pm_moni (c_X4_room hC.1 hI.1 a b) (fun r w1 hq => ?_)
  obtain ⟨q1, rfl⟩ := hq
  exact ⟨q1, hC, hM⟩
theorem o_m_room {N : Nat} {w : pm_W} {S : ab_S} {sh : Nat → Option ab_S} {T : ab_S} (hC : cs_R w T sh) (hM : mm_R w S sh) (hI : al_I N S) (hN : N < 1000000) (a b : Int32) : pm_C pm_L0 MX5_room [.ref 83, .int a, .int b] w (pm_qi fun r w1 => r = pu_room S a b ∧ cs_R w1 T sh ∧ mm_R w1 (S) sh) := by
  refine pm_moni (c_X5_room hM.1 hI.1 a b) (fun r w1 hq => ?_)
  obtain ⟨q1, rfl⟩ := hq
  exact ⟨q1, hC, hM⟩
theorem o_c_waiting {N : Nat} {w : pm_W} {S : ab_S} {sh : Nat → Option ab_S} (hC : cs_R w S sh) (hM : mm_R w S sh) (hI : al_I N S) (hN : N < 1000000) (a b : Int32) : pm_C pm_L0 MX4_waiting [.ref 0, .int a, .int b] w (pm_qi fun r w1 => r = pu_wait S a b ∧ cs_R w1 (S) sh ∧ mm_R w1 S sh) := by
  refine pm_moni (c_X4_waiting hC.1 hI.1 a b) (fun r w1 hq => ?_)
  obtain ⟨q1, rfl⟩ := hq
  exact ⟨q1, hC, hM⟩
theorem o_m_waiting {N : Nat} {w : pm_W} {S : ab_S} {sh : Nat → Option ab_S} {T : ab_S} (hC : cs_R w T sh) (hM : mm_R w S sh) (hI : al_I N S) (hN : N < 1000000) (a b : Int32) : pm_C pm_L0 MX5_waiting [.ref 83, .int a, .int b] w (pm_qi fun r w1 => r = pu_wait S a b ∧ cs_R w1 T sh ∧ mm_R w1 (S) sh) := by
  refine pm_moni (c_X5_waiting hM.1 hI.1 a b) (fun r w1 hq => ?_)
  obtain ⟨q1, rfl⟩ := hq
  exact ⟨q1, hC, hM⟩
theorem o_c_follows {N : Nat} {w : pm_W} {S : ab_S} {sh : Nat → Option ab_S} (hC : cs_R w S sh) (hM : mm_R w S sh) (hI : al_I N S) (hN : N < 1000000) (a b : Int32) : pm_C pm_L0 MX4_follows [.ref 0, .int a, .int b] w (pm_qi fun r w1 => r = pu_follows S a b ∧ cs_R w1 (S) sh ∧ mm_R w1 S sh) := by
  refine pm_moni (c_X4_follows hC.1 a b) (fun r w1 hq => ?_)
  obtain ⟨q1, rfl⟩ := hq
  exact ⟨q1, hC, hM⟩
theorem o_m_follows {N : Nat} {w : pm_W} {S : ab_S} {sh : Nat → Option ab_S} {T : ab_S} (hC : cs_R w T sh) (hM : mm_R w S sh) (hI : al_I N S) (hN : N < 1000000) (a b : Int32) : pm_C pm_L0 MX5_follows [.ref 83, .int a, .int b] w (pm_qi fun r w1 => r = pu_follows S a b ∧ cs_R w1 T sh ∧ mm_R w1 (S) sh) := by
  refine pm_moni (c_X5_follows hM.1 a b) (fun r w1 hq => ?_)
  obtain ⟨q1, rfl⟩ := hq
  exact ⟨q1, hC, hM⟩
theorem o_c_house {N : Nat} {w : pm_W} {S : ab_S} {sh : Nat → Option ab_S} (hC : cs_R w S sh) (hM : mm_R w S sh) (hI : al_I N S) (hN : N < 1000000) (a : Int32) : pm_C pm_L0 MX4_house [.ref 0, .int a] w (pm_qi fun r w1 => r = pu_house S a ∧ cs_R w1 (S) sh ∧ mm_R w1 S sh) := by
  refine pm_moni (c_X4_house hC.1 a) (fun r w1 hq => ?_)
  obtain ⟨q1, rfl⟩ := hq
  exact ⟨q1, hC, hM⟩
theorem o_m_house {N : Nat} {w : pm_W} {S : ab_S} {sh : Nat → Option ab_S} {T : ab_S} (hC : cs_R w T sh) (hM : mm_R w S sh) (hI : al_I N S) (hN : N < 1000000) (a : Int32) : pm_C pm_L0 MX5_house [.ref 83, .int a] w (pm_qi fun r w1 => r = pu_house S a ∧ cs_R w1 T sh ∧ mm_R w1 (S) sh) := by
  refine pm_moni (c_X5_house hM.1 a) (fun r w1 hq => ?_)
  obtain ⟨q1, rfl⟩ := hq
  exact ⟨q1, hC, hM⟩
theorem o_c_digest {N : Nat} {w : pm_W} {S : ab_S} {sh : Nat → Option ab_S} (hC : cs_R w S sh) (hM : mm_R w S sh) (hI : al_I N S) (hN : N < 1000000) : pm_C pm_L0 MX4_digest [.ref 0] w (pm_qi fun r w1 => r = pu_digest S ∧ cs_R w1 (S) sh ∧ mm_R w1 S sh) := by
  refine pm_moni (c_X4_digest hC.1 hI.1 ) (fun r w1 hq => ?_)
  obtain ⟨q1, rfl⟩ := hq
  exact ⟨q1, hC, hM⟩
theorem o_m_digest {N : Nat} {w : pm_W} {S : ab_S} {sh : Nat → Option ab_S} {T : ab_S} (hC : cs_R w T sh) (hM : mm_R w S sh) (hI : al_I N S) (hN : N < 1000000) : pm_C pm_L0 MX5_digest [.ref 83] w (pm_qi fun r w1 => r = pu_digest S ∧ cs_R w1 T sh ∧ mm_R w1 (S) sh) := by
  refine pm_moni (c_X5_digest hM.1 hI.1 ) (fun r w1 hq => ?_)
  obtain ⟨q1, rfl⟩ := hq
  exact ⟨q1, hC, hM⟩
theorem o_c_foresight {N : Nat} {w : pm_W} {S : ab_S} {sh : Nat → Option ab_S} (hC : cs_R w S sh) (hM : mm_R w S sh) (hI : al_I N S) (a : Int32) : pm_C pm_L0 MX4_foresight [.ref 0, .int a] w (pm_qi fun r w1 => pu_fore S a r ∧ cs_R w1 S sh ∧ mm_R w1 S sh) := by
  refine pm_moni (c_X4_foresight hC.1 hI.1 a) (fun r w1 hq => ?_)
  obtain ⟨q1, q2⟩ := hq
  exact ⟨q1, cs_hi hC (fun a ha => q2 a (by omega)), mm_lo hM (fun a ha => q2 a (by omega))⟩
theorem o_m_foresight {N : Nat} {w : pm_W} {S : ab_S} {sh : Nat → Option ab_S} (hC : cs_R w S sh) (hM : mm_R w S sh) (hI : al_I N S) (a : Int32) : pm_C pm_L0 MX5_foresight [.ref 83, .int a] w (pm_qi fun r w1 => pu_foreM S a r ∧ cs_R w1 S sh ∧ mm_R w1 S sh) := by
  refine pm_moni (c_X5_foresight hM.1 hI.1 a) (fun r w1 hq => ?_)
  obtain ⟨q1, q4⟩ := hq
  exact ⟨q1, cs_hi hC (fun a ha => q4.1 a (by omega) (by simp; omega)), mm_fr hM (mo_cong hM.1 (fun a q1 q2 => q4.1 a (by omega) (by simp; omega)) (fun j hj => q4.2.1 j (by simp; omega))) ((q4.2.1 25 (by decide)).trans hM.2.1) (q4.1 107 (by decide) (by decide)) (q4.1 108 (by decide) (by decide))⟩
theorem o_c_keep {N : Nat} {w : pm_W} {S : ab_S} {sh : Nat → Option ab_S} (hC : cs_R w S sh) (hM : mm_R w S sh) (hI : al_I N S) (a : Int32) : pm_C pm_L0 MX4_keep [.ref 0, .int a] w (pm_qi fun r w1 => r = (pu_keep S sh a).1 ∧ cs_R w1 S (pu_keep S sh a).2 ∧ mm_R w1 S sh) := by
  refine pm_moni (c_X4_keep hC hI.1 a) (fun r w1 hq => ?_)
  obtain ⟨q1, q2, q3⟩ := hq
  exact ⟨q1, q2, mm_lo hM (fun a ha => q3.1 a (by omega))⟩
theorem o_m_keep {N : Nat} {w : pm_W} {S : ab_S} {sh : Nat → Option ab_S} {sh' : Nat → Option ab_S} (hC : cs_R w S sh') (hM : mm_R w S sh) (hI : al_I N S) (hT : ∀ s T, s < 2 → sh s = some T → al_I N T) (a : Int32) : pm_C pm_L0 MX5_keep [.ref 83, .int a] w (pm_qi fun r w1 => r = (pu_keep S sh a).1 ∧ cs_R w1 S sh' ∧ mm_R w1 S (pu_keep S sh a).2) := by
  refine pm_moni (m_keep hM hI.1 (fun s T hs h => (hT s T hs h).1) a) (fun r w1 hq => ?_)
  obtain ⟨q1, q2, q4⟩ := hq
  exact ⟨q1, cs_hi hC (fun a ha => q4.1 a (by omega) (by simp; omega)), q2⟩
theorem o_c_back {N : Nat} {w : pm_W} {S : ab_S} {sh : Nat → Option ab_S} (hC : cs_R w S sh) (hM : mm_R w S sh) (hT : ∀ s T, s < 2 → sh s = some T → al_I N T) (a : Int32) : pm_C pm_L0 MX4_back [.ref 0, .int a] w (pm_qi fun r w1 => r = (pu_back S sh a).1 ∧ cs_R w1 (pu_back S sh a).2 sh ∧ mm_R w1 S sh) := by
  refine pm_moni (c_X4_back hC (fun s T hs h => (hT s T hs h).1) a) (fun r w1 hq => ?_)
  obtain ⟨q1, q2, q3⟩ := hq
  exact ⟨q1, q2, mm_lo hM (fun a ha => q3.1 a (by omega))⟩
theorem o_m_back {N : Nat} {w : pm_W} {S : ab_S} {sh : Nat → Option ab_S} {T : ab_S} (hC : cs_R w T sh) (hM : mm_R w S sh) (hT : ∀ s T, s < 2 → sh s = some T → al_I N T) (a : Int32) : pm_C pm_L0 MX5_back [.ref 83, .int a] w (pm_qi fun r w1 => r = (pu_back S sh a).1 ∧ cs_R w1 T sh ∧ mm_R w1 (pu_back S sh a).2 sh) := by
  refine pm_moni (m_back hM (fun s T hs h => (hT s T hs h).1) a) (fun r w1 hq => ?_)
  obtain ⟨q1, q2, q4⟩ := hq
  exact ⟨q1, cs_hi hC (fun a ha => q4.1 a (by omega) (by simp; omega)), q2⟩
theorem al_keep {N : Nat} {S : ab_S} {sh : Nat → Option ab_S} (hI : al_I N S) (hT : ∀ s T, s < 2 → sh s = some T → al_I N T) (a : Int32) : ∀ s T, s < 2 → (pu_keep S sh a).2 s = some T → al_I N T := by
  intro s T hs h
  unfold pu_keep at h
  by_cases q : pm_bw a 0 1 = true
  · rw [if_pos q] at h
    have h : va_up sh a.toNatClampNeg (some S) s = some T := h
    by_cases e : s = a.toNatClampNeg
    · subst e
      rw [va_up_self] at h
      cases h
      exact hI
    · rw [va_up_ne _ _ e] at h
      exact hT s T hs h
  · rw [if_neg q] at h
    exact hT s T hs h
theorem al_back {N : Nat} {S : ab_S} {sh : Nat → Option ab_S} (hI : al_I N S) (hT : ∀ s T, s < 2 → sh s = some T → al_I N T) (a : Int32) : al_I N (pu_back S sh a).2 := by
  unfold pu_back
  split
  next q =>
    obtain ⟨k, hk, rfl⟩ := bw_of (n := 1) (by decide) q
    rw [nI_clamp (by omega)]
    cases hz : sh k with
    | none => exact hI
    | some T => exact hT k T (by omega) hz
  next => exact hI

