def fo_mn (h : Nat → Nat) : Nat → Nat
  | 0 => 1000000
  | j + 1 => if h j < fo_mn h j then h j else fo_mn h j
theorem mn_le (h : Nat → Nat) : ∀ n, fo_mn h n ≤ 1000000
  | 0 => Nat.le_refl _
  | j + 1 => by
    have := mn_le h j
    rw [fo_mn]
    split <;> omega
theorem mn_lo {h : Nat → Nat} : ∀ {n s : Nat}, s < n → fo_mn h n ≤ h s
  | 0, s, hs => absurd hs (by omega)
  | j + 1, s, hs => by
    rw [fo_mn]
    rcases Nat.lt_succ_iff_lt_or_eq.mp hs with q | rfl
    · have := mn_lo (h := h) q
      split <;> omega
    · split <;> omega
theorem mn_at {h : Nat → Nat} : ∀ {n : Nat}, fo_mn h n < 1000000 → ∃ s, s < n ∧ h s = fo_mn h n
  | 0, hs => absurd hs (by simp [fo_mn])
  | j + 1, hs => by
    rw [fo_mn] at hs ⊢
    by_cases q : h j < fo_mn h j
    · rw [if_pos q]
      exact ⟨j, by omega, rfl⟩
    · rw [if_neg q] at hs ⊢
      obtain ⟨s, h1, h2⟩ := mn_at hs
      exact ⟨s, by omega, h2⟩
theorem fl_L {sp U v : Nat} {xs : Nat → Nat} {tk : Nat → Bool} {i : Nat} (hi : i < 1000) {h : Nat → Nat} (hB : fo_bk (fo_D sp U v (xs i) (fo_A sp U v xs tk i)) h) : fo_L sp U v xs tk (i + 1) (fo_mn h 128) := by
  obtain ⟨q1, q2, q3⟩ := hB
  have hup : ∀ s c, fo_A sp U v xs tk (i + 1) s c → ∃ s', fo_D sp U v (xs i) (fo_A sp U v xs tk i) s' c := by
    intro s c ha
    rw [fo_A, fo_T] at ha
    cases hz : tk i
    · rw [hz] at ha; exact ⟨s, ha⟩
    · rw [hz] at ha
      obtain ⟨s', h1, -⟩ := ha
      exact ⟨s', h1⟩
  have hdn : ∀ s c, fo_D sp U v (xs i) (fo_A sp U v xs tk i) s c → fo_A sp U v xs tk (i + 1) s c := by
    intro s c ha
    rw [fo_A, fo_T]
    cases tk i
    · exact ha
    · exact ⟨s, ha, fo_rf _ _ _ _⟩
  refine ⟨?_, fun s c ha => ?_⟩
  · obtain ⟨s, c, h1, h2⟩ := fo_cheap (sp := sp) (U := U) (v := v) xs tk (i + 1)
    obtain ⟨s', h3⟩ := hup s c h2
    obtain ⟨h4, h5⟩ := q3 s' c h3
    have h6 := mn_lo (h := h) h4
    obtain ⟨s0, h7, h8⟩ := mn_at (h := h) (n := 128) (by omega)
    refine ⟨s0, hdn s0 _ ?_⟩
    rw [← h8]
    exact q2 s0 h7 (by omega)
  · obtain ⟨s', h3⟩ := hup s c ha
    obtain ⟨h4, h5⟩ := q3 s' c h3
    have h6 := mn_lo (h := h) h4
    omega
/-- What comes to room t from room s at the end of an ask. -/
def fc_C (sp U v : Nat) (z : Bool) (s t : Nat) : Prop := if z = true then fo_sn sp U v s t else t = s
def fb_1 (C : Nat → Nat → Prop) (h : Nat → Nat) (s t y : Nat) : Prop := y ≤ 1000000 ∧ (y < 1000000 → ∃ s', s' < s ∧ C s' t ∧ h s' = y) ∧ ∀ s', s' < s → C s' t → y ≤ h s'
theorem fb_0 (C : Nat → Nat → Prop) (h : Nat → Nat) (t : Nat) : fb_1 C h 0 t 1000000 := ⟨Nat.le_refl _, fun z => absurd z (by omega), fun s' hs => absurd hs (by omega)⟩
theorem fb_u {C : Nat → Nat → Prop} {h : Nat → Nat} {s t y : Nat} (hb : fb_1 C h s t y) (hc : C s t) (hl : h s < y) : fb_1 C h (s + 1) t (h s) := by
  obtain ⟨q1, q2, q3⟩ := hb
  refine ⟨by omega, fun _ => ⟨s, by omega, hc, rfl⟩, fun s' hs hc' => ?_⟩
  rcases Nat.lt_succ_iff_lt_or_eq.mp hs with z | rfl
  · have := q3 s' z hc'; omega
  · exact Nat.le_refl _
theorem fb_n {C : Nat → Nat → Prop} {h : Nat → Nat} {s t y : Nat} (hb : fb_1 C h s t y) (hc : C s t → ¬ h s < y) : fb_1 C h (s + 1) t y := by
  obtain ⟨q1, q2, q3⟩ := hb
  refine ⟨q1, fun hl => ?_, fun s' hs hc' => ?_⟩
  · obtain ⟨s', a, b, c⟩ := q2 hl
    exact ⟨s', by omega, b, c⟩
  · rcases Nat.lt_succ_iff_lt_or_eq.mp hs with z | rfl
    · exact q3 s' z hc'
    · exact Nat.le_of_not_lt (hc hc')
theorem fb_E {sp U v : Nat} (hU : U ≤ 7) {z : Bool} {D : Nat → Nat → Prop} {h b : Nat → Nat} (hD : fo_bk D h) (hb : ∀ t, t < 128 → fb_1 (fc_C sp U v z) h 128 t (b t)) : fo_bk (fo_T sp U v z D) b := by
  obtain ⟨q1, q2, q3⟩ := hD
  refine ⟨fun s hs => (hb s hs).1, fun t ht hl => ?_, fun t c ha => ?_⟩
  · obtain ⟨s', a1, a2, a3⟩ := (hb t ht).2.1 hl
    have hd := q2 s' a1 (by omega)
    rw [a3] at hd
    unfold fo_T
    unfold fc_C at a2
    cases z
    · have a2 : t = s' := a2
      rw [a2] at hd ⊢; exact hd
    · exact ⟨s', hd, a2⟩
  · unfold fo_T at ha
    cases z
    · obtain ⟨a1, a2⟩ := q3 t c ha
      refine ⟨a1, ?_⟩
      have := (hb t a1).2.2 t a1 (show fc_C sp U v false t t from rfl)
      omega
    · obtain ⟨s, ha, hn⟩ := ha
      obtain ⟨a1, a2⟩ := q3 s c ha
      have a3 := fo_ln8 hU a1 hn
      refine ⟨a3, ?_⟩
      have := (hb t a3).2.2 s a1 (show fc_C sp U v true s t from hn)
      omega
theorem fu_un2 {w w1 : pm_W} {bs : Nat → Int32} {i : Nat} (h : ∀ k, k < (fu_n bs i).length → w.1 100 k = (fu_n bs i).getD k 0) (hx : fu_x bs i = (fu_n bs i).length) (e : w1.1 100 = upd (w.1 100) (fu_n bs i).length (bs i)) : ∀ k, k < (fu_n bs (i + 1)).length → w1.1 100 k = (fu_n bs (i + 1)).getD k 0 := by
  intro k hk
  rw [e]
  rw [fu_lx, if_pos hx] at hk
  rw [fu_n, if_pos (show fu_i (bs i) (fu_n bs i) = _ from hx)]
  by_cases q : k = (fu_n bs i).length
  · subst q
    rw [pk_us]
    simp
  · rw [pk_un q, h k (by omega)]
    simp [List.getD_eq_getElem?_getD, List.getElem?_append_left (show k < (fu_n bs i).length by omega)]
theorem mo_row {w w1 : pm_W} {S : ab_S} (hR : mo_R w S) {n i : Nat} (hn : n ≤ 24 ∧ n ≤ S.2.2.2.2.length) (hi : i < n) (e : w1.1 99 = w.1 99) : w1.1 99 ((S.2.2.2.2.length - n + i) % 200) = fu_b S n i := by
  rw [e]
  refine hR.2.2.2.2.2 _ _ ?_ (by omega)
  rw [fu_b, List.getD_eq_getElem?_getD, List.getElem?_eq_getElem (show S.2.2.2.2.length - n + i < S.2.2.2.2.length by omega)]
  rfl

set_option maxRecDepth 4000 in
theorem fs_365 {w : pm_W} {S : ab_S} (hR : mo_R w S) {sp v pc n : Nat} (e4 : S.2.2.2.1 4 = nI sp) (e5 : S.2.2.2.1 5 = nI v) (e6 : S.2.2.2.1 6 = nI pc) (hsp : sp ≤ 12) (hv1 : 1 ≤ v) (hv : v ≤ 3) (hp1 : 1 ≤ pc) (hp : pc ≤ 4) (hlen : S.2.2.2.2.length ≤ 1000000) (hn : n ≤ 24 ∧ n ≤ S.2.2.2.2.length) (x hd : Int32) (h7 : ∀ j, j < n → fu_x (fu_b S n) j < 7) {i : Nat} (hi : i < n) (i204 : ∀ (w1 : pm_W) (b : Nat → Nat) (m : Nat), mfr w w1 [100, 101, 102, 103, 104, 105, 106] [29] → w1.1 83 29 = nI (fu_n (fu_b S n) n).length → (∀ k, k < (fu_n (fu_b S n) n).length → w1.1 100 k = (fu_n (fu_b S n) n).getD k 0) → (∀ s t, s < 128 → t < 128 → zr (w1.1 101 (128 * s + t)) (fo_sn sp (fu_n (fu_b S n) n).length v s t)) → (∀ s t, s < 128 → t < 128 → zr (w1.1 102 (128 * s + t)) (fo_sn sp (fu_n (fu_b S n) n).length (v - 1) s t)) → (∀ s, s < 128 → w1.1 105 s = nI (b s)) → fo_bk (fo_A sp (fu_n (fu_b S n) n).length v (fu_x (fu_b S n)) (fu_tk S n) (i + 1)) b → fo_L sp (fu_n (fu_b S n) n).length v (fu_x (fu_b S n)) (fu_tk S n) (i + 1) m → pm_R pm_L0 MX5_foresight 204 [some (.ref 83), some (.int x), some (.int hd), some (.int (nI n)), some (.int (nI m)), some (.int (nI (S.2.2.2.2.length - n + (i + 1)))), none, none, none, none] [] w1 (pm_qi fun r w1 => pf_A S (fu_n (fu_b S n) n).length n r ∧ mfr w w1 [100, 101, 102, 103, 104, 105, 106] [29])) {w2 : pm_W} (hf2 : mfr w w2 [100, 101, 102, 103, 104, 105, 106] [29]) (h29 : w2.1 83 29 = nI (fu_n (fu_b S n) n).length) (hu : ∀ k, k < (fu_n (fu_b S n) n).length → w2.1 100 k = (fu_n (fu_b S n) n).getD k 0) (hT : ∀ s t, s < 128 → t < 128 → zr (w2.1 101 (128 * s + t)) (fo_sn sp (fu_n (fu_b S n) n).length v s t)) (hL : ∀ s t, s < 128 → t < 128 → zr (w2.1 102 (128 * s + t)) (fo_sn sp (fu_n (fu_b S n) n).length (v - 1) s t)) {h : Nat → Nat} (h106 : ∀ s, s < 128 → w2.1 106 s = nI (h s)) (hD : fo_bk (fo_D sp (fu_n (fu_b S n) n).length v (fu_x (fu_b S n) i) (fo_A sp (fu_n (fu_b S n) n).length v (fu_x (fu_b S n)) (fu_tk S n) i)) h) {s t : Nat} (hs : s < 128) (ht : t < 128) (z : Int32) (it : t < 128 → ∀ (w3 : pm_W) (b : Nat → Nat), mfr w2 w3 [105] [] → (∀ t', t' < 128 → w3.1 105 t' = nI (b t')) → (∀ t', t' < 128 → fb_1 (fc_C sp (fu_n (fu_b S n) n).length v (fu_tk S n i)) h (if t' < t + 1 then s + 1 else s) t' (b t')) → pm_R pm_L0 MX5_foresight 321 [some (.ref 83), some (.int x), some (.int hd), some (.int (nI n)), some (.int (nI (fo_mn h 128))), some (.int (nI (S.2.2.2.2.length - n + i))), some (.int z), some (.int (nI s)), some (.int (nI (t + 1))), none] [] w3 (pm_qi fun r w1 => pf_A S (fu_n (fu_b S n) n).length n r ∧ mfr w w1 [100, 101, 102, 103, 104, 105, 106] [29])) {w3 : pm_W} {b : Nat → Nat} (hf3 : mfr w2 w3 [105] []) (h105 : ∀ t', t' < 128 → w3.1 105 t' = nI (b t')) (hb : ∀ t', t' < 128 → fb_1 (fc_C sp (fu_n (fu_b S n) n).length v (fu_tk S n i)) h (if t' < t then s + 1 else s) t' (b t')) {z9 : Int32} (hC : zr z9 ((fc_C sp (fu_n (fu_b S n) n).length v (fu_tk S n i)) s t)) : pm_R pm_L0 MX5_foresight 365 [some (.ref 83), some (.int x), some (.int hd), some (.int (nI n)), some (.int (nI (fo_mn h 128))), some (.int (nI (S.2.2.2.2.length - n + i))), some (.int z), some (.int (nI s)), some (.int (nI t)), some (.int z9)] [] w3 (pm_qi fun r w1 => pf_A S (fu_n (fu_b S n) n).length n r ∧ mfr w w1 [100, 101, 102, 103, 104, 105, 106] [29]) := by
    have hbt := (hb t ht).1
    have hhs := hD.1 s hs
    refine pm_aload_n dX5_foresight_365 rfl ?_
    refine pm_getR (ci := 5) (j := 34) (n := 39) (by first | assumption | rfl) (by decide) (by decide) rfl fl_RX5_78 rfl (by first | assumption | rfl) dX5_foresight_366 ?_
    refine pm_iload dX5_foresight_369 rfl ?_
    refine pm_iload dX5_foresight_371 rfl ?_
    refine pm_if_eq (tgt := 403) dX5_foresight_373 (by decide) (fun c373 => ?_) (fun c373 => ?_)
    · refine pm_aload_n dX5_foresight_403 rfl ?_
      refine pm_getR (ci := 5) (j := 34) (n := 39) (by first | assumption | rfl) (by decide) (by decide) rfl fl_RX5_78 rfl (by first | assumption | rfl) dX5_foresight_404 ?_
      refine pm_iload dX5_foresight_407 rfl ?_
      refine pm_ialdN (by first | assumption | rfl) (by omega) (by first | decide | omega) dX5_foresight_409 ?_
      first | rw [h105 t ht] | skip
      refine pm_iastN (by first | assumption | rfl) (by omega) (by first | decide | omega) dX5_foresight_410 ?_
      refine pm_iinc (y := _ + 1) (lv' := [some (.ref _), some (.int _), some (.int _), some (.int _), some (.int _), some (.int _), some (.int _), some (.int _), some (.int _), some (.int _)]) dX5_foresight_411 rfl rfl (by decide) rfl ?_
      refine pm_goto (tgt := 321) dX5_foresight_414 (by decide) ?_
      refine pm_fg (lv' := [some (.ref _), some (.int _), some (.int _), some (.int _), some (.int _), some (.int _), some (.int _), some (.int _), some (.int _), none]) (pm_le_k rfl (pm_le_k rfl (pm_le_k rfl (pm_le_k rfl (pm_le_k rfl (pm_le_k rfl (pm_le_k rfl (pm_le_k rfl (pm_le_k rfl (pm_le_n pm_le_0)))))))))) ?_
      rw [nI_1 t]
      refine it ht _ (nu b t (b t)) (mfr_c hf3 (by decide) (by decide) _) (fun j hj => ?_) (fun j hj => ?_)
      · rw [pm_s_at]
        by_cases e : j = t
        · subst e; rw [pk_us, nu_s]
        · rw [pk_un e, nu_n e]; exact h105 j hj
      · by_cases e : j = t
        · subst e
          rw [nu_s, if_pos (Nat.lt_succ_self _)]
          exact fb_n (by have := hb j hj; rw [if_neg (by omega)] at this; exact this) (fun z => absurd z (zr_0 hC c373))
        · rw [nu_n e]
          have := hb j hj
          by_cases e2 : j < t
          · rw [if_pos e2] at this; rw [if_pos (by omega)]; exact this
          · rw [if_neg e2] at this; rw [if_neg (by omega)]; exact this
    · refine pm_aload_n dX5_foresight_376 rfl ?_
      refine pm_getR (ci := 5) (j := 35) (n := 39) (by first | assumption | rfl) (by decide) (by decide) rfl fl_RX5_81 rfl (by first | assumption | rfl) dX5_foresight_377 ?_
      refine pm_iload dX5_foresight_380 rfl ?_
      refine pm_ialdN (by first | assumption | rfl) (by omega) (by first | decide | omega) dX5_foresight_382 ?_
      rw [hf3.1 106 (by decide) (by decide), h106 s hs]
      refine pm_aload_n dX5_foresight_383 rfl ?_
      refine pm_getR (ci := 5) (j := 34) (n := 39) (by first | assumption | rfl) (by decide) (by decide) rfl fl_RX5_78 rfl (by first | assumption | rfl) dX5_foresight_384 ?_
      refine pm_iload dX5_foresight_387 rfl ?_
      refine pm_ialdN (by first | assumption | rfl) (by omega) (by first | decide | omega) dX5_foresight_389 ?_
      rw [h105 t ht]
      refine pm_icmp_ge (tgt := 403) dX5_foresight_390 (by decide) (fun c390 => ?_) (fun c390 => ?_)
      · refine pm_aload_n dX5_foresight_403 rfl ?_
        refine pm_getR (ci := 5) (j := 34) (n := 39) (by first | assumption | rfl) (by decide) (by decide) rfl fl_RX5_78 rfl (by first | assumption | rfl) dX5_foresight_404 ?_
        refine pm_iload dX5_foresight_407 rfl ?_
        refine pm_ialdN (by first | assumption | rfl) (by omega) (by first | decide | omega) dX5_foresight_409 ?_
        first | rw [h105 t ht] | skip
        refine pm_iastN (by first | assumption | rfl) (by omega) (by first | decide | omega) dX5_foresight_410 ?_
        refine pm_iinc (y := _ + 1) (lv' := [some (.ref _), some (.int _), some (.int _), some (.int _), some (.int _), some (.int _), some (.int _), some (.int _), some (.int _), some (.int _)]) dX5_foresight_411 rfl rfl (by decide) rfl ?_
        refine pm_goto (tgt := 321) dX5_foresight_414 (by decide) ?_
        refine pm_fg (lv' := [some (.ref _), some (.int _), some (.int _), some (.int _), some (.int _), some (.int _), some (.int _), some (.int _), some (.int _), none]) (pm_le_k rfl (pm_le_k rfl (pm_le_k rfl (pm_le_k rfl (pm_le_k rfl (pm_le_k rfl (pm_le_k rfl (pm_le_k rfl (pm_le_k rfl (pm_le_n pm_le_0)))))))))) ?_
        rw [nI_leI (by omega) (by omega)] at c390
        rw [nI_1 t]
        refine it ht _ (nu b t (b t)) (mfr_c hf3 (by decide) (by decide) _) (fun j hj => ?_) (fun j hj => ?_)
        · rw [pm_s_at]
          by_cases e : j = t
          · subst e; rw [pk_us, nu_s]
          · rw [pk_un e, nu_n e]; exact h105 j hj
        · by_cases e : j = t
          · subst e
            rw [nu_s, if_pos (Nat.lt_succ_self _)]
            exact fb_n (by have := hb j hj; rw [if_neg (by omega)] at this; exact this) (fun _ => by omega)
          · rw [nu_n e]
            have := hb j hj
            by_cases e2 : j < t
            · rw [if_pos e2] at this; rw [if_pos (by omega)]; exact this
            · rw [if_neg e2] at this; rw [if_neg (by omega)]; exact this
      · refine pm_aload_n dX5_foresight_393 rfl ?_
        refine pm_getR (ci := 5) (j := 35) (n := 39) (by first | assumption | rfl) (by decide) (by decide) rfl fl_RX5_81 rfl (by first | assumption | rfl) dX5_foresight_394 ?_
        refine pm_iload dX5_foresight_397 rfl ?_
        refine pm_ialdN (by first | assumption | rfl) (by omega) (by first | decide | omega) dX5_foresight_399 ?_
        rw [hf3.1 106 (by decide) (by decide), h106 s hs]
        refine pm_goto (tgt := 410) dX5_foresight_400 (by decide) ?_
        first | rw [h105 t ht] | skip
        refine pm_iastN (by first | assumption | rfl) (by omega) (by first | decide | omega) dX5_foresight_410 ?_
        refine pm_iinc (y := _ + 1) (lv' := [some (.ref _), some (.int _), some (.int _), some (.int _), some (.int _), some (.int _), some (.int _), some (.int _), some (.int _), some (.int _)]) dX5_foresight_411 rfl rfl (by decide) rfl ?_
        refine pm_goto (tgt := 321) dX5_foresight_414 (by decide) ?_
        refine pm_fg (lv' := [some (.ref _), some (.int _), some (.int _), some (.int _), some (.int _), some (.int _), some (.int _), some (.int _), some (.int _), none]) (pm_le_k rfl (pm_le_k rfl (pm_le_k rfl (pm_le_k rfl (pm_le_k rfl (pm_le_k rfl (pm_le_k rfl (pm_le_k rfl (pm_le_k rfl (pm_le_n pm_le_0)))))))))) ?_
        rw [nI_leI (by omega) (by omega)] at c390
        rw [nI_1 t]
        refine it ht _ (nu b t (h s)) (mfr_c hf3 (by decide) (by decide) _) (fun j hj => ?_) (fun j hj => ?_)
        · rw [pm_s_at]
          by_cases e : j = t
          · subst e; rw [pk_us, nu_s]
          · rw [pk_un e, nu_n e]; exact h105 j hj
        · by_cases e : j = t
          · subst e
            rw [nu_s, if_pos (Nat.lt_succ_self _)]
            exact fb_u (by have := hb j hj; rw [if_neg (by omega)] at this; exact this) (zr_1 hC c373) (by omega)
          · rw [nu_n e]
            have := hb j hj
            by_cases e2 : j < t
            · rw [if_pos e2] at this; rw [if_pos (by omega)]; exact this
            · rw [if_neg e2] at this; rw [if_neg (by omega)]; exact this

set_option maxRecDepth 4000 in
theorem fs_321 {w : pm_W} {S : ab_S} (hR : mo_R w S) {sp v pc n : Nat} (e4 : S.2.2.2.1 4 = nI sp) (e5 : S.2.2.2.1 5 = nI v) (e6 : S.2.2.2.1 6 = nI pc) (hsp : sp ≤ 12) (hv1 : 1 ≤ v) (hv : v ≤ 3) (hp1 : 1 ≤ pc) (hp : pc ≤ 4) (hlen : S.2.2.2.2.length ≤ 1000000) (hn : n ≤ 24 ∧ n ≤ S.2.2.2.2.length) (x hd : Int32) (h7 : ∀ j, j < n → fu_x (fu_b S n) j < 7) {i : Nat} (hi : i < n) (i204 : ∀ (w1 : pm_W) (b : Nat → Nat) (m : Nat), mfr w w1 [100, 101, 102, 103, 104, 105, 106] [29] → w1.1 83 29 = nI (fu_n (fu_b S n) n).length → (∀ k, k < (fu_n (fu_b S n) n).length → w1.1 100 k = (fu_n (fu_b S n) n).getD k 0) → (∀ s t, s < 128 → t < 128 → zr (w1.1 101 (128 * s + t)) (fo_sn sp (fu_n (fu_b S n) n).length v s t)) → (∀ s t, s < 128 → t < 128 → zr (w1.1 102 (128 * s + t)) (fo_sn sp (fu_n (fu_b S n) n).length (v - 1) s t)) → (∀ s, s < 128 → w1.1 105 s = nI (b s)) → fo_bk (fo_A sp (fu_n (fu_b S n) n).length v (fu_x (fu_b S n)) (fu_tk S n) (i + 1)) b → fo_L sp (fu_n (fu_b S n) n).length v (fu_x (fu_b S n)) (fu_tk S n) (i + 1) m → pm_R pm_L0 MX5_foresight 204 [some (.ref 83), some (.int x), some (.int hd), some (.int (nI n)), some (.int (nI m)), some (.int (nI (S.2.2.2.2.length - n + (i + 1)))), none, none, none, none] [] w1 (pm_qi fun r w1 => pf_A S (fu_n (fu_b S n) n).length n r ∧ mfr w w1 [100, 101, 102, 103, 104, 105, 106] [29])) {w2 : pm_W} (hf2 : mfr w w2 [100, 101, 102, 103, 104, 105, 106] [29]) (h29 : w2.1 83 29 = nI (fu_n (fu_b S n) n).length) (hu : ∀ k, k < (fu_n (fu_b S n) n).length → w2.1 100 k = (fu_n (fu_b S n) n).getD k 0) (hT : ∀ s t, s < 128 → t < 128 → zr (w2.1 101 (128 * s + t)) (fo_sn sp (fu_n (fu_b S n) n).length v s t)) (hL : ∀ s t, s < 128 → t < 128 → zr (w2.1 102 (128 * s + t)) (fo_sn sp (fu_n (fu_b S n) n).length (v - 1) s t)) {h : Nat → Nat} (h106 : ∀ s, s < 128 → w2.1 106 s = nI (h s)) (hD : fo_bk (fo_D sp (fu_n (fu_b S n) n).length v (fu_x (fu_b S n) i) (fo_A sp (fu_n (fu_b S n) n).length v (fu_x (fu_b S n)) (fu_tk S n) i)) h) {s : Nat} (hs : s < 128) {z : Int32} (hz : zr z (fu_tk S n i = true)) (is : s < 128 → ∀ (w3 : pm_W) (b : Nat → Nat), mfr w2 w3 [105] [] → (∀ t', t' < 128 → w3.1 105 t' = nI (b t')) → (∀ t', t' < 128 → fb_1 (fc_C sp (fu_n (fu_b S n) n).length v (fu_tk S n i)) h (s + 1) t' (b t')) → pm_R pm_L0 MX5_foresight 310 [some (.ref 83), some (.int x), some (.int hd), some (.int (nI n)), some (.int (nI (fo_mn h 128))), some (.int (nI (S.2.2.2.2.length - n + i))), some (.int z), some (.int (nI (s + 1))), none, none] [] w3 (pm_qi fun r w1 => pf_A S (fu_n (fu_b S n) n).length n r ∧ mfr w w1 [100, 101, 102, 103, 104, 105, 106] [29])) : ∀ t, t ≤ 128 → ∀ (w3 : pm_W) (b : Nat → Nat), mfr w2 w3 [105] [] → (∀ t', t' < 128 → w3.1 105 t' = nI (b t')) → (∀ t', t' < 128 → fb_1 (fc_C sp (fu_n (fu_b S n) n).length v (fu_tk S n i)) h (if t' < t then s + 1 else s) t' (b t')) → pm_R pm_L0 MX5_foresight 321 [some (.ref 83), some (.int x), some (.int hd), some (.int (nI n)), some (.int (nI (fo_mn h 128))), some (.int (nI (S.2.2.2.2.length - n + i))), some (.int z), some (.int (nI s)), some (.int (nI t)), none] [] w3 (pm_qi fun r w1 => pf_A S (fu_n (fu_b S n) n).length n r ∧ mfr w w1 [100, 101, 102, 103, 104, 105, 106] [29]) := by
    refine up_loop 128 (fun t ht9 it w3 b hf3 h105 hb => ?_)
    refine pm_iload dX5_foresight_321 rfl ?_
    refine pm_sipush (x := nI 128) dX5_foresight_323 rfl ?_
    refine pm_icmp_ge (tgt := 417) dX5_foresight_326 (by decide) (fun c326 => ?_) (fun c326 => ?_)
    · refine pm_iinc (y := _ + 1) (lv' := [some (.ref _), some (.int _), some (.int _), some (.int _), some (.int _), some (.int _), some (.int _), some (.int _), some (.int _), none]) dX5_foresight_417 rfl rfl (by decide) rfl ?_
      refine pm_goto (tgt := 310) dX5_foresight_420 (by decide) ?_
      refine pm_fg (lv' := [some (.ref _), some (.int _), some (.int _), some (.int _), some (.int _), some (.int _), some (.int _), some (.int _), none, none]) (pm_le_k rfl (pm_le_k rfl (pm_le_k rfl (pm_le_k rfl (pm_le_k rfl (pm_le_k rfl (pm_le_k rfl (pm_le_k rfl (pm_le_n (pm_le_n pm_le_0)))))))))) ?_
      have he : t = 128 := by
        rw [nI_leI (by omega) (by omega)] at c326
        omega
      subst he
      rw [nI_1 s]
      exact is hs w3 b hf3 h105 (fun t' ht' => by have := hb t' ht'; rw [if_pos ht'] at this; exact this)
    · have ht : t < 128 := by
        rw [nI_leI (by omega) (by omega)] at c326
        omega
      refine pm_iload dX5_foresight_329 rfl ?_
      refine pm_if_eq (tgt := 351) dX5_foresight_331 (by decide) (fun c331 => ?_) (fun c331 => ?_)
      · refine pm_iload dX5_foresight_351 rfl ?_
        refine pm_iload dX5_foresight_353 rfl ?_
        refine pm_icmp_ne (tgt := 362) dX5_foresight_355 (by decide) (fun c355 => ?_) (fun c355 => ?_)
        · refine pm_iconst (x := 0) dX5_foresight_362 rfl ?_
          refine pm_istore (lv' := [some (.ref _), some (.int _), some (.int _), some (.int _), some (.int _), some (.int _), some (.int _), some (.int _), some (.int _), some (.int _)]) dX5_foresight_363 (by decide) rfl ?_
          have hz0 : fu_tk S n i = false := by
            cases q : fu_tk S n i
            · rfl
            · exact absurd q (zr_0 hz c331)
          rw [nI_eq (by omega) (by omega)] at c355
          exact fs_365 hR e4 e5 e6 hsp hv1 hv hp1 hp hlen hn x hd h7 hi i204 hf2 h29 hu hT hL h106 hD hs ht z (fun _ => it ht) hf3 h105 hb (Or.inr ⟨by rw [hz0]; exact fun q => c355 (Eq.symm q), rfl⟩)
        · refine pm_iconst (x := 1) dX5_foresight_358 rfl ?_
          refine pm_goto (tgt := 363) dX5_foresight_359 (by decide) ?_
          refine pm_istore (lv' := [some (.ref _), some (.int _), some (.int _), some (.int _), some (.int _), some (.int _), some (.int _), some (.int _), some (.int _), some (.int _)]) dX5_foresight_363 (by decide) rfl ?_
          have hz0 : fu_tk S n i = false := by
            cases q : fu_tk S n i
            · rfl
            · exact absurd q (zr_0 hz c331)
          rw [nI_eq (by omega) (by omega)] at c355
          exact fs_365 hR e4 e5 e6 hsp hv1 hv hp1 hp hlen hn x hd h7 hi i204 hf2 h29 hu hT hL h106 hD hs ht z (fun _ => it ht) hf3 h105 hb (Or.inl ⟨by rw [hz0]; exact c355.symm, rfl⟩)
      · refine pm_aload_n dX5_foresight_334 rfl ?_
        refine pm_getR (ci := 5) (j := 30) (n := 39) (by first | assumption | rfl) (by decide) (by decide) rfl fl_RX5_66 rfl (by first | assumption | rfl) dX5_foresight_335 ?_
        refine pm_sipush (x := nI 128) dX5_foresight_338 rfl ?_
        refine pm_iload dX5_foresight_341 rfl ?_
        refine pm_imul dX5_foresight_343 ?_
        refine pm_iload dX5_foresight_344 rfl ?_
        refine pm_iadd dX5_foresight_346 ?_
        refine pm_topi (nI (128 * s + t)) (by rw [pk_mul, nI_add]) ?_
        refine pm_zaldN (by first | assumption | rfl) (by omega) (by first | decide | omega) dX5_foresight_347 ?_
        refine pm_goto (tgt := 363) dX5_foresight_348 (by decide) ?_
        refine pm_istore (lv' := [some (.ref _), some (.int _), some (.int _), some (.int _), some (.int _), some (.int _), some (.int _), some (.int _), some (.int _), some (.int _)]) dX5_foresight_363 (by decide) rfl ?_
        have hz1 : fu_tk S n i = true := zr_1 hz c331
        exact fs_365 hR e4 e5 e6 hsp hv1 hv hp1 hp hlen hn x hd h7 hi i204 hf2 h29 hu hT hL h106 hD hs ht z (fun _ => it ht) hf3 h105 hb (by rw [hf3.1 101 (by decide) (by decide), hz1]; exact hT s t hs ht)

set_option maxRecDepth 4000 in
theorem fs_310 {w : pm_W} {S : ab_S} (hR : mo_R w S) {sp v pc n : Nat} (e4 : S.2.2.2.1 4 = nI sp) (e5 : S.2.2.2.1 5 = nI v) (e6 : S.2.2.2.1 6 = nI pc) (hsp : sp ≤ 12) (hv1 : 1 ≤ v) (hv : v ≤ 3) (hp1 : 1 ≤ pc) (hp : pc ≤ 4) (hlen : S.2.2.2.2.length ≤ 1000000) (hn : n ≤ 24 ∧ n ≤ S.2.2.2.2.length) (x hd : Int32) (h7 : ∀ j, j < n → fu_x (fu_b S n) j < 7) {i : Nat} (hi : i < n) (i204 : ∀ (w1 : pm_W) (b : Nat → Nat) (m : Nat), mfr w w1 [100, 101, 102, 103, 104, 105, 106] [29] → w1.1 83 29 = nI (fu_n (fu_b S n) n).length → (∀ k, k < (fu_n (fu_b S n) n).length → w1.1 100 k = (fu_n (fu_b S n) n).getD k 0) → (∀ s t, s < 128 → t < 128 → zr (w1.1 101 (128 * s + t)) (fo_sn sp (fu_n (fu_b S n) n).length v s t)) → (∀ s t, s < 128 → t < 128 → zr (w1.1 102 (128 * s + t)) (fo_sn sp (fu_n (fu_b S n) n).length (v - 1) s t)) → (∀ s, s < 128 → w1.1 105 s = nI (b s)) → fo_bk (fo_A sp (fu_n (fu_b S n) n).length v (fu_x (fu_b S n)) (fu_tk S n) (i + 1)) b → fo_L sp (fu_n (fu_b S n) n).length v (fu_x (fu_b S n)) (fu_tk S n) (i + 1) m → pm_R pm_L0 MX5_foresight 204 [some (.ref 83), some (.int x), some (.int hd), some (.int (nI n)), some (.int (nI m)), some (.int (nI (S.2.2.2.2.length - n + (i + 1)))), none, none, none, none] [] w1 (pm_qi fun r w1 => pf_A S (fu_n (fu_b S n) n).length n r ∧ mfr w w1 [100, 101, 102, 103, 104, 105, 106] [29])) {w2 : pm_W} (hf2 : mfr w w2 [100, 101, 102, 103, 104, 105, 106] [29]) (h29 : w2.1 83 29 = nI (fu_n (fu_b S n) n).length) (hu : ∀ k, k < (fu_n (fu_b S n) n).length → w2.1 100 k = (fu_n (fu_b S n) n).getD k 0) (hT : ∀ s t, s < 128 → t < 128 → zr (w2.1 101 (128 * s + t)) (fo_sn sp (fu_n (fu_b S n) n).length v s t)) (hL : ∀ s t, s < 128 → t < 128 → zr (w2.1 102 (128 * s + t)) (fo_sn sp (fu_n (fu_b S n) n).length (v - 1) s t)) {h : Nat → Nat} (h106 : ∀ s, s < 128 → w2.1 106 s = nI (h s)) (hD : fo_bk (fo_D sp (fu_n (fu_b S n) n).length v (fu_x (fu_b S n) i) (fo_A sp (fu_n (fu_b S n) n).length v (fu_x (fu_b S n)) (fu_tk S n) i)) h) {z : Int32} (hz : zr z (fu_tk S n i = true)) : ∀ s, s ≤ 128 → ∀ (w3 : pm_W) (b : Nat → Nat), mfr w2 w3 [105] [] → (∀ t', t' < 128 → w3.1 105 t' = nI (b t')) → (∀ t', t' < 128 → fb_1 (fc_C sp (fu_n (fu_b S n) n).length v (fu_tk S n i)) h s t' (b t')) → pm_R pm_L0 MX5_foresight 310 [some (.ref 83), some (.int x), some (.int hd), some (.int (nI n)), some (.int (nI (fo_mn h 128))), some (.int (nI (S.2.2.2.2.length - n + i))), some (.int z), some (.int (nI s)), none, none] [] w3 (pm_qi fun r w1 => pf_A S (fu_n (fu_b S n) n).length n r ∧ mfr w w1 [100, 101, 102, 103, 104, 105, 106] [29]) := by
    refine up_loop 128 (fun s hs9 is w3 b hf3 h105 hb => ?_)
    refine pm_iload dX5_foresight_310 rfl ?_
    refine pm_sipush (x := nI 128) dX5_foresight_312 rfl ?_
    refine pm_icmp_ge (tgt := 423) dX5_foresight_315 (by decide) (fun c315 => ?_) (fun c315 => ?_)
    · refine pm_iinc (y := _ + 1) (lv' := [some (.ref _), some (.int _), some (.int _), some (.int _), some (.int _), some (.int _), some (.int _), some (.int _), none, none]) dX5_foresight_423 rfl rfl (by decide) rfl ?_
      refine pm_goto (tgt := 204) dX5_foresight_426 (by decide) ?_
      refine pm_fg (lv' := [some (.ref _), some (.int _), some (.int _), some (.int _), some (.int _), some (.int _), none, none, none, none]) (pm_le_k rfl (pm_le_k rfl (pm_le_k rfl (pm_le_k rfl (pm_le_k rfl (pm_le_k rfl (pm_le_n (pm_le_n (pm_le_n (pm_le_n pm_le_0)))))))))) ?_
      have he : s = 128 := by
        rw [nI_leI (by omega) (by omega)] at c315
        omega
      subst he
      rw [nI_1, Nat.add_assoc]
      exact i204 w3 b (fo_mn h 128) (mfr_tr hf2 (mfr_wd hf3 (by decide) (by decide))) ((hf3.2.1 29 (by decide)).trans h29) (fun k hk => by rw [hf3.1 100 (by decide) (by decide)]; exact hu k hk) (fun s t q1 q2 => by rw [hf3.1 101 (by decide) (by decide)]; exact hT s t q1 q2) (fun s t q1 q2 => by rw [hf3.1 102 (by decide) (by decide)]; exact hL s t q1 q2) h105 (fb_E (fu_7 h7) hD hb) (fl_L (by omega) hD)
    · have hlt : s < 128 := by
        rw [nI_leI (by omega) (by omega)] at c315
        omega
      refine pm_iconst (x := 0) dX5_foresight_318 rfl ?_
      refine pm_istore (lv' := [some (.ref _), some (.int _), some (.int _), some (.int _), some (.int _), some (.int _), some (.int _), some (.int _), some (.int _), none]) dX5_foresight_319 (by decide) rfl ?_
      exact fs_321 hR e4 e5 e6 hsp hv1 hv hp1 hp hlen hn x hd h7 hi i204 hf2 h29 hu hT hL h106 hD hlt hz (fun _ => is hlt) 0 (by decide) w3 b hf3 h105 (fun t' ht' => by rw [if_neg (by omega)]; exact hb t' ht')

set_option maxRecDepth 4000 in
theorem fs_239 {w : pm_W} {S : ab_S} (hR : mo_R w S) {sp v pc n : Nat} (e4 : S.2.2.2.1 4 = nI sp) (e5 : S.2.2.2.1 5 = nI v) (e6 : S.2.2.2.1 6 = nI pc) (hsp : sp ≤ 12) (hv1 : 1 ≤ v) (hv : v ≤ 3) (hp1 : 1 ≤ pc) (hp : pc ≤ 4) (hlen : S.2.2.2.2.length ≤ 1000000) (hn : n ≤ 24 ∧ n ≤ S.2.2.2.2.length) (x hd : Int32) (h7 : ∀ j, j < n → fu_x (fu_b S n) j < 7) {i : Nat} (hi : i < n) (i204 : ∀ (w1 : pm_W) (b : Nat → Nat) (m : Nat), mfr w w1 [100, 101, 102, 103, 104, 105, 106] [29] → w1.1 83 29 = nI (fu_n (fu_b S n) n).length → (∀ k, k < (fu_n (fu_b S n) n).length → w1.1 100 k = (fu_n (fu_b S n) n).getD k 0) → (∀ s t, s < 128 → t < 128 → zr (w1.1 101 (128 * s + t)) (fo_sn sp (fu_n (fu_b S n) n).length v s t)) → (∀ s t, s < 128 → t < 128 → zr (w1.1 102 (128 * s + t)) (fo_sn sp (fu_n (fu_b S n) n).length (v - 1) s t)) → (∀ s, s < 128 → w1.1 105 s = nI (b s)) → fo_bk (fo_A sp (fu_n (fu_b S n) n).length v (fu_x (fu_b S n)) (fu_tk S n) (i + 1)) b → fo_L sp (fu_n (fu_b S n) n).length v (fu_x (fu_b S n)) (fu_tk S n) (i + 1) m → pm_R pm_L0 MX5_foresight 204 [some (.ref 83), some (.int x), some (.int hd), some (.int (nI n)), some (.int (nI m)), some (.int (nI (S.2.2.2.2.length - n + (i + 1)))), none, none, none, none] [] w1 (pm_qi fun r w1 => pf_A S (fu_n (fu_b S n) n).length n r ∧ mfr w w1 [100, 101, 102, 103, 104, 105, 106] [29])) {w2 : pm_W} (hf2 : mfr w w2 [100, 101, 102, 103, 104, 105, 106] [29]) (h29 : w2.1 83 29 = nI (fu_n (fu_b S n) n).length) (hu : ∀ k, k < (fu_n (fu_b S n) n).length → w2.1 100 k = (fu_n (fu_b S n) n).getD k 0) (hT : ∀ s t, s < 128 → t < 128 → zr (w2.1 101 (128 * s + t)) (fo_sn sp (fu_n (fu_b S n) n).length v s t)) (hL : ∀ s t, s < 128 → t < 128 → zr (w2.1 102 (128 * s + t)) (fo_sn sp (fu_n (fu_b S n) n).length (v - 1) s t)) {h : Nat → Nat} (h106 : ∀ s, s < 128 → w2.1 106 s = nI (h s)) (hD : fo_bk (fo_D sp (fu_n (fu_b S n) n).length v (fu_x (fu_b S n) i) (fo_A sp (fu_n (fu_b S n) n).length v (fu_x (fu_b S n)) (fu_tk S n) i)) h) : ∀ j, j ≤ 128 → ∀ w3, mfr w2 w3 [105] [] → (∀ s, s < j → w3.1 105 s = nI 1000000) → pm_R pm_L0 MX5_foresight 239 [some (.ref 83), some (.int x), some (.int hd), some (.int (nI n)), some (.int (nI (fo_mn h j))), some (.int (nI (S.2.2.2.2.length - n + i))), some (.int (nI j)), none, none, none] [] w3 (pm_qi fun r w1 => pf_A S (fu_n (fu_b S n) n).length n r ∧ mfr w w1 [100, 101, 102, 103, 104, 105, 106] [29]) := by
    refine up_loop 128 (fun j hj9 ih w3 hf3 h5 => ?_)
    refine pm_iload dX5_foresight_239 rfl ?_
    refine pm_sipush (x := nI 128) dX5_foresight_241 rfl ?_
    refine pm_icmp_ge (tgt := 288) dX5_foresight_244 (by decide) (fun c244 => ?_) (fun c244 => ?_)
    · have he : j = 128 := by
        rw [nI_leI (by omega) (by omega)] at c244
        omega
      subst he
      refine pm_iload dX5_foresight_288 rfl ?_
      refine pm_iconst (x := 1) dX5_foresight_290 rfl ?_
      refine pm_iadd dX5_foresight_291 ?_
      rw [nI_1]
      refine pm_aload_n dX5_foresight_292 rfl ?_
      refine pm_getI (ci := 5) (j := 2) (n := 39) (by first | assumption | rfl) (by decide) (by decide) rfl fl_RX5_108 rfl dX5_foresight_293 ?_
      refine pm_topi (nI pc) ((hf3.2.1 2 (by decide)).trans ((hf2.2.1 2 (by decide)).trans (hR.2.2.2.1.2.2.1.trans e6))) ?_
      refine pm_irem dX5_foresight_296 (by exact nI_ne0 (by omega) (by omega)) ?_
      rw [pk_rem (by omega) (by omega) (by omega)]
      refine pm_if_ne (tgt := 304) dX5_foresight_297 (by decide) (fun c297 => ?_) (fun c297 => ?_)
      · refine pm_iconst (x := 0) dX5_foresight_304 rfl ?_
        refine pm_istore (lv' := [some (.ref _), some (.int _), some (.int _), some (.int _), some (.int _), some (.int _), some (.int _), none, none, none]) dX5_foresight_305 (by decide) rfl ?_
        refine pm_iconst (x := 0) dX5_foresight_307 rfl ?_
        refine pm_istore (lv' := [some (.ref _), some (.int _), some (.int _), some (.int _), some (.int _), some (.int _), some (.int _), some (.int _), none, none]) dX5_foresight_308 (by decide) rfl ?_
        exact fs_310 hR e4 e5 e6 hsp hv1 hv hp1 hp hlen hn x hd h7 hi i204 hf2 h29 hu hT hL h106 hD (Or.inr ⟨by rw [fu_tk, e6, nI_clamp (by omega), decide_eq_true_eq]; exact fun q => c297 (by rw [q]; rfl), rfl⟩) 0 (by decide) w3 (fun _ => 1000000) hf3 (fun t ht => h5 t ht) (fun t _ => fb_0 _ _ _)
      · refine pm_iconst (x := 1) dX5_foresight_300 rfl ?_
        refine pm_goto (tgt := 305) dX5_foresight_301 (by decide) ?_
        refine pm_istore (lv' := [some (.ref _), some (.int _), some (.int _), some (.int _), some (.int _), some (.int _), some (.int _), none, none, none]) dX5_foresight_305 (by decide) rfl ?_
        refine pm_iconst (x := 0) dX5_foresight_307 rfl ?_
        refine pm_istore (lv' := [some (.ref _), some (.int _), some (.int _), some (.int _), some (.int _), some (.int _), some (.int _), some (.int _), none, none]) dX5_foresight_308 (by decide) rfl ?_
        exact fs_310 hR e4 e5 e6 hsp hv1 hv hp1 hp hlen hn x hd h7 hi i204 hf2 h29 hu hT hL h106 hD (Or.inl ⟨by rw [fu_tk, e6, nI_clamp (by omega), decide_eq_true_eq]; exact (nI_eq (b := 0) (by have := Nat.mod_lt (S.2.2.2.2.length - n + i + 1) (show 0 < pc by omega); omega) (by decide)).mp c297, rfl⟩) 0 (by decide) w3 (fun _ => 1000000) hf3 (fun t ht => h5 t ht) (fun t _ => fb_0 _ _ _)
    · have hlt : j < 128 := by
        rw [nI_leI (by omega) (by omega)] at c244
        omega
      refine pm_aload_n dX5_foresight_247 rfl ?_
      refine pm_getR (ci := 5) (j := 34) (n := 39) (by first | assumption | rfl) (by decide) (by decide) rfl fl_RX5_78 rfl (by first | assumption | rfl) dX5_foresight_248 ?_
      refine pm_iload dX5_foresight_251 rfl ?_
      refine pm_ldc kc_RX5_224 dX5_foresight_253 ?_
      refine pm_iastN (by first | assumption | rfl) (by omega) (by first | decide | omega) dX5_foresight_255 ?_
      refine pm_aload_n dX5_foresight_256 rfl ?_
      refine pm_getR (ci := 5) (j := 35) (n := 39) (by first | assumption | rfl) (by decide) (by decide) rfl fl_RX5_81 rfl (by first | assumption | rfl) dX5_foresight_257 ?_
      refine pm_iload dX5_foresight_260 rfl ?_
      refine pm_ialdN (by first | assumption | rfl) (by omega) (by first | decide | omega) dX5_foresight_262 ?_
      rw [pm_s_ne (show (106 : Nat) ≠ 105 by decide), hf3.1 106 (by decide) (by decide), h106 j hlt]
      refine pm_iload dX5_foresight_263 rfl ?_
      refine pm_icmp_ge (tgt := 278) dX5_foresight_265 (by decide) (fun c265 => ?_) (fun c265 => ?_)
      · refine pm_iload dX5_foresight_278 rfl ?_
        refine pm_istore (lv' := [some (.ref _), some (.int _), some (.int _), some (.int _), some (.int _), some (.int _), some (.int _), none, none, none]) dX5_foresight_280 (by decide) rfl ?_
        refine pm_iinc (y := _ + 1) (lv' := [some (.ref _), some (.int _), some (.int _), some (.int _), some (.int _), some (.int _), some (.int _), none, none, none]) dX5_foresight_282 rfl rfl (by decide) rfl ?_
        refine pm_goto (tgt := 239) dX5_foresight_285 (by decide) ?_
        have hhj := hD.1 j hlt
        have hmn := mn_le h j
        rw [nI_leI (by omega) (by omega)] at c265
        have hst : fo_mn h (j + 1) = fo_mn h j := by rw [fo_mn, if_neg (by omega)]
        rw [nI_1 j]
        have hgo := ih hlt _ (mfr_c hf3 (k := 105) (by decide) (by decide) (upd (w3.1 105) j 1000000)) (fun s hs => ?_)
        · rw [hst] at hgo
          exact hgo
        · rw [pm_s_at]
          rcases Nat.lt_succ_iff_lt_or_eq.mp hs with q | rfl
          · rw [pk_un (by omega)]; exact h5 s q
          · rw [pk_us]; rfl
      · refine pm_aload_n dX5_foresight_268 rfl ?_
        refine pm_getR (ci := 5) (j := 35) (n := 39) (by first | assumption | rfl) (by decide) (by decide) rfl fl_RX5_81 rfl (by first | assumption | rfl) dX5_foresight_269 ?_
        refine pm_iload dX5_foresight_272 rfl ?_
        refine pm_ialdN (by first | assumption | rfl) (by omega) (by first | decide | omega) dX5_foresight_274 ?_
        rw [pm_s_ne (show (106 : Nat) ≠ 105 by decide), hf3.1 106 (by decide) (by decide), h106 j hlt]
        refine pm_goto (tgt := 280) dX5_foresight_275 (by decide) ?_
        refine pm_istore (lv' := [some (.ref _), some (.int _), some (.int _), some (.int _), some (.int _), some (.int _), some (.int _), none, none, none]) dX5_foresight_280 (by decide) rfl ?_
        refine pm_iinc (y := _ + 1) (lv' := [some (.ref _), some (.int _), some (.int _), some (.int _), some (.int _), some (.int _), some (.int _), none, none, none]) dX5_foresight_282 rfl rfl (by decide) rfl ?_
        refine pm_goto (tgt := 239) dX5_foresight_285 (by decide) ?_
        have hhj := hD.1 j hlt
        have hmn := mn_le h j
        rw [nI_leI (by omega) (by omega)] at c265
        have hst : fo_mn h (j + 1) = h j := by rw [fo_mn, if_pos (by omega)]
        rw [nI_1 j]
        have hgo := ih hlt _ (mfr_c hf3 (k := 105) (by decide) (by decide) (upd (w3.1 105) j 1000000)) (fun s hs => ?_)
        · rw [hst] at hgo
          exact hgo
        · rw [pm_s_at]
          rcases Nat.lt_succ_iff_lt_or_eq.mp hs with q | rfl
          · rw [pk_un (by omega)]; exact h5 s q
          · rw [pk_us]; rfl

