set_option maxRecDepth 4000 in
theorem c_X5_indexOf {w : pm_W} {l : List Int32} (h29 : w.1 83 29 = nI l.length) (hl : l.length ≤ 7) (hu : ∀ k, k < l.length → w.1 100 k = l.getD k 0) (b : Int32) : pm_C pm_L0 MX5_indexOf [.ref 83, .int b] w (pm_qi fun r w1 => r = nI (fu_i b l) ∧ w1 = w) := by
  have loop : ∀ k, k ≤ l.length → (∀ j, j < k → ¬ l.getD j 0 = b) → pm_R pm_L0 MX5_indexOf 2 [some (.ref 83), some (.int b), some (.int (nI k))] [] w (pm_qi fun r w1 => r = nI (fu_i b l) ∧ w1 = w) := by
    refine up_loop l.length (fun k hk ih hn => ?_)
    refine pm_iload_n dX5_indexOf_2 rfl ?_
    refine pm_aload_n dX5_indexOf_3 rfl ?_
    refine pm_getI (ci := 5) (j := 29) (n := 39) (by first | assumption | rfl) (by decide) (by decide) rfl fl_RX5_215 rfl dX5_indexOf_4 ?_
    rw [h29]
    refine pm_icmp_ge (tgt := 26) dX5_indexOf_7 (by decide) (fun c7 => ?_) (fun c7 => ?_)
    · refine pm_iload_n dX5_indexOf_26 rfl ?_
      refine pm_iret dX5_indexOf_27 rfl ?_
      have hkl : k = l.length := by
        rw [nI_leI (by omega) (by omega)] at c7
        omega
      subst hkl
      exact ⟨by rw [fu_no hn], rfl⟩
    · have hlt : k < l.length := by
        rw [nI_leI (by omega) (by omega)] at c7
        omega
      refine pm_aload_n dX5_indexOf_10 rfl ?_
      refine pm_getR (ci := 5) (j := 28) (n := 39) (by first | assumption | rfl) (by decide) (by decide) rfl fl_RX5_63 rfl (by first | assumption | rfl) dX5_indexOf_11 ?_
      refine pm_iload_n dX5_indexOf_14 rfl ?_
      refine pm_ialdN (by first | assumption | rfl) (by omega) (by first | decide | omega) dX5_indexOf_15 ?_
      rw [hu k hlt]
      refine pm_iload_n dX5_indexOf_16 rfl ?_
      refine pm_icmp_eq (tgt := 26) dX5_indexOf_17 (by decide) (fun c17 => ?_) (fun c17 => ?_)
      · refine pm_iload_n dX5_indexOf_26 rfl ?_
        refine pm_iret dX5_indexOf_27 rfl ?_
        exact ⟨by rw [fu_at hlt c17 hn], rfl⟩
      · refine pm_iinc (y := _ + 1) (lv' := [some (.ref _), some (.int _), some (.int _)]) dX5_indexOf_20 rfl rfl (by decide) rfl ?_
        refine pm_goto (tgt := 2) dX5_indexOf_23 (by decide) ?_
        rw [nI_1]
        refine ih hlt (fun j hj => ?_)
        rcases Nat.lt_succ_iff_lt_or_eq.mp hj with z | rfl
        · exact hn j z
        · exact c17
  refine pm_start (lv := [some (.ref _), some (.int _), none]) (plainFor_of_name pf5) (Nat.le_of_ble_eq_true rfl) rfl ?_
  refine pm_iconst (x := 0) dX5_indexOf_0 rfl ?_
  refine pm_istore_n (lv' := [some (.ref _), some (.int _), some (.int _)]) dX5_indexOf_1 (by decide) rfl ?_
  exact loop 0 (Nat.zero_le _) (fun j hj => absurd hj (by omega))

def fo_mu (f : Nat → Nat) : Nat → Nat
  | 0 => 0
  | k + 1 => fo_mu f k + f k
theorem mu_le {f g : Nat → Nat} : ∀ {n : Nat}, (∀ s, s < n → g s ≤ f s) → fo_mu g n ≤ fo_mu f n
  | 0, _ => Nat.le_refl _
  | n + 1, h => Nat.add_le_add (mu_le (fun s hs => h s (by omega))) (h n (by omega))
theorem mu_lt {f g : Nat → Nat} {t : Nat} : ∀ {n : Nat}, (∀ s, s < n → g s ≤ f s) → t < n → g t < f t → fo_mu g n < fo_mu f n
  | 0, _, h, _ => absurd h (by omega)
  | n + 1, h, ht, hl => by
    show fo_mu g n + g n < fo_mu f n + f n
    by_cases e : t = n
    · subst e
      have := mu_le (f := f) (g := g) (n := t) (fun s hs => h s (by omega))
      omega
    · have := mu_lt (n := n) (fun s hs => h s (by omega)) (by omega) hl
      have := h n (by omega)
      omega
def nu (f : Nat → Nat) (t c : Nat) : Nat → Nat := fun j => if j = t then c else f j
theorem nu_s {f : Nat → Nat} {t c : Nat} : nu f t c t = c := if_pos rfl
theorem nu_n {f : Nat → Nat} {t c j : Nat} (h : ¬ j = t) : nu f t c j = f j := if_neg h
def af_u (b h : Nat → Nat) : Nat := fo_mu (fun s => b s + h s) 128
theorem af_ub {b h : Nat → Nat} {t c : Nat} (ht : t < 128) (k : c < b t) : af_u (nu b t c) h < af_u b h := by
  refine mu_lt (t := t) (fun s _ => ?_) ht ?_
  · by_cases e : s = t
    · subst e; rw [nu_s]; omega
    · rw [nu_n e]; exact Nat.le_refl _
  · rw [nu_s]; omega
theorem af_uh {b h : Nat → Nat} {t c : Nat} (ht : t < 128) (k : c < h t) : af_u b (nu h t c) < af_u b h := by
  refine mu_lt (t := t) (fun s _ => ?_) ht ?_
  · by_cases e : s = t
    · subst e; rw [nu_s]; omega
    · rw [nu_n e]; exact Nat.le_refl _
  · rw [nu_s]; omega
/-- What the two rows spell at every moment of an ask. -/
def af_S (sp U v x : Nat) (A : Nat → Nat → Prop) (b h : Nat → Nat) : Prop := (∀ s, s < 128 → b s ≤ 1000000 ∧ h s ≤ 1000000) ∧ (∀ s, s < 128 → b s < 1000000 → ∃ k, fo_p sp U v x A k s (b s)) ∧ (∀ s, s < 128 → h s < 1000000 → fo_D sp U v x A s (h s)) ∧ ∀ s c, A s c → b s ≤ c ∧ (s.testBit x = true → h s ≤ c)
def af_R (w : pm_W) (b h : Nat → Nat) : Prop := ∀ s, s < 128 → w.1 105 s = nI (b s) ∧ w.1 106 s = nI (h s)
theorem af_b {sp U v x : Nat} {A : Nat → Nat → Prop} {b h : Nat → Nat} {s t : Nat} (hS : af_S sp U v x A b h) (hs : s < 128) (_ht : t < 128) (bs : s.testBit x = false) (h1 : b s < 1000000) (hT : fo_sn sp U v s t) (bt : t.testBit x = false) (k : b s + 1 < b t) : af_S sp U v x A (nu b t (b s + 1)) h := by
  obtain ⟨a1, a2, a3, a4⟩ := hS
  refine ⟨fun j hj => ?_, fun j hj hlt => ?_, a3, fun j c ha => ?_⟩
  · by_cases e : j = t
    · subst e; rw [nu_s]; have := a1 j hj; omega
    · rw [nu_n e]; exact a1 j hj
  · by_cases e : j = t
    · subst e
      rw [nu_s]
      obtain ⟨q, hq⟩ := a2 s hs h1
      exact ⟨q + 1, s, b s, rfl, hq, bs, hT, bt⟩
    · rw [nu_n e] at hlt ⊢; exact a2 j hj hlt
  · have := a4 j c ha
    by_cases e : j = t
    · subst e; rw [nu_s]; exact ⟨by omega, this.2⟩
    · rw [nu_n e]; exact this
theorem af_h {sp U v x : Nat} {A : Nat → Nat → Prop} {b h : Nat → Nat} {s t : Nat} (hS : af_S sp U v x A b h) (hs : s < 128) (_ht : t < 128) (bs : s.testBit x = false) (h1 : b s < 1000000) (hT : (fo_sn sp U v s t ∧ t.testBit x = true) ∨ fo_sn sp U (v - 1) s t) (k : b s + 1 < h t) : af_S sp U v x A b (nu h t (b s + 1)) := by
  obtain ⟨a1, a2, a3, a4⟩ := hS
  refine ⟨fun j hj => ?_, a2, fun j hj hlt => ?_, fun j c ha => ?_⟩
  · by_cases e : j = t
    · subst e; rw [nu_s]; have := a1 j hj; omega
    · rw [nu_n e]; exact a1 j hj
  · by_cases e : j = t
    · subst e
      rw [nu_s]
      obtain ⟨q, hq⟩ := a2 s hs h1
      exact ⟨q, s, b s, hq, Or.inr ⟨bs, rfl, hT⟩⟩
    · rw [nu_n e] at hlt ⊢; exact a3 j hj hlt
  · have := a4 j c ha
    by_cases e : j = t
    · subst e; rw [nu_s]; exact ⟨this.1, fun z => by have := this.2 z; omega⟩
    · rw [nu_n e]; exact this
/-- Nothing is left to do from room s to room t. -/
def af_c (sp U v x : Nat) (b h : Nat → Nat) (s t : Nat) : Prop := s.testBit x = false → b s < 1000000 → (fo_sn sp U v s t → t.testBit x = false → b t ≤ b s + 1) ∧ (((fo_sn sp U v s t ∧ t.testBit x = true) ∨ fo_sn sp U (v - 1) s t) → h t ≤ b s + 1)
/-- b spells A: each number below a million is one of A, and none of A is less. -/
def fo_bk (A : Nat → Nat → Prop) (b : Nat → Nat) : Prop := (∀ s, s < 128 → b s ≤ 1000000) ∧ (∀ s, s < 128 → b s < 1000000 → A s (b s)) ∧ ∀ s c, A s c → s < 128 ∧ b s ≤ c
theorem af_E {sp U v x : Nat} (hU : U ≤ 7) {A : Nat → Nat → Prop} {b h : Nat → Nat} (hA : ∀ s c, A s c → s < 128) (hS : af_S sp U v x A b h) (hc : ∀ s t, s < 128 → t < 128 → af_c sp U v x b h s t) : fo_bk (fo_D sp U v x A) h := by
  obtain ⟨a1, a2, a3, a4⟩ := hS
  have key : ∀ k s c, fo_p sp U v x A k s c → s < 128 ∧ b s ≤ c := by
    intro k
    induction k with
    | zero => intro s c ha; exact ⟨hA s c ha, (a4 s c ha).1⟩
    | succ k ih =>
      rintro s c ⟨s0, c0, rfl, hp, hb, hn, hb2⟩
      obtain ⟨q1, q2⟩ := ih s0 c0 hp
      have q3 := fo_ln8 hU q1 hn
      refine ⟨q3, ?_⟩
      by_cases hf : b s0 < 1000000
      · have := (hc s0 s q1 q3 hb hf).1 hn hb2
        omega
      · have := (a1 s q3).1
        omega
  refine ⟨fun s hs => (a1 s hs).2, a3, ?_⟩
  rintro t c ⟨k, s, c0, hp, ⟨hb, rfl, rfl⟩ | ⟨hb, rfl, hn⟩⟩
  · obtain ⟨q1, q2⟩ := key k t c hp
    refine ⟨q1, ?_⟩
    cases k with
    | zero => exact (a4 t c hp).2 hb
    | succ k =>
      obtain ⟨s0, c1, -, -, -, -, hb2⟩ := hp
      rw [hb2] at hb; cases hb
  · obtain ⟨q1, q2⟩ := key k s c0 hp
    have q3 : t < 128 := by
      rcases hn with ⟨hn, -⟩ | hn
      · exact fo_ln8 hU q1 hn
      · exact fo_ln8 hU q1 hn
    refine ⟨q3, ?_⟩
    by_cases hf : b s < 1000000
    · have := (hc s t q1 q3 hb hf).2 hn
      omega
    · have := (a1 t q3).2
      omega
/-- goes, and how far the pass has come. -/
def af_G (sp U v x : Nat) (g : Int32) (b h : Nat → Nat) (m s t : Nat) : Prop := (g = 1 ∧ af_u b h < m) ∨ (g = 0 ∧ af_u b h ≤ m ∧ ∀ s' t', (s' < s ∨ (s' = s ∧ t' < t)) → t' < 128 → af_c sp U v x b h s' t')
theorem af_Gs {sp U v x : Nat} {g : Int32} {b h : Nat → Nat} {m s t : Nat} (h1 : af_G sp U v x g b h m s t) (h2 : t = 128 ∨ s.testBit x = true ∨ ¬ b s < 1000000) : af_G sp U v x g b h m (s + 1) 0 := by
  rcases h1 with h1 | ⟨q1, q2, q3⟩
  · exact Or.inl h1
  · refine Or.inr ⟨q1, q2, fun s' t' hl ht => ?_⟩
    by_cases e : s' < s
    · exact q3 s' t' (Or.inl e) ht
    · have e : s' = s := by omega
      subst e
      rcases h2 with rfl | hb | hb
      · exact q3 s' t' (Or.inr ⟨rfl, ht⟩) ht
      · intro z; rw [hb] at z; cases z
      · intro _ z; exact absurd z hb
theorem af_Gt {sp U v x : Nat} {g : Int32} {b h : Nat → Nat} {m s t : Nat} (h1 : af_G sp U v x g b h m s t) (h2 : g = 0 → af_c sp U v x b h s t) : af_G sp U v x g b h m s (t + 1) := by
  rcases h1 with h1 | ⟨q1, q2, q3⟩
  · exact Or.inl h1
  · refine Or.inr ⟨q1, q2, fun s' t' hl ht => ?_⟩
    by_cases e : s' < s ∨ (s' = s ∧ t' < t)
    · exact q3 s' t' e ht
    · obtain ⟨rfl, rfl⟩ : s' = s ∧ t' = t := by omega
      exact h2 q1
theorem af_G1 {sp U v x : Nat} {g : Int32} {b h b' h' : Nat → Nat} {m s t s' t' : Nat} (h1 : af_G sp U v x g b h m s t) (h2 : af_u b' h' < af_u b h) : af_G sp U v x 1 b' h' m s' t' := by
  rcases h1 with ⟨-, q⟩ | ⟨-, q, -⟩
  · exact Or.inl ⟨rfl, by omega⟩
  · exact Or.inl ⟨rfl, by omega⟩
theorem af_Rb {w : pm_W} {b h : Nat → Nat} (hR : af_R w b h) (t c : Nat) : af_R (pm_s w 105 (upd (w.1 105) t (nI c))) (nu b t c) h := by
  intro s hs
  rw [pm_s_at, pm_s_ne (by decide)]
  refine ⟨?_, (hR s hs).2⟩
  by_cases e : s = t
  · subst e; rw [pk_us, nu_s]
  · rw [pk_un e, nu_n e]; exact (hR s hs).1
theorem af_Rh {w : pm_W} {b h : Nat → Nat} (hR : af_R w b h) (t c : Nat) : af_R (pm_s w 106 (upd (w.1 106) t (nI c))) b (nu h t c) := by
  intro s hs
  rw [pm_s_at, pm_s_ne (by decide)]
  refine ⟨(hR s hs).1, ?_⟩
  by_cases e : s = t
  · subst e; rw [pk_us, nu_s]
  · rw [pk_un e, nu_n e]; exact (hR s hs).2
theorem mb_0 {r k : Nat} (hr : r < 128) (hk : k < 7) (h : (nI r >>> (nI k &&& 31)) &&& 1 = 0) : r.testBit k = false := by
  rw [mb_bit r hr k hk] at h
  cases hz : r.testBit k
  · rfl
  · rw [hz] at h; exact absurd h (by decide)
theorem mb_1 {r k : Nat} (hr : r < 128) (hk : k < 7) (h : ¬ (nI r >>> (nI k &&& 31)) &&& 1 = 0) : r.testBit k = true := by
  rw [mb_bit r hr k hk] at h
  cases hz : r.testBit k
  · rw [hz] at h; exact absurd rfl h
  · rfl
theorem mb_1e {r k : Nat} (hr : r < 128) (hk : k < 7) (h : (nI r >>> (nI k &&& 31)) &&& 1 = 1) : r.testBit k = true := mb_1 hr hk (by rw [h]; decide)
theorem mb_1n {r k : Nat} (hr : r < 128) (hk : k < 7) (h : ¬ (nI r >>> (nI k &&& 31)) &&& 1 = 1) : r.testBit k = false := by
  rw [mb_bit r hr k hk] at h
  cases hz : r.testBit k
  · rfl
  · rw [hz] at h; exact absurd rfl h

set_option maxRecDepth 4000 in
theorem ask_146 {w : pm_W} {sp U v x : Nat} {A : Nat → Nat → Prop} {Q : Option Value → pm_W → Prop} (hx : x < 7) (hT : ∀ s t, s < 128 → t < 128 → zr (w.1 101 (128 * s + t)) (fo_sn sp U v s t)) (hL : ∀ s t, s < 128 → t < 128 → zr (w.1 102 (128 * s + t)) (fo_sn sp U (v - 1) s t)) {m s t : Nat} (hs : s < 128) (ht : t < 128) (it : t < 128 → ∀ w1 b h g, mfr w w1 [105, 106] [] → af_R w1 b h → af_S sp U v x A b h → af_G sp U v x g b h m s (t + 1) → pm_R pm_L0 MX5_askFor 61 [some (.ref 83), some (.int (nI x)), some (.int g), some (.int (nI (s))), some (.int (nI (t + 1))), none] [] w1 Q) {w1 : pm_W} {b h : Nat → Nat} {g : Int32} (hf : mfr w w1 [105, 106] []) (hR : af_R w1 b h) (hS : af_S sp U v x A b h) (hG : af_G sp U v x g b h m s t) (bs : s.testBit x = false) (h1 : b s < 1000000) (hcl : g = 0 → fo_sn sp U v s t → t.testBit x = false → b t ≤ b s + 1) : pm_R pm_L0 MX5_askFor 146 [some (.ref 83), some (.int (nI x)), some (.int g), some (.int (nI (s))), some (.int (nI (t))), some (.int (nI (b s + 1)))] [] w1 Q := by
    have hbs := (hS.1 s hs).1
    have hht := (hS.1 t ht).2
    refine pm_aload_n dX5_askFor_146 rfl ?_
    refine pm_getR (ci := 5) (j := 30) (n := 39) (by first | assumption | rfl) (by decide) (by decide) rfl fl_RX5_66 rfl (by first | assumption | rfl) dX5_askFor_147 ?_
    refine pm_sipush (x := nI 128) dX5_askFor_150 rfl ?_
    refine pm_iload_n dX5_askFor_153 rfl ?_
    refine pm_imul dX5_askFor_154 ?_
    refine pm_iload dX5_askFor_155 rfl ?_
    refine pm_iadd dX5_askFor_157 ?_
    refine pm_topi (nI (128 * s + t)) (by rw [pk_mul, nI_add]) ?_
    refine pm_zaldN (by first | assumption | rfl) (by omega) (by first | decide | omega) dX5_askFor_158 ?_
    rw [hf.1 101 (by decide) (by decide)]
    refine pm_if_eq (tgt := 184) dX5_askFor_159 (by decide) (fun c159 => ?_) (fun c159 => ?_)
    · refine pm_aload_n dX5_askFor_184 rfl ?_
      refine pm_getR (ci := 5) (j := 31) (n := 39) (by first | assumption | rfl) (by decide) (by decide) rfl fl_RX5_69 rfl (by first | assumption | rfl) dX5_askFor_185 ?_
      refine pm_sipush (x := nI 128) dX5_askFor_188 rfl ?_
      refine pm_iload_n dX5_askFor_191 rfl ?_
      refine pm_imul dX5_askFor_192 ?_
      refine pm_iload dX5_askFor_193 rfl ?_
      refine pm_iadd dX5_askFor_195 ?_
      refine pm_topi (nI (128 * s + t)) (by rw [pk_mul, nI_add]) ?_
      refine pm_zaldN (by first | assumption | rfl) (by omega) (by first | decide | omega) dX5_askFor_196 ?_
      rw [hf.1 102 (by decide) (by decide)]
      refine pm_if_eq (tgt := 223) dX5_askFor_197 (by decide) (fun c197 => ?_) (fun c197 => ?_)
      · refine pm_iinc (y := _ + 1) (lv' := [some (.ref _), some (.int _), some (.int _), some (.int _), some (.int _), some (.int _)]) dX5_askFor_223 rfl rfl (by decide) rfl ?_
        refine pm_goto (tgt := 61) dX5_askFor_226 (by decide) ?_
        refine pm_fg (lv' := [some (.ref _), some (.int _), some (.int _), some (.int _), some (.int _), none]) (pm_le_k rfl (pm_le_k rfl (pm_le_k rfl (pm_le_k rfl (pm_le_k rfl (pm_le_n pm_le_0)))))) ?_
        rw [nI_1 t]
        refine it ht w1 b h g hf hR hS (af_Gt hG (fun hg _ _ => ⟨hcl hg, ?_⟩))
        rintro (⟨z, -⟩ | z)
        · exact absurd z (zr_0 (hT s t hs ht) c159)
        · exact absurd z (zr_0 (hL s t hs ht) c197)
      · refine pm_iload dX5_askFor_200 rfl ?_
        refine pm_aload_n dX5_askFor_202 rfl ?_
        refine pm_getR (ci := 5) (j := 35) (n := 39) (by first | assumption | rfl) (by decide) (by decide) rfl fl_RX5_81 rfl (by first | assumption | rfl) dX5_askFor_203 ?_
        refine pm_iload dX5_askFor_206 rfl ?_
        refine pm_ialdN (by first | assumption | rfl) (by omega) (by first | decide | omega) dX5_askFor_208 ?_
        rw [(hR t ht).2]
        refine pm_icmp_ge (tgt := 223) dX5_askFor_209 (by decide) (fun c209 => ?_) (fun c209 => ?_)
        · refine pm_iinc (y := _ + 1) (lv' := [some (.ref _), some (.int _), some (.int _), some (.int _), some (.int _), some (.int _)]) dX5_askFor_223 rfl rfl (by decide) rfl ?_
          refine pm_goto (tgt := 61) dX5_askFor_226 (by decide) ?_
          refine pm_fg (lv' := [some (.ref _), some (.int _), some (.int _), some (.int _), some (.int _), none]) (pm_le_k rfl (pm_le_k rfl (pm_le_k rfl (pm_le_k rfl (pm_le_k rfl (pm_le_n pm_le_0)))))) ?_
          rw [nI_1 t]
          refine it ht w1 b h g hf hR hS (af_Gt hG (fun hg _ _ => ⟨hcl hg, ?_⟩))
          rw [nI_leI (by omega) (by omega)] at c209
          exact fun _ => c209
        · refine pm_aload_n dX5_askFor_212 rfl ?_
          refine pm_getR (ci := 5) (j := 35) (n := 39) (by first | assumption | rfl) (by decide) (by decide) rfl fl_RX5_81 rfl (by first | assumption | rfl) dX5_askFor_213 ?_
          refine pm_iload dX5_askFor_216 rfl ?_
          refine pm_iload dX5_askFor_218 rfl ?_
          refine pm_iastN (by first | assumption | rfl) (by omega) (by first | decide | omega) dX5_askFor_220 ?_
          refine pm_iconst (x := 1) dX5_askFor_221 rfl ?_
          refine pm_istore_n (lv' := [some (.ref _), some (.int _), some (.int _), some (.int _), some (.int _), some (.int _)]) dX5_askFor_222 (by decide) rfl ?_
          refine pm_iinc (y := _ + 1) (lv' := [some (.ref _), some (.int _), some (.int _), some (.int _), some (.int _), some (.int _)]) dX5_askFor_223 rfl rfl (by decide) rfl ?_
          refine pm_goto (tgt := 61) dX5_askFor_226 (by decide) ?_
          refine pm_fg (lv' := [some (.ref _), some (.int _), some (.int _), some (.int _), some (.int _), none]) (pm_le_k rfl (pm_le_k rfl (pm_le_k rfl (pm_le_k rfl (pm_le_k rfl (pm_le_n pm_le_0)))))) ?_
          rw [nI_leI (by omega) (by omega)] at c209
          rw [nI_1 t]
          refine it ht _ b (nu h t (b s + 1)) 1 (mfr_c hf (by decide) (by decide) _) (af_Rh hR t (b s + 1)) (af_h hS hs ht bs h1 (Or.inr (zr_1 (hL s t hs ht) c197)) (by omega)) (af_G1 hG (af_uh ht (by omega)))
    · refine pm_iload dX5_askFor_162 rfl ?_
      refine pm_iload_n dX5_askFor_164 rfl ?_
      refine pm_ishr dX5_askFor_165 ?_
      refine pm_iconst (x := 1) dX5_askFor_166 rfl ?_
      refine pm_iand dX5_askFor_167 ?_
      refine pm_iconst (x := 1) dX5_askFor_168 rfl ?_
      refine pm_icmp_ne (tgt := 184) dX5_askFor_169 (by decide) (fun c169 => ?_) (fun c169 => ?_)
      · refine pm_aload_n dX5_askFor_184 rfl ?_
        refine pm_getR (ci := 5) (j := 31) (n := 39) (by first | assumption | rfl) (by decide) (by decide) rfl fl_RX5_69 rfl (by first | assumption | rfl) dX5_askFor_185 ?_
        refine pm_sipush (x := nI 128) dX5_askFor_188 rfl ?_
        refine pm_iload_n dX5_askFor_191 rfl ?_
        refine pm_imul dX5_askFor_192 ?_
        refine pm_iload dX5_askFor_193 rfl ?_
        refine pm_iadd dX5_askFor_195 ?_
        refine pm_topi (nI (128 * s + t)) (by rw [pk_mul, nI_add]) ?_
        refine pm_zaldN (by first | assumption | rfl) (by omega) (by first | decide | omega) dX5_askFor_196 ?_
        rw [hf.1 102 (by decide) (by decide)]
        refine pm_if_eq (tgt := 223) dX5_askFor_197 (by decide) (fun c197 => ?_) (fun c197 => ?_)
        · refine pm_iinc (y := _ + 1) (lv' := [some (.ref _), some (.int _), some (.int _), some (.int _), some (.int _), some (.int _)]) dX5_askFor_223 rfl rfl (by decide) rfl ?_
          refine pm_goto (tgt := 61) dX5_askFor_226 (by decide) ?_
          refine pm_fg (lv' := [some (.ref _), some (.int _), some (.int _), some (.int _), some (.int _), none]) (pm_le_k rfl (pm_le_k rfl (pm_le_k rfl (pm_le_k rfl (pm_le_k rfl (pm_le_n pm_le_0)))))) ?_
          rw [nI_1 t]
          refine it ht w1 b h g hf hR hS (af_Gt hG (fun hg _ _ => ⟨hcl hg, ?_⟩))
          rintro (⟨-, z⟩ | z)
          · exact absurd z (by rw [mb_1n ht hx c169]; decide)
          · exact absurd z (zr_0 (hL s t hs ht) c197)
        · refine pm_iload dX5_askFor_200 rfl ?_
          refine pm_aload_n dX5_askFor_202 rfl ?_
          refine pm_getR (ci := 5) (j := 35) (n := 39) (by first | assumption | rfl) (by decide) (by decide) rfl fl_RX5_81 rfl (by first | assumption | rfl) dX5_askFor_203 ?_
          refine pm_iload dX5_askFor_206 rfl ?_
          refine pm_ialdN (by first | assumption | rfl) (by omega) (by first | decide | omega) dX5_askFor_208 ?_
          rw [(hR t ht).2]
          refine pm_icmp_ge (tgt := 223) dX5_askFor_209 (by decide) (fun c209 => ?_) (fun c209 => ?_)
          · refine pm_iinc (y := _ + 1) (lv' := [some (.ref _), some (.int _), some (.int _), some (.int _), some (.int _), some (.int _)]) dX5_askFor_223 rfl rfl (by decide) rfl ?_
            refine pm_goto (tgt := 61) dX5_askFor_226 (by decide) ?_
            refine pm_fg (lv' := [some (.ref _), some (.int _), some (.int _), some (.int _), some (.int _), none]) (pm_le_k rfl (pm_le_k rfl (pm_le_k rfl (pm_le_k rfl (pm_le_k rfl (pm_le_n pm_le_0)))))) ?_
            rw [nI_1 t]
            refine it ht w1 b h g hf hR hS (af_Gt hG (fun hg _ _ => ⟨hcl hg, ?_⟩))
            rw [nI_leI (by omega) (by omega)] at c209
            exact fun _ => c209
          · refine pm_aload_n dX5_askFor_212 rfl ?_
            refine pm_getR (ci := 5) (j := 35) (n := 39) (by first | assumption | rfl) (by decide) (by decide) rfl fl_RX5_81 rfl (by first | assumption | rfl) dX5_askFor_213 ?_
            refine pm_iload dX5_askFor_216 rfl ?_
            refine pm_iload dX5_askFor_218 rfl ?_
            refine pm_iastN (by first | assumption | rfl) (by omega) (by first | decide | omega) dX5_askFor_220 ?_
            refine pm_iconst (x := 1) dX5_askFor_221 rfl ?_
            refine pm_istore_n (lv' := [some (.ref _), some (.int _), some (.int _), some (.int _), some (.int _), some (.int _)]) dX5_askFor_222 (by decide) rfl ?_
            refine pm_iinc (y := _ + 1) (lv' := [some (.ref _), some (.int _), some (.int _), some (.int _), some (.int _), some (.int _)]) dX5_askFor_223 rfl rfl (by decide) rfl ?_
            refine pm_goto (tgt := 61) dX5_askFor_226 (by decide) ?_
            refine pm_fg (lv' := [some (.ref _), some (.int _), some (.int _), some (.int _), some (.int _), none]) (pm_le_k rfl (pm_le_k rfl (pm_le_k rfl (pm_le_k rfl (pm_le_k rfl (pm_le_n pm_le_0)))))) ?_
            rw [nI_leI (by omega) (by omega)] at c209
            rw [nI_1 t]
            refine it ht _ b (nu h t (b s + 1)) 1 (mfr_c hf (by decide) (by decide) _) (af_Rh hR t (b s + 1)) (af_h hS hs ht bs h1 (Or.inr (zr_1 (hL s t hs ht) c197)) (by omega)) (af_G1 hG (af_uh ht (by omega)))
      · refine pm_iload dX5_askFor_172 rfl ?_
        refine pm_aload_n dX5_askFor_174 rfl ?_
        refine pm_getR (ci := 5) (j := 35) (n := 39) (by first | assumption | rfl) (by decide) (by decide) rfl fl_RX5_81 rfl (by first | assumption | rfl) dX5_askFor_175 ?_
        refine pm_iload dX5_askFor_178 rfl ?_
        refine pm_ialdN (by first | assumption | rfl) (by omega) (by first | decide | omega) dX5_askFor_180 ?_
        rw [(hR t ht).2]
        refine pm_icmp_lt (tgt := 212) dX5_askFor_181 (by decide) (fun c181 => ?_) (fun c181 => ?_)
        · refine pm_aload_n dX5_askFor_212 rfl ?_
          refine pm_getR (ci := 5) (j := 35) (n := 39) (by first | assumption | rfl) (by decide) (by decide) rfl fl_RX5_81 rfl (by first | assumption | rfl) dX5_askFor_213 ?_
          refine pm_iload dX5_askFor_216 rfl ?_
          refine pm_iload dX5_askFor_218 rfl ?_
          refine pm_iastN (by first | assumption | rfl) (by omega) (by first | decide | omega) dX5_askFor_220 ?_
          refine pm_iconst (x := 1) dX5_askFor_221 rfl ?_
          refine pm_istore_n (lv' := [some (.ref _), some (.int _), some (.int _), some (.int _), some (.int _), some (.int _)]) dX5_askFor_222 (by decide) rfl ?_
          refine pm_iinc (y := _ + 1) (lv' := [some (.ref _), some (.int _), some (.int _), some (.int _), some (.int _), some (.int _)]) dX5_askFor_223 rfl rfl (by decide) rfl ?_
          refine pm_goto (tgt := 61) dX5_askFor_226 (by decide) ?_
          refine pm_fg (lv' := [some (.ref _), some (.int _), some (.int _), some (.int _), some (.int _), none]) (pm_le_k rfl (pm_le_k rfl (pm_le_k rfl (pm_le_k rfl (pm_le_k rfl (pm_le_n pm_le_0)))))) ?_
          rw [nI_ltI (by omega) (by omega)] at c181
          rw [nI_1 t]
          refine it ht _ b (nu h t (b s + 1)) 1 (mfr_c hf (by decide) (by decide) _) (af_Rh hR t (b s + 1)) (af_h hS hs ht bs h1 (Or.inl ⟨zr_1 (hT s t hs ht) c159, mb_1e ht hx c169⟩) (by omega)) (af_G1 hG (af_uh ht (by omega)))
        · refine pm_aload_n dX5_askFor_184 rfl ?_
          refine pm_getR (ci := 5) (j := 31) (n := 39) (by first | assumption | rfl) (by decide) (by decide) rfl fl_RX5_69 rfl (by first | assumption | rfl) dX5_askFor_185 ?_
          refine pm_sipush (x := nI 128) dX5_askFor_188 rfl ?_
          refine pm_iload_n dX5_askFor_191 rfl ?_
          refine pm_imul dX5_askFor_192 ?_
          refine pm_iload dX5_askFor_193 rfl ?_
          refine pm_iadd dX5_askFor_195 ?_
          refine pm_topi (nI (128 * s + t)) (by rw [pk_mul, nI_add]) ?_
          refine pm_zaldN (by first | assumption | rfl) (by omega) (by first | decide | omega) dX5_askFor_196 ?_
          rw [hf.1 102 (by decide) (by decide)]
          refine pm_if_eq (tgt := 223) dX5_askFor_197 (by decide) (fun c197 => ?_) (fun c197 => ?_)
          · refine pm_iinc (y := _ + 1) (lv' := [some (.ref _), some (.int _), some (.int _), some (.int _), some (.int _), some (.int _)]) dX5_askFor_223 rfl rfl (by decide) rfl ?_
            refine pm_goto (tgt := 61) dX5_askFor_226 (by decide) ?_
            refine pm_fg (lv' := [some (.ref _), some (.int _), some (.int _), some (.int _), some (.int _), none]) (pm_le_k rfl (pm_le_k rfl (pm_le_k rfl (pm_le_k rfl (pm_le_k rfl (pm_le_n pm_le_0)))))) ?_
            rw [nI_1 t]
            refine it ht w1 b h g hf hR hS (af_Gt hG (fun hg _ _ => ⟨hcl hg, ?_⟩))
            rw [nI_ltI (by omega) (by omega)] at c181
            exact fun _ => by omega
          · refine pm_iload dX5_askFor_200 rfl ?_
            refine pm_aload_n dX5_askFor_202 rfl ?_
            refine pm_getR (ci := 5) (j := 35) (n := 39) (by first | assumption | rfl) (by decide) (by decide) rfl fl_RX5_81 rfl (by first | assumption | rfl) dX5_askFor_203 ?_
            refine pm_iload dX5_askFor_206 rfl ?_
            refine pm_ialdN (by first | assumption | rfl) (by omega) (by first | decide | omega) dX5_askFor_208 ?_
            rw [(hR t ht).2]
            refine pm_icmp_ge (tgt := 223) dX5_askFor_209 (by decide) (fun c209 => ?_) (fun c209 => ?_)
            · refine pm_iinc (y := _ + 1) (lv' := [some (.ref _), some (.int _), some (.int _), some (.int _), some (.int _), some (.int _)]) dX5_askFor_223 rfl rfl (by decide) rfl ?_
              refine pm_goto (tgt := 61) dX5_askFor_226 (by decide) ?_
              refine pm_fg (lv' := [some (.ref _), some (.int _), some (.int _), some (.int _), some (.int _), none]) (pm_le_k rfl (pm_le_k rfl (pm_le_k rfl (pm_le_k rfl (pm_le_k rfl (pm_le_n pm_le_0)))))) ?_
              rw [nI_1 t]
              refine it ht w1 b h g hf hR hS (af_Gt hG (fun hg _ _ => ⟨hcl hg, ?_⟩))
              rw [nI_leI (by omega) (by omega)] at c209
              exact fun _ => c209
            · refine pm_aload_n dX5_askFor_212 rfl ?_
              refine pm_getR (ci := 5) (j := 35) (n := 39) (by first | assumption | rfl) (by decide) (by decide) rfl fl_RX5_81 rfl (by first | assumption | rfl) dX5_askFor_213 ?_
              refine pm_iload dX5_askFor_216 rfl ?_
              refine pm_iload dX5_askFor_218 rfl ?_
              refine pm_iastN (by first | assumption | rfl) (by omega) (by first | decide | omega) dX5_askFor_220 ?_
              refine pm_iconst (x := 1) dX5_askFor_221 rfl ?_
              refine pm_istore_n (lv' := [some (.ref _), some (.int _), some (.int _), some (.int _), some (.int _), some (.int _)]) dX5_askFor_222 (by decide) rfl ?_
              refine pm_iinc (y := _ + 1) (lv' := [some (.ref _), some (.int _), some (.int _), some (.int _), some (.int _), some (.int _)]) dX5_askFor_223 rfl rfl (by decide) rfl ?_
              refine pm_goto (tgt := 61) dX5_askFor_226 (by decide) ?_
              refine pm_fg (lv' := [some (.ref _), some (.int _), some (.int _), some (.int _), some (.int _), none]) (pm_le_k rfl (pm_le_k rfl (pm_le_k rfl (pm_le_k rfl (pm_le_k rfl (pm_le_n pm_le_0)))))) ?_
              rw [nI_ltI (by omega) (by omega)] at c181
              rw [nI_leI (by omega) (by omega)] at c209
              exact absurd (Nat.lt_of_not_le c209) c181

set_option maxRecDepth 4000 in
theorem ask_61 {w : pm_W} {sp U v x : Nat} {A : Nat → Nat → Prop} {Q : Option Value → pm_W → Prop} (hx : x < 7) (hT : ∀ s t, s < 128 → t < 128 → zr (w.1 101 (128 * s + t)) (fo_sn sp U v s t)) (hL : ∀ s t, s < 128 → t < 128 → zr (w.1 102 (128 * s + t)) (fo_sn sp U (v - 1) s t)) {m s : Nat} (hs : s < 128) (is : s < 128 → ∀ w1 b h g, mfr w w1 [105, 106] [] → af_R w1 b h → af_S sp U v x A b h → af_G sp U v x g b h m (s + 1) 0 → pm_R pm_L0 MX5_askFor 51 [some (.ref 83), some (.int (nI x)), some (.int g), some (.int (nI (s + 1))), none, none] [] w1 Q) : ∀ t, t ≤ 128 → ∀ w1 b h g, mfr w w1 [105, 106] [] → af_R w1 b h → af_S sp U v x A b h → af_G sp U v x g b h m s t → pm_R pm_L0 MX5_askFor 61 [some (.ref 83), some (.int (nI x)), some (.int g), some (.int (nI (s))), some (.int (nI (t))), none] [] w1 Q := by
    refine up_loop 128 (fun t ht9 it w1 b h g hf hR hS hG => ?_)
    refine pm_iload dX5_askFor_61 rfl ?_
    refine pm_sipush (x := nI 128) dX5_askFor_63 rfl ?_
    refine pm_icmp_ge (tgt := 229) dX5_askFor_66 (by decide) (fun c66 => ?_) (fun c66 => ?_)
    · refine pm_iinc (y := _ + 1) (lv' := [some (.ref _), some (.int _), some (.int _), some (.int _), some (.int _), none]) dX5_askFor_229 rfl rfl (by decide) rfl ?_
      refine pm_goto (tgt := 51) dX5_askFor_232 (by decide) ?_
      refine pm_fg (lv' := [some (.ref _), some (.int _), some (.int _), some (.int _), none, none]) (pm_le_k rfl (pm_le_k rfl (pm_le_k rfl (pm_le_k rfl (pm_le_n (pm_le_n pm_le_0)))))) ?_
      have he : t = 128 := by
        rw [nI_leI (by omega) (by omega)] at c66
        omega
      rw [nI_1 s]
      exact is hs w1 b h g hf hR hS (af_Gs hG (Or.inl he))
    · have ht : t < 128 := by
        rw [nI_leI (by omega) (by omega)] at c66
        omega
      have hbs := (hS.1 s hs).1
      have hbt := (hS.1 t ht).1
      refine pm_iload_n dX5_askFor_69 rfl ?_
      refine pm_iload_n dX5_askFor_70 rfl ?_
      refine pm_ishr dX5_askFor_71 ?_
      refine pm_iconst (x := 1) dX5_askFor_72 rfl ?_
      refine pm_iand dX5_askFor_73 ?_
      refine pm_if_ne (tgt := 229) dX5_askFor_74 (by decide) (fun c74 => ?_) (fun c74 => ?_)
      · refine pm_iinc (y := _ + 1) (lv' := [some (.ref _), some (.int _), some (.int _), some (.int _), some (.int _), none]) dX5_askFor_229 rfl rfl (by decide) rfl ?_
        refine pm_goto (tgt := 51) dX5_askFor_232 (by decide) ?_
        refine pm_fg (lv' := [some (.ref _), some (.int _), some (.int _), some (.int _), none, none]) (pm_le_k rfl (pm_le_k rfl (pm_le_k rfl (pm_le_k rfl (pm_le_n (pm_le_n pm_le_0)))))) ?_
        rw [nI_1 s]
        exact is hs w1 b h g hf hR hS (af_Gs hG (Or.inr (Or.inl (mb_1 hs hx c74))))
      · refine pm_aload_n dX5_askFor_77 rfl ?_
        refine pm_getR (ci := 5) (j := 34) (n := 39) (by first | assumption | rfl) (by decide) (by decide) rfl fl_RX5_78 rfl (by first | assumption | rfl) dX5_askFor_78 ?_
        refine pm_iload_n dX5_askFor_81 rfl ?_
        refine pm_ialdN (by first | assumption | rfl) (by omega) (by first | decide | omega) dX5_askFor_82 ?_
        rw [(hR s hs).1]
        refine pm_ldc kc_RX5_224 dX5_askFor_83 ?_
        refine pm_topi (nI 1000000) rfl ?_
        refine pm_icmp_ge (tgt := 229) dX5_askFor_85 (by decide) (fun c85 => ?_) (fun c85 => ?_)
        · refine pm_iinc (y := _ + 1) (lv' := [some (.ref _), some (.int _), some (.int _), some (.int _), some (.int _), none]) dX5_askFor_229 rfl rfl (by decide) rfl ?_
          refine pm_goto (tgt := 51) dX5_askFor_232 (by decide) ?_
          refine pm_fg (lv' := [some (.ref _), some (.int _), some (.int _), some (.int _), none, none]) (pm_le_k rfl (pm_le_k rfl (pm_le_k rfl (pm_le_k rfl (pm_le_n (pm_le_n pm_le_0)))))) ?_
          rw [nI_leI (by omega) (by omega)] at c85
          rw [nI_1 s]
          exact is hs w1 b h g hf hR hS (af_Gs hG (Or.inr (Or.inr (by omega))))
        · have h1 : b s < 1000000 := by
            rw [nI_leI (by omega) (by omega)] at c85
            omega
          have bs := mb_0 hs hx c74
          refine pm_aload_n dX5_askFor_88 rfl ?_
          refine pm_getR (ci := 5) (j := 34) (n := 39) (by first | assumption | rfl) (by decide) (by decide) rfl fl_RX5_78 rfl (by first | assumption | rfl) dX5_askFor_89 ?_
          refine pm_iload_n dX5_askFor_92 rfl ?_
          refine pm_ialdN (by first | assumption | rfl) (by omega) (by first | decide | omega) dX5_askFor_93 ?_
          rw [(hR s hs).1]
          refine pm_iconst (x := 1) dX5_askFor_94 rfl ?_
          refine pm_iadd dX5_askFor_95 ?_
          rw [nI_1]
          refine pm_istore (lv' := [some (.ref _), some (.int _), some (.int _), some (.int _), some (.int _), some (.int _)]) dX5_askFor_96 (by decide) rfl ?_
          refine pm_aload_n dX5_askFor_98 rfl ?_
          refine pm_getR (ci := 5) (j := 30) (n := 39) (by first | assumption | rfl) (by decide) (by decide) rfl fl_RX5_66 rfl (by first | assumption | rfl) dX5_askFor_99 ?_
          refine pm_sipush (x := nI 128) dX5_askFor_102 rfl ?_
          refine pm_iload_n dX5_askFor_105 rfl ?_
          refine pm_imul dX5_askFor_106 ?_
          refine pm_iload dX5_askFor_107 rfl ?_
          refine pm_iadd dX5_askFor_109 ?_
          refine pm_topi (nI (128 * s + t)) (by rw [pk_mul, nI_add]) ?_
          refine pm_zaldN (by first | assumption | rfl) (by omega) (by first | decide | omega) dX5_askFor_110 ?_
          rw [hf.1 101 (by decide) (by decide)]
          refine pm_if_eq (tgt := 146) dX5_askFor_111 (by decide) (fun c111 => ?_) (fun c111 => ?_)
          · exact ask_146 hx hT hL hs ht (fun _ => it ht) hf hR hS hG bs h1 (fun _ z => absurd z (zr_0 (hT s t hs ht) c111))
          · refine pm_iload dX5_askFor_114 rfl ?_
            refine pm_aload_n dX5_askFor_116 rfl ?_
            refine pm_getR (ci := 5) (j := 34) (n := 39) (by first | assumption | rfl) (by decide) (by decide) rfl fl_RX5_78 rfl (by first | assumption | rfl) dX5_askFor_117 ?_
            refine pm_iload dX5_askFor_120 rfl ?_
            refine pm_ialdN (by first | assumption | rfl) (by omega) (by first | decide | omega) dX5_askFor_122 ?_
            rw [(hR t ht).1]
            refine pm_icmp_ge (tgt := 146) dX5_askFor_123 (by decide) (fun c123 => ?_) (fun c123 => ?_)
            · rw [nI_leI (by omega) (by omega)] at c123
              exact ask_146 hx hT hL hs ht (fun _ => it ht) hf hR hS hG bs h1 (fun _ _ _ => c123)
            · refine pm_iload dX5_askFor_126 rfl ?_
              refine pm_iload_n dX5_askFor_128 rfl ?_
              refine pm_ishr dX5_askFor_129 ?_
              refine pm_iconst (x := 1) dX5_askFor_130 rfl ?_
              refine pm_iand dX5_askFor_131 ?_
              refine pm_if_ne (tgt := 146) dX5_askFor_132 (by decide) (fun c132 => ?_) (fun c132 => ?_)
              · exact ask_146 hx hT hL hs ht (fun _ => it ht) hf hR hS hG bs h1 (fun _ _ z => absurd z (by rw [mb_1 ht hx c132]; decide))
              · rw [nI_leI (by omega) (by omega)] at c123
                refine pm_aload_n dX5_askFor_135 rfl ?_
                refine pm_getR (ci := 5) (j := 34) (n := 39) (by first | assumption | rfl) (by decide) (by decide) rfl fl_RX5_78 rfl (by first | assumption | rfl) dX5_askFor_136 ?_
                refine pm_iload dX5_askFor_139 rfl ?_
                refine pm_iload dX5_askFor_141 rfl ?_
                refine pm_iastN (by first | assumption | rfl) (by omega) (by first | decide | omega) dX5_askFor_143 ?_
                refine pm_iconst (x := 1) dX5_askFor_144 rfl ?_
                refine pm_istore_n (lv' := [some (.ref _), some (.int _), some (.int _), some (.int _), some (.int _), some (.int _)]) dX5_askFor_145 (by decide) rfl ?_
                have hne : ¬ s = t := fun e => by subst e; omega
                have hbn : nu b t (b s + 1) s = b s := nu_n hne
                have hgo := ask_146 hx hT hL (A := A) (m := m) hs ht (fun _ => it ht) (mfr_c hf (by decide) (by decide) _) (af_Rb hR t (b s + 1)) (af_b hS hs ht bs h1 (zr_1 (hT s t hs ht) c111) (mb_0 ht hx c132) (by omega)) (g := 1) (af_G1 hG (af_ub ht (by omega))) bs (by rw [hbn]; exact h1) (fun z => absurd z (by decide))
                rw [hbn] at hgo
                exact hgo

set_option maxRecDepth 4000 in
theorem ask_51 {w : pm_W} {sp U v x : Nat} {A : Nat → Nat → Prop} {Q : Option Value → pm_W → Prop} (hx : x < 7) (hT : ∀ s t, s < 128 → t < 128 → zr (w.1 101 (128 * s + t)) (fo_sn sp U v s t)) (hL : ∀ s t, s < 128 → t < 128 → zr (w.1 102 (128 * s + t)) (fo_sn sp U (v - 1) s t)) {m : Nat} (k43 : ∀ w1 b h g, mfr w w1 [105, 106] [] → af_R w1 b h → af_S sp U v x A b h → af_G sp U v x g b h m 128 0 → pm_R pm_L0 MX5_askFor 43 [some (.ref 83), some (.int (nI x)), some (.int g), none, none, none] [] w1 Q) : ∀ s, s ≤ 128 → ∀ w1 b h g, mfr w w1 [105, 106] [] → af_R w1 b h → af_S sp U v x A b h → af_G sp U v x g b h m s 0 → pm_R pm_L0 MX5_askFor 51 [some (.ref 83), some (.int (nI x)), some (.int g), some (.int (nI (s))), none, none] [] w1 Q := by
    refine up_loop 128 (fun s hs9 is w1 b h g hf hR hS hG => ?_)
    refine pm_iload_n dX5_askFor_51 rfl ?_
    refine pm_sipush (x := nI 128) dX5_askFor_52 rfl ?_
    refine pm_icmp_ge (tgt := 235) dX5_askFor_55 (by decide) (fun c55 => ?_) (fun c55 => ?_)
    · refine pm_goto (tgt := 43) dX5_askFor_235 (by decide) ?_
      refine pm_fg (lv' := [some (.ref _), some (.int _), some (.int _), none, none, none]) (pm_le_k rfl (pm_le_k rfl (pm_le_k rfl (pm_le_n (pm_le_n (pm_le_n pm_le_0)))))) ?_
      have he : s = 128 := by
        rw [nI_leI (by omega) (by omega)] at c55
        omega
      subst he
      exact k43 w1 b h g hf hR hS hG
    · have hlt : s < 128 := by
        rw [nI_leI (by omega) (by omega)] at c55
        omega
      refine pm_iconst (x := 0) dX5_askFor_58 rfl ?_
      refine pm_istore (lv' := [some (.ref _), some (.int _), some (.int _), some (.int _), some (.int _), none]) dX5_askFor_59 (by decide) rfl ?_
      exact ask_61 hx hT hL hlt (fun _ => is hlt) 0 (by decide) w1 b h g hf hR hS hG

set_option maxRecDepth 4000 in
theorem ask_43 {w : pm_W} {sp U v x : Nat} {A : Nat → Nat → Prop} (hx : x < 7) (hT : ∀ s t, s < 128 → t < 128 → zr (w.1 101 (128 * s + t)) (fo_sn sp U v s t)) (hL : ∀ s t, s < 128 → t < 128 → zr (w.1 102 (128 * s + t)) (fo_sn sp U (v - 1) s t)) (hU : U ≤ 7) (hA : ∀ s c, A s c → s < 128) : ∀ m, ∀ w1 b h g, mfr w w1 [105, 106] [] → af_R w1 b h → af_S sp U v x A b h → af_G sp U v x g b h m 128 0 → pm_R pm_L0 MX5_askFor 43 [some (.ref 83), some (.int (nI x)), some (.int g), none, none, none] [] w1 (pm_qv fun w1 => mfr w w1 [105, 106] [] ∧ ∃ h, (∀ s, s < 128 → w1.1 106 s = nI (h s)) ∧ fo_bk (fo_D sp U v x A) h) := by
    intro m
    induction m using Nat.strongRecOn with
    | ind m ih =>
    intro w1 b h g hf hR hS hG
    refine pm_iload_n dX5_askFor_43 rfl ?_
    refine pm_if_eq (tgt := 238) dX5_askFor_44 (by decide) (fun c44 => ?_) (fun c44 => ?_)
    · refine pm_vret dX5_askFor_238 rfl ?_
      rcases hG with ⟨rfl, -⟩ | ⟨-, -, hc⟩
      · exact absurd c44 (by decide)
      · exact ⟨hf, h, fun s hs => (hR s hs).2, af_E hU hA hS (fun s t q1 q2 => hc s t (Or.inl q1) q2)⟩
    · refine pm_iconst (x := 0) dX5_askFor_47 rfl ?_
      refine pm_istore_n (lv' := [some (.ref _), some (.int _), some (.int _), none, none, none]) dX5_askFor_48 (by decide) rfl ?_
      refine pm_iconst (x := 0) dX5_askFor_49 rfl ?_
      refine pm_istore_n (lv' := [some (.ref _), some (.int _), some (.int _), some (.int _), none, none]) dX5_askFor_50 (by decide) rfl ?_
      rcases hG with ⟨-, hm⟩ | ⟨rfl, -⟩
      · refine ask_51 hx hT hL (m := af_u b h) (A := A) (fun w1 b1 h1 g1 f1 r1 s1 G1 => ih (af_u b h) hm w1 b1 h1 g1 f1 r1 s1 G1) 0 (by decide) w1 b h 0 hf hR hS (Or.inr ⟨rfl, Nat.le_refl _, fun s' t' z => absurd z (by omega)⟩)
      · exact absurd rfl c44

set_option maxRecDepth 4000 in
theorem ask_2 {w : pm_W} {sp U v x : Nat} {A : Nat → Nat → Prop} (hx : x < 7) (hT : ∀ s t, s < 128 → t < 128 → zr (w.1 101 (128 * s + t)) (fo_sn sp U v s t)) (hL : ∀ s t, s < 128 → t < 128 → zr (w.1 102 (128 * s + t)) (fo_sn sp U (v - 1) s t)) (hU : U ≤ 7) {b : Nat → Nat} (h105 : ∀ s, s < 128 → w.1 105 s = nI (b s)) (hB : fo_bk A b) : ∀ i, i ≤ 128 → ∀ w1, mfr w w1 [106] [] → (∀ s, s < i → w1.1 106 s = nI (if s.testBit x = true then b s else 1000000)) → pm_R pm_L0 MX5_askFor 2 [some (.ref 83), some (.int (nI x)), some (.int (nI i)), none, none, none] [] w1 (pm_qv fun w1 => mfr w w1 [105, 106] [] ∧ ∃ h, (∀ s, s < 128 → w1.1 106 s = nI (h s)) ∧ fo_bk (fo_D sp U v x A) h) := by
    have hA := fun s c ha => (hB.2.2 s c ha).1
    refine up_loop 128 (fun i hi9 ih w1 hf hh => ?_)
    refine pm_iload_n dX5_askFor_2 rfl ?_
    refine pm_sipush (x := nI 128) dX5_askFor_3 rfl ?_
    refine pm_icmp_ge (tgt := 41) dX5_askFor_6 (by decide) (fun c6 => ?_) (fun c6 => ?_)
    · refine pm_iconst (x := 1) dX5_askFor_41 rfl ?_
      refine pm_istore_n (lv' := [some (.ref _), some (.int _), some (.int _), none, none, none]) dX5_askFor_42 (by decide) rfl ?_
      have he : i = 128 := by
        rw [nI_leI (by omega) (by omega)] at c6
        omega
      subst he
      refine ask_43 hx hT hL hU hA (af_u b (fun s => if s.testBit x = true then b s else 1000000) + 1) w1 b (fun s => if s.testBit x = true then b s else 1000000) 1 (mfr_wd hf (by decide) (by decide)) (fun s hs => ⟨by rw [hf.1 105 (by decide) (by decide)]; exact h105 s hs, hh s hs⟩) ?_ (Or.inl ⟨rfl, Nat.lt_succ_self _⟩)
      obtain ⟨q1, q2, q3⟩ := hB
      refine ⟨fun s hs => ⟨q1 s hs, ?_⟩, fun s hs hl => ⟨0, q2 s hs hl⟩, fun s hs hl => ?_, fun s c ha => ⟨(q3 s c ha).2, fun hb => ?_⟩⟩
      · show (if s.testBit x = true then b s else 1000000) ≤ 1000000
        split
        · exact q1 s hs
        · exact Nat.le_refl _
      · have hl : (if s.testBit x = true then b s else 1000000) < 1000000 := hl
        show fo_D sp U v x A s (if s.testBit x = true then b s else 1000000)
        by_cases hb : s.testBit x = true
        · rw [if_pos hb] at hl ⊢
          exact ⟨0, s, b s, q2 s hs hl, Or.inl ⟨hb, rfl, rfl⟩⟩
        · rw [if_neg hb] at hl; exact absurd hl (by decide)
      · show (if s.testBit x = true then b s else 1000000) ≤ c
        rw [if_pos hb]; exact (q3 s c ha).2
    · have hlt : i < 128 := by
        rw [nI_leI (by omega) (by omega)] at c6
        omega
      refine pm_aload_n dX5_askFor_9 rfl ?_
      refine pm_getR (ci := 5) (j := 35) (n := 39) (by first | assumption | rfl) (by decide) (by decide) rfl fl_RX5_81 rfl (by first | assumption | rfl) dX5_askFor_10 ?_
      refine pm_iload_n dX5_askFor_13 rfl ?_
      refine pm_iload_n dX5_askFor_14 rfl ?_
      refine pm_iload_n dX5_askFor_15 rfl ?_
      refine pm_ishr dX5_askFor_16 ?_
      refine pm_iconst (x := 1) dX5_askFor_17 rfl ?_
      refine pm_iand dX5_askFor_18 ?_
      refine pm_iconst (x := 1) dX5_askFor_19 rfl ?_
      refine pm_icmp_ne (tgt := 32) dX5_askFor_20 (by decide) (fun c20 => ?_) (fun c20 => ?_)
      · refine pm_ldc kc_RX5_224 dX5_askFor_32 ?_
        refine pm_iastN (by first | assumption | rfl) (by omega) (by first | decide | omega) dX5_askFor_34 ?_
        refine pm_iinc (y := _ + 1) (lv' := [some (.ref _), some (.int _), some (.int _), none, none, none]) dX5_askFor_35 rfl rfl (by decide) rfl ?_
        refine pm_goto (tgt := 2) dX5_askFor_38 (by decide) ?_
        rw [nI_1 i]
        refine ih hlt _ (mfr_c hf (by decide) (by decide) _) (fun s hs => ?_)
        rw [pm_s_at]
        rcases Nat.lt_succ_iff_lt_or_eq.mp hs with q | rfl
        · rw [pk_un (by omega)]; exact hh s q
        · rw [pk_us]
          rw [if_neg (by rw [mb_1n hlt hx c20]; decide)]
          rfl
      · refine pm_aload_n dX5_askFor_23 rfl ?_
        refine pm_getR (ci := 5) (j := 34) (n := 39) (by first | assumption | rfl) (by decide) (by decide) rfl fl_RX5_78 rfl (by first | assumption | rfl) dX5_askFor_24 ?_
        refine pm_iload_n dX5_askFor_27 rfl ?_
        refine pm_ialdN (by first | assumption | rfl) (by omega) (by first | decide | omega) dX5_askFor_28 ?_
        refine pm_goto (tgt := 34) dX5_askFor_29 (by decide) ?_
        refine pm_iastN (by first | assumption | rfl) (by omega) (by first | decide | omega) dX5_askFor_34 ?_
        refine pm_iinc (y := _ + 1) (lv' := [some (.ref _), some (.int _), some (.int _), none, none, none]) dX5_askFor_35 rfl rfl (by decide) rfl ?_
        refine pm_goto (tgt := 2) dX5_askFor_38 (by decide) ?_
        rw [nI_1 i]
        refine ih hlt _ (mfr_c hf (by decide) (by decide) _) (fun s hs => ?_)
        rw [pm_s_at]
        rcases Nat.lt_succ_iff_lt_or_eq.mp hs with q | rfl
        · rw [pk_un (by omega)]; exact hh s q
        · rw [pk_us]
          rw [if_pos (mb_1e hlt hx c20), hf.1 105 (by decide) (by decide)]
          exact h105 s hlt

set_option maxRecDepth 4000 in
theorem c_X5_askFor {w : pm_W} {sp U v x : Nat} {A : Nat → Nat → Prop} (hx : x < 7) (hT : ∀ s t, s < 128 → t < 128 → zr (w.1 101 (128 * s + t)) (fo_sn sp U v s t)) (hL : ∀ s t, s < 128 → t < 128 → zr (w.1 102 (128 * s + t)) (fo_sn sp U (v - 1) s t)) (hU : U ≤ 7) {b : Nat → Nat} (h105 : ∀ s, s < 128 → w.1 105 s = nI (b s)) (hB : fo_bk A b) : pm_C pm_L0 MX5_askFor [.ref 83, .int (nI x)] w (pm_qv fun w1 => mfr w w1 [105, 106] [] ∧ ∃ h, (∀ s, s < 128 → w1.1 106 s = nI (h s)) ∧ fo_bk (fo_D sp U v x A) h) := by
  refine pm_start (lv := [some (.ref _), some (.int _), none, none, none, none]) (plainFor_of_name pf5) (Nat.le_of_ble_eq_true rfl) rfl ?_
  refine pm_iconst (x := 0) dX5_askFor_0 rfl ?_
  refine pm_istore_n (lv' := [some (.ref _), some (.int _), some (.int _), none, none, none]) dX5_askFor_1 (by decide) rfl ?_
  exact ask_2 hx hT hL hU h105 hB 0 (by decide) w (mfr_rf _ _ _) (fun s hs => absurd hs (by omega))

