theorem bk_0 (sp U v : Nat) (xs : Nat → Nat) (tk : Nat → Bool) : fo_bk (fo_A sp U v xs tk 0) (fun s => if s = 0 then 0 else 1000000) := by
  refine ⟨fun s _ => ?_, fun s _ hl => ?_, fun s c ha => ?_⟩
  · show (if s = 0 then 0 else 1000000) ≤ 1000000
    split <;> omega
  · have hl : (if s = 0 then 0 else 1000000) < 1000000 := hl
    by_cases q : s = 0
    · subst q; exact ⟨rfl, rfl⟩
    · rw [if_neg q] at hl; exact absurd hl (by decide)
  · obtain ⟨rfl, rfl⟩ := ha
    exact ⟨by decide, Nat.le_refl _⟩
theorem fu_ap {b : Int32} : ∀ {l l' : List Int32}, fu_i b l < l.length → fu_i b (l ++ l') = fu_i b l
  | [], l', h => absurd h (by simp [fu_i])
  | a :: l, l', h => by
    rw [List.cons_append, fu_i, fu_i]
    by_cases q : a = b
    · rw [if_pos q, if_pos q]
    · rw [if_neg q, if_neg q]
      rw [fu_i, if_neg q, List.length_cons] at h
      rw [fu_ap (by omega)]
theorem fu_la {b : Int32} : ∀ {l : List Int32}, fu_i b l = l.length → fu_i b (l ++ [b]) = l.length
  | [], _ => by simp [fu_i]
  | a :: l, h => by
    rw [fu_i, List.length_cons] at h
    by_cases q : a = b
    · rw [if_pos q] at h; exact absurd h (by omega)
    · rw [if_neg q] at h
      rw [List.cons_append, fu_i, if_neg q, fu_la (by omega), List.length_cons]
theorem fu_pre (bs : Nat → Int32) {i : Nat} : ∀ {n : Nat}, i < n → fu_i (bs i) (fu_n bs n) = fu_x bs i ∧ fu_x bs i < (fu_n bs n).length
  | 0, h => absurd h (by omega)
  | n + 1, h => by
    refine ⟨?_, fu_lt bs h⟩
    by_cases q : i = n
    · subst q
      rw [fu_n]
      by_cases e : fu_i (bs i) (fu_n bs i) = (fu_n bs i).length
      · rw [if_pos e, fu_la e]; exact e.symm
      · rw [if_neg e]; rfl
    · obtain ⟨h1, h2⟩ := fu_pre bs (n := n) (i := i) (by omega)
      rw [fu_n]
      by_cases e : fu_i (bs n) (fu_n bs n) = (fu_n bs n).length
      · rw [if_pos e, fu_ap (by omega)]; exact h1
      · rw [if_neg e]; exact h1

set_option maxRecDepth 4000 in
theorem fs_204 {w : pm_W} {S : ab_S} (hR : mo_R w S) {sp v pc n : Nat} (e4 : S.2.2.2.1 4 = nI sp) (e5 : S.2.2.2.1 5 = nI v) (e6 : S.2.2.2.1 6 = nI pc) (hsp : sp ≤ 12) (hv1 : 1 ≤ v) (hv : v ≤ 3) (hp1 : 1 ≤ pc) (hp : pc ≤ 4) (hlen : S.2.2.2.2.length ≤ 1000000) (hn : n ≤ 24 ∧ n ≤ S.2.2.2.2.length) (x hd : Int32) (h7 : ∀ j, j < n → fu_x (fu_b S n) j < 7) : ∀ i, i ≤ n → ∀ (w1 : pm_W) (b : Nat → Nat) (m : Nat), mfr w w1 [100, 101, 102, 103, 104, 105, 106] [29] → w1.1 83 29 = nI (fu_n (fu_b S n) n).length → (∀ k, k < (fu_n (fu_b S n) n).length → w1.1 100 k = (fu_n (fu_b S n) n).getD k 0) → (∀ s t, s < 128 → t < 128 → zr (w1.1 101 (128 * s + t)) (fo_sn sp (fu_n (fu_b S n) n).length v s t)) → (∀ s t, s < 128 → t < 128 → zr (w1.1 102 (128 * s + t)) (fo_sn sp (fu_n (fu_b S n) n).length (v - 1) s t)) → (∀ s, s < 128 → w1.1 105 s = nI (b s)) → fo_bk (fo_A sp (fu_n (fu_b S n) n).length v (fu_x (fu_b S n)) (fu_tk S n) i) b → fo_L sp (fu_n (fu_b S n) n).length v (fu_x (fu_b S n)) (fu_tk S n) i m → pm_R pm_L0 MX5_foresight 204 [some (.ref 83), some (.int x), some (.int hd), some (.int (nI n)), some (.int (nI m)), some (.int (nI (S.2.2.2.2.length - n + i))), none, none, none, none] [] w1 (pm_qi fun r w1 => pf_A S (fu_n (fu_b S n) n).length n r ∧ mfr w w1 [100, 101, 102, 103, 104, 105, 106] [29]) := by
    refine up_loop n (fun i hi9 ih w1 b m hf h29 hu hT hL h105 hB hM => ?_)
    refine pm_iload dX5_foresight_204 rfl ?_
    refine pm_aload_n dX5_foresight_206 rfl ?_
    refine pm_getI (ci := 5) (j := 24) (n := 39) (by first | assumption | rfl) (by decide) (by decide) rfl fl_RX5_126 rfl dX5_foresight_207 ?_
    rw [hf.2.1 24 (by decide), hR.2.2.2.2.1]
    refine pm_icmp_ge (tgt := 429) dX5_foresight_210 (by decide) (fun c210 => ?_) (fun c210 => ?_)
    · refine pm_iload dX5_foresight_429 rfl ?_
      refine pm_iret dX5_foresight_431 rfl ?_
      have he : i = n := by
        rw [nI_leI (by omega) (by omega)] at c210
        omega
      subst he
      exact ⟨Or.inr ⟨h7, m, rfl, by rw [e4, e5, nI_clamp (by omega), nI_clamp (by omega)]; exact hM⟩, hf⟩
    · have hlt : i < n := by
        rw [nI_leI (by omega) (by omega)] at c210
        omega
      refine pm_aload_n dX5_foresight_213 rfl ?_
      refine pm_aload_n dX5_foresight_214 rfl ?_
      refine pm_aload_n dX5_foresight_215 rfl ?_
      refine pm_getR (ci := 5) (j := 23) (n := 39) (by first | assumption | rfl) (by decide) (by decide) rfl fl_RX5_56 rfl (by first | assumption | rfl) dX5_foresight_216 ?_
      refine pm_iload dX5_foresight_219 rfl ?_
      refine pm_sipush (x := nI 200) dX5_foresight_221 rfl ?_
      refine pm_irem dX5_foresight_224 (by decide) ?_
      rw [pk_rem (by omega) (by omega) (by omega)]
      refine pm_ialdN (by first | assumption | rfl) (by exact Nat.mod_lt _ (by decide)) (by first | decide | omega) dX5_foresight_225 ?_
      rw [mo_row hR hn hlt (hf.1 99 (by decide) (by decide))]
      refine pm_cVi (as := [.int _]) (by first | assumption | rfl) (by decide) rfl ml_RX5_227 (by decide) (Nat.le_of_ble_eq_true rfl) dX5_foresight_226 (c_X5_indexOf h29 (fu_7 h7) hu _) (fun x1 w1 hq => ?_)
      obtain ⟨rfl, hw9⟩ := hq
      have hw9 := hw9.symm
      subst hw9
      rw [(fu_pre (fu_b S n) hlt).1]
      refine pm_cVv (as := [.int _]) (by first | assumption | rfl) (by decide) rfl ml_RX5_233 (by decide) (Nat.le_of_ble_eq_true rfl) dX5_foresight_229 (c_X5_askFor (sp := sp) (U := (fu_n (fu_b S n) n).length) (v := v) (x := fu_x (fu_b S n) i) (A := (fo_A sp (fu_n (fu_b S n) n).length v (fu_x (fu_b S n)) (fu_tk S n) i)) (h7 i hlt) hT hL (fu_7 h7) h105 hB) (fun w2 hq => ?_)
      obtain ⟨hf2, h, h106, hD⟩ := hq
      refine pm_ldc kc_RX5_224 dX5_foresight_232 ?_
      refine pm_istore (lv' := [some (.ref _), some (.int _), some (.int _), some (.int _), some (.int _), some (.int _), none, none, none, none]) dX5_foresight_234 (by decide) rfl ?_
      refine pm_iconst (x := 0) dX5_foresight_236 rfl ?_
      refine pm_istore (lv' := [some (.ref _), some (.int _), some (.int _), some (.int _), some (.int _), some (.int _), some (.int _), none, none, none]) dX5_foresight_237 (by decide) rfl ?_
      exact fs_239 hR e4 e5 e6 hsp hv1 hv hp1 hp hlen hn x hd h7 hlt (ih hlt) (mfr_tr hf (mfr_wd hf2 (by decide) (by decide))) ((hf2.2.1 29 (by decide)).trans h29) (fun k hk => by rw [hf2.1 100 (by decide) (by decide)]; exact hu k hk) (fun s t q1 q2 => by rw [hf2.1 101 (by decide) (by decide)]; exact hT s t q1 q2) (fun s t q1 q2 => by rw [hf2.1 102 (by decide) (by decide)]; exact hL s t q1 q2) h106 hD 0 (by decide) w2 (mfr_rf _ _ _) (fun s hs => absurd hs (by omega))

set_option maxRecDepth 4000 in
theorem fs_137 {w : pm_W} {S : ab_S} (hR : mo_R w S) {sp v pc n : Nat} (e4 : S.2.2.2.1 4 = nI sp) (e5 : S.2.2.2.1 5 = nI v) (e6 : S.2.2.2.1 6 = nI pc) (hsp : sp ≤ 12) (hv1 : 1 ≤ v) (hv : v ≤ 3) (hp1 : 1 ≤ pc) (hp : pc ≤ 4) (hlen : S.2.2.2.2.length ≤ 1000000) (hn : n ≤ 24 ∧ n ≤ S.2.2.2.2.length) (x hd : Int32) (h7 : ∀ j, j < n → fu_x (fu_b S n) j < 7) : ∀ i, i ≤ 128 → ∀ (w1 : pm_W), mfr w w1 [100, 101, 102, 103, 104, 105, 106] [29] → w1.1 83 29 = nI (fu_n (fu_b S n) n).length → (∀ k, k < (fu_n (fu_b S n) n).length → w1.1 100 k = (fu_n (fu_b S n) n).getD k 0) → (∀ s t, s < i → t < 128 → zr (w1.1 101 (128 * s + t)) (fo_sn sp (fu_n (fu_b S n) n).length v s t)) → (∀ s t, s < i → t < 128 → zr (w1.1 102 (128 * s + t)) (fo_sn sp (fu_n (fu_b S n) n).length (v - 1) s t)) → (∀ s, s < i → w1.1 105 s = nI (if s = 0 then 0 else 1000000)) → pm_R pm_L0 MX5_foresight 137 [some (.ref 83), some (.int x), some (.int hd), some (.int (nI n)), some (.int (nI i)), none, none, none, none, none] [] w1 (pm_qi fun r w1 => pf_A S (fu_n (fu_b S n) n).length n r ∧ mfr w w1 [100, 101, 102, 103, 104, 105, 106] [29]) := by
    refine up_loop 128 (fun i hi9 ih w1 hf h29 hu h1 h2 h3 => ?_)
    refine pm_iload dX5_foresight_137 rfl ?_
    refine pm_sipush (x := nI 128) dX5_foresight_139 rfl ?_
    refine pm_icmp_ge (tgt := 193) dX5_foresight_142 (by decide) (fun c142 => ?_) (fun c142 => ?_)
    · have he : i = 128 := by
        rw [nI_leI (by omega) (by omega)] at c142
        omega
      subst he
      refine pm_iconst (x := 0) dX5_foresight_193 rfl ?_
      refine pm_istore (lv' := [some (.ref _), some (.int _), some (.int _), some (.int _), some (.int _), none, none, none, none, none]) dX5_foresight_194 (by decide) rfl ?_
      refine pm_aload_n dX5_foresight_196 rfl ?_
      refine pm_getI (ci := 5) (j := 24) (n := 39) (by first | assumption | rfl) (by decide) (by decide) rfl fl_RX5_126 rfl dX5_foresight_197 ?_
      rw [hf.2.1 24 (by decide), hR.2.2.2.2.1]
      refine pm_iload_n dX5_foresight_200 rfl ?_
      refine pm_isub dX5_foresight_201 ?_
      rw [nI_sb hn.2]
      refine pm_istore (lv' := [some (.ref _), some (.int _), some (.int _), some (.int _), some (.int _), some (.int _), none, none, none, none]) dX5_foresight_202 (by decide) rfl ?_
      exact fs_204 hR e4 e5 e6 hsp hv1 hv hp1 hp hlen hn x hd h7 0 (Nat.zero_le _) w1 (fun s => if s = 0 then 0 else 1000000) 0 hf h29 hu h1 h2 h3 (bk_0 _ _ _ _ _) ⟨⟨0, rfl, rfl⟩, fun s c _ => Nat.zero_le _⟩
    · have hlt : i < 128 := by
        rw [nI_leI (by omega) (by omega)] at c142
        omega
      refine pm_aload_n dX5_foresight_145 rfl ?_
      refine pm_iload dX5_foresight_146 rfl ?_
      refine pm_aload_n dX5_foresight_148 rfl ?_
      refine pm_getI (ci := 5) (j := 1) (n := 39) (by first | assumption | rfl) (by decide) (by decide) rfl fl_RX5_105 rfl dX5_foresight_149 ?_
      refine pm_topi (nI v) ((hf.2.1 1 (by decide)).trans (hR.2.2.2.1.2.1.trans e5)) ?_
      refine pm_iconst (x := 0) dX5_foresight_152 rfl ?_
      refine pm_cVv (as := [.int _, .int _, .int _]) (by first | assumption | rfl) (by decide) rfl ml_RX5_230 (by decide) (Nat.le_of_ble_eq_true rfl) dX5_foresight_153 (c_X5_findSets0 (U := (fu_n (fu_b S n) n).length) h29 (fu_7 h7) hlt ((hf.2.1 0 (by decide)).trans (hR.2.2.2.1.1.trans e4)) hsp (by omega)) (fun wa hq => ?_)
      obtain ⟨ha, hao, hat⟩ := hq
      refine pm_aload_n dX5_foresight_156 rfl ?_
      refine pm_iload dX5_foresight_157 rfl ?_
      refine pm_aload_n dX5_foresight_159 rfl ?_
      refine pm_getI (ci := 5) (j := 1) (n := 39) (by first | assumption | rfl) (by decide) (by decide) rfl fl_RX5_105 rfl dX5_foresight_160 ?_
      refine pm_iconst (x := 1) dX5_foresight_163 rfl ?_
      refine pm_isub dX5_foresight_164 ?_
      refine pm_topi (nI (v - 1)) (by rw [ha.2.1 1 (by decide), hf.2.1 1 (by decide), hR.2.2.2.1.2.1, e5]; exact nI_sb hv1) ?_
      refine pm_iconst (x := 1) dX5_foresight_165 rfl ?_
      refine pm_cVv (as := [.int _, .int _, .int _]) (by first | assumption | rfl) (by decide) rfl ml_RX5_230 (by decide) (Nat.le_of_ble_eq_true rfl) dX5_foresight_166 (c_X5_findSets1 (U := (fu_n (fu_b S n) n).length) (s := i) ((ha.2.1 29 (by decide)).trans h29) (fu_7 h7) hlt ((ha.2.1 0 (by decide)).trans ((hf.2.1 0 (by decide)).trans (hR.2.2.2.1.1.trans e4))) hsp (by omega)) (fun wb hq => ?_)
      obtain ⟨hb, hbo, hbt⟩ := hq
      refine pm_aload_n dX5_foresight_169 rfl ?_
      refine pm_getR (ci := 5) (j := 34) (n := 39) (by first | assumption | rfl) (by decide) (by decide) rfl fl_RX5_78 rfl (by first | assumption | rfl) dX5_foresight_170 ?_
      refine pm_iload dX5_foresight_173 rfl ?_
      refine pm_iload dX5_foresight_175 rfl ?_
      refine pm_if_ne (tgt := 184) dX5_foresight_177 (by decide) (fun c177 => ?_) (fun c177 => ?_)
      · refine pm_ldc kc_RX5_224 dX5_foresight_184 ?_
        refine pm_iastN (by first | assumption | rfl) (by omega) (by first | decide | omega) dX5_foresight_186 ?_
        refine pm_iinc (y := _ + 1) (lv' := [some (.ref _), some (.int _), some (.int _), some (.int _), some (.int _), none, none, none, none, none]) dX5_foresight_187 rfl rfl (by decide) rfl ?_
        refine pm_goto (tgt := 137) dX5_foresight_190 (by decide) ?_
        rw [nI_1 i]
        have hfb : mfr w1 wb [101, 102, 103, 104] [] := mfr_tr (mfr_wd ha (by decide) (by decide)) (mfr_wd hb (by decide) (by decide))
        refine ih hlt _ (mfr_c (mfr_tr hf (mfr_wd hfb (by decide) (by decide))) (by decide) (by decide) _) ?_ (fun k hk => ?_) (fun s t q1 q2 => ?_) (fun s t q1 q2 => ?_) (fun s hs => ?_)
        · rw [pm_s_ne (by decide)]; exact (hfb.2.1 29 (by decide)).trans h29
        · rw [pm_s_ne (by decide), hfb.1 100 (by decide) (by decide)]; exact hu k hk
        · rw [pm_s_ne (by decide), hb.1 101 (by decide) (by decide)]
          rcases Nat.lt_succ_iff_lt_or_eq.mp q1 with q | rfl
          · rw [hao _ (Or.inl (by omega))]; exact h1 s t q q2
          · exact hat t q2
        · rw [pm_s_ne (by decide)]
          rcases Nat.lt_succ_iff_lt_or_eq.mp q1 with q | rfl
          · rw [hbo _ (Or.inl (by omega)), ha.1 102 (by decide) (by decide)]; exact h2 s t q q2
          · exact hbt t q2
        · rw [pm_s_at]
          rcases Nat.lt_succ_iff_lt_or_eq.mp hs with q | rfl
          · rw [pk_un (by omega), hfb.1 105 (by decide) (by decide)]; exact h3 s q
          · rw [pk_us, if_neg (by intro e; subst e; exact c177 rfl)]
            rfl
      · refine pm_iconst (x := 0) dX5_foresight_180 rfl ?_
        refine pm_goto (tgt := 186) dX5_foresight_181 (by decide) ?_
        refine pm_iastN (by first | assumption | rfl) (by omega) (by first | decide | omega) dX5_foresight_186 ?_
        refine pm_iinc (y := _ + 1) (lv' := [some (.ref _), some (.int _), some (.int _), some (.int _), some (.int _), none, none, none, none, none]) dX5_foresight_187 rfl rfl (by decide) rfl ?_
        refine pm_goto (tgt := 137) dX5_foresight_190 (by decide) ?_
        rw [nI_1 i]
        have hfb : mfr w1 wb [101, 102, 103, 104] [] := mfr_tr (mfr_wd ha (by decide) (by decide)) (mfr_wd hb (by decide) (by decide))
        refine ih hlt _ (mfr_c (mfr_tr hf (mfr_wd hfb (by decide) (by decide))) (by decide) (by decide) _) ?_ (fun k hk => ?_) (fun s t q1 q2 => ?_) (fun s t q1 q2 => ?_) (fun s hs => ?_)
        · rw [pm_s_ne (by decide)]; exact (hfb.2.1 29 (by decide)).trans h29
        · rw [pm_s_ne (by decide), hfb.1 100 (by decide) (by decide)]; exact hu k hk
        · rw [pm_s_ne (by decide), hb.1 101 (by decide) (by decide)]
          rcases Nat.lt_succ_iff_lt_or_eq.mp q1 with q | rfl
          · rw [hao _ (Or.inl (by omega))]; exact h1 s t q q2
          · exact hat t q2
        · rw [pm_s_ne (by decide)]
          rcases Nat.lt_succ_iff_lt_or_eq.mp q1 with q | rfl
          · rw [hbo _ (Or.inl (by omega)), ha.1 102 (by decide) (by decide)]; exact h2 s t q q2
          · exact hbt t q2
        · rw [pm_s_at]
          rcases Nat.lt_succ_iff_lt_or_eq.mp hs with q | rfl
          · rw [pk_un (by omega), hfb.1 105 (by decide) (by decide)]; exact h3 s q
          · rw [pk_us, if_pos ((nI_eq (b := 0) (by omega) (by decide)).mp c177)]
            rfl

set_option maxRecDepth 4000 in
theorem fs_60 {w : pm_W} {S : ab_S} (hR : mo_R w S) {sp v pc n : Nat} (e4 : S.2.2.2.1 4 = nI sp) (e5 : S.2.2.2.1 5 = nI v) (e6 : S.2.2.2.1 6 = nI pc) (hsp : sp ≤ 12) (hv1 : 1 ≤ v) (hv : v ≤ 3) (hp1 : 1 ≤ pc) (hp : pc ≤ 4) (hlen : S.2.2.2.2.length ≤ 1000000) (hn : n ≤ 24 ∧ n ≤ S.2.2.2.2.length) (x hd : Int32) : ∀ i, i ≤ n → ∀ (w1 : pm_W), mfr w w1 [100, 101, 102, 103, 104, 105, 106] [29] → w1.1 83 29 = nI (fu_n (fu_b S n) i).length → (∀ k, k < (fu_n (fu_b S n) i).length → w1.1 100 k = (fu_n (fu_b S n) i).getD k 0) → (∀ j, j < i → fu_x (fu_b S n) j < 7) → pm_R pm_L0 MX5_foresight 60 [some (.ref 83), some (.int x), some (.int hd), some (.int (nI n)), some (.int (nI (S.2.2.2.2.length - n + i))), none, none, none, none, none] [] w1 (pm_qi fun r w1 => pf_A S (fu_n (fu_b S n) n).length n r ∧ mfr w w1 [100, 101, 102, 103, 104, 105, 106] [29]) := by
    refine up_loop n (fun i hi9 ih w1 hf h29 hu h7 => ?_)
    refine pm_iload dX5_foresight_60 rfl ?_
    refine pm_aload_n dX5_foresight_62 rfl ?_
    refine pm_getI (ci := 5) (j := 24) (n := 39) (by first | assumption | rfl) (by decide) (by decide) rfl fl_RX5_126 rfl dX5_foresight_63 ?_
    rw [hf.2.1 24 (by decide), hR.2.2.2.2.1]
    refine pm_icmp_ge (tgt := 134) dX5_foresight_66 (by decide) (fun c66 => ?_) (fun c66 => ?_)
    · have he : i = n := by
        rw [nI_leI (by omega) (by omega)] at c66
        omega
      subst he
      refine pm_iconst (x := 0) dX5_foresight_134 rfl ?_
      refine pm_istore (lv' := [some (.ref _), some (.int _), some (.int _), some (.int _), some (.int _), none, none, none, none, none]) dX5_foresight_135 (by decide) rfl ?_
      exact fs_137 hR e4 e5 e6 hsp hv1 hv hp1 hp hlen hn x hd h7 0 (by decide) w1 hf h29 hu (fun s t hs => absurd hs (by omega)) (fun s t hs => absurd hs (by omega)) (fun s hs => absurd hs (by omega))
    · have hlt : i < n := by
        rw [nI_leI (by omega) (by omega)] at c66
        omega
      have hl7 := fu_7 h7
      refine pm_aload_n dX5_foresight_69 rfl ?_
      refine pm_getR (ci := 5) (j := 23) (n := 39) (by first | assumption | rfl) (by decide) (by decide) rfl fl_RX5_56 rfl (by first | assumption | rfl) dX5_foresight_70 ?_
      refine pm_iload dX5_foresight_73 rfl ?_
      refine pm_sipush (x := nI 200) dX5_foresight_75 rfl ?_
      refine pm_irem dX5_foresight_78 (by decide) ?_
      rw [pk_rem (by omega) (by omega) (by omega)]
      refine pm_ialdN (by first | assumption | rfl) (by exact Nat.mod_lt _ (by decide)) (by first | decide | omega) dX5_foresight_79 ?_
      rw [mo_row hR hn hlt (hf.1 99 (by decide) (by decide))]
      refine pm_istore (lv' := [some (.ref _), some (.int _), some (.int _), some (.int _), some (.int _), some (.int _), none, none, none, none]) dX5_foresight_80 (by decide) rfl ?_
      refine pm_aload_n dX5_foresight_82 rfl ?_
      refine pm_iload dX5_foresight_83 rfl ?_
      refine pm_cVi (as := [.int _]) (by first | assumption | rfl) (by decide) rfl ml_RX5_227 (by decide) (Nat.le_of_ble_eq_true rfl) dX5_foresight_85 (c_X5_indexOf h29 hl7 hu _) (fun x1 w1 hq => ?_)
      obtain ⟨rfl, hw9⟩ := hq
      have hw9 := hw9.symm
      subst hw9
      refine pm_aload_n dX5_foresight_88 rfl ?_
      refine pm_getI (ci := 5) (j := 29) (n := 39) (by first | assumption | rfl) (by decide) (by decide) rfl fl_RX5_215 rfl dX5_foresight_89 ?_
      rw [h29]
      refine pm_icmp_ne (tgt := 128) dX5_foresight_92 (by decide) (fun c92 => ?_) (fun c92 => ?_)
      · refine pm_iinc (y := _ + 1) (lv' := [some (.ref _), some (.int _), some (.int _), some (.int _), some (.int _), some (.int _), none, none, none, none]) dX5_foresight_128 rfl rfl (by decide) rfl ?_
        refine pm_goto (tgt := 60) dX5_foresight_131 (by decide) ?_
        refine pm_fg (lv' := [some (.ref _), some (.int _), some (.int _), some (.int _), some (.int _), none, none, none, none, none]) (pm_le_k rfl (pm_le_k rfl (pm_le_k rfl (pm_le_k rfl (pm_le_k rfl (pm_le_n (pm_le_n (pm_le_n (pm_le_n (pm_le_n pm_le_0)))))))))) ?_
        have hx : ¬ fu_i (fu_b S n i) (fu_n (fu_b S n) i) = (fu_n (fu_b S n) i).length := fun e => c92 (by rw [e])
        have he : fu_n (fu_b S n) (i + 1) = fu_n (fu_b S n) i := by rw [fu_n, if_neg hx]
        rw [nI_1, Nat.add_assoc]
        refine ih hlt w1 hf (by rw [he]; exact h29) (by rw [he]; exact hu) (fun j hj => ?_)
        rcases Nat.lt_succ_iff_lt_or_eq.mp hj with q | rfl
        · exact h7 j q
        · have := fu_le (fu_b S n j) (fu_n (fu_b S n) j)
          show fu_i (fu_b S n j) (fu_n (fu_b S n) j) < 7
          omega
      · have hx : fu_x (fu_b S n) i = (fu_n (fu_b S n) i).length := (nI_eq (show fu_i (fu_b S n i) (fu_n (fu_b S n) i) < 2 ^ 31 by have := fu_le (fu_b S n i) (fu_n (fu_b S n) i); omega) (by omega)).mp c92
        refine pm_aload_n dX5_foresight_95 rfl ?_
        refine pm_getI (ci := 5) (j := 29) (n := 39) (by first | assumption | rfl) (by decide) (by decide) rfl fl_RX5_215 rfl dX5_foresight_96 ?_
        rw [h29]
        refine pm_bipush (x := nI 7) dX5_foresight_99 rfl ?_
        refine pm_icmp_ne (tgt := 107) dX5_foresight_101 (by decide) (fun c101 => ?_) (fun c101 => ?_)
        · have hne : ¬ (fu_n (fu_b S n) i).length = 7 := fun e => c101 (by rw [e])
          refine pm_aload_n dX5_foresight_107 rfl ?_
          refine pm_getR (ci := 5) (j := 28) (n := 39) (by first | assumption | rfl) (by decide) (by decide) rfl fl_RX5_63 rfl (by first | assumption | rfl) dX5_foresight_108 ?_
          refine pm_aload_n dX5_foresight_111 rfl ?_
          refine pm_getI (ci := 5) (j := 29) (n := 39) (by first | assumption | rfl) (by decide) (by decide) rfl fl_RX5_215 rfl dX5_foresight_112 ?_
          rw [h29]
          refine pm_iload dX5_foresight_115 rfl ?_
          refine pm_iastN (by first | assumption | rfl) (by omega) (by first | decide | omega) dX5_foresight_117 ?_
          refine pm_aload_n dX5_foresight_118 rfl ?_
          refine pm_dup dX5_foresight_119 rfl ?_
          refine pm_getI (ci := 5) (j := 29) (n := 39) (by first | assumption | rfl) (by decide) (by decide) rfl fl_RX5_215 rfl dX5_foresight_120 ?_
          refine pm_topi (nI (fu_n (fu_b S n) i).length) ((congrFun (pm_s_ne (show (83 : Nat) ≠ 100 by decide)) 29).trans h29) ?_
          refine pm_iconst (x := 1) dX5_foresight_123 rfl ?_
          refine pm_iadd dX5_foresight_124 ?_
          rw [nI_1]
          refine pm_putI (ci := 5) (j := 29) (n := 39) (by first | assumption | rfl) (by decide) (by decide) rfl fl_RX5_215 rfl rfl dX5_foresight_125 ?_
          refine pm_iinc (y := _ + 1) (lv' := [some (.ref _), some (.int _), some (.int _), some (.int _), some (.int _), some (.int _), none, none, none, none]) dX5_foresight_128 rfl rfl (by decide) rfl ?_
          refine pm_goto (tgt := 60) dX5_foresight_131 (by decide) ?_
          refine pm_fg (lv' := [some (.ref _), some (.int _), some (.int _), some (.int _), some (.int _), none, none, none, none, none]) (pm_le_k rfl (pm_le_k rfl (pm_le_k rfl (pm_le_k rfl (pm_le_k rfl (pm_le_n (pm_le_n (pm_le_n (pm_le_n (pm_le_n pm_le_0)))))))))) ?_
          rw [nI_1, Nat.add_assoc]
          refine ih hlt _ (mfr_j (mfr_c hf (by decide) (by decide) _) (by decide) _) ?_ (fu_un2 hu hx rfl) (fun j hj => ?_)
          · rw [pm_s_at, pk_us, fu_lx, if_pos hx]
          · rcases Nat.lt_succ_iff_lt_or_eq.mp hj with q | rfl
            · exact h7 j q
            · omega
        · refine pm_bipush (x := -103) dX5_foresight_104 rfl ?_
          refine pm_iret dX5_foresight_106 rfl ?_
          exact ⟨Or.inl ⟨⟨i, hlt, by rw [hx, (nI_eq (b := 7) (by omega) (by decide)).mp c101]; exact Nat.le_refl _⟩, rfl⟩, hf⟩

set_option maxRecDepth 4000 in
theorem fs_47 {w : pm_W} {S : ab_S} (hR : mo_R w S) {sp v pc n : Nat} (e4 : S.2.2.2.1 4 = nI sp) (e5 : S.2.2.2.1 5 = nI v) (e6 : S.2.2.2.1 6 = nI pc) (hsp : sp ≤ 12) (hv1 : 1 ≤ v) (hv : v ≤ 3) (hp1 : 1 ≤ pc) (hp : pc ≤ 4) (hlen : S.2.2.2.2.length ≤ 1000000) (hn : n ≤ 24 ∧ n ≤ S.2.2.2.2.length) (x hd : Int32) {y : Int32} (hy : y = nI n) : pm_R pm_L0 MX5_foresight 47 [some (.ref 83), some (.int x), some (.int hd), some (.int y), none, none, none, none, none, none] [] w (pm_qi fun r w1 => pf_A S (fu_n (fu_b S n) n).length n r ∧ mfr w w1 [100, 101, 102, 103, 104, 105, 106] [29]) := by
    subst hy
    refine pm_aload_n dX5_foresight_47 rfl ?_
    refine pm_iconst (x := 0) dX5_foresight_48 rfl ?_
    refine pm_putI (ci := 5) (j := 29) (n := 39) (by first | assumption | rfl) (by decide) (by decide) rfl fl_RX5_215 rfl rfl dX5_foresight_49 ?_
    refine pm_aload_n dX5_foresight_52 rfl ?_
    refine pm_getI (ci := 5) (j := 24) (n := 39) (by first | assumption | rfl) (by decide) (by decide) rfl fl_RX5_126 rfl dX5_foresight_53 ?_
    refine pm_topi (nI S.2.2.2.2.length) (by rw [pm_s_at, pk_un (by decide)]; exact hR.2.2.2.2.1) ?_
    refine pm_iload_n dX5_foresight_56 rfl ?_
    refine pm_isub dX5_foresight_57 ?_
    rw [nI_sb hn.2]
    refine pm_istore (lv' := [some (.ref _), some (.int _), some (.int _), some (.int _), some (.int _), none, none, none, none, none]) dX5_foresight_58 (by decide) rfl ?_
    exact fs_60 hR e4 e5 e6 hsp hv1 hv hp1 hp hlen hn x hd 0 (Nat.zero_le _) _ (mfr_j (mfr_rf _ _ _) (by decide) _) (by rw [pm_s_at, pk_us]; rfl) (fun k hk => absurd hk (by simp [fu_n])) (fun j hj => absurd hj (by omega))

/-- What the model's foresight answers. -/
def pu_foreM (S : ab_S) (x r : Int32) : Prop := if pm_bw x 0 24 = true then pf_A S (fu_n (fu_b S (min x.toNatClampNeg S.2.2.2.2.length)) (min x.toNatClampNeg S.2.2.2.2.length)).length (min x.toNatClampNeg S.2.2.2.2.length) r else r = -102
theorem fore_one {S : ab_S} {x r r' : Int32} (h : pu_fore S x r) (k : pu_foreM S x r') : r = r' := by
  unfold pu_fore at h
  unfold pu_foreM at k
  by_cases q : pm_bw x 0 24 = true
  · rw [if_pos q] at h k
    exact (pf_one k h).symm
  · rw [if_neg q] at h k
    rw [h, k]

set_option maxRecDepth 4000 in
theorem c_X5_foresight {w : pm_W} {S : ab_S} (hR : mo_R w S) (hI : ab_I S) (x : Int32) : pm_C pm_L0 MX5_foresight [.ref 83, .int x] w (pm_qi fun r w1 => pu_foreM S x r ∧ mfr w w1 [100, 101, 102, 103, 104, 105, 106] [29]) := by
  obtain ⟨⟨sp, e4, s1, s2, s3⟩, i5, i6, i7, i8, i9, ⟨v, e5, v1, v2⟩, ⟨pc, e6, p1, p2⟩, i12⟩ := id hI
  refine pm_start (lv := [some (.ref _), some (.int _), none, none, none, none, none, none, none, none]) (plainFor_of_name pf5) (Nat.le_of_ble_eq_true rfl) rfl ?_
  refine pm_iload_n dX5_foresight_0 rfl ?_
  refine pm_i2l dX5_foresight_1 ?_
  refine pm_lconst (x := 0) dX5_foresight_2 rfl ?_
  refine pm_ldc2 kc_RX5_225 dX5_foresight_3 ?_
  refine pm_cSi (as := [.long _, .long _, .long _]) ml_RX5_96 (by decide) (Nat.le_of_ble_eq_true rfl) dX5_foresight_6 (c_X5_in (n := x) (a := 0) (b := 24) pm_L0 _ rfl (by decide) (by decide)) (fun x1 w1 hq => ?_)
  obtain ⟨rfl, hw9⟩ := hq
  have hw9 := hw9.symm
  subst hw9
  refine pm_if_ne (tgt := 15) dX5_foresight_9 (by decide) (fun c9 => ?_) (fun c9 => ?_)
  · rw [pm_z_1] at c9
    obtain ⟨k, hk, rfl⟩ := bw_of (n := 24) (by decide) c9
    refine pm_aload_n dX5_foresight_15 rfl ?_
    refine pm_getI (ci := 5) (j := 24) (n := 39) (by first | assumption | rfl) (by decide) (by decide) rfl fl_RX5_126 rfl dX5_foresight_16 ?_
    rw [hR.2.2.2.2.1]
    refine pm_sipush (x := nI 200) dX5_foresight_19 rfl ?_
    refine pm_icmp_ge (tgt := 32) dX5_foresight_22 (by decide) (fun c22 => ?_) (fun c22 => ?_)
    · refine pm_sipush (x := nI 200) dX5_foresight_32 rfl ?_
      refine pm_istore_n (lv' := [some (.ref _), some (.int _), some (.int _), none, none, none, none, none, none, none]) dX5_foresight_35 (by decide) rfl ?_
      first | rw [nI_leI (by omega) (by omega)] at c22 | skip
      refine pm_iload_n dX5_foresight_36 rfl ?_
      refine pm_iload_n dX5_foresight_37 rfl ?_
      refine pm_icmp_ge (tgt := 45) dX5_foresight_38 (by decide) (fun c38 => ?_) (fun c38 => ?_)
      · refine pm_iload_n dX5_foresight_45 rfl ?_
        refine pm_istore_n (lv' := [some (.ref _), some (.int _), some (.int _), some (.int _), none, none, none, none, none, none]) dX5_foresight_46 (by decide) rfl ?_
        rw [nI_leI (by omega) (by omega)] at c38
        have hE : (fun (r : Int32) (w1 : pm_W) => pu_foreM S (nI k) r ∧ mfr w w1 [100, 101, 102, 103, 104, 105, 106] [29]) = (fun r w1 => pf_A S (fu_n (fu_b S (min k S.2.2.2.2.length)) (min k S.2.2.2.2.length)).length (min k S.2.2.2.2.length) r ∧ mfr w w1 [100, 101, 102, 103, 104, 105, 106] [29]) := by
          funext r w1
          rw [pu_foreM, if_pos c9, nI_clamp (by omega)]
        rw [hE]
        exact fs_47 hR e4 e5 e6 s2 v1 v2 p1 p2 i12 (n := min k S.2.2.2.2.length) ⟨by omega, by omega⟩ (nI k) _ (by congr 1; omega)
      · refine pm_iload_n dX5_foresight_41 rfl ?_
        refine pm_goto (tgt := 46) dX5_foresight_42 (by decide) ?_
        refine pm_istore_n (lv' := [some (.ref _), some (.int _), some (.int _), some (.int _), none, none, none, none, none, none]) dX5_foresight_46 (by decide) rfl ?_
        rw [nI_leI (by omega) (by omega)] at c38
        have hE : (fun (r : Int32) (w1 : pm_W) => pu_foreM S (nI k) r ∧ mfr w w1 [100, 101, 102, 103, 104, 105, 106] [29]) = (fun r w1 => pf_A S (fu_n (fu_b S (min k S.2.2.2.2.length)) (min k S.2.2.2.2.length)).length (min k S.2.2.2.2.length) r ∧ mfr w w1 [100, 101, 102, 103, 104, 105, 106] [29]) := by
          funext r w1
          rw [pu_foreM, if_pos c9, nI_clamp (by omega)]
        rw [hE]
        exact fs_47 hR e4 e5 e6 s2 v1 v2 p1 p2 i12 (n := min k S.2.2.2.2.length) ⟨by omega, by omega⟩ (nI k) _ (by congr 1; omega)
    · refine pm_aload_n dX5_foresight_25 rfl ?_
      refine pm_getI (ci := 5) (j := 24) (n := 39) (by first | assumption | rfl) (by decide) (by decide) rfl fl_RX5_126 rfl dX5_foresight_26 ?_
      rw [hR.2.2.2.2.1]
      refine pm_goto (tgt := 35) dX5_foresight_29 (by decide) ?_
      refine pm_istore_n (lv' := [some (.ref _), some (.int _), some (.int _), none, none, none, none, none, none, none]) dX5_foresight_35 (by decide) rfl ?_
      first | rw [nI_leI (by omega) (by omega)] at c22 | skip
      refine pm_iload_n dX5_foresight_36 rfl ?_
      refine pm_iload_n dX5_foresight_37 rfl ?_
      refine pm_icmp_ge (tgt := 45) dX5_foresight_38 (by decide) (fun c38 => ?_) (fun c38 => ?_)
      · refine pm_iload_n dX5_foresight_45 rfl ?_
        refine pm_istore_n (lv' := [some (.ref _), some (.int _), some (.int _), some (.int _), none, none, none, none, none, none]) dX5_foresight_46 (by decide) rfl ?_
        rw [nI_leI (by omega) (by omega)] at c38
        have hE : (fun (r : Int32) (w1 : pm_W) => pu_foreM S (nI k) r ∧ mfr w w1 [100, 101, 102, 103, 104, 105, 106] [29]) = (fun r w1 => pf_A S (fu_n (fu_b S (min k S.2.2.2.2.length)) (min k S.2.2.2.2.length)).length (min k S.2.2.2.2.length) r ∧ mfr w w1 [100, 101, 102, 103, 104, 105, 106] [29]) := by
          funext r w1
          rw [pu_foreM, if_pos c9, nI_clamp (by omega)]
        rw [hE]
        exact fs_47 hR e4 e5 e6 s2 v1 v2 p1 p2 i12 (n := min k S.2.2.2.2.length) ⟨by omega, by omega⟩ (nI k) _ (by congr 1; omega)
      · refine pm_iload_n dX5_foresight_41 rfl ?_
        refine pm_goto (tgt := 46) dX5_foresight_42 (by decide) ?_
        refine pm_istore_n (lv' := [some (.ref _), some (.int _), some (.int _), some (.int _), none, none, none, none, none, none]) dX5_foresight_46 (by decide) rfl ?_
        rw [nI_leI (by omega) (by omega)] at c38
        have hE : (fun (r : Int32) (w1 : pm_W) => pu_foreM S (nI k) r ∧ mfr w w1 [100, 101, 102, 103, 104, 105, 106] [29]) = (fun r w1 => pf_A S (fu_n (fu_b S (min k S.2.2.2.2.length)) (min k S.2.2.2.2.length)).length (min k S.2.2.2.2.length) r ∧ mfr w w1 [100, 101, 102, 103, 104, 105, 106] [29]) := by
          funext r w1
          rw [pu_foreM, if_pos c9, nI_clamp (by omega)]
        rw [hE]
        exact fs_47 hR e4 e5 e6 s2 v1 v2 p1 p2 i12 (n := min k S.2.2.2.2.length) ⟨by omega, by omega⟩ (nI k) _ (by congr 1; omega)
  · refine pm_bipush (x := -102) dX5_foresight_12 rfl ?_
    refine pm_iret dX5_foresight_14 rfl ?_
    rw [pm_z_0] at c9
    rw [pu_foreM, if_neg (by rw [c9]; decide)]
    exact ⟨rfl, mfr_rf _ _ _⟩

