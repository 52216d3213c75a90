theorem fo_Vp {sp v x : Nat} {A : Nat → Nat → Prop} (hA : ∀ s c, A s c → fo_V sp 7 s) {k s c : Nat} (h : fo_p sp 7 v x A k s c) : fo_V sp 7 s := by
  have hs : fo_sim sp 7 v A A := fun s c ha => ⟨hA s c ha, s, c, 0, s, ha, by omega, fo_rf _ _ _ _, fun _ _ h => h, hA s c ha⟩
  exact (fo_sip (x := x) (Nat.le_refl 7) hs k s c h).1
/-- The rooms that have block x. -/
def fo_H (x : Nat) (hl hh : Int64) : Prop := ∀ t, fo_m hl hh t = (decide (t < 128) && t.testBit x)
theorem fo_Hk {x : Nat} (hx : x < 6) : fo_H x (pm_hask x) (pm_hask x) := by
  intro t
  unfold fo_m
  by_cases h : t < 64
  · rw [if_pos h, lb_has x hx t h]
    simp [show t < 128 by omega]
  · rw [if_neg h]
    by_cases h2 : t < 128
    · rw [lb_has x hx _ (by omega), ← fo_tbk x hx _ (by omega), show t - 64 + 64 = t by omega]
      simp [h2]
    · rw [lb_ge (by omega)]
      simp [h2]
theorem fo_H6 : fo_H 6 0 (-1) := by
  intro t
  unfold fo_m
  by_cases h : t < 64
  · rw [if_pos h, lb_0, fo_tb6 t (by omega)]
    simp; omega
  · rw [if_neg h, lb_m1]
    by_cases h2 : t < 128
    · rw [fo_tb6 t h2]
      simp [h2]; omega
    · simp [h2]; omega
/-- The set algebra of one level of the pass. -/
theorem pa_al {x : Nat} {hl hh : Int64} (hH : fo_H x hl hh) (al ah sl sh dl dh tl th : Int64) (t : Nat) :
    (fo_m (((al ||| sl) &&& hl) ||| dl) (((ah ||| sh) &&& hh) ||| dh) t = true ↔ ((fo_m al ah t = true ∨ fo_m sl sh t = true) ∧ t.testBit x = true) ∨ fo_m dl dh t = true) ∧
    (fo_m (((al ||| sl) &&& (hl ^^^ (-1))) &&& (tl ^^^ (-1))) (((ah ||| sh) &&& (hh ^^^ (-1))) &&& (th ^^^ (-1))) t = true ↔ (fo_m al ah t = true ∨ fo_m sl sh t = true) ∧ t.testBit x = false ∧ ¬ fo_m tl th t = true) := by
  rw [fo_mor, fo_mand, fo_mor, fo_mand, fo_mand, fo_mor, fo_mnot, fo_mnot, hH t]
  by_cases h : t < 128
  · simp only [h]
    cases fo_m al ah t <;> cases fo_m sl sh t <;> cases fo_m dl dh t <;> cases fo_m tl th t <;> cases t.testBit x <;> decide
  · have q1 : fo_m al ah t = false := by
      cases z : fo_m al ah t
      · rfl
      · exact absurd (fo_mge z) h
    have q2 : fo_m sl sh t = false := by
      cases z : fo_m sl sh t
      · rfl
      · exact absurd (fo_mge z) h
    rw [q1, q2]
    simp
theorem pa_a2 {x : Nat} {hl hh : Int64} (hH : fo_H x hl hh) (l1 h1 l2 h2 : Int64) (t : Nat) :
    (fo_m (l1 ||| (l2 &&& hl)) (h1 ||| (h2 &&& hh)) t = true ↔ fo_m l1 h1 t = true ∨ (fo_m l2 h2 t = true ∧ t.testBit x = true)) ∧
    (fo_m (l2 &&& (hl ^^^ (-1))) (h2 &&& (hh ^^^ (-1))) t = true ↔ fo_m l2 h2 t = true ∧ t.testBit x = false) := by
  rw [fo_mor, fo_mand, fo_mand, fo_mnot, hH t]
  by_cases h : t < 128
  · simp only [h]
    cases fo_m l1 h1 t <;> cases fo_m l2 h2 t <;> cases t.testBit x <;> decide
  · have q1 : fo_m l2 h2 t = false := by
      cases z : fo_m l2 h2 t
      · rfl
      · exact absurd (fo_mge z) h
    rw [q1]
    simp
theorem im_2 {sp v : Nat} (hv : 1 ≤ v) {a b l1 h1 l2 h2 : Int64} (k : fo_im sp (v - 1) a b l1 h1) (k2 : fo_im sp 1 l1 h1 l2 h2) : fo_im sp v a b l2 h2 := by
  intro t
  rw [k2 t]
  constructor
  · rintro ⟨s, q1, q2⟩
    obtain ⟨s0, q3, q4⟩ := (k s).mp q1
    have := fo_tr q4 q2
    rw [show v - 1 + 1 = v by omega] at this
    exact ⟨s0, q3, this⟩
  · rintro ⟨s0, q1, q2⟩
    rw [show v = v - 1 + 1 by omega] at q2
    obtain ⟨u, q3, q4⟩ := fo_sp q2
    exact ⟨u, (k u).mpr ⟨s0, q1, q3⟩, q4⟩

set_option maxRecDepth 4000 in
theorem pa_56 {w : pm_W} {sp v x n : Nat} {A : Nat → Nat → Prop} (hF : fo_F sp (w.2 28 6) (w.2 28 7)) (h8 : w.1 28 8 = nI v) (hv1 : 1 ≤ v) (hv : v < 1000) (hn : n ≤ 24) (hAV : ∀ s c, A s c → fo_V sp 7 s) (hA : fo_ok n A (fs_F w)) {hl hh : Int64} (hH : fo_H x hl hh) : ∀ c, c ≤ n + 1 → ∀ w1 sl sh dl dh tl th, fs_r w w1 → (∀ j, c ≤ j → w1.2 31 j = w.2 31 j ∧ w1.2 32 j = w.2 32 j) → pa_I sp v x A (fs_F w) c (fun t => fo_m sl sh t = true) (fun t => fo_m dl dh t = true) (fun t => fo_m tl th t = true) (fs_F w1) → pm_R pm_L0 MX1_passAsk 56 [some (.ref 28), some (.int (nI x)), some (.int (nI n)), some (.long hl), none, some (.long hh), none, some (.long sl), none, some (.long sh), none, some (.long dl), none, some (.long dh), none, some (.long tl), none, some (.long th), none, some (.int (nI c)), none, none, none, none] [] w1 (pm_qv fun w1 => fs_r w w1 ∧ fo_ok n (fo_D sp 7 v x A) (fs_F w1)) := by
    refine up_loop (n + 1) (fun c hc9 ih w1 sl sh dl dh tl th hr ho hI => ?_)
    refine pm_iload dX1_passAsk_56 rfl ?_
    refine pm_iload_n dX1_passAsk_58 rfl ?_
    refine pm_icmp_gt (tgt := 253) dX1_passAsk_59 (by decide) (fun c59 => ?_) (fun c59 => ?_)
    · refine pm_vret dX1_passAsk_253 rfl ?_
      have hin : c = n + 1 := by
        rw [nI_ltI (by omega) (by omega)] at c59
        omega
      subst hin
      exact ⟨hr, pa_E hA hI⟩
    · have hlt : c ≤ n := by
        rw [nI_ltI (by omega) (by omega)] at c59
        omega
      obtain ⟨o1, o2⟩ := ho c (Nat.le_refl _)
      refine pm_aload_n dX1_passAsk_62 rfl ?_
      refine pm_getR (ci := 1) (j := 2) (n := 9) (by first | assumption | rfl) (by decide) (by decide) rfl fl_RX1_18 rfl (by first | assumption | rfl) dX1_passAsk_63 ?_
      refine pm_iload dX1_passAsk_66 rfl ?_
      refine pm_laldN (by first | assumption | rfl) (by omega) (by first | decide | omega) dX1_passAsk_68 ?_
      refine pm_lload dX1_passAsk_69 rfl ?_
      refine pm_lor dX1_passAsk_71 ?_
      refine pm_lstore (lv' := [some (.ref _), some (.int _), some (.int _), some (.long _), none, some (.long _), none, some (.long _), none, some (.long _), none, some (.long _), none, some (.long _), none, some (.long _), none, some (.long _), none, some (.int _), some (.long _), none, none, none]) dX1_passAsk_72 (by decide) rfl ?_
      refine pm_aload_n dX1_passAsk_74 rfl ?_
      refine pm_getR (ci := 1) (j := 3) (n := 9) (by first | assumption | rfl) (by decide) (by decide) rfl fl_RX1_22 rfl (by first | assumption | rfl) dX1_passAsk_75 ?_
      refine pm_iload dX1_passAsk_78 rfl ?_
      refine pm_laldN (by first | assumption | rfl) (by omega) (by first | decide | omega) dX1_passAsk_80 ?_
      refine pm_lload dX1_passAsk_81 rfl ?_
      refine pm_lor dX1_passAsk_83 ?_
      refine pm_lstore (lv' := [some (.ref _), some (.int _), some (.int _), some (.long _), none, some (.long _), none, some (.long _), none, some (.long _), none, some (.long _), none, some (.long _), none, some (.long _), none, some (.long _), none, some (.int _), some (.long _), none, some (.long _), none]) dX1_passAsk_84 (by decide) rfl ?_
      refine pm_aload_n dX1_passAsk_86 rfl ?_
      refine pm_getR (ci := 1) (j := 2) (n := 9) (by first | assumption | rfl) (by decide) (by decide) rfl fl_RX1_18 rfl (by first | assumption | rfl) dX1_passAsk_87 ?_
      refine pm_iload dX1_passAsk_90 rfl ?_
      refine pm_lload dX1_passAsk_92 rfl ?_
      refine pm_lload_n dX1_passAsk_94 rfl ?_
      refine pm_land dX1_passAsk_95 ?_
      refine pm_lload dX1_passAsk_96 rfl ?_
      refine pm_lor dX1_passAsk_98 ?_
      refine pm_lastN (by first | assumption | rfl) (by omega) (by first | decide | omega) dX1_passAsk_99 ?_
      refine pm_aload_n dX1_passAsk_100 rfl ?_
      refine pm_getR (ci := 1) (j := 3) (n := 9) (by first | assumption | rfl) (by decide) (by decide) rfl fl_RX1_22 rfl (by first | assumption | rfl) dX1_passAsk_101 ?_
      refine pm_iload dX1_passAsk_104 rfl ?_
      refine pm_lload dX1_passAsk_106 rfl ?_
      refine pm_lload dX1_passAsk_108 rfl ?_
      refine pm_land dX1_passAsk_110 ?_
      refine pm_lload dX1_passAsk_111 rfl ?_
      refine pm_lor dX1_passAsk_113 ?_
      refine pm_lastN (by first | assumption | rfl) (by omega) (by first | decide | omega) dX1_passAsk_114 ?_
      refine pm_aload_n dX1_passAsk_115 rfl ?_
      refine pm_lload dX1_passAsk_116 rfl ?_
      refine pm_lload_n dX1_passAsk_118 rfl ?_
      refine pm_ldc2 kc_RX1_90 dX1_passAsk_119 ?_
      refine pm_lxor dX1_passAsk_122 ?_
      refine pm_land dX1_passAsk_123 ?_
      refine pm_lload dX1_passAsk_124 rfl ?_
      refine pm_ldc2 kc_RX1_90 dX1_passAsk_126 ?_
      refine pm_lxor dX1_passAsk_129 ?_
      refine pm_land dX1_passAsk_130 ?_
      refine pm_putL (ci := 1) (j := 4) (n := 9) (by first | assumption | rfl) (by decide) (by decide) rfl fl_RX1_92 rfl rfl dX1_passAsk_131 ?_
      refine pm_aload_n dX1_passAsk_134 rfl ?_
      refine pm_lload dX1_passAsk_135 rfl ?_
      refine pm_lload dX1_passAsk_137 rfl ?_
      refine pm_ldc2 kc_RX1_90 dX1_passAsk_139 ?_
      refine pm_lxor dX1_passAsk_142 ?_
      refine pm_land dX1_passAsk_143 ?_
      refine pm_lload dX1_passAsk_144 rfl ?_
      refine pm_ldc2 kc_RX1_90 dX1_passAsk_146 ?_
      refine pm_lxor dX1_passAsk_149 ?_
      refine pm_land dX1_passAsk_150 ?_
      refine pm_putL (ci := 1) (j := 5) (n := 9) (by first | assumption | rfl) (by decide) (by decide) rfl fl_RX1_95 rfl rfl dX1_passAsk_151 ?_
      have hk : fs_k (fs_w w1 c ((w1.2 31 c ||| sl) &&& hl ||| dl) ((w1.2 32 c ||| sh) &&& hh ||| dh)) _ (((w1.2 31 c ||| sl) &&& (hl ^^^ (-1))) &&& (tl ^^^ (-1))) (((w1.2 32 c ||| sh) &&& (hh ^^^ (-1))) &&& (th ^^^ (-1))) := fs_5 (fs_4 (fs_rf (fs_w w1 c ((w1.2 31 c ||| sl) &&& hl ||| dl) ((w1.2 32 c ||| sh) &&& hh ||| dh))) (((w1.2 31 c ||| sl) &&& (hl ^^^ (-1))) &&& (tl ^^^ (-1)))) (((w1.2 32 c ||| sh) &&& (hh ^^^ (-1))) &&& (th ^^^ (-1)))
      have hal := fun t => pa_al hH (w1.2 31 c) (w1.2 32 c) sl sh dl dh tl th t
      have hL : ∀ t, fo_m (w1.2 31 c) (w1.2 32 c) t = true ↔ fs_F w c t := fun t => by rw [o1, o2]; exact Iff.rfl
      have hlwV : ∀ t, fo_m (((w1.2 31 c ||| sl) &&& (hl ^^^ (-1))) &&& (tl ^^^ (-1))) (((w1.2 32 c ||| sh) &&& (hh ^^^ (-1))) &&& (th ^^^ (-1))) t = true → fo_V sp 7 t := by
        intro t ht
        obtain ⟨h1 | h1, -, -⟩ := (hal t).2.mp ht
        · exact hAV t c (hA.1 c hlt t ((hL t).mp h1))
        · obtain ⟨-, -, i2, -⟩ := hI
          obtain ⟨⟨k, hk2⟩, -⟩ := i2 t h1
          exact fo_Vp hAV hk2
      refine pm_lload dX1_passAsk_154 rfl ?_
      refine pm_aload_n dX1_passAsk_156 rfl ?_
      refine pm_getL (ci := 1) (j := 4) (n := 9) (by first | assumption | rfl) (by decide) (by decide) rfl fl_RX1_92 rfl dX1_passAsk_157 ?_
      refine pm_topl (((w1.2 31 c ||| sl) &&& (hl ^^^ (-1))) &&& (tl ^^^ (-1))) hk.2.2.1 ?_
      refine pm_lor dX1_passAsk_160 ?_
      refine pm_lstore (lv' := [some (.ref _), some (.int _), some (.int _), some (.long _), none, some (.long _), none, some (.long _), none, some (.long _), none, some (.long _), none, some (.long _), none, some (.long _), none, some (.long _), none, some (.int _), some (.long _), none, some (.long _), none]) dX1_passAsk_161 (by decide) rfl ?_
      refine pm_lload dX1_passAsk_163 rfl ?_
      refine pm_aload_n dX1_passAsk_165 rfl ?_
      refine pm_getL (ci := 1) (j := 5) (n := 9) (by first | assumption | rfl) (by decide) (by decide) rfl fl_RX1_95 rfl dX1_passAsk_166 ?_
      refine pm_topl (((w1.2 32 c ||| sh) &&& (hh ^^^ (-1))) &&& (th ^^^ (-1))) hk.2.2.2.1 ?_
      refine pm_lor dX1_passAsk_169 ?_
      refine pm_lstore (lv' := [some (.ref _), some (.int _), some (.int _), some (.long _), none, some (.long _), none, some (.long _), none, some (.long _), none, some (.long _), none, some (.long _), none, some (.long _), none, some (.long _), none, some (.int _), some (.long _), none, some (.long _), none]) dX1_passAsk_170 (by decide) rfl ?_
      refine pm_aload_n dX1_passAsk_172 rfl ?_
      refine pm_aload_n dX1_passAsk_173 rfl ?_
      refine pm_getI (ci := 1) (j := 8) (n := 9) (by first | assumption | rfl) (by decide) (by decide) rfl fl_RX1_35 rfl dX1_passAsk_174 ?_
      refine pm_iconst (x := 1) dX1_passAsk_177 rfl ?_
      refine pm_isub dX1_passAsk_178 ?_
      refine pm_topi (nI (v - 1)) (by rw [show ∀ y : Int32, (y = nI v) → y - 1 = nI (v - 1) from fun y hy => by rw [hy]; obtain ⟨v0, rfl⟩ : ∃ v0, v = v0 + 1 := ⟨v - 1, by omega⟩; exact nI_pred v0]; exact (congrFun (congrFun hr.1 28) 8).trans h8) ?_
      refine pm_cVv (as := [.int _]) (by first | assumption | rfl) (by decide) rfl ml_RX1_98 (by decide) (Nat.le_of_ble_eq_true rfl) dX1_passAsk_179 (up_k hk (sp := sp) (by rw [(fs_wr w1 c _ _).2.2.1, (fs_wr w1 c _ _).2.2.2, hr.2.2.1, hr.2.2.2]; exact hF) hlwV (by omega)) (fun w2 hq => ?_)
      obtain ⟨lo1, hi1, hq1, him1⟩ := hq
      refine pm_aload_n dX1_passAsk_182 rfl ?_
      refine pm_getL (ci := 1) (j := 4) (n := 9) (by first | assumption | rfl) (by decide) (by decide) rfl fl_RX1_92 rfl dX1_passAsk_183 ?_
      refine pm_topl lo1 hq1.2.2.1 ?_
      refine pm_lstore (lv' := [some (.ref _), some (.int _), some (.int _), some (.long _), none, some (.long _), none, some (.long _), none, some (.long _), none, some (.long _), none, some (.long _), none, some (.long _), none, some (.long _), none, some (.int _), some (.long _), none, some (.long _), none]) dX1_passAsk_186 (by decide) rfl ?_
      refine pm_aload_n dX1_passAsk_188 rfl ?_
      refine pm_getL (ci := 1) (j := 5) (n := 9) (by first | assumption | rfl) (by decide) (by decide) rfl fl_RX1_95 rfl dX1_passAsk_189 ?_
      refine pm_topl hi1 hq1.2.2.2.1 ?_
      refine pm_lstore (lv' := [some (.ref _), some (.int _), some (.int _), some (.long _), none, some (.long _), none, some (.long _), none, some (.long _), none, some (.long _), none, some (.long _), none, some (.long _), none, some (.long _), none, some (.int _), some (.long _), none, some (.long _), none]) dX1_passAsk_192 (by decide) rfl ?_
      refine pm_aload_n dX1_passAsk_194 rfl ?_
      refine pm_iconst (x := nI 1) dX1_passAsk_195 rfl ?_
      refine pm_cVv (as := [.int _]) (by first | assumption | rfl) (by decide) rfl ml_RX1_98 (by decide) (Nat.le_of_ble_eq_true rfl) dX1_passAsk_196 (up_k hq1 (sp := sp) (by rw [(fs_wr w1 c _ _).2.2.1, (fs_wr w1 c _ _).2.2.2, hr.2.2.1, hr.2.2.2]; exact hF) (fun r hh2 => by obtain ⟨s, a, b⟩ := (him1 r).mp hh2; exact fo_Vsn (Nat.le_refl 7) (hlwV s a) b) (by decide)) (fun w3 hq => ?_)
      obtain ⟨lo2, hi2, hq2, him2⟩ := hq
      have him := im_2 hv1 him1 him2
      refine pm_lload dX1_passAsk_199 rfl ?_
      refine pm_aload_n dX1_passAsk_201 rfl ?_
      refine pm_getL (ci := 1) (j := 4) (n := 9) (by first | assumption | rfl) (by decide) (by decide) rfl fl_RX1_92 rfl dX1_passAsk_202 ?_
      refine pm_topl lo2 hq2.2.2.1 ?_
      refine pm_lload_n dX1_passAsk_205 rfl ?_
      refine pm_land dX1_passAsk_206 ?_
      refine pm_lor dX1_passAsk_207 ?_
      refine pm_lstore (lv' := [some (.ref _), some (.int _), some (.int _), some (.long _), none, some (.long _), none, some (.long _), none, some (.long _), none, some (.long _), none, some (.long _), none, some (.long _), none, some (.long _), none, some (.int _), some (.long _), none, some (.long _), none]) dX1_passAsk_208 (by decide) rfl ?_
      refine pm_lload dX1_passAsk_210 rfl ?_
      refine pm_aload_n dX1_passAsk_212 rfl ?_
      refine pm_getL (ci := 1) (j := 5) (n := 9) (by first | assumption | rfl) (by decide) (by decide) rfl fl_RX1_95 rfl dX1_passAsk_213 ?_
      refine pm_topl hi2 hq2.2.2.2.1 ?_
      refine pm_lload dX1_passAsk_216 rfl ?_
      refine pm_land dX1_passAsk_218 ?_
      refine pm_lor dX1_passAsk_219 ?_
      refine pm_lstore (lv' := [some (.ref _), some (.int _), some (.int _), some (.long _), none, some (.long _), none, some (.long _), none, some (.long _), none, some (.long _), none, some (.long _), none, some (.long _), none, some (.long _), none, some (.int _), some (.long _), none, some (.long _), none]) dX1_passAsk_220 (by decide) rfl ?_
      refine pm_aload_n dX1_passAsk_222 rfl ?_
      refine pm_getL (ci := 1) (j := 4) (n := 9) (by first | assumption | rfl) (by decide) (by decide) rfl fl_RX1_92 rfl dX1_passAsk_223 ?_
      refine pm_topl lo2 hq2.2.2.1 ?_
      refine pm_lload_n dX1_passAsk_226 rfl ?_
      refine pm_ldc2 kc_RX1_90 dX1_passAsk_227 ?_
      refine pm_lxor dX1_passAsk_230 ?_
      refine pm_land dX1_passAsk_231 ?_
      refine pm_lstore (lv' := [some (.ref _), some (.int _), some (.int _), some (.long _), none, some (.long _), none, some (.long _), none, some (.long _), none, some (.long _), none, some (.long _), none, some (.long _), none, some (.long _), none, some (.int _), some (.long _), none, some (.long _), none]) dX1_passAsk_232 (by decide) rfl ?_
      refine pm_aload_n dX1_passAsk_234 rfl ?_
      refine pm_getL (ci := 1) (j := 5) (n := 9) (by first | assumption | rfl) (by decide) (by decide) rfl fl_RX1_95 rfl dX1_passAsk_235 ?_
      refine pm_topl hi2 hq2.2.2.2.1 ?_
      refine pm_lload dX1_passAsk_238 rfl ?_
      refine pm_ldc2 kc_RX1_90 dX1_passAsk_240 ?_
      refine pm_lxor dX1_passAsk_243 ?_
      refine pm_land dX1_passAsk_244 ?_
      refine pm_lstore (lv' := [some (.ref _), some (.int _), some (.int _), some (.long _), none, some (.long _), none, some (.long _), none, some (.long _), none, some (.long _), none, some (.long _), none, some (.long _), none, some (.long _), none, some (.int _), some (.long _), none, some (.long _), none]) dX1_passAsk_245 (by decide) rfl ?_
      refine pm_iinc (y := _ + 1) (lv' := [some (.ref _), some (.int _), some (.int _), some (.long _), none, some (.long _), none, some (.long _), none, some (.long _), none, some (.long _), none, some (.long _), none, some (.long _), none, some (.long _), none, some (.int _), some (.long _), none, some (.long _), none]) dX1_passAsk_247 rfl rfl (by decide) rfl ?_
      refine pm_goto (tgt := 56) dX1_passAsk_250 (by decide) ?_
      refine pm_fg (lv' := [some (.ref _), some (.int _), some (.int _), some (.long _), none, some (.long _), none, some (.long _), none, some (.long _), none, some (.long _), none, some (.long _), none, some (.long _), none, some (.long _), none, some (.int _), none, none, none, none]) (pm_le_k rfl (pm_le_k rfl (pm_le_k rfl (pm_le_k rfl (pm_le_n (pm_le_k rfl (pm_le_n (pm_le_k rfl (pm_le_n (pm_le_k rfl (pm_le_n (pm_le_k rfl (pm_le_n (pm_le_k rfl (pm_le_n (pm_le_k rfl (pm_le_n (pm_le_k rfl (pm_le_n (pm_le_k rfl (pm_le_n (pm_le_n (pm_le_n (pm_le_n pm_le_0)))))))))))))))))))))))) ?_
      rw [nI_1]
      have ha2 := fun t => pa_a2 hH lo1 hi1 lo2 hi2 t
      have hkj := fun j => fs_kj hq2 j
      refine ih (by omega) w3 _ _ _ _ _ _ (fr_rt hr (fr_rt (fs_wr _ _ _ _) (fr_rk hq2))) (fun j hj => ?_) (pa_S (hA.1 c hlt) hI (lw := fun t => fo_m (((w1.2 31 c ||| sl) &&& (hl ^^^ (-1))) &&& (tl ^^^ (-1))) (((w1.2 32 c ||| sh) &&& (hh ^^^ (-1))) &&& (th ^^^ (-1))) t = true) (fun j hj t => ?_) (fun t => ?_) (fun t => ?_) (fun t => ?_) (fun t => ?_) (fun t => ?_))
      · obtain ⟨z1, z2⟩ := fs_wj w1 (show ¬ j = c by omega) ((w1.2 31 c ||| sl) &&& hl ||| dl) ((w1.2 32 c ||| sh) &&& hh ||| dh)
        rw [(hkj j).1, (hkj j).2, z1, z2]
        exact ho j (by omega)
      · obtain ⟨z1, z2⟩ := fs_wj w1 (show ¬ j = c by omega) ((w1.2 31 c ||| sl) &&& hl ||| dl) ((w1.2 32 c ||| sh) &&& hh ||| dh)
        rw [fs_F, (hkj j).1, (hkj j).2, z1, z2]
        exact Iff.rfl
      · rw [← hL t, fs_F, (hkj c).1, (hkj c).2]
        exact (fs_wi w1 c ((w1.2 31 c ||| sl) &&& hl ||| dl) ((w1.2 32 c ||| sh) &&& hh ||| dh) t).trans (hal t).1
      · rw [← hL t]
        exact (hal t).2
      · rw [fo_mor, Bool.or_eq_true]
      · rw [(ha2 t).1, him1 t, him t]
      · rw [(ha2 t).2, him t]

set_option maxRecDepth 4000 in
theorem c_X1_passAsk {w : pm_W} {sp v x n : Nat} {A : Nat → Nat → Prop} (hF : fo_F sp (w.2 28 6) (w.2 28 7)) (h8 : w.1 28 8 = nI v) (hv1 : 1 ≤ v) (hv : v < 1000) (hn : n ≤ 24) (hx : x < 7) (hAV : ∀ s c, A s c → fo_V sp 7 s) (hA : fo_ok n A (fs_F w)) : pm_C pm_L0 MX1_passAsk [.ref 28, .int (nI x), .int (nI n)] w (pm_qv fun w1 => fs_r w w1 ∧ fo_ok n (fo_D sp 7 v x A) (fs_F w1)) := by
  refine pm_start (lv := [some (.ref _), some (.int _), some (.int _), none, none, none, none, none, none, none, none, none, none, none, none, none, none, none, none, none, none, none, none, none]) (plainFor_of_name pf1) (Nat.le_of_ble_eq_true rfl) rfl ?_
  refine pm_iload_n dX1_passAsk_0 rfl ?_
  refine pm_bipush (x := nI 6) dX1_passAsk_1 rfl ?_
  refine pm_icmp_ge (tgt := 14) dX1_passAsk_3 (by decide) (fun c3 => ?_) (fun c3 => ?_)
  · have hx6 : x = 6 := by
      rw [nI_leI (by omega) (by omega)] at c3
      omega
    subst hx6
    refine pm_lconst (x := 0) dX1_passAsk_14 rfl ?_
    refine pm_lstore_n (lv' := [some (.ref _), some (.int _), some (.int _), some (.long _), none, none, none, none, none, none, none, none, none, none, none, none, none, none, none, none, none, none, none, none]) dX1_passAsk_15 (by decide) rfl ?_
    refine pm_iload_n dX1_passAsk_16 rfl ?_
    refine pm_bipush (x := nI 6) dX1_passAsk_17 rfl ?_
    refine pm_icmp_ge (tgt := 30) dX1_passAsk_19 (by decide) (fun c19 => ?_) (fun c19 => ?_)
    · refine pm_ldc2 kc_RX1_90 dX1_passAsk_30 ?_
      refine pm_lstore (lv' := [some (.ref _), some (.int _), some (.int _), some (.long _), none, some (.long _), none, none, none, none, none, none, none, none, none, none, none, none, none, none, none, none, none, none]) dX1_passAsk_33 (by decide) rfl ?_
      refine pm_lconst (x := 0) dX1_passAsk_35 rfl ?_
      refine pm_lstore (lv' := [some (.ref _), some (.int _), some (.int _), some (.long _), none, some (.long _), none, some (.long _), none, none, none, none, none, none, none, none, none, none, none, none, none, none, none, none]) dX1_passAsk_36 (by decide) rfl ?_
      refine pm_lconst (x := 0) dX1_passAsk_38 rfl ?_
      refine pm_lstore (lv' := [some (.ref _), some (.int _), some (.int _), some (.long _), none, some (.long _), none, some (.long _), none, some (.long _), none, none, none, none, none, none, none, none, none, none, none, none, none, none]) dX1_passAsk_39 (by decide) rfl ?_
      refine pm_lconst (x := 0) dX1_passAsk_41 rfl ?_
      refine pm_lstore (lv' := [some (.ref _), some (.int _), some (.int _), some (.long _), none, some (.long _), none, some (.long _), none, some (.long _), none, some (.long _), none, none, none, none, none, none, none, none, none, none, none, none]) dX1_passAsk_42 (by decide) rfl ?_
      refine pm_lconst (x := 0) dX1_passAsk_44 rfl ?_
      refine pm_lstore (lv' := [some (.ref _), some (.int _), some (.int _), some (.long _), none, some (.long _), none, some (.long _), none, some (.long _), none, some (.long _), none, some (.long _), none, none, none, none, none, none, none, none, none, none]) dX1_passAsk_45 (by decide) rfl ?_
      refine pm_lconst (x := 0) dX1_passAsk_47 rfl ?_
      refine pm_lstore (lv' := [some (.ref _), some (.int _), some (.int _), some (.long _), none, some (.long _), none, some (.long _), none, some (.long _), none, some (.long _), none, some (.long _), none, some (.long _), none, none, none, none, none, none, none, none]) dX1_passAsk_48 (by decide) rfl ?_
      refine pm_lconst (x := 0) dX1_passAsk_50 rfl ?_
      refine pm_lstore (lv' := [some (.ref _), some (.int _), some (.int _), some (.long _), none, some (.long _), none, some (.long _), none, some (.long _), none, some (.long _), none, some (.long _), none, some (.long _), none, some (.long _), none, none, none, none, none, none]) dX1_passAsk_51 (by decide) rfl ?_
      refine pm_iconst (x := 0) dX1_passAsk_53 rfl ?_
      refine pm_istore (lv' := [some (.ref _), some (.int _), some (.int _), some (.long _), none, some (.long _), none, some (.long _), none, some (.long _), none, some (.long _), none, some (.long _), none, some (.long _), none, some (.long _), none, some (.int _), none, none, none, none]) dX1_passAsk_54 (by decide) rfl ?_
      exact pa_56 hF h8 hv1 hv hn hAV hA fo_H6 0 (Nat.zero_le _) w 0 0 0 0 0 0 (fr_r0 w) (fun j _ => ⟨rfl, rfl⟩) (pa_0 _ _ _ _ _ _ (fun t => by rw [fo_m00]; decide) (fun t => by rw [fo_m00]; decide) (fun t => by rw [fo_m00]; decide))
    · refine pm_gets_HAS fl_RX1_87 dX1_passAsk_22 ?_
      refine pm_iload_n dX1_passAsk_25 rfl ?_
      refine pm_lald_HASN (by first | omega | exact absurd (Int32.le_refl _) c19) dX1_passAsk_26 ?_
      refine pm_goto (tgt := 33) dX1_passAsk_27 (by decide) ?_
      refine pm_lstore (lv' := [some (.ref _), some (.int _), some (.int _), some (.long _), none, some (.long _), none, none, none, none, none, none, none, none, none, none, none, none, none, none, none, none, none, none]) dX1_passAsk_33 (by decide) rfl ?_
      refine pm_lconst (x := 0) dX1_passAsk_35 rfl ?_
      refine pm_lstore (lv' := [some (.ref _), some (.int _), some (.int _), some (.long _), none, some (.long _), none, some (.long _), none, none, none, none, none, none, none, none, none, none, none, none, none, none, none, none]) dX1_passAsk_36 (by decide) rfl ?_
      refine pm_lconst (x := 0) dX1_passAsk_38 rfl ?_
      refine pm_lstore (lv' := [some (.ref _), some (.int _), some (.int _), some (.long _), none, some (.long _), none, some (.long _), none, some (.long _), none, none, none, none, none, none, none, none, none, none, none, none, none, none]) dX1_passAsk_39 (by decide) rfl ?_
      refine pm_lconst (x := 0) dX1_passAsk_41 rfl ?_
      refine pm_lstore (lv' := [some (.ref _), some (.int _), some (.int _), some (.long _), none, some (.long _), none, some (.long _), none, some (.long _), none, some (.long _), none, none, none, none, none, none, none, none, none, none, none, none]) dX1_passAsk_42 (by decide) rfl ?_
      refine pm_lconst (x := 0) dX1_passAsk_44 rfl ?_
      refine pm_lstore (lv' := [some (.ref _), some (.int _), some (.int _), some (.long _), none, some (.long _), none, some (.long _), none, some (.long _), none, some (.long _), none, some (.long _), none, none, none, none, none, none, none, none, none, none]) dX1_passAsk_45 (by decide) rfl ?_
      refine pm_lconst (x := 0) dX1_passAsk_47 rfl ?_
      refine pm_lstore (lv' := [some (.ref _), some (.int _), some (.int _), some (.long _), none, some (.long _), none, some (.long _), none, some (.long _), none, some (.long _), none, some (.long _), none, some (.long _), none, none, none, none, none, none, none, none]) dX1_passAsk_48 (by decide) rfl ?_
      refine pm_lconst (x := 0) dX1_passAsk_50 rfl ?_
      refine pm_lstore (lv' := [some (.ref _), some (.int _), some (.int _), some (.long _), none, some (.long _), none, some (.long _), none, some (.long _), none, some (.long _), none, some (.long _), none, some (.long _), none, some (.long _), none, none, none, none, none, none]) dX1_passAsk_51 (by decide) rfl ?_
      refine pm_iconst (x := 0) dX1_passAsk_53 rfl ?_
      refine pm_istore (lv' := [some (.ref _), some (.int _), some (.int _), some (.long _), none, some (.long _), none, some (.long _), none, some (.long _), none, some (.long _), none, some (.long _), none, some (.long _), none, some (.long _), none, some (.int _), none, none, none, none]) dX1_passAsk_54 (by decide) rfl ?_
      exact absurd (Int32.le_refl _) c19
  · have hx6 : x < 6 := by
      rw [nI_leI (by omega) (by omega)] at c3
      omega
    refine pm_gets_HAS fl_RX1_87 dX1_passAsk_6 ?_
    refine pm_iload_n dX1_passAsk_9 rfl ?_
    refine pm_lald_HASN (by omega) dX1_passAsk_10 ?_
    refine pm_goto (tgt := 15) dX1_passAsk_11 (by decide) ?_
    refine pm_lstore_n (lv' := [some (.ref _), some (.int _), some (.int _), some (.long _), none, none, none, none, none, none, none, none, none, none, none, none, none, none, none, none, none, none, none, none]) dX1_passAsk_15 (by decide) rfl ?_
    refine pm_iload_n dX1_passAsk_16 rfl ?_
    refine pm_bipush (x := nI 6) dX1_passAsk_17 rfl ?_
    refine pm_icmp_ge (tgt := 30) dX1_passAsk_19 (by decide) (fun c19 => ?_) (fun c19 => ?_)
    · refine pm_ldc2 kc_RX1_90 dX1_passAsk_30 ?_
      refine pm_lstore (lv' := [some (.ref _), some (.int _), some (.int _), some (.long _), none, some (.long _), none, none, none, none, none, none, none, none, none, none, none, none, none, none, none, none, none, none]) dX1_passAsk_33 (by decide) rfl ?_
      refine pm_lconst (x := 0) dX1_passAsk_35 rfl ?_
      refine pm_lstore (lv' := [some (.ref _), some (.int _), some (.int _), some (.long _), none, some (.long _), none, some (.long _), none, none, none, none, none, none, none, none, none, none, none, none, none, none, none, none]) dX1_passAsk_36 (by decide) rfl ?_
      refine pm_lconst (x := 0) dX1_passAsk_38 rfl ?_
      refine pm_lstore (lv' := [some (.ref _), some (.int _), some (.int _), some (.long _), none, some (.long _), none, some (.long _), none, some (.long _), none, none, none, none, none, none, none, none, none, none, none, none, none, none]) dX1_passAsk_39 (by decide) rfl ?_
      refine pm_lconst (x := 0) dX1_passAsk_41 rfl ?_
      refine pm_lstore (lv' := [some (.ref _), some (.int _), some (.int _), some (.long _), none, some (.long _), none, some (.long _), none, some (.long _), none, some (.long _), none, none, none, none, none, none, none, none, none, none, none, none]) dX1_passAsk_42 (by decide) rfl ?_
      refine pm_lconst (x := 0) dX1_passAsk_44 rfl ?_
      refine pm_lstore (lv' := [some (.ref _), some (.int _), some (.int _), some (.long _), none, some (.long _), none, some (.long _), none, some (.long _), none, some (.long _), none, some (.long _), none, none, none, none, none, none, none, none, none, none]) dX1_passAsk_45 (by decide) rfl ?_
      refine pm_lconst (x := 0) dX1_passAsk_47 rfl ?_
      refine pm_lstore (lv' := [some (.ref _), some (.int _), some (.int _), some (.long _), none, some (.long _), none, some (.long _), none, some (.long _), none, some (.long _), none, some (.long _), none, some (.long _), none, none, none, none, none, none, none, none]) dX1_passAsk_48 (by decide) rfl ?_
      refine pm_lconst (x := 0) dX1_passAsk_50 rfl ?_
      refine pm_lstore (lv' := [some (.ref _), some (.int _), some (.int _), some (.long _), none, some (.long _), none, some (.long _), none, some (.long _), none, some (.long _), none, some (.long _), none, some (.long _), none, some (.long _), none, none, none, none, none, none]) dX1_passAsk_51 (by decide) rfl ?_
      refine pm_iconst (x := 0) dX1_passAsk_53 rfl ?_
      refine pm_istore (lv' := [some (.ref _), some (.int _), some (.int _), some (.long _), none, some (.long _), none, some (.long _), none, some (.long _), none, some (.long _), none, some (.long _), none, some (.long _), none, some (.long _), none, some (.int _), none, none, none, none]) dX1_passAsk_54 (by decide) rfl ?_
      exact absurd hx6 (by rw [nI_leI (by omega) (by omega)] at c19; omega)
    · refine pm_gets_HAS fl_RX1_87 dX1_passAsk_22 ?_
      refine pm_iload_n dX1_passAsk_25 rfl ?_
      refine pm_lald_HASN (by first | omega | exact absurd (Int32.le_refl _) c19) dX1_passAsk_26 ?_
      refine pm_goto (tgt := 33) dX1_passAsk_27 (by decide) ?_
      refine pm_lstore (lv' := [some (.ref _), some (.int _), some (.int _), some (.long _), none, some (.long _), none, none, none, none, none, none, none, none, none, none, none, none, none, none, none, none, none, none]) dX1_passAsk_33 (by decide) rfl ?_
      refine pm_lconst (x := 0) dX1_passAsk_35 rfl ?_
      refine pm_lstore (lv' := [some (.ref _), some (.int _), some (.int _), some (.long _), none, some (.long _), none, some (.long _), none, none, none, none, none, none, none, none, none, none, none, none, none, none, none, none]) dX1_passAsk_36 (by decide) rfl ?_
      refine pm_lconst (x := 0) dX1_passAsk_38 rfl ?_
      refine pm_lstore (lv' := [some (.ref _), some (.int _), some (.int _), some (.long _), none, some (.long _), none, some (.long _), none, some (.long _), none, none, none, none, none, none, none, none, none, none, none, none, none, none]) dX1_passAsk_39 (by decide) rfl ?_
      refine pm_lconst (x := 0) dX1_passAsk_41 rfl ?_
      refine pm_lstore (lv' := [some (.ref _), some (.int _), some (.int _), some (.long _), none, some (.long _), none, some (.long _), none, some (.long _), none, some (.long _), none, none, none, none, none, none, none, none, none, none, none, none]) dX1_passAsk_42 (by decide) rfl ?_
      refine pm_lconst (x := 0) dX1_passAsk_44 rfl ?_
      refine pm_lstore (lv' := [some (.ref _), some (.int _), some (.int _), some (.long _), none, some (.long _), none, some (.long _), none, some (.long _), none, some (.long _), none, some (.long _), none, none, none, none, none, none, none, none, none, none]) dX1_passAsk_45 (by decide) rfl ?_
      refine pm_lconst (x := 0) dX1_passAsk_47 rfl ?_
      refine pm_lstore (lv' := [some (.ref _), some (.int _), some (.int _), some (.long _), none, some (.long _), none, some (.long _), none, some (.long _), none, some (.long _), none, some (.long _), none, some (.long _), none, none, none, none, none, none, none, none]) dX1_passAsk_48 (by decide) rfl ?_
      refine pm_lconst (x := 0) dX1_passAsk_50 rfl ?_
      refine pm_lstore (lv' := [some (.ref _), some (.int _), some (.int _), some (.long _), none, some (.long _), none, some (.long _), none, some (.long _), none, some (.long _), none, some (.long _), none, some (.long _), none, some (.long _), none, none, none, none, none, none]) dX1_passAsk_51 (by decide) rfl ?_
      refine pm_iconst (x := 0) dX1_passAsk_53 rfl ?_
      refine pm_istore (lv' := [some (.ref _), some (.int _), some (.int _), some (.long _), none, some (.long _), none, some (.long _), none, some (.long _), none, some (.long _), none, some (.long _), none, some (.long _), none, some (.long _), none, some (.int _), none, none, none, none]) dX1_passAsk_54 (by decide) rfl ?_
      exact pa_56 hF h8 hv1 hv hn hAV hA (fo_Hk hx6) 0 (Nat.zero_le _) w 0 0 0 0 0 0 (fr_r0 w) (fun j _ => ⟨rfl, rfl⟩) (pa_0 _ _ _ _ _ _ (fun t => by rw [fo_m00]; decide) (fun t => by rw [fo_m00]; decide) (fun t => by rw [fo_m00]; decide))

