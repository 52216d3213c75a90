/-- Beside the two longs of the rooms at hand nothing is changed. -/
def fs_k (w w1 : pm_W) (lo hi : Int64) : Prop := w1.1 = w.1 ∧ (∀ a, a ≠ 28 → w1.2 a = w.2 a) ∧ w1.2 28 4 = lo ∧ w1.2 28 5 = hi ∧ ∀ j, j ≠ 4 → j ≠ 5 → w1.2 28 j = w.2 28 j
theorem fs_4 {w w1 : pm_W} {lo hi : Int64} (h : fs_k w w1 lo hi) (x : Int64) : fs_k w (pm_sL w1 28 (vp_updL (w1.2 28) 4 x)) x hi := by
  obtain ⟨h1, h2, h3, h4, h5⟩ := h
  exact ⟨h1, fun a ha => (pm_sL_ne ha).trans (h2 a ha), by rw [pm_sL_at]; simp [vp_updL], by rw [pm_sL_at]; simp [vp_updL, h4], fun j q1 q2 => by rw [pm_sL_at]; simp [vp_updL, q1, h5 j q1 q2]⟩
theorem fs_5 {w w1 : pm_W} {lo hi : Int64} (h : fs_k w w1 lo hi) (x : Int64) : fs_k w (pm_sL w1 28 (vp_updL (w1.2 28) 5 x)) lo x := by
  obtain ⟨h1, h2, h3, h4, h5⟩ := h
  exact ⟨h1, fun a ha => (pm_sL_ne ha).trans (h2 a ha), by rw [pm_sL_at]; simp [vp_updL, h3], by rw [pm_sL_at]; simp [vp_updL], fun j q1 q2 => by rw [pm_sL_at]; simp [vp_updL, q2, h5 j q1 q2]⟩
theorem fs_rf (w : pm_W) : fs_k w w (w.2 28 4) (w.2 28 5) := ⟨rfl, fun _ _ => rfl, rfl, rfl, fun _ _ _ => rfl⟩
theorem fs_tr {w w1 w2 : pm_W} {lo hi lo1 hi1 : Int64} (h : fs_k w w1 lo hi) (k : fs_k w1 w2 lo1 hi1) : fs_k w w2 lo1 hi1 := ⟨k.1.trans h.1, fun a ha => (k.2.1 a ha).trans (h.2.1 a ha), k.2.2.1, k.2.2.2.1, fun j q1 q2 => (k.2.2.2.2 j q1 q2).trans (h.2.2.2.2 j q1 q2)⟩

set_option maxRecDepth 4000 in
theorem sv1_107 {w : pm_W} {lo hi fl fh : Int64} : ∀ k, k ≤ 6 → ∀ w1, fs_k w w1 (fo_ad lo (fo_ol lo hi fl fh 6) k) (fo_ad hi (fo_oh hi fh 6) k) → pm_R pm_L0 MX1_serveOneOrNone 107 [some (.ref 28), some (.long (lo &&& fl)), none, some (.long (hi &&& fh)), none, some (.long (fo_ol lo hi fl fh 6)), none, some (.long (fo_oh hi fh 6)), none, some (.int (nI k))] [] w1 (pm_qv fun w1 => fs_k w w1 (fo_s1l lo hi fl fh) (fo_s1h lo hi fl fh)) := by
    refine up_loop 6 (fun k hk9 ih w1 hk => ?_)
    have hk3 := hk.2.2.1
    have hk4 := hk.2.2.2.1
    refine pm_iload dX1_serveOneOrNone_107 rfl ?_
    refine pm_bipush (x := nI 6) dX1_serveOneOrNone_109 rfl ?_
    refine pm_icmp_ge (tgt := 174) dX1_serveOneOrNone_111 (by decide) (fun c111 => ?_) (fun c111 => ?_)
    · have hk6 : k = 6 := by
        rw [nI_leI (by omega) (by omega)] at c111
        omega
      subst hk6
      refine pm_aload_n dX1_serveOneOrNone_174 rfl ?_
      refine pm_dup dX1_serveOneOrNone_175 rfl ?_
      refine pm_getL (ci := 1) (j := 5) (n := 9) (by first | assumption | rfl) (by decide) (by decide) rfl fl_RX1_95 rfl dX1_serveOneOrNone_176 ?_
      rw [hk4]
      refine pm_lload dX1_serveOneOrNone_179 rfl ?_
      refine pm_lor dX1_serveOneOrNone_181 ?_
      refine pm_putL (ci := 1) (j := 5) (n := 9) (by first | assumption | rfl) (by decide) (by decide) rfl fl_RX1_95 rfl rfl dX1_serveOneOrNone_182 ?_
      refine pm_vret dX1_serveOneOrNone_185 rfl ?_
      exact fs_5 hk _
    · have hlt : k < 6 := by
        rw [nI_leI (by omega) (by omega)] at c111
        omega
      refine pm_aload_n dX1_serveOneOrNone_114 rfl ?_
      refine pm_dup dX1_serveOneOrNone_115 rfl ?_
      refine pm_getL (ci := 1) (j := 4) (n := 9) (by first | assumption | rfl) (by decide) (by decide) rfl fl_RX1_92 rfl dX1_serveOneOrNone_116 ?_
      rw [hk3]
      refine pm_lload dX1_serveOneOrNone_119 rfl ?_
      refine pm_gets_HAS fl_RX1_87 dX1_serveOneOrNone_121 ?_
      refine pm_iload dX1_serveOneOrNone_124 rfl ?_
      refine pm_lald_HASN (by omega) dX1_serveOneOrNone_126 ?_
      refine pm_ldc2 kc_RX1_90 dX1_serveOneOrNone_127 ?_
      refine pm_lxor dX1_serveOneOrNone_130 ?_
      refine pm_land dX1_serveOneOrNone_131 ?_
      refine pm_iconst (x := 1) dX1_serveOneOrNone_132 rfl ?_
      refine pm_iload dX1_serveOneOrNone_133 rfl ?_
      refine pm_ishl dX1_serveOneOrNone_135 ?_
      refine pm_topi (nI (2 ^ k)) (fo_amt k hlt) ?_
      refine pm_lshl dX1_serveOneOrNone_136 ?_
      refine pm_lor dX1_serveOneOrNone_137 ?_
      refine pm_putL (ci := 1) (j := 4) (n := 9) (by first | assumption | rfl) (by decide) (by decide) rfl fl_RX1_92 rfl rfl dX1_serveOneOrNone_138 ?_
      refine pm_aload_n dX1_serveOneOrNone_141 rfl ?_
      refine pm_dup dX1_serveOneOrNone_142 rfl ?_
      refine pm_getL (ci := 1) (j := 5) (n := 9) (by first | assumption | rfl) (by decide) (by decide) rfl fl_RX1_95 rfl dX1_serveOneOrNone_143 ?_
      rw [pm_sL_at, show vp_updL (w1.2 28) 4 _ 5 = fo_ad hi (fo_oh hi fh 6) k from (by simp [vp_updL, hk4])]
      refine pm_lload dX1_serveOneOrNone_146 rfl ?_
      refine pm_gets_HAS fl_RX1_87 dX1_serveOneOrNone_148 ?_
      refine pm_iload dX1_serveOneOrNone_151 rfl ?_
      refine pm_lald_HASN (by omega) dX1_serveOneOrNone_153 ?_
      refine pm_ldc2 kc_RX1_90 dX1_serveOneOrNone_154 ?_
      refine pm_lxor dX1_serveOneOrNone_157 ?_
      refine pm_land dX1_serveOneOrNone_158 ?_
      refine pm_iconst (x := 1) dX1_serveOneOrNone_159 rfl ?_
      refine pm_iload dX1_serveOneOrNone_160 rfl ?_
      refine pm_ishl dX1_serveOneOrNone_162 ?_
      refine pm_topi (nI (2 ^ k)) (fo_amt k hlt) ?_
      refine pm_lshl dX1_serveOneOrNone_163 ?_
      refine pm_lor dX1_serveOneOrNone_164 ?_
      refine pm_putL (ci := 1) (j := 5) (n := 9) (by first | assumption | rfl) (by decide) (by decide) rfl fl_RX1_95 rfl rfl dX1_serveOneOrNone_165 ?_
      refine pm_iinc (y := _ + 1) (lv' := [some (.ref _), some (.long _), none, some (.long _), none, some (.long _), none, some (.long _), none, some (.int _)]) dX1_serveOneOrNone_168 rfl rfl (by decide) rfl ?_
      refine pm_goto (tgt := 107) dX1_serveOneOrNone_171 (by decide) ?_
      rw [nI_1]
      exact ih hlt _ (fs_5 (fs_4 hk _) _)

set_option maxRecDepth 4000 in
theorem sv1_55 {w : pm_W} {lo hi fl fh : Int64} (h4 : w.2 28 4 = lo) (h5 : w.2 28 5 = hi) : ∀ k, k ≤ 6 → pm_R pm_L0 MX1_serveOneOrNone 55 [some (.ref 28), some (.long (lo &&& fl)), none, some (.long (hi &&& fh)), none, some (.long (fo_ol lo hi fl fh k)), none, some (.long (fo_oh hi fh k)), none, some (.int (nI k))] [] w (pm_qv fun w1 => fs_k w w1 (fo_s1l lo hi fl fh) (fo_s1h lo hi fl fh)) := by
    refine up_loop 6 (fun k hk9 ih => ?_)
    refine pm_iload dX1_serveOneOrNone_55 rfl ?_
    refine pm_bipush (x := nI 6) dX1_serveOneOrNone_57 rfl ?_
    refine pm_icmp_ge (tgt := 104) dX1_serveOneOrNone_59 (by decide) (fun c59 => ?_) (fun c59 => ?_)
    · have hk6 : k = 6 := by
        rw [nI_leI (by omega) (by omega)] at c59
        omega
      subst hk6
      refine pm_iconst (x := 0) dX1_serveOneOrNone_104 rfl ?_
      refine pm_istore (lv' := [some (.ref _), some (.long _), none, some (.long _), none, some (.long _), none, some (.long _), none, some (.int _)]) dX1_serveOneOrNone_105 (by decide) rfl ?_
      exact sv1_107 0 (by decide) w ⟨rfl, fun _ _ => rfl, h4, h5, fun _ _ _ => rfl⟩
    · have hlt : k < 6 := by
        rw [nI_leI (by omega) (by omega)] at c59
        omega
      refine pm_lload dX1_serveOneOrNone_62 rfl ?_
      refine pm_lload_n dX1_serveOneOrNone_64 rfl ?_
      refine pm_gets_HAS fl_RX1_87 dX1_serveOneOrNone_65 ?_
      refine pm_iload dX1_serveOneOrNone_68 rfl ?_
      refine pm_lald_HASN (by omega) dX1_serveOneOrNone_70 ?_
      refine pm_land dX1_serveOneOrNone_71 ?_
      refine pm_iconst (x := 1) dX1_serveOneOrNone_72 rfl ?_
      refine pm_iload dX1_serveOneOrNone_73 rfl ?_
      refine pm_ishl dX1_serveOneOrNone_75 ?_
      refine pm_topi (nI (2 ^ k)) (fo_amt k hlt) ?_
      refine pm_lushr dX1_serveOneOrNone_76 ?_
      refine pm_lor dX1_serveOneOrNone_77 ?_
      refine pm_lstore (lv' := [some (.ref _), some (.long _), none, some (.long _), none, some (.long _), none, some (.long _), none, some (.int _)]) dX1_serveOneOrNone_78 (by decide) rfl ?_
      refine pm_lload dX1_serveOneOrNone_80 rfl ?_
      refine pm_lload_n dX1_serveOneOrNone_82 rfl ?_
      refine pm_gets_HAS fl_RX1_87 dX1_serveOneOrNone_83 ?_
      refine pm_iload dX1_serveOneOrNone_86 rfl ?_
      refine pm_lald_HASN (by omega) dX1_serveOneOrNone_88 ?_
      refine pm_land dX1_serveOneOrNone_89 ?_
      refine pm_iconst (x := 1) dX1_serveOneOrNone_90 rfl ?_
      refine pm_iload dX1_serveOneOrNone_91 rfl ?_
      refine pm_ishl dX1_serveOneOrNone_93 ?_
      refine pm_topi (nI (2 ^ k)) (fo_amt k hlt) ?_
      refine pm_lushr dX1_serveOneOrNone_94 ?_
      refine pm_lor dX1_serveOneOrNone_95 ?_
      refine pm_lstore (lv' := [some (.ref _), some (.long _), none, some (.long _), none, some (.long _), none, some (.long _), none, some (.int _)]) dX1_serveOneOrNone_96 (by decide) rfl ?_
      refine pm_iinc (y := _ + 1) (lv' := [some (.ref _), some (.long _), none, some (.long _), none, some (.long _), none, some (.long _), none, some (.int _)]) dX1_serveOneOrNone_98 rfl rfl (by decide) rfl ?_
      refine pm_goto (tgt := 55) dX1_serveOneOrNone_101 (by decide) ?_
      rw [nI_1]
      exact ih hlt

set_option maxRecDepth 4000 in
theorem c_X1_serveOneOrNone {w : pm_W} {lo hi fl fh : Int64} (h4 : w.2 28 4 = lo) (h5 : w.2 28 5 = hi) (h6 : w.2 28 6 = fl) (h7 : w.2 28 7 = fh) : pm_C pm_L0 MX1_serveOneOrNone [.ref 28] w (pm_qv fun w1 => fs_k w w1 (fo_s1l lo hi fl fh) (fo_s1h lo hi fl fh)) := by
  refine pm_start (lv := [some (.ref _), none, none, none, none, none, none, none, none, none]) (plainFor_of_name pf1) (Nat.le_of_ble_eq_true rfl) rfl ?_
  refine pm_aload_n dX1_serveOneOrNone_0 rfl ?_
  refine pm_getL (ci := 1) (j := 4) (n := 9) (by first | assumption | rfl) (by decide) (by decide) rfl fl_RX1_92 rfl dX1_serveOneOrNone_1 ?_
  rw [h4]
  refine pm_aload_n dX1_serveOneOrNone_4 rfl ?_
  refine pm_getL (ci := 1) (j := 6) (n := 9) (by first | assumption | rfl) (by decide) (by decide) rfl fl_RX1_43 rfl dX1_serveOneOrNone_5 ?_
  rw [h6]
  refine pm_land dX1_serveOneOrNone_8 ?_
  refine pm_lstore_n (lv' := [some (.ref _), some (.long _), none, none, none, none, none, none, none, none]) dX1_serveOneOrNone_9 (by decide) rfl ?_
  refine pm_aload_n dX1_serveOneOrNone_10 rfl ?_
  refine pm_getL (ci := 1) (j := 5) (n := 9) (by first | assumption | rfl) (by decide) (by decide) rfl fl_RX1_95 rfl dX1_serveOneOrNone_11 ?_
  rw [h5]
  refine pm_aload_n dX1_serveOneOrNone_14 rfl ?_
  refine pm_getL (ci := 1) (j := 7) (n := 9) (by first | assumption | rfl) (by decide) (by decide) rfl fl_RX1_47 rfl dX1_serveOneOrNone_15 ?_
  rw [h7]
  refine pm_land dX1_serveOneOrNone_18 ?_
  refine pm_lstore_n (lv' := [some (.ref _), some (.long _), none, some (.long _), none, none, none, none, none, none]) dX1_serveOneOrNone_19 (by decide) rfl ?_
  refine pm_aload_n dX1_serveOneOrNone_20 rfl ?_
  refine pm_getL (ci := 1) (j := 4) (n := 9) (by first | assumption | rfl) (by decide) (by decide) rfl fl_RX1_92 rfl dX1_serveOneOrNone_21 ?_
  rw [h4]
  refine pm_aload_n dX1_serveOneOrNone_24 rfl ?_
  refine pm_getL (ci := 1) (j := 6) (n := 9) (by first | assumption | rfl) (by decide) (by decide) rfl fl_RX1_43 rfl dX1_serveOneOrNone_25 ?_
  rw [h6]
  refine pm_ldc2 kc_RX1_90 dX1_serveOneOrNone_28 ?_
  refine pm_lxor dX1_serveOneOrNone_31 ?_
  refine pm_land dX1_serveOneOrNone_32 ?_
  refine pm_lload_n dX1_serveOneOrNone_33 rfl ?_
  refine pm_lor dX1_serveOneOrNone_34 ?_
  refine pm_lstore (lv' := [some (.ref _), some (.long _), none, some (.long _), none, some (.long _), none, none, none, none]) dX1_serveOneOrNone_35 (by decide) rfl ?_
  refine pm_aload_n dX1_serveOneOrNone_37 rfl ?_
  refine pm_getL (ci := 1) (j := 5) (n := 9) (by first | assumption | rfl) (by decide) (by decide) rfl fl_RX1_95 rfl dX1_serveOneOrNone_38 ?_
  rw [h5]
  refine pm_aload_n dX1_serveOneOrNone_41 rfl ?_
  refine pm_getL (ci := 1) (j := 7) (n := 9) (by first | assumption | rfl) (by decide) (by decide) rfl fl_RX1_47 rfl dX1_serveOneOrNone_42 ?_
  rw [h7]
  refine pm_ldc2 kc_RX1_90 dX1_serveOneOrNone_45 ?_
  refine pm_lxor dX1_serveOneOrNone_48 ?_
  refine pm_land dX1_serveOneOrNone_49 ?_
  refine pm_lstore (lv' := [some (.ref _), some (.long _), none, some (.long _), none, some (.long _), none, some (.long _), none, none]) dX1_serveOneOrNone_50 (by decide) rfl ?_
  refine pm_iconst (x := 0) dX1_serveOneOrNone_52 rfl ?_
  refine pm_istore (lv' := [some (.ref _), some (.long _), none, some (.long _), none, some (.long _), none, some (.long _), none, some (.int _)]) dX1_serveOneOrNone_53 (by decide) rfl ?_
  exact sv1_55 h4 h5 0 (by decide)

theorem lg_0 {x : Int64} : lg_cmp x 0 = 0 ↔ x = 0 := by
  unfold lg_cmp
  by_cases h : x > 0
  · rw [if_pos h]
    constructor
    · intro z; exact absurd z (by decide)
    · rintro rfl; exact absurd h (by decide)
  · rw [if_neg h]
    by_cases h2 : x = 0
    · rw [if_pos h2]; exact ⟨fun _ => h2, fun _ => rfl⟩
    · rw [if_neg h2]; exact ⟨fun z => absurd z (by decide), fun z => absurd z h2⟩
theorem fo_m0 {lo hi : Int64} : lo ||| hi = 0 ↔ ∀ r, fo_m lo hi r = false := by
  rw [lb_ext0]
  constructor
  · intro h r
    by_cases h1 : r < 64
    · have := h r h1
      rw [lb_or, Bool.or_eq_false_iff] at this
      rw [fo_m, if_pos h1]; exact this.1
    · rw [fo_m, if_neg h1]
      by_cases h2 : r - 64 < 64
      · have := h _ h2
        rw [lb_or, Bool.or_eq_false_iff] at this
        exact this.2
      · exact lb_ge (by omega)
  · intro h r hr
    rw [lb_or, Bool.or_eq_false_iff]
    have h1 := h r
    have h2 := h (r + 64)
    rw [fo_m, if_pos hr] at h1
    rw [fo_m, if_neg (by omega), Nat.add_sub_cancel] at h2
    exact ⟨h1, h2⟩
/-- What up to n serves make of a set of rooms. -/
def fo_im (sp n : Nat) (lo hi lo' hi' : Int64) : Prop := ∀ t, fo_m lo' hi' t = true ↔ ∃ s, fo_m lo hi s = true ∧ fo_sn sp 7 n s t
theorem fo_imS {sp n : Nat} {lo hi lo' hi' fl fh : Int64} (hF : fo_F sp fl fh) (hV : ∀ r, fo_m lo hi r = true → fo_V sp 7 r) (h : fo_im sp n lo hi lo' hi') : fo_im sp (n + 1) lo hi (fo_s1l lo' hi' fl fh) (fo_s1h lo' hi' fl fh) := by
  intro t
  rw [fo_s1q hF (fun r hr => by obtain ⟨s, h1, h2⟩ := (h r).mp hr; exact fo_Vsn (Nat.le_refl 7) (hV s h1) h2), h t]
  constructor
  · rintro (⟨s, h1, h2⟩ | ⟨u, h1, h2⟩)
    · exact ⟨s, h1, Or.inl h2⟩
    · obtain ⟨s, h3, h4⟩ := (h u).mp h1
      exact ⟨s, h3, Or.inr ⟨u, h4, h2⟩⟩
  · rintro ⟨s, h1, h2 | ⟨u, h2, h3⟩⟩
    · exact Or.inl ⟨s, h1, h2⟩
    · exact Or.inr ⟨u, (h u).mpr ⟨s, h1, h2⟩, h3⟩
theorem fo_im0 {sp n m : Nat} {lo hi lo' hi' : Int64} (h : fo_im sp n lo hi lo' hi') (he : ∀ r, fo_m lo' hi' r = false) : fo_im sp m lo hi lo' hi' := by
  intro t
  rw [he t]
  constructor
  · intro z; cases z
  · rintro ⟨s, h1, -⟩
    have := (h s).mpr ⟨s, h1, fo_rf _ _ _ _⟩
    rw [he s] at this; cases this

set_option maxRecDepth 4000 in
theorem c_X1_serveUpTo {w : pm_W} {sp : Nat} (hF : fo_F sp (w.2 28 6) (w.2 28 7)) (hV : ∀ r, fo_m (w.2 28 4) (w.2 28 5) r = true → fo_V sp 7 r) {n : Nat} (hn : n < 1000) : pm_C pm_L0 MX1_serveUpTo [.ref 28, .int (nI n)] w (pm_qv fun w1 => ∃ lo1 hi1, fs_k w w1 lo1 hi1 ∧ fo_im sp n (w.2 28 4) (w.2 28 5) lo1 hi1) := by
  have loop : ∀ i, i ≤ n → ∀ w1 lo1 hi1, fs_k w w1 lo1 hi1 → fo_im sp i (w.2 28 4) (w.2 28 5) lo1 hi1 → pm_R pm_L0 MX1_serveUpTo 2 [some (.ref 28), some (.int (nI n)), some (.int (nI i))] [] w1 (pm_qv fun w1 => ∃ lo1 hi1, fs_k w w1 lo1 hi1 ∧ fo_im sp n (w.2 28 4) (w.2 28 5) lo1 hi1) := by
    refine up_loop n (fun i hi9 ih w1 lo1 hi1 hk him => ?_)
    refine pm_iload_n dX1_serveUpTo_2 rfl ?_
    refine pm_iload_n dX1_serveUpTo_3 rfl ?_
    refine pm_icmp_ge (tgt := 31) dX1_serveUpTo_4 (by decide) (fun c4 => ?_) (fun c4 => ?_)
    · refine pm_vret dX1_serveUpTo_31 rfl ?_
      have hin : i = n := by
        rw [nI_leI (by omega) (by omega)] at c4
        omega
      subst hin
      exact ⟨lo1, hi1, hk, him⟩
    · have hlt : i < n := by
        rw [nI_leI (by omega) (by omega)] at c4
        omega
      refine pm_aload_n dX1_serveUpTo_7 rfl ?_
      refine pm_getL (ci := 1) (j := 4) (n := 9) (by first | assumption | rfl) (by decide) (by decide) rfl fl_RX1_92 rfl dX1_serveUpTo_8 ?_
      rw [hk.2.2.1]
      refine pm_aload_n dX1_serveUpTo_11 rfl ?_
      refine pm_getL (ci := 1) (j := 5) (n := 9) (by first | assumption | rfl) (by decide) (by decide) rfl fl_RX1_95 rfl dX1_serveUpTo_12 ?_
      rw [hk.2.2.2.1]
      refine pm_lor dX1_serveUpTo_15 ?_
      refine pm_lconst (x := 0) dX1_serveUpTo_16 rfl ?_
      refine pm_lcmp dX1_serveUpTo_17 ?_
      refine pm_if_eq (tgt := 31) dX1_serveUpTo_18 (by decide) (fun c18 => ?_) (fun c18 => ?_)
      · refine pm_vret dX1_serveUpTo_31 rfl ?_
        rw [lg_0, fo_m0] at c18
        exact ⟨lo1, hi1, hk, fo_im0 him c18⟩
      · refine pm_aload_n dX1_serveUpTo_21 rfl ?_
        refine pm_cVv (as := []) (by first | assumption | rfl) (by decide) rfl ml_RX1_101 (by decide) (Nat.le_of_ble_eq_true rfl) dX1_serveUpTo_22 (c_X1_serveOneOrNone hk.2.2.1 hk.2.2.2.1 (hk.2.2.2.2 6 (by decide) (by decide)) (hk.2.2.2.2 7 (by decide) (by decide))) (fun w2 hq => ?_)
        refine pm_iinc (y := _ + 1) (lv' := [some (.ref _), some (.int _), some (.int _)]) dX1_serveUpTo_25 rfl rfl (by decide) rfl ?_
        refine pm_goto (tgt := 2) dX1_serveUpTo_28 (by decide) ?_
        rw [nI_1]
        exact ih hlt w2 _ _ (fs_tr hk hq) (fo_imS hF hV him)
  refine pm_start (lv := [some (.ref _), some (.int _), none]) (plainFor_of_name pf1) (Nat.le_of_ble_eq_true rfl) rfl ?_
  refine pm_iconst (x := 0) dX1_serveUpTo_0 rfl ?_
  refine pm_istore_n (lv' := [some (.ref _), some (.int _), some (.int _)]) dX1_serveUpTo_1 (by decide) rfl ?_
  exact loop 0 (Nat.zero_le _) w _ _ (fs_rf w) (fun t => ⟨fun h => ⟨t, h, rfl⟩, fun ⟨s, h1, h2⟩ => (show t = s from h2) ▸ h1⟩)

set_option maxRecDepth 4000 in
theorem c_X1_sized (w : pm_W) {b : Nat} (hb : b < 100) : pm_C pm_L0 MX1_sized [.int (nI b)] w (pm_ql fun r w1 => r = (if b < 7 then pm_sized.getD b 0 else 0) ∧ w1 = w) := by
  refine pm_start (lv := [some (.int _)]) (plainFor_of_name pf1) (Nat.le_of_ble_eq_true rfl) rfl ?_
  refine pm_iload_n dX1_sized_0 rfl ?_
  refine pm_iconst (x := 0) dX1_sized_1 rfl ?_
  refine pm_bipush (x := 6) dX1_sized_2 rfl ?_
  refine pm_cNi (as := [.int _, .int _, .int _]) ml_RX1_80 (by decide) (Nat.le_of_ble_eq_true rfl) dX1_sized_4 (c_X4_within pm_L0 _ _ _ _) (fun x1 w1 hq => ?_)
  obtain ⟨rfl, hw9⟩ := hq
  have hw9 := hw9.symm
  subst hw9
  refine pm_if_eq (tgt := 18) dX1_sized_7 (by decide) (fun c7 => ?_) (fun c7 => ?_)
  · refine pm_lconst (x := 0) dX1_sized_18 rfl ?_
    refine pm_lret dX1_sized_19 rfl ?_
    rw [if_neg (fun z : b < 7 => by rw [show (6 : Int32) = nI 6 from rfl, bw_nI (by omega) (by decide)] at c7; cases c7)]
    exact ⟨rfl, rfl⟩
  · have hb7 : b < 7 := by
      obtain ⟨q, h1, h2⟩ := bw_of (n := 6) (by decide) (pm_z_1.mp c7)
      have := (nI_eq (by omega) (by omega)).mp h2
      omega
    refine pm_gets_SIZED fl_RX1_84 dX1_sized_10 ?_
    refine pm_iload_n dX1_sized_13 rfl ?_
    refine pm_lald_SIZEDN (by omega) dX1_sized_14 ?_
    refine pm_goto (tgt := 19) dX1_sized_15 (by decide) ?_
    refine pm_lret dX1_sized_19 rfl ?_
    rw [if_pos hb7]
    exact ⟨rfl, rfl⟩

