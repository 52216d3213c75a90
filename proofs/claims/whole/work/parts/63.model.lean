theorem idl_m (S : ab_S) (n : Nat) : ∀ k, (ab_idl S n k).1.2.2.2.1 5 = S.2.2.2.1 5
  | 0 => rfl
  | k + 1 => (kp_tick _ n none).2.2.1.trans (idl_m S n k)
theorem J_idl {S : ab_S} (h : ab_J S) (n : Nat) : ∀ k, ab_J (ab_idl S n k).1
  | 0 => h
  | k + 1 => J_tick (J_idl h n k) n
theorem I_idl {S : ab_S} (h : ab_I S) (n : Nat) : ∀ k, ab_I (ab_idl S n k).1
  | 0 => h
  | k + 1 => I_tick (I_idl h n k) (fun d hd => by cases hd)
set_option maxRecDepth 4000 in
theorem idle_22 {w : pm_W} {S : ab_S} (hI : ab_I S) {n m : Nat} (hn : S.2.2.2.1 5 = nI n) (hn3 : n ≤ 3) (hm : m ≤ 64) : ∀ k, k ≤ m → ∀ w1, mo_R w1 (ab_idl S n k).1 → w1.1 83 27 = (ab_idl S n k).2 → w1.1 83 25 = -1 → mfr w w1 [84, 85, 86, 87, 88, 91, 98] [6, 9, 10, 11, 12, 25, 27] → pm_R pm_L0 MX5_idle 22 [some (.ref 83), some (.int (nI m)), some (.int (nI k))] [] w1 (pm_qi fun r w2 => r = (ab_idl S n m).2 ∧ mo_R w2 (ab_idl S n m).1 ∧ w2.1 83 25 = -1 ∧ mfr w w2 [84, 85, 86, 87, 88, 91, 98] [6, 9, 10, 11, 12, 25, 27]) := by
    refine up_loop m (fun k hk ih w1 hRk h27 h25 hfk => ?_)
    refine pm_iload_n dX5_idle_22 rfl ?_
    refine pm_iload_n dX5_idle_23 rfl ?_
    refine pm_icmp_ge (tgt := 37) dX5_idle_24 (by decide) (fun c24 => ?_) (fun c24 => ?_)
    · have hkm : k = m := by
        rw [nI_leI (by omega) (by omega)] at c24
        omega
      subst hkm
      refine pm_aload_n dX5_idle_37 rfl ?_
      refine pm_getI (ci := 5) (j := 27) (n := 39) (by first | assumption | rfl) (by decide) (by decide) rfl fl_RX5_164 rfl dX5_idle_38 ?_
      refine pm_iret dX5_idle_41 rfl ?_
      exact ⟨h27, hRk, h25, hfk⟩
    · have hlt : k < m := by
        rw [nI_leI (by omega) (by omega)] at c24
        omega
      refine pm_aload_n dX5_idle_27 rfl ?_
      refine pm_cVv (as := []) (by first | assumption | rfl) (by decide) rfl ml_RX5_197 (by decide) (Nat.le_of_ble_eq_true rfl) dX5_idle_28 (c_X5_tick0 hRk (I_idl hI n k) (n := n) ((idl_m S n k).trans hn) hn3 h25) (fun w2 hq => ?_)
      obtain ⟨qR, q27, q25, qf⟩ := hq
      refine pm_iinc (y := _ + 1) (lv' := [some (.ref _), some (.int _), some (.int _)]) dX5_idle_31 rfl rfl (by decide) rfl ?_
      refine pm_goto (tgt := 22) dX5_idle_34 (by decide) ?_
      rw [nI_1]
      exact ih hlt w2 qR (by rw [q27, h27]; rfl) q25 (mfr_tr hfk qf)

set_option maxRecDepth 4000 in
theorem c_X5_idle {w : pm_W} {S : ab_S} (hR : mo_R w S) (hI : ab_I S) (h25 : w.1 83 25 = -1) (x : Int32) : pm_C pm_L0 MX5_idle [.ref 83, .int x] w (pm_qi fun r w1 => r = (pu_idle S x).1 ∧ mo_R w1 (pu_idle S x).2 ∧ w1.1 83 25 = -1 ∧ mfr w w1 [84, 85, 86, 87, 88, 91, 98] [6, 9, 10, 11, 12, 25, 27]) := by
  obtain ⟨g1, g2, g3, g4, g5⟩ := id hR
  obtain ⟨⟨sp, i1, i2, i3, i4⟩, i5, i6, i7, i8, i9, i10, i11, i12⟩ := id hI
  obtain ⟨n, e5, n1, n3⟩ := i10
  refine pm_start (lv := [some (.ref _), some (.int _), none]) (plainFor_of_name pf5) (Nat.le_of_ble_eq_true rfl) rfl ?_
  refine pm_iload_n dX5_idle_0 rfl ?_
  refine pm_i2l dX5_idle_1 ?_
  refine pm_lconst (x := 0) dX5_idle_2 rfl ?_
  refine pm_ldc2 kc_RX5_204 dX5_idle_3 ?_
  refine pm_cSi (as := [.long _, .long _, .long _]) ml_RX5_96 (by decide) (Nat.le_of_ble_eq_true rfl) dX5_idle_6 (c_X5_in (n := x) (a := 0) (b := 64) pm_L0 _ rfl (by decide) (by decide)) (fun x1 w1 hq => ?_)
  obtain ⟨rfl, hw9⟩ := hq
  have hw9 := hw9.symm
  subst hw9
  refine pm_if_ne (tgt := 15) dX5_idle_9 (by decide) (fun c9 => ?_) (fun c9 => ?_)
  · rw [pm_z_1] at c9
    obtain ⟨m, hm, rfl⟩ := bw_of (n := 64) (by decide) c9
    refine pm_aload_n dX5_idle_15 rfl ?_
    refine pm_iconst (x := 0) dX5_idle_16 rfl ?_
    refine pm_putI (ci := 5) (j := 27) (n := 39) (by first | assumption | rfl) (by decide) (by decide) rfl fl_RX5_164 rfl rfl dX5_idle_17 ?_
    refine pm_iconst (x := 0) dX5_idle_20 rfl ?_
    refine pm_istore_n (lv' := [some (.ref _), some (.int _), some (.int _)]) dX5_idle_21 (by decide) rfl ?_
    rw [pu_idle, if_pos c9, e5, nI_clamp (by omega), nI_clamp (by omega)]
    exact idle_22 hI e5 n3 hm 0 (Nat.zero_le _) _ (mo_cong hR (fun a q1 q2 => pm_s_ne (by omega)) (fun j hj => by rw [pm_s_at]; exact pk_un (by omega))) (by rw [pm_s_at, pk_us]; rfl) (by rw [pm_s_at, pk_un (by decide)]; exact h25) (mfr_j (mfr_rf _ _ _) (by decide) _)
  · refine pm_bipush (x := -102) dX5_idle_12 rfl ?_
    refine pm_iret dX5_idle_14 rfl ?_
    rw [pm_z_0] at c9
    rw [pu_idle, if_neg (by rw [c9]; decide)]
    exact ⟨rfl, hR, h25, mfr_rf _ _ _⟩

set_option maxRecDepth 4000 in
theorem dig_146 {w : pm_W} {S : ab_S} (hR : mo_R w S) {p : Nat} (hp : p < 4) (d : Int32) {Q : Option Value → pm_W → Prop} (k : pm_R pm_L0 MX5_digest 139 [some (.ref 83), some (.int (ab_mk (S.2.2.1 p) d)), some (.int (nI (p + 1))), none] [] w Q) : ∀ j, j ≤ 7 → pm_R pm_L0 MX5_digest 146 [some (.ref 83), some (.int (ab_mc (S.2.2.1 p) d j)), some (.int (nI p)), some (.int (nI j))] [] w Q := by
    obtain ⟨g1, g2, g3, g4, g5⟩ := id hR
    refine up_loop 7 (fun j hj ih => ?_)
    refine pm_iload_n dX5_digest_146 rfl ?_
    refine pm_bipush (x := nI 7) dX5_digest_147 rfl ?_
    refine pm_icmp_ge (tgt := 175) dX5_digest_149 (by decide) (fun c149 => ?_) (fun c149 => ?_)
    · have hj7 : j = 7 := by
        rw [nI_leI (by omega) (by omega)] at c149
        omega
      subst hj7
      refine pm_aload_n dX5_digest_175 rfl ?_
      refine pm_aload_n dX5_digest_176 rfl ?_
      refine pm_iload_n dX5_digest_177 rfl ?_
      refine pm_aload_n dX5_digest_178 rfl ?_
      refine pm_getR (ci := 5) (j := 13) (n := 39) (by first | assumption | rfl) (by decide) (by decide) rfl fl_RX5_26 rfl (by first | assumption | rfl) dX5_digest_179 ?_
      refine pm_iload_n dX5_digest_182 rfl ?_
      refine pm_ialdN (by first | assumption | rfl) (by omega) (by first | decide | omega) dX5_digest_183 ?_
      rw [(g3 p hp).1]
      refine pm_cVi (as := [.int _, .int _]) (by first | assumption | rfl) (by decide) rfl ml_RX5_245 (by decide) (Nat.le_of_ble_eq_true rfl) dX5_digest_184 (c_X5_digested pm_L0 _ 83 _ _) (fun x1 w1 hq => ?_)
      obtain ⟨rfl, hw9⟩ := hq
      have hw9 := hw9.symm
      subst hw9
      refine pm_aload_n dX5_digest_187 rfl ?_
      refine pm_iload_n dX5_digest_188 rfl ?_
      refine pm_cVi (as := [.int _]) (by first | assumption | rfl) (by decide) rfl ml_RX5_187 (by decide) (Nat.le_of_ble_eq_true rfl) dX5_digest_189 (c_X5_reachOf hp (g3 p hp)) (fun x1 w1 hq => ?_)
      obtain ⟨rfl, hw9⟩ := hq
      have hw9 := hw9.symm
      subst hw9
      refine pm_cVi (as := [.int _, .int _]) (by first | assumption | rfl) (by decide) rfl ml_RX5_245 (by decide) (Nat.le_of_ble_eq_true rfl) dX5_digest_192 (c_X5_digested pm_L0 _ 83 _ _) (fun x1 w1 hq => ?_)
      obtain ⟨rfl, hw9⟩ := hq
      have hw9 := hw9.symm
      subst hw9
      refine pm_istore_n (lv' := [some (.ref _), some (.int _), some (.int _), some (.int _)]) dX5_digest_195 (by decide) rfl ?_
      refine pm_iinc (y := _ + 1) (lv' := [some (.ref _), some (.int _), some (.int _), some (.int _)]) dX5_digest_196 rfl rfl (by decide) rfl ?_
      refine pm_goto (tgt := 139) dX5_digest_199 (by decide) ?_
      refine pm_fg (lv' := [some (.ref _), some (.int _), some (.int _), none]) (pm_le_k rfl (pm_le_k rfl (pm_le_k rfl (pm_le_n pm_le_0)))) ?_
      rw [nI_1]
      exact k
    · have hlt : j < 7 := by
        rw [nI_leI (by omega) (by omega)] at c149
        omega
      refine pm_aload_n dX5_digest_152 rfl ?_
      refine pm_iload_n dX5_digest_153 rfl ?_
      refine pm_aload_n dX5_digest_154 rfl ?_
      refine pm_getR (ci := 5) (j := 22) (n := 39) (by first | assumption | rfl) (by decide) (by decide) rfl fl_RX5_53 rfl (by first | assumption | rfl) dX5_digest_155 ?_
      refine pm_bipush (x := nI 7) dX5_digest_158 rfl ?_
      refine pm_iload_n dX5_digest_160 rfl ?_
      refine pm_imul dX5_digest_161 ?_
      refine pm_iload_n dX5_digest_162 rfl ?_
      refine pm_iadd dX5_digest_163 ?_
      refine pm_topi (nI (7 * p + j)) (by rw [pk_mul, nI_add]) ?_
      refine pm_ialdN (by first | assumption | rfl) (by omega) (by first | decide | omega) dX5_digest_164 ?_
      rw [(g3 p hp).2.2.2.2.2.2.2.2 j hlt]
      refine pm_cVi (as := [.int _, .int _]) (by first | assumption | rfl) (by decide) rfl ml_RX5_245 (by decide) (Nat.le_of_ble_eq_true rfl) dX5_digest_165 (c_X5_digested pm_L0 _ 83 _ _) (fun x1 w1 hq => ?_)
      obtain ⟨rfl, hw9⟩ := hq
      have hw9 := hw9.symm
      subst hw9
      refine pm_istore_n (lv' := [some (.ref _), some (.int _), some (.int _), some (.int _)]) dX5_digest_168 (by decide) rfl ?_
      refine pm_iinc (y := _ + 1) (lv' := [some (.ref _), some (.int _), some (.int _), some (.int _)]) dX5_digest_169 rfl rfl (by decide) rfl ?_
      refine pm_goto (tgt := 146) dX5_digest_172 (by decide) ?_
      rw [nI_1]
      exact ih hlt

theorem dig_139 {w : pm_W} {S : ab_S} (hR : mo_R w S) (d : Int32) : ∀ p, p ≤ 4 → pm_R pm_L0 MX5_digest 139 [some (.ref 83), some (.int (ab_ms S d p)), some (.int (nI p)), none] [] w (pm_qi fun r w1 => r = ab_ms S d 4 ∧ w1 = w) := by
    refine up_loop 4 (fun p hp ih => ?_)
    refine pm_iload_n dX5_digest_139 rfl ?_
    refine pm_iconst (x := nI 4) dX5_digest_140 rfl ?_
    refine pm_icmp_ge (tgt := 202) dX5_digest_141 (by decide) (fun c141 => ?_) (fun c141 => ?_)
    · have hj7 : p = 4 := by
        rw [nI_leI (by omega) (by omega)] at c141
        omega
      subst hj7
      refine pm_iload_n dX5_digest_202 rfl ?_
      refine pm_iret dX5_digest_203 rfl ?_
      exact ⟨rfl, rfl⟩
    · have hlt : p < 4 := by
        rw [nI_leI (by omega) (by omega)] at c141
        omega
      refine pm_iconst (x := 0) dX5_digest_144 rfl ?_
      refine pm_istore_n (lv' := [some (.ref _), some (.int _), some (.int _), some (.int _)]) dX5_digest_145 (by decide) rfl ?_
      exact dig_146 hR hlt _ (ih hlt) 0 (by decide)

set_option maxRecDepth 4000 in
theorem dig_101 {w : pm_W} {S : ab_S} (hR : mo_R w S) (hI : ab_I S) (d : Int32) : ∀ i, i ≤ S.2.1.length → pm_R pm_L0 MX5_digest 101 [some (.ref 83), some (.int (ab_mh S.2.1 false d i)), some (.int (nI i)), none] [] w (pm_qi fun r w1 => r = ab_ms S (ab_mh S.2.1 false d S.2.1.length) 4 ∧ w1 = w) := by
    obtain ⟨g1, g2, g3, g4, g5⟩ := id hR
    obtain ⟨⟨sp, i1, i2, i3, i4⟩, i5, i6, i7, i8, i9, i10, i11, i12⟩ := id hI
    refine up_loop S.2.1.length (fun i hi ih => ?_)
    refine pm_iload_n dX5_digest_101 rfl ?_
    refine pm_aload_n dX5_digest_102 rfl ?_
    refine pm_getI (ci := 5) (j := 9) (n := 39) (by first | assumption | rfl) (by decide) (by decide) rfl fl_RX5_114 rfl dX5_digest_103 ?_
    rw [g2.1]
    refine pm_icmp_ge (tgt := 137) dX5_digest_106 (by decide) (fun c106 => ?_) (fun c106 => ?_)
    · have hie : i = S.2.1.length := by
        rw [nI_leI (by omega) (by omega)] at c106
        omega
      subst hie
      refine pm_iconst (x := 0) dX5_digest_137 rfl ?_
      refine pm_istore_n (lv' := [some (.ref _), some (.int _), some (.int _), none]) dX5_digest_138 (by decide) rfl ?_
      exact dig_139 hR _ 0 (by decide)
    · have hlt : i < S.2.1.length := by
        rw [nI_leI (by omega) (by omega)] at c106
        omega
      have hei := at_getD hlt
      refine pm_aload_n dX5_digest_109 rfl ?_
      refine pm_aload_n dX5_digest_110 rfl ?_
      refine pm_iload_n dX5_digest_111 rfl ?_
      refine pm_aload_n dX5_digest_112 rfl ?_
      refine pm_getR (ci := 5) (j := 7) (n := 39) (by first | assumption | rfl) (by decide) (by decide) rfl fl_RX5_20 rfl (by first | assumption | rfl) dX5_digest_113 ?_
      refine pm_iload_n dX5_digest_116 rfl ?_
      refine pm_ialdN (by first | assumption | rfl) (by omega) (by first | decide | omega) dX5_digest_117 ?_
      rw [(g2.2 i _ hei).1]
      refine pm_cVi (as := [.int _, .int _]) (by first | assumption | rfl) (by decide) rfl ml_RX5_245 (by decide) (Nat.le_of_ble_eq_true rfl) dX5_digest_118 (c_X5_digested pm_L0 _ 83 _ _) (fun x1 w1 hq => ?_)
      obtain ⟨rfl, hw9⟩ := hq
      have hw9 := hw9.symm
      subst hw9
      refine pm_aload_n dX5_digest_121 rfl ?_
      refine pm_getR (ci := 5) (j := 8) (n := 39) (by first | assumption | rfl) (by decide) (by decide) rfl fl_RX5_23 rfl (by first | assumption | rfl) dX5_digest_122 ?_
      refine pm_iload_n dX5_digest_125 rfl ?_
      refine pm_ialdN (by first | assumption | rfl) (by omega) (by first | decide | omega) dX5_digest_126 ?_
      rw [(g2.2 i _ hei).2]
      refine pm_cVi (as := [.int _, .int _]) (by first | assumption | rfl) (by decide) rfl ml_RX5_245 (by decide) (Nat.le_of_ble_eq_true rfl) dX5_digest_127 (c_X5_digested pm_L0 _ 83 _ _) (fun x1 w1 hq => ?_)
      obtain ⟨rfl, hw9⟩ := hq
      have hw9 := hw9.symm
      subst hw9
      refine pm_istore_n (lv' := [some (.ref _), some (.int _), some (.int _), none]) dX5_digest_130 (by decide) rfl ?_
      refine pm_iinc (y := _ + 1) (lv' := [some (.ref _), some (.int _), some (.int _), none]) dX5_digest_131 rfl rfl (by decide) rfl ?_
      refine pm_goto (tgt := 101) dX5_digest_134 (by decide) ?_
      rw [nI_1]
      exact ih hlt

set_option maxRecDepth 4000 in
theorem dig_45 {w : pm_W} {S : ab_S} (hR : mo_R w S) (hI : ab_I S) (d : Int32) : ∀ i, i ≤ S.1.length → pm_R pm_L0 MX5_digest 45 [some (.ref 83), some (.int (ab_mh S.1 true d i)), some (.int (nI i)), none] [] w (pm_qi fun r w1 => r = ab_ms S (ab_mh S.2.1 false (ab_mh S.1 true d S.1.length) S.2.1.length) 4 ∧ w1 = w) := by
    obtain ⟨g1, g2, g3, g4, g5⟩ := id hR
    obtain ⟨⟨sp, i1, i2, i3, i4⟩, i5, i6, i7, i8, i9, i10, i11, i12⟩ := id hI
    refine up_loop S.1.length (fun i hi ih => ?_)
    refine pm_iload_n dX5_digest_45 rfl ?_
    refine pm_aload_n dX5_digest_46 rfl ?_
    refine pm_getI (ci := 5) (j := 6) (n := 39) (by first | assumption | rfl) (by decide) (by decide) rfl fl_RX5_111 rfl dX5_digest_47 ?_
    rw [g1.1]
    refine pm_icmp_ge (tgt := 99) dX5_digest_50 (by decide) (fun c50 => ?_) (fun c50 => ?_)
    · have hie : i = S.1.length := by
        rw [nI_leI (by omega) (by omega)] at c50
        omega
      subst hie
      refine pm_iconst (x := 0) dX5_digest_99 rfl ?_
      refine pm_istore_n (lv' := [some (.ref _), some (.int _), some (.int _), none]) dX5_digest_100 (by decide) rfl ?_
      exact dig_101 hR hI _ 0 (Nat.zero_le _)
    · have hlt : i < S.1.length := by
        rw [nI_leI (by omega) (by omega)] at c50
        omega
      have hei := at_getD hlt
      refine pm_aload_n dX5_digest_53 rfl ?_
      refine pm_aload_n dX5_digest_54 rfl ?_
      refine pm_aload_n dX5_digest_55 rfl ?_
      refine pm_iload_n dX5_digest_56 rfl ?_
      refine pm_aload_n dX5_digest_57 rfl ?_
      refine pm_getR (ci := 5) (j := 3) (n := 39) (by first | assumption | rfl) (by decide) (by decide) rfl fl_RX5_7 rfl (by first | assumption | rfl) dX5_digest_58 ?_
      refine pm_iload_n dX5_digest_61 rfl ?_
      refine pm_ialdN (by first | assumption | rfl) (by omega) (by first | decide | omega) dX5_digest_62 ?_
      rw [(g1.2 i _ hei).1]
      refine pm_cVi (as := [.int _, .int _]) (by first | assumption | rfl) (by decide) rfl ml_RX5_245 (by decide) (Nat.le_of_ble_eq_true rfl) dX5_digest_63 (c_X5_digested pm_L0 _ 83 _ _) (fun x1 w1 hq => ?_)
      obtain ⟨rfl, hw9⟩ := hq
      have hw9 := hw9.symm
      subst hw9
      refine pm_aload_n dX5_digest_66 rfl ?_
      refine pm_getR (ci := 5) (j := 4) (n := 39) (by first | assumption | rfl) (by decide) (by decide) rfl fl_RX5_13 rfl (by first | assumption | rfl) dX5_digest_67 ?_
      refine pm_iload_n dX5_digest_70 rfl ?_
      refine pm_ialdN (by first | assumption | rfl) (by omega) (by first | decide | omega) dX5_digest_71 ?_
      rw [(g1.2 i _ hei).2.1]
      refine pm_cVi (as := [.int _, .int _]) (by first | assumption | rfl) (by decide) rfl ml_RX5_245 (by decide) (Nat.le_of_ble_eq_true rfl) dX5_digest_72 (c_X5_digested pm_L0 _ 83 _ _) (fun x1 w1 hq => ?_)
      obtain ⟨rfl, hw9⟩ := hq
      have hw9 := hw9.symm
      subst hw9
      refine pm_aload_n dX5_digest_75 rfl ?_
      refine pm_getR (ci := 5) (j := 5) (n := 39) (by first | assumption | rfl) (by decide) (by decide) rfl fl_RX5_16 rfl (by first | assumption | rfl) dX5_digest_76 ?_
      refine pm_iload_n dX5_digest_79 rfl ?_
      refine pm_zaldN (by first | assumption | rfl) (by omega) (by first | decide | omega) dX5_digest_80 ?_
      rw [(g1.2 i _ hei).2.2]
      refine pm_if_eq (tgt := 88) dX5_digest_81 (by decide) (fun c81 => ?_) (fun c81 => ?_)
      · refine pm_iconst (x := 0) dX5_digest_88 rfl ?_
        refine pm_cVi (as := [.int _, .int _]) (by first | assumption | rfl) (by decide) rfl ml_RX5_245 (by decide) (Nat.le_of_ble_eq_true rfl) dX5_digest_89 (c_X5_digested pm_L0 _ 83 _ _) (fun x1 w1 hq => ?_)
        obtain ⟨rfl, hw9⟩ := hq
        have hw9 := hw9.symm
        subst hw9
        refine pm_istore_n (lv' := [some (.ref _), some (.int _), some (.int _), none]) dX5_digest_92 (by decide) rfl ?_
        refine pm_iinc (y := _ + 1) (lv' := [some (.ref _), some (.int _), some (.int _), none]) dX5_digest_93 rfl rfl (by decide) rfl ?_
        refine pm_goto (tgt := 45) dX5_digest_96 (by decide) ?_
        rw [nI_1]
        have h9 := ih hlt
        rw [show ab_mh S.1 true d (i + 1) = 31 * (31 * (31 * ab_mh S.1 true d i + (S.1.getD i (0, 0, 0)).1) + nI (S.1.getD i (0, 0, 0)).2.1) + 0 by rw [ab_mh, ab_mx, if_pos rfl, c81]] at h9
        exact h9
      · refine pm_iconst (x := 1) dX5_digest_84 rfl ?_
        refine pm_goto (tgt := 89) dX5_digest_85 (by decide) ?_
        refine pm_cVi (as := [.int _, .int _]) (by first | assumption | rfl) (by decide) rfl ml_RX5_245 (by decide) (Nat.le_of_ble_eq_true rfl) dX5_digest_89 (c_X5_digested pm_L0 _ 83 _ _) (fun x1 w1 hq => ?_)
        obtain ⟨rfl, hw9⟩ := hq
        have hw9 := hw9.symm
        subst hw9
        refine pm_istore_n (lv' := [some (.ref _), some (.int _), some (.int _), none]) dX5_digest_92 (by decide) rfl ?_
        refine pm_iinc (y := _ + 1) (lv' := [some (.ref _), some (.int _), some (.int _), none]) dX5_digest_93 rfl rfl (by decide) rfl ?_
        refine pm_goto (tgt := 45) dX5_digest_96 (by decide) ?_
        rw [nI_1]
        have h9 := ih hlt
        rw [show ab_mh S.1 true d (i + 1) = 31 * (31 * (31 * ab_mh S.1 true d i + (S.1.getD i (0, 0, 0)).1) + nI (S.1.getD i (0, 0, 0)).2.1) + 1 by rw [ab_mh, ab_mx, if_pos rfl, (i6 _ (List.mem_of_getElem? hei)).2.2.2.resolve_left c81]] at h9
        exact h9

set_option maxRecDepth 4000 in
theorem c_X5_digest {w : pm_W} {S : ab_S} (hR : mo_R w S) (hI : ab_I S) : pm_C pm_L0 MX5_digest [.ref 83] w (pm_qi fun r w1 => r = pu_digest S ∧ w1 = w) := by
  obtain ⟨g1, g2, g3, g4, g5⟩ := id hR
  refine pm_start (lv := [some (.ref _), none, none, none]) (plainFor_of_name pf5) (Nat.le_of_ble_eq_true rfl) rfl ?_
  refine pm_aload_n dX5_digest_0 rfl ?_
  refine pm_aload_n dX5_digest_1 rfl ?_
  refine pm_aload_n dX5_digest_2 rfl ?_
  refine pm_aload_n dX5_digest_3 rfl ?_
  refine pm_aload_n dX5_digest_4 rfl ?_
  refine pm_bipush (x := 7) dX5_digest_5 rfl ?_
  refine pm_aload_n dX5_digest_7 rfl ?_
  refine pm_getI (ci := 5) (j := 0) (n := 39) (by first | assumption | rfl) (by decide) (by decide) rfl fl_RX5_102 rfl dX5_digest_8 ?_
  rw [show w.1 83 0 = S.2.2.2.1 4 from g4.1]
  refine pm_cVi (as := [.int _, .int _]) (by first | assumption | rfl) (by decide) rfl ml_RX5_245 (by decide) (Nat.le_of_ble_eq_true rfl) dX5_digest_11 (c_X5_digested pm_L0 _ 83 _ _) (fun x1 w1 hq => ?_)
  obtain ⟨rfl, hw9⟩ := hq
  have hw9 := hw9.symm
  subst hw9
  refine pm_aload_n dX5_digest_14 rfl ?_
  refine pm_getI (ci := 5) (j := 1) (n := 39) (by first | assumption | rfl) (by decide) (by decide) rfl fl_RX5_105 rfl dX5_digest_15 ?_
  rw [show w.1 83 1 = S.2.2.2.1 5 from g4.2.1]
  refine pm_cVi (as := [.int _, .int _]) (by first | assumption | rfl) (by decide) rfl ml_RX5_245 (by decide) (Nat.le_of_ble_eq_true rfl) dX5_digest_18 (c_X5_digested pm_L0 _ 83 _ _) (fun x1 w1 hq => ?_)
  obtain ⟨rfl, hw9⟩ := hq
  have hw9 := hw9.symm
  subst hw9
  refine pm_aload_n dX5_digest_21 rfl ?_
  refine pm_getI (ci := 5) (j := 2) (n := 39) (by first | assumption | rfl) (by decide) (by decide) rfl fl_RX5_108 rfl dX5_digest_22 ?_
  rw [show w.1 83 2 = S.2.2.2.1 6 from g4.2.2.1]
  refine pm_cVi (as := [.int _, .int _]) (by first | assumption | rfl) (by decide) rfl ml_RX5_245 (by decide) (Nat.le_of_ble_eq_true rfl) dX5_digest_25 (c_X5_digested pm_L0 _ 83 _ _) (fun x1 w1 hq => ?_)
  obtain ⟨rfl, hw9⟩ := hq
  have hw9 := hw9.symm
  subst hw9
  refine pm_aload_n dX5_digest_28 rfl ?_
  refine pm_getI (ci := 5) (j := 10) (n := 39) (by first | assumption | rfl) (by decide) (by decide) rfl fl_RX5_117 rfl dX5_digest_29 ?_
  rw [show w.1 83 10 = S.2.2.2.1 7 from g4.2.2.2.1]
  refine pm_cVi (as := [.int _, .int _]) (by first | assumption | rfl) (by decide) rfl ml_RX5_245 (by decide) (Nat.le_of_ble_eq_true rfl) dX5_digest_32 (c_X5_digested pm_L0 _ 83 _ _) (fun x1 w1 hq => ?_)
  obtain ⟨rfl, hw9⟩ := hq
  have hw9 := hw9.symm
  subst hw9
  refine pm_aload_n dX5_digest_35 rfl ?_
  refine pm_getI (ci := 5) (j := 11) (n := 39) (by first | assumption | rfl) (by decide) (by decide) rfl fl_RX5_120 rfl dX5_digest_36 ?_
  rw [show w.1 83 11 = S.2.2.2.1 9 from g4.2.2.2.2.2]
  refine pm_cVi (as := [.int _, .int _]) (by first | assumption | rfl) (by decide) rfl ml_RX5_245 (by decide) (Nat.le_of_ble_eq_true rfl) dX5_digest_39 (c_X5_digested pm_L0 _ 83 _ _) (fun x1 w1 hq => ?_)
  obtain ⟨rfl, hw9⟩ := hq
  have hw9 := hw9.symm
  subst hw9
  refine pm_istore_n (lv' := [some (.ref _), some (.int _), none, none]) dX5_digest_42 (by decide) rfl ?_
  refine pm_iconst (x := 0) dX5_digest_43 rfl ?_
  refine pm_istore_n (lv' := [some (.ref _), some (.int _), some (.int _), none]) dX5_digest_44 (by decide) rfl ?_
  exact dig_45 hR hI _ 0 (Nat.zero_le _)

set_option maxRecDepth 4000 in
theorem beg_144 {w0 : pm_W} (a b c : Int32) : ∀ i, i ≤ 28 → ∀ w : pm_W, (w.1 83 0 = a ∧ w.1 83 1 = b ∧ w.1 83 2 = c ∧ w.1 83 6 = 0 ∧ w.1 83 9 = 0 ∧ w.1 83 10 = 0 ∧ w.1 83 11 = 0 ∧ w.1 83 12 = 0 ∧ w.1 83 24 = 0) → (∀ t, t < 4 → w.1 89 t = 0 ∧ w.1 90 t = 0 ∧ w.1 91 t = 0 ∧ w.1 92 t = 0 ∧ w.1 93 t = -1 ∧ w.1 95 t = -1 ∧ w.1 96 t = 0) → (∀ t, t < 256 → w.1 97 t = -1) → (∀ t, t < i → w.1 98 t = 0) → mfr w0 w [89, 90, 91, 92, 93, 95, 96, 97, 98] [0, 1, 2, 6, 9, 10, 11, 12, 24] → pm_R pm_L0 MX5_begin 144 [some (.ref 83), some (.int a), some (.int b), some (.int c), some (.int (nI i))] [] w (pm_qv fun w2 => mo_R w2 (ab_beg a b c) ∧ mfr w0 w2 [89, 90, 91, 92, 93, 95, 96, 97, 98] [0, 1, 2, 6, 9, 10, 11, 12, 24]) := by
    refine up_loop 28 (fun i hi ih w h83 hA h97 hfl hf => ?_)
    refine pm_iload dX5_begin_144 rfl ?_
    refine pm_bipush (x := nI 28) dX5_begin_146 rfl ?_
    refine pm_icmp_ge (tgt := 165) dX5_begin_148 (by decide) (fun c148 => ?_) (fun c148 => ?_)
    · have hie : i = 28 := by
        rw [nI_leI (by omega) (by omega)] at c148
        omega
      subst hie
      refine pm_vret dX5_begin_165 rfl ?_
      obtain ⟨k0, k1, k2, k6, k9, k10, k11, k12, k24⟩ := h83
      refine ⟨⟨⟨k6, fun i e z => by simp [ab_beg] at z⟩, ⟨k9, fun i e z => by simp [ab_beg] at z⟩, fun p hp => ?_, ⟨k0, k1, k2, k10, k12, k11⟩, ⟨k24, fun i x z => by simp [ab_beg] at z⟩⟩, hf⟩
      obtain ⟨a0, a1, a2, a3, a4, a5, a6⟩ := hA p hp
      refine ⟨a0, ?_, a3, a4, fun z => absurd rfl z, a5, a6, fun j hj => h97 _ (by omega), fun j hj => hfl _ (by omega)⟩
      exact a1
    · have hlt : i < 28 := by
        rw [nI_leI (by omega) (by omega)] at c148
        omega
      refine pm_aload_n dX5_begin_151 rfl ?_
      refine pm_getR (ci := 5) (j := 22) (n := 39) (by first | assumption | rfl) (by decide) (by decide) rfl fl_RX5_53 rfl (by first | assumption | rfl) dX5_begin_152 ?_
      refine pm_iload dX5_begin_155 rfl ?_
      refine pm_iconst (x := 0) dX5_begin_157 rfl ?_
      refine pm_iastN (by first | assumption | rfl) (by omega) (by first | decide | omega) dX5_begin_158 ?_
      refine pm_iinc (y := _ + 1) (lv' := [some (.ref _), some (.int _), some (.int _), some (.int _), some (.int _)]) dX5_begin_159 rfl rfl (by decide) rfl ?_
      refine pm_goto (tgt := 144) dX5_begin_162 (by decide) ?_
      rw [nI_1]
      refine ih hlt _ (by simpa only [pm_s_ne (show (83 : Nat) ≠ 98 by decide)] using h83) (by simpa only [pm_s_ne (show (89 : Nat) ≠ 98 by decide), pm_s_ne (show (90 : Nat) ≠ 98 by decide), pm_s_ne (show (91 : Nat) ≠ 98 by decide), pm_s_ne (show (92 : Nat) ≠ 98 by decide), pm_s_ne (show (93 : Nat) ≠ 98 by decide), pm_s_ne (show (95 : Nat) ≠ 98 by decide), pm_s_ne (show (96 : Nat) ≠ 98 by decide)] using hA) (by simpa only [pm_s_ne (show (97 : Nat) ≠ 98 by decide)] using h97) (fun t ht => ?_) (mfr_c hf (by decide) (by decide) _)
      rw [pm_s_at]
      by_cases hti : t = i
      · subst hti; exact pk_us
      · rw [pk_un hti]; exact hfl t (by omega)

set_option maxRecDepth 4000 in
theorem beg_119 {w0 : pm_W} (a b c : Int32) : ∀ i, i ≤ 256 → ∀ w : pm_W, (w.1 83 0 = a ∧ w.1 83 1 = b ∧ w.1 83 2 = c ∧ w.1 83 6 = 0 ∧ w.1 83 9 = 0 ∧ w.1 83 10 = 0 ∧ w.1 83 11 = 0 ∧ w.1 83 12 = 0 ∧ w.1 83 24 = 0) → (∀ t, t < 4 → w.1 89 t = 0 ∧ w.1 90 t = 0 ∧ w.1 91 t = 0 ∧ w.1 92 t = 0 ∧ w.1 93 t = -1 ∧ w.1 95 t = -1 ∧ w.1 96 t = 0) → (∀ t, t < i → w.1 97 t = -1) → mfr w0 w [89, 90, 91, 92, 93, 95, 96, 97, 98] [0, 1, 2, 6, 9, 10, 11, 12, 24] → pm_R pm_L0 MX5_begin 119 [some (.ref 83), some (.int a), some (.int b), some (.int c), some (.int (nI i))] [] w (pm_qv fun w2 => mo_R w2 (ab_beg a b c) ∧ mfr w0 w2 [89, 90, 91, 92, 93, 95, 96, 97, 98] [0, 1, 2, 6, 9, 10, 11, 12, 24]) := by
    refine up_loop 256 (fun i hi ih w h83 hA hfl hf => ?_)
    refine pm_iload dX5_begin_119 rfl ?_
    refine pm_sipush (x := nI 256) dX5_begin_121 rfl ?_
    refine pm_icmp_ge (tgt := 141) dX5_begin_124 (by decide) (fun c124 => ?_) (fun c124 => ?_)
    · have hie : i = 256 := by
        rw [nI_leI (by omega) (by omega)] at c124
        omega
      subst hie
      refine pm_iconst (x := 0) dX5_begin_141 rfl ?_
      refine pm_istore (lv' := [some (.ref _), some (.int _), some (.int _), some (.int _), some (.int _)]) dX5_begin_142 (by decide) rfl ?_
      exact beg_144 a b c 0 (by decide) _ h83 hA hfl (fun t ht => absurd ht (by omega)) hf
    · have hlt : i < 256 := by
        rw [nI_leI (by omega) (by omega)] at c124
        omega
      refine pm_aload_n dX5_begin_127 rfl ?_
      refine pm_getR (ci := 5) (j := 21) (n := 39) (by first | assumption | rfl) (by decide) (by decide) rfl fl_RX5_50 rfl (by first | assumption | rfl) dX5_begin_128 ?_
      refine pm_iload dX5_begin_131 rfl ?_
      refine pm_iconst (x := -1) dX5_begin_133 rfl ?_
      refine pm_iastN (by first | assumption | rfl) (by omega) (by first | decide | omega) dX5_begin_134 ?_
      refine pm_iinc (y := _ + 1) (lv' := [some (.ref _), some (.int _), some (.int _), some (.int _), some (.int _)]) dX5_begin_135 rfl rfl (by decide) rfl ?_
      refine pm_goto (tgt := 119) dX5_begin_138 (by decide) ?_
      rw [nI_1]
      refine ih hlt _ (by simpa only [pm_s_ne (show (83 : Nat) ≠ 97 by decide)] using h83) (by simpa only [pm_s_ne (show (89 : Nat) ≠ 97 by decide), pm_s_ne (show (90 : Nat) ≠ 97 by decide), pm_s_ne (show (91 : Nat) ≠ 97 by decide), pm_s_ne (show (92 : Nat) ≠ 97 by decide), pm_s_ne (show (93 : Nat) ≠ 97 by decide), pm_s_ne (show (95 : Nat) ≠ 97 by decide), pm_s_ne (show (96 : Nat) ≠ 97 by decide)] using hA) (fun t ht => ?_) (mfr_c hf (by decide) (by decide) _)
      rw [pm_s_at]
      by_cases hti : t = i
      · subst hti; exact pk_us
      · rw [pk_un hti]; exact hfl t (by omega)

set_option maxRecDepth 4000 in
theorem beg_48 {w0 : pm_W} (a b c : Int32) : ∀ i, i ≤ 4 → ∀ w : pm_W, (w.1 83 0 = a ∧ w.1 83 1 = b ∧ w.1 83 2 = c ∧ w.1 83 6 = 0 ∧ w.1 83 9 = 0 ∧ w.1 83 10 = 0 ∧ w.1 83 11 = 0 ∧ w.1 83 12 = 0 ∧ w.1 83 24 = 0) → (∀ t, t < i → w.1 89 t = 0 ∧ w.1 90 t = 0 ∧ w.1 91 t = 0 ∧ w.1 92 t = 0 ∧ w.1 93 t = -1 ∧ w.1 95 t = -1 ∧ w.1 96 t = 0) → mfr w0 w [89, 90, 91, 92, 93, 95, 96, 97, 98] [0, 1, 2, 6, 9, 10, 11, 12, 24] → pm_R pm_L0 MX5_begin 48 [some (.ref 83), some (.int a), some (.int b), some (.int c), some (.int (nI i))] [] w (pm_qv fun w2 => mo_R w2 (ab_beg a b c) ∧ mfr w0 w2 [89, 90, 91, 92, 93, 95, 96, 97, 98] [0, 1, 2, 6, 9, 10, 11, 12, 24]) := by
    refine up_loop 4 (fun i hi ih w h83 hA hf => ?_)
    refine pm_iload dX5_begin_48 rfl ?_
    refine pm_iconst (x := nI 4) dX5_begin_50 rfl ?_
    refine pm_icmp_ge (tgt := 116) dX5_begin_51 (by decide) (fun c51 => ?_) (fun c51 => ?_)
    · have hie : i = 4 := by
        rw [nI_leI (by omega) (by omega)] at c51
        omega
      subst hie
      refine pm_iconst (x := 0) dX5_begin_116 rfl ?_
      refine pm_istore (lv' := [some (.ref _), some (.int _), some (.int _), some (.int _), some (.int _)]) dX5_begin_117 (by decide) rfl ?_
      exact beg_119 a b c 0 (by decide) _ h83 hA (fun t ht => absurd ht (by omega)) hf
    · have hlt : i < 4 := by
        rw [nI_leI (by omega) (by omega)] at c51
        omega
      refine pm_aload_n dX5_begin_54 rfl ?_
      refine pm_getR (ci := 5) (j := 13) (n := 39) (by first | assumption | rfl) (by decide) (by decide) rfl fl_RX5_26 rfl (by first | assumption | rfl) dX5_begin_55 ?_
      refine pm_iload dX5_begin_58 rfl ?_
      refine pm_iconst (x := 0) dX5_begin_60 rfl ?_
      refine pm_iastN (by first | assumption | rfl) (by omega) (by first | decide | omega) dX5_begin_61 ?_
      refine pm_aload_n dX5_begin_62 rfl ?_
      refine pm_getR (ci := 5) (j := 14) (n := 39) (by first | assumption | rfl) (by decide) (by decide) rfl fl_RX5_29 rfl (by first | assumption | rfl) dX5_begin_63 ?_
      refine pm_iload dX5_begin_66 rfl ?_
      refine pm_iconst (x := 0) dX5_begin_68 rfl ?_
      refine pm_iastN (by first | assumption | rfl) (by omega) (by first | decide | omega) dX5_begin_69 ?_
      refine pm_aload_n dX5_begin_70 rfl ?_
      refine pm_getR (ci := 5) (j := 15) (n := 39) (by first | assumption | rfl) (by decide) (by decide) rfl fl_RX5_32 rfl (by first | assumption | rfl) dX5_begin_71 ?_
      refine pm_iload dX5_begin_74 rfl ?_
      refine pm_iconst (x := 0) dX5_begin_76 rfl ?_
      refine pm_iastN (by first | assumption | rfl) (by omega) (by first | decide | omega) dX5_begin_77 ?_
      refine pm_aload_n dX5_begin_78 rfl ?_
      refine pm_getR (ci := 5) (j := 16) (n := 39) (by first | assumption | rfl) (by decide) (by decide) rfl fl_RX5_35 rfl (by first | assumption | rfl) dX5_begin_79 ?_
      refine pm_iload dX5_begin_82 rfl ?_
      refine pm_iconst (x := 0) dX5_begin_84 rfl ?_
      refine pm_iastN (by first | assumption | rfl) (by omega) (by first | decide | omega) dX5_begin_85 ?_
      refine pm_aload_n dX5_begin_86 rfl ?_
      refine pm_getR (ci := 5) (j := 17) (n := 39) (by first | assumption | rfl) (by decide) (by decide) rfl fl_RX5_38 rfl (by first | assumption | rfl) dX5_begin_87 ?_
      refine pm_iload dX5_begin_90 rfl ?_
      refine pm_iconst (x := -1) dX5_begin_92 rfl ?_
      refine pm_iastN (by first | assumption | rfl) (by omega) (by first | decide | omega) dX5_begin_93 ?_
      refine pm_aload_n dX5_begin_94 rfl ?_
      refine pm_getR (ci := 5) (j := 19) (n := 39) (by first | assumption | rfl) (by decide) (by decide) rfl fl_RX5_44 rfl (by first | assumption | rfl) dX5_begin_95 ?_
      refine pm_iload dX5_begin_98 rfl ?_
      refine pm_iconst (x := -1) dX5_begin_100 rfl ?_
      refine pm_iastN (by first | assumption | rfl) (by omega) (by first | decide | omega) dX5_begin_101 ?_
      refine pm_aload_n dX5_begin_102 rfl ?_
      refine pm_getR (ci := 5) (j := 20) (n := 39) (by first | assumption | rfl) (by decide) (by decide) rfl fl_RX5_47 rfl (by first | assumption | rfl) dX5_begin_103 ?_
      refine pm_iload dX5_begin_106 rfl ?_
      refine pm_iconst (x := 0) dX5_begin_108 rfl ?_
      refine pm_iastN (by first | assumption | rfl) (by omega) (by first | decide | omega) dX5_begin_109 ?_
      refine pm_iinc (y := _ + 1) (lv' := [some (.ref _), some (.int _), some (.int _), some (.int _), some (.int _)]) dX5_begin_110 rfl rfl (by decide) rfl ?_
      refine pm_goto (tgt := 48) dX5_begin_113 (by decide) ?_
      rw [nI_1]
      refine ih hlt _ (by simpa [pm_s] using h83) (fun t ht => ?_) (mfr_c (mfr_c (mfr_c (mfr_c (mfr_c (mfr_c (mfr_c (hf) (k := 89) (by decide) (by decide) _) (k := 90) (by decide) (by decide) _) (k := 91) (by decide) (by decide) _) (k := 92) (by decide) (by decide) _) (k := 93) (by decide) (by decide) _) (k := 95) (by decide) (by decide) _) (k := 96) (by decide) (by decide) _)
      by_cases hti : t = i
      · subst hti; simp [pm_s, upd]
      · have h9 := hA t (by omega)
        simpa [pm_s, upd, hti] using h9

set_option maxRecDepth 4000 in
theorem c_X5_begin (w : pm_W) (a b c : Int32) : pm_C pm_L0 MX5_begin [.ref 83, .int a, .int b, .int c] w (pm_qv fun w2 => mo_R w2 (ab_beg a b c) ∧ mfr w w2 [89, 90, 91, 92, 93, 95, 96, 97, 98] [0, 1, 2, 6, 9, 10, 11, 12, 24]) := by
  refine pm_start (lv := [some (.ref _), some (.int _), some (.int _), some (.int _), none]) (plainFor_of_name pf5) (Nat.le_of_ble_eq_true rfl) rfl ?_
  refine pm_aload_n dX5_begin_0 rfl ?_
  refine pm_iload_n dX5_begin_1 rfl ?_
  refine pm_putI (ci := 5) (j := 0) (n := 39) (by first | assumption | rfl) (by decide) (by decide) rfl fl_RX5_102 rfl rfl dX5_begin_2 ?_
  refine pm_aload_n dX5_begin_5 rfl ?_
  refine pm_iload_n dX5_begin_6 rfl ?_
  refine pm_putI (ci := 5) (j := 1) (n := 39) (by first | assumption | rfl) (by decide) (by decide) rfl fl_RX5_105 rfl rfl dX5_begin_7 ?_
  refine pm_aload_n dX5_begin_10 rfl ?_
  refine pm_iload_n dX5_begin_11 rfl ?_
  refine pm_putI (ci := 5) (j := 2) (n := 39) (by first | assumption | rfl) (by decide) (by decide) rfl fl_RX5_108 rfl rfl dX5_begin_12 ?_
  refine pm_aload_n dX5_begin_15 rfl ?_
  refine pm_iconst (x := 0) dX5_begin_16 rfl ?_
  refine pm_putI (ci := 5) (j := 6) (n := 39) (by first | assumption | rfl) (by decide) (by decide) rfl fl_RX5_111 rfl rfl dX5_begin_17 ?_
  refine pm_aload_n dX5_begin_20 rfl ?_
  refine pm_iconst (x := 0) dX5_begin_21 rfl ?_
  refine pm_putI (ci := 5) (j := 9) (n := 39) (by first | assumption | rfl) (by decide) (by decide) rfl fl_RX5_114 rfl rfl dX5_begin_22 ?_
  refine pm_aload_n dX5_begin_25 rfl ?_
  refine pm_iconst (x := 0) dX5_begin_26 rfl ?_
  refine pm_putI (ci := 5) (j := 10) (n := 39) (by first | assumption | rfl) (by decide) (by decide) rfl fl_RX5_117 rfl rfl dX5_begin_27 ?_
  refine pm_aload_n dX5_begin_30 rfl ?_
  refine pm_iconst (x := 0) dX5_begin_31 rfl ?_
  refine pm_putI (ci := 5) (j := 11) (n := 39) (by first | assumption | rfl) (by decide) (by decide) rfl fl_RX5_120 rfl rfl dX5_begin_32 ?_
  refine pm_aload_n dX5_begin_35 rfl ?_
  refine pm_iconst (x := 0) dX5_begin_36 rfl ?_
  refine pm_putI (ci := 5) (j := 12) (n := 39) (by first | assumption | rfl) (by decide) (by decide) rfl fl_RX5_123 rfl rfl dX5_begin_37 ?_
  refine pm_aload_n dX5_begin_40 rfl ?_
  refine pm_iconst (x := 0) dX5_begin_41 rfl ?_
  refine pm_putI (ci := 5) (j := 24) (n := 39) (by first | assumption | rfl) (by decide) (by decide) rfl fl_RX5_126 rfl rfl dX5_begin_42 ?_
  refine pm_iconst (x := 0) dX5_begin_45 rfl ?_
  refine pm_istore (lv' := [some (.ref _), some (.int _), some (.int _), some (.int _), some (.int _)]) dX5_begin_46 (by decide) rfl ?_
  exact beg_48 a b c 0 (by decide) _ (by simp [pm_s, upd]) (fun t ht => absurd ht (by omega)) (mfr_j (mfr_j (mfr_j (mfr_j (mfr_j (mfr_j (mfr_j (mfr_j (mfr_j (mfr_rf _ _ _) (j := 0) (by decide) _) (j := 1) (by decide) _) (j := 2) (by decide) _) (j := 6) (by decide) _) (j := 9) (by decide) _) (j := 10) (by decide) _) (j := 11) (by decide) _) (j := 12) (by decide) _) (j := 24) (by decide) _)

set_option maxRecDepth 4000 in
theorem c_X5_clear {w : pm_W} {S : ab_S} (hR : mo_R w S) (hK : ab_sm (fun p => (S.2.2.1 p).2.1 0) 4 = nI S.2.2.2.2.length) (a b c : Int32) : pm_C pm_L0 MX5_clear [.ref 83, .int a, .int b, .int c] w (pm_qi fun r w1 => r = (pu_clear S a b c).1 ∧ mo_R w1 (pu_clear S a b c).2 ∧ w1.1 83 25 = w.1 83 25 ∧ mfr w w1 [89, 90, 91, 92, 93, 95, 96, 97, 98] [0, 1, 2, 6, 9, 10, 11, 12, 24]) := by
  obtain ⟨g1, g2, g3, g4, g5⟩ := id hR
  refine pm_start (lv := [some (.ref _), some (.int _), some (.int _), some (.int _), none]) (plainFor_of_name pf5) (Nat.le_of_ble_eq_true rfl) rfl ?_
  refine pm_iload_n dX5_clear_0 rfl ?_
  refine pm_i2l dX5_clear_1 ?_
  refine pm_lconst (x := 1) dX5_clear_2 rfl ?_
  refine pm_ldc2 kc_RX5_129 dX5_clear_3 ?_
  refine pm_cSi (as := [.long _, .long _, .long _]) ml_RX5_96 (by decide) (Nat.le_of_ble_eq_true rfl) dX5_clear_6 (c_X5_in (n := a) (a := 1) (b := 12) pm_L0 _ rfl (by decide) (by decide)) (fun x1 w1 hq => ?_)
  obtain ⟨rfl, hw9⟩ := hq
  have hw9 := hw9.symm
  subst hw9
  refine pm_if_eq (tgt := 36) dX5_clear_9 (by decide) (fun c9 => ?_) (fun c9 => ?_)
  · refine pm_bipush (x := -102) dX5_clear_36 rfl ?_
    refine pm_iret dX5_clear_38 rfl ?_
    rw [pm_z_0] at c9
    rw [pu_clear, if_neg (by rintro ⟨z1, -, -⟩; rw [c9] at z1; cases z1)]
    exact ⟨rfl, hR, rfl, mfr_rf _ _ _⟩
  · refine pm_iload_n dX5_clear_12 rfl ?_
    refine pm_i2l dX5_clear_13 ?_
    refine pm_lconst (x := 1) dX5_clear_14 rfl ?_
    refine pm_ldc2 kc_RX5_94 dX5_clear_15 ?_
    refine pm_cSi (as := [.long _, .long _, .long _]) ml_RX5_96 (by decide) (Nat.le_of_ble_eq_true rfl) dX5_clear_18 (c_X5_in (n := b) (a := 1) (b := 3) pm_L0 _ rfl (by decide) (by decide)) (fun x1 w1 hq => ?_)
    obtain ⟨rfl, hw9⟩ := hq
    have hw9 := hw9.symm
    subst hw9
    refine pm_if_eq (tgt := 36) dX5_clear_21 (by decide) (fun c21 => ?_) (fun c21 => ?_)
    · refine pm_bipush (x := -102) dX5_clear_36 rfl ?_
      refine pm_iret dX5_clear_38 rfl ?_
      rw [pm_z_0] at c21
      rw [pu_clear, if_neg (by rintro ⟨-, z1, -⟩; rw [c21] at z1; cases z1)]
      exact ⟨rfl, hR, rfl, mfr_rf _ _ _⟩
    · refine pm_iload_n dX5_clear_24 rfl ?_
      refine pm_i2l dX5_clear_25 ?_
      refine pm_lconst (x := 1) dX5_clear_26 rfl ?_
      refine pm_ldc2 kc_RX5_131 dX5_clear_27 ?_
      refine pm_cSi (as := [.long _, .long _, .long _]) ml_RX5_96 (by decide) (Nat.le_of_ble_eq_true rfl) dX5_clear_30 (c_X5_in (n := c) (a := 1) (b := 4) pm_L0 _ rfl (by decide) (by decide)) (fun x1 w1 hq => ?_)
      obtain ⟨rfl, hw9⟩ := hq
      have hw9 := hw9.symm
      subst hw9
      refine pm_if_ne (tgt := 39) dX5_clear_33 (by decide) (fun c33 => ?_) (fun c33 => ?_)
      · refine pm_aload_n dX5_clear_39 rfl ?_
        refine pm_iconst (x := nI 0) dX5_clear_40 rfl ?_
        refine pm_cVi (as := [.int _]) (by first | assumption | rfl) (by decide) rfl ml_RX5_133 (by decide) (Nat.le_of_ble_eq_true rfl) dX5_clear_41 (c_X5_sum w (j := 0) (by decide)) (fun x1 w1 hq => ?_)
        obtain ⟨rfl, hw9⟩ := hq
        have hw9 := hw9.symm
        subst hw9
        refine pm_istore (lv' := [some (.ref _), some (.int _), some (.int _), some (.int _), some (.int _)]) dX5_clear_44 (by decide) rfl ?_
        refine pm_aload_n dX5_clear_46 rfl ?_
        refine pm_iload_n dX5_clear_47 rfl ?_
        refine pm_iload_n dX5_clear_48 rfl ?_
        refine pm_iload_n dX5_clear_49 rfl ?_
        refine pm_cVv (as := [.int _, .int _, .int _]) (by first | assumption | rfl) (by decide) rfl ml_RX5_90 (by decide) (Nat.le_of_ble_eq_true rfl) dX5_clear_50 (c_X5_begin _ a b c) (fun w2 hq => ?_)
        obtain ⟨qR, qf⟩ := hq
        refine pm_iload dX5_clear_53 rfl ?_
        refine pm_iret dX5_clear_55 rfl ?_
        rw [pm_z_1] at c9 c21 c33
        rw [pu_clear, if_pos ⟨c9, c21, c33⟩]
        refine ⟨?_, qR, qf.2.1 25 (by decide), qf⟩
        rw [← hK]
        simp only [ab_sm]
        rw [(g3 0 (by decide)).2.2.2.2.2.2.2.2 0 (by decide), (g3 1 (by decide)).2.2.2.2.2.2.2.2 0 (by decide), (g3 2 (by decide)).2.2.2.2.2.2.2.2 0 (by decide), (g3 3 (by decide)).2.2.2.2.2.2.2.2 0 (by decide)]
      · refine pm_bipush (x := -102) dX5_clear_36 rfl ?_
        refine pm_iret dX5_clear_38 rfl ?_
        rw [pm_z_0] at c33
        rw [pu_clear, if_neg (by rintro ⟨-, -, z1⟩; rw [c33] at z1; cases z1)]
        exact ⟨rfl, hR, rfl, mfr_rf _ _ _⟩

