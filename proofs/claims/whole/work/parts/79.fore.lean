set_option maxRecDepth 4000 in
theorem fin_111 {w : pm_W} {sp U s k : Nat} {z : Int32} {Q : Option Value → pm_W → Prop} (h29 : w.1 83 29 = nI U) (hU : U ≤ 7) (hs : s < 128) (h0 : w.1 83 0 = nI sp) (hsp : sp ≤ 12) (hk : k < 1000) {i : Nat} (hi : i < k) (ih : ∀ w1, mfr w w1 [103, 104] [] → (∀ t, t < 128 → zr (w1.1 103 t) (fo_sn sp U (i + 1) s t)) → pm_R pm_L0 MX5_findSets 38 [some (.ref 83), some (.int (nI s)), some (.int (nI k)), some (.int z), some (.int (nI (i + 1))), none] [] w1 Q) : ∀ j, j ≤ 128 → ∀ w1, mfr w w1 [103, 104] [] → (∀ t, t < 128 → zr (w1.1 104 t) (fo_sn sp U i s t ∨ ∃ u, fo_sn sp U i s u ∧ fo_st sp U u t)) → (∀ t, t < j → zr (w1.1 103 t) (fo_sn sp U i s t ∨ ∃ u, fo_sn sp U i s u ∧ fo_st sp U u t)) → pm_R pm_L0 MX5_findSets 111 [some (.ref 83), some (.int (nI s)), some (.int (nI k)), some (.int z), some (.int (nI i)), some (.int (nI j))] [] w1 Q := by
    refine up_loop 128 (fun j hj iy w1 hf hM hB => ?_)
    refine pm_iload dX5_findSets_111 rfl ?_
    refine pm_sipush (x := nI 128) dX5_findSets_113 rfl ?_
    refine pm_icmp_ge (tgt := 139) dX5_findSets_116 (by decide) (fun c116 => ?_) (fun c116 => ?_)
    · refine pm_iinc (y := _ + 1) (lv' := [some (.ref _), some (.int _), some (.int _), some (.int _), some (.int _), some (.int _)]) dX5_findSets_139 rfl rfl (by decide) rfl ?_
      refine pm_goto (tgt := 38) dX5_findSets_142 (by decide) ?_
      refine pm_fg (lv' := [some (.ref _), some (.int _), some (.int _), some (.int _), some (.int _), none]) (pm_le_k rfl (pm_le_k rfl (pm_le_k rfl (pm_le_k rfl (pm_le_k rfl (pm_le_n pm_le_0)))))) ?_
      have he9 : j = 128 := by
        rw [nI_leI (by omega) (by omega)] at c116
        omega
      subst he9
      rw [nI_1 i]
      exact ih w1 hf (fun t ht => zr_c (hB t ht) Iff.rfl)
    · have hlt : j < 128 := by
        rw [nI_leI (by omega) (by omega)] at c116
        omega
      refine pm_aload_n dX5_findSets_119 rfl ?_
      refine pm_getR (ci := 5) (j := 32) (n := 39) (by first | assumption | rfl) (by decide) (by decide) rfl fl_RX5_72 rfl (by first | assumption | rfl) dX5_findSets_120 ?_
      refine pm_iload dX5_findSets_123 rfl ?_
      refine pm_aload_n dX5_findSets_125 rfl ?_
      refine pm_getR (ci := 5) (j := 33) (n := 39) (by first | assumption | rfl) (by decide) (by decide) rfl fl_RX5_75 rfl (by first | assumption | rfl) dX5_findSets_126 ?_
      refine pm_iload dX5_findSets_129 rfl ?_
      refine pm_zaldN (by first | assumption | rfl) (by omega) (by first | decide | omega) dX5_findSets_131 ?_
      refine pm_zastN (by first | assumption | rfl) (by omega) (by first | decide | omega) (by exact zr_z (hM j hlt)) dX5_findSets_132 ?_
      refine pm_iinc (y := _ + 1) (lv' := [some (.ref _), some (.int _), some (.int _), some (.int _), some (.int _), some (.int _)]) dX5_findSets_133 rfl rfl (by decide) rfl ?_
      refine pm_goto (tgt := 111) dX5_findSets_136 (by decide) ?_
      rw [nI_1 j]
      refine iy hlt _ (mfr_c hf (by decide) (by decide) _) (fun t ht => ?_) (fun t ht => ?_)
      · rw [pm_s_ne (by decide)]; exact hM t ht
      · rw [pm_s_at]
        rcases Nat.lt_succ_iff_lt_or_eq.mp ht with q | rfl
        · rw [pk_un (by omega)]; exact hB t q
        · rw [pk_us]; exact hM t hlt

set_option maxRecDepth 4000 in
theorem fin_78 {w : pm_W} {sp U s k : Nat} {z : Int32} {Q : Option Value → pm_W → Prop} (h29 : w.1 83 29 = nI U) (hU : U ≤ 7) (hs : s < 128) (h0 : w.1 83 0 = nI sp) (hsp : sp ≤ 12) (hk : k < 1000) {i : Nat} (hi : i < k) (ih : ∀ w1, mfr w w1 [103, 104] [] → (∀ t, t < 128 → zr (w1.1 103 t) (fo_sn sp U (i + 1) s t)) → pm_R pm_L0 MX5_findSets 38 [some (.ref 83), some (.int (nI s)), some (.int (nI k)), some (.int z), some (.int (nI (i + 1))), none] [] w1 Q) : ∀ j, j ≤ 128 → ∀ w1, mfr w w1 [103, 104] [] → (∀ t, t < 128 → zr (w1.1 104 t) (fo_sn sp U i s t ∨ ∃ u, u < j ∧ fo_sn sp U i s u ∧ fo_st sp U u t)) → (∀ t, t < 128 → zr (w1.1 103 t) (fo_sn sp U i s t)) → pm_R pm_L0 MX5_findSets 78 [some (.ref 83), some (.int (nI s)), some (.int (nI k)), some (.int z), some (.int (nI i)), some (.int (nI j))] [] w1 Q := by
    refine up_loop 128 (fun j hj iy w1 hf hM hB => ?_)
    refine pm_iload dX5_findSets_78 rfl ?_
    refine pm_sipush (x := nI 128) dX5_findSets_80 rfl ?_
    refine pm_icmp_ge (tgt := 108) dX5_findSets_83 (by decide) (fun c83 => ?_) (fun c83 => ?_)
    · refine pm_iconst (x := 0) dX5_findSets_108 rfl ?_
      refine pm_istore (lv' := [some (.ref _), some (.int _), some (.int _), some (.int _), some (.int _), some (.int _)]) dX5_findSets_109 (by decide) rfl ?_
      have he9 : j = 128 := by
        rw [nI_leI (by omega) (by omega)] at c83
        omega
      subst he9
      refine fin_111 h29 hU hs h0 hsp hk hi ih 0 (Nat.zero_le _) w1 hf (fun t ht => zr_c (hM t ht) ?_) (fun t ht => absurd ht (by omega))
      constructor
      · rintro (h | ⟨u, -, h⟩)
        · exact Or.inl h
        · exact Or.inr ⟨u, h⟩
      · rintro (h | ⟨u, h1, h2⟩)
        · exact Or.inl h
        · exact Or.inr ⟨u, fo_ln8 hU hs h1, h1, h2⟩
    · have hlt : j < 128 := by
        rw [nI_leI (by omega) (by omega)] at c83
        omega
      refine pm_aload_n dX5_findSets_86 rfl ?_
      refine pm_getR (ci := 5) (j := 32) (n := 39) (by first | assumption | rfl) (by decide) (by decide) rfl fl_RX5_72 rfl (by first | assumption | rfl) dX5_findSets_87 ?_
      refine pm_iload dX5_findSets_90 rfl ?_
      refine pm_zaldN (by first | assumption | rfl) (by omega) (by first | decide | omega) dX5_findSets_92 ?_
      refine pm_if_eq (tgt := 102) dX5_findSets_93 (by decide) (fun c93 => ?_) (fun c93 => ?_)
      · refine pm_iinc (y := _ + 1) (lv' := [some (.ref _), some (.int _), some (.int _), some (.int _), some (.int _), some (.int _)]) dX5_findSets_102 rfl rfl (by decide) rfl ?_
        refine pm_goto (tgt := 78) dX5_findSets_105 (by decide) ?_
        have hno := zr_0 (hB j hlt) c93
        rw [nI_1 j]
        refine iy hlt w1 hf (fun t ht => zr_c (hM t ht) ?_) hB
        constructor
        · rintro (h | ⟨u, h1, h2⟩)
          · exact Or.inl h
          · exact Or.inr ⟨u, by omega, h2⟩
        · rintro (h | ⟨u, h1, h2, h3⟩)
          · exact Or.inl h
          · rcases Nat.lt_succ_iff_lt_or_eq.mp h1 with h1 | rfl
            · exact Or.inr ⟨u, h1, h2, h3⟩
            · exact absurd h2 hno
      · refine pm_aload_n dX5_findSets_96 rfl ?_
        refine pm_iload dX5_findSets_97 rfl ?_
        refine pm_cVv (as := [.int _]) (by first | assumption | rfl) (by decide) rfl ml_RX5_221 (by decide) (Nat.le_of_ble_eq_true rfl) dX5_findSets_99 (c_X5_addSets (sp := sp) (U := U) (s := j) ((hf.2.1 29 (by decide)).trans h29) hU hlt ((hf.2.1 0 (by decide)).trans h0) hsp hM) (fun w2 hq => ?_)
        obtain ⟨hf2, hM2⟩ := hq
        refine pm_iinc (y := _ + 1) (lv' := [some (.ref _), some (.int _), some (.int _), some (.int _), some (.int _), some (.int _)]) dX5_findSets_102 rfl rfl (by decide) rfl ?_
        refine pm_goto (tgt := 78) dX5_findSets_105 (by decide) ?_
        have hyes := zr_1 (hB j hlt) c93
        rw [nI_1 j]
        refine iy hlt w2 (mfr_tr hf (mfr_wd hf2 (by decide) (by decide))) (fun t ht => zr_c (hM2 t ht) ?_) (fun t ht => by rw [hf2.1 103 (by decide) (by decide)]; exact hB t ht)
        constructor
        · rintro ((h | ⟨u, h1, h2⟩) | h)
          · exact Or.inl h
          · exact Or.inr ⟨u, by omega, h2⟩
          · exact Or.inr ⟨j, by omega, hyes, h⟩
        · rintro (h | ⟨u, h1, h2, h3⟩)
          · exact Or.inl (Or.inl h)
          · rcases Nat.lt_succ_iff_lt_or_eq.mp h1 with h1 | rfl
            · exact Or.inl (Or.inr ⟨u, h1, h2, h3⟩)
            · exact Or.inr h3

set_option maxRecDepth 4000 in
theorem fin_47 {w : pm_W} {sp U s k : Nat} {z : Int32} {Q : Option Value → pm_W → Prop} (h29 : w.1 83 29 = nI U) (hU : U ≤ 7) (hs : s < 128) (h0 : w.1 83 0 = nI sp) (hsp : sp ≤ 12) (hk : k < 1000) {i : Nat} (hi : i < k) (ih : ∀ w1, mfr w w1 [103, 104] [] → (∀ t, t < 128 → zr (w1.1 103 t) (fo_sn sp U (i + 1) s t)) → pm_R pm_L0 MX5_findSets 38 [some (.ref 83), some (.int (nI s)), some (.int (nI k)), some (.int z), some (.int (nI (i + 1))), none] [] w1 Q) : ∀ j, j ≤ 128 → ∀ w1, mfr w w1 [103, 104] [] → (∀ t, t < j → zr (w1.1 104 t) (fo_sn sp U i s t)) → (∀ t, t < 128 → zr (w1.1 103 t) (fo_sn sp U i s t)) → pm_R pm_L0 MX5_findSets 47 [some (.ref 83), some (.int (nI s)), some (.int (nI k)), some (.int z), some (.int (nI i)), some (.int (nI j))] [] w1 Q := by
    refine up_loop 128 (fun j hj iy w1 hf hM hB => ?_)
    refine pm_iload dX5_findSets_47 rfl ?_
    refine pm_sipush (x := nI 128) dX5_findSets_49 rfl ?_
    refine pm_icmp_ge (tgt := 75) dX5_findSets_52 (by decide) (fun c52 => ?_) (fun c52 => ?_)
    · refine pm_iconst (x := 0) dX5_findSets_75 rfl ?_
      refine pm_istore (lv' := [some (.ref _), some (.int _), some (.int _), some (.int _), some (.int _), some (.int _)]) dX5_findSets_76 (by decide) rfl ?_
      have he9 : j = 128 := by
        rw [nI_leI (by omega) (by omega)] at c52
        omega
      subst he9
      exact fin_78 h29 hU hs h0 hsp hk hi ih 0 (Nat.zero_le _) w1 hf (fun t ht => zr_c (hM t ht) ⟨Or.inl, fun q => q.resolve_right (fun ⟨u, hu, _⟩ => absurd hu (by omega))⟩) hB
    · have hlt : j < 128 := by
        rw [nI_leI (by omega) (by omega)] at c52
        omega
      refine pm_aload_n dX5_findSets_55 rfl ?_
      refine pm_getR (ci := 5) (j := 33) (n := 39) (by first | assumption | rfl) (by decide) (by decide) rfl fl_RX5_75 rfl (by first | assumption | rfl) dX5_findSets_56 ?_
      refine pm_iload dX5_findSets_59 rfl ?_
      refine pm_aload_n dX5_findSets_61 rfl ?_
      refine pm_getR (ci := 5) (j := 32) (n := 39) (by first | assumption | rfl) (by decide) (by decide) rfl fl_RX5_72 rfl (by first | assumption | rfl) dX5_findSets_62 ?_
      refine pm_iload dX5_findSets_65 rfl ?_
      refine pm_zaldN (by first | assumption | rfl) (by omega) (by first | decide | omega) dX5_findSets_67 ?_
      refine pm_zastN (by first | assumption | rfl) (by omega) (by first | decide | omega) (by exact zr_z (hB j hlt)) dX5_findSets_68 ?_
      refine pm_iinc (y := _ + 1) (lv' := [some (.ref _), some (.int _), some (.int _), some (.int _), some (.int _), some (.int _)]) dX5_findSets_69 rfl rfl (by decide) rfl ?_
      refine pm_goto (tgt := 47) dX5_findSets_72 (by decide) ?_
      rw [nI_1 j]
      refine iy hlt _ (mfr_c hf (by decide) (by decide) _) (fun t ht => ?_) (fun t ht => ?_)
      · rw [pm_s_at]
        rcases Nat.lt_succ_iff_lt_or_eq.mp ht with q | rfl
        · rw [pk_un (by omega)]; exact hM t q
        · rw [pk_us]; exact hB t hlt
      · rw [pm_s_ne (by decide)]; exact hB t ht

set_option maxRecDepth 4000 in
theorem fin_38 {w : pm_W} {sp U s k : Nat} {z : Int32} {Q : Option Value → pm_W → Prop} (h29 : w.1 83 29 = nI U) (hU : U ≤ 7) (hs : s < 128) (h0 : w.1 83 0 = nI sp) (hsp : sp ≤ 12) (hk : k < 1000) (kk : ∀ w2, mfr w w2 [103, 104] [] → (∀ t, t < 128 → zr (w2.1 103 t) (fo_sn sp U k s t)) → pm_R pm_L0 MX5_findSets 148 [some (.ref 83), some (.int (nI s)), some (.int (nI k)), some (.int z), some (.int (nI (0))), none] [] w2 Q) : ∀ i, i ≤ k → ∀ w1, mfr w w1 [103, 104] [] → (∀ t, t < 128 → zr (w1.1 103 t) (fo_sn sp U i s t)) → pm_R pm_L0 MX5_findSets 38 [some (.ref 83), some (.int (nI s)), some (.int (nI k)), some (.int z), some (.int (nI (i))), none] [] w1 Q := by
    refine up_loop k (fun i hi9 ih w1 hf hB => ?_)
    refine pm_iload dX5_findSets_38 rfl ?_
    refine pm_iload_n dX5_findSets_40 rfl ?_
    refine pm_icmp_ge (tgt := 145) dX5_findSets_41 (by decide) (fun c41 => ?_) (fun c41 => ?_)
    · refine pm_iconst (x := 0) dX5_findSets_145 rfl ?_
      refine pm_istore (lv' := [some (.ref _), some (.int _), some (.int _), some (.int _), some (.int _), none]) dX5_findSets_146 (by decide) rfl ?_
      have he9 : i = k := by
        rw [nI_leI (by omega) (by omega)] at c41
        omega
      subst he9
      exact kk w1 hf hB
    · have hlt : i < k := by
        rw [nI_leI (by omega) (by omega)] at c41
        omega
      refine pm_iconst (x := 0) dX5_findSets_44 rfl ?_
      refine pm_istore (lv' := [some (.ref _), some (.int _), some (.int _), some (.int _), some (.int _), some (.int _)]) dX5_findSets_45 (by decide) rfl ?_
      exact fin_47 h29 hU hs h0 hsp hk hlt (fun w1 => ih hlt w1) 0 (Nat.zero_le _) w1 hf (fun t ht => absurd ht (by omega)) hB

set_option maxRecDepth 4000 in
theorem fin_3 {w : pm_W} {sp U s k : Nat} {z : Int32} {Q : Option Value → pm_W → Prop} (h29 : w.1 83 29 = nI U) (hU : U ≤ 7) (hs : s < 128) (h0 : w.1 83 0 = nI sp) (hsp : sp ≤ 12) (hk : k < 1000) (kk : ∀ w2, mfr w w2 [103, 104] [] → (∀ t, t < 128 → zr (w2.1 103 t) (fo_sn sp U k s t)) → pm_R pm_L0 MX5_findSets 148 [some (.ref 83), some (.int (nI s)), some (.int (nI k)), some (.int z), some (.int (nI (0))), none] [] w2 Q) : ∀ i, i ≤ 128 → ∀ w1, mfr w w1 [103, 104] [] → (∀ t, t < i → zr (w1.1 103 t) (t = s)) → pm_R pm_L0 MX5_findSets 3 [some (.ref 83), some (.int (nI s)), some (.int (nI k)), some (.int z), some (.int (nI (i))), none] [] w1 Q := by
    refine up_loop 128 (fun i hi9 iy w1 hf hB => ?_)
    refine pm_iload dX5_findSets_3 rfl ?_
    refine pm_sipush (x := nI 128) dX5_findSets_5 rfl ?_
    refine pm_icmp_ge (tgt := 35) dX5_findSets_8 (by decide) (fun c8 => ?_) (fun c8 => ?_)
    · refine pm_iconst (x := 0) dX5_findSets_35 rfl ?_
      refine pm_istore (lv' := [some (.ref _), some (.int _), some (.int _), some (.int _), some (.int _), none]) dX5_findSets_36 (by decide) rfl ?_
      have he9 : i = 128 := by
        rw [nI_leI (by omega) (by omega)] at c8
        omega
      subst he9
      exact fin_38 h29 hU hs h0 hsp hk kk 0 (Nat.zero_le _) w1 hf (fun t ht => zr_c (hB t ht) Iff.rfl)
    · have hlt : i < 128 := by
        rw [nI_leI (by omega) (by omega)] at c8
        omega
      refine pm_aload_n dX5_findSets_11 rfl ?_
      refine pm_getR (ci := 5) (j := 32) (n := 39) (by first | assumption | rfl) (by decide) (by decide) rfl fl_RX5_72 rfl (by first | assumption | rfl) dX5_findSets_12 ?_
      refine pm_iload dX5_findSets_15 rfl ?_
      refine pm_iload dX5_findSets_17 rfl ?_
      refine pm_iload_n dX5_findSets_19 rfl ?_
      refine pm_icmp_ne (tgt := 27) dX5_findSets_20 (by decide) (fun c20 => ?_) (fun c20 => ?_)
      · refine pm_iconst (x := 0) dX5_findSets_27 rfl ?_
        refine pm_zastN (by first | assumption | rfl) (by omega) (by first | decide | omega) (by first | exact Or.inl rfl | exact Or.inr rfl | assumption) dX5_findSets_28 ?_
        refine pm_iinc (y := _ + 1) (lv' := [some (.ref _), some (.int _), some (.int _), some (.int _), some (.int _), none]) dX5_findSets_29 rfl rfl (by decide) rfl ?_
        refine pm_goto (tgt := 3) dX5_findSets_32 (by decide) ?_
        rw [nI_1 i]
        refine iy hlt _ (mfr_c hf (by decide) (by decide) _) (fun t ht => ?_)
        rw [pm_s_at]
        rcases Nat.lt_succ_iff_lt_or_eq.mp ht with q | rfl
        · rw [pk_un (by omega)]; exact hB t q
        · rw [pk_us]
          rw [nI_eq (by omega) (by omega)] at c20
          exact Or.inr ⟨c20, rfl⟩
      · refine pm_iconst (x := 1) dX5_findSets_23 rfl ?_
        refine pm_goto (tgt := 28) dX5_findSets_24 (by decide) ?_
        refine pm_zastN (by first | assumption | rfl) (by omega) (by first | decide | omega) (by first | exact Or.inl rfl | exact Or.inr rfl | assumption) dX5_findSets_28 ?_
        refine pm_iinc (y := _ + 1) (lv' := [some (.ref _), some (.int _), some (.int _), some (.int _), some (.int _), none]) dX5_findSets_29 rfl rfl (by decide) rfl ?_
        refine pm_goto (tgt := 3) dX5_findSets_32 (by decide) ?_
        rw [nI_1 i]
        refine iy hlt _ (mfr_c hf (by decide) (by decide) _) (fun t ht => ?_)
        rw [pm_s_at]
        rcases Nat.lt_succ_iff_lt_or_eq.mp ht with q | rfl
        · rw [pk_un (by omega)]; exact hB t q
        · rw [pk_us]
          rw [nI_eq (by omega) (by omega)] at c20
          exact Or.inl ⟨c20, rfl⟩

/-- Of row s of the table at cell c the places are written, and no others. -/
def fd_o (c s : Nat) (w w1 : pm_W) : Prop := ∀ j, (j < 128 * s ∨ 128 * s + 128 ≤ j) → w1.1 c j = w.1 c j

set_option maxRecDepth 4000 in
theorem fin_148_0 {w : pm_W} {sp U s k : Nat} (hs : s < 128) : ∀ i, i ≤ 128 → ∀ w1, mfr w w1 [101, 103, 104] [] → (∀ t, t < 128 → zr (w1.1 103 t) (fo_sn sp U k s t)) → fd_o 101 s w w1 → (∀ t, t < i → zr (w1.1 101 (128 * s + t)) (fo_sn sp U k s t)) → pm_R pm_L0 MX5_findSets 148 [some (.ref 83), some (.int (nI s)), some (.int (nI k)), some (.int 0), some (.int (nI (i))), none] [] w1 (pm_qv fun w1 => mfr w w1 [101, 103, 104] [] ∧ fd_o 101 s w w1 ∧ ∀ t, t < 128 → zr (w1.1 101 (128 * s + t)) (fo_sn sp U k s t)) := by
    refine up_loop 128 (fun i hi9 iy w1 hf hB ho hT => ?_)
    refine pm_iload dX5_findSets_148 rfl ?_
    refine pm_sipush (x := nI 128) dX5_findSets_150 rfl ?_
    refine pm_icmp_ge (tgt := 209) dX5_findSets_153 (by decide) (fun c153 => ?_) (fun c153 => ?_)
    · refine pm_vret dX5_findSets_209 rfl ?_
      have he9 : i = 128 := by
        rw [nI_leI (by omega) (by omega)] at c153
        omega
      subst he9
      exact ⟨mfr_wd hf (by decide) (by decide), ho, hT⟩
    · have hlt : i < 128 := by
        rw [nI_leI (by omega) (by omega)] at c153
        omega
      refine pm_iload_n dX5_findSets_156 rfl ?_
      refine pm_if_eq (tgt := 183) dX5_findSets_157 (by decide) (fun c157 => ?_) (fun c157 => absurd (by decide) c157)
      refine pm_aload_n dX5_findSets_183 rfl ?_
      refine pm_getR (ci := 5) (j := 30) (n := 39) (by first | assumption | rfl) (by decide) (by decide) rfl fl_RX5_66 rfl (by first | assumption | rfl) dX5_findSets_184 ?_
      refine pm_sipush (x := nI 128) dX5_findSets_187 rfl ?_
      refine pm_iload_n dX5_findSets_190 rfl ?_
      refine pm_imul dX5_findSets_191 ?_
      refine pm_iload dX5_findSets_192 rfl ?_
      refine pm_iadd dX5_findSets_194 ?_
      refine pm_topi (nI (128 * s + i)) (by rw [pk_mul, nI_add]) ?_
      refine pm_aload_n dX5_findSets_195 rfl ?_
      refine pm_getR (ci := 5) (j := 32) (n := 39) (by first | assumption | rfl) (by decide) (by decide) rfl fl_RX5_72 rfl (by first | assumption | rfl) dX5_findSets_196 ?_
      refine pm_iload dX5_findSets_199 rfl ?_
      refine pm_zaldN (by first | assumption | rfl) (by omega) (by first | decide | omega) dX5_findSets_201 ?_
      refine pm_zastN (by first | assumption | rfl) (by omega) (by first | decide | omega) (by exact zr_z (hB i hlt)) dX5_findSets_202 ?_
      refine pm_iinc (y := _ + 1) (lv' := [some (.ref _), some (.int _), some (.int _), some (.int _), some (.int _), none]) dX5_findSets_203 rfl rfl (by decide) rfl ?_
      refine pm_goto (tgt := 148) dX5_findSets_206 (by decide) ?_
      rw [nI_1 i]
      refine iy hlt _ (mfr_c hf (by decide) (by decide) _) (fun t ht => by rw [pm_s_ne (by decide)]; exact hB t ht) (fun j hj => ?_) (fun t ht => ?_)
      · rw [pm_s_at, pk_un (by omega)]; exact ho j hj
      · rw [pm_s_at]
        rcases Nat.lt_succ_iff_lt_or_eq.mp ht with q | rfl
        · rw [pk_un (by omega)]; exact hT t q
        · rw [pk_us]; exact hB t hlt

set_option maxRecDepth 4000 in
theorem c_X5_findSets0 {w : pm_W} {sp U s k : Nat} (h29 : w.1 83 29 = nI U) (hU : U ≤ 7) (hs : s < 128) (h0 : w.1 83 0 = nI sp) (hsp : sp ≤ 12) (hk : k < 1000) : pm_C pm_L0 MX5_findSets [.ref 83, .int (nI s), .int (nI k), .int 0] w (pm_qv fun w1 => mfr w w1 [101, 103, 104] [] ∧ fd_o 101 s w w1 ∧ ∀ t, t < 128 → zr (w1.1 101 (128 * s + t)) (fo_sn sp U k s t)) := by
  refine pm_start (lv := [some (.ref _), some (.int _), some (.int _), some (.int _), none, none]) (plainFor_of_name pf5) (Nat.le_of_ble_eq_true rfl) rfl ?_
  refine pm_iconst (x := 0) dX5_findSets_0 rfl ?_
  refine pm_istore (lv' := [some (.ref _), some (.int _), some (.int _), some (.int _), some (.int _), none]) dX5_findSets_1 (by decide) rfl ?_
  exact fin_3 h29 hU hs h0 hsp hk (fun w2 hf2 hB2 => fin_148_0 hs 0 (by decide) w2 (mfr_wd hf2 (by decide) (by decide)) hB2 (fun j _ => by rw [hf2.1 101 (by decide) (by decide)]) (fun t ht => absurd ht (by omega))) 0 (by decide) w (mfr_rf _ _ _) (fun t ht => absurd ht (by omega))

set_option maxRecDepth 4000 in
theorem fin_148_1 {w : pm_W} {sp U s k : Nat} (hs : s < 128) : ∀ i, i ≤ 128 → ∀ w1, mfr w w1 [102, 103, 104] [] → (∀ t, t < 128 → zr (w1.1 103 t) (fo_sn sp U k s t)) → fd_o 102 s w w1 → (∀ t, t < i → zr (w1.1 102 (128 * s + t)) (fo_sn sp U k s t)) → pm_R pm_L0 MX5_findSets 148 [some (.ref 83), some (.int (nI s)), some (.int (nI k)), some (.int 1), some (.int (nI (i))), none] [] w1 (pm_qv fun w1 => mfr w w1 [102, 103, 104] [] ∧ fd_o 102 s w w1 ∧ ∀ t, t < 128 → zr (w1.1 102 (128 * s + t)) (fo_sn sp U k s t)) := by
    refine up_loop 128 (fun i hi9 iy w1 hf hB ho hT => ?_)
    refine pm_iload dX5_findSets_148 rfl ?_
    refine pm_sipush (x := nI 128) dX5_findSets_150 rfl ?_
    refine pm_icmp_ge (tgt := 209) dX5_findSets_153 (by decide) (fun c153 => ?_) (fun c153 => ?_)
    · refine pm_vret dX5_findSets_209 rfl ?_
      have he9 : i = 128 := by
        rw [nI_leI (by omega) (by omega)] at c153
        omega
      subst he9
      exact ⟨mfr_wd hf (by decide) (by decide), ho, hT⟩
    · have hlt : i < 128 := by
        rw [nI_leI (by omega) (by omega)] at c153
        omega
      refine pm_iload_n dX5_findSets_156 rfl ?_
      refine pm_if_eq (tgt := 183) dX5_findSets_157 (by decide) (fun c157 => absurd c157 (by decide)) (fun c157 => ?_)
      refine pm_aload_n dX5_findSets_160 rfl ?_
      refine pm_getR (ci := 5) (j := 31) (n := 39) (by first | assumption | rfl) (by decide) (by decide) rfl fl_RX5_69 rfl (by first | assumption | rfl) dX5_findSets_161 ?_
      refine pm_sipush (x := nI 128) dX5_findSets_164 rfl ?_
      refine pm_iload_n dX5_findSets_167 rfl ?_
      refine pm_imul dX5_findSets_168 ?_
      refine pm_iload dX5_findSets_169 rfl ?_
      refine pm_iadd dX5_findSets_171 ?_
      refine pm_topi (nI (128 * s + i)) (by rw [pk_mul, nI_add]) ?_
      refine pm_aload_n dX5_findSets_172 rfl ?_
      refine pm_getR (ci := 5) (j := 32) (n := 39) (by first | assumption | rfl) (by decide) (by decide) rfl fl_RX5_72 rfl (by first | assumption | rfl) dX5_findSets_173 ?_
      refine pm_iload dX5_findSets_176 rfl ?_
      refine pm_zaldN (by first | assumption | rfl) (by omega) (by first | decide | omega) dX5_findSets_178 ?_
      refine pm_zastN (by first | assumption | rfl) (by omega) (by first | decide | omega) (by exact zr_z (hB i hlt)) dX5_findSets_179 ?_
      refine pm_goto (tgt := 203) dX5_findSets_180 (by decide) ?_
      refine pm_iinc (y := _ + 1) (lv' := [some (.ref _), some (.int _), some (.int _), some (.int _), some (.int _), none]) dX5_findSets_203 rfl rfl (by decide) rfl ?_
      refine pm_goto (tgt := 148) dX5_findSets_206 (by decide) ?_
      rw [nI_1 i]
      refine iy hlt _ (mfr_c hf (by decide) (by decide) _) (fun t ht => by rw [pm_s_ne (by decide)]; exact hB t ht) (fun j hj => ?_) (fun t ht => ?_)
      · rw [pm_s_at, pk_un (by omega)]; exact ho j hj
      · rw [pm_s_at]
        rcases Nat.lt_succ_iff_lt_or_eq.mp ht with q | rfl
        · rw [pk_un (by omega)]; exact hT t q
        · rw [pk_us]; exact hB t hlt

set_option maxRecDepth 4000 in
theorem c_X5_findSets1 {w : pm_W} {sp U s k : Nat} (h29 : w.1 83 29 = nI U) (hU : U ≤ 7) (hs : s < 128) (h0 : w.1 83 0 = nI sp) (hsp : sp ≤ 12) (hk : k < 1000) : pm_C pm_L0 MX5_findSets [.ref 83, .int (nI s), .int (nI k), .int 1] w (pm_qv fun w1 => mfr w w1 [102, 103, 104] [] ∧ fd_o 102 s w w1 ∧ ∀ t, t < 128 → zr (w1.1 102 (128 * s + t)) (fo_sn sp U k s t)) := by
  refine pm_start (lv := [some (.ref _), some (.int _), some (.int _), some (.int _), none, none]) (plainFor_of_name pf5) (Nat.le_of_ble_eq_true rfl) rfl ?_
  refine pm_iconst (x := 0) dX5_findSets_0 rfl ?_
  refine pm_istore (lv' := [some (.ref _), some (.int _), some (.int _), some (.int _), some (.int _), none]) dX5_findSets_1 (by decide) rfl ?_
  exact fin_3 h29 hU hs h0 hsp hk (fun w2 hf2 hB2 => fin_148_1 hs 0 (by decide) w2 (mfr_wd hf2 (by decide) (by decide)) hB2 (fun j _ => by rw [hf2.1 102 (by decide) (by decide)]) (fun t ht => absurd ht (by omega))) 0 (by decide) w (mfr_rf _ _ _) (fun t ht => absurd ht (by omega))

