def mo_rl (rl : List (Nat × Nat)) : List (Nat × Nat) := (83, 37) :: (83, 36) :: (83, 35) :: (83, 34) :: (83, 33) :: (83, 32) :: (83, 31) :: (83, 30) :: (83, 28) :: (83, 23) :: (83, 22) :: (83, 21) :: (83, 20) :: (83, 19) :: (83, 18) :: (83, 17) :: (83, 16) :: (83, 15) :: (83, 14) :: (83, 13) :: (83, 8) :: (83, 7) :: (83, 5) :: (83, 4) :: (83, 3) :: rl
theorem arrV_cg {c : ClassId} {n : Nat} {f g : Nat → Value} (h : ∀ j, j < n → f j = g j) : arrV c n f = arrV c n g := by
  unfold arrV
  congr 1
  congr 1
  funext j
  exact h j.1 j.2
/-- Layouts that agree where a cell looks. -/
def lay_eq (L L' : pm_L) : Prop := L'.1 = L.1 ∧ ∀ k, ¬ ((L.1 k).1 = 10 ∨ (L.1 k).1 = 11 ∨ (L.1 k).1 = 12) → ∀ j, j < (L.1 k).2 → L'.2 k j = L.2 k j
theorem lay_sym {L L' : pm_L} (h : lay_eq L L') : lay_eq L' L := ⟨h.1.symm, fun k hk j hj => by rw [h.1] at hk hj; exact (h.2 k hk j hj).symm⟩
theorem lay_at {L L' : pm_L} (h : lay_eq L L') {D : va_G} {G : pm_G} {w : pm_W} {k : Nat} {H : Heap} (h1 : va_at D pm_cl (G.1 k, pm_cell L G w k) H) : va_at D pm_cl (G.1 k, pm_cell L' G w k) H := by
  by_cases q : (L.1 k).1 = 10 ∨ (L.1 k).1 = 11 ∨ (L.1 k).1 = 12
  · have e : pm_cell L' G w k = pm_cell L G w k := by
      unfold pm_cell
      rw [h.1]
      rcases q with q | q | q <;> simp [q]
    rw [e]; exact h1
  · have hj := h.2 k q
    by_cases q3 : (L.1 k).1 = 13
    · rw [pm_cell_h (n := (L.1 k).2) (by rw [← q3])] at h1
      rw [pm_cell_h (n := (L.1 k).2) (by rw [h.1, ← q3])]
      show H[G.1 k]? = some (vp_cell _ _)
      have h1 : H[G.1 k]? = some (vp_cell _ _) := h1
      rw [h1, vp_cell_q, vp_cell_q]
      exact congrArg some (arrV_cg (fun j hj2 => by rw [hj j hj2]))
    · by_cases q4 : (L.1 k).1 = 14
      · rw [pm_cell_k (n := (L.1 k).2) (by rw [← q4])] at h1
        rw [pm_cell_k (n := (L.1 k).2) (by rw [h.1, ← q4])]
        show H[G.1 k]? = some (vp_cell _ _)
        have h1 : H[G.1 k]? = some (vp_cell _ _) := h1
        rw [h1, vp_cell_q, vp_cell_q]
        exact congrArg some (arrV_cg (fun j hj2 => by rw [hj j hj2]))
      · have e : pm_cell L' G w k = pm_cell L G w k := by
          unfold pm_cell
          rw [h.1, if_neg (fun z => q (Or.inl z)), if_neg (fun z => q (Or.inr (Or.inl z))), if_neg (fun z => q (Or.inr (Or.inr z))), if_neg q3, if_neg q4, if_neg (fun z => q (Or.inl z)), if_neg (fun z => q (Or.inr (Or.inl z))), if_neg (fun z => q (Or.inr (Or.inr z))), if_neg q3, if_neg q4]
          congr 2
          refine List.map_congr_left (fun j hj2 => ?_)
          unfold pm_fv
          rw [hj j (List.mem_range.mp hj2)]
        rw [e]; exact h1
theorem lay_ks {L L' : pm_L} (h : lay_eq L L') : pm_ks L' = pm_ks L := by unfold pm_ks; rw [h.1]
theorem lay_P {L L' : pm_L} (h : lay_eq L L') {D : va_G} {G : pm_G} {w : pm_W} {H : Heap} (h1 : va_P D pm_cl (pm_cells L G w) H) : va_P D pm_cl (pm_cells L' G w) H := by
  intro i q hq
  obtain ⟨k, a1, a2, rfl⟩ := pm_cells_id hq
  rw [lay_ks h] at a1
  refine lay_at h (h1 i _ ?_)
  unfold pm_cells
  rw [List.getElem?_map, a1]
  rfl
theorem lay_A {L L' : pm_L} (h : lay_eq L L') (G : pm_G) : pm_A L' G = pm_A L G := by unfold pm_A; rw [lay_ks h]
theorem lay_ok {L L' : pm_L} (h : lay_eq L L') {G : pm_G} (k : pm_ok L G) : pm_ok L' G := by
  unfold pm_ok
  rw [lay_ks h, h.1]
  exact k
theorem lay_K {L L' : pm_L} (h : lay_eq L L') {D : va_G} {G : pm_G} {U : State} (k : pm_K L D G U) : pm_K L' D G U := by
  obtain ⟨k1, k2, k3⟩ := k
  refine ⟨k1, ?_, k3⟩
  unfold pm_S at k2 ⊢
  rw [lay_A h]
  exact k2
theorem lay_C {L L' : pm_L} (h : lay_eq L L') {M : pm_M} {as : List Value} {w : pm_W} {Q : Option Value → pm_W → Prop} (hC : pm_C L M as w Q) : pm_C L' M as w Q := by
  intro l D G ho
  have h1 := hC l D G (lay_ok (lay_sym h) ho)
  rw [lay_A h]
  intro p e ha hc hk s m args below hf hap hP hK
  obtain ⟨rfl, hP1, hK1⟩ := hP
  obtain ⟨t, o, h2, h3, h4, ⟨⟨r, w', e1, e2, e3⟩, e4⟩, h5⟩ := h1 p e ha hc hk s m _ below hf hap ⟨rfl, lay_P (lay_sym h) hP1, lay_K (lay_sym h) hK1⟩ hK
  exact ⟨t, o, h2, h3, h4, ⟨⟨r, w', e1, e2, lay_P h e3⟩, by rw [lay_A h]; exact e4⟩, h5⟩
theorem lay_full : lay_eq pm_L0 (lm 109 (mo_rl ra_rl)) := by
  refine ⟨?_, fun k hk j hj => ?_⟩
  · funext k
    show (if k < 109 then pm_L0.1 k else (99, 0)) = pm_L0.1 k
    by_cases q : k < 109
    · rw [if_pos q]
    · rw [if_neg q]
      show _ = L0_lay.getD k (99, 0)
      rw [List.getD_eq_getElem?_getD, List.getElem?_eq_none (by show 109 ≤ k; omega)]
      rfl
  · by_cases q : k < 109
    · have key : ∀ k, k < 109 → ¬ ((pm_L0.1 k).1 = 10 ∨ (pm_L0.1 k).1 = 11 ∨ (pm_L0.1 k).1 = 12) → ∀ j, j < (pm_L0.1 k).2 → (lm 109 (mo_rl ra_rl)).2 k j = pm_L0.2 k j := by decide +kernel
      exact key k q hk j hj
    · have e : pm_L0.1 k = (99, 0) := by
        show L0_lay.getD k (99, 0) = _
        rw [List.getD_eq_getElem?_getD, List.getElem?_eq_none (by show 109 ≤ k; omega)]
        rfl
      rw [e] at hj
      exact absurd hj (by omega)

set_option maxRecDepth 8000 in
theorem g_X5_init (w : pm_W) : pg_C MX5_init 25 35073 [.ref 83] 84 ra_rl w 109 (mo_rl ra_rl) (fun w1 => mm_R w1 (ab_beg 4 1 2) (fun _ => none) ∧ fr1 w w1 83 109) := by
  refine pg_start (lv := [some (.ref _), none]) (plainFor_of_name pf5) rfl rfl (Nat.le_of_ble_eq_true rfl) rfl ?_
  refine pg_aload_n dX5_init_0 rfl ?_
  refine pg_objInit dX5_init_1 oi_RX5 oi_i oi_c (by decide) (Nat.le_of_ble_eq_true rfl) ?_
  refine pg_aload_n dX5_init_4 rfl ?_
  refine pg_bipush (x := 12) dX5_init_5 rfl ?_
  refine pg_newI (N := 12) (by omega) dX5_init_7 aw_int rfl rfl (by omega) (by first | decide | omega) (by omega) (by omega) (pg_lr (by omega) (pg_ln pg_l0)) (pg_sr (by omega) pg_s0) ?_
  refine pg_putR dX5_init_9 (by decide) rfl (by omega) (by omega) (by decide) fl_RX5_7 rfl rfl rfl rfl ?_
  refine pg_aload_n dX5_init_12 rfl ?_
  refine pg_bipush (x := 12) dX5_init_13 rfl ?_
  refine pg_newI (N := 12) (by omega) dX5_init_15 aw_int rfl rfl (by omega) (by first | decide | omega) (by omega) (by omega) (pg_lr (by omega) (pg_ln pg_l0)) (pg_sr (by omega) pg_s0) ?_
  refine pg_putR dX5_init_17 (by decide) rfl (by omega) (by omega) (by decide) fl_RX5_13 rfl rfl rfl rfl ?_
  refine pg_aload_n dX5_init_20 rfl ?_
  refine pg_bipush (x := 12) dX5_init_21 rfl ?_
  refine pg_newZ (N := 12) (by omega) dX5_init_23 aw_boolean rfl rfl (by omega) (by first | decide | omega) (by omega) (by omega) (pg_lr (by omega) (pg_ln pg_l0)) (pg_sr (by omega) pg_s0) ?_
  refine pg_putR dX5_init_25 (by decide) rfl (by omega) (by omega) (by decide) fl_RX5_16 rfl rfl rfl rfl ?_
  refine pg_aload_n dX5_init_28 rfl ?_
  refine pg_bipush (x := 16) dX5_init_29 rfl ?_
  refine pg_newI (N := 16) (by omega) dX5_init_31 aw_int rfl rfl (by omega) (by first | decide | omega) (by omega) (by omega) (pg_lr (by omega) (pg_ln pg_l0)) (pg_sr (by omega) pg_s0) ?_
  refine pg_putR dX5_init_33 (by decide) rfl (by omega) (by omega) (by decide) fl_RX5_20 rfl rfl rfl rfl ?_
  refine pg_aload_n dX5_init_36 rfl ?_
  refine pg_bipush (x := 16) dX5_init_37 rfl ?_
  refine pg_newI (N := 16) (by omega) dX5_init_39 aw_int rfl rfl (by omega) (by first | decide | omega) (by omega) (by omega) (pg_lr (by omega) (pg_ln pg_l0)) (pg_sr (by omega) pg_s0) ?_
  refine pg_putR dX5_init_41 (by decide) rfl (by omega) (by omega) (by decide) fl_RX5_23 rfl rfl rfl rfl ?_
  refine pg_aload_n dX5_init_44 rfl ?_
  refine pg_iconst (x := 4) dX5_init_45 rfl ?_
  refine pg_newI (N := 4) (by omega) dX5_init_46 aw_int rfl rfl (by omega) (by first | decide | omega) (by omega) (by omega) (pg_lr (by omega) (pg_ln pg_l0)) (pg_sr (by omega) pg_s0) ?_
  refine pg_putR dX5_init_48 (by decide) rfl (by omega) (by omega) (by decide) fl_RX5_26 rfl rfl rfl rfl ?_
  refine pg_aload_n dX5_init_51 rfl ?_
  refine pg_iconst (x := 4) dX5_init_52 rfl ?_
  refine pg_newI (N := 4) (by omega) dX5_init_53 aw_int rfl rfl (by omega) (by first | decide | omega) (by omega) (by omega) (pg_lr (by omega) (pg_ln pg_l0)) (pg_sr (by omega) pg_s0) ?_
  refine pg_putR dX5_init_55 (by decide) rfl (by omega) (by omega) (by decide) fl_RX5_29 rfl rfl rfl rfl ?_
  refine pg_aload_n dX5_init_58 rfl ?_
  refine pg_iconst (x := 4) dX5_init_59 rfl ?_
  refine pg_newI (N := 4) (by omega) dX5_init_60 aw_int rfl rfl (by omega) (by first | decide | omega) (by omega) (by omega) (pg_lr (by omega) (pg_ln pg_l0)) (pg_sr (by omega) pg_s0) ?_
  refine pg_putR dX5_init_62 (by decide) rfl (by omega) (by omega) (by decide) fl_RX5_32 rfl rfl rfl rfl ?_
  refine pg_aload_n dX5_init_65 rfl ?_
  refine pg_iconst (x := 4) dX5_init_66 rfl ?_
  refine pg_newI (N := 4) (by omega) dX5_init_67 aw_int rfl rfl (by omega) (by first | decide | omega) (by omega) (by omega) (pg_lr (by omega) (pg_ln pg_l0)) (pg_sr (by omega) pg_s0) ?_
  refine pg_putR dX5_init_69 (by decide) rfl (by omega) (by omega) (by decide) fl_RX5_35 rfl rfl rfl rfl ?_
  refine pg_aload_n dX5_init_72 rfl ?_
  refine pg_iconst (x := 4) dX5_init_73 rfl ?_
  refine pg_newI (N := 4) (by omega) dX5_init_74 aw_int rfl rfl (by omega) (by first | decide | omega) (by omega) (by omega) (pg_lr (by omega) (pg_ln pg_l0)) (pg_sr (by omega) pg_s0) ?_
  refine pg_putR dX5_init_76 (by decide) rfl (by omega) (by omega) (by decide) fl_RX5_38 rfl rfl rfl rfl ?_
  refine pg_aload_n dX5_init_79 rfl ?_
  refine pg_iconst (x := 4) dX5_init_80 rfl ?_
  refine pg_newI (N := 4) (by omega) dX5_init_81 aw_int rfl rfl (by omega) (by first | decide | omega) (by omega) (by omega) (pg_lr (by omega) (pg_ln pg_l0)) (pg_sr (by omega) pg_s0) ?_
  refine pg_putR dX5_init_83 (by decide) rfl (by omega) (by omega) (by decide) fl_RX5_41 rfl rfl rfl rfl ?_
  refine pg_aload_n dX5_init_86 rfl ?_
  refine pg_iconst (x := 4) dX5_init_87 rfl ?_
  refine pg_newI (N := 4) (by omega) dX5_init_88 aw_int rfl rfl (by omega) (by first | decide | omega) (by omega) (by omega) (pg_lr (by omega) (pg_ln pg_l0)) (pg_sr (by omega) pg_s0) ?_
  refine pg_putR dX5_init_90 (by decide) rfl (by omega) (by omega) (by decide) fl_RX5_44 rfl rfl rfl rfl ?_
  refine pg_aload_n dX5_init_93 rfl ?_
  refine pg_iconst (x := 4) dX5_init_94 rfl ?_
  refine pg_newI (N := 4) (by omega) dX5_init_95 aw_int rfl rfl (by omega) (by first | decide | omega) (by omega) (by omega) (pg_lr (by omega) (pg_ln pg_l0)) (pg_sr (by omega) pg_s0) ?_
  refine pg_putR dX5_init_97 (by decide) rfl (by omega) (by omega) (by decide) fl_RX5_47 rfl rfl rfl rfl ?_
  refine pg_aload_n dX5_init_100 rfl ?_
  refine pg_sipush (x := 256) dX5_init_101 rfl ?_
  refine pg_newI (N := 256) (by omega) dX5_init_104 aw_int rfl rfl (by omega) (by first | decide | omega) (by omega) (by omega) (pg_lr (by omega) (pg_ln pg_l0)) (pg_sr (by omega) pg_s0) ?_
  refine pg_putR dX5_init_106 (by decide) rfl (by omega) (by omega) (by decide) fl_RX5_50 rfl rfl rfl rfl ?_
  refine pg_aload_n dX5_init_109 rfl ?_
  refine pg_bipush (x := 28) dX5_init_110 rfl ?_
  refine pg_newI (N := 28) (by omega) dX5_init_112 aw_int rfl rfl (by omega) (by first | decide | omega) (by omega) (by omega) (pg_lr (by omega) (pg_ln pg_l0)) (pg_sr (by omega) pg_s0) ?_
  refine pg_putR dX5_init_114 (by decide) rfl (by omega) (by omega) (by decide) fl_RX5_53 rfl rfl rfl rfl ?_
  refine pg_aload_n dX5_init_117 rfl ?_
  refine pg_sipush (x := 200) dX5_init_118 rfl ?_
  refine pg_newI (N := 200) (by omega) dX5_init_121 aw_int rfl rfl (by omega) (by first | decide | omega) (by omega) (by omega) (pg_lr (by omega) (pg_ln pg_l0)) (pg_sr (by omega) pg_s0) ?_
  refine pg_putR dX5_init_123 (by decide) rfl (by omega) (by omega) (by decide) fl_RX5_56 rfl rfl rfl rfl ?_
  refine pg_aload_n dX5_init_126 rfl ?_
  refine pg_iconst (x := (-1)) dX5_init_127 rfl ?_
  refine pg_putI dX5_init_128 (by decide) rfl (by omega) (by decide) fl_RX5_59 rfl rfl ?_
  refine pg_name (fun w2 => w2.1 83 25 = -1 ∧ fr1 w w2 83 109) ⟨by rw [pm_s_at, pk_us], fr1_s (fr1_s (fr1_s (fr1_s (fr1_s (fr1_s (fr1_s (fr1_s (fr1_s (fr1_s (fr1_s (fr1_s (fr1_s (fr1_s (fr1_s (fr1_s (fr1_s (fr1_rf w 83 109) (by omega) (by omega)) (by omega) (by omega)) (by omega) (by omega)) (by omega) (by omega)) (by omega) (by omega)) (by omega) (by omega)) (by omega) (by omega)) (by omega) (by omega)) (by omega) (by omega)) (by omega) (by omega)) (by omega) (by omega)) (by omega) (by omega)) (by omega) (by omega)) (by omega) (by omega)) (by omega) (by omega)) (by omega) (by omega)) (by omega) (by omega)⟩ (fun w2 hw2 => ?_)
  refine pg_aload_n dX5_init_131 rfl ?_
  refine pg_bipush (x := 7) dX5_init_132 rfl ?_
  refine pg_newI (N := 7) (by omega) dX5_init_134 aw_int rfl rfl (by omega) (by first | decide | omega) (by omega) (by omega) (pg_lr (by omega) (pg_ln pg_l0)) (pg_sr (by omega) pg_s0) ?_
  refine pg_putR dX5_init_136 (by decide) rfl (by omega) (by omega) (by decide) fl_RX5_63 rfl rfl rfl rfl ?_
  refine pg_aload_n dX5_init_139 rfl ?_
  refine pg_sipush (x := 16384) dX5_init_140 rfl ?_
  refine pg_newZ (N := 16384) (by omega) dX5_init_143 aw_boolean rfl rfl (by omega) (by first | decide | omega) (by omega) (by omega) (pg_lr (by omega) (pg_ln pg_l0)) (pg_sr (by omega) pg_s0) ?_
  refine pg_putR dX5_init_145 (by decide) rfl (by omega) (by omega) (by decide) fl_RX5_66 rfl rfl rfl rfl ?_
  refine pg_aload_n dX5_init_148 rfl ?_
  refine pg_sipush (x := 16384) dX5_init_149 rfl ?_
  refine pg_newZ (N := 16384) (by omega) dX5_init_152 aw_boolean rfl rfl (by omega) (by first | decide | omega) (by omega) (by omega) (pg_lr (by omega) (pg_ln pg_l0)) (pg_sr (by omega) pg_s0) ?_
  refine pg_putR dX5_init_154 (by decide) rfl (by omega) (by omega) (by decide) fl_RX5_69 rfl rfl rfl rfl ?_
  refine pg_aload_n dX5_init_157 rfl ?_
  refine pg_sipush (x := 128) dX5_init_158 rfl ?_
  refine pg_newZ (N := 128) (by omega) dX5_init_161 aw_boolean rfl rfl (by omega) (by first | decide | omega) (by omega) (by omega) (pg_lr (by omega) (pg_ln pg_l0)) (pg_sr (by omega) pg_s0) ?_
  refine pg_putR dX5_init_163 (by decide) rfl (by omega) (by omega) (by decide) fl_RX5_72 rfl rfl rfl rfl ?_
  refine pg_aload_n dX5_init_166 rfl ?_
  refine pg_sipush (x := 128) dX5_init_167 rfl ?_
  refine pg_newZ (N := 128) (by omega) dX5_init_170 aw_boolean rfl rfl (by omega) (by first | decide | omega) (by omega) (by omega) (pg_lr (by omega) (pg_ln pg_l0)) (pg_sr (by omega) pg_s0) ?_
  refine pg_putR dX5_init_172 (by decide) rfl (by omega) (by omega) (by decide) fl_RX5_75 rfl rfl rfl rfl ?_
  refine pg_aload_n dX5_init_175 rfl ?_
  refine pg_sipush (x := 128) dX5_init_176 rfl ?_
  refine pg_newI (N := 128) (by omega) dX5_init_179 aw_int rfl rfl (by omega) (by first | decide | omega) (by omega) (by omega) (pg_lr (by omega) (pg_ln pg_l0)) (pg_sr (by omega) pg_s0) ?_
  refine pg_putR dX5_init_181 (by decide) rfl (by omega) (by omega) (by decide) fl_RX5_78 rfl rfl rfl rfl ?_
  refine pg_aload_n dX5_init_184 rfl ?_
  refine pg_sipush (x := 128) dX5_init_185 rfl ?_
  refine pg_newI (N := 128) (by omega) dX5_init_188 aw_int rfl rfl (by omega) (by first | decide | omega) (by omega) (by omega) (pg_lr (by omega) (pg_ln pg_l0)) (pg_sr (by omega) pg_s0) ?_
  refine pg_putR dX5_init_190 (by decide) rfl (by omega) (by omega) (by decide) fl_RX5_81 rfl rfl rfl rfl ?_
  refine pg_aload_n dX5_init_193 rfl ?_
  refine pg_iconst (x := 2) dX5_init_194 rfl ?_
  refine pg_newI (N := 2) (by omega) dX5_init_195 aw_int rfl rfl (by omega) (by first | decide | omega) (by omega) (by omega) (pg_lr (by omega) (pg_ln pg_l0)) (pg_sr (by omega) pg_s0) ?_
  refine pg_putR dX5_init_197 (by decide) rfl (by omega) (by omega) (by decide) fl_RX5_84 rfl rfl rfl rfl ?_
  refine pg_aload_n dX5_init_200 rfl ?_
  refine pg_sipush (x := 1200) dX5_init_201 rfl ?_
  refine pg_newI (N := 1200) (by omega) dX5_init_204 aw_int rfl rfl (by omega) (by first | decide | omega) (by omega) (by omega) (pg_lr (by omega) (pg_ln pg_l0)) (pg_sr (by omega) pg_s0) ?_
  refine pg_putR dX5_init_206 (by decide) rfl (by omega) (by omega) (by decide) fl_RX5_87 rfl rfl rfl rfl ?_
  refine pg_name (fun w3 => w3.1 83 25 = -1 ∧ fr1 w w3 83 109) ⟨(congrFun ((fr1_s (fr1_s (fr1_s (fr1_s (fr1_s (fr1_s (fr1_s (fr1_s (fr1_s (fr1_rf w2 84 109) (by omega) (by omega)) (by omega) (by omega)) (by omega) (by omega)) (by omega) (by omega)) (by omega) (by omega)) (by omega) (by omega)) (by omega) (by omega)) (by omega) (by omega)) (by omega) (by omega) : fr1 w2 _ 84 109) 83 (Or.inl (by decide))) 25).trans hw2.1, fr1_s (fr1_s (fr1_s (fr1_s (fr1_s (fr1_s (fr1_s (fr1_s (fr1_s (hw2.2) (by omega) (by omega)) (by omega) (by omega)) (by omega) (by omega)) (by omega) (by omega)) (by omega) (by omega)) (by omega) (by omega)) (by omega) (by omega)) (by omega) (by omega)) (by omega) (by omega)⟩ (fun w3 hw3 => ?_)
  refine pg_aload_n dX5_init_209 rfl ?_
  refine pg_iconst (x := 4) dX5_init_210 rfl ?_
  refine pg_iconst (x := 1) dX5_init_211 rfl ?_
  refine pg_iconst (x := 2) dX5_init_212 rfl ?_
  refine pg_callV (as := [.int _, .int _, .int _]) dX5_init_213 rfl (by omega) (by decide) rfl ml_RX5_90 (by decide) (Nat.le_of_ble_eq_true rfl) (lay_C lay_full (c_X5_begin w3 4 1 2)) ⟨by omega, by omega⟩ (fun r w9 hq9 => ?_)
  obtain ⟨rfl, hq, hqf⟩ := hq9
  refine pg_iconst (x := 0) dX5_init_216 rfl ?_
  refine pg_istore_n (lv' := [some (.ref 83), some (.int (nI 0))]) dX5_init_217 (by decide) rfl ?_
  refine pg_iload_n dX5_init_218 rfl ?_
  refine pg_iconst (x := 2) dX5_init_219 rfl ?_
  refine pg_icmp_ge (tgt := 236) dX5_init_220 (by decide) (fun c => absurd c (by decide)) (fun _ => ?_)
  refine pg_aload_n dX5_init_223 rfl ?_
  refine pg_getR dX5_init_224 (by decide) rfl (by omega) (by decide) fl_RX5_84 rfl (by first | decide | simp [as_rl, hd_rl]) rfl ?_
  refine pg_iload_n dX5_init_227 rfl ?_
  refine pg_iconst (x := (-1)) dX5_init_228 rfl ?_
  refine pg_iast dX5_init_229 rfl (by omega) (by decide) (by decide) ?_
  refine pg_iinc (y := nI 1) (lv' := [some (.ref 83), some (.int (nI 1))]) dX5_init_230 rfl (by decide) (by decide) rfl ?_
  refine pg_goto (tgt := 218) dX5_init_233 (by decide) ?_
  refine pg_iload_n dX5_init_218 rfl ?_
  refine pg_iconst (x := 2) dX5_init_219 rfl ?_
  refine pg_icmp_ge (tgt := 236) dX5_init_220 (by decide) (fun c => absurd c (by decide)) (fun _ => ?_)
  refine pg_aload_n dX5_init_223 rfl ?_
  refine pg_getR dX5_init_224 (by decide) rfl (by omega) (by decide) fl_RX5_84 rfl (by first | decide | simp [as_rl, hd_rl]) rfl ?_
  refine pg_iload_n dX5_init_227 rfl ?_
  refine pg_iconst (x := (-1)) dX5_init_228 rfl ?_
  refine pg_iast dX5_init_229 rfl (by omega) (by decide) (by decide) ?_
  refine pg_iinc (y := nI 2) (lv' := [some (.ref 83), some (.int (nI 2))]) dX5_init_230 rfl (by decide) (by decide) rfl ?_
  refine pg_goto (tgt := 218) dX5_init_233 (by decide) ?_
  refine pg_iload_n dX5_init_218 rfl ?_
  refine pg_iconst (x := 2) dX5_init_219 rfl ?_
  refine pg_icmp_ge (tgt := 236) dX5_init_220 (by decide) (fun _ => ?_) (fun c => absurd (by decide) c)
  refine pg_vret (st := []) dX5_init_236 ?_ (by omega) rfl (by omega) (by omega)
  refine ⟨⟨mo_cong hq (fun a q1 q2 => ?_) (fun j hj => ?_), ?_, fun s hs => ⟨fun _ => ?_, fun T hT => by cases hT⟩⟩, fr1_s (fr1_s (fr1_tr (hw3.2) (fun a q => hqf.1 a (by omega) (by simp; omega))) (by omega) (by omega)) (by omega) (by omega)⟩
  · rw [pm_s_ne (by omega), pm_s_ne (by omega)]
  · rw [pm_s_ne (by decide), pm_s_ne (by decide)]
  · rw [pm_s_ne (by decide), pm_s_ne (by decide)]; exact (hqf.2.1 25 (by decide)).trans hw3.1
  · rcases (show s = 0 ∨ s = 1 by omega) with rfl | rfl
    · rw [pm_s_at, pk_un (by decide), pm_s_at, pk_us]; decide
    · rw [pm_s_at, pk_us]; decide

