theorem pg_zero {n : Nat} {w : pm_W} : ∀ k, k < n → (pm_s w n (fun _ => 0)).1 k = w.1 k ∧ (pm_s w n (fun _ => 0)).2 k = w.2 k := fun k hk => ⟨pm_s_ne (by omega), rfl⟩
theorem pg_zeroL {n : Nat} {w : pm_W} : ∀ k, k < n → (pm_sL w n (fun _ => 0)).1 k = w.1 k ∧ (pm_sL w n (fun _ => 0)).2 k = w.2 k := fun k hk => ⟨rfl, pm_sL_ne (by omega)⟩
theorem pg_zeroB {n : Nat} {w : pm_W} : ∀ k, k < n → (pm_sL (pm_s w n (fun _ => 0)) n (fun _ => 0)).1 k = w.1 k ∧ (pm_sL (pm_s w n (fun _ => 0)) n (fun _ => 0)).2 k = w.2 k := fun k hk => ⟨pm_s_ne (by omega), pm_sL_ne (by omega)⟩

theorem pg_newI {M : pm_M} {mc ms n0 n1 : Nat} {rl1 : List (Nat × Nat)} {Q : pm_W → Prop} {pc : Nat} {lv : List (Option Value)} {st : List Value} {n : Nat} {rl : List (Nat × Nat)} {w : pm_W} {kc ks : Nat} {N : Nat} {x : Int32} (hn0 : n0 ≤ n) (hd : decode M.2.1 pc = .ok (.newarray .int, 2)) (hw : Jvm.Cond.arrayClass .int ∈ pm_good) (hx2 : x = nI N) (hL : pm_L0.1 n = (10, N)) (hn : n < 109) (hN : N < 20000) (hc : kc + 1 ≤ mc) (hs : ks + N ≤ ms) (hlv : ∀ v, some v ∈ lv → pg_lt n v) (hst : ∀ v ∈ st, pg_lt n v) (h : pg_R M mc ms n0 n1 rl1 Q (pc + 2) lv (.ref n :: st) (n + 1) rl (pm_s w n (fun _ => 0)) (kc + 1) (ks + N)) : pg_R M mc ms n0 n1 rl1 Q pc lv (.int x :: st) n rl w kc ks := by
  intro p l e s m args below meth c D G0 A X G hE hO H locs ls hP hS hl
  obtain ⟨hx, hb, hml, hown, hr, hlocks, hts, hin, hA, hK, hSt, hNw, hA1, hA2⟩ := id X
  subst hx2
  rw [← pg_tys hE] at hK
  refine va_newa (atype := .int) (ty := .int) (a0 := (N, .inl (fun _ => 0))) hx hb (hts _ (List.mem_cons_of_mem _ hw)) rfl hK hP (pg_D hO w) hS hA (fun cA => rfl) (nI_pos (by omega)) (nI_clamp (by omega)) (Nat.le_trans (Nat.mul_le_mul_left N (show componentBytes .int ≤ 8 from by decide)) (by omega)) hc hs hd (fun q cA H1 hK1 hP1 hD1 hS1 => ?_)
  have hcA : cA = G.2 10 := by
    have h1 : s.vm.findClass ("[" ++ FieldType.toString .int) = some cA := (hK1.2 (pm_tys G).length (cA, .int) (by rw [List.getElem?_append_right (Nat.le_refl _), Nat.sub_self]; rfl)).2
    have h2 : s.vm.findClass ("[" ++ FieldType.toString .int) = some (G.2 10) := (hK.2 0 (G.2 10, .int) rfl).2
    rw [h1] at h2
    exact Option.some.inj h2
  subst hcA
  obtain ⟨g1, g2, g3⟩ := pg_grow hn hO pg_zero (by rw [pm_cell_i (by rw [lm_1 (by omega)]; exact hL)]; simp [pm_s, pm_sL]) hP1 hD1
  have h9 := h p l e s m args below meth c D G0 A X _ ⟨fun k hk => ?_, g1.2.1.trans hE.2.1, g1.2.2.1.trans hE.2.2.1, g1.2.2.2.trans hE.2.2.2⟩ g2 H1 locs ls g3 hS1 (pg_lv g1 hlv hl)
  · rw [List.map_cons, pg_st g1 hst] at h9
    have e1 : pm_v (va_up G.1 n q, G.2) (.ref n) = .ref q := by
      show Value.ref (va_up G.1 n q n) = .ref q
      rw [va_up_self]
    rw [e1] at h9
    exact h9
  · rw [g1.1 k (by omega)]; exact hE.1 k hk

theorem pg_newZ {M : pm_M} {mc ms n0 n1 : Nat} {rl1 : List (Nat × Nat)} {Q : pm_W → Prop} {pc : Nat} {lv : List (Option Value)} {st : List Value} {n : Nat} {rl : List (Nat × Nat)} {w : pm_W} {kc ks : Nat} {N : Nat} {x : Int32} (hn0 : n0 ≤ n) (hd : decode M.2.1 pc = .ok (.newarray .boolean, 2)) (hw : Jvm.Cond.arrayClass .boolean ∈ pm_good) (hx2 : x = nI N) (hL : pm_L0.1 n = (11, N)) (hn : n < 109) (hN : N < 20000) (hc : kc + 1 ≤ mc) (hs : ks + N ≤ ms) (hlv : ∀ v, some v ∈ lv → pg_lt n v) (hst : ∀ v ∈ st, pg_lt n v) (h : pg_R M mc ms n0 n1 rl1 Q (pc + 2) lv (.ref n :: st) (n + 1) rl (pm_s w n (fun _ => 0)) (kc + 1) (ks + N)) : pg_R M mc ms n0 n1 rl1 Q pc lv (.int x :: st) n rl w kc ks := by
  intro p l e s m args below meth c D G0 A X G hE hO H locs ls hP hS hl
  obtain ⟨hx, hb, hml, hown, hr, hlocks, hts, hin, hA, hK, hSt, hNw, hA1, hA2⟩ := id X
  subst hx2
  rw [← pg_tys hE] at hK
  refine va_newa (atype := .boolean) (ty := .boolean) (a0 := (N, .inl (fun _ => 0))) hx hb (hts _ (List.mem_cons_of_mem _ hw)) rfl hK hP (pg_D hO w) hS hA (fun cA => rfl) (nI_pos (by omega)) (nI_clamp (by omega)) (Nat.le_trans (Nat.mul_le_mul_left N (show componentBytes .boolean ≤ 8 from by decide)) (by omega)) hc hs hd (fun q cA H1 hK1 hP1 hD1 hS1 => ?_)
  have hcA : cA = G.2 11 := by
    have h1 : s.vm.findClass ("[" ++ FieldType.toString .boolean) = some cA := (hK1.2 (pm_tys G).length (cA, .boolean) (by rw [List.getElem?_append_right (Nat.le_refl _), Nat.sub_self]; rfl)).2
    have h2 : s.vm.findClass ("[" ++ FieldType.toString .boolean) = some (G.2 11) := (hK.2 1 (G.2 11, .boolean) rfl).2
    rw [h1] at h2
    exact Option.some.inj h2
  subst hcA
  obtain ⟨g1, g2, g3⟩ := pg_grow hn hO pg_zero (by rw [pm_cell_z (by rw [lm_1 (by omega)]; exact hL)]; simp [pm_s, pm_sL]) hP1 hD1
  have h9 := h p l e s m args below meth c D G0 A X _ ⟨fun k hk => ?_, g1.2.1.trans hE.2.1, g1.2.2.1.trans hE.2.2.1, g1.2.2.2.trans hE.2.2.2⟩ g2 H1 locs ls g3 hS1 (pg_lv g1 hlv hl)
  · rw [List.map_cons, pg_st g1 hst] at h9
    have e1 : pm_v (va_up G.1 n q, G.2) (.ref n) = .ref q := by
      show Value.ref (va_up G.1 n q n) = .ref q
      rw [va_up_self]
    rw [e1] at h9
    exact h9
  · rw [g1.1 k (by omega)]; exact hE.1 k hk

theorem pg_newL {M : pm_M} {mc ms n0 n1 : Nat} {rl1 : List (Nat × Nat)} {Q : pm_W → Prop} {pc : Nat} {lv : List (Option Value)} {st : List Value} {n : Nat} {rl : List (Nat × Nat)} {w : pm_W} {kc ks : Nat} {N : Nat} {x : Int32} (hn0 : n0 ≤ n) (hd : decode M.2.1 pc = .ok (.newarray .long, 2)) (hw : Jvm.Cond.arrayClass .long ∈ pm_good) (hx2 : x = nI N) (hL : pm_L0.1 n = (12, N)) (hn : n < 109) (hN : N < 20000) (hc : kc + 1 ≤ mc) (hs : ks + N ≤ ms) (hlv : ∀ v, some v ∈ lv → pg_lt n v) (hst : ∀ v ∈ st, pg_lt n v) (h : pg_R M mc ms n0 n1 rl1 Q (pc + 2) lv (.ref n :: st) (n + 1) rl (pm_sL w n (fun _ => 0)) (kc + 1) (ks + N)) : pg_R M mc ms n0 n1 rl1 Q pc lv (.int x :: st) n rl w kc ks := by
  intro p l e s m args below meth c D G0 A X G hE hO H locs ls hP hS hl
  obtain ⟨hx, hb, hml, hown, hr, hlocks, hts, hin, hA, hK, hSt, hNw, hA1, hA2⟩ := id X
  subst hx2
  rw [← pg_tys hE] at hK
  refine va_newa (atype := .long) (ty := .long) (a0 := (N, .inr (.inl (fun _ => 0)))) hx hb (hts _ (List.mem_cons_of_mem _ hw)) rfl hK hP (pg_D hO w) hS hA (fun cA => rfl) (nI_pos (by omega)) (nI_clamp (by omega)) (Nat.le_trans (Nat.mul_le_mul_left N (show componentBytes .long ≤ 8 from by decide)) (by omega)) hc hs hd (fun q cA H1 hK1 hP1 hD1 hS1 => ?_)
  have hcA : cA = G.2 12 := by
    have h1 : s.vm.findClass ("[" ++ FieldType.toString .long) = some cA := (hK1.2 (pm_tys G).length (cA, .long) (by rw [List.getElem?_append_right (Nat.le_refl _), Nat.sub_self]; rfl)).2
    have h2 : s.vm.findClass ("[" ++ FieldType.toString .long) = some (G.2 12) := (hK.2 2 (G.2 12, .long) rfl).2
    rw [h1] at h2
    exact Option.some.inj h2
  subst hcA
  obtain ⟨g1, g2, g3⟩ := pg_grow hn hO pg_zeroL (by rw [pm_cell_l (by rw [lm_1 (by omega)]; exact hL)]; simp [pm_s, pm_sL]) hP1 hD1
  have h9 := h p l e s m args below meth c D G0 A X _ ⟨fun k hk => ?_, g1.2.1.trans hE.2.1, g1.2.2.1.trans hE.2.2.1, g1.2.2.2.trans hE.2.2.2⟩ g2 H1 locs ls g3 hS1 (pg_lv g1 hlv hl)
  · rw [List.map_cons, pg_st g1 hst] at h9
    have e1 : pm_v (va_up G.1 n q, G.2) (.ref n) = .ref q := by
      show Value.ref (va_up G.1 n q n) = .ref q
      rw [va_up_self]
    rw [e1] at h9
    exact h9
  · rw [g1.1 k (by omega)]; exact hE.1 k hk

theorem pg_newH {M : pm_M} {mc ms n0 n1 : Nat} {rl1 : List (Nat × Nat)} {Q : pm_W → Prop} {pc : Nat} {lv : List (Option Value)} {st : List Value} {n : Nat} {rl : List (Nat × Nat)} {w : pm_W} {kc ks : Nat} {N idx : Nat} {x : Int32} (hn0 : n0 ≤ n) (hd : decode M.2.1 pc = .ok (.anewarray idx, 3)) (hw : Jvm.Cond.classLink M.1.cls idx RX3 ∈ pm_good) (hx2 : x = nI N) (hL : pm_L0.1 n = (13, N)) (hn : n < 109) (hN : N < 20000) (hc : kc + 1 ≤ mc) (hs : ks + N ≤ ms) (hlv : ∀ v, some v ∈ lv → pg_lt n v) (hst : ∀ v ∈ st, pg_lt n v) (h : pg_R M mc ms n0 n1 rl1 Q (pc + 3) lv (.ref n :: st) (n + 1) rl w (kc + 1) (ks + N)) : pg_R M mc ms n0 n1 rl1 Q pc lv (.int x :: st) n rl w kc ks := by
  intro p l e s m args below meth c D G0 A X G hE hO H locs ls hP hS hl
  obtain ⟨hx, hb, hml, hown, hr, hlocks, hts, hin, hA, hK, hSt, hNw, hA1, hA2⟩ := id X
  subst hx2
  have hrl : ∀ j, (n, j) ∉ rl := fun j hj => absurd (hO.2.2.2 _ hj).1 (Nat.lt_irrefl _)
  rw [← pg_tys hE] at hK
  refine va_newq (C := RX3) hx hb hown (hts _ (List.mem_cons_of_mem _ hw)) hA1 hK hP (pg_D hO w) hS hA (nI_pos (by omega)) (nI_clamp (by omega)) (by omega) hc hs hd (fun q cA H1 hK1 hP1 hD1 hS1 => ?_)
  have hcA : cA = G.2 13 := by
    obtain ⟨kA, cp, a1, a2, a3, h1⟩ := (hK1.2 (pm_tys G).length (cA, .object RX3) (by rw [List.getElem?_append_right (Nat.le_refl _), Nat.sub_self]; rfl)).2
    obtain ⟨kA2, cp2, b1, b2, b3, h2⟩ := (hK.2 3 (G.2 13, .object RX3) rfl).2
    rw [h1] at h2
    exact Option.some.inj h2
  subst hcA
  obtain ⟨g1, g2, g3⟩ := pg_grow hn hO (w' := w) (fun k _ => ⟨rfl, rfl⟩) (by rw [pm_cell_h (by rw [lm_1 (by omega)]; exact hL)]; simp [lm_0 (hrl _)]) hP1 hD1
  have h9 := h p l e s m args below meth c D G0 A X _ ⟨fun k hk => ?_, g1.2.1.trans hE.2.1, g1.2.2.1.trans hE.2.2.1, g1.2.2.2.trans hE.2.2.2⟩ g2 H1 locs ls g3 hS1 (pg_lv g1 hlv hl)
  · rw [List.map_cons, pg_st g1 hst] at h9
    have e1 : pm_v (va_up G.1 n q, G.2) (.ref n) = .ref q := by
      show Value.ref (va_up G.1 n q n) = .ref q
      rw [va_up_self]
    rw [e1] at h9
    exact h9
  · rw [g1.1 k (by omega)]; exact hE.1 k hk

theorem pg_newK {M : pm_M} {mc ms n0 n1 : Nat} {rl1 : List (Nat × Nat)} {Q : pm_W → Prop} {pc : Nat} {lv : List (Option Value)} {st : List Value} {n : Nat} {rl : List (Nat × Nat)} {w : pm_W} {kc ks : Nat} {N idx : Nat} {x : Int32} (hn0 : n0 ≤ n) (hd : decode M.2.1 pc = .ok (.anewarray idx, 3)) (hw : Jvm.Cond.classLink M.1.cls idx RX0 ∈ pm_good) (hx2 : x = nI N) (hL : pm_L0.1 n = (14, N)) (hn : n < 109) (hN : N < 20000) (hc : kc + 1 ≤ mc) (hs : ks + N ≤ ms) (hlv : ∀ v, some v ∈ lv → pg_lt n v) (hst : ∀ v ∈ st, pg_lt n v) (h : pg_R M mc ms n0 n1 rl1 Q (pc + 3) lv (.ref n :: st) (n + 1) rl w (kc + 1) (ks + N)) : pg_R M mc ms n0 n1 rl1 Q pc lv (.int x :: st) n rl w kc ks := by
  intro p l e s m args below meth c D G0 A X G hE hO H locs ls hP hS hl
  obtain ⟨hx, hb, hml, hown, hr, hlocks, hts, hin, hA, hK, hSt, hNw, hA1, hA2⟩ := id X
  subst hx2
  have hrl : ∀ j, (n, j) ∉ rl := fun j hj => absurd (hO.2.2.2 _ hj).1 (Nat.lt_irrefl _)
  rw [← pg_tys hE] at hK
  refine va_newq (C := RX0) hx hb hown (hts _ (List.mem_cons_of_mem _ hw)) hA2 hK hP (pg_D hO w) hS hA (nI_pos (by omega)) (nI_clamp (by omega)) (by omega) hc hs hd (fun q cA H1 hK1 hP1 hD1 hS1 => ?_)
  have hcA : cA = G.2 14 := by
    obtain ⟨kA, cp, a1, a2, a3, h1⟩ := (hK1.2 (pm_tys G).length (cA, .object RX0) (by rw [List.getElem?_append_right (Nat.le_refl _), Nat.sub_self]; rfl)).2
    obtain ⟨kA2, cp2, b1, b2, b3, h2⟩ := (hK.2 4 (G.2 14, .object RX0) rfl).2
    rw [h1] at h2
    exact Option.some.inj h2
  subst hcA
  obtain ⟨g1, g2, g3⟩ := pg_grow hn hO (w' := w) (fun k _ => ⟨rfl, rfl⟩) (by rw [pm_cell_k (by rw [lm_1 (by omega)]; exact hL)]; simp [lm_0 (hrl _)]) hP1 hD1
  have h9 := h p l e s m args below meth c D G0 A X _ ⟨fun k hk => ?_, g1.2.1.trans hE.2.1, g1.2.2.1.trans hE.2.2.1, g1.2.2.2.trans hE.2.2.2⟩ g2 H1 locs ls g3 hS1 (pg_lv g1 hlv hl)
  · rw [List.map_cons, pg_st g1 hst] at h9
    have e1 : pm_v (va_up G.1 n q, G.2) (.ref n) = .ref q := by
      show Value.ref (va_up G.1 n q n) = .ref q
      rw [va_up_self]
    rw [e1] at h9
    exact h9
  · rw [g1.1 k (by omega)]; exact hE.1 k hk

theorem pg_dflt {L : pm_L} {G : pm_G} {w : pm_W} {k j : Nat} {ty : FieldType} (h : pm_isR ty = true ∨ ty = .int ∨ ty = .long) (h1 : w.1 k j = 0) (h2 : w.2 k j = 0) (h3 : L.2 k j = none) : defaultValue ty = pm_fv L G w k ty j := by
  rcases h with h | rfl | rfl
  · cases ty <;> first | (cases h; done) | (simp [pm_fv, h3, va_rf, defaultValue])
  · simp [pm_fv, h1, defaultValue]
  · simp [pm_fv, h2, defaultValue]
theorem pg_tyk : ∀ ci, ci < 6 → ∀ j, j < pm_N ci → pm_isR (pm_ty ci j) = true ∨ pm_ty ci j = .int ∨ pm_ty ci j = .long := by decide +kernel

theorem pg_new {M : pm_M} {mc ms n0 n1 : Nat} {rl1 : List (Nat × Nat)} {Q : pm_W → Prop} {pc : Nat} {lv : List (Option Value)} {st : List Value} {n : Nat} {rl : List (Nat × Nat)} {w : pm_W} {kc ks : Nat} {ci idx N : Nat} (hn0 : n0 ≤ n) (hd : decode M.2.1 pc = .ok (.new idx, 3)) (hNN : pm_N ci = N) (hci : ci < 6) (hw1 : Jvm.Cond.classLink M.1.cls idx (pm_R0 ci) ∈ pm_good) (hw2 : Jvm.Cond.instantiable (pm_R0 ci) (pm_N ci) ∈ pm_good) (hw3 : Jvm.Cond.initialized (pm_R0 ci) ∈ pm_good) (hL : pm_L0.1 n = (ci, pm_N ci)) (hn : n < 109) (hc : kc + 1 ≤ mc) (hs : ks + N ≤ ms) (hlv : ∀ v, some v ∈ lv → pg_lt n v) (hst : ∀ v ∈ st, pg_lt n v) (h : pg_R M mc ms n0 n1 rl1 Q (pc + 3) lv (.ref n :: st) (n + 1) rl (pm_sL (pm_s w n (fun _ => 0)) n (fun _ => 0)) (kc + 1) (ks + N)) : pg_R M mc ms n0 n1 rl1 Q pc lv st n rl w kc ks := by
  intro p l e s m args below meth c D G0 A X G hE hO H locs ls hP hS hl
  obtain ⟨hx, hb, hml, hown, hr, hlocks, hts, hin, hA, hK, hSt, hNw, hA1, hA2⟩ := id X
  subst hNN
  have hrl : ∀ j, (n, j) ∉ rl := fun j hj => absurd (hO.2.2.2 _ hj).1 (Nat.lt_irrefl _)
  rw [← pg_tys hE] at hK
  refine va_new (ci := ci) (C := pm_R0 ci) (T := pm_T ci) (N := pm_N ci) (fs := (List.range (pm_N ci)).map (fun j => pm_fv (lm (n + 1) rl) (G.1, G.2) (pm_sL (pm_s w n (fun _ => 0)) n (fun _ => 0)) n (pm_ty ci j) j)) hx hb (Ts := pm_ws M) hts (fun w hw => List.mem_cons_of_mem _ (pm_lays hci w hw)) (pm_ty ci) (pm_tyok hci) hown (hts _ (List.mem_cons_of_mem _ hw1)) (hts _ (List.mem_cons_of_mem _ hw2)) (hts _ (List.mem_cons_of_mem _ hw3)) hK hP (pg_D hO w) hS hA (pm_cl_at hci) (fun j hj => ?_) hc hs hd (fun q H1 hP1 hD1 hS1 => ?_)
  · rw [vp_V, List.getD_eq_getElem?_getD, pm_fs_at hj]
    exact pg_dflt (pg_tyk ci hci j hj) (by rw [pm_sL_1, pm_s_at]) (by rw [pm_sL_at]) (lm_0 (hrl j))
  · obtain ⟨g1, g2, g3⟩ := pg_grow (w' := (pm_sL (pm_s w n (fun _ => 0)) n (fun _ => 0))) hn hO pg_zeroB (by
      rw [pm_cell_o hci (by rw [lm_1 (by omega)]; exact hL)]
      congr 2
      refine List.map_congr_left (fun j _ => ?_)
      unfold pm_fv
      rw [lm_0 (hrl j)]
      rfl) hP1 hD1
    have h9 := h p l e s m args below meth c D G0 A X _ ⟨fun k hk => ?_, g1.2.1.trans hE.2.1, g1.2.2.1.trans hE.2.2.1, g1.2.2.2.trans hE.2.2.2⟩ g2 H1 locs ls g3 hS1 (pg_lv g1 hlv hl)
    · rw [List.map_cons, pg_st g1 hst] at h9
      have e1 : pm_v (va_up G.1 n q, G.2) (.ref n) = .ref q := by
        show Value.ref (va_up G.1 n q n) = .ref q
        rw [va_up_self]
      rw [e1] at h9
      exact h9
    · rw [g1.1 k (by omega)]; exact hE.1 k hk

