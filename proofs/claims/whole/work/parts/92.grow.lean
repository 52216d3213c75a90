theorem pg_P_set {L L' : pm_L} {D : va_G} {G : pm_G} (hks : pm_ks L' = pm_ks L) (ho : pm_ok L G) {w w' : pm_W} {k q0 : Nat} {e : va_E} {H1 : Heap} (h0 : (pm_cells L G w)[q0]? = some (G.1 k, pm_cell L G w k)) (hk : k ∈ pm_ks L)
    (he : e = pm_cell L' G w' k) (hx : ∀ j, j ≠ k → pm_cell L' G w' j = pm_cell L G w j) (h : va_P D pm_cl ((pm_cells L G w).set q0 (G.1 k, e)) H1) : va_P D pm_cl (pm_cells L' G w') H1 := by
  intro i q hq
  obtain ⟨j, h1, m1, rfl⟩ := pm_cells_id hq
  rw [hks] at h1 m1
  have hl0 := (List.getElem?_eq_some_iff.mp h0).1
  obtain ⟨k0, g1, gm, g2⟩ := pm_cells_id h0
  have ek : k0 = k := (ho.2 k k0 hk gm (congrArg Prod.fst g2)).symm
  subst ek
  by_cases hjk : j = k0
  · subst hjk
    refine h q0 _ ?_
    rw [List.getElem?_set_self hl0, he]
  · rw [hx j hjk]
    have hi0 : q0 ≠ i := by
      intro e0
      subst e0
      rw [g1] at h1
      exact hjk (Option.some.inj h1).symm
    refine h i _ ?_
    rw [List.getElem?_set_ne hi0]
    unfold pm_cells
    rw [List.getElem?_map, h1]
    rfl
theorem pg_fit {ty : FieldType} (h : pm_isR ty = true) (a : Nat) : narrow ty (.ref a) = .ref a ∧ fits ty (.ref a) = true := by
  cases ty <;> first | (cases h; done) | exact ⟨rfl, rfl⟩
theorem lm_cons {n k j k' j' : Nat} {rl : List (Nat × Nat)} (h : ¬ (k' = k ∧ j' = j)) : (lm n ((k, j) :: rl)).2 k' j' = (lm n rl).2 k' j' := by
  show (if (k', j') ∈ (k, j) :: rl then pm_L0.2 k' j' else none) = (if (k', j') ∈ rl then pm_L0.2 k' j' else none)
  by_cases q : (k', j') ∈ rl
  · rw [if_pos q, if_pos (List.mem_cons_of_mem _ q)]
  · rw [if_neg q, if_neg (fun z => by
      rcases List.mem_cons.mp z with z | z
      · exact h ⟨congrArg Prod.fst z, congrArg Prod.snd z⟩
      · exact q z)]
theorem pg_mem {n k : Nat} {rl : List (Nat × Nat)} (hn : n ≤ 109) (hk : k < n) : k ∈ pm_ks (lm n rl) := by rw [lm_ks hn]; exact List.mem_range.mpr hk
theorem pg_o_cons {n k j t : Nat} {rl : List (Nat × Nat)} {A : Nat → Prop} {G : pm_G} (h : pg_o n rl A G) (hk : k < n) (ht : t < n) (hr : pm_L0.2 k j = some t) : pg_o n ((k, j) :: rl) A G := by
  refine ⟨h.1, h.2.1, h.2.2.1, fun p hp => ?_⟩
  rcases List.mem_cons.mp hp with rfl | hp
  · refine ⟨hk, fun u hu => ?_⟩
    have hu : pm_L0.2 k j = some u := hu
    rw [hr] at hu
    cases hu
    exact ht
  · exact h.2.2.2 p hp

theorem pg_putR {M : pm_M} {mc ms n0 n1 : Nat} {rl1 : List (Nat × Nat)} {Q : pm_W → Prop} {pc : Nat} {lv : List (Option Value)} {st : List Value} {n : Nat} {rl : List (Nat × Nat)} {w : pm_W} {kc ks : Nat} {ci j k t idx : Nat} (hd : decode M.2.1 pc = .ok (.putfield idx, 3)) (hci : ci < 6) (hL : pm_L0.1 k = (ci, pm_N ci)) (hk : k < n) (ht : t < n) (hj : j < pm_N ci) (hf : pm_FL M.1.cls idx ci j) (hfin : (pm_T ci j).2.2.2 = true) (hown2 : (pm_T ci j).1 = M.1.cls) (hty : pm_isR (pm_ty ci j) = true) (hr2 : pm_L0.2 k j = some t) (h : pg_R M mc ms n0 n1 rl1 Q (pc + 3) lv st n ((k, j) :: rl) w kc ks) : pg_R M mc ms n0 n1 rl1 Q pc lv (.ref t :: .ref k :: st) n rl w kc ks := by
  intro p l e s m args below meth c D G0 A X G hE hO H locs ls hP hS hl
  obtain ⟨hx, hb, hml, hown, hr, hlocks, hts, hin, hA, hK, hSt, hNw, hA1, hA2⟩ := id X
  rw [← pg_tys hE] at hK
  have hm := pg_mem (rl := rl) hO.2.2.1 hk
  have hL1 : (lm n rl).1 k = (ci, pm_N ci) := (lm_1 hk rl).trans hL
  obtain ⟨q0, hq0⟩ := pm_cells_at (G := G) w hm
  have hq1 := hq0
  rw [pm_cell_o hci hL1] at hq0
  refine va_putF (v := .ref (G.1 t)) (ty := pm_ty ci j) hx hb (Ts := pm_ws M) hts (fun w hw => List.mem_cons_of_mem _ (pm_lays hci w hw)) (pm_ty ci) (pm_tyok hci) (pm_nm hci) hown hK hP (pg_D hO w) hS q0 hq0 (pm_cl_at hci) j hj (hts _ (List.mem_cons_of_mem _ hf)) (fun _ h9 => h9) hfin hin hown2 (pm_tyok hci j hj) (pg_fit hty _).1 (pg_fit hty _).2 (by simpa using hj) hd (fun H1 locs1 hP1 _ hS1 => ?_)
  refine h p l e s m args below meth c D G0 A X G hE (pg_o_cons hO hk ht hr2) H1 locs1 ls (pg_P_set (L := lm n rl) (L' := lm n ((k, j) :: rl)) rfl hO.1 hq1 hm ?_ (fun i hi => ?_) hP1) hS1 hl
  · rw [pm_cell_o hci (show (lm n ((k, j) :: rl)).1 k = _ from hL1)]
    congr 2
    refine pm_fs_set hj ?_ (fun i hi => ?_)
    · rw [pm_fv_r hty ((lm_2 List.mem_cons_self).trans hr2)]; rfl
    · unfold pm_fv
      rw [lm_cons (fun z => hi z.2)]
  · exact pm_cell_cg rfl rfl rfl rfl (fun j' => by rw [lm_cons (fun z => hi z.1)])

theorem pg_putI {M : pm_M} {mc ms n0 n1 : Nat} {rl1 : List (Nat × Nat)} {Q : pm_W → Prop} {pc : Nat} {lv : List (Option Value)} {st : List Value} {n : Nat} {rl : List (Nat × Nat)} {w : pm_W} {kc ks : Nat} {ci j k idx : Nat} {x : Int32} (hd : decode M.2.1 pc = .ok (.putfield idx, 3)) (hci : ci < 6) (hL : pm_L0.1 k = (ci, pm_N ci)) (hk : k < n) (hj : j < pm_N ci) (hf : pm_FL M.1.cls idx ci j) (hty : pm_ty ci j = .int) (hfin : (pm_T ci j).2.2.2 = false) (h : pg_R M mc ms n0 n1 rl1 Q (pc + 3) lv st n rl (pm_s w k (upd (w.1 k) j x)) kc ks) : pg_R M mc ms n0 n1 rl1 Q pc lv (.int x :: .ref k :: st) n rl w kc ks := by
  intro p l e s m args below meth c D G0 A X G hE hO H locs ls hP hS hl
  obtain ⟨hx, hb, hml, hown, hr, hlocks, hts, hin, hA, hK, hSt, hNw, hA1, hA2⟩ := id X
  rw [← pg_tys hE] at hK
  have hm := pg_mem (rl := rl) hO.2.2.1 hk
  have hL1 : (lm n rl).1 k = (ci, pm_N ci) := (lm_1 hk rl).trans hL
  obtain ⟨q0, hq0⟩ := pm_cells_at (G := G) w hm
  have hq1 := hq0
  rw [pm_cell_o hci hL1] at hq0
  refine va_put hx hb (Ts := pm_ws M) (ty := pm_ty ci j) (v := .int x) hts (fun w hw => List.mem_cons_of_mem _ (pm_lays hci w hw)) (pm_ty ci) (pm_tyok hci) (pm_nm hci) hown hK hP (pg_D hO w) hS q0 hq0 (pm_cl_at hci) j hj (hts _ (List.mem_cons_of_mem _ hf)) (fun _ h9 => h9) hfin (pm_tyok hci j hj) (by rw [hty]; rfl) (by rw [hty]; rfl) (by simpa using hj) hd (fun H1 locs1 hP1 _ hS1 => ?_)
  refine h p l e s m args below meth c D G0 A X G hE hO H1 locs1 ls (pm_P_set hO.1 hq1 hm ?_ pm_cell_s hP1) hS1 hl
  rw [pm_cell_o hci hL1]
  congr 2
  refine pm_fs_set hj (by rw [hty]; simp [pm_fv, pm_s, upd]) (fun i hi => ?_)
  unfold pm_fv
  cases pm_ty ci i <;> simp [pm_s, upd, hi]

theorem pg_getR {M : pm_M} {mc ms n0 n1 : Nat} {rl1 : List (Nat × Nat)} {Q : pm_W → Prop} {pc : Nat} {lv : List (Option Value)} {st : List Value} {n : Nat} {rl : List (Nat × Nat)} {w : pm_W} {kc ks : Nat} {ci j k t idx : Nat} (hd : decode M.2.1 pc = .ok (.getfield idx, 3)) (hci : ci < 6) (hL : pm_L0.1 k = (ci, pm_N ci)) (hk : k < n) (hj : j < pm_N ci) (hf : pm_FL M.1.cls idx ci j) (hty : pm_isR (pm_ty ci j) = true) (hrl : (k, j) ∈ rl) (hr2 : pm_L0.2 k j = some t) (h : pg_R M mc ms n0 n1 rl1 Q (pc + 3) lv (.ref t :: st) n rl w kc ks) : pg_R M mc ms n0 n1 rl1 Q pc lv (.ref k :: st) n rl w kc ks := by
  intro p l e s m args below meth c D G0 A X G hE hO H locs ls hP hS hl
  obtain ⟨hx, hb, hml, hown, hr, hlocks, hts, hin, hA, hK, hSt, hNw, hA1, hA2⟩ := id X
  rw [← pg_tys hE] at hK
  have hm := pg_mem (rl := rl) hO.2.2.1 hk
  have hL1 : (lm n rl).1 k = (ci, pm_N ci) := (lm_1 hk rl).trans hL
  obtain ⟨q0, hq0⟩ := pm_cells_at (G := G) w hm
  rw [pm_cell_o hci hL1] at hq0
  have h1 := h p l e s m args below meth c D G0 A X G hE hO H locs ls hP hS hl
  refine va_get hx hb (Ts := pm_ws M) hts (fun w hw => List.mem_cons_of_mem _ (pm_lays hci w hw)) hown hK hP q0 hq0 (pm_cl_at hci) j hj (hts _ (List.mem_cons_of_mem _ hf)) (fun _ h9 => h9) (pm_fs_at hj) hd ?_
  rw [pm_fv_r hty ((lm_2 hrl).trans hr2)]
  exact h1

theorem pg_iast {M : pm_M} {mc ms n0 n1 : Nat} {rl1 : List (Nat × Nat)} {Q : pm_W → Prop} {pc : Nat} {lv : List (Option Value)} {st : List Value} {n : Nat} {rl : List (Nat × Nat)} {w : pm_W} {kc ks : Nat} {k N i : Nat} {x : Int32} (hd : decode M.2.1 pc = .ok (.iastore, 1)) (hL : pm_L0.1 k = (10, N)) (hk : k < n) (hi : i < N) (hN : N < 2 ^ 31) (h : pg_R M mc ms n0 n1 rl1 Q (pc + 1) lv st n rl (pm_s w k (upd (w.1 k) i x)) kc ks) : pg_R M mc ms n0 n1 rl1 Q pc lv (.int x :: .int (nI i) :: .ref k :: st) n rl w kc ks := by
  intro p l e s m args below meth c D G0 A X G hE hO H locs ls hP hS hl
  obtain ⟨hx, hb, hml, hown, hr, hlocks, hts, hin, hA, hK, hSt, hNw, hA1, hA2⟩ := id X
  rw [← pg_tys hE] at hK
  have hm := pg_mem (rl := rl) hO.2.2.1 hk
  have hL1 : (lm n rl).1 k = (10, N) := (lm_1 hk rl).trans hL
  obtain ⟨q0, hq0⟩ := pm_cells_at (G := G) w hm
  have hq1 := hq0
  rw [pm_cell_i hL1] at hq0
  refine va_iast hx hb hK hP (pg_D hO w) hS q0 0 hq0 rfl (vp_in_nI hi hN) hd (fun H1 locs1 hP1 _ hS1 => ?_)
  rw [nI_clamp (by omega)] at hP1
  refine h p l e s m args below meth c D G0 A X G hE hO H1 locs1 ls (pm_P_set hO.1 hq1 hm ?_ pm_cell_s hP1) hS1 hl
  rw [pm_cell_i hL1]
  simp [pm_s, pm_sL]

theorem pg_astH {M : pm_M} {mc ms n0 n1 : Nat} {rl1 : List (Nat × Nat)} {Q : pm_W → Prop} {pc : Nat} {lv : List (Option Value)} {st : List Value} {n : Nat} {rl : List (Nat × Nat)} {w : pm_W} {kc ks : Nat} {k t N i : Nat} (hd : decode M.2.1 pc = .ok (.aastore, 1)) (hL : pm_L0.1 k = (13, N)) (hLt : pm_L0.1 t = (3, pm_N 3)) (hk : k < n) (ht : t < n) (hi : i < N) (hN : N < 2 ^ 31) (hr2 : pm_L0.2 k i = some t) (h : pg_R M mc ms n0 n1 rl1 Q (pc + 1) lv st n ((k, i) :: rl) w kc ks) : pg_R M mc ms n0 n1 rl1 Q pc lv (.ref t :: .int (nI i) :: .ref k :: st) n rl w kc ks := by
  intro p l e s m args below meth c D G0 A X G hE hO H locs ls hP hS hl
  obtain ⟨hx, hb, hml, hown, hr, hlocks, hts, hin, hA, hK, hSt, hNw, hA1, hA2⟩ := id X
  rw [← pg_tys hE] at hK
  have hm := pg_mem (rl := rl) hO.2.2.1 hk
  have hmt := pg_mem (rl := rl) hO.2.2.1 ht
  have hL1 : (lm n rl).1 k = (13, N) := (lm_1 hk rl).trans hL
  have hL2 : (lm n rl).1 t = (3, pm_N 3) := (lm_1 ht rl).trans hLt
  obtain ⟨q0, hq0⟩ := pm_cells_at (G := G) w hm
  obtain ⟨qt, hqt⟩ := pm_cells_at (G := G) w hmt
  have hq1 := hq0
  rw [pm_cell_h hL1] at hq0
  rw [pm_cell_o (by decide) hL2] at hqt
  refine va_astq hx hb hK hP (pg_D hO w) hS q0 3 qt 3 hq0 rfl hqt (pm_cl_at (by decide)) (vp_in_nI hi hN) hd (fun H1 locs1 hP1 _ hS1 => ?_)
  rw [nI_clamp (by omega)] at hP1
  refine h p l e s m args below meth c D G0 A X G hE (pg_o_cons hO hk ht hr2) H1 locs1 ls (pg_P_set (L := lm n rl) (L' := lm n ((k, i) :: rl)) rfl hO.1 hq1 hm ?_ (fun i2 hi2 => ?_) hP1) hS1 hl
  · rw [pm_cell_h (show (lm n ((k, i) :: rl)).1 k = _ from hL1)]
    congr 7
    funext j
    by_cases e : j = i
    · subst e
      rw [va_up_self, lm_2 List.mem_cons_self, hr2]; rfl
    · rw [va_up_ne _ _ e, lm_cons (fun z => e z.2)]
  · exact pm_cell_cg rfl rfl rfl rfl (fun j' => by rw [lm_cons (fun z => hi2 z.1)])

theorem pg_astK {M : pm_M} {mc ms n0 n1 : Nat} {rl1 : List (Nat × Nat)} {Q : pm_W → Prop} {pc : Nat} {lv : List (Option Value)} {st : List Value} {n : Nat} {rl : List (Nat × Nat)} {w : pm_W} {kc ks : Nat} {k t N i : Nat} (hd : decode M.2.1 pc = .ok (.aastore, 1)) (hL : pm_L0.1 k = (14, N)) (hLt : pm_L0.1 t = (0, pm_N 0)) (hk : k < n) (ht : t < n) (hi : i < N) (hN : N < 2 ^ 31) (hr2 : pm_L0.2 k i = some t) (h : pg_R M mc ms n0 n1 rl1 Q (pc + 1) lv st n ((k, i) :: rl) w kc ks) : pg_R M mc ms n0 n1 rl1 Q pc lv (.ref t :: .int (nI i) :: .ref k :: st) n rl w kc ks := by
  intro p l e s m args below meth c D G0 A X G hE hO H locs ls hP hS hl
  obtain ⟨hx, hb, hml, hown, hr, hlocks, hts, hin, hA, hK, hSt, hNw, hA1, hA2⟩ := id X
  rw [← pg_tys hE] at hK
  have hm := pg_mem (rl := rl) hO.2.2.1 hk
  have hmt := pg_mem (rl := rl) hO.2.2.1 ht
  have hL1 : (lm n rl).1 k = (14, N) := (lm_1 hk rl).trans hL
  have hL2 : (lm n rl).1 t = (0, pm_N 0) := (lm_1 ht rl).trans hLt
  obtain ⟨q0, hq0⟩ := pm_cells_at (G := G) w hm
  obtain ⟨qt, hqt⟩ := pm_cells_at (G := G) w hmt
  have hq1 := hq0
  rw [pm_cell_k hL1] at hq0
  rw [pm_cell_o (by decide) hL2] at hqt
  refine va_astq hx hb hK hP (pg_D hO w) hS q0 4 qt 0 hq0 rfl hqt (pm_cl_at (by decide)) (vp_in_nI hi hN) hd (fun H1 locs1 hP1 _ hS1 => ?_)
  rw [nI_clamp (by omega)] at hP1
  refine h p l e s m args below meth c D G0 A X G hE (pg_o_cons hO hk ht hr2) H1 locs1 ls (pg_P_set (L := lm n rl) (L' := lm n ((k, i) :: rl)) rfl hO.1 hq1 hm ?_ (fun i2 hi2 => ?_) hP1) hS1 hl
  · rw [pm_cell_k (show (lm n ((k, i) :: rl)).1 k = _ from hL1)]
    congr 7
    funext j
    by_cases e : j = i
    · subst e
      rw [va_up_self, lm_2 List.mem_cons_self, hr2]; rfl
    · rw [va_up_ne _ _ e, lm_cons (fun z => e z.2)]
  · exact pm_cell_cg rfl rfl rfl rfl (fun j' => by rw [lm_cons (fun z => hi2 z.1)])

def pm_MLI (own : String) (idx : Nat) (M : pm_M) (n : Nat) : Prop := (Jvm.Cond.methodLink own idx M.1 ∈ pm_good ∧ Jvm.Cond.instanceMethod M.1 ∈ pm_good ∧ Jvm.Cond.initialized M.1.cls ∈ pm_good ∧ Jvm.Cond.code M.1 M.2.1 M.2.2.1 none ∈ pm_good) ∧ M.2.2.2.1 = none ∧ M.1.name = "<init>" ∧ M.1.cls ≠ "java/lang/invoke/MethodHandle" ∧ M.1.cls ≠ "java/lang/invoke/VarHandle" ∧ (parseMethodDescriptor M.1.desc).map (fun d => d.parameters.length) = some n

theorem pg_callI {M : pm_M} {mc ms n0 n1 : Nat} {rl1 : List (Nat × Nat)} {Q : pm_W → Prop} {pc : Nat} {lv : List (Option Value)} {st : List Value} {n : Nat} {rl : List (Nat × Nat)} {w : pm_W} {kc ks : Nat} {idx k : Nat} {M' : pm_M} {as : List Value} {mc' ms' n' : Nat} {rl' : List (Nat × Nat)} {Q' : pm_W → Prop} (hd : decode M.2.1 pc = .ok (.invokespecial idx, 3)) (hl0 : pm_MLI M.1.cls idx M' as.length) (hrm : M'.2.2.2.2.1 + 1 ≤ M.2.2.2.2.1 ∧ 8 + (M'.2.2.1 + 11) + M'.2.2.2.2.2 ≤ M.2.2.2.2.2) (hsm : (st.map fun v => v.category).sum ≤ 8) (hC : pg_C M' mc' ms' (.ref k :: as) n rl w n' rl' Q') (hn0 : n0 ≤ n) (hc : kc + mc' ≤ mc) (hs : ks + ms' ≤ ms) (hlv : ∀ v, some v ∈ lv → pg_lt n v) (hst : ∀ v ∈ st, pg_lt n v) (kk : ∀ w', Q' w' → pg_R M mc ms n0 n1 rl1 Q (pc + 3) lv st n' rl' w' (kc + mc') (ks + ms')) : pg_R M mc ms n0 n1 rl1 Q pc lv (as.reverse ++ .ref k :: st) n rl w kc ks := by
  intro p l e s m args below meth c D G0 A X G hE hO H locs ls hP hS hl
  obtain ⟨hx, hb, hml, hown, hr, hlocks, hts, hin, hA, hK, hSt, hNw, hA1, hA2⟩ := id X
  obtain ⟨⟨m1, m2, m4, m5⟩, hret, nm, n1, n2, n3⟩ := hl0
  have hgi : GoodIn (pm_ws M) (pm_ws M') := pm_goodIn (by rw [hret]; exact m5)
  have hX := pg_K_ext ⟨hK, hSt, hNw, hA1, hA2⟩ hE
  have hrun := va_runI (e := e) (below := below) (meth := meth) (locs := locs) (cells := kc) (slots := ks) (g := F0 m pc ls ((as.reverse ++ .ref k :: st).map (pm_v G))) (rest := st.map (pm_v G)) (As := as.map (pm_v G)) (b := G.1 k) (R := pg_rm M mc ms) (H := H) ⟨hx, hb, hml, hown, hts⟩ (hC l D G A hO) (cwI as.length hts hgi (by unfold pm_ws; rw [hret]) rfl rfl (hts _ (List.mem_cons_of_mem _ m4)) (hts _ (List.mem_cons_of_mem _ m1)) (hts _ (List.mem_cons_of_mem _ m2)) nm ⟨n1, n2, n3⟩ hrm) ⟨pg_blind, fun U hU hW => ⟨rfl, fun q hq => hA q (by rw [hU] at hq; exact Nat.le_trans hS.1 hq), by rw [hU]; exact hP, pg_K_moved (locs := locs) hW (by rw [hU]; exact hS) hX⟩⟩ rfl (by simp) hl.1 (by simp [pm_v]) (lv_room (by rw [pm_sumc]; exact hsm)) hd ⟨hc, hs⟩
  intro T hT X0
  obtain ⟨v, st₀, t, T', Lc, h0, X', hL, e1, e2, ⟨⟨G2, w', hv, hq, hE2, hO2, hP'⟩, hF⟩, hgo⟩ := hrun T hT X0
  cases hv
  have h1 := kk w' hq p l e s m args below meth c D G0 A X G2 (pg_e_tr hE hE2 hn0) hO2 T'.heap (locs ++ Lc) ls (by rw [e1]; exact hP') ⟨Nat.le_trans hS.1 (by rw [e1, ← h0]; exact hF.1), fun q a1 a2 => by rw [e1, hF.2 q (by rw [h0]; exact Nat.lt_of_lt_of_le a1 hS.1) a2, h0]; exact hS.2.1 q a1 a2, fun q hq => by
    rcases List.mem_append.mp hq with h | h
    · exact hS.2.2 q h
    · exact hL q h⟩ (pg_lv hE2 hlv hl)
  rw [pg_st hE2 hst] at h1
  obtain ⟨t2, a1, b1⟩ := h1 T' rfl X'
  exact ⟨t2, hgo t2 a1, b1⟩

def pm_MLIN (own : String) (idx : Nat) (M : pm_M) (host : String) (n : Nat) : Prop := (Jvm.Cond.methodLinkNest own idx M.1 host ∈ pg_nw ∧ Jvm.Cond.instanceMethod M.1 ∈ pm_good ∧ Jvm.Cond.initialized M.1.cls ∈ pm_good ∧ Jvm.Cond.code M.1 M.2.1 M.2.2.1 none ∈ pm_good) ∧ M.2.2.2.1 = none ∧ M.1.name = "<init>" ∧ M.1.cls ≠ "java/lang/invoke/MethodHandle" ∧ M.1.cls ≠ "java/lang/invoke/VarHandle" ∧ (parseMethodDescriptor M.1.desc).map (fun d => d.parameters.length) = some n

theorem pg_callIN {M : pm_M} {mc ms n0 n1 : Nat} {rl1 : List (Nat × Nat)} {Q : pm_W → Prop} {pc : Nat} {lv : List (Option Value)} {st : List Value} {n : Nat} {rl : List (Nat × Nat)} {w : pm_W} {kc ks : Nat} {idx k : Nat} {M' : pm_M} {as : List Value} {mc' ms' n' : Nat} {rl' : List (Nat × Nat)} {Q' : pm_W → Prop} {host : String} (hd : decode M.2.1 pc = .ok (.invokespecial idx, 3)) (hl0 : pm_MLIN M.1.cls idx M' host as.length) (hrm : M'.2.2.2.2.1 + 1 ≤ M.2.2.2.2.1 ∧ 8 + (M'.2.2.1 + 11) + M'.2.2.2.2.2 ≤ M.2.2.2.2.2) (hsm : (st.map fun v => v.category).sum ≤ 8) (hC : pg_C M' mc' ms' (.ref k :: as) n rl w n' rl' Q') (hn0 : n0 ≤ n) (hc : kc + mc' ≤ mc) (hs : ks + ms' ≤ ms) (hlv : ∀ v, some v ∈ lv → pg_lt n v) (hst : ∀ v ∈ st, pg_lt n v) (kk : ∀ w', Q' w' → pg_R M mc ms n0 n1 rl1 Q (pc + 3) lv st n' rl' w' (kc + mc') (ks + ms')) : pg_R M mc ms n0 n1 rl1 Q pc lv (as.reverse ++ .ref k :: st) n rl w kc ks := by
  intro p l e s m args below meth c D G0 A X G hE hO H locs ls hP hS hl
  obtain ⟨hx, hb, hml, hown, hr, hlocks, hts, hin, hA, hK, hSt, hNw, hA1, hA2⟩ := id X
  obtain ⟨⟨m1, m2, m4, m5⟩, hret, nm, n1, n2, n3⟩ := hl0
  have hgi : GoodIn (pm_ws M) (pm_ws M') := pm_goodIn (by rw [hret]; exact m5)
  have hX := pg_K_ext ⟨hK, hSt, hNw, hA1, hA2⟩ hE
  have hrun := va_runIN (e := e) (below := below) (meth := meth) (locs := locs) (cells := kc) (slots := ks) (g := F0 m pc ls ((as.reverse ++ .ref k :: st).map (pm_v G))) (rest := st.map (pm_v G)) (As := as.map (pm_v G)) (b := G.1 k) (R := pg_rm M mc ms) (H := H) ⟨hx, hb, hml, hown, hts⟩ (hC l D G A hO) ⟨va_cnB as.length hts hgi (by unfold pm_ws; rw [hret]) rfl rfl (hNw _ (List.mem_append_right _ m1)) (hts _ (List.mem_cons_of_mem _ m4)) ⟨n1, n2, n3⟩ hrm, nm, hts _ (List.mem_cons_of_mem _ m2)⟩ ⟨pg_blind, fun U hU hW => ⟨rfl, fun q hq => hA q (by rw [hU] at hq; exact Nat.le_trans hS.1 hq), by rw [hU]; exact hP, pg_K_moved (locs := locs) hW (by rw [hU]; exact hS) hX⟩⟩ rfl (by simp) hl.1 (by simp [pm_v]) (lv_room (by rw [pm_sumc]; exact hsm)) hd ⟨hc, hs⟩
  intro T hT X0
  obtain ⟨v, st₀, t, T', Lc, h0, X', hL, e1, e2, ⟨⟨G2, w', hv, hq, hE2, hO2, hP'⟩, hF⟩, hgo⟩ := hrun T hT X0
  cases hv
  have h1 := kk w' hq p l e s m args below meth c D G0 A X G2 (pg_e_tr hE hE2 hn0) hO2 T'.heap (locs ++ Lc) ls (by rw [e1]; exact hP') ⟨Nat.le_trans hS.1 (by rw [e1, ← h0]; exact hF.1), fun q a1 a2 => by rw [e1, hF.2 q (by rw [h0]; exact Nat.lt_of_lt_of_le a1 hS.1) a2, h0]; exact hS.2.1 q a1 a2, fun q hq => by
    rcases List.mem_append.mp hq with h | h
    · exact hS.2.2 q h
    · exact hL q h⟩ (pg_lv hE2 hlv hl)
  rw [pg_st hE2 hst] at h1
  obtain ⟨t2, a1, b1⟩ := h1 T' rfl X'
  exact ⟨t2, hgo t2 a1, b1⟩

theorem pg_A_in {n : Nat} {rl : List (Nat × Nat)} {A : Nat → Prop} {G : pm_G} (h : pg_o n rl A G) : ∀ q, pm_A (lm n rl) G q → A q := by
  rintro q ⟨k, hk, rfl⟩
  rw [lm_ks h.2.2.1, List.mem_range] at hk
  exact h.2.1 k hk
theorem pg_S_pm {n : Nat} {rl : List (Nat × Nat)} {A : Nat → Prop} {G : pm_G} (h : pg_o n rl A G) {U : State} {H : Heap} (k : pg_S G A U H) : pm_S (lm n rl) G U H := ⟨k.1.narrow (pg_A_in h), k.2.1.narrow (pg_A_in h), k.2.2.1.narrow (pg_A_in h), k.2.2.2.narrow (pg_A_in h)⟩

theorem pg_callV {M : pm_M} {mc ms n0 n1 : Nat} {rl1 : List (Nat × Nat)} {Q : pm_W → Prop} {pc : Nat} {lv : List (Option Value)} {st : List Value} {n : Nat} {rl : List (Nat × Nat)} {w : pm_W} {kc ks : Nat} {idx k ci N : Nat} {M' : pm_M} {as : List Value} {Q' : Option Value → pm_W → Prop} (hd : decode M.2.1 pc = .ok (.invokevirtual idx, 3)) (hk : pm_L0.1 k = (ci, N)) (hkn : k < n) (hc : ci < 6) (hcls : M'.1.cls = pm_R0 ci) (hl0 : pm_MLV M.1.cls idx M' as.length) (hrm : M'.2.2.2.2.1 + 1 ≤ M.2.2.2.2.1 ∧ 8 + (M'.2.2.1 + 11) + M'.2.2.2.2.2 ≤ M.2.2.2.2.2) (hsm : (st.map fun v => v.category).sum ≤ 8) (hC : pm_C (lm n rl) M' (.ref k :: as) w Q') (hfc : kc ≤ mc ∧ ks ≤ ms) (kk : ∀ r w', Q' r w' → pg_R M mc ms n0 n1 rl1 Q (pc + 3) lv (r.toList ++ st) n rl w' kc ks) : pg_R M mc ms n0 n1 rl1 Q pc lv (as.reverse ++ .ref k :: st) n rl w kc ks := by
  intro p l e s m args below meth c D G0 A X G hE hO H locs ls hP hS hl
  obtain ⟨hx, hb, hml, hown, hr, hlocks, hts, hin, hA, hK, hSt, hNw, hA1, hA2⟩ := id X
  have hX := pg_K_ext ⟨hK, hSt, hNw, hA1, hA2⟩ hE
  rw [← pg_tys hE] at hK
  have hm := pg_mem (rl := rl) hO.2.2.1 hkn
  have hL1 : (lm n rl).1 k = (ci, N) := (lm_1 hkn rl).trans hk
  obtain ⟨q0, hq0⟩ := pm_cells_at (G := G) w hm
  rw [pm_cell_o hc hL1] at hq0
  obtain ⟨⟨m1, m2, m3, m4, m5⟩, n1, n2, n3⟩ := hl0
  have hgi : GoodIn (pm_ws M) (wsV M.1.cls idx M'.1.cls M'.1 (pm_ws M')) := by
    intro w hw
    rcases List.mem_append.mp hw with hw | hw
    · simp only [List.mem_cons, List.not_mem_nil, or_false] at hw
      rcases hw with rfl | rfl | rfl | rfl
      · exact ⟨List.mem_cons_of_mem _ m1, pm_gw m1⟩
      · exact ⟨List.mem_cons_of_mem _ m2, pm_gw m2⟩
      · exact ⟨List.mem_cons_of_mem _ m3, pm_gw m3⟩
      · exact ⟨List.mem_cons_of_mem _ m4, pm_gw m4⟩
    · exact pm_goodIn m5 w hw
  have hrv := va_recv hK hP (pm_cl_at hc) hq0
  have hrun := va_runV (e := e) (below := below) (meth := meth) (locs := locs) (cells := kc) (slots := ks) (g := F0 m pc ls ((as.reverse ++ .ref k :: st).map (pm_v G))) (rest := st.map (pm_v G)) (As := as.map (pm_v G)) (b := G.1 k) (R := pg_rm M mc ms) (H := H) ⟨hx, hb, hml, hown, hts⟩ (hC l D G hO.1) (cwV as.length hts hgi rfl rfl rfl ⟨rfl, n1, n2, n3⟩ hrm) ⟨pm_blind, by rw [hcls]; exact hrv, fun U hU hW => ⟨rfl, by rw [hU]; exact hP, by
    have h9 := pg_K_moved (locs := locs) hW (by rw [hU]; exact hS) hX
    exact ⟨h9.1, pg_S_pm hO h9.2.1, fun w hw => h9.2.2.1 w (List.mem_append_left _ hw)⟩⟩⟩ rfl (by simp) hl.1 (by simp [pm_v]) (lv_room (by rw [pm_sumc]; exact hsm)) hd hfc
  intro T hT X0
  obtain ⟨v, st₀, t, T', Lc, h0, X', hL, e1, e2, ⟨⟨r, w', hv, hq, hP'⟩, hF⟩, hgo⟩ := hrun T hT X0
  cases hv
  have h1 := kk r w' hq p l e s m args below meth c D G0 A X G hE hO T'.heap (locs ++ Lc) ls (by rw [e1]; exact hP') ⟨Nat.le_trans hS.1 (by rw [e1, ← h0]; exact hF.1), fun q a1 a2 => by rw [e1, hF.2 q (by rw [h0]; exact Nat.lt_of_lt_of_le a1 hS.1) (fun z => a2 (pg_A_in hO q z)), h0]; exact hS.2.1 q a1 a2, fun q hq => by
    rcases List.mem_append.mp hq with h | h
    · exact hS.2.2 q h
    · exact pg_A_in hO _ (hL q h)⟩ hl
  rw [← pm_tl] at h1
  obtain ⟨t2, a1, b1⟩ := h1 T' rfl X'
  exact ⟨t2, hgo t2 a1, b1⟩

theorem pg_vret {M : pm_M} {mc ms n0 n1 : Nat} {rl1 : List (Nat × Nat)} {Q : pm_W → Prop} {pc : Nat} {lv : List (Option Value)} {st : List Value} {n : Nat} {rl : List (Nat × Nat)} {w : pm_W} {kc ks : Nat}  (hd : decode M.2.1 pc = .ok (.return_, 1)) (hq : Q w) (hn : n = n1) (hrl : rl = rl1) (hc : kc ≤ mc) (hs : ks ≤ ms) : pg_R M mc ms n0 n1 rl1 Q pc lv [] n rl w kc ks := by
  intro p l e s m args below meth c D G0 A X G hE hO H locs ls hP hS hl
  obtain ⟨hx, hb, hml, hown, hr, hlocks, hts, hin, hA, hK, hSt, hNw, hA1, hA2⟩ := id X
  subst hn hrl
  refine W.widen (k := mc) (n := ms) hc hs ?_
  exact W.vret hx hb hr (fun t ht hW => ⟨⟨G, w, rfl, hq, hE, hO, by rw [ht]; exact hP⟩, hS.F ht⟩) hS.2.2 hd hlocks

theorem pg_start {M : pm_M} {mc ms : Nat} {as : List Value} {lv : List (Option Value)} {n : Nat} {rl : List (Nat × Nat)} {w : pm_W} {n1 : Nat} {rl1 : List (Nat × Nat)} {Q : pm_W → Prop} (hy : plainFor M.1 = true) (hret : M.2.2.2.1 = none) (hnm : M.1.name = "<init>") (hn : (pm_ent as).length ≤ M.2.2.1) (hlv : pm_ent as ++ List.replicate (M.2.2.1 - (pm_ent as).length) none = lv) (h : pg_R M mc ms n n1 rl1 Q 0 lv [] n rl w 0 0) : pg_C M mc ms as n rl w n1 rl1 Q := by
  intro l D G A hO
  refine va_MetF (cc := M.2.1) (maxL := M.2.2.1) (ret := M.2.2.2.1) hy rfl ?_
  intro p e s m args below meth c s₁ B hml hv
  obtain ⟨rfl, hA, hP, hK⟩ := hv
  have hl := lv_entry (as.map (pm_v G)) (n := M.2.2.1) (by rw [pm_sl_len]; exact hn)
  rw [lg_entry_eq]
  refine h p l e s m _ below meth c D G A ⟨B.exec, B.bytes, hml, findClass_of_methodNamed B.named, B.returns.trans hret, B.notSynchronized, atoms_spec (ws := pm_ws M) B.pre, (name_of_methodNamed B.named B.method).1.trans hnm, hA, hK⟩ G (pg_e_rf _ _) hO s.heap [] _ hP va_S.rf ⟨hl.1, hl.2.1, fun q hq => ?_⟩
  obtain ⟨a, u⟩ := q
  obtain ⟨v, h1, rfl⟩ := pm_lv_mem.mp hq
  have hi : (pm_ent as)[a]? = some (some v) := by
    rw [← hlv] at h1
    by_cases hl : a < (pm_ent as).length
    · rw [List.getElem?_append_left hl] at h1
      exact h1
    · rw [List.getElem?_append_right (by omega)] at h1
      have := List.eq_of_mem_replicate (List.mem_of_getElem? h1)
      cases this
  have := pm_ent_at (G := G) as 0 a v hi
  rw [Nat.zero_add] at this
  exact hl.2.2 _ this

