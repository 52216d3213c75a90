/-! THE GROWING MACHINE: for constructors. Cells come in the order of their numbers: the first n are there; rl says which references are laid. -/
def lm (n : Nat) (rl : List (Nat × Nat)) : pm_L := (fun k => if k < n then pm_L0.1 k else (99, 0), fun k j => if (k, j) ∈ rl then pm_L0.2 k j else none)
theorem lm_ks0 : ∀ n, n < 110 → (List.range 120).filter (fun k => !((if k < n then pm_L0.1 k else (99, 0)).1 == 99)) = List.range n := by decide +kernel
theorem lm_ks {n : Nat} (hn : n ≤ 109) (rl : List (Nat × Nat)) : pm_ks (lm n rl) = List.range n := lm_ks0 n (by omega)
theorem lm_1 {n k : Nat} (h : k < n) (rl : List (Nat × Nat)) : (lm n rl).1 k = pm_L0.1 k := if_pos h
theorem lm_2 {n k j : Nat} {rl : List (Nat × Nat)} (h : (k, j) ∈ rl) : (lm n rl).2 k j = pm_L0.2 k j := if_pos h
theorem lm_0 {n k j : Nat} {rl : List (Nat × Nat)} (h : (k, j) ∉ rl) : (lm n rl).2 k j = none := if_neg h
/-- references go to cells that are there -/
def rok (n : Nat) (rl : List (Nat × Nat)) : Prop := ∀ p ∈ rl, p.1 < n ∧ ∀ t, pm_L0.2 p.1 p.2 = some t → t < n
def pg_S (G : pm_G) (A : Nat → Prop) (U : State) (H : Heap) : Prop :=
  va_Z RX1 "HAS" "[J" (.ref (G.1 1000)) A U H ∧ va_T .long (G.1 1000) 6 (fun j => .long (pm_has.getD j 0)) A U H ∧
  va_Z RX1 "SIZED" "[J" (.ref (G.1 1001)) A U H ∧ va_T .long (G.1 1001) 7 (fun j => .long (pm_sized.getD j 0)) A U H
def pg_nw : List Jvm.Cond := [.methodLinkNest RX3 33 yX0_init RX4, .methodLinkNest RX4 26 yX1_init RX4]
def pg_K (D : va_G) (G : pm_G) (A : Nat → Prop) (U : State) : Prop := va_K D pm_cl (pm_tys G) U ∧ pg_S G A U U.heap ∧ (∀ w ∈ pm_nest ++ pg_nw, va_Nw w U) ∧ va_AO RX3 U ∧ va_AO RX0 U
def pg_e (n : Nat) (G G' : pm_G) : Prop := (∀ k, k < n → G'.1 k = G.1 k) ∧ G'.2 = G.2 ∧ G'.1 1000 = G.1 1000 ∧ G'.1 1001 = G.1 1001
def pg_o (n : Nat) (rl : List (Nat × Nat)) (A : Nat → Prop) (G : pm_G) : Prop := pm_ok (lm n rl) G ∧ (∀ k, k < n → A (G.1 k)) ∧ n ≤ 109 ∧ rok n rl
def pg_rm (M : pm_M) (mc ms : Nat) : Room := { frames := M.2.2.2.2.1, cells := mc, slots := ms, locals := M.2.2.2.2.2 }
def pg_X (M : pm_M) (p : Program) (s : State) (m : MethodId) (args : Array Value) (meth : Method) (c : Code) (D : va_G) (G : pm_G) (A : Nat → Prop) : Prop :=
  p.tables.exec = Jvm.exec ∧ c.code = M.2.1 ∧ c.maxLocals = M.2.2.1 ∧ s.vm.findClass M.1.cls = some m.cls ∧ meth.sig.returnType = none ∧ meth.locks = false ∧ (∀ w ∈ pm_ws M, w.before args s = true) ∧ meth.name = "<init>" ∧ (∀ q, s.heap.size ≤ q → A q) ∧ pg_K D G A s
def pg_Q (n0 n1 : Nat) (rl1 : List (Nat × Nat)) (D : va_G) (G0 : pm_G) (A : Nat → Prop) (Q : pm_W → Prop) : Array Value → State → Outcome → State → Prop := fun _ st oc t =>
  (∃ (G : pm_G) (w : pm_W), oc = .returned none ∧ Q w ∧ pg_e n0 G0 G ∧ pg_o n1 rl1 A G ∧ va_P D pm_cl (pm_cells (lm n1 rl1) G w) t.heap) ∧ va_F A st t
def pg_R (M : pm_M) (mc ms n0 n1 : Nat) (rl1 : List (Nat × Nat)) (Q : pm_W → Prop) (pc : Nat) (lv : List (Option Value)) (st : List Value) (n : Nat) (rl : List (Nat × Nat)) (w : pm_W) (kc ks : Nat) : Prop :=
  ∀ (p : Program) (l : Launch) (e : Env) (s : State) (m : MethodId) (args : Array Value) (below : List Frame) (meth : Method) (c : Code) (D : va_G) (G0 : pm_G) (A : Nat → Prop), pg_X M p s m args meth c D G0 A →
    ∀ (G : pm_G), pg_e n0 G0 G → pg_o n rl A G → ∀ (H : Heap) (locs : List Loc) (ls : Array Slot), va_P D pm_cl (pm_cells (lm n rl) G w) H → va_S A s.heap H locs → lv_has ls M.2.2.1 (pm_lv G lv) →
      W p l e (pg_rm M mc ms) s m args below meth c H locs kc ks (MQ below (pg_Q n0 n1 rl1 D G0 A Q) args s mc ms A) (F0 m pc ls (st.map (pm_v G)))
/-- a constructor's contract -/
def pg_C (M : pm_M) (mc ms : Nat) (as : List Value) (n : Nat) (rl : List (Nat × Nat)) (w : pm_W) (n1 : Nat) (rl1 : List (Nat × Nat)) (Q : pm_W → Prop) : Prop :=
  ∀ (l : Launch) (D : va_G) (G : pm_G) (A : Nat → Prop), pg_o n rl A G → Met l M.1 (pm_ws M) (pg_rm M mc ms) (va_Pc (as.map (pm_v G)) (fun U => (∀ q, U.heap.size ≤ q → A q) ∧ va_P D pm_cl (pm_cells (lm n rl) G w) U.heap ∧ pg_K D G A U)) (pg_Q n n1 rl1 D G A Q) mc ms A
theorem pg_e_tr {a b : Nat} {G G1 G2 : pm_G} (h : pg_e a G G1) (k : pg_e b G1 G2) (hab : a ≤ b) : pg_e a G G2 := ⟨fun i hi => (k.1 i (by omega)).trans (h.1 i hi), k.2.1.trans h.2.1, k.2.2.1.trans h.2.2.1, k.2.2.2.trans h.2.2.2⟩
theorem pg_e_rf (a : Nat) (G : pm_G) : pg_e a G G := ⟨fun _ _ => rfl, rfl, rfl, rfl⟩
theorem pg_tys {n : Nat} {G G' : pm_G} (h : pg_e n G G') : pm_tys G' = pm_tys G := by unfold pm_tys; rw [h.2.1]
theorem pg_D {n : Nat} {rl : List (Nat × Nat)} {A : Nat → Prop} {G : pm_G} (h : pg_o n rl A G) (w : pm_W) : va_D A (pm_cells (lm n rl) G w) := (pm_D h.1 w).weaken (fun k q _ hq => by
  obtain ⟨i, hi, he⟩ := hq
  rw [lm_ks h.2.2.1, List.mem_range] at hi
  rw [he]; exact h.2.1 i hi)
theorem pg_S_kept {G : pm_G} {A : Nat → Prop} {s U : State} {locs : List Loc} (hvm : s.vm.Alike U.vm) (hS : va_S A s.heap U.heap locs) (h : pg_S G A s s.heap) : pg_S G A U U.heap := by
  obtain ⟨h1, h2, h3, h4⟩ := h
  exact ⟨(h1.moved hvm).kept hS.2.1, (h2.moved hvm).kept hS.2.1, (h3.moved hvm).kept hS.2.1, (h4.moved hvm).kept hS.2.1⟩
theorem pg_nest {s U : State} (hW : s.WarmedH U.vm) (hN : ∀ w ∈ pm_nest ++ pg_nw, va_Nw w s) : ∀ w ∈ pm_nest ++ pg_nw, va_Nw w U := by
  intro w hw
  have h9 := hN w hw
  simp only [pm_nest, pg_nw, List.cons_append, List.nil_append, List.mem_cons, List.not_mem_nil, or_false] at hw
  rcases hw with rfl | rfl | rfl | rfl <;> exact va_Nw.warmM hW h9
theorem pg_K_moved {D : va_G} {G : pm_G} {A : Nat → Prop} {s U : State} {locs : List Loc} (hW : s.WarmedH U.vm) (hS : va_S A s.heap U.heap locs) (h : pg_K D G A s) : pg_K D G A U := by
  obtain ⟨hK, hSt, hN, h1, h2⟩ := h
  exact ⟨hK.moved hW.alike, pg_S_kept (locs := locs) hW.alike hS hSt, pg_nest hW hN, h1.moved hW.alike, h2.moved hW.alike⟩
theorem pg_K_ext {D : va_G} {n : Nat} {G G' : pm_G} {A : Nat → Prop} {U : State} (h : pg_K D G A U) (k : pg_e n G G') : pg_K D G' A U := by
  obtain ⟨hK, hSt, hN, h1, h2⟩ := h
  refine ⟨by rw [pg_tys k]; exact hK, ?_, hN, h1, h2⟩
  unfold pg_S at hSt ⊢
  rw [k.2.2.1, k.2.2.2]
  exact hSt
theorem pg_K_same {D : va_G} {G : pm_G} {A : Nat → Prop} {s U : State} (hv : s.vm = U.vm) (hh : s.heap = U.heap) (h : pg_K D G A s) : pg_K D G A U := by
  have hW : s.vm.Alike U.vm := by rw [hv]; exact Vm.Alike.refl _
  obtain ⟨hK, ⟨h1, h2, h3, h4⟩, hN, h5, h6⟩ := h
  refine ⟨hK.moved hW, ⟨?_, ?_, ?_, ?_⟩, fun w hw => ?_, h5.moved hW, h6.moved hW⟩
  · rw [← hh]; exact h1.moved hW
  · rw [← hh]; exact h2.moved hW
  · rw [← hh]; exact h3.moved hW
  · rw [← hh]; exact h4.moved hW
  · have h9 := hN w hw
    simp only [pm_nest, pg_nw, List.cons_append, List.nil_append, List.mem_cons, List.not_mem_nil, or_false] at hw
    rcases hw with rfl | rfl | rfl | rfl <;> exact va_Nw.same rfl hv h9
theorem pg_blind {D : va_G} {n : Nat} {rl : List (Nat × Nat)} {G : pm_G} {A : Nat → Prop} {av : List Value} {w : pm_W} : FrameBlind (va_Pc av (fun U => (∀ q, U.heap.size ≤ q → A q) ∧ va_P D pm_cl (pm_cells (lm n rl) G w) U.heap ∧ pg_K D G A U)) := by
  intro a U g mk h
  obtain ⟨h1, h0, h2, h3⟩ := h
  exact ⟨h1, h0, h2, pg_K_same (s := U) (U := U.calling g mk a) rfl rfl h3⟩
/-- a value that names a cell that is there -/
def pg_lt (n : Nat) : Value → Prop
  | .ref k => k < n
  | _ => True
theorem pg_v {n : Nat} {G G' : pm_G} (h : pg_e n G G') {v : Value} (hv : pg_lt n v) : pm_v G' v = pm_v G v := by
  cases v <;> first | rfl | (show Value.ref (G'.1 _) = Value.ref (G.1 _); rw [h.1 _ hv])
theorem pg_st {n : Nat} {G G' : pm_G} (h : pg_e n G G') {st : List Value} (hv : ∀ v ∈ st, pg_lt n v) : st.map (pm_v G') = st.map (pm_v G) := List.map_congr_left (fun v hm => pg_v h (hv v hm))
theorem pg_lv {n m : Nat} {G G' : pm_G} (h : pg_e n G G') {lv : List (Option Value)} (hv : ∀ v, some v ∈ lv → pg_lt n v) {ls : Array Slot} (hl : lv_has ls m (pm_lv G lv)) : lv_has ls m (pm_lv G' lv) := by
  refine ⟨hl.1, hl.2.1, fun q hq => ?_⟩
  obtain ⟨a, u⟩ := q
  obtain ⟨v, h1, rfl⟩ := pm_lv_mem.mp hq
  rw [pg_v h (hv v (List.mem_of_getElem? h1))]
  exact hl.2.2 _ (pm_lv_mem.mpr ⟨v, h1, rfl⟩)
theorem pm_cell_cg {L L' : pm_L} {G G' : pm_G} {w w' : pm_W} {k : Nat} (h1 : L'.1 k = L.1 k) (h2 : G'.2 = G.2) (h3 : w'.1 k = w.1 k) (h4 : w'.2 k = w.2 k) (h5 : ∀ j, (L'.2 k j).map G'.1 = (L.2 k j).map G.1) : pm_cell L' G' w' k = pm_cell L G w k := by
  have hf : ∀ ty j, pm_fv L' G' w' k ty j = pm_fv L G w k ty j := by
    intro ty j
    unfold pm_fv
    rw [h3, h4, h5]
  unfold pm_cell
  simp only [h1, h2, h3, h4, h5, hf]
theorem lm_ref {n k j t : Nat} {rl : List (Nat × Nat)} (hr : rok n rl) {m : Nat} (h : (lm m rl).2 k j = some t) : t < n := by
  by_cases q : (k, j) ∈ rl
  · rw [lm_2 q] at h
    exact (hr _ q).2 t h
  · rw [lm_0 q] at h; cases h
/-- a new cell behind the others -/
theorem pg_grow {D : va_G} {n : Nat} {rl : List (Nat × Nat)} {A : Nat → Prop} {G : pm_G} {w w' : pm_W} {q : Nat} {e : va_E} {H1 : Heap} (hn : n < 109) (hO : pg_o n rl A G) (hw : ∀ k, k < n → w'.1 k = w.1 k ∧ w'.2 k = w.2 k) (he : e = pm_cell (lm (n + 1) rl) (va_up G.1 n q, G.2) w' n) (hP1 : va_P D pm_cl (pm_cells (lm n rl) G w ++ [(q, e)]) H1) (hD1 : va_D A (pm_cells (lm n rl) G w ++ [(q, e)])) : pg_e n G (va_up G.1 n q, G.2) ∧ pg_o (n + 1) rl A (va_up G.1 n q, G.2) ∧ va_P D pm_cl (pm_cells (lm (n + 1) rl) (va_up G.1 n q, G.2) w') H1 := by
  have hE : pg_e n G (va_up G.1 n q, G.2) := ⟨fun k hk => va_up_ne _ _ (by omega), rfl, va_up_ne _ _ (by omega), va_up_ne _ _ (by omega)⟩
  have hcs : pm_cells (lm (n + 1) rl) (va_up G.1 n q, G.2) w' = pm_cells (lm n rl) G w ++ [(q, e)] := by
    unfold pm_cells
    rw [lm_ks (by omega), lm_ks (by omega), List.range_succ, List.map_append]
    congr 1
    · refine List.map_congr_left (fun k hk => ?_)
      have hk := List.mem_range.mp hk
      have hc : pm_cell (lm (n + 1) rl) (va_up G.1 n q, G.2) w' k = pm_cell (lm n rl) G w k := by
        refine pm_cell_cg (by rw [lm_1 (by omega), lm_1 hk]) rfl (hw k hk).1 (hw k hk).2 (fun j => ?_)
        show ((lm n rl).2 k j).map (va_up G.1 n q) = ((lm n rl).2 k j).map G.1
        cases hz : (lm n rl).2 k j with
        | none => rfl
        | some t =>
          have := lm_ref hO.2.2.2 hz
          show some (va_up G.1 n q t) = some (G.1 t)
          rw [va_up_ne _ _ (by omega)]
      rw [hc, hE.1 k hk]
    · rw [he]
      show [(va_up G.1 n q n, _)] = _
      rw [va_up_self]
  rw [← hcs] at hP1 hD1
  refine ⟨hE, ⟨⟨fun k hk => ?_, fun i j hi hj hij => ?_⟩, fun k hk => ?_, by omega, fun p hp => ⟨by have := (hO.2.2.2 p hp).1; omega, fun t ht => by have := (hO.2.2.2 p hp).2 t ht; omega⟩⟩, hP1⟩
  · by_cases z : k < n + 1
    · omega
    · exact absurd (by show (if k < n + 1 then pm_L0.1 k else (99, 0)).1 = 99; rw [if_neg z]) hk
  · obtain ⟨a, ha⟩ := List.getElem?_of_mem hi
    obtain ⟨b, hb⟩ := List.getElem?_of_mem hj
    have h1 : ∀ (a k : Nat), (pm_ks (lm (n + 1) rl))[a]? = some k → (pm_cells (lm (n + 1) rl) (va_up G.1 n q, G.2) w')[a]? = some ((va_up G.1 n q, G.2).1 k, pm_cell (lm (n + 1) rl) (va_up G.1 n q, G.2) w' k) := by
      intro a k h
      unfold pm_cells
      rw [List.getElem?_map, h]
      rfl
    have := hD1.1 a b _ _ (h1 a i ha) (h1 b j hb) hij
    subst this
    rw [ha] at hb
    exact Option.some.inj hb
  · have hk2 : k ∈ pm_ks (lm (n + 1) rl) := by rw [lm_ks (by omega)]; exact List.mem_range.mpr hk
    obtain ⟨a, ha⟩ := List.getElem?_of_mem hk2
    refine hD1.2 a ((va_up G.1 n q, G.2).1 k, pm_cell (lm (n + 1) rl) (va_up G.1 n q, G.2) w' k) ?_
    unfold pm_cells
    rw [List.getElem?_map, ha]
    rfl

theorem pg_iconst {M : pm_M} {mc ms n0 n1 : Nat} {rl1 : List (Nat × Nat)} {Q : pm_W → Prop} {pc : Nat} {lv : List (Option Value)} {st : List Value} {n : Nat} {rl : List (Nat × Nat)} {w : pm_W} {kc ks : Nat} {z : Int} {x : Int32} (hd : decode M.2.1 pc = .ok (.iconst z, 1)) (hv : Int32.ofInt z = x) (h : pg_R M mc ms n0 n1 rl1 Q (pc + 1) lv (.int x :: st) n rl w kc ks) : pg_R M mc ms n0 n1 rl1 Q pc lv st n rl w kc ks := by
  intro p l e s m args below meth c D G0 A X G hE hO H locs ls hP hS hl
  obtain ⟨hx, hb, hml, hown, hr, hlocks, hts, hin, hA, hK, hSt, hNw, hA1, hA2⟩ := id X
  exact lv_iconst hx hb hd hv (h p l e s m args below meth c D G0 A X G hE hO H locs ls hP hS hl)

theorem pg_bipush {M : pm_M} {mc ms n0 n1 : Nat} {rl1 : List (Nat × Nat)} {Q : pm_W → Prop} {pc : Nat} {lv : List (Option Value)} {st : List Value} {n : Nat} {rl : List (Nat × Nat)} {w : pm_W} {kc ks : Nat} {z : Int} {x : Int32} (hd : decode M.2.1 pc = .ok (.bipush z, 2)) (hv : (Int8.ofInt z).toInt32 = x) (h : pg_R M mc ms n0 n1 rl1 Q (pc + 2) lv (.int x :: st) n rl w kc ks) : pg_R M mc ms n0 n1 rl1 Q pc lv st n rl w kc ks := by
  intro p l e s m args below meth c D G0 A X G hE hO H locs ls hP hS hl
  obtain ⟨hx, hb, hml, hown, hr, hlocks, hts, hin, hA, hK, hSt, hNw, hA1, hA2⟩ := id X
  exact lv_bipush hx hb hd hv (h p l e s m args below meth c D G0 A X G hE hO H locs ls hP hS hl)

theorem pg_sipush {M : pm_M} {mc ms n0 n1 : Nat} {rl1 : List (Nat × Nat)} {Q : pm_W → Prop} {pc : Nat} {lv : List (Option Value)} {st : List Value} {n : Nat} {rl : List (Nat × Nat)} {w : pm_W} {kc ks : Nat} {z : Int} {x : Int32} (hd : decode M.2.1 pc = .ok (.sipush z, 3)) (hv : (Int16.ofInt z).toInt32 = x) (h : pg_R M mc ms n0 n1 rl1 Q (pc + 3) lv (.int x :: st) n rl w kc ks) : pg_R M mc ms n0 n1 rl1 Q pc lv st n rl w kc ks := by
  intro p l e s m args below meth c D G0 A X G hE hO H locs ls hP hS hl
  obtain ⟨hx, hb, hml, hown, hr, hlocks, hts, hin, hA, hK, hSt, hNw, hA1, hA2⟩ := id X
  exact lv_sipush hx hb hd hv (h p l e s m args below meth c D G0 A X G hE hO H locs ls hP hS hl)

theorem pg_aload_n {M : pm_M} {mc ms n0 n1 : Nat} {rl1 : List (Nat × Nat)} {Q : pm_W → Prop} {pc : Nat} {lv : List (Option Value)} {st : List Value} {n : Nat} {rl : List (Nat × Nat)} {w : pm_W} {kc ks : Nat} {k : Fin 4} {x : Nat} (hd : decode M.2.1 pc = .ok (.aload_n k, 1)) (hi : lv[(k : Nat)]? = some (some (.ref x))) (h : pg_R M mc ms n0 n1 rl1 Q (pc + 1) lv (.ref x :: st) n rl w kc ks) : pg_R M mc ms n0 n1 rl1 Q pc lv st n rl w kc ks := by
  intro p l e s m args below meth c D G0 A X G hE hO H locs ls hP hS hl
  obtain ⟨hx, hb, hml, hown, hr, hlocks, hts, hin, hA, hK, hSt, hNw, hA1, hA2⟩ := id X
  exact lv_aload_n hx hb hd rfl (pm_get hl hi) (h p l e s m args below meth c D G0 A X G hE hO H locs ls hP hS hl)

theorem pg_iload_n {M : pm_M} {mc ms n0 n1 : Nat} {rl1 : List (Nat × Nat)} {Q : pm_W → Prop} {pc : Nat} {lv : List (Option Value)} {st : List Value} {n : Nat} {rl : List (Nat × Nat)} {w : pm_W} {kc ks : Nat} {k : Fin 4} {x : Int32} (hd : decode M.2.1 pc = .ok (.iload_n k, 1)) (hi : lv[(k : Nat)]? = some (some (.int x))) (h : pg_R M mc ms n0 n1 rl1 Q (pc + 1) lv (.int x :: st) n rl w kc ks) : pg_R M mc ms n0 n1 rl1 Q pc lv st n rl w kc ks := by
  intro p l e s m args below meth c D G0 A X G hE hO H locs ls hP hS hl
  obtain ⟨hx, hb, hml, hown, hr, hlocks, hts, hin, hA, hK, hSt, hNw, hA1, hA2⟩ := id X
  exact lv_iload_n hx hb hd rfl (pm_get hl hi) (h p l e s m args below meth c D G0 A X G hE hO H locs ls hP hS hl)

theorem pg_istore_n {M : pm_M} {mc ms n0 n1 : Nat} {rl1 : List (Nat × Nat)} {Q : pm_W → Prop} {pc : Nat} {lv : List (Option Value)} {st : List Value} {n : Nat} {rl : List (Nat × Nat)} {w : pm_W} {kc ks : Nat} {k : Fin 4} {x : Int32} {lv' : List (Option Value)} (hd : decode M.2.1 pc = .ok (.istore_n k, 1)) (hn : (k : Nat) < M.2.2.1) (hs : pm_set lv k (.int x) = lv') (h : pg_R M mc ms n0 n1 rl1 Q (pc + 1) lv' st n rl w kc ks) : pg_R M mc ms n0 n1 rl1 Q pc lv (.int x :: st) n rl w kc ks := by
  intro p l e s m args below meth c D G0 A X G hE hO H locs ls hP hS hl
  obtain ⟨hx, hb, hml, hown, hr, hlocks, hts, hin, hA, hK, hSt, hNw, hA1, hA2⟩ := id X
  subst hs
  exact lv_istore_n hx hb hd rfl hl hn rfl (fun ls hl => h p l e s m args below meth c D G0 A X G hE hO H locs ls hP hS (pm_has1 (v := .int x) hl))

theorem pg_iinc {M : pm_M} {mc ms n0 n1 : Nat} {rl1 : List (Nat × Nat)} {Q : pm_W → Prop} {pc : Nat} {lv : List (Option Value)} {st : List Value} {n : Nat} {rl : List (Nat × Nat)} {w : pm_W} {kc ks : Nat} {i : Nat} {z : Int} {x y : Int32} {lv' : List (Option Value)} (hd : decode M.2.1 pc = .ok (.iinc i z, 3)) (hi : lv[i]? = some (some (.int x))) (hv : x + Int32.ofInt z = y) (hn : i < M.2.2.1) (hs : pm_set lv i (.int y) = lv') (h : pg_R M mc ms n0 n1 rl1 Q (pc + 3) lv' st n rl w kc ks) : pg_R M mc ms n0 n1 rl1 Q pc lv st n rl w kc ks := by
  intro p l e s m args below meth c D G0 A X G hE hO H locs ls hP hS hl
  obtain ⟨hx, hb, hml, hown, hr, hlocks, hts, hin, hA, hK, hSt, hNw, hA1, hA2⟩ := id X
  subst hs
  obtain ⟨k, hk⟩ := List.getElem?_of_mem (pm_lv_mem (G := G).mpr ⟨_, hi, rfl⟩)
  exact lv_iinc hx hb hd hl hk hv hn rfl (fun ls hl => h p l e s m args below meth c D G0 A X G hE hO H locs ls hP hS (pm_has1 (v := .int y) hl))

theorem pg_dup {M : pm_M} {mc ms n0 n1 : Nat} {rl1 : List (Nat × Nat)} {Q : pm_W → Prop} {pc : Nat} {lv : List (Option Value)} {st : List Value} {n : Nat} {rl : List (Nat × Nat)} {w : pm_W} {kc ks : Nat} {a : Value} (hd : decode M.2.1 pc = .ok (.dup, 1)) (ha : a.category = 1) (h : pg_R M mc ms n0 n1 rl1 Q (pc + 1) lv (a :: a :: st) n rl w kc ks) : pg_R M mc ms n0 n1 rl1 Q pc lv (a :: st) n rl w kc ks := by
  intro p l e s m args below meth c D G0 A X G hE hO H locs ls hP hS hl
  obtain ⟨hx, hb, hml, hown, hr, hlocks, hts, hin, hA, hK, hSt, hNw, hA1, hA2⟩ := id X
  exact lv_dup hx hb hd (by rw [pm_v_cat]; exact ha) (h p l e s m args below meth c D G0 A X G hE hO H locs ls hP hS hl)

theorem pg_goto {M : pm_M} {mc ms n0 n1 : Nat} {rl1 : List (Nat × Nat)} {Q : pm_W → Prop} {pc : Nat} {lv : List (Option Value)} {st : List Value} {n : Nat} {rl : List (Nat × Nat)} {w : pm_W} {kc ks : Nat} {off : Int} {tgt : Nat} (hd : decode M.2.1 pc = .ok (.goto off, 3)) (ht : (pc : Int) + off = (tgt : Int)) (h : pg_R M mc ms n0 n1 rl1 Q tgt lv st n rl w kc ks) : pg_R M mc ms n0 n1 rl1 Q pc lv st n rl w kc ks := by
  intro p l e s m args below meth c D G0 A X G hE hO H locs ls hP hS hl
  obtain ⟨hx, hb, hml, hown, hr, hlocks, hts, hin, hA, hK, hSt, hNw, hA1, hA2⟩ := id X
  exact lv_goto hx hb hd ht (h p l e s m args below meth c D G0 A X G hE hO H locs ls hP hS hl)

theorem pg_icmp_ge {M : pm_M} {mc ms n0 n1 : Nat} {rl1 : List (Nat × Nat)} {Q : pm_W → Prop} {pc : Nat} {lv : List (Option Value)} {st : List Value} {n : Nat} {rl : List (Nat × Nat)} {w : pm_W} {kc ks : Nat} {x y : Int32} {off : Int} {tgt : Nat} (hd : decode M.2.1 pc = .ok (.if_icmp .ge off, 3)) (ht : (pc : Int) + off = (tgt : Int)) (kt : y ≤ x → pg_R M mc ms n0 n1 rl1 Q tgt lv st n rl w kc ks) (kf : ¬ y ≤ x → pg_R M mc ms n0 n1 rl1 Q (pc + 3) lv st n rl w kc ks) : pg_R M mc ms n0 n1 rl1 Q pc lv (.int y :: .int x :: st) n rl w kc ks := by
  intro p l e s m args below meth c D G0 A X G hE hO H locs ls hP hS hl
  obtain ⟨hx, hb, hml, hown, hr, hlocks, hts, hin, hA, hK, hSt, hNw, hA1, hA2⟩ := id X
  exact lv_icmp_ge hx hb hd ht (fun q => kt q p l e s m args below meth c D G0 A X G hE hO H locs ls hP hS hl) (fun q => kf q p l e s m args below meth c D G0 A X G hE hO H locs ls hP hS hl)

theorem pg_objInit {M : pm_M} {mc ms n0 n1 : Nat} {rl1 : List (Nat × Nat)} {Q : pm_W → Prop} {pc : Nat} {lv : List (Option Value)} {st : List Value} {n : Nat} {rl : List (Nat × Nat)} {w : pm_W} {kc ks : Nat} {k idx : Nat} (hd : decode M.2.1 pc = .ok (.invokespecial idx, 3)) (hl1 : Jvm.Cond.methodLink M.1.cls idx Lib.objectInit ∈ pm_good) (hl2 : Jvm.Cond.instanceMethod Lib.objectInit ∈ pm_good) (hl3 : Jvm.Cond.code Lib.objectInit ⟨#[0xb1]⟩ 1 none ∈ pm_good) (hf : 1 ≤ M.2.2.2.2.1) (hlo : (st.map fun v => v.category).sum + 12 ≤ M.2.2.2.2.2) (h : pg_R M mc ms n0 n1 rl1 Q (pc + 3) lv st n rl w kc ks) : pg_R M mc ms n0 n1 rl1 Q pc lv (.ref k :: st) n rl w kc ks := by
  intro p l e s m args below meth c D G0 A X G hE hO H locs ls hP hS hl
  obtain ⟨hx, hb, hml, hown, hr, hlocks, hts, hin, hA, hK, hSt, hNw, hA1, hA2⟩ := id X
  refine W.objInit hx hb hown (hts _ (List.mem_cons_of_mem _ hl1)) (hts _ (List.mem_cons_of_mem _ hl2)) (hts _ (List.mem_cons_of_mem _ hl3)) rfl (by rw [hml]; exact hl.1) rfl hd hf ?_ ?_
  · show 2 * (F0 m pc ls _).monitorRoom + ((st.map (pm_v G)).map fun v => v.category).sum + 12 ≤ M.2.2.2.2.2
    rw [pm_sumc]
    have : (F0 m pc ls ((Value.ref k :: st).map (pm_v G))).monitorRoom = 0 := rfl
    rw [this]
    omega
  · exact W.eq (g2 := F0 m (pc + 3) ls (st.map (pm_v G))) rfl (h p l e s m args below meth c D G0 A X G hE hO H locs ls hP hS hl)

