/-! THE PURE MACHINE: a method's walk over a world of numbered cells. A world is what the cells hold (ints, longs);
    a layout says of each number its class or array type and its length, and where its references point (numbers again). -/
abbrev pm_W : Type := (Nat → Nat → Int32) × (Nat → Nat → Int64)
abbrev pm_L : Type := (Nat → Nat × Nat) × (Nat → Nat → Option Nat)
abbrev pm_G : Type := (Nat → Nat) × (Nat → ClassId)
abbrev pm_M : Type := MethodName × ByteArray × Nat × Option FieldType × Nat × Nat
abbrev pm_cl : List vw_C := [(RX0, TX0, 10), (RX1, TX1, 9), (RX2, TX2, 5), (RX3, TX3, 11), (RX4, TX4, 4), (RX5, TX5, 39)]
def pm_T (ci : Nat) : u_T := match ci with
  | 0 => TX0
  | 1 => TX1
  | 2 => TX2
  | 3 => TX3
  | 4 => TX4
  | _ => TX5
def pm_R0 (ci : Nat) : String := match ci with
  | 0 => RX0
  | 1 => RX1
  | 2 => RX2
  | 3 => RX3
  | 4 => RX4
  | _ => RX5
def pm_N (ci : Nat) : Nat := match ci with
  | 0 => 10
  | 1 => 9
  | 2 => 5
  | 3 => 11
  | 4 => 4
  | _ => 39
def pm_ty (ci : Nat) : Nat → FieldType := match ci with
  | 0 => tyX0
  | 1 => tyX1
  | 2 => tyX2
  | 3 => tyX3
  | 4 => tyX4
  | _ => tyX5
theorem pm_cl_at {ci : Nat} (h : ci < 6) : pm_cl[ci]? = some (pm_R0 ci, pm_T ci, pm_N ci) := by
  match ci, h with
  | 0, _ => rfl
  | 1, _ => rfl
  | 2, _ => rfl
  | 3, _ => rfl
  | 4, _ => rfl
  | 5, _ => rfl
  | n + 6, h => exact absurd h (by omega)
theorem pm_nm {ci : Nat} (h : ci < 6) : ∀ a, a < pm_N ci → ∀ b, b < pm_N ci → a ≠ b → (pm_T ci a).2.1 ≠ (pm_T ci b).2.1 := by
  match ci, h with
  | 0, _ => exact nmX0
  | 1, _ => exact nmX1
  | 2, _ => exact nmX2
  | 3, _ => exact nmX3
  | 4, _ => exact nmX4
  | 5, _ => exact nmX5
  | n + 6, h => exact absurd h (by omega)
theorem pm_tyok {ci : Nat} (h : ci < 6) : ∀ k, k < pm_N ci → parseFieldDescriptor (pm_T ci k).2.2.1 = some (pm_ty ci k) := by
  match ci, h with
  | 0, _ => exact tyX0_ok
  | 1, _ => exact tyX1_ok
  | 2, _ => exact tyX2_ok
  | 3, _ => exact tyX3_ok
  | 4, _ => exact tyX4_ok
  | 5, _ => exact tyX5_ok
  | n + 6, h => exact absurd h (by omega)
/-- the words that every method may count on -/
def pm_good : List Jvm.Cond := lw_tbl.filter goodWord
def pm_ws (M : pm_M) : List Jvm.Cond := Jvm.Cond.code M.1 M.2.1 M.2.2.1 M.2.2.2.1 :: pm_good
def pm_rm (M : pm_M) : Room := { frames := M.2.2.2.2.1, cells := 0, slots := 0, locals := M.2.2.2.2.2 }
theorem pm_in {w : Jvm.Cond} (i : Nat) (h : lw_tbl[i]? = some w) (hg : goodWord w = true) : w ∈ pm_good := List.mem_filter.mpr ⟨List.mem_of_getElem? h, hg⟩
theorem pm_lays {ci : Nat} (h : ci < 6) : ∀ w ∈ u_ws (pm_R0 ci) (pm_T ci) (pm_N ci), w ∈ pm_good := by
  have key : ∀ (ws : List Jvm.Cond), ws.all (fun w => decide (w ∈ lw_tbl) && goodWord w) = true → ∀ w ∈ ws, w ∈ pm_good := by
    intro ws hw w hm
    have h1 := List.all_eq_true.mp hw w hm
    simp only [Bool.and_eq_true, decide_eq_true_eq] at h1
    exact List.mem_filter.mpr h1
  match ci, h with
  | 0, _ => exact key _ (by decide +kernel)
  | 1, _ => exact key _ (by decide +kernel)
  | 2, _ => exact key _ (by decide +kernel)
  | 3, _ => exact key _ (by decide +kernel)
  | 4, _ => exact key _ (by decide +kernel)
  | 5, _ => exact key _ (by decide +kernel)
  | n + 6, h => exact absurd h (by omega)
def pm_v (G : pm_G) : Value → Value
  | .ref k => .ref (G.1 k)
  | v => v
theorem pm_v_cat (G : pm_G) (v : Value) : (pm_v G v).category = v.category := by cases v <;> rfl
/-- what a field of type ty holds -/
def pm_fv (L : pm_L) (G : pm_G) (w : pm_W) (k : Nat) (ty : FieldType) (j : Nat) : Value := match ty with
  | .int => .int (w.1 k j)
  | .long => .long (w.2 k j)
  | _ => va_rf ((L.2 k j).map G.1)
def pm_cell (L : pm_L) (G : pm_G) (w : pm_W) (k : Nat) : va_E :=
  if (L.1 k).1 = 10 then .inl (G.2 10, (L.1 k).2, .inl (w.1 k))
  else if (L.1 k).1 = 11 then .inl (G.2 11, (L.1 k).2, .inl (w.1 k))
  else if (L.1 k).1 = 12 then .inl (G.2 12, (L.1 k).2, .inr (.inl (w.2 k)))
  else if (L.1 k).1 = 13 then .inl (G.2 13, (L.1 k).2, .inr (.inr (.inr (.inr (fun j => (L.2 k j).map G.1)))))
  else if (L.1 k).1 = 14 then .inl (G.2 14, (L.1 k).2, .inr (.inr (.inr (.inr (fun j => (L.2 k j).map G.1)))))
  else .inr ((L.1 k).1, (List.range (L.1 k).2).map (fun j => pm_fv L G w k (pm_ty (L.1 k).1 j) j))
/-- which numbers are there -/
def pm_ks (L : pm_L) : List Nat := (List.range 120).filter (fun k => !((L.1 k).1 == 99))
def pm_cells (L : pm_L) (G : pm_G) (w : pm_W) : va_W := (pm_ks L).map (fun k => (G.1 k, pm_cell L G w k))
def pm_tys (G : pm_G) : List (ClassId × FieldType) := [(G.2 10, .int), (G.2 11, .boolean), (G.2 12, .long), (G.2 13, .object "ReadAhead$House"), (G.2 14, .object "ReadAhead$Asker")]
def pm_A (L : pm_L) (G : pm_G) : Nat → Prop := fun q => ∃ k, k ∈ pm_ks L ∧ q = G.1 k
def pm_has : List Int64 := [-6148914691236517206, -3689348814741910324, -1085102592571150096, -71777214294589696, -281470681808896, -4294967296]
def pm_sized : List Int64 := [1, 4295033110, 282668995843688, 78274679833913472, 1614655367130677248, 7530159316599308288, -9223372036854775808]
def pm_nest : List Jvm.Cond := [.methodLinkNest RX3 195 yX4_isBlock RX4, .methodLinkNest RX1 80 yX4_within RX4]
/-- the static tables, at the numbers 1000 and 1001 -/
def pm_S (L : pm_L) (G : pm_G) (U : State) (H : Heap) : Prop :=
  va_Z RX1 "HAS" "[J" (.ref (G.1 1000)) (pm_A L G) U H ∧ va_T .long (G.1 1000) 6 (fun j => .long (pm_has.getD j 0)) (pm_A L G) U H ∧
  va_Z RX1 "SIZED" "[J" (.ref (G.1 1001)) (pm_A L G) U H ∧ va_T .long (G.1 1001) 7 (fun j => .long (pm_sized.getD j 0)) (pm_A L G) U H
/-- the layout is of numbers below 120; the addresses are apart -/
def pm_ok (L : pm_L) (G : pm_G) : Prop := (∀ k, ¬ (L.1 k).1 = 99 → k < 120) ∧ (∀ i j, i ∈ pm_ks L → j ∈ pm_ks L → G.1 i = G.1 j → i = j)
/-- what holds all the while of a state -/
def pm_K (L : pm_L) (D : va_G) (G : pm_G) (U : State) : Prop := va_K D pm_cl (pm_tys G) U ∧ pm_S L G U U.heap ∧ (∀ w ∈ pm_nest, va_Nw w U)
def pm_X (L : pm_L) (M : pm_M) (p : Program) (s : State) (m : MethodId) (args : Array Value) (meth : Method) (c : Code) (D : va_G) (G : pm_G) : Prop :=
  p.tables.exec = Jvm.exec ∧ c.code = M.2.1 ∧ c.maxLocals = M.2.2.1 ∧ s.vm.findClass M.1.cls = some m.cls ∧ meth.sig.returnType = M.2.2.2.1 ∧ meth.locks = false ∧ (∀ w ∈ pm_ws M, w.before args s = true) ∧ pm_ok L G ∧ pm_K L D G s
def pm_Q (L : pm_L) (D : va_G) (G : pm_G) (Q : Option Value → pm_W → Prop) : Array Value → State → Outcome → State → Prop := fun _ st oc t =>
  (∃ (r : Option Value) (w : pm_W), oc = .returned (r.map (pm_v G)) ∧ Q r w ∧ va_P D pm_cl (pm_cells L G w) t.heap) ∧ va_F (pm_A L G) st t
def pm_lv (G : pm_G) (lv : List (Option Value)) : List (Nat × Value) := (List.range lv.length).filterMap (fun i => (lv.getD i none).map (fun v => (i, pm_v G v)))
theorem pm_lv_mem {G : pm_G} {lv : List (Option Value)} {i : Nat} {u : Value} : (i, u) ∈ pm_lv G lv ↔ ∃ v, lv[i]? = some (some v) ∧ u = pm_v G v := by
  unfold pm_lv
  rw [List.mem_filterMap]
  constructor
  · rintro ⟨a, ha, h⟩
    have hl := List.mem_range.mp ha
    rw [List.getD_eq_getElem?_getD, List.getElem?_eq_getElem hl] at h
    cases hv : lv[a] with
    | none => rw [hv] at h; cases h
    | some v =>
      rw [hv] at h
      simp at h
      obtain ⟨rfl, rfl⟩ := h
      exact ⟨v, by rw [List.getElem?_eq_getElem hl, hv], rfl⟩
  · rintro ⟨v, h, rfl⟩
    have hl : i < lv.length := (List.getElem?_eq_some_iff.mp h).1
    refine ⟨i, List.mem_range.mpr hl, ?_⟩
    rw [List.getD_eq_getElem?_getD, h]
    rfl
/-- the walk stands at pc with these locals, this stack, this world: it comes to an end with Q -/
def pm_R (L : pm_L) (M : pm_M) (pc : Nat) (lv : List (Option Value)) (st : List Value) (w : pm_W) (Q : Option Value → pm_W → Prop) : Prop :=
  ∀ (p : Program) (l : Launch) (e : Env) (s : State) (m : MethodId) (args : Array Value) (below : List Frame) (meth : Method) (c : Code) (D : va_G) (G : pm_G), pm_X L M p s m args meth c D G →
    ∀ (H : Heap) (locs : List Loc) (ls : Array Slot), va_P D pm_cl (pm_cells L G w) H → va_S (pm_A L G) s.heap H locs → lv_has ls M.2.2.1 (pm_lv G lv) →
      W p l e (pm_rm M) s m args below meth c H locs 0 0 (MQ below (pm_Q L D G Q) args s 0 0 (pm_A L G)) (F0 m pc ls (st.map (pm_v G)))
/-- a method's contract at these arguments, from this world on -/
def pm_C (L : pm_L) (M : pm_M) (as : List Value) (w : pm_W) (Q : Option Value → pm_W → Prop) : Prop :=
  ∀ (l : Launch) (D : va_G) (G : pm_G), pm_ok L G → Met l M.1 (pm_ws M) (pm_rm M) (va_Pc (as.map (pm_v G)) (fun U => va_P D pm_cl (pm_cells L G w) U.heap ∧ pm_K L D G U)) (pm_Q L D G Q) 0 0 (pm_A L G)
-- cells
theorem pm_ks_mem {L : pm_L} {k : Nat} : k ∈ pm_ks L ↔ k < 120 ∧ ¬ (L.1 k).1 = 99 := by
  unfold pm_ks
  rw [List.mem_filter, List.mem_range]
  simp
theorem pm_there {L : pm_L} {G : pm_G} (ho : pm_ok L G) {k : Nat} (h : ¬ (L.1 k).1 = 99) : k ∈ pm_ks L := pm_ks_mem.mpr ⟨ho.1 k h, h⟩
theorem pm_cells_at {L : pm_L} {G : pm_G} (w : pm_W) {k : Nat} (h : k ∈ pm_ks L) : ∃ q0 : Nat, (pm_cells L G w)[q0]? = some (G.1 k, pm_cell L G w k) :=
  List.getElem?_of_mem (List.mem_map.mpr ⟨k, h, rfl⟩)
theorem pm_cells_id {L : pm_L} {G : pm_G} {w : pm_W} {i : Nat} {q : Nat × va_E} (h : (pm_cells L G w)[i]? = some q) : ∃ k, (pm_ks L)[i]? = some k ∧ k ∈ pm_ks L ∧ q = (G.1 k, pm_cell L G w k) := by
  unfold pm_cells at h
  rw [List.getElem?_map] at h
  cases hk : (pm_ks L)[i]? with
  | none => rw [hk] at h; cases h
  | some k =>
    rw [hk] at h
    exact ⟨k, rfl, List.mem_of_getElem? hk, (Option.some.inj h).symm⟩
theorem pm_ks_inj {L : pm_L} {i j k : Nat} (hi : (pm_ks L)[i]? = some k) (hj : (pm_ks L)[j]? = some k) : i = j := by
  have hn : (pm_ks L).Nodup := List.Pairwise.filter _ List.nodup_range
  obtain ⟨h1, e1⟩ := List.getElem?_eq_some_iff.mp hi
  obtain ⟨h2, e2⟩ := List.getElem?_eq_some_iff.mp hj
  have key := List.pairwise_iff_getElem.mp hn
  rcases Nat.lt_trichotomy i j with h | h | h
  · exact absurd (e1.trans e2.symm) (key i j h1 h2 h)
  · exact h
  · exact absurd (e2.trans e1.symm) (key j i h2 h1 h)
theorem pm_D {L : pm_L} {G : pm_G} (ho : pm_ok L G) (w : pm_W) : va_D (pm_A L G) (pm_cells L G w) := by
  refine ⟨fun i j x y hi hj hxy => ?_, fun i x hi => ?_⟩
  · obtain ⟨k1, h1, m1, rfl⟩ := pm_cells_id hi
    obtain ⟨k2, h2, m2, rfl⟩ := pm_cells_id hj
    have := ho.2 k1 k2 m1 m2 hxy
    subst this
    exact pm_ks_inj h1 h2
  · obtain ⟨k, h1, m1, rfl⟩ := pm_cells_id hi
    exact ⟨k, m1, rfl⟩
/-- behind a write to the cell k -/
theorem pm_P_set {L : pm_L} {D : va_G} {G : pm_G} (ho : pm_ok L G) {w w' : pm_W} {k q0 : Nat} {e : va_E} {H1 : Heap} (h0 : (pm_cells L G w)[q0]? = some (G.1 k, pm_cell L G w k)) (hk : k ∈ pm_ks L)
    (he : e = pm_cell L G w' k) (hx : ∀ j, j ≠ k → pm_cell L G w' j = pm_cell L G w j) (h : va_P D pm_cl ((pm_cells L G w).set q0 (G.1 k, e)) H1) : va_P D pm_cl (pm_cells L G w') H1 := by
  intro i q hq
  obtain ⟨j, h1, m1, rfl⟩ := pm_cells_id hq
  have hl0 := (List.getElem?_eq_some_iff.mp h0).1
  obtain ⟨k0, g1, gm, g2⟩ := pm_cells_id h0
  have ek : k0 = k := (ho.2 k k0 hk gm (congrArg Prod.fst g2)).symm
  subst ek
  by_cases hjk : j = k0
  · subst hjk
    refine h q0 _ ?_
    rw [List.getElem?_set_self hl0, he]
  · rw [hx j hjk]
    have hi0 : q0 ≠ i := by
      intro e0
      subst e0
      rw [g1] at h1
      exact hjk (Option.some.inj h1).symm
    refine h i _ ?_
    rw [List.getElem?_set_ne hi0]
    unfold pm_cells
    rw [List.getElem?_map, h1]
    rfl
-- locals
def pm_cut (lv : List (Option Value)) (i : Nat) : List (Option Value) := match i with
  | 0 => lv
  | j + 1 => match lv[j]? with
    | some (some v) => if v.category = 2 then lv.set j none else lv
    | _ => lv
def pm_set (lv : List (Option Value)) (i : Nat) (v : Value) : List (Option Value) := (pm_cut lv i).set i (some v)
def pm_set2 (lv : List (Option Value)) (i : Nat) (v : Value) : List (Option Value) := ((pm_cut lv i).set i (some v)).set (i + 1) none
theorem pm_cut_at {lv : List (Option Value)} {i a : Nat} {v : Value} (h : (pm_cut lv i)[a]? = some (some v)) : lv[a]? = some (some v) ∧ ¬ (a + 1 = i ∧ v.category = 2) := by
  cases i with
  | zero => exact ⟨h, fun q => by omega⟩
  | succ j =>
    unfold pm_cut at h
    simp only at h
    split at h
    next u hu =>
      split at h
      next hc =>
        by_cases ha : a = j
        · subst ha
          have hl := (List.getElem?_eq_some_iff.mp hu).1
          rw [List.getElem?_set_self hl] at h
          cases h
        · rw [List.getElem?_set_ne (Ne.symm ha)] at h
          exact ⟨h, fun q => ha (by omega)⟩
      next hc =>
        refine ⟨h, fun q => ?_⟩
        have ha : a = j := by omega
        subst ha
        rw [h] at hu
        cases hu
        exact hc q.2
    next hu =>
      refine ⟨h, fun q => ?_⟩
      have ha : a = j := by omega
      subst ha
      exact hu v h
theorem pm_has1 {G : pm_G} {ls : Array Slot} {n i : Nat} {lv : List (Option Value)} {v : Value} (h : lv_has ls n ((i, pm_v G v) :: (pm_lv G lv).filter (fun q => !(q.1 == i) && !(q.1 + 1 == i && q.2.category == 2)))) : lv_has ls n (pm_lv G (pm_set lv i v)) := by
  refine ⟨h.1, h.2.1, fun q hq => h.2.2 q ?_⟩
  obtain ⟨a, u⟩ := q
  obtain ⟨v0, h0, rfl⟩ := pm_lv_mem.mp hq
  unfold pm_set at h0
  by_cases ha : i = a
  · subst ha
    have hl : i < ((pm_cut lv i).set i (some v)).length := (List.getElem?_eq_some_iff.mp h0).1
    rw [List.length_set] at hl
    rw [List.getElem?_set_self hl] at h0
    cases h0
    exact List.mem_cons_self
  · rw [List.getElem?_set_ne ha] at h0
    obtain ⟨h1, h2⟩ := pm_cut_at h0
    refine List.mem_cons_of_mem _ (List.mem_filter.mpr ⟨pm_lv_mem.mpr ⟨v0, h1, rfl⟩, ?_⟩)
    simp only [Bool.and_eq_true, Bool.not_eq_true', beq_eq_false_iff_ne, ne_eq, Bool.and_eq_false_iff, pm_v_cat]
    refine ⟨fun e => ha e.symm, ?_⟩
    by_cases h3 : a + 1 = i
    · exact Or.inr (fun e => h2 ⟨h3, e⟩)
    · exact Or.inl h3
theorem pm_has2 {G : pm_G} {ls : Array Slot} {n i : Nat} {lv : List (Option Value)} {v : Value} (h : lv_has ls n ((i, pm_v G v) :: (pm_lv G lv).filter (fun q => !(q.1 == i) && (!(q.1 == i + 1) && !(q.1 + 1 == i && q.2.category == 2))))) : lv_has ls n (pm_lv G (pm_set2 lv i v)) := by
  refine ⟨h.1, h.2.1, fun q hq => h.2.2 q ?_⟩
  obtain ⟨a, u⟩ := q
  obtain ⟨v0, h0, rfl⟩ := pm_lv_mem.mp hq
  unfold pm_set2 at h0
  by_cases hb : i + 1 = a
  · subst hb
    have hl := (List.getElem?_eq_some_iff.mp h0).1
    rw [List.length_set] at hl
    rw [List.getElem?_set_self hl] at h0
    cases h0
  rw [List.getElem?_set_ne hb] at h0
  by_cases ha : i = a
  · subst ha
    have hl : i < ((pm_cut lv i).set i (some v)).length := (List.getElem?_eq_some_iff.mp h0).1
    rw [List.length_set] at hl
    rw [List.getElem?_set_self hl] at h0
    cases h0
    exact List.mem_cons_self
  · rw [List.getElem?_set_ne ha] at h0
    obtain ⟨h1, h2⟩ := pm_cut_at h0
    refine List.mem_cons_of_mem _ (List.mem_filter.mpr ⟨pm_lv_mem.mpr ⟨v0, h1, rfl⟩, ?_⟩)
    simp only [Bool.and_eq_true, Bool.not_eq_true', beq_eq_false_iff_ne, ne_eq, Bool.and_eq_false_iff, pm_v_cat]
    refine ⟨fun e => ha e.symm, fun e => hb e.symm, ?_⟩
    by_cases h3 : a + 1 = i
    · exact Or.inr (fun e => h2 ⟨h3, e⟩)
    · exact Or.inl h3
theorem pm_get {G : pm_G} {ls : Array Slot} {n i : Nat} {lv : List (Option Value)} {v : Value} (h : lv_has ls n (pm_lv G lv)) (hi : lv[i]? = some (some v)) : ls[i]? = some (.val (pm_v G v)) := h.2.2 (i, pm_v G v) (pm_lv_mem.mpr ⟨v, hi, rfl⟩)
/-- some locals forgotten -/
theorem pm_forget {L : pm_L} {M : pm_M} {pc : Nat} {lv lv' : List (Option Value)} {st : List Value} {w : pm_W} {Q : Option Value → pm_W → Prop} (hf : ∀ (i : Nat) (v : Value), lv'[i]? = some (some v) → lv[i]? = some (some v)) (h : pm_R L M pc lv' st w Q) : pm_R L M pc lv st w Q := by
  intro p l e s m args below meth c D G X H locs ls hP hS hl
  refine h p l e s m args below meth c D G X H locs ls hP hS ⟨hl.1, hl.2.1, fun q hq => ?_⟩
  obtain ⟨a, u⟩ := q
  obtain ⟨v, h1, rfl⟩ := pm_lv_mem.mp hq
  exact hl.2.2 _ (pm_lv_mem.mpr ⟨v, hf a v h1, rfl⟩)
theorem pm_mono {L : pm_L} {M : pm_M} {as : List Value} {w : pm_W} {Q Q' : Option Value → pm_W → Prop} (h : pm_C L M as w Q) (hq : ∀ r w', Q r w' → Q' r w') : pm_C L M as w Q' := by
  intro l D G ho
  have h1 := h l D G ho
  intro p e ha hc hk s m args below hf hap hP hK
  obtain ⟨t, o, h2, h3, h4, ⟨⟨r, w', e1, e2, e3⟩, e4⟩, h5⟩ := h1 p e ha hc hk s m args below hf hap hP hK
  exact ⟨t, o, h2, h3, h4, ⟨⟨r, w', e1, hq r w' e2, e3⟩, e4⟩, h5⟩

theorem pm_iconst {L : pm_L} {M : pm_M} {pc : Nat} {lv : List (Option Value)} {st : List Value} {w : pm_W} {Q : Option Value → pm_W → Prop} {n : Int} {x : Int32} (hd : decode M.2.1 pc = .ok (.iconst n, 1)) (hv : Int32.ofInt n = x) (h : pm_R L M (pc + 1) lv (.int x :: st) w Q) : pm_R L M pc lv (st) w Q := by
  intro p l e s m args below meth c D G X H locs ls hP hS hl
  obtain ⟨hx, hb, hml, hown, hr, hlocks, hts, ho, hK, hSt, hNw⟩ := id X
  exact lv_iconst hx hb hd hv (h p l e s m args below meth c D G X H locs ls hP hS hl)

theorem pm_bipush {L : pm_L} {M : pm_M} {pc : Nat} {lv : List (Option Value)} {st : List Value} {w : pm_W} {Q : Option Value → pm_W → Prop} {n : Int} {x : Int32} (hd : decode M.2.1 pc = .ok (.bipush n, 2)) (hv : (Int8.ofInt n).toInt32 = x) (h : pm_R L M (pc + 2) lv (.int x :: st) w Q) : pm_R L M pc lv (st) w Q := by
  intro p l e s m args below meth c D G X H locs ls hP hS hl
  obtain ⟨hx, hb, hml, hown, hr, hlocks, hts, ho, hK, hSt, hNw⟩ := id X
  exact lv_bipush hx hb hd hv (h p l e s m args below meth c D G X H locs ls hP hS hl)

theorem pm_sipush {L : pm_L} {M : pm_M} {pc : Nat} {lv : List (Option Value)} {st : List Value} {w : pm_W} {Q : Option Value → pm_W → Prop} {n : Int} {x : Int32} (hd : decode M.2.1 pc = .ok (.sipush n, 3)) (hv : (Int16.ofInt n).toInt32 = x) (h : pm_R L M (pc + 3) lv (.int x :: st) w Q) : pm_R L M pc lv (st) w Q := by
  intro p l e s m args below meth c D G X H locs ls hP hS hl
  obtain ⟨hx, hb, hml, hown, hr, hlocks, hts, ho, hK, hSt, hNw⟩ := id X
  exact lv_sipush hx hb hd hv (h p l e s m args below meth c D G X H locs ls hP hS hl)

theorem pm_lconst {L : pm_L} {M : pm_M} {pc : Nat} {lv : List (Option Value)} {st : List Value} {w : pm_W} {Q : Option Value → pm_W → Prop} {n : Fin 2} {x : Int64} (hd : decode M.2.1 pc = .ok (.lconst n, 1)) (hv : Int64.ofNat (n : Nat) = x) (h : pm_R L M (pc + 1) lv (.long x :: st) w Q) : pm_R L M pc lv (st) w Q := by
  intro p l e s m args below meth c D G X H locs ls hP hS hl
  obtain ⟨hx, hb, hml, hown, hr, hlocks, hts, ho, hK, hSt, hNw⟩ := id X
  exact lv_lconst hx hb hd hv (h p l e s m args below meth c D G X H locs ls hP hS hl)

theorem pm_ldc {L : pm_L} {M : pm_M} {pc : Nat} {lv : List (Option Value)} {st : List Value} {w : pm_W} {Q : Option Value → pm_W → Prop} {index : Nat} {x : Int32} (hc : Jvm.Cond.constant M.1.cls index x ∈ pm_good) (hd : decode M.2.1 pc = .ok (.ldc index, 2)) (h : pm_R L M (pc + 2) lv (.int x :: st) w Q) : pm_R L M pc lv (st) w Q := by
  intro p l e s m args below meth c D G X H locs ls hP hS hl
  obtain ⟨hx, hb, hml, hown, hr, hlocks, hts, ho, hK, hSt, hNw⟩ := id X
  exact lv_ldc hx hb hown (hts _ (List.mem_cons_of_mem _ hc)) hd (h p l e s m args below meth c D G X H locs ls hP hS hl)

theorem pm_ldc2 {L : pm_L} {M : pm_M} {pc : Nat} {lv : List (Option Value)} {st : List Value} {w : pm_W} {Q : Option Value → pm_W → Prop} {index : Nat} {x : Int64} (hc : Jvm.Cond.constantLong M.1.cls index x ∈ pm_good) (hd : decode M.2.1 pc = .ok (.ldc2_w index, 3)) (h : pm_R L M (pc + 3) lv (.long x :: st) w Q) : pm_R L M pc lv (st) w Q := by
  intro p l e s m args below meth c D G X H locs ls hP hS hl
  obtain ⟨hx, hb, hml, hown, hr, hlocks, hts, ho, hK, hSt, hNw⟩ := id X
  exact lv_ldc2 hx hb hown (hts _ (List.mem_cons_of_mem _ hc)) hd (h p l e s m args below meth c D G X H locs ls hP hS hl)

theorem pm_iload_n {L : pm_L} {M : pm_M} {pc : Nat} {lv : List (Option Value)} {st : List Value} {w : pm_W} {Q : Option Value → pm_W → Prop} {k : Fin 4} {x : Int32} (hd : decode M.2.1 pc = .ok (.iload_n k, 1)) (hi : lv[(k : Nat)]? = some (some (.int x))) (h : pm_R L M (pc + 1) lv (.int x :: st) w Q) : pm_R L M pc lv (st) w Q := by
  intro p l e s m args below meth c D G X H locs ls hP hS hl
  obtain ⟨hx, hb, hml, hown, hr, hlocks, hts, ho, hK, hSt, hNw⟩ := id X
  exact lv_iload_n hx hb hd rfl (pm_get hl hi) (h p l e s m args below meth c D G X H locs ls hP hS hl)

theorem pm_iload {L : pm_L} {M : pm_M} {pc : Nat} {lv : List (Option Value)} {st : List Value} {w : pm_W} {Q : Option Value → pm_W → Prop} {i : Nat} {x : Int32} (hd : decode M.2.1 pc = .ok (.iload i, 2)) (hi : lv[i]? = some (some (.int x))) (h : pm_R L M (pc + 2) lv (.int x :: st) w Q) : pm_R L M pc lv (st) w Q := by
  intro p l e s m args below meth c D G X H locs ls hP hS hl
  obtain ⟨hx, hb, hml, hown, hr, hlocks, hts, ho, hK, hSt, hNw⟩ := id X
  exact lv_iload hx hb hd (pm_get hl hi) (h p l e s m args below meth c D G X H locs ls hP hS hl)

theorem pm_lload_n {L : pm_L} {M : pm_M} {pc : Nat} {lv : List (Option Value)} {st : List Value} {w : pm_W} {Q : Option Value → pm_W → Prop} {k : Fin 4} {x : Int64} (hd : decode M.2.1 pc = .ok (.lload_n k, 1)) (hi : lv[(k : Nat)]? = some (some (.long x))) (h : pm_R L M (pc + 1) lv (.long x :: st) w Q) : pm_R L M pc lv (st) w Q := by
  intro p l e s m args below meth c D G X H locs ls hP hS hl
  obtain ⟨hx, hb, hml, hown, hr, hlocks, hts, ho, hK, hSt, hNw⟩ := id X
  exact lv_lload_n hx hb hd rfl (pm_get hl hi) (h p l e s m args below meth c D G X H locs ls hP hS hl)

theorem pm_lload {L : pm_L} {M : pm_M} {pc : Nat} {lv : List (Option Value)} {st : List Value} {w : pm_W} {Q : Option Value → pm_W → Prop} {i : Nat} {x : Int64} (hd : decode M.2.1 pc = .ok (.lload i, 2)) (hi : lv[i]? = some (some (.long x))) (h : pm_R L M (pc + 2) lv (.long x :: st) w Q) : pm_R L M pc lv (st) w Q := by
  intro p l e s m args below meth c D G X H locs ls hP hS hl
  obtain ⟨hx, hb, hml, hown, hr, hlocks, hts, ho, hK, hSt, hNw⟩ := id X
  exact lv_lload hx hb hd (pm_get hl hi) (h p l e s m args below meth c D G X H locs ls hP hS hl)

theorem pm_aload_n {L : pm_L} {M : pm_M} {pc : Nat} {lv : List (Option Value)} {st : List Value} {w : pm_W} {Q : Option Value → pm_W → Prop} {k : Fin 4} {x : Nat} (hd : decode M.2.1 pc = .ok (.aload_n k, 1)) (hi : lv[(k : Nat)]? = some (some (.ref x))) (h : pm_R L M (pc + 1) lv (.ref x :: st) w Q) : pm_R L M pc lv (st) w Q := by
  intro p l e s m args below meth c D G X H locs ls hP hS hl
  obtain ⟨hx, hb, hml, hown, hr, hlocks, hts, ho, hK, hSt, hNw⟩ := id X
  exact lv_aload_n hx hb hd rfl (pm_get hl hi) (h p l e s m args below meth c D G X H locs ls hP hS hl)

theorem pm_aload {L : pm_L} {M : pm_M} {pc : Nat} {lv : List (Option Value)} {st : List Value} {w : pm_W} {Q : Option Value → pm_W → Prop} {i : Nat} {x : Nat} (hd : decode M.2.1 pc = .ok (.aload i, 2)) (hi : lv[i]? = some (some (.ref x))) (h : pm_R L M (pc + 2) lv (.ref x :: st) w Q) : pm_R L M pc lv (st) w Q := by
  intro p l e s m args below meth c D G X H locs ls hP hS hl
  obtain ⟨hx, hb, hml, hown, hr, hlocks, hts, ho, hK, hSt, hNw⟩ := id X
  exact lv_aload hx hb hd (pm_get hl hi) (h p l e s m args below meth c D G X H locs ls hP hS hl)

theorem pm_istore_n {L : pm_L} {M : pm_M} {pc : Nat} {lv : List (Option Value)} {st : List Value} {w : pm_W} {Q : Option Value → pm_W → Prop} {k : Fin 4} {x : Int32} {lv' : List (Option Value)} (hd : decode M.2.1 pc = .ok (.istore_n k, 1)) (hn : (k : Nat) < M.2.2.1) (hs : pm_set lv k (.int x) = lv') (h : pm_R L M (pc + 1) lv' st w Q) : pm_R L M pc lv (.int x :: st) w Q := by
  intro p l e s m args below meth c D G X H locs ls hP hS hl
  obtain ⟨hx, hb, hml, hown, hr, hlocks, hts, ho, hK, hSt, hNw⟩ := id X
  subst hs
  exact lv_istore_n hx hb hd rfl hl hn rfl (fun ls hl => h p l e s m args below meth c D G X H locs ls hP hS (pm_has1 (v := .int x) hl))

theorem pm_istore {L : pm_L} {M : pm_M} {pc : Nat} {lv : List (Option Value)} {st : List Value} {w : pm_W} {Q : Option Value → pm_W → Prop} {i : Nat} {x : Int32} {lv' : List (Option Value)} (hd : decode M.2.1 pc = .ok (.istore i, 2)) (hn : i < M.2.2.1) (hs : pm_set lv i (.int x) = lv') (h : pm_R L M (pc + 2) lv' st w Q) : pm_R L M pc lv (.int x :: st) w Q := by
  intro p l e s m args below meth c D G X H locs ls hP hS hl
  obtain ⟨hx, hb, hml, hown, hr, hlocks, hts, ho, hK, hSt, hNw⟩ := id X
  subst hs
  exact lv_istore hx hb hd hl hn rfl (fun ls hl => h p l e s m args below meth c D G X H locs ls hP hS (pm_has1 (v := .int x) hl))

theorem pm_astore_n {L : pm_L} {M : pm_M} {pc : Nat} {lv : List (Option Value)} {st : List Value} {w : pm_W} {Q : Option Value → pm_W → Prop} {k : Fin 4} {x : Nat} {lv' : List (Option Value)} (hd : decode M.2.1 pc = .ok (.astore_n k, 1)) (hn : (k : Nat) < M.2.2.1) (hs : pm_set lv k (.ref x) = lv') (h : pm_R L M (pc + 1) lv' st w Q) : pm_R L M pc lv (.ref x :: st) w Q := by
  intro p l e s m args below meth c D G X H locs ls hP hS hl
  obtain ⟨hx, hb, hml, hown, hr, hlocks, hts, ho, hK, hSt, hNw⟩ := id X
  subst hs
  exact lv_astore_n hx hb hd rfl hl hn rfl (fun ls hl => h p l e s m args below meth c D G X H locs ls hP hS (pm_has1 (v := .ref x) hl))

theorem pm_astore {L : pm_L} {M : pm_M} {pc : Nat} {lv : List (Option Value)} {st : List Value} {w : pm_W} {Q : Option Value → pm_W → Prop} {i : Nat} {x : Nat} {lv' : List (Option Value)} (hd : decode M.2.1 pc = .ok (.astore i, 2)) (hn : i < M.2.2.1) (hs : pm_set lv i (.ref x) = lv') (h : pm_R L M (pc + 2) lv' st w Q) : pm_R L M pc lv (.ref x :: st) w Q := by
  intro p l e s m args below meth c D G X H locs ls hP hS hl
  obtain ⟨hx, hb, hml, hown, hr, hlocks, hts, ho, hK, hSt, hNw⟩ := id X
  subst hs
  exact lv_astore hx hb hd hl hn rfl (fun ls hl => h p l e s m args below meth c D G X H locs ls hP hS (pm_has1 (v := .ref x) hl))

theorem pm_lstore_n {L : pm_L} {M : pm_M} {pc : Nat} {lv : List (Option Value)} {st : List Value} {w : pm_W} {Q : Option Value → pm_W → Prop} {k : Fin 4} {x : Int64} {lv' : List (Option Value)} (hd : decode M.2.1 pc = .ok (.lstore_n k, 1)) (hn : (k : Nat) + 1 < M.2.2.1) (hs : pm_set2 lv k (.long x) = lv') (h : pm_R L M (pc + 1) lv' st w Q) : pm_R L M pc lv (.long x :: st) w Q := by
  intro p l e s m args below meth c D G X H locs ls hP hS hl
  obtain ⟨hx, hb, hml, hown, hr, hlocks, hts, ho, hK, hSt, hNw⟩ := id X
  subst hs
  exact lv_lstore_n hx hb hd rfl hl hn rfl (fun ls hl => h p l e s m args below meth c D G X H locs ls hP hS (pm_has2 (v := .long x) hl))

theorem pm_lstore {L : pm_L} {M : pm_M} {pc : Nat} {lv : List (Option Value)} {st : List Value} {w : pm_W} {Q : Option Value → pm_W → Prop} {i : Nat} {x : Int64} {lv' : List (Option Value)} (hd : decode M.2.1 pc = .ok (.lstore i, 2)) (hn : i + 1 < M.2.2.1) (hs : pm_set2 lv i (.long x) = lv') (h : pm_R L M (pc + 2) lv' st w Q) : pm_R L M pc lv (.long x :: st) w Q := by
  intro p l e s m args below meth c D G X H locs ls hP hS hl
  obtain ⟨hx, hb, hml, hown, hr, hlocks, hts, ho, hK, hSt, hNw⟩ := id X
  subst hs
  exact lv_lstore hx hb hd hl hn rfl (fun ls hl => h p l e s m args below meth c D G X H locs ls hP hS (pm_has2 (v := .long x) hl))

theorem pm_iinc {L : pm_L} {M : pm_M} {pc : Nat} {lv : List (Option Value)} {st : List Value} {w : pm_W} {Q : Option Value → pm_W → Prop} {i : Nat} {n : Int} {x y : Int32} {lv' : List (Option Value)} (hd : decode M.2.1 pc = .ok (.iinc i n, 3)) (hi : lv[i]? = some (some (.int x))) (hv : x + Int32.ofInt n = y) (hn : i < M.2.2.1) (hs : pm_set lv i (.int y) = lv') (h : pm_R L M (pc + 3) lv' st w Q) : pm_R L M pc lv (st) w Q := by
  intro p l e s m args below meth c D G X H locs ls hP hS hl
  obtain ⟨hx, hb, hml, hown, hr, hlocks, hts, ho, hK, hSt, hNw⟩ := id X
  subst hs
  obtain ⟨k, hk⟩ := List.getElem?_of_mem (pm_lv_mem (G := G).mpr ⟨_, hi, rfl⟩)
  exact lv_iinc hx hb hd hl hk hv hn rfl (fun ls hl => h p l e s m args below meth c D G X H locs ls hP hS (pm_has1 (v := .int y) hl))

theorem pm_iadd {L : pm_L} {M : pm_M} {pc : Nat} {lv : List (Option Value)} {st : List Value} {w : pm_W} {Q : Option Value → pm_W → Prop} {x y : Int32} (hd : decode M.2.1 pc = .ok (.iadd, 1)) (h : pm_R L M (pc + 1) lv (.int (x + y) :: st) w Q) : pm_R L M pc lv (.int y :: .int x :: st) w Q := by
  intro p l e s m args below meth c D G X H locs ls hP hS hl
  obtain ⟨hx, hb, hml, hown, hr, hlocks, hts, ho, hK, hSt, hNw⟩ := id X
  exact lv_iadd hx hb hd (h p l e s m args below meth c D G X H locs ls hP hS hl)

theorem pm_isub {L : pm_L} {M : pm_M} {pc : Nat} {lv : List (Option Value)} {st : List Value} {w : pm_W} {Q : Option Value → pm_W → Prop} {x y : Int32} (hd : decode M.2.1 pc = .ok (.isub, 1)) (h : pm_R L M (pc + 1) lv (.int (x - y) :: st) w Q) : pm_R L M pc lv (.int y :: .int x :: st) w Q := by
  intro p l e s m args below meth c D G X H locs ls hP hS hl
  obtain ⟨hx, hb, hml, hown, hr, hlocks, hts, ho, hK, hSt, hNw⟩ := id X
  exact lv_isub hx hb hd (h p l e s m args below meth c D G X H locs ls hP hS hl)

theorem pm_imul {L : pm_L} {M : pm_M} {pc : Nat} {lv : List (Option Value)} {st : List Value} {w : pm_W} {Q : Option Value → pm_W → Prop} {x y : Int32} (hd : decode M.2.1 pc = .ok (.imul, 1)) (h : pm_R L M (pc + 1) lv (.int (x * y) :: st) w Q) : pm_R L M pc lv (.int y :: .int x :: st) w Q := by
  intro p l e s m args below meth c D G X H locs ls hP hS hl
  obtain ⟨hx, hb, hml, hown, hr, hlocks, hts, ho, hK, hSt, hNw⟩ := id X
  exact lv_imul hx hb hd (h p l e s m args below meth c D G X H locs ls hP hS hl)

theorem pm_iand {L : pm_L} {M : pm_M} {pc : Nat} {lv : List (Option Value)} {st : List Value} {w : pm_W} {Q : Option Value → pm_W → Prop} {x y : Int32} (hd : decode M.2.1 pc = .ok (.iand, 1)) (h : pm_R L M (pc + 1) lv (.int (x &&& y) :: st) w Q) : pm_R L M pc lv (.int y :: .int x :: st) w Q := by
  intro p l e s m args below meth c D G X H locs ls hP hS hl
  obtain ⟨hx, hb, hml, hown, hr, hlocks, hts, ho, hK, hSt, hNw⟩ := id X
  exact lv_iand hx hb hd (h p l e s m args below meth c D G X H locs ls hP hS hl)

theorem pm_ior {L : pm_L} {M : pm_M} {pc : Nat} {lv : List (Option Value)} {st : List Value} {w : pm_W} {Q : Option Value → pm_W → Prop} {x y : Int32} (hd : decode M.2.1 pc = .ok (.ior, 1)) (h : pm_R L M (pc + 1) lv (.int (x ||| y) :: st) w Q) : pm_R L M pc lv (.int y :: .int x :: st) w Q := by
  intro p l e s m args below meth c D G X H locs ls hP hS hl
  obtain ⟨hx, hb, hml, hown, hr, hlocks, hts, ho, hK, hSt, hNw⟩ := id X
  exact lv_ior hx hb hd (h p l e s m args below meth c D G X H locs ls hP hS hl)

theorem pm_ixor {L : pm_L} {M : pm_M} {pc : Nat} {lv : List (Option Value)} {st : List Value} {w : pm_W} {Q : Option Value → pm_W → Prop} {x y : Int32} (hd : decode M.2.1 pc = .ok (.ixor, 1)) (h : pm_R L M (pc + 1) lv (.int (x ^^^ y) :: st) w Q) : pm_R L M pc lv (.int y :: .int x :: st) w Q := by
  intro p l e s m args below meth c D G X H locs ls hP hS hl
  obtain ⟨hx, hb, hml, hown, hr, hlocks, hts, ho, hK, hSt, hNw⟩ := id X
  exact lv_ixor hx hb hd (h p l e s m args below meth c D G X H locs ls hP hS hl)

theorem pm_ishl {L : pm_L} {M : pm_M} {pc : Nat} {lv : List (Option Value)} {st : List Value} {w : pm_W} {Q : Option Value → pm_W → Prop} {x y : Int32} (hd : decode M.2.1 pc = .ok (.ishl, 1)) (h : pm_R L M (pc + 1) lv (.int (x <<< (y &&& 31)) :: st) w Q) : pm_R L M pc lv (.int y :: .int x :: st) w Q := by
  intro p l e s m args below meth c D G X H locs ls hP hS hl
  obtain ⟨hx, hb, hml, hown, hr, hlocks, hts, ho, hK, hSt, hNw⟩ := id X
  exact lv_ishl hx hb hd (h p l e s m args below meth c D G X H locs ls hP hS hl)

theorem pm_ishr {L : pm_L} {M : pm_M} {pc : Nat} {lv : List (Option Value)} {st : List Value} {w : pm_W} {Q : Option Value → pm_W → Prop} {x y : Int32} (hd : decode M.2.1 pc = .ok (.ishr, 1)) (h : pm_R L M (pc + 1) lv (.int (x >>> (y &&& 31)) :: st) w Q) : pm_R L M pc lv (.int y :: .int x :: st) w Q := by
  intro p l e s m args below meth c D G X H locs ls hP hS hl
  obtain ⟨hx, hb, hml, hown, hr, hlocks, hts, ho, hK, hSt, hNw⟩ := id X
  exact lv_ishr hx hb hd (h p l e s m args below meth c D G X H locs ls hP hS hl)

theorem pm_idiv {L : pm_L} {M : pm_M} {pc : Nat} {lv : List (Option Value)} {st : List Value} {w : pm_W} {Q : Option Value → pm_W → Prop} {x y : Int32} (hd : decode M.2.1 pc = .ok (.idiv, 1)) (hne : ¬ y = 0) (h : pm_R L M (pc + 1) lv (.int (x / y) :: st) w Q) : pm_R L M pc lv (.int y :: .int x :: st) w Q := by
  intro p l e s m args below meth c D G X H locs ls hP hS hl
  obtain ⟨hx, hb, hml, hown, hr, hlocks, hts, ho, hK, hSt, hNw⟩ := id X
  exact lv_idiv hx hb hd hne (h p l e s m args below meth c D G X H locs ls hP hS hl)

theorem pm_irem {L : pm_L} {M : pm_M} {pc : Nat} {lv : List (Option Value)} {st : List Value} {w : pm_W} {Q : Option Value → pm_W → Prop} {x y : Int32} (hd : decode M.2.1 pc = .ok (.irem, 1)) (hne : ¬ y = 0) (h : pm_R L M (pc + 1) lv (.int (x - x / y * y) :: st) w Q) : pm_R L M pc lv (.int y :: .int x :: st) w Q := by
  intro p l e s m args below meth c D G X H locs ls hP hS hl
  obtain ⟨hx, hb, hml, hown, hr, hlocks, hts, ho, hK, hSt, hNw⟩ := id X
  exact lv_irem hx hb hd hne (h p l e s m args below meth c D G X H locs ls hP hS hl)

theorem pm_ineg {L : pm_L} {M : pm_M} {pc : Nat} {lv : List (Option Value)} {st : List Value} {w : pm_W} {Q : Option Value → pm_W → Prop} {x : Int32} (hd : decode M.2.1 pc = .ok (.ineg, 1)) (h : pm_R L M (pc + 1) lv (.int (-x) :: st) w Q) : pm_R L M pc lv (.int x :: st) w Q := by
  intro p l e s m args below meth c D G X H locs ls hP hS hl
  obtain ⟨hx, hb, hml, hown, hr, hlocks, hts, ho, hK, hSt, hNw⟩ := id X
  exact lv_ineg hx hb hd (by first | exact h p l e s m args below meth c D G X H locs ls hP hS hl | (have h2 := h p l e s m args below meth c D G X H locs ls hP hS hl; simpa using h2))

theorem pm_land {L : pm_L} {M : pm_M} {pc : Nat} {lv : List (Option Value)} {st : List Value} {w : pm_W} {Q : Option Value → pm_W → Prop} {x y : Int64} (hd : decode M.2.1 pc = .ok (.land, 1)) (h : pm_R L M (pc + 1) lv (.long (x &&& y) :: st) w Q) : pm_R L M pc lv (.long y :: .long x :: st) w Q := by
  intro p l e s m args below meth c D G X H locs ls hP hS hl
  obtain ⟨hx, hb, hml, hown, hr, hlocks, hts, ho, hK, hSt, hNw⟩ := id X
  exact lv_land hx hb hd (h p l e s m args below meth c D G X H locs ls hP hS hl)

theorem pm_lor {L : pm_L} {M : pm_M} {pc : Nat} {lv : List (Option Value)} {st : List Value} {w : pm_W} {Q : Option Value → pm_W → Prop} {x y : Int64} (hd : decode M.2.1 pc = .ok (.lor, 1)) (h : pm_R L M (pc + 1) lv (.long (x ||| y) :: st) w Q) : pm_R L M pc lv (.long y :: .long x :: st) w Q := by
  intro p l e s m args below meth c D G X H locs ls hP hS hl
  obtain ⟨hx, hb, hml, hown, hr, hlocks, hts, ho, hK, hSt, hNw⟩ := id X
  exact lv_lor hx hb hd (h p l e s m args below meth c D G X H locs ls hP hS hl)

theorem pm_lxor {L : pm_L} {M : pm_M} {pc : Nat} {lv : List (Option Value)} {st : List Value} {w : pm_W} {Q : Option Value → pm_W → Prop} {x y : Int64} (hd : decode M.2.1 pc = .ok (.lxor, 1)) (h : pm_R L M (pc + 1) lv (.long (x ^^^ y) :: st) w Q) : pm_R L M pc lv (.long y :: .long x :: st) w Q := by
  intro p l e s m args below meth c D G X H locs ls hP hS hl
  obtain ⟨hx, hb, hml, hown, hr, hlocks, hts, ho, hK, hSt, hNw⟩ := id X
  exact lv_lxor hx hb hd (h p l e s m args below meth c D G X H locs ls hP hS hl)

theorem pm_lushr {L : pm_L} {M : pm_M} {pc : Nat} {lv : List (Option Value)} {st : List Value} {w : pm_W} {Q : Option Value → pm_W → Prop} {x : Int64} {y : Int32} (hd : decode M.2.1 pc = .ok (.lushr, 1)) (h : pm_R L M (pc + 1) lv (.long (x.toUInt64 >>> (y.toInt64.toUInt64 &&& Int64.toUInt64 63)).toInt64 :: st) w Q) : pm_R L M pc lv (.int y :: .long x :: st) w Q := by
  intro p l e s m args below meth c D G X H locs ls hP hS hl
  obtain ⟨hx, hb, hml, hown, hr, hlocks, hts, ho, hK, hSt, hNw⟩ := id X
  exact lv_lushr hx hb hd rfl (h p l e s m args below meth c D G X H locs ls hP hS hl)

theorem pm_lshl {L : pm_L} {M : pm_M} {pc : Nat} {lv : List (Option Value)} {st : List Value} {w : pm_W} {Q : Option Value → pm_W → Prop} {x : Int64} {y : Int32} (hd : decode M.2.1 pc = .ok (.lshl, 1)) (h : pm_R L M (pc + 1) lv (.long (x <<< (y.toInt64 &&& 63)) :: st) w Q) : pm_R L M pc lv (.int y :: .long x :: st) w Q := by
  intro p l e s m args below meth c D G X H locs ls hP hS hl
  obtain ⟨hx, hb, hml, hown, hr, hlocks, hts, ho, hK, hSt, hNw⟩ := id X
  exact lv_lshl hx hb hd rfl (h p l e s m args below meth c D G X H locs ls hP hS hl)

theorem pm_lcmp {L : pm_L} {M : pm_M} {pc : Nat} {lv : List (Option Value)} {st : List Value} {w : pm_W} {Q : Option Value → pm_W → Prop} {x y : Int64} (hd : decode M.2.1 pc = .ok (.lcmp, 1)) (h : pm_R L M (pc + 1) lv (.int (lg_cmp x y) :: st) w Q) : pm_R L M pc lv (.long y :: .long x :: st) w Q := by
  intro p l e s m args below meth c D G X H locs ls hP hS hl
  obtain ⟨hx, hb, hml, hown, hr, hlocks, hts, ho, hK, hSt, hNw⟩ := id X
  exact W.lcmp hx hb hd (h p l e s m args below meth c D G X H locs ls hP hS hl)

theorem pm_i2l {L : pm_L} {M : pm_M} {pc : Nat} {lv : List (Option Value)} {st : List Value} {w : pm_W} {Q : Option Value → pm_W → Prop} {x : Int32} (hd : decode M.2.1 pc = .ok (.i2l, 1)) (h : pm_R L M (pc + 1) lv (.long x.toInt64 :: st) w Q) : pm_R L M pc lv (.int x :: st) w Q := by
  intro p l e s m args below meth c D G X H locs ls hP hS hl
  obtain ⟨hx, hb, hml, hown, hr, hlocks, hts, ho, hK, hSt, hNw⟩ := id X
  exact lv_i2l hx hb hd rfl (h p l e s m args below meth c D G X H locs ls hP hS hl)

theorem pm_dup {L : pm_L} {M : pm_M} {pc : Nat} {lv : List (Option Value)} {st : List Value} {w : pm_W} {Q : Option Value → pm_W → Prop} {a : Value} (hd : decode M.2.1 pc = .ok (.dup, 1)) (ha : a.category = 1) (h : pm_R L M (pc + 1) lv (a :: a :: st) w Q) : pm_R L M pc lv (a :: st) w Q := by
  intro p l e s m args below meth c D G X H locs ls hP hS hl
  obtain ⟨hx, hb, hml, hown, hr, hlocks, hts, ho, hK, hSt, hNw⟩ := id X
  exact lv_dup hx hb hd (by rw [pm_v_cat]; exact ha) (h p l e s m args below meth c D G X H locs ls hP hS hl)

theorem pm_pop {L : pm_L} {M : pm_M} {pc : Nat} {lv : List (Option Value)} {st : List Value} {w : pm_W} {Q : Option Value → pm_W → Prop} {a : Value} (hd : decode M.2.1 pc = .ok (.pop, 1)) (ha : a.category = 1) (h : pm_R L M (pc + 1) lv st w Q) : pm_R L M pc lv (a :: st) w Q := by
  intro p l e s m args below meth c D G X H locs ls hP hS hl
  obtain ⟨hx, hb, hml, hown, hr, hlocks, hts, ho, hK, hSt, hNw⟩ := id X
  exact lv_pop hx hb hd (by rw [pm_v_cat]; exact ha) (h p l e s m args below meth c D G X H locs ls hP hS hl)

theorem pm_dup2 {L : pm_L} {M : pm_M} {pc : Nat} {lv : List (Option Value)} {st : List Value} {w : pm_W} {Q : Option Value → pm_W → Prop} {a b : Value} (hd : decode M.2.1 pc = .ok (.dup2, 1)) (ha : a.category = 1) (ha2 : b.category = 1) (h : pm_R L M (pc + 1) lv (a :: b :: a :: b :: st) w Q) : pm_R L M pc lv (a :: b :: st) w Q := by
  intro p l e s m args below meth c D G X H locs ls hP hS hl
  obtain ⟨hx, hb, hml, hown, hr, hlocks, hts, ho, hK, hSt, hNw⟩ := id X
  exact lv_dup2_11 hx hb hd (by rw [pm_v_cat]; exact ha) (by rw [pm_v_cat]; exact ha2) (h p l e s m args below meth c D G X H locs ls hP hS hl)

theorem pm_if_eq {L : pm_L} {M : pm_M} {pc : Nat} {lv : List (Option Value)} {st : List Value} {w : pm_W} {Q : Option Value → pm_W → Prop} {x : Int32} {off : Int} {tgt : Nat} (hd : decode M.2.1 pc = .ok (.ifCond .eq off, 3)) (ht : (pc : Int) + off = (tgt : Int)) (kt : x = 0 → pm_R L M tgt lv st w Q) (kf : ¬ x = 0 → pm_R L M (pc + 3) lv st w Q) : pm_R L M pc lv (.int x :: st) w Q := by
  intro p l e s m args below meth c D G X H locs ls hP hS hl
  obtain ⟨hx, hb, hml, hown, hr, hlocks, hts, ho, hK, hSt, hNw⟩ := id X
  exact lv_if_eq hx hb hd ht (fun q => kt q p l e s m args below meth c D G X H locs ls hP hS hl) (fun q => kf q p l e s m args below meth c D G X H locs ls hP hS hl)

theorem pm_icmp_eq {L : pm_L} {M : pm_M} {pc : Nat} {lv : List (Option Value)} {st : List Value} {w : pm_W} {Q : Option Value → pm_W → Prop} {x y : Int32} {off : Int} {tgt : Nat} (hd : decode M.2.1 pc = .ok (.if_icmp .eq off, 3)) (ht : (pc : Int) + off = (tgt : Int)) (kt : x = y → pm_R L M tgt lv st w Q) (kf : ¬ x = y → pm_R L M (pc + 3) lv st w Q) : pm_R L M pc lv (.int y :: .int x :: st) w Q := by
  intro p l e s m args below meth c D G X H locs ls hP hS hl
  obtain ⟨hx, hb, hml, hown, hr, hlocks, hts, ho, hK, hSt, hNw⟩ := id X
  exact lv_icmp_eq hx hb hd ht (fun q => kt q p l e s m args below meth c D G X H locs ls hP hS hl) (fun q => kf q p l e s m args below meth c D G X H locs ls hP hS hl)

theorem pm_if_ne {L : pm_L} {M : pm_M} {pc : Nat} {lv : List (Option Value)} {st : List Value} {w : pm_W} {Q : Option Value → pm_W → Prop} {x : Int32} {off : Int} {tgt : Nat} (hd : decode M.2.1 pc = .ok (.ifCond .ne off, 3)) (ht : (pc : Int) + off = (tgt : Int)) (kt : ¬ x = 0 → pm_R L M tgt lv st w Q) (kf : x = 0 → pm_R L M (pc + 3) lv st w Q) : pm_R L M pc lv (.int x :: st) w Q := by
  intro p l e s m args below meth c D G X H locs ls hP hS hl
  obtain ⟨hx, hb, hml, hown, hr, hlocks, hts, ho, hK, hSt, hNw⟩ := id X
  exact lv_if_ne hx hb hd ht (fun q => kt q p l e s m args below meth c D G X H locs ls hP hS hl) (fun q => kf q p l e s m args below meth c D G X H locs ls hP hS hl)

theorem pm_icmp_ne {L : pm_L} {M : pm_M} {pc : Nat} {lv : List (Option Value)} {st : List Value} {w : pm_W} {Q : Option Value → pm_W → Prop} {x y : Int32} {off : Int} {tgt : Nat} (hd : decode M.2.1 pc = .ok (.if_icmp .ne off, 3)) (ht : (pc : Int) + off = (tgt : Int)) (kt : ¬ x = y → pm_R L M tgt lv st w Q) (kf : x = y → pm_R L M (pc + 3) lv st w Q) : pm_R L M pc lv (.int y :: .int x :: st) w Q := by
  intro p l e s m args below meth c D G X H locs ls hP hS hl
  obtain ⟨hx, hb, hml, hown, hr, hlocks, hts, ho, hK, hSt, hNw⟩ := id X
  exact lv_icmp_ne hx hb hd ht (fun q => kt q p l e s m args below meth c D G X H locs ls hP hS hl) (fun q => kf q p l e s m args below meth c D G X H locs ls hP hS hl)

theorem pm_if_lt {L : pm_L} {M : pm_M} {pc : Nat} {lv : List (Option Value)} {st : List Value} {w : pm_W} {Q : Option Value → pm_W → Prop} {x : Int32} {off : Int} {tgt : Nat} (hd : decode M.2.1 pc = .ok (.ifCond .lt off, 3)) (ht : (pc : Int) + off = (tgt : Int)) (kt : x < 0 → pm_R L M tgt lv st w Q) (kf : ¬ x < 0 → pm_R L M (pc + 3) lv st w Q) : pm_R L M pc lv (.int x :: st) w Q := by
  intro p l e s m args below meth c D G X H locs ls hP hS hl
  obtain ⟨hx, hb, hml, hown, hr, hlocks, hts, ho, hK, hSt, hNw⟩ := id X
  exact lv_if_lt hx hb hd ht (fun q => kt q p l e s m args below meth c D G X H locs ls hP hS hl) (fun q => kf q p l e s m args below meth c D G X H locs ls hP hS hl)

theorem pm_icmp_lt {L : pm_L} {M : pm_M} {pc : Nat} {lv : List (Option Value)} {st : List Value} {w : pm_W} {Q : Option Value → pm_W → Prop} {x y : Int32} {off : Int} {tgt : Nat} (hd : decode M.2.1 pc = .ok (.if_icmp .lt off, 3)) (ht : (pc : Int) + off = (tgt : Int)) (kt : x < y → pm_R L M tgt lv st w Q) (kf : ¬ x < y → pm_R L M (pc + 3) lv st w Q) : pm_R L M pc lv (.int y :: .int x :: st) w Q := by
  intro p l e s m args below meth c D G X H locs ls hP hS hl
  obtain ⟨hx, hb, hml, hown, hr, hlocks, hts, ho, hK, hSt, hNw⟩ := id X
  exact lv_icmp_lt hx hb hd ht (fun q => kt q p l e s m args below meth c D G X H locs ls hP hS hl) (fun q => kf q p l e s m args below meth c D G X H locs ls hP hS hl)

theorem pm_if_ge {L : pm_L} {M : pm_M} {pc : Nat} {lv : List (Option Value)} {st : List Value} {w : pm_W} {Q : Option Value → pm_W → Prop} {x : Int32} {off : Int} {tgt : Nat} (hd : decode M.2.1 pc = .ok (.ifCond .ge off, 3)) (ht : (pc : Int) + off = (tgt : Int)) (kt : 0 ≤ x → pm_R L M tgt lv st w Q) (kf : ¬ 0 ≤ x → pm_R L M (pc + 3) lv st w Q) : pm_R L M pc lv (.int x :: st) w Q := by
  intro p l e s m args below meth c D G X H locs ls hP hS hl
  obtain ⟨hx, hb, hml, hown, hr, hlocks, hts, ho, hK, hSt, hNw⟩ := id X
  exact lv_if_ge hx hb hd ht (fun q => kt q p l e s m args below meth c D G X H locs ls hP hS hl) (fun q => kf q p l e s m args below meth c D G X H locs ls hP hS hl)

theorem pm_icmp_ge {L : pm_L} {M : pm_M} {pc : Nat} {lv : List (Option Value)} {st : List Value} {w : pm_W} {Q : Option Value → pm_W → Prop} {x y : Int32} {off : Int} {tgt : Nat} (hd : decode M.2.1 pc = .ok (.if_icmp .ge off, 3)) (ht : (pc : Int) + off = (tgt : Int)) (kt : y ≤ x → pm_R L M tgt lv st w Q) (kf : ¬ y ≤ x → pm_R L M (pc + 3) lv st w Q) : pm_R L M pc lv (.int y :: .int x :: st) w Q := by
  intro p l e s m args below meth c D G X H locs ls hP hS hl
  obtain ⟨hx, hb, hml, hown, hr, hlocks, hts, ho, hK, hSt, hNw⟩ := id X
  exact lv_icmp_ge hx hb hd ht (fun q => kt q p l e s m args below meth c D G X H locs ls hP hS hl) (fun q => kf q p l e s m args below meth c D G X H locs ls hP hS hl)

theorem pm_if_gt {L : pm_L} {M : pm_M} {pc : Nat} {lv : List (Option Value)} {st : List Value} {w : pm_W} {Q : Option Value → pm_W → Prop} {x : Int32} {off : Int} {tgt : Nat} (hd : decode M.2.1 pc = .ok (.ifCond .gt off, 3)) (ht : (pc : Int) + off = (tgt : Int)) (kt : 0 < x → pm_R L M tgt lv st w Q) (kf : ¬ 0 < x → pm_R L M (pc + 3) lv st w Q) : pm_R L M pc lv (.int x :: st) w Q := by
  intro p l e s m args below meth c D G X H locs ls hP hS hl
  obtain ⟨hx, hb, hml, hown, hr, hlocks, hts, ho, hK, hSt, hNw⟩ := id X
  exact lv_if_gt hx hb hd ht (fun q => kt q p l e s m args below meth c D G X H locs ls hP hS hl) (fun q => kf q p l e s m args below meth c D G X H locs ls hP hS hl)

theorem pm_icmp_gt {L : pm_L} {M : pm_M} {pc : Nat} {lv : List (Option Value)} {st : List Value} {w : pm_W} {Q : Option Value → pm_W → Prop} {x y : Int32} {off : Int} {tgt : Nat} (hd : decode M.2.1 pc = .ok (.if_icmp .gt off, 3)) (ht : (pc : Int) + off = (tgt : Int)) (kt : y < x → pm_R L M tgt lv st w Q) (kf : ¬ y < x → pm_R L M (pc + 3) lv st w Q) : pm_R L M pc lv (.int y :: .int x :: st) w Q := by
  intro p l e s m args below meth c D G X H locs ls hP hS hl
  obtain ⟨hx, hb, hml, hown, hr, hlocks, hts, ho, hK, hSt, hNw⟩ := id X
  exact lv_icmp_gt hx hb hd ht (fun q => kt q p l e s m args below meth c D G X H locs ls hP hS hl) (fun q => kf q p l e s m args below meth c D G X H locs ls hP hS hl)

theorem pm_if_le {L : pm_L} {M : pm_M} {pc : Nat} {lv : List (Option Value)} {st : List Value} {w : pm_W} {Q : Option Value → pm_W → Prop} {x : Int32} {off : Int} {tgt : Nat} (hd : decode M.2.1 pc = .ok (.ifCond .le off, 3)) (ht : (pc : Int) + off = (tgt : Int)) (kt : x ≤ 0 → pm_R L M tgt lv st w Q) (kf : ¬ x ≤ 0 → pm_R L M (pc + 3) lv st w Q) : pm_R L M pc lv (.int x :: st) w Q := by
  intro p l e s m args below meth c D G X H locs ls hP hS hl
  obtain ⟨hx, hb, hml, hown, hr, hlocks, hts, ho, hK, hSt, hNw⟩ := id X
  exact lv_if_le hx hb hd ht (fun q => kt q p l e s m args below meth c D G X H locs ls hP hS hl) (fun q => kf q p l e s m args below meth c D G X H locs ls hP hS hl)

theorem pm_icmp_le {L : pm_L} {M : pm_M} {pc : Nat} {lv : List (Option Value)} {st : List Value} {w : pm_W} {Q : Option Value → pm_W → Prop} {x y : Int32} {off : Int} {tgt : Nat} (hd : decode M.2.1 pc = .ok (.if_icmp .le off, 3)) (ht : (pc : Int) + off = (tgt : Int)) (kt : x ≤ y → pm_R L M tgt lv st w Q) (kf : ¬ x ≤ y → pm_R L M (pc + 3) lv st w Q) : pm_R L M pc lv (.int y :: .int x :: st) w Q := by
  intro p l e s m args below meth c D G X H locs ls hP hS hl
  obtain ⟨hx, hb, hml, hown, hr, hlocks, hts, ho, hK, hSt, hNw⟩ := id X
  exact lv_icmp_le hx hb hd ht (fun q => kt q p l e s m args below meth c D G X H locs ls hP hS hl) (fun q => kf q p l e s m args below meth c D G X H locs ls hP hS hl)

theorem pm_goto {L : pm_L} {M : pm_M} {pc : Nat} {lv : List (Option Value)} {st : List Value} {w : pm_W} {Q : Option Value → pm_W → Prop} {off : Int} {tgt : Nat} (hd : decode M.2.1 pc = .ok (.goto off, 3)) (ht : (pc : Int) + off = (tgt : Int)) (h : pm_R L M tgt lv st w Q) : pm_R L M pc lv (st) w Q := by
  intro p l e s m args below meth c D G X H locs ls hP hS hl
  obtain ⟨hx, hb, hml, hown, hr, hlocks, hts, ho, hK, hSt, hNw⟩ := id X
  exact lv_goto hx hb hd ht (h p l e s m args below meth c D G X H locs ls hP hS hl)

theorem pm_tableOut {L : pm_L} {M : pm_M} {pc : Nat} {lv : List (Option Value)} {st : List Value} {w : pm_W} {Q : Option Value → pm_W → Prop} {dflt lo hi : Int} {offs : Array Int} {len : Nat} {x : Int32} {tgt : Nat} (hd : decode M.2.1 pc = .ok (.tableswitch dflt lo hi offs, len)) (h1 : x.toInt < lo ∨ hi < x.toInt) (ht : (pc : Int) + dflt = (tgt : Int)) (h : pm_R L M tgt lv st w Q) : pm_R L M pc lv (.int x :: st) w Q := by
  intro p l e s m args below meth c D G X H locs ls hP hS hl
  obtain ⟨hx, hb, hml, hown, hr, hlocks, hts, ho, hK, hSt, hNw⟩ := id X
  exact lv_tableOut hx hb hd h1 ht (h p l e s m args below meth c D G X H locs ls hP hS hl)

theorem pm_tableIn {L : pm_L} {M : pm_M} {pc : Nat} {lv : List (Option Value)} {st : List Value} {w : pm_W} {Q : Option Value → pm_W → Prop} {dflt lo hi : Int} {offs : Array Int} {len : Nat} {x : Int32} {off : Int} {tgt : Nat} (hd : decode M.2.1 pc = .ok (.tableswitch dflt lo hi offs, len)) (h1 : ¬ x.toInt < lo) (h2 : ¬ hi < x.toInt) (h3 : offs[(x.toInt - lo).toNat]? = some off) (ht : (pc : Int) + off = (tgt : Int)) (h : pm_R L M tgt lv st w Q) : pm_R L M pc lv (.int x :: st) w Q := by
  intro p l e s m args below meth c D G X H locs ls hP hS hl
  obtain ⟨hx, hb, hml, hown, hr, hlocks, hts, ho, hK, hSt, hNw⟩ := id X
  exact lv_tableIn hx hb hd h1 h2 h3 ht (h p l e s m args below meth c D G X H locs ls hP hS hl)

theorem pm_ireturn {L : pm_L} {M : pm_M} {pc : Nat} {lv : List (Option Value)} {st : List Value} {w : pm_W} {Q : Option Value → pm_W → Prop} {x : Int32} (hd : decode M.2.1 pc = .ok (.ireturn, 1)) (hty : M.2.2.2.1 = some .int) (h : Q (some (.int x)) w) : pm_R L M pc lv ([.int x]) w Q := by
  intro p l e s m args below meth c D G X H locs ls hP hS hl
  obtain ⟨hx, hb, hml, hown, hr, hlocks, hts, ho, hK, hSt, hNw⟩ := id X
  exact W.iret (v := x) hx hb (hr.trans hty) (fun t ht hW => ⟨⟨some (.int x), w, rfl, h, by rw [ht]; exact hP⟩, hS.F ht⟩) hS.2.2 hd hlocks

theorem pm_zreturn {L : pm_L} {M : pm_M} {pc : Nat} {lv : List (Option Value)} {st : List Value} {w : pm_W} {Q : Option Value → pm_W → Prop} {x : Int32} (hd : decode M.2.1 pc = .ok (.ireturn, 1)) (hty : M.2.2.2.1 = some .boolean) (hz : x = 0 ∨ x = 1) (h : Q (some (.int x)) w) : pm_R L M pc lv ([.int x]) w Q := by
  intro p l e s m args below meth c D G X H locs ls hP hS hl
  obtain ⟨hx, hb, hml, hown, hr, hlocks, hts, ho, hK, hSt, hNw⟩ := id X
  exact W.zret (v := x) hx hb (hr.trans hty) (by rcases hz with rfl | rfl <;> decide) (fun t ht hW => ⟨⟨some (.int x), w, rfl, h, by rw [ht]; exact hP⟩, hS.F ht⟩) hS.2.2 hd hlocks

theorem pm_lreturn {L : pm_L} {M : pm_M} {pc : Nat} {lv : List (Option Value)} {st : List Value} {w : pm_W} {Q : Option Value → pm_W → Prop} {x : Int64} (hd : decode M.2.1 pc = .ok (.lreturn, 1)) (hty : M.2.2.2.1 = some .long) (h : Q (some (.long x)) w) : pm_R L M pc lv ([.long x]) w Q := by
  intro p l e s m args below meth c D G X H locs ls hP hS hl
  obtain ⟨hx, hb, hml, hown, hr, hlocks, hts, ho, hK, hSt, hNw⟩ := id X
  exact W.lret (v := x) hx hb (hr.trans hty) (fun t ht hW => ⟨⟨some (.long x), w, rfl, h, by rw [ht]; exact hP⟩, hS.F ht⟩) hS.2.2 hd hlocks

theorem pm_return {L : pm_L} {M : pm_M} {pc : Nat} {lv : List (Option Value)} {st : List Value} {w : pm_W} {Q : Option Value → pm_W → Prop}  (hd : decode M.2.1 pc = .ok (.return_, 1)) (hty : M.2.2.2.1 = none) (h : Q none w) : pm_R L M pc lv ([]) w Q := by
  intro p l e s m args below meth c D G X H locs ls hP hS hl
  obtain ⟨hx, hb, hml, hown, hr, hlocks, hts, ho, hK, hSt, hNw⟩ := id X
  exact W.vret hx hb (hr.trans hty) (fun t ht hW => ⟨⟨none, w, rfl, h, by rw [ht]; exact hP⟩, hS.F ht⟩) hS.2.2 hd hlocks

