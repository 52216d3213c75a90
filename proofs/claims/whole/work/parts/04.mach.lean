def pm_ent : List Value → List (Option Value)
  | [] => []
  | v :: vs => if v.category = 2 then some v :: none :: pm_ent vs else some v :: pm_ent vs
theorem pm_ent_at {G : pm_G} : ∀ (vs : List Value) (o i : Nat) (v : Value), (pm_ent vs)[i]? = some (some v) → (o + i, pm_v G v) ∈ lv_args o (vs.map (pm_v G))
  | [], o, i, v, h => by simp [pm_ent] at h
  | a :: vs, o, i, v, h => by
    unfold pm_ent at h
    show (o + i, pm_v G v) ∈ (o, pm_v G a) :: lv_args (if (pm_v G a).category = 2 then o + 2 else o + 1) (vs.map (pm_v G))
    rw [pm_v_cat]
    by_cases hc : a.category = 2
    · rw [if_pos hc] at h ⊢
      match i, h with
      | 0, h => simp at h; subst h; exact List.mem_cons_self
      | 1, h => simp at h
      | i + 2, h =>
        have := pm_ent_at (G := G) vs (o + 2) i v (by simpa using h)
        exact List.mem_cons_of_mem _ (by rw [show o + (i + 2) = o + 2 + i by omega]; exact this)
    · rw [if_neg hc] at h ⊢
      match i, h with
      | 0, h => simp at h; subst h; exact List.mem_cons_self
      | i + 1, h =>
        have := pm_ent_at (G := G) vs (o + 1) i v (by simpa using h)
        exact List.mem_cons_of_mem _ (by rw [show o + (i + 1) = o + 1 + i by omega]; exact this)
theorem pm_sl_len (G : pm_G) : ∀ vs : List Value, (lg_sl (vs.map (pm_v G))).length = (pm_ent vs).length
  | [] => rfl
  | a :: vs => by
    have ih := pm_sl_len G vs
    by_cases hc : a.category = 2
    · have h2 : (pm_v G a).category = 2 := by rw [pm_v_cat]; exact hc
      simp [lg_sl, pm_ent, hc, h2] at ih ⊢
      omega
    · have h2 : ¬ (pm_v G a).category = 2 := by rw [pm_v_cat]; exact hc
      simp [lg_sl, pm_ent, hc, h2] at ih ⊢
      omega
/-- a contract out of a walk from the entry -/
theorem pm_enter {L : pm_L} {M : pm_M} {as : List Value} {lv : List (Option Value)} {w : pm_W} {Q : Option Value → pm_W → Prop} (hy : plainName M.1.cls = true) (hn : (pm_ent as).length ≤ M.2.2.1) (hlv : ∀ (i : Nat) (v : Value), lv[i]? = some (some v) → (pm_ent as)[i]? = some (some v)) (h : pm_R L M 0 lv [] w Q) : pm_C L M as w Q := by
  intro l D G ho
  refine Met.ofW (cc := M.2.1) (maxL := M.2.2.1) (ret := M.2.2.2.1) hy rfl ?_
  intro p e s m args below meth c s₁ B hml hv
  obtain ⟨rfl, hP, hK⟩ := hv
  have hl := lv_entry (as.map (pm_v G)) (n := M.2.2.1) (by rw [pm_sl_len]; exact hn)
  rw [lg_entry_eq]
  refine h p l e s m _ below meth c D G ⟨B.exec, B.bytes, hml, findClass_of_methodNamed B.named, B.returns, B.notSynchronized, atoms_spec (ws := pm_ws M) B.pre, ho, hK⟩ s.heap [] _ hP va_S.rf ⟨hl.1, hl.2.1, fun q hq => ?_⟩
  obtain ⟨a, u⟩ := q
  obtain ⟨v, h1, rfl⟩ := pm_lv_mem.mp hq
  have := pm_ent_at (G := G) as 0 a v (hlv a v h1)
  rw [Nat.zero_add] at this
  exact hl.2.2 _ this
-- cells by their layout
theorem pm_cell_i {L : pm_L} {G : pm_G} {w : pm_W} {k n : Nat} (h : L.1 k = (10, n)) : pm_cell L G w k = .inl (G.2 10, n, .inl (w.1 k)) := by simp [pm_cell, h]
theorem pm_cell_z {L : pm_L} {G : pm_G} {w : pm_W} {k n : Nat} (h : L.1 k = (11, n)) : pm_cell L G w k = .inl (G.2 11, n, .inl (w.1 k)) := by simp [pm_cell, h]
theorem pm_cell_l {L : pm_L} {G : pm_G} {w : pm_W} {k n : Nat} (h : L.1 k = (12, n)) : pm_cell L G w k = .inl (G.2 12, n, .inr (.inl (w.2 k))) := by simp [pm_cell, h]
theorem pm_cell_h {L : pm_L} {G : pm_G} {w : pm_W} {k n : Nat} (h : L.1 k = (13, n)) : pm_cell L G w k = .inl (G.2 13, n, .inr (.inr (.inr (.inr (fun j => (L.2 k j).map G.1))))) := by simp [pm_cell, h]
theorem pm_cell_k {L : pm_L} {G : pm_G} {w : pm_W} {k n : Nat} (h : L.1 k = (14, n)) : pm_cell L G w k = .inl (G.2 14, n, .inr (.inr (.inr (.inr (fun j => (L.2 k j).map G.1))))) := by simp [pm_cell, h]
theorem pm_cell_o {L : pm_L} {G : pm_G} {w : pm_W} {k n ci : Nat} (hc : ci < 6) (h : L.1 k = (ci, n)) : pm_cell L G w k = .inr (ci, (List.range n).map (fun j => pm_fv L G w k (pm_ty ci j) j)) := by
  simp only [pm_cell, h]
  rw [if_neg (by omega), if_neg (by omega), if_neg (by omega), if_neg (by omega), if_neg (by omega)]
/-- the cell k holds f -/
def pm_s (w : pm_W) (k : Nat) (f : Nat → Int32) : pm_W := (fun a => if a = k then f else w.1 a, w.2)
def pm_sL (w : pm_W) (k : Nat) (f : Nat → Int64) : pm_W := (w.1, fun a => if a = k then f else w.2 a)
theorem pm_s_at (w : pm_W) (k : Nat) (f : Nat → Int32) : (pm_s w k f).1 k = f := if_pos rfl
theorem pm_s_ne {w : pm_W} {k a : Nat} {f : Nat → Int32} (h : a ≠ k) : (pm_s w k f).1 a = w.1 a := if_neg h
theorem pm_s_2 (w : pm_W) (k : Nat) (f : Nat → Int32) : (pm_s w k f).2 = w.2 := rfl
theorem pm_sL_at (w : pm_W) (k : Nat) (f : Nat → Int64) : (pm_sL w k f).2 k = f := if_pos rfl
theorem pm_sL_ne {w : pm_W} {k a : Nat} {f : Nat → Int64} (h : a ≠ k) : (pm_sL w k f).2 a = w.2 a := if_neg h
theorem pm_sL_1 (w : pm_W) (k : Nat) (f : Nat → Int64) : (pm_sL w k f).1 = w.1 := rfl
theorem pm_fv_s {L : pm_L} {G : pm_G} {w : pm_W} {k a j : Nat} {f : Nat → Int32} {ty : FieldType} (h : a ≠ k) : pm_fv L G (pm_s w k f) a ty j = pm_fv L G w a ty j := by
  unfold pm_fv
  cases ty <;> simp [pm_s, h]
theorem pm_fv_sL {L : pm_L} {G : pm_G} {w : pm_W} {k a j : Nat} {f : Nat → Int64} {ty : FieldType} (h : a ≠ k) : pm_fv L G (pm_sL w k f) a ty j = pm_fv L G w a ty j := by
  unfold pm_fv
  cases ty <;> simp [pm_sL, h]
theorem pm_cell_s {L : pm_L} {G : pm_G} {w : pm_W} {k : Nat} {f : Nat → Int32} : ∀ j, j ≠ k → pm_cell L G (pm_s w k f) j = pm_cell L G w j := by
  intro j h
  simp only [pm_cell, pm_s_ne h, pm_s_2, pm_fv_s h]
theorem pm_cell_sL {L : pm_L} {G : pm_G} {w : pm_W} {k : Nat} {f : Nat → Int64} : ∀ j, j ≠ k → pm_cell L G (pm_sL w k f) j = pm_cell L G w j := by
  intro j h
  simp only [pm_cell, pm_sL_ne h, pm_sL_1, pm_fv_sL h]
/-- the field j of class ci, as the constant pool of class own has it at idx -/
def pm_FL (own : String) (idx ci j : Nat) : Prop := Jvm.Cond.fieldLink own idx (pm_T ci j).1 (pm_T ci j).2.1 (pm_T ci j).2.2.1 ∈ pm_good
theorem pm_fs_at {n j : Nat} {g : Nat → Value} (h : j < n) : ((List.range n).map g)[j]? = some (g j) := by
  rw [List.getElem?_map, List.getElem?_range h]
  rfl
theorem pm_fs_set {n j : Nat} {g g' : Nat → Value} {v : Value} (h : j < n) (hv : v = g' j) (hx : ∀ i, i ≠ j → g' i = g i) : ((List.range n).map g).set j v = (List.range n).map g' := by
  apply List.ext_getElem?
  intro i
  by_cases hi : i = j
  · subst hi
    rw [List.getElem?_set_self (by simpa using h), pm_fs_at h, hv]
  · rw [List.getElem?_set_ne (Ne.symm hi)]
    by_cases hn : i < n
    · rw [pm_fs_at hn, pm_fs_at hn, hx i hi]
    · rw [List.getElem?_eq_none (by simpa using Nat.le_of_not_lt hn), List.getElem?_eq_none (by simpa using Nat.le_of_not_lt hn)]

def pm_isR : FieldType → Bool
  | .object _ => true
  | .array _ => true
  | _ => false
theorem pm_fv_r {L : pm_L} {G : pm_G} {w : pm_W} {k j a : Nat} {ty : FieldType} (h : pm_isR ty = true) (hr : L.2 k j = some a) : pm_fv L G w k ty j = pm_v G (.ref a) := by
  cases ty <;> first | (cases h; done) | (simp [pm_fv, hr, pm_v, va_rf])
theorem pm_K_moved {L : pm_L} {D : va_G} {G : pm_G} {s U : State} {locs : List Loc} (hW : s.WarmedH U.vm) (hS : va_S (pm_A L G) s.heap U.heap locs) (h : pm_K L D G s) : pm_K L D G U := by
  obtain ⟨hK, ⟨h1, h2, h3, h4⟩, hN⟩ := h
  refine ⟨hK.moved hW.alike, ⟨(h1.moved hW.alike).kept hS.2.1, (h2.moved hW.alike).kept hS.2.1, (h3.moved hW.alike).kept hS.2.1, (h4.moved hW.alike).kept hS.2.1⟩, fun w hw => ?_⟩
  have h9 := hN w hw
  simp only [pm_nest, List.mem_cons, List.not_mem_nil, or_false] at hw
  rcases hw with rfl | rfl
  · exact va_Nw.warmM hW h9
  · exact va_Nw.warmM hW h9
theorem pm_K_same {L : pm_L} {D : va_G} {G : pm_G} {s U : State} (hv : s.vm = U.vm) (hh : s.heap = U.heap) (h : pm_K L D G s) : pm_K L D G U := by
  have hW : s.vm.Alike U.vm := by rw [hv]; exact Vm.Alike.refl _
  obtain ⟨hK, ⟨h1, h2, h3, h4⟩, hN⟩ := h
  refine ⟨hK.moved hW, ⟨?_, ?_, ?_, ?_⟩, fun w hw => ?_⟩
  · rw [← hh]; exact h1.moved hW
  · rw [← hh]; exact h2.moved hW
  · rw [← hh]; exact h3.moved hW
  · rw [← hh]; exact h4.moved hW
  · have h9 := hN w hw
    simp only [pm_nest, List.mem_cons, List.not_mem_nil, or_false] at hw
    rcases hw with rfl | rfl
    · exact va_Nw.same rfl hv h9
    · exact va_Nw.same rfl hv h9
theorem pm_blind {L : pm_L} {D : va_G} {G : pm_G} {av : List Value} {w : pm_W} : FrameBlind (va_Pc av (fun U => va_P D pm_cl (pm_cells L G w) U.heap ∧ pm_K L D G U)) := by
  intro a U g mk h
  obtain ⟨h1, h2, h3⟩ := h
  exact ⟨h1, h2, pm_K_same (s := U) (U := U.calling g mk a) rfl rfl h3⟩

theorem pm_getI {L : pm_L} {M : pm_M} {pc : Nat} {lv : List (Option Value)} {st : List Value} {w : pm_W} {Q : Option Value → pm_W → Prop} {ci j k n idx : Nat} (hk : L.1 k = (ci, n)) (hc : ci < 6) (hj : j < n) (hN : n = pm_N ci) (hf : pm_FL M.1.cls idx ci j) (hty : pm_ty ci j = .int) (hd : decode M.2.1 pc = .ok (.getfield idx, 3)) (h : pm_R L M (pc + 3) lv (.int (w.1 k j) :: st) w Q) : pm_R L M pc lv (.ref k :: st) w Q := by
  intro p l e s m args below meth c D G X H locs ls hP hS hl
  obtain ⟨hx, hb, hml, hown, hr, hlocks, hts, ho, hK, hSt, hNw⟩ := id X
  have hm : k ∈ pm_ks L := pm_there ho (by rw [hk]; simp only; omega)
  obtain ⟨q0, hq0⟩ := pm_cells_at (G := G) w hm
  rw [pm_cell_o hc hk] at hq0
  have h1 := h p l e s m args below meth c D G X H locs ls hP hS hl
  refine va_get hx hb (Ts := pm_ws M) hts (fun w hw => List.mem_cons_of_mem _ (pm_lays hc w hw)) hown hK hP q0 hq0 (pm_cl_at hc) j (hN ▸ hj) (hts _ (List.mem_cons_of_mem _ hf)) (fun _ h9 => h9) (pm_fs_at hj) hd ?_
  rw [hty]
  exact h1

theorem pm_getL {L : pm_L} {M : pm_M} {pc : Nat} {lv : List (Option Value)} {st : List Value} {w : pm_W} {Q : Option Value → pm_W → Prop} {ci j k n idx : Nat} (hk : L.1 k = (ci, n)) (hc : ci < 6) (hj : j < n) (hN : n = pm_N ci) (hf : pm_FL M.1.cls idx ci j) (hty : pm_ty ci j = .long) (hd : decode M.2.1 pc = .ok (.getfield idx, 3)) (h : pm_R L M (pc + 3) lv (.long (w.2 k j) :: st) w Q) : pm_R L M pc lv (.ref k :: st) w Q := by
  intro p l e s m args below meth c D G X H locs ls hP hS hl
  obtain ⟨hx, hb, hml, hown, hr, hlocks, hts, ho, hK, hSt, hNw⟩ := id X
  have hm : k ∈ pm_ks L := pm_there ho (by rw [hk]; simp only; omega)
  obtain ⟨q0, hq0⟩ := pm_cells_at (G := G) w hm
  rw [pm_cell_o hc hk] at hq0
  have h1 := h p l e s m args below meth c D G X H locs ls hP hS hl
  refine va_get hx hb (Ts := pm_ws M) hts (fun w hw => List.mem_cons_of_mem _ (pm_lays hc w hw)) hown hK hP q0 hq0 (pm_cl_at hc) j (hN ▸ hj) (hts _ (List.mem_cons_of_mem _ hf)) (fun _ h9 => h9) (pm_fs_at hj) hd ?_
  rw [hty]
  exact h1

theorem pm_getR {L : pm_L} {M : pm_M} {pc : Nat} {lv : List (Option Value)} {st : List Value} {w : pm_W} {Q : Option Value → pm_W → Prop} {ci j k n idx : Nat} {a : Nat} (hk : L.1 k = (ci, n)) (hc : ci < 6) (hj : j < n) (hN : n = pm_N ci) (hf : pm_FL M.1.cls idx ci j) (hty : pm_isR (pm_ty ci j) = true) (hr2 : L.2 k j = some a) (hd : decode M.2.1 pc = .ok (.getfield idx, 3)) (h : pm_R L M (pc + 3) lv (.ref a :: st) w Q) : pm_R L M pc lv (.ref k :: st) w Q := by
  intro p l e s m args below meth c D G X H locs ls hP hS hl
  obtain ⟨hx, hb, hml, hown, hr, hlocks, hts, ho, hK, hSt, hNw⟩ := id X
  have hm : k ∈ pm_ks L := pm_there ho (by rw [hk]; simp only; omega)
  obtain ⟨q0, hq0⟩ := pm_cells_at (G := G) w hm
  rw [pm_cell_o hc hk] at hq0
  have h1 := h p l e s m args below meth c D G X H locs ls hP hS hl
  refine va_get hx hb (Ts := pm_ws M) hts (fun w hw => List.mem_cons_of_mem _ (pm_lays hc w hw)) hown hK hP q0 hq0 (pm_cl_at hc) j (hN ▸ hj) (hts _ (List.mem_cons_of_mem _ hf)) (fun _ h9 => h9) (pm_fs_at hj) hd ?_
  rw [pm_fv_r hty hr2]
  exact h1

theorem pm_putI {L : pm_L} {M : pm_M} {pc : Nat} {lv : List (Option Value)} {st : List Value} {w : pm_W} {Q : Option Value → pm_W → Prop} {ci j k n idx : Nat} {x : Int32} (hk : L.1 k = (ci, n)) (hc : ci < 6) (hj : j < n) (hN : n = pm_N ci) (hf : pm_FL M.1.cls idx ci j) (hty : pm_ty ci j = .int) (hfin : (pm_T ci j).2.2.2 = false) (hd : decode M.2.1 pc = .ok (.putfield idx, 3)) (h : pm_R L M (pc + 3) lv st (pm_s w k (upd (w.1 k) j x)) Q) : pm_R L M pc lv (.int x :: .ref k :: st) w Q := by
  intro p l e s m args below meth c D G X H locs ls hP hS hl
  obtain ⟨hx, hb, hml, hown, hr, hlocks, hts, ho, hK, hSt, hNw⟩ := id X
  have hm : k ∈ pm_ks L := pm_there ho (by rw [hk]; simp only; omega)
  obtain ⟨q0, hq0⟩ := pm_cells_at (G := G) w hm
  have hq1 := hq0
  rw [pm_cell_o hc hk] at hq0
  refine va_put hx hb (Ts := pm_ws M) (ty := pm_ty ci j) (v := .int x) hts (fun w hw => List.mem_cons_of_mem _ (pm_lays hc w hw)) (pm_ty ci) (hN ▸ pm_tyok hc) (hN ▸ pm_nm hc) hown hK hP (pm_D ho w) hS q0 hq0 (pm_cl_at hc) j (hN ▸ hj) (hts _ (List.mem_cons_of_mem _ hf)) (fun _ h9 => h9) hfin (pm_tyok hc j (hN ▸ hj)) (by rw [hty]; rfl) (by rw [hty]; rfl) (by simpa using hj) hd (fun H1 locs1 hP1 _ hS1 => ?_)
  refine h p l e s m args below meth c D G X H1 locs1 ls (pm_P_set ho hq1 hm ?_ pm_cell_s hP1) hS1 hl
  rw [pm_cell_o hc hk]
  congr 2
  refine pm_fs_set hj (by rw [hty]; simp [pm_fv, pm_s, upd]) (fun i hi => ?_)
  unfold pm_fv
  cases pm_ty ci i <;> simp [pm_s, upd, hi]

theorem pm_putL {L : pm_L} {M : pm_M} {pc : Nat} {lv : List (Option Value)} {st : List Value} {w : pm_W} {Q : Option Value → pm_W → Prop} {ci j k n idx : Nat} {x : Int64} (hk : L.1 k = (ci, n)) (hc : ci < 6) (hj : j < n) (hN : n = pm_N ci) (hf : pm_FL M.1.cls idx ci j) (hty : pm_ty ci j = .long) (hfin : (pm_T ci j).2.2.2 = false) (hd : decode M.2.1 pc = .ok (.putfield idx, 3)) (h : pm_R L M (pc + 3) lv st (pm_sL w k (vp_updL (w.2 k) j x)) Q) : pm_R L M pc lv (.long x :: .ref k :: st) w Q := by
  intro p l e s m args below meth c D G X H locs ls hP hS hl
  obtain ⟨hx, hb, hml, hown, hr, hlocks, hts, ho, hK, hSt, hNw⟩ := id X
  have hm : k ∈ pm_ks L := pm_there ho (by rw [hk]; simp only; omega)
  obtain ⟨q0, hq0⟩ := pm_cells_at (G := G) w hm
  have hq1 := hq0
  rw [pm_cell_o hc hk] at hq0
  refine va_put hx hb (Ts := pm_ws M) (ty := pm_ty ci j) (v := .long x) hts (fun w hw => List.mem_cons_of_mem _ (pm_lays hc w hw)) (pm_ty ci) (hN ▸ pm_tyok hc) (hN ▸ pm_nm hc) hown hK hP (pm_D ho w) hS q0 hq0 (pm_cl_at hc) j (hN ▸ hj) (hts _ (List.mem_cons_of_mem _ hf)) (fun _ h9 => h9) hfin (pm_tyok hc j (hN ▸ hj)) (by rw [hty]; rfl) (by rw [hty]; rfl) (by simpa using hj) hd (fun H1 locs1 hP1 _ hS1 => ?_)
  refine h p l e s m args below meth c D G X H1 locs1 ls (pm_P_set ho hq1 hm ?_ pm_cell_sL hP1) hS1 hl
  rw [pm_cell_o hc hk]
  congr 2
  refine pm_fs_set hj (by rw [hty]; simp [pm_fv, pm_sL, vp_updL]) (fun i hi => ?_)
  unfold pm_fv
  cases pm_ty ci i <;> simp [pm_sL, vp_updL, hi]

theorem pm_iald {L : pm_L} {M : pm_M} {pc : Nat} {lv : List (Option Value)} {st : List Value} {w : pm_W} {Q : Option Value → pm_W → Prop} {k n : Nat} {i : Int32} (hk : L.1 k = (10, n)) (hin : vp_in i n) (hd : decode M.2.1 pc = .ok (.iaload, 1)) (h : pm_R L M (pc + 1) lv (.int (w.1 k i.toNatClampNeg) :: st) w Q) : pm_R L M pc lv (.int i :: .ref k :: st) w Q := by
  intro p l e s m args below meth c D G X H locs ls hP hS hl
  obtain ⟨hx, hb, hml, hown, hr, hlocks, hts, ho, hK, hSt, hNw⟩ := id X
  have hm : k ∈ pm_ks L := pm_there ho (by rw [hk]; simp)
  obtain ⟨q0, hq0⟩ := pm_cells_at (G := G) w hm
  rw [pm_cell_i hk] at hq0
  exact va_iald hx hb hK hP q0 0 hq0 rfl hin hd (h p l e s m args below meth c D G X H locs ls hP hS hl)

theorem pm_zald {L : pm_L} {M : pm_M} {pc : Nat} {lv : List (Option Value)} {st : List Value} {w : pm_W} {Q : Option Value → pm_W → Prop} {k n : Nat} {i : Int32} (hk : L.1 k = (11, n)) (hin : vp_in i n) (hd : decode M.2.1 pc = .ok (.baload, 1)) (h : pm_R L M (pc + 1) lv (.int (w.1 k i.toNatClampNeg) :: st) w Q) : pm_R L M pc lv (.int i :: .ref k :: st) w Q := by
  intro p l e s m args below meth c D G X H locs ls hP hS hl
  obtain ⟨hx, hb, hml, hown, hr, hlocks, hts, ho, hK, hSt, hNw⟩ := id X
  have hm : k ∈ pm_ks L := pm_there ho (by rw [hk]; simp)
  obtain ⟨q0, hq0⟩ := pm_cells_at (G := G) w hm
  rw [pm_cell_z hk] at hq0
  exact va_zald hx hb hK hP q0 1 hq0 rfl hin hd (h p l e s m args below meth c D G X H locs ls hP hS hl)

theorem pm_lald {L : pm_L} {M : pm_M} {pc : Nat} {lv : List (Option Value)} {st : List Value} {w : pm_W} {Q : Option Value → pm_W → Prop} {k n : Nat} {i : Int32} (hk : L.1 k = (12, n)) (hin : vp_in i n) (hd : decode M.2.1 pc = .ok (.laload, 1)) (h : pm_R L M (pc + 1) lv (.long (w.2 k i.toNatClampNeg) :: st) w Q) : pm_R L M pc lv (.int i :: .ref k :: st) w Q := by
  intro p l e s m args below meth c D G X H locs ls hP hS hl
  obtain ⟨hx, hb, hml, hown, hr, hlocks, hts, ho, hK, hSt, hNw⟩ := id X
  have hm : k ∈ pm_ks L := pm_there ho (by rw [hk]; simp)
  obtain ⟨q0, hq0⟩ := pm_cells_at (G := G) w hm
  rw [pm_cell_l hk] at hq0
  exact va_lald hx hb hK hP q0 2 hq0 rfl hin hd (h p l e s m args below meth c D G X H locs ls hP hS hl)

theorem pm_hald {L : pm_L} {M : pm_M} {pc : Nat} {lv : List (Option Value)} {st : List Value} {w : pm_W} {Q : Option Value → pm_W → Prop} {k n : Nat} {i : Int32} {a : Nat} (hk : L.1 k = (13, n)) (hin : vp_in i n) (hr2 : L.2 k i.toNatClampNeg = some a) (hd : decode M.2.1 pc = .ok (.aaload, 1)) (h : pm_R L M (pc + 1) lv (.ref a :: st) w Q) : pm_R L M pc lv (.int i :: .ref k :: st) w Q := by
  intro p l e s m args below meth c D G X H locs ls hP hS hl
  obtain ⟨hx, hb, hml, hown, hr, hlocks, hts, ho, hK, hSt, hNw⟩ := id X
  have hm : k ∈ pm_ks L := pm_there ho (by rw [hk]; simp)
  obtain ⟨q0, hq0⟩ := pm_cells_at (G := G) w hm
  rw [pm_cell_h hk] at hq0
  refine va_aldq hx hb hK hP q0 3 hq0 rfl hin hd ?_
  have h1 := h p l e s m args below meth c D G X H locs ls hP hS hl
  rw [hr2]
  exact h1

theorem pm_kald {L : pm_L} {M : pm_M} {pc : Nat} {lv : List (Option Value)} {st : List Value} {w : pm_W} {Q : Option Value → pm_W → Prop} {k n : Nat} {i : Int32} {a : Nat} (hk : L.1 k = (14, n)) (hin : vp_in i n) (hr2 : L.2 k i.toNatClampNeg = some a) (hd : decode M.2.1 pc = .ok (.aaload, 1)) (h : pm_R L M (pc + 1) lv (.ref a :: st) w Q) : pm_R L M pc lv (.int i :: .ref k :: st) w Q := by
  intro p l e s m args below meth c D G X H locs ls hP hS hl
  obtain ⟨hx, hb, hml, hown, hr, hlocks, hts, ho, hK, hSt, hNw⟩ := id X
  have hm : k ∈ pm_ks L := pm_there ho (by rw [hk]; simp)
  obtain ⟨q0, hq0⟩ := pm_cells_at (G := G) w hm
  rw [pm_cell_k hk] at hq0
  refine va_aldq hx hb hK hP q0 4 hq0 rfl hin hd ?_
  have h1 := h p l e s m args below meth c D G X H locs ls hP hS hl
  rw [hr2]
  exact h1

theorem pm_iast {L : pm_L} {M : pm_M} {pc : Nat} {lv : List (Option Value)} {st : List Value} {w : pm_W} {Q : Option Value → pm_W → Prop} {k n : Nat} {i : Int32} {x : Int32} (hk : L.1 k = (10, n)) (hin : vp_in i n) (hd : decode M.2.1 pc = .ok (.iastore, 1)) (h : pm_R L M (pc + 1) lv st (pm_s w k (upd (w.1 k) i.toNatClampNeg x)) Q) : pm_R L M pc lv (.int x :: .int i :: .ref k :: st) w Q := by
  intro p l e s m args below meth c D G X H locs ls hP hS hl
  obtain ⟨hx, hb, hml, hown, hr, hlocks, hts, ho, hK, hSt, hNw⟩ := id X
  have hm : k ∈ pm_ks L := pm_there ho (by rw [hk]; simp)
  obtain ⟨q0, hq0⟩ := pm_cells_at (G := G) w hm
  have hq1 := hq0
  rw [pm_cell_i hk] at hq0
  refine va_iast hx hb hK hP (pm_D ho w) hS q0 0 hq0 rfl hin hd (fun H1 locs1 hP1 _ hS1 => ?_)
  refine h p l e s m args below meth c D G X H1 locs1 ls (pm_P_set ho hq1 hm ?_ pm_cell_s hP1) hS1 hl
  rw [pm_cell_i hk]
  simp [pm_s, pm_sL]

theorem pm_zast {L : pm_L} {M : pm_M} {pc : Nat} {lv : List (Option Value)} {st : List Value} {w : pm_W} {Q : Option Value → pm_W → Prop} {k n : Nat} {i : Int32} {x : Int32} (hk : L.1 k = (11, n)) (hin : vp_in i n) (hz : x = 0 ∨ x = 1) (hd : decode M.2.1 pc = .ok (.bastore, 1)) (h : pm_R L M (pc + 1) lv st (pm_s w k (upd (w.1 k) i.toNatClampNeg x)) Q) : pm_R L M pc lv (.int x :: .int i :: .ref k :: st) w Q := by
  intro p l e s m args below meth c D G X H locs ls hP hS hl
  obtain ⟨hx, hb, hml, hown, hr, hlocks, hts, ho, hK, hSt, hNw⟩ := id X
  have hm : k ∈ pm_ks L := pm_there ho (by rw [hk]; simp)
  obtain ⟨q0, hq0⟩ := pm_cells_at (G := G) w hm
  have hq1 := hq0
  rw [pm_cell_z hk] at hq0
  refine va_zast hx hb hK hP (pm_D ho w) hS q0 1 hq0 rfl hin hd (fun H1 locs1 hP1 _ hS1 => ?_)
  refine h p l e s m args below meth c D G X H1 locs1 ls (pm_P_set ho hq1 hm ?_ pm_cell_s hP1) hS1 hl
  rw [pm_cell_z hk]
  rw [show vp_nar .boolean x = x by rcases hz with rfl | rfl <;> rfl]
  simp [pm_s, pm_sL]

theorem pm_last {L : pm_L} {M : pm_M} {pc : Nat} {lv : List (Option Value)} {st : List Value} {w : pm_W} {Q : Option Value → pm_W → Prop} {k n : Nat} {i : Int32} {x : Int64} (hk : L.1 k = (12, n)) (hin : vp_in i n) (hd : decode M.2.1 pc = .ok (.lastore, 1)) (h : pm_R L M (pc + 1) lv st (pm_sL w k (vp_updL (w.2 k) i.toNatClampNeg x)) Q) : pm_R L M pc lv (.long x :: .int i :: .ref k :: st) w Q := by
  intro p l e s m args below meth c D G X H locs ls hP hS hl
  obtain ⟨hx, hb, hml, hown, hr, hlocks, hts, ho, hK, hSt, hNw⟩ := id X
  have hm : k ∈ pm_ks L := pm_there ho (by rw [hk]; simp)
  obtain ⟨q0, hq0⟩ := pm_cells_at (G := G) w hm
  have hq1 := hq0
  rw [pm_cell_l hk] at hq0
  refine va_last hx hb hK hP (pm_D ho w) hS q0 2 hq0 rfl hin hd (fun H1 locs1 hP1 _ hS1 => ?_)
  refine h p l e s m args below meth c D G X H1 locs1 ls (pm_P_set ho hq1 hm ?_ pm_cell_sL hP1) hS1 hl
  rw [pm_cell_l hk]
  simp [pm_s, pm_sL]

theorem pm_alenI {L : pm_L} {M : pm_M} {pc : Nat} {lv : List (Option Value)} {st : List Value} {w : pm_W} {Q : Option Value → pm_W → Prop} {k n : Nat} (hk : L.1 k = (10, n)) (hd : decode M.2.1 pc = .ok (.arraylength, 1)) (h : pm_R L M (pc + 1) lv (.int (Int32.ofNat n) :: st) w Q) : pm_R L M pc lv (.ref k :: st) w Q := by
  intro p l e s m args below meth c D G X H locs ls hP hS hl
  obtain ⟨hx, hb, hml, hown, hr, hlocks, hts, ho, hK, hSt, hNw⟩ := id X
  have hm : k ∈ pm_ks L := pm_there ho (by rw [hk]; simp)
  obtain ⟨q0, hq0⟩ := pm_cells_at (G := G) w hm
  rw [pm_cell_i hk] at hq0
  exact va_alen (ty := .int) hx hb hK hP q0 0 hq0 rfl rfl hd (h p l e s m args below meth c D G X H locs ls hP hS hl)

theorem pm_alenL {L : pm_L} {M : pm_M} {pc : Nat} {lv : List (Option Value)} {st : List Value} {w : pm_W} {Q : Option Value → pm_W → Prop} {k n : Nat} (hk : L.1 k = (12, n)) (hd : decode M.2.1 pc = .ok (.arraylength, 1)) (h : pm_R L M (pc + 1) lv (.int (Int32.ofNat n) :: st) w Q) : pm_R L M pc lv (.ref k :: st) w Q := by
  intro p l e s m args below meth c D G X H locs ls hP hS hl
  obtain ⟨hx, hb, hml, hown, hr, hlocks, hts, ho, hK, hSt, hNw⟩ := id X
  have hm : k ∈ pm_ks L := pm_there ho (by rw [hk]; simp)
  obtain ⟨q0, hq0⟩ := pm_cells_at (G := G) w hm
  rw [pm_cell_l hk] at hq0
  exact va_alen (ty := .long) hx hb hK hP q0 2 hq0 rfl rfl hd (h p l e s m args below meth c D G X H locs ls hP hS hl)

theorem pm_gets_HAS {L : pm_L} {M : pm_M} {pc : Nat} {lv : List (Option Value)} {st : List Value} {w : pm_W} {Q : Option Value → pm_W → Prop} {idx : Nat} (hf : Jvm.Cond.fieldLink M.1.cls idx RX1 "HAS" "[J" ∈ pm_good) (hd : decode M.2.1 pc = .ok (.getstatic idx, 3)) (h : pm_R L M (pc + 3) lv (.ref 1000 :: st) w Q) : pm_R L M pc lv (st) w Q := by
  intro p l e s m args below meth c D G X H locs ls hP hS hl
  obtain ⟨hx, hb, hml, hown, hr, hlocks, hts, ho, hK, hSt, hNw⟩ := id X
  exact va_gets hx hb hSt.1 hS hown (hts _ (List.mem_cons_of_mem _ hf)) (fun _ h9 => h9) hd (h p l e s m args below meth c D G X H locs ls hP hS hl)

theorem pm_lald_HAS {L : pm_L} {M : pm_M} {pc : Nat} {lv : List (Option Value)} {st : List Value} {w : pm_W} {Q : Option Value → pm_W → Prop} {i : Int32} (hin : vp_in i 6) (hd : decode M.2.1 pc = .ok (.laload, 1)) (h : pm_R L M (pc + 1) lv (.long (pm_has.getD i.toNatClampNeg 0) :: st) w Q) : pm_R L M pc lv (.int i :: .ref 1000 :: st) w Q := by
  intro p l e s m args below meth c D G X H locs ls hP hS hl
  obtain ⟨hx, hb, hml, hown, hr, hlocks, hts, ho, hK, hSt, hNw⟩ := id X
  exact va_tl hx hb hSt.2.1 hS hin rfl hd (h p l e s m args below meth c D G X H locs ls hP hS hl)

theorem pm_gets_SIZED {L : pm_L} {M : pm_M} {pc : Nat} {lv : List (Option Value)} {st : List Value} {w : pm_W} {Q : Option Value → pm_W → Prop} {idx : Nat} (hf : Jvm.Cond.fieldLink M.1.cls idx RX1 "SIZED" "[J" ∈ pm_good) (hd : decode M.2.1 pc = .ok (.getstatic idx, 3)) (h : pm_R L M (pc + 3) lv (.ref 1001 :: st) w Q) : pm_R L M pc lv (st) w Q := by
  intro p l e s m args below meth c D G X H locs ls hP hS hl
  obtain ⟨hx, hb, hml, hown, hr, hlocks, hts, ho, hK, hSt, hNw⟩ := id X
  exact va_gets hx hb hSt.2.2.1 hS hown (hts _ (List.mem_cons_of_mem _ hf)) (fun _ h9 => h9) hd (h p l e s m args below meth c D G X H locs ls hP hS hl)

theorem pm_lald_SIZED {L : pm_L} {M : pm_M} {pc : Nat} {lv : List (Option Value)} {st : List Value} {w : pm_W} {Q : Option Value → pm_W → Prop} {i : Int32} (hin : vp_in i 7) (hd : decode M.2.1 pc = .ok (.laload, 1)) (h : pm_R L M (pc + 1) lv (.long (pm_sized.getD i.toNatClampNeg 0) :: st) w Q) : pm_R L M pc lv (.int i :: .ref 1001 :: st) w Q := by
  intro p l e s m args below meth c D G X H locs ls hP hS hl
  obtain ⟨hx, hb, hml, hown, hr, hlocks, hts, ho, hK, hSt, hNw⟩ := id X
  exact va_tl hx hb hSt.2.2.2 hS hin rfl hd (h p l e s m args below meth c D G X H locs ls hP hS hl)

def pm_MLV (own : String) (idx : Nat) (M : pm_M) (n : Nat) : Prop := (Jvm.Cond.methodLink own idx M.1 ∈ pm_good ∧ Jvm.Cond.instanceMethod M.1 ∈ pm_good ∧ Jvm.Cond.selects M.1.cls M.1 M.1 ∈ pm_good ∧ Jvm.Cond.initialized M.1.cls ∈ pm_good ∧ Jvm.Cond.code M.1 M.2.1 M.2.2.1 M.2.2.2.1 ∈ pm_good) ∧ M.1.cls ≠ "java/lang/invoke/MethodHandle" ∧ M.1.cls ≠ "java/lang/invoke/VarHandle" ∧ (parseMethodDescriptor M.1.desc).map (fun d => d.parameters.length) = some n
def pm_MLS (own : String) (idx : Nat) (M : pm_M) (n : Nat) : Prop := (Jvm.Cond.methodLink own idx M.1 ∈ pm_good ∧ Jvm.Cond.static M.1 ∈ pm_good ∧ Jvm.Cond.initialized M.1.cls ∈ pm_good ∧ Jvm.Cond.code M.1 M.2.1 M.2.2.1 M.2.2.2.1 ∈ pm_good) ∧ M.1.cls ≠ "java/lang/invoke/MethodHandle" ∧ M.1.cls ≠ "java/lang/invoke/VarHandle" ∧ (parseMethodDescriptor M.1.desc).map (fun d => d.parameters.length) = some n
def pm_MLN (own : String) (idx : Nat) (M : pm_M) (host : String) (n : Nat) : Prop := (Jvm.Cond.methodLinkNest own idx M.1 host ∈ pm_nest ∧ Jvm.Cond.static M.1 ∈ pm_good ∧ Jvm.Cond.initialized M.1.cls ∈ pm_good ∧ Jvm.Cond.code M.1 M.2.1 M.2.2.1 M.2.2.2.1 ∈ pm_good) ∧ M.1.cls ≠ "java/lang/invoke/MethodHandle" ∧ M.1.cls ≠ "java/lang/invoke/VarHandle" ∧ (parseMethodDescriptor M.1.desc).map (fun d => d.parameters.length) = some n
theorem pm_gw {w : Jvm.Cond} (h : w ∈ pm_good) : (w.onTables && w.keeps) = true ∨ ∃ ty, w = .arrayClass ty := good_of_word (List.mem_filter.mp h).2
theorem pm_goodIn {M M' : pm_M} (h : Jvm.Cond.code M'.1 M'.2.1 M'.2.2.1 M'.2.2.2.1 ∈ pm_good) : GoodIn (pm_ws M) (pm_ws M') := by
  intro w hw
  rcases List.mem_cons.mp hw with rfl | hw
  · exact ⟨List.mem_cons_of_mem _ h, pm_gw h⟩
  · exact ⟨List.mem_cons_of_mem _ hw, pm_gw hw⟩
theorem pm_tl (G : pm_G) (r : Option Value) (st : List Value) : (r.map (pm_v G)).toList ++ st.map (pm_v G) = (r.toList ++ st).map (pm_v G) := by cases r <;> rfl
theorem pm_sumc (G : pm_G) (st : List Value) : ((st.map (pm_v G)).map fun v => v.category).sum = (st.map fun v => v.category).sum := by
  rw [List.map_map]
  congr 2
  funext v
  exact pm_v_cat G v

theorem pm_callV {L : pm_L} {M : pm_M} {pc : Nat} {lv : List (Option Value)} {st : List Value} {w : pm_W} {Q : Option Value → pm_W → Prop} {idx : Nat} {M' : pm_M} {as : List Value} {Q' : Option Value → pm_W → Prop} {ci k n : Nat} (hk : L.1 k = (ci, n)) (hc : ci < 6) (hcls : M'.1.cls = pm_R0 ci) (hl0 : pm_MLV M.1.cls idx M' as.length) (hrm : M'.2.2.2.2.1 + 1 ≤ M.2.2.2.2.1 ∧ 8 + (M'.2.2.1 + 11) + M'.2.2.2.2.2 ≤ M.2.2.2.2.2) (hsm : (st.map fun v => v.category).sum ≤ 8) (hd : decode M.2.1 pc = .ok (.invokevirtual idx, 3)) (hC : pm_C L M' (.ref k :: as) w Q') (kk : ∀ r w', Q' r w' → pm_R L M (pc + 3) lv (r.toList ++ st) w' Q) : pm_R L M pc lv (as.reverse ++ .ref k :: st) w Q := by
  intro p l e s m args below meth c D G X H locs ls hP hS hl
  obtain ⟨hx, hb, hml, hown, hr, hlocks, hts, ho, hK, hSt, hNw⟩ := id X
  have hm : k ∈ pm_ks L := pm_there ho (by rw [hk]; simp only; omega)
  obtain ⟨q0, hq0⟩ := pm_cells_at (G := G) w hm
  rw [pm_cell_o hc hk] at hq0
  obtain ⟨⟨m1, m2, m3, m4, m5⟩, n1, n2, n3⟩ := hl0
  have hgi : GoodIn (pm_ws M) (wsV M.1.cls idx M'.1.cls M'.1 (pm_ws M')) := by
    intro w hw
    rcases List.mem_append.mp hw with hw | hw
    · simp only [List.mem_cons, List.not_mem_nil, or_false] at hw
      rcases hw with rfl | rfl | rfl | rfl
      · exact ⟨List.mem_cons_of_mem _ m1, pm_gw m1⟩
      · exact ⟨List.mem_cons_of_mem _ m2, pm_gw m2⟩
      · exact ⟨List.mem_cons_of_mem _ m3, pm_gw m3⟩
      · exact ⟨List.mem_cons_of_mem _ m4, pm_gw m4⟩
    · exact pm_goodIn m5 w hw
  have hrv := va_recv hK hP (pm_cl_at hc) hq0
  have hrun := va_runV (e := e) (below := below) (meth := meth) (locs := locs) (cells := 0) (slots := 0) (g := F0 m pc ls ((as.reverse ++ .ref k :: st).map (pm_v G))) (rest := st.map (pm_v G)) (As := as.map (pm_v G)) (b := G.1 k) (R := pm_rm M) (H := H) ⟨hx, hb, hml, hown, hts⟩ (hC l D G ho) (cwV as.length hts hgi rfl rfl rfl ⟨rfl, n1, n2, n3⟩ hrm) ⟨pm_blind, by rw [hcls]; exact hrv, fun U hU hW => ⟨rfl, by rw [hU]; exact hP, pm_K_moved (locs := locs) hW (by rw [hU]; exact hS) ⟨hK, hSt, hNw⟩⟩⟩ rfl (by simp) hl.1 (by simp [pm_v]) (lv_room (by rw [pm_sumc]; exact hsm)) hd ⟨Nat.le_refl _, Nat.le_refl _⟩
  intro T hT X0
  obtain ⟨v, st₀, t, T', Lc, h0, X', hL, e1, e2, ⟨⟨r, w', hv, hq, hP'⟩, hF⟩, hgo⟩ := hrun T hT X0
  cases hv
  have h1 := kk r w' hq p l e s m args below meth c D G X T'.heap (locs ++ Lc) ls (by rw [e1]; exact hP') ⟨Nat.le_trans hS.1 (by rw [e1, ← h0]; exact hF.1), fun q a1 a2 => by rw [e1, hF.2 q (by rw [h0]; exact Nat.lt_of_lt_of_le a1 hS.1) a2, h0]; exact hS.2.1 q a1 a2, fun q hq => by
    rcases List.mem_append.mp hq with h | h
    · exact hS.2.2 q h
    · exact hL q h⟩ hl
  rw [← pm_tl] at h1
  obtain ⟨t2, a1, b1⟩ := h1 T' rfl X'
  exact ⟨t2, hgo t2 a1, b1⟩

theorem pm_callS {L : pm_L} {M : pm_M} {pc : Nat} {lv : List (Option Value)} {st : List Value} {w : pm_W} {Q : Option Value → pm_W → Prop} {idx : Nat} {M' : pm_M} {as : List Value} {Q' : Option Value → pm_W → Prop} (hl0 : pm_MLS M.1.cls idx M' as.length) (hrm : M'.2.2.2.2.1 + 1 ≤ M.2.2.2.2.1 ∧ 8 + (M'.2.2.1 + 11) + M'.2.2.2.2.2 ≤ M.2.2.2.2.2) (hsm : (st.map fun v => v.category).sum ≤ 8) (hd : decode M.2.1 pc = .ok (.invokestatic idx, 3)) (hC : pm_C L M' as w Q') (kk : ∀ r w', Q' r w' → pm_R L M (pc + 3) lv (r.toList ++ st) w' Q) : pm_R L M pc lv (as.reverse ++ st) w Q := by
  intro p l e s m args below meth c D G X H locs ls hP hS hl
  obtain ⟨hx, hb, hml, hown, hr, hlocks, hts, ho, hK, hSt, hNw⟩ := id X
  obtain ⟨⟨m1, m2, m4, m5⟩, n1, n2, n3⟩ := hl0
  have hgi : GoodIn (pm_ws M) (va_wsS M.1.cls idx M'.1 (pm_ws M')) := by
    intro w hw
    rcases List.mem_append.mp hw with hw | hw
    · simp only [List.mem_cons, List.not_mem_nil, or_false] at hw
      rcases hw with rfl | rfl | rfl
      · exact ⟨List.mem_cons_of_mem _ m1, pm_gw m1⟩
      · exact ⟨List.mem_cons_of_mem _ m2, pm_gw m2⟩
      · exact ⟨List.mem_cons_of_mem _ m4, pm_gw m4⟩
    · exact pm_goodIn m5 w hw
  have hrun := va_runS (e := e) (below := below) (meth := meth) (locs := locs) (cells := 0) (slots := 0) (g := F0 m pc ls ((as.reverse ++ st).map (pm_v G))) (rest := st.map (pm_v G)) (As := as.map (pm_v G)) (R := pm_rm M) (H := H) ⟨hx, hb, hml, hown, hts⟩ (hC l D G ho) (va_cwS as.length hts hgi rfl rfl rfl ⟨n1, n2, n3⟩ hrm) ⟨pm_blind, fun U hU hW => ⟨rfl, by rw [hU]; exact hP, pm_K_moved (locs := locs) hW (by rw [hU]; exact hS) ⟨hK, hSt, hNw⟩⟩⟩ rfl (by simp) hl.1 (by simp) (lv_room (by rw [pm_sumc]; exact hsm)) hd ⟨Nat.le_refl _, Nat.le_refl _⟩
  intro T hT X0
  obtain ⟨v, st₀, t, T', Lc, h0, X', hL, e1, e2, ⟨⟨r, w', hv, hq, hP'⟩, hF⟩, hgo⟩ := hrun T hT X0
  cases hv
  have h1 := kk r w' hq p l e s m args below meth c D G X T'.heap (locs ++ Lc) ls (by rw [e1]; exact hP') ⟨Nat.le_trans hS.1 (by rw [e1, ← h0]; exact hF.1), fun q a1 a2 => by rw [e1, hF.2 q (by rw [h0]; exact Nat.lt_of_lt_of_le a1 hS.1) a2, h0]; exact hS.2.1 q a1 a2, fun q hq => by
    rcases List.mem_append.mp hq with h | h
    · exact hS.2.2 q h
    · exact hL q h⟩ hl
  rw [← pm_tl] at h1
  obtain ⟨t2, a1, b1⟩ := h1 T' rfl X'
  exact ⟨t2, hgo t2 a1, b1⟩

theorem pm_callN {L : pm_L} {M : pm_M} {pc : Nat} {lv : List (Option Value)} {st : List Value} {w : pm_W} {Q : Option Value → pm_W → Prop} {idx : Nat} {M' : pm_M} {as : List Value} {Q' : Option Value → pm_W → Prop} {host : String} (hl0 : pm_MLN M.1.cls idx M' host as.length) (hrm : M'.2.2.2.2.1 + 1 ≤ M.2.2.2.2.1 ∧ 8 + (M'.2.2.1 + 11) + M'.2.2.2.2.2 ≤ M.2.2.2.2.2) (hsm : (st.map fun v => v.category).sum ≤ 8) (hd : decode M.2.1 pc = .ok (.invokestatic idx, 3)) (hC : pm_C L M' as w Q') (kk : ∀ r w', Q' r w' → pm_R L M (pc + 3) lv (r.toList ++ st) w' Q) : pm_R L M pc lv (as.reverse ++ st) w Q := by
  intro p l e s m args below meth c D G X H locs ls hP hS hl
  obtain ⟨hx, hb, hml, hown, hr, hlocks, hts, ho, hK, hSt, hNw⟩ := id X
  obtain ⟨⟨m1, m2, m4, m5⟩, n1, n2, n3⟩ := hl0
  have hrun := va_runSN (e := e) (below := below) (meth := meth) (locs := locs) (cells := 0) (slots := 0) (g := F0 m pc ls ((as.reverse ++ st).map (pm_v G))) (rest := st.map (pm_v G)) (As := as.map (pm_v G)) (R := pm_rm M) (H := H) ⟨hx, hb, hml, hown, hts⟩ (hC l D G ho) ⟨va_cnB as.length hts (pm_goodIn m5) rfl rfl rfl (hNw _ m1) (hts _ (List.mem_cons_of_mem _ m4)) ⟨n1, n2, n3⟩ hrm, hts _ (List.mem_cons_of_mem _ m2), trivial⟩ ⟨pm_blind, fun U hU hW => ⟨rfl, by rw [hU]; exact hP, pm_K_moved (locs := locs) hW (by rw [hU]; exact hS) ⟨hK, hSt, hNw⟩⟩⟩ rfl (by simp) hl.1 (by simp) (lv_room (by rw [pm_sumc]; exact hsm)) hd ⟨Nat.le_refl _, Nat.le_refl _⟩
  intro T hT X0
  obtain ⟨v, st₀, t, T', Lc, h0, X', hL, e1, e2, ⟨⟨r, w', hv, hq, hP'⟩, hF⟩, hgo⟩ := hrun T hT X0
  cases hv
  have h1 := kk r w' hq p l e s m args below meth c D G X T'.heap (locs ++ Lc) ls (by rw [e1]; exact hP') ⟨Nat.le_trans hS.1 (by rw [e1, ← h0]; exact hF.1), fun q a1 a2 => by rw [e1, hF.2 q (by rw [h0]; exact Nat.lt_of_lt_of_le a1 hS.1) a2, h0]; exact hS.2.1 q a1 a2, fun q hq => by
    rcases List.mem_append.mp hq with h | h
    · exact hS.2.2 q h
    · exact hL q h⟩ hl
  rw [← pm_tl] at h1
  obtain ⟨t2, a1, b1⟩ := h1 T' rfl X'
  exact ⟨t2, hgo t2 a1, b1⟩

theorem pm_copy {L : pm_L} {M : pm_M} {pc : Nat} {lv : List (Option Value)} {st : List Value} {w : pm_W} {Q : Option Value → pm_W → Prop} {idx k0 k1 n0 n1 : Nat} {sp dp n : Int32} (hl0 : Jvm.Cond.methodLink M.1.cls idx arraycopyName ∈ pm_good) (hl1 : Jvm.Cond.native arraycopyName ∈ pm_good ∧ Jvm.Cond.static arraycopyName ∈ pm_good ∧ Jvm.Cond.initialized "java/lang/System" ∈ pm_good) (hk0 : L.1 k0 = (10, n0)) (hk : L.1 k1 = (10, n1)) (h1 : ¬ sp < 0) (h2 : ¬ dp < 0) (h3 : ¬ n < 0) (h4 : sp.toNatClampNeg + n.toNatClampNeg ≤ n0) (h5 : dp.toNatClampNeg + n.toNatClampNeg ≤ n1) (hfr : 1 ≤ M.2.2.2.2.1) (hlo : (st.map fun v => v.category).sum + (nativeFrameWords "java/lang/System" "arraycopy" 5 + 11) ≤ M.2.2.2.2.2) (hd : decode M.2.1 pc = .ok (.invokestatic idx, 3)) (h : pm_R L M (pc + 3) lv st (pm_s w k1 (va_cpy (w.1 k0) (w.1 k1) sp.toNatClampNeg dp.toNatClampNeg n.toNatClampNeg)) Q) : pm_R L M pc lv (.int n :: .int dp :: .ref k1 :: .int sp :: .ref k0 :: st) w Q := by
  intro p l e s m args below meth c D G X H locs ls hP hS hl
  obtain ⟨hx, hb, hml, hown, hr, hlocks, hts, ho, hK, hSt, hNw⟩ := id X
  have hm0 : k0 ∈ pm_ks L := pm_there ho (by rw [hk0]; simp)
  have hm : k1 ∈ pm_ks L := pm_there ho (by rw [hk]; simp)
  obtain ⟨q0, hq0⟩ := pm_cells_at (G := G) w hm0
  obtain ⟨q1, hq1⟩ := pm_cells_at (G := G) w hm
  have hq2 := hq1
  rw [pm_cell_i hk0] at hq0
  rw [pm_cell_i hk] at hq1
  refine va_copyi (ty := .int) hx hb (hml.trans hl.1.symm) hown (hts _ (List.mem_cons_of_mem _ hl0)) (hts _ (List.mem_cons_of_mem _ hl1.1)) (hts _ (List.mem_cons_of_mem _ hl1.2.1)) (hts _ (List.mem_cons_of_mem _ hl1.2.2)) hK hP (pm_D ho w) hS q0 q1 0 0 hq0 hq1 rfl rfl rfl h1 h2 h3 h4 h5 (fun _ _ => rfl) hfr (by rw [pm_sumc]; exact hlo) hd (fun H1 locs1 hP1 _ hS1 => ?_)
  refine h p l e s m args below meth c D G X H1 locs1 ls (pm_P_set ho hq2 hm ?_ pm_cell_s hP1) hS1 hl
  rw [pm_cell_i hk]
  simp [pm_s]

