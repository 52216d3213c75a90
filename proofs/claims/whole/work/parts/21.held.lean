def sh (f : Nat → Int32) (i j : Nat) : Nat → Int32 := fun t => if i ≤ t ∧ t < j then f (t + 1) else f t
theorem sh_0 (f : Nat → Int32) (i : Nat) : sh f i i = f := by
  funext t
  unfold sh
  rw [if_neg (by omega)]
theorem sh_succ (f : Nat → Int32) {i j : Nat} (h : i ≤ j) : upd (sh f i j) j (sh f i j (j + 1)) = sh f i (j + 1) := by
  funext t
  unfold upd sh
  by_cases ht : t = j
  · subst ht
    rw [if_pos rfl, if_neg (by omega), if_pos (by omega)]
  · rw [if_neg ht]
    by_cases h2 : i ≤ t ∧ t < j
    · rw [if_pos h2, if_pos (by omega)]
    · rw [if_neg h2, if_neg (by omega)]
theorem sh_at {f : Nat → Int32} {i j t : Nat} (h : t < j) : sh f i j t = if t < i then f t else f (t + 1) := by
  unfold sh
  by_cases h2 : t < i
  · rw [if_pos h2, if_neg (by omega)]
  · rw [if_neg h2, if_pos (by omega)]

theorem c_X2_remove {L : pm_L} {k n : Nat} (hk : hd_ok L k n) (hn : n ≤ 16) {w : pm_W} {l : List ab_E} (hR : hd_R w k l) (hl : l.length ≤ n) {i : Nat} {e : ab_E} (hi : l[i]? = some e) (he : e.2.1 < 4) : pm_C L MX2_remove [.ref k, .int (nI i)] w (pm_qv fun w1 => hd_R w1 k (l.eraseIdx i) ∧ fr_out w w1 k (k + 5)) := by
  obtain ⟨e1, e2, e3, e4, e5, e6, e7, e8, e9⟩ := hk
  obtain ⟨h1, h2, h3⟩ := hR
  have hil : i < l.length := (List.getElem?_eq_some_iff.mp hi).1
  obtain ⟨c, hc⟩ : ∃ c, c + 1 = l.length := ⟨l.length - 1, by omega⟩
  have loop : ∀ j, j ≤ c → i ≤ j → ∀ w1 : pm_W, w1.1 k 4 = nI c ∧ w1.1 (k + 1) = upd (w.1 (k + 1)) e.2.1 (w.1 (k + 1) e.2.1 - 1) ∧ w1.1 (k + 2) = sh (w.1 (k + 2)) i j ∧ w1.1 (k + 3) = sh (w.1 (k + 3)) i j ∧ w1.1 (k + 4) = sh (w.1 (k + 4)) i j ∧ fr_out w w1 k (k + 5) → pm_R L MX2_remove 27 [some (.ref k), some (.int (nI i)), some (.int (nI j))] [] w1 (pm_qv fun w1 => hd_R w1 k (l.eraseIdx i) ∧ fr_out w w1 k (k + 5)) := by
    refine up_loop c (fun j hj ih hij w1 hw => ?_)
    obtain ⟨g0, g1, g2, g3, g4, g5⟩ := hw
    refine pm_iload_n dX2_remove_27 rfl ?_
    refine pm_aload_n dX2_remove_28 rfl ?_
    refine pm_getI (ci := 2) (j := 4) (n := 5) (by first | assumption | rfl) (by decide) (by decide) rfl fl_RX2_15 rfl dX2_remove_29 ?_
    rw [g0]
    refine pm_icmp_ge (tgt := 83) dX2_remove_32 (by decide) (fun c32 => ?_) (fun c32 => ?_)
    · refine pm_vret dX2_remove_83 rfl ?_
      rw [nI_leI (by omega) (by omega)] at c32
      have hjc : j = c := by omega
      subst hjc
      refine ⟨⟨?_, fun t x hx => ?_, fun q hq => ?_⟩, g5⟩
      · rw [g0, List.length_eraseIdx, if_pos hil, ← hc]; rfl
      · have ht : t < j := by
          have := (List.getElem?_eq_some_iff.mp hx).1
          rw [List.length_eraseIdx, if_pos hil] at this
          omega
        rw [List.getElem?_eraseIdx] at hx
        rw [g2, g3, g4, sh_at ht, sh_at ht, sh_at ht]
        by_cases h9 : t < i
        · rw [if_pos h9] at hx
          simp only [if_pos h9]
          exact h2 t x hx
        · rw [if_neg h9] at hx
          simp only [if_neg h9]
          exact h2 (t + 1) x hx
      · have e0 := cnt_rem hi q
        have e00 := h3 q hq
        rw [g1]
        by_cases hqe : q = e.2.1
        · subst hqe
          rw [if_pos rfl] at e0
          rw [show upd (w.1 (k + 1)) e.2.1 (w.1 (k + 1) e.2.1 - 1) e.2.1 = _ from pk_us, e00, ← e0]
          exact nI_pred _
        · rw [if_neg (fun h => hqe h.symm)] at e0
          rw [show upd (w.1 (k + 1)) e.2.1 (w.1 (k + 1) e.2.1 - 1) q = _ from pk_un hqe, e00]
          congr 1
          omega
    · have hlt : j < c := by
        rw [nI_leI (by omega) (by omega)] at c32
        omega
      refine pm_aload_n dX2_remove_35 rfl ?_
      refine pm_getR (ci := 2) (j := 0) (n := 5) (by first | assumption | rfl) (by decide) (by decide) rfl fl_RX2_19 rfl (by first | assumption | rfl) dX2_remove_36 ?_
      refine pm_iload_n dX2_remove_39 rfl ?_
      refine pm_aload_n dX2_remove_40 rfl ?_
      refine pm_getR (ci := 2) (j := 0) (n := 5) (by first | assumption | rfl) (by decide) (by decide) rfl fl_RX2_19 rfl (by first | assumption | rfl) dX2_remove_41 ?_
      refine pm_iload_n dX2_remove_44 rfl ?_
      refine pm_iconst (x := 1) dX2_remove_45 rfl ?_
      refine pm_iadd dX2_remove_46 ?_
      rw [nI_1]
      refine pm_ialdN (by first | assumption | rfl) (by omega) (by first | decide | omega) dX2_remove_47 ?_
      refine pm_iastN (by first | assumption | rfl) (by omega) (by first | decide | omega) dX2_remove_48 ?_
      refine pm_aload_n dX2_remove_49 rfl ?_
      refine pm_getR (ci := 2) (j := 1) (n := 5) (by first | assumption | rfl) (by decide) (by decide) rfl fl_RX2_22 rfl (by first | assumption | rfl) dX2_remove_50 ?_
      refine pm_iload_n dX2_remove_53 rfl ?_
      refine pm_aload_n dX2_remove_54 rfl ?_
      refine pm_getR (ci := 2) (j := 1) (n := 5) (by first | assumption | rfl) (by decide) (by decide) rfl fl_RX2_22 rfl (by first | assumption | rfl) dX2_remove_55 ?_
      refine pm_iload_n dX2_remove_58 rfl ?_
      refine pm_iconst (x := 1) dX2_remove_59 rfl ?_
      refine pm_iadd dX2_remove_60 ?_
      rw [nI_1]
      refine pm_ialdN (by first | assumption | rfl) (by omega) (by first | decide | omega) dX2_remove_61 ?_
      refine pm_iastN (by first | assumption | rfl) (by omega) (by first | decide | omega) dX2_remove_62 ?_
      refine pm_aload_n dX2_remove_63 rfl ?_
      refine pm_getR (ci := 2) (j := 2) (n := 5) (by first | assumption | rfl) (by decide) (by decide) rfl fl_RX2_25 rfl (by first | assumption | rfl) dX2_remove_64 ?_
      refine pm_iload_n dX2_remove_67 rfl ?_
      refine pm_aload_n dX2_remove_68 rfl ?_
      refine pm_getR (ci := 2) (j := 2) (n := 5) (by first | assumption | rfl) (by decide) (by decide) rfl fl_RX2_25 rfl (by first | assumption | rfl) dX2_remove_69 ?_
      refine pm_iload_n dX2_remove_72 rfl ?_
      refine pm_iconst (x := 1) dX2_remove_73 rfl ?_
      refine pm_iadd dX2_remove_74 ?_
      rw [nI_1]
      refine pm_ialdN (by first | assumption | rfl) (by omega) (by first | decide | omega) dX2_remove_75 ?_
      refine pm_iastN (by first | assumption | rfl) (by omega) (by first | decide | omega) dX2_remove_76 ?_
      refine pm_iinc (y := _ + 1) (lv' := [some (.ref _), some (.int _), some (.int _)]) dX2_remove_77 rfl rfl (by decide) rfl ?_
      refine pm_goto (tgt := 27) dX2_remove_80 (by decide) ?_
      rw [nI_1]
      refine ih hlt (by omega) _ ⟨?_, ?_, ?_, ?_, ?_, ?_⟩
      · simp [pm_s, g0]
      · simp [pm_s, g1]
      · rw [← sh_succ _ hij]; simp [pm_s, g2]
      · rw [← sh_succ _ hij]; simp [pm_s, g3]
      · rw [← sh_succ _ hij]; simp [pm_s, g4]
      · exact fr_st (fr_st (fr_st g5 (by omega) (by omega)) (by omega) (by omega)) (by omega) (by omega)
  refine pm_start (lv := [some (.ref _), some (.int _), none]) (plainFor_of_name pf2) (Nat.le_of_ble_eq_true rfl) rfl ?_
  refine pm_aload_n dX2_remove_0 rfl ?_
  refine pm_getR (ci := 2) (j := 3) (n := 5) (by first | assumption | rfl) (by decide) (by decide) rfl fl_RX2_9 rfl (by first | assumption | rfl) dX2_remove_1 ?_
  refine pm_aload_n dX2_remove_4 rfl ?_
  refine pm_getR (ci := 2) (j := 1) (n := 5) (by first | assumption | rfl) (by decide) (by decide) rfl fl_RX2_22 rfl (by first | assumption | rfl) dX2_remove_5 ?_
  refine pm_iload_n dX2_remove_8 rfl ?_
  refine pm_ialdN (by first | assumption | rfl) (by omega) (by first | decide | omega) dX2_remove_9 ?_
  rw [(h2 i e hi).2.1]
  refine pm_dup2 dX2_remove_10 rfl rfl ?_
  refine pm_ialdN (by first | assumption | rfl) (by omega) (by first | decide | omega) dX2_remove_11 ?_
  refine pm_iconst (x := 1) dX2_remove_12 rfl ?_
  refine pm_isub dX2_remove_13 ?_
  refine pm_iastN (by first | assumption | rfl) (by omega) (by first | decide | omega) dX2_remove_14 ?_
  refine pm_aload_n dX2_remove_15 rfl ?_
  refine pm_dup dX2_remove_16 rfl ?_
  refine pm_getI (ci := 2) (j := 4) (n := 5) (by first | assumption | rfl) (by decide) (by decide) rfl fl_RX2_15 rfl dX2_remove_17 ?_
  refine pm_iconst (x := 1) dX2_remove_20 rfl ?_
  refine pm_isub dX2_remove_21 ?_
  refine pm_putI (ci := 2) (j := 4) (n := 5) (by first | assumption | rfl) (by decide) (by decide) rfl fl_RX2_15 rfl rfl dX2_remove_22 ?_
  refine pm_iload_n dX2_remove_25 rfl ?_
  refine pm_istore_n (lv' := [some (.ref _), some (.int _), some (.int _)]) dX2_remove_26 (by decide) rfl ?_
  refine loop i (by omega) (Nat.le_refl _) _ ⟨?_, ?_, ?_, ?_, ?_, ?_⟩
  · simp [pm_s, upd, h1, ← hc, nI_pred]
  · simp [pm_s]
  · rw [sh_0]; simp [pm_s]
  · rw [sh_0]; simp [pm_s]
  · rw [sh_0]; simp [pm_s]
  · exact fr_st (fr_s (by omega) (by omega)) (by omega) (by omega)

def pm_le : List (Option Value) → List (Option Value) → Prop
  | [], _ => True
  | none :: a, _ :: b => pm_le a b
  | some v :: a, x :: b => x = some v ∧ pm_le a b
  | _ :: _, [] => False
theorem pm_le_0 {b : List (Option Value)} : pm_le [] b := trivial
theorem pm_le_n {x : Option Value} {a b : List (Option Value)} (h : pm_le a b) : pm_le (none :: a) (x :: b) := h
theorem pm_le_k {v : Value} {x : Option Value} {a b : List (Option Value)} (e : x = some v) (h : pm_le a b) : pm_le (some v :: a) (x :: b) := ⟨e, h⟩
theorem pm_le_at : ∀ {a b : List (Option Value)}, pm_le a b → ∀ (i : Nat) (v : Value), a[i]? = some (some v) → b[i]? = some (some v)
  | [], _, _, i, v, hi => by simp at hi
  | none :: a, x :: b, h, i, v, hi => by
    cases i with
    | zero => simp at hi
    | succ i => simpa using pm_le_at (a := a) (b := b) h i v (by simpa using hi)
  | some u :: a, x :: b, h, i, v, hi => by
    obtain ⟨h1, h2⟩ := h
    cases i with
    | zero => simp at hi; subst hi; subst h1; rfl
    | succ i => simpa using pm_le_at h2 i v (by simpa using hi)
  | none :: a, [], h, i, v, hi => h.elim
  | some u :: a, [], h, i, v, hi => h.elim
/-- some locals forgotten -/
theorem pm_fg {L : pm_L} {M : pm_M} {pc : Nat} {lv lv' : List (Option Value)} {st : List Value} {w : pm_W} {Q : Option Value → pm_W → Prop} (hf : pm_le lv' lv) (h : pm_R L M pc lv' st w Q) : pm_R L M pc lv st w Q := pm_forget (pm_le_at hf) h
def ab_ls (l : List ab_E) (arm : Int32) : Option Nat → Int32
  | none => 64
  | some k => ab_abs ((l.getD k (0, 0, 0)).1 - arm)

theorem nI_ne_m1 {n : Nat} (h : n < 2 ^ 31) : ¬ nI n = -1 := by
  intro e
  have h1 := congrArg Int32.toInt e
  rw [nI_toInt h] at h1
  have h2 : (-1 : Int32).toInt = -1 := by decide
  omega
theorem c_X2_nearest {L : pm_L} {k n : Nat} (hk : hd_ok L k n) (hn : n ≤ 16) {w : pm_W} {l : List ab_E} (hR : hd_R w k l) (hl : l.length ≤ n) (arm : Int32) (hb : ∀ e ∈ l, ab_abs (e.1 - arm) < 64) : pm_C L MX2_nearest [.ref k, .int arm] w (pm_qi fun r w1 => r = ab_eo (ab_nr l arm l.length) ∧ w1 = w) := by
  obtain ⟨e1, e2, e3, e4, e5, e6, e7, e8, e9⟩ := hk
  obtain ⟨h1, h2, h3⟩ := hR
  have loop : ∀ i, i ≤ l.length → pm_R L MX2_nearest 8 [some (.ref k), some (.int arm), some (.int (ab_eo (ab_nr l arm i))), some (.int (ab_ls l arm (ab_nr l arm i))), some (.int (nI i)), none] [] w (pm_qi fun r w1 => r = ab_eo (ab_nr l arm l.length) ∧ w1 = w) := by
    refine up_loop l.length (fun i hi ih => ?_)
    cases hnr : ab_nr l arm i with
    | none =>
      simp only [ab_eo, ab_ls]
      refine pm_iload dX2_nearest_8 rfl ?_
      refine pm_aload_n dX2_nearest_10 rfl ?_
      refine pm_getI (ci := 2) (j := 4) (n := 5) (by first | assumption | rfl) (by decide) (by decide) rfl fl_RX2_15 rfl dX2_nearest_11 ?_
      rw [h1]
      refine pm_icmp_ge (tgt := 76) dX2_nearest_14 (by decide) (fun c14 => ?_) (fun c14 => ?_)
      · refine pm_iload_n dX2_nearest_76 rfl ?_
        refine pm_iret dX2_nearest_77 rfl ?_
        rw [nI_leI (by omega) (by omega)] at c14
        have : i = l.length := by omega
        subst this
        rw [hnr]
        exact ⟨rfl, rfl⟩
      · have hlt : i < l.length := by
          rw [nI_leI (by omega) (by omega)] at c14
          omega
        have hgi : l.getD i (0, 0, 0) = l[i] := by rw [List.getD_eq_getElem?_getD, List.getElem?_eq_getElem hlt]; rfl
        have hbi : w.1 (k + 2) i = (l.getD i (0, 0, 0)).1 := by rw [hgi]; exact (h2 i _ (List.getElem?_eq_getElem hlt)).1
        have hfar := hb _ (List.getElem_mem hlt)
        rw [← hgi] at hfar
        refine pm_aload_n dX2_nearest_17 rfl ?_
        refine pm_getR (ci := 2) (j := 0) (n := 5) (by first | assumption | rfl) (by decide) (by decide) rfl fl_RX2_19 rfl (by first | assumption | rfl) dX2_nearest_18 ?_
        refine pm_iload dX2_nearest_21 rfl ?_
        refine pm_ialdN (by first | assumption | rfl) (by omega) (by first | decide | omega) dX2_nearest_23 ?_
        rw [hbi]
        refine pm_iload_n dX2_nearest_24 rfl ?_
        refine pm_isub dX2_nearest_25 ?_
        refine pm_cSi (as := [.int _]) ml_RX2_40 (by decide) (by decide) dX2_nearest_26 (c_J9_abs_0f7a4 L _ _) (fun x1 w1 hq => ?_)
        obtain ⟨rfl, rfl⟩ := hq
        refine pm_istore (lv' := [some (.ref _), some (.int _), some (.int _), some (.int _), some (.int _), some (.int _)]) dX2_nearest_29 (by decide) rfl ?_
        refine pm_iload dX2_nearest_31 rfl ?_
        refine pm_iload_n dX2_nearest_33 rfl ?_
        refine pm_icmp_lt (tgt := 64) dX2_nearest_34 (by decide) (fun c34 => ?_) (fun c34 => absurd hfar c34)
        refine pm_iload dX2_nearest_64 rfl ?_
        refine pm_istore_n (lv' := [some (.ref _), some (.int _), some (.int _), some (.int _), some (.int _), some (.int _)]) dX2_nearest_66 (by decide) rfl ?_
        refine pm_iload dX2_nearest_67 rfl ?_
        refine pm_istore_n (lv' := [some (.ref _), some (.int _), some (.int _), some (.int _), some (.int _), some (.int _)]) dX2_nearest_69 (by decide) rfl ?_
        refine pm_iinc (y := _ + 1) (lv' := [some (.ref _), some (.int _), some (.int _), some (.int _), some (.int _), some (.int _)]) dX2_nearest_70 rfl rfl (by decide) rfl ?_
        refine pm_goto (tgt := 8) dX2_nearest_73 (by decide) ?_
        refine pm_fg (lv' := [some (.ref _), some (.int _), some (.int _), some (.int _), some (.int _), none]) (pm_le_k rfl (pm_le_k rfl (pm_le_k rfl (pm_le_k rfl (pm_le_k rfl (pm_le_n pm_le_0)))))) ?_
        rw [nI_1]
        have h9 := ih hlt
        rw [show ab_nr l arm (i + 1) = some i by simp only [ab_nr, hnr]] at h9
        exact h9
    | some k0 =>
      simp only [ab_eo, ab_ls]
      refine pm_iload dX2_nearest_8 rfl ?_
      refine pm_aload_n dX2_nearest_10 rfl ?_
      refine pm_getI (ci := 2) (j := 4) (n := 5) (by first | assumption | rfl) (by decide) (by decide) rfl fl_RX2_15 rfl dX2_nearest_11 ?_
      rw [h1]
      refine pm_icmp_ge (tgt := 76) dX2_nearest_14 (by decide) (fun c14 => ?_) (fun c14 => ?_)
      · refine pm_iload_n dX2_nearest_76 rfl ?_
        refine pm_iret dX2_nearest_77 rfl ?_
        rw [nI_leI (by omega) (by omega)] at c14
        have : i = l.length := by omega
        subst this
        rw [hnr]
        exact ⟨rfl, rfl⟩
      · have hlt : i < l.length := by
          rw [nI_leI (by omega) (by omega)] at c14
          omega
        have hgi : l.getD i (0, 0, 0) = l[i] := by rw [List.getD_eq_getElem?_getD, List.getElem?_eq_getElem hlt]; rfl
        have hbi : w.1 (k + 2) i = (l.getD i (0, 0, 0)).1 := by rw [hgi]; exact (h2 i _ (List.getElem?_eq_getElem hlt)).1
        have hfar := hb _ (List.getElem_mem hlt)
        rw [← hgi] at hfar
        have hk0 := ab_nr_lt hnr
        have hgk : l.getD k0 (0, 0, 0) = l[k0] := by rw [List.getD_eq_getElem?_getD, List.getElem?_eq_getElem (by omega)]; rfl
        have hbk : w.1 (k + 2) k0 = (l.getD k0 (0, 0, 0)).1 := by rw [hgk]; exact (h2 k0 _ (List.getElem?_eq_getElem (by omega))).1
        refine pm_aload_n dX2_nearest_17 rfl ?_
        refine pm_getR (ci := 2) (j := 0) (n := 5) (by first | assumption | rfl) (by decide) (by decide) rfl fl_RX2_19 rfl (by first | assumption | rfl) dX2_nearest_18 ?_
        refine pm_iload dX2_nearest_21 rfl ?_
        refine pm_ialdN (by first | assumption | rfl) (by omega) (by first | decide | omega) dX2_nearest_23 ?_
        rw [hbi]
        refine pm_iload_n dX2_nearest_24 rfl ?_
        refine pm_isub dX2_nearest_25 ?_
        refine pm_cSi (as := [.int _]) ml_RX2_40 (by decide) (by decide) dX2_nearest_26 (c_J9_abs_0f7a4 L _ _) (fun x1 w1 hq => ?_)
        obtain ⟨rfl, rfl⟩ := hq
        refine pm_istore (lv' := [some (.ref _), some (.int _), some (.int _), some (.int _), some (.int _), some (.int _)]) dX2_nearest_29 (by decide) rfl ?_
        refine pm_iload dX2_nearest_31 rfl ?_
        refine pm_iload_n dX2_nearest_33 rfl ?_
        refine pm_icmp_lt (tgt := 64) dX2_nearest_34 (by decide) (fun c34 => ?_) (fun c34 => ?_)
        · refine pm_iload dX2_nearest_64 rfl ?_
          refine pm_istore_n (lv' := [some (.ref _), some (.int _), some (.int _), some (.int _), some (.int _), some (.int _)]) dX2_nearest_66 (by decide) rfl ?_
          refine pm_iload dX2_nearest_67 rfl ?_
          refine pm_istore_n (lv' := [some (.ref _), some (.int _), some (.int _), some (.int _), some (.int _), some (.int _)]) dX2_nearest_69 (by decide) rfl ?_
          refine pm_iinc (y := _ + 1) (lv' := [some (.ref _), some (.int _), some (.int _), some (.int _), some (.int _), some (.int _)]) dX2_nearest_70 rfl rfl (by decide) rfl ?_
          refine pm_goto (tgt := 8) dX2_nearest_73 (by decide) ?_
          refine pm_fg (lv' := [some (.ref _), some (.int _), some (.int _), some (.int _), some (.int _), none]) (pm_le_k rfl (pm_le_k rfl (pm_le_k rfl (pm_le_k rfl (pm_le_k rfl (pm_le_n pm_le_0)))))) ?_
          rw [nI_1]
          have h9 := ih hlt
          rw [show ab_nr l arm (i + 1) = some i by simp only [ab_nr, hnr]; exact if_pos (Or.inl c34)] at h9
          exact h9
        · refine pm_iload dX2_nearest_37 rfl ?_
          refine pm_iload_n dX2_nearest_39 rfl ?_
          refine pm_icmp_ne (tgt := 70) dX2_nearest_40 (by decide) (fun c40 => ?_) (fun c40 => ?_)
          · refine pm_iinc (y := _ + 1) (lv' := [some (.ref _), some (.int _), some (.int _), some (.int _), some (.int _), some (.int _)]) dX2_nearest_70 rfl rfl (by decide) rfl ?_
            refine pm_goto (tgt := 8) dX2_nearest_73 (by decide) ?_
            refine pm_fg (lv' := [some (.ref _), some (.int _), some (.int _), some (.int _), some (.int _), none]) (pm_le_k rfl (pm_le_k rfl (pm_le_k rfl (pm_le_k rfl (pm_le_k rfl (pm_le_n pm_le_0)))))) ?_
            rw [nI_1]
            have h9 := ih hlt
            rw [show ab_nr l arm (i + 1) = some k0 by simp only [ab_nr, hnr]; exact if_neg (fun h => h.elim c34 (fun h => c40 h.1))] at h9
            exact h9
          · refine pm_iload_n dX2_nearest_43 rfl ?_
            refine pm_iconst (x := -1) dX2_nearest_44 rfl ?_
            refine pm_icmp_eq (tgt := 70) dX2_nearest_45 (by decide) (fun c45 => absurd c45 (nI_ne_m1 (by omega))) (fun c45 => ?_)
            refine pm_aload_n dX2_nearest_48 rfl ?_
            refine pm_getR (ci := 2) (j := 0) (n := 5) (by first | assumption | rfl) (by decide) (by decide) rfl fl_RX2_19 rfl (by first | assumption | rfl) dX2_nearest_49 ?_
            refine pm_iload dX2_nearest_52 rfl ?_
            refine pm_ialdN (by first | assumption | rfl) (by omega) (by first | decide | omega) dX2_nearest_54 ?_
            rw [hbi]
            refine pm_aload_n dX2_nearest_55 rfl ?_
            refine pm_getR (ci := 2) (j := 0) (n := 5) (by first | assumption | rfl) (by decide) (by decide) rfl fl_RX2_19 rfl (by first | assumption | rfl) dX2_nearest_56 ?_
            refine pm_iload_n dX2_nearest_59 rfl ?_
            refine pm_ialdN (by first | assumption | rfl) (by omega) (by first | decide | omega) dX2_nearest_60 ?_
            rw [hbk]
            refine pm_icmp_ge (tgt := 70) dX2_nearest_61 (by decide) (fun c61 => ?_) (fun c61 => ?_)
            · refine pm_iinc (y := _ + 1) (lv' := [some (.ref _), some (.int _), some (.int _), some (.int _), some (.int _), some (.int _)]) dX2_nearest_70 rfl rfl (by decide) rfl ?_
              refine pm_goto (tgt := 8) dX2_nearest_73 (by decide) ?_
              refine pm_fg (lv' := [some (.ref _), some (.int _), some (.int _), some (.int _), some (.int _), none]) (pm_le_k rfl (pm_le_k rfl (pm_le_k rfl (pm_le_k rfl (pm_le_k rfl (pm_le_n pm_le_0)))))) ?_
              rw [nI_1]
              have h9 := ih hlt
              rw [show ab_nr l arm (i + 1) = some k0 by simp only [ab_nr, hnr]; exact if_neg (fun h => h.elim c34 (fun h => Int32.not_lt.mpr c61 h.2))] at h9
              exact h9
            · refine pm_iload dX2_nearest_64 rfl ?_
              refine pm_istore_n (lv' := [some (.ref _), some (.int _), some (.int _), some (.int _), some (.int _), some (.int _)]) dX2_nearest_66 (by decide) rfl ?_
              refine pm_iload dX2_nearest_67 rfl ?_
              refine pm_istore_n (lv' := [some (.ref _), some (.int _), some (.int _), some (.int _), some (.int _), some (.int _)]) dX2_nearest_69 (by decide) rfl ?_
              refine pm_iinc (y := _ + 1) (lv' := [some (.ref _), some (.int _), some (.int _), some (.int _), some (.int _), some (.int _)]) dX2_nearest_70 rfl rfl (by decide) rfl ?_
              refine pm_goto (tgt := 8) dX2_nearest_73 (by decide) ?_
              refine pm_fg (lv' := [some (.ref _), some (.int _), some (.int _), some (.int _), some (.int _), none]) (pm_le_k rfl (pm_le_k rfl (pm_le_k rfl (pm_le_k rfl (pm_le_k rfl (pm_le_n pm_le_0)))))) ?_
              rw [nI_1]
              have h9 := ih hlt
              rw [show ab_nr l arm (i + 1) = some i by simp only [ab_nr, hnr]; exact if_pos (Or.inr ⟨c40, Int32.not_le.mp c61⟩)] at h9
              exact h9
  refine pm_start (lv := [some (.ref _), some (.int _), none, none, none, none]) (plainFor_of_name pf2) (Nat.le_of_ble_eq_true rfl) rfl ?_
  refine pm_iconst (x := -1) dX2_nearest_0 rfl ?_
  refine pm_istore_n (lv' := [some (.ref _), some (.int _), some (.int _), none, none, none]) dX2_nearest_1 (by decide) rfl ?_
  refine pm_bipush (x := 64) dX2_nearest_2 rfl ?_
  refine pm_istore_n (lv' := [some (.ref _), some (.int _), some (.int _), some (.int _), none, none]) dX2_nearest_4 (by decide) rfl ?_
  refine pm_iconst (x := 0) dX2_nearest_5 rfl ?_
  refine pm_istore (lv' := [some (.ref _), some (.int _), some (.int _), some (.int _), some (.int _), none]) dX2_nearest_6 (by decide) rfl ?_
  exact loop 0 (Nat.zero_le _)

theorem cpy_at {f g : Nat → Int32} {n i : Nat} (h : i < n) : va_cpy f g 0 0 n i = f i := by
  rw [pk_cpy_in (by omega) (by omega)]
  simp

set_option maxRecDepth 4000 in
theorem c_X2_copyFrom {L : pm_L} {k k2 n : Nat} (hk : hd_ok L k n) (hk2 : hd_ok L k2 n) (hd : k + 5 ≤ k2 ∨ k2 + 5 ≤ k) (hn : n ≤ 16) {w : pm_W} {l : List ab_E} (hR : hd_R w k2 l) (hl : l.length ≤ n) : pm_C L MX2_copyFrom [.ref k, .ref k2] w (pm_qv fun w1 => hd_R w1 k l ∧ fr_out w w1 k (k + 5)) := by
  obtain ⟨e1, e2, e3, e4, e5, e6, e7, e8, e9⟩ := hk
  obtain ⟨a1, a2, a3, a4, a5, a6, a7, a8, a9⟩ := hk2
  obtain ⟨h1, h2, h3⟩ := hR
  refine pm_start (lv := [some (.ref _), some (.ref _)]) (plainFor_of_name pf2) (Nat.le_of_ble_eq_true rfl) rfl ?_
  refine pm_aload_n dX2_copyFrom_0 rfl ?_
  refine pm_aload_n dX2_copyFrom_1 rfl ?_
  refine pm_getI (ci := 2) (j := 4) (n := 5) (by first | assumption | rfl) (by decide) (by decide) rfl fl_RX2_15 rfl dX2_copyFrom_2 ?_
  rw [h1]
  refine pm_putI (ci := 2) (j := 4) (n := 5) (by first | assumption | rfl) (by decide) (by decide) rfl fl_RX2_15 rfl rfl dX2_copyFrom_5 ?_
  refine pm_aload_n dX2_copyFrom_8 rfl ?_
  refine pm_getR (ci := 2) (j := 0) (n := 5) (by first | assumption | rfl) (by decide) (by decide) rfl fl_RX2_19 rfl (by first | assumption | rfl) dX2_copyFrom_9 ?_
  refine pm_iconst (x := 0) dX2_copyFrom_12 rfl ?_
  refine pm_aload_n dX2_copyFrom_13 rfl ?_
  refine pm_getR (ci := 2) (j := 0) (n := 5) (by first | assumption | rfl) (by decide) (by decide) rfl fl_RX2_19 rfl (by first | assumption | rfl) dX2_copyFrom_14 ?_
  refine pm_iconst (x := 0) dX2_copyFrom_17 rfl ?_
  refine pm_aload_n dX2_copyFrom_18 rfl ?_
  refine pm_getI (ci := 2) (j := 4) (n := 5) (by first | assumption | rfl) (by decide) (by decide) rfl fl_RX2_15 rfl dX2_copyFrom_19 ?_
  rw [show (pm_s w k (upd (w.1 k) 4 (nI l.length))).1 k 4 = nI l.length by rw [pm_s_at]; exact pk_us]
  refine pm_copy ml_RX2_34 ml_copy (by first | assumption | rfl) (by first | assumption | rfl) (by decide) (by decide) (nI_pos (by omega)) (by rw [nI_clamp (by omega)]; exact Nat.le_trans (Nat.le_of_eq (Nat.zero_add _)) hl) (by rw [nI_clamp (by omega)]; exact Nat.le_trans (Nat.le_of_eq (Nat.zero_add _)) hl) (by decide) (by decide) dX2_copyFrom_22 ?_
  refine pm_aload_n dX2_copyFrom_25 rfl ?_
  refine pm_getR (ci := 2) (j := 1) (n := 5) (by first | assumption | rfl) (by decide) (by decide) rfl fl_RX2_22 rfl (by first | assumption | rfl) dX2_copyFrom_26 ?_
  refine pm_iconst (x := 0) dX2_copyFrom_29 rfl ?_
  refine pm_aload_n dX2_copyFrom_30 rfl ?_
  refine pm_getR (ci := 2) (j := 1) (n := 5) (by first | assumption | rfl) (by decide) (by decide) rfl fl_RX2_22 rfl (by first | assumption | rfl) dX2_copyFrom_31 ?_
  refine pm_iconst (x := 0) dX2_copyFrom_34 rfl ?_
  refine pm_aload_n dX2_copyFrom_35 rfl ?_
  refine pm_getI (ci := 2) (j := 4) (n := 5) (by first | assumption | rfl) (by decide) (by decide) rfl fl_RX2_15 rfl dX2_copyFrom_36 ?_
  refine pm_topi (nI l.length) (by simp [pm_s, upd]) ?_
  refine pm_copy ml_RX2_34 ml_copy (by first | assumption | rfl) (by first | assumption | rfl) (by decide) (by decide) (nI_pos (by omega)) (by rw [nI_clamp (by omega)]; exact Nat.le_trans (Nat.le_of_eq (Nat.zero_add _)) hl) (by rw [nI_clamp (by omega)]; exact Nat.le_trans (Nat.le_of_eq (Nat.zero_add _)) hl) (by decide) (by decide) dX2_copyFrom_39 ?_
  refine pm_aload_n dX2_copyFrom_42 rfl ?_
  refine pm_getR (ci := 2) (j := 2) (n := 5) (by first | assumption | rfl) (by decide) (by decide) rfl fl_RX2_25 rfl (by first | assumption | rfl) dX2_copyFrom_43 ?_
  refine pm_iconst (x := 0) dX2_copyFrom_46 rfl ?_
  refine pm_aload_n dX2_copyFrom_47 rfl ?_
  refine pm_getR (ci := 2) (j := 2) (n := 5) (by first | assumption | rfl) (by decide) (by decide) rfl fl_RX2_25 rfl (by first | assumption | rfl) dX2_copyFrom_48 ?_
  refine pm_iconst (x := 0) dX2_copyFrom_51 rfl ?_
  refine pm_aload_n dX2_copyFrom_52 rfl ?_
  refine pm_getI (ci := 2) (j := 4) (n := 5) (by first | assumption | rfl) (by decide) (by decide) rfl fl_RX2_15 rfl dX2_copyFrom_53 ?_
  refine pm_topi (nI l.length) (by simp [pm_s, upd]) ?_
  refine pm_copy ml_RX2_34 ml_copy (by first | assumption | rfl) (by first | assumption | rfl) (by decide) (by decide) (nI_pos (by omega)) (by rw [nI_clamp (by omega)]; exact Nat.le_trans (Nat.le_of_eq (Nat.zero_add _)) hl) (by rw [nI_clamp (by omega)]; exact Nat.le_trans (Nat.le_of_eq (Nat.zero_add _)) hl) (by decide) (by decide) dX2_copyFrom_56 ?_
  refine pm_aload_n dX2_copyFrom_59 rfl ?_
  refine pm_getR (ci := 2) (j := 3) (n := 5) (by first | assumption | rfl) (by decide) (by decide) rfl fl_RX2_9 rfl (by first | assumption | rfl) dX2_copyFrom_60 ?_
  refine pm_iconst (x := 0) dX2_copyFrom_63 rfl ?_
  refine pm_aload_n dX2_copyFrom_64 rfl ?_
  refine pm_getR (ci := 2) (j := 3) (n := 5) (by first | assumption | rfl) (by decide) (by decide) rfl fl_RX2_9 rfl (by first | assumption | rfl) dX2_copyFrom_65 ?_
  refine pm_iconst (x := 0) dX2_copyFrom_68 rfl ?_
  refine pm_iconst (x := 4) dX2_copyFrom_69 rfl ?_
  refine pm_copy ml_RX2_34 ml_copy (by first | assumption | rfl) (by first | assumption | rfl) (by decide) (by decide) (by decide) (by decide) (by decide) (by decide) (by decide) dX2_copyFrom_70 ?_
  refine pm_vret dX2_copyFrom_73 rfl ?_
  have n1 : k + 1 ≠ k2 + 1 := by omega
  have n2 : k2 + 2 ≠ k := by omega
  have n3 : k2 + 3 ≠ k := by omega
  have n4 : k2 + 4 ≠ k := by omega
  have n5 : k2 + 1 ≠ k := by omega
  have m1 : k2 + 3 ≠ k + 2 := by omega
  have m2 : k2 + 4 ≠ k + 2 := by omega
  have m3 : k2 + 1 ≠ k + 2 := by omega
  have m4 : k2 + 4 ≠ k + 3 := by omega
  have m5 : k2 + 1 ≠ k + 3 := by omega
  have m6 : k2 + 1 ≠ k + 4 := by omega
  have m7 : k2 ≠ k := by omega
  have o1 : k2 ≠ k + 1 := by omega
  have o2 : k2 ≠ k + 2 := by omega
  have o3 : k2 ≠ k + 3 := by omega
  refine ⟨⟨?_, fun i e he => ?_, fun p hp => ?_⟩, fr_st (fr_st (fr_st (fr_st (fr_s (by omega) (by omega)) (by omega) (by omega)) (by omega) (by omega)) (by omega) (by omega)) (by omega) (by omega)⟩
  · simp [pm_s, upd]
  · have hi : i < l.length := (List.getElem?_eq_some_iff.mp he).1
    have hq := h2 i e he
    have z0 : (0 : Int32).toNatClampNeg = 0 := by decide
    simp only [pm_s, z0, nI_clamp (show l.length < 2 ^ 31 by omega)]
    simp [cpy_at hi, n2, n3, n4, m1, m2, m4, hq]
  · have z0 : (0 : Int32).toNatClampNeg = 0 := by decide
    have z4 : (4 : Int32).toNatClampNeg = 4 := by decide
    simp only [pm_s, z0, z4]
    simp [cpy_at hp, n5, o1, o2, o3, h3 p hp]

