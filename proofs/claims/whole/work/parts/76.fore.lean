theorem nI_sb {a b : Nat} (h : b ≤ a) : nI a - nI b = nI (a - b) := by
  have : nI a = nI (a - b) + nI b := by rw [nI_add, Nat.sub_add_cancel h]
  rw [this, Int32.add_sub_cancel]
/-- The place of b in l, or how many l has. -/
def fu_i (b : Int32) : List Int32 → Nat
  | [] => 0
  | a :: l => if a = b then 0 else fu_i b l + 1
theorem fu_le (b : Int32) : ∀ l, fu_i b l ≤ l.length
  | [] => Nat.le_refl _
  | a :: l => by
    have := fu_le b l
    rw [fu_i, List.length_cons]
    split <;> omega
theorem fu_at {b : Int32} : ∀ {l : List Int32} {k : Nat}, k < l.length → l.getD k 0 = b → (∀ j, j < k → ¬ l.getD j 0 = b) → fu_i b l = k
  | [], k, h, _, _ => absurd h (by simp)
  | a :: l, 0, _, h, _ => by rw [fu_i, if_pos (show a = b from h)]
  | a :: l, k + 1, h1, h2, h3 => by
    rw [fu_i, if_neg (show ¬ a = b from h3 0 (by omega)), fu_at (l := l) (k := k) (by simpa using h1) h2 (fun j hj => h3 (j + 1) (by omega))]
theorem fu_no {b : Int32} : ∀ {l : List Int32}, (∀ j, j < l.length → ¬ l.getD j 0 = b) → fu_i b l = l.length
  | [], _ => rfl
  | a :: l, h => by
    rw [fu_i, if_neg (show ¬ a = b from h 0 (by simp)), fu_no (l := l) (fun j hj => h (j + 1) (by simpa using hj)), List.length_cons]
/-- The unlike ones of the first i. -/
def fu_n (bs : Nat → Int32) : Nat → List Int32
  | 0 => []
  | i + 1 => if fu_i (bs i) (fu_n bs i) = (fu_n bs i).length then fu_n bs i ++ [bs i] else fu_n bs i
def fu_x (bs : Nat → Int32) (i : Nat) : Nat := fu_i (bs i) (fu_n bs i)
theorem fu_lx (bs : Nat → Int32) (i : Nat) : (fu_n bs (i + 1)).length = if fu_x bs i = (fu_n bs i).length then (fu_n bs i).length + 1 else (fu_n bs i).length := by
  rw [fu_n, fu_x]
  split <;> simp
theorem fu_mono (bs : Nat → Int32) {i : Nat} : ∀ {n : Nat}, i ≤ n → (fu_n bs i).length ≤ (fu_n bs n).length
  | 0, h => by rw [show i = 0 by omega]; exact Nat.le_refl _
  | n + 1, h => by
    by_cases q : i = n + 1
    · rw [q]; exact Nat.le_refl _
    · have := fu_mono bs (n := n) (i := i) (by omega)
      rw [fu_lx]
      split <;> omega
theorem fu_lt (bs : Nat → Int32) {i n : Nat} (h : i < n) : fu_x bs i < (fu_n bs n).length := by
  have h1 := fu_mono bs (show i + 1 ≤ n from h)
  have h2 := fu_le (bs i) (fu_n bs i)
  rw [fu_lx] at h1
  rw [fu_x] at h1 ⊢
  split at h1 <;> omega
theorem fu_7 {bs : Nat → Int32} : ∀ {n : Nat}, (∀ i, i < n → fu_x bs i < 7) → (fu_n bs n).length ≤ 7
  | 0, _ => Nat.zero_le _
  | n + 1, h => by
    have h1 := fu_7 (n := n) (fun i hi => h i (by omega))
    have h2 := h n (by omega)
    rw [fu_lx]
    split <;> omega
def fu_b (S : ab_S) (n i : Nat) : Int32 := S.2.2.2.2.getD (S.2.2.2.2.length - n + i) 0
def fu_tk (S : ab_S) (n i : Nat) : Bool := decide ((S.2.2.2.2.length - n + i + 1) % (S.2.2.2.1 6).toNatClampNeg = 0)
/-- What foresight answers of the latest n asks, where blocks below U may be fetched. -/
def pf_A (S : ab_S) (U n : Nat) (r : Int32) : Prop := ((∃ i, i < n ∧ 7 ≤ fu_x (fu_b S n) i) ∧ r = -103) ∨ ((∀ i, i < n → fu_x (fu_b S n) i < 7) ∧ ∃ m, r = nI m ∧ fo_L (S.2.2.2.1 4).toNatClampNeg U (S.2.2.2.1 5).toNatClampNeg (fu_x (fu_b S n)) (fu_tk S n) n m)
theorem pf_one {S : ab_S} {n : Nat} {r r' : Int32} (h : pf_A S (fu_n (fu_b S n) n).length n r) (k : pf_A S 7 n r') : r = r' := by
  rcases h with ⟨⟨i, h1, h2⟩, rfl⟩ | ⟨h1, m, rfl, h2⟩
  · rcases k with ⟨-, rfl⟩ | ⟨k1, -⟩
    · rfl
    · exact absurd (k1 i h1) (by omega)
  · rcases k with ⟨⟨i, k1, k2⟩, rfl⟩ | ⟨k1, m', rfl, k2⟩
    · exact absurd (h1 i k1) (by omega)
    · rw [fo_one (fu_7 h1) (fun i hi => fu_lt _ hi) h2 k2]
theorem fu_un {w : pm_W} {bs : Nat → Int32} {i : Nat} (h : ∀ k, k < (fu_n bs i).length → w.1 29 k = (fu_n bs i).getD k 0) (hx : fu_x bs i = (fu_n bs i).length) : ∀ k, k < (fu_n bs (i + 1)).length → (pm_s w 29 (upd (w.1 29) (fu_x bs i) (bs i))).1 29 k = (fu_n bs (i + 1)).getD k 0 := by
  intro k hk
  rw [pm_s_at]
  rw [fu_lx, if_pos hx] at hk
  rw [fu_n, if_pos (show fu_i (bs i) (fu_n bs i) = _ from hx)]
  by_cases q : k = (fu_n bs i).length
  · subst q
    rw [hx, pk_us]
    simp
  · rw [hx, pk_un q, h k (by omega)]
    simp [List.getD_eq_getElem?_getD, List.getElem?_append_left (show k < (fu_n bs i).length by omega)]

set_option maxRecDepth 4000 in
theorem num_31 {w : pm_W} {n i : Nat} {l : List Int32} (hl : l.length ≤ 7) (h29 : ∀ k, k < l.length → w.1 29 k = l.getD k 0) (b : Int32) {Q : Option Value → pm_W → Prop} (kk : pm_R pm_L0 MX1_number 55 [some (.ref 28), some (.ref 1), some (.int (nI n)), some (.int (nI l.length)), some (.int (nI i)), some (.int b), some (.int (nI (fu_i b l)))] [] w Q) : ∀ k, k ≤ l.length → (∀ j, j < k → ¬ l.getD j 0 = b) → pm_R pm_L0 MX1_number 31 [some (.ref 28), some (.ref 1), some (.int (nI n)), some (.int (nI l.length)), some (.int (nI i)), some (.int b), some (.int (nI k))] [] w Q := by
    refine up_loop l.length (fun k hk ih hn => ?_)
    refine pm_iload dX1_number_31 rfl ?_
    refine pm_iload_n dX1_number_33 rfl ?_
    refine pm_icmp_ge (tgt := 55) dX1_number_34 (by decide) (fun c34 => ?_) (fun c34 => ?_)
    · have hkl : k = l.length := by
        rw [nI_leI (by omega) (by omega)] at c34
        omega
      subst hkl
      rw [fu_no hn] at kk
      exact kk
    · have hlt : k < l.length := by
        rw [nI_leI (by omega) (by omega)] at c34
        omega
      refine pm_aload_n dX1_number_37 rfl ?_
      refine pm_getR (ci := 1) (j := 0) (n := 9) (by first | assumption | rfl) (by decide) (by decide) rfl fl_RX1_11 rfl (by first | assumption | rfl) dX1_number_38 ?_
      refine pm_iload dX1_number_41 rfl ?_
      refine pm_ialdN (by first | assumption | rfl) (by omega) (by first | decide | omega) dX1_number_43 ?_
      rw [h29 k hlt]
      refine pm_iload dX1_number_44 rfl ?_
      refine pm_icmp_eq (tgt := 55) dX1_number_46 (by decide) (fun c46 => ?_) (fun c46 => ?_)
      · rw [fu_at hlt c46 hn] at kk
        exact kk
      · refine pm_iinc (y := _ + 1) (lv' := [some (.ref _), some (.ref _), some (.int _), some (.int _), some (.int _), some (.int _), some (.int _)]) dX1_number_49 rfl rfl (by decide) rfl ?_
        refine pm_goto (tgt := 31) dX1_number_52 (by decide) ?_
        rw [nI_1]
        refine ih hlt (fun j hj => ?_)
        rcases Nat.lt_succ_iff_lt_or_eq.mp hj with z | rfl
        · exact hn j z
        · exact c46

set_option maxRecDepth 4000 in
theorem num_55 {w w1 : pm_W} {S : ab_S} {n i : Nat} (hn : n ≤ 24 ∧ n ≤ S.2.2.2.2.length) (hlen : S.2.2.2.2.length ≤ 1000000) (hlt : i < n) (hf : fr_out w w1 28 33) (hu : ∀ k, k < (fu_n (fu_b S n) i).length → w1.1 29 k = (fu_n (fu_b S n) i).getD k 0) (hw : ∀ j, j < i → fu_x (fu_b S n) j < 7 ∧ w1.1 30 j = nI (fu_x (fu_b S n) j)) (hl7 : (fu_n (fu_b S n) i).length ≤ 7) (ih : i < n → ∀ w1, fr_out w w1 28 33 → (∀ k, k < (fu_n (fu_b S n) (i + 1)).length → w1.1 29 k = (fu_n (fu_b S n) (i + 1)).getD k 0) → (∀ j, j < (i + 1) → fu_x (fu_b S n) j < 7 ∧ w1.1 30 j = nI (fu_x (fu_b S n) j)) → pm_R pm_L0 MX1_number 5 [some (.ref 28), some (.ref 1), some (.int (nI n)), some (.int (nI (fu_n (fu_b S n) (i + 1)).length)), some (.int (nI (i + 1))), none, none] [] w1 (pm_qi fun r w1 => (((∃ i, i < n ∧ 7 ≤ fu_x (fu_b S n) i) ∧ r = 0) ∨ ((∀ i, i < n → fu_x (fu_b S n) i < 7 ∧ w1.1 30 i = nI (fu_x (fu_b S n) i)) ∧ r = 1)) ∧ fr_out w w1 28 33)) : pm_R pm_L0 MX1_number 55 [some (.ref 28), some (.ref 1), some (.int (nI n)), some (.int (nI (fu_n (fu_b S n) i).length)), some (.int (nI i)), some (.int (fu_b S n i)), some (.int (nI (fu_i (fu_b S n i) (fu_n (fu_b S n) i))))] [] w1 (pm_qi fun r w1 => (((∃ i, i < n ∧ 7 ≤ fu_x (fu_b S n) i) ∧ r = 0) ∨ ((∀ i, i < n → fu_x (fu_b S n) i < 7 ∧ w1.1 30 i = nI (fu_x (fu_b S n) i)) ∧ r = 1)) ∧ fr_out w w1 28 33) := by
    refine pm_iload dX1_number_55 rfl ?_
    refine pm_bipush (x := nI 7) dX1_number_57 rfl ?_
    refine pm_icmp_lt (tgt := 64) dX1_number_59 (by decide) (fun c59 => ?_) (fun c59 => ?_)
    · have h7 : (fu_x (fu_b S n) i) < 7 := by
        rw [nI_ltI (show fu_i (fu_b S n i) (fu_n (fu_b S n) i) < 2 ^ 31 by have := fu_le (fu_b S n i) (fu_n (fu_b S n) i); omega) (by omega)] at c59
        exact c59
      have h7b := fu_le (fu_b S n i) (fu_n (fu_b S n) i)
      refine pm_iload dX1_number_64 rfl ?_
      refine pm_iload_n dX1_number_66 rfl ?_
      refine pm_icmp_ne (tgt := 82) dX1_number_67 (by decide) (fun c67 => ?_) (fun c67 => ?_)
      · refine pm_aload_n dX1_number_82 rfl ?_
        refine pm_getR (ci := 1) (j := 1) (n := 9) (by first | assumption | rfl) (by decide) (by decide) rfl fl_RX1_15 rfl (by first | assumption | rfl) dX1_number_83 ?_
        refine pm_iload dX1_number_86 rfl ?_
        refine pm_iload dX1_number_88 rfl ?_
        refine pm_iastN (by first | assumption | rfl) (by omega) (by first | decide | omega) dX1_number_90 ?_
        refine pm_iinc (y := _ + 1) (lv' := [some (.ref _), some (.ref _), some (.int _), some (.int _), some (.int _), some (.int _), some (.int _)]) dX1_number_91 rfl rfl (by decide) rfl ?_
        refine pm_goto (tgt := 5) dX1_number_94 (by decide) ?_
        refine pm_fg (lv' := [some (.ref _), some (.ref _), some (.int _), some (.int _), some (.int _), none, none]) (pm_le_k rfl (pm_le_k rfl (pm_le_k rfl (pm_le_k rfl (pm_le_k rfl (pm_le_n (pm_le_n pm_le_0))))))) ?_
        have hx : ¬ fu_i (fu_b S n i) (fu_n (fu_b S n) i) = (fu_n (fu_b S n) i).length := fun e => c67 (by rw [e])
        have he : fu_n (fu_b S n) (i + 1) = fu_n (fu_b S n) i := by rw [fu_n, if_neg hx]
        rw [← he]
        rw [nI_1 i]
        refine ih hlt _ (fr_st hf (by decide) (by decide)) ?_ (fun j hj => ?_)
        · rw [he]
          exact hu
        · rcases Nat.lt_succ_iff_lt_or_eq.mp hj with z | rfl
          · refine ⟨(hw j z).1, ?_⟩
            rw [pm_s_at, pk_un (by omega)]
            exact (hw j z).2
          · exact ⟨h7, by rw [pm_s_at, pk_us]; first | rfl | (rw [he]; rfl)⟩
      · refine pm_aload_n dX1_number_70 rfl ?_
        refine pm_getR (ci := 1) (j := 0) (n := 9) (by first | assumption | rfl) (by decide) (by decide) rfl fl_RX1_11 rfl (by first | assumption | rfl) dX1_number_71 ?_
        refine pm_iload dX1_number_74 rfl ?_
        refine pm_iload dX1_number_76 rfl ?_
        refine pm_iastN (by first | assumption | rfl) (by exact h7) (by first | decide | omega) dX1_number_78 ?_
        refine pm_iinc (y := _ + 1) (lv' := [some (.ref _), some (.ref _), some (.int _), some (.int _), some (.int _), some (.int _), some (.int _)]) dX1_number_79 rfl rfl (by decide) rfl ?_
        refine pm_aload_n dX1_number_82 rfl ?_
        refine pm_getR (ci := 1) (j := 1) (n := 9) (by first | assumption | rfl) (by decide) (by decide) rfl fl_RX1_15 rfl (by first | assumption | rfl) dX1_number_83 ?_
        refine pm_iload dX1_number_86 rfl ?_
        refine pm_iload dX1_number_88 rfl ?_
        refine pm_iastN (by first | assumption | rfl) (by omega) (by first | decide | omega) dX1_number_90 ?_
        refine pm_iinc (y := _ + 1) (lv' := [some (.ref _), some (.ref _), some (.int _), some (.int _), some (.int _), some (.int _), some (.int _)]) dX1_number_91 rfl rfl (by decide) rfl ?_
        refine pm_goto (tgt := 5) dX1_number_94 (by decide) ?_
        refine pm_fg (lv' := [some (.ref _), some (.ref _), some (.int _), some (.int _), some (.int _), none, none]) (pm_le_k rfl (pm_le_k rfl (pm_le_k rfl (pm_le_k rfl (pm_le_k rfl (pm_le_n (pm_le_n pm_le_0))))))) ?_
        have hx : fu_x (fu_b S n) i = (fu_n (fu_b S n) i).length := (nI_eq (show fu_i (fu_b S n i) (fu_n (fu_b S n) i) < 2 ^ 31 by omega) (by omega)).mp c67
        rw [nI_1 i, nI_1, show (fu_n (fu_b S n) i).length + 1 = (fu_n (fu_b S n) (i + 1)).length by rw [fu_lx, if_pos hx]]
        refine ih hlt _ (fr_st (fr_st hf (by decide) (by decide)) (by decide) (by decide)) (fu_un hu hx) (fun j hj => ?_)
        · rcases Nat.lt_succ_iff_lt_or_eq.mp hj with z | rfl
          · refine ⟨(hw j z).1, ?_⟩
            rw [pm_s_at, pk_un (by omega), pm_s_ne (show (30 : Nat) ≠ 29 by decide)]
            exact (hw j z).2
          · exact ⟨h7, by rw [pm_s_at, pk_us]; first | rfl | (rw [he]; rfl)⟩
    · have h7 : 7 ≤ (fu_x (fu_b S n) i) := by
        rw [nI_ltI (show fu_i (fu_b S n i) (fu_n (fu_b S n) i) < 2 ^ 31 by have := fu_le (fu_b S n i) (fu_n (fu_b S n) i); omega) (by omega)] at c59
        exact Nat.le_of_not_lt c59
      refine pm_iconst (x := 0) dX1_number_62 rfl ?_
      refine pm_zret dX1_number_63 rfl (by first | exact Or.inl rfl | exact Or.inr rfl | assumption) ?_
      exact ⟨Or.inl ⟨⟨i, hlt, h7⟩, rfl⟩, hf⟩

set_option maxRecDepth 4000 in
theorem c_X1_number {w : pm_W} {S : ab_S} (hR : hs_R w 1 S) {n : Nat} (hn : n ≤ 24 ∧ n ≤ S.2.2.2.2.length) (hlen : S.2.2.2.2.length ≤ 1000000) : pm_C pm_L0 MX1_number [.ref 28, .ref 1, .int (nI n)] w (pm_qi fun r w1 => (((∃ i, i < n ∧ 7 ≤ fu_x (fu_b S n) i) ∧ r = 0) ∨ ((∀ i, i < n → fu_x (fu_b S n) i < 7 ∧ w1.1 30 i = nI (fu_x (fu_b S n) i)) ∧ r = 1)) ∧ fr_out w w1 28 33) := by
  have loop : ∀ i, i ≤ n → ∀ w1, fr_out w w1 28 33 → (∀ k, k < (fu_n (fu_b S n) i).length → w1.1 29 k = (fu_n (fu_b S n) i).getD k 0) → (∀ j, j < i → fu_x (fu_b S n) j < 7 ∧ w1.1 30 j = nI (fu_x (fu_b S n) j)) → pm_R pm_L0 MX1_number 5 [some (.ref 28), some (.ref 1), some (.int (nI n)), some (.int (nI (fu_n (fu_b S n) i).length)), some (.int (nI (i))), none, none] [] w1 (pm_qi fun r w1 => (((∃ i, i < n ∧ 7 ≤ fu_x (fu_b S n) i) ∧ r = 0) ∨ ((∀ i, i < n → fu_x (fu_b S n) i < 7 ∧ w1.1 30 i = nI (fu_x (fu_b S n) i)) ∧ r = 1)) ∧ fr_out w w1 28 33) := by
    refine up_loop n (fun i hi9 ih w1 hf hu hw => ?_)
    refine pm_iload dX1_number_5 rfl ?_
    refine pm_iload_n dX1_number_7 rfl ?_
    refine pm_icmp_ge (tgt := 97) dX1_number_8 (by decide) (fun c8 => ?_) (fun c8 => ?_)
    · refine pm_iconst (x := 1) dX1_number_97 rfl ?_
      refine pm_zret dX1_number_98 rfl (by first | exact Or.inl rfl | exact Or.inr rfl | assumption) ?_
      have hin : i = n := by
        rw [nI_leI (by omega) (by omega)] at c8
        omega
      subst hin
      exact ⟨Or.inr ⟨hw, rfl⟩, hf⟩
    · have hlt : i < n := by
        rw [nI_leI (by omega) (by omega)] at c8
        omega
      have hRw : hs_R w1 1 S := hs_R_cong hR (fun x q1 q2 => hf.1 x (Or.inl (by omega)))
      have hl7 := fu_7 (fun i hi => (hw i hi).1)
      refine pm_aload_n dX1_number_11 rfl ?_
      refine pm_aload_n dX1_number_12 rfl ?_
      refine pm_getI (ci := 3) (j := 10) (n := 11) (by first | assumption | rfl) (by decide) (by decide) rfl fl_RX1_60 rfl dX1_number_13 ?_
      rw [hRw.2.2.2.2.1]
      refine pm_iload_n dX1_number_16 rfl ?_
      refine pm_isub dX1_number_17 ?_
      refine pm_iload dX1_number_18 rfl ?_
      refine pm_iadd dX1_number_20 ?_
      refine pm_iconst (x := 1) dX1_number_21 rfl ?_
      refine pm_iadd dX1_number_22 ?_
      refine pm_topi (nI (S.2.2.2.2.length - n + i + 1)) (by rw [nI_sb hn.2, nI_add, nI_1]) ?_
      refine pm_cVi (as := [.int _]) (by first | assumption | rfl) (by decide) rfl ml_RX1_77 (by decide) (Nat.le_of_ble_eq_true rfl) dX1_number_23 (c_X3_asked L0_hs1 hRw (i := S.2.2.2.2.length - n + i) (x := fu_b S n i) (by rw [fu_b, List.getD_eq_getElem?_getD, List.getElem?_eq_getElem (show S.2.2.2.2.length - n + i < S.2.2.2.2.length by omega)]; rfl) (by omega) hlen) (fun x1 w1 hq => ?_)
      obtain ⟨rfl, hw9⟩ := hq
      have hw9 := hw9.symm
      subst hw9
      refine pm_istore (lv' := [some (.ref _), some (.ref _), some (.int _), some (.int _), some (.int _), some (.int _), none]) dX1_number_26 (by decide) rfl ?_
      refine pm_iconst (x := 0) dX1_number_28 rfl ?_
      refine pm_istore (lv' := [some (.ref _), some (.ref _), some (.int _), some (.int _), some (.int _), some (.int _), some (.int _)]) dX1_number_29 (by decide) rfl ?_
      refine num_31 (l := fu_n (fu_b S n) i) hl7 hu (fu_b S n i) ?_ 0 (Nat.zero_le _) (fun j hj => absurd hj (by omega))
      exact num_55 hn hlen hlt hf hu hw hl7 ih
  refine pm_start (lv := [some (.ref _), some (.ref _), some (.int _), none, none, none, none]) (plainFor_of_name pf1) (Nat.le_of_ble_eq_true rfl) rfl ?_
  refine pm_iconst (x := 0) dX1_number_0 rfl ?_
  refine pm_istore_n (lv' := [some (.ref _), some (.ref _), some (.int _), some (.int _), none, none, none]) dX1_number_1 (by decide) rfl ?_
  refine pm_iconst (x := 0) dX1_number_2 rfl ?_
  refine pm_istore (lv' := [some (.ref _), some (.ref _), some (.int _), some (.int _), some (.int _), none, none]) dX1_number_3 (by decide) rfl ?_
  exact loop 0 (Nat.zero_le _) w (fr_rf _ _ _) (fun k hk => absurd hk (by simp [fu_n])) (fun j hj => absurd hj (by omega))

