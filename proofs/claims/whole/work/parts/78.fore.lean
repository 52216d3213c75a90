/-- A truth value that says p. -/
def zr (x : Int32) (p : Prop) : Prop := (p ∧ x = 1) ∨ (¬ p ∧ x = 0)
theorem zr_1 {x : Int32} {p : Prop} (h : zr x p) (k : ¬ x = 0) : p := by
  rcases h with h | h
  · exact h.1
  · exact absurd h.2 k
theorem zr_0 {x : Int32} {p : Prop} (h : zr x p) (k : x = 0) : ¬ p := by
  rcases h with h | h
  · rw [h.2] at k; exact absurd k (by decide)
  · exact h.1
theorem zr_z {x : Int32} {p : Prop} (h : zr x p) : x = 0 ∨ x = 1 := by
  rcases h with h | h
  · exact Or.inr h.2
  · exact Or.inl h.2
theorem zr_c {x : Int32} {p q : Prop} (h : zr x p) (k : p ↔ q) : zr x q := by
  rcases h with h | h
  · exact Or.inl ⟨k.mp h.1, h.2⟩
  · exact Or.inr ⟨fun z => h.1 (k.mpr z), h.2⟩
theorem zr_u {f : Nat → Int32} {M : Nat → Prop} (h : ∀ t, t < 128 → zr (f t) (M t)) {i t : Nat} {p : Prop} (ht : t < 128) (k : p ↔ M t ∨ t = i) : zr (upd f i 1 t) p := by
  by_cases e : t = i
  · subst e
    rw [pk_us]
    exact Or.inl ⟨k.mpr (Or.inr rfl), rfl⟩
  · rw [pk_un e]
    refine zr_c (h t ht) ?_
    rw [k]
    exact ⟨Or.inl, fun z => z.resolve_right e⟩
theorem mb_bit : ∀ r, r < 128 → ∀ k, k < 7 → (nI r >>> (nI k &&& 31)) &&& 1 = nI (r.testBit k).toNat := by decide +kernel
theorem mb_or : ∀ r, r < 128 → ∀ k, k < 7 → r.testBit k = false → nI r ||| ((1 : Int32) <<< (nI k &&& 31)) = nI (r + 2 ^ k) := by decide +kernel
theorem mb_cut : ∀ r, r < 128 → ∀ k, k < 7 → r.testBit k = true → nI r &&& (((1 : Int32) <<< (nI k &&& 31)) ^^^ (-1)) = nI (r - 2 ^ k) := by decide +kernel
theorem mb_sw {r x y : Nat} (hr : r < 128) (hx : x < 7) (hy : y < 7) (bx : r.testBit x = false) (by' : r.testBit y = true) : (nI r &&& (((1 : Int32) <<< (nI y &&& 31)) ^^^ (-1))) ||| ((1 : Int32) <<< (nI x &&& 31)) = nI (r + 2 ^ x - 2 ^ y) ∧ r + 2 ^ x - 2 ^ y < 128 := by
  obtain ⟨q1, q2, q3⟩ := fo_lt r hr y hy by'
  have hxy : x ≠ y := fun e => by rw [e, by'] at bx; cases bx
  have hb2 : (r - 2 ^ y).testBit x = false := by
    rw [fo_xr r hr y hy by', fo_bx, bx]
    simp [Ne.symm hxy]
  obtain ⟨p1, p2⟩ := fo_ge _ q3 x hx hb2
  have hp := Nat.two_pow_pos x
  rw [mb_cut r hr y hy by', mb_or _ q3 x hx hb2, show r + 2 ^ x - 2 ^ y = r - 2 ^ y + 2 ^ x by omega]
  exact ⟨rfl, p2⟩
def fo_ps (r : Nat) : Nat → Nat
  | 0 => 0
  | k + 1 => fo_ps r k + (r.testBit k).toNat
theorem fo_ps7 (r : Nat) : fo_ps r 7 = fo_sz r := by simp [fo_ps, fo_sz]
theorem fo_lt8 {sp U s t : Nat} (hU : U ≤ 7) (hs : s < 128) (h : fo_st sp U s t) : t < 128 := by
  obtain ⟨x, hx, hb, ⟨-, rfl⟩ | ⟨-, y, hy, hyb, rfl⟩⟩ := h
  · exact (fo_ge s hs x (by omega) hb).2
  · exact (mb_sw hs (by omega) (by omega) hb hyb).2
theorem fo_ln8 {sp U s : Nat} (hU : U ≤ 7) (hs : s < 128) : ∀ {k t : Nat}, fo_sn sp U k s t → t < 128
  | 0, t, h => (show t = s from h) ▸ hs
  | k + 1, t, h => by
    rcases h with h | ⟨u, hu, h⟩
    · exact fo_ln8 hU hs h
    · exact fo_lt8 hU (fo_ln8 hU hs hu) h

set_option maxRecDepth 4000 in
theorem c_X5_sizeOf (w : pm_W) {r : Nat} (hr : r < 128) : pm_C pm_L0 MX5_sizeOf [.int (nI r)] w (pm_qi fun x w1 => x = nI (fo_sz r) ∧ w1 = w) := by
  have loop : ∀ k, k ≤ 7 → pm_R pm_L0 MX5_sizeOf 4 [some (.int (nI r)), some (.int (nI (fo_ps r k))), some (.int (nI k))] [] w (pm_qi fun x w1 => x = nI (fo_sz r) ∧ w1 = w) := by
    refine up_loop 7 (fun k hk ih => ?_)
    refine pm_iload_n dX5_sizeOf_4 rfl ?_
    refine pm_bipush (x := nI 7) dX5_sizeOf_5 rfl ?_
    refine pm_icmp_ge (tgt := 24) dX5_sizeOf_7 (by decide) (fun c7 => ?_) (fun c7 => ?_)
    · refine pm_iload_n dX5_sizeOf_24 rfl ?_
      refine pm_iret dX5_sizeOf_25 rfl ?_
      have hk7 : k = 7 := by
        rw [nI_leI (by omega) (by omega)] at c7
        omega
      subst hk7
      exact ⟨by rw [fo_ps7], rfl⟩
    · have hlt : k < 7 := by
        rw [nI_leI (by omega) (by omega)] at c7
        omega
      refine pm_iload_n dX5_sizeOf_10 rfl ?_
      refine pm_iload_n dX5_sizeOf_11 rfl ?_
      refine pm_iload_n dX5_sizeOf_12 rfl ?_
      refine pm_ishr dX5_sizeOf_13 ?_
      refine pm_iconst (x := 1) dX5_sizeOf_14 rfl ?_
      refine pm_iand dX5_sizeOf_15 ?_
      rw [mb_bit r hr k hlt]
      refine pm_iadd dX5_sizeOf_16 ?_
      rw [nI_add]
      refine pm_istore_n (lv' := [some (.int _), some (.int _), some (.int _)]) dX5_sizeOf_17 (by decide) rfl ?_
      refine pm_iinc (y := _ + 1) (lv' := [some (.int _), some (.int _), some (.int _)]) dX5_sizeOf_18 rfl rfl (by decide) rfl ?_
      refine pm_goto (tgt := 4) dX5_sizeOf_21 (by decide) ?_
      rw [nI_1]
      exact ih hlt
  refine pm_start (lv := [some (.int _), none, none]) (plainFor_of_name pf5) (Nat.le_of_ble_eq_true rfl) rfl ?_
  refine pm_iconst (x := 0) dX5_sizeOf_0 rfl ?_
  refine pm_istore_n (lv' := [some (.int _), some (.int _), none]) dX5_sizeOf_1 (by decide) rfl ?_
  refine pm_iconst (x := 0) dX5_sizeOf_2 rfl ?_
  refine pm_istore_n (lv' := [some (.int _), some (.int _), some (.int _)]) dX5_sizeOf_3 (by decide) rfl ?_
  exact loop 0 (by decide)

/-- A serve of block x from room s to room t. -/
def fo_sx1 (sp U s x t : Nat) : Prop := s.testBit x = false ∧ ((fo_sz s < sp ∧ t = s + 2 ^ x) ∨ (sp ≤ fo_sz s ∧ ∃ y, y < U ∧ s.testBit y = true ∧ t = s + 2 ^ x - 2 ^ y))
theorem fo_sx_st {sp U s t : Nat} : (∃ x, x < U ∧ fo_sx1 sp U s x t) ↔ fo_st sp U s t := Iff.rfl

set_option maxRecDepth 4000 in
theorem ads_45 {w : pm_W} {sp U s : Nat} {M : Nat → Prop} (h29 : w.1 83 29 = nI U) (hU : U ≤ 7) (hs : s < 128) {x : Nat} (hx : x < U) (hb : s.testBit x = false) (hsz : sp ≤ fo_sz s) (ih : x < U → ∀ w1, mfr w w1 [104] [] → (∀ t, t < 128 → zr (w1.1 104 t) (M t ∨ ∃ x1, x1 < x + 1 ∧ fo_sx1 sp U s x1 t)) → pm_R pm_L0 MX5_addSets 2 [some (.ref 83), some (.int (nI s)), some (.int (nI (x + 1))), none] [] w1 (pm_qv fun w1 => mfr w w1 [104] [] ∧ ∀ t, t < 128 → zr (w1.1 104 t) (M t ∨ fo_st sp U s t))) : ∀ y, y ≤ U → ∀ w1, mfr w w1 [104] [] → (∀ t, t < 128 → zr (w1.1 104 t) ((M t ∨ ∃ x1, x1 < x ∧ fo_sx1 sp U s x1 t) ∨ ∃ y1, y1 < y ∧ s.testBit y1 = true ∧ t = s + 2 ^ x - 2 ^ y1)) → pm_R pm_L0 MX5_addSets 45 [some (.ref 83), some (.int (nI s)), some (.int (nI x)), some (.int (nI y))] [] w1 (pm_qv fun w1 => mfr w w1 [104] [] ∧ ∀ t, t < 128 → zr (w1.1 104 t) (M t ∨ fo_st sp U s t)) := by
    refine up_loop U (fun y hy iy w1 hf hM => ?_)
    refine pm_iload_n dX5_addSets_45 rfl ?_
    refine pm_aload_n dX5_addSets_46 rfl ?_
    refine pm_getI (ci := 5) (j := 29) (n := 39) (by first | assumption | rfl) (by decide) (by decide) rfl fl_RX5_215 rfl dX5_addSets_47 ?_
    rw [hf.2.1 29 (by decide), h29]
    refine pm_icmp_ge (tgt := 85) dX5_addSets_50 (by decide) (fun c50 => ?_) (fun c50 => ?_)
    · refine pm_iinc (y := _ + 1) (lv' := [some (.ref _), some (.int _), some (.int _), some (.int _)]) dX5_addSets_85 rfl rfl (by decide) rfl ?_
      refine pm_goto (tgt := 2) dX5_addSets_88 (by decide) ?_
      refine pm_fg (lv' := [some (.ref _), some (.int _), some (.int _), none]) (pm_le_k rfl (pm_le_k rfl (pm_le_k rfl (pm_le_n pm_le_0)))) ?_
      have hyU : y = U := by
        rw [nI_leI (by omega) (by omega)] at c50
        omega
      subst hyU
      rw [nI_1]
      refine ih (by omega) w1 hf (fun t ht => zr_c (hM t ht) ?_)
      constructor
      · rintro ((h | ⟨x1, h1, h2⟩) | ⟨y1, h1, h2, h3⟩)
        · exact Or.inl h
        · exact Or.inr ⟨x1, by omega, h2⟩
        · exact Or.inr ⟨x, by omega, hb, Or.inr ⟨hsz, y1, h1, h2, h3⟩⟩
      · rintro (h | ⟨x1, h1, h2⟩)
        · exact Or.inl (Or.inl h)
        · rcases Nat.lt_succ_iff_lt_or_eq.mp h1 with h1 | rfl
          · exact Or.inl (Or.inr ⟨x1, h1, h2⟩)
          · rcases h2.2 with ⟨h3, -⟩ | ⟨-, y1, h3, h4, h5⟩
            · exact absurd h3 (by omega)
            · exact Or.inr ⟨y1, h3, h4, h5⟩
    · have hlt : y < U := by
        rw [nI_leI (by omega) (by omega)] at c50
        omega
      refine pm_iload_n dX5_addSets_53 rfl ?_
      refine pm_iload_n dX5_addSets_54 rfl ?_
      refine pm_ishr dX5_addSets_55 ?_
      refine pm_iconst (x := 1) dX5_addSets_56 rfl ?_
      refine pm_iand dX5_addSets_57 ?_
      refine pm_iconst (x := 1) dX5_addSets_58 rfl ?_
      rw [mb_bit s hs y (by omega)]
      refine pm_icmp_ne (tgt := 79) dX5_addSets_59 (by decide) (fun c59 => ?_) (fun c59 => ?_)
      · refine pm_iinc (y := _ + 1) (lv' := [some (.ref _), some (.int _), some (.int _), some (.int _)]) dX5_addSets_79 rfl rfl (by decide) rfl ?_
        refine pm_goto (tgt := 45) dX5_addSets_82 (by decide) ?_
        have hyb : s.testBit y = false := by
          cases hz : s.testBit y
          · rfl
          · rw [hz] at c59; exact absurd rfl c59
        rw [nI_1 y]
        refine iy hlt w1 hf (fun t ht => zr_c (hM t ht) ?_)
        constructor
        · rintro (h | ⟨y1, h1, h2⟩)
          · exact Or.inl h
          · exact Or.inr ⟨y1, by omega, h2⟩
        · rintro (h | ⟨y1, h1, h2, h3⟩)
          · exact Or.inl h
          · rcases Nat.lt_succ_iff_lt_or_eq.mp h1 with h1 | rfl
            · exact Or.inr ⟨y1, h1, h2, h3⟩
            · rw [hyb] at h2; cases h2
      · have hyb : s.testBit y = true := by
          cases hz : s.testBit y
          · rw [hz] at c59; exact absurd c59 (by decide)
          · rfl
        refine pm_aload_n dX5_addSets_62 rfl ?_
        refine pm_getR (ci := 5) (j := 33) (n := 39) (by first | assumption | rfl) (by decide) (by decide) rfl fl_RX5_75 rfl (by first | assumption | rfl) dX5_addSets_63 ?_
        refine pm_iload_n dX5_addSets_66 rfl ?_
        refine pm_iconst (x := 1) dX5_addSets_67 rfl ?_
        refine pm_iload_n dX5_addSets_68 rfl ?_
        refine pm_ishl dX5_addSets_69 ?_
        refine pm_iconst (x := -1) dX5_addSets_70 rfl ?_
        refine pm_ixor dX5_addSets_71 ?_
        refine pm_iand dX5_addSets_72 ?_
        refine pm_iconst (x := 1) dX5_addSets_73 rfl ?_
        refine pm_iload_n dX5_addSets_74 rfl ?_
        refine pm_ishl dX5_addSets_75 ?_
        refine pm_ior dX5_addSets_76 ?_
        refine pm_topi (nI (s + 2 ^ x - 2 ^ y)) (mb_sw hs (by omega) (by omega) hb hyb).1 ?_
        refine pm_iconst (x := 1) dX5_addSets_77 rfl ?_
        refine pm_zastN (by first | assumption | rfl) (by exact (mb_sw hs (by omega) (by omega) hb hyb).2) (by first | decide | omega) (by first | exact Or.inl rfl | exact Or.inr rfl | assumption) dX5_addSets_78 ?_
        refine pm_iinc (y := _ + 1) (lv' := [some (.ref _), some (.int _), some (.int _), some (.int _)]) dX5_addSets_79 rfl rfl (by decide) rfl ?_
        refine pm_goto (tgt := 45) dX5_addSets_82 (by decide) ?_
        rw [nI_1 y]
        refine iy hlt _ (mfr_c hf (by decide) (by decide) _) (fun t ht => ?_)
        rw [pm_s_at]
        refine zr_u hM ht ?_
        constructor
        · rintro (h | ⟨y1, h1, h2, h3⟩)
          · exact Or.inl (Or.inl h)
          · rcases Nat.lt_succ_iff_lt_or_eq.mp h1 with h1 | rfl
            · exact Or.inl (Or.inr ⟨y1, h1, h2, h3⟩)
            · exact Or.inr h3
        · rintro ((h | ⟨y1, h1, h2⟩) | h)
          · exact Or.inl h
          · exact Or.inr ⟨y1, by omega, h2⟩
          · exact Or.inr ⟨y, by omega, hyb, h⟩

set_option maxRecDepth 4000 in
theorem c_X5_addSets {w : pm_W} {sp U s : Nat} {M : Nat → Prop} (h29 : w.1 83 29 = nI U) (hU : U ≤ 7) (hs : s < 128) (h0 : w.1 83 0 = nI sp) (hsp : sp ≤ 12) (hM0 : ∀ t, t < 128 → zr (w.1 104 t) (M t)) : pm_C pm_L0 MX5_addSets [.ref 83, .int (nI s)] w (pm_qv fun w1 => mfr w w1 [104] [] ∧ ∀ t, t < 128 → zr (w1.1 104 t) (M t ∨ fo_st sp U s t)) := by
  have hsz7 : fo_sz s ≤ 7 := by
    unfold fo_sz
    have := fun k => Bool.toNat_le (s.testBit k)
    have h0 := this 0; have h1 := this 1; have h2 := this 2; have h3 := this 3; have h4 := this 4; have h5 := this 5; have h6 := this 6
    omega
  have loop : ∀ x, x ≤ U → ∀ w1, mfr w w1 [104] [] → (∀ t, t < 128 → zr (w1.1 104 t) (M t ∨ ∃ x1, x1 < x ∧ fo_sx1 sp U s x1 t)) → pm_R pm_L0 MX5_addSets 2 [some (.ref 83), some (.int (nI s)), some (.int (nI x)), none] [] w1 (pm_qv fun w1 => mfr w w1 [104] [] ∧ ∀ t, t < 128 → zr (w1.1 104 t) (M t ∨ fo_st sp U s t)) := by
    refine up_loop U (fun x hx9 ih w1 hf hM => ?_)
    refine pm_iload_n dX5_addSets_2 rfl ?_
    refine pm_aload_n dX5_addSets_3 rfl ?_
    refine pm_getI (ci := 5) (j := 29) (n := 39) (by first | assumption | rfl) (by decide) (by decide) rfl fl_RX5_215 rfl dX5_addSets_4 ?_
    rw [hf.2.1 29 (by decide), h29]
    refine pm_icmp_ge (tgt := 91) dX5_addSets_7 (by decide) (fun c7 => ?_) (fun c7 => ?_)
    · refine pm_vret dX5_addSets_91 rfl ?_
      have hxU : x = U := by
        rw [nI_leI (by omega) (by omega)] at c7
        omega
      subst hxU
      exact ⟨hf, fun t ht => zr_c (hM t ht) (or_congr Iff.rfl fo_sx_st)⟩
    · have hlt : x < U := by
        rw [nI_leI (by omega) (by omega)] at c7
        omega
      refine pm_iload_n dX5_addSets_10 rfl ?_
      refine pm_iload_n dX5_addSets_11 rfl ?_
      refine pm_ishr dX5_addSets_12 ?_
      refine pm_iconst (x := 1) dX5_addSets_13 rfl ?_
      refine pm_iand dX5_addSets_14 ?_
      refine pm_if_ne (tgt := 85) dX5_addSets_15 (by decide) (fun c15 => ?_) (fun c15 => ?_)
      · refine pm_iinc (y := _ + 1) (lv' := [some (.ref _), some (.int _), some (.int _), none]) dX5_addSets_85 rfl rfl (by decide) rfl ?_
        refine pm_goto (tgt := 2) dX5_addSets_88 (by decide) ?_
        have hb : s.testBit x = true := by
          rw [mb_bit s hs x (by omega)] at c15
          cases hz : s.testBit x
          · rw [hz] at c15; exact absurd rfl c15
          · rfl
        rw [nI_1 x]
        refine ih hlt w1 hf (fun t ht => zr_c (hM t ht) ?_)
        constructor
        · rintro (h | ⟨x1, h1, h2⟩)
          · exact Or.inl h
          · exact Or.inr ⟨x1, by omega, h2⟩
        · rintro (h | ⟨x1, h1, h2⟩)
          · exact Or.inl h
          · rcases Nat.lt_succ_iff_lt_or_eq.mp h1 with h1 | rfl
            · exact Or.inr ⟨x1, h1, h2⟩
            · have := h2.1; rw [hb] at this; cases this
      · have hb : s.testBit x = false := by
          rw [mb_bit s hs x (by omega)] at c15
          cases hz : s.testBit x
          · rfl
          · rw [hz] at c15; exact absurd c15 (by decide)
        refine pm_iload_n dX5_addSets_18 rfl ?_
        refine pm_cSi (as := [.int _]) ml_RX5_218 (by decide) (Nat.le_of_ble_eq_true rfl) dX5_addSets_19 (c_X5_sizeOf _ hs) (fun x1 w1 hq => ?_)
        obtain ⟨rfl, hw9⟩ := hq
        have hw9 := hw9.symm
        subst hw9
        refine pm_aload_n dX5_addSets_22 rfl ?_
        refine pm_getI (ci := 5) (j := 0) (n := 39) (by first | assumption | rfl) (by decide) (by decide) rfl fl_RX5_102 rfl dX5_addSets_23 ?_
        rw [hf.2.1 0 (by decide), h0]
        refine pm_icmp_ge (tgt := 43) dX5_addSets_26 (by decide) (fun c26 => ?_) (fun c26 => ?_)
        · refine pm_iconst (x := 0) dX5_addSets_43 rfl ?_
          refine pm_istore_n (lv' := [some (.ref _), some (.int _), some (.int _), some (.int _)]) dX5_addSets_44 (by decide) rfl ?_
          have hsz : sp ≤ fo_sz s := by
            rw [nI_leI (by omega) (by omega)] at c26
            omega
          exact ads_45 h29 hU hs hlt hb hsz ih 0 (Nat.zero_le _) w1 hf (fun t ht => zr_c (hM t ht) ⟨Or.inl, fun z => z.resolve_right (fun ⟨y, hy, _⟩ => absurd hy (by omega))⟩)
        · have hsz : fo_sz s < sp := by
            rw [nI_leI (by omega) (by omega)] at c26
            omega
          refine pm_aload_n dX5_addSets_29 rfl ?_
          refine pm_getR (ci := 5) (j := 33) (n := 39) (by first | assumption | rfl) (by decide) (by decide) rfl fl_RX5_75 rfl (by first | assumption | rfl) dX5_addSets_30 ?_
          refine pm_iload_n dX5_addSets_33 rfl ?_
          refine pm_iconst (x := 1) dX5_addSets_34 rfl ?_
          refine pm_iload_n dX5_addSets_35 rfl ?_
          refine pm_ishl dX5_addSets_36 ?_
          refine pm_ior dX5_addSets_37 ?_
          refine pm_topi (nI (s + 2 ^ x)) (mb_or s hs x (by omega) hb) ?_
          refine pm_iconst (x := 1) dX5_addSets_38 rfl ?_
          refine pm_zastN (by first | assumption | rfl) (by exact (fo_ge s hs x (by omega) hb).2) (by first | decide | omega) (by first | exact Or.inl rfl | exact Or.inr rfl | assumption) dX5_addSets_39 ?_
          refine pm_goto (tgt := 85) dX5_addSets_40 (by decide) ?_
          refine pm_iinc (y := _ + 1) (lv' := [some (.ref _), some (.int _), some (.int _), none]) dX5_addSets_85 rfl rfl (by decide) rfl ?_
          refine pm_goto (tgt := 2) dX5_addSets_88 (by decide) ?_
          rw [nI_1 x]
          refine ih hlt _ (mfr_c hf (by decide) (by decide) _) (fun t ht => ?_)
          rw [pm_s_at]
          refine zr_u hM ht ?_
          constructor
          · rintro (h | ⟨x1, h1, h2⟩)
            · exact Or.inl (Or.inl h)
            · rcases Nat.lt_succ_iff_lt_or_eq.mp h1 with h1 | rfl
              · exact Or.inl (Or.inr ⟨x1, h1, h2⟩)
              · rcases h2.2 with ⟨-, h3⟩ | ⟨h3, -⟩
                · exact Or.inr h3
                · exact absurd h3 (by omega)
          · rintro ((h | ⟨x1, h1, h2⟩) | h)
            · exact Or.inl h
            · exact Or.inr ⟨x1, by omega, h2⟩
            · exact Or.inr ⟨x, by omega, hb, Or.inl ⟨hsz, h⟩⟩
  refine pm_start (lv := [some (.ref _), some (.int _), none, none]) (plainFor_of_name pf5) (Nat.le_of_ble_eq_true rfl) rfl ?_
  refine pm_iconst (x := 0) dX5_addSets_0 rfl ?_
  refine pm_istore_n (lv' := [some (.ref _), some (.int _), some (.int _), none]) dX5_addSets_1 (by decide) rfl ?_
  exact loop 0 (Nat.zero_le _) w (mfr_rf _ _ _) (fun t ht => zr_c (hM0 t ht) ⟨Or.inl, fun z => z.resolve_right (fun ⟨y, hy, _⟩ => absurd hy (by omega))⟩)

