theorem cnt_take {l : List ab_E} {i : Nat} {e : ab_E} (h : l[i]? = some e) (p : Nat) : ab_cnt (l.take (i + 1)) p = ab_cnt (l.take i) p + if e.2.1 = p then 1 else 0 := by
  rw [List.take_succ, h]
  exact cnt_add _ _ _

theorem c_X5_owned {w : pm_W} {l : List ab_E} (hm : mr w l) (hl : l.length ≤ 12) (ho : ∀ e ∈ l, e.2.1 < 4) {p : Nat} (hp : p < 4) : pm_C pm_L0 MX5_owned [.ref 83, .int (nI p)] w (pm_qi fun r w1 => r = nI (ab_cnt l p) ∧ w1 = w) := by
  have loop : ∀ i, i ≤ l.length → pm_R pm_L0 MX5_owned 4 [some (.ref 83), some (.int (nI p)), some (.int (nI (ab_cnt (l.take i) p))), some (.int (nI i))] [] w (pm_qi fun r w1 => r = nI (ab_cnt l p) ∧ w1 = w) := by
    refine up_loop l.length (fun i hi ih => ?_)
    refine pm_iload_n dX5_owned_4 rfl ?_
    refine pm_aload_n dX5_owned_5 rfl ?_
    refine pm_getI (ci := 5) (j := 6) (n := 39) (by first | assumption | rfl) (by decide) (by decide) rfl fl_RX5_111 rfl dX5_owned_6 ?_
    rw [hm.1]
    refine pm_icmp_ge (tgt := 36) dX5_owned_9 (by decide) (fun c9 => ?_) (fun c9 => ?_)
    · refine pm_iload_n dX5_owned_36 rfl ?_
      refine pm_iret dX5_owned_37 rfl ?_
      rw [nI_leI (by omega) (by omega)] at c9
      have hil : i = l.length := by omega
      subst hil
      rw [List.take_length]
      exact ⟨rfl, rfl⟩
    · have hlt : i < l.length := by
        rw [nI_leI (by omega) (by omega)] at c9
        omega
      have hei : l[i]? = some l[i] := List.getElem?_eq_getElem hlt
      generalize l[i] = e at hei
      have heo := ho e (List.mem_of_getElem? hei)
      refine pm_iload_n dX5_owned_12 rfl ?_
      refine pm_aload_n dX5_owned_13 rfl ?_
      refine pm_getR (ci := 5) (j := 4) (n := 39) (by first | assumption | rfl) (by decide) (by decide) rfl fl_RX5_13 rfl (by first | assumption | rfl) dX5_owned_14 ?_
      refine pm_iload_n dX5_owned_17 rfl ?_
      refine pm_ialdN (by first | assumption | rfl) (by omega) (by first | decide | omega) dX5_owned_18 ?_
      rw [(hm.2 i e hei).2.1]
      refine pm_iload_n dX5_owned_19 rfl ?_
      refine pm_icmp_ne (tgt := 27) dX5_owned_20 (by decide) (fun c20 => ?_) (fun c20 => ?_)
      · refine pm_iconst (x := 0) dX5_owned_27 rfl ?_
        refine pm_iadd dX5_owned_28 ?_
        refine pm_istore_n (lv' := [some (.ref _), some (.int _), some (.int _), some (.int _)]) dX5_owned_29 (by decide) rfl ?_
        refine pm_iinc (y := _ + 1) (lv' := [some (.ref _), some (.int _), some (.int _), some (.int _)]) dX5_owned_30 rfl rfl (by decide) rfl ?_
        refine pm_goto (tgt := 4) dX5_owned_33 (by decide) ?_
        rw [nI_eq (by omega) (by omega)] at c20
        have h9 := ih hlt
        rw [cnt_take hei, if_neg c20] at h9
        rw [nI_1, Int32.add_zero]
        exact h9
      · refine pm_iconst (x := 1) dX5_owned_23 rfl ?_
        refine pm_goto (tgt := 28) dX5_owned_24 (by decide) ?_
        refine pm_iadd dX5_owned_28 ?_
        refine pm_istore_n (lv' := [some (.ref _), some (.int _), some (.int _), some (.int _)]) dX5_owned_29 (by decide) rfl ?_
        refine pm_iinc (y := _ + 1) (lv' := [some (.ref _), some (.int _), some (.int _), some (.int _)]) dX5_owned_30 rfl rfl (by decide) rfl ?_
        refine pm_goto (tgt := 4) dX5_owned_33 (by decide) ?_
        rw [nI_eq (by omega) (by omega)] at c20
        have h9 := ih hlt
        rw [cnt_take hei, if_pos c20] at h9
        rw [nI_1, nI_1]
        exact h9
  refine pm_start (lv := [some (.ref _), some (.int _), none, none]) (plainFor_of_name pf5) (Nat.le_of_ble_eq_true rfl) rfl ?_
  refine pm_iconst (x := 0) dX5_owned_0 rfl ?_
  refine pm_istore_n (lv' := [some (.ref _), some (.int _), some (.int _), none]) dX5_owned_1 (by decide) rfl ?_
  refine pm_iconst (x := 0) dX5_owned_2 rfl ?_
  refine pm_istore_n (lv' := [some (.ref _), some (.int _), some (.int _), some (.int _)]) dX5_owned_3 (by decide) rfl ?_
  exact loop 0 (Nat.zero_le _)

theorem c_X5_waitsOf {w : pm_W} {l : List ab_E} (hm : ml w l) (hl : l.length ≤ 16) (ho : ∀ e ∈ l, e.2.1 < 4) {p : Nat} (hp : p < 4) : pm_C pm_L0 MX5_waitsOf [.ref 83, .int (nI p)] w (pm_qi fun r w1 => r = nI (ab_cnt l p) ∧ w1 = w) := by
  have loop : ∀ i, i ≤ l.length → pm_R pm_L0 MX5_waitsOf 4 [some (.ref 83), some (.int (nI p)), some (.int (nI (ab_cnt (l.take i) p))), some (.int (nI i))] [] w (pm_qi fun r w1 => r = nI (ab_cnt l p) ∧ w1 = w) := by
    refine up_loop l.length (fun i hi ih => ?_)
    refine pm_iload_n dX5_waitsOf_4 rfl ?_
    refine pm_aload_n dX5_waitsOf_5 rfl ?_
    refine pm_getI (ci := 5) (j := 9) (n := 39) (by first | assumption | rfl) (by decide) (by decide) rfl fl_RX5_114 rfl dX5_waitsOf_6 ?_
    rw [hm.1]
    refine pm_icmp_ge (tgt := 36) dX5_waitsOf_9 (by decide) (fun c9 => ?_) (fun c9 => ?_)
    · refine pm_iload_n dX5_waitsOf_36 rfl ?_
      refine pm_iret dX5_waitsOf_37 rfl ?_
      rw [nI_leI (by omega) (by omega)] at c9
      have hil : i = l.length := by omega
      subst hil
      rw [List.take_length]
      exact ⟨rfl, rfl⟩
    · have hlt : i < l.length := by
        rw [nI_leI (by omega) (by omega)] at c9
        omega
      have hei : l[i]? = some l[i] := List.getElem?_eq_getElem hlt
      generalize l[i] = e at hei
      have heo := ho e (List.mem_of_getElem? hei)
      refine pm_iload_n dX5_waitsOf_12 rfl ?_
      refine pm_aload_n dX5_waitsOf_13 rfl ?_
      refine pm_getR (ci := 5) (j := 8) (n := 39) (by first | assumption | rfl) (by decide) (by decide) rfl fl_RX5_23 rfl (by first | assumption | rfl) dX5_waitsOf_14 ?_
      refine pm_iload_n dX5_waitsOf_17 rfl ?_
      refine pm_ialdN (by first | assumption | rfl) (by omega) (by first | decide | omega) dX5_waitsOf_18 ?_
      rw [(hm.2 i e hei).2]
      refine pm_iload_n dX5_waitsOf_19 rfl ?_
      refine pm_icmp_ne (tgt := 27) dX5_waitsOf_20 (by decide) (fun c20 => ?_) (fun c20 => ?_)
      · refine pm_iconst (x := 0) dX5_waitsOf_27 rfl ?_
        refine pm_iadd dX5_waitsOf_28 ?_
        refine pm_istore_n (lv' := [some (.ref _), some (.int _), some (.int _), some (.int _)]) dX5_waitsOf_29 (by decide) rfl ?_
        refine pm_iinc (y := _ + 1) (lv' := [some (.ref _), some (.int _), some (.int _), some (.int _)]) dX5_waitsOf_30 rfl rfl (by decide) rfl ?_
        refine pm_goto (tgt := 4) dX5_waitsOf_33 (by decide) ?_
        rw [nI_eq (by omega) (by omega)] at c20
        have h9 := ih hlt
        rw [cnt_take hei, if_neg c20] at h9
        rw [nI_1, Int32.add_zero]
        exact h9
      · refine pm_iconst (x := 1) dX5_waitsOf_23 rfl ?_
        refine pm_goto (tgt := 28) dX5_waitsOf_24 (by decide) ?_
        refine pm_iadd dX5_waitsOf_28 ?_
        refine pm_istore_n (lv' := [some (.ref _), some (.int _), some (.int _), some (.int _)]) dX5_waitsOf_29 (by decide) rfl ?_
        refine pm_iinc (y := _ + 1) (lv' := [some (.ref _), some (.int _), some (.int _), some (.int _)]) dX5_waitsOf_30 rfl rfl (by decide) rfl ?_
        refine pm_goto (tgt := 4) dX5_waitsOf_33 (by decide) ?_
        rw [nI_eq (by omega) (by omega)] at c20
        have h9 := ih hlt
        rw [cnt_take hei, if_pos c20] at h9
        rw [nI_1, nI_1]
        exact h9
  refine pm_start (lv := [some (.ref _), some (.int _), none, none]) (plainFor_of_name pf5) (Nat.le_of_ble_eq_true rfl) rfl ?_
  refine pm_iconst (x := 0) dX5_waitsOf_0 rfl ?_
  refine pm_istore_n (lv' := [some (.ref _), some (.int _), some (.int _), none]) dX5_waitsOf_1 (by decide) rfl ?_
  refine pm_iconst (x := 0) dX5_waitsOf_2 rfl ?_
  refine pm_istore_n (lv' := [some (.ref _), some (.int _), some (.int _), some (.int _)]) dX5_waitsOf_3 (by decide) rfl ?_
  exact loop 0 (Nat.zero_le _)

theorem neg_m1 : (-1 : Int32) < 0 := by decide
theorem in_i2l (x : Int32) : x.toInt64 = x.toInt64 := rfl

set_option maxRecDepth 4000 in
theorem c_X5_isLeft {w : pm_W} {l : List ab_E} (hm : mr w l) (hl : l.length ≤ 12) {i : Nat} {e : ab_E} (hei : l[i]? = some e) (he4 : e.2.1 < 4) {A : ab_A} (hA : mo_A w e.2.1 A) (hok : ab_aok A) : pm_C pm_L0 MX5_isLeft [.ref 83, .int (nI i)] w (pm_qi fun r w1 => r = pm_z (ab_lf A e.1) ∧ w1 = w) := by
  have hi12 : i < 12 := by
    have := (List.getElem?_eq_some_iff.mp hei).1
    omega
  have tail : pm_R pm_L0 MX5_isLeft 62 [some (.ref 83), some (.int (nI i)), some (.int (nI e.2.1)), some (.int e.1), some (.int (pm_z (ab_sp A e.1)))] [] w (pm_qi fun r w1 => r = pm_z (ab_lf A e.1) ∧ w1 = w) := by
    refine pm_iload dX5_isLeft_62 rfl ?_
    refine pm_if_eq (tgt := 117) dX5_isLeft_64 (by decide) (fun c64 => ?_) (fun c64 => ?_)
    · refine pm_iconst (x := 0) dX5_isLeft_117 rfl ?_
      refine pm_zret dX5_isLeft_118 rfl (by first | exact Or.inl rfl | exact Or.inr rfl | assumption) ?_
      rw [pm_z_0] at c64
      exact ⟨by rw [ab_lf, c64]; simp [pm_z], rfl⟩
    · rw [pm_z_1] at c64
      have h5 : ¬ A.1 5 = -1 := by
        intro h
        rw [ab_sp, h] at c64
        simp at c64
      have h94 := hA.2.2.2.2.1 h5
      refine pm_aload_n dX5_isLeft_67 rfl ?_
      refine pm_getR (ci := 5) (j := 19) (n := 39) (by first | assumption | rfl) (by decide) (by decide) rfl fl_RX5_44 rfl (by first | assumption | rfl) dX5_isLeft_68 ?_
      refine pm_iload_n dX5_isLeft_71 rfl ?_
      refine pm_ialdN (by first | assumption | rfl) (by first | assumption | omega | decide) (by first | decide | omega) dX5_isLeft_72 ?_
      rw [hA.2.2.2.2.2.1]
      refine pm_if_lt (tgt := 117) dX5_isLeft_73 (by decide) (fun c73 => ?_) (fun c73 => ?_)
      · refine pm_iconst (x := 0) dX5_isLeft_117 rfl ?_
        refine pm_zret dX5_isLeft_118 rfl (by first | exact Or.inl rfl | exact Or.inr rfl | assumption) ?_
        have h7 : A.1 7 = -1 := by
          rcases hok.1 with h | h
          · exact h
          · exact absurd c73 (Int32.not_lt.mpr h.1)
        exact ⟨by rw [ab_lf, h7]; simp [pm_z], rfl⟩
      · have h7 : ¬ A.1 7 = -1 := by
          intro h
          rw [h] at c73
          exact c73 neg_m1
        refine pm_aload_n dX5_isLeft_76 rfl ?_
        refine pm_getR (ci := 5) (j := 19) (n := 39) (by first | assumption | rfl) (by decide) (by decide) rfl fl_RX5_44 rfl (by first | assumption | rfl) dX5_isLeft_77 ?_
        refine pm_iload_n dX5_isLeft_80 rfl ?_
        refine pm_ialdN (by first | assumption | rfl) (by first | assumption | omega | decide) (by first | decide | omega) dX5_isLeft_81 ?_
        rw [hA.2.2.2.2.2.1]
        refine pm_i2l dX5_isLeft_82 ?_
        refine pm_aload_n dX5_isLeft_83 rfl ?_
        refine pm_getR (ci := 5) (j := 17) (n := 39) (by first | assumption | rfl) (by decide) (by decide) rfl fl_RX5_38 rfl (by first | assumption | rfl) dX5_isLeft_84 ?_
        refine pm_iload_n dX5_isLeft_87 rfl ?_
        refine pm_ialdN (by first | assumption | rfl) (by first | assumption | omega | decide) (by first | decide | omega) dX5_isLeft_88 ?_
        rw [hA.2.2.2.1]
        refine pm_i2l dX5_isLeft_89 ?_
        refine pm_aload_n dX5_isLeft_90 rfl ?_
        refine pm_getR (ci := 5) (j := 18) (n := 39) (by first | assumption | rfl) (by decide) (by decide) rfl fl_RX5_41 rfl (by first | assumption | rfl) dX5_isLeft_91 ?_
        refine pm_iload_n dX5_isLeft_94 rfl ?_
        refine pm_ialdN (by first | assumption | rfl) (by first | assumption | omega | decide) (by first | decide | omega) dX5_isLeft_95 ?_
        rw [h94]
        refine pm_i2l dX5_isLeft_96 ?_
        refine pm_cSi (as := [.long _, .long _, .long _]) ml_RX5_96 (by decide) (Nat.le_of_ble_eq_true rfl) dX5_isLeft_97 (c_X5_in (n := _) (a := _) (b := _) pm_L0 _ rfl rfl rfl) (fun x1 w1 hq => ?_)
        obtain ⟨rfl, hw9⟩ := hq
        have hw9 := hw9.symm
        subst hw9
        refine pm_if_eq (tgt := 113) dX5_isLeft_100 (by decide) (fun c100 => ?_) (fun c100 => ?_)
        · refine pm_iconst (x := 1) dX5_isLeft_113 rfl ?_
          refine pm_goto (tgt := 118) dX5_isLeft_114 (by decide) ?_
          refine pm_zret dX5_isLeft_118 rfl (by first | exact Or.inl rfl | exact Or.inr rfl | assumption) ?_
          rw [pm_z_0] at c100
          have hsx : ∀ x, ab_sp A x = pm_bw x (A.1 5) (A.1 6) := fun x => by simp [ab_sp, pm_bw, h5]
          exact ⟨by rw [ab_lf, c64, hsx, c100]; simp [h7, pm_z], rfl⟩
        · refine pm_aload_n dX5_isLeft_103 rfl ?_
          refine pm_getR (ci := 5) (j := 19) (n := 39) (by first | assumption | rfl) (by decide) (by decide) rfl fl_RX5_44 rfl (by first | assumption | rfl) dX5_isLeft_104 ?_
          refine pm_iload_n dX5_isLeft_107 rfl ?_
          refine pm_ialdN (by first | assumption | rfl) (by first | assumption | omega | decide) (by first | decide | omega) dX5_isLeft_108 ?_
          rw [hA.2.2.2.2.2.1]
          refine pm_iload_n dX5_isLeft_109 rfl ?_
          refine pm_icmp_le (tgt := 117) dX5_isLeft_110 (by decide) (fun c110 => ?_) (fun c110 => ?_)
          · refine pm_iconst (x := 0) dX5_isLeft_117 rfl ?_
            refine pm_zret dX5_isLeft_118 rfl (by first | exact Or.inl rfl | exact Or.inr rfl | assumption) ?_
            rw [pm_z_1] at c100
            have hsx : ∀ x, ab_sp A x = pm_bw x (A.1 5) (A.1 6) := fun x => by simp [ab_sp, pm_bw, h5]
            exact ⟨by rw [ab_lf, c64, hsx, c100, decide_eq_false (Int32.not_lt.mpr c110)]; simp [pm_z], rfl⟩
          · refine pm_iconst (x := 1) dX5_isLeft_113 rfl ?_
            refine pm_goto (tgt := 118) dX5_isLeft_114 (by decide) ?_
            refine pm_zret dX5_isLeft_118 rfl (by first | exact Or.inl rfl | exact Or.inr rfl | assumption) ?_
            rw [pm_z_1] at c100
            have hsx : ∀ x, ab_sp A x = pm_bw x (A.1 5) (A.1 6) := fun x => by simp [ab_sp, pm_bw, h5]
            exact ⟨by rw [ab_lf, c64, hsx, c100, decide_eq_true (Int32.not_le.mp c110)]; simp [h7, pm_z], rfl⟩
  refine pm_start (lv := [some (.ref _), some (.int _), none, none, none]) (plainFor_of_name pf5) (Nat.le_of_ble_eq_true rfl) rfl ?_
  by_cases h5 : A.1 5 = -1
  ·
    refine pm_aload_n dX5_isLeft_0 rfl ?_
    refine pm_getR (ci := 5) (j := 4) (n := 39) (by first | assumption | rfl) (by decide) (by decide) rfl fl_RX5_13 rfl (by first | assumption | rfl) dX5_isLeft_1 ?_
    refine pm_iload_n dX5_isLeft_4 rfl ?_
    refine pm_ialdN (by first | assumption | rfl) (by first | assumption | omega | decide) (by first | decide | omega) dX5_isLeft_5 ?_
    rw [(hm.2 i e hei).2.1]
    refine pm_istore_n (lv' := [some (.ref _), some (.int _), some (.int _), none, none]) dX5_isLeft_6 (by decide) rfl ?_
    refine pm_aload_n dX5_isLeft_7 rfl ?_
    refine pm_getR (ci := 5) (j := 3) (n := 39) (by first | assumption | rfl) (by decide) (by decide) rfl fl_RX5_7 rfl (by first | assumption | rfl) dX5_isLeft_8 ?_
    refine pm_iload_n dX5_isLeft_11 rfl ?_
    refine pm_ialdN (by first | assumption | rfl) (by first | assumption | omega | decide) (by first | decide | omega) dX5_isLeft_12 ?_
    rw [(hm.2 i e hei).1]
    refine pm_istore_n (lv' := [some (.ref _), some (.int _), some (.int _), some (.int _), none]) dX5_isLeft_13 (by decide) rfl ?_
    refine pm_aload_n dX5_isLeft_14 rfl ?_
    refine pm_getR (ci := 5) (j := 13) (n := 39) (by first | assumption | rfl) (by decide) (by decide) rfl fl_RX5_26 rfl (by first | assumption | rfl) dX5_isLeft_15 ?_
    refine pm_iload_n dX5_isLeft_18 rfl ?_
    refine pm_ialdN (by first | assumption | rfl) (by first | assumption | omega | decide) (by first | decide | omega) dX5_isLeft_19 ?_
    rw [hA.1]
    refine pm_iconst (x := 4) dX5_isLeft_20 rfl ?_
    refine pm_icmp_ne (tgt := 59) dX5_isLeft_21 (by decide) (fun c21 => ?_) (fun c21 => ?_)
    · refine pm_iconst (x := 0) dX5_isLeft_59 rfl ?_
      refine pm_istore (lv' := [some (.ref _), some (.int _), some (.int _), some (.int _), some (.int _)]) dX5_isLeft_60 (by decide) rfl ?_
      have h9 := tail
      rw [show ab_sp A e.1 = false by simp [ab_sp, h5]] at h9
      exact h9
    · refine pm_aload_n dX5_isLeft_24 rfl ?_
      refine pm_getR (ci := 5) (j := 17) (n := 39) (by first | assumption | rfl) (by decide) (by decide) rfl fl_RX5_38 rfl (by first | assumption | rfl) dX5_isLeft_25 ?_
      refine pm_iload_n dX5_isLeft_28 rfl ?_
      refine pm_ialdN (by first | assumption | rfl) (by first | assumption | omega | decide) (by first | decide | omega) dX5_isLeft_29 ?_
      rw [hA.2.2.2.1]
      refine pm_if_lt (tgt := 59) dX5_isLeft_30 (by decide) (fun c30 => ?_) (fun c30 => absurd (by rw [h5]; exact neg_m1) c30)
      refine pm_iconst (x := 0) dX5_isLeft_59 rfl ?_
      refine pm_istore (lv' := [some (.ref _), some (.int _), some (.int _), some (.int _), some (.int _)]) dX5_isLeft_60 (by decide) rfl ?_
      have h9 := tail
      rw [show ab_sp A e.1 = false by simp [ab_sp, h5]] at h9
      exact h9
  · obtain ⟨hf0, -, -, hkd⟩ := hok.2.2.2.2.1.resolve_left h5
    have h94 := hA.2.2.2.2.1 h5
    have hsx : ∀ x, ab_sp A x = pm_bw x (A.1 5) (A.1 6) := fun x => by simp [ab_sp, pm_bw, h5]
    refine pm_aload_n dX5_isLeft_0 rfl ?_
    refine pm_getR (ci := 5) (j := 4) (n := 39) (by first | assumption | rfl) (by decide) (by decide) rfl fl_RX5_13 rfl (by first | assumption | rfl) dX5_isLeft_1 ?_
    refine pm_iload_n dX5_isLeft_4 rfl ?_
    refine pm_ialdN (by first | assumption | rfl) (by first | assumption | omega | decide) (by first | decide | omega) dX5_isLeft_5 ?_
    rw [(hm.2 i e hei).2.1]
    refine pm_istore_n (lv' := [some (.ref _), some (.int _), some (.int _), none, none]) dX5_isLeft_6 (by decide) rfl ?_
    refine pm_aload_n dX5_isLeft_7 rfl ?_
    refine pm_getR (ci := 5) (j := 3) (n := 39) (by first | assumption | rfl) (by decide) (by decide) rfl fl_RX5_7 rfl (by first | assumption | rfl) dX5_isLeft_8 ?_
    refine pm_iload_n dX5_isLeft_11 rfl ?_
    refine pm_ialdN (by first | assumption | rfl) (by first | assumption | omega | decide) (by first | decide | omega) dX5_isLeft_12 ?_
    rw [(hm.2 i e hei).1]
    refine pm_istore_n (lv' := [some (.ref _), some (.int _), some (.int _), some (.int _), none]) dX5_isLeft_13 (by decide) rfl ?_
    refine pm_aload_n dX5_isLeft_14 rfl ?_
    refine pm_getR (ci := 5) (j := 13) (n := 39) (by first | assumption | rfl) (by decide) (by decide) rfl fl_RX5_26 rfl (by first | assumption | rfl) dX5_isLeft_15 ?_
    refine pm_iload_n dX5_isLeft_18 rfl ?_
    refine pm_ialdN (by first | assumption | rfl) (by first | assumption | omega | decide) (by first | decide | omega) dX5_isLeft_19 ?_
    rw [hA.1]
    refine pm_iconst (x := 4) dX5_isLeft_20 rfl ?_
    refine pm_icmp_ne (tgt := 59) dX5_isLeft_21 (by decide) (fun c21 => absurd c21 (fun h => h hkd)) (fun c21 => ?_)
    refine pm_aload_n dX5_isLeft_24 rfl ?_
    refine pm_getR (ci := 5) (j := 17) (n := 39) (by first | assumption | rfl) (by decide) (by decide) rfl fl_RX5_38 rfl (by first | assumption | rfl) dX5_isLeft_25 ?_
    refine pm_iload_n dX5_isLeft_28 rfl ?_
    refine pm_ialdN (by first | assumption | rfl) (by first | assumption | omega | decide) (by first | decide | omega) dX5_isLeft_29 ?_
    rw [hA.2.2.2.1]
    refine pm_if_lt (tgt := 59) dX5_isLeft_30 (by decide) (fun c30 => absurd c30 (Int32.not_lt.mpr hf0)) (fun c30 => ?_)
    refine pm_iload_n dX5_isLeft_33 rfl ?_
    refine pm_i2l dX5_isLeft_34 ?_
    refine pm_aload_n dX5_isLeft_35 rfl ?_
    refine pm_getR (ci := 5) (j := 17) (n := 39) (by first | assumption | rfl) (by decide) (by decide) rfl fl_RX5_38 rfl (by first | assumption | rfl) dX5_isLeft_36 ?_
    refine pm_iload_n dX5_isLeft_39 rfl ?_
    refine pm_ialdN (by first | assumption | rfl) (by first | assumption | omega | decide) (by first | decide | omega) dX5_isLeft_40 ?_
    rw [hA.2.2.2.1]
    refine pm_i2l dX5_isLeft_41 ?_
    refine pm_aload_n dX5_isLeft_42 rfl ?_
    refine pm_getR (ci := 5) (j := 18) (n := 39) (by first | assumption | rfl) (by decide) (by decide) rfl fl_RX5_41 rfl (by first | assumption | rfl) dX5_isLeft_43 ?_
    refine pm_iload_n dX5_isLeft_46 rfl ?_
    refine pm_ialdN (by first | assumption | rfl) (by first | assumption | omega | decide) (by first | decide | omega) dX5_isLeft_47 ?_
    rw [h94]
    refine pm_i2l dX5_isLeft_48 ?_
    refine pm_cSi (as := [.long _, .long _, .long _]) ml_RX5_96 (by decide) (Nat.le_of_ble_eq_true rfl) dX5_isLeft_49 (c_X5_in (n := _) (a := _) (b := _) pm_L0 _ rfl rfl rfl) (fun x1 w1 hq => ?_)
    obtain ⟨rfl, hw9⟩ := hq
    have hw9 := hw9.symm
    subst hw9
    refine pm_if_eq (tgt := 59) dX5_isLeft_52 (by decide) (fun c52 => ?_) (fun c52 => ?_)
    · refine pm_iconst (x := 0) dX5_isLeft_59 rfl ?_
      refine pm_istore (lv' := [some (.ref _), some (.int _), some (.int _), some (.int _), some (.int _)]) dX5_isLeft_60 (by decide) rfl ?_
      rw [pm_z_0] at c52
      have h9 := tail
      rw [hsx, c52] at h9
      exact h9
    · refine pm_iconst (x := 1) dX5_isLeft_55 rfl ?_
      refine pm_goto (tgt := 60) dX5_isLeft_56 (by decide) ?_
      refine pm_istore (lv' := [some (.ref _), some (.int _), some (.int _), some (.int _), some (.int _)]) dX5_isLeft_60 (by decide) rfl ?_
      rw [pm_z_1] at c52
      have h9 := tail
      rw [hsx, c52] at h9
      exact h9

theorem mo_inc {w : pm_W} {p q : Nat} {A : ab_A} {j : Nat} (hj : j < 7) (h : mo_A w q A) : mo_A (pm_s w 98 (upd (w.1 98) (7 * p + j) (w.1 98 (7 * p + j) + 1))) q (if q = p then ab_inc A j else A) := by
  obtain ⟨h1, h2, h3, h4, h5, h6, h7, h8, h9⟩ := h
  have k : ∀ a, a ≠ 98 → (pm_s w 98 (upd (w.1 98) (7 * p + j) (w.1 98 (7 * p + j) + 1))).1 a = w.1 a := fun a ha => pm_s_ne ha
  have e1 : (if q = p then ab_inc A j else A).1 = A.1 := by split <;> rfl
  have e2 : (if q = p then ab_inc A j else A).2.2 = A.2.2 := by split <;> rfl
  unfold mo_A
  rw [k 89 (by decide), k 90 (by decide), k 91 (by decide), k 92 (by decide), k 93 (by decide), k 94 (by decide), k 95 (by decide), k 96 (by decide), k 97 (by decide), e1, e2]
  refine ⟨h1, h2, h3, h4, h5, h6, h7, h8, fun t ht => ?_⟩
  rw [pm_s_at]
  by_cases hq : q = p
  · subst hq
    rw [if_pos rfl]
    by_cases htj : t = j
    · subst htj
      rw [pk_us, h9 t ht]
      exact pk_us.symm
    · rw [pk_un (by omega), h9 t ht]
      exact (pk_un htj).symm
  · rw [if_neg hq, pk_un (by omega)]
    exact h9 t ht
theorem mo_own {w : pm_W} {p q : Nat} {A : ab_A} {x : Int32} (h : mo_A w q A) (hx : q = p → A.1 2 = 5 → x = w.1 91 p) : mo_A (pm_s w 91 (upd (w.1 91) p x)) q A := by
  obtain ⟨h1, h2, h3, h4, h5, h6, h7, h8, h9⟩ := h
  have k : ∀ a, a ≠ 91 → (pm_s w 91 (upd (w.1 91) p x)).1 a = w.1 a := fun a ha => pm_s_ne ha
  unfold mo_A
  rw [k 89 (by decide), k 90 (by decide), k 92 (by decide), k 93 (by decide), k 94 (by decide), k 95 (by decide), k 96 (by decide), k 97 (by decide), k 98 (by decide), pm_s_at]
  refine ⟨h1, ?_, h3, h4, h5, h6, h7, h8, h9⟩
  by_cases hc : A.1 2 = 5
  · rw [if_pos hc] at h2 ⊢
    by_cases hq : q = p
    · subst hq
      rw [pk_us, hx rfl hc]
      exact h2
    · rw [pk_un hq]; exact h2
  · rw [if_neg hc] at h2 ⊢
    exact h2
theorem mo_own5 {w : pm_W} {p : Nat} {A : ab_A} {x : Int32} (h : mo_A w p A) (hc : A.1 2 = 5) : mo_A (pm_s w 91 (upd (w.1 91) p x)) p (upd A.1 3 x, A.2) := by
  obtain ⟨h1, h2, h3, h4, h5, h6, h7, h8, h9⟩ := h
  have k : ∀ a, a ≠ 91 → (pm_s w 91 (upd (w.1 91) p x)).1 a = w.1 a := fun a ha => pm_s_ne ha
  unfold mo_A
  rw [k 89 (by decide), k 90 (by decide), k 92 (by decide), k 93 (by decide), k 94 (by decide), k 95 (by decide), k 96 (by decide), k 97 (by decide), k 98 (by decide), pm_s_at]
  refine ⟨h1, ?_, h3, h4, h5, h6, h7, h8, h9⟩
  show (if A.1 2 = 5 then upd (w.1 91) p x p else _) = x
  rw [if_pos hc, pk_us]

set_option maxRecDepth 4000 in
theorem c_X5_waste {w : pm_W} {p : Nat} (hp : p < 4) {ak : Nat → ab_A} (hA : ∀ q, q < 4 → mo_A w q (ak q)) : pm_C pm_L0 MX5_waste [.ref 83, .int (nI p)] w (pm_qv fun w1 => (∀ q, q < 4 → mo_A w1 q (va_up ak p (ab_waste (ak p)) q)) ∧ mfr w w1 [91, 98] []) := by
  refine pm_start (lv := [some (.ref _), some (.int _)]) (plainFor_of_name pf5) (Nat.le_of_ble_eq_true rfl) rfl ?_
  refine pm_aload_n dX5_waste_0 rfl ?_
  refine pm_getR (ci := 5) (j := 22) (n := 39) (by first | assumption | rfl) (by decide) (by decide) rfl fl_RX5_53 rfl (by first | assumption | rfl) dX5_waste_1 ?_
  refine pm_bipush (x := nI 7) dX5_waste_4 rfl ?_
  refine pm_iload_n dX5_waste_6 rfl ?_
  refine pm_imul dX5_waste_7 ?_
  refine pm_iconst (x := nI 4) dX5_waste_8 rfl ?_
  refine pm_iadd dX5_waste_9 ?_
  refine pm_topi (nI (7 * p + 4)) (by rw [pk_mul, nI_add]) ?_
  refine pm_dup2 dX5_waste_10 rfl rfl ?_
  refine pm_ialdN (by first | assumption | rfl) (by first | assumption | omega | decide) (by first | decide | omega) dX5_waste_11 ?_
  refine pm_iconst (x := 1) dX5_waste_12 rfl ?_
  refine pm_iadd dX5_waste_13 ?_
  refine pm_iastN (by first | assumption | rfl) (by first | assumption | omega | decide) (by first | decide | omega) dX5_waste_14 ?_
  have hB : ∀ q, q < 4 → mo_A (pm_s w 98 (upd (w.1 98) (7 * p + 4) (w.1 98 (7 * p + 4) + 1))) q (if q = p then ab_inc (ak q) 4 else ak q) := fun q hq => mo_inc (by decide) (hA q hq)
  have hf : mfr w (pm_s w 98 (upd (w.1 98) (7 * p + 4) (w.1 98 (7 * p + 4) + 1))) [91, 98] [] := mfr_c (mfr_rf _ _ _) (by decide) (by decide) _
  generalize (pm_s w 98 (upd (w.1 98) (7 * p + 4) (w.1 98 (7 * p + 4) + 1))) = w2 at hB hf ⊢
  have hBp := hB p hp
  rw [if_pos rfl] at hBp
  refine pm_aload_n dX5_waste_15 rfl ?_
  refine pm_getR (ci := 5) (j := 15) (n := 39) (by first | assumption | rfl) (by decide) (by decide) rfl fl_RX5_32 rfl (by first | assumption | rfl) dX5_waste_16 ?_
  refine pm_iload_n dX5_waste_19 rfl ?_
  refine pm_aload_n dX5_waste_20 rfl ?_
  refine pm_getR (ci := 5) (j := 13) (n := 39) (by first | assumption | rfl) (by decide) (by decide) rfl fl_RX5_26 rfl (by first | assumption | rfl) dX5_waste_21 ?_
  refine pm_iload_n dX5_waste_24 rfl ?_
  refine pm_ialdN (by first | assumption | rfl) (by first | assumption | omega | decide) (by first | decide | omega) dX5_waste_25 ?_
  rw [show w2.1 89 p = (ak p).1 2 from hBp.1]
  refine pm_iconst (x := 5) dX5_waste_26 rfl ?_
  refine pm_icmp_ne (tgt := 41) dX5_waste_27 (by decide) (fun c27 => ?_) (fun c27 => ?_)
  · refine pm_aload_n dX5_waste_41 rfl ?_
    refine pm_getR (ci := 5) (j := 15) (n := 39) (by first | assumption | rfl) (by decide) (by decide) rfl fl_RX5_32 rfl (by first | assumption | rfl) dX5_waste_42 ?_
    refine pm_iload_n dX5_waste_45 rfl ?_
    refine pm_ialdN (by first | assumption | rfl) (by first | assumption | omega | decide) (by first | decide | omega) dX5_waste_46 ?_
    refine pm_iastN (by first | assumption | rfl) (by first | assumption | omega | decide) (by first | decide | omega) dX5_waste_47 ?_
    refine pm_vret dX5_waste_48 rfl ?_
    refine ⟨fun q hq => ?_, mfr_c hf (by decide) (by decide) _⟩
    have h9 := mo_own (p := p) (x := w2.1 91 p) (hB q hq) (fun _ _ => rfl)
    by_cases hqp : q = p
    · subst hqp
      rw [if_pos rfl] at h9
      rw [va_up_self, ab_waste, if_neg c27]
      exact h9
    · rw [if_neg hqp] at h9
      rw [va_up_ne _ _ hqp]
      exact h9
  · refine pm_aload_n dX5_waste_30 rfl ?_
    refine pm_getR (ci := 5) (j := 15) (n := 39) (by first | assumption | rfl) (by decide) (by decide) rfl fl_RX5_32 rfl (by first | assumption | rfl) dX5_waste_31 ?_
    refine pm_iload_n dX5_waste_34 rfl ?_
    refine pm_ialdN (by first | assumption | rfl) (by first | assumption | omega | decide) (by first | decide | omega) dX5_waste_35 ?_
    refine pm_iconst (x := 2) dX5_waste_36 rfl ?_
    refine pm_idiv dX5_waste_37 (by decide) ?_
    refine pm_goto (tgt := 47) dX5_waste_38 (by decide) ?_
    refine pm_iastN (by first | assumption | rfl) (by first | assumption | omega | decide) (by first | decide | omega) dX5_waste_47 ?_
    refine pm_vret dX5_waste_48 rfl ?_
    refine ⟨fun q hq => ?_, mfr_c hf (by decide) (by decide) _⟩
    have e91 : w2.1 91 p = (ak p).1 3 := by
      have := hBp.2.1
      rw [if_pos (show (ab_inc (ak p) 4).1 2 = 5 from c27)] at this
      exact this
    by_cases hqp : q = p
    · subst hqp
      have h9 := mo_own5 (x := w2.1 91 q / 2) hBp c27
      rw [va_up_self, ab_waste, if_pos c27, ← e91]
      exact h9
    · have h9 := mo_own (p := p) (x := w2.1 91 p / 2) (hB q hq) (fun e => absurd e hqp)
      rw [if_neg hqp] at h9
      rw [va_up_ne _ _ hqp]
      exact h9

