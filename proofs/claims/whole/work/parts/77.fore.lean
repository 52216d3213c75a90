theorem fo_szq : ∀ q, q < 64 → fo_sz (q + 64) = fo_sz q + 1 ∧ fo_sz q ≤ 6 := by decide +kernel
theorem fo_full {sp : Nat} (h1 : 1 ≤ sp) : fo_F sp (if sp < 7 then pm_sized.getD sp 0 else 0) (if sp - 1 < 7 then pm_sized.getD (sp - 1) 0 else 0) := by
  intro r hr
  unfold fo_m
  by_cases h : r < 64
  · rw [if_pos h]
    by_cases h7 : sp < 7
    · rw [if_pos h7, lb_sized sp h7 r h]
    · rw [if_neg h7, lb_0]
      have := (fo_szq r h).2
      simp; omega
  · obtain ⟨q, rfl⟩ : ∃ q, r = q + 64 := ⟨r - 64, by omega⟩
    have hq : q < 64 := by omega
    rw [if_neg h, Nat.add_sub_cancel, (fo_szq q hq).1]
    have := (fo_szq q hq).2
    by_cases h7 : sp - 1 < 7
    · rw [if_pos h7, lb_sized _ h7 q hq]
      simp; omega
    · rw [if_neg h7, lb_0]
      simp; omega
def fu_out (w w1 : pm_W) : Prop := ∀ a, (a < 28 ∨ 33 ≤ a) → w1.1 a = w.1 a
theorem fu_tr {w w1 w2 : pm_W} (h : fu_out w w1) (k : fu_out w1 w2) : fu_out w w2 := fun a q => (k a q).trans (h a q)
theorem fu_r {w w1 : pm_W} (h : fs_r w w1) : fu_out w w1 := fun a _ => congrFun h.1 a
theorem fu_R {w w1 : pm_W} {S : ab_S} (hR : hs_R w 1 S) (h : fu_out w w1) : hs_R w1 1 S := hs_R_cong hR (fun x q1 q2 => h x (Or.inl (by omega)))
theorem fs_ini (f g : Nat → Int64) {n : Nat} (hn : n ≤ 24) (j : Nat) (hj : j ≤ n) (t : Nat) : fo_m (vp_updL (fl 0 25 f) 0 1 j) (fl 0 25 g j) t = true ↔ j = 0 ∧ t = 0 := by
  have hg : fl 0 25 g j = 0 := if_pos (by omega)
  have hf : fl 0 25 f j = 0 := if_pos (by omega)
  rw [hg]
  by_cases h : j = 0
  · subst h
    rw [vL_s]
    unfold fo_m
    split
    · rw [lb_1, decide_eq_true_eq]; simp
    · rw [lb_0]
      constructor
      · intro z; cases z
      · rintro ⟨-, rfl⟩; omega
  · rw [vL_n h, hf, fo_m00]
    constructor
    · intro z; cases z
    · rintro ⟨z, -⟩; exact absurd z h
theorem ok_0 {w : pm_W} {sp v n : Nat} {xs : Nat → Nat} {tk : Nat → Bool} (h : ∀ j, j ≤ n → ∀ t, fs_F w j t ↔ j = 0 ∧ t = 0) : fo_ok n (fo_A sp 7 v xs tk 0) (fs_F w) := by
  refine ⟨fun j hj t ht => ?_, fun t c hc ht => ?_⟩
  · obtain ⟨rfl, rfl⟩ := (h j hj t).mp ht
    exact ⟨rfl, rfl⟩
  · obtain ⟨rfl, rfl⟩ := ht
    exact ⟨0, Nat.le_refl _, (h 0 (Nat.zero_le _) 0).mpr ⟨rfl, rfl⟩⟩

set_option maxRecDepth 4000 in
theorem lst_108 {w w1 w3 : pm_W} {S : ab_S} {sp v n i : Nat} (hn : n ≤ 24 ∧ n ≤ S.2.2.2.2.length) (hlt : i < n) (hr3 : fs_r w1 w3) (hRw : hs_R w1 1 S) (hf : fu_out w w1) (h8 : w1.1 28 8 = nI v) (h30 : ∀ j, j < n → w1.1 30 j = nI (fu_x (fu_b S n) j)) (hF : fo_F sp (w1.2 28 6) (w1.2 28 7)) (hA3 : fo_ok n (fo_A sp 7 v (fu_x (fu_b S n)) (fu_tk S n) (i + 1)) (fs_F w3)) (ih : i < n → ∀ w1, hs_R w1 1 S → fu_out w w1 → w1.1 28 8 = nI v → (∀ j, j < n → w1.1 30 j = nI (fu_x (fu_b S n) j)) → fo_F sp (w1.2 28 6) (w1.2 28 7) → fo_ok n (fo_A sp 7 v (fu_x (fu_b S n)) (fu_tk S n) (i + 1)) (fs_F w1) → pm_R pm_L0 MX1_leastStalls 69 [some (.ref 28), some (.ref 1), some (.int (nI n)), some (.int (nI (i + 1)))] [] w1 (pm_qi fun r w1 => pf_A S 7 n r ∧ fu_out w w1)) : pm_R pm_L0 MX1_leastStalls 108 [some (.ref 28), some (.ref 1), some (.int (nI n)), some (.int (nI i))] [] w3 (pm_qi fun r w1 => pf_A S 7 n r ∧ fu_out w w1) := by
    refine pm_aload_n dX1_leastStalls_108 rfl ?_
    refine pm_iload_n dX1_leastStalls_109 rfl ?_
    refine pm_cVv (as := [.int _]) (by first | assumption | rfl) (by decide) rfl ml_RX1_70 (by decide) (Nat.le_of_ble_eq_true rfl) dX1_leastStalls_110 (c_X1_dropDearer _ hn.1) (fun w4 hq => ?_)
    obtain ⟨hr4, hF4⟩ := hq
    refine pm_iinc (y := _ + 1) (lv' := [some (.ref _), some (.ref _), some (.int _), some (.int _)]) dX1_leastStalls_113 rfl rfl (by decide) rfl ?_
    refine pm_goto (tgt := 69) dX1_leastStalls_116 (by decide) ?_
    rw [nI_1 i]
    have hrr := fr_rt hr3 hr4
    exact ih hlt w4 (fu_R hRw (fu_r hrr)) (fu_tr hf (fu_r hrr)) ((congrFun (congrFun hrr.1 28) 8).trans h8) (fun j hj => (congrFun (congrFun hrr.1 30) j).trans (h30 j hj)) (by rw [hrr.2.2.1, hrr.2.2.2]; exact hF) (ok_dr hA3 hF4)

set_option maxRecDepth 4000 in
theorem lst_69 {w : pm_W} {S : ab_S} {sp v pc n : Nat} (e4 : S.2.2.2.1 4 = nI sp) (e5 : S.2.2.2.1 5 = nI v) (e6 : S.2.2.2.1 6 = nI pc) (hsp : sp ≤ 12) (hv1 : 1 ≤ v) (hv : v ≤ 3) (hp1 : 1 ≤ pc) (hp : pc ≤ 4) (hlen : S.2.2.2.2.length ≤ 1000000) (hn : n ≤ 24 ∧ n ≤ S.2.2.2.2.length) (hx : ∀ i, i < n → fu_x (fu_b S n) i < 7) : ∀ i, i ≤ n → ∀ w1, hs_R w1 1 S → fu_out w w1 → w1.1 28 8 = nI v → (∀ j, j < n → w1.1 30 j = nI (fu_x (fu_b S n) j)) → fo_F sp (w1.2 28 6) (w1.2 28 7) → fo_ok n (fo_A sp 7 v (fu_x (fu_b S n)) (fu_tk S n) i) (fs_F w1) → pm_R pm_L0 MX1_leastStalls 69 [some (.ref 28), some (.ref 1), some (.int (nI n)), some (.int (nI i))] [] w1 (pm_qi fun r w1 => pf_A S 7 n r ∧ fu_out w w1) := by
    refine up_loop n (fun i hi9 ih w1 hRw hf h8 h30 hF hA => ?_)
    refine pm_iload_n dX1_leastStalls_69 rfl ?_
    refine pm_iload_n dX1_leastStalls_70 rfl ?_
    refine pm_icmp_ge (tgt := 119) dX1_leastStalls_71 (by decide) (fun c71 => ?_) (fun c71 => ?_)
    · have hin : i = n := by
        rw [nI_leI (by omega) (by omega)] at c71
        omega
      subst hin
      refine pm_aload_n dX1_leastStalls_119 rfl ?_
      refine pm_iload_n dX1_leastStalls_120 rfl ?_
      refine pm_cVi (as := [.int _]) (by first | assumption | rfl) (by decide) rfl ml_RX1_73 (by decide) (Nat.le_of_ble_eq_true rfl) dX1_leastStalls_121 (c_X1_cheapest _ hn.1) (fun x1 w1 hq => ?_)
      obtain ⟨⟨m, rfl, m1, m2, m3⟩, hw9⟩ := hq
      have hw9 := hw9.symm
      subst hw9
      refine pm_iret dX1_leastStalls_124 rfl ?_
      exact ⟨Or.inr ⟨hx, m, rfl, by rw [e4, e5, nI_clamp (by omega), nI_clamp (by omega)]; exact fo_fin hA m1 m2 m3⟩, hf⟩
    · have hlt : i < n := by
        rw [nI_leI (by omega) (by omega)] at c71
        omega
      refine pm_aload_n dX1_leastStalls_74 rfl ?_
      refine pm_aload_n dX1_leastStalls_75 rfl ?_
      refine pm_getR (ci := 1) (j := 1) (n := 9) (by first | assumption | rfl) (by decide) (by decide) rfl fl_RX1_15 rfl (by first | assumption | rfl) dX1_leastStalls_76 ?_
      refine pm_iload_n dX1_leastStalls_79 rfl ?_
      refine pm_ialdN (by first | assumption | rfl) (by omega) (by first | decide | omega) dX1_leastStalls_80 ?_
      rw [h30 i hlt]
      refine pm_iload_n dX1_leastStalls_81 rfl ?_
      refine pm_cVv (as := [.int _, .int _]) (by first | assumption | rfl) (by decide) rfl ml_RX1_56 (by decide) (Nat.le_of_ble_eq_true rfl) dX1_leastStalls_82 (c_X1_passAsk hF h8 hv1 (by omega) hn.1 (hx i hlt) (fun s c ha => fo_VA hx (Nat.le_of_lt hlt) ha) hA) (fun w3 hq => ?_)
      obtain ⟨hr3, hA3⟩ := hq
      refine pm_aload_n dX1_leastStalls_85 rfl ?_
      refine pm_getI (ci := 3) (j := 10) (n := 11) (by first | assumption | rfl) (by decide) (by decide) rfl fl_RX1_60 rfl dX1_leastStalls_86 ?_
      rw [show w3.1 1 10 = nI S.2.2.2.2.length from (fu_R hRw (fu_r hr3)).2.2.2.2.1]
      refine pm_iload_n dX1_leastStalls_89 rfl ?_
      refine pm_isub dX1_leastStalls_90 ?_
      refine pm_iload_n dX1_leastStalls_91 rfl ?_
      refine pm_iadd dX1_leastStalls_92 ?_
      refine pm_iconst (x := 1) dX1_leastStalls_93 rfl ?_
      refine pm_iadd dX1_leastStalls_94 ?_
      refine pm_topi (nI (S.2.2.2.2.length - n + i + 1)) (by rw [nI_sb hn.2, nI_add, nI_1]) ?_
      refine pm_aload_n dX1_leastStalls_95 rfl ?_
      refine pm_getI (ci := 3) (j := 6) (n := 11) (by first | assumption | rfl) (by decide) (by decide) rfl fl_RX1_63 rfl dX1_leastStalls_96 ?_
      rw [show w3.1 1 6 = nI pc from ((fu_R hRw (fu_r hr3)).2.2.2.1 6 (by decide) (by decide)).trans e6]
      refine pm_irem dX1_leastStalls_99 (by exact nI_ne0 (by omega) (by omega)) ?_
      rw [pk_rem (by omega) (by omega) (by omega)]
      refine pm_if_ne (tgt := 108) dX1_leastStalls_100 (by decide) (fun c100 => ?_) (fun c100 => ?_)
      · have htk : fu_tk S n i = false := by
          rw [fu_tk, e6, nI_clamp (by omega), decide_eq_false_iff_not]
          intro e
          exact c100 (by rw [e]; rfl)
        refine lst_108 hn hlt (hr3) hRw hf h8 h30 hF ?_ ih
        show fo_ok n (fo_T sp 7 v (fu_tk S n i) (fo_D sp 7 v (fu_x (fu_b S n) i) (fo_A sp 7 v (fu_x (fu_b S n)) (fu_tk S n) i))) (fs_F w3)
        rw [htk]
        exact hA3
      · have htk : fu_tk S n i = true := by
          rw [fu_tk, e6, nI_clamp (by omega), decide_eq_true_eq]
          exact (nI_eq (b := 0) (by have := Nat.mod_lt (S.2.2.2.2.length - n + i + 1) (show 0 < pc by omega); omega) (by decide)).mp c100
        refine pm_aload_n dX1_leastStalls_103 rfl ?_
        refine pm_iload_n dX1_leastStalls_104 rfl ?_
        refine pm_cVv (as := [.int _]) (by first | assumption | rfl) (by decide) rfl ml_RX1_66 (by decide) (Nat.le_of_ble_eq_true rfl) dX1_leastStalls_105 (c_X1_passTick (sp := sp) (v := v) (by rw [hr3.2.2.1, hr3.2.2.2]; exact hF) ((congrFun (congrFun hr3.1 28) 8).trans h8) (by omega) hn.1 (fun j hj t ht => fo_VD (hx i hlt) (fun s c ha => fo_VA hx (Nat.le_of_lt hlt) ha) (hA3.1 j hj t ht))) (fun w5 hq => ?_)
        obtain ⟨hr5, hF5⟩ := hq
        refine lst_108 hn hlt (fr_rt hr3 hr5) hRw hf h8 h30 hF ?_ ih
        show fo_ok n (fo_T sp 7 v (fu_tk S n i) (fo_D sp 7 v (fu_x (fu_b S n) i) (fo_A sp 7 v (fu_x (fu_b S n)) (fu_tk S n) i))) (fs_F w5)
        rw [htk]
        exact ok_T hA3 hF5

set_option maxRecDepth 4000 in
theorem c_X1_leastStalls {w : pm_W} {S : ab_S} (hR : hs_R w 1 S) (hI : ab_I S) {n : Nat} (hn : n ≤ 24 ∧ n ≤ S.2.2.2.2.length) : pm_C pm_L0 MX1_leastStalls [.ref 28, .ref 1, .int (nI n)] w (pm_qi fun r w1 => pf_A S 7 n r ∧ fu_out w w1) := by
  obtain ⟨⟨sp, e4, s1, s2, s3⟩, i5, i6, i7, i8, i9, ⟨v, e5, v1, v2⟩, ⟨pc, e6, p1, p2⟩, i12⟩ := id hI
  refine pm_start (lv := [some (.ref _), some (.ref _), some (.int _), none]) (plainFor_of_name pf1) (Nat.le_of_ble_eq_true rfl) rfl ?_
  refine pm_aload_n dX1_leastStalls_0 rfl ?_
  refine pm_aload_n dX1_leastStalls_1 rfl ?_
  refine pm_iload_n dX1_leastStalls_2 rfl ?_
  refine pm_cVi (as := [.ref _, .int _]) (by first | assumption | rfl) (by decide) rfl ml_RX1_25 (by decide) (Nat.le_of_ble_eq_true rfl) dX1_leastStalls_3 (c_X1_number hR hn i12) (fun x1 w1 hq => ?_)
  obtain ⟨hq, hf1⟩ := hq
  refine pm_if_ne (tgt := 12) dX1_leastStalls_6 (by decide) (fun c6 => ?_) (fun c6 => ?_)
  · obtain ⟨-, rfl⟩ | ⟨hx, -⟩ := hq
    · exact absurd rfl c6
    have hR1 : hs_R w1 1 S := hs_R_cong hR (fun x q1 q2 => hf1.1 x (Or.inl (by omega)))
    refine pm_aload_n dX1_leastStalls_12 rfl ?_
    refine pm_aload_n dX1_leastStalls_13 rfl ?_
    refine pm_getI (ci := 3) (j := 5) (n := 11) (by first | assumption | rfl) (by decide) (by decide) rfl fl_RX1_29 rfl dX1_leastStalls_14 ?_
    rw [show w1.1 1 5 = nI v from (hR1.2.2.2.1 5 (by decide) (by decide)).trans e5]
    refine pm_putI (ci := 1) (j := 8) (n := 9) (by first | assumption | rfl) (by decide) (by decide) rfl fl_RX1_35 rfl rfl dX1_leastStalls_17 ?_
    refine pm_aload_n dX1_leastStalls_20 rfl ?_
    refine pm_aload_n dX1_leastStalls_21 rfl ?_
    refine pm_getI (ci := 3) (j := 4) (n := 11) (by first | assumption | rfl) (by decide) (by decide) rfl fl_RX1_36 rfl dX1_leastStalls_22 ?_
    refine pm_topi (nI sp) ((hR1.2.2.2.1 4 (by decide) (by decide)).trans e4) ?_
    refine pm_cSl (as := [.int _]) ml_RX1_39 (by decide) (Nat.le_of_ble_eq_true rfl) dX1_leastStalls_25 (c_X1_sized _ (b := sp) (by omega)) (fun x1 w1 hq => ?_)
    obtain ⟨rfl, hw9⟩ := hq
    have hw9 := hw9.symm
    subst hw9
    refine pm_putL (ci := 1) (j := 6) (n := 9) (by first | assumption | rfl) (by decide) (by decide) rfl fl_RX1_43 rfl rfl dX1_leastStalls_28 ?_
    refine pm_aload_n dX1_leastStalls_31 rfl ?_
    refine pm_aload_n dX1_leastStalls_32 rfl ?_
    refine pm_getI (ci := 3) (j := 4) (n := 11) (by first | assumption | rfl) (by decide) (by decide) rfl fl_RX1_36 rfl dX1_leastStalls_33 ?_
    refine pm_iconst (x := 1) dX1_leastStalls_36 rfl ?_
    refine pm_isub dX1_leastStalls_37 ?_
    refine pm_topi (nI (sp - 1)) (show w1.1 1 4 - 1 = nI (sp - 1) by rw [hR1.2.2.2.1 4 (by decide) (by decide), e4]; exact nI_sb s1) ?_
    refine pm_cSl (as := [.int _]) ml_RX1_39 (by decide) (Nat.le_of_ble_eq_true rfl) dX1_leastStalls_38 (c_X1_sized _ (b := sp - 1) (by omega)) (fun x1 w1 hq => ?_)
    obtain ⟨rfl, hw9⟩ := hq
    have hw9 := hw9.symm
    subst hw9
    refine pm_putL (ci := 1) (j := 7) (n := 9) (by first | assumption | rfl) (by decide) (by decide) rfl fl_RX1_47 rfl rfl dX1_leastStalls_41 ?_
    refine pm_aload_n dX1_leastStalls_44 rfl ?_
    refine pm_getR (ci := 1) (j := 2) (n := 9) (by first | assumption | rfl) (by decide) (by decide) rfl fl_RX1_18 rfl (by first | assumption | rfl) dX1_leastStalls_45 ?_
    refine pm_lconst (x := 0) dX1_leastStalls_48 rfl ?_
    refine pm_cSv (as := [.ref _, .long _]) ml_RX1_50 (by decide) (Nat.le_of_ble_eq_true rfl) dX1_leastStalls_49 (c_J7_fill_d0a16 (n := 25) rfl (by decide) _ _) (fun w1 hq => ?_)
    subst hq
    refine pm_aload_n dX1_leastStalls_52 rfl ?_
    refine pm_getR (ci := 1) (j := 3) (n := 9) (by first | assumption | rfl) (by decide) (by decide) rfl fl_RX1_22 rfl (by first | assumption | rfl) dX1_leastStalls_53 ?_
    refine pm_lconst (x := 0) dX1_leastStalls_56 rfl ?_
    refine pm_cSv (as := [.ref _, .long _]) ml_RX1_50 (by decide) (Nat.le_of_ble_eq_true rfl) dX1_leastStalls_57 (c_J7_fill_d0a16 (n := 25) rfl (by decide) _ _) (fun w1 hq => ?_)
    subst hq
    refine pm_aload_n dX1_leastStalls_60 rfl ?_
    refine pm_getR (ci := 1) (j := 2) (n := 9) (by first | assumption | rfl) (by decide) (by decide) rfl fl_RX1_18 rfl (by first | assumption | rfl) dX1_leastStalls_61 ?_
    refine pm_iconst (x := nI 0) dX1_leastStalls_64 rfl ?_
    refine pm_lconst (x := 1) dX1_leastStalls_65 rfl ?_
    refine pm_lastN (by first | assumption | rfl) (by decide) (by first | decide | omega) dX1_leastStalls_66 ?_
    refine pm_iconst (x := 0) dX1_leastStalls_67 rfl ?_
    refine pm_istore_n (lv' := [some (.ref _), some (.ref _), some (.int _), some (.int _)]) dX1_leastStalls_68 (by decide) rfl ?_
    refine lst_69 (sp := sp) (v := v) (pc := pc) e4 e5 e6 s2 v1 v2 p1 p2 i12 hn (fun i hi => (hx i hi).1) 0 (Nat.zero_le _) _ (hs_R_cong hR1 (fun x q1 q2 => pm_s_ne (by omega))) (fun a q => (pm_s_ne (by omega)).trans (hf1.1 a q)) (by simp [pm_s, pm_sL, upd]) (fun j hj => (hx j hj).2) ?_ (ok_0 (fun j hj t => ?_))
    · exact fo_full s1
    · exact fs_ini _ _ (hn.1) j hj t
  · obtain ⟨⟨i, h1, h2⟩, hx1⟩ := hq.resolve_right (fun z => by rw [z.2] at c6; exact absurd c6 (by decide))
    refine pm_bipush (x := -103) dX1_leastStalls_9 rfl ?_
    refine pm_iret dX1_leastStalls_11 rfl ?_
    exact ⟨Or.inl ⟨⟨i, h1, h2⟩, rfl⟩, fun a q => hf1.1 a q⟩

def pu_fore (S : ab_S) (x r : Int32) : Prop := if pm_bw x 0 24 = true then pf_A S 7 (min x.toNatClampNeg S.2.2.2.2.length) r else r = -102
theorem mn_nI {a b : Nat} (ha : a < 2 ^ 31) (hb : b < 2 ^ 31) : ab_min (nI a) (nI b) = nI (min a b) := by
  unfold ab_min
  by_cases h : b < a
  · rw [if_pos (nI_lt h ha), Nat.min_eq_right (by omega)]
  · rw [if_neg (nI_nlt (by omega) hb), Nat.min_eq_left (by omega)]

set_option maxRecDepth 4000 in
theorem c_X4_foresight {w : pm_W} {S : ab_S} (hR : hs_R w 1 S) (hI : ab_I S) (x : Int32) : pm_C pm_L0 MX4_foresight [.ref 0, .int x] w (pm_qi fun r w1 => pu_fore S x r ∧ fu_out w w1) := by
  have i12 := hI.2.2.2.2.2.2.2.2
  refine pm_start (lv := [some (.ref _), some (.int _)]) (plainFor_of_name pf4) (Nat.le_of_ble_eq_true rfl) rfl ?_
  refine pm_iload_n dX4_foresight_0 rfl ?_
  refine pm_iconst (x := 0) dX4_foresight_1 rfl ?_
  refine pm_bipush (x := 24) dX4_foresight_2 rfl ?_
  refine pm_cSi (as := [.int _, .int _, .int _]) ml_RX4_31 (by decide) (Nat.le_of_ble_eq_true rfl) dX4_foresight_4 (c_X4_within pm_L0 _ _ _ _) (fun x1 w1 hq => ?_)
  obtain ⟨rfl, hw9⟩ := hq
  have hw9 := hw9.symm
  subst hw9
  refine pm_if_ne (tgt := 13) dX4_foresight_7 (by decide) (fun c7 => ?_) (fun c7 => ?_)
  · rw [pm_z_1] at c7
    obtain ⟨k, hk, rfl⟩ := bw_of (n := 24) (by decide) c7
    refine pm_aload_n dX4_foresight_13 rfl ?_
    refine pm_getR (ci := 4) (j := 3) (n := 4) (by first | assumption | rfl) (by decide) (by decide) rfl fl_RX4_27 rfl (by first | assumption | rfl) dX4_foresight_14 ?_
    refine pm_aload_n dX4_foresight_17 rfl ?_
    refine pm_getR (ci := 4) (j := 0) (n := 4) (by first | assumption | rfl) (by decide) (by decide) rfl fl_RX4_10 rfl (by first | assumption | rfl) dX4_foresight_18 ?_
    refine pm_iload_n dX4_foresight_21 rfl ?_
    refine pm_aload_n dX4_foresight_22 rfl ?_
    refine pm_getR (ci := 4) (j := 0) (n := 4) (by first | assumption | rfl) (by decide) (by decide) rfl fl_RX4_10 rfl (by first | assumption | rfl) dX4_foresight_23 ?_
    refine pm_getI (ci := 3) (j := 10) (n := 11) (by first | assumption | rfl) (by decide) (by decide) rfl fl_RX4_35 rfl dX4_foresight_26 ?_
    rw [hR.2.2.2.2.1]
    refine pm_cSi (as := [.int _, .int _]) ml_RX4_135 (by decide) (Nat.le_of_ble_eq_true rfl) dX4_foresight_29 (c_J9_min_7cf53 pm_L0 _ _ _) (fun x1 w1 hq => ?_)
    obtain ⟨rfl, hw9⟩ := hq
    have hw9 := hw9.symm
    subst hw9
    rw [mn_nI (by omega) (by omega)]
    refine pm_cVi (as := [.ref _, .int _]) (by first | assumption | rfl) (by decide) rfl ml_RX4_140 (by decide) (Nat.le_of_ble_eq_true rfl) dX4_foresight_32 (c_X1_leastStalls hR hI (n := min k S.2.2.2.2.length) ⟨by omega, by omega⟩) (fun r w2 hq => ?_)
    obtain ⟨hq, hf⟩ := hq
    refine pm_iret dX4_foresight_35 rfl ?_
    rw [pu_fore, if_pos c7, nI_clamp (by omega)]
    exact ⟨hq, hf⟩
  · refine pm_bipush (x := -102) dX4_foresight_10 rfl ?_
    refine pm_iret dX4_foresight_12 rfl ?_
    rw [pm_z_0] at c7
    rw [pu_fore, if_neg (by rw [c7]; decide)]
    exact ⟨rfl, fun a _ => rfl⟩

