def pu_clear (S : ab_S) (a b c : Int32) : Int32 × ab_S := if pm_bw a 1 12 = true ∧ pm_bw b 1 3 = true ∧ pm_bw c 1 4 = true then (nI S.2.2.2.2.length, ab_beg a b c) else (-102, S)
def ab_fld (S : ab_S) (p j : Nat) (x : Int32) : ab_S := (S.1, S.2.1, va_up S.2.2.1 p (upd (S.2.2.1 p).1 j x, (S.2.2.1 p).2), S.2.2.2)
def pu_share (S : ab_S) (p n : Int32) : Int32 × ab_S := if pm_bw p 0 3 = true then (if pm_bw n 0 12 = true then (if S.2.2.2.1 4 < ab_sm (fun q => ab_t1 S q 8) 4 - (S.2.2.1 p.toNatClampNeg).1 4 + n then (-103, S) else ((S.2.2.1 p.toNatClampNeg).1 4, ab_fld S p.toNatClampNeg 4 n)) else (-102, S)) else (-101, S)
def pu_kind (S : ab_S) (p k r : Int32) : Int32 × ab_S := if pm_bw p 0 3 = true then (if pm_bw k 0 5 = true ∧ pm_bw r 0 8 = true then ((S.2.2.1 p.toNatClampNeg).1 2, (S.1, S.2.1, va_up S.2.2.1 p.toNatClampNeg (ab_become (S.2.2.1 p.toNatClampNeg) k r), S.2.2.2)) else (-102, S)) else (-101, S)
def pu_hint (S : ab_S) (p a b : Int32) : Int32 × ab_S := if pm_bw p 0 3 = true then (if pm_bw a 0 63 = true ∧ pm_bw b 0 63 = true ∧ a ≤ b then (if (S.2.2.1 p.toNatClampNeg).1 2 = 4 then (1, ab_fld (ab_fld S p.toNatClampNeg 5 a) p.toNatClampNeg 6 b) else (-103, S)) else (-102, S)) else (-101, S)
def pu_ask (S : ab_S) (p b : Int32) : Int32 × ab_S := if pm_bw p 0 3 = true then (if pm_bw b 0 63 = true then ((if ab_fi S.1 b < S.1.length then 0 else 1), ab_ans S (S.2.2.2.1 5).toNatClampNeg (S.2.2.2.1 6).toNatClampNeg p.toNatClampNeg b) else (-102, S)) else (-101, S)
def ab_idl (S : ab_S) (n : Nat) : Nat → ab_S × Int32
  | 0 => (S, 0)
  | k + 1 => ((ab_tick (ab_idl S n k).1 n none).1, (ab_idl S n k).2 + (ab_tick (ab_idl S n k).1 n none).2)
def pu_idle (S : ab_S) (n : Int32) : Int32 × ab_S := if pm_bw n 0 64 = true then ((ab_idl S (S.2.2.2.1 5).toNatClampNeg n.toNatClampNeg).2, (ab_idl S (S.2.2.2.1 5).toNatClampNeg n.toNatClampNeg).1) else (-102, S)
theorem as_fld {w : pm_W} {a : Nat} {A : ab_A} (h : as_R w a A) {j : Nat} (q1 : 2 ≤ j) (q2 : j < 9) (x : Int32) : as_R (pm_s w a (upd (w.1 a) j x)) a (upd A.1 j x, A.2) := by
  obtain ⟨h1, h2, h3⟩ := h
  refine ⟨fun t z1 z2 => ?_, fun t z => by rw [pm_s_ne (by omega)]; exact h2 t z, fun t z => by rw [pm_s_ne (by omega)]; exact h3 t z⟩
  rw [pm_s_at]
  by_cases ht : t = j
  · subst ht; rw [pk_us]; exact pk_us.symm
  · rw [pk_un ht]
    show _ = upd A.1 j x t
    rw [pk_un ht]
    exact h1 t z1 z2
theorem hs_fld {w : pm_W} {S : ab_S} (h : hs_R w 1 S) {p : Nat} (hp : p < 4) {j : Nat} (q1 : 2 ≤ j) (q2 : j < 9) (x : Int32) : hs_R (pm_s w (14 + 3 * p) (upd (w.1 (14 + 3 * p)) j x)) 1 (ab_fld S p j x) :=
  hs_ask h hp (as_fld (h.2.2.1 p hp) q1 q2 x) (fr_s (by omega) (by omega))
theorem fld_fr {w : pm_W} {p : Nat} (hp : p < 4) {f : Nat → Int32} : fr_out w (pm_s w (14 + 3 * p) f) 1 26 := fr_s (by omega) (by omega)

set_option maxRecDepth 4000 in
theorem c_X4_clear {w : pm_W} {S : ab_S} (hR : hs_R w 1 S) (a b c : Int32) : pm_C pm_L0 MX4_clear [.ref 0, .int a, .int b, .int c] w (pm_qi fun r w1 => r = (pu_clear S a b c).1 ∧ hs_R w1 1 (pu_clear S a b c).2 ∧ fr_out w w1 1 26) := by
  obtain ⟨g1, g2, g3, g4, g5, g6⟩ := id hR
  refine pm_start (lv := [some (.ref _), some (.int _), some (.int _), some (.int _), none]) (plainFor_of_name pf4) (Nat.le_of_ble_eq_true rfl) rfl ?_
  refine pm_iload_n dX4_clear_0 rfl ?_
  refine pm_iconst (x := 1) dX4_clear_1 rfl ?_
  refine pm_bipush (x := 12) dX4_clear_2 rfl ?_
  refine pm_cSi (as := [.int _, .int _, .int _]) ml_RX4_31 (by decide) (Nat.le_of_ble_eq_true rfl) dX4_clear_4 (c_X4_within pm_L0 _ _ _ _) (fun x1 w1 hq => ?_)
  obtain ⟨rfl, hw9⟩ := hq
  have hw9 := hw9.symm
  subst hw9
  refine pm_if_eq (tgt := 28) dX4_clear_7 (by decide) (fun c7 => ?_) (fun c7 => ?_)
  · refine pm_bipush (x := -102) dX4_clear_28 rfl ?_
    refine pm_iret dX4_clear_30 rfl ?_
    rw [pm_z_0] at c7
    rw [pu_clear, if_neg (by rintro ⟨z1, -, -⟩; rw [c7] at z1; cases z1)]
    exact ⟨rfl, hR, fr_rf _ _ _⟩
  · refine pm_iload_n dX4_clear_10 rfl ?_
    refine pm_iconst (x := 1) dX4_clear_11 rfl ?_
    refine pm_iconst (x := 3) dX4_clear_12 rfl ?_
    refine pm_cSi (as := [.int _, .int _, .int _]) ml_RX4_31 (by decide) (Nat.le_of_ble_eq_true rfl) dX4_clear_13 (c_X4_within pm_L0 _ _ _ _) (fun x1 w1 hq => ?_)
    obtain ⟨rfl, hw9⟩ := hq
    have hw9 := hw9.symm
    subst hw9
    refine pm_if_eq (tgt := 28) dX4_clear_16 (by decide) (fun c16 => ?_) (fun c16 => ?_)
    · refine pm_bipush (x := -102) dX4_clear_28 rfl ?_
      refine pm_iret dX4_clear_30 rfl ?_
      rw [pm_z_0] at c16
      rw [pu_clear, if_neg (by rintro ⟨-, z1, -⟩; rw [c16] at z1; cases z1)]
      exact ⟨rfl, hR, fr_rf _ _ _⟩
    · refine pm_iload_n dX4_clear_19 rfl ?_
      refine pm_iconst (x := 1) dX4_clear_20 rfl ?_
      refine pm_iconst (x := 4) dX4_clear_21 rfl ?_
      refine pm_cSi (as := [.int _, .int _, .int _]) ml_RX4_31 (by decide) (Nat.le_of_ble_eq_true rfl) dX4_clear_22 (c_X4_within pm_L0 _ _ _ _) (fun x1 w1 hq => ?_)
      obtain ⟨rfl, hw9⟩ := hq
      have hw9 := hw9.symm
      subst hw9
      refine pm_if_ne (tgt := 31) dX4_clear_25 (by decide) (fun c25 => ?_) (fun c25 => ?_)
      · refine pm_aload_n dX4_clear_31 rfl ?_
        refine pm_getR (ci := 4) (j := 0) (n := 4) (by first | assumption | rfl) (by decide) (by decide) rfl fl_RX4_10 rfl (by first | assumption | rfl) dX4_clear_32 ?_
        refine pm_getI (ci := 3) (j := 10) (n := 11) (by first | assumption | rfl) (by decide) (by decide) rfl fl_RX4_35 rfl dX4_clear_35 ?_
        rw [g5]
        refine pm_istore (lv' := [some (.ref _), some (.int _), some (.int _), some (.int _), some (.int _)]) dX4_clear_38 (by decide) rfl ?_
        refine pm_aload_n dX4_clear_40 rfl ?_
        refine pm_getR (ci := 4) (j := 0) (n := 4) (by first | assumption | rfl) (by decide) (by decide) rfl fl_RX4_10 rfl (by first | assumption | rfl) dX4_clear_41 ?_
        refine pm_iload_n dX4_clear_44 rfl ?_
        refine pm_iload_n dX4_clear_45 rfl ?_
        refine pm_iload_n dX4_clear_46 rfl ?_
        refine pm_cVv (as := [.int _, .int _, .int _]) (by first | assumption | rfl) (by decide) rfl ml_RX4_39 (by decide) (Nat.le_of_ble_eq_true rfl) dX4_clear_47 (c_X3_begin L0_hs1 _ a b c) (fun w1 hq => ?_)
        obtain ⟨q1, q2⟩ := hq
        refine pm_iload dX4_clear_50 rfl ?_
        refine pm_iret dX4_clear_52 rfl ?_
        rw [pm_z_1] at c7 c16 c25
        rw [pu_clear, if_pos ⟨c7, c16, c25⟩]
        exact ⟨rfl, q1, fr_wd q2 (by omega) (by omega)⟩
      · refine pm_bipush (x := -102) dX4_clear_28 rfl ?_
        refine pm_iret dX4_clear_30 rfl ?_
        rw [pm_z_0] at c25
        rw [pu_clear, if_neg (by rintro ⟨-, -, z1⟩; rw [c25] at z1; cases z1)]
        exact ⟨rfl, hR, fr_rf _ _ _⟩

set_option maxRecDepth 4000 in
theorem c_X4_share {w : pm_W} {S : ab_S} (hR : hs_R w 1 S) (p n : Int32) : pm_C pm_L0 MX4_share [.ref 0, .int p, .int n] w (pm_qi fun r w1 => r = (pu_share S p n).1 ∧ hs_R w1 1 (pu_share S p n).2 ∧ fr_out w w1 1 26) := by
  obtain ⟨g1, g2, g3, g4, g5, g6⟩ := id hR
  refine pm_start (lv := [some (.ref _), some (.int _), some (.int _), none]) (plainFor_of_name pf4) (Nat.le_of_ble_eq_true rfl) rfl ?_
  refine pm_iload_n dX4_share_0 rfl ?_
  refine pm_cSi (as := [.int _]) ml_RX4_43 (by decide) (Nat.le_of_ble_eq_true rfl) dX4_share_1 (c_X4_isAsker pm_L0 _ _) (fun x1 w1 hq => ?_)
  obtain ⟨rfl, hw9⟩ := hq
  have hw9 := hw9.symm
  subst hw9
  refine pm_if_ne (tgt := 10) dX4_share_4 (by decide) (fun c4 => ?_) (fun c4 => ?_)
  · rw [pm_z_1] at c4
    obtain ⟨q, hq4, rfl⟩ := as_of c4
    obtain ⟨ha0, hao⟩ := L0_ask hq4
    obtain ⟨a1, a2, a3, a4, a5⟩ := id hao
    have hga : as_R w (14 + 3 * q) (S.2.2.1 q) := g3 q hq4
    refine pm_iload_n dX4_share_10 rfl ?_
    refine pm_iconst (x := 0) dX4_share_11 rfl ?_
    refine pm_bipush (x := 12) dX4_share_12 rfl ?_
    refine pm_cSi (as := [.int _, .int _, .int _]) ml_RX4_31 (by decide) (Nat.le_of_ble_eq_true rfl) dX4_share_14 (c_X4_within pm_L0 _ _ _ _) (fun x1 w1 hq => ?_)
    obtain ⟨rfl, hw9⟩ := hq
    have hw9 := hw9.symm
    subst hw9
    refine pm_if_ne (tgt := 23) dX4_share_17 (by decide) (fun c17 => ?_) (fun c17 => ?_)
    · rw [pm_z_1] at c17
      refine pm_aload_n dX4_share_23 rfl ?_
      refine pm_getR (ci := 4) (j := 0) (n := 4) (by first | assumption | rfl) (by decide) (by decide) rfl fl_RX4_10 rfl (by first | assumption | rfl) dX4_share_24 ?_
      refine pm_getR (ci := 3) (j := 2) (n := 11) (by first | assumption | rfl) (by decide) (by decide) rfl fl_RX4_47 rfl (by first | assumption | rfl) dX4_share_27 ?_
      refine pm_iload_n dX4_share_30 rfl ?_
      refine pm_kaldN (by first | assumption | rfl) (by first | assumption | omega | decide) (by first | decide | omega) (by first | assumption | rfl) dX4_share_31 ?_
      refine pm_getI (ci := 0) (j := 4) (n := 10) (by first | assumption | rfl) (by decide) (by decide) rfl fl_RX4_51 rfl dX4_share_32 ?_
      rw [hga.1 4 (by decide) (by decide)]
      refine pm_istore_n (lv' := [some (.ref _), some (.int _), some (.int _), some (.int _)]) dX4_share_35 (by decide) rfl ?_
      refine pm_aload_n dX4_share_36 rfl ?_
      refine pm_bipush (x := nI 8) dX4_share_37 rfl ?_
      refine pm_cVi (as := [.int _]) (by first | assumption | rfl) (by decide) rfl ml_RX4_56 (by decide) (Nat.le_of_ble_eq_true rfl) dX4_share_39 (c_X4_toldOfAll hR (by decide)) (fun x1 w1 hq => ?_)
      obtain ⟨rfl, hw9⟩ := hq
      have hw9 := hw9.symm
      subst hw9
      refine pm_iload_n dX4_share_42 rfl ?_
      refine pm_isub dX4_share_43 ?_
      refine pm_iload_n dX4_share_44 rfl ?_
      refine pm_iadd dX4_share_45 ?_
      refine pm_aload_n dX4_share_46 rfl ?_
      refine pm_getR (ci := 4) (j := 0) (n := 4) (by first | assumption | rfl) (by decide) (by decide) rfl fl_RX4_10 rfl (by first | assumption | rfl) dX4_share_47 ?_
      refine pm_getI (ci := 3) (j := 4) (n := 11) (by first | assumption | rfl) (by decide) (by decide) rfl fl_RX4_60 rfl dX4_share_50 ?_
      rw [g4 4 (by decide) (by decide)]
      refine pm_icmp_le (tgt := 59) dX4_share_53 (by decide) (fun c53 => ?_) (fun c53 => ?_)
      · refine pm_aload_n dX4_share_59 rfl ?_
        refine pm_getR (ci := 4) (j := 0) (n := 4) (by first | assumption | rfl) (by decide) (by decide) rfl fl_RX4_10 rfl (by first | assumption | rfl) dX4_share_60 ?_
        refine pm_getR (ci := 3) (j := 2) (n := 11) (by first | assumption | rfl) (by decide) (by decide) rfl fl_RX4_47 rfl (by first | assumption | rfl) dX4_share_63 ?_
        refine pm_iload_n dX4_share_66 rfl ?_
        refine pm_kaldN (by first | assumption | rfl) (by first | assumption | omega | decide) (by first | decide | omega) (by first | assumption | rfl) dX4_share_67 ?_
        refine pm_iload_n dX4_share_68 rfl ?_
        refine pm_putI (ci := 0) (j := 4) (n := 10) (by first | assumption | rfl) (by decide) (by decide) rfl fl_RX4_51 rfl rfl dX4_share_69 ?_
        refine pm_iload_n dX4_share_72 rfl ?_
        refine pm_iret dX4_share_73 rfl ?_
        rw [pu_share, if_pos c4, if_pos c17, nI_clamp (by omega), if_neg (Int32.not_lt.mpr c53)]
        exact ⟨rfl, hs_fld hR hq4 (by decide) (by decide) n, fld_fr hq4⟩
      · refine pm_bipush (x := -103) dX4_share_56 rfl ?_
        refine pm_iret dX4_share_58 rfl ?_
        rw [pu_share, if_pos c4, if_pos c17, nI_clamp (by omega), if_pos (Int32.not_le.mp c53)]
        exact ⟨rfl, hR, fr_rf _ _ _⟩
    · refine pm_bipush (x := -102) dX4_share_20 rfl ?_
      refine pm_iret dX4_share_22 rfl ?_
      rw [pm_z_0] at c17
      rw [pu_share, if_pos c4, if_neg (by rw [c17]; decide)]
      exact ⟨rfl, hR, fr_rf _ _ _⟩
  · refine pm_bipush (x := -101) dX4_share_7 rfl ?_
    refine pm_iret dX4_share_9 rfl ?_
    rw [pm_z_0] at c4
    rw [pu_share, if_neg (by rw [c4]; decide)]
    exact ⟨rfl, hR, fr_rf _ _ _⟩

set_option maxRecDepth 4000 in
theorem c_X4_kind {w : pm_W} {S : ab_S} (hR : hs_R w 1 S) (p k r : Int32) : pm_C pm_L0 MX4_kind [.ref 0, .int p, .int k, .int r] w (pm_qi fun x w1 => x = (pu_kind S p k r).1 ∧ hs_R w1 1 (pu_kind S p k r).2 ∧ fr_out w w1 1 26) := by
  obtain ⟨g1, g2, g3, g4, g5, g6⟩ := id hR
  refine pm_start (lv := [some (.ref _), some (.int _), some (.int _), some (.int _), none]) (plainFor_of_name pf4) (Nat.le_of_ble_eq_true rfl) rfl ?_
  refine pm_iload_n dX4_kind_0 rfl ?_
  refine pm_cSi (as := [.int _]) ml_RX4_43 (by decide) (Nat.le_of_ble_eq_true rfl) dX4_kind_1 (c_X4_isAsker pm_L0 _ _) (fun x1 w1 hq => ?_)
  obtain ⟨rfl, hw9⟩ := hq
  have hw9 := hw9.symm
  subst hw9
  refine pm_if_ne (tgt := 10) dX4_kind_4 (by decide) (fun c4 => ?_) (fun c4 => ?_)
  · rw [pm_z_1] at c4
    obtain ⟨q, hq4, rfl⟩ := as_of c4
    obtain ⟨ha0, hao⟩ := L0_ask hq4
    obtain ⟨a1, a2, a3, a4, a5⟩ := id hao
    have hga : as_R w (14 + 3 * q) (S.2.2.1 q) := g3 q hq4
    refine pm_iload_n dX4_kind_10 rfl ?_
    refine pm_iconst (x := 0) dX4_kind_11 rfl ?_
    refine pm_iconst (x := 5) dX4_kind_12 rfl ?_
    refine pm_cSi (as := [.int _, .int _, .int _]) ml_RX4_31 (by decide) (Nat.le_of_ble_eq_true rfl) dX4_kind_13 (c_X4_within pm_L0 _ _ _ _) (fun x1 w1 hq => ?_)
    obtain ⟨rfl, hw9⟩ := hq
    have hw9 := hw9.symm
    subst hw9
    refine pm_if_eq (tgt := 29) dX4_kind_16 (by decide) (fun c16 => ?_) (fun c16 => ?_)
    · refine pm_bipush (x := -102) dX4_kind_29 rfl ?_
      refine pm_iret dX4_kind_31 rfl ?_
      rw [pm_z_0] at c16
      rw [pu_kind, if_pos c4, if_neg (by rintro ⟨z1, -⟩; rw [c16] at z1; cases z1)]
      exact ⟨rfl, hR, fr_rf _ _ _⟩
    · refine pm_iload_n dX4_kind_19 rfl ?_
      refine pm_iconst (x := 0) dX4_kind_20 rfl ?_
      refine pm_bipush (x := 8) dX4_kind_21 rfl ?_
      refine pm_cSi (as := [.int _, .int _, .int _]) ml_RX4_31 (by decide) (Nat.le_of_ble_eq_true rfl) dX4_kind_23 (c_X4_within pm_L0 _ _ _ _) (fun x1 w1 hq => ?_)
      obtain ⟨rfl, hw9⟩ := hq
      have hw9 := hw9.symm
      subst hw9
      refine pm_if_ne (tgt := 32) dX4_kind_26 (by decide) (fun c26 => ?_) (fun c26 => ?_)
      · refine pm_aload_n dX4_kind_32 rfl ?_
        refine pm_getR (ci := 4) (j := 0) (n := 4) (by first | assumption | rfl) (by decide) (by decide) rfl fl_RX4_10 rfl (by first | assumption | rfl) dX4_kind_33 ?_
        refine pm_getR (ci := 3) (j := 2) (n := 11) (by first | assumption | rfl) (by decide) (by decide) rfl fl_RX4_47 rfl (by first | assumption | rfl) dX4_kind_36 ?_
        refine pm_iload_n dX4_kind_39 rfl ?_
        refine pm_kaldN (by first | assumption | rfl) (by first | assumption | omega | decide) (by first | decide | omega) (by first | assumption | rfl) dX4_kind_40 ?_
        refine pm_getI (ci := 0) (j := 2) (n := 10) (by first | assumption | rfl) (by decide) (by decide) rfl fl_RX4_63 rfl dX4_kind_41 ?_
        rw [hga.1 2 (by decide) (by decide)]
        refine pm_istore (lv' := [some (.ref _), some (.int _), some (.int _), some (.int _), some (.int _)]) dX4_kind_44 (by decide) rfl ?_
        refine pm_aload_n dX4_kind_46 rfl ?_
        refine pm_getR (ci := 4) (j := 0) (n := 4) (by first | assumption | rfl) (by decide) (by decide) rfl fl_RX4_10 rfl (by first | assumption | rfl) dX4_kind_47 ?_
        refine pm_getR (ci := 3) (j := 2) (n := 11) (by first | assumption | rfl) (by decide) (by decide) rfl fl_RX4_47 rfl (by first | assumption | rfl) dX4_kind_50 ?_
        refine pm_iload_n dX4_kind_53 rfl ?_
        refine pm_kaldN (by first | assumption | rfl) (by first | assumption | omega | decide) (by first | decide | omega) (by first | assumption | rfl) dX4_kind_54 ?_
        refine pm_iload_n dX4_kind_55 rfl ?_
        refine pm_iload_n dX4_kind_56 rfl ?_
        refine pm_cVv (as := [.int _, .int _]) (by first | assumption | rfl) (by decide) rfl ml_RX4_66 (by decide) (Nat.le_of_ble_eq_true rfl) dX4_kind_57 (c_X0_become hao hga k r) (fun w1 hq => ?_)
        obtain ⟨q1, -, q2⟩ := hq
        refine pm_iload dX4_kind_60 rfl ?_
        refine pm_iret dX4_kind_62 rfl ?_
        rw [pm_z_1] at c16 c26
        rw [pu_kind, if_pos c4, if_pos ⟨c16, c26⟩, nI_clamp (by omega)]
        exact ⟨rfl, hs_ask hR hq4 q1 q2, fr_wd q2 (by omega) (by omega)⟩
      · refine pm_bipush (x := -102) dX4_kind_29 rfl ?_
        refine pm_iret dX4_kind_31 rfl ?_
        rw [pm_z_0] at c26
        rw [pu_kind, if_pos c4, if_neg (by rintro ⟨-, z1⟩; rw [c26] at z1; cases z1)]
        exact ⟨rfl, hR, fr_rf _ _ _⟩
  · refine pm_bipush (x := -101) dX4_kind_7 rfl ?_
    refine pm_iret dX4_kind_9 rfl ?_
    rw [pm_z_0] at c4
    rw [pu_kind, if_neg (by rw [c4]; decide)]
    exact ⟨rfl, hR, fr_rf _ _ _⟩

set_option maxRecDepth 4000 in
theorem c_X4_hint {w : pm_W} {S : ab_S} (hR : hs_R w 1 S) (p a b : Int32) : pm_C pm_L0 MX4_hint [.ref 0, .int p, .int a, .int b] w (pm_qi fun x w1 => x = (pu_hint S p a b).1 ∧ hs_R w1 1 (pu_hint S p a b).2 ∧ fr_out w w1 1 26) := by
  obtain ⟨g1, g2, g3, g4, g5, g6⟩ := id hR
  refine pm_start (lv := [some (.ref _), some (.int _), some (.int _), some (.int _), none]) (plainFor_of_name pf4) (Nat.le_of_ble_eq_true rfl) rfl ?_
  refine pm_iload_n dX4_hint_0 rfl ?_
  refine pm_cSi (as := [.int _]) ml_RX4_43 (by decide) (Nat.le_of_ble_eq_true rfl) dX4_hint_1 (c_X4_isAsker pm_L0 _ _) (fun x1 w1 hq => ?_)
  obtain ⟨rfl, hw9⟩ := hq
  have hw9 := hw9.symm
  subst hw9
  refine pm_if_ne (tgt := 10) dX4_hint_4 (by decide) (fun c4 => ?_) (fun c4 => ?_)
  · rw [pm_z_1] at c4
    obtain ⟨q, hq4, rfl⟩ := as_of c4
    obtain ⟨ha0, hao⟩ := L0_ask hq4
    obtain ⟨a1, a2, a3, a4, a5⟩ := id hao
    have hga : as_R w (14 + 3 * q) (S.2.2.1 q) := g3 q hq4
    refine pm_iload_n dX4_hint_10 rfl ?_
    refine pm_cSi (as := [.int _]) ml_RX4_70 (by decide) (Nat.le_of_ble_eq_true rfl) dX4_hint_11 (c_X4_isBlock pm_L0 _ _) (fun x1 w1 hq => ?_)
    obtain ⟨rfl, hw9⟩ := hq
    have hw9 := hw9.symm
    subst hw9
    refine pm_if_eq (tgt := 29) dX4_hint_14 (by decide) (fun c14 => ?_) (fun c14 => ?_)
    · refine pm_bipush (x := -102) dX4_hint_29 rfl ?_
      refine pm_iret dX4_hint_31 rfl ?_
      rw [pm_z_0] at c14
      rw [pu_hint, if_pos c4, if_neg (by rintro ⟨z1, -, -⟩; rw [c14] at z1; cases z1)]
      exact ⟨rfl, hR, fr_rf _ _ _⟩
    · refine pm_iload_n dX4_hint_17 rfl ?_
      refine pm_cSi (as := [.int _]) ml_RX4_70 (by decide) (Nat.le_of_ble_eq_true rfl) dX4_hint_18 (c_X4_isBlock pm_L0 _ _) (fun x1 w1 hq => ?_)
      obtain ⟨rfl, hw9⟩ := hq
      have hw9 := hw9.symm
      subst hw9
      refine pm_if_eq (tgt := 29) dX4_hint_21 (by decide) (fun c21 => ?_) (fun c21 => ?_)
      · refine pm_bipush (x := -102) dX4_hint_29 rfl ?_
        refine pm_iret dX4_hint_31 rfl ?_
        rw [pm_z_0] at c21
        rw [pu_hint, if_pos c4, if_neg (by rintro ⟨-, z1, -⟩; rw [c21] at z1; cases z1)]
        exact ⟨rfl, hR, fr_rf _ _ _⟩
      · refine pm_iload_n dX4_hint_24 rfl ?_
        refine pm_iload_n dX4_hint_25 rfl ?_
        refine pm_icmp_le (tgt := 32) dX4_hint_26 (by decide) (fun c26 => ?_) (fun c26 => ?_)
        · refine pm_aload_n dX4_hint_32 rfl ?_
          refine pm_getR (ci := 4) (j := 0) (n := 4) (by first | assumption | rfl) (by decide) (by decide) rfl fl_RX4_10 rfl (by first | assumption | rfl) dX4_hint_33 ?_
          refine pm_getR (ci := 3) (j := 2) (n := 11) (by first | assumption | rfl) (by decide) (by decide) rfl fl_RX4_47 rfl (by first | assumption | rfl) dX4_hint_36 ?_
          refine pm_iload_n dX4_hint_39 rfl ?_
          refine pm_kaldN (by first | assumption | rfl) (by first | assumption | omega | decide) (by first | decide | omega) (by first | assumption | rfl) dX4_hint_40 ?_
          refine pm_astore (lv' := [some (.ref _), some (.int _), some (.int _), some (.int _), some (.ref _)]) dX4_hint_41 (by decide) rfl ?_
          refine pm_aload dX4_hint_43 rfl ?_
          refine pm_getI (ci := 0) (j := 2) (n := 10) (by first | assumption | rfl) (by decide) (by decide) rfl fl_RX4_63 rfl dX4_hint_45 ?_
          rw [hga.1 2 (by decide) (by decide)]
          refine pm_iconst (x := 4) dX4_hint_48 rfl ?_
          refine pm_icmp_eq (tgt := 55) dX4_hint_49 (by decide) (fun c49 => ?_) (fun c49 => ?_)
          · refine pm_aload dX4_hint_55 rfl ?_
            refine pm_iload_n dX4_hint_57 rfl ?_
            refine pm_putI (ci := 0) (j := 5) (n := 10) (by first | assumption | rfl) (by decide) (by decide) rfl fl_RX4_73 rfl rfl dX4_hint_58 ?_
            refine pm_aload dX4_hint_61 rfl ?_
            refine pm_iload_n dX4_hint_63 rfl ?_
            refine pm_putI (ci := 0) (j := 6) (n := 10) (by first | assumption | rfl) (by decide) (by decide) rfl fl_RX4_76 rfl rfl dX4_hint_64 ?_
            refine pm_iconst (x := 1) dX4_hint_67 rfl ?_
            refine pm_iret dX4_hint_68 rfl ?_
            rw [pm_z_1] at c14 c21
            rw [pu_hint, if_pos c4, if_pos ⟨c14, c21, c26⟩, nI_clamp (by omega), if_pos c49]
            exact ⟨rfl, hs_fld (hs_fld hR hq4 (by decide) (by decide) a) hq4 (by decide) (by decide) b, fr_st (fld_fr hq4) (by omega) (by omega)⟩
          · refine pm_bipush (x := -103) dX4_hint_52 rfl ?_
            refine pm_iret dX4_hint_54 rfl ?_
            rw [pm_z_1] at c14 c21
            rw [pu_hint, if_pos c4, if_pos ⟨c14, c21, c26⟩, nI_clamp (by omega), if_neg c49]
            exact ⟨rfl, hR, fr_rf _ _ _⟩
        · refine pm_bipush (x := -102) dX4_hint_29 rfl ?_
          refine pm_iret dX4_hint_31 rfl ?_
          rw [pu_hint, if_pos c4, if_neg (by rintro ⟨-, -, z1⟩; exact c26 z1)]
          exact ⟨rfl, hR, fr_rf _ _ _⟩
  · refine pm_bipush (x := -101) dX4_hint_7 rfl ?_
    refine pm_iret dX4_hint_9 rfl ?_
    rw [pm_z_0] at c4
    rw [pu_hint, if_neg (by rw [c4]; decide)]
    exact ⟨rfl, hR, fr_rf _ _ _⟩

set_option maxRecDepth 4000 in
theorem c_X4_ask {w : pm_W} {S : ab_S} (hR : hs_R w 1 S) (hI : ab_I S) (hlen : S.2.2.2.2.length < 1000000) (p b : Int32) : pm_C pm_L0 MX4_ask [.ref 0, .int p, .int b] w (pm_qi fun x w1 => x = (pu_ask S p b).1 ∧ hs_R w1 1 (pu_ask S p b).2 ∧ fr_out w w1 1 26) := by
  obtain ⟨g1, g2, g3, g4, g5, g6⟩ := id hR
  obtain ⟨⟨sp, i1, i2, i3, i4⟩, i5, i6, i7, i8, i9, i10, i11, i12⟩ := id hI
  obtain ⟨n, n0, n1, n2⟩ := i10
  obtain ⟨pc, p0, p1, p2⟩ := i11
  refine pm_start (lv := [some (.ref _), some (.int _), some (.int _)]) (plainFor_of_name pf4) (Nat.le_of_ble_eq_true rfl) rfl ?_
  refine pm_iload_n dX4_ask_0 rfl ?_
  refine pm_cSi (as := [.int _]) ml_RX4_43 (by decide) (Nat.le_of_ble_eq_true rfl) dX4_ask_1 (c_X4_isAsker pm_L0 _ _) (fun x1 w1 hq => ?_)
  obtain ⟨rfl, hw9⟩ := hq
  have hw9 := hw9.symm
  subst hw9
  refine pm_if_ne (tgt := 10) dX4_ask_4 (by decide) (fun c4 => ?_) (fun c4 => ?_)
  · rw [pm_z_1] at c4
    obtain ⟨q, hq4, rfl⟩ := as_of c4
    obtain ⟨ha0, hao⟩ := L0_ask hq4
    obtain ⟨a1, a2, a3, a4, a5⟩ := id hao
    have hga : as_R w (14 + 3 * q) (S.2.2.1 q) := g3 q hq4
    refine pm_iload_n dX4_ask_10 rfl ?_
    refine pm_cSi (as := [.int _]) ml_RX4_70 (by decide) (Nat.le_of_ble_eq_true rfl) dX4_ask_11 (c_X4_isBlock pm_L0 _ _) (fun x1 w1 hq => ?_)
    obtain ⟨rfl, hw9⟩ := hq
    have hw9 := hw9.symm
    subst hw9
    refine pm_if_ne (tgt := 20) dX4_ask_14 (by decide) (fun c14 => ?_) (fun c14 => ?_)
    · rw [pm_z_1] at c14
      refine pm_aload_n dX4_ask_20 rfl ?_
      refine pm_getR (ci := 4) (j := 0) (n := 4) (by first | assumption | rfl) (by decide) (by decide) rfl fl_RX4_10 rfl (by first | assumption | rfl) dX4_ask_21 ?_
      refine pm_iload_n dX4_ask_24 rfl ?_
      refine pm_iload_n dX4_ask_25 rfl ?_
      refine pm_cVi (as := [.int _, .int _]) (by first | assumption | rfl) (by decide) rfl ml_RX4_79 (by decide) (Nat.le_of_ble_eq_true rfl) dX4_ask_26 (c_X3_answer L0_hs1 hR hI hlen hq4 (pm_bw_t.mp c14) n0 n1 n2 p0 p1 p2) (fun x1 w1 hq => ?_)
      obtain ⟨q1, q2, q3⟩ := hq
      refine pm_iret dX4_ask_29 rfl ?_
      rw [pu_ask, if_pos c4, if_pos c14, nI_clamp (by omega), n0, p0, nI_clamp (by omega), nI_clamp (by omega)]
      exact ⟨q1, q2, fr_wd q3 (by omega) (by omega)⟩
    · refine pm_bipush (x := -102) dX4_ask_17 rfl ?_
      refine pm_iret dX4_ask_19 rfl ?_
      rw [pm_z_0] at c14
      rw [pu_ask, if_pos c4, if_neg (by rw [c14]; decide)]
      exact ⟨rfl, hR, fr_rf _ _ _⟩
  · refine pm_bipush (x := -101) dX4_ask_7 rfl ?_
    refine pm_iret dX4_ask_9 rfl ?_
    rw [pm_z_0] at c4
    rw [pu_ask, if_neg (by rw [c4]; decide)]
    exact ⟨rfl, hR, fr_rf _ _ _⟩

theorem c_X4_idle {w : pm_W} {S : ab_S} (hR : hs_R w 1 S) (hI : ab_I S) (m : Int32) : pm_C pm_L0 MX4_idle [.ref 0, .int m] w (pm_qi fun x w1 => x = (pu_idle S m).1 ∧ hs_R w1 1 (pu_idle S m).2 ∧ fr_out w w1 1 26) := by
  obtain ⟨g1, g2, g3, g4, g5, g6⟩ := id hR
  obtain ⟨⟨sp, i1, i2, i3, i4⟩, i5, i6, i7, i8, i9, i10, i11, i12⟩ := id hI
  obtain ⟨n, n0, n1, n2⟩ := i10
  have loop : ∀ k, k ≤ 64 → pm_bw (nI k) 0 64 = true → ∀ i, i ≤ k → ∀ w1, hs_R w1 1 (ab_idl S n i).1 → ab_I (ab_idl S n i).1 → (ab_idl S n i).1.2.2.2.1 5 = nI n → fr_out w w1 1 26 → pm_R pm_L0 MX4_idle 17 [some (.ref 0), some (.int (nI k)), some (.int (ab_idl S n i).2), some (.int (nI i))] [] w1 (pm_qi fun x w1 => x = (pu_idle S (nI k)).1 ∧ hs_R w1 1 (pu_idle S (nI k)).2 ∧ fr_out w w1 1 26) := by
    intro k hk64 c7
    refine up_loop k (fun i hi ih w1 hR1 hI1 hn5 hf1 => ?_)
    refine pm_iload_n dX4_idle_17 rfl ?_
    refine pm_iload_n dX4_idle_18 rfl ?_
    refine pm_icmp_ge (tgt := 40) dX4_idle_19 (by decide) (fun c19 => ?_) (fun c19 => ?_)
    · refine pm_iload_n dX4_idle_40 rfl ?_
      refine pm_iret dX4_idle_41 rfl ?_
      rw [nI_leI (by omega) (by omega)] at c19
      have : i = k := by omega
      subst this
      rw [pu_idle, if_pos c7, n0, nI_clamp (by omega), nI_clamp (by omega)]
      exact ⟨rfl, hR1, hf1⟩
    · have hlt : i < k := by
        rw [nI_leI (by omega) (by omega)] at c19
        omega
      refine pm_iload_n dX4_idle_22 rfl ?_
      refine pm_aload_n dX4_idle_23 rfl ?_
      refine pm_getR (ci := 4) (j := 0) (n := 4) (by first | assumption | rfl) (by decide) (by decide) rfl fl_RX4_10 rfl (by first | assumption | rfl) dX4_idle_24 ?_
      refine pm_iconst (x := -1) dX4_idle_27 rfl ?_
      refine pm_iconst (x := -1) dX4_idle_28 rfl ?_
      refine pm_cVi (as := [.int _, .int _]) (by first | assumption | rfl) (by decide) rfl ml_RX4_83 (by decide) (Nat.le_of_ble_eq_true rfl) dX4_idle_29 (c_X3_tick0 L0_hs1 hR1 hI1 (n := n) hn5 n2) (fun x2 w2 hq => ?_)
      obtain ⟨rfl, hR2, hf2⟩ := hq
      refine pm_iadd dX4_idle_32 ?_
      refine pm_istore_n (lv' := [some (.ref _), some (.int _), some (.int _), some (.int _)]) dX4_idle_33 (by decide) rfl ?_
      refine pm_iinc (y := _ + 1) (lv' := [some (.ref _), some (.int _), some (.int _), some (.int _)]) dX4_idle_34 rfl rfl (by decide) rfl ?_
      refine pm_goto (tgt := 17) dX4_idle_37 (by decide) ?_
      rw [nI_1]
      exact ih hlt _ hR2 (I_tick hI1 (fun d hd => by cases hd)) ((kp_tick _ _ _).2.2.1.trans hn5) (fr_tr hf1 (fr_wd hf2 (by omega) (by omega)))
  refine pm_start (lv := [some (.ref _), some (.int _), none, none]) (plainFor_of_name pf4) (Nat.le_of_ble_eq_true rfl) rfl ?_
  refine pm_iload_n dX4_idle_0 rfl ?_
  refine pm_iconst (x := 0) dX4_idle_1 rfl ?_
  refine pm_bipush (x := 64) dX4_idle_2 rfl ?_
  refine pm_cSi (as := [.int _, .int _, .int _]) ml_RX4_31 (by decide) (Nat.le_of_ble_eq_true rfl) dX4_idle_4 (c_X4_within pm_L0 _ _ _ _) (fun x1 w1 hq => ?_)
  obtain ⟨rfl, hw9⟩ := hq
  have hw9 := hw9.symm
  subst hw9
  refine pm_if_ne (tgt := 13) dX4_idle_7 (by decide) (fun c7 => ?_) (fun c7 => ?_)
  · rw [pm_z_1] at c7
    obtain ⟨k, hk, rfl⟩ := bw_of (n := 64) (by decide) c7
    refine pm_iconst (x := 0) dX4_idle_13 rfl ?_
    refine pm_istore_n (lv' := [some (.ref _), some (.int _), some (.int _), none]) dX4_idle_14 (by decide) rfl ?_
    refine pm_iconst (x := 0) dX4_idle_15 rfl ?_
    refine pm_istore_n (lv' := [some (.ref _), some (.int _), some (.int _), some (.int _)]) dX4_idle_16 (by decide) rfl ?_
    exact loop k hk c7 0 (Nat.zero_le _) w hR hI n0 (fr_rf _ _ _)
  · refine pm_bipush (x := -102) dX4_idle_10 rfl ?_
    refine pm_iret dX4_idle_12 rfl ?_
    rw [pm_z_0] at c7
    rw [pu_idle, if_neg (by rw [c7]; decide)]
    exact ⟨rfl, hR, fr_rf _ _ _⟩

