theorem hd_at {w : pm_W} {k : Nat} {l : List ab_E} (h : hd_R w k l) {i : Nat} (hi : i < l.length) : w.1 (k + 2) i = (l.getD i (0, 0, 0)).1 ∧ w.1 (k + 3) i = nI (l.getD i (0, 0, 0)).2.1 ∧ w.1 (k + 4) i = (l.getD i (0, 0, 0)).2.2 := h.2.1 i _ (at_getD hi)
theorem bw_len {x : Int32} {n : Nat} (hn : n < 2 ^ 30) (h : pm_bw x 0 (nI n - 1) = true) : ∃ i, i < n ∧ x = nI i := by
  have h := pm_bw_t.mp h
  have h0 := Int32.le_iff_toInt_le.mp h.1
  have h1 := Int32.le_iff_toInt_le.mp h.2
  have e : (nI n - 1).toInt = (n : Int) - 1 := by
    rw [show (1 : Int32) = nI 1 from rfl]
    exact pk_sub_toInt (by omega) (by decide)
  have z : (0 : Int32).toInt = 0 := by decide
  rw [e] at h1
  rw [z] at h0
  obtain ⟨j, hj, e2⟩ := nI_of (x := x) (Int32.not_lt.mpr h.1)
  rw [e2, nI_toInt hj] at h1
  exact ⟨j, by omega, e2⟩
def pu_room (S : ab_S) (i x : Int32) : Int32 := if pm_bw x 0 3 = true then (if pm_bw i 0 (nI S.1.length - 1) = true then (if x = 0 then (S.1.getD i.toNatClampNeg (0, 0, 0)).1 else if x = 1 then nI (S.1.getD i.toNatClampNeg (0, 0, 0)).2.1 else if x = 2 then (S.1.getD i.toNatClampNeg (0, 0, 0)).2.2 else pm_z (ab_lf (S.2.2.1 (S.1.getD i.toNatClampNeg (0, 0, 0)).2.1) (S.1.getD i.toNatClampNeg (0, 0, 0)).1)) else -1) else -102
def pu_wait (S : ab_S) (i x : Int32) : Int32 := if pm_bw x 0 1 = true then (if pm_bw i 0 (nI S.2.1.length - 1) = true then (if x = 0 then (S.2.1.getD i.toNatClampNeg (0, 0, 0)).1 else nI (S.2.1.getD i.toNatClampNeg (0, 0, 0)).2.1) else -1) else -102

set_option maxRecDepth 4000 in
theorem c_X4_room {w : pm_W} {S : ab_S} (hR : hs_R w 1 S) (hI : ab_I S) (x y : Int32) : pm_C pm_L0 MX4_room [.ref 0, .int x, .int y] w (pm_qi fun r w1 => r = pu_room S x y ∧ w1 = w) := by
  obtain ⟨g1, g2, g3, g4, g5, g6⟩ := id hR
  obtain ⟨⟨sp, i1, i2, i3, i4⟩, i5, i6, i7, i8, i9, i10, i11, i12⟩ := id hI
  refine pm_start (lv := [some (.ref _), some (.int _), some (.int _), none]) (plainFor_of_name pf4) (Nat.le_of_ble_eq_true rfl) rfl ?_
  refine pm_iload_n dX4_room_0 rfl ?_
  refine pm_iconst (x := 0) dX4_room_1 rfl ?_
  refine pm_iconst (x := 3) dX4_room_2 rfl ?_
  refine pm_cSi (as := [.int _, .int _, .int _]) ml_RX4_31 (by decide) (Nat.le_of_ble_eq_true rfl) dX4_room_3 (c_X4_within pm_L0 _ _ _ _) (fun x1 w1 hq => ?_)
  obtain ⟨rfl, hw9⟩ := hq
  have hw9 := hw9.symm
  subst hw9
  refine pm_if_ne (tgt := 12) dX4_room_6 (by decide) (fun c6 => ?_) (fun c6 => ?_)
  · rw [pm_z_1] at c6
    obtain ⟨j, hj, rfl⟩ := bw_of (n := 3) (by decide) c6
    refine pm_aload_n dX4_room_12 rfl ?_
    refine pm_getR (ci := 4) (j := 0) (n := 4) (by first | assumption | rfl) (by decide) (by decide) rfl fl_RX4_10 rfl (by first | assumption | rfl) dX4_room_13 ?_
    refine pm_getR (ci := 3) (j := 0) (n := 11) (by first | assumption | rfl) (by decide) (by decide) rfl fl_RX4_92 rfl (by first | assumption | rfl) dX4_room_16 ?_
    refine pm_astore_n (lv' := [some (.ref _), some (.int _), some (.int _), some (.ref _)]) dX4_room_19 (by decide) rfl ?_
    refine pm_iload_n dX4_room_20 rfl ?_
    refine pm_iconst (x := 0) dX4_room_21 rfl ?_
    refine pm_aload_n dX4_room_22 rfl ?_
    refine pm_getI (ci := 2) (j := 4) (n := 5) (by first | assumption | rfl) (by decide) (by decide) rfl fl_RX4_96 rfl dX4_room_23 ?_
    rw [show w.1 2 4 = nI S.1.length from g1.1]
    refine pm_iconst (x := 1) dX4_room_26 rfl ?_
    refine pm_isub dX4_room_27 ?_
    refine pm_cSi (as := [.int _, .int _, .int _]) ml_RX4_31 (by decide) (Nat.le_of_ble_eq_true rfl) dX4_room_28 (c_X4_within pm_L0 _ _ _ _) (fun x1 w1 hq => ?_)
    obtain ⟨rfl, hw9⟩ := hq
    have hw9 := hw9.symm
    subst hw9
    refine pm_if_ne (tgt := 36) dX4_room_31 (by decide) (fun c31 => ?_) (fun c31 => ?_)
    · rw [pm_z_1] at c31
      obtain ⟨i, hi4, rfl⟩ := bw_len (by omega) c31
      have hat := hd_at g1 hi4
      have hi12 : i < 12 := by omega
      refine pm_iload_n dX4_room_36 rfl ?_
      rcases (show j = 0 ∨ j = 1 ∨ j = 2 ∨ j = 3 by omega) with rfl | rfl | rfl | rfl
      · refine pm_tableIn (off := 27) (tgt := 64) dX4_room_37 (by decide) (by decide) (by decide) (by decide) ?_
        refine pm_aload_n dX4_room_64 rfl ?_
        refine pm_getR (ci := 2) (j := 0) (n := 5) (by first | assumption | rfl) (by decide) (by decide) rfl fl_RX4_101 rfl (by first | assumption | rfl) dX4_room_65 ?_
        refine pm_iload_n dX4_room_68 rfl ?_
        refine pm_ialdN (by first | assumption | rfl) (by first | assumption | omega | decide) (by first | decide | omega) dX4_room_69 ?_
        refine pm_iret dX4_room_70 rfl ?_
        refine ⟨?_, rfl⟩
        rw [pu_room, if_pos c6, if_pos c31, nI_clamp (by omega), if_pos (by decide)]
        exact hat.1
      · refine pm_tableIn (off := 34) (tgt := 71) dX4_room_37 (by decide) (by decide) (by decide) (by decide) ?_
        refine pm_aload_n dX4_room_71 rfl ?_
        refine pm_getR (ci := 2) (j := 1) (n := 5) (by first | assumption | rfl) (by decide) (by decide) rfl fl_RX4_105 rfl (by first | assumption | rfl) dX4_room_72 ?_
        refine pm_iload_n dX4_room_75 rfl ?_
        refine pm_ialdN (by first | assumption | rfl) (by first | assumption | omega | decide) (by first | decide | omega) dX4_room_76 ?_
        refine pm_iret dX4_room_77 rfl ?_
        refine ⟨?_, rfl⟩
        rw [pu_room, if_pos c6, if_pos c31, nI_clamp (by omega), if_neg (by decide), if_pos (by decide)]
        exact hat.2.1
      · refine pm_tableIn (off := 41) (tgt := 78) dX4_room_37 (by decide) (by decide) (by decide) (by decide) ?_
        refine pm_aload_n dX4_room_78 rfl ?_
        refine pm_getR (ci := 2) (j := 2) (n := 5) (by first | assumption | rfl) (by decide) (by decide) rfl fl_RX4_108 rfl (by first | assumption | rfl) dX4_room_79 ?_
        refine pm_iload_n dX4_room_82 rfl ?_
        refine pm_ialdN (by first | assumption | rfl) (by first | assumption | omega | decide) (by first | decide | omega) dX4_room_83 ?_
        refine pm_iret dX4_room_84 rfl ?_
        refine ⟨?_, rfl⟩
        rw [pu_room, if_pos c6, if_pos c31, nI_clamp (by omega), if_neg (by decide), if_neg (by decide), if_pos (by decide)]
        exact hat.2.2
      · refine pm_tableOut (tgt := 85) dX4_room_37 (Or.inr (by decide)) (by decide) ?_
        have heo := eok_at i6 hi4
        obtain ⟨ha0, hao⟩ := L0_ask heo.1
        have heo4 := heo.1
        obtain ⟨a1, a2, a3, a4, a5⟩ := id hao
        have hga : as_R w (14 + 3 * (S.1.getD i (0, 0, 0)).2.1) (S.2.2.1 (S.1.getD i (0, 0, 0)).2.1) := g3 _ heo.1
        refine pm_aload_n dX4_room_85 rfl ?_
        refine pm_getR (ci := 4) (j := 0) (n := 4) (by first | assumption | rfl) (by decide) (by decide) rfl fl_RX4_10 rfl (by first | assumption | rfl) dX4_room_86 ?_
        refine pm_getR (ci := 3) (j := 2) (n := 11) (by first | assumption | rfl) (by decide) (by decide) rfl fl_RX4_47 rfl (by first | assumption | rfl) dX4_room_89 ?_
        refine pm_aload_n dX4_room_92 rfl ?_
        refine pm_getR (ci := 2) (j := 1) (n := 5) (by first | assumption | rfl) (by decide) (by decide) rfl fl_RX4_105 rfl (by first | assumption | rfl) dX4_room_93 ?_
        refine pm_iload_n dX4_room_96 rfl ?_
        refine pm_ialdN (by first | assumption | rfl) (by first | assumption | omega | decide) (by first | decide | omega) dX4_room_97 ?_
        rw [show w.1 5 i = nI (S.1.getD i (0, 0, 0)).2.1 from hat.2.1]
        refine pm_kaldN (by first | assumption | rfl) (by first | assumption | omega | decide) (by first | decide | omega) (by first | assumption | rfl) dX4_room_98 ?_
        refine pm_aload_n dX4_room_99 rfl ?_
        refine pm_getR (ci := 2) (j := 0) (n := 5) (by first | assumption | rfl) (by decide) (by decide) rfl fl_RX4_101 rfl (by first | assumption | rfl) dX4_room_100 ?_
        refine pm_iload_n dX4_room_103 rfl ?_
        refine pm_ialdN (by first | assumption | rfl) (by first | assumption | omega | decide) (by first | decide | omega) dX4_room_104 ?_
        rw [show w.1 4 i = (S.1.getD i (0, 0, 0)).1 from hat.1]
        refine pm_cVi (as := [.int _]) (by first | assumption | rfl) (by decide) rfl ml_RX4_111 (by decide) (Nat.le_of_ble_eq_true rfl) dX4_room_105 (c_X0_hasLeft hao hga _) (fun x1 w1 hq => ?_)
        obtain ⟨rfl, hw9⟩ := hq
        have hw9 := hw9.symm
        subst hw9
        refine pm_if_eq (tgt := 115) dX4_room_108 (by decide) (fun c108 => ?_) (fun c108 => ?_)
        · refine pm_iconst (x := 0) dX4_room_115 rfl ?_
          refine pm_iret dX4_room_116 rfl ?_
          rw [pm_z_0] at c108
          refine ⟨?_, rfl⟩
          rw [pu_room, if_pos c6, if_pos c31, nI_clamp (by omega), if_neg (by decide), if_neg (by decide), if_neg (by decide), c108]
          rfl
        · refine pm_iconst (x := 1) dX4_room_111 rfl ?_
          refine pm_goto (tgt := 116) dX4_room_112 (by decide) ?_
          refine pm_iret dX4_room_116 rfl ?_
          rw [pm_z_1] at c108
          refine ⟨?_, rfl⟩
          rw [pu_room, if_pos c6, if_pos c31, nI_clamp (by omega), if_neg (by decide), if_neg (by decide), if_neg (by decide), c108]
          rfl
    · refine pm_iconst (x := -1) dX4_room_34 rfl ?_
      refine pm_iret dX4_room_35 rfl ?_
      rw [pm_z_0] at c31
      refine ⟨?_, rfl⟩
      rw [pu_room, if_pos c6, if_neg (by rw [c31]; decide)]
  · refine pm_bipush (x := -102) dX4_room_9 rfl ?_
    refine pm_iret dX4_room_11 rfl ?_
    rw [pm_z_0] at c6
    refine ⟨?_, rfl⟩
    rw [pu_room, if_neg (by rw [c6]; decide)]

set_option maxRecDepth 4000 in
theorem c_X4_waiting {w : pm_W} {S : ab_S} (hR : hs_R w 1 S) (hI : ab_I S) (x y : Int32) : pm_C pm_L0 MX4_waiting [.ref 0, .int x, .int y] w (pm_qi fun r w1 => r = pu_wait S x y ∧ w1 = w) := by
  obtain ⟨g1, g2, g3, g4, g5, g6⟩ := id hR
  obtain ⟨⟨sp, i1, i2, i3, i4⟩, i5, i6, i7, i8, i9, i10, i11, i12⟩ := id hI
  refine pm_start (lv := [some (.ref _), some (.int _), some (.int _), none]) (plainFor_of_name pf4) (Nat.le_of_ble_eq_true rfl) rfl ?_
  refine pm_iload_n dX4_waiting_0 rfl ?_
  refine pm_iconst (x := 0) dX4_waiting_1 rfl ?_
  refine pm_iconst (x := 1) dX4_waiting_2 rfl ?_
  refine pm_cSi (as := [.int _, .int _, .int _]) ml_RX4_31 (by decide) (Nat.le_of_ble_eq_true rfl) dX4_waiting_3 (c_X4_within pm_L0 _ _ _ _) (fun x1 w1 hq => ?_)
  obtain ⟨rfl, hw9⟩ := hq
  have hw9 := hw9.symm
  subst hw9
  refine pm_if_ne (tgt := 12) dX4_waiting_6 (by decide) (fun c6 => ?_) (fun c6 => ?_)
  · rw [pm_z_1] at c6
    refine pm_aload_n dX4_waiting_12 rfl ?_
    refine pm_getR (ci := 4) (j := 0) (n := 4) (by first | assumption | rfl) (by decide) (by decide) rfl fl_RX4_10 rfl (by first | assumption | rfl) dX4_waiting_13 ?_
    refine pm_getR (ci := 3) (j := 1) (n := 11) (by first | assumption | rfl) (by decide) (by decide) rfl fl_RX4_114 rfl (by first | assumption | rfl) dX4_waiting_16 ?_
    refine pm_astore_n (lv' := [some (.ref _), some (.int _), some (.int _), some (.ref _)]) dX4_waiting_19 (by decide) rfl ?_
    refine pm_iload_n dX4_waiting_20 rfl ?_
    refine pm_iconst (x := 0) dX4_waiting_21 rfl ?_
    refine pm_aload_n dX4_waiting_22 rfl ?_
    refine pm_getI (ci := 2) (j := 4) (n := 5) (by first | assumption | rfl) (by decide) (by decide) rfl fl_RX4_96 rfl dX4_waiting_23 ?_
    rw [show w.1 7 4 = nI S.2.1.length from g2.1]
    refine pm_iconst (x := 1) dX4_waiting_26 rfl ?_
    refine pm_isub dX4_waiting_27 ?_
    refine pm_cSi (as := [.int _, .int _, .int _]) ml_RX4_31 (by decide) (Nat.le_of_ble_eq_true rfl) dX4_waiting_28 (c_X4_within pm_L0 _ _ _ _) (fun x1 w1 hq => ?_)
    obtain ⟨rfl, hw9⟩ := hq
    have hw9 := hw9.symm
    subst hw9
    refine pm_if_ne (tgt := 36) dX4_waiting_31 (by decide) (fun c31 => ?_) (fun c31 => ?_)
    · rw [pm_z_1] at c31
      obtain ⟨i, hi4, rfl⟩ := bw_len (by omega) c31
      have hat := hd_at g2 hi4
      have hi12 : i < 16 := by omega
      refine pm_iload_n dX4_waiting_36 rfl ?_
      refine pm_if_ne (tgt := 49) dX4_waiting_37 (by decide) (fun c37 => ?_) (fun c37 => ?_)
      · refine pm_aload_n dX4_waiting_49 rfl ?_
        refine pm_getR (ci := 2) (j := 1) (n := 5) (by first | assumption | rfl) (by decide) (by decide) rfl fl_RX4_105 rfl (by first | assumption | rfl) dX4_waiting_50 ?_
        refine pm_iload_n dX4_waiting_53 rfl ?_
        refine pm_ialdN (by first | assumption | rfl) (by first | assumption | omega | decide) (by first | decide | omega) dX4_waiting_54 ?_
        refine pm_iret dX4_waiting_55 rfl ?_
        refine ⟨?_, rfl⟩
        rw [pu_wait, if_pos c6, if_pos c31, nI_clamp (by omega), if_neg c37]
        exact hat.2.1
      · refine pm_aload_n dX4_waiting_40 rfl ?_
        refine pm_getR (ci := 2) (j := 0) (n := 5) (by first | assumption | rfl) (by decide) (by decide) rfl fl_RX4_101 rfl (by first | assumption | rfl) dX4_waiting_41 ?_
        refine pm_iload_n dX4_waiting_44 rfl ?_
        refine pm_ialdN (by first | assumption | rfl) (by first | assumption | omega | decide) (by first | decide | omega) dX4_waiting_45 ?_
        refine pm_goto (tgt := 55) dX4_waiting_46 (by decide) ?_
        refine pm_iret dX4_waiting_55 rfl ?_
        refine ⟨?_, rfl⟩
        rw [pu_wait, if_pos c6, if_pos c31, nI_clamp (by omega), if_pos c37]
        exact hat.1
    · refine pm_iconst (x := -1) dX4_waiting_34 rfl ?_
      refine pm_iret dX4_waiting_35 rfl ?_
      rw [pm_z_0] at c31
      refine ⟨?_, rfl⟩
      rw [pu_wait, if_pos c6, if_neg (by rw [c31]; decide)]
  · refine pm_bipush (x := -102) dX4_waiting_9 rfl ?_
    refine pm_iret dX4_waiting_11 rfl ?_
    rw [pm_z_0] at c6
    refine ⟨?_, rfl⟩
    rw [pu_wait, if_neg (by rw [c6]; decide)]

def ab_mx (fr : Bool) (d : Int32) (e : ab_E) : Int32 := if fr = true then 31 * (31 * (31 * d + e.1) + nI e.2.1) + e.2.2 else 31 * (31 * d + e.1) + nI e.2.1
def ab_mh (l : List ab_E) (fr : Bool) (d : Int32) : Nat → Int32
  | 0 => d
  | n + 1 => ab_mx fr (ab_mh l fr d n) (l.getD n (0, 0, 0))
def ab_mc (A : ab_A) (d : Int32) : Nat → Int32
  | 0 => d
  | n + 1 => 31 * ab_mc A d n + A.2.1 n
def ab_mk (A : ab_A) (d : Int32) : Int32 := 31 * (31 * ab_mc A d 7 + A.1 2) + A.1 3
def ab_ms (S : ab_S) (d : Int32) : Nat → Int32
  | 0 => d
  | n + 1 => ab_mk (S.2.2.1 n) (ab_ms S d n)
def pu_digest (S : ab_S) : Int32 := ab_ms S (ab_mh S.2.1 false (ab_mh S.1 true (31 * (31 * (31 * (31 * (31 * 7 + S.2.2.2.1 4) + S.2.2.2.1 5) + S.2.2.2.1 6) + S.2.2.2.1 7) + S.2.2.2.1 9) S.1.length) S.2.1.length) 4

theorem c_X4_mixedHeld {L : pm_L} {k n : Nat} (hk : hd_ok L k n) (hn : n ≤ 16) {w : pm_W} {l : List ab_E} (hR : hd_R w k l) (hl : l.length ≤ n) (d : Int32) (fr : Bool) : pm_C L MX4_mixedHeld [.int d, .ref k, .int (pm_z fr)] w (pm_qi fun r w1 => r = ab_mh l fr d l.length ∧ w1 = w) := by
  obtain ⟨e1, e2, e3, e4, e5, e6, e7, e8, e9⟩ := hk
  have h1 := hR.1
  have loop : ∀ i, i ≤ l.length → pm_R L MX4_mixedHeld 5 [some (.int d), some (.ref k), some (.int (pm_z fr)), some (.int (ab_mh l fr d i)), some (.int (nI i))] [] w (pm_qi fun r w1 => r = ab_mh l fr d l.length ∧ w1 = w) := by
    refine up_loop l.length (fun i hi ih => ?_)
    refine pm_iload dX4_mixedHeld_5 rfl ?_
    refine pm_aload_n dX4_mixedHeld_7 rfl ?_
    refine pm_getI (ci := 2) (j := 4) (n := 5) (by first | assumption | rfl) (by decide) (by decide) rfl fl_RX4_96 rfl dX4_mixedHeld_8 ?_
    rw [h1]
    refine pm_icmp_ge (tgt := 60) dX4_mixedHeld_11 (by decide) (fun c11 => ?_) (fun c11 => ?_)
    · refine pm_iload_n dX4_mixedHeld_60 rfl ?_
      refine pm_iret dX4_mixedHeld_61 rfl ?_
      rw [nI_leI (by omega) (by omega)] at c11
      have : i = l.length := by omega
      subst this
      exact ⟨rfl, rfl⟩
    · have hlt : i < l.length := by
        rw [nI_leI (by omega) (by omega)] at c11
        omega
      have hat := hd_at hR hlt
      refine pm_iload_n dX4_mixedHeld_14 rfl ?_
      refine pm_aload_n dX4_mixedHeld_15 rfl ?_
      refine pm_getR (ci := 2) (j := 0) (n := 5) (by first | assumption | rfl) (by decide) (by decide) rfl fl_RX4_101 rfl (by first | assumption | rfl) dX4_mixedHeld_16 ?_
      refine pm_iload dX4_mixedHeld_19 rfl ?_
      refine pm_ialdN (by first | assumption | rfl) (by omega) (by first | decide | omega) dX4_mixedHeld_21 ?_
      rw [show w.1 (k + 2) i = (l.getD i (0, 0, 0)).1 from hat.1]
      refine pm_cSi (as := [.int _, .int _]) ml_RX4_151 (by decide) (Nat.le_of_ble_eq_true rfl) dX4_mixedHeld_22 (c_X4_mixed L _ _ _) (fun x1 w1 hq => ?_)
      obtain ⟨rfl, hw9⟩ := hq
      have hw9 := hw9.symm
      subst hw9
      refine pm_istore_n (lv' := [some (.int _), some (.ref _), some (.int _), some (.int _), some (.int _)]) dX4_mixedHeld_25 (by decide) rfl ?_
      refine pm_iload_n dX4_mixedHeld_26 rfl ?_
      refine pm_aload_n dX4_mixedHeld_27 rfl ?_
      refine pm_getR (ci := 2) (j := 1) (n := 5) (by first | assumption | rfl) (by decide) (by decide) rfl fl_RX4_105 rfl (by first | assumption | rfl) dX4_mixedHeld_28 ?_
      refine pm_iload dX4_mixedHeld_31 rfl ?_
      refine pm_ialdN (by first | assumption | rfl) (by omega) (by first | decide | omega) dX4_mixedHeld_33 ?_
      rw [show w.1 (k + 3) i = nI (l.getD i (0, 0, 0)).2.1 from hat.2.1]
      refine pm_cSi (as := [.int _, .int _]) ml_RX4_151 (by decide) (Nat.le_of_ble_eq_true rfl) dX4_mixedHeld_34 (c_X4_mixed L _ _ _) (fun x1 w1 hq => ?_)
      obtain ⟨rfl, hw9⟩ := hq
      have hw9 := hw9.symm
      subst hw9
      refine pm_istore_n (lv' := [some (.int _), some (.ref _), some (.int _), some (.int _), some (.int _)]) dX4_mixedHeld_37 (by decide) rfl ?_
      refine pm_iload_n dX4_mixedHeld_38 rfl ?_
      refine pm_if_eq (tgt := 54) dX4_mixedHeld_39 (by decide) (fun c39 => ?_) (fun c39 => ?_)
      · refine pm_iinc (y := _ + 1) (lv' := [some (.int _), some (.ref _), some (.int _), some (.int _), some (.int _)]) dX4_mixedHeld_54 rfl rfl (by decide) rfl ?_
        refine pm_goto (tgt := 5) dX4_mixedHeld_57 (by decide) ?_
        rw [pm_z_0] at c39
        rw [nI_1]
        have h9 := ih hlt
        rw [show ab_mh l fr d (i + 1) = 31 * (31 * ab_mh l fr d i + (l.getD i (0, 0, 0)).1) + nI (l.getD i (0, 0, 0)).2.1 by rw [ab_mh, ab_mx, if_neg (by rw [c39]; decide)]] at h9
        exact h9
      · refine pm_iload_n dX4_mixedHeld_42 rfl ?_
        refine pm_aload_n dX4_mixedHeld_43 rfl ?_
        refine pm_getR (ci := 2) (j := 2) (n := 5) (by first | assumption | rfl) (by decide) (by decide) rfl fl_RX4_108 rfl (by first | assumption | rfl) dX4_mixedHeld_44 ?_
        refine pm_iload dX4_mixedHeld_47 rfl ?_
        refine pm_ialdN (by first | assumption | rfl) (by omega) (by first | decide | omega) dX4_mixedHeld_49 ?_
        rw [show w.1 (k + 4) i = (l.getD i (0, 0, 0)).2.2 from hat.2.2]
        refine pm_cSi (as := [.int _, .int _]) ml_RX4_151 (by decide) (Nat.le_of_ble_eq_true rfl) dX4_mixedHeld_50 (c_X4_mixed L _ _ _) (fun x1 w1 hq => ?_)
        obtain ⟨rfl, hw9⟩ := hq
        have hw9 := hw9.symm
        subst hw9
        refine pm_istore_n (lv' := [some (.int _), some (.ref _), some (.int _), some (.int _), some (.int _)]) dX4_mixedHeld_53 (by decide) rfl ?_
        refine pm_iinc (y := _ + 1) (lv' := [some (.int _), some (.ref _), some (.int _), some (.int _), some (.int _)]) dX4_mixedHeld_54 rfl rfl (by decide) rfl ?_
        refine pm_goto (tgt := 5) dX4_mixedHeld_57 (by decide) ?_
        rw [pm_z_1] at c39
        rw [nI_1]
        have h9 := ih hlt
        rw [show ab_mh l fr d (i + 1) = 31 * (31 * (31 * ab_mh l fr d i + (l.getD i (0, 0, 0)).1) + nI (l.getD i (0, 0, 0)).2.1) + (l.getD i (0, 0, 0)).2.2 by rw [ab_mh, ab_mx, if_pos c39]] at h9
        exact h9
  refine pm_start (lv := [some (.int _), some (.ref _), some (.int _), none, none]) (plainFor_of_name pf4) (Nat.le_of_ble_eq_true rfl) rfl ?_
  refine pm_iload_n dX4_mixedHeld_0 rfl ?_
  refine pm_istore_n (lv' := [some (.int _), some (.ref _), some (.int _), some (.int _), none]) dX4_mixedHeld_1 (by decide) rfl ?_
  refine pm_iconst (x := 0) dX4_mixedHeld_2 rfl ?_
  refine pm_istore (lv' := [some (.int _), some (.ref _), some (.int _), some (.int _), some (.int _)]) dX4_mixedHeld_3 (by decide) rfl ?_
  exact loop 0 (Nat.zero_le _)

theorem c_X4_mixedAsker {L : pm_L} {a : Nat} (ha : as_ok L a) {w : pm_W} {A : ab_A} (hR : as_R w a A) (d : Int32) : pm_C L MX4_mixedAsker [.int d, .ref a] w (pm_qi fun r w1 => r = ab_mk A d ∧ w1 = w) := by
  obtain ⟨e1, e2, e3, e4, e5⟩ := ha
  have loop : ∀ i, i ≤ 7 → pm_R L MX4_mixedAsker 4 [some (.int d), some (.ref a), some (.int (ab_mc A d i)), some (.int (nI i))] [] w (pm_qi fun r w1 => r = ab_mk A d ∧ w1 = w) := by
    refine up_loop 7 (fun i hi ih => ?_)
    refine pm_iload_n dX4_mixedAsker_4 rfl ?_
    refine pm_bipush (x := nI 7) dX4_mixedAsker_5 rfl ?_
    refine pm_icmp_ge (tgt := 27) dX4_mixedAsker_7 (by decide) (fun c7 => ?_) (fun c7 => ?_)
    · have hi7 : i = 7 := by
        rw [nI_leI (by omega) (by omega)] at c7
        omega
      subst hi7
      refine pm_iload_n dX4_mixedAsker_27 rfl ?_
      refine pm_aload_n dX4_mixedAsker_28 rfl ?_
      refine pm_getI (ci := 0) (j := 2) (n := 10) (by first | assumption | rfl) (by decide) (by decide) rfl fl_RX4_63 rfl dX4_mixedAsker_29 ?_
      rw [hR.1 2 (by decide) (by decide)]
      refine pm_cSi (as := [.int _, .int _]) ml_RX4_151 (by decide) (Nat.le_of_ble_eq_true rfl) dX4_mixedAsker_32 (c_X4_mixed L _ _ _) (fun x1 w1 hq => ?_)
      obtain ⟨rfl, hw9⟩ := hq
      have hw9 := hw9.symm
      subst hw9
      refine pm_aload_n dX4_mixedAsker_35 rfl ?_
      refine pm_getI (ci := 0) (j := 3) (n := 10) (by first | assumption | rfl) (by decide) (by decide) rfl fl_RX4_89 rfl dX4_mixedAsker_36 ?_
      rw [hR.1 3 (by decide) (by decide)]
      refine pm_cSi (as := [.int _, .int _]) ml_RX4_151 (by decide) (Nat.le_of_ble_eq_true rfl) dX4_mixedAsker_39 (c_X4_mixed L _ _ _) (fun x1 w1 hq => ?_)
      obtain ⟨rfl, hw9⟩ := hq
      have hw9 := hw9.symm
      subst hw9
      refine pm_iret dX4_mixedAsker_42 rfl ?_
      exact ⟨rfl, rfl⟩
    · have hlt : i < 7 := by
        rw [nI_leI (by omega) (by omega)] at c7
        omega
      refine pm_iload_n dX4_mixedAsker_10 rfl ?_
      refine pm_aload_n dX4_mixedAsker_11 rfl ?_
      refine pm_getR (ci := 0) (j := 0) (n := 10) (by first | assumption | rfl) (by decide) (by decide) rfl fl_RX4_162 rfl (by first | assumption | rfl) dX4_mixedAsker_12 ?_
      refine pm_iload_n dX4_mixedAsker_15 rfl ?_
      refine pm_ialdN (by first | assumption | rfl) (by omega) (by first | decide | omega) dX4_mixedAsker_16 ?_
      rw [hR.2.1 i hlt]
      refine pm_cSi (as := [.int _, .int _]) ml_RX4_151 (by decide) (Nat.le_of_ble_eq_true rfl) dX4_mixedAsker_17 (c_X4_mixed L _ _ _) (fun x1 w1 hq => ?_)
      obtain ⟨rfl, hw9⟩ := hq
      have hw9 := hw9.symm
      subst hw9
      refine pm_istore_n (lv' := [some (.int _), some (.ref _), some (.int _), some (.int _)]) dX4_mixedAsker_20 (by decide) rfl ?_
      refine pm_iinc (y := _ + 1) (lv' := [some (.int _), some (.ref _), some (.int _), some (.int _)]) dX4_mixedAsker_21 rfl rfl (by decide) rfl ?_
      refine pm_goto (tgt := 4) dX4_mixedAsker_24 (by decide) ?_
      rw [nI_1]
      exact ih hlt
  refine pm_start (lv := [some (.int _), some (.ref _), none, none]) (plainFor_of_name pf4) (Nat.le_of_ble_eq_true rfl) rfl ?_
  refine pm_iload_n dX4_mixedAsker_0 rfl ?_
  refine pm_istore_n (lv' := [some (.int _), some (.ref _), some (.int _), none]) dX4_mixedAsker_1 (by decide) rfl ?_
  refine pm_iconst (x := 0) dX4_mixedAsker_2 rfl ?_
  refine pm_istore_n (lv' := [some (.int _), some (.ref _), some (.int _), some (.int _)]) dX4_mixedAsker_3 (by decide) rfl ?_
  exact loop 0 (Nat.zero_le _)

theorem c_X4_digest {w : pm_W} {S : ab_S} (hR : hs_R w 1 S) (hI : ab_I S) : pm_C pm_L0 MX4_digest [.ref 0] w (pm_qi fun r w1 => r = pu_digest S ∧ w1 = w) := by
  obtain ⟨g1, g2, g3, g4, g5, g6⟩ := id hR
  obtain ⟨⟨sp, i1, i2, i3, i4⟩, i5, i6, i7, i8, i9, i10, i11, i12⟩ := id hI
  have loop : ∀ i, i ≤ 4 → pm_R pm_L0 MX4_digest 91 [some (.ref 0), some (.int (ab_ms S (ab_mh S.2.1 false (ab_mh S.1 true (31 * (31 * (31 * (31 * (31 * 7 + S.2.2.2.1 4) + S.2.2.2.1 5) + S.2.2.2.1 6) + S.2.2.2.1 7) + S.2.2.2.1 9) S.1.length) S.2.1.length) i)), some (.int (nI i))] [] w (pm_qi fun r w1 => r = pu_digest S ∧ w1 = w) := by
    refine up_loop 4 (fun i hi ih => ?_)
    refine pm_iload_n dX4_digest_91 rfl ?_
    refine pm_iconst (x := nI 4) dX4_digest_92 rfl ?_
    refine pm_icmp_ge (tgt := 116) dX4_digest_93 (by decide) (fun c93 => ?_) (fun c93 => ?_)
    · refine pm_iload_n dX4_digest_116 rfl ?_
      refine pm_iret dX4_digest_117 rfl ?_
      rw [nI_leI (by omega) (by omega)] at c93
      have : i = 4 := by omega
      subst this
      exact ⟨rfl, rfl⟩
    · have hlt : i < 4 := by
        rw [nI_leI (by omega) (by omega)] at c93
        omega
      obtain ⟨ha0, hao⟩ := L0_ask hlt
      have hga : as_R w (14 + 3 * i) (S.2.2.1 i) := g3 i hlt
      refine pm_iload_n dX4_digest_96 rfl ?_
      refine pm_aload_n dX4_digest_97 rfl ?_
      refine pm_getR (ci := 4) (j := 0) (n := 4) (by first | assumption | rfl) (by decide) (by decide) rfl fl_RX4_10 rfl (by first | assumption | rfl) dX4_digest_98 ?_
      refine pm_getR (ci := 3) (j := 2) (n := 11) (by first | assumption | rfl) (by decide) (by decide) rfl fl_RX4_47 rfl (by first | assumption | rfl) dX4_digest_101 ?_
      refine pm_iload_n dX4_digest_104 rfl ?_
      refine pm_kaldN (by first | assumption | rfl) (by first | assumption | omega | decide) (by first | decide | omega) (by first | assumption | rfl) dX4_digest_105 ?_
      refine pm_cSi (as := [.int _, .ref _]) ml_RX4_158 (by decide) (Nat.le_of_ble_eq_true rfl) dX4_digest_106 (c_X4_mixedAsker hao hga _) (fun x1 w1 hq => ?_)
      obtain ⟨rfl, hw9⟩ := hq
      have hw9 := hw9.symm
      subst hw9
      refine pm_istore_n (lv' := [some (.ref _), some (.int _), some (.int _)]) dX4_digest_109 (by decide) rfl ?_
      refine pm_iinc (y := _ + 1) (lv' := [some (.ref _), some (.int _), some (.int _)]) dX4_digest_110 rfl rfl (by decide) rfl ?_
      refine pm_goto (tgt := 91) dX4_digest_113 (by decide) ?_
      rw [nI_1]
      exact ih hlt
  refine pm_start (lv := [some (.ref _), none, none]) (plainFor_of_name pf4) (Nat.le_of_ble_eq_true rfl) rfl ?_
  refine pm_bipush (x := 7) dX4_digest_0 rfl ?_
  refine pm_istore_n (lv' := [some (.ref _), some (.int _), none]) dX4_digest_2 (by decide) rfl ?_
  refine pm_iload_n dX4_digest_3 rfl ?_
  refine pm_aload_n dX4_digest_4 rfl ?_
  refine pm_getR (ci := 4) (j := 0) (n := 4) (by first | assumption | rfl) (by decide) (by decide) rfl fl_RX4_10 rfl (by first | assumption | rfl) dX4_digest_5 ?_
  refine pm_getI (ci := 3) (j := 4) (n := 11) (by first | assumption | rfl) (by decide) (by decide) rfl fl_RX4_60 rfl dX4_digest_8 ?_
  rw [show w.1 1 4 = S.2.2.2.1 4 from g4 4 (by decide) (by decide)]
  refine pm_cSi (as := [.int _, .int _]) ml_RX4_151 (by decide) (Nat.le_of_ble_eq_true rfl) dX4_digest_11 (c_X4_mixed pm_L0 _ _ _) (fun x1 w1 hq => ?_)
  obtain ⟨rfl, hw9⟩ := hq
  have hw9 := hw9.symm
  subst hw9
  refine pm_istore_n (lv' := [some (.ref _), some (.int _), none]) dX4_digest_14 (by decide) rfl ?_
  refine pm_iload_n dX4_digest_15 rfl ?_
  refine pm_aload_n dX4_digest_16 rfl ?_
  refine pm_getR (ci := 4) (j := 0) (n := 4) (by first | assumption | rfl) (by decide) (by decide) rfl fl_RX4_10 rfl (by first | assumption | rfl) dX4_digest_17 ?_
  refine pm_getI (ci := 3) (j := 5) (n := 11) (by first | assumption | rfl) (by decide) (by decide) rfl fl_RX4_126 rfl dX4_digest_20 ?_
  rw [show w.1 1 5 = S.2.2.2.1 5 from g4 5 (by decide) (by decide)]
  refine pm_cSi (as := [.int _, .int _]) ml_RX4_151 (by decide) (Nat.le_of_ble_eq_true rfl) dX4_digest_23 (c_X4_mixed pm_L0 _ _ _) (fun x1 w1 hq => ?_)
  obtain ⟨rfl, hw9⟩ := hq
  have hw9 := hw9.symm
  subst hw9
  refine pm_istore_n (lv' := [some (.ref _), some (.int _), none]) dX4_digest_26 (by decide) rfl ?_
  refine pm_iload_n dX4_digest_27 rfl ?_
  refine pm_aload_n dX4_digest_28 rfl ?_
  refine pm_getR (ci := 4) (j := 0) (n := 4) (by first | assumption | rfl) (by decide) (by decide) rfl fl_RX4_10 rfl (by first | assumption | rfl) dX4_digest_29 ?_
  refine pm_getI (ci := 3) (j := 6) (n := 11) (by first | assumption | rfl) (by decide) (by decide) rfl fl_RX4_132 rfl dX4_digest_32 ?_
  rw [show w.1 1 6 = S.2.2.2.1 6 from g4 6 (by decide) (by decide)]
  refine pm_cSi (as := [.int _, .int _]) ml_RX4_151 (by decide) (Nat.le_of_ble_eq_true rfl) dX4_digest_35 (c_X4_mixed pm_L0 _ _ _) (fun x1 w1 hq => ?_)
  obtain ⟨rfl, hw9⟩ := hq
  have hw9 := hw9.symm
  subst hw9
  refine pm_istore_n (lv' := [some (.ref _), some (.int _), none]) dX4_digest_38 (by decide) rfl ?_
  refine pm_iload_n dX4_digest_39 rfl ?_
  refine pm_aload_n dX4_digest_40 rfl ?_
  refine pm_getR (ci := 4) (j := 0) (n := 4) (by first | assumption | rfl) (by decide) (by decide) rfl fl_RX4_10 rfl (by first | assumption | rfl) dX4_digest_41 ?_
  refine pm_getI (ci := 3) (j := 7) (n := 11) (by first | assumption | rfl) (by decide) (by decide) rfl fl_RX4_120 rfl dX4_digest_44 ?_
  rw [show w.1 1 7 = S.2.2.2.1 7 from g4 7 (by decide) (by decide)]
  refine pm_cSi (as := [.int _, .int _]) ml_RX4_151 (by decide) (Nat.le_of_ble_eq_true rfl) dX4_digest_47 (c_X4_mixed pm_L0 _ _ _) (fun x1 w1 hq => ?_)
  obtain ⟨rfl, hw9⟩ := hq
  have hw9 := hw9.symm
  subst hw9
  refine pm_istore_n (lv' := [some (.ref _), some (.int _), none]) dX4_digest_50 (by decide) rfl ?_
  refine pm_iload_n dX4_digest_51 rfl ?_
  refine pm_aload_n dX4_digest_52 rfl ?_
  refine pm_getR (ci := 4) (j := 0) (n := 4) (by first | assumption | rfl) (by decide) (by decide) rfl fl_RX4_10 rfl (by first | assumption | rfl) dX4_digest_53 ?_
  refine pm_getI (ci := 3) (j := 9) (n := 11) (by first | assumption | rfl) (by decide) (by decide) rfl fl_RX4_123 rfl dX4_digest_56 ?_
  rw [show w.1 1 9 = S.2.2.2.1 9 from g4 9 (by decide) (by decide)]
  refine pm_cSi (as := [.int _, .int _]) ml_RX4_151 (by decide) (Nat.le_of_ble_eq_true rfl) dX4_digest_59 (c_X4_mixed pm_L0 _ _ _) (fun x1 w1 hq => ?_)
  obtain ⟨rfl, hw9⟩ := hq
  have hw9 := hw9.symm
  subst hw9
  refine pm_istore_n (lv' := [some (.ref _), some (.int _), none]) dX4_digest_62 (by decide) rfl ?_
  refine pm_iload_n dX4_digest_63 rfl ?_
  refine pm_aload_n dX4_digest_64 rfl ?_
  refine pm_getR (ci := 4) (j := 0) (n := 4) (by first | assumption | rfl) (by decide) (by decide) rfl fl_RX4_10 rfl (by first | assumption | rfl) dX4_digest_65 ?_
  refine pm_getR (ci := 3) (j := 0) (n := 11) (by first | assumption | rfl) (by decide) (by decide) rfl fl_RX4_92 rfl (by first | assumption | rfl) dX4_digest_68 ?_
  refine pm_iconst (x := 1) dX4_digest_71 rfl ?_
  refine pm_cSi (as := [.int _, .ref _, .int _]) ml_RX4_154 (by decide) (Nat.le_of_ble_eq_true rfl) dX4_digest_72 (c_X4_mixedHeld (k := 2) L0_hs1.2.2.2.2.2.2.2.1 (by decide) g1 (by omega) _ true) (fun x1 w1 hq => ?_)
  obtain ⟨rfl, hw9⟩ := hq
  have hw9 := hw9.symm
  subst hw9
  refine pm_istore_n (lv' := [some (.ref _), some (.int _), none]) dX4_digest_75 (by decide) rfl ?_
  refine pm_iload_n dX4_digest_76 rfl ?_
  refine pm_aload_n dX4_digest_77 rfl ?_
  refine pm_getR (ci := 4) (j := 0) (n := 4) (by first | assumption | rfl) (by decide) (by decide) rfl fl_RX4_10 rfl (by first | assumption | rfl) dX4_digest_78 ?_
  refine pm_getR (ci := 3) (j := 1) (n := 11) (by first | assumption | rfl) (by decide) (by decide) rfl fl_RX4_114 rfl (by first | assumption | rfl) dX4_digest_81 ?_
  refine pm_iconst (x := 0) dX4_digest_84 rfl ?_
  refine pm_cSi (as := [.int _, .ref _, .int _]) ml_RX4_154 (by decide) (Nat.le_of_ble_eq_true rfl) dX4_digest_85 (c_X4_mixedHeld (k := 7) L0_hs1.2.2.2.2.2.2.2.2.1 (by decide) g2 i5 _ false) (fun x1 w1 hq => ?_)
  obtain ⟨rfl, hw9⟩ := hq
  have hw9 := hw9.symm
  subst hw9
  refine pm_istore_n (lv' := [some (.ref _), some (.int _), none]) dX4_digest_88 (by decide) rfl ?_
  refine pm_iconst (x := 0) dX4_digest_89 rfl ?_
  refine pm_istore_n (lv' := [some (.ref _), some (.int _), some (.int _)]) dX4_digest_90 (by decide) rfl ?_
  exact loop 0 (Nat.zero_le _)

/-- the component: the house now, and what the shelves hold -/
def cs_R (w : pm_W) (S : ab_S) (sh : Nat → Option ab_S) : Prop := hs_R w 1 S ∧ ∀ s, s < 2 → w.1 27 s = pm_z (sh s).isSome ∧ ∀ T, sh s = some T → hs_R w (33 + 25 * s) T
theorem L0_sh {s : Nat} (hs : s < 2) : hs_ok pm_L0 (33 + 25 * s) ∧ pm_L0.2 26 s = some (33 + 25 * s) ∧ pm_L0.1 (33 + 25 * s) = (3, 11) := by
  rcases (show s = 0 ∨ s = 1 by omega) with rfl | rfl
  · exact ⟨L0_hs33, rfl, rfl⟩
  · exact ⟨L0_hs58, rfl, rfl⟩
def pu_keep (S : ab_S) (sh : Nat → Option ab_S) (s : Int32) : Int32 × (Nat → Option ab_S) := if pm_bw s 0 1 = true then (1, va_up sh s.toNatClampNeg (some S)) else (-101, sh)
def pu_back (S : ab_S) (sh : Nat → Option ab_S) (s : Int32) : Int32 × ab_S := if pm_bw s 0 1 = true then (match sh s.toNatClampNeg with | none => (-103, S) | some T => (1, T)) else (-101, S)

set_option maxRecDepth 4000 in
theorem c_X4_keep {w : pm_W} {S : ab_S} {sh : Nat → Option ab_S} (hC : cs_R w S sh) (hI : ab_I S) (s : Int32) : pm_C pm_L0 MX4_keep [.ref 0, .int s] w (pm_qi fun r w1 => r = (pu_keep S sh s).1 ∧ cs_R w1 S (pu_keep S sh s).2 ∧ fr_out w w1 0 83) := by
  obtain ⟨hR, hS⟩ := id hC
  obtain ⟨g1, g2, g3, g4, g5, g6⟩ := id hR
  obtain ⟨⟨sp, i1, i2, i3, i4⟩, i5, i6, i7, i8, i9, i10, i11, i12⟩ := id hI
  refine pm_start (lv := [some (.ref _), some (.int _)]) (plainFor_of_name pf4) (Nat.le_of_ble_eq_true rfl) rfl ?_
  refine pm_iload_n dX4_keep_0 rfl ?_
  refine pm_cSi (as := [.int _]) ml_RX4_144 (by decide) (Nat.le_of_ble_eq_true rfl) dX4_keep_1 (c_X4_isShelf pm_L0 _ _) (fun x1 w1 hq => ?_)
  obtain ⟨rfl, hw9⟩ := hq
  have hw9 := hw9.symm
  subst hw9
  refine pm_if_ne (tgt := 10) dX4_keep_4 (by decide) (fun c4 => ?_) (fun c4 => ?_)
  · rw [pm_z_1] at c4
    obtain ⟨q, hq1, rfl⟩ := bw_of (n := 1) (by decide) c4
    have hq2 : q < 2 := by omega
    obtain ⟨hso, hs0, hs1⟩ := L0_sh hq2
    refine pm_aload_n dX4_keep_10 rfl ?_
    refine pm_getR (ci := 4) (j := 1) (n := 4) (by first | assumption | rfl) (by decide) (by decide) rfl fl_RX4_16 rfl (by first | assumption | rfl) dX4_keep_11 ?_
    refine pm_iload_n dX4_keep_14 rfl ?_
    refine pm_haldN (by first | assumption | rfl) (by first | assumption | omega | decide) (by first | decide | omega) (by first | assumption | rfl) dX4_keep_15 ?_
    refine pm_aload_n dX4_keep_16 rfl ?_
    refine pm_getR (ci := 4) (j := 0) (n := 4) (by first | assumption | rfl) (by decide) (by decide) rfl fl_RX4_10 rfl (by first | assumption | rfl) dX4_keep_17 ?_
    refine pm_cVv (as := [.ref _]) (by first | assumption | rfl) (by decide) rfl ml_RX4_147 (by decide) (Nat.le_of_ble_eq_true rfl) dX4_keep_20 (c_X3_copyFrom hso L0_hs1 (by omega) hR (by omega) i5) (fun w1 hq => ?_)
    obtain ⟨q1, q2⟩ := hq
    refine pm_aload_n dX4_keep_23 rfl ?_
    refine pm_getR (ci := 4) (j := 2) (n := 4) (by first | assumption | rfl) (by decide) (by decide) rfl fl_RX4_20 rfl (by first | assumption | rfl) dX4_keep_24 ?_
    refine pm_iload_n dX4_keep_27 rfl ?_
    refine pm_iconst (x := 1) dX4_keep_28 rfl ?_
    refine pm_zastN (by first | assumption | rfl) (by first | assumption | omega | decide) (by first | decide | omega) (by first | exact Or.inl rfl | exact Or.inr rfl | assumption) dX4_keep_29 ?_
    refine pm_iconst (x := 1) dX4_keep_30 rfl ?_
    refine pm_iret dX4_keep_31 rfl ?_
    rw [pu_keep, if_pos c4, nI_clamp (by omega)]
    refine ⟨rfl, ⟨hs_R_cong hR (fun x z1 z2 => by rw [pm_s_ne (by omega)]; exact q2.1 x (by omega)), fun t ht => ⟨?_, fun T hT => ?_⟩⟩, fr_st (fr_wd q2 (by omega) (by omega)) (by omega) (by omega)⟩
    · rw [pm_s_at]
      dsimp only
      by_cases htq : t = q
      · subst htq; rw [pk_us, va_up_self]; rfl
      · rw [pk_un htq, va_up_ne _ _ htq, q2.1 27 (by omega)]
        exact (hS t ht).1
    · dsimp only at hT
      by_cases htq : t = q
      · subst htq
        rw [va_up_self] at hT
        cases hT
        exact hs_R_cong q1 (fun x z1 z2 => pm_s_ne (by omega))
      · rw [va_up_ne _ _ htq] at hT
        exact hs_R_cong ((hS t ht).2 T hT) (fun x z1 z2 => by rw [pm_s_ne (by omega)]; exact q2.1 x (by omega))
  · refine pm_bipush (x := -101) dX4_keep_7 rfl ?_
    refine pm_iret dX4_keep_9 rfl ?_
    rw [pm_z_0] at c4
    rw [pu_keep, if_neg (by rw [c4]; decide)]
    exact ⟨rfl, hC, fr_rf _ _ _⟩

set_option maxRecDepth 4000 in
theorem c_X4_back {w : pm_W} {S : ab_S} {sh : Nat → Option ab_S} (hC : cs_R w S sh) (hT : ∀ s T, s < 2 → sh s = some T → ab_I T) (s : Int32) : pm_C pm_L0 MX4_back [.ref 0, .int s] w (pm_qi fun r w1 => r = (pu_back S sh s).1 ∧ cs_R w1 (pu_back S sh s).2 sh ∧ fr_out w w1 0 83) := by
  obtain ⟨hR, hS⟩ := id hC
  obtain ⟨g1, g2, g3, g4, g5, g6⟩ := id hR
  refine pm_start (lv := [some (.ref _), some (.int _)]) (plainFor_of_name pf4) (Nat.le_of_ble_eq_true rfl) rfl ?_
  refine pm_iload_n dX4_back_0 rfl ?_
  refine pm_cSi (as := [.int _]) ml_RX4_144 (by decide) (Nat.le_of_ble_eq_true rfl) dX4_back_1 (c_X4_isShelf pm_L0 _ _) (fun x1 w1 hq => ?_)
  obtain ⟨rfl, hw9⟩ := hq
  have hw9 := hw9.symm
  subst hw9
  refine pm_if_ne (tgt := 10) dX4_back_4 (by decide) (fun c4 => ?_) (fun c4 => ?_)
  · rw [pm_z_1] at c4
    obtain ⟨q, hq1, rfl⟩ := bw_of (n := 1) (by decide) c4
    have hq2 : q < 2 := by omega
    obtain ⟨hso, hs0, hs1⟩ := L0_sh hq2
    refine pm_aload_n dX4_back_10 rfl ?_
    refine pm_getR (ci := 4) (j := 2) (n := 4) (by first | assumption | rfl) (by decide) (by decide) rfl fl_RX4_20 rfl (by first | assumption | rfl) dX4_back_11 ?_
    refine pm_iload_n dX4_back_14 rfl ?_
    refine pm_zaldN (by first | assumption | rfl) (by first | assumption | omega | decide) (by first | decide | omega) dX4_back_15 ?_
    rw [(hS q hq2).1]
    refine pm_if_ne (tgt := 22) dX4_back_16 (by decide) (fun c16 => ?_) (fun c16 => ?_)
    · have hsome : ∃ T, sh q = some T := by
        cases hsq : sh q with
        | none => rw [hsq] at c16; exact absurd rfl c16
        | some T => exact ⟨T, rfl⟩
      obtain ⟨T, hsT⟩ := hsome
      refine pm_aload_n dX4_back_22 rfl ?_
      refine pm_getR (ci := 4) (j := 0) (n := 4) (by first | assumption | rfl) (by decide) (by decide) rfl fl_RX4_10 rfl (by first | assumption | rfl) dX4_back_23 ?_
      refine pm_aload_n dX4_back_26 rfl ?_
      refine pm_getR (ci := 4) (j := 1) (n := 4) (by first | assumption | rfl) (by decide) (by decide) rfl fl_RX4_16 rfl (by first | assumption | rfl) dX4_back_27 ?_
      refine pm_iload_n dX4_back_30 rfl ?_
      refine pm_haldN (by first | assumption | rfl) (by first | assumption | omega | decide) (by first | decide | omega) (by first | assumption | rfl) dX4_back_31 ?_
      refine pm_cVv (as := [.ref _]) (by first | assumption | rfl) (by decide) rfl ml_RX4_147 (by decide) (Nat.le_of_ble_eq_true rfl) dX4_back_32 (c_X3_copyFrom L0_hs1 hso (by omega) ((hS q hq2).2 T hsT) (by obtain ⟨⟨n, -, -, z1, z2⟩, -⟩ := hT q T hq2 hsT; omega) (hT q T hq2 hsT).2.1) (fun w1 hq => ?_)
      obtain ⟨q1, q2⟩ := hq
      refine pm_iconst (x := 1) dX4_back_35 rfl ?_
      refine pm_iret dX4_back_36 rfl ?_
      rw [pu_back, if_pos c4, nI_clamp (by omega), hsT]
      refine ⟨rfl, ⟨q1, fun t ht => ⟨?_, fun U hU => ?_⟩⟩, fr_wd q2 (by omega) (by omega)⟩
      · rw [q2.1 27 (by omega)]; exact (hS t ht).1
      · exact hs_R_cong ((hS t ht).2 U hU) (fun x z1 z2 => q2.1 x (by omega))
    · refine pm_bipush (x := -103) dX4_back_19 rfl ?_
      refine pm_iret dX4_back_21 rfl ?_
      have hn : sh q = none := by
        cases hsq : sh q with
        | none => rfl
        | some T => rw [hsq] at c16; exact absurd c16 (by show ¬ (1 : Int32) = 0; decide)
      rw [pu_back, if_pos c4, nI_clamp (by omega), hn]
      exact ⟨rfl, hC, fr_rf _ _ _⟩
  · refine pm_bipush (x := -101) dX4_back_7 rfl ?_
    refine pm_iret dX4_back_9 rfl ?_
    rw [pm_z_0] at c4
    rw [pu_back, if_neg (by rw [c4]; decide)]
    exact ⟨rfl, hC, fr_rf _ _ _⟩

