def L0_lay : List (Nat × Nat) := [(4, 4), (3, 11), (2, 5), (10, 4), (10, 12), (10, 12), (10, 12), (2, 5), (10, 4), (10, 16), (10, 16), (10, 16), (14, 4), (10, 24), (0, 10), (10, 7), (10, 64), (0, 10), (10, 7), (10, 64), (0, 10), (10, 7), (10, 64), (0, 10), (10, 7), (10, 64), (13, 2), (11, 2), (1, 9), (10, 7), (10, 24), (12, 25), (12, 25), (3, 11), (2, 5), (10, 4), (10, 12), (10, 12), (10, 12), (2, 5), (10, 4), (10, 16), (10, 16), (10, 16), (14, 4), (10, 24), (0, 10), (10, 7), (10, 64), (0, 10), (10, 7), (10, 64), (0, 10), (10, 7), (10, 64), (0, 10), (10, 7), (10, 64), (3, 11), (2, 5), (10, 4), (10, 12), (10, 12), (10, 12), (2, 5), (10, 4), (10, 16), (10, 16), (10, 16), (14, 4), (10, 24), (0, 10), (10, 7), (10, 64), (0, 10), (10, 7), (10, 64), (0, 10), (10, 7), (10, 64), (0, 10), (10, 7), (10, 64), (5, 39), (10, 12), (10, 12), (11, 12), (10, 16), (10, 16), (10, 4), (10, 4), (10, 4), (10, 4), (10, 4), (10, 4), (10, 4), (10, 4), (10, 256), (10, 28), (10, 200), (10, 7), (11, 16384), (11, 16384), (11, 128), (11, 128), (10, 128), (10, 128), (10, 2), (10, 1200)]
def L0_rf : List (Nat → Option Nat) := [(fun j => match j with | 0 => some 1 | 1 => some 26 | 2 => some 27 | 3 => some 28 | _ => none), (fun j => match j with | 0 => some 2 | 1 => some 7 | 2 => some 12 | 3 => some 13 | _ => none), (fun j => match j with | 0 => some 4 | 1 => some 5 | 2 => some 6 | 3 => some 3 | _ => none), (fun _ => none), (fun _ => none), (fun _ => none), (fun _ => none), (fun j => match j with | 0 => some 9 | 1 => some 10 | 2 => some 11 | 3 => some 8 | _ => none), (fun _ => none), (fun _ => none), (fun _ => none), (fun _ => none), (fun j => some (14 + 3 * j)), (fun _ => none), (fun j => match j with | 0 => some 15 | 1 => some 16 | _ => none), (fun _ => none), (fun _ => none), (fun j => match j with | 0 => some 18 | 1 => some 19 | _ => none), (fun _ => none), (fun _ => none), (fun j => match j with | 0 => some 21 | 1 => some 22 | _ => none), (fun _ => none), (fun _ => none), (fun j => match j with | 0 => some 24 | 1 => some 25 | _ => none), (fun _ => none), (fun _ => none), (fun j => some (33 + 25 * j)), (fun _ => none), (fun j => match j with | 0 => some 29 | 1 => some 30 | 2 => some 31 | 3 => some 32 | _ => none), (fun _ => none), (fun _ => none), (fun _ => none), (fun _ => none), (fun j => match j with | 0 => some 34 | 1 => some 39 | 2 => some 44 | 3 => some 45 | _ => none), (fun j => match j with | 0 => some 36 | 1 => some 37 | 2 => some 38 | 3 => some 35 | _ => none), (fun _ => none), (fun _ => none), (fun _ => none), (fun _ => none), (fun j => match j with | 0 => some 41 | 1 => some 42 | 2 => some 43 | 3 => some 40 | _ => none), (fun _ => none), (fun _ => none), (fun _ => none), (fun _ => none), (fun j => some (46 + 3 * j)), (fun _ => none), (fun j => match j with | 0 => some 47 | 1 => some 48 | _ => none), (fun _ => none), (fun _ => none), (fun j => match j with | 0 => some 50 | 1 => some 51 | _ => none), (fun _ => none), (fun _ => none), (fun j => match j with | 0 => some 53 | 1 => some 54 | _ => none), (fun _ => none), (fun _ => none), (fun j => match j with | 0 => some 56 | 1 => some 57 | _ => none), (fun _ => none), (fun _ => none), (fun j => match j with | 0 => some 59 | 1 => some 64 | 2 => some 69 | 3 => some 70 | _ => none), (fun j => match j with | 0 => some 61 | 1 => some 62 | 2 => some 63 | 3 => some 60 | _ => none), (fun _ => none), (fun _ => none), (fun _ => none), (fun _ => none), (fun j => match j with | 0 => some 66 | 1 => some 67 | 2 => some 68 | 3 => some 65 | _ => none), (fun _ => none), (fun _ => none), (fun _ => none), (fun _ => none), (fun j => some (71 + 3 * j)), (fun _ => none), (fun j => match j with | 0 => some 72 | 1 => some 73 | _ => none), (fun _ => none), (fun _ => none), (fun j => match j with | 0 => some 75 | 1 => some 76 | _ => none), (fun _ => none), (fun _ => none), (fun j => match j with | 0 => some 78 | 1 => some 79 | _ => none), (fun _ => none), (fun _ => none), (fun j => match j with | 0 => some 81 | 1 => some 82 | _ => none), (fun _ => none), (fun _ => none), (fun j => match j with | 3 => some 84 | 4 => some 85 | 5 => some 86 | 7 => some 87 | 8 => some 88 | 13 => some 89 | 14 => some 90 | 15 => some 91 | 16 => some 92 | 17 => some 93 | 18 => some 94 | 19 => some 95 | 20 => some 96 | 21 => some 97 | 22 => some 98 | 23 => some 99 | 28 => some 100 | 30 => some 101 | 31 => some 102 | 32 => some 103 | 33 => some 104 | 34 => some 105 | 35 => some 106 | 36 => some 107 | 37 => some 108 | _ => none), (fun _ => none), (fun _ => none), (fun _ => none), (fun _ => none), (fun _ => none), (fun _ => none), (fun _ => none), (fun _ => none), (fun _ => none), (fun _ => none), (fun _ => none), (fun _ => none), (fun _ => none), (fun _ => none), (fun _ => none), (fun _ => none), (fun _ => none), (fun _ => none), (fun _ => none), (fun _ => none), (fun _ => none), (fun _ => none), (fun _ => none), (fun _ => none), (fun _ => none)]
def pm_L0 : pm_L := (fun k => L0_lay.getD k (99, 0), fun k => L0_rf.getD k (fun _ => none))
theorem L0_in : ∀ k, ¬ (pm_L0.1 k).1 = 99 → k < 120 := by
  intro k h
  rcases Nat.lt_or_ge k 109 with q | q
  · omega
  · exfalso
    apply h
    show (L0_lay.getD k (99, 0)).1 = 99
    rw [List.getD_eq_getElem?_getD, List.getElem?_eq_none (by exact q)]
    rfl
theorem L0_hd {k n : Nat} (h : pm_L0.1 k = (2, 5) ∧ pm_L0.2 k 0 = some (k + 2) ∧ pm_L0.2 k 1 = some (k + 3) ∧ pm_L0.2 k 2 = some (k + 4) ∧ pm_L0.2 k 3 = some (k + 1) ∧ pm_L0.1 (k + 1) = (10, 4) ∧ pm_L0.1 (k + 2) = (10, n) ∧ pm_L0.1 (k + 3) = (10, n) ∧ pm_L0.1 (k + 4) = (10, n)) : hd_ok pm_L0 k n := h
theorem L0_as (a : Nat) (h : pm_L0.1 a = (0, 10) ∧ pm_L0.2 a 0 = some (a + 1) ∧ pm_L0.2 a 1 = some (a + 2) ∧ pm_L0.1 (a + 1) = (10, 7) ∧ pm_L0.1 (a + 2) = (10, 64)) : as_ok pm_L0 a := h

theorem L0_hs1 : hs_ok pm_L0 1 := by
  refine ⟨rfl, rfl, rfl, rfl, rfl, rfl, rfl, ⟨rfl, rfl, rfl, rfl, rfl, rfl, rfl, rfl, rfl⟩, ⟨rfl, rfl, rfl, rfl, rfl, rfl, rfl, rfl, rfl⟩, fun p hp => ?_⟩
  rcases (show p = 0 ∨ p = 1 ∨ p = 2 ∨ p = 3 by omega) with rfl | rfl | rfl | rfl <;> exact ⟨rfl, rfl, rfl, rfl, rfl, rfl⟩
theorem L0_hs33 : hs_ok pm_L0 33 := by
  refine ⟨rfl, rfl, rfl, rfl, rfl, rfl, rfl, ⟨rfl, rfl, rfl, rfl, rfl, rfl, rfl, rfl, rfl⟩, ⟨rfl, rfl, rfl, rfl, rfl, rfl, rfl, rfl, rfl⟩, fun p hp => ?_⟩
  rcases (show p = 0 ∨ p = 1 ∨ p = 2 ∨ p = 3 by omega) with rfl | rfl | rfl | rfl <;> exact ⟨rfl, rfl, rfl, rfl, rfl, rfl⟩
theorem L0_hs58 : hs_ok pm_L0 58 := by
  refine ⟨rfl, rfl, rfl, rfl, rfl, rfl, rfl, ⟨rfl, rfl, rfl, rfl, rfl, rfl, rfl, rfl, rfl⟩, ⟨rfl, rfl, rfl, rfl, rfl, rfl, rfl, rfl, rfl⟩, fun p hp => ?_⟩
  rcases (show p = 0 ∨ p = 1 ∨ p = 2 ∨ p = 3 by omega) with rfl | rfl | rfl | rfl <;> exact ⟨rfl, rfl, rfl, rfl, rfl, rfl⟩
theorem L0_ask {p : Nat} (hp : p < 4) : pm_L0.2 12 p = some (14 + 3 * p) ∧ as_ok pm_L0 (14 + 3 * p) := by
  rcases (show p = 0 ∨ p = 1 ∨ p = 2 ∨ p = 3 by omega) with rfl | rfl | rfl | rfl <;> exact ⟨rfl, rfl, rfl, rfl, rfl, rfl⟩
theorem as_of {x : Int32} (h : pm_bw x 0 3 = true) : ∃ q, q < 4 ∧ x = nI q := by
  have h := pm_bw_t.mp h
  obtain ⟨j, hj, e⟩ := nI_of2 (n := 3) (M := 3) (by decide) (Int32.not_lt.mpr h.1) h.2
  exact ⟨j, by omega, e⟩
theorem bw_of {x hi : Int32} {n : Nat} (hn : hi.toInt = n) (h : pm_bw x 0 hi = true) : ∃ q, q ≤ n ∧ x = nI q := by
  have h := pm_bw_t.mp h
  obtain ⟨j, hj, e⟩ := nI_of2 (n := n) (M := hi) hn (Int32.not_lt.mpr h.1) h.2
  exact ⟨j, by omega, e⟩
theorem bw_nI {q n : Nat} (h : q ≤ n) (hn : n < 2 ^ 31) : pm_bw (nI q) 0 (nI n) = true := pm_bw_t.mpr ⟨nI_pos' (by omega), nI_le h hn⟩
def ab_sm (f : Nat → Int32) : Nat → Int32
  | 0 => 0
  | n + 1 => ab_sm f n + f n
/-- what is told of one asker -/
def ab_t1 (S : ab_S) (p j : Nat) : Int32 := if j = 7 then nI (ab_cnt S.1 p) else if j = 8 then (S.2.2.1 p).1 4 else if j = 9 then nI (ab_cnt S.2.1 p) else (S.2.2.1 p).2.1 j

set_option maxRecDepth 4000 in
theorem c_X4_toldOfOne {w : pm_W} {S : ab_S} (hR : hs_R w 1 S) {p j : Nat} (hp : p < 4) (hj : j < 10) : pm_C pm_L0 MX4_toldOfOne [.ref 0, .int (nI p), .int (nI j)] w (pm_qi fun r w1 => r = ab_t1 S p j ∧ w1 = w) := by
  obtain ⟨g1, g2, g3, g4, g5, g6⟩ := id hR
  obtain ⟨ha0, hao⟩ := L0_ask hp
  obtain ⟨a1, a2, a3, a4, a5⟩ := id hao
  have hga : as_R w (14 + 3 * p) (S.2.2.1 p) := g3 p hp
  refine pm_start (lv := [some (.ref _), some (.int _), some (.int _)]) (plainFor_of_name pf4) (Nat.le_of_ble_eq_true rfl) rfl ?_
  refine pm_iload_n dX4_toldOfOne_0 rfl ?_
  rcases (show j < 7 ∨ j = 7 ∨ j = 8 ∨ j = 9 by omega) with h7 | rfl | rfl | rfl
  · refine pm_tableOut (tgt := 67) dX4_toldOfOne_1 (Or.inl (by rw [nI_toInt (by omega)]; omega)) (by decide) ?_
    refine pm_aload_n dX4_toldOfOne_67 rfl ?_
    refine pm_getR (ci := 4) (j := 0) (n := 4) (by first | assumption | rfl) (by decide) (by decide) rfl fl_RX4_10 rfl (by first | assumption | rfl) dX4_toldOfOne_68 ?_
    refine pm_getR (ci := 3) (j := 2) (n := 11) (by first | assumption | rfl) (by decide) (by decide) rfl fl_RX4_47 rfl (by first | assumption | rfl) dX4_toldOfOne_71 ?_
    refine pm_iload_n dX4_toldOfOne_74 rfl ?_
    refine pm_kaldN (by first | assumption | rfl) (by first | assumption | omega | decide) (by first | decide | omega) (by first | assumption | rfl) dX4_toldOfOne_75 ?_
    refine pm_getR (ci := 0) (j := 0) (n := 10) (by first | assumption | rfl) (by decide) (by decide) rfl fl_RX4_162 rfl (by first | assumption | rfl) dX4_toldOfOne_76 ?_
    refine pm_iload_n dX4_toldOfOne_79 rfl ?_
    refine pm_ialdN (by first | assumption | rfl) (by first | assumption | omega | decide) (by first | decide | omega) dX4_toldOfOne_80 ?_
    refine pm_iret dX4_toldOfOne_81 rfl ?_
    refine ⟨?_, rfl⟩
    rw [ab_t1, if_neg (by omega), if_neg (by omega), if_neg (by omega)]
    exact hga.2.1 j h7
  · refine pm_tableIn (off := 27) (tgt := 28) dX4_toldOfOne_1 (by decide) (by decide) (by decide) (by decide) ?_
    refine pm_aload_n dX4_toldOfOne_28 rfl ?_
    refine pm_getR (ci := 4) (j := 0) (n := 4) (by first | assumption | rfl) (by decide) (by decide) rfl fl_RX4_10 rfl (by first | assumption | rfl) dX4_toldOfOne_29 ?_
    refine pm_getR (ci := 3) (j := 0) (n := 11) (by first | assumption | rfl) (by decide) (by decide) rfl fl_RX4_92 rfl (by first | assumption | rfl) dX4_toldOfOne_32 ?_
    refine pm_getR (ci := 2) (j := 3) (n := 5) (by first | assumption | rfl) (by decide) (by decide) rfl fl_RX4_165 rfl (by first | assumption | rfl) dX4_toldOfOne_35 ?_
    refine pm_iload_n dX4_toldOfOne_38 rfl ?_
    refine pm_ialdN (by first | assumption | rfl) (by first | assumption | omega | decide) (by first | decide | omega) dX4_toldOfOne_39 ?_
    refine pm_iret dX4_toldOfOne_40 rfl ?_
    exact ⟨g1.2.2 p hp, rfl⟩
  · refine pm_tableIn (off := 40) (tgt := 41) dX4_toldOfOne_1 (by decide) (by decide) (by decide) (by decide) ?_
    refine pm_aload_n dX4_toldOfOne_41 rfl ?_
    refine pm_getR (ci := 4) (j := 0) (n := 4) (by first | assumption | rfl) (by decide) (by decide) rfl fl_RX4_10 rfl (by first | assumption | rfl) dX4_toldOfOne_42 ?_
    refine pm_getR (ci := 3) (j := 2) (n := 11) (by first | assumption | rfl) (by decide) (by decide) rfl fl_RX4_47 rfl (by first | assumption | rfl) dX4_toldOfOne_45 ?_
    refine pm_iload_n dX4_toldOfOne_48 rfl ?_
    refine pm_kaldN (by first | assumption | rfl) (by first | assumption | omega | decide) (by first | decide | omega) (by first | assumption | rfl) dX4_toldOfOne_49 ?_
    refine pm_getI (ci := 0) (j := 4) (n := 10) (by first | assumption | rfl) (by decide) (by decide) rfl fl_RX4_51 rfl dX4_toldOfOne_50 ?_
    refine pm_iret dX4_toldOfOne_53 rfl ?_
    exact ⟨hga.1 4 (by decide) (by decide), rfl⟩
  · refine pm_tableIn (off := 53) (tgt := 54) dX4_toldOfOne_1 (by decide) (by decide) (by decide) (by decide) ?_
    refine pm_aload_n dX4_toldOfOne_54 rfl ?_
    refine pm_getR (ci := 4) (j := 0) (n := 4) (by first | assumption | rfl) (by decide) (by decide) rfl fl_RX4_10 rfl (by first | assumption | rfl) dX4_toldOfOne_55 ?_
    refine pm_getR (ci := 3) (j := 1) (n := 11) (by first | assumption | rfl) (by decide) (by decide) rfl fl_RX4_114 rfl (by first | assumption | rfl) dX4_toldOfOne_58 ?_
    refine pm_getR (ci := 2) (j := 3) (n := 5) (by first | assumption | rfl) (by decide) (by decide) rfl fl_RX4_165 rfl (by first | assumption | rfl) dX4_toldOfOne_61 ?_
    refine pm_iload_n dX4_toldOfOne_64 rfl ?_
    refine pm_ialdN (by first | assumption | rfl) (by first | assumption | omega | decide) (by first | decide | omega) dX4_toldOfOne_65 ?_
    refine pm_iret dX4_toldOfOne_66 rfl ?_
    exact ⟨g2.2.2 p hp, rfl⟩

theorem c_X4_toldOfAll {w : pm_W} {S : ab_S} (hR : hs_R w 1 S) {j : Nat} (hj : j < 10) : pm_C pm_L0 MX4_toldOfAll [.ref 0, .int (nI j)] w (pm_qi fun r w1 => r = ab_sm (fun p => ab_t1 S p j) 4 ∧ w1 = w) := by
  have loop : ∀ i, i ≤ 4 → pm_R pm_L0 MX4_toldOfAll 4 [some (.ref 0), some (.int (nI j)), some (.int (ab_sm (fun p => ab_t1 S p j) i)), some (.int (nI i))] [] w (pm_qi fun r w1 => r = ab_sm (fun p => ab_t1 S p j) 4 ∧ w1 = w) := by
    refine up_loop 4 (fun i hi ih => ?_)
    refine pm_iload_n dX4_toldOfAll_4 rfl ?_
    refine pm_iconst (x := nI 4) dX4_toldOfAll_5 rfl ?_
    refine pm_icmp_ge (tgt := 24) dX4_toldOfAll_6 (by decide) (fun c6 => ?_) (fun c6 => ?_)
    · refine pm_iload_n dX4_toldOfAll_24 rfl ?_
      refine pm_iret dX4_toldOfAll_25 rfl ?_
      rw [nI_leI (by omega) (by omega)] at c6
      have : i = 4 := by omega
      subst this
      exact ⟨rfl, rfl⟩
    · have hlt : i < 4 := by
        rw [nI_leI (by omega) (by omega)] at c6
        omega
      refine pm_iload_n dX4_toldOfAll_9 rfl ?_
      refine pm_aload_n dX4_toldOfAll_10 rfl ?_
      refine pm_iload_n dX4_toldOfAll_11 rfl ?_
      refine pm_iload_n dX4_toldOfAll_12 rfl ?_
      refine pm_cVi (as := [.int _, .int _]) (by first | assumption | rfl) (by decide) rfl ml_RX4_86 (by decide) (Nat.le_of_ble_eq_true rfl) dX4_toldOfAll_13 (c_X4_toldOfOne hR hlt hj) (fun x1 w1 hq => ?_)
      obtain ⟨rfl, hw9⟩ := hq
      have hw9 := hw9.symm
      subst hw9
      refine pm_iadd dX4_toldOfAll_16 ?_
      refine pm_istore_n (lv' := [some (.ref _), some (.int _), some (.int _), some (.int _)]) dX4_toldOfAll_17 (by decide) rfl ?_
      refine pm_iinc (y := _ + 1) (lv' := [some (.ref _), some (.int _), some (.int _), some (.int _)]) dX4_toldOfAll_18 rfl rfl (by decide) rfl ?_
      refine pm_goto (tgt := 4) dX4_toldOfAll_21 (by decide) ?_
      rw [nI_1]
      exact ih hlt
  refine pm_start (lv := [some (.ref _), some (.int _), none, none]) (plainFor_of_name pf4) (Nat.le_of_ble_eq_true rfl) rfl ?_
  refine pm_iconst (x := 0) dX4_toldOfAll_0 rfl ?_
  refine pm_istore_n (lv' := [some (.ref _), some (.int _), some (.int _), none]) dX4_toldOfAll_1 (by decide) rfl ?_
  refine pm_iconst (x := 0) dX4_toldOfAll_2 rfl ?_
  refine pm_istore_n (lv' := [some (.ref _), some (.int _), some (.int _), some (.int _)]) dX4_toldOfAll_3 (by decide) rfl ?_
  exact loop 0 (Nat.zero_le _)

def pu_told (S : ab_S) (p j : Int32) : Int32 := if p = -1 ∨ pm_bw p 0 3 = true then (if pm_bw j 0 9 = true then (if p = -1 then ab_sm (fun q => ab_t1 S q j.toNatClampNeg) 4 else ab_t1 S p.toNatClampNeg j.toNatClampNeg) else -102) else -101
def pu_reach (S : ab_S) (p : Int32) : Int32 := if pm_bw p 0 3 = true then (S.2.2.1 p.toNatClampNeg).1 3 else -101
def pu_follows (S : ab_S) (p b : Int32) : Int32 := if pm_bw p 0 3 = true then (if pm_bw b 0 63 = true then (S.2.2.1 p.toNatClampNeg).2.2 b.toNatClampNeg else -102) else -101
def pu_house (S : ab_S) (x : Int32) : Int32 := if x = 0 then S.2.2.2.1 7 else if x = 1 then S.2.2.2.1 9 else if x = 2 then S.2.2.2.1 4 else if x = 3 then S.2.2.2.1 5 else if x = 4 then nI S.1.length else if x = 5 then nI S.2.1.length else if x = 6 then S.2.2.2.1 8 else if x = 7 then S.2.2.2.1 6 else -102

theorem c_X4_told {w : pm_W} {S : ab_S} (hR : hs_R w 1 S) (p x : Int32) : pm_C pm_L0 MX4_told [.ref 0, .int p, .int x] w (pm_qi fun r w1 => r = pu_told S p x ∧ w1 = w) := by
  refine pm_start (lv := [some (.ref _), some (.int _), some (.int _)]) (plainFor_of_name pf4) (Nat.le_of_ble_eq_true rfl) rfl ?_
  by_cases c0 : p = -1
  ·
    refine pm_iload_n dX4_told_0 rfl ?_
    refine pm_iconst (x := -1) dX4_told_1 rfl ?_
    refine pm_icmp_eq (tgt := 15) dX4_told_2 (by decide) (fun c2 => ?_) (fun c2 => absurd c0 c2)
    refine pm_iload_n dX4_told_15 rfl ?_
    refine pm_iconst (x := 0) dX4_told_16 rfl ?_
    refine pm_bipush (x := 9) dX4_told_17 rfl ?_
    refine pm_cSi (as := [.int _, .int _, .int _]) ml_RX4_31 (by decide) (Nat.le_of_ble_eq_true rfl) dX4_told_19 (c_X4_within pm_L0 _ _ _ _) (fun x1 w1 hq => ?_)
    obtain ⟨rfl, hw9⟩ := hq
    have hw9 := hw9.symm
    subst hw9
    refine pm_if_ne (tgt := 28) dX4_told_22 (by decide) (fun c22 => ?_) (fun c22 => ?_)
    · rw [pm_z_1] at c22
      obtain ⟨j, hj, rfl⟩ := bw_of (n := 9) (by decide) c22
      refine pm_iload_n dX4_told_28 rfl ?_
      refine pm_iconst (x := -1) dX4_told_29 rfl ?_
      refine pm_icmp_ne (tgt := 41) dX4_told_30 (by decide) (fun c30 => absurd c30 (fun h => h c0)) (fun c30 => ?_)
      refine pm_aload_n dX4_told_33 rfl ?_
      refine pm_iload_n dX4_told_34 rfl ?_
      refine pm_cVi (as := [.int _]) (by first | assumption | rfl) (by decide) rfl ml_RX4_56 (by decide) (Nat.le_of_ble_eq_true rfl) dX4_told_35 (c_X4_toldOfAll hR (by omega)) (fun x1 w1 hq => ?_)
      obtain ⟨rfl, hw9⟩ := hq
      have hw9 := hw9.symm
      subst hw9
      refine pm_goto (tgt := 47) dX4_told_38 (by decide) ?_
      refine pm_iret dX4_told_47 rfl ?_
      refine ⟨?_, rfl⟩
      rw [pu_told, if_pos (Or.inl c0), if_pos c22, if_pos c0, nI_clamp (by omega)]
    · refine pm_bipush (x := -102) dX4_told_25 rfl ?_
      refine pm_iret dX4_told_27 rfl ?_
      rw [pm_z_0] at c22
      refine ⟨?_, rfl⟩
      rw [pu_told, if_pos (Or.inl c0), if_neg (by rw [c22]; decide)]
  ·
    refine pm_iload_n dX4_told_0 rfl ?_
    refine pm_iconst (x := -1) dX4_told_1 rfl ?_
    refine pm_icmp_eq (tgt := 15) dX4_told_2 (by decide) (fun c2 => absurd c2 c0) (fun c2 => ?_)
    refine pm_iload_n dX4_told_5 rfl ?_
    refine pm_cSi (as := [.int _]) ml_RX4_43 (by decide) (Nat.le_of_ble_eq_true rfl) dX4_told_6 (c_X4_isAsker pm_L0 _ _) (fun x1 w1 hq => ?_)
    obtain ⟨rfl, hw9⟩ := hq
    have hw9 := hw9.symm
    subst hw9
    refine pm_if_ne (tgt := 15) dX4_told_9 (by decide) (fun c9 => ?_) (fun c9 => ?_)
    · rw [pm_z_1] at c9
      obtain ⟨q, hq4, rfl⟩ := as_of c9
      refine pm_iload_n dX4_told_15 rfl ?_
      refine pm_iconst (x := 0) dX4_told_16 rfl ?_
      refine pm_bipush (x := 9) dX4_told_17 rfl ?_
      refine pm_cSi (as := [.int _, .int _, .int _]) ml_RX4_31 (by decide) (Nat.le_of_ble_eq_true rfl) dX4_told_19 (c_X4_within pm_L0 _ _ _ _) (fun x1 w1 hq => ?_)
      obtain ⟨rfl, hw9⟩ := hq
      have hw9 := hw9.symm
      subst hw9
      refine pm_if_ne (tgt := 28) dX4_told_22 (by decide) (fun c22 => ?_) (fun c22 => ?_)
      · rw [pm_z_1] at c22
        obtain ⟨j, hj, rfl⟩ := bw_of (n := 9) (by decide) c22
        refine pm_iload_n dX4_told_28 rfl ?_
        refine pm_iconst (x := -1) dX4_told_29 rfl ?_
        refine pm_icmp_ne (tgt := 41) dX4_told_30 (by decide) (fun c30 => ?_) (fun c30 => absurd c30 c0)
        refine pm_aload_n dX4_told_41 rfl ?_
        refine pm_iload_n dX4_told_42 rfl ?_
        refine pm_iload_n dX4_told_43 rfl ?_
        refine pm_cVi (as := [.int _, .int _]) (by first | assumption | rfl) (by decide) rfl ml_RX4_86 (by decide) (Nat.le_of_ble_eq_true rfl) dX4_told_44 (c_X4_toldOfOne hR hq4 (by omega)) (fun x1 w1 hq => ?_)
        obtain ⟨rfl, hw9⟩ := hq
        have hw9 := hw9.symm
        subst hw9
        refine pm_iret dX4_told_47 rfl ?_
        refine ⟨?_, rfl⟩
        rw [pu_told, if_pos (Or.inr c9), if_pos c22, if_neg c0, nI_clamp (by omega), nI_clamp (by omega)]
      · refine pm_bipush (x := -102) dX4_told_25 rfl ?_
        refine pm_iret dX4_told_27 rfl ?_
        rw [pm_z_0] at c22
        refine ⟨?_, rfl⟩
        rw [pu_told, if_pos (Or.inr c9), if_neg (by rw [c22]; decide)]
    · refine pm_bipush (x := -101) dX4_told_12 rfl ?_
      refine pm_iret dX4_told_14 rfl ?_
      rw [pm_z_0] at c9
      refine ⟨?_, rfl⟩
      rw [pu_told, if_neg (by rw [c9]; simp [c0])]

set_option maxRecDepth 4000 in
theorem c_X4_reach {w : pm_W} {S : ab_S} (hR : hs_R w 1 S) (p : Int32) : pm_C pm_L0 MX4_reach [.ref 0, .int p] w (pm_qi fun r w1 => r = pu_reach S p ∧ w1 = w) := by
  obtain ⟨g1, g2, g3, g4, g5, g6⟩ := id hR
  refine pm_start (lv := [some (.ref _), some (.int _)]) (plainFor_of_name pf4) (Nat.le_of_ble_eq_true rfl) rfl ?_
  refine pm_iload_n dX4_reach_0 rfl ?_
  refine pm_cSi (as := [.int _]) ml_RX4_43 (by decide) (Nat.le_of_ble_eq_true rfl) dX4_reach_1 (c_X4_isAsker pm_L0 _ _) (fun x1 w1 hq => ?_)
  obtain ⟨rfl, hw9⟩ := hq
  have hw9 := hw9.symm
  subst hw9
  refine pm_if_eq (tgt := 22) dX4_reach_4 (by decide) (fun c4 => ?_) (fun c4 => ?_)
  · refine pm_bipush (x := -101) dX4_reach_22 rfl ?_
    refine pm_iret dX4_reach_24 rfl ?_
    rw [pm_z_0] at c4
    exact ⟨by rw [pu_reach, if_neg (by rw [c4]; decide)], rfl⟩
  · rw [pm_z_1] at c4
    obtain ⟨q, hq4, rfl⟩ := as_of c4
    obtain ⟨ha0, hao⟩ := L0_ask hq4
    obtain ⟨a1, a2, a3, a4, a5⟩ := id hao
    have hga : as_R w (14 + 3 * q) (S.2.2.1 q) := g3 q hq4
    refine pm_aload_n dX4_reach_7 rfl ?_
    refine pm_getR (ci := 4) (j := 0) (n := 4) (by first | assumption | rfl) (by decide) (by decide) rfl fl_RX4_10 rfl (by first | assumption | rfl) dX4_reach_8 ?_
    refine pm_getR (ci := 3) (j := 2) (n := 11) (by first | assumption | rfl) (by decide) (by decide) rfl fl_RX4_47 rfl (by first | assumption | rfl) dX4_reach_11 ?_
    refine pm_iload_n dX4_reach_14 rfl ?_
    refine pm_kaldN (by first | assumption | rfl) (by first | assumption | omega | decide) (by first | decide | omega) (by first | assumption | rfl) dX4_reach_15 ?_
    refine pm_getI (ci := 0) (j := 3) (n := 10) (by first | assumption | rfl) (by decide) (by decide) rfl fl_RX4_89 rfl dX4_reach_16 ?_
    refine pm_goto (tgt := 24) dX4_reach_19 (by decide) ?_
    refine pm_iret dX4_reach_24 rfl ?_
    exact ⟨by rw [pu_reach, if_pos c4, nI_clamp (by omega)]; exact hga.1 3 (by decide) (by decide), rfl⟩

set_option maxRecDepth 4000 in
theorem c_X4_follows {w : pm_W} {S : ab_S} (hR : hs_R w 1 S) (p b : Int32) : pm_C pm_L0 MX4_follows [.ref 0, .int p, .int b] w (pm_qi fun r w1 => r = pu_follows S p b ∧ w1 = w) := by
  obtain ⟨g1, g2, g3, g4, g5, g6⟩ := id hR
  refine pm_start (lv := [some (.ref _), some (.int _), some (.int _)]) (plainFor_of_name pf4) (Nat.le_of_ble_eq_true rfl) rfl ?_
  refine pm_iload_n dX4_follows_0 rfl ?_
  refine pm_cSi (as := [.int _]) ml_RX4_43 (by decide) (Nat.le_of_ble_eq_true rfl) dX4_follows_1 (c_X4_isAsker pm_L0 _ _) (fun x1 w1 hq => ?_)
  obtain ⟨rfl, hw9⟩ := hq
  have hw9 := hw9.symm
  subst hw9
  refine pm_if_ne (tgt := 10) dX4_follows_4 (by decide) (fun c4 => ?_) (fun c4 => ?_)
  · rw [pm_z_1] at c4
    obtain ⟨q, hq4, rfl⟩ := as_of c4
    obtain ⟨ha0, hao⟩ := L0_ask hq4
    obtain ⟨a1, a2, a3, a4, a5⟩ := id hao
    have hga : as_R w (14 + 3 * q) (S.2.2.1 q) := g3 q hq4
    refine pm_iload_n dX4_follows_10 rfl ?_
    refine pm_cSi (as := [.int _]) ml_RX4_70 (by decide) (Nat.le_of_ble_eq_true rfl) dX4_follows_11 (c_X4_isBlock pm_L0 _ _) (fun x1 w1 hq => ?_)
    obtain ⟨rfl, hw9⟩ := hq
    have hw9 := hw9.symm
    subst hw9
    refine pm_if_eq (tgt := 34) dX4_follows_14 (by decide) (fun c14 => ?_) (fun c14 => ?_)
    · refine pm_bipush (x := -102) dX4_follows_34 rfl ?_
      refine pm_iret dX4_follows_36 rfl ?_
      rw [pm_z_0] at c14
      exact ⟨by rw [pu_follows, if_pos c4, if_neg (by rw [c14]; decide)], rfl⟩
    · rw [pm_z_1] at c14
      have hb63 := pm_bw_t.mp c14
      refine pm_aload_n dX4_follows_17 rfl ?_
      refine pm_getR (ci := 4) (j := 0) (n := 4) (by first | assumption | rfl) (by decide) (by decide) rfl fl_RX4_10 rfl (by first | assumption | rfl) dX4_follows_18 ?_
      refine pm_getR (ci := 3) (j := 2) (n := 11) (by first | assumption | rfl) (by decide) (by decide) rfl fl_RX4_47 rfl (by first | assumption | rfl) dX4_follows_21 ?_
      refine pm_iload_n dX4_follows_24 rfl ?_
      refine pm_kaldN (by first | assumption | rfl) (by first | assumption | omega | decide) (by first | decide | omega) (by first | assumption | rfl) dX4_follows_25 ?_
      refine pm_getR (ci := 0) (j := 1) (n := 10) (by first | assumption | rfl) (by decide) (by decide) rfl fl_RX4_117 rfl (by first | assumption | rfl) dX4_follows_26 ?_
      refine pm_iload_n dX4_follows_29 rfl ?_
      refine pm_iald (by first | assumption | rfl) (by exact ix_in hb63 (by decide)) dX4_follows_30 ?_
      refine pm_goto (tgt := 36) dX4_follows_31 (by decide) ?_
      refine pm_iret dX4_follows_36 rfl ?_
      exact ⟨by rw [pu_follows, if_pos c4, if_pos c14, nI_clamp (by omega)]; exact hga.2.2 _ (ix_lt hb63 (by decide)), rfl⟩
  · refine pm_bipush (x := -101) dX4_follows_7 rfl ?_
    refine pm_iret dX4_follows_9 rfl ?_
    rw [pm_z_0] at c4
    exact ⟨by rw [pu_follows, if_neg (by rw [c4]; decide)], rfl⟩

set_option maxRecDepth 4000 in
theorem c_X4_house {w : pm_W} {S : ab_S} (hR : hs_R w 1 S) (x : Int32) : pm_C pm_L0 MX4_house [.ref 0, .int x] w (pm_qi fun r w1 => r = pu_house S x ∧ w1 = w) := by
  obtain ⟨g1, g2, g3, g4, g5, g6⟩ := id hR
  refine pm_start (lv := [some (.ref _), some (.int _)]) (plainFor_of_name pf4) (Nat.le_of_ble_eq_true rfl) rfl ?_
  refine pm_iload_n dX4_house_0 rfl ?_
  by_cases hx : pm_bw x 0 7 = true
  · obtain ⟨j, hj, rfl⟩ := bw_of (n := 7) (by decide) hx
    rcases (show j = 0 ∨ j = 1 ∨ j = 2 ∨ j = 3 ∨ j = 4 ∨ j = 5 ∨ j = 6 ∨ j = 7 by omega) with rfl | rfl | rfl | rfl | rfl | rfl | rfl | rfl
    · refine pm_tableIn (off := 47) (tgt := 48) dX4_house_1 (by decide) (by decide) (by decide) (by decide) ?_
      refine pm_aload_n dX4_house_48 rfl ?_
      refine pm_getR (ci := 4) (j := 0) (n := 4) (by first | assumption | rfl) (by decide) (by decide) rfl fl_RX4_10 rfl (by first | assumption | rfl) dX4_house_49 ?_
      refine pm_getI (ci := 3) (j := 7) (n := 11) (by first | assumption | rfl) (by decide) (by decide) rfl fl_RX4_120 rfl dX4_house_52 ?_
      refine pm_iret dX4_house_55 rfl ?_
      exact ⟨g4 7 (by decide) (by decide), rfl⟩
    · refine pm_tableIn (off := 55) (tgt := 56) dX4_house_1 (by decide) (by decide) (by decide) (by decide) ?_
      refine pm_aload_n dX4_house_56 rfl ?_
      refine pm_getR (ci := 4) (j := 0) (n := 4) (by first | assumption | rfl) (by decide) (by decide) rfl fl_RX4_10 rfl (by first | assumption | rfl) dX4_house_57 ?_
      refine pm_getI (ci := 3) (j := 9) (n := 11) (by first | assumption | rfl) (by decide) (by decide) rfl fl_RX4_123 rfl dX4_house_60 ?_
      refine pm_iret dX4_house_63 rfl ?_
      exact ⟨g4 9 (by decide) (by decide), rfl⟩
    · refine pm_tableIn (off := 63) (tgt := 64) dX4_house_1 (by decide) (by decide) (by decide) (by decide) ?_
      refine pm_aload_n dX4_house_64 rfl ?_
      refine pm_getR (ci := 4) (j := 0) (n := 4) (by first | assumption | rfl) (by decide) (by decide) rfl fl_RX4_10 rfl (by first | assumption | rfl) dX4_house_65 ?_
      refine pm_getI (ci := 3) (j := 4) (n := 11) (by first | assumption | rfl) (by decide) (by decide) rfl fl_RX4_60 rfl dX4_house_68 ?_
      refine pm_iret dX4_house_71 rfl ?_
      exact ⟨g4 4 (by decide) (by decide), rfl⟩
    · refine pm_tableIn (off := 71) (tgt := 72) dX4_house_1 (by decide) (by decide) (by decide) (by decide) ?_
      refine pm_aload_n dX4_house_72 rfl ?_
      refine pm_getR (ci := 4) (j := 0) (n := 4) (by first | assumption | rfl) (by decide) (by decide) rfl fl_RX4_10 rfl (by first | assumption | rfl) dX4_house_73 ?_
      refine pm_getI (ci := 3) (j := 5) (n := 11) (by first | assumption | rfl) (by decide) (by decide) rfl fl_RX4_126 rfl dX4_house_76 ?_
      refine pm_iret dX4_house_79 rfl ?_
      exact ⟨g4 5 (by decide) (by decide), rfl⟩
    · refine pm_tableIn (off := 79) (tgt := 80) dX4_house_1 (by decide) (by decide) (by decide) (by decide) ?_
      refine pm_aload_n dX4_house_80 rfl ?_
      refine pm_getR (ci := 4) (j := 0) (n := 4) (by first | assumption | rfl) (by decide) (by decide) rfl fl_RX4_10 rfl (by first | assumption | rfl) dX4_house_81 ?_
      refine pm_getR (ci := 3) (j := 0) (n := 11) (by first | assumption | rfl) (by decide) (by decide) rfl fl_RX4_92 rfl (by first | assumption | rfl) dX4_house_84 ?_
      refine pm_getI (ci := 2) (j := 4) (n := 5) (by first | assumption | rfl) (by decide) (by decide) rfl fl_RX4_96 rfl dX4_house_87 ?_
      refine pm_iret dX4_house_90 rfl ?_
      exact ⟨g1.1, rfl⟩
    · refine pm_tableIn (off := 90) (tgt := 91) dX4_house_1 (by decide) (by decide) (by decide) (by decide) ?_
      refine pm_aload_n dX4_house_91 rfl ?_
      refine pm_getR (ci := 4) (j := 0) (n := 4) (by first | assumption | rfl) (by decide) (by decide) rfl fl_RX4_10 rfl (by first | assumption | rfl) dX4_house_92 ?_
      refine pm_getR (ci := 3) (j := 1) (n := 11) (by first | assumption | rfl) (by decide) (by decide) rfl fl_RX4_114 rfl (by first | assumption | rfl) dX4_house_95 ?_
      refine pm_getI (ci := 2) (j := 4) (n := 5) (by first | assumption | rfl) (by decide) (by decide) rfl fl_RX4_96 rfl dX4_house_98 ?_
      refine pm_iret dX4_house_101 rfl ?_
      exact ⟨g2.1, rfl⟩
    · refine pm_tableIn (off := 101) (tgt := 102) dX4_house_1 (by decide) (by decide) (by decide) (by decide) ?_
      refine pm_aload_n dX4_house_102 rfl ?_
      refine pm_getR (ci := 4) (j := 0) (n := 4) (by first | assumption | rfl) (by decide) (by decide) rfl fl_RX4_10 rfl (by first | assumption | rfl) dX4_house_103 ?_
      refine pm_getI (ci := 3) (j := 8) (n := 11) (by first | assumption | rfl) (by decide) (by decide) rfl fl_RX4_129 rfl dX4_house_106 ?_
      refine pm_iret dX4_house_109 rfl ?_
      exact ⟨g4 8 (by decide) (by decide), rfl⟩
    · refine pm_tableIn (off := 109) (tgt := 110) dX4_house_1 (by decide) (by decide) (by decide) (by decide) ?_
      refine pm_aload_n dX4_house_110 rfl ?_
      refine pm_getR (ci := 4) (j := 0) (n := 4) (by first | assumption | rfl) (by decide) (by decide) rfl fl_RX4_10 rfl (by first | assumption | rfl) dX4_house_111 ?_
      refine pm_getI (ci := 3) (j := 6) (n := 11) (by first | assumption | rfl) (by decide) (by decide) rfl fl_RX4_132 rfl dX4_house_114 ?_
      refine pm_iret dX4_house_117 rfl ?_
      exact ⟨g4 6 (by decide) (by decide), rfl⟩
  · have hx2 : x.toInt < 0 ∨ 7 < x.toInt := by
      rw [Bool.not_eq_true, pm_bw_f, Int32.lt_iff_toInt_lt, Int32.lt_iff_toInt_lt] at hx
      exact hx
    refine pm_tableOut (tgt := 118) dX4_house_1 hx2 (by decide) ?_
    refine pm_bipush (x := -102) dX4_house_118 rfl ?_
    refine pm_iret dX4_house_120 rfl ?_
    refine ⟨?_, rfl⟩
    have hne : ∀ k : Int32, 0 ≤ k.toInt → k.toInt ≤ 7 → ¬ x = k := fun k k1 k2 e => by subst e; omega
    rw [pu_house, if_neg (hne 0 (by decide) (by decide)), if_neg (hne 1 (by decide) (by decide)), if_neg (hne 2 (by decide) (by decide)), if_neg (hne 3 (by decide) (by decide)), if_neg (hne 4 (by decide) (by decide)), if_neg (hne 5 (by decide) (by decide)), if_neg (hne 6 (by decide) (by decide)), if_neg (hne 7 (by decide) (by decide))]

