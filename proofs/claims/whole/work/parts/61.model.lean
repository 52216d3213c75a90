set_option maxRecDepth 4000 in
theorem wa_loop {w : pm_W} {S : ab_S} {p : Nat} (hp : p < 4) (b st sm : Int32) {r : Nat} (hr : r ≤ 8) (T : Nat → ab_S) (nx : Nat → Int32) (hT : ∀ i, i ≤ r → (T i).2.2 = S.2.2) (body : ∀ i, i < r → ∀ w1, mo_R w1 (T i) → mfr w w1 [87, 88] [9] → (∀ w2, mo_R w2 (T (i + 1)) → mfr w w2 [87, 88] [9] → pm_R pm_L0 MX5_wishAll 180 [some (.ref 83), some (.int (nI p)), some (.int b), some (.int st), some (.int sm), some (.int (nI r)), some (.int (nx (i + 1))), some (.int (nI (i + 1)))] [] w2 (pm_qv fun w2 => mo_R w2 (T r) ∧ mfr w w2 [87, 88] [9])) → pm_R pm_L0 MX5_wishAll 26 [some (.ref 83), some (.int (nI p)), some (.int b), some (.int st), some (.int sm), some (.int (nI r)), some (.int (nx i)), some (.int (nI (i + 1)))] [.int ((S.2.2.1 p).1 2)] w1 (pm_qv fun w2 => mo_R w2 (T r) ∧ mfr w w2 [87, 88] [9])) : ∀ i, i ≤ r → ∀ w1, mo_R w1 (T i) → mfr w w1 [87, 88] [9] → pm_R pm_L0 MX5_wishAll 13 [some (.ref 83), some (.int (nI p)), some (.int b), some (.int st), some (.int sm), some (.int (nI r)), some (.int (nx i)), some (.int (nI (i + 1)))] [] w1 (pm_qv fun w2 => mo_R w2 (T r) ∧ mfr w w2 [87, 88] [9]) := by
    refine up_loop r (fun i hi ih w1 h1 f1 => ?_)
    refine pm_iload dX5_wishAll_13 rfl ?_
    refine pm_iload dX5_wishAll_15 rfl ?_
    refine pm_icmp_gt (tgt := 186) dX5_wishAll_17 (by decide) (fun c17 => ?_) (fun c17 => ?_)
    · refine pm_vret dX5_wishAll_186 rfl ?_
      rw [nI_ltI (by omega) (by omega)] at c17
      have : i = r := by omega
      subst this
      exact ⟨h1, f1⟩
    · have hlt : i < r := by
        rw [nI_ltI (by omega) (by omega)] at c17
        omega
      refine pm_aload_n dX5_wishAll_20 rfl ?_
      refine pm_getR (ci := 5) (j := 13) (n := 39) (by first | assumption | rfl) (by decide) (by decide) rfl fl_RX5_26 rfl (by first | assumption | rfl) dX5_wishAll_21 ?_
      refine pm_iload_n dX5_wishAll_24 rfl ?_
      refine pm_ialdN (by first | assumption | rfl) (by omega) (by first | decide | omega) dX5_wishAll_25 ?_
      rw [show w1.1 89 p = (S.2.2.1 p).1 2 by rw [(h1.2.2.1 p hp).1, hT i hi]]
      refine body i hlt w1 h1 f1 (fun w2 h2 f2 => ?_)
      refine pm_iinc (y := _ + 1) (lv' := [some (.ref _), some (.int _), some (.int _), some (.int _), some (.int _), some (.int _), some (.int _), some (.int _)]) dX5_wishAll_180 rfl rfl (by decide) rfl ?_
      refine pm_goto (tgt := 13) dX5_wishAll_183 (by decide) ?_
      rw [nI_1]
      exact ih hlt w2 h2 f2

def ab_nx (A : ab_A) (b : Int32) : Nat → Int32
  | 0 => b
  | n + 1 => if ab_nx A b n < 0 then -1 else A.2.2 (ab_nx A b n).toNatClampNeg
def ab_nT (S : ab_S) (p : Nat) (A : ab_A) (b : Int32) : Nat → ab_S
  | 0 => S
  | n + 1 => ab_w1 (ab_nT S p A b n) p (ab_nx A b (n + 1))
theorem nT_ask (S : ab_S) (p : Nat) (A : ab_A) (b : Int32) : ∀ n, (ab_nT S p A b n).2.2 = S.2.2
  | 0 => rfl
  | n + 1 => (w1_ask _ _ _).trans (nT_ask S p A b n)
theorem nx_front (A : ab_A) (b : Int32) : ∀ n, ab_nx A b (n + 1) = ab_nx A (ab_nx A b 1) n
  | 0 => rfl
  | n + 1 => by rw [ab_nx, nx_front A b n]; rfl
theorem nT_front (S : ab_S) (p : Nat) (A : ab_A) (b : Int32) : ∀ n, ab_nT S p A b (n + 1) = ab_nT (ab_w1 S p (ab_nx A b 1)) p A (ab_nx A b 1) n
  | 0 => rfl
  | n + 1 => by rw [ab_nT, nT_front S p A b n, nx_front A b (n + 1), ← ab_nT]
theorem nx_m1 (A : ab_A) : ∀ n, ab_nx A (-1) n = -1
  | 0 => rfl
  | n + 1 => by rw [ab_nx, nx_m1 A n, if_pos (by decide)]
theorem w1_m1 (S : ab_S) (p : Nat) : ab_w1 S p (-1) = S := by
  rw [ab_w1, if_neg]
  rintro ⟨h, -⟩
  revert h
  decide
theorem nT_m1 (S : ab_S) (p : Nat) (A : ab_A) : ∀ n, ab_nT S p A (-1) n = S
  | 0 => rfl
  | n + 1 => by rw [ab_nT, nT_m1 S p A n, nx_m1, w1_m1]
theorem nT_wf {A : ab_A} {p : Nat} (hA : ab_aok A) : ∀ (n : Nat) (S : ab_S) (b : Int32), S.2.2.1 p = A → 0 ≤ b ∧ b ≤ 63 → ab_nT S p A b n = ab_wf n S p (A.2.2 b.toNatClampNeg)
  | 0, S, b, _, _ => rfl
  | n + 1, S, b, hS, hb => by
    have e1 : ab_nx A b 1 = A.2.2 b.toNatClampNeg := by rw [ab_nx, ab_nx, if_neg (Int32.not_lt.mpr hb.1)]
    rw [nT_front, ab_wf, e1]
    obtain ⟨j, hj, rfl⟩ := nI_of2 (n := 63) (M := 63) (by decide) (Int32.not_lt.mpr hb.1) hb.2
    rw [nI_clamp (by omega)]
    rcases hA.2.1 j (by omega) with h | h
    · rw [h, if_pos rfl, w1_m1, nT_m1]
    · have hn : ¬ A.2.2 j = -1 := fun e => by rw [e] at h; exact absurd h.1 (by decide)
      rw [if_neg hn, nT_wf hA n _ _ (by rw [w1_ask]; exact hS) h, hS]
theorem I_nT {S : ab_S} (h : ab_I S) {p : Nat} (hp : p < 4) (A : ab_A) (b : Int32) : ∀ n, ab_I (ab_nT S p A b n)
  | 0 => h
  | n + 1 => I_w1 (I_nT h hp A b n) hp _
theorem J_nT {S : ab_S} (h : ab_J S) (p : Nat) (A : ab_A) (b : Int32) : ∀ n, ab_J (ab_nT S p A b n)
  | 0 => h
  | n + 1 => J_w1 (J_nT h p A b n) p _
theorem nx_ok {A : ab_A} (hA : ab_aok A) {b : Int32} (hb : 0 ≤ b ∧ b ≤ 63) : ∀ n, ab_nx A b n = -1 ∨ (0 ≤ ab_nx A b n ∧ ab_nx A b n ≤ 63)
  | 0 => Or.inr hb
  | n + 1 => by
    rw [ab_nx]
    split
    · exact Or.inl rfl
    next h =>
      rcases nx_ok hA hb n with h1 | h1
      · rw [h1] at h; exact absurd (by decide) h
      · obtain ⟨j, hj, e⟩ := nI_of2 (n := 63) (M := 63) (by decide) (Int32.not_lt.mpr h1.1) h1.2
        rw [e, nI_clamp (by omega)]
        exact hA.2.1 j (by omega)
theorem hint_t {A : ab_A} (h : ab_aok A) {b : Int32} (hs : ab_sp A b = true) : ∃ c t r, b = nI c ∧ A.1 6 = nI t ∧ A.1 3 = nI r ∧ c ≤ t ∧ t ≤ 63 ∧ r ≤ 8 ∧ (ab_min (A.1 3) (A.1 6 - b)).toNatClampNeg = min r (t - c) := by
  obtain ⟨-, -, -, h4, h5, -⟩ := h
  simp only [ab_sp, Bool.and_eq_true, Bool.not_eq_true', decide_eq_false_iff_not, decide_eq_true_eq] at hs
  obtain ⟨s1, s2, s3⟩ := hs
  obtain ⟨f1, f2, f3, -⟩ := h5.resolve_left s1
  have hb0 : 0 ≤ b := Int32.le_trans f1 s2
  have hb63 : b ≤ 63 := Int32.le_trans s3 f3
  obtain ⟨c, hc, rfl⟩ := nI_of2 (n := 63) (M := 63) (by decide) (Int32.not_lt.mpr hb0) hb63
  obtain ⟨t, ht, et⟩ := nI_of2 (n := 63) (M := 63) (by decide) (Int32.not_lt.mpr (Int32.le_trans hb0 s3)) f3
  obtain ⟨r, hr, er⟩ := nI_of2 (n := 8) (M := 8) (by decide) (Int32.not_lt.mpr h4.1) h4.2
  rw [et] at s3 ⊢
  rw [nI_leI (by omega) (by omega)] at s3
  refine ⟨c, t, r, rfl, rfl, er, s3, ht, hr, ?_⟩
  rw [er, pk_sub s3, ab_min]
  by_cases hq : nI (t - c) < nI r
  · rw [if_pos hq, nI_clamp (by omega)]
    rw [nI_ltI (by omega) (by omega)] at hq
    omega
  · rw [if_neg hq, nI_clamp (by omega)]
    rw [nI_ltI (by omega) (by omega)] at hq
    omega

set_option maxRecDepth 4000 in
theorem c_X5_wishAll {w : pm_W} {S : ab_S} (hR : mo_R w S) (hI : ab_I S) (hJ : ab_J S) {p : Nat} (hp : p < 4) {b : Int32} (hb3 : 0 ≤ b ∧ b ≤ 63) {st sm : Int32} {sd : Bool} (hst : (S.2.2.1 p).1 2 = 2 → sd = true → st = (S.2.2.1 p).1 8) (hsm : sm = pm_z sd) : pm_C pm_L0 MX5_wishAll [.ref 83, .int (nI p), .int b, .int st, .int sm] w (pm_qv fun w1 => mo_R w1 (ab_wish S p b sd) ∧ mfr w w1 [87, 88] [9]) := by
  obtain ⟨g1, g2, g3, g4, g5⟩ := id hR
  obtain ⟨⟨sp, i1, i2, i3, i4⟩, i5, i6, i7, i8, i9, i10, i11, i12⟩ := id hI
  obtain ⟨kd, hkd, ekd⟩ := nI_of2 (n := 5) (M := 5) (by decide) (Int32.not_lt.mpr (i9 p hp).2.2.1.1) (i9 p hp).2.2.1.2
  obtain ⟨r, hr8, er⟩ := nI_of2 (n := 8) (M := 8) (by decide) (Int32.not_lt.mpr (i9 p hp).2.2.2.1.1) (i9 p hp).2.2.2.1.2
  refine pm_start (lv := [some (.ref _), some (.int _), some (.int _), some (.int _), some (.int _), none, none, none]) (plainFor_of_name pf5) (Nat.le_of_ble_eq_true rfl) rfl ?_
  refine pm_aload_n dX5_wishAll_0 rfl ?_
  refine pm_iload_n dX5_wishAll_1 rfl ?_
  refine pm_cVi (as := [.int _]) (by first | assumption | rfl) (by decide) rfl ml_RX5_187 (by decide) (Nat.le_of_ble_eq_true rfl) dX5_wishAll_2 (c_X5_reachOf hp (g3 p hp)) (fun x1 w1 hq => ?_)
  obtain ⟨rfl, hw9⟩ := hq
  have hw9 := hw9.symm
  subst hw9
  rw [er]
  refine pm_istore (lv' := [some (.ref _), some (.int _), some (.int _), some (.int _), some (.int _), some (.int _), none, none]) dX5_wishAll_5 (by decide) rfl ?_
  refine pm_iload_n dX5_wishAll_7 rfl ?_
  refine pm_istore (lv' := [some (.ref _), some (.int _), some (.int _), some (.int _), some (.int _), some (.int _), some (.int _), none]) dX5_wishAll_8 (by decide) rfl ?_
  refine pm_iconst (x := 1) dX5_wishAll_10 rfl ?_
  refine pm_istore (lv' := [some (.ref _), some (.int _), some (.int _), some (.int _), some (.int _), some (.int _), some (.int _), some (.int _)]) dX5_wishAll_11 (by decide) rfl ?_
  rw [show (1 : Int32) = nI (0 + 1) from rfl]
  rcases (show kd = 0 ∨ kd = 1 ∨ kd = 2 ∨ kd = 3 ∨ kd = 4 ∨ kd = 5 by omega) with rfl | rfl | rfl | rfl | rfl | rfl
  · refine pm_Rm (wa_loop (w := w) (S := S) hp b st sm hr8 (fun _ => S) (fun _ => b) (fun _ _ => rfl) (fun i hi w1 h1 f1 k => ?_) 0 (Nat.zero_le _) w hR (mfr_rf _ _ _)) (fun w2 h2 => ?_)
    · rw [ekd]
      refine pm_tableOut (tgt := 180) dX5_wishAll_26 (Or.inl (by decide)) (by decide) ?_
      exact k w1 h1 f1
    · rw [ab_wish, if_neg (by rw [ekd]; decide), if_neg (by rw [ekd]; decide), if_neg (by rw [ekd]; decide), if_neg (by rw [ekd]; decide)]
      exact h2
  · refine pm_Rm (wa_loop (w := w) (S := S) hp b st sm hr8 (ab_ws S p (fun i => b + nI i * 1)) (fun _ => b) (fun i _ => ws_ask _ _ _ i) (fun i hi w1 h1 f1 k => ?_) 0 (Nat.zero_le _) w hR (mfr_rf _ _ _)) (fun w2 h2 => ?_)
    · rw [ekd]
      refine pm_tableIn (off := 34) (tgt := 60) dX5_wishAll_26 (by decide) (by decide) (by decide) (by decide) ?_
      refine pm_aload_n dX5_wishAll_60 rfl ?_
      refine pm_iload_n dX5_wishAll_61 rfl ?_
      refine pm_iload_n dX5_wishAll_62 rfl ?_
      refine pm_iload dX5_wishAll_63 rfl ?_
      refine pm_iadd dX5_wishAll_65 ?_
      refine pm_cVv (as := [.int _, .int _]) (by first | assumption | rfl) (by decide) rfl ml_RX5_190 (by decide) (Nat.le_of_ble_eq_true rfl) dX5_wishAll_66 (c_X5_wish h1 (I_ws hI hp _ i) (J_ws hJ p _ i) hp _) (fun w3 hq => ?_)
      obtain ⟨q1, q2⟩ := hq
      refine pm_goto (tgt := 180) dX5_wishAll_69 (by decide) ?_
      refine k w3 ?_ (mfr_tr f1 q2)
      show mo_R w3 (ab_w1 _ _ (b + nI (i + 1) * 1))
      rw [Int32.mul_one]
      exact q1
    · rw [ab_wish, if_pos (show (S.2.2.1 p).1 2 = 1 ∨ (S.2.2.1 p).1 2 = 5 from Or.inl ekd), er, nI_clamp (by omega)]
      exact h2
  · by_cases hsd : sd = true
    · refine pm_Rm (wa_loop (w := w) (S := S) hp b st sm hr8 (ab_ws S p (fun i => b + nI i * (S.2.2.1 p).1 8)) (fun _ => b) (fun i _ => ws_ask _ _ _ i) (fun i hi w1 h1 f1 k => ?_) 0 (Nat.zero_le _) w hR (mfr_rf _ _ _)) (fun w2 h2 => ?_)
      · rw [ekd]
        refine pm_tableIn (off := 46) (tgt := 72) dX5_wishAll_26 (by decide) (by decide) (by decide) (by decide) ?_
        refine pm_iload dX5_wishAll_72 rfl ?_
        refine pm_if_eq (tgt := 180) dX5_wishAll_74 (by decide) (fun c74 => absurd c74 (by rw [hsm, hsd]; decide)) (fun c74 => ?_)
        refine pm_aload_n dX5_wishAll_77 rfl ?_
        refine pm_iload_n dX5_wishAll_78 rfl ?_
        refine pm_iload_n dX5_wishAll_79 rfl ?_
        refine pm_iload dX5_wishAll_80 rfl ?_
        refine pm_iload_n dX5_wishAll_82 rfl ?_
        refine pm_imul dX5_wishAll_83 ?_
        refine pm_iadd dX5_wishAll_84 ?_
        refine pm_cVv (as := [.int _, .int _]) (by first | assumption | rfl) (by decide) rfl ml_RX5_190 (by decide) (Nat.le_of_ble_eq_true rfl) dX5_wishAll_85 (c_X5_wish h1 (I_ws hI hp _ i) (J_ws hJ p _ i) hp _) (fun w3 hq => ?_)
        obtain ⟨q1, q2⟩ := hq
        refine pm_goto (tgt := 180) dX5_wishAll_88 (by decide) ?_
        refine k w3 ?_ (mfr_tr f1 q2)
        rw [hst ekd hsd] at q1
        exact q1
      · rw [ab_wish, if_neg (by rw [ekd]; decide), if_pos (show (S.2.2.1 p).1 2 = 2 from ekd), if_pos hsd, er, nI_clamp (by omega)]
        exact h2
    · refine pm_Rm (wa_loop (w := w) (S := S) hp b st sm hr8 (fun _ => S) (fun _ => b) (fun _ _ => rfl) (fun i hi w1 h1 f1 k => ?_) 0 (Nat.zero_le _) w hR (mfr_rf _ _ _)) (fun w2 h2 => ?_)
      · rw [ekd]
        refine pm_tableIn (off := 46) (tgt := 72) dX5_wishAll_26 (by decide) (by decide) (by decide) (by decide) ?_
        refine pm_iload dX5_wishAll_72 rfl ?_
        refine pm_if_eq (tgt := 180) dX5_wishAll_74 (by decide) (fun c74 => ?_) (fun c74 => absurd (show sm = 0 by rw [hsm, pm_z_0]; simpa using hsd) c74)
        exact k w1 h1 f1
      · rw [ab_wish, if_neg (by rw [ekd]; decide), if_pos (show (S.2.2.1 p).1 2 = 2 from ekd), if_neg hsd]
        exact h2
  · refine pm_Rm (wa_loop (w := w) (S := S) hp b st sm hr8 (ab_nT S p (S.2.2.1 p) b) (ab_nx (S.2.2.1 p) b) (fun i _ => nT_ask _ _ _ _ i) (fun i hi w1 h1 f1 k => ?_) 0 (Nat.zero_le _) w hR (mfr_rf _ _ _)) (fun w2 h2 => ?_)
    · rw [ekd]
      refine pm_tableIn (off := 65) (tgt := 91) dX5_wishAll_26 (by decide) (by decide) (by decide) (by decide) ?_
      have hxn := nx_ok (i9 p hp) hb3 i
      refine pm_iload dX5_wishAll_91 rfl ?_
      refine pm_if_ge (tgt := 100) dX5_wishAll_93 (by decide) (fun c93 => ?_) (fun c93 => ?_)
      · obtain ⟨y, hy, ey⟩ := nI_of2 (n := 63) (M := 63) (by decide) (Int32.not_lt.mpr ((hxn.resolve_left (fun e => by rw [e] at c93; exact absurd c93 (by decide))).1)) (hxn.resolve_left (fun e => by rw [e] at c93; exact absurd c93 (by decide))).2
        refine pm_aload_n dX5_wishAll_100 rfl ?_
        refine pm_getR (ci := 5) (j := 21) (n := 39) (by first | assumption | rfl) (by decide) (by decide) rfl fl_RX5_50 rfl (by first | assumption | rfl) dX5_wishAll_101 ?_
        refine pm_bipush (x := 64) dX5_wishAll_104 rfl ?_
        refine pm_iload_n dX5_wishAll_106 rfl ?_
        refine pm_imul dX5_wishAll_107 ?_
        refine pm_iload dX5_wishAll_108 rfl ?_
        rw [ey]
        refine pm_iadd dX5_wishAll_110 ?_
        refine pm_topi (nI (64 * p + y)) (by rw [show (64 : Int32) = nI 64 from rfl, pk_mul, nI_add]) ?_
        refine pm_ialdN (by first | assumption | rfl) (by omega) (by first | decide | omega) dX5_wishAll_111 ?_
        first | refine pm_topi (ab_nx (S.2.2.1 p) b (i + 1)) (by rw [(h1.2.2.1 p hp).2.2.2.2.2.2.2.1 y (by omega), nT_ask, ab_nx, if_neg (Int32.not_lt.mpr c93), ey, nI_clamp (by omega)]) ?_ | skip
        refine pm_istore (lv' := [some (.ref _), some (.int _), some (.int _), some (.int _), some (.int _), some (.int _), some (.int _), some (.int _)]) dX5_wishAll_112 (by decide) rfl ?_
        refine pm_aload_n dX5_wishAll_114 rfl ?_
        refine pm_iload_n dX5_wishAll_115 rfl ?_
        refine pm_iload dX5_wishAll_116 rfl ?_
        refine pm_cVv (as := [.int _, .int _]) (by first | assumption | rfl) (by decide) rfl ml_RX5_190 (by decide) (Nat.le_of_ble_eq_true rfl) dX5_wishAll_118 (c_X5_wish h1 (I_nT hI hp _ _ i) (J_nT hJ p _ _ i) hp _) (fun w3 hq => ?_)
        obtain ⟨q1, q2⟩ := hq
        refine pm_goto (tgt := 180) dX5_wishAll_121 (by decide) ?_
        exact k w3 q1 (mfr_tr f1 q2)
      · refine pm_iconst (x := -1) dX5_wishAll_96 rfl ?_
        refine pm_topi (ab_nx (S.2.2.1 p) b (i + 1)) (by rw [ab_nx, if_pos (Int32.not_le.mp c93)]) ?_
        refine pm_goto (tgt := 112) dX5_wishAll_97 (by decide) ?_
        first | refine pm_topi (ab_nx (S.2.2.1 p) b (i + 1)) (by rw [(h1.2.2.1 p hp).2.2.2.2.2.2.2.1 y (by omega), nT_ask, ab_nx, if_neg (Int32.not_lt.mpr c93), ey, nI_clamp (by omega)]) ?_ | skip
        refine pm_istore (lv' := [some (.ref _), some (.int _), some (.int _), some (.int _), some (.int _), some (.int _), some (.int _), some (.int _)]) dX5_wishAll_112 (by decide) rfl ?_
        refine pm_aload_n dX5_wishAll_114 rfl ?_
        refine pm_iload_n dX5_wishAll_115 rfl ?_
        refine pm_iload dX5_wishAll_116 rfl ?_
        refine pm_cVv (as := [.int _, .int _]) (by first | assumption | rfl) (by decide) rfl ml_RX5_190 (by decide) (Nat.le_of_ble_eq_true rfl) dX5_wishAll_118 (c_X5_wish h1 (I_nT hI hp _ _ i) (J_nT hJ p _ _ i) hp _) (fun w3 hq => ?_)
        obtain ⟨q1, q2⟩ := hq
        refine pm_goto (tgt := 180) dX5_wishAll_121 (by decide) ?_
        exact k w3 q1 (mfr_tr f1 q2)
    · rw [ab_wish, if_neg (by rw [ekd]; decide), if_neg (by rw [ekd]; decide), if_pos (show (S.2.2.1 p).1 2 = 3 from ekd), er, nI_clamp (by omega), ← nT_wf (i9 p hp) r S b rfl hb3]
      exact h2
  · have hT9 : ∀ i, ((fun i => if ab_sp (S.2.2.1 p) b = true then ab_ws S p (fun i => b + nI i * 1) (min i (ab_min ((S.2.2.1 p).1 3) ((S.2.2.1 p).1 6 - b)).toNatClampNeg) else S) i).2.2 = S.2.2 := fun i => by
      try dsimp only
      split
      · exact ws_ask _ _ _ _
      · rfl
    try dsimp only at hT9
    refine pm_Rm (wa_loop (w := w) (S := S) hp b st sm hr8 (fun i => if ab_sp (S.2.2.1 p) b = true then ab_ws S p (fun i => b + nI i * 1) (min i (ab_min ((S.2.2.1 p).1 3) ((S.2.2.1 p).1 6 - b)).toNatClampNeg) else S) (fun _ => b) (fun i _ => hT9 i) (fun i hi w1 h1 f1 k => ?_) 0 (Nat.zero_le _) w (by rw [Nat.zero_min]; split <;> exact hR) (mfr_rf _ _ _)) (fun w2 h2 => ?_)
    · rw [ekd]
      refine pm_tableIn (off := 98) (tgt := 124) dX5_wishAll_26 (by decide) (by decide) (by decide) (by decide) ?_
      have e5 : w1.1 93 p = (S.2.2.1 p).1 5 := by rw [(h1.2.2.1 p hp).2.2.2.1, hT9 i]
      refine pm_aload_n dX5_wishAll_124 rfl ?_
      refine pm_getR (ci := 5) (j := 17) (n := 39) (by first | assumption | rfl) (by decide) (by decide) rfl fl_RX5_38 rfl (by first | assumption | rfl) dX5_wishAll_125 ?_
      refine pm_iload_n dX5_wishAll_128 rfl ?_
      refine pm_ialdN (by first | assumption | rfl) (by omega) (by first | decide | omega) dX5_wishAll_129 ?_
      rw [e5]
      refine pm_if_lt (tgt := 180) dX5_wishAll_130 (by decide) (fun c130 => ?_) (fun c130 => ?_)
      · rcases (i9 p hp).2.2.2.2.1 with h5 | h5
        · have hsp : ¬ ab_sp (S.2.2.1 p) b = true := by simp [ab_sp, h5]
          rw [if_neg hsp] at h1
          refine k w1 ?_ f1
          try dsimp only
          rw [if_neg hsp]
          exact h1
        · exact absurd h5.1 (Int32.not_le.mpr c130)
      · have hn5 : ¬ (S.2.2.1 p).1 5 = -1 := fun e => by rw [e] at c130; exact absurd (by decide) c130
        have e6 : w1.1 94 p = (S.2.2.1 p).1 6 := by
          rw [(h1.2.2.1 p hp).2.2.2.2.1 (by rw [hT9 i]; exact hn5), hT9 i]
        refine pm_iload_n dX5_wishAll_133 rfl ?_
        refine pm_i2l dX5_wishAll_134 ?_
        refine pm_aload_n dX5_wishAll_135 rfl ?_
        refine pm_getR (ci := 5) (j := 17) (n := 39) (by first | assumption | rfl) (by decide) (by decide) rfl fl_RX5_38 rfl (by first | assumption | rfl) dX5_wishAll_136 ?_
        refine pm_iload_n dX5_wishAll_139 rfl ?_
        refine pm_ialdN (by first | assumption | rfl) (by omega) (by first | decide | omega) dX5_wishAll_140 ?_
        rw [e5]
        refine pm_i2l dX5_wishAll_141 ?_
        refine pm_aload_n dX5_wishAll_142 rfl ?_
        refine pm_getR (ci := 5) (j := 18) (n := 39) (by first | assumption | rfl) (by decide) (by decide) rfl fl_RX5_41 rfl (by first | assumption | rfl) dX5_wishAll_143 ?_
        refine pm_iload_n dX5_wishAll_146 rfl ?_
        refine pm_ialdN (by first | assumption | rfl) (by omega) (by first | decide | omega) dX5_wishAll_147 ?_
        rw [e6]
        refine pm_i2l dX5_wishAll_148 ?_
        refine pm_cSi (as := [.long _, .long _, .long _]) ml_RX5_96 (by decide) (Nat.le_of_ble_eq_true rfl) dX5_wishAll_149 (c_X5_in (n := b) (a := (S.2.2.1 p).1 5) (b := (S.2.2.1 p).1 6) pm_L0 _ rfl rfl rfl) (fun x1 w1 hq => ?_)
        obtain ⟨rfl, hw9⟩ := hq
        have hw9 := hw9.symm
        subst hw9
        refine pm_if_eq (tgt := 180) dX5_wishAll_152 (by decide) (fun c152 => ?_) (fun c152 => ?_)
        · rw [pm_z_0] at c152
          have hsp : ¬ ab_sp (S.2.2.1 p) b = true := fun e => by
            simp only [ab_sp, Bool.and_eq_true, Bool.not_eq_true', decide_eq_false_iff_not, decide_eq_true_eq] at e
            rw [pm_bw_t.mpr e.2] at c152
            cases c152
          rw [if_neg hsp] at h1
          refine k w1 ?_ f1
          try dsimp only
          rw [if_neg hsp]
          exact h1
        · rw [pm_z_1, pm_bw_t] at c152
          have hsp : ab_sp (S.2.2.1 p) b = true := by
            simp only [ab_sp, Bool.and_eq_true, Bool.not_eq_true', decide_eq_false_iff_not, decide_eq_true_eq]
            exact ⟨hn5, c152⟩
          obtain ⟨c, t, r2, eb, et, er2, hct, ht, hr2, hmn⟩ := hint_t (i9 p hp) hsp
          have hrr : r2 = r := (nI_eq (by omega) (by omega)).mp (er2.symm.trans er)
          subst hrr
          rw [if_pos hsp, hmn] at h1
          refine pm_iload_n dX5_wishAll_155 rfl ?_
          refine pm_iload dX5_wishAll_156 rfl ?_
          refine pm_iadd dX5_wishAll_158 ?_
          refine pm_aload_n dX5_wishAll_159 rfl ?_
          refine pm_getR (ci := 5) (j := 18) (n := 39) (by first | assumption | rfl) (by decide) (by decide) rfl fl_RX5_41 rfl (by first | assumption | rfl) dX5_wishAll_160 ?_
          refine pm_iload_n dX5_wishAll_163 rfl ?_
          refine pm_ialdN (by first | assumption | rfl) (by omega) (by first | decide | omega) dX5_wishAll_164 ?_
          rw [e6]
          refine pm_icmp_gt (tgt := 180) dX5_wishAll_165 (by decide) (fun c165 => ?_) (fun c165 => ?_)
          · rw [et, eb, nI_add, nI_ltI (by omega) (by omega)] at c165
            refine k w1 ?_ f1
            try dsimp only
            rw [if_pos hsp, hmn, show min (i + 1) (min r2 (t - c)) = min i (min r2 (t - c)) by omega]
            exact h1
          · rw [et, eb, nI_add, nI_ltI (by omega) (by omega)] at c165
            have hm1 : min i (min r2 (t - c)) = i := by omega
            rw [hm1] at h1
            refine pm_aload_n dX5_wishAll_168 rfl ?_
            refine pm_iload_n dX5_wishAll_169 rfl ?_
            refine pm_iload_n dX5_wishAll_170 rfl ?_
            refine pm_iload dX5_wishAll_171 rfl ?_
            refine pm_iadd dX5_wishAll_173 ?_
            refine pm_cVv (as := [.int _, .int _]) (by first | assumption | rfl) (by decide) rfl ml_RX5_190 (by decide) (Nat.le_of_ble_eq_true rfl) dX5_wishAll_174 (c_X5_wish h1 (I_ws hI hp _ i) (J_ws hJ p _ i) hp _) (fun w3 hq => ?_)
            obtain ⟨q1, q2⟩ := hq
            refine pm_goto (tgt := 180) dX5_wishAll_177 (by decide) ?_
            refine k w3 ?_ (mfr_tr f1 q2)
            try dsimp only
            rw [if_pos hsp, hmn, show min (i + 1) (min r2 (t - c)) = i + 1 by omega]
            show mo_R w3 (ab_w1 _ _ (b + nI (i + 1) * 1))
            rw [Int32.mul_one]
            exact q1
    · rw [ab_wish, if_neg (by rw [ekd]; decide), if_neg (by rw [ekd]; decide), if_neg (by rw [ekd]; decide), if_pos (show (S.2.2.1 p).1 2 = 4 from ekd)]
      try dsimp only at h2
      by_cases hsp : ab_sp (S.2.2.1 p) b = true
      · rw [if_pos hsp] at h2 ⊢
        obtain ⟨c, t, r2, eb, et, er2, hct, ht, hr2, hmn⟩ := hint_t (i9 p hp) hsp
        have hrr : r2 = r := (nI_eq (by omega) (by omega)).mp (er2.symm.trans er)
        subst hrr
        rw [hmn] at h2 ⊢
        rw [show min r2 (min r2 (t - c)) = min r2 (t - c) by omega] at h2
        exact h2
      · rw [if_neg hsp] at h2 ⊢
        exact h2
  · refine pm_Rm (wa_loop (w := w) (S := S) hp b st sm hr8 (ab_ws S p (fun i => b + nI i * 1)) (fun _ => b) (fun i _ => ws_ask _ _ _ i) (fun i hi w1 h1 f1 k => ?_) 0 (Nat.zero_le _) w hR (mfr_rf _ _ _)) (fun w2 h2 => ?_)
    · rw [ekd]
      refine pm_tableIn (off := 34) (tgt := 60) dX5_wishAll_26 (by decide) (by decide) (by decide) (by decide) ?_
      refine pm_aload_n dX5_wishAll_60 rfl ?_
      refine pm_iload_n dX5_wishAll_61 rfl ?_
      refine pm_iload_n dX5_wishAll_62 rfl ?_
      refine pm_iload dX5_wishAll_63 rfl ?_
      refine pm_iadd dX5_wishAll_65 ?_
      refine pm_cVv (as := [.int _, .int _]) (by first | assumption | rfl) (by decide) rfl ml_RX5_190 (by decide) (Nat.le_of_ble_eq_true rfl) dX5_wishAll_66 (c_X5_wish h1 (I_ws hI hp _ i) (J_ws hJ p _ i) hp _) (fun w3 hq => ?_)
      obtain ⟨q1, q2⟩ := hq
      refine pm_goto (tgt := 180) dX5_wishAll_69 (by decide) ?_
      refine k w3 ?_ (mfr_tr f1 q2)
      show mo_R w3 (ab_w1 _ _ (b + nI (i + 1) * 1))
      rw [Int32.mul_one]
      exact q1
    · rw [ab_wish, if_pos (show (S.2.2.1 p).1 2 = 1 ∨ (S.2.2.1 p).1 2 = 5 from Or.inr ekd), er, nI_clamp (by omega)]
      exact h2


