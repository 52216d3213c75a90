/-- Where the number at place o of a shelf comes from: cell and index. -/
def sl_c (o : Nat) : Nat := if o < 8 then 83 else if o < 44 then 84 + (o - 8) % 3 else if o < 76 then 87 + (o - 44) % 2 else if o < 108 then 89 + (o - 76) % 8 else if o < 364 then 97 else if o < 392 then 98 else 99
def sl_f (o : Nat) : Nat := if o = 0 then 1 else if o = 1 then 2 else if o = 2 then 6 else if o = 3 then 9 else if o = 4 then 10 else if o = 5 then 11 else if o = 6 then 12 else 24
def sl_j (o : Nat) : Nat := if o < 8 then sl_f o else if o < 44 then (o - 8) / 3 else if o < 76 then (o - 44) / 2 else if o < 108 then (o - 76) / 8 else if o < 364 then o - 108 else if o < 392 then o - 364 else o - 392
def sl_u (j : Nat) : Nat := if j = 1 then 0 else if j = 2 then 1 else if j = 6 then 2 else if j = 9 then 3 else if j = 10 then 4 else if j = 11 then 5 else if j = 12 then 6 else 7
def sl_o (a j : Nat) : Nat := if a = 83 then sl_u j else if a < 87 then 8 + 3 * j + (a - 84) else if a < 89 then 44 + 2 * j + (a - 87) else if a < 97 then 76 + 8 * j + (a - 89) else if a = 97 then 108 + j else if a = 98 then 364 + j else 392 + j
theorem sl_inv : ∀ o, o < 592 → sl_o (sl_c o) (sl_j o) = o := by decide +kernel
theorem sl_cf : ∀ o, o < 592 → (sl_c o = 83 ∧ sl_j o ∈ [1, 2, 6, 9, 10, 11, 12, 24]) ∨ (84 ≤ sl_c o ∧ sl_c o ≤ 99) := by decide +kernel
def sl_e (w : pm_W) (o : Nat) : Int32 := if sl_c o = 86 then (if w.1 86 (sl_j o) = 0 then 0 else 1) else w.1 (sl_c o) (sl_j o)
theorem sl_ev {w : pm_W} {o a j : Nat} (h1 : sl_c o = a) (h2 : sl_j o = j) (h3 : a ≠ 86) : sl_e w o = w.1 a j := by
  unfold sl_e
  rw [h1, h2, if_neg h3]
theorem sl_e6 {w : pm_W} {o j : Nat} (h1 : sl_c o = 86) (h2 : sl_j o = j) : sl_e w o = if w.1 86 j = 0 then 0 else 1 := by
  unfold sl_e
  rw [h1, h2, if_pos rfl]

theorem sl_84 {i : Nat} (h : i < 12) : sl_c (8 + 3 * i) = 84 ∧ sl_j (8 + 3 * i) = i := by
  unfold sl_c sl_j
  rw [if_neg (by omega), if_pos (by omega), if_neg (by omega), if_pos (by omega)]
  omega
theorem sl_85 {i : Nat} (h : i < 12) : sl_c (8 + 3 * i + 1) = 85 ∧ sl_j (8 + 3 * i + 1) = i := by
  unfold sl_c sl_j
  rw [if_neg (by omega), if_pos (by omega), if_neg (by omega), if_pos (by omega)]
  omega
theorem sl_86 {i : Nat} (h : i < 12) : sl_c (8 + 3 * i + 2) = 86 ∧ sl_j (8 + 3 * i + 2) = i := by
  unfold sl_c sl_j
  rw [if_neg (by omega), if_pos (by omega), if_neg (by omega), if_pos (by omega)]
  omega
theorem sl_87 {i : Nat} (h : i < 16) : sl_c (44 + 2 * i) = 87 ∧ sl_j (44 + 2 * i) = i := by
  unfold sl_c sl_j
  rw [if_neg (by omega), if_neg (by omega), if_pos (by omega), if_neg (by omega), if_neg (by omega), if_pos (by omega)]
  omega
theorem sl_88 {i : Nat} (h : i < 16) : sl_c (44 + 2 * i + 1) = 88 ∧ sl_j (44 + 2 * i + 1) = i := by
  unfold sl_c sl_j
  rw [if_neg (by omega), if_neg (by omega), if_pos (by omega), if_neg (by omega), if_neg (by omega), if_pos (by omega)]
  omega
theorem sl_89 {i : Nat} (h : i < 4) : sl_c (76 + 8 * i) = 89 ∧ sl_j (76 + 8 * i) = i := by
  unfold sl_c sl_j
  rw [if_neg (by omega), if_neg (by omega), if_neg (by omega), if_pos (by omega), if_neg (by omega), if_neg (by omega), if_neg (by omega), if_pos (by omega)]
  omega
theorem sl_90 {i : Nat} (h : i < 4) : sl_c (76 + 8 * i + 1) = 90 ∧ sl_j (76 + 8 * i + 1) = i := by
  unfold sl_c sl_j
  rw [if_neg (by omega), if_neg (by omega), if_neg (by omega), if_pos (by omega), if_neg (by omega), if_neg (by omega), if_neg (by omega), if_pos (by omega)]
  omega
theorem sl_91 {i : Nat} (h : i < 4) : sl_c (76 + 8 * i + 2) = 91 ∧ sl_j (76 + 8 * i + 2) = i := by
  unfold sl_c sl_j
  rw [if_neg (by omega), if_neg (by omega), if_neg (by omega), if_pos (by omega), if_neg (by omega), if_neg (by omega), if_neg (by omega), if_pos (by omega)]
  omega
theorem sl_92 {i : Nat} (h : i < 4) : sl_c (76 + 8 * i + 3) = 92 ∧ sl_j (76 + 8 * i + 3) = i := by
  unfold sl_c sl_j
  rw [if_neg (by omega), if_neg (by omega), if_neg (by omega), if_pos (by omega), if_neg (by omega), if_neg (by omega), if_neg (by omega), if_pos (by omega)]
  omega
theorem sl_93 {i : Nat} (h : i < 4) : sl_c (76 + 8 * i + 4) = 93 ∧ sl_j (76 + 8 * i + 4) = i := by
  unfold sl_c sl_j
  rw [if_neg (by omega), if_neg (by omega), if_neg (by omega), if_pos (by omega), if_neg (by omega), if_neg (by omega), if_neg (by omega), if_pos (by omega)]
  omega
theorem sl_94 {i : Nat} (h : i < 4) : sl_c (76 + 8 * i + 5) = 94 ∧ sl_j (76 + 8 * i + 5) = i := by
  unfold sl_c sl_j
  rw [if_neg (by omega), if_neg (by omega), if_neg (by omega), if_pos (by omega), if_neg (by omega), if_neg (by omega), if_neg (by omega), if_pos (by omega)]
  omega
theorem sl_95 {i : Nat} (h : i < 4) : sl_c (76 + 8 * i + 6) = 95 ∧ sl_j (76 + 8 * i + 6) = i := by
  unfold sl_c sl_j
  rw [if_neg (by omega), if_neg (by omega), if_neg (by omega), if_pos (by omega), if_neg (by omega), if_neg (by omega), if_neg (by omega), if_pos (by omega)]
  omega
theorem sl_96 {i : Nat} (h : i < 4) : sl_c (76 + 8 * i + 7) = 96 ∧ sl_j (76 + 8 * i + 7) = i := by
  unfold sl_c sl_j
  rw [if_neg (by omega), if_neg (by omega), if_neg (by omega), if_pos (by omega), if_neg (by omega), if_neg (by omega), if_neg (by omega), if_pos (by omega)]
  omega
theorem sl_97 {i : Nat} (h : i < 256) : sl_c (108 + i) = 97 ∧ sl_j (108 + i) = i := by
  unfold sl_c sl_j
  rw [if_neg (by omega), if_neg (by omega), if_neg (by omega), if_neg (by omega), if_pos (by omega), if_neg (by omega), if_neg (by omega), if_neg (by omega), if_neg (by omega), if_pos (by omega)]
  omega
theorem sl_98 {i : Nat} (h : i < 28) : sl_c (364 + i) = 98 ∧ sl_j (364 + i) = i := by
  unfold sl_c sl_j
  rw [if_neg (by omega), if_neg (by omega), if_neg (by omega), if_neg (by omega), if_neg (by omega), if_pos (by omega), if_neg (by omega), if_neg (by omega), if_neg (by omega), if_neg (by omega), if_neg (by omega), if_pos (by omega)]
  omega
theorem sl_99 {i : Nat} (h : i < 200) : sl_c (392 + i) = 99 ∧ sl_j (392 + i) = i := by
  unfold sl_c sl_j
  rw [if_neg (by omega), if_neg (by omega), if_neg (by omega), if_neg (by omega), if_neg (by omega), if_neg (by omega), if_neg (by omega), if_neg (by omega), if_neg (by omega), if_neg (by omega), if_neg (by omega), if_neg (by omega)]
  omega
theorem sl_83_0 : sl_c 0 = 83 ∧ sl_j 0 = 1 := by decide
theorem sl_83_1 : sl_c 1 = 83 ∧ sl_j 1 = 2 := by decide
theorem sl_83_2 : sl_c 2 = 83 ∧ sl_j 2 = 6 := by decide
theorem sl_83_3 : sl_c 3 = 83 ∧ sl_j 3 = 9 := by decide
theorem sl_83_4 : sl_c 4 = 83 ∧ sl_j 4 = 10 := by decide
theorem sl_83_5 : sl_c 5 = 83 ∧ sl_j 5 = 11 := by decide
theorem sl_83_6 : sl_c 6 = 83 ∧ sl_j 6 = 12 := by decide
theorem sl_83_7 : sl_c 7 = 83 ∧ sl_j 7 = 24 := by decide
/-- The first n numbers lie on shelf s. -/
def kp_I (w : pm_W) (s n : Nat) (w1 : pm_W) : Prop := (∀ o, o < n → w1.1 108 (600 * s + o) = sl_e w o) ∧ (∀ j, (j < 600 * s ∨ 600 * s + 600 ≤ j) → w1.1 108 j = w.1 108 j) ∧ w1.1 83 38 = nI (600 * s + n) ∧ mfr w w1 [107, 108] [38] ∧ w1.1 107 s = w.1 83 0 ∧ ∀ j, ¬ j = s → w1.1 107 j = w.1 107 j
theorem kp_v {w w1 : pm_W} {s n a j : Nat} (h : kp_I w s n w1) (h2 : sl_c n = a ∧ sl_j n = j) (h3 : a ≠ 86 ∧ a < 100) (h4 : a = 83 → j ≠ 38) : w1.1 a j = sl_e w n := by
  rw [sl_ev h2.1 h2.2 h3.1]
  by_cases e : a = 83
  · subst e
    exact h.2.2.2.1.2.1 j (by simp; exact h4 rfl)
  · rw [h.2.2.2.1.1 a e (by simp; omega)]

set_option maxRecDepth 4000 in
theorem c_X5_lay {w w1 : pm_W} {s n : Nat} (hK : kp_I w s n w1) (hs : s < 2) (hn : n < 600) {v : Int32} (hv : v = sl_e w n) : pm_C pm_L0 MX5_lay [.ref 83, .int v] w1 (pm_qv fun w2 => kp_I w s (n + 1) w2) := by
  obtain ⟨k1, k2, k3, k4, k5, k6⟩ := id hK
  refine pm_start (lv := [some (.ref _), some (.int _)]) (plainFor_of_name pf5) (Nat.le_of_ble_eq_true rfl) rfl ?_
  refine pm_aload_n dX5_lay_0 rfl ?_
  refine pm_getR (ci := 5) (j := 37) (n := 39) (by first | assumption | rfl) (by decide) (by decide) rfl fl_RX5_87 rfl (by first | assumption | rfl) dX5_lay_1 ?_
  refine pm_aload_n dX5_lay_4 rfl ?_
  refine pm_getI (ci := 5) (j := 38) (n := 39) (by first | assumption | rfl) (by decide) (by decide) rfl fl_RX5_236 rfl dX5_lay_5 ?_
  rw [k3]
  refine pm_iload_n dX5_lay_8 rfl ?_
  refine pm_iastN (by first | assumption | rfl) (by omega) (by first | decide | omega) dX5_lay_9 ?_
  refine pm_aload_n dX5_lay_10 rfl ?_
  refine pm_dup dX5_lay_11 rfl ?_
  refine pm_getI (ci := 5) (j := 38) (n := 39) (by first | assumption | rfl) (by decide) (by decide) rfl fl_RX5_236 rfl dX5_lay_12 ?_
  refine pm_topi (nI (600 * s + n)) ((congrFun (pm_s_ne (show (83 : Nat) ≠ 108 by decide)) 38).trans k3) ?_
  refine pm_iconst (x := 1) dX5_lay_15 rfl ?_
  refine pm_iadd dX5_lay_16 ?_
  rw [nI_1]
  refine pm_putI (ci := 5) (j := 38) (n := 39) (by first | assumption | rfl) (by decide) (by decide) rfl fl_RX5_236 rfl rfl dX5_lay_17 ?_
  refine pm_vret dX5_lay_20 rfl ?_
  refine ⟨fun o ho => ?_, fun j hj => ?_, ?_, mfr_j (mfr_c k4 (by decide) (by decide) _) (by decide) _, ?_, fun j hj => ?_⟩
  · rw [pm_s_ne (by decide), pm_s_at]
    rcases Nat.lt_succ_iff_lt_or_eq.mp ho with q | rfl
    · rw [pk_un (by omega)]; exact k1 o q
    · rw [pk_us]; exact hv
  · rw [pm_s_ne (by decide), pm_s_at, pk_un (by omega)]; exact k2 j hj
  · rw [pm_s_at, pk_us]; rfl
  · rw [pm_s_ne (by decide), pm_s_ne (by decide)]; exact k5
  · rw [pm_s_ne (by decide), pm_s_ne (by decide)]; exact k6 j hj

def kq_P (w : pm_W) (x r : Int32) (w1 : pm_W) : Prop := (pm_bw x 0 1 = false ∧ r = -101 ∧ w1 = w) ∨ (∃ s, s < 2 ∧ x = nI s ∧ r = 1 ∧ kp_I w s 592 w1)

set_option maxRecDepth 4000 in
theorem kp_326 {w : pm_W} {s : Nat} (hs : s < 2) : ∀ i, i ≤ 200 → ∀ w1, kp_I w s (392 + i) w1 → pm_R pm_L0 MX5_keep 326 [some (.ref 83), some (.int (nI s)), some (.int (nI i))] [] w1 (pm_qi fun r w2 => kq_P w (nI s) r w2) := by
    refine up_loop 200 (fun i hi9 ih w1 hK => ?_)
    refine pm_iload_n dX5_keep_326 rfl ?_
    refine pm_sipush (x := nI 200) dX5_keep_327 rfl ?_
    refine pm_icmp_ge (tgt := 349) dX5_keep_330 (by decide) (fun c330 => ?_) (fun c330 => ?_)
    · have he : i = 200 := by
        rw [nI_leI (by omega) (by omega)] at c330
        omega
      subst he
      refine pm_iconst (x := 1) dX5_keep_349 rfl ?_
      refine pm_iret dX5_keep_350 rfl ?_
      exact Or.inr ⟨s, hs, rfl, rfl, hK⟩
    · have hlt : i < 200 := by
        rw [nI_leI (by omega) (by omega)] at c330
        omega
      refine pm_aload_n dX5_keep_333 rfl ?_
      refine pm_aload_n dX5_keep_334 rfl ?_
      refine pm_getR (ci := 5) (j := 23) (n := 39) (by first | assumption | rfl) (by decide) (by decide) rfl fl_RX5_56 rfl (by first | assumption | rfl) dX5_keep_335 ?_
      refine pm_iload_n dX5_keep_338 rfl ?_
      refine pm_ialdN (by first | assumption | rfl) (by omega) (by first | decide | omega) dX5_keep_339 ?_
      refine pm_cVv (as := [.int _]) (by first | assumption | rfl) (by decide) rfl ml_RX5_239 (by decide) (Nat.le_of_ble_eq_true rfl) dX5_keep_340 (c_X5_lay hK hs (by omega) (kp_v hK (sl_99 hlt) (by decide) (by first | decide | (intro z; exact absurd z (by decide))))) (fun w2 hK => ?_)
      refine pm_iinc (y := _ + 1) (lv' := [some (.ref _), some (.int _), some (.int _)]) dX5_keep_343 rfl rfl (by decide) rfl ?_
      refine pm_goto (tgt := 326) dX5_keep_346 (by decide) ?_
      rw [nI_1 i]
      exact ih hlt _ (by rw [show 392 + (i + 1) = 392 + i + 1 by omega]; exact hK)

set_option maxRecDepth 4000 in
theorem kp_302 {w : pm_W} {s : Nat} (hs : s < 2) : ∀ i, i ≤ 28 → ∀ w1, kp_I w s (364 + i) w1 → pm_R pm_L0 MX5_keep 302 [some (.ref 83), some (.int (nI s)), some (.int (nI i))] [] w1 (pm_qi fun r w2 => kq_P w (nI s) r w2) := by
    refine up_loop 28 (fun i hi9 ih w1 hK => ?_)
    refine pm_iload_n dX5_keep_302 rfl ?_
    refine pm_bipush (x := nI 28) dX5_keep_303 rfl ?_
    refine pm_icmp_ge (tgt := 324) dX5_keep_305 (by decide) (fun c305 => ?_) (fun c305 => ?_)
    · have he : i = 28 := by
        rw [nI_leI (by omega) (by omega)] at c305
        omega
      subst he
      refine pm_iconst (x := 0) dX5_keep_324 rfl ?_
      refine pm_istore_n (lv' := [some (.ref _), some (.int _), some (.int _)]) dX5_keep_325 (by decide) rfl ?_
      exact kp_326 hs 0 (by decide) _ hK
    · have hlt : i < 28 := by
        rw [nI_leI (by omega) (by omega)] at c305
        omega
      refine pm_aload_n dX5_keep_308 rfl ?_
      refine pm_aload_n dX5_keep_309 rfl ?_
      refine pm_getR (ci := 5) (j := 22) (n := 39) (by first | assumption | rfl) (by decide) (by decide) rfl fl_RX5_53 rfl (by first | assumption | rfl) dX5_keep_310 ?_
      refine pm_iload_n dX5_keep_313 rfl ?_
      refine pm_ialdN (by first | assumption | rfl) (by omega) (by first | decide | omega) dX5_keep_314 ?_
      refine pm_cVv (as := [.int _]) (by first | assumption | rfl) (by decide) rfl ml_RX5_239 (by decide) (Nat.le_of_ble_eq_true rfl) dX5_keep_315 (c_X5_lay hK hs (by omega) (kp_v hK (sl_98 hlt) (by decide) (by first | decide | (intro z; exact absurd z (by decide))))) (fun w2 hK => ?_)
      refine pm_iinc (y := _ + 1) (lv' := [some (.ref _), some (.int _), some (.int _)]) dX5_keep_318 rfl rfl (by decide) rfl ?_
      refine pm_goto (tgt := 302) dX5_keep_321 (by decide) ?_
      rw [nI_1 i]
      exact ih hlt _ (by rw [show 364 + (i + 1) = 364 + i + 1 by omega]; exact hK)

set_option maxRecDepth 4000 in
theorem kp_277 {w : pm_W} {s : Nat} (hs : s < 2) : ∀ i, i ≤ 256 → ∀ w1, kp_I w s (108 + i) w1 → pm_R pm_L0 MX5_keep 277 [some (.ref 83), some (.int (nI s)), some (.int (nI i))] [] w1 (pm_qi fun r w2 => kq_P w (nI s) r w2) := by
    refine up_loop 256 (fun i hi9 ih w1 hK => ?_)
    refine pm_iload_n dX5_keep_277 rfl ?_
    refine pm_sipush (x := nI 256) dX5_keep_278 rfl ?_
    refine pm_icmp_ge (tgt := 300) dX5_keep_281 (by decide) (fun c281 => ?_) (fun c281 => ?_)
    · have he : i = 256 := by
        rw [nI_leI (by omega) (by omega)] at c281
        omega
      subst he
      refine pm_iconst (x := 0) dX5_keep_300 rfl ?_
      refine pm_istore_n (lv' := [some (.ref _), some (.int _), some (.int _)]) dX5_keep_301 (by decide) rfl ?_
      exact kp_302 hs 0 (by decide) _ hK
    · have hlt : i < 256 := by
        rw [nI_leI (by omega) (by omega)] at c281
        omega
      refine pm_aload_n dX5_keep_284 rfl ?_
      refine pm_aload_n dX5_keep_285 rfl ?_
      refine pm_getR (ci := 5) (j := 21) (n := 39) (by first | assumption | rfl) (by decide) (by decide) rfl fl_RX5_50 rfl (by first | assumption | rfl) dX5_keep_286 ?_
      refine pm_iload_n dX5_keep_289 rfl ?_
      refine pm_ialdN (by first | assumption | rfl) (by omega) (by first | decide | omega) dX5_keep_290 ?_
      refine pm_cVv (as := [.int _]) (by first | assumption | rfl) (by decide) rfl ml_RX5_239 (by decide) (Nat.le_of_ble_eq_true rfl) dX5_keep_291 (c_X5_lay hK hs (by omega) (kp_v hK (sl_97 hlt) (by decide) (by first | decide | (intro z; exact absurd z (by decide))))) (fun w2 hK => ?_)
      refine pm_iinc (y := _ + 1) (lv' := [some (.ref _), some (.int _), some (.int _)]) dX5_keep_294 rfl rfl (by decide) rfl ?_
      refine pm_goto (tgt := 277) dX5_keep_297 (by decide) ?_
      rw [nI_1 i]
      exact ih hlt _ (by rw [show 108 + (i + 1) = 108 + i + 1 by omega]; exact hK)

set_option maxRecDepth 4000 in
theorem kp_184 {w : pm_W} {s : Nat} (hs : s < 2) : ∀ i, i ≤ 4 → ∀ w1, kp_I w s (76 + 8 * i) w1 → pm_R pm_L0 MX5_keep 184 [some (.ref 83), some (.int (nI s)), some (.int (nI i))] [] w1 (pm_qi fun r w2 => kq_P w (nI s) r w2) := by
    refine up_loop 4 (fun i hi9 ih w1 hK => ?_)
    refine pm_iload_n dX5_keep_184 rfl ?_
    refine pm_iconst (x := nI 4) dX5_keep_185 rfl ?_
    refine pm_icmp_ge (tgt := 275) dX5_keep_186 (by decide) (fun c186 => ?_) (fun c186 => ?_)
    · have he : i = 4 := by
        rw [nI_leI (by omega) (by omega)] at c186
        omega
      subst he
      refine pm_iconst (x := 0) dX5_keep_275 rfl ?_
      refine pm_istore_n (lv' := [some (.ref _), some (.int _), some (.int _)]) dX5_keep_276 (by decide) rfl ?_
      exact kp_277 hs 0 (by decide) _ hK
    · have hlt : i < 4 := by
        rw [nI_leI (by omega) (by omega)] at c186
        omega
      refine pm_aload_n dX5_keep_189 rfl ?_
      refine pm_aload_n dX5_keep_190 rfl ?_
      refine pm_getR (ci := 5) (j := 13) (n := 39) (by first | assumption | rfl) (by decide) (by decide) rfl fl_RX5_26 rfl (by first | assumption | rfl) dX5_keep_191 ?_
      refine pm_iload_n dX5_keep_194 rfl ?_
      refine pm_ialdN (by first | assumption | rfl) (by omega) (by first | decide | omega) dX5_keep_195 ?_
      refine pm_cVv (as := [.int _]) (by first | assumption | rfl) (by decide) rfl ml_RX5_239 (by decide) (Nat.le_of_ble_eq_true rfl) dX5_keep_196 (c_X5_lay hK hs (by omega) (kp_v hK (sl_89 hlt) (by decide) (by first | decide | (intro z; exact absurd z (by decide))))) (fun w2 hK => ?_)
      refine pm_aload_n dX5_keep_199 rfl ?_
      refine pm_aload_n dX5_keep_200 rfl ?_
      refine pm_getR (ci := 5) (j := 14) (n := 39) (by first | assumption | rfl) (by decide) (by decide) rfl fl_RX5_29 rfl (by first | assumption | rfl) dX5_keep_201 ?_
      refine pm_iload_n dX5_keep_204 rfl ?_
      refine pm_ialdN (by first | assumption | rfl) (by omega) (by first | decide | omega) dX5_keep_205 ?_
      refine pm_cVv (as := [.int _]) (by first | assumption | rfl) (by decide) rfl ml_RX5_239 (by decide) (Nat.le_of_ble_eq_true rfl) dX5_keep_206 (c_X5_lay hK hs (by omega) (kp_v hK (sl_90 hlt) (by decide) (by first | decide | (intro z; exact absurd z (by decide))))) (fun w2 hK => ?_)
      refine pm_aload_n dX5_keep_209 rfl ?_
      refine pm_aload_n dX5_keep_210 rfl ?_
      refine pm_getR (ci := 5) (j := 15) (n := 39) (by first | assumption | rfl) (by decide) (by decide) rfl fl_RX5_32 rfl (by first | assumption | rfl) dX5_keep_211 ?_
      refine pm_iload_n dX5_keep_214 rfl ?_
      refine pm_ialdN (by first | assumption | rfl) (by omega) (by first | decide | omega) dX5_keep_215 ?_
      refine pm_cVv (as := [.int _]) (by first | assumption | rfl) (by decide) rfl ml_RX5_239 (by decide) (Nat.le_of_ble_eq_true rfl) dX5_keep_216 (c_X5_lay hK hs (by omega) (kp_v hK (sl_91 hlt) (by decide) (by first | decide | (intro z; exact absurd z (by decide))))) (fun w2 hK => ?_)
      refine pm_aload_n dX5_keep_219 rfl ?_
      refine pm_aload_n dX5_keep_220 rfl ?_
      refine pm_getR (ci := 5) (j := 16) (n := 39) (by first | assumption | rfl) (by decide) (by decide) rfl fl_RX5_35 rfl (by first | assumption | rfl) dX5_keep_221 ?_
      refine pm_iload_n dX5_keep_224 rfl ?_
      refine pm_ialdN (by first | assumption | rfl) (by omega) (by first | decide | omega) dX5_keep_225 ?_
      refine pm_cVv (as := [.int _]) (by first | assumption | rfl) (by decide) rfl ml_RX5_239 (by decide) (Nat.le_of_ble_eq_true rfl) dX5_keep_226 (c_X5_lay hK hs (by omega) (kp_v hK (sl_92 hlt) (by decide) (by first | decide | (intro z; exact absurd z (by decide))))) (fun w2 hK => ?_)
      refine pm_aload_n dX5_keep_229 rfl ?_
      refine pm_aload_n dX5_keep_230 rfl ?_
      refine pm_getR (ci := 5) (j := 17) (n := 39) (by first | assumption | rfl) (by decide) (by decide) rfl fl_RX5_38 rfl (by first | assumption | rfl) dX5_keep_231 ?_
      refine pm_iload_n dX5_keep_234 rfl ?_
      refine pm_ialdN (by first | assumption | rfl) (by omega) (by first | decide | omega) dX5_keep_235 ?_
      refine pm_cVv (as := [.int _]) (by first | assumption | rfl) (by decide) rfl ml_RX5_239 (by decide) (Nat.le_of_ble_eq_true rfl) dX5_keep_236 (c_X5_lay hK hs (by omega) (kp_v hK (sl_93 hlt) (by decide) (by first | decide | (intro z; exact absurd z (by decide))))) (fun w2 hK => ?_)
      refine pm_aload_n dX5_keep_239 rfl ?_
      refine pm_aload_n dX5_keep_240 rfl ?_
      refine pm_getR (ci := 5) (j := 18) (n := 39) (by first | assumption | rfl) (by decide) (by decide) rfl fl_RX5_41 rfl (by first | assumption | rfl) dX5_keep_241 ?_
      refine pm_iload_n dX5_keep_244 rfl ?_
      refine pm_ialdN (by first | assumption | rfl) (by omega) (by first | decide | omega) dX5_keep_245 ?_
      refine pm_cVv (as := [.int _]) (by first | assumption | rfl) (by decide) rfl ml_RX5_239 (by decide) (Nat.le_of_ble_eq_true rfl) dX5_keep_246 (c_X5_lay hK hs (by omega) (kp_v hK (sl_94 hlt) (by decide) (by first | decide | (intro z; exact absurd z (by decide))))) (fun w2 hK => ?_)
      refine pm_aload_n dX5_keep_249 rfl ?_
      refine pm_aload_n dX5_keep_250 rfl ?_
      refine pm_getR (ci := 5) (j := 19) (n := 39) (by first | assumption | rfl) (by decide) (by decide) rfl fl_RX5_44 rfl (by first | assumption | rfl) dX5_keep_251 ?_
      refine pm_iload_n dX5_keep_254 rfl ?_
      refine pm_ialdN (by first | assumption | rfl) (by omega) (by first | decide | omega) dX5_keep_255 ?_
      refine pm_cVv (as := [.int _]) (by first | assumption | rfl) (by decide) rfl ml_RX5_239 (by decide) (Nat.le_of_ble_eq_true rfl) dX5_keep_256 (c_X5_lay hK hs (by omega) (kp_v hK (sl_95 hlt) (by decide) (by first | decide | (intro z; exact absurd z (by decide))))) (fun w2 hK => ?_)
      refine pm_aload_n dX5_keep_259 rfl ?_
      refine pm_aload_n dX5_keep_260 rfl ?_
      refine pm_getR (ci := 5) (j := 20) (n := 39) (by first | assumption | rfl) (by decide) (by decide) rfl fl_RX5_47 rfl (by first | assumption | rfl) dX5_keep_261 ?_
      refine pm_iload_n dX5_keep_264 rfl ?_
      refine pm_ialdN (by first | assumption | rfl) (by omega) (by first | decide | omega) dX5_keep_265 ?_
      refine pm_cVv (as := [.int _]) (by first | assumption | rfl) (by decide) rfl ml_RX5_239 (by decide) (Nat.le_of_ble_eq_true rfl) dX5_keep_266 (c_X5_lay hK hs (by omega) (kp_v hK (sl_96 hlt) (by decide) (by first | decide | (intro z; exact absurd z (by decide))))) (fun w2 hK => ?_)
      refine pm_iinc (y := _ + 1) (lv' := [some (.ref _), some (.int _), some (.int _)]) dX5_keep_269 rfl rfl (by decide) rfl ?_
      refine pm_goto (tgt := 184) dX5_keep_272 (by decide) ?_
      rw [nI_1 i]
      exact ih hlt _ (by rw [show 76 + 8 * (i + 1) = 76 + 8 * i + 7 + 1 by omega]; exact hK)

set_option maxRecDepth 4000 in
theorem kp_150 {w : pm_W} {s : Nat} (hs : s < 2) : ∀ i, i ≤ 16 → ∀ w1, kp_I w s (44 + 2 * i) w1 → pm_R pm_L0 MX5_keep 150 [some (.ref 83), some (.int (nI s)), some (.int (nI i))] [] w1 (pm_qi fun r w2 => kq_P w (nI s) r w2) := by
    refine up_loop 16 (fun i hi9 ih w1 hK => ?_)
    refine pm_iload_n dX5_keep_150 rfl ?_
    refine pm_bipush (x := nI 16) dX5_keep_151 rfl ?_
    refine pm_icmp_ge (tgt := 182) dX5_keep_153 (by decide) (fun c153 => ?_) (fun c153 => ?_)
    · have he : i = 16 := by
        rw [nI_leI (by omega) (by omega)] at c153
        omega
      subst he
      refine pm_iconst (x := 0) dX5_keep_182 rfl ?_
      refine pm_istore_n (lv' := [some (.ref _), some (.int _), some (.int _)]) dX5_keep_183 (by decide) rfl ?_
      exact kp_184 hs 0 (by decide) _ hK
    · have hlt : i < 16 := by
        rw [nI_leI (by omega) (by omega)] at c153
        omega
      refine pm_aload_n dX5_keep_156 rfl ?_
      refine pm_aload_n dX5_keep_157 rfl ?_
      refine pm_getR (ci := 5) (j := 7) (n := 39) (by first | assumption | rfl) (by decide) (by decide) rfl fl_RX5_20 rfl (by first | assumption | rfl) dX5_keep_158 ?_
      refine pm_iload_n dX5_keep_161 rfl ?_
      refine pm_ialdN (by first | assumption | rfl) (by omega) (by first | decide | omega) dX5_keep_162 ?_
      refine pm_cVv (as := [.int _]) (by first | assumption | rfl) (by decide) rfl ml_RX5_239 (by decide) (Nat.le_of_ble_eq_true rfl) dX5_keep_163 (c_X5_lay hK hs (by omega) (kp_v hK (sl_87 hlt) (by decide) (by first | decide | (intro z; exact absurd z (by decide))))) (fun w2 hK => ?_)
      refine pm_aload_n dX5_keep_166 rfl ?_
      refine pm_aload_n dX5_keep_167 rfl ?_
      refine pm_getR (ci := 5) (j := 8) (n := 39) (by first | assumption | rfl) (by decide) (by decide) rfl fl_RX5_23 rfl (by first | assumption | rfl) dX5_keep_168 ?_
      refine pm_iload_n dX5_keep_171 rfl ?_
      refine pm_ialdN (by first | assumption | rfl) (by omega) (by first | decide | omega) dX5_keep_172 ?_
      refine pm_cVv (as := [.int _]) (by first | assumption | rfl) (by decide) rfl ml_RX5_239 (by decide) (Nat.le_of_ble_eq_true rfl) dX5_keep_173 (c_X5_lay hK hs (by omega) (kp_v hK (sl_88 hlt) (by decide) (by first | decide | (intro z; exact absurd z (by decide))))) (fun w2 hK => ?_)
      refine pm_iinc (y := _ + 1) (lv' := [some (.ref _), some (.int _), some (.int _)]) dX5_keep_176 rfl rfl (by decide) rfl ?_
      refine pm_goto (tgt := 150) dX5_keep_179 (by decide) ?_
      rw [nI_1 i]
      exact ih hlt _ (by rw [show 44 + 2 * (i + 1) = 44 + 2 * i + 1 + 1 by omega]; exact hK)

set_option maxRecDepth 4000 in
theorem kp_98 {w : pm_W} {s : Nat} (hs : s < 2) : ∀ i, i ≤ 12 → ∀ w1, kp_I w s (8 + 3 * i) w1 → pm_R pm_L0 MX5_keep 98 [some (.ref 83), some (.int (nI s)), some (.int (nI i))] [] w1 (pm_qi fun r w2 => kq_P w (nI s) r w2) := by
    refine up_loop 12 (fun i hi9 ih w1 hK => ?_)
    refine pm_iload_n dX5_keep_98 rfl ?_
    refine pm_bipush (x := nI 12) dX5_keep_99 rfl ?_
    refine pm_icmp_ge (tgt := 148) dX5_keep_101 (by decide) (fun c101 => ?_) (fun c101 => ?_)
    · have he : i = 12 := by
        rw [nI_leI (by omega) (by omega)] at c101
        omega
      subst he
      refine pm_iconst (x := 0) dX5_keep_148 rfl ?_
      refine pm_istore_n (lv' := [some (.ref _), some (.int _), some (.int _)]) dX5_keep_149 (by decide) rfl ?_
      exact kp_150 hs 0 (by decide) _ hK
    · have hlt : i < 12 := by
        rw [nI_leI (by omega) (by omega)] at c101
        omega
      refine pm_aload_n dX5_keep_104 rfl ?_
      refine pm_aload_n dX5_keep_105 rfl ?_
      refine pm_getR (ci := 5) (j := 3) (n := 39) (by first | assumption | rfl) (by decide) (by decide) rfl fl_RX5_7 rfl (by first | assumption | rfl) dX5_keep_106 ?_
      refine pm_iload_n dX5_keep_109 rfl ?_
      refine pm_ialdN (by first | assumption | rfl) (by omega) (by first | decide | omega) dX5_keep_110 ?_
      refine pm_cVv (as := [.int _]) (by first | assumption | rfl) (by decide) rfl ml_RX5_239 (by decide) (Nat.le_of_ble_eq_true rfl) dX5_keep_111 (c_X5_lay hK hs (by omega) (kp_v hK (sl_84 hlt) (by decide) (by first | decide | (intro z; exact absurd z (by decide))))) (fun w2 hK => ?_)
      refine pm_aload_n dX5_keep_114 rfl ?_
      refine pm_aload_n dX5_keep_115 rfl ?_
      refine pm_getR (ci := 5) (j := 4) (n := 39) (by first | assumption | rfl) (by decide) (by decide) rfl fl_RX5_13 rfl (by first | assumption | rfl) dX5_keep_116 ?_
      refine pm_iload_n dX5_keep_119 rfl ?_
      refine pm_ialdN (by first | assumption | rfl) (by omega) (by first | decide | omega) dX5_keep_120 ?_
      refine pm_cVv (as := [.int _]) (by first | assumption | rfl) (by decide) rfl ml_RX5_239 (by decide) (Nat.le_of_ble_eq_true rfl) dX5_keep_121 (c_X5_lay hK hs (by omega) (kp_v hK (sl_85 hlt) (by decide) (by first | decide | (intro z; exact absurd z (by decide))))) (fun w2 hK => ?_)
      refine pm_aload_n dX5_keep_124 rfl ?_
      refine pm_aload_n dX5_keep_125 rfl ?_
      refine pm_getR (ci := 5) (j := 5) (n := 39) (by first | assumption | rfl) (by decide) (by decide) rfl fl_RX5_16 rfl (by first | assumption | rfl) dX5_keep_126 ?_
      refine pm_iload_n dX5_keep_129 rfl ?_
      refine pm_zaldN (by first | assumption | rfl) (by omega) (by first | decide | omega) dX5_keep_130 ?_
      rw [show w2.1 86 i = w.1 86 i from congrFun (hK.2.2.2.1.1 86 (by decide) (by decide)) i]
      refine pm_if_eq (tgt := 138) dX5_keep_131 (by decide) (fun c131 => ?_) (fun c131 => ?_)
      · refine pm_iconst (x := 0) dX5_keep_138 rfl ?_
        refine pm_cVv (as := [.int _]) (by first | assumption | rfl) (by decide) rfl ml_RX5_239 (by decide) (Nat.le_of_ble_eq_true rfl) dX5_keep_139 (c_X5_lay hK hs (by omega) (by rw [sl_e6 (sl_86 hlt).1 (sl_86 hlt).2]; first | rw [if_pos c131] | rw [if_neg c131])) (fun w2 hK => ?_)
        refine pm_iinc (y := _ + 1) (lv' := [some (.ref _), some (.int _), some (.int _)]) dX5_keep_142 rfl rfl (by decide) rfl ?_
        refine pm_goto (tgt := 98) dX5_keep_145 (by decide) ?_
        rw [nI_1 i]
        exact ih hlt _ (by rw [show 8 + 3 * (i + 1) = 8 + 3 * i + 2 + 1 by omega]; exact hK)
      · refine pm_iconst (x := 1) dX5_keep_134 rfl ?_
        refine pm_goto (tgt := 139) dX5_keep_135 (by decide) ?_
        refine pm_cVv (as := [.int _]) (by first | assumption | rfl) (by decide) rfl ml_RX5_239 (by decide) (Nat.le_of_ble_eq_true rfl) dX5_keep_139 (c_X5_lay hK hs (by omega) (by rw [sl_e6 (sl_86 hlt).1 (sl_86 hlt).2]; first | rw [if_pos c131] | rw [if_neg c131])) (fun w2 hK => ?_)
        refine pm_iinc (y := _ + 1) (lv' := [some (.ref _), some (.int _), some (.int _)]) dX5_keep_142 rfl rfl (by decide) rfl ?_
        refine pm_goto (tgt := 98) dX5_keep_145 (by decide) ?_
        rw [nI_1 i]
        exact ih hlt _ (by rw [show 8 + 3 * (i + 1) = 8 + 3 * i + 2 + 1 by omega]; exact hK)

set_option maxRecDepth 4000 in
theorem c_X5_keep0 (w : pm_W) (x : Int32) : pm_C pm_L0 MX5_keep [.ref 83, .int x] w (pm_qi fun r w1 => kq_P w x r w1) := by
  refine pm_start (lv := [some (.ref _), some (.int _), none]) (plainFor_of_name pf5) (Nat.le_of_ble_eq_true rfl) rfl ?_
  refine pm_iload_n dX5_keep_0 rfl ?_
  refine pm_i2l dX5_keep_1 ?_
  refine pm_lconst (x := 0) dX5_keep_2 rfl ?_
  refine pm_lconst (x := 1) dX5_keep_3 rfl ?_
  refine pm_cSi (as := [.long _, .long _, .long _]) ml_RX5_96 (by decide) (Nat.le_of_ble_eq_true rfl) dX5_keep_4 (c_X5_in (n := x) (a := 0) (b := 1) pm_L0 _ rfl (by decide) (by decide)) (fun x1 w1 hq => ?_)
  obtain ⟨rfl, hw9⟩ := hq
  have hw9 := hw9.symm
  subst hw9
  refine pm_if_ne (tgt := 13) dX5_keep_7 (by decide) (fun c7 => ?_) (fun c7 => ?_)
  · rw [pm_z_1] at c7
    obtain ⟨s, hs9, rfl⟩ := bw_of (n := 1) (by decide) c7
    have hs : s < 2 := by omega
    refine pm_aload_n dX5_keep_13 rfl ?_
    refine pm_getR (ci := 5) (j := 36) (n := 39) (by first | assumption | rfl) (by decide) (by decide) rfl fl_RX5_84 rfl (by first | assumption | rfl) dX5_keep_14 ?_
    refine pm_iload_n dX5_keep_17 rfl ?_
    refine pm_aload_n dX5_keep_18 rfl ?_
    refine pm_getI (ci := 5) (j := 0) (n := 39) (by first | assumption | rfl) (by decide) (by decide) rfl fl_RX5_102 rfl dX5_keep_19 ?_
    refine pm_iastN (by first | assumption | rfl) (by omega) (by first | decide | omega) dX5_keep_22 ?_
    refine pm_aload_n dX5_keep_23 rfl ?_
    refine pm_sipush (x := nI 600) dX5_keep_24 rfl ?_
    refine pm_iload_n dX5_keep_27 rfl ?_
    refine pm_imul dX5_keep_28 ?_
    rw [pk_mul]
    refine pm_putI (ci := 5) (j := 38) (n := 39) (by first | assumption | rfl) (by decide) (by decide) rfl fl_RX5_236 rfl rfl dX5_keep_29 ?_
    have hK : kp_I w s 0 (pm_s (pm_s w 107 (upd (w.1 107) s (w.1 83 0))) 83 (upd ((pm_s w 107 (upd (w.1 107) s (w.1 83 0))).1 83) 38 (nI (600 * s)))) := ⟨fun o ho => absurd ho (by omega), fun j _ => rfl, by rw [pm_s_at, pk_us]; rfl, mfr_j (mfr_c (mfr_rf _ _ _) (by decide) (by decide) _) (by decide) _, by rw [pm_s_ne (by decide), pm_s_at, pk_us], fun j hj => by rw [pm_s_ne (by decide), pm_s_at, pk_un hj]⟩
    generalize pm_s (pm_s w 107 (upd (w.1 107) s (w.1 83 0))) 83 (upd ((pm_s w 107 (upd (w.1 107) s (w.1 83 0))).1 83) 38 (nI (600 * s))) = w2 at hK ⊢
    refine pm_aload_n dX5_keep_32 rfl ?_
    refine pm_aload_n dX5_keep_33 rfl ?_
    refine pm_getI (ci := 5) (j := 1) (n := 39) (by first | assumption | rfl) (by decide) (by decide) rfl fl_RX5_105 rfl dX5_keep_34 ?_
    refine pm_cVv (as := [.int _]) (by first | assumption | rfl) (by decide) rfl ml_RX5_239 (by decide) (Nat.le_of_ble_eq_true rfl) dX5_keep_37 (c_X5_lay hK hs (by omega) (kp_v hK (sl_83_0) (by decide) (by first | decide | (intro z; exact absurd z (by decide))))) (fun w2 hK => ?_)
    refine pm_aload_n dX5_keep_40 rfl ?_
    refine pm_aload_n dX5_keep_41 rfl ?_
    refine pm_getI (ci := 5) (j := 2) (n := 39) (by first | assumption | rfl) (by decide) (by decide) rfl fl_RX5_108 rfl dX5_keep_42 ?_
    refine pm_cVv (as := [.int _]) (by first | assumption | rfl) (by decide) rfl ml_RX5_239 (by decide) (Nat.le_of_ble_eq_true rfl) dX5_keep_45 (c_X5_lay hK hs (by omega) (kp_v hK (sl_83_1) (by decide) (by first | decide | (intro z; exact absurd z (by decide))))) (fun w2 hK => ?_)
    refine pm_aload_n dX5_keep_48 rfl ?_
    refine pm_aload_n dX5_keep_49 rfl ?_
    refine pm_getI (ci := 5) (j := 6) (n := 39) (by first | assumption | rfl) (by decide) (by decide) rfl fl_RX5_111 rfl dX5_keep_50 ?_
    refine pm_cVv (as := [.int _]) (by first | assumption | rfl) (by decide) rfl ml_RX5_239 (by decide) (Nat.le_of_ble_eq_true rfl) dX5_keep_53 (c_X5_lay hK hs (by omega) (kp_v hK (sl_83_2) (by decide) (by first | decide | (intro z; exact absurd z (by decide))))) (fun w2 hK => ?_)
    refine pm_aload_n dX5_keep_56 rfl ?_
    refine pm_aload_n dX5_keep_57 rfl ?_
    refine pm_getI (ci := 5) (j := 9) (n := 39) (by first | assumption | rfl) (by decide) (by decide) rfl fl_RX5_114 rfl dX5_keep_58 ?_
    refine pm_cVv (as := [.int _]) (by first | assumption | rfl) (by decide) rfl ml_RX5_239 (by decide) (Nat.le_of_ble_eq_true rfl) dX5_keep_61 (c_X5_lay hK hs (by omega) (kp_v hK (sl_83_3) (by decide) (by first | decide | (intro z; exact absurd z (by decide))))) (fun w2 hK => ?_)
    refine pm_aload_n dX5_keep_64 rfl ?_
    refine pm_aload_n dX5_keep_65 rfl ?_
    refine pm_getI (ci := 5) (j := 10) (n := 39) (by first | assumption | rfl) (by decide) (by decide) rfl fl_RX5_117 rfl dX5_keep_66 ?_
    refine pm_cVv (as := [.int _]) (by first | assumption | rfl) (by decide) rfl ml_RX5_239 (by decide) (Nat.le_of_ble_eq_true rfl) dX5_keep_69 (c_X5_lay hK hs (by omega) (kp_v hK (sl_83_4) (by decide) (by first | decide | (intro z; exact absurd z (by decide))))) (fun w2 hK => ?_)
    refine pm_aload_n dX5_keep_72 rfl ?_
    refine pm_aload_n dX5_keep_73 rfl ?_
    refine pm_getI (ci := 5) (j := 11) (n := 39) (by first | assumption | rfl) (by decide) (by decide) rfl fl_RX5_120 rfl dX5_keep_74 ?_
    refine pm_cVv (as := [.int _]) (by first | assumption | rfl) (by decide) rfl ml_RX5_239 (by decide) (Nat.le_of_ble_eq_true rfl) dX5_keep_77 (c_X5_lay hK hs (by omega) (kp_v hK (sl_83_5) (by decide) (by first | decide | (intro z; exact absurd z (by decide))))) (fun w2 hK => ?_)
    refine pm_aload_n dX5_keep_80 rfl ?_
    refine pm_aload_n dX5_keep_81 rfl ?_
    refine pm_getI (ci := 5) (j := 12) (n := 39) (by first | assumption | rfl) (by decide) (by decide) rfl fl_RX5_123 rfl dX5_keep_82 ?_
    refine pm_cVv (as := [.int _]) (by first | assumption | rfl) (by decide) rfl ml_RX5_239 (by decide) (Nat.le_of_ble_eq_true rfl) dX5_keep_85 (c_X5_lay hK hs (by omega) (kp_v hK (sl_83_6) (by decide) (by first | decide | (intro z; exact absurd z (by decide))))) (fun w2 hK => ?_)
    refine pm_aload_n dX5_keep_88 rfl ?_
    refine pm_aload_n dX5_keep_89 rfl ?_
    refine pm_getI (ci := 5) (j := 24) (n := 39) (by first | assumption | rfl) (by decide) (by decide) rfl fl_RX5_126 rfl dX5_keep_90 ?_
    refine pm_cVv (as := [.int _]) (by first | assumption | rfl) (by decide) rfl ml_RX5_239 (by decide) (Nat.le_of_ble_eq_true rfl) dX5_keep_93 (c_X5_lay hK hs (by omega) (kp_v hK (sl_83_7) (by decide) (by first | decide | (intro z; exact absurd z (by decide))))) (fun w2 hK => ?_)
    refine pm_iconst (x := 0) dX5_keep_96 rfl ?_
    refine pm_istore_n (lv' := [some (.ref _), some (.int _), some (.int _)]) dX5_keep_97 (by decide) rfl ?_
    exact kp_98 hs 0 (by decide) _ hK
  · refine pm_bipush (x := -101) dX5_keep_10 rfl ?_
    refine pm_iret dX5_keep_12 rfl ?_
    exact Or.inl ⟨pm_z_0.mp c7, rfl, rfl⟩

