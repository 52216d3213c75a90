def sl_d (o : Nat) (v : Int32) : Int32 := if sl_c o = 86 then (if v = 1 then 1 else 0) else v
theorem sl_dv {o a j : Nat} {v : Int32} (h : sl_c o = a ∧ sl_j o = j) (h3 : a ≠ 86) : v = sl_d o v := by
  unfold sl_d
  rw [h.1, if_neg h3]
/-- The first n numbers of shelf s are taken, and d more are counted. -/
def bk_I (w : pm_W) (s n d : Nat) (w1 : pm_W) : Prop := (∀ o, o < n → w1.1 (sl_c o) (sl_j o) = sl_d o (w.1 108 (600 * s + o))) ∧ w1.1 83 38 = nI (600 * s + n + d) ∧ w1.1 83 0 = w.1 107 s ∧ mfr w w1 [84, 85, 86, 87, 88, 89, 90, 91, 92, 93, 94, 95, 96, 97, 98, 99] [0, 1, 2, 6, 9, 10, 11, 12, 24, 38]
theorem sl_38 {o : Nat} (h : o < 592) : ¬ (sl_c o = 83 ∧ (sl_j o = 38 ∨ sl_j o = 0)) := by
  rintro ⟨h1, h2⟩
  rcases sl_cf o h with ⟨-, h3⟩ | ⟨h3, -⟩
  · rcases h2 with h2 | h2 <;> rw [h2] at h3 <;> exact absurd h3 (by decide)
  · omega
theorem bk_st {w w2 : pm_W} {s n a j : Nat} {v : Int32} (h : bk_I w s n 1 w2) (hn : n < 592) (hs : sl_c n = a ∧ sl_j n = j) (hv : v = sl_d n (w.1 108 (600 * s + n))) : bk_I w s (n + 1) 0 (pm_s w2 a (upd (w2.1 a) j v)) := by
  obtain ⟨q1, q2, q3, q4⟩ := h
  have hj : ∀ k, (k = 38 ∨ k = 0) → (pm_s w2 a (upd (w2.1 a) j v)).1 83 k = w2.1 83 k := by
    intro k hk
    by_cases e : a = 83
    · subst e
      rw [pm_s_at]
      refine pk_un (fun e => sl_38 hn ⟨hs.1, ?_⟩)
      rw [hs.2, ← e]; exact hk
    · rw [pm_s_ne (Ne.symm e)]
  refine ⟨fun o ho => ?_, (hj 38 (Or.inl rfl)).trans (by rw [q2, Nat.add_assoc, Nat.add_assoc, Nat.add_assoc]), (hj 0 (Or.inr rfl)).trans q3, ?_⟩
  · rcases Nat.lt_succ_iff_lt_or_eq.mp ho with q | rfl
    · by_cases e : sl_c o = a
      · rw [e, pm_s_at]
        have hne : ¬ sl_j o = j := by
          intro e2
          have h1 := sl_inv o (by omega)
          have h2 := sl_inv n hn
          rw [hs.1, hs.2] at h2
          rw [e, e2, h2] at h1
          omega
        rw [pk_un hne, ← e]
        exact q1 o q
      · rw [pm_s_ne e]; exact q1 o q
    · rw [hs.1, hs.2, pm_s_at, pk_us]
      exact hv
  · by_cases e : a = 83
    · subst e
      refine mfr_j q4 ?_ _
      rcases sl_cf n hn with ⟨-, h3⟩ | ⟨h3, -⟩
      · rw [hs.2] at h3
        simp at h3 ⊢
        omega
      · omega
    · refine mfr_c q4 ?_ e _
      rcases sl_cf n hn with ⟨h3, -⟩ | ⟨h3, h4⟩
      · omega
      · rw [hs.1] at h3 h4
        simp
        omega

set_option maxRecDepth 4000 in
theorem c_X5_take {w w1 : pm_W} {s n : Nat} (hB : bk_I w s n 0 w1) (hs : s < 2) (hn : n < 592) : pm_C pm_L0 MX5_take [.ref 83] w1 (pm_qi fun r w2 => r = w.1 108 (600 * s + n) ∧ bk_I w s n 1 w2) := by
  obtain ⟨k1, k2, k3, k4⟩ := id hB
  refine pm_start (lv := [some (.ref _)]) (plainFor_of_name pf5) (Nat.le_of_ble_eq_true rfl) rfl ?_
  refine pm_aload_n dX5_take_0 rfl ?_
  refine pm_dup dX5_take_1 rfl ?_
  refine pm_getI (ci := 5) (j := 38) (n := 39) (by first | assumption | rfl) (by decide) (by decide) rfl fl_RX5_236 rfl dX5_take_2 ?_
  rw [k2]
  refine pm_iconst (x := 1) dX5_take_5 rfl ?_
  refine pm_iadd dX5_take_6 ?_
  rw [nI_1]
  refine pm_putI (ci := 5) (j := 38) (n := 39) (by first | assumption | rfl) (by decide) (by decide) rfl fl_RX5_236 rfl rfl dX5_take_7 ?_
  refine pm_aload_n dX5_take_10 rfl ?_
  refine pm_getR (ci := 5) (j := 37) (n := 39) (by first | assumption | rfl) (by decide) (by decide) rfl fl_RX5_87 rfl (by first | assumption | rfl) dX5_take_11 ?_
  refine pm_aload_n dX5_take_14 rfl ?_
  refine pm_getI (ci := 5) (j := 38) (n := 39) (by first | assumption | rfl) (by decide) (by decide) rfl fl_RX5_236 rfl dX5_take_15 ?_
  refine pm_topi (nI (600 * s + n + 1)) (by rw [pm_s_at, pk_us]) ?_
  refine pm_iconst (x := 1) dX5_take_18 rfl ?_
  refine pm_isub dX5_take_19 ?_
  refine pm_topi (nI (600 * s + n)) (nI_pred _) ?_
  refine pm_ialdN (by first | assumption | rfl) (by omega) (by first | decide | omega) dX5_take_20 ?_
  refine pm_iret dX5_take_21 rfl ?_
  refine ⟨?_, fun o ho => ?_, ?_, ?_, mfr_j k4 (by decide) _⟩
  · rw [pm_s_ne (by decide), k4.1 108 (by decide) (by decide)]
  · by_cases e : sl_c o = 83
    · rw [e, pm_s_at, pk_un (fun z => sl_38 (o := o) (by omega) ⟨e, Or.inl z⟩), ← e]
      exact k1 o ho
    · rw [pm_s_ne e]; exact k1 o ho
  · rw [pm_s_at, pk_us]
  · rw [pm_s_at, pk_un (by decide)]; exact k3

def bq_P (w : pm_W) (x r : Int32) (w1 : pm_W) : Prop := (pm_bw x 0 1 = false ∧ r = -101 ∧ w1 = w) ∨ (∃ s, s < 2 ∧ x = nI s ∧ ((w.1 107 s < 0 ∧ r = -103 ∧ w1 = w) ∨ (¬ w.1 107 s < 0 ∧ r = 1 ∧ bk_I w s 592 0 w1)))

set_option maxRecDepth 4000 in
theorem bk_339 {w : pm_W} {s : Nat} (hs : s < 2) (h107 : ¬ w.1 107 s < 0) : ∀ i, i ≤ 200 → ∀ w1, bk_I w s (392 + i) 0 w1 → pm_R pm_L0 MX5_back 339 [some (.ref 83), some (.int (nI s)), some (.int (nI i))] [] w1 (pm_qi fun r w2 => bq_P w (nI s) r w2) := by
    refine up_loop 200 (fun i hi9 ih w1 hB => ?_)
    refine pm_iload_n dX5_back_339 rfl ?_
    refine pm_sipush (x := nI 200) dX5_back_340 rfl ?_
    refine pm_icmp_ge (tgt := 362) dX5_back_343 (by decide) (fun c343 => ?_) (fun c343 => ?_)
    · have he : i = 200 := by
        rw [nI_leI (by omega) (by omega)] at c343
        omega
      subst he
      refine pm_iconst (x := 1) dX5_back_362 rfl ?_
      refine pm_iret dX5_back_363 rfl ?_
      exact Or.inr ⟨s, hs, rfl, Or.inr ⟨h107, rfl, hB⟩⟩
    · have hlt : i < 200 := by
        rw [nI_leI (by omega) (by omega)] at c343
        omega
      refine pm_aload_n dX5_back_346 rfl ?_
      refine pm_getR (ci := 5) (j := 23) (n := 39) (by first | assumption | rfl) (by decide) (by decide) rfl fl_RX5_56 rfl (by first | assumption | rfl) dX5_back_347 ?_
      refine pm_iload_n dX5_back_350 rfl ?_
      refine pm_aload_n dX5_back_351 rfl ?_
      refine pm_cVi (as := []) (by first | assumption | rfl) (by decide) rfl ml_RX5_242 (by decide) (Nat.le_of_ble_eq_true rfl) dX5_back_352 (c_X5_take hB hs (by omega)) (fun x1 w2 hq => ?_)
      obtain ⟨rfl, hB⟩ := hq
      refine pm_iastN (by first | assumption | rfl) (by omega) (by first | decide | omega) dX5_back_355 ?_
      have hB := bk_st hB (by omega) (sl_99 hlt) (sl_dv (sl_99 hlt) (by decide))
      refine pm_iinc (y := _ + 1) (lv' := [some (.ref _), some (.int _), some (.int _)]) dX5_back_356 rfl rfl (by decide) rfl ?_
      refine pm_goto (tgt := 339) dX5_back_359 (by decide) ?_
      rw [nI_1 i]
      exact ih hlt _ (by rw [show 392 + (i + 1) = 392 + i + 1 by omega]; exact hB)

set_option maxRecDepth 4000 in
theorem bk_315 {w : pm_W} {s : Nat} (hs : s < 2) (h107 : ¬ w.1 107 s < 0) : ∀ i, i ≤ 28 → ∀ w1, bk_I w s (364 + i) 0 w1 → pm_R pm_L0 MX5_back 315 [some (.ref 83), some (.int (nI s)), some (.int (nI i))] [] w1 (pm_qi fun r w2 => bq_P w (nI s) r w2) := by
    refine up_loop 28 (fun i hi9 ih w1 hB => ?_)
    refine pm_iload_n dX5_back_315 rfl ?_
    refine pm_bipush (x := nI 28) dX5_back_316 rfl ?_
    refine pm_icmp_ge (tgt := 337) dX5_back_318 (by decide) (fun c318 => ?_) (fun c318 => ?_)
    · have he : i = 28 := by
        rw [nI_leI (by omega) (by omega)] at c318
        omega
      subst he
      refine pm_iconst (x := 0) dX5_back_337 rfl ?_
      refine pm_istore_n (lv' := [some (.ref _), some (.int _), some (.int _)]) dX5_back_338 (by decide) rfl ?_
      exact bk_339 hs h107 0 (by decide) _ hB
    · have hlt : i < 28 := by
        rw [nI_leI (by omega) (by omega)] at c318
        omega
      refine pm_aload_n dX5_back_321 rfl ?_
      refine pm_getR (ci := 5) (j := 22) (n := 39) (by first | assumption | rfl) (by decide) (by decide) rfl fl_RX5_53 rfl (by first | assumption | rfl) dX5_back_322 ?_
      refine pm_iload_n dX5_back_325 rfl ?_
      refine pm_aload_n dX5_back_326 rfl ?_
      refine pm_cVi (as := []) (by first | assumption | rfl) (by decide) rfl ml_RX5_242 (by decide) (Nat.le_of_ble_eq_true rfl) dX5_back_327 (c_X5_take hB hs (by omega)) (fun x1 w2 hq => ?_)
      obtain ⟨rfl, hB⟩ := hq
      refine pm_iastN (by first | assumption | rfl) (by omega) (by first | decide | omega) dX5_back_330 ?_
      have hB := bk_st hB (by omega) (sl_98 hlt) (sl_dv (sl_98 hlt) (by decide))
      refine pm_iinc (y := _ + 1) (lv' := [some (.ref _), some (.int _), some (.int _)]) dX5_back_331 rfl rfl (by decide) rfl ?_
      refine pm_goto (tgt := 315) dX5_back_334 (by decide) ?_
      rw [nI_1 i]
      exact ih hlt _ (by rw [show 364 + (i + 1) = 364 + i + 1 by omega]; exact hB)

set_option maxRecDepth 4000 in
theorem bk_290 {w : pm_W} {s : Nat} (hs : s < 2) (h107 : ¬ w.1 107 s < 0) : ∀ i, i ≤ 256 → ∀ w1, bk_I w s (108 + i) 0 w1 → pm_R pm_L0 MX5_back 290 [some (.ref 83), some (.int (nI s)), some (.int (nI i))] [] w1 (pm_qi fun r w2 => bq_P w (nI s) r w2) := by
    refine up_loop 256 (fun i hi9 ih w1 hB => ?_)
    refine pm_iload_n dX5_back_290 rfl ?_
    refine pm_sipush (x := nI 256) dX5_back_291 rfl ?_
    refine pm_icmp_ge (tgt := 313) dX5_back_294 (by decide) (fun c294 => ?_) (fun c294 => ?_)
    · have he : i = 256 := by
        rw [nI_leI (by omega) (by omega)] at c294
        omega
      subst he
      refine pm_iconst (x := 0) dX5_back_313 rfl ?_
      refine pm_istore_n (lv' := [some (.ref _), some (.int _), some (.int _)]) dX5_back_314 (by decide) rfl ?_
      exact bk_315 hs h107 0 (by decide) _ hB
    · have hlt : i < 256 := by
        rw [nI_leI (by omega) (by omega)] at c294
        omega
      refine pm_aload_n dX5_back_297 rfl ?_
      refine pm_getR (ci := 5) (j := 21) (n := 39) (by first | assumption | rfl) (by decide) (by decide) rfl fl_RX5_50 rfl (by first | assumption | rfl) dX5_back_298 ?_
      refine pm_iload_n dX5_back_301 rfl ?_
      refine pm_aload_n dX5_back_302 rfl ?_
      refine pm_cVi (as := []) (by first | assumption | rfl) (by decide) rfl ml_RX5_242 (by decide) (Nat.le_of_ble_eq_true rfl) dX5_back_303 (c_X5_take hB hs (by omega)) (fun x1 w2 hq => ?_)
      obtain ⟨rfl, hB⟩ := hq
      refine pm_iastN (by first | assumption | rfl) (by omega) (by first | decide | omega) dX5_back_306 ?_
      have hB := bk_st hB (by omega) (sl_97 hlt) (sl_dv (sl_97 hlt) (by decide))
      refine pm_iinc (y := _ + 1) (lv' := [some (.ref _), some (.int _), some (.int _)]) dX5_back_307 rfl rfl (by decide) rfl ?_
      refine pm_goto (tgt := 290) dX5_back_310 (by decide) ?_
      rw [nI_1 i]
      exact ih hlt _ (by rw [show 108 + (i + 1) = 108 + i + 1 by omega]; exact hB)

set_option maxRecDepth 4000 in
theorem bk_197 {w : pm_W} {s : Nat} (hs : s < 2) (h107 : ¬ w.1 107 s < 0) : ∀ i, i ≤ 4 → ∀ w1, bk_I w s (76 + 8 * i) 0 w1 → pm_R pm_L0 MX5_back 197 [some (.ref 83), some (.int (nI s)), some (.int (nI i))] [] w1 (pm_qi fun r w2 => bq_P w (nI s) r w2) := by
    refine up_loop 4 (fun i hi9 ih w1 hB => ?_)
    refine pm_iload_n dX5_back_197 rfl ?_
    refine pm_iconst (x := nI 4) dX5_back_198 rfl ?_
    refine pm_icmp_ge (tgt := 288) dX5_back_199 (by decide) (fun c199 => ?_) (fun c199 => ?_)
    · have he : i = 4 := by
        rw [nI_leI (by omega) (by omega)] at c199
        omega
      subst he
      refine pm_iconst (x := 0) dX5_back_288 rfl ?_
      refine pm_istore_n (lv' := [some (.ref _), some (.int _), some (.int _)]) dX5_back_289 (by decide) rfl ?_
      exact bk_290 hs h107 0 (by decide) _ hB
    · have hlt : i < 4 := by
        rw [nI_leI (by omega) (by omega)] at c199
        omega
      refine pm_aload_n dX5_back_202 rfl ?_
      refine pm_getR (ci := 5) (j := 13) (n := 39) (by first | assumption | rfl) (by decide) (by decide) rfl fl_RX5_26 rfl (by first | assumption | rfl) dX5_back_203 ?_
      refine pm_iload_n dX5_back_206 rfl ?_
      refine pm_aload_n dX5_back_207 rfl ?_
      refine pm_cVi (as := []) (by first | assumption | rfl) (by decide) rfl ml_RX5_242 (by decide) (Nat.le_of_ble_eq_true rfl) dX5_back_208 (c_X5_take hB hs (by omega)) (fun x1 w2 hq => ?_)
      obtain ⟨rfl, hB⟩ := hq
      refine pm_iastN (by first | assumption | rfl) (by omega) (by first | decide | omega) dX5_back_211 ?_
      have hB := bk_st hB (by omega) (sl_89 hlt) (sl_dv (sl_89 hlt) (by decide))
      refine pm_aload_n dX5_back_212 rfl ?_
      refine pm_getR (ci := 5) (j := 14) (n := 39) (by first | assumption | rfl) (by decide) (by decide) rfl fl_RX5_29 rfl (by first | assumption | rfl) dX5_back_213 ?_
      refine pm_iload_n dX5_back_216 rfl ?_
      refine pm_aload_n dX5_back_217 rfl ?_
      refine pm_cVi (as := []) (by first | assumption | rfl) (by decide) rfl ml_RX5_242 (by decide) (Nat.le_of_ble_eq_true rfl) dX5_back_218 (c_X5_take hB hs (by omega)) (fun x1 w2 hq => ?_)
      obtain ⟨rfl, hB⟩ := hq
      refine pm_iastN (by first | assumption | rfl) (by omega) (by first | decide | omega) dX5_back_221 ?_
      have hB := bk_st hB (by omega) (sl_90 hlt) (sl_dv (sl_90 hlt) (by decide))
      refine pm_aload_n dX5_back_222 rfl ?_
      refine pm_getR (ci := 5) (j := 15) (n := 39) (by first | assumption | rfl) (by decide) (by decide) rfl fl_RX5_32 rfl (by first | assumption | rfl) dX5_back_223 ?_
      refine pm_iload_n dX5_back_226 rfl ?_
      refine pm_aload_n dX5_back_227 rfl ?_
      refine pm_cVi (as := []) (by first | assumption | rfl) (by decide) rfl ml_RX5_242 (by decide) (Nat.le_of_ble_eq_true rfl) dX5_back_228 (c_X5_take hB hs (by omega)) (fun x1 w2 hq => ?_)
      obtain ⟨rfl, hB⟩ := hq
      refine pm_iastN (by first | assumption | rfl) (by omega) (by first | decide | omega) dX5_back_231 ?_
      have hB := bk_st hB (by omega) (sl_91 hlt) (sl_dv (sl_91 hlt) (by decide))
      refine pm_aload_n dX5_back_232 rfl ?_
      refine pm_getR (ci := 5) (j := 16) (n := 39) (by first | assumption | rfl) (by decide) (by decide) rfl fl_RX5_35 rfl (by first | assumption | rfl) dX5_back_233 ?_
      refine pm_iload_n dX5_back_236 rfl ?_
      refine pm_aload_n dX5_back_237 rfl ?_
      refine pm_cVi (as := []) (by first | assumption | rfl) (by decide) rfl ml_RX5_242 (by decide) (Nat.le_of_ble_eq_true rfl) dX5_back_238 (c_X5_take hB hs (by omega)) (fun x1 w2 hq => ?_)
      obtain ⟨rfl, hB⟩ := hq
      refine pm_iastN (by first | assumption | rfl) (by omega) (by first | decide | omega) dX5_back_241 ?_
      have hB := bk_st hB (by omega) (sl_92 hlt) (sl_dv (sl_92 hlt) (by decide))
      refine pm_aload_n dX5_back_242 rfl ?_
      refine pm_getR (ci := 5) (j := 17) (n := 39) (by first | assumption | rfl) (by decide) (by decide) rfl fl_RX5_38 rfl (by first | assumption | rfl) dX5_back_243 ?_
      refine pm_iload_n dX5_back_246 rfl ?_
      refine pm_aload_n dX5_back_247 rfl ?_
      refine pm_cVi (as := []) (by first | assumption | rfl) (by decide) rfl ml_RX5_242 (by decide) (Nat.le_of_ble_eq_true rfl) dX5_back_248 (c_X5_take hB hs (by omega)) (fun x1 w2 hq => ?_)
      obtain ⟨rfl, hB⟩ := hq
      refine pm_iastN (by first | assumption | rfl) (by omega) (by first | decide | omega) dX5_back_251 ?_
      have hB := bk_st hB (by omega) (sl_93 hlt) (sl_dv (sl_93 hlt) (by decide))
      refine pm_aload_n dX5_back_252 rfl ?_
      refine pm_getR (ci := 5) (j := 18) (n := 39) (by first | assumption | rfl) (by decide) (by decide) rfl fl_RX5_41 rfl (by first | assumption | rfl) dX5_back_253 ?_
      refine pm_iload_n dX5_back_256 rfl ?_
      refine pm_aload_n dX5_back_257 rfl ?_
      refine pm_cVi (as := []) (by first | assumption | rfl) (by decide) rfl ml_RX5_242 (by decide) (Nat.le_of_ble_eq_true rfl) dX5_back_258 (c_X5_take hB hs (by omega)) (fun x1 w2 hq => ?_)
      obtain ⟨rfl, hB⟩ := hq
      refine pm_iastN (by first | assumption | rfl) (by omega) (by first | decide | omega) dX5_back_261 ?_
      have hB := bk_st hB (by omega) (sl_94 hlt) (sl_dv (sl_94 hlt) (by decide))
      refine pm_aload_n dX5_back_262 rfl ?_
      refine pm_getR (ci := 5) (j := 19) (n := 39) (by first | assumption | rfl) (by decide) (by decide) rfl fl_RX5_44 rfl (by first | assumption | rfl) dX5_back_263 ?_
      refine pm_iload_n dX5_back_266 rfl ?_
      refine pm_aload_n dX5_back_267 rfl ?_
      refine pm_cVi (as := []) (by first | assumption | rfl) (by decide) rfl ml_RX5_242 (by decide) (Nat.le_of_ble_eq_true rfl) dX5_back_268 (c_X5_take hB hs (by omega)) (fun x1 w2 hq => ?_)
      obtain ⟨rfl, hB⟩ := hq
      refine pm_iastN (by first | assumption | rfl) (by omega) (by first | decide | omega) dX5_back_271 ?_
      have hB := bk_st hB (by omega) (sl_95 hlt) (sl_dv (sl_95 hlt) (by decide))
      refine pm_aload_n dX5_back_272 rfl ?_
      refine pm_getR (ci := 5) (j := 20) (n := 39) (by first | assumption | rfl) (by decide) (by decide) rfl fl_RX5_47 rfl (by first | assumption | rfl) dX5_back_273 ?_
      refine pm_iload_n dX5_back_276 rfl ?_
      refine pm_aload_n dX5_back_277 rfl ?_
      refine pm_cVi (as := []) (by first | assumption | rfl) (by decide) rfl ml_RX5_242 (by decide) (Nat.le_of_ble_eq_true rfl) dX5_back_278 (c_X5_take hB hs (by omega)) (fun x1 w2 hq => ?_)
      obtain ⟨rfl, hB⟩ := hq
      refine pm_iastN (by first | assumption | rfl) (by omega) (by first | decide | omega) dX5_back_281 ?_
      have hB := bk_st hB (by omega) (sl_96 hlt) (sl_dv (sl_96 hlt) (by decide))
      refine pm_iinc (y := _ + 1) (lv' := [some (.ref _), some (.int _), some (.int _)]) dX5_back_282 rfl rfl (by decide) rfl ?_
      refine pm_goto (tgt := 197) dX5_back_285 (by decide) ?_
      rw [nI_1 i]
      exact ih hlt _ (by rw [show 76 + 8 * (i + 1) = 76 + 8 * i + 7 + 1 by omega]; exact hB)

set_option maxRecDepth 4000 in
theorem bk_163 {w : pm_W} {s : Nat} (hs : s < 2) (h107 : ¬ w.1 107 s < 0) : ∀ i, i ≤ 16 → ∀ w1, bk_I w s (44 + 2 * i) 0 w1 → pm_R pm_L0 MX5_back 163 [some (.ref 83), some (.int (nI s)), some (.int (nI i))] [] w1 (pm_qi fun r w2 => bq_P w (nI s) r w2) := by
    refine up_loop 16 (fun i hi9 ih w1 hB => ?_)
    refine pm_iload_n dX5_back_163 rfl ?_
    refine pm_bipush (x := nI 16) dX5_back_164 rfl ?_
    refine pm_icmp_ge (tgt := 195) dX5_back_166 (by decide) (fun c166 => ?_) (fun c166 => ?_)
    · have he : i = 16 := by
        rw [nI_leI (by omega) (by omega)] at c166
        omega
      subst he
      refine pm_iconst (x := 0) dX5_back_195 rfl ?_
      refine pm_istore_n (lv' := [some (.ref _), some (.int _), some (.int _)]) dX5_back_196 (by decide) rfl ?_
      exact bk_197 hs h107 0 (by decide) _ hB
    · have hlt : i < 16 := by
        rw [nI_leI (by omega) (by omega)] at c166
        omega
      refine pm_aload_n dX5_back_169 rfl ?_
      refine pm_getR (ci := 5) (j := 7) (n := 39) (by first | assumption | rfl) (by decide) (by decide) rfl fl_RX5_20 rfl (by first | assumption | rfl) dX5_back_170 ?_
      refine pm_iload_n dX5_back_173 rfl ?_
      refine pm_aload_n dX5_back_174 rfl ?_
      refine pm_cVi (as := []) (by first | assumption | rfl) (by decide) rfl ml_RX5_242 (by decide) (Nat.le_of_ble_eq_true rfl) dX5_back_175 (c_X5_take hB hs (by omega)) (fun x1 w2 hq => ?_)
      obtain ⟨rfl, hB⟩ := hq
      refine pm_iastN (by first | assumption | rfl) (by omega) (by first | decide | omega) dX5_back_178 ?_
      have hB := bk_st hB (by omega) (sl_87 hlt) (sl_dv (sl_87 hlt) (by decide))
      refine pm_aload_n dX5_back_179 rfl ?_
      refine pm_getR (ci := 5) (j := 8) (n := 39) (by first | assumption | rfl) (by decide) (by decide) rfl fl_RX5_23 rfl (by first | assumption | rfl) dX5_back_180 ?_
      refine pm_iload_n dX5_back_183 rfl ?_
      refine pm_aload_n dX5_back_184 rfl ?_
      refine pm_cVi (as := []) (by first | assumption | rfl) (by decide) rfl ml_RX5_242 (by decide) (Nat.le_of_ble_eq_true rfl) dX5_back_185 (c_X5_take hB hs (by omega)) (fun x1 w2 hq => ?_)
      obtain ⟨rfl, hB⟩ := hq
      refine pm_iastN (by first | assumption | rfl) (by omega) (by first | decide | omega) dX5_back_188 ?_
      have hB := bk_st hB (by omega) (sl_88 hlt) (sl_dv (sl_88 hlt) (by decide))
      refine pm_iinc (y := _ + 1) (lv' := [some (.ref _), some (.int _), some (.int _)]) dX5_back_189 rfl rfl (by decide) rfl ?_
      refine pm_goto (tgt := 163) dX5_back_192 (by decide) ?_
      rw [nI_1 i]
      exact ih hlt _ (by rw [show 44 + 2 * (i + 1) = 44 + 2 * i + 1 + 1 by omega]; exact hB)

set_option maxRecDepth 4000 in
theorem bk_110 {w : pm_W} {s : Nat} (hs : s < 2) (h107 : ¬ w.1 107 s < 0) : ∀ i, i ≤ 12 → ∀ w1, bk_I w s (8 + 3 * i) 0 w1 → pm_R pm_L0 MX5_back 110 [some (.ref 83), some (.int (nI s)), some (.int (nI i))] [] w1 (pm_qi fun r w2 => bq_P w (nI s) r w2) := by
    refine up_loop 12 (fun i hi9 ih w1 hB => ?_)
    refine pm_iload_n dX5_back_110 rfl ?_
    refine pm_bipush (x := nI 12) dX5_back_111 rfl ?_
    refine pm_icmp_ge (tgt := 161) dX5_back_113 (by decide) (fun c113 => ?_) (fun c113 => ?_)
    · have he : i = 12 := by
        rw [nI_leI (by omega) (by omega)] at c113
        omega
      subst he
      refine pm_iconst (x := 0) dX5_back_161 rfl ?_
      refine pm_istore_n (lv' := [some (.ref _), some (.int _), some (.int _)]) dX5_back_162 (by decide) rfl ?_
      exact bk_163 hs h107 0 (by decide) _ hB
    · have hlt : i < 12 := by
        rw [nI_leI (by omega) (by omega)] at c113
        omega
      refine pm_aload_n dX5_back_116 rfl ?_
      refine pm_getR (ci := 5) (j := 3) (n := 39) (by first | assumption | rfl) (by decide) (by decide) rfl fl_RX5_7 rfl (by first | assumption | rfl) dX5_back_117 ?_
      refine pm_iload_n dX5_back_120 rfl ?_
      refine pm_aload_n dX5_back_121 rfl ?_
      refine pm_cVi (as := []) (by first | assumption | rfl) (by decide) rfl ml_RX5_242 (by decide) (Nat.le_of_ble_eq_true rfl) dX5_back_122 (c_X5_take hB hs (by omega)) (fun x1 w2 hq => ?_)
      obtain ⟨rfl, hB⟩ := hq
      refine pm_iastN (by first | assumption | rfl) (by omega) (by first | decide | omega) dX5_back_125 ?_
      have hB := bk_st hB (by omega) (sl_84 hlt) (sl_dv (sl_84 hlt) (by decide))
      refine pm_aload_n dX5_back_126 rfl ?_
      refine pm_getR (ci := 5) (j := 4) (n := 39) (by first | assumption | rfl) (by decide) (by decide) rfl fl_RX5_13 rfl (by first | assumption | rfl) dX5_back_127 ?_
      refine pm_iload_n dX5_back_130 rfl ?_
      refine pm_aload_n dX5_back_131 rfl ?_
      refine pm_cVi (as := []) (by first | assumption | rfl) (by decide) rfl ml_RX5_242 (by decide) (Nat.le_of_ble_eq_true rfl) dX5_back_132 (c_X5_take hB hs (by omega)) (fun x1 w2 hq => ?_)
      obtain ⟨rfl, hB⟩ := hq
      refine pm_iastN (by first | assumption | rfl) (by omega) (by first | decide | omega) dX5_back_135 ?_
      have hB := bk_st hB (by omega) (sl_85 hlt) (sl_dv (sl_85 hlt) (by decide))
      refine pm_aload_n dX5_back_136 rfl ?_
      refine pm_getR (ci := 5) (j := 5) (n := 39) (by first | assumption | rfl) (by decide) (by decide) rfl fl_RX5_16 rfl (by first | assumption | rfl) dX5_back_137 ?_
      refine pm_iload_n dX5_back_140 rfl ?_
      refine pm_aload_n dX5_back_141 rfl ?_
      refine pm_cVi (as := []) (by first | assumption | rfl) (by decide) rfl ml_RX5_242 (by decide) (Nat.le_of_ble_eq_true rfl) dX5_back_142 (c_X5_take hB hs (by omega)) (fun x1 w2 hq => ?_)
      obtain ⟨rfl, hB⟩ := hq
      refine pm_iconst (x := 1) dX5_back_145 rfl ?_
      refine pm_icmp_ne (tgt := 153) dX5_back_146 (by decide) (fun c146 => ?_) (fun c146 => ?_)
      · refine pm_iconst (x := 0) dX5_back_153 rfl ?_
        refine pm_zastN (by first | assumption | rfl) (by omega) (by first | decide | omega) (by first | exact Or.inl rfl | exact Or.inr rfl | assumption) dX5_back_154 ?_
        first | have hB := bk_st (v := 0) hB (by omega) (sl_86 hlt) (by unfold sl_d; rw [(sl_86 hlt).1, if_pos rfl, if_neg c146]) | have hB := bk_st (v := 1) hB (by omega) (sl_86 hlt) (by unfold sl_d; rw [(sl_86 hlt).1, if_pos rfl, if_pos c146])
        refine pm_iinc (y := _ + 1) (lv' := [some (.ref _), some (.int _), some (.int _)]) dX5_back_155 rfl rfl (by decide) rfl ?_
        refine pm_goto (tgt := 110) dX5_back_158 (by decide) ?_
        rw [nI_1 i]
        exact ih hlt _ (by rw [show 8 + 3 * (i + 1) = 8 + 3 * i + 2 + 1 by omega]; exact hB)
      · refine pm_iconst (x := 1) dX5_back_149 rfl ?_
        refine pm_goto (tgt := 154) dX5_back_150 (by decide) ?_
        refine pm_zastN (by first | assumption | rfl) (by omega) (by first | decide | omega) (by first | exact Or.inl rfl | exact Or.inr rfl | assumption) dX5_back_154 ?_
        first | have hB := bk_st (v := 0) hB (by omega) (sl_86 hlt) (by unfold sl_d; rw [(sl_86 hlt).1, if_pos rfl, if_neg c146]) | have hB := bk_st (v := 1) hB (by omega) (sl_86 hlt) (by unfold sl_d; rw [(sl_86 hlt).1, if_pos rfl, if_pos c146])
        refine pm_iinc (y := _ + 1) (lv' := [some (.ref _), some (.int _), some (.int _)]) dX5_back_155 rfl rfl (by decide) rfl ?_
        refine pm_goto (tgt := 110) dX5_back_158 (by decide) ?_
        rw [nI_1 i]
        exact ih hlt _ (by rw [show 8 + 3 * (i + 1) = 8 + 3 * i + 2 + 1 by omega]; exact hB)

set_option maxRecDepth 4000 in
theorem c_X5_back0 (w : pm_W) (x : Int32) : pm_C pm_L0 MX5_back [.ref 83, .int x] w (pm_qi fun r w1 => bq_P w x r w1) := by
  refine pm_start (lv := [some (.ref _), some (.int _), none]) (plainFor_of_name pf5) (Nat.le_of_ble_eq_true rfl) rfl ?_
  refine pm_iload_n dX5_back_0 rfl ?_
  refine pm_i2l dX5_back_1 ?_
  refine pm_lconst (x := 0) dX5_back_2 rfl ?_
  refine pm_lconst (x := 1) dX5_back_3 rfl ?_
  refine pm_cSi (as := [.long _, .long _, .long _]) ml_RX5_96 (by decide) (Nat.le_of_ble_eq_true rfl) dX5_back_4 (c_X5_in (n := x) (a := 0) (b := 1) pm_L0 _ rfl (by decide) (by decide)) (fun x1 w1 hq => ?_)
  obtain ⟨rfl, hw9⟩ := hq
  have hw9 := hw9.symm
  subst hw9
  refine pm_if_ne (tgt := 13) dX5_back_7 (by decide) (fun c7 => ?_) (fun c7 => ?_)
  · rw [pm_z_1] at c7
    obtain ⟨s, hs9, rfl⟩ := bw_of (n := 1) (by decide) c7
    have hs : s < 2 := by omega
    refine pm_aload_n dX5_back_13 rfl ?_
    refine pm_getR (ci := 5) (j := 36) (n := 39) (by first | assumption | rfl) (by decide) (by decide) rfl fl_RX5_84 rfl (by first | assumption | rfl) dX5_back_14 ?_
    refine pm_iload_n dX5_back_17 rfl ?_
    refine pm_ialdN (by first | assumption | rfl) (by omega) (by first | decide | omega) dX5_back_18 ?_
    refine pm_if_ge (tgt := 25) dX5_back_19 (by decide) (fun c19 => ?_) (fun c19 => ?_)
    · refine pm_aload_n dX5_back_25 rfl ?_
      refine pm_aload_n dX5_back_26 rfl ?_
      refine pm_getR (ci := 5) (j := 36) (n := 39) (by first | assumption | rfl) (by decide) (by decide) rfl fl_RX5_84 rfl (by first | assumption | rfl) dX5_back_27 ?_
      refine pm_iload_n dX5_back_30 rfl ?_
      refine pm_ialdN (by first | assumption | rfl) (by omega) (by first | decide | omega) dX5_back_31 ?_
      refine pm_putI (ci := 5) (j := 0) (n := 39) (by first | assumption | rfl) (by decide) (by decide) rfl fl_RX5_102 rfl rfl dX5_back_32 ?_
      refine pm_aload_n dX5_back_35 rfl ?_
      refine pm_sipush (x := nI 600) dX5_back_36 rfl ?_
      refine pm_iload_n dX5_back_39 rfl ?_
      refine pm_imul dX5_back_40 ?_
      rw [pk_mul]
      refine pm_putI (ci := 5) (j := 38) (n := 39) (by first | assumption | rfl) (by decide) (by decide) rfl fl_RX5_236 rfl rfl dX5_back_41 ?_
      have hB : bk_I w s 0 0 (pm_s (pm_s w 83 (upd (w.1 83) 0 (w.1 107 s))) 83 (upd ((pm_s w 83 (upd (w.1 83) 0 (w.1 107 s))).1 83) 38 (nI (600 * s)))) := ⟨fun o ho => absurd ho (by omega), by rw [pm_s_at, pk_us]; rfl, by rw [pm_s_at, pk_un (by decide), pm_s_at, pk_us], mfr_j (mfr_j (mfr_rf _ _ _) (by decide) _) (by decide) _⟩
      generalize pm_s (pm_s w 83 (upd (w.1 83) 0 (w.1 107 s))) 83 (upd ((pm_s w 83 (upd (w.1 83) 0 (w.1 107 s))).1 83) 38 (nI (600 * s))) = w2 at hB ⊢
      refine pm_aload_n dX5_back_44 rfl ?_
      refine pm_aload_n dX5_back_45 rfl ?_
      refine pm_cVi (as := []) (by first | assumption | rfl) (by decide) rfl ml_RX5_242 (by decide) (Nat.le_of_ble_eq_true rfl) dX5_back_46 (c_X5_take hB hs (by decide)) (fun x1 w2 hq => ?_)
      obtain ⟨rfl, hB⟩ := hq
      refine pm_putI (ci := 5) (j := 1) (n := 39) (by first | assumption | rfl) (by decide) (by decide) rfl fl_RX5_105 rfl rfl dX5_back_49 ?_
      have hB := bk_st hB (by decide) sl_83_0 (sl_dv sl_83_0 (by decide))
      refine pm_aload_n dX5_back_52 rfl ?_
      refine pm_aload_n dX5_back_53 rfl ?_
      refine pm_cVi (as := []) (by first | assumption | rfl) (by decide) rfl ml_RX5_242 (by decide) (Nat.le_of_ble_eq_true rfl) dX5_back_54 (c_X5_take hB hs (by decide)) (fun x1 w2 hq => ?_)
      obtain ⟨rfl, hB⟩ := hq
      refine pm_putI (ci := 5) (j := 2) (n := 39) (by first | assumption | rfl) (by decide) (by decide) rfl fl_RX5_108 rfl rfl dX5_back_57 ?_
      have hB := bk_st hB (by decide) sl_83_1 (sl_dv sl_83_1 (by decide))
      refine pm_aload_n dX5_back_60 rfl ?_
      refine pm_aload_n dX5_back_61 rfl ?_
      refine pm_cVi (as := []) (by first | assumption | rfl) (by decide) rfl ml_RX5_242 (by decide) (Nat.le_of_ble_eq_true rfl) dX5_back_62 (c_X5_take hB hs (by decide)) (fun x1 w2 hq => ?_)
      obtain ⟨rfl, hB⟩ := hq
      refine pm_putI (ci := 5) (j := 6) (n := 39) (by first | assumption | rfl) (by decide) (by decide) rfl fl_RX5_111 rfl rfl dX5_back_65 ?_
      have hB := bk_st hB (by decide) sl_83_2 (sl_dv sl_83_2 (by decide))
      refine pm_aload_n dX5_back_68 rfl ?_
      refine pm_aload_n dX5_back_69 rfl ?_
      refine pm_cVi (as := []) (by first | assumption | rfl) (by decide) rfl ml_RX5_242 (by decide) (Nat.le_of_ble_eq_true rfl) dX5_back_70 (c_X5_take hB hs (by decide)) (fun x1 w2 hq => ?_)
      obtain ⟨rfl, hB⟩ := hq
      refine pm_putI (ci := 5) (j := 9) (n := 39) (by first | assumption | rfl) (by decide) (by decide) rfl fl_RX5_114 rfl rfl dX5_back_73 ?_
      have hB := bk_st hB (by decide) sl_83_3 (sl_dv sl_83_3 (by decide))
      refine pm_aload_n dX5_back_76 rfl ?_
      refine pm_aload_n dX5_back_77 rfl ?_
      refine pm_cVi (as := []) (by first | assumption | rfl) (by decide) rfl ml_RX5_242 (by decide) (Nat.le_of_ble_eq_true rfl) dX5_back_78 (c_X5_take hB hs (by decide)) (fun x1 w2 hq => ?_)
      obtain ⟨rfl, hB⟩ := hq
      refine pm_putI (ci := 5) (j := 10) (n := 39) (by first | assumption | rfl) (by decide) (by decide) rfl fl_RX5_117 rfl rfl dX5_back_81 ?_
      have hB := bk_st hB (by decide) sl_83_4 (sl_dv sl_83_4 (by decide))
      refine pm_aload_n dX5_back_84 rfl ?_
      refine pm_aload_n dX5_back_85 rfl ?_
      refine pm_cVi (as := []) (by first | assumption | rfl) (by decide) rfl ml_RX5_242 (by decide) (Nat.le_of_ble_eq_true rfl) dX5_back_86 (c_X5_take hB hs (by decide)) (fun x1 w2 hq => ?_)
      obtain ⟨rfl, hB⟩ := hq
      refine pm_putI (ci := 5) (j := 11) (n := 39) (by first | assumption | rfl) (by decide) (by decide) rfl fl_RX5_120 rfl rfl dX5_back_89 ?_
      have hB := bk_st hB (by decide) sl_83_5 (sl_dv sl_83_5 (by decide))
      refine pm_aload_n dX5_back_92 rfl ?_
      refine pm_aload_n dX5_back_93 rfl ?_
      refine pm_cVi (as := []) (by first | assumption | rfl) (by decide) rfl ml_RX5_242 (by decide) (Nat.le_of_ble_eq_true rfl) dX5_back_94 (c_X5_take hB hs (by decide)) (fun x1 w2 hq => ?_)
      obtain ⟨rfl, hB⟩ := hq
      refine pm_putI (ci := 5) (j := 12) (n := 39) (by first | assumption | rfl) (by decide) (by decide) rfl fl_RX5_123 rfl rfl dX5_back_97 ?_
      have hB := bk_st hB (by decide) sl_83_6 (sl_dv sl_83_6 (by decide))
      refine pm_aload_n dX5_back_100 rfl ?_
      refine pm_aload_n dX5_back_101 rfl ?_
      refine pm_cVi (as := []) (by first | assumption | rfl) (by decide) rfl ml_RX5_242 (by decide) (Nat.le_of_ble_eq_true rfl) dX5_back_102 (c_X5_take hB hs (by decide)) (fun x1 w2 hq => ?_)
      obtain ⟨rfl, hB⟩ := hq
      refine pm_putI (ci := 5) (j := 24) (n := 39) (by first | assumption | rfl) (by decide) (by decide) rfl fl_RX5_126 rfl rfl dX5_back_105 ?_
      have hB := bk_st hB (by decide) sl_83_7 (sl_dv sl_83_7 (by decide))
      refine pm_iconst (x := 0) dX5_back_108 rfl ?_
      refine pm_istore_n (lv' := [some (.ref _), some (.int _), some (.int _)]) dX5_back_109 (by decide) rfl ?_
      exact bk_110 hs (Int32.not_lt.mpr c19) 0 (by decide) _ hB
    · refine pm_bipush (x := -103) dX5_back_22 rfl ?_
      refine pm_iret dX5_back_24 rfl ?_
      exact Or.inr ⟨s, hs, rfl, Or.inl ⟨Int32.not_le.mp c19, rfl, rfl⟩⟩
  · refine pm_bipush (x := -101) dX5_back_10 rfl ?_
    refine pm_iret dX5_back_12 rfl ?_
    exact Or.inl ⟨pm_z_0.mp c7, rfl, rfl⟩

