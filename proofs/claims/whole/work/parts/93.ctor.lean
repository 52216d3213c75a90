theorem aw_int : Jvm.Cond.arrayClass .int ∈ pm_good := pm_in 101 (by decide +kernel) rfl
theorem aw_boolean : Jvm.Cond.arrayClass .boolean ∈ pm_good := pm_in 257 (by decide +kernel) rfl
theorem aw_long : Jvm.Cond.arrayClass .long ∈ pm_good := pm_in 258 (by decide +kernel) rfl
theorem oi_i : Jvm.Cond.instanceMethod Lib.objectInit ∈ pm_good := pm_in 61 (by decide +kernel) rfl
theorem oi_c : Jvm.Cond.code Lib.objectInit ⟨#[0xb1]⟩ 1 none ∈ pm_good := pm_in 62 (by decide +kernel) rfl
theorem oi_RX0 : Jvm.Cond.methodLink RX0 3 Lib.objectInit ∈ pm_good := pm_in 108 (by decide +kernel) rfl
theorem oi_RX1 : Jvm.Cond.methodLink RX1 3 Lib.objectInit ∈ pm_good := pm_in 228 (by decide +kernel) rfl
theorem oi_RX2 : Jvm.Cond.methodLink RX2 3 Lib.objectInit ∈ pm_good := pm_in 74 (by decide +kernel) rfl
theorem oi_RX3 : Jvm.Cond.methodLink RX3 3 Lib.objectInit ∈ pm_good := pm_in 68 (by decide +kernel) rfl
theorem oi_RX4 : Jvm.Cond.methodLink RX4 1 Lib.objectInit ∈ pm_good := pm_in 60 (by decide +kernel) rfl
theorem oi_RX5 : Jvm.Cond.methodLink RX5 1 Lib.objectInit ∈ pm_good := pm_in 548 (by decide +kernel) rfl
theorem cl_RX3_9 : Jvm.Cond.classLink RX3 9 RX2 ∈ pm_good := pm_in 69 (by decide +kernel) rfl
theorem cl_RX3_23 : Jvm.Cond.classLink RX3 23 RX0 ∈ pm_good := pm_in 102 (by decide +kernel) rfl
theorem cl_RX4_7 : Jvm.Cond.classLink RX4 7 RX3 ∈ pm_good := pm_in 63 (by decide +kernel) rfl
theorem cl_RX4_24 : Jvm.Cond.classLink RX4 24 RX1 ∈ pm_good := pm_in 223 (by decide +kernel) rfl
theorem it_RX0 : Jvm.Cond.instantiable RX0 10 ∈ pm_good := pm_in 104 (by decide +kernel) rfl
theorem ii_RX0 : Jvm.Cond.initialized RX0 ∈ pm_good := pm_in 49 (by decide +kernel) rfl
theorem it_RX1 : Jvm.Cond.instantiable RX1 9 ∈ pm_good := pm_in 224 (by decide +kernel) rfl
theorem ii_RX1 : Jvm.Cond.initialized RX1 ∈ pm_good := pm_in 51 (by decide +kernel) rfl
theorem it_RX2 : Jvm.Cond.instantiable RX2 5 ∈ pm_good := pm_in 70 (by decide +kernel) rfl
theorem ii_RX2 : Jvm.Cond.initialized RX2 ∈ pm_good := pm_in 48 (by decide +kernel) rfl
theorem it_RX3 : Jvm.Cond.instantiable RX3 11 ∈ pm_good := pm_in 64 (by decide +kernel) rfl
theorem ii_RX3 : Jvm.Cond.initialized RX3 ∈ pm_good := pm_in 47 (by decide +kernel) rfl
theorem mi_RX3_11 : pm_MLI RX3 11 MX2_init 1 := ⟨⟨pm_in 71 (by decide +kernel) rfl, pm_in 72 (by decide +kernel) rfl, ii_RX2, pm_in 73 (by decide +kernel) rfl⟩, rfl, rfl, by decide +kernel, by decide +kernel, by decide +kernel⟩
theorem mi_RX3_33 : pm_MLIN RX3 33 MX0_init RX4 0 := ⟨⟨List.mem_cons_self, pm_in 106 (by decide +kernel) rfl, ii_RX0, pm_in 107 (by decide +kernel) rfl⟩, rfl, rfl, by decide +kernel, by decide +kernel, by decide +kernel⟩
theorem mi_RX4_9 : pm_MLI RX4 9 MX3_init 0 := ⟨⟨pm_in 65 (by decide +kernel) rfl, pm_in 66 (by decide +kernel) rfl, ii_RX3, pm_in 67 (by decide +kernel) rfl⟩, rfl, rfl, by decide +kernel, by decide +kernel, by decide +kernel⟩
theorem mi_RX4_26 : pm_MLIN RX4 26 MX1_init RX4 0 := ⟨⟨List.mem_cons_of_mem _ List.mem_cons_self, pm_in 226 (by decide +kernel) rfl, ii_RX1, pm_in 227 (by decide +kernel) rfl⟩, rfl, rfl, by decide +kernel, by decide +kernel, by decide +kernel⟩
theorem pg_l0 {n : Nat} : ∀ v, some v ∈ ([] : List (Option Value)) → pg_lt n v := fun v h => absurd h (by simp)
theorem pg_lr {n k : Nat} {lv : List (Option Value)} (hk : k < n) (h : ∀ v, some v ∈ lv → pg_lt n v) : ∀ v, some v ∈ some (.ref k) :: lv → pg_lt n v := by
  intro v hv
  rcases List.mem_cons.mp hv with e | hv
  · cases e; exact hk
  · exact h v hv
theorem pg_li {n : Nat} {x : Int32} {lv : List (Option Value)} (h : ∀ v, some v ∈ lv → pg_lt n v) : ∀ v, some v ∈ some (.int x) :: lv → pg_lt n v := by
  intro v hv
  rcases List.mem_cons.mp hv with e | hv
  · cases e; trivial
  · exact h v hv
theorem pg_ln {n : Nat} {lv : List (Option Value)} (h : ∀ v, some v ∈ lv → pg_lt n v) : ∀ v, some v ∈ none :: lv → pg_lt n v := by
  intro v hv
  rcases List.mem_cons.mp hv with e | hv
  · cases e
  · exact h v hv
theorem pg_s0 {n : Nat} : ∀ v ∈ ([] : List Value), pg_lt n v := fun v h => absurd h (by simp)
theorem pg_sr {n k : Nat} {st : List Value} (hk : k < n) (h : ∀ v ∈ st, pg_lt n v) : ∀ v ∈ Value.ref k :: st, pg_lt n v := by
  intro v hv
  rcases List.mem_cons.mp hv with rfl | hv
  · exact hk
  · exact h v hv
theorem pg_si {n : Nat} {x : Int32} {st : List Value} (h : ∀ v ∈ st, pg_lt n v) : ∀ v ∈ Value.int x :: st, pg_lt n v := by
  intro v hv
  rcases List.mem_cons.mp hv with rfl | hv
  · trivial
  · exact h v hv
theorem pg_name {M : pm_M} {mc ms n0 n1 : Nat} {rl1 : List (Nat × Nat)} {Q : pm_W → Prop} {pc : Nat} {lv : List (Option Value)} {st : List Value} {n : Nat} {rl : List (Nat × Nat)} {w : pm_W} {kc ks : Nat} (P : pm_W → Prop) (hp : P w) (h : ∀ w', P w' → pg_R M mc ms n0 n1 rl1 Q pc lv st n rl w' kc ks) : pg_R M mc ms n0 n1 rl1 Q pc lv st n rl w kc ks := h w hp
def fr1 (w w1 : pm_W) (lo hi : Nat) : Prop := ∀ a, (a < lo ∨ hi ≤ a) → w1.1 a = w.1 a
theorem fr1_rf (w : pm_W) (lo hi : Nat) : fr1 w w lo hi := fun _ _ => rfl
theorem fr1_tr {w w1 w2 : pm_W} {lo hi : Nat} (h : fr1 w w1 lo hi) (k : fr1 w1 w2 lo hi) : fr1 w w2 lo hi := fun a q => (k a q).trans (h a q)
theorem fr1_wd {w w1 : pm_W} {lo hi lo' hi' : Nat} (h : fr1 w w1 lo hi) (h1 : lo' ≤ lo) (h2 : hi ≤ hi') : fr1 w w1 lo' hi' := fun a q => h a (by omega)
theorem fr1_s {w w1 : pm_W} {lo hi k : Nat} {f : Nat → Int32} (h : fr1 w w1 lo hi) (h1 : lo ≤ k) (h2 : k < hi) : fr1 w (pm_s w1 k f) lo hi := fun a q => (pm_s_ne (by omega)).trans (h a q)
theorem fr1_L {w w1 : pm_W} {lo hi k : Nat} {f : Nat → Int64} (h : fr1 w w1 lo hi) : fr1 w (pm_sL w1 k f) lo hi := h
theorem fr1_B {w w1 : pm_W} {lo hi k : Nat} {f : Nat → Int32} {g : Nat → Int64} (h : fr1 w w1 lo hi) (h1 : lo ≤ k) (h2 : k < hi) : fr1 w (pm_sL (pm_s w1 k f) k g) lo hi := fun a q => (pm_s_ne (by omega)).trans (h a q)

def hd_rl (k : Nat) (rl : List (Nat × Nat)) : List (Nat × Nat) := (k, 2) :: (k, 1) :: (k, 0) :: (k, 3) :: rl
set_option maxRecDepth 8000 in
theorem g_X2_init {k N : Nat} (hk : hd_ok pm_L0 k N) (hN : N < 1000) (hkn : k + 5 ≤ 109) (rl : List (Nat × Nat)) (w : pm_W) : pg_C MX2_init 4 (4 + 3 * N) [.ref k, .int (nI N)] (k + 1) rl w (k + 5) (hd_rl k rl) (fun w1 => fr1 w w1 k (k + 5)) := by
  obtain ⟨h0, r0, r1, r2, r3, h5, h6, h7, h8⟩ := hk
  refine pg_start (lv := [some (.ref _), some (.int _)]) (plainFor_of_name pf2) rfl rfl (Nat.le_of_ble_eq_true rfl) rfl ?_
  refine pg_aload_n dX2_init_0 rfl ?_
  refine pg_objInit dX2_init_1 oi_RX2 oi_i oi_c (by decide) (Nat.le_of_ble_eq_true rfl) ?_
  refine pg_aload_n dX2_init_4 rfl ?_
  refine pg_iconst (x := 4) dX2_init_5 rfl ?_
  refine pg_newI (N := 4) (by omega) dX2_init_6 aw_int rfl h5 (by omega) (by first | decide | omega) (by omega) (by omega) (pg_lr (by omega) (pg_li pg_l0)) (pg_sr (by omega) pg_s0) ?_
  refine pg_putR dX2_init_8 (by decide) h0 (by omega) (by omega) (by decide) fl_RX2_9 rfl rfl rfl r3 ?_
  refine pg_aload_n dX2_init_11 rfl ?_
  refine pg_iconst (x := 0) dX2_init_12 rfl ?_
  refine pg_putI dX2_init_13 (by decide) h0 (by omega) (by decide) fl_RX2_15 rfl rfl ?_
  refine pg_aload_n dX2_init_16 rfl ?_
  refine pg_iload_n dX2_init_17 rfl ?_
  refine pg_newI (N := N) (by omega) dX2_init_18 aw_int rfl h6 (by omega) (by first | decide | omega) (by omega) (by omega) (pg_lr (by omega) (pg_li pg_l0)) (pg_sr (by omega) pg_s0) ?_
  refine pg_putR dX2_init_20 (by decide) h0 (by omega) (by omega) (by decide) fl_RX2_19 rfl rfl rfl r0 ?_
  refine pg_aload_n dX2_init_23 rfl ?_
  refine pg_iload_n dX2_init_24 rfl ?_
  refine pg_newI (N := N) (by omega) dX2_init_25 aw_int rfl h7 (by omega) (by first | decide | omega) (by omega) (by omega) (pg_lr (by omega) (pg_li pg_l0)) (pg_sr (by omega) pg_s0) ?_
  refine pg_putR dX2_init_27 (by decide) h0 (by omega) (by omega) (by decide) fl_RX2_22 rfl rfl rfl r1 ?_
  refine pg_aload_n dX2_init_30 rfl ?_
  refine pg_iload_n dX2_init_31 rfl ?_
  refine pg_newI (N := N) (by omega) dX2_init_32 aw_int rfl h8 (by omega) (by first | decide | omega) (by omega) (by omega) (pg_lr (by omega) (pg_li pg_l0)) (pg_sr (by omega) pg_s0) ?_
  refine pg_putR dX2_init_34 (by decide) h0 (by omega) (by omega) (by decide) fl_RX2_25 rfl rfl rfl r2 ?_
  refine pg_vret (st := []) dX2_init_37 ?_ (by omega) rfl (by omega) (by omega)
  exact fr1_s (fr1_s (fr1_s (fr1_s (fr1_s (fr1_rf _ _ _) (by omega) (by omega)) (by omega) (by omega)) (by omega) (by omega)) (by omega) (by omega)) (by omega) (by omega)

def as_rl (k : Nat) (rl : List (Nat × Nat)) : List (Nat × Nat) := (k, 1) :: (k, 0) :: rl
set_option maxRecDepth 8000 in
theorem g_X0_init {k : Nat} (hk : as_ok pm_L0 k) (hkn : k + 3 ≤ 109) (rl : List (Nat × Nat)) (w : pm_W) : pg_C MX0_init 2 71 [.ref k] (k + 1) rl w (k + 3) (as_rl k rl) (fun w1 => fr1 w w1 k (k + 3)) := by
  obtain ⟨h0, r0, r1, h1, h2⟩ := hk
  refine pg_start (lv := [some (.ref _)]) (plainFor_of_name pf0) rfl rfl (Nat.le_of_ble_eq_true rfl) rfl ?_
  refine pg_aload_n dX0_init_0 rfl ?_
  refine pg_objInit dX0_init_1 oi_RX0 oi_i oi_c (by decide) (Nat.le_of_ble_eq_true rfl) ?_
  refine pg_aload_n dX0_init_4 rfl ?_
  refine pg_bipush (x := 7) dX0_init_5 rfl ?_
  refine pg_newI (N := 7) (by omega) dX0_init_7 aw_int rfl h1 (by omega) (by first | decide | omega) (by omega) (by omega) (pg_lr (by omega) pg_l0) (pg_sr (by omega) pg_s0) ?_
  refine pg_putR dX0_init_9 (by decide) h0 (by omega) (by omega) (by decide) fl_RX0_9 rfl rfl rfl r0 ?_
  refine pg_aload_n dX0_init_12 rfl ?_
  refine pg_bipush (x := 64) dX0_init_13 rfl ?_
  refine pg_newI (N := 64) (by omega) dX0_init_15 aw_int rfl h2 (by omega) (by first | decide | omega) (by omega) (by omega) (pg_lr (by omega) pg_l0) (pg_sr (by omega) pg_s0) ?_
  refine pg_putR dX0_init_17 (by decide) h0 (by omega) (by omega) (by decide) fl_RX0_15 rfl rfl rfl r1 ?_
  refine pg_vret (st := []) dX0_init_20 ?_ (by omega) rfl (by omega) (by omega)
  exact fr1_s (fr1_s (fr1_rf _ _ _) (by omega) (by omega)) (by omega) (by omega)

def fo_rl (rl : List (Nat × Nat)) : List (Nat × Nat) := (28, 3) :: (28, 2) :: (28, 1) :: (28, 0) :: rl
set_option maxRecDepth 8000 in
theorem g_X1_init (rl : List (Nat × Nat)) (w : pm_W) : pg_C MX1_init 4 81 [.ref 28] 29 rl w 33 (fo_rl rl) (fun w1 => fr1 w w1 28 33) := by
  refine pg_start (lv := [some (.ref _)]) (plainFor_of_name pf1) rfl rfl (Nat.le_of_ble_eq_true rfl) rfl ?_
  refine pg_aload_n dX1_init_0 rfl ?_
  refine pg_objInit dX1_init_1 oi_RX1 oi_i oi_c (by decide) (Nat.le_of_ble_eq_true rfl) ?_
  refine pg_aload_n dX1_init_4 rfl ?_
  refine pg_bipush (x := 7) dX1_init_5 rfl ?_
  refine pg_newI (N := 7) (by omega) dX1_init_7 aw_int rfl rfl (by omega) (by first | decide | omega) (by omega) (by omega) (pg_lr (by omega) pg_l0) (pg_sr (by omega) pg_s0) ?_
  refine pg_putR dX1_init_9 (by decide) rfl (by omega) (by omega) (by decide) fl_RX1_11 rfl rfl rfl rfl ?_
  refine pg_aload_n dX1_init_12 rfl ?_
  refine pg_bipush (x := 24) dX1_init_13 rfl ?_
  refine pg_newI (N := 24) (by omega) dX1_init_15 aw_int rfl rfl (by omega) (by first | decide | omega) (by omega) (by omega) (pg_lr (by omega) pg_l0) (pg_sr (by omega) pg_s0) ?_
  refine pg_putR dX1_init_17 (by decide) rfl (by omega) (by omega) (by decide) fl_RX1_15 rfl rfl rfl rfl ?_
  refine pg_aload_n dX1_init_20 rfl ?_
  refine pg_bipush (x := 25) dX1_init_21 rfl ?_
  refine pg_newL (N := 25) (by omega) dX1_init_23 aw_long rfl rfl (by omega) (by first | decide | omega) (by omega) (by omega) (pg_lr (by omega) pg_l0) (pg_sr (by omega) pg_s0) ?_
  refine pg_putR dX1_init_25 (by decide) rfl (by omega) (by omega) (by decide) fl_RX1_18 rfl rfl rfl rfl ?_
  refine pg_aload_n dX1_init_28 rfl ?_
  refine pg_bipush (x := 25) dX1_init_29 rfl ?_
  refine pg_newL (N := 25) (by omega) dX1_init_31 aw_long rfl rfl (by omega) (by first | decide | omega) (by omega) (by omega) (pg_lr (by omega) pg_l0) (pg_sr (by omega) pg_s0) ?_
  refine pg_putR dX1_init_33 (by decide) rfl (by omega) (by omega) (by decide) fl_RX1_22 rfl rfl rfl rfl ?_
  refine pg_vret (st := []) dX1_init_36 ?_ (by omega) rfl (by omega) (by omega)
  exact fr1_L (fr1_L (fr1_s (fr1_s (fr1_rf _ _ _) (by omega) (by omega)) (by omega) (by omega)))

