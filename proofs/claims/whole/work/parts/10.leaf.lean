theorem pm_enterF {L : pm_L} {M : pm_M} {as : List Value} {lv : List (Option Value)} {w : pm_W} {Q : Option Value → pm_W → Prop} (hy : plainFor M.1 = true) (hn : (pm_ent as).length ≤ M.2.2.1) (hlv : ∀ (i : Nat) (v : Value), lv[i]? = some (some v) → (pm_ent as)[i]? = some (some v)) (h : pm_R L M 0 lv [] w Q) : pm_C L M as w Q := by
  intro l D G ho
  refine va_MetF (cc := M.2.1) (maxL := M.2.2.1) (ret := M.2.2.2.1) hy rfl ?_
  intro p e s m args below meth c s₁ B hml hv
  obtain ⟨rfl, hP, hK⟩ := hv
  have hl := lv_entry (as.map (pm_v G)) (n := M.2.2.1) (by rw [pm_sl_len]; exact hn)
  rw [lg_entry_eq]
  refine h p l e s m _ below meth c D G ⟨B.exec, B.bytes, hml, findClass_of_methodNamed B.named, B.returns, B.notSynchronized, atoms_spec (ws := pm_ws M) B.pre, ho, hK⟩ s.heap [] _ hP va_S.rf ⟨hl.1, hl.2.1, fun q hq => ?_⟩
  obtain ⟨a, u⟩ := q
  obtain ⟨v, h1, rfl⟩ := pm_lv_mem.mp hq
  have := pm_ent_at (G := G) as 0 a v (hlv a v h1)
  rw [Nat.zero_add] at this
  exact hl.2.2 _ this
theorem pm_start {L : pm_L} {M : pm_M} {as : List Value} {lv : List (Option Value)} {w : pm_W} {Q : Option Value → pm_W → Prop} (hy : plainFor M.1 = true) (hn : (pm_ent as).length ≤ M.2.2.1) (hlv : pm_ent as ++ List.replicate (M.2.2.1 - (pm_ent as).length) none = lv) (h : pm_R L M 0 lv [] w Q) : pm_C L M as w Q := by
  refine pm_enterF hy hn (fun i v hi => ?_) h
  rw [← hlv] at hi
  by_cases hl : i < (pm_ent as).length
  · rw [List.getElem?_append_left hl] at hi
    exact hi
  · rw [List.getElem?_append_right (by omega)] at hi
    have := List.eq_of_mem_replicate (List.mem_of_getElem? hi)
    cases this
/-- a truth as an int -/
def pm_z (b : Bool) : Int32 := if b then 1 else 0
theorem pm_z_0 {b : Bool} : pm_z b = 0 ↔ b = false := by cases b <;> decide
theorem pm_z_1 {b : Bool} : ¬ pm_z b = 0 ↔ b = true := by cases b <;> decide
theorem pm_z_or (b : Bool) : pm_z b = 0 ∨ pm_z b = 1 := by cases b <;> decide
theorem pm_z_t : pm_z true = 1 := rfl
theorem pm_z_f : pm_z false = 0 := rfl
def pm_bw (n a b : Int32) : Bool := decide (a ≤ n) && decide (n ≤ b)
theorem pm_bw_t {n a b : Int32} : pm_bw n a b = true ↔ a ≤ n ∧ n ≤ b := by simp [pm_bw]
theorem pm_bw_f {n a b : Int32} : pm_bw n a b = false ↔ n < a ∨ b < n := by
  rw [← Bool.not_eq_true, pm_bw_t]
  simp only [Int32.le_iff_toInt_le, Int32.lt_iff_toInt_lt]
  omega

theorem up_loop {P : Nat → Prop} (N : Nat) (h : ∀ i, i ≤ N → (i < N → P (i + 1)) → P i) : ∀ i, i ≤ N → P i := by
  have key : ∀ m i, i + m = N → P i := by
    intro m
    induction m with
    | zero => intro i hi; exact h i (by omega) (fun h2 => absurd h2 (by omega))
    | succ m ih => intro i hi; exact h i (by omega) (fun _ => ih (i + 1) (by omega))
  exact fun i hi => key (N - i) i (by omega)
theorem pm_nn_xor {a : Nat} (ha : a < 2 ^ 31) : 0 ≤ nI a ^^^ nI 24 := by
  have e : nI a ^^^ nI 24 = nI (a ^^^ 24) := by
    apply Int32.toBitVec_inj.mp
    show BitVec.ofNat 32 a ^^^ BitVec.ofNat 32 24 = BitVec.ofNat 32 (a ^^^ 24)
    apply BitVec.eq_of_toNat_eq
    simp only [BitVec.toNat_xor, BitVec.toNat_ofNat]
    exact (Nat.xor_mod_two_pow).symm
  rw [e]
  exact nI_pos' (Nat.xor_lt_two_pow ha (by decide))
theorem pf0 : plainName RX0 = true := by decide +kernel
theorem pf1 : plainName RX1 = true := by decide +kernel
theorem pf2 : plainName RX2 = true := by decide +kernel
theorem pf3 : plainName RX3 = true := by decide +kernel
theorem pf4 : plainName RX4 = true := by decide +kernel
theorem pf5 : plainName RX5 = true := by decide +kernel
theorem pf7 : plainName RJ7 = true := by decide +kernel

set_option maxRecDepth 4000 in
theorem c_X4_within (L : pm_L) (w : pm_W) (n a b : Int32) : pm_C L MX4_within [.int n, .int a, .int b] w (pm_qi fun r w1 => r = pm_z (pm_bw n a b) ∧ w1 = w) := by
  refine pm_start (lv := [some (.int _), some (.int _), some (.int _)]) (plainFor_of_name pf4) (Nat.le_of_ble_eq_true rfl) rfl ?_
  refine pm_iload_n dX4_within_0 rfl ?_
  refine pm_iload_n dX4_within_1 rfl ?_
  refine pm_icmp_gt (tgt := 14) dX4_within_2 (by decide) (fun c2 => ?_) (fun c2 => ?_)
  · refine pm_iconst (x := 0) dX4_within_14 rfl ?_
    refine pm_zret dX4_within_15 rfl (by first | exact Or.inl rfl | exact Or.inr rfl | assumption) ?_
    exact ⟨by first | (rw [pm_bw_t.mpr ⟨by first | assumption | exact Int32.not_lt.mp ‹_›, by first | assumption | exact Int32.not_lt.mp ‹_›⟩]; rfl) | (rw [pm_bw_f.mpr (by first | exact Or.inl ‹_› | exact Or.inr ‹_›)]; rfl), rfl⟩
  · refine pm_iload_n dX4_within_5 rfl ?_
    refine pm_iload_n dX4_within_6 rfl ?_
    refine pm_icmp_gt (tgt := 14) dX4_within_7 (by decide) (fun c7 => ?_) (fun c7 => ?_)
    · refine pm_iconst (x := 0) dX4_within_14 rfl ?_
      refine pm_zret dX4_within_15 rfl (by first | exact Or.inl rfl | exact Or.inr rfl | assumption) ?_
      exact ⟨by first | (rw [pm_bw_t.mpr ⟨by first | assumption | exact Int32.not_lt.mp ‹_›, by first | assumption | exact Int32.not_lt.mp ‹_›⟩]; rfl) | (rw [pm_bw_f.mpr (by first | exact Or.inl ‹_› | exact Or.inr ‹_›)]; rfl), rfl⟩
    · refine pm_iconst (x := 1) dX4_within_10 rfl ?_
      refine pm_goto (tgt := 15) dX4_within_11 (by decide) ?_
      refine pm_zret dX4_within_15 rfl (by first | exact Or.inl rfl | exact Or.inr rfl | assumption) ?_
      exact ⟨by first | (rw [pm_bw_t.mpr ⟨by first | assumption | exact Int32.not_lt.mp ‹_›, by first | assumption | exact Int32.not_lt.mp ‹_›⟩]; rfl) | (rw [pm_bw_f.mpr (by first | exact Or.inl ‹_› | exact Or.inr ‹_›)]; rfl), rfl⟩

set_option maxRecDepth 4000 in
theorem c_X4_isAsker (L : pm_L) (w : pm_W) (p : Int32) : pm_C L MX4_isAsker [.int p] w (pm_qi fun r w1 => r = pm_z (pm_bw p 0 3) ∧ w1 = w) := by
  refine pm_start (lv := [some (.int _)]) (plainFor_of_name pf4) (Nat.le_of_ble_eq_true rfl) rfl ?_
  refine pm_iload_n dX4_isAsker_0 rfl ?_
  refine pm_iconst (x := 0) dX4_isAsker_1 rfl ?_
  refine pm_iconst (x := 3) dX4_isAsker_2 rfl ?_
  refine pm_cSi (as := [.int _, .int _, .int _]) ml_RX4_31 (by decide) (by decide) dX4_isAsker_3 (c_X4_within L _ _ _ _) (fun x1 w1 hq => ?_)
  obtain ⟨rfl, rfl⟩ := hq
  refine pm_zret dX4_isAsker_6 rfl (by exact pm_z_or _) ?_
  exact ⟨rfl, rfl⟩

set_option maxRecDepth 4000 in
theorem c_X4_isBlock (L : pm_L) (w : pm_W) (p : Int32) : pm_C L MX4_isBlock [.int p] w (pm_qi fun r w1 => r = pm_z (pm_bw p 0 63) ∧ w1 = w) := by
  refine pm_start (lv := [some (.int _)]) (plainFor_of_name pf4) (Nat.le_of_ble_eq_true rfl) rfl ?_
  refine pm_iload_n dX4_isBlock_0 rfl ?_
  refine pm_iconst (x := 0) dX4_isBlock_1 rfl ?_
  refine pm_bipush (x := 63) dX4_isBlock_2 rfl ?_
  refine pm_cSi (as := [.int _, .int _, .int _]) ml_RX4_31 (by decide) (by decide) dX4_isBlock_4 (c_X4_within L _ _ _ _) (fun x1 w1 hq => ?_)
  obtain ⟨rfl, rfl⟩ := hq
  refine pm_zret dX4_isBlock_7 rfl (by exact pm_z_or _) ?_
  exact ⟨rfl, rfl⟩

set_option maxRecDepth 4000 in
theorem c_X4_isShelf (L : pm_L) (w : pm_W) (p : Int32) : pm_C L MX4_isShelf [.int p] w (pm_qi fun r w1 => r = pm_z (pm_bw p 0 1) ∧ w1 = w) := by
  refine pm_start (lv := [some (.int _)]) (plainFor_of_name pf4) (Nat.le_of_ble_eq_true rfl) rfl ?_
  refine pm_iload_n dX4_isShelf_0 rfl ?_
  refine pm_iconst (x := 0) dX4_isShelf_1 rfl ?_
  refine pm_iconst (x := 1) dX4_isShelf_2 rfl ?_
  refine pm_cSi (as := [.int _, .int _, .int _]) ml_RX4_31 (by decide) (by decide) dX4_isShelf_3 (c_X4_within L _ _ _ _) (fun x1 w1 hq => ?_)
  obtain ⟨rfl, rfl⟩ := hq
  refine pm_zret dX4_isShelf_6 rfl (by exact pm_z_or _) ?_
  exact ⟨rfl, rfl⟩

theorem i2l_le {x y : Int32} : x.toInt64 ≤ y.toInt64 ↔ x ≤ y := by simp [Int64.le_iff_toInt_le, Int32.le_iff_toInt_le]
theorem i2l_lt {x y : Int32} : x.toInt64 < y.toInt64 ↔ x < y := by simp [Int64.lt_iff_toInt_lt, Int32.lt_iff_toInt_lt]

set_option maxRecDepth 4000 in
theorem c_X5_in (L : pm_L) (w : pm_W) {V A B : Int64} {n a b : Int32} (hV : V = n.toInt64) (hA : A = a.toInt64) (hB : B = b.toInt64) : pm_C L MX5_in [.long V, .long A, .long B] w (pm_qi fun r w1 => r = pm_z (pm_bw n a b) ∧ w1 = w) := by
  subst hV hA hB
  refine pm_start (lv := [some (.long _), none, some (.long _), none, some (.long _), none]) (plainFor_of_name pf5) (Nat.le_of_ble_eq_true rfl) rfl ?_
  refine pm_lload_n dX5_in_0 rfl ?_
  refine pm_lload_n dX5_in_1 rfl ?_
  refine pm_lcmp dX5_in_2 ?_
  refine pm_if_lt (tgt := 17) dX5_in_3 (by decide) (fun c3 => ?_) (fun c3 => ?_)
  · refine pm_iconst (x := 0) dX5_in_17 rfl ?_
    refine pm_zret dX5_in_18 rfl (by first | exact Or.inl rfl | exact Or.inr rfl | assumption) ?_
    rw [lg_cmp_lt, i2l_lt] at c3
    exact ⟨by rw [pm_bw_f.mpr (Or.inl c3)]; rfl, rfl⟩
  · refine pm_lload_n dX5_in_6 rfl ?_
    refine pm_lload dX5_in_7 rfl ?_
    refine pm_lcmp dX5_in_9 ?_
    refine pm_if_gt (tgt := 17) dX5_in_10 (by decide) (fun c10 => ?_) (fun c10 => ?_)
    · refine pm_iconst (x := 0) dX5_in_17 rfl ?_
      refine pm_zret dX5_in_18 rfl (by first | exact Or.inl rfl | exact Or.inr rfl | assumption) ?_
      rw [lg_cmp_gt, i2l_lt] at c10
      exact ⟨by rw [pm_bw_f.mpr (Or.inr c10)]; rfl, rfl⟩
    · refine pm_iconst (x := 1) dX5_in_13 rfl ?_
      refine pm_goto (tgt := 18) dX5_in_14 (by decide) ?_
      refine pm_zret dX5_in_18 rfl (by first | exact Or.inl rfl | exact Or.inr rfl | assumption) ?_
      rw [lg_cmp_lt, i2l_lt] at c3
      rw [lg_cmp_gt, i2l_lt] at c10
      exact ⟨by rw [pm_bw_t.mpr ⟨Int32.not_lt.mp c3, Int32.not_lt.mp c10⟩]; rfl, rfl⟩

set_option maxRecDepth 4000 in
theorem c_X5_isAsker (L : pm_L) (w : pm_W) (p : Int32) : pm_C L MX5_isAsker [.int p] w (pm_qi fun r w1 => r = pm_z (pm_bw p 0 3) ∧ w1 = w) := by
  refine pm_start (lv := [some (.int _)]) (plainFor_of_name pf5) (Nat.le_of_ble_eq_true rfl) rfl ?_
  refine pm_iload_n dX5_isAsker_0 rfl ?_
  refine pm_i2l dX5_isAsker_1 ?_
  refine pm_lconst (x := 0) dX5_isAsker_2 rfl ?_
  refine pm_ldc2 kc_RX5_94 dX5_isAsker_3 ?_
  refine pm_cSi (as := [.long _, .long _, .long _]) ml_RX5_96 (by decide) (by decide) dX5_isAsker_6 (c_X5_in (n := p) (a := 0) (b := 3) L _ rfl (by decide) (by decide)) (fun x1 w1 hq => ?_)
  obtain ⟨rfl, rfl⟩ := hq
  refine pm_zret dX5_isAsker_9 rfl (by exact pm_z_or _) ?_
  exact ⟨rfl, rfl⟩

set_option maxRecDepth 4000 in
theorem c_X5_isBlock (L : pm_L) (w : pm_W) (p : Int32) : pm_C L MX5_isBlock [.int p] w (pm_qi fun r w1 => r = pm_z (pm_bw p 0 63) ∧ w1 = w) := by
  refine pm_start (lv := [some (.int _)]) (plainFor_of_name pf5) (Nat.le_of_ble_eq_true rfl) rfl ?_
  refine pm_iload_n dX5_isBlock_0 rfl ?_
  refine pm_i2l dX5_isBlock_1 ?_
  refine pm_lconst (x := 0) dX5_isBlock_2 rfl ?_
  refine pm_ldc2 kc_RX5_100 dX5_isBlock_3 ?_
  refine pm_cSi (as := [.long _, .long _, .long _]) ml_RX5_96 (by decide) (by decide) dX5_isBlock_6 (c_X5_in (n := p) (a := 0) (b := 63) L _ rfl (by decide) (by decide)) (fun x1 w1 hq => ?_)
  obtain ⟨rfl, rfl⟩ := hq
  refine pm_zret dX5_isBlock_9 rfl (by exact pm_z_or _) ?_
  exact ⟨rfl, rfl⟩

def ab_abs (x : Int32) : Int32 := if 0 ≤ x then x else -x
def ab_min (x y : Int32) : Int32 := if y < x then y else x
set_option maxRecDepth 4000 in
theorem c_J9_abs_0f7a4 (L : pm_L) (w : pm_W) (x : Int32) : pm_C L MJ9_abs_0f7a4 [.int x] w (pm_qi fun r w1 => r = ab_abs x ∧ w1 = w) := by
  refine pm_start (lv := [some (.int _)]) (by decide +kernel) (Nat.le_of_ble_eq_true rfl) rfl ?_
  refine pm_iload_n dJ9_abs_0f7a4_0 rfl ?_
  refine pm_if_ge (tgt := 9) dJ9_abs_0f7a4_1 (by decide) (fun c1 => ?_) (fun c1 => ?_)
  · refine pm_iload_n dJ9_abs_0f7a4_9 rfl ?_
    refine pm_iret dJ9_abs_0f7a4_10 rfl ?_
    exact ⟨(if_pos c1).symm, rfl⟩
  · refine pm_iload_n dJ9_abs_0f7a4_4 rfl ?_
    refine pm_ineg dJ9_abs_0f7a4_5 ?_
    refine pm_goto (tgt := 10) dJ9_abs_0f7a4_6 (by decide) ?_
    refine pm_iret dJ9_abs_0f7a4_10 rfl ?_
    exact ⟨(if_neg c1).symm, rfl⟩

set_option maxRecDepth 4000 in
theorem c_J9_min_7cf53 (L : pm_L) (w : pm_W) (x y : Int32) : pm_C L MJ9_min_7cf53 [.int x, .int y] w (pm_qi fun r w1 => r = ab_min x y ∧ w1 = w) := by
  refine pm_start (lv := [some (.int _), some (.int _)]) (by decide +kernel) (Nat.le_of_ble_eq_true rfl) rfl ?_
  refine pm_iload_n dJ9_min_7cf53_0 rfl ?_
  refine pm_iload_n dJ9_min_7cf53_1 rfl ?_
  refine pm_icmp_gt (tgt := 9) dJ9_min_7cf53_2 (by decide) (fun c2 => ?_) (fun c2 => ?_)
  · refine pm_iload_n dJ9_min_7cf53_9 rfl ?_
    refine pm_iret dJ9_min_7cf53_10 rfl ?_
    exact ⟨(if_pos c2).symm, rfl⟩
  · refine pm_iload_n dJ9_min_7cf53_5 rfl ?_
    refine pm_goto (tgt := 10) dJ9_min_7cf53_6 (by decide) ?_
    refine pm_iret dJ9_min_7cf53_10 rfl ?_
    exact ⟨(if_neg c2).symm, rfl⟩

set_option maxRecDepth 4000 in
theorem c_J9_floorMod_7cf53 (L : pm_L) (w : pm_W) {a : Nat} (ha : a < 2 ^ 31) : pm_C L MJ9_floorMod_7cf53 [.int (nI a), .int (nI 24)] w (pm_qi fun r w1 => r = nI (a % 24) ∧ w1 = w) := by
  have e9 : nI a - nI a / nI 24 * nI 24 = nI (a % 24) := pk_rem ha (by decide) (by decide)
  refine pm_start (lv := [some (.int _), some (.int _), none]) (by decide +kernel) (Nat.le_of_ble_eq_true rfl) rfl ?_
  refine pm_iload_n dJ9_floorMod_7cf53_0 rfl ?_
  refine pm_iload_n dJ9_floorMod_7cf53_1 rfl ?_
  refine pm_irem dJ9_floorMod_7cf53_2 (by decide) ?_
  rw [e9]
  refine pm_istore_n (lv' := [some (.int _), some (.int _), some (.int _)]) dJ9_floorMod_7cf53_3 (by decide) rfl ?_
  refine pm_iload_n dJ9_floorMod_7cf53_4 rfl ?_
  refine pm_iload_n dJ9_floorMod_7cf53_5 rfl ?_
  refine pm_ixor dJ9_floorMod_7cf53_6 ?_
  refine pm_if_ge (tgt := 18) dJ9_floorMod_7cf53_7 (by decide) (fun c7 => ?_) (fun c7 => absurd (pm_nn_xor ha) c7)
  refine pm_iload_n dJ9_floorMod_7cf53_18 rfl ?_
  refine pm_iret dJ9_floorMod_7cf53_19 rfl ?_
  exact ⟨rfl, rfl⟩

set_option maxRecDepth 4000 in
theorem c_X3_placeInRow (L : pm_L) (w : pm_W) {a : Nat} (ha : a < 2 ^ 31) : pm_C L MX3_placeInRow [.int (nI a)] w (pm_qi fun r w1 => r = nI (a % 24) ∧ w1 = w) := by
  refine pm_start (lv := [some (.int _)]) (plainFor_of_name pf3) (Nat.le_of_ble_eq_true rfl) rfl ?_
  refine pm_iload_n dX3_placeInRow_0 rfl ?_
  refine pm_bipush (x := nI 24) dX3_placeInRow_1 rfl ?_
  refine pm_cSi (as := [.int _, .int _]) ml_RX3_201 (by decide) (by decide) dX3_placeInRow_3 (c_J9_floorMod_7cf53 L _ ha) (fun x1 w1 hq => ?_)
  obtain ⟨rfl, rfl⟩ := hq
  refine pm_iret dX3_placeInRow_6 rfl ?_
  exact ⟨rfl, rfl⟩

set_option maxRecDepth 4000 in
theorem c_X4_mixed (L : pm_L) (w : pm_W) (d x : Int32) : pm_C L MX4_mixed [.int d, .int x] w (pm_qi fun r w1 => r = 31 * d + x ∧ w1 = w) := by
  refine pm_start (lv := [some (.int _), some (.int _)]) (plainFor_of_name pf4) (Nat.le_of_ble_eq_true rfl) rfl ?_
  refine pm_bipush (x := 31) dX4_mixed_0 rfl ?_
  refine pm_iload_n dX4_mixed_2 rfl ?_
  refine pm_imul dX4_mixed_3 ?_
  refine pm_iload_n dX4_mixed_4 rfl ?_
  refine pm_iadd dX4_mixed_5 ?_
  refine pm_iret dX4_mixed_6 rfl ?_
  exact ⟨rfl, rfl⟩

set_option maxRecDepth 4000 in
theorem c_X5_digested (L : pm_L) (w : pm_W) (k : Nat) (d x : Int32) : pm_C L MX5_digested [.ref k, .int d, .int x] w (pm_qi fun r w1 => r = 31 * d + x ∧ w1 = w) := by
  refine pm_start (lv := [some (.ref _), some (.int _), some (.int _)]) (plainFor_of_name pf5) (Nat.le_of_ble_eq_true rfl) rfl ?_
  refine pm_bipush (x := 31) dX5_digested_0 rfl ?_
  refine pm_iload_n dX5_digested_2 rfl ?_
  refine pm_imul dX5_digested_3 ?_
  refine pm_iload_n dX5_digested_4 rfl ?_
  refine pm_iadd dX5_digested_5 ?_
  refine pm_iret dX5_digested_6 rfl ?_
  exact ⟨rfl, rfl⟩

def fl {α : Type} (x : α) (n : Nat) (f : Nat → α) : Nat → α := fun j => if j < n then x else f j
theorem fl_0 {α : Type} (x : α) (f : Nat → α) : fl x 0 f = f := by funext j; simp [fl]
theorem fl_succ (x : Int32) (i : Nat) (f : Nat → Int32) : upd (fl x i f) i x = fl x (i + 1) f := by
  funext j
  unfold upd fl
  by_cases h : j = i
  · subst h; simp
  · simp only [h, if_false]
    by_cases h2 : j < i
    · rw [if_pos h2, if_pos (by omega)]
    · rw [if_neg h2, if_neg (by omega)]
theorem fl_succL (x : Int64) (i : Nat) (f : Nat → Int64) : vp_updL (fl x i f) i x = fl x (i + 1) f := by
  funext j
  unfold vp_updL fl
  by_cases h : j = i
  · subst h; simp
  · simp only [h, if_false]
    by_cases h2 : j < i
    · rw [if_pos h2, if_pos (by omega)]
    · rw [if_neg h2, if_neg (by omega)]
theorem pm_s_s (w : pm_W) (k : Nat) (f g : Nat → Int32) : pm_s (pm_s w k f) k g = pm_s w k g := by
  unfold pm_s
  ext a b
  · simp only; split <;> rfl
  · rfl
theorem pm_s_id (w : pm_W) (k : Nat) : w = pm_s w k (w.1 k) := by
  unfold pm_s
  ext a b
  · simp only; split
    next h => rw [h]
    next => rfl
  · rfl
theorem pm_sL_sL (w : pm_W) (k : Nat) (f g : Nat → Int64) : pm_sL (pm_sL w k f) k g = pm_sL w k g := by
  unfold pm_sL
  ext a b
  · rfl
  · simp only; split <;> rfl
theorem pm_sL_id (w : pm_W) (k : Nat) : w = pm_sL w k (w.2 k) := by
  unfold pm_sL
  ext a b
  · rfl
  · simp only; split
    next h => rw [h]
    next => rfl
theorem c_J7_fill_53178 {L : pm_L} {k n : Nat} (hk : L.1 k = (10, n)) (hn : n < 2 ^ 31) (w : pm_W) (x : Int32) : pm_C L MJ7_fill_53178 [.ref k, .int x] w (pm_qv fun w1 => w1 = pm_s w k (fl x n (w.1 k))) := by
  have loop : ∀ i, i ≤ n → ∀ w1, w1 = pm_s w k (fl x i (w.1 k)) → pm_R L MJ7_fill_53178 5 [some (.ref k), some (.int x), some (.int (nI i)), some (.int (nI n))] [] w1 (pm_qv fun w1 => w1 = pm_s w k (fl x n (w.1 k))) := by
    refine up_loop n (fun i hi ih w1 hw => ?_)
    refine pm_iload_n dJ7_fill_53178_5 rfl ?_
    refine pm_iload_n dJ7_fill_53178_6 rfl ?_
    refine pm_icmp_ge (tgt := 20) dJ7_fill_53178_7 (by decide) (fun c7 => ?_) (fun c7 => ?_)
    · refine pm_vret dJ7_fill_53178_20 rfl ?_
      rw [nI_leI (by omega) (by omega)] at c7
      have : i = n := by omega
      subst this
      exact hw
    · have hlt : i < n := by
        rw [nI_leI (by omega) (by omega)] at c7
        omega
      refine pm_aload_n dJ7_fill_53178_10 rfl ?_
      refine pm_iload_n dJ7_fill_53178_11 rfl ?_
      refine pm_iload_n dJ7_fill_53178_12 rfl ?_
      refine pm_iastN (by first | assumption | rfl) (by omega) (by first | decide | omega) dJ7_fill_53178_13 ?_
      refine pm_iinc (y := _ + 1) (lv' := [some (.ref _), some (.int _), some (.int _), some (.int _)]) dJ7_fill_53178_14 rfl rfl (by decide) rfl ?_
      refine pm_goto (tgt := 5) dJ7_fill_53178_17 (by decide) ?_
      rw [nI_1]
      refine ih hlt _ ?_
      subst hw
      rw [pm_s_at, pm_s_s, fl_succ]
  refine pm_start (lv := [some (.ref _), some (.int _), none, none]) (plainFor_of_name pf7) (Nat.le_of_ble_eq_true rfl) rfl ?_
  refine pm_iconst (x := 0) dJ7_fill_53178_0 rfl ?_
  refine pm_istore_n (lv' := [some (.ref _), some (.int _), some (.int _), none]) dJ7_fill_53178_1 (by decide) rfl ?_
  refine pm_aload_n dJ7_fill_53178_2 rfl ?_
  refine pm_alenI (by first | assumption | rfl) dJ7_fill_53178_3 ?_
  refine pm_istore_n (lv' := [some (.ref _), some (.int _), some (.int _), some (.int _)]) dJ7_fill_53178_4 (by decide) rfl ?_
  exact loop 0 (Nat.zero_le _) w (by rw [fl_0]; exact pm_s_id w k)

theorem c_J7_fill_d0a16 {L : pm_L} {k n : Nat} (hk : L.1 k = (12, n)) (hn : n < 2 ^ 31) (w : pm_W) (x : Int64) : pm_C L MJ7_fill_d0a16 [.ref k, .long x] w (pm_qv fun w1 => w1 = pm_sL w k (fl x n (w.2 k))) := by
  have loop : ∀ i, i ≤ n → ∀ w1, w1 = pm_sL w k (fl x i (w.2 k)) → pm_R L MJ7_fill_d0a16 6 [some (.ref k), some (.long x), none, some (.int (nI i)), some (.int (nI n))] [] w1 (pm_qv fun w1 => w1 = pm_sL w k (fl x n (w.2 k))) := by
    refine up_loop n (fun i hi ih w1 hw => ?_)
    refine pm_iload_n dJ7_fill_d0a16_6 rfl ?_
    refine pm_iload dJ7_fill_d0a16_7 rfl ?_
    refine pm_icmp_ge (tgt := 22) dJ7_fill_d0a16_9 (by decide) (fun c9 => ?_) (fun c9 => ?_)
    · refine pm_vret dJ7_fill_d0a16_22 rfl ?_
      rw [nI_leI (by omega) (by omega)] at c9
      have : i = n := by omega
      subst this
      exact hw
    · have hlt : i < n := by
        rw [nI_leI (by omega) (by omega)] at c9
        omega
      refine pm_aload_n dJ7_fill_d0a16_12 rfl ?_
      refine pm_iload_n dJ7_fill_d0a16_13 rfl ?_
      refine pm_lload_n dJ7_fill_d0a16_14 rfl ?_
      refine pm_lastN (by first | assumption | rfl) (by omega) (by first | decide | omega) dJ7_fill_d0a16_15 ?_
      refine pm_iinc (y := _ + 1) (lv' := [some (.ref _), some (.long _), none, some (.int _), some (.int _)]) dJ7_fill_d0a16_16 rfl rfl (by decide) rfl ?_
      refine pm_goto (tgt := 6) dJ7_fill_d0a16_19 (by decide) ?_
      rw [nI_1]
      refine ih hlt _ ?_
      subst hw
      rw [pm_sL_at, pm_sL_sL, fl_succL]
  refine pm_start (lv := [some (.ref _), some (.long _), none, none, none]) (plainFor_of_name pf7) (Nat.le_of_ble_eq_true rfl) rfl ?_
  refine pm_iconst (x := 0) dJ7_fill_d0a16_0 rfl ?_
  refine pm_istore_n (lv' := [some (.ref _), some (.long _), none, some (.int _), none]) dJ7_fill_d0a16_1 (by decide) rfl ?_
  refine pm_aload_n dJ7_fill_d0a16_2 rfl ?_
  refine pm_alenL (by first | assumption | rfl) dJ7_fill_d0a16_3 ?_
  refine pm_istore (lv' := [some (.ref _), some (.long _), none, some (.int _), some (.int _)]) dJ7_fill_d0a16_4 (by decide) rfl ?_
  exact loop 0 (Nat.zero_le _) w (by rw [fl_0]; exact pm_sL_id w k)

