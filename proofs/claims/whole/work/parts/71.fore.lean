def lb (x : Int64) (r : Nat) : Bool := x.toBitVec.getLsbD r
theorem lb_and (x y : Int64) (r : Nat) : lb (x &&& y) r = (lb x r && lb y r) := by simp [lb]
theorem lb_or (x y : Int64) (r : Nat) : lb (x ||| y) r = (lb x r || lb y r) := by simp [lb]
theorem lb_not (x : Int64) (r : Nat) : lb (x ^^^ (-1)) r = (decide (r < 64) && !lb x r) := by
  have : (-1 : Int64).toBitVec = BitVec.allOnes 64 := by decide
  simp only [lb, Int64.toBitVec_xor, BitVec.getLsbD_xor, this, BitVec.getLsbD_allOnes]
  by_cases h : r < 64
  · simp [h]
  · simp [h, BitVec.getLsbD_of_ge x.toBitVec r (by omega)]
theorem lb_0 (r : Nat) : lb 0 r = false := by simp [lb]
theorem lb_m1 (r : Nat) : lb (-1) r = decide (r < 64) := by
  have : (-1 : Int64).toBitVec = BitVec.allOnes 64 := by decide
  rw [lb, this, BitVec.getLsbD_allOnes]
theorem lb_1 (r : Nat) : lb 1 r = decide (r = 0) := by
  have : (1 : Int64).toBitVec = 1#64 := by decide
  rw [lb, this, BitVec.getLsbD_one]; simp
theorem lb_ge {x : Int64} {r : Nat} (h : 64 ≤ r) : lb x r = false := BitVec.getLsbD_of_ge _ _ h
theorem lb_ext0 {x : Int64} : x = 0 ↔ ∀ r, r < 64 → lb x r = false := by
  constructor
  · rintro rfl r _; exact lb_0 r
  · intro h
    apply Int64.toBitVec_inj.mp
    apply BitVec.eq_of_getLsbD_eq
    intro r hr
    have := h r hr
    rw [lb] at this
    rw [this]; simp
theorem fo_amt : ∀ k, k < 6 → (1 : Int32) <<< (nI k &&& 31) = nI (2 ^ k) := by decide
theorem lb_shr : ∀ k, k < 6 → ∀ x r, lb (x.toUInt64 >>> ((nI (2 ^ k)).toInt64.toUInt64 &&& Int64.toUInt64 63)).toInt64 r = lb x (r + 2 ^ k) := by
  intro k hk x r
  have h : ∀ k, k < 6 → ((nI (2 ^ k)).toInt64.toUInt64 &&& Int64.toUInt64 63).toBitVec % 64#64 = BitVec.ofNat 64 (2 ^ k) := by decide
  have h2 : 2 ^ k < 2 ^ 64 := Nat.pow_lt_pow_right (by decide) (by omega)
  simp only [lb]
  show (x.toBitVec >>> (((nI (2 ^ k)).toInt64.toUInt64 &&& Int64.toUInt64 63).toBitVec % 64#64)).getLsbD r = _
  rw [h k hk, BitVec.ushiftRight_eq', BitVec.getLsbD_ushiftRight, BitVec.toNat_ofNat, Nat.mod_eq_of_lt h2, Nat.add_comm]
theorem lb_shl : ∀ k, k < 6 → ∀ x r, lb (x <<< ((nI (2 ^ k)).toInt64 &&& 63)) r = (decide (r < 64) && (decide (2 ^ k ≤ r) && lb x (r - 2 ^ k))) := by
  intro k hk x r
  have h : ∀ k, k < 6 → ((nI (2 ^ k)).toInt64 &&& 63).toBitVec.smod 64 = BitVec.ofNat 64 (2 ^ k) := by decide
  have h2 : 2 ^ k < 2 ^ 64 := Nat.pow_lt_pow_right (by decide) (by omega)
  simp only [lb]
  show (x.toBitVec <<< (((nI (2 ^ k)).toInt64 &&& 63).toBitVec.smod 64)).getLsbD r = _
  rw [h k hk, BitVec.shiftLeft_eq', BitVec.getLsbD_shiftLeft, BitVec.toNat_ofNat, Nat.mod_eq_of_lt h2]
  by_cases h3 : r < 2 ^ k
  · simp [h3, Nat.not_le.mpr h3]
  · simp [h3, Nat.not_lt.mp h3]
def pm_hask (k : Nat) : Int64 := pm_has.getD k 0
theorem lb_has : ∀ k, k < 6 → ∀ r, r < 64 → lb (pm_hask k) r = r.testBit k := by decide +kernel
theorem lb_sized : ∀ k, k < 7 → ∀ r, r < 64 → lb (pm_sized.getD k 0) r = decide (fo_sz r = k) := by decide +kernel
/-- The room r is in the set of rooms that two longs spell. -/
def fo_m (lo hi : Int64) (r : Nat) : Bool := if r < 64 then lb lo r else lb hi (r - 64)
theorem fo_mge {lo hi : Int64} {r : Nat} (h : fo_m lo hi r = true) : r < 128 := by
  unfold fo_m at h
  by_cases h1 : r < 64
  · omega
  · rw [if_neg h1] at h
    by_cases h2 : r - 64 < 64
    · omega
    · rw [lb_ge (by omega)] at h; cases h
/-- what leaves full rooms, and the rooms open for one more -/
def fo_ol (lo hi fl fh : Int64) : Nat → Int64
  | 0 => (lo &&& (fl ^^^ (-1))) ||| (hi &&& fh)
  | k + 1 => fo_ol lo hi fl fh k ||| (((lo &&& fl) &&& pm_hask k).toUInt64 >>> ((nI (2 ^ k)).toInt64.toUInt64 &&& Int64.toUInt64 63)).toInt64
def fo_oh (hi fh : Int64) : Nat → Int64
  | 0 => hi &&& (fh ^^^ (-1))
  | k + 1 => fo_oh hi fh k ||| (((hi &&& fh) &&& pm_hask k).toUInt64 >>> ((nI (2 ^ k)).toInt64.toUInt64 &&& Int64.toUInt64 63)).toInt64
def fo_ad (x o : Int64) : Nat → Int64
  | 0 => x
  | k + 1 => fo_ad x o k ||| ((o &&& (pm_hask k ^^^ (-1))) <<< ((nI (2 ^ k)).toInt64 &&& 63))
theorem lb_off : ∀ k, k < 6 → ∀ r, r < 64 → r + 2 ^ k < 64 → (r + 2 ^ k).testBit k = !r.testBit k := by decide +kernel
theorem lb_of2 : ∀ k, k < 6 → ∀ r, r < 64 → 2 ^ k ≤ r → (r - 2 ^ k).testBit k = !r.testBit k := by decide +kernel
theorem lb_of3 : ∀ k, k < 6 → ∀ r, r < 64 → r.testBit k = false → r + 2 ^ k < 64 := by decide +kernel
theorem lb_of4 : ∀ k, k < 6 → ∀ r, r < 64 → r.testBit k = true → 2 ^ k ≤ r := by decide +kernel
theorem fo_ops {y : Int64} {k r : Nat} (hk : k < 6) (hr : r < 64) : lb ((y &&& pm_hask k).toUInt64 >>> ((nI (2 ^ k)).toInt64.toUInt64 &&& Int64.toUInt64 63)).toInt64 r = true ↔ r.testBit k = false ∧ lb y (r + 2 ^ k) = true := by
  rw [lb_shr k hk, lb_and]
  by_cases h : r + 2 ^ k < 64
  · rw [lb_has k hk _ h, lb_off k hk r hr h]
    cases r.testBit k <;> simp
  · have h1 : lb y (r + 2 ^ k) = false := lb_ge (by omega)
    simp [h1]
theorem fo_shs {o : Int64} {k r : Nat} (hk : k < 6) (hr : r < 64) : lb ((o &&& (pm_hask k ^^^ (-1))) <<< ((nI (2 ^ k)).toInt64 &&& 63)) r = true ↔ r.testBit k = true ∧ lb o (r - 2 ^ k) = true := by
  rw [lb_shl k hk, lb_and, lb_not]
  have hp := Nat.two_pow_pos k
  by_cases h : 2 ^ k ≤ r
  · rw [lb_has k hk _ (by omega), lb_of2 k hk r hr h]
    have h9 : r - 2 ^ k < 64 := by omega
    cases r.testBit k <;> simp [h, hr, h9]
  · have : r.testBit k = false := by
      cases h5 : r.testBit k
      · rfl
      · exact absurd (lb_of4 k hk r hr h5) h
    simp [h, this]
theorem fo_olk {lo hi fl fh : Int64} {r : Nat} (hr : r < 64) : ∀ n, n ≤ 6 → (lb (fo_ol lo hi fl fh n) r = true ↔ (lb lo r = true ∧ lb fl r = false) ∨ (lb hi r = true ∧ lb fh r = true) ∨ ∃ k, k < n ∧ r.testBit k = false ∧ lb lo (r + 2 ^ k) = true ∧ lb fl (r + 2 ^ k) = true)
  | 0, _ => by
    rw [fo_ol, lb_or, lb_and, lb_and, lb_not]
    simp [hr]
  | n + 1, hn => by
    rw [fo_ol, lb_or, Bool.or_eq_true, fo_olk hr n (by omega), fo_ops (by omega) hr, lb_and]
    constructor
    · rintro ((h | h | ⟨k, hk, h⟩) | ⟨h1, h2⟩)
      · exact Or.inl h
      · exact Or.inr (Or.inl h)
      · exact Or.inr (Or.inr ⟨k, by omega, h⟩)
      · exact Or.inr (Or.inr ⟨n, by omega, h1, by simpa using h2⟩)
    · rintro (h | h | ⟨k, hk, h1, h2, h3⟩)
      · exact Or.inl (Or.inl h)
      · exact Or.inl (Or.inr (Or.inl h))
      · rcases Nat.lt_succ_iff_lt_or_eq.mp hk with hk | rfl
        · exact Or.inl (Or.inr (Or.inr ⟨k, hk, h1, h2, h3⟩))
        · exact Or.inr ⟨h1, by simp [h2, h3]⟩
theorem fo_ohk {hi fh : Int64} {r : Nat} (hr : r < 64) : ∀ n, n ≤ 6 → (lb (fo_oh hi fh n) r = true ↔ (lb hi r = true ∧ lb fh r = false) ∨ ∃ k, k < n ∧ r.testBit k = false ∧ lb hi (r + 2 ^ k) = true ∧ lb fh (r + 2 ^ k) = true)
  | 0, _ => by
    rw [fo_oh, lb_and, lb_not]
    simp [hr]
  | n + 1, hn => by
    rw [fo_oh, lb_or, Bool.or_eq_true, fo_ohk hr n (by omega), fo_ops (by omega) hr, lb_and]
    constructor
    · rintro ((h | ⟨k, hk, h⟩) | ⟨h1, h2⟩)
      · exact Or.inl h
      · exact Or.inr ⟨k, by omega, h⟩
      · exact Or.inr ⟨n, by omega, h1, by simpa using h2⟩
    · rintro (h | ⟨k, hk, h1, h2, h3⟩)
      · exact Or.inl (Or.inl h)
      · rcases Nat.lt_succ_iff_lt_or_eq.mp hk with hk | rfl
        · exact Or.inl (Or.inr ⟨k, hk, h1, h2, h3⟩)
        · exact Or.inr ⟨h1, by simp [h2, h3]⟩
theorem fo_adk {x o : Int64} {r : Nat} (hr : r < 64) : ∀ n, n ≤ 6 → (lb (fo_ad x o n) r = true ↔ lb x r = true ∨ ∃ k, k < n ∧ r.testBit k = true ∧ lb o (r - 2 ^ k) = true)
  | 0, _ => by simp [fo_ad]
  | n + 1, hn => by
    rw [fo_ad, lb_or, Bool.or_eq_true, fo_adk hr n (by omega), fo_shs (by omega) hr]
    constructor
    · rintro ((h | ⟨k, hk, h⟩) | h)
      · exact Or.inl h
      · exact Or.inr ⟨k, by omega, h⟩
      · exact Or.inr ⟨n, by omega, h⟩
    · rintro (h | ⟨k, hk, h⟩)
      · exact Or.inl (Or.inl h)
      · rcases Nat.lt_succ_iff_lt_or_eq.mp hk with hk | rfl
        · exact Or.inl (Or.inr ⟨k, hk, h⟩)
        · exact Or.inr h
/-- What one serve, or none, makes of a set of rooms. -/
def fo_s1l (lo hi fl fh : Int64) : Int64 := fo_ad lo (fo_ol lo hi fl fh 6) 6
def fo_s1h (lo hi fl fh : Int64) : Int64 := fo_ad hi (fo_oh hi fh 6) 6 ||| fo_ol lo hi fl fh 6
/-- The rooms open for one more block. -/
def fo_op (S F : Nat → Bool) (q : Nat) : Prop := (S q = true ∧ F q = false) ∨ ∃ y, y < 7 ∧ q.testBit y = false ∧ S (q + 2 ^ y) = true ∧ F (q + 2 ^ y) = true
theorem fo_tb6 : ∀ r, r < 128 → r.testBit 6 = decide (64 ≤ r) := by decide +kernel
theorem fo_tbk : ∀ k, k < 6 → ∀ r, r < 64 → (r + 64).testBit k = r.testBit k := by decide +kernel
theorem b7 {P : Nat → Prop} : (∃ k, k < 7 ∧ P k) ↔ (∃ k, k < 6 ∧ P k) ∨ P 6 := by
  constructor
  · rintro ⟨k, hk, h⟩
    by_cases h6 : k = 6
    · exact Or.inr (h6 ▸ h)
    · exact Or.inl ⟨k, by omega, h⟩
  · rintro (⟨k, hk, h⟩ | h)
    · exact ⟨k, by omega, h⟩
    · exact ⟨6, by decide, h⟩
theorem fo_oll {lo hi fl fh : Int64} {q : Nat} (hq : q < 64) : lb (fo_ol lo hi fl fh 6) q = true ↔ fo_op (fo_m lo hi) (fo_m fl fh) q := by
  rw [fo_olk hq 6 (by decide), fo_op, b7, fo_tb6 q (by omega)]
  have e1 : fo_m lo hi (q + 2 ^ 6) = lb hi q := by rw [fo_m, if_neg (by omega)]; rfl
  have e2 : fo_m fl fh (q + 2 ^ 6) = lb fh q := by rw [fo_m, if_neg (by omega)]; rfl
  have e3 : (∃ k, k < 6 ∧ q.testBit k = false ∧ fo_m lo hi (q + 2 ^ k) = true ∧ fo_m fl fh (q + 2 ^ k) = true) ↔ (∃ k, k < 6 ∧ q.testBit k = false ∧ lb lo (q + 2 ^ k) = true ∧ lb fl (q + 2 ^ k) = true) := by
    constructor
    · rintro ⟨k, hk, h1, h2, h3⟩
      have := lb_of3 k hk q hq h1
      rw [fo_m, if_pos this] at h2 h3
      exact ⟨k, hk, h1, h2, h3⟩
    · rintro ⟨k, hk, h1, h2, h3⟩
      have := lb_of3 k hk q hq h1
      refine ⟨k, hk, h1, ?_, ?_⟩
      · rw [fo_m, if_pos this]; exact h2
      · rw [fo_m, if_pos this]; exact h3
  rw [e1, e2, e3, fo_m, fo_m, if_pos hq, if_pos hq]
  have : decide (64 ≤ q) = false := by simp; omega
  rw [this]
  constructor
  · rintro (h | h | h)
    · exact Or.inl h
    · exact Or.inr (Or.inr ⟨rfl, h⟩)
    · exact Or.inr (Or.inl h)
  · rintro (h | h | ⟨-, h⟩)
    · exact Or.inl h
    · exact Or.inr (Or.inr h)
    · exact Or.inr (Or.inl h)
theorem fo_ohh {lo hi fl fh : Int64} {q : Nat} (hq : q < 64) : lb (fo_oh hi fh 6) q = true ↔ fo_op (fo_m lo hi) (fo_m fl fh) (q + 64) := by
  rw [fo_ohk hq 6 (by decide), fo_op, b7, fo_tb6 (q + 64) (by omega)]
  have e3 : (∃ k, k < 6 ∧ (q + 64).testBit k = false ∧ fo_m lo hi (q + 64 + 2 ^ k) = true ∧ fo_m fl fh (q + 64 + 2 ^ k) = true) ↔ (∃ k, k < 6 ∧ q.testBit k = false ∧ lb hi (q + 2 ^ k) = true ∧ lb fh (q + 2 ^ k) = true) := by
    constructor
    · rintro ⟨k, hk, h1, h2, h3⟩
      have hp := Nat.two_pow_pos k
      rw [fo_m, if_neg (by omega), show q + 64 + 2 ^ k - 64 = q + 2 ^ k by omega] at h2 h3
      exact ⟨k, hk, fo_tbk k hk q hq ▸ h1, h2, h3⟩
    · rintro ⟨k, hk, h1, h2, h3⟩
      have hp := Nat.two_pow_pos k
      refine ⟨k, hk, (fo_tbk k hk q hq).trans h1, ?_, ?_⟩
      · rw [fo_m, if_neg (by omega), show q + 64 + 2 ^ k - 64 = q + 2 ^ k by omega]; exact h2
      · rw [fo_m, if_neg (by omega), show q + 64 + 2 ^ k - 64 = q + 2 ^ k by omega]; exact h3
  rw [e3, fo_m, fo_m, if_neg (by omega), if_neg (by omega), show q + 64 - 64 = q by omega]
  have : decide (64 ≤ q + 64) = true := by simp
  rw [this]
  constructor
  · rintro (h | h)
    · exact Or.inl h
    · exact Or.inr (Or.inl h)
  · rintro (h | h | ⟨h, -⟩)
    · exact Or.inl h
    · exact Or.inr h
    · cases h
/-- One serve or none, in rooms: the old ones, and each open one with one block more. -/
theorem fo_s1m {lo hi fl fh : Int64} {t : Nat} (ht : t < 128) : fo_m (fo_s1l lo hi fl fh) (fo_s1h lo hi fl fh) t = true ↔ fo_m lo hi t = true ∨ ∃ x, x < 7 ∧ t.testBit x = true ∧ fo_op (fo_m lo hi) (fo_m fl fh) (t - 2 ^ x) := by
  rw [b7, fo_tb6 t ht]
  by_cases h : t < 64
  · have e0 : decide (64 ≤ t) = false := by simp; omega
    rw [fo_m, if_pos h, fo_s1l, fo_adk h 6 (by decide), fo_m, if_pos h, e0]
    constructor
    · rintro (h1 | ⟨k, hk, h1, h2⟩)
      · exact Or.inl h1
      · have hp := Nat.two_pow_pos k
        exact Or.inr (Or.inl ⟨k, hk, h1, (fo_oll (by omega)).mp h2⟩)
    · rintro (h1 | ⟨k, hk, h1, h2⟩ | ⟨h1, -⟩)
      · exact Or.inl h1
      · have hp := Nat.two_pow_pos k
        exact Or.inr ⟨k, hk, h1, (fo_oll (by omega)).mpr h2⟩
      · cases h1
  · obtain ⟨q, rfl⟩ : ∃ q, t = q + 64 := ⟨t - 64, by omega⟩
    have hq : q < 64 := by omega
    have e0 : decide (64 ≤ q + 64) = true := by simp
    rw [fo_m, if_neg h, fo_m, if_neg h, show q + 64 - 64 = q by omega, fo_s1h, lb_or, Bool.or_eq_true, fo_adk hq 6 (by decide), fo_oll hq, e0]
    constructor
    · rintro ((h1 | ⟨k, hk, h1, h2⟩) | h1)
      · exact Or.inl h1
      · have := lb_of4 k hk q hq h1
        have hp := Nat.two_pow_pos k
        refine Or.inr (Or.inl ⟨k, hk, (fo_tbk k hk q hq).trans h1, ?_⟩)
        rw [show q + 64 - 2 ^ k = q - 2 ^ k + 64 by omega]
        exact (fo_ohh (by omega)).mp h2
      · exact Or.inr (Or.inr ⟨rfl, h1⟩)
    · rintro (h1 | ⟨k, hk, h1, h2⟩ | ⟨-, h1⟩)
      · exact Or.inl (Or.inl h1)
      · rw [fo_tbk k hk q hq] at h1
        have := lb_of4 k hk q hq h1
        have hp := Nat.two_pow_pos k
        refine Or.inl (Or.inr ⟨k, hk, h1, ?_⟩)
        rw [show q + 64 - 2 ^ k = q - 2 ^ k + 64 by omega] at h2
        exact (fo_ohh (by omega)).mpr h2
      · exact Or.inr h1
/-- The full rooms. -/
def fo_F (sp : Nat) (fl fh : Int64) : Prop := ∀ r, r < 128 → fo_m fl fh r = decide (fo_sz r = sp)
theorem fo_lt : ∀ r, r < 128 → ∀ x, x < 7 → r.testBit x = true → 2 ^ x ≤ r ∧ (r - 2 ^ x).testBit x = false ∧ r - 2 ^ x < 128 := by decide +kernel
theorem fo_ge : ∀ r, r < 128 → ∀ x, x < 7 → r.testBit x = false → (r + 2 ^ x).testBit x = true ∧ r + 2 ^ x < 128 := by decide +kernel
theorem fo_s1q {sp : Nat} {lo hi fl fh : Int64} (hF : fo_F sp fl fh) (hV : ∀ r, fo_m lo hi r = true → fo_V sp 7 r) {t : Nat} : fo_m (fo_s1l lo hi fl fh) (fo_s1h lo hi fl fh) t = true ↔ fo_m lo hi t = true ∨ ∃ s, fo_m lo hi s = true ∧ fo_st sp 7 s t := by
  constructor
  · intro h
    have ht := fo_mge h
    rcases (fo_s1m ht).mp h with h | ⟨x, hx, hb, ho⟩
    · exact Or.inl h
    · obtain ⟨q1, q2, q3⟩ := fo_lt t ht x hx hb
      rcases ho with ⟨h1, h2⟩ | ⟨y, hy, h0, h1, h2⟩
      · rw [hF _ q3] at h2
        have h3 := (hV _ h1).2.1
        have h4 : fo_sz (t - 2 ^ x) ≠ sp := by simpa using h2
        exact Or.inr ⟨t - 2 ^ x, h1, x, hx, q2, Or.inl ⟨by omega, by omega⟩⟩
      · obtain ⟨p1, p2⟩ := fo_ge _ q3 y hy h0
        by_cases hxy : x = y
        · subst hxy
          rw [show t - 2 ^ x + 2 ^ x = t by omega] at h1
          exact Or.inl h1
        · rw [hF _ p2] at h2
          have h4 : fo_sz (t - 2 ^ x + 2 ^ y) = sp := by simpa using h2
          refine Or.inr ⟨t - 2 ^ x + 2 ^ y, h1, x, hx, ?_, Or.inr ⟨by omega, y, hy, p1, by omega⟩⟩
          rw [fo_or _ q3 y hy h0, fo_bo, q2]
          simp [Ne.symm hxy]
  · rintro (h | ⟨s, hs, x, hx, hb, hc⟩)
    · exact (fo_s1m (fo_mge h)).mpr (Or.inl h)
    · have h128 := fo_mge hs
      obtain ⟨p1, p2⟩ := fo_ge s h128 x hx hb
      rcases hc with ⟨hc, rfl⟩ | ⟨hc, y, hy, hyb, rfl⟩
      · refine (fo_s1m p2).mpr (Or.inr ⟨x, hx, p1, ?_⟩)
        rw [show s + 2 ^ x - 2 ^ x = s by omega]
        refine Or.inl ⟨hs, ?_⟩
        rw [hF s h128]
        simp; omega
      · obtain ⟨q1, q2, q3⟩ := fo_lt s h128 y hy hyb
        have hxy : x ≠ y := fun e => by rw [e, hyb] at hb; cases hb
        have hv := (hV s hs).2.1
        have hp := Nat.two_pow_pos x
        have e1 : s + 2 ^ x - 2 ^ y = s - 2 ^ y + 2 ^ x := by omega
        have hb2 : (s - 2 ^ y).testBit x = false := by
          rw [fo_xr s h128 y hy hyb, fo_bx, hb]
          simp [Ne.symm hxy]
        obtain ⟨r1, r2⟩ := fo_ge _ q3 x hx hb2
        rw [e1]
        refine (fo_s1m r2).mpr (Or.inr ⟨x, hx, r1, ?_⟩)
        rw [show s - 2 ^ y + 2 ^ x - 2 ^ x = s - 2 ^ y by omega]
        refine Or.inr ⟨y, hy, q2, ?_, ?_⟩
        · rw [show s - 2 ^ y + 2 ^ y = s by omega]; exact hs
        · rw [show s - 2 ^ y + 2 ^ y = s by omega, hF s h128]
          simp; omega
