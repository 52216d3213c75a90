theorem pm_start {L : pm_L} {M : pm_M} {as : List Value} {lv : List (Option Value)} {w : pm_W} {Q : Option Value → pm_W → Prop} (hy : plainName M.1.cls = true) (hn : (pm_ent as).length ≤ M.2.2.1) (hlv : pm_ent as ++ List.replicate (M.2.2.1 - (pm_ent as).length) none = lv) (h : pm_R L M 0 lv [] w Q) : pm_C L M as w Q := by
  refine pm_enter hy hn (fun i v hi => ?_) h
  rw [← hlv] at hi
  by_cases hl : i < (pm_ent as).length
  · rw [List.getElem?_append_left hl] at hi
    exact hi
  · rw [List.getElem?_append_right (by omega)] at hi
    have := List.eq_of_mem_replicate (List.mem_of_getElem? hi)
    cases this
/-- a truth as an int -/
def pm_z (b : Bool) : Int32 := if b then 1 else 0
theorem pm_z_0 {b : Bool} : pm_z b = 0 ↔ b = false := by cases b <;> decide
theorem pm_z_1 {b : Bool} : ¬ pm_z b = 0 ↔ b = true := by cases b <;> decide
theorem pm_z_or (b : Bool) : pm_z b = 0 ∨ pm_z b = 1 := by cases b <;> decide
theorem pm_z_t : pm_z true = 1 := rfl
theorem pm_z_f : pm_z false = 0 := rfl
def pm_bw (n a b : Int32) : Bool := decide (a ≤ n) && decide (n ≤ b)
theorem pm_bw_t {n a b : Int32} : pm_bw n a b = true ↔ a ≤ n ∧ n ≤ b := by simp [pm_bw]
theorem pm_bw_f {n a b : Int32} : pm_bw n a b = false ↔ n < a ∨ b < n := by
  rw [← Bool.not_eq_true, pm_bw_t]
  simp only [Int32.le_iff_toInt_le, Int32.lt_iff_toInt_lt]
  omega

set_option maxRecDepth 4000 in
theorem c_X4_within (L : pm_L) (w : pm_W) (n a b : Int32) : pm_C L MX4_within [.int n, .int a, .int b] w (pm_qi fun r w1 => r = pm_z (pm_bw n a b) ∧ w1 = w) := by
  refine pm_start (lv := [some (.int _), some (.int _), some (.int _)]) (by decide +kernel) (Nat.le_of_ble_eq_true rfl) rfl ?_
  refine pm_iload_n dX4_within_0 rfl ?_
  refine pm_iload_n dX4_within_1 rfl ?_
  refine pm_icmp_gt (tgt := 14) dX4_within_2 (by decide) (fun c2 => ?_) (fun c2 => ?_)
  · refine pm_iconst (x := 0) dX4_within_14 rfl ?_
    refine pm_zret dX4_within_15 rfl (by first | exact Or.inl rfl | exact Or.inr rfl | assumption) ?_
    exact ⟨by first | (rw [pm_bw_t.mpr ⟨by first | assumption | exact Int32.not_lt.mp ‹_›, by first | assumption | exact Int32.not_lt.mp ‹_›⟩]; rfl) | (rw [pm_bw_f.mpr (by first | exact Or.inl ‹_› | exact Or.inr ‹_›)]; rfl), rfl⟩
  · refine pm_iload_n dX4_within_5 rfl ?_
    refine pm_iload_n dX4_within_6 rfl ?_
    refine pm_icmp_gt (tgt := 14) dX4_within_7 (by decide) (fun c7 => ?_) (fun c7 => ?_)
    · refine pm_iconst (x := 0) dX4_within_14 rfl ?_
      refine pm_zret dX4_within_15 rfl (by first | exact Or.inl rfl | exact Or.inr rfl | assumption) ?_
      exact ⟨by first | (rw [pm_bw_t.mpr ⟨by first | assumption | exact Int32.not_lt.mp ‹_›, by first | assumption | exact Int32.not_lt.mp ‹_›⟩]; rfl) | (rw [pm_bw_f.mpr (by first | exact Or.inl ‹_› | exact Or.inr ‹_›)]; rfl), rfl⟩
    · refine pm_iconst (x := 1) dX4_within_10 rfl ?_
      refine pm_goto (tgt := 15) dX4_within_11 (by decide) ?_
      refine pm_zret dX4_within_15 rfl (by first | exact Or.inl rfl | exact Or.inr rfl | assumption) ?_
      exact ⟨by first | (rw [pm_bw_t.mpr ⟨by first | assumption | exact Int32.not_lt.mp ‹_›, by first | assumption | exact Int32.not_lt.mp ‹_›⟩]; rfl) | (rw [pm_bw_f.mpr (by first | exact Or.inl ‹_› | exact Or.inr ‹_›)]; rfl), rfl⟩

