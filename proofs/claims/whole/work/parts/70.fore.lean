def fo_sz (r : Nat) : Nat := (r.testBit 0).toNat + (r.testBit 1).toNat + (r.testBit 2).toNat + (r.testBit 3).toNat + (r.testBit 4).toNat + (r.testBit 5).toNat + (r.testBit 6).toNat
def fo_st (sp U r t : Nat) : Prop := ∃ x, x < U ∧ r.testBit x = false ∧ ((fo_sz r < sp ∧ t = r + 2 ^ x) ∨ (sp ≤ fo_sz r ∧ ∃ y, y < U ∧ r.testBit y = true ∧ t = r + 2 ^ x - 2 ^ y))
def fo_sn (sp U : Nat) : Nat → Nat → Nat → Prop
  | 0, r, t => t = r
  | k + 1, r, t => fo_sn sp U k r t ∨ ∃ u, fo_sn sp U k r u ∧ fo_st sp U u t
theorem fo_or : ∀ r, r < 128 → ∀ x, x < 7 → r.testBit x = false → r + 2 ^ x = r ||| 2 ^ x := by decide +kernel
theorem fo_xr : ∀ r, r < 128 → ∀ x, x < 7 → r.testBit x = true → r - 2 ^ x = r ^^^ 2 ^ x := by decide +kernel
theorem fo_so : ∀ r, r < 128 → ∀ x, x < 7 → r.testBit x = false → fo_sz (r ||| 2 ^ x) = fo_sz r + 1 ∧ (r ||| 2 ^ x) < 128 := by decide +kernel
theorem fo_sx : ∀ r, r < 128 → ∀ x, x < 7 → r.testBit x = true → fo_sz (r ^^^ 2 ^ x) + 1 = fo_sz r ∧ (r ^^^ 2 ^ x) < 128 := by decide +kernel
/-- A room of blocks below U, of at most sp blocks. -/
def fo_V (sp U r : Nat) : Prop := r < 128 ∧ fo_sz r ≤ sp ∧ ∀ k, r.testBit k = true → k < U
def fo_in (U s t : Nat) : Prop := ∀ k, k < U → s.testBit k = true → t.testBit k = true
theorem fo_bo {r x k : Nat} : (r ||| 2 ^ x).testBit k = (r.testBit k || decide (x = k)) := by
  rw [Nat.testBit_or, Nat.testBit_two_pow]
theorem fo_bx {r x k : Nat} : (r ^^^ 2 ^ x).testBit k = (r.testBit k ^^ decide (x = k)) := by
  rw [Nat.testBit_xor, Nat.testBit_two_pow]
theorem fo_V0 (sp U : Nat) : fo_V sp U 0 := ⟨by decide, (show fo_sz 0 = 0 by decide) ▸ Nat.zero_le sp, fun k h => by simp at h⟩
theorem fo_Vst {sp U r t : Nat} (hU : U ≤ 7) (h : fo_V sp U r) (hs : fo_st sp U r t) : fo_V sp U t := by
  obtain ⟨h1, h2, h3⟩ := h
  obtain ⟨x, hx, hb, hc | ⟨hc, y, hy, hyb, rfl⟩⟩ := hs
  · obtain ⟨hc, rfl⟩ := hc
    rw [fo_or r h1 x (by omega) hb]
    obtain ⟨q1, q2⟩ := fo_so r h1 x (by omega) hb
    refine ⟨q2, by omega, fun k hk => ?_⟩
    rw [fo_bo] at hk
    by_cases hxk : x = k
    · omega
    · exact h3 k (by simpa [hxk] using hk)
  · obtain ⟨q1, q2⟩ := fo_so r h1 x (by omega) hb
    have hyx : x ≠ y := fun z => by rw [z, hyb] at hb; cases hb
    have hyo : (r ||| 2 ^ x).testBit y = true := by rw [fo_bo, hyb]; rfl
    rw [fo_or r h1 x (by omega) hb, fo_xr _ q2 y (by omega) hyo]
    obtain ⟨q3, q4⟩ := fo_sx _ q2 y (by omega) hyo
    refine ⟨q4, by omega, fun k hk => ?_⟩
    rw [fo_bx, fo_bo] at hk
    by_cases hxk : x = k
    · omega
    · by_cases hyk : y = k
      · omega
      · exact h3 k (by simpa [hxk, hyk] using hk)
theorem fo_Vsn {sp U r : Nat} (hU : U ≤ 7) (h : fo_V sp U r) : ∀ {k t : Nat}, fo_sn sp U k r t → fo_V sp U t
  | 0, t, hs => by cases hs; exact h
  | k + 1, t, hs => by
    rcases hs with hs | ⟨u, hu, hs⟩
    · exact fo_Vsn hU h hs
    · exact fo_Vst hU (fo_Vsn hU h hu) hs
theorem fo_rf (sp U r : Nat) : ∀ k, fo_sn sp U k r r
  | 0 => rfl
  | k + 1 => Or.inl (fo_rf sp U r k)
theorem fo_tr {sp U r u : Nat} {a : Nat} (h : fo_sn sp U a r u) : ∀ {b t : Nat}, fo_sn sp U b u t → fo_sn sp U (a + b) r t
  | 0, t, k => by cases k; exact h
  | b + 1, t, k => by
    rcases k with k | ⟨v, hv, k⟩
    · exact Or.inl (fo_tr h k)
    · exact Or.inr ⟨v, fo_tr h hv, k⟩
theorem fo_mo {sp U r t a : Nat} (h : fo_sn sp U a r t) {b : Nat} (hb : a ≤ b) : fo_sn sp U b r t := by
  have := fo_tr h (fo_rf sp U t (b - a))
  rwa [show a + (b - a) = b by omega] at this
theorem fo_sp {sp U r : Nat} {a : Nat} : ∀ {b t : Nat}, fo_sn sp U (a + b) r t → ∃ u, fo_sn sp U a r u ∧ fo_sn sp U b u t
  | 0, t, k => ⟨t, k, rfl⟩
  | b + 1, t, k => by
    rcases k with k | ⟨v, hv, k⟩
    · obtain ⟨u, h1, h2⟩ := fo_sp k
      exact ⟨u, h1, Or.inl h2⟩
    · obtain ⟨u, h1, h2⟩ := fo_sp hv
      exact ⟨u, h1, Or.inr ⟨v, h2, k⟩⟩
theorem fo_wd {sp U V r t : Nat} (h : U ≤ V) (k : fo_st sp U r t) : fo_st sp V r t := by
  obtain ⟨x, hx, hb, hc | ⟨hc, y, hy, hyb, rfl⟩⟩ := k
  · exact ⟨x, by omega, hb, Or.inl hc⟩
  · exact ⟨x, by omega, hb, Or.inr ⟨hc, y, by omega, hyb, rfl⟩⟩
theorem fo_wdn {sp U V r : Nat} (h : U ≤ V) : ∀ {k t : Nat}, fo_sn sp U k r t → fo_sn sp V k r t
  | 0, _, k => k
  | k + 1, t, hs => by
    rcases hs with hs | ⟨u, hu, hs⟩
    · exact Or.inl (fo_wdn h hs)
    · exact Or.inr ⟨u, fo_wdn h hu, fo_wd h hs⟩
theorem fo_nat {a b : Bool} (h : a = true → b = true) : a.toNat ≤ b.toNat := by cases a <;> cases b <;> simp_all
/-- A room with more blocks has one that the other has not. -/
theorem fo_pig {a b : Nat} (h : fo_sz a < fo_sz b) : ∃ y, y < 7 ∧ b.testBit y = true ∧ a.testBit y = false := by
  apply Classical.byContradiction
  intro hn
  have hk : ∀ y, y < 7 → (b.testBit y).toNat ≤ (a.testBit y).toNat := fun y hy => fo_nat (fun hb => by
    cases ha : a.testBit y
    · exact absurd ⟨y, hy, hb, ha⟩ hn
    · rfl)
  have h0 := hk 0 (by decide)
  have h1 := hk 1 (by decide)
  have h2 := hk 2 (by decide)
  have h3 := hk 3 (by decide)
  have h4 := hk 4 (by decide)
  have h5 := hk 5 (by decide)
  have h6 := hk 6 (by decide)
  unfold fo_sz at h
  omega
theorem fo_s1 {sp U s s' t : Nat} (hs : fo_V sp 7 s) (ht : fo_V sp U t) (hi : fo_in U s t) (h : fo_st sp 7 s s') : ∃ t', (t' = t ∨ fo_st sp U t t') ∧ fo_in U s' t' := by
  have hv := fo_Vst (Nat.le_refl 7) hs h
  obtain ⟨s1, s2, s3⟩ := hs
  obtain ⟨x, hx, hb, hc⟩ := h
  obtain ⟨q1, q2⟩ := fo_so s s1 x hx hb
  have hn : ∀ k, s'.testBit k = true → k = x ∨ s.testBit k = true := by
    rcases hc with ⟨_, rfl⟩ | ⟨_, y, hy, hyb, rfl⟩
    · intro k hk
      rw [fo_or s s1 x hx hb, fo_bo] at hk
      by_cases hxk : x = k
      · exact Or.inl hxk.symm
      · exact Or.inr (by simpa [hxk] using hk)
    · intro k hk
      have hyo : (s ||| 2 ^ x).testBit y = true := by rw [fo_bo, hyb]; rfl
      rw [fo_or s s1 x hx hb, fo_xr _ q2 y hy hyo, fo_bx, fo_bo] at hk
      by_cases hxk : x = k
      · exact Or.inl hxk.symm
      · refine Or.inr ?_
        by_cases hyk : y = k
        · exact hyk ▸ hyb
        · simpa [hxk, hyk] using hk
  by_cases hxU : x < U ∧ t.testBit x = false
  · obtain ⟨hxU, htx⟩ := hxU
    obtain ⟨t1, t2, t3⟩ := ht
    obtain ⟨p1, p2⟩ := fo_so t t1 x hx htx
    by_cases hsz : fo_sz t < sp
    · refine ⟨t + 2 ^ x, Or.inr ⟨x, hxU, htx, Or.inl ⟨hsz, rfl⟩⟩, fun k hk hsk => ?_⟩
      rw [fo_or t t1 x hx htx, fo_bo]
      rcases hn k hsk with rfl | hk2
      · simp
      · rw [hi k hk hk2]; rfl
    · -- the pigeonhole: t + x has more blocks than s'
      obtain ⟨y, hy, hyt, hys⟩ := fo_pig (a := s') (b := t ||| 2 ^ x) (by have := hv.2.1; omega)
      have hyx : y ≠ x := by
        rintro rfl
        rcases hc with ⟨_, rfl⟩ | ⟨_, z, hz, hzb, rfl⟩
        · rw [fo_or s s1 y hx hb, fo_bo] at hys; simp at hys
        · have hyo : (s ||| 2 ^ y).testBit z = true := by rw [fo_bo, hzb]; rfl
          have hzy : z ≠ y := fun e => by rw [e, hb] at hzb; cases hzb
          rw [fo_or s s1 y hx hb, fo_xr _ q2 z hz hyo, fo_bx, fo_bo] at hys
          simp [hzy] at hys
      have hty : t.testBit y = true := by
        rw [fo_bo] at hyt
        simpa [Ne.symm hyx] using hyt
      refine ⟨t + 2 ^ x - 2 ^ y, Or.inr ⟨x, hxU, htx, Or.inr ⟨by omega, y, t3 y hty, hty, rfl⟩⟩, fun k hk hsk => ?_⟩
      rw [fo_or t t1 x hx htx, fo_xr _ p2 y hy hyt, fo_bx, fo_bo]
      have hky : y ≠ k := fun e => by rw [e, hsk] at hys; cases hys
      rcases hn k hsk with rfl | hk2
      · simp [hky]
      · rw [hi k hk hk2]; simp [hky]
  · refine ⟨t, Or.inl rfl, fun k hk hsk => ?_⟩
    rcases hn k hsk with rfl | hk2
    · cases hz : t.testBit k
      · exact absurd ⟨hk, hz⟩ hxU
      · rfl
    · exact hi k hk hk2
theorem fo_sk {sp U s t : Nat} (hU : U ≤ 7) (hs : fo_V sp 7 s) (ht : fo_V sp U t) (hi : fo_in U s t) : ∀ {k s' : Nat}, fo_sn sp 7 k s s' → ∃ t', fo_sn sp U k t t' ∧ fo_in U s' t'
  | 0, s', h => by cases h; exact ⟨t, rfl, hi⟩
  | k + 1, s', h => by
    rcases h with h | ⟨u, hu, h⟩
    · obtain ⟨t', a, b⟩ := fo_sk hU hs ht hi h
      exact ⟨t', Or.inl a, b⟩
    · obtain ⟨t', a, b⟩ := fo_sk hU hs ht hi hu
      obtain ⟨t'', c, d⟩ := fo_s1 (fo_Vsn (Nat.le_refl 7) hs hu) (fo_Vsn hU ht a) b h
      rcases c with rfl | c
      · exact ⟨t'', Or.inl a, d⟩
      · exact ⟨t'', Or.inr ⟨t', a, c⟩, d⟩
/-- The plans at one ask for block x: those that stalled k times and still lack it. -/
def fo_p (sp U v x : Nat) (A : Nat → Nat → Prop) : Nat → Nat → Nat → Prop
  | 0, t, c => A t c
  | k + 1, t, c => ∃ s c', c = c' + 1 ∧ fo_p sp U v x A k s c' ∧ s.testBit x = false ∧ fo_sn sp U v s t ∧ t.testBit x = false
/-- The plans behind the ask. -/
def fo_D (sp U v x : Nat) (A : Nat → Nat → Prop) (t c : Nat) : Prop :=
  ∃ k s c', fo_p sp U v x A k s c' ∧ ((s.testBit x = true ∧ t = s ∧ c = c') ∨ (s.testBit x = false ∧ c = c' + 1 ∧ ((fo_sn sp U v s t ∧ t.testBit x = true) ∨ fo_sn sp U (v - 1) s t)))
def fo_T (sp U v : Nat) (z : Bool) (D : Nat → Nat → Prop) (t c : Nat) : Prop := if z then ∃ s, D s c ∧ fo_sn sp U v s t else D t c
def fo_A (sp U v : Nat) (xs : Nat → Nat) (tk : Nat → Bool) : Nat → Nat → Nat → Prop
  | 0, t, c => t = 0 ∧ c = 0
  | i + 1, t, c => fo_T sp U v (tk i) (fo_D sp U v (xs i) (fo_A sp U v xs tk i)) t c
def fo_sim (sp U v : Nat) (A B : Nat → Nat → Prop) : Prop := ∀ s c, A s c → fo_V sp 7 s ∧ ∃ t c' m t', B t c' ∧ c' + m ≤ c ∧ fo_sn sp U (m * v) t t' ∧ fo_in U s t' ∧ fo_V sp U t
theorem fo_la {sp U v x : Nat} {B : Nat → Nat → Prop} {t' : Nat} (hx : t'.testBit x = true) : ∀ {m k t c : Nat}, fo_p sp U v x B k t c → fo_sn sp U (m * v) t t' → ∃ j t1, j ≤ m ∧ fo_D sp U v x B t1 (c + j) ∧ fo_sn sp U ((m - j) * v) t1 t' ∧ (∃ z, fo_sn sp U z t t1)
  | 0, k, t, c, hp, h => by
    rw [Nat.zero_mul] at h
    have h : t' = t := h
    subst h
    exact ⟨0, t', Nat.le_refl _, ⟨k, t', c, hp, Or.inl ⟨hx, rfl, rfl⟩⟩, fo_rf _ _ _ _, 0, rfl⟩
  | m + 1, k, t, c, hp, h => by
    cases ht : t.testBit x
    · rw [Nat.add_mul, Nat.one_mul, Nat.add_comm] at h
      obtain ⟨u, a, b⟩ := fo_sp h
      cases hu : u.testBit x
      · obtain ⟨j, t1, q1, q2, q3, z, q4⟩ := fo_la hx (m := m) (k := k + 1) (t := u) (c := c + 1) ⟨t, c, rfl, hp, ht, a, hu⟩ b
        exact ⟨j + 1, t1, by omega, by rwa [show c + (j + 1) = c + 1 + j by omega], by rwa [show m + 1 - (j + 1) = m - j by omega], v + z, fo_tr a q4⟩
      · exact ⟨1, u, by omega, ⟨k, t, c, hp, Or.inr ⟨ht, rfl, Or.inl ⟨a, hu⟩⟩⟩, by rwa [show m + 1 - 1 = m by omega], v, a⟩
    · exact ⟨0, t, Nat.zero_le _, ⟨k, t, c, hp, Or.inl ⟨ht, rfl, rfl⟩⟩, h, 0, rfl⟩
theorem fo_lc {sp U v x : Nat} {B : Nat → Nat → Prop} {t' : Nat} : ∀ {m k t c : Nat}, fo_p sp U v x B k t c → fo_sn sp U (m * v + (v - 1)) t t' → ∃ j t1, j ≤ m + 1 ∧ fo_D sp U v x B t1 (c + j) ∧ fo_sn sp U ((m + 1 - j) * v) t1 t' ∧ (∃ z, fo_sn sp U z t t1)
  | 0, k, t, c, hp, h => by
    rw [Nat.zero_mul, Nat.zero_add] at h
    cases ht : t.testBit x
    · exact ⟨1, t', by omega, ⟨k, t, c, hp, Or.inr ⟨ht, rfl, Or.inr h⟩⟩, fo_rf _ _ _ _, v - 1, h⟩
    · exact ⟨0, t, Nat.zero_le _, ⟨k, t, c, hp, Or.inl ⟨ht, rfl, rfl⟩⟩, fo_mo h (by omega), 0, rfl⟩
  | m + 1, k, t, c, hp, h => by
    cases ht : t.testBit x
    · rw [Nat.add_mul, Nat.one_mul, show m * v + v + (v - 1) = v + (m * v + (v - 1)) by omega] at h
      obtain ⟨u, a, b⟩ := fo_sp h
      cases hu : u.testBit x
      · obtain ⟨j, t1, q1, q2, q3, z, q4⟩ := fo_lc (m := m) (k := k + 1) (t := u) (c := c + 1) ⟨t, c, rfl, hp, ht, a, hu⟩ b
        exact ⟨j + 1, t1, by omega, by rwa [show c + (j + 1) = c + 1 + j by omega], by rwa [show m + 1 + 1 - (j + 1) = m + 1 - j by omega], v + z, fo_tr a q4⟩
      · exact ⟨1, u, by omega, ⟨k, t, c, hp, Or.inr ⟨ht, rfl, Or.inl ⟨a, hu⟩⟩⟩, fo_mo b (by rw [show m + 1 + 1 - 1 = m + 1 by omega, Nat.add_mul]; omega), v, a⟩
    · exact ⟨0, t, Nat.zero_le _, ⟨k, t, c, hp, Or.inl ⟨ht, rfl, rfl⟩⟩, fo_mo h (by rw [Nat.sub_zero, Nat.add_mul (m + 1)]; omega), 0, rfl⟩
theorem fo_sip {sp U v x : Nat} (hU : U ≤ 7) {A B : Nat → Nat → Prop} (h : fo_sim sp U v A B) : ∀ k, fo_sim sp U v (fo_p sp 7 v x A k) B
  | 0 => h
  | k + 1 => by
    rintro s c ⟨s0, c0, rfl, hp, -, hn, -⟩
    obtain ⟨hv, t, c', m, t', q1, q2, q3, q4, q5⟩ := fo_sip hU h k s0 c0 hp
    obtain ⟨t2, r1, r2⟩ := fo_sk hU hv (fo_Vsn hU q5 q3) q4 hn
    exact ⟨fo_Vsn (Nat.le_refl 7) hv hn, t, c', m + 1, t2, q1, by omega, by rw [Nat.add_mul, Nat.one_mul]; exact fo_tr q3 r1, r2, q5⟩
theorem fo_siD {sp U v x : Nat} (hU : U ≤ 7) (hxU : x < U) {A B : Nat → Nat → Prop} (h : fo_sim sp U v A B) : fo_sim sp U v (fo_D sp 7 v x A) (fo_D sp U v x B) := by
  rintro s c ⟨k, s0, c0, hp, hc⟩
  obtain ⟨hv, t, c', m, t', q1, q2, q3, q4, q5⟩ := fo_sip (x := x) hU h k s0 c0 hp
  rcases hc with ⟨hx, rfl, rfl⟩ | ⟨hx, rfl, ⟨hn, hx1⟩ | hn⟩
  · obtain ⟨j, t1, r1, r2, r3, z, r4⟩ := fo_la (q4 x hxU hx) (k := 0) (B := B) (v := v) q1 q3
    exact ⟨hv, t1, c' + j, m - j, t', r2, by omega, r3, q4, fo_Vsn hU q5 r4⟩
  · obtain ⟨t2, s1, s2⟩ := fo_sk hU hv (fo_Vsn hU q5 q3) q4 hn
    obtain ⟨j, t1, r1, r2, r3, z, r4⟩ := fo_la (m := m + 1) (s2 x hxU hx1) (k := 0) (B := B) (v := v) q1 (by rw [Nat.add_mul, Nat.one_mul]; exact fo_tr q3 s1)
    exact ⟨fo_Vsn (Nat.le_refl 7) hv hn, t1, c' + j, m + 1 - j, t2, r2, by omega, r3, s2, fo_Vsn hU q5 r4⟩
  · obtain ⟨t2, s1, s2⟩ := fo_sk hU hv (fo_Vsn hU q5 q3) q4 hn
    obtain ⟨j, t1, r1, r2, r3, z, r4⟩ := fo_lc (m := m) (x := x) (k := 0) (B := B) (v := v) q1 (fo_tr q3 s1)
    exact ⟨fo_Vsn (Nat.le_refl 7) hv hn, t1, c' + j, m + 1 - j, t2, r2, by omega, r3, s2, fo_Vsn hU q5 r4⟩
theorem fo_siT {sp U v : Nat} (hU : U ≤ 7) (z : Bool) {A B : Nat → Nat → Prop} (h : fo_sim sp U v A B) : fo_sim sp U v (fo_T sp 7 v z A) (fo_T sp U v z B) := by
  cases z
  · exact h
  · rintro s c ⟨s0, ha, hn⟩
    obtain ⟨hv, t, c', m, t', q1, q2, q3, q4, q5⟩ := h s0 c ha
    obtain ⟨t2, s1, s2⟩ := fo_sk hU hv (fo_Vsn hU q5 q3) q4 hn
    have h9 := fo_tr q3 s1
    rw [Nat.add_comm] at h9
    obtain ⟨t1, r1, r2⟩ := fo_sp h9
    exact ⟨fo_Vsn (Nat.le_refl 7) hv hn, t1, c', m, t2, ⟨t, q1, r1⟩, q2, r2, s2, fo_Vsn hU q5 r1⟩
theorem fo_siA {sp U v : Nat} (hU : U ≤ 7) {xs : Nat → Nat} (tk : Nat → Bool) {n : Nat} (hx : ∀ i, i < n → xs i < U) : ∀ i, i ≤ n → fo_sim sp U v (fo_A sp 7 v xs tk i) (fo_A sp U v xs tk i)
  | 0, _ => by
    rintro s c ⟨rfl, rfl⟩
    exact ⟨fo_V0 _ _, 0, 0, 0, 0, ⟨rfl, rfl⟩, by omega, fo_rf _ _ _ _, fun k _ h => h, fo_V0 _ _⟩
  | i + 1, hi => fo_siT hU (tk i) (fo_siD hU (hx i hi) (fo_siA hU tk hx i (by omega)))
theorem fo_upp {sp U v x : Nat} (hU : U ≤ 7) {A B : Nat → Nat → Prop} (h : ∀ s c, A s c → B s c) : ∀ k s c, fo_p sp U v x A k s c → fo_p sp 7 v x B k s c
  | 0, s, c, k => h s c k
  | k + 1, s, c, q => by
    obtain ⟨s0, c0, rfl, hp, a, hn, b⟩ := q
    exact ⟨s0, c0, rfl, fo_upp hU h k s0 c0 hp, a, fo_wdn hU hn, b⟩
theorem fo_upD {sp U v x : Nat} (hU : U ≤ 7) {A B : Nat → Nat → Prop} (h : ∀ s c, A s c → B s c) {s c : Nat} (k : fo_D sp U v x A s c) : fo_D sp 7 v x B s c := by
  obtain ⟨k, s0, c0, hp, hc⟩ := k
  refine ⟨k, s0, c0, fo_upp hU h k s0 c0 hp, ?_⟩
  rcases hc with hc | ⟨a, b, ⟨hn, d⟩ | hn⟩
  · exact Or.inl hc
  · exact Or.inr ⟨a, b, Or.inl ⟨fo_wdn hU hn, d⟩⟩
  · exact Or.inr ⟨a, b, Or.inr (fo_wdn hU hn)⟩
theorem fo_upA {sp U v : Nat} (hU : U ≤ 7) (xs : Nat → Nat) (tk : Nat → Bool) : ∀ i s c, fo_A sp U v xs tk i s c → fo_A sp 7 v xs tk i s c
  | 0, _, _, h => h
  | i + 1, s, c, h => by
    rw [fo_A, fo_T] at h ⊢
    cases htk : tk i
    · rw [htk] at h
      exact fo_upD hU (fo_upA hU xs tk i) h
    · rw [htk] at h
      obtain ⟨s0, a, b⟩ := h
      exact ⟨s0, fo_upD hU (fo_upA hU xs tk i) a, fo_wdn hU b⟩
/-- m is the least number of stalls of all plans. -/
def fo_L (sp U v : Nat) (xs : Nat → Nat) (tk : Nat → Bool) (n m : Nat) : Prop := (∃ s, fo_A sp U v xs tk n s m) ∧ ∀ s c, fo_A sp U v xs tk n s c → m ≤ c
theorem fo_one {sp U v : Nat} (hU : U ≤ 7) {xs : Nat → Nat} {tk : Nat → Bool} {n : Nat} (hx : ∀ i, i < n → xs i < U) {m m' : Nat} (h : fo_L sp U v xs tk n m) (k : fo_L sp 7 v xs tk n m') : m = m' := by
  obtain ⟨⟨s, a⟩, b⟩ := h
  obtain ⟨⟨s', a'⟩, b'⟩ := k
  have q1 := b' s m (fo_upA hU xs tk n s m a)
  obtain ⟨-, t, c, j, -, r1, r2, -⟩ := fo_siA hU tk hx n (Nat.le_refl _) s' m' a'
  have q2 := b t c r1
  omega
