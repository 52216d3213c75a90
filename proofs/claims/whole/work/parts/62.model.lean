theorem ln_8 {S : ab_S} (hI : ab_I S) {p : Nat} (hp : p < 4) {b st : Int32} (hst : st = if (S.2.2.1 p).1 7 = -1 then 0 else b - (S.2.2.1 p).1 7) : st = ((ab_ln S p b).2.2.1 p).1 8 := by
  show st = (va_up S.2.2.1 p (ab_learn (S.2.2.1 p) b) p).1 8
  rw [va_up_self, hst, ab_learn]
  split
  next h =>
    obtain ⟨-, -, -, -, -, h6, -⟩ := hI
    exact ((h6 p hp).2.2.2.2.2 h).symm
  next h => rfl

set_option maxRecDepth 4000 in
theorem ask_221 {w0 w : pm_W} {S : ab_S} {p : Nat} (hp : p < 4) {b : Int32} (hR1 : mo_R w (ab_ln S p b)) (hI : ab_I S) (hJ1 : ab_J (ab_ln S p b)) (hb3 : 0 ≤ b ∧ b ≤ 63) {n pc : Nat} (hn : S.2.2.2.1 5 = nI n) (hn3 : n ≤ 3) (hpc : S.2.2.2.1 6 = nI pc) (hpc1 : 1 ≤ pc) (hpc4 : pc ≤ 4) (hf0 : mfr w0 w [84, 85, 86, 87, 88, 91, 95, 96, 97, 98, 99] [6, 9, 10, 11, 12, 24, 25, 26, 27]) (h25 : w.1 83 25 = -1) {x3 x4 st sm : Int32} (hst : st = if (S.2.2.1 p).1 7 = -1 then 0 else b - (S.2.2.1 p).1 7) (hsm : sm = pm_z (ab_sd (S.2.2.1 p) b)) : pm_R pm_L0 MX5_ask 221 [some (.ref 83), some (.int (nI p)), some (.int b), some (.int x3), some (.int x4), some (.int st), some (.int sm)] [] w (pm_qi fun r w2 => r = x4 ∧ mo_R w2 (ab_end S n pc p b) ∧ w2.1 83 25 = -1 ∧ mfr w0 w2 [84, 85, 86, 87, 88, 91, 95, 96, 97, 98, 99] [6, 9, 10, 11, 12, 24, 25, 26, 27]) := by
  have hI1 := I_ln hI hp hb3
  have i12 : S.2.2.2.2.length ≤ 1000000 := by
    obtain ⟨-, -, -, -, -, -, -, -, h⟩ := hI
    exact h
  refine pm_aload_n dX5_ask_221 rfl ?_
  refine pm_iload_n dX5_ask_222 rfl ?_
  refine pm_iload_n dX5_ask_223 rfl ?_
  refine pm_iload dX5_ask_224 rfl ?_
  refine pm_iload dX5_ask_226 rfl ?_
  refine pm_cVv (as := [.int _, .int _, .int _, .int _]) (by first | assumption | rfl) (by decide) rfl ml_RX5_200 (by decide) (Nat.le_of_ble_eq_true rfl) dX5_ask_228 (c_X5_wishAll hR1 hI1 hJ1 hp hb3 (sd := ab_sd (S.2.2.1 p) b) (fun _ _ => ln_8 hI hp hst) hsm) (fun w2 hq => ?_)
  obtain ⟨hR2, hf2⟩ := hq
  have hI2 := I_wish (sd := ab_sd (S.2.2.1 p) b) hI1 hp b
  have hk2 := kp_wish (ab_ln S p b) p b (ab_sd (S.2.2.1 p) b)
  have h252 : w2.1 83 25 = -1 := (hf2.2.1 25 (by decide)).trans h25
  have hf3 : mfr w0 w2 [84, 85, 86, 87, 88, 91, 95, 96, 97, 98, 99] [6, 9, 10, 11, 12, 24, 25, 26, 27] := mfr_tr hf0 (mfr_wd hf2 (by decide) (by decide))
  refine pm_aload_n dX5_ask_231 rfl ?_
  refine pm_getI (ci := 5) (j := 24) (n := 39) (by first | assumption | rfl) (by decide) (by decide) rfl fl_RX5_126 rfl dX5_ask_232 ?_
  rw [show w2.1 83 24 = nI S.2.2.2.2.length from hR2.2.2.2.2.1.trans (by rw [hk2.1]; rfl)]
  refine pm_aload_n dX5_ask_235 rfl ?_
  refine pm_getI (ci := 5) (j := 2) (n := 39) (by first | assumption | rfl) (by decide) (by decide) rfl fl_RX5_108 rfl dX5_ask_236 ?_
  rw [show w2.1 83 2 = nI pc from hR2.2.2.2.1.2.2.1.trans (hk2.2.2.2.trans hpc)]
  refine pm_irem dX5_ask_239 (by exact nI_ne0 (by omega) (by omega)) ?_
  rw [pk_rem (by omega) (by omega) (by omega)]
  refine pm_if_ne (tgt := 247) dX5_ask_240 (by decide) (fun c240 => ?_) (fun c240 => ?_)
  · refine pm_iload dX5_ask_247 rfl ?_
    refine pm_iret dX5_ask_249 rfl ?_
    have hnz : ¬ S.2.2.2.2.length % pc = 0 := fun e => c240 (by rw [e]; rfl)
    refine ⟨rfl, ?_, h252, hf3⟩
    rw [ab_end, if_neg hnz]
    exact hR2
  · have hz : S.2.2.2.2.length % pc = 0 := (nI_eq (a := S.2.2.2.2.length % pc) (b := 0) (by have := Nat.mod_lt S.2.2.2.2.length (show 0 < pc by omega); omega) (by decide)).mp c240
    refine pm_aload_n dX5_ask_243 rfl ?_
    refine pm_cVv (as := []) (by first | assumption | rfl) (by decide) rfl ml_RX5_197 (by decide) (Nat.le_of_ble_eq_true rfl) dX5_ask_244 (c_X5_tick0 hR2 hI2 (n := n) (hk2.2.2.1.trans hn) hn3 h252) (fun w5 hq => ?_)
    obtain ⟨hR5, -, h255, hf5⟩ := hq
    refine pm_iload dX5_ask_247 rfl ?_
    refine pm_iret dX5_ask_249 rfl ?_
    refine ⟨rfl, ?_, h255, mfr_tr hf3 (mfr_wd hf5 (by decide) (by decide))⟩
    rw [ab_end, if_pos hz]
    exact hR5

set_option maxRecDepth 4000 in
theorem ask_180 {w0 w : pm_W} {S : ab_S} (hR : mo_R w S) (hI : ab_I S) (hJ : ab_J S) {p : Nat} (hp : p < 4) {b : Int32} (hb3 : 0 ≤ b ∧ b ≤ 63) {n pc : Nat} (hn : S.2.2.2.1 5 = nI n) (hn1 : 1 ≤ n) (hn3 : n ≤ 3) (hpc : S.2.2.2.1 6 = nI pc) (hpc1 : 1 ≤ pc) (hpc4 : pc ≤ 4) (hf0 : mfr w0 w [84, 85, 86, 87, 88, 91, 95, 96, 97, 98, 99] [6, 9, 10, 11, 12, 24, 25, 26, 27]) (h25 : w.1 83 25 = -1) {x3 x4 st sm : Int32} (hst : st = if (S.2.2.1 p).1 7 = -1 then 0 else b - (S.2.2.1 p).1 7) (hsm : sm = pm_z (ab_sd (S.2.2.1 p) b)) : pm_R pm_L0 MX5_ask 180 [some (.ref 83), some (.int (nI p)), some (.int b), some (.int x3), some (.int x4), some (.int st), some (.int sm)] [] w (pm_qi fun r w2 => r = x4 ∧ mo_R w2 (ab_end S n pc p b) ∧ w2.1 83 25 = -1 ∧ mfr w0 w2 [84, 85, 86, 87, 88, 91, 95, 96, 97, 98, 99] [6, 9, 10, 11, 12, 24, 25, 26, 27]) := by
  obtain ⟨g1, g2, g3, g4, g5⟩ := id hR
  obtain ⟨⟨sp, i1, i2, i3, i4⟩, i5, i6, i7, i8, i9, i10, i11, i12⟩ := id hI
  refine pm_aload_n dX5_ask_180 rfl ?_
  refine pm_getR (ci := 5) (j := 19) (n := 39) (by first | assumption | rfl) (by decide) (by decide) rfl fl_RX5_44 rfl (by first | assumption | rfl) dX5_ask_181 ?_
  refine pm_iload_n dX5_ask_184 rfl ?_
  refine pm_ialdN (by first | assumption | rfl) (by omega) (by first | decide | omega) dX5_ask_185 ?_
  rw [show w.1 95 p = (S.2.2.1 p).1 7 from (g3 p hp).2.2.2.2.2.1]
  refine pm_if_lt (tgt := 206) dX5_ask_186 (by decide) (fun c186 => ?_) (fun c186 => ?_)
  · refine pm_aload_n dX5_ask_206 rfl ?_
    refine pm_getR (ci := 5) (j := 19) (n := 39) (by first | assumption | rfl) (by decide) (by decide) rfl fl_RX5_44 rfl (by first | assumption | rfl) dX5_ask_207 ?_
    refine pm_iload_n dX5_ask_210 rfl ?_
    refine pm_iload_n dX5_ask_211 rfl ?_
    refine pm_iastN (by first | assumption | rfl) (by omega) (by first | decide | omega) dX5_ask_212 ?_
    refine pm_aload_n dX5_ask_213 rfl ?_
    refine pm_getR (ci := 5) (j := 20) (n := 39) (by first | assumption | rfl) (by decide) (by decide) rfl fl_RX5_47 rfl (by first | assumption | rfl) dX5_ask_214 ?_
    refine pm_iload_n dX5_ask_217 rfl ?_
    refine pm_iload dX5_ask_218 rfl ?_
    refine pm_iastN (by first | assumption | rfl) (by omega) (by first | decide | omega) dX5_ask_220 ?_
    have h7n : (S.2.2.1 p).1 7 = -1 := (i9 p hp).1.resolve_right (fun z => absurd z.1 (Int32.not_le.mpr c186))
    refine ask_221 hp ?_ hI hJ hb3 hn hn3 hpc hpc1 hpc4 (mfr_c (mfr_c hf0 (k := 95) (by decide) (by decide) _) (k := 96) (by decide) (by decide) _) (by simp [pm_s, h25]) hst hsm
    refine mo_ask hR (fun t ht => ?_) (mfr_c (mfr_c (mfr_rf _ _ _) (k := 95) (by decide) (by decide) _) (k := 96) (by decide) (by decide) _)
    by_cases htq : t = p
    · subst htq
      rw [va_up_self]
      obtain ⟨h1, h2, h3, h4, h5, h6, h7, h8, h9⟩ := g3 t ht
      have hl := (i9 t ht).2.2.2.2.2 h7n
      rw [if_pos h7n] at hst
      rw [ab_learn, if_pos h7n, hst]
      refine ⟨by simp [pm_s, upd, h1], by simpa [pm_s, upd] using h2, by simp [pm_s, upd, h3], by simp [pm_s, upd, h4], fun z => by simpa [pm_s, upd] using h5 z, by simp [pm_s, upd], by simp [pm_s, upd, hl], fun j hj => by simp only [pm_s]; exact h8 j hj, fun j hj => by simp only [pm_s]; exact h9 j hj⟩
    · rw [va_up_ne _ _ htq]
      refine moA_at (g3 t ht) (fun a z1 z2 => ?_) (by simp [pm_s]) (by simp [pm_s])
      rcases (show a = 89 ∨ a = 90 ∨ a = 91 ∨ a = 92 ∨ a = 93 ∨ a = 94 ∨ a = 95 ∨ a = 96 by omega) with rfl | rfl | rfl | rfl | rfl | rfl | rfl | rfl <;> simp [pm_s, upd, htq]
  · have h7n : ¬ (S.2.2.1 p).1 7 = -1 := fun e => by rw [e] at c186; exact absurd (by decide) c186
    obtain ⟨y, hy, ey⟩ := nI_of2 (n := 63) (M := 63) (by decide) (Int32.not_lt.mpr ((i9 p hp).1.resolve_left h7n).1) ((i9 p hp).1.resolve_left h7n).2
    refine pm_aload_n dX5_ask_189 rfl ?_
    refine pm_getR (ci := 5) (j := 21) (n := 39) (by first | assumption | rfl) (by decide) (by decide) rfl fl_RX5_50 rfl (by first | assumption | rfl) dX5_ask_190 ?_
    refine pm_bipush (x := 64) dX5_ask_193 rfl ?_
    refine pm_iload_n dX5_ask_195 rfl ?_
    refine pm_imul dX5_ask_196 ?_
    refine pm_aload_n dX5_ask_197 rfl ?_
    refine pm_getR (ci := 5) (j := 19) (n := 39) (by first | assumption | rfl) (by decide) (by decide) rfl fl_RX5_44 rfl (by first | assumption | rfl) dX5_ask_198 ?_
    refine pm_iload_n dX5_ask_201 rfl ?_
    refine pm_ialdN (by first | assumption | rfl) (by omega) (by first | decide | omega) dX5_ask_202 ?_
    rw [show w.1 95 p = nI y from (g3 p hp).2.2.2.2.2.1.trans ey]
    refine pm_iadd dX5_ask_203 ?_
    refine pm_topi (nI (64 * p + y)) (by rw [show (64 : Int32) = nI 64 from rfl, pk_mul, nI_add]) ?_
    refine pm_iload_n dX5_ask_204 rfl ?_
    refine pm_iastN (by first | assumption | rfl) (by omega) (by first | decide | omega) dX5_ask_205 ?_
    refine pm_aload_n dX5_ask_206 rfl ?_
    refine pm_getR (ci := 5) (j := 19) (n := 39) (by first | assumption | rfl) (by decide) (by decide) rfl fl_RX5_44 rfl (by first | assumption | rfl) dX5_ask_207 ?_
    refine pm_iload_n dX5_ask_210 rfl ?_
    refine pm_iload_n dX5_ask_211 rfl ?_
    refine pm_iastN (by first | assumption | rfl) (by omega) (by first | decide | omega) dX5_ask_212 ?_
    refine pm_aload_n dX5_ask_213 rfl ?_
    refine pm_getR (ci := 5) (j := 20) (n := 39) (by first | assumption | rfl) (by decide) (by decide) rfl fl_RX5_47 rfl (by first | assumption | rfl) dX5_ask_214 ?_
    refine pm_iload_n dX5_ask_217 rfl ?_
    refine pm_iload dX5_ask_218 rfl ?_
    refine pm_iastN (by first | assumption | rfl) (by omega) (by first | decide | omega) dX5_ask_220 ?_
    refine ask_221 hp ?_ hI hJ hb3 hn hn3 hpc hpc1 hpc4 (mfr_c (mfr_c (mfr_c hf0 (k := 97) (by decide) (by decide) _) (k := 95) (by decide) (by decide) _) (k := 96) (by decide) (by decide) _) (by simp [pm_s, h25]) hst hsm
    refine mo_ask hR (fun t ht => ?_) (mfr_c (mfr_c (mfr_c (mfr_rf _ _ _) (k := 97) (by decide) (by decide) _) (k := 95) (by decide) (by decide) _) (k := 96) (by decide) (by decide) _)
    obtain ⟨h1, h2, h3, h4, h5, h6, h7, h8, h9⟩ := g3 t ht
    by_cases htq : t = p
    · subst htq
      rw [va_up_self]
      rw [if_neg h7n] at hst
      rw [ab_learn, if_neg h7n, hst, ey, nI_clamp (by omega)]
      refine ⟨by simp [pm_s, upd, h1], by simpa [pm_s, upd] using h2, by simp [pm_s, upd, h3], by simp [pm_s, upd, h4], fun z => by simpa [pm_s, upd] using h5 z, by simp [pm_s, upd], by simp [pm_s, upd, ey], fun j hj => ?_, fun j hj => by simp only [pm_s]; exact h9 j hj⟩
      simp only [pm_s]
      show upd (w.1 97) (64 * t + y) b (64 * t + j) = upd (S.2.2.1 t).2.2 y b j
      by_cases hjy : j = y
      · subst hjy; rw [pk_us, pk_us]
      · rw [pk_un (by omega), pk_un hjy]; exact h8 j hj
    · rw [va_up_ne _ _ htq]
      have E : ∀ a, 89 ≤ a → a ≤ 96 → (pm_s (pm_s (pm_s w 97 (upd (w.1 97) (64 * p + y) b)) 95 (upd ((pm_s w 97 (upd (w.1 97) (64 * p + y) b)).1 95) p b)) 96 (upd ((pm_s (pm_s w 97 (upd (w.1 97) (64 * p + y) b)) 95 (upd ((pm_s w 97 (upd (w.1 97) (64 * p + y) b)).1 95) p b)).1 96) p st)).1 a t = w.1 a t := fun a z1 z2 => by
        rcases (show a = 89 ∨ a = 90 ∨ a = 91 ∨ a = 92 ∨ a = 93 ∨ a = 94 ∨ a = 95 ∨ a = 96 by omega) with rfl | rfl | rfl | rfl | rfl | rfl | rfl | rfl <;> simp [pm_s, upd, htq]
      unfold mo_A
      rw [E 89 (by decide) (by decide), E 90 (by decide) (by decide), E 91 (by decide) (by decide), E 92 (by decide) (by decide), E 93 (by decide) (by decide), E 94 (by decide) (by decide), E 95 (by decide) (by decide), E 96 (by decide) (by decide)]
      refine ⟨h1, h2, h3, h4, h5, h6, h7, fun j hj => ?_, fun j hj => by simp only [pm_s]; exact h9 j hj⟩
      simp only [pm_s]
      show upd (w.1 97) (64 * p + y) b (64 * t + j) = _
      rw [pk_un (by omega)]
      exact h8 j hj

set_option maxRecDepth 4000 in
theorem ask_134 {w0 w : pm_W} {S : ab_S} (hR : mo_R w S) (hI : ab_I S) (hJ : ab_J S) {p : Nat} (hp : p < 4) {b : Int32} (hb3 : 0 ≤ b ∧ b ≤ 63) {n pc : Nat} (hn : S.2.2.2.1 5 = nI n) (hn1 : 1 ≤ n) (hn3 : n ≤ 3) (hpc : S.2.2.2.1 6 = nI pc) (hpc1 : 1 ≤ pc) (hpc4 : pc ≤ 4) (hf0 : mfr w0 w [84, 85, 86, 87, 88, 91, 95, 96, 97, 98, 99] [6, 9, 10, 11, 12, 24, 25, 26, 27]) (h25 : w.1 83 25 = -1) {x3 x4 : Int32} : pm_R pm_L0 MX5_ask 134 [some (.ref 83), some (.int (nI p)), some (.int b), some (.int x3), some (.int x4), none, none] [] w (pm_qi fun r w2 => r = x4 ∧ mo_R w2 (ab_end S n pc p b) ∧ w2.1 83 25 = -1 ∧ mfr w0 w2 [84, 85, 86, 87, 88, 91, 95, 96, 97, 98, 99] [6, 9, 10, 11, 12, 24, 25, 26, 27]) := by
  obtain ⟨g1, g2, g3, g4, g5⟩ := id hR
  obtain ⟨⟨sp, i1, i2, i3, i4⟩, i5, i6, i7, i8, i9, i10, i11, i12⟩ := id hI
  refine pm_aload_n dX5_ask_134 rfl ?_
  refine pm_getR (ci := 5) (j := 19) (n := 39) (by first | assumption | rfl) (by decide) (by decide) rfl fl_RX5_44 rfl (by first | assumption | rfl) dX5_ask_135 ?_
  refine pm_iload_n dX5_ask_138 rfl ?_
  refine pm_ialdN (by first | assumption | rfl) (by omega) (by first | decide | omega) dX5_ask_139 ?_
  rw [show w.1 95 p = (S.2.2.1 p).1 7 from (g3 p hp).2.2.2.2.2.1]
  refine pm_if_ge (tgt := 147) dX5_ask_140 (by decide) (fun c140 => ?_) (fun c140 => ?_)
  · have h7n : ¬ (S.2.2.1 p).1 7 = -1 := fun e => by rw [e] at c140; exact absurd c140 (by decide)
    refine pm_iload_n dX5_ask_147 rfl ?_
    refine pm_aload_n dX5_ask_148 rfl ?_
    refine pm_getR (ci := 5) (j := 19) (n := 39) (by first | assumption | rfl) (by decide) (by decide) rfl fl_RX5_44 rfl (by first | assumption | rfl) dX5_ask_149 ?_
    refine pm_iload_n dX5_ask_152 rfl ?_
    refine pm_ialdN (by first | assumption | rfl) (by omega) (by first | decide | omega) dX5_ask_153 ?_
    rw [show w.1 95 p = (S.2.2.1 p).1 7 from (g3 p hp).2.2.2.2.2.1]
    refine pm_isub dX5_ask_154 ?_
    refine pm_istore (lv' := [some (.ref _), some (.int _), some (.int _), some (.int _), some (.int _), some (.int _), none]) dX5_ask_155 (by decide) rfl ?_
    refine pm_iload dX5_ask_157 rfl ?_
    refine pm_if_eq (tgt := 177) dX5_ask_159 (by decide) (fun c159 => ?_) (fun c159 => ?_)
    · refine pm_iconst (x := 0) dX5_ask_177 rfl ?_
      refine pm_istore (lv' := [some (.ref _), some (.int _), some (.int _), some (.int _), some (.int _), some (.int _), some (.int _)]) dX5_ask_178 (by decide) rfl ?_
      first
      | exact ask_180 hR hI hJ hp hb3 hn hn1 hn3 hpc hpc1 hpc4 hf0 h25 (by rw [if_pos h7n]) (by simp_all [ab_sd, pm_z])
      | exact ask_180 hR hI hJ hp hb3 hn hn1 hn3 hpc hpc1 hpc4 hf0 h25 (by rw [if_neg h7n]) (by simp_all [ab_sd, pm_z])
    · refine pm_iload dX5_ask_162 rfl ?_
      refine pm_aload_n dX5_ask_164 rfl ?_
      refine pm_getR (ci := 5) (j := 20) (n := 39) (by first | assumption | rfl) (by decide) (by decide) rfl fl_RX5_47 rfl (by first | assumption | rfl) dX5_ask_165 ?_
      refine pm_iload_n dX5_ask_168 rfl ?_
      refine pm_ialdN (by first | assumption | rfl) (by omega) (by first | decide | omega) dX5_ask_169 ?_
      rw [show w.1 96 p = (S.2.2.1 p).1 8 from (g3 p hp).2.2.2.2.2.2.1]
      refine pm_icmp_ne (tgt := 177) dX5_ask_170 (by decide) (fun c170 => ?_) (fun c170 => ?_)
      · refine pm_iconst (x := 0) dX5_ask_177 rfl ?_
        refine pm_istore (lv' := [some (.ref _), some (.int _), some (.int _), some (.int _), some (.int _), some (.int _), some (.int _)]) dX5_ask_178 (by decide) rfl ?_
        first
      | exact ask_180 hR hI hJ hp hb3 hn hn1 hn3 hpc hpc1 hpc4 hf0 h25 (by rw [if_pos h7n]) (by simp_all [ab_sd, pm_z])
      | exact ask_180 hR hI hJ hp hb3 hn hn1 hn3 hpc hpc1 hpc4 hf0 h25 (by rw [if_neg h7n]) (by simp_all [ab_sd, pm_z])
      · refine pm_iconst (x := 1) dX5_ask_173 rfl ?_
        refine pm_goto (tgt := 178) dX5_ask_174 (by decide) ?_
        refine pm_istore (lv' := [some (.ref _), some (.int _), some (.int _), some (.int _), some (.int _), some (.int _), some (.int _)]) dX5_ask_178 (by decide) rfl ?_
        first
      | exact ask_180 hR hI hJ hp hb3 hn hn1 hn3 hpc hpc1 hpc4 hf0 h25 (by rw [if_pos h7n]) (by simp_all [ab_sd, pm_z])
      | exact ask_180 hR hI hJ hp hb3 hn hn1 hn3 hpc hpc1 hpc4 hf0 h25 (by rw [if_neg h7n]) (by simp_all [ab_sd, pm_z])
  · have h7n : (S.2.2.1 p).1 7 = -1 := (i9 p hp).1.resolve_right (fun z => c140 z.1)
    refine pm_iconst (x := 0) dX5_ask_143 rfl ?_
    refine pm_goto (tgt := 155) dX5_ask_144 (by decide) ?_
    refine pm_istore (lv' := [some (.ref _), some (.int _), some (.int _), some (.int _), some (.int _), some (.int _), none]) dX5_ask_155 (by decide) rfl ?_
    refine pm_iload dX5_ask_157 rfl ?_
    refine pm_if_eq (tgt := 177) dX5_ask_159 (by decide) (fun c159 => ?_) (fun c159 => ?_)
    · refine pm_iconst (x := 0) dX5_ask_177 rfl ?_
      refine pm_istore (lv' := [some (.ref _), some (.int _), some (.int _), some (.int _), some (.int _), some (.int _), some (.int _)]) dX5_ask_178 (by decide) rfl ?_
      first
      | exact ask_180 hR hI hJ hp hb3 hn hn1 hn3 hpc hpc1 hpc4 hf0 h25 (by rw [if_pos h7n]) (by simp_all [ab_sd, pm_z])
      | exact ask_180 hR hI hJ hp hb3 hn hn1 hn3 hpc hpc1 hpc4 hf0 h25 (by rw [if_neg h7n]) (by simp_all [ab_sd, pm_z])
    · refine pm_iload dX5_ask_162 rfl ?_
      refine pm_aload_n dX5_ask_164 rfl ?_
      refine pm_getR (ci := 5) (j := 20) (n := 39) (by first | assumption | rfl) (by decide) (by decide) rfl fl_RX5_47 rfl (by first | assumption | rfl) dX5_ask_165 ?_
      refine pm_iload_n dX5_ask_168 rfl ?_
      refine pm_ialdN (by first | assumption | rfl) (by omega) (by first | decide | omega) dX5_ask_169 ?_
      rw [show w.1 96 p = (S.2.2.1 p).1 8 from (g3 p hp).2.2.2.2.2.2.1]
      refine pm_icmp_ne (tgt := 177) dX5_ask_170 (by decide) (fun c170 => ?_) (fun c170 => ?_)
      · refine pm_iconst (x := 0) dX5_ask_177 rfl ?_
        refine pm_istore (lv' := [some (.ref _), some (.int _), some (.int _), some (.int _), some (.int _), some (.int _), some (.int _)]) dX5_ask_178 (by decide) rfl ?_
        first
      | exact ask_180 hR hI hJ hp hb3 hn hn1 hn3 hpc hpc1 hpc4 hf0 h25 (by rw [if_pos h7n]) (by simp_all [ab_sd, pm_z])
      | exact ask_180 hR hI hJ hp hb3 hn hn1 hn3 hpc hpc1 hpc4 hf0 h25 (by rw [if_neg h7n]) (by simp_all [ab_sd, pm_z])
      · refine pm_iconst (x := 1) dX5_ask_173 rfl ?_
        refine pm_goto (tgt := 178) dX5_ask_174 (by decide) ?_
        refine pm_istore (lv' := [some (.ref _), some (.int _), some (.int _), some (.int _), some (.int _), some (.int _), some (.int _)]) dX5_ask_178 (by decide) rfl ?_
        first
      | exact ask_180 hR hI hJ hp hb3 hn hn1 hn3 hpc hpc1 hpc4 hf0 h25 (by rw [if_pos h7n]) (by simp_all [ab_sd, pm_z])
      | exact ask_180 hR hI hJ hp hb3 hn hn1 hn3 hpc hpc1 hpc4 hf0 h25 (by rw [if_neg h7n]) (by simp_all [ab_sd, pm_z])

set_option maxRecDepth 4000 in
theorem ask_74 {w0 w : pm_W} {S : ab_S} (hR : mo_R w S) (hI : ab_I S) (hJ : ab_J S) {p : Nat} (hp : p < 4) {b : Int32} (hb3 : 0 ≤ b ∧ b ≤ 63) {n pc : Nat} (hn : S.2.2.2.1 5 = nI n) (hn1 : 1 ≤ n) (hn3 : n ≤ 3) (hpc : S.2.2.2.1 6 = nI pc) (hpc1 : 1 ≤ pc) (hpc4 : pc ≤ 4) (hf0 : mfr w0 w [84, 85, 86, 87, 88, 91, 95, 96, 97, 98, 99] [6, 9, 10, 11, 12, 24, 25, 26, 27]) (h25 : w.1 83 25 = -1) {x4 : Int32} : pm_R pm_L0 MX5_ask 74 [some (.ref 83), some (.int (nI p)), some (.int b), some (.int (ab_enc (ab_fi S.1 b) S.1.length)), some (.int x4), none, none] [] w (pm_qi fun r w2 => r = x4 ∧ mo_R w2 (ab_end (ab_a1 S n p b) n pc p b) ∧ w2.1 83 25 = -1 ∧ mfr w0 w2 [84, 85, 86, 87, 88, 91, 95, 96, 97, 98, 99] [6, 9, 10, 11, 12, 24, 25, 26, 27]) := by
  obtain ⟨g1, g2, g3, g4, g5⟩ := id hR
  obtain ⟨⟨sp, i1, i2, i3, i4⟩, i5, i6, i7, i8, i9, i10, i11, i12⟩ := id hI
  refine pm_iload_n dX5_ask_74 rfl ?_
  refine pm_if_lt (tgt := 87) dX5_ask_75 (by decide) (fun c75 => ?_) (fun c75 => ?_)
  · have hfi : ¬ ab_fi S.1 b < S.1.length := fun h => by
      rw [← enc_nn (n := S.1.length) (by omega)] at h
      exact absurd c75 (Int32.not_lt.mpr h)
    refine pm_aload_n dX5_ask_87 rfl ?_
    refine pm_iload_n dX5_ask_88 rfl ?_
    refine pm_cVi (as := [.int _]) (by first | assumption | rfl) (by decide) rfl ml_RX5_184 (by decide) (Nat.le_of_ble_eq_true rfl) dX5_ask_89 (c_X5_waitOf g2 i5 hJ.2.1 b) (fun x1 w1 hq => ?_)
    obtain ⟨rfl, hw9⟩ := hq
    have hw9 := hw9.symm
    subst hw9
    refine pm_istore (lv' := [some (.ref _), some (.int _), some (.int _), some (.int _), some (.int _), some (.int _), none]) dX5_ask_92 (by decide) rfl ?_
    refine pm_iload dX5_ask_94 rfl ?_
    refine pm_if_lt (tgt := 105) dX5_ask_96 (by decide) (fun c96 => ?_) (fun c96 => ?_)
    · first
        | have z9 := hwi
          obtain ⟨wu, hwu, hRu, hfu⟩ : ∃ wu, wu = wq ∧ mo_R wu (S.1, if ab_fi S.2.1 b < S.2.1.length then S.2.1.eraseIdx (ab_fi S.2.1 b) else S.2.1, S.2.2) ∧ mfr w0 wu [84, 85, 86, 87, 88, 91, 95, 96, 97, 98, 99] [6, 9, 10, 11, 12, 24, 25, 26, 27] := ⟨wq, rfl, by rw [if_pos hwi]; exact mo_line hR qm qf, mfr_tr hf0 (mfr_wd qf (by decide) (by decide))⟩
        | obtain ⟨wu, hwu, hRu, hfu⟩ : ∃ wu, wu = w ∧ mo_R wu (S.1, if ab_fi S.2.1 b < S.2.1.length then S.2.1.eraseIdx (ab_fi S.2.1 b) else S.2.1, S.2.2) ∧ mfr w0 wu [84, 85, 86, 87, 88, 91, 95, 96, 97, 98, 99] [6, 9, 10, 11, 12, 24, 25, 26, 27] := ⟨w, rfl, by rw [if_neg (fun h => by rw [← enc_nn (n := S.2.1.length) (by omega)] at h; exact absurd c96 (Int32.not_lt.mpr h))]; exact hR, hf0⟩
      rw [← hwu]
      refine pm_aload_n dX5_ask_105 rfl ?_
      refine pm_getR (ci := 5) (j := 22) (n := 39) (by first | assumption | rfl) (by decide) (by decide) rfl fl_RX5_53 rfl (by first | assumption | rfl) dX5_ask_106 ?_
      refine pm_bipush (x := 7) dX5_ask_109 rfl ?_
      refine pm_iload_n dX5_ask_111 rfl ?_
      refine pm_imul dX5_ask_112 ?_
      refine pm_iconst (x := 2) dX5_ask_113 rfl ?_
      refine pm_iadd dX5_ask_114 ?_
      refine pm_topi (nI (7 * p + 2)) (by rw [show (7 : Int32) = nI 7 from rfl, pk_mul, show (2 : Int32) = nI 2 from rfl, nI_add]) ?_
      refine pm_dup2 dX5_ask_115 rfl rfl ?_
      refine pm_ialdN (by first | assumption | rfl) (by omega) (by first | decide | omega) dX5_ask_116 ?_
      refine pm_iconst (x := 1) dX5_ask_117 rfl ?_
      refine pm_iadd dX5_ask_118 ?_
      refine pm_iastN (by first | assumption | rfl) (by omega) (by first | decide | omega) dX5_ask_119 ?_
      have hB : ∀ t, t < 4 → mo_A (pm_s wu 98 (upd (wu.1 98) (7 * p + 2) (wu.1 98 (7 * p + 2) + 1))) t (va_up S.2.2.1 p (ab_inc (S.2.2.1 p) 2) t) := fun t ht => by
        have h9 := mo_inc (p := p) (j := 2) (by decide) (hRu.2.2.1 t ht)
        by_cases htp : t = p
        · subst htp; rw [if_pos rfl] at h9; rw [va_up_self]; exact h9
        · rw [if_neg htp] at h9; rw [va_up_ne _ _ htp]; exact h9
      have hRd : mo_R (pm_s wu 98 (upd (wu.1 98) (7 * p + 2) (wu.1 98 (7 * p + 2) + 1))) (ab_dem S p b) := mo_ask hRu hB (mfr_wd (mfr_c (mfr_rf wu [98] []) (k := 98) (by decide) (by decide) _) (by decide) (by decide))
      have hfd : mfr w0 (pm_s wu 98 (upd (wu.1 98) (7 * p + 2) (wu.1 98 (7 * p + 2) + 1))) [84, 85, 86, 87, 88, 91, 95, 96, 97, 98, 99] [6, 9, 10, 11, 12, 24, 25, 26, 27] := mfr_c hfu (by decide) (by decide) _
      generalize (pm_s wu 98 (upd (wu.1 98) (7 * p + 2) (wu.1 98 (7 * p + 2) + 1))) = wd at hRd hfd ⊢
      refine pm_aload_n dX5_ask_120 rfl ?_
      refine pm_iload_n dX5_ask_121 rfl ?_
      refine pm_putI (ci := 5) (j := 25) (n := 39) (by first | assumption | rfl) (by decide) (by decide) rfl fl_RX5_59 rfl rfl dX5_ask_122 ?_
      refine pm_aload_n dX5_ask_125 rfl ?_
      refine pm_iload_n dX5_ask_126 rfl ?_
      refine pm_putI (ci := 5) (j := 26) (n := 39) (by first | assumption | rfl) (by decide) (by decide) rfl fl_RX5_167 rfl rfl dX5_ask_127 ?_
      have hRt : mo_R (pm_s (pm_s wd 83 (upd (wd.1 83) 25 b)) 83 (upd ((pm_s wd 83 (upd (wd.1 83) 25 b)).1 83) 26 (nI p))) (ab_dem S p b) := mo_cong hRd (fun a q1 q2 => by rw [pm_s_ne (by omega), pm_s_ne (by omega)]) (fun j hj => by rw [pm_s_at, pk_un (by omega), pm_s_at, pk_un (by omega)])
      have hft : mfr w0 (pm_s (pm_s wd 83 (upd (wd.1 83) 25 b)) 83 (upd ((pm_s wd 83 (upd (wd.1 83) 25 b)).1 83) 26 (nI p))) [84, 85, 86, 87, 88, 91, 95, 96, 97, 98, 99] [6, 9, 10, 11, 12, 24, 25, 26, 27] := mfr_j (mfr_j hfd (j := 25) (by decide) _) (j := 26) (by decide) _
      refine pm_aload_n dX5_ask_130 rfl ?_
      refine pm_cVv (as := []) (by first | assumption | rfl) (by decide) rfl ml_RX5_197 (by decide) (Nat.le_of_ble_eq_true rfl) dX5_ask_131 (c_X5_tickD hRt (I_dem hI hp b) (n := n) hn hn1 hn3 ⟨hp, hb3.1, hb3.2, Or.inl rfl⟩ (by simp [pm_s, upd]) (by simp [pm_s, upd])) (fun w5 hq => ?_)
      obtain ⟨hR5, -, h255, hf5⟩ := hq
      rw [show (ab_tick (ab_dem S p b) n (some (b, p))).1 = ab_a1 S n p b by rw [ab_a1, if_neg hfi]] at hR5
      refine pm_fg (lv' := [some (.ref _), some (.int _), some (.int _), some (.int _), some (.int _), none, none]) (pm_le_k rfl (pm_le_k rfl (pm_le_k rfl (pm_le_k rfl (pm_le_k rfl (pm_le_n (pm_le_n pm_le_0))))))) ?_
      exact ask_134 hR5 (I_a1 hI hp hb3) (J_a1 hJ n p b) hp hb3 ((kp_a1 S n p b).2.2.1.trans hn) hn1 hn3 ((kp_a1 S n p b).2.2.2.trans hpc) hpc1 hpc4 (mfr_tr hft (mfr_wd hf5 (by decide) (by decide))) h255
    · have hwi : ab_fi S.2.1 b < S.2.1.length := by
        rw [← enc_nn (n := S.2.1.length) (by omega)]
        exact Int32.not_lt.mp c96
      refine pm_aload_n dX5_ask_99 rfl ?_
      refine pm_iload dX5_ask_100 rfl ?_
      rw [show ab_enc (ab_fi S.2.1 b) S.2.1.length = nI (ab_fi S.2.1 b) from if_pos hwi]
      refine pm_cVv (as := [.int _]) (by first | assumption | rfl) (by decide) rfl ml_RX5_178 (by decide) (Nat.le_of_ble_eq_true rfl) dX5_ask_102 (c_X5_unwait g2 i5 hwi) (fun wq hq => ?_)
      obtain ⟨qm, qf⟩ := hq
      first
        | have z9 := hwi
          obtain ⟨wu, hwu, hRu, hfu⟩ : ∃ wu, wu = wq ∧ mo_R wu (S.1, if ab_fi S.2.1 b < S.2.1.length then S.2.1.eraseIdx (ab_fi S.2.1 b) else S.2.1, S.2.2) ∧ mfr w0 wu [84, 85, 86, 87, 88, 91, 95, 96, 97, 98, 99] [6, 9, 10, 11, 12, 24, 25, 26, 27] := ⟨wq, rfl, by rw [if_pos hwi]; exact mo_line hR qm qf, mfr_tr hf0 (mfr_wd qf (by decide) (by decide))⟩
        | obtain ⟨wu, hwu, hRu, hfu⟩ : ∃ wu, wu = w ∧ mo_R wu (S.1, if ab_fi S.2.1 b < S.2.1.length then S.2.1.eraseIdx (ab_fi S.2.1 b) else S.2.1, S.2.2) ∧ mfr w0 wu [84, 85, 86, 87, 88, 91, 95, 96, 97, 98, 99] [6, 9, 10, 11, 12, 24, 25, 26, 27] := ⟨w, rfl, by rw [if_neg (fun h => by rw [← enc_nn (n := S.2.1.length) (by omega)] at h; exact absurd c96 (Int32.not_lt.mpr h))]; exact hR, hf0⟩
      rw [← hwu]
      refine pm_aload_n dX5_ask_105 rfl ?_
      refine pm_getR (ci := 5) (j := 22) (n := 39) (by first | assumption | rfl) (by decide) (by decide) rfl fl_RX5_53 rfl (by first | assumption | rfl) dX5_ask_106 ?_
      refine pm_bipush (x := 7) dX5_ask_109 rfl ?_
      refine pm_iload_n dX5_ask_111 rfl ?_
      refine pm_imul dX5_ask_112 ?_
      refine pm_iconst (x := 2) dX5_ask_113 rfl ?_
      refine pm_iadd dX5_ask_114 ?_
      refine pm_topi (nI (7 * p + 2)) (by rw [show (7 : Int32) = nI 7 from rfl, pk_mul, show (2 : Int32) = nI 2 from rfl, nI_add]) ?_
      refine pm_dup2 dX5_ask_115 rfl rfl ?_
      refine pm_ialdN (by first | assumption | rfl) (by omega) (by first | decide | omega) dX5_ask_116 ?_
      refine pm_iconst (x := 1) dX5_ask_117 rfl ?_
      refine pm_iadd dX5_ask_118 ?_
      refine pm_iastN (by first | assumption | rfl) (by omega) (by first | decide | omega) dX5_ask_119 ?_
      have hB : ∀ t, t < 4 → mo_A (pm_s wu 98 (upd (wu.1 98) (7 * p + 2) (wu.1 98 (7 * p + 2) + 1))) t (va_up S.2.2.1 p (ab_inc (S.2.2.1 p) 2) t) := fun t ht => by
        have h9 := mo_inc (p := p) (j := 2) (by decide) (hRu.2.2.1 t ht)
        by_cases htp : t = p
        · subst htp; rw [if_pos rfl] at h9; rw [va_up_self]; exact h9
        · rw [if_neg htp] at h9; rw [va_up_ne _ _ htp]; exact h9
      have hRd : mo_R (pm_s wu 98 (upd (wu.1 98) (7 * p + 2) (wu.1 98 (7 * p + 2) + 1))) (ab_dem S p b) := mo_ask hRu hB (mfr_wd (mfr_c (mfr_rf wu [98] []) (k := 98) (by decide) (by decide) _) (by decide) (by decide))
      have hfd : mfr w0 (pm_s wu 98 (upd (wu.1 98) (7 * p + 2) (wu.1 98 (7 * p + 2) + 1))) [84, 85, 86, 87, 88, 91, 95, 96, 97, 98, 99] [6, 9, 10, 11, 12, 24, 25, 26, 27] := mfr_c hfu (by decide) (by decide) _
      generalize (pm_s wu 98 (upd (wu.1 98) (7 * p + 2) (wu.1 98 (7 * p + 2) + 1))) = wd at hRd hfd ⊢
      refine pm_aload_n dX5_ask_120 rfl ?_
      refine pm_iload_n dX5_ask_121 rfl ?_
      refine pm_putI (ci := 5) (j := 25) (n := 39) (by first | assumption | rfl) (by decide) (by decide) rfl fl_RX5_59 rfl rfl dX5_ask_122 ?_
      refine pm_aload_n dX5_ask_125 rfl ?_
      refine pm_iload_n dX5_ask_126 rfl ?_
      refine pm_putI (ci := 5) (j := 26) (n := 39) (by first | assumption | rfl) (by decide) (by decide) rfl fl_RX5_167 rfl rfl dX5_ask_127 ?_
      have hRt : mo_R (pm_s (pm_s wd 83 (upd (wd.1 83) 25 b)) 83 (upd ((pm_s wd 83 (upd (wd.1 83) 25 b)).1 83) 26 (nI p))) (ab_dem S p b) := mo_cong hRd (fun a q1 q2 => by rw [pm_s_ne (by omega), pm_s_ne (by omega)]) (fun j hj => by rw [pm_s_at, pk_un (by omega), pm_s_at, pk_un (by omega)])
      have hft : mfr w0 (pm_s (pm_s wd 83 (upd (wd.1 83) 25 b)) 83 (upd ((pm_s wd 83 (upd (wd.1 83) 25 b)).1 83) 26 (nI p))) [84, 85, 86, 87, 88, 91, 95, 96, 97, 98, 99] [6, 9, 10, 11, 12, 24, 25, 26, 27] := mfr_j (mfr_j hfd (j := 25) (by decide) _) (j := 26) (by decide) _
      refine pm_aload_n dX5_ask_130 rfl ?_
      refine pm_cVv (as := []) (by first | assumption | rfl) (by decide) rfl ml_RX5_197 (by decide) (Nat.le_of_ble_eq_true rfl) dX5_ask_131 (c_X5_tickD hRt (I_dem hI hp b) (n := n) hn hn1 hn3 ⟨hp, hb3.1, hb3.2, Or.inl rfl⟩ (by simp [pm_s, upd]) (by simp [pm_s, upd])) (fun w5 hq => ?_)
      obtain ⟨hR5, -, h255, hf5⟩ := hq
      rw [show (ab_tick (ab_dem S p b) n (some (b, p))).1 = ab_a1 S n p b by rw [ab_a1, if_neg hfi]] at hR5
      refine pm_fg (lv' := [some (.ref _), some (.int _), some (.int _), some (.int _), some (.int _), none, none]) (pm_le_k rfl (pm_le_k rfl (pm_le_k rfl (pm_le_k rfl (pm_le_k rfl (pm_le_n (pm_le_n pm_le_0))))))) ?_
      exact ask_134 hR5 (I_a1 hI hp hb3) (J_a1 hJ n p b) hp hb3 ((kp_a1 S n p b).2.2.1.trans hn) hn1 hn3 ((kp_a1 S n p b).2.2.2.trans hpc) hpc1 hpc4 (mfr_tr hft (mfr_wd hf5 (by decide) (by decide))) h255
  · have hfi : ab_fi S.1 b < S.1.length := by
      rw [← enc_nn (n := S.1.length) (by omega)]
      exact Int32.not_lt.mp c75
    refine pm_aload_n dX5_ask_78 rfl ?_
    refine pm_iload_n dX5_ask_79 rfl ?_
    skip
    refine pm_iload_n dX5_ask_80 rfl ?_
    rw [show ab_enc (ab_fi S.1 b) S.1.length = nI (ab_fi S.1 b) from if_pos hfi]
    refine pm_cVv (as := [.int _, .int _]) (by first | assumption | rfl) (by decide) rfl ml_RX5_194 (by decide) (Nat.le_of_ble_eq_true rfl) dX5_ask_81 (c_X5_hit hR hI hp hfi) (fun w5 hq => ?_)
    obtain ⟨hR5, hf5⟩ := hq
    rw [show ab_hit S p (ab_fi S.1 b) = ab_a1 S n p b by rw [ab_a1, if_pos hfi]] at hR5
    refine pm_goto (tgt := 134) dX5_ask_84 (by decide) ?_
    exact ask_134 hR5 (I_a1 hI hp hb3) (J_a1 hJ n p b) hp hb3 ((kp_a1 S n p b).2.2.1.trans hn) hn1 hn3 ((kp_a1 S n p b).2.2.2.trans hpc) hpc1 hpc4 (mfr_tr hf0 (mfr_wd hf5 (by decide) (by decide))) ((hf5.2.1 25 (by decide)).trans h25)

theorem mw_add {w w1 : pm_W} {r : List Int32} (h : mw w r) {b : Int32} (h1 : w1.1 83 24 = nI (r.length + 1)) (h2 : w1.1 99 = upd (w.1 99) (r.length % 200) b) : mw w1 (r ++ [b]) := by
  refine ⟨by rw [h1, List.length_append, List.length_singleton], fun i x q1 q2 => ?_⟩
  rw [List.length_append, List.length_singleton] at q2
  rw [h2]
  by_cases hi : i < r.length
  · rw [List.getElem?_append_left hi] at q1
    rw [pk_un (by omega)]
    exact h.2 i x q1 (by omega)
  · have hl := (List.getElem?_eq_some_iff.mp q1).1
    rw [List.length_append, List.length_singleton] at hl
    have : i = r.length := by omega
    subst this
    rw [List.getElem?_append_right (by omega), Nat.sub_self] at q1
    cases q1
    exact pk_us

set_option maxRecDepth 4000 in
theorem c_X5_ask {w : pm_W} {S : ab_S} (hR : mo_R w S) (hI : ab_I S) (hJ : ab_J S) (hlen : S.2.2.2.2.length < 1000000) (h25 : w.1 83 25 = -1) (p b : Int32) : pm_C pm_L0 MX5_ask [.ref 83, .int p, .int b] w (pm_qi fun x w1 => x = (pu_ask S p b).1 ∧ mo_R w1 (pu_ask S p b).2 ∧ w1.1 83 25 = -1 ∧ mfr w w1 [84, 85, 86, 87, 88, 91, 95, 96, 97, 98, 99] [6, 9, 10, 11, 12, 24, 25, 26, 27]) := by
  obtain ⟨g1, g2, g3, g4, g5⟩ := id hR
  obtain ⟨⟨sp, i1, i2, i3, i4⟩, i5, i6, i7, i8, i9, i10, i11, i12⟩ := id hI
  obtain ⟨n, e5, n1, n3⟩ := i10
  obtain ⟨m, e6, m1, m4⟩ := i11
  refine pm_start (lv := [some (.ref _), some (.int _), some (.int _), none, none, none, none]) (plainFor_of_name pf5) (Nat.le_of_ble_eq_true rfl) rfl ?_
  refine pm_iload_n dX5_ask_0 rfl ?_
  refine pm_cSi (as := [.int _]) ml_RX5_137 (by decide) (Nat.le_of_ble_eq_true rfl) dX5_ask_1 (c_X5_isAsker pm_L0 _ _) (fun x1 w1 hq => ?_)
  obtain ⟨rfl, hw9⟩ := hq
  have hw9 := hw9.symm
  subst hw9
  refine pm_if_ne (tgt := 10) dX5_ask_4 (by decide) (fun c4 => ?_) (fun c4 => ?_)
  · rw [pm_z_1] at c4
    obtain ⟨q, hq4, rfl⟩ := as_of c4
    refine pm_iload_n dX5_ask_10 rfl ?_
    refine pm_cSi (as := [.int _]) ml_RX5_145 (by decide) (Nat.le_of_ble_eq_true rfl) dX5_ask_11 (c_X5_isBlock pm_L0 _ _) (fun x1 w1 hq => ?_)
    obtain ⟨rfl, hw9⟩ := hq
    have hw9 := hw9.symm
    subst hw9
    refine pm_if_ne (tgt := 20) dX5_ask_14 (by decide) (fun c14 => ?_) (fun c14 => ?_)
    · rw [pm_z_1] at c14
      have hb3 := pm_bw_t.mp c14
      refine pm_aload_n dX5_ask_20 rfl ?_
      refine pm_getR (ci := 5) (j := 22) (n := 39) (by first | assumption | rfl) (by decide) (by decide) rfl fl_RX5_53 rfl (by first | assumption | rfl) dX5_ask_21 ?_
      refine pm_bipush (x := 7) dX5_ask_24 rfl ?_
      refine pm_iload_n dX5_ask_26 rfl ?_
      refine pm_imul dX5_ask_27 ?_
      refine pm_topi (nI (7 * q + 0)) (by rw [show (7 : Int32) = nI 7 from rfl, pk_mul]; rfl) ?_
      refine pm_dup2 dX5_ask_28 rfl rfl ?_
      refine pm_ialdN (by first | assumption | rfl) (by first | omega | exact Nat.mod_lt _ (by decide)) (by first | decide | omega) dX5_ask_29 ?_
      refine pm_iconst (x := 1) dX5_ask_30 rfl ?_
      refine pm_iadd dX5_ask_31 ?_
      refine pm_iastN (by first | assumption | rfl) (by first | omega | exact Nat.mod_lt _ (by decide)) (by first | decide | omega) dX5_ask_32 ?_
      have hB : ∀ t, t < 4 → mo_A (pm_s w 98 (upd (w.1 98) (7 * q + 0) (w.1 98 (7 * q + 0) + 1))) t (va_up S.2.2.1 q (ab_inc (S.2.2.1 q) 0) t) := fun t ht => by
        have h9 := mo_inc (p := q) (j := 0) (by decide) (g3 t ht)
        by_cases htp : t = q
        · subst htp; rw [if_pos rfl] at h9; rw [va_up_self]; exact h9
        · rw [if_neg htp] at h9; rw [va_up_ne _ _ htp]; exact h9
      have hfa : mfr w (pm_s w 98 (upd (w.1 98) (7 * q + 0) (w.1 98 (7 * q + 0) + 1))) [84, 85, 86, 87, 88, 91, 95, 96, 97, 98, 99] [6, 9, 10, 11, 12, 24, 25, 26, 27] := mfr_c (mfr_rf _ _ _) (by decide) (by decide) _
      have hRa := mo_ask hR hB (mfr_wd (mfr_c (mfr_rf w [98] []) (k := 98) (by decide) (by decide) _) (by decide) (by decide))
      have h25a : (pm_s w 98 (upd (w.1 98) (7 * q + 0) (w.1 98 (7 * q + 0) + 1))).1 83 25 = -1 := by simp [pm_s, h25]
      generalize (pm_s w 98 (upd (w.1 98) (7 * q + 0) (w.1 98 (7 * q + 0) + 1))) = wa at hB hfa hRa h25a ⊢
      refine pm_aload_n dX5_ask_33 rfl ?_
      refine pm_getR (ci := 5) (j := 23) (n := 39) (by first | assumption | rfl) (by decide) (by decide) rfl fl_RX5_56 rfl (by first | assumption | rfl) dX5_ask_34 ?_
      refine pm_aload_n dX5_ask_37 rfl ?_
      refine pm_getI (ci := 5) (j := 24) (n := 39) (by first | assumption | rfl) (by decide) (by decide) rfl fl_RX5_126 rfl dX5_ask_38 ?_
      rw [show wa.1 83 24 = nI S.2.2.2.2.length from hRa.2.2.2.2.1]
      refine pm_sipush (x := 200) dX5_ask_41 rfl ?_
      refine pm_irem dX5_ask_44 (by decide) ?_
      rw [show (200 : Int32) = nI 200 from rfl, pk_rem (by omega) (by omega) (by omega)]
      refine pm_iload_n dX5_ask_45 rfl ?_
      refine pm_iastN (by first | assumption | rfl) (by first | omega | exact Nat.mod_lt _ (by decide)) (by first | decide | omega) dX5_ask_46 ?_
      refine pm_aload_n dX5_ask_47 rfl ?_
      refine pm_dup dX5_ask_48 rfl ?_
      refine pm_getI (ci := 5) (j := 24) (n := 39) (by first | assumption | rfl) (by decide) (by decide) rfl fl_RX5_126 rfl dX5_ask_49 ?_
      refine pm_topi (nI S.2.2.2.2.length) (by rw [pm_s_ne (by decide)]; exact hRa.2.2.2.2.1) ?_
      refine pm_iconst (x := 1) dX5_ask_52 rfl ?_
      refine pm_iadd dX5_ask_53 ?_
      rw [nI_1]
      refine pm_putI (ci := 5) (j := 24) (n := 39) (by first | assumption | rfl) (by decide) (by decide) rfl fl_RX5_126 rfl rfl dX5_ask_54 ?_
      have hRb : mo_R (pm_s (pm_s wa 99 (upd (wa.1 99) (S.2.2.2.2.length % 200) b)) 83 (upd ((pm_s wa 99 (upd (wa.1 99) (S.2.2.2.2.length % 200) b)).1 83) 24 (nI (S.2.2.2.2.length + 1)))) (ab_a0 S q b) := by
        obtain ⟨h1, h2, h3, h4, h5⟩ := hRa
        refine ⟨mr_cong h1 (by simp [pm_s, upd]) (by simp [pm_s]) (by simp [pm_s]) (by simp [pm_s]), ml_cong h2 (by simp [pm_s, upd]) (by simp [pm_s]) (by simp [pm_s]), fun p hp => moA_cong (h3 p hp) (fun a q1 q2 => by rw [pm_s_ne (by omega), pm_s_ne (by omega)]), mn_cong h4 (fun j hj => by rw [pm_s_at, pk_un (by omega), pm_s_ne (by decide)]), mw_add h5 (by rw [pm_s_at, pk_us]) (by rw [pm_s_ne (by decide), pm_s_at])⟩
      have hfb : mfr w (pm_s (pm_s wa 99 (upd (wa.1 99) (S.2.2.2.2.length % 200) b)) 83 (upd ((pm_s wa 99 (upd (wa.1 99) (S.2.2.2.2.length % 200) b)).1 83) 24 (nI (S.2.2.2.2.length + 1)))) [84, 85, 86, 87, 88, 91, 95, 96, 97, 98, 99] [6, 9, 10, 11, 12, 24, 25, 26, 27] := mfr_j (mfr_c hfa (k := 99) (by decide) (by decide) _) (j := 24) (by decide) _
      have h25b : (pm_s (pm_s wa 99 (upd (wa.1 99) (S.2.2.2.2.length % 200) b)) 83 (upd ((pm_s wa 99 (upd (wa.1 99) (S.2.2.2.2.length % 200) b)).1 83) 24 (nI (S.2.2.2.2.length + 1)))).1 83 25 = -1 := by rw [pm_s_at, pk_un (by decide), pm_s_ne (by decide)]; exact h25a
      generalize (pm_s (pm_s wa 99 (upd (wa.1 99) (S.2.2.2.2.length % 200) b)) 83 (upd ((pm_s wa 99 (upd (wa.1 99) (S.2.2.2.2.length % 200) b)).1 83) 24 (nI (S.2.2.2.2.length + 1)))) = wb at hRb hfb h25b ⊢
      refine pm_aload_n dX5_ask_57 rfl ?_
      refine pm_iload_n dX5_ask_58 rfl ?_
      refine pm_cVi (as := [.int _]) (by first | assumption | rfl) (by decide) rfl ml_RX5_181 (by decide) (Nat.le_of_ble_eq_true rfl) dX5_ask_59 (c_X5_placeOf hRb.1 (by show S.1.length ≤ 12; omega) hJ.1 b) (fun x1 w1 hq => ?_)
      obtain ⟨rfl, hw9⟩ := hq
      have hw9 := hw9.symm
      subst hw9
      refine pm_istore_n (lv' := [some (.ref _), some (.int _), some (.int _), some (.int _), none, none, none]) dX5_ask_62 (by decide) rfl ?_
      refine pm_iload_n dX5_ask_63 rfl ?_
      refine pm_if_ge (tgt := 71) dX5_ask_64 (by decide) (fun c64 => ?_) (fun c64 => ?_)
      · refine pm_iconst (x := 0) dX5_ask_71 rfl ?_
        refine pm_istore (lv' := [some (.ref _), some (.int _), some (.int _), some (.int _), some (.int _), none, none]) dX5_ask_72 (by decide) rfl ?_
        have hfi : ab_fi S.1 b < S.1.length := (enc_nn (n := S.1.length) (by omega)).mp c64
        rw [pu_ask, if_pos c4, if_pos c14, nI_clamp (by omega), if_pos hfi, e5, e6, nI_clamp (by omega), nI_clamp (by omega)]
        exact ask_74 hRb (I_a0 hI hlen hq4 b) (show ab_J (ab_a0 S q b) from hJ) hq4 hb3 e5 n1 n3 e6 m1 m4 hfb h25b
      · refine pm_iconst (x := 1) dX5_ask_67 rfl ?_
        refine pm_goto (tgt := 72) dX5_ask_68 (by decide) ?_
        refine pm_istore (lv' := [some (.ref _), some (.int _), some (.int _), some (.int _), some (.int _), none, none]) dX5_ask_72 (by decide) rfl ?_
        have hfi : ¬ ab_fi S.1 b < S.1.length := fun h => c64 ((enc_nn (n := S.1.length) (by omega)).mpr h)
        rw [pu_ask, if_pos c4, if_pos c14, nI_clamp (by omega), if_neg hfi, e5, e6, nI_clamp (by omega), nI_clamp (by omega)]
        exact ask_74 hRb (I_a0 hI hlen hq4 b) (show ab_J (ab_a0 S q b) from hJ) hq4 hb3 e5 n1 n3 e6 m1 m4 hfb h25b
    · refine pm_bipush (x := -102) dX5_ask_17 rfl ?_
      refine pm_iret dX5_ask_19 rfl ?_
      rw [pm_z_0] at c14
      rw [pu_ask, if_pos c4, if_neg (by rw [c14]; decide)]
      exact ⟨rfl, hR, h25, mfr_rf _ _ _⟩
  · refine pm_bipush (x := -101) dX5_ask_7 rfl ?_
    refine pm_iret dX5_ask_9 rfl ?_
    rw [pm_z_0] at c4
    rw [pu_ask, if_neg (by rw [c4]; decide)]
    exact ⟨rfl, hR, h25, mfr_rf _ _ _⟩

