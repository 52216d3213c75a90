/-- the law's loop: both objects are made -/
def lw_X (p : Program) (s : State) (m : MethodId) (meth : Method) (c : Code) (b L : Nat) (xs : Nat → Int32) (D : va_G) (G : pm_G) : Prop := lw_At p s m meth c b L xs ∧ pm_ok pm_L0 G ∧ (∀ q, pm_A pm_L0 G q → s.heap.size ≤ q) ∧ pg_K D G (fun q => s.heap.size ≤ q) s
def lw_J (p : Program) (l : Launch) (e : Env) (s : State) (m : MethodId) (below : List Frame) (meth : Method) (c : Code) (b : Nat) (D : va_G) (G : pm_G) (pc : Nat) (st : List Value) (i : Int32) (w : pm_W) : Prop :=
  ∀ (H : Heap) (locs : List Loc) (ls : Array Slot), va_P D pm_cl (pm_cells pm_L0 G w) H → va_S (fun q => s.heap.size ≤ q) s.heap H locs → lv_has ls 4 [(3, .int i), (2, .ref (G.1 83)), (1, .ref (G.1 0)), (0, .ref b)] →
    W p l e room_1 s m #[Value.ref b] below meth c H locs 109 36605 (lw_Z below #[Value.ref b] s) (F0 m pc ls (st.map (pm_v G)))

theorem lw_al1 {p : Program} {l : Launch} {e : Env} {s : State} {m : MethodId} {below : List Frame} {meth : Method} {c : Code} {b L : Nat} {xs : Nat → Int32} {D : va_G} {G : pm_G} (X : lw_X p s m meth c b L xs D G) {pc : Nat} {st : List Value} {i : Int32} {w : pm_W} (hd : decode code pc = .ok (.aload_n 1, 1)) (h : lw_J p l e s m below meth c b D G (pc + 1) (.ref 0 :: st) i w) : lw_J p l e s m below meth c b D G pc st i w := by
  intro H locs ls hP hS hl
  obtain ⟨⟨hx, hb, hr, hml, hown, hts, hXs, hbl, hlocks, hgv⟩, ho, hAo, hK⟩ := id X
  exact lv_aload_n hx hb hd rfl (lv_at hl 2 rfl) (h H locs ls hP hS hl)

theorem lw_al2 {p : Program} {l : Launch} {e : Env} {s : State} {m : MethodId} {below : List Frame} {meth : Method} {c : Code} {b L : Nat} {xs : Nat → Int32} {D : va_G} {G : pm_G} (X : lw_X p s m meth c b L xs D G) {pc : Nat} {st : List Value} {i : Int32} {w : pm_W} (hd : decode code pc = .ok (.aload_n 2, 1)) (h : lw_J p l e s m below meth c b D G (pc + 1) (.ref 83 :: st) i w) : lw_J p l e s m below meth c b D G pc st i w := by
  intro H locs ls hP hS hl
  obtain ⟨⟨hx, hb, hr, hml, hown, hts, hXs, hbl, hlocks, hgv⟩, ho, hAo, hK⟩ := id X
  exact lv_aload_n hx hb hd rfl (lv_at hl 1 rfl) (h H locs ls hP hS hl)

theorem lw_arg {p : Program} {l : Launch} {e : Env} {s : State} {m : MethodId} {below : List Frame} {meth : Method} {c : Code} {b L : Nat} {xs : Nat → Int32} {D : va_G} {G : pm_G} (X : lw_X p s m meth c b L xs D G) {pc : Nat} {st : List Value} {w : pm_W} {I K : Nat} {z : Int} (hz : Int32.ofInt z = nI K) (hI : I + K < L) (hL : L ≤ 2048) (d0 : decode code pc = .ok (.aload_n 0, 1)) (d1 : decode code (pc + 1) = .ok (.iload_n 3, 1)) (d2 : decode code (pc + 1 + 1) = .ok (.iconst z, 1)) (d3 : decode code (pc + 1 + 1 + 1) = .ok (.iadd, 1)) (d4 : decode code (pc + 1 + 1 + 1 + 1) = .ok (.iaload, 1)) (h : lw_J p l e s m below meth c b D G (pc + 1 + 1 + 1 + 1 + 1) (.int (xs (I + K)) :: st) (nI I) w) : lw_J p l e s m below meth c b D G pc st (nI I) w := by
  intro H locs ls hP hS hl
  obtain ⟨⟨hx, hb, hr, hml, hown, hts, hXs, hbl, hlocks, hgv⟩, ho, hAo, hK⟩ := id X
  refine lv_aload_n hx hb d0 rfl (lv_at hl 3 rfl) ?_
  refine lv_iload_n hx hb d1 rfl (lv_at hl 0 rfl) ?_
  refine lv_iconst (v := nI K) hx hb d2 hz ?_
  refine lv_iadd hx hb d3 ?_
  rw [nI_add]
  refine va_sld hx hb hXs hbl (Nat.not_le.mpr hbl) hS (vp_in_nI hI (by omega)) d4 ?_
  rw [nI_clamp (by omega)]
  exact h H locs ls hP hS hl

theorem lw_arg0 {p : Program} {l : Launch} {e : Env} {s : State} {m : MethodId} {below : List Frame} {meth : Method} {c : Code} {b L : Nat} {xs : Nat → Int32} {D : va_G} {G : pm_G} (X : lw_X p s m meth c b L xs D G) {pc : Nat} {st : List Value} {w : pm_W} {I : Nat} (hI : I < L) (hL : L ≤ 2048) (d0 : decode code pc = .ok (.aload_n 0, 1)) (d1 : decode code (pc + 1) = .ok (.iload_n 3, 1)) (d4 : decode code (pc + 1 + 1) = .ok (.iaload, 1)) (h : lw_J p l e s m below meth c b D G (pc + 1 + 1 + 1) (.int (xs I) :: st) (nI I) w) : lw_J p l e s m below meth c b D G pc st (nI I) w := by
  intro H locs ls hP hS hl
  obtain ⟨⟨hx, hb, hr, hml, hown, hts, hXs, hbl, hlocks, hgv⟩, ho, hAo, hK⟩ := id X
  refine lv_aload_n hx hb d0 rfl (lv_at hl 3 rfl) ?_
  refine lv_iload_n hx hb d1 rfl (lv_at hl 0 rfl) ?_
  refine va_sld hx hb hXs hbl (Nat.not_le.mpr hbl) hS (vp_in_nI hI (by omega)) d4 ?_
  rw [nI_clamp (by omega)]
  exact h H locs ls hP hS hl

theorem lw_call {p : Program} {l : Launch} {e : Env} {s : State} {m : MethodId} {below : List Frame} {meth : Method} {c : Code} {b L : Nat} {xs : Nat → Int32} {D : va_G} {G : pm_G} (X : lw_X p s m meth c b L xs D G) {pc : Nat} {st : List Value} {i : Int32} {w : pm_W} {idx k ci N : Nat} {M' : pm_M} {as : List Value} {Q' : Option Value → pm_W → Prop} (hk : pm_L0.1 k = (ci, N)) (hc : ci < 6) (hcls : M'.1.cls = pm_R0 ci) (hl0 : pm_MLV RL idx M' as.length) (hrm : M'.2.2.2.2.1 + 1 ≤ 9 ∧ 8 + (M'.2.2.1 + 11) + M'.2.2.2.2.2 ≤ 324) (hsm : (st.map fun v => v.category).sum ≤ 8) (hd : decode code pc = .ok (.invokevirtual idx, 3)) (hC : pm_C pm_L0 M' (.ref k :: as) w Q') (kk : ∀ r w', Q' r w' → lw_J p l e s m below meth c b D G (pc + 3) (r.toList ++ st) i w') : lw_J p l e s m below meth c b D G pc (as.reverse ++ .ref k :: st) i w := by
  intro H locs ls hP hS hl
  obtain ⟨⟨hx, hb, hr, hml, hown, hts, hXs, hbl, hlocks, hgv⟩, ho, hAo, hK⟩ := id X
  have hm : k ∈ pm_ks pm_L0 := pm_there ho (by rw [hk]; simp only; omega)
  obtain ⟨q0, hq0⟩ := pm_cells_at (G := G) w hm
  rw [pm_cell_o hc hk] at hq0
  obtain ⟨⟨m1, m2, m3, m4, m5⟩, n1, n2, n3⟩ := hl0
  have hin : ∀ w, w ∈ pm_good → w ∈ lw_tbl := fun w h => (List.mem_filter.mp h).1
  have hgi : GoodIn lw_tbl (wsV RL idx M'.1.cls M'.1 (pm_ws M')) := by
    intro w hw
    rcases List.mem_append.mp hw with hw | hw
    · simp only [List.mem_cons, List.not_mem_nil, or_false] at hw
      rcases hw with rfl | rfl | rfl | rfl
      · exact ⟨hin _ m1, pm_gw m1⟩
      · exact ⟨hin _ m2, pm_gw m2⟩
      · exact ⟨hin _ m3, pm_gw m3⟩
      · exact ⟨hin _ m4, pm_gw m4⟩
    · rcases List.mem_cons.mp hw with rfl | hw
      · exact ⟨hin _ m5, pm_gw m5⟩
      · exact ⟨hin _ hw, pm_gw hw⟩
  have hrv := va_recv hK.1 hP (pm_cl_at hc) hq0
  have hrun := va_runV (e := e) (below := below) (meth := meth) (locs := locs) (cells := 109) (slots := 36605) (g := F0 m pc ls ((as.reverse ++ .ref k :: st).map (pm_v G))) (rest := st.map (pm_v G)) (As := as.map (pm_v G)) (b := G.1 k) (R := room_1) (H := H) ⟨hx, hb, hml, (show s.vm.findClass RL = some m.cls from hown), hts⟩ (hC l D G ho) (cwV as.length hts hgi rfl rfl rfl ⟨rfl, n1, n2, n3⟩ hrm) ⟨pm_blind, by rw [hcls]; exact hrv, fun U hU hW => ⟨rfl, by rw [hU]; exact hP, by
    have h9 := pg_K_moved (locs := locs) hW (by rw [hU]; exact hS) hK
    exact ⟨h9.1, ⟨h9.2.1.1.narrow hAo, h9.2.1.2.1.narrow hAo, h9.2.1.2.2.1.narrow hAo, h9.2.1.2.2.2.narrow hAo⟩, fun w hw => h9.2.2.1 w (List.mem_append_left _ hw)⟩⟩⟩ rfl (by simp) hl.1 (by simp [pm_v]) (lv_room (by rw [pm_sumc]; exact hsm)) hd ⟨Nat.le_of_ble_eq_true rfl, Nat.le_of_ble_eq_true rfl⟩
  intro T hT X0
  obtain ⟨v, st₀, t, T', Lc, h0, X', hL, e1, e2, ⟨⟨r, w', hv, hq, hP'⟩, hF⟩, hgo⟩ := hrun T hT X0
  cases hv
  have h1 := kk r w' hq T'.heap (locs ++ Lc) ls (by rw [e1]; exact hP') ⟨Nat.le_trans hS.1 (by rw [e1, ← h0]; exact hF.1), fun q a1 a2 => by rw [e1, hF.2 q (by rw [h0]; exact Nat.lt_of_lt_of_le a1 hS.1) (fun z => a2 (hAo q z)), h0]; exact hS.2.1 q a1 a2, fun q hq => by
    rcases List.mem_append.mp hq with h | h
    · exact hS.2.2 q h
    · exact hAo _ (hL q h)⟩ hl
  rw [← pm_tl] at h1
  obtain ⟨t2, a1, b1⟩ := h1 T' rfl X'
  exact ⟨t2, hgo t2 a1, b1⟩

theorem lw_ci {p : Program} {l : Launch} {e : Env} {s : State} {m : MethodId} {below : List Frame} {meth : Method} {c : Code} {b L : Nat} {xs : Nat → Int32} {D : va_G} {G : pm_G} (X : lw_X p s m meth c b L xs D G) {pc : Nat} {st : List Value} {i : Int32} {w : pm_W} {idx k ci N : Nat} {M' : pm_M} {as : List Value} {post : Int32 → pm_W → Prop} (hk : pm_L0.1 k = (ci, N)) (hc : ci < 6) (hcls : M'.1.cls = pm_R0 ci) (hl0 : pm_MLV RL idx M' as.length) (hrm : M'.2.2.2.2.1 + 1 ≤ 9 ∧ 8 + (M'.2.2.1 + 11) + M'.2.2.2.2.2 ≤ 324) (hsm : (st.map fun v => v.category).sum ≤ 8) (hd : decode code pc = .ok (.invokevirtual idx, 3)) (hC : pm_C pm_L0 M' (.ref k :: as) w (pm_qi post)) (kk : ∀ r w', post r w' → lw_J p l e s m below meth c b D G (pc + 3) (.int r :: st) i w') : lw_J p l e s m below meth c b D G pc (as.reverse ++ .ref k :: st) i w := lw_call X hk hc hcls hl0 hrm hsm hd hC (fun r w' hq => by
  obtain ⟨x, rfl, hq⟩ := hq
  exact kk x w' hq)

theorem lw_eq {p : Program} {l : Launch} {e : Env} {s : State} {m : MethodId} {below : List Frame} {meth : Method} {c : Code} {b L : Nat} {xs : Nat → Int32} {D : va_G} {G : pm_G} (X : lw_X p s m meth c b L xs D G) {pc : Nat} {st : List Value} {i x y : Int32} {w : pm_W} {off : Int} (hxy : x = y) (hd : decode code pc = .ok (.if_icmp .eq off, 3)) (ht : (pc : Int) + off = ((590 : Nat) : Int)) (h : lw_J p l e s m below meth c b D G 590 st i w) : lw_J p l e s m below meth c b D G pc (.int y :: .int x :: st) i w := by
  intro H locs ls hP hS hl
  obtain ⟨⟨hx, hb, hr, hml, hown, hts, hXs, hbl, hlocks, hgv⟩, ho, hAo, hK⟩ := id X
  exact lv_icmp_eq hx hb hd ht (fun _ => h H locs ls hP hS hl) (fun q => absurd hxy q)

theorem lw_clear {p : Program} {l : Launch} {e : Env} {s : State} {m : MethodId} {below : List Frame} {meth : Method} {c : Code} {b L : Nat} {xs : Nat → Int32} {D : va_G} {G : pm_G} (X : lw_X p s m meth c b L xs D G) {I N : Nat} (hI : I + 4 ≤ L) (hL : L ≤ 2048) (hN : N < 1000000) {w : pm_W} {S : ab_S} {sh : Nat → Option ab_S} (hR : al_R N w S sh) (k : ∀ w' S' sh', al_R (N + 1) w' S' sh' → lw_J p l e s m below meth c b D G 590 [] (nI I) w') : lw_J p l e s m below meth c b D G 112 [] (nI I) w := by
  refine lw_al1 X dL_law_112 ?_
  refine lw_arg X (K := 1) (by decide) (by omega) hL dL_law_113 dL_law_114 dL_law_115 dL_law_116 dL_law_117 ?_
  refine lw_arg X (K := 2) (by decide) (by omega) hL dL_law_118 dL_law_119 dL_law_120 dL_law_121 dL_law_122 ?_
  refine lw_arg X (K := 3) (by decide) (by omega) hL dL_law_123 dL_law_124 dL_law_125 dL_law_126 dL_law_127 ?_
  refine lw_ci (as := [.int _, .int _, .int _]) X (k := 0) (ci := 4) rfl (by decide) rfl ml_RL_13 (by decide) (Nat.le_of_ble_eq_true rfl) dL_law_128 (o_c_clear hR.1 hR.2.1 hR.2.2.1 hN _ _ _) (fun r1 w1 hq => ?_)
  obtain ⟨p1, q2, q3⟩ := hq
  refine lw_al2 X dL_law_131 ?_
  refine lw_arg X (K := 1) (by decide) (by omega) hL dL_law_132 dL_law_133 dL_law_134 dL_law_135 dL_law_136 ?_
  refine lw_arg X (K := 2) (by decide) (by omega) hL dL_law_137 dL_law_138 dL_law_139 dL_law_140 dL_law_141 ?_
  refine lw_arg X (K := 3) (by decide) (by omega) hL dL_law_142 dL_law_143 dL_law_144 dL_law_145 dL_law_146 ?_
  refine lw_ci (as := [.int _, .int _, .int _]) X (k := 83) (ci := 5) rfl (by decide) rfl ml_RL_17 (by decide) (Nat.le_of_ble_eq_true rfl) dL_law_147 (o_m_clear q2 q3 hR.2.2.1 hN _ _ _) (fun r2 w2 hq => ?_)
  obtain ⟨p2, q2, q3⟩ := hq
  refine lw_eq X (p1.trans p2.symm) dL_law_150 (by decide) ?_
  exact k w2 _ sh ⟨q2, q3, al_m (al_clear hR.2.2.1 _ _ _) (by omega), fun s T hs h => al_m (hR.2.2.2 s T hs h) (by omega)⟩

theorem lw_share {p : Program} {l : Launch} {e : Env} {s : State} {m : MethodId} {below : List Frame} {meth : Method} {c : Code} {b L : Nat} {xs : Nat → Int32} {D : va_G} {G : pm_G} (X : lw_X p s m meth c b L xs D G) {I N : Nat} (hI : I + 4 ≤ L) (hL : L ≤ 2048) (hN : N < 1000000) {w : pm_W} {S : ab_S} {sh : Nat → Option ab_S} (hR : al_R N w S sh) (k : ∀ w' S' sh', al_R (N + 1) w' S' sh' → lw_J p l e s m below meth c b D G 590 [] (nI I) w') : lw_J p l e s m below meth c b D G 155 [] (nI I) w := by
  refine lw_al1 X dL_law_155 ?_
  refine lw_arg X (K := 1) (by decide) (by omega) hL dL_law_156 dL_law_157 dL_law_158 dL_law_159 dL_law_160 ?_
  refine lw_arg X (K := 2) (by decide) (by omega) hL dL_law_161 dL_law_162 dL_law_163 dL_law_164 dL_law_165 ?_
  refine lw_ci (as := [.int _, .int _]) X (k := 0) (ci := 4) rfl (by decide) rfl ml_RL_18 (by decide) (Nat.le_of_ble_eq_true rfl) dL_law_166 (o_c_share hR.1 hR.2.1 hR.2.2.1 hN _ _) (fun r1 w1 hq => ?_)
  obtain ⟨p1, q2, q3⟩ := hq
  refine lw_al2 X dL_law_169 ?_
  refine lw_arg X (K := 1) (by decide) (by omega) hL dL_law_170 dL_law_171 dL_law_172 dL_law_173 dL_law_174 ?_
  refine lw_arg X (K := 2) (by decide) (by omega) hL dL_law_175 dL_law_176 dL_law_177 dL_law_178 dL_law_179 ?_
  refine lw_ci (as := [.int _, .int _]) X (k := 83) (ci := 5) rfl (by decide) rfl ml_RL_22 (by decide) (Nat.le_of_ble_eq_true rfl) dL_law_180 (o_m_share q2 q3 hR.2.2.1 hN _ _) (fun r2 w2 hq => ?_)
  obtain ⟨p2, q2, q3⟩ := hq
  refine lw_eq X (p1.trans p2.symm) dL_law_183 (by decide) ?_
  exact k w2 _ sh ⟨q2, q3, al_m (al_share hR.2.2.1 _ _) (by omega), fun s T hs h => al_m (hR.2.2.2 s T hs h) (by omega)⟩

theorem lw_kind {p : Program} {l : Launch} {e : Env} {s : State} {m : MethodId} {below : List Frame} {meth : Method} {c : Code} {b L : Nat} {xs : Nat → Int32} {D : va_G} {G : pm_G} (X : lw_X p s m meth c b L xs D G) {I N : Nat} (hI : I + 4 ≤ L) (hL : L ≤ 2048) (hN : N < 1000000) {w : pm_W} {S : ab_S} {sh : Nat → Option ab_S} (hR : al_R N w S sh) (k : ∀ w' S' sh', al_R (N + 1) w' S' sh' → lw_J p l e s m below meth c b D G 590 [] (nI I) w') : lw_J p l e s m below meth c b D G 188 [] (nI I) w := by
  refine lw_al1 X dL_law_188 ?_
  refine lw_arg X (K := 1) (by decide) (by omega) hL dL_law_189 dL_law_190 dL_law_191 dL_law_192 dL_law_193 ?_
  refine lw_arg X (K := 2) (by decide) (by omega) hL dL_law_194 dL_law_195 dL_law_196 dL_law_197 dL_law_198 ?_
  refine lw_arg X (K := 3) (by decide) (by omega) hL dL_law_199 dL_law_200 dL_law_201 dL_law_202 dL_law_203 ?_
  refine lw_ci (as := [.int _, .int _, .int _]) X (k := 0) (ci := 4) rfl (by decide) rfl ml_RL_23 (by decide) (Nat.le_of_ble_eq_true rfl) dL_law_204 (o_c_kind hR.1 hR.2.1 hR.2.2.1 hN _ _ _) (fun r1 w1 hq => ?_)
  obtain ⟨p1, q2, q3⟩ := hq
  refine lw_al2 X dL_law_207 ?_
  refine lw_arg X (K := 1) (by decide) (by omega) hL dL_law_208 dL_law_209 dL_law_210 dL_law_211 dL_law_212 ?_
  refine lw_arg X (K := 2) (by decide) (by omega) hL dL_law_213 dL_law_214 dL_law_215 dL_law_216 dL_law_217 ?_
  refine lw_arg X (K := 3) (by decide) (by omega) hL dL_law_218 dL_law_219 dL_law_220 dL_law_221 dL_law_222 ?_
  refine lw_ci (as := [.int _, .int _, .int _]) X (k := 83) (ci := 5) rfl (by decide) rfl ml_RL_26 (by decide) (Nat.le_of_ble_eq_true rfl) dL_law_223 (o_m_kind q2 q3 hR.2.2.1 hN _ _ _) (fun r2 w2 hq => ?_)
  obtain ⟨p2, q2, q3⟩ := hq
  refine lw_eq X (p1.trans p2.symm) dL_law_226 (by decide) ?_
  exact k w2 _ sh ⟨q2, q3, al_m (al_kind hR.2.2.1 _ _ _) (by omega), fun s T hs h => al_m (hR.2.2.2 s T hs h) (by omega)⟩

theorem lw_hint {p : Program} {l : Launch} {e : Env} {s : State} {m : MethodId} {below : List Frame} {meth : Method} {c : Code} {b L : Nat} {xs : Nat → Int32} {D : va_G} {G : pm_G} (X : lw_X p s m meth c b L xs D G) {I N : Nat} (hI : I + 4 ≤ L) (hL : L ≤ 2048) (hN : N < 1000000) {w : pm_W} {S : ab_S} {sh : Nat → Option ab_S} (hR : al_R N w S sh) (k : ∀ w' S' sh', al_R (N + 1) w' S' sh' → lw_J p l e s m below meth c b D G 590 [] (nI I) w') : lw_J p l e s m below meth c b D G 231 [] (nI I) w := by
  refine lw_al1 X dL_law_231 ?_
  refine lw_arg X (K := 1) (by decide) (by omega) hL dL_law_232 dL_law_233 dL_law_234 dL_law_235 dL_law_236 ?_
  refine lw_arg X (K := 2) (by decide) (by omega) hL dL_law_237 dL_law_238 dL_law_239 dL_law_240 dL_law_241 ?_
  refine lw_arg X (K := 3) (by decide) (by omega) hL dL_law_242 dL_law_243 dL_law_244 dL_law_245 dL_law_246 ?_
  refine lw_ci (as := [.int _, .int _, .int _]) X (k := 0) (ci := 4) rfl (by decide) rfl ml_RL_27 (by decide) (Nat.le_of_ble_eq_true rfl) dL_law_247 (o_c_hint hR.1 hR.2.1 hR.2.2.1 hN _ _ _) (fun r1 w1 hq => ?_)
  obtain ⟨p1, q2, q3⟩ := hq
  refine lw_al2 X dL_law_250 ?_
  refine lw_arg X (K := 1) (by decide) (by omega) hL dL_law_251 dL_law_252 dL_law_253 dL_law_254 dL_law_255 ?_
  refine lw_arg X (K := 2) (by decide) (by omega) hL dL_law_256 dL_law_257 dL_law_258 dL_law_259 dL_law_260 ?_
  refine lw_arg X (K := 3) (by decide) (by omega) hL dL_law_261 dL_law_262 dL_law_263 dL_law_264 dL_law_265 ?_
  refine lw_ci (as := [.int _, .int _, .int _]) X (k := 83) (ci := 5) rfl (by decide) rfl ml_RL_30 (by decide) (Nat.le_of_ble_eq_true rfl) dL_law_266 (o_m_hint q2 q3 hR.2.2.1 hN _ _ _) (fun r2 w2 hq => ?_)
  obtain ⟨p2, q2, q3⟩ := hq
  refine lw_eq X (p1.trans p2.symm) dL_law_269 (by decide) ?_
  exact k w2 _ sh ⟨q2, q3, al_m (al_hint hR.2.2.1 _ _ _) (by omega), fun s T hs h => al_m (hR.2.2.2 s T hs h) (by omega)⟩

theorem lw_ask {p : Program} {l : Launch} {e : Env} {s : State} {m : MethodId} {below : List Frame} {meth : Method} {c : Code} {b L : Nat} {xs : Nat → Int32} {D : va_G} {G : pm_G} (X : lw_X p s m meth c b L xs D G) {I N : Nat} (hI : I + 4 ≤ L) (hL : L ≤ 2048) (hN : N < 1000000) {w : pm_W} {S : ab_S} {sh : Nat → Option ab_S} (hR : al_R N w S sh) (k : ∀ w' S' sh', al_R (N + 1) w' S' sh' → lw_J p l e s m below meth c b D G 590 [] (nI I) w') : lw_J p l e s m below meth c b D G 274 [] (nI I) w := by
  refine lw_al1 X dL_law_274 ?_
  refine lw_arg X (K := 1) (by decide) (by omega) hL dL_law_275 dL_law_276 dL_law_277 dL_law_278 dL_law_279 ?_
  refine lw_arg X (K := 2) (by decide) (by omega) hL dL_law_280 dL_law_281 dL_law_282 dL_law_283 dL_law_284 ?_
  refine lw_ci (as := [.int _, .int _]) X (k := 0) (ci := 4) rfl (by decide) rfl ml_RL_31 (by decide) (Nat.le_of_ble_eq_true rfl) dL_law_285 (o_c_ask hR.1 hR.2.1 hR.2.2.1 hN _ _) (fun r1 w1 hq => ?_)
  obtain ⟨p1, q2, q3⟩ := hq
  refine lw_al2 X dL_law_288 ?_
  refine lw_arg X (K := 1) (by decide) (by omega) hL dL_law_289 dL_law_290 dL_law_291 dL_law_292 dL_law_293 ?_
  refine lw_arg X (K := 2) (by decide) (by omega) hL dL_law_294 dL_law_295 dL_law_296 dL_law_297 dL_law_298 ?_
  refine lw_ci (as := [.int _, .int _]) X (k := 83) (ci := 5) rfl (by decide) rfl ml_RL_34 (by decide) (Nat.le_of_ble_eq_true rfl) dL_law_299 (o_m_ask q2 q3 hR.2.2.1 hN _ _) (fun r2 w2 hq => ?_)
  obtain ⟨p2, q2, q3⟩ := hq
  refine lw_eq X (p1.trans p2.symm) dL_law_302 (by decide) ?_
  exact k w2 _ sh ⟨q2, q3, al_ask hR.2.2.1 hN _ _, fun s T hs h => al_m (hR.2.2.2 s T hs h) (by omega)⟩

theorem lw_idle {p : Program} {l : Launch} {e : Env} {s : State} {m : MethodId} {below : List Frame} {meth : Method} {c : Code} {b L : Nat} {xs : Nat → Int32} {D : va_G} {G : pm_G} (X : lw_X p s m meth c b L xs D G) {I N : Nat} (hI : I + 4 ≤ L) (hL : L ≤ 2048) (hN : N < 1000000) {w : pm_W} {S : ab_S} {sh : Nat → Option ab_S} (hR : al_R N w S sh) (k : ∀ w' S' sh', al_R (N + 1) w' S' sh' → lw_J p l e s m below meth c b D G 590 [] (nI I) w') : lw_J p l e s m below meth c b D G 307 [] (nI I) w := by
  refine lw_al1 X dL_law_307 ?_
  refine lw_arg X (K := 1) (by decide) (by omega) hL dL_law_308 dL_law_309 dL_law_310 dL_law_311 dL_law_312 ?_
  refine lw_ci (as := [.int _]) X (k := 0) (ci := 4) rfl (by decide) rfl ml_RL_35 (by decide) (Nat.le_of_ble_eq_true rfl) dL_law_313 (o_c_idle hR.1 hR.2.1 hR.2.2.1 hN _) (fun r1 w1 hq => ?_)
  obtain ⟨p1, q2, q3⟩ := hq
  refine lw_al2 X dL_law_316 ?_
  refine lw_arg X (K := 1) (by decide) (by omega) hL dL_law_317 dL_law_318 dL_law_319 dL_law_320 dL_law_321 ?_
  refine lw_ci (as := [.int _]) X (k := 83) (ci := 5) rfl (by decide) rfl ml_RL_39 (by decide) (Nat.le_of_ble_eq_true rfl) dL_law_322 (o_m_idle q2 q3 hR.2.2.1 hN _) (fun r2 w2 hq => ?_)
  obtain ⟨p2, q2, q3⟩ := hq
  refine lw_eq X (p1.trans p2.symm) dL_law_325 (by decide) ?_
  exact k w2 _ sh ⟨q2, q3, al_m (al_idle hR.2.2.1 _) (by omega), fun s T hs h => al_m (hR.2.2.2 s T hs h) (by omega)⟩

theorem lw_told {p : Program} {l : Launch} {e : Env} {s : State} {m : MethodId} {below : List Frame} {meth : Method} {c : Code} {b L : Nat} {xs : Nat → Int32} {D : va_G} {G : pm_G} (X : lw_X p s m meth c b L xs D G) {I N : Nat} (hI : I + 4 ≤ L) (hL : L ≤ 2048) (hN : N < 1000000) {w : pm_W} {S : ab_S} {sh : Nat → Option ab_S} (hR : al_R N w S sh) (k : ∀ w' S' sh', al_R (N + 1) w' S' sh' → lw_J p l e s m below meth c b D G 590 [] (nI I) w') : lw_J p l e s m below meth c b D G 330 [] (nI I) w := by
  refine lw_al1 X dL_law_330 ?_
  refine lw_arg X (K := 1) (by decide) (by omega) hL dL_law_331 dL_law_332 dL_law_333 dL_law_334 dL_law_335 ?_
  refine lw_arg X (K := 2) (by decide) (by omega) hL dL_law_336 dL_law_337 dL_law_338 dL_law_339 dL_law_340 ?_
  refine lw_ci (as := [.int _, .int _]) X (k := 0) (ci := 4) rfl (by decide) rfl ml_RL_40 (by decide) (Nat.le_of_ble_eq_true rfl) dL_law_341 (o_c_told hR.1 hR.2.1 hR.2.2.1 hN _ _) (fun r1 w1 hq => ?_)
  obtain ⟨p1, q2, q3⟩ := hq
  refine lw_al2 X dL_law_344 ?_
  refine lw_arg X (K := 1) (by decide) (by omega) hL dL_law_345 dL_law_346 dL_law_347 dL_law_348 dL_law_349 ?_
  refine lw_arg X (K := 2) (by decide) (by omega) hL dL_law_350 dL_law_351 dL_law_352 dL_law_353 dL_law_354 ?_
  refine lw_ci (as := [.int _, .int _]) X (k := 83) (ci := 5) rfl (by decide) rfl ml_RL_43 (by decide) (Nat.le_of_ble_eq_true rfl) dL_law_355 (o_m_told q2 q3 hR.2.2.1 hN _ _) (fun r2 w2 hq => ?_)
  obtain ⟨p2, q2, q3⟩ := hq
  refine lw_eq X (p1.trans p2.symm) dL_law_358 (by decide) ?_
  exact k w2 S sh ⟨q2, q3, al_m hR.2.2.1 (by omega), fun s T hs h => al_m (hR.2.2.2 s T hs h) (by omega)⟩

theorem lw_reach {p : Program} {l : Launch} {e : Env} {s : State} {m : MethodId} {below : List Frame} {meth : Method} {c : Code} {b L : Nat} {xs : Nat → Int32} {D : va_G} {G : pm_G} (X : lw_X p s m meth c b L xs D G) {I N : Nat} (hI : I + 4 ≤ L) (hL : L ≤ 2048) (hN : N < 1000000) {w : pm_W} {S : ab_S} {sh : Nat → Option ab_S} (hR : al_R N w S sh) (k : ∀ w' S' sh', al_R (N + 1) w' S' sh' → lw_J p l e s m below meth c b D G 590 [] (nI I) w') : lw_J p l e s m below meth c b D G 363 [] (nI I) w := by
  refine lw_al1 X dL_law_363 ?_
  refine lw_arg X (K := 1) (by decide) (by omega) hL dL_law_364 dL_law_365 dL_law_366 dL_law_367 dL_law_368 ?_
  refine lw_ci (as := [.int _]) X (k := 0) (ci := 4) rfl (by decide) rfl ml_RL_44 (by decide) (Nat.le_of_ble_eq_true rfl) dL_law_369 (o_c_reach hR.1 hR.2.1 hR.2.2.1 hN _) (fun r1 w1 hq => ?_)
  obtain ⟨p1, q2, q3⟩ := hq
  refine lw_al2 X dL_law_372 ?_
  refine lw_arg X (K := 1) (by decide) (by omega) hL dL_law_373 dL_law_374 dL_law_375 dL_law_376 dL_law_377 ?_
  refine lw_ci (as := [.int _]) X (k := 83) (ci := 5) rfl (by decide) rfl ml_RL_47 (by decide) (Nat.le_of_ble_eq_true rfl) dL_law_378 (o_m_reach q2 q3 hR.2.2.1 hN _) (fun r2 w2 hq => ?_)
  obtain ⟨p2, q2, q3⟩ := hq
  refine lw_eq X (p1.trans p2.symm) dL_law_381 (by decide) ?_
  exact k w2 S sh ⟨q2, q3, al_m hR.2.2.1 (by omega), fun s T hs h => al_m (hR.2.2.2 s T hs h) (by omega)⟩

theorem lw_room {p : Program} {l : Launch} {e : Env} {s : State} {m : MethodId} {below : List Frame} {meth : Method} {c : Code} {b L : Nat} {xs : Nat → Int32} {D : va_G} {G : pm_G} (X : lw_X p s m meth c b L xs D G) {I N : Nat} (hI : I + 4 ≤ L) (hL : L ≤ 2048) (hN : N < 1000000) {w : pm_W} {S : ab_S} {sh : Nat → Option ab_S} (hR : al_R N w S sh) (k : ∀ w' S' sh', al_R (N + 1) w' S' sh' → lw_J p l e s m below meth c b D G 590 [] (nI I) w') : lw_J p l e s m below meth c b D G 386 [] (nI I) w := by
  refine lw_al1 X dL_law_386 ?_
  refine lw_arg X (K := 1) (by decide) (by omega) hL dL_law_387 dL_law_388 dL_law_389 dL_law_390 dL_law_391 ?_
  refine lw_arg X (K := 2) (by decide) (by omega) hL dL_law_392 dL_law_393 dL_law_394 dL_law_395 dL_law_396 ?_
  refine lw_ci (as := [.int _, .int _]) X (k := 0) (ci := 4) rfl (by decide) rfl ml_RL_48 (by decide) (Nat.le_of_ble_eq_true rfl) dL_law_397 (o_c_room hR.1 hR.2.1 hR.2.2.1 hN _ _) (fun r1 w1 hq => ?_)
  obtain ⟨p1, q2, q3⟩ := hq
  refine lw_al2 X dL_law_400 ?_
  refine lw_arg X (K := 1) (by decide) (by omega) hL dL_law_401 dL_law_402 dL_law_403 dL_law_404 dL_law_405 ?_
  refine lw_arg X (K := 2) (by decide) (by omega) hL dL_law_406 dL_law_407 dL_law_408 dL_law_409 dL_law_410 ?_
  refine lw_ci (as := [.int _, .int _]) X (k := 83) (ci := 5) rfl (by decide) rfl ml_RL_51 (by decide) (Nat.le_of_ble_eq_true rfl) dL_law_411 (o_m_room q2 q3 hR.2.2.1 hN _ _) (fun r2 w2 hq => ?_)
  obtain ⟨p2, q2, q3⟩ := hq
  refine lw_eq X (p1.trans p2.symm) dL_law_414 (by decide) ?_
  exact k w2 S sh ⟨q2, q3, al_m hR.2.2.1 (by omega), fun s T hs h => al_m (hR.2.2.2 s T hs h) (by omega)⟩

theorem lw_waiting {p : Program} {l : Launch} {e : Env} {s : State} {m : MethodId} {below : List Frame} {meth : Method} {c : Code} {b L : Nat} {xs : Nat → Int32} {D : va_G} {G : pm_G} (X : lw_X p s m meth c b L xs D G) {I N : Nat} (hI : I + 4 ≤ L) (hL : L ≤ 2048) (hN : N < 1000000) {w : pm_W} {S : ab_S} {sh : Nat → Option ab_S} (hR : al_R N w S sh) (k : ∀ w' S' sh', al_R (N + 1) w' S' sh' → lw_J p l e s m below meth c b D G 590 [] (nI I) w') : lw_J p l e s m below meth c b D G 419 [] (nI I) w := by
  refine lw_al1 X dL_law_419 ?_
  refine lw_arg X (K := 1) (by decide) (by omega) hL dL_law_420 dL_law_421 dL_law_422 dL_law_423 dL_law_424 ?_
  refine lw_arg X (K := 2) (by decide) (by omega) hL dL_law_425 dL_law_426 dL_law_427 dL_law_428 dL_law_429 ?_
  refine lw_ci (as := [.int _, .int _]) X (k := 0) (ci := 4) rfl (by decide) rfl ml_RL_52 (by decide) (Nat.le_of_ble_eq_true rfl) dL_law_430 (o_c_waiting hR.1 hR.2.1 hR.2.2.1 hN _ _) (fun r1 w1 hq => ?_)
  obtain ⟨p1, q2, q3⟩ := hq
  refine lw_al2 X dL_law_433 ?_
  refine lw_arg X (K := 1) (by decide) (by omega) hL dL_law_434 dL_law_435 dL_law_436 dL_law_437 dL_law_438 ?_
  refine lw_arg X (K := 2) (by decide) (by omega) hL dL_law_439 dL_law_440 dL_law_441 dL_law_442 dL_law_443 ?_
  refine lw_ci (as := [.int _, .int _]) X (k := 83) (ci := 5) rfl (by decide) rfl ml_RL_55 (by decide) (Nat.le_of_ble_eq_true rfl) dL_law_444 (o_m_waiting q2 q3 hR.2.2.1 hN _ _) (fun r2 w2 hq => ?_)
  obtain ⟨p2, q2, q3⟩ := hq
  refine lw_eq X (p1.trans p2.symm) dL_law_447 (by decide) ?_
  exact k w2 S sh ⟨q2, q3, al_m hR.2.2.1 (by omega), fun s T hs h => al_m (hR.2.2.2 s T hs h) (by omega)⟩

theorem lw_follows {p : Program} {l : Launch} {e : Env} {s : State} {m : MethodId} {below : List Frame} {meth : Method} {c : Code} {b L : Nat} {xs : Nat → Int32} {D : va_G} {G : pm_G} (X : lw_X p s m meth c b L xs D G) {I N : Nat} (hI : I + 4 ≤ L) (hL : L ≤ 2048) (hN : N < 1000000) {w : pm_W} {S : ab_S} {sh : Nat → Option ab_S} (hR : al_R N w S sh) (k : ∀ w' S' sh', al_R (N + 1) w' S' sh' → lw_J p l e s m below meth c b D G 590 [] (nI I) w') : lw_J p l e s m below meth c b D G 452 [] (nI I) w := by
  refine lw_al1 X dL_law_452 ?_
  refine lw_arg X (K := 1) (by decide) (by omega) hL dL_law_453 dL_law_454 dL_law_455 dL_law_456 dL_law_457 ?_
  refine lw_arg X (K := 2) (by decide) (by omega) hL dL_law_458 dL_law_459 dL_law_460 dL_law_461 dL_law_462 ?_
  refine lw_ci (as := [.int _, .int _]) X (k := 0) (ci := 4) rfl (by decide) rfl ml_RL_56 (by decide) (Nat.le_of_ble_eq_true rfl) dL_law_463 (o_c_follows hR.1 hR.2.1 hR.2.2.1 hN _ _) (fun r1 w1 hq => ?_)
  obtain ⟨p1, q2, q3⟩ := hq
  refine lw_al2 X dL_law_466 ?_
  refine lw_arg X (K := 1) (by decide) (by omega) hL dL_law_467 dL_law_468 dL_law_469 dL_law_470 dL_law_471 ?_
  refine lw_arg X (K := 2) (by decide) (by omega) hL dL_law_472 dL_law_473 dL_law_474 dL_law_475 dL_law_476 ?_
  refine lw_ci (as := [.int _, .int _]) X (k := 83) (ci := 5) rfl (by decide) rfl ml_RL_59 (by decide) (Nat.le_of_ble_eq_true rfl) dL_law_477 (o_m_follows q2 q3 hR.2.2.1 hN _ _) (fun r2 w2 hq => ?_)
  obtain ⟨p2, q2, q3⟩ := hq
  refine lw_eq X (p1.trans p2.symm) dL_law_480 (by decide) ?_
  exact k w2 S sh ⟨q2, q3, al_m hR.2.2.1 (by omega), fun s T hs h => al_m (hR.2.2.2 s T hs h) (by omega)⟩

theorem lw_house {p : Program} {l : Launch} {e : Env} {s : State} {m : MethodId} {below : List Frame} {meth : Method} {c : Code} {b L : Nat} {xs : Nat → Int32} {D : va_G} {G : pm_G} (X : lw_X p s m meth c b L xs D G) {I N : Nat} (hI : I + 4 ≤ L) (hL : L ≤ 2048) (hN : N < 1000000) {w : pm_W} {S : ab_S} {sh : Nat → Option ab_S} (hR : al_R N w S sh) (k : ∀ w' S' sh', al_R (N + 1) w' S' sh' → lw_J p l e s m below meth c b D G 590 [] (nI I) w') : lw_J p l e s m below meth c b D G 485 [] (nI I) w := by
  refine lw_al1 X dL_law_485 ?_
  refine lw_arg X (K := 1) (by decide) (by omega) hL dL_law_486 dL_law_487 dL_law_488 dL_law_489 dL_law_490 ?_
  refine lw_ci (as := [.int _]) X (k := 0) (ci := 4) rfl (by decide) rfl ml_RL_60 (by decide) (Nat.le_of_ble_eq_true rfl) dL_law_491 (o_c_house hR.1 hR.2.1 hR.2.2.1 hN _) (fun r1 w1 hq => ?_)
  obtain ⟨p1, q2, q3⟩ := hq
  refine lw_al2 X dL_law_494 ?_
  refine lw_arg X (K := 1) (by decide) (by omega) hL dL_law_495 dL_law_496 dL_law_497 dL_law_498 dL_law_499 ?_
  refine lw_ci (as := [.int _]) X (k := 83) (ci := 5) rfl (by decide) rfl ml_RL_63 (by decide) (Nat.le_of_ble_eq_true rfl) dL_law_500 (o_m_house q2 q3 hR.2.2.1 hN _) (fun r2 w2 hq => ?_)
  obtain ⟨p2, q2, q3⟩ := hq
  refine lw_eq X (p1.trans p2.symm) dL_law_503 (by decide) ?_
  exact k w2 S sh ⟨q2, q3, al_m hR.2.2.1 (by omega), fun s T hs h => al_m (hR.2.2.2 s T hs h) (by omega)⟩

theorem lw_foresight {p : Program} {l : Launch} {e : Env} {s : State} {m : MethodId} {below : List Frame} {meth : Method} {c : Code} {b L : Nat} {xs : Nat → Int32} {D : va_G} {G : pm_G} (X : lw_X p s m meth c b L xs D G) {I N : Nat} (hI : I + 4 ≤ L) (hL : L ≤ 2048) (hN : N < 1000000) {w : pm_W} {S : ab_S} {sh : Nat → Option ab_S} (hR : al_R N w S sh) (k : ∀ w' S' sh', al_R (N + 1) w' S' sh' → lw_J p l e s m below meth c b D G 590 [] (nI I) w') : lw_J p l e s m below meth c b D G 508 [] (nI I) w := by
  refine lw_al1 X dL_law_508 ?_
  refine lw_arg X (K := 1) (by decide) (by omega) hL dL_law_509 dL_law_510 dL_law_511 dL_law_512 dL_law_513 ?_
  refine lw_ci (as := [.int _]) X (k := 0) (ci := 4) rfl (by decide) rfl ml_RL_64 (by decide) (Nat.le_of_ble_eq_true rfl) dL_law_514 (o_c_foresight hR.1 hR.2.1 hR.2.2.1 _) (fun r1 w1 hq => ?_)
  obtain ⟨p1, q2, q3⟩ := hq
  refine lw_al2 X dL_law_517 ?_
  refine lw_arg X (K := 1) (by decide) (by omega) hL dL_law_518 dL_law_519 dL_law_520 dL_law_521 dL_law_522 ?_
  refine lw_ci (as := [.int _]) X (k := 83) (ci := 5) rfl (by decide) rfl ml_RL_67 (by decide) (Nat.le_of_ble_eq_true rfl) dL_law_523 (o_m_foresight q2 q3 hR.2.2.1 _) (fun r2 w2 hq => ?_)
  obtain ⟨p2, q2, q3⟩ := hq
  refine lw_eq X (fore_one p1 p2) dL_law_526 (by decide) ?_
  exact k w2 S sh ⟨q2, q3, al_m hR.2.2.1 (by omega), fun s T hs h => al_m (hR.2.2.2 s T hs h) (by omega)⟩

theorem lw_keep {p : Program} {l : Launch} {e : Env} {s : State} {m : MethodId} {below : List Frame} {meth : Method} {c : Code} {b L : Nat} {xs : Nat → Int32} {D : va_G} {G : pm_G} (X : lw_X p s m meth c b L xs D G) {I N : Nat} (hI : I + 4 ≤ L) (hL : L ≤ 2048) (hN : N < 1000000) {w : pm_W} {S : ab_S} {sh : Nat → Option ab_S} (hR : al_R N w S sh) (k : ∀ w' S' sh', al_R (N + 1) w' S' sh' → lw_J p l e s m below meth c b D G 590 [] (nI I) w') : lw_J p l e s m below meth c b D G 531 [] (nI I) w := by
  refine lw_al1 X dL_law_531 ?_
  refine lw_arg X (K := 1) (by decide) (by omega) hL dL_law_532 dL_law_533 dL_law_534 dL_law_535 dL_law_536 ?_
  refine lw_ci (as := [.int _]) X (k := 0) (ci := 4) rfl (by decide) rfl ml_RL_68 (by decide) (Nat.le_of_ble_eq_true rfl) dL_law_537 (o_c_keep hR.1 hR.2.1 hR.2.2.1 _) (fun r1 w1 hq => ?_)
  obtain ⟨p1, q2, q3⟩ := hq
  refine lw_al2 X dL_law_540 ?_
  refine lw_arg X (K := 1) (by decide) (by omega) hL dL_law_541 dL_law_542 dL_law_543 dL_law_544 dL_law_545 ?_
  refine lw_ci (as := [.int _]) X (k := 83) (ci := 5) rfl (by decide) rfl ml_RL_71 (by decide) (Nat.le_of_ble_eq_true rfl) dL_law_546 (o_m_keep q2 q3 hR.2.2.1 hR.2.2.2 _) (fun r2 w2 hq => ?_)
  obtain ⟨p2, q2, q3⟩ := hq
  refine lw_eq X (p1.trans p2.symm) dL_law_549 (by decide) ?_
  exact k w2 _ _ ⟨q2, q3, al_m hR.2.2.1 (by omega), fun s T hs h => al_m (al_keep hR.2.2.1 hR.2.2.2 _ s T hs h) (by omega)⟩

theorem lw_back {p : Program} {l : Launch} {e : Env} {s : State} {m : MethodId} {below : List Frame} {meth : Method} {c : Code} {b L : Nat} {xs : Nat → Int32} {D : va_G} {G : pm_G} (X : lw_X p s m meth c b L xs D G) {I N : Nat} (hI : I + 4 ≤ L) (hL : L ≤ 2048) (hN : N < 1000000) {w : pm_W} {S : ab_S} {sh : Nat → Option ab_S} (hR : al_R N w S sh) (k : ∀ w' S' sh', al_R (N + 1) w' S' sh' → lw_J p l e s m below meth c b D G 590 [] (nI I) w') : lw_J p l e s m below meth c b D G 554 [] (nI I) w := by
  refine lw_al1 X dL_law_554 ?_
  refine lw_arg X (K := 1) (by decide) (by omega) hL dL_law_555 dL_law_556 dL_law_557 dL_law_558 dL_law_559 ?_
  refine lw_ci (as := [.int _]) X (k := 0) (ci := 4) rfl (by decide) rfl ml_RL_72 (by decide) (Nat.le_of_ble_eq_true rfl) dL_law_560 (o_c_back hR.1 hR.2.1 hR.2.2.2 _) (fun r1 w1 hq => ?_)
  obtain ⟨p1, q2, q3⟩ := hq
  refine lw_al2 X dL_law_563 ?_
  refine lw_arg X (K := 1) (by decide) (by omega) hL dL_law_564 dL_law_565 dL_law_566 dL_law_567 dL_law_568 ?_
  refine lw_ci (as := [.int _]) X (k := 83) (ci := 5) rfl (by decide) rfl ml_RL_75 (by decide) (Nat.le_of_ble_eq_true rfl) dL_law_569 (o_m_back q2 q3 hR.2.2.2 _) (fun r2 w2 hq => ?_)
  obtain ⟨p2, q2, q3⟩ := hq
  refine lw_eq X (p1.trans p2.symm) dL_law_572 (by decide) ?_
  exact k w2 _ sh ⟨q2, q3, al_m (al_back hR.2.2.1 hR.2.2.2 _) (by omega), fun s T hs h => al_m (hR.2.2.2 s T hs h) (by omega)⟩

theorem lw_digest {p : Program} {l : Launch} {e : Env} {s : State} {m : MethodId} {below : List Frame} {meth : Method} {c : Code} {b L : Nat} {xs : Nat → Int32} {D : va_G} {G : pm_G} (X : lw_X p s m meth c b L xs D G) {I N : Nat} (hI : I + 4 ≤ L) (hL : L ≤ 2048) (hN : N < 1000000) {w : pm_W} {S : ab_S} {sh : Nat → Option ab_S} (hR : al_R N w S sh) (k : ∀ w' S' sh', al_R (N + 1) w' S' sh' → lw_J p l e s m below meth c b D G 590 [] (nI I) w') : lw_J p l e s m below meth c b D G 577 [] (nI I) w := by
  refine lw_al1 X dL_law_577 ?_
  refine lw_ci (as := []) X (k := 0) (ci := 4) rfl (by decide) rfl ml_RL_76 (by decide) (Nat.le_of_ble_eq_true rfl) dL_law_578 (o_c_digest hR.1 hR.2.1 hR.2.2.1 hN ) (fun r1 w1 hq => ?_)
  obtain ⟨p1, q2, q3⟩ := hq
  refine lw_al2 X dL_law_581 ?_
  refine lw_ci (as := []) X (k := 83) (ci := 5) rfl (by decide) rfl ml_RL_80 (by decide) (Nat.le_of_ble_eq_true rfl) dL_law_582 (o_m_digest q2 q3 hR.2.2.1 hN ) (fun r2 w2 hq => ?_)
  obtain ⟨p2, q2, q3⟩ := hq
  refine lw_eq X (p1.trans p2.symm) dL_law_585 (by decide) ?_
  exact k w2 S sh ⟨q2, q3, al_m hR.2.2.1 (by omega), fun s T hs h => al_m (hR.2.2.2 s T hs h) (by omega)⟩

theorem lw_and (v : Int32) : ∃ j, j < 16 ∧ v &&& 15 = nI j := by
  refine ⟨(v &&& 15).toBitVec.toNat, ?_, ?_⟩
  · have : (v &&& 15).toBitVec.toNat ≤ 15 := by
      rw [Int32.toBitVec_and, BitVec.toNat_and]
      exact Nat.and_le_right
    omega
  · apply Int32.toBitVec_inj.mp
    apply BitVec.eq_of_toNat_eq
    show _ = (BitVec.ofNat 32 _).toNat
    rw [BitVec.toNat_ofNat]
    exact (Nat.mod_eq_of_lt (v &&& 15).toBitVec.isLt).symm
theorem lw_len {L I : Nat} (hL : L ≤ 2048) (hI : I ≤ 2052) : nI L - 4 < nI I ↔ ¬ I + 4 ≤ L := by
  by_cases h : 4 ≤ L
  · rw [show (4 : Int32) = nI 4 from rfl, nI_sb h, nI_ltI (by omega) (by omega)]
    omega
  · constructor
    · intro _; omega
    · intro _
      have h0 : nI L - 4 < 0 := by
        rcases (show L = 0 ∨ L = 1 ∨ L = 2 ∨ L = 3 by omega) with rfl | rfl | rfl | rfl <;> decide
      exact Int32.lt_of_lt_of_le h0 (nI_pos' (by omega))

theorem lw_590 {p : Program} {l : Launch} {e : Env} {s : State} {m : MethodId} {below : List Frame} {meth : Method} {c : Code} {b L : Nat} {xs : Nat → Int32} {D : va_G} {G : pm_G} (X : lw_X p s m meth c b L xs D G) {I : Nat} {w : pm_W} (h : lw_J p l e s m below meth c b D G 18 [] (nI (I + 4)) w) : lw_J p l e s m below meth c b D G 590 [] (nI I) w := by
  intro H locs ls hP hS hl
  obtain ⟨⟨hx, hb, hr, hml, hown, hts, hXs, hbl, hlocks, hgv⟩, ho, hAo, hK⟩ := id X
  refine lv_iinc hx hb dL_law_590 hl (k := 0) rfl (show nI I + Int32.ofInt 4 = nI (I + 4) from nI_add I 4) (by decide) rfl (fun ls hl => ?_)
  refine lv_goto (tgt := 18) hx hb dL_law_593 (by decide) ?_
  exact h H locs ls hP hS hl

theorem lw_596 {p : Program} {l : Launch} {e : Env} {s : State} {m : MethodId} {below : List Frame} {meth : Method} {c : Code} {b L : Nat} {xs : Nat → Int32} {D : va_G} {G : pm_G} (X : lw_X p s m meth c b L xs D G) {i : Int32} {w : pm_W} : lw_J p l e s m below meth c b D G 596 [] i w := by
  intro H locs ls hP hS hl
  obtain ⟨⟨hx, hb, hr, hml, hown, hts, hXs, hbl, hlocks, hgv⟩, ho, hAo, hK⟩ := id X
  refine lv_iconst (v := 1) hx hb dL_law_596 rfl ?_
  refine va_forget (fun q hq => hS.2.2 q hq) ?_
  refine W.widen (k := 600000) (n := 7302250) (Nat.le_of_ble_eq_true rfl) (Nat.le_of_ble_eq_true rfl) ?_
  exact lw_ret hx hb hr hlocks dL_law_597

theorem lw_18 {p : Program} {l : Launch} {e : Env} {s : State} {m : MethodId} {below : List Frame} {meth : Method} {c : Code} {b L : Nat} {xs : Nat → Int32} {D : va_G} {G : pm_G} (X : lw_X p s m meth c b L xs D G) (hL : L ≤ 2048) : ∀ d I N : Nat, L + 4 ≤ I + d → I ≤ L → N ≤ I → ∀ (w : pm_W) (S : ab_S) (sh : Nat → Option ab_S), al_R N w S sh → lw_J p l e s m below meth c b D G 18 [] (nI I) w := by
  intro d
  induction d with
  | zero =>
    intro I N h1 h2 h3
    omega
  | succ d ih =>
    intro I N h1 h2 h3 w S sh hR H locs ls hP hS hl
    obtain ⟨⟨hx, hb, hr, hml, hown, hts, hXs, hbl, hlocks, hgv⟩, ho, hAo, hK⟩ := id X
    refine lv_iload_n hx hb dL_law_18 rfl (lv_at hl 0 rfl) ?_
    refine lv_aload_n hx hb dL_law_19 rfl (lv_at hl 3 rfl) ?_
    refine va_slen hx hb hXs hbl (Nat.not_le.mpr hbl) hS dL_law_20 ?_
    refine lv_iconst (v := 4) hx hb dL_law_21 rfl ?_
    refine lv_isub hx hb dL_law_22 ?_
    refine lv_icmp_gt (tgt := 596) hx hb dL_law_23 (by decide) (fun q => lw_596 X (w := w) H locs ls hP hS hl) (fun q => ?_)
    have q : ¬ nI L - 4 < nI I := q
    rw [lw_len hL (by omega)] at q
    have hI4 : I + 4 ≤ L := by omega
    have hgo : lw_J p l e s m below meth c b D G 26 [] (nI I) w := by
      refine lw_arg0 X (by omega) hL dL_law_26 dL_law_27 dL_law_28 ?_
      intro H locs ls hP hS hl
      refine lv_bipush (v := 15) hx hb dL_law_29 rfl ?_
      refine lv_iand hx hb dL_law_31 ?_
      obtain ⟨j, hj, ej⟩ := lw_and (xs I)
      rw [ej]
      have hnx : ∀ w' S' sh', al_R (N + 1) w' S' sh' → lw_J p l e s m below meth c b D G 590 [] (nI I) w' := fun w' S' sh' h => lw_590 X (ih (I + 4) (N + 1) (by omega) (by omega) (by omega) w' S' sh' h)
      rcases (show j = 0 ∨ j = 1 ∨ j = 2 ∨ j = 3 ∨ j = 4 ∨ j = 5 ∨ j = 6 ∨ j = 7 ∨ j = 8 ∨ j = 9 ∨ j = 10 ∨ j = 11 ∨ j = 12 ∨ j = 13 ∨ j = 14 ∨ j = 15 by omega) with rfl | rfl | rfl | rfl | rfl | rfl | rfl | rfl | rfl | rfl | rfl | rfl | rfl | rfl | rfl | rfl
      · exact lv_tableIn (tgt := 112) (off := 80) hx hb dL_law_32 (by decide) (by decide) (by decide) (by decide) (lw_clear X hI4 hL (by omega) hR hnx H locs ls hP hS hl)
      · exact lv_tableIn (tgt := 155) (off := 123) hx hb dL_law_32 (by decide) (by decide) (by decide) (by decide) (lw_share X hI4 hL (by omega) hR hnx H locs ls hP hS hl)
      · exact lv_tableIn (tgt := 188) (off := 156) hx hb dL_law_32 (by decide) (by decide) (by decide) (by decide) (lw_kind X hI4 hL (by omega) hR hnx H locs ls hP hS hl)
      · exact lv_tableIn (tgt := 231) (off := 199) hx hb dL_law_32 (by decide) (by decide) (by decide) (by decide) (lw_hint X hI4 hL (by omega) hR hnx H locs ls hP hS hl)
      · exact lv_tableIn (tgt := 274) (off := 242) hx hb dL_law_32 (by decide) (by decide) (by decide) (by decide) (lw_ask X hI4 hL (by omega) hR hnx H locs ls hP hS hl)
      · exact lv_tableIn (tgt := 307) (off := 275) hx hb dL_law_32 (by decide) (by decide) (by decide) (by decide) (lw_idle X hI4 hL (by omega) hR hnx H locs ls hP hS hl)
      · exact lv_tableIn (tgt := 330) (off := 298) hx hb dL_law_32 (by decide) (by decide) (by decide) (by decide) (lw_told X hI4 hL (by omega) hR hnx H locs ls hP hS hl)
      · exact lv_tableIn (tgt := 363) (off := 331) hx hb dL_law_32 (by decide) (by decide) (by decide) (by decide) (lw_reach X hI4 hL (by omega) hR hnx H locs ls hP hS hl)
      · exact lv_tableIn (tgt := 386) (off := 354) hx hb dL_law_32 (by decide) (by decide) (by decide) (by decide) (lw_room X hI4 hL (by omega) hR hnx H locs ls hP hS hl)
      · exact lv_tableIn (tgt := 419) (off := 387) hx hb dL_law_32 (by decide) (by decide) (by decide) (by decide) (lw_waiting X hI4 hL (by omega) hR hnx H locs ls hP hS hl)
      · exact lv_tableIn (tgt := 452) (off := 420) hx hb dL_law_32 (by decide) (by decide) (by decide) (by decide) (lw_follows X hI4 hL (by omega) hR hnx H locs ls hP hS hl)
      · exact lv_tableIn (tgt := 485) (off := 453) hx hb dL_law_32 (by decide) (by decide) (by decide) (by decide) (lw_house X hI4 hL (by omega) hR hnx H locs ls hP hS hl)
      · exact lv_tableIn (tgt := 508) (off := 476) hx hb dL_law_32 (by decide) (by decide) (by decide) (by decide) (lw_foresight X hI4 hL (by omega) hR hnx H locs ls hP hS hl)
      · exact lv_tableIn (tgt := 531) (off := 499) hx hb dL_law_32 (by decide) (by decide) (by decide) (by decide) (lw_keep X hI4 hL (by omega) hR hnx H locs ls hP hS hl)
      · exact lv_tableIn (tgt := 554) (off := 522) hx hb dL_law_32 (by decide) (by decide) (by decide) (by decide) (lw_back X hI4 hL (by omega) hR hnx H locs ls hP hS hl)
      · exact lv_tableIn (tgt := 577) (off := 545) hx hb dL_law_32 (by decide) (by decide) (by decide) (by decide) (lw_digest X hI4 hL (by omega) hR hnx H locs ls hP hS hl)
    exact hgo H locs ls hP hS hl

