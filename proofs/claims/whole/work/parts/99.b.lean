theorem lw_new {p : Program} {l : Launch} {e : Env} {s : State} {m : MethodId} {below : List Frame} {meth : Method} {c : Code} {b L : Nat} {xs : Nat → Int32} {D : va_G} {G : pm_G} (C0 : lw_At p s m meth c b L xs) (hK : pg_K D G (fun q => s.heap.size ≤ q) s) {Q : State → Prop} {ci idx n kc ks pc : Nat} {rl : List (Nat × Nat)} {w : pm_W} {H : Heap} {locs : List Loc} {ls : Array Slot} {st : List Value} (hO : pg_o n rl (fun q => s.heap.size ≤ q) G) (hci : ci < 6) (hn : n < 109) (hL : pm_L0.1 n = (ci, pm_N ci)) (hw1 : Jvm.Cond.classLink RL idx (pm_R0 ci) ∈ lw_tbl) (hw2 : Jvm.Cond.instantiable (pm_R0 ci) (pm_N ci) ∈ lw_tbl) (hw3 : Jvm.Cond.initialized (pm_R0 ci) ∈ lw_tbl) (hc : kc + 1 ≤ 600000) (hs : ks + pm_N ci ≤ 7302250) (hP : va_P D pm_cl (pm_cells (lm n rl) G w) H) (hS : va_S (fun q => s.heap.size ≤ q) s.heap H locs) (hd : decode code pc = .ok (.new idx, 3)) (kk : ∀ (q : Nat) (H1 : Heap), pg_e n G (va_up G.1 n q, G.2) → pg_o (n + 1) rl (fun q => s.heap.size ≤ q) (va_up G.1 n q, G.2) → va_P D pm_cl (pm_cells (lm (n + 1) rl) (va_up G.1 n q, G.2) (pm_sL (pm_s w n (fun _ => 0)) n (fun _ => 0))) H1 → va_S (fun q => s.heap.size ≤ q) s.heap H1 locs → W p l e room_1 s m #[Value.ref b] below meth c H1 locs (kc + 1) (ks + pm_N ci) Q (F0 m (pc + 3) ls (.ref q :: st))) : W p l e room_1 s m #[Value.ref b] below meth c H locs kc ks Q (F0 m pc ls st) := by
  obtain ⟨hx, hb, hr, hml, hown, hts, hX, hbl, hlocks, hgv⟩ := id C0
  have hrl : ∀ j, (n, j) ∉ rl := fun j hj => absurd (hO.2.2.2 _ hj).1 (Nat.lt_irrefl _)
  refine va_new (ci := ci) (C := pm_R0 ci) (T := pm_T ci) (N := pm_N ci) (fs := (List.range (pm_N ci)).map (fun j => pm_fv (lm (n + 1) rl) (G.1, G.2) (pm_sL (pm_s w n (fun _ => 0)) n (fun _ => 0)) n (pm_ty ci j) j)) hx hb (Ts := lw_tbl) hts (fun w hw => (List.mem_filter.mp (pm_lays hci w hw)).1) (pm_ty ci) (pm_tyok hci) hown (hts _ hw1) (hts _ hw2) (hts _ hw3) hK.1 hP (pg_D hO w) hS (fun _ h => h) (pm_cl_at hci) (fun j hj => ?_) hc hs hd (fun q H1 hP1 hD1 hS1 => ?_)
  · rw [vp_V, List.getD_eq_getElem?_getD, pm_fs_at hj]
    exact pg_dflt (pg_tyk ci hci j hj) (by rw [pm_sL_1, pm_s_at]) (by rw [pm_sL_at]) (lm_0 (hrl j))
  · obtain ⟨g1, g2, g3⟩ := pg_grow (w' := (pm_sL (pm_s w n (fun _ => 0)) n (fun _ => 0))) hn hO pg_zeroB (by
      rw [pm_cell_o hci (by rw [lm_1 (by omega)]; exact hL)]
      refine congrArg Sum.inr (congrArg (Prod.mk ci) (List.map_congr_left (fun j _ => ?_)))
      unfold pm_fv
      rw [lm_0 (hrl j)]
      rfl) hP1 hD1
    exact kk q H1 g1 g2 g3 hS1

theorem lw_ctor {p : Program} {l : Launch} {e : Env} {s : State} {m : MethodId} {below : List Frame} {meth : Method} {c : Code} {b L : Nat} {xs : Nat → Int32} {D : va_G} {G : pm_G} (C0 : lw_At p s m meth c b L xs) (hK : pg_K D G (fun q => s.heap.size ≤ q) s) {Q : State → Prop} {idx k n kc ks pc mc ms n' : Nat} {rl rl' : List (Nat × Nat)} {w : pm_W} {H : Heap} {locs : List Loc} {ls : Array Slot} {st : List Value} {lv : List (Nat × Value)} {M' : pm_M} {Q' : pm_W → Prop} (hO : pg_o n rl (fun q => s.heap.size ≤ q) G) (hl0 : pm_MLI RL idx M' 0) (hrm : M'.2.2.2.2.1 + 1 ≤ 9 ∧ 8 + (M'.2.2.1 + 11) + M'.2.2.2.2.2 ≤ 324) (hsm : (st.map fun v => v.category).sum ≤ 8) (hC : pg_C M' mc ms [.ref k] n rl w n' rl' Q') (hc : kc + mc ≤ 600000) (hs : ks + ms ≤ 7302250) (hP : va_P D pm_cl (pm_cells (lm n rl) G w) H) (hS : va_S (fun q => s.heap.size ≤ q) s.heap H locs) (hl : lv_has ls 4 lv) (hd : decode code pc = .ok (.invokespecial idx, 3)) (kk : ∀ (G2 : pm_G) (w2 : pm_W) (H2 : Heap) (locs2 : List Loc), Q' w2 → pg_e n G G2 → pg_o n' rl' (fun q => s.heap.size ≤ q) G2 → va_P D pm_cl (pm_cells (lm n' rl') G2 w2) H2 → va_S (fun q => s.heap.size ≤ q) s.heap H2 locs2 → W p l e room_1 s m #[Value.ref b] below meth c H2 locs2 (kc + mc) (ks + ms) Q (F0 m (pc + 3) ls st)) : W p l e room_1 s m #[Value.ref b] below meth c H locs kc ks Q (F0 m pc ls (.ref (G.1 k) :: st)) := by
  obtain ⟨hx, hb, hr, hml, hown, hts, hX, hbl, hlocks, hgv⟩ := id C0
  obtain ⟨⟨m1, m2, m4, m5⟩, hret, nm, n1, n2, n3⟩ := hl0
  have hin : ∀ w, w ∈ pm_good → w ∈ lw_tbl := fun w h => (List.mem_filter.mp h).1
  have hgi : GoodIn lw_tbl (pm_ws M') := by
    intro w hw
    rcases List.mem_cons.mp hw with rfl | hw
    · rw [hret]; exact ⟨hin _ m5, pm_gw m5⟩
    · exact ⟨hin _ hw, pm_gw hw⟩
  have hrun := va_runI (e := e) (below := below) (meth := meth) (locs := locs) (cells := kc) (slots := ks) (g := F0 m pc ls (.ref (G.1 k) :: st)) (rest := st) (As := []) (b := G.1 k) (R := room_1) (H := H) ⟨hx, hb, hml, (show s.vm.findClass RL = some m.cls from hown), hts⟩ (hC l D G _ hO) (cwI 0 hts hgi (by unfold pm_ws; rw [hret]) rfl rfl (hts _ (hin _ m4)) (hts _ (hin _ m1)) (hts _ (hin _ m2)) nm ⟨n1, n2, n3⟩ hrm) ⟨pg_blind, fun U hU hW => ⟨rfl, fun q hq => by rw [hU] at hq; exact Nat.le_trans hS.1 hq, by rw [hU]; exact hP, pg_K_moved (locs := locs) hW (by rw [hU]; exact hS) hK⟩⟩ rfl rfl hl.1 rfl (lv_room hsm) hd ⟨hc, hs⟩
  intro T hT X0
  obtain ⟨v, st₀, t, T', Lc, h0, X', hL, e1, e2, ⟨⟨G2, w', hv, hq, hE2, hO2, hP'⟩, hF⟩, hgo⟩ := hrun T hT X0
  cases hv
  have h1 := kk G2 w' T'.heap (locs ++ Lc) hq hE2 hO2 (by rw [e1]; exact hP') ⟨Nat.le_trans hS.1 (by rw [e1, ← h0]; exact hF.1), fun q a1 a2 => by rw [e1, hF.2 q (by rw [h0]; exact Nat.lt_of_lt_of_le a1 hS.1) a2, h0]; exact hS.2.1 q a1 a2, fun q hq => by
    rcases List.mem_append.mp hq with h | h
    · exact hS.2.2 q h
    · exact hL q h⟩
  obtain ⟨t2, a1, b1⟩ := h1 T' rfl X'
  exact ⟨t2, hgo t2 a1, b1⟩

theorem mi_RL_9 : pm_MLI RL 9 MX4_init 0 := ⟨⟨pm_in 57 (by decide +kernel) rfl, pm_in 58 (by decide +kernel) rfl, pm_in 46 (by decide +kernel) rfl, pm_in 59 (by decide +kernel) rfl⟩, rfl, rfl, by decide +kernel, by decide +kernel, by decide +kernel⟩
theorem mi_RL_12 : pm_MLI RL 12 MX5_init 0 := ⟨⟨pm_in 545 (by decide +kernel) rfl, pm_in 546 (by decide +kernel) rfl, pm_in 52 (by decide +kernel) rfl, pm_in 547 (by decide +kernel) rfl⟩, rfl, rfl, by decide +kernel, by decide +kernel, by decide +kernel⟩
theorem lw_o0 (A : Nat → Prop) (G : pm_G) : pg_o 0 [] A G := by
  refine ⟨⟨fun k hk => absurd (show ((lm 0 []).1 k).1 = 99 from rfl) hk, fun i j hi => ?_⟩, fun k hk => absurd hk (by omega), by decide, fun p hp => absurd hp (by simp)⟩
  rw [lm_ks (by decide)] at hi
  exact absurd hi (by simp)
theorem lw_P0 (D : va_G) (G : pm_G) (w : pm_W) (H : Heap) : va_P D pm_cl (pm_cells (lm 0 []) G w) H := by
  intro k q hq
  unfold pm_cells at hq
  rw [lm_ks (by decide)] at hq
  simp at hq

theorem whole_start {p : Program} {e : Env} {s : State} {m : MethodId} {below : List Frame} {meth : Method} {c : Code} (l : Launch) {b L : Nat} {xs : Nat → Int32} (hL : L ≤ 2048) (C0 : lw_At p s m meth c b L xs) : W p l e room_1 s m #[Value.ref b] below meth c s.heap [] 0 0 (lw_Z below #[Value.ref b] s) (entryFrame m ([Value.ref b] : List Value).toArray 4) := by
  obtain ⟨D, G, hK⟩ := lw_know C0
  obtain ⟨hx, hb, hr, hml, hown, hts, hX, hbl, hlocks, hgv⟩ := id C0
  have hl := lv_entry ([.ref b]) (n := 4) (Nat.le_of_ble_eq_true rfl)
  rw [lg_entry_eq]
  generalize (lg_sl ([.ref b]) ++ List.replicate (4 - (lg_sl ([.ref b])).length) Slot.unset).toArray = ls at hl ⊢
  have hl : lv_has ls 4 [(0, .ref b)] := hl
  refine lw_new C0 hK (ci := 4) (n := 0) (rl := []) (w := (fun _ _ => 0, fun _ _ => 0)) (lw_o0 _ _) (by decide) (by decide) rfl (List.mem_of_getElem? (i := 55) (by decide +kernel)) (List.mem_of_getElem? (i := 56) (by decide +kernel)) (List.mem_of_getElem? (i := 46) (by decide +kernel)) (by decide) (by decide) (lw_P0 _ _ _ _) va_S.rf dL_law_0 (fun q1 H1 e1 o1 P1 S1 => ?_)
  refine lv_dup hx hb dL_law_3 rfl ?_
  have hK1 := pg_K_ext hK e1
  have a1 : (va_up G.1 0 q1, G.2).1 0 = q1 := (show va_up G.1 0 q1 0 = q1 from va_up_self _ _ _)
  generalize (va_up G.1 0 q1, G.2) = G1 at e1 o1 P1 hK1 a1
  subst a1
  refine lw_ctor C0 hK1 (k := 0) o1 mi_RL_9 (by decide) (Nat.le_of_ble_eq_true rfl) (g_X4_init _) (by decide) (by decide) P1 S1 hl dL_law_4 (fun G2 w2 H2 locs2 hq2 e2 o2 P2 S2 => ?_)
  have hK2 := pg_K_ext hK1 e2
  rw [← e2.1 0 (by decide)]
  refine lv_astore_n hx hb dL_law_7 rfl hl (by decide) rfl (fun ls hl => ?_)
  refine lw_new C0 hK2 (ci := 5) (n := 83) (rl := ra_rl) o2 (by decide) (by decide) rfl (List.mem_of_getElem? (i := 543) (by decide +kernel)) (List.mem_of_getElem? (i := 544) (by decide +kernel)) (List.mem_of_getElem? (i := 52) (by decide +kernel)) (by decide) (by decide) P2 S2 dL_law_8 (fun q3 H3 e3 o3 P3 S3 => ?_)
  refine lv_dup hx hb dL_law_11 rfl ?_
  have hK3 := pg_K_ext hK2 e3
  have a3 : (va_up G2.1 83 q3, G2.2).1 83 = q3 := (show va_up G2.1 83 q3 83 = q3 from va_up_self _ _ _)
  have b3 : (va_up G2.1 83 q3, G2.2).1 0 = G2.1 0 := e3.1 0 (by decide)
  generalize (va_up G2.1 83 q3, G2.2) = G3 at e3 o3 P3 hK3 a3 b3
  subst a3
  rw [← b3] at hl
  refine lw_ctor C0 hK3 (k := 83) o3 mi_RL_12 (by decide) (Nat.le_of_ble_eq_true rfl) (g_X5_init _) (by decide) (by decide) P3 S3 hl dL_law_12 (fun G4 w4 H4 locs4 hq4 e4 o4 P4 S4 => ?_)
  have hK4 := pg_K_ext hK3 e4
  rw [← e4.1 0 (by decide)] at hl
  rw [← e4.1 83 (by decide)]
  refine lv_astore_n hx hb dL_law_15 rfl hl (by decide) rfl (fun ls hl => ?_)
  refine lv_iconst (v := nI 0) hx hb dL_law_16 rfl ?_
  refine lv_istore_n hx hb dL_law_17 rfl hl (by decide) rfl (fun ls hl => ?_)
  have hX4 : lw_X p s m meth c b L xs D G4 := ⟨C0, lay_ok (lay_sym lay_full) o4.1, fun q hq => pg_A_in o4 q (by rw [lay_A lay_full]; exact hq), hK4⟩
  have hcs : cs_R w4 (ab_beg 4 1 2) (fun _ => none) := cs_hi hq2.1 (fun a ha => (hq4.2 a (by omega)).trans (pm_s_ne (by omega)))
  exact lw_18 hX4 hL (L + 4) 0 0 (by omega) (by omega) (by omega) w4 (ab_beg 4 1 2) (fun _ => none) ⟨hcs, hq4.1, al_beg (by decide) (by decide) (by decide) 0, fun s T hs h => by cases h⟩ H4 locs4 ls (lay_P (lay_sym lay_full) P4) S4 hl

set_option maxHeartbeats 4000000 in
theorem lw_walk (l : Launch) (b : Addr) (xs : List Int32) : MetFree l x (headSpec (Jvm.Cond.code x code maxLocals ret :: tables_1) room_1) (lw_P b xs) (fun _ _ _ _ _ => True) lw_Q := by
  refine MetFree.of_bodyS (code := code) (maxLocals := maxLocals) (ret := ret) (by decide) ?_ ?_
  · intro args s m h hn
    obtain ⟨meth, c, h1, h2, h3, h4, h5, h6, -, -⟩ := Cond.code_spec hn (atoms_spec (ws := Jvm.Cond.code x code maxLocals ret :: tables_1) h _ List.mem_cons_self)
    exact ⟨meth, c, h1, h2, h3, h4, h5, h6⟩
  · intro p e s m args below meth c s₁ B hml0 hP _
    obtain ⟨rfl, hx, hbd, hgv⟩ := hP
    obtain ⟨scr, harrAt, hlist, hof, hsmall⟩ := hx
    obtain ⟨hcb, hkn, -, -⟩ := State.arrayAt?_spec harrAt
    have hown : s.vm.findClass R_law = some m.cls := findClass_of_methodNamed B.named
    have hts0 : ∀ c ∈ (Jvm.Cond.code x code maxLocals ret :: tables_1), c.before #[Value.ref b] s = true := atoms_spec (ws := Jvm.Cond.code x code maxLocals ret :: tables_1) B.pre
    have hts : ∀ w ∈ lw_tbl, w.before #[Value.ref b] s = true := k2_hts_sels lw_privs (fun w hw => hts0 w (List.mem_cons_of_mem _ hw)) lw_privs_ok
    have hml : c.maxLocals = 4 := B.maxLocals_eq (hts0 _ List.mem_cons_self)
    have X₀ : Stand p l e room_1 s m #[Value.ref b] below meth c s₁ [] 0 0 := Stand.of_body B
    have hh0 : s₁.heap = s.heap := by rw [B.state]; rfl
    have hsz : scr.slots.size = xs.length := by rw [← Array.length_toList, hlist, List.length_map]
    have hval : ∀ j : Nat, j < xs.length → scr.slots[j]? = some (.int (xs.getD j 0)) := fun j hj => by
      rw [← Array.getElem?_toList, hlist]
      simp [hj]
    have hbl : b < s.heap.size := (Array.getElem?_eq_some_iff.mp hcb).1
    have hX : va_X b xs.length (fun j => xs.getD j 0) s s.heap := ⟨scr, hcb, hof, hkn, hsz, hval⟩
    have K : W p l e room_1 s m #[Value.ref b] below meth c s₁.heap [] 0 0 (lw_Z below #[Value.ref b] s) (entryFrame m ([Value.ref b] : List Value).toArray 4) := by
      rw [hh0]
      exact whole_start l hbd ⟨B.exec, B.bytes, B.returns, hml, hown, hts, hX, hbl, B.notSynchronized, hgv⟩
    obtain ⟨t, a1, o, b1, b2, b3⟩ := K s₁ rfl X₀
    exact ⟨t, o, a1, b1, b2, b3⟩
theorem lw_pre_spec {args : Array Value} {s : State} (h : (Jvm.Cond.and given_1 narrow_1).before args s = true) (hr : rest_1_c.before args s = true) : ∃ (b : Addr) (xs : List Int32), lw_P b xs args s := by
  have hs := flat_of_before _ h
  have hq := flat_of_before _ hr
  have hc : (Cond.count 1).before args s = true := hs _ (by decide +kernel)
  have harr : (Cond.arrayOf (.arg 0) .int).before args s = true := hs _ (by decide +kernel)
  have hle : (Cond.le (.length (.arg 0)) (.int 2048)).before args s = true := hs _ (by decide +kernel)
  have hlen : (Cond.isInt (.length (.arg 0))).before args s = true := hq _ (by decide +kernel)
  have hall : (Cond.all (.arg 0) (.isInt (.elem (.arg 0) (.index 0)))).before args s = true := hq _ (by decide +kernel)
  obtain ⟨b, xs, hb, hx⟩ := State.ints_of_pre rfl harr hlen hall
  have hsm : xs.length < 2 ^ 31 := hx.choose_spec.2.2.2
  have hev : (Term.length (.arg 0)).eval args s none [] s = some (.int xs.length.toInt32) := hx.length_eval hb
  have hv := Cond.le_ints hev (show (Term.int 2048).eval args s none [] s = some (.int 2048) from rfl)
  have hd : xs.length.toInt32 ≤ 2048 := by
    simpa [Cond.before, Cond.holds, hv] using hle
  have hN : xs.length ≤ 2048 := (Int32.ofNat_le_ofNat hsm (by decide)).mp (show Int32.ofNat xs.length ≤ Int32.ofNat 2048 from hd)
  exact ⟨b, xs, Cond.one_arg hc (show args[0]? = some (.ref b) from hb), hx, hN, h⟩
theorem lw_comes (l : Launch) : Comes l x (Jvm.Cond.code x code maxLocals ret :: tables_1) room_1 (fun tb e args s => Calls_1 tb e args s ∧ rest_1 tb e args s ∧ Pre_1 tb e args s)
    (fun _ _ args s o t => lw_Q args s o t) := by
  intro p e ha hc hk s m args below hf hfit hheap happ hpre
  obtain ⟨b, xs, hP⟩ := lw_pre_spec hpre.2.2 hpre.2.1
  obtain ⟨k, o, h1, h2, h3, hQ⟩ := lw_walk l b xs p e ha hc hk s m args below hf ((Spec.applies_iff_loose hf).mp happ).1 hP trivial
  exact ⟨k, o, h1, h2, h3, hQ⟩
theorem lw_frame {s t : State} {o : Outcome} {args : Array Value} (h : Framed s o t [] 600000 7302250) :
    Framed s o t (fieldLocs frame_1_writes args s ++ arrayLocs frame_1_arrays args s ++ staticLocs frame_1_statics s) 600000 7302250 := h
theorem lw_limb (L : Cond) (hL : ∀ (args : Array Value) (s t : State), L.after args s (.returned (some (.int 1))) t = true) :
    ArmFor flags0 classFile x code maxLocals ret World_1 tables_1 room_1 Calls_1 rest_1 Pre_1
      (fun tb e a s o t => postC L tb e a s o t ∧ Framed s o t (fieldLocs frame_1_writes a s ++ arrayLocs frame_1_arrays a s ++ staticLocs frame_1_statics s) 600000 7302250) := by
  intro l _ _ _ p e ha hc hk s m args below hf hfit hheap happ hpre
  obtain ⟨k, o, h1, h2, h3, rfl, hF⟩ := lw_comes l p e ha hc hk s m args below hf hfit hheap happ hpre
  exact ⟨k, _, h1, h2, h3, hL args s _, lw_frame hF⟩
theorem i_vc : Claimed_1_1 ∧ Claimed_1_2 := ⟨lw_limb limb_1_1 (fun args s t => by simp [limb_1_1, Cond.after, Cond.holds, Cond.value]), lw_limb limb_1_2 (fun args s t => Cond.after_iff.mpr (by
  first | (rw [show limb_1_2 = Cond.eq .result (.int 1) from rfl, Cond.eq_ints (x := 1) (y := 1) rfl rfl]; simp; done) | (simp [limb_1_2, Cond.value, Term.eval]; done)))⟩

