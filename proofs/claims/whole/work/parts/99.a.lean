theorem lw_arr {args : Array Value} {s : State} {ty : FieldType} (h : (Cond.arrayClass ty).before args s = true) : ∃ cA : ClassId, s.vm.findClass ("[" ++ ty.toString) = some cA ∧ ArrOfT s cA ty := by
  obtain ⟨cA, kA, comp, h1, h2, h3⟩ := Cond.arrayClass_spec h
  exact ⟨cA, h1, fun n z => ⟨fun k h => (by cases h), kA, h2, comp, h3⟩⟩
theorem lw_arq {args : Array Value} {s : State} {C : String} (h : (Cond.arrayOver (.object C)).before args s = true) : ∃ cA : ClassId, va_RA s cA (.object C) ∧ ArrOfT s cA (.object C) := by
  obtain ⟨comp, cA, kA, h1, h2, h3, h4, h5⟩ := Cond.arrayOver_spec h
  exact ⟨cA, ⟨kA, comp, h3, h4, h1, h5⟩, fun n z => ⟨fun k h => (by cases h), kA, h3, comp, h4⟩⟩

theorem lw_el_HAS {b : Nat} {s : State} (hq : ∀ c ∈ flatC (Jvm.Cond.and given_1 narrow_1), c.before #[Value.ref b] s = true) : ∀ j : Nat, j < 6 → (Term.elem (Jvm.Term.static RX1 "HAS" "[J") (.int (Int32.ofNat j))).eval #[Value.ref b] s none [] s = some (.long (pm_has.getD j 0)) := by
  intro j hj
  rcases (show j = 0 ∨ j = 1 ∨ j = 2 ∨ j = 3 ∨ j = 4 ∨ j = 5 by omega) with rfl | rfl | rfl | rfl | rfl | rfl
  · exact va_eqtl (hq (.eq (.elem (Jvm.Term.static RX1 "HAS" "[J") (.int 0)) (.long (-6148914691236517206))) (by decide +kernel))
  · exact va_eqtl (hq (.eq (.elem (Jvm.Term.static RX1 "HAS" "[J") (.int 1)) (.long (-3689348814741910324))) (by decide +kernel))
  · exact va_eqtl (hq (.eq (.elem (Jvm.Term.static RX1 "HAS" "[J") (.int 2)) (.long (-1085102592571150096))) (by decide +kernel))
  · exact va_eqtl (hq (.eq (.elem (Jvm.Term.static RX1 "HAS" "[J") (.int 3)) (.long (-71777214294589696))) (by decide +kernel))
  · exact va_eqtl (hq (.eq (.elem (Jvm.Term.static RX1 "HAS" "[J") (.int 4)) (.long (-281470681808896))) (by decide +kernel))
  · exact va_eqtl (hq (.eq (.elem (Jvm.Term.static RX1 "HAS" "[J") (.int 5)) (.long (-4294967296))) (by decide +kernel))

theorem lw_el_SIZED {b : Nat} {s : State} (hq : ∀ c ∈ flatC (Jvm.Cond.and given_1 narrow_1), c.before #[Value.ref b] s = true) : ∀ j : Nat, j < 7 → (Term.elem (Jvm.Term.static RX1 "SIZED" "[J") (.int (Int32.ofNat j))).eval #[Value.ref b] s none [] s = some (.long (pm_sized.getD j 0)) := by
  intro j hj
  rcases (show j = 0 ∨ j = 1 ∨ j = 2 ∨ j = 3 ∨ j = 4 ∨ j = 5 ∨ j = 6 by omega) with rfl | rfl | rfl | rfl | rfl | rfl | rfl
  · exact va_eqtl (hq (.eq (.elem (Jvm.Term.static RX1 "SIZED" "[J") (.int 0)) (.long (1))) (by decide +kernel))
  · exact va_eqtl (hq (.eq (.elem (Jvm.Term.static RX1 "SIZED" "[J") (.int 1)) (.long (4295033110))) (by decide +kernel))
  · exact va_eqtl (hq (.eq (.elem (Jvm.Term.static RX1 "SIZED" "[J") (.int 2)) (.long (282668995843688))) (by decide +kernel))
  · exact va_eqtl (hq (.eq (.elem (Jvm.Term.static RX1 "SIZED" "[J") (.int 3)) (.long (78274679833913472))) (by decide +kernel))
  · exact va_eqtl (hq (.eq (.elem (Jvm.Term.static RX1 "SIZED" "[J") (.int 4)) (.long (1614655367130677248))) (by decide +kernel))
  · exact va_eqtl (hq (.eq (.elem (Jvm.Term.static RX1 "SIZED" "[J") (.int 5)) (.long (7530159316599308288))) (by decide +kernel))
  · exact va_eqtl (hq (.eq (.elem (Jvm.Term.static RX1 "SIZED" "[J") (.int 6)) (.long (-9223372036854775808))) (by decide +kernel))

/-- what the start gives: the classes, the arrays' classes, the two static tables -/
theorem lw_know {p : Program} {s : State} {m : MethodId} {meth : Method} {c : Code} {b L : Nat} {xs : Nat → Int32} (C0 : lw_At p s m meth c b L xs) : ∃ (D : va_G) (G : pm_G), pg_K D G (fun q => s.heap.size ≤ q) s := by
  obtain ⟨hx, hb, hr, hml, hown, hts, hX, hbl, hlocks, hgv⟩ := C0
  have hin : ∀ w, w ∈ pm_good → w ∈ lw_tbl := fun w h => (List.mem_filter.mp h).1
  have hq := flat_of_before _ hgv
  have hnA : ∀ a : Nat, a < s.heap.size → ¬ (fun q : Nat => s.heap.size ≤ q) a := fun a h => Nat.not_le.mpr h
  obtain ⟨c0, i0, n0⟩ := u_known (C := pm_R0 0) (T := pm_T 0) (N := pm_N 0) (n := 10) hts (fun w hw => hin w (pm_lays (by decide) w hw)) (hts (.instantiable RX0 10) (List.mem_of_getElem? (i := 104) (by decide +kernel)))
  obtain ⟨c1, i1, n1⟩ := u_known (C := pm_R0 1) (T := pm_T 1) (N := pm_N 1) (n := 9) hts (fun w hw => hin w (pm_lays (by decide) w hw)) (hts (.instantiable RX1 9) (List.mem_of_getElem? (i := 224) (by decide +kernel)))
  obtain ⟨c2, i2, n2⟩ := u_known (C := pm_R0 2) (T := pm_T 2) (N := pm_N 2) (n := 5) hts (fun w hw => hin w (pm_lays (by decide) w hw)) (hts (.instantiable RX2 5) (List.mem_of_getElem? (i := 70) (by decide +kernel)))
  obtain ⟨c3, i3, n3⟩ := u_known (C := pm_R0 3) (T := pm_T 3) (N := pm_N 3) (n := 11) hts (fun w hw => hin w (pm_lays (by decide) w hw)) (hts (.instantiable RX3 11) (List.mem_of_getElem? (i := 64) (by decide +kernel)))
  obtain ⟨c4, i4, n4⟩ := u_known (C := pm_R0 4) (T := pm_T 4) (N := pm_N 4) (n := 4) hts (fun w hw => hin w (pm_lays (by decide) w hw)) (hts (.instantiable RX4 4) (List.mem_of_getElem? (i := 56) (by decide +kernel)))
  obtain ⟨c5, i5, n5⟩ := u_known (C := pm_R0 5) (T := pm_T 5) (N := pm_N 5) (n := 39) hts (fun w hw => hin w (pm_lays (by decide) w hw)) (hts (.instantiable RX5 39) (List.mem_of_getElem? (i := 544) (by decide +kernel)))
  obtain ⟨aI, f1, g1⟩ := lw_arr (hts _ (hin _ aw_int))
  obtain ⟨aZ, f2, g2⟩ := lw_arr (hts _ (hin _ aw_boolean))
  obtain ⟨aL, f3, g3⟩ := lw_arr (hts _ (hin _ aw_long))
  have o3 := hts (.arrayOver (.object RX3)) (List.mem_of_getElem? (i := 222) (by decide +kernel))
  have o0 := hts (.arrayOver (.object RX0)) (List.mem_of_getElem? (i := 103) (by decide +kernel))
  obtain ⟨aH, f4, g4⟩ := lw_arq o3
  obtain ⟨aK, f5, g5⟩ := lw_arq o0
  obtain ⟨tH, eH, vH⟩ := va_Tof (A := fun q => s.heap.size ≤ q) (tm := (Jvm.Term.static RX1 "HAS" "[J")) (ty := .long) (N := 6) (f := fun j => .long (pm_has.getD j 0)) (by decide) (hq (.arrayOf (Jvm.Term.static RX1 "HAS" "[J") .long) (by decide +kernel)) (va_eqt (hq (.eq (.length (Jvm.Term.static RX1 "HAS" "[J")) (.int 6)) (by decide +kernel))) (lw_el_HAS hq) hnA
  obtain ⟨tS, eS, vS⟩ := va_Tof (A := fun q => s.heap.size ≤ q) (tm := (Jvm.Term.static RX1 "SIZED" "[J")) (ty := .long) (N := 7) (f := fun j => .long (pm_sized.getD j 0)) (by decide) (hq (.arrayOf (Jvm.Term.static RX1 "SIZED" "[J") .long) (by decide +kernel)) (va_eqt (hq (.eq (.length (Jvm.Term.static RX1 "SIZED" "[J")) (.int 7)) (by decide +kernel))) (lw_el_SIZED hq) hnA
  refine ⟨(fun k => match k with | 0 => c0 | 1 => c1 | 2 => c2 | 3 => c3 | 4 => c4 | _ => c5, fun k => match k with | 0 => i0 | 1 => i1 | 2 => i2 | 3 => i3 | 4 => i4 | _ => i5), (fun k => if k = 1000 then tH else tS, fun k => match k with | 10 => aI | 11 => aZ | 12 => aL | 13 => aH | _ => aK), ⟨fun k q h => ?_, fun k q h => ?_⟩, ⟨va_Zref (hts (.laysStatic RX1 "HAS" "[J") (List.mem_of_getElem? (i := 480) (by decide +kernel))) (hts (.initialized RX1) (List.mem_of_getElem? (i := 51) (by decide +kernel))) eH hnA, vH, va_Zref (hts (.laysStatic RX1 "SIZED" "[J") (List.mem_of_getElem? (i := 471) (by decide +kernel))) (hts (.initialized RX1) (List.mem_of_getElem? (i := 51) (by decide +kernel))) eS hnA, vS⟩, fun w hw => ?_, va_AO.of o3, va_AO.of o0⟩
  · match k, h with
    | 0, h => cases h; exact n0
    | 1, h => cases h; exact n1
    | 2, h => cases h; exact n2
    | 3, h => cases h; exact n3
    | 4, h => cases h; exact n4
    | 5, h => cases h; exact n5
    | k + 6, h => simp [pm_cl] at h
  · match k, h with
    | 0, h => cases h; exact ⟨g1, f1⟩
    | 1, h => cases h; exact ⟨g2, f2⟩
    | 2, h => cases h; exact ⟨g3, f3⟩
    | 3, h => cases h; exact ⟨g4, f4⟩
    | 4, h => cases h; exact ⟨g5, f5⟩
    | k + 5, h => simp [pm_tys] at h
  · simp only [pm_nest, pg_nw, List.cons_append, List.nil_append, List.mem_cons, List.not_mem_nil, or_false] at hw
    rcases hw with rfl | rfl | rfl | rfl
    · exact va_Nw.of rfl (hts _ (List.mem_of_getElem? (i := 404) (by decide +kernel)))
    · exact va_Nw.of rfl (hts _ (List.mem_of_getElem? (i := 469) (by decide +kernel)))
    · exact va_Nw.of rfl (hts _ (List.mem_of_getElem? (i := 105) (by decide +kernel)))
    · exact va_Nw.of rfl (hts _ (List.mem_of_getElem? (i := 225) (by decide +kernel)))

