/-! what holds at the law's entry -/
theorem s_arr {args : Array Value} {s : State} {ty : FieldType} (h : (Cond.arrayClass ty).before args s = true) : ∃ cA, ArrOfT s cA ty ∧ s.vm.findClass ("[" ++ ty.toString) = some cA := by
  obtain ⟨c, k, comp, h1, h2, h3⟩ := Cond.arrayClass_spec h
  exact ⟨c, fun n z => ⟨fun k h => (by cases h), k, h2, comp, h3⟩, h1⟩
theorem s_arrO {args : Array Value} {s : State} {C : String} (h : (Cond.arrayOver (.object C)).before args s = true) : ∃ cA, ArrOfT s cA (.object C) ∧ va_RA s cA (.object C) := by
  obtain ⟨comp, c, k, h1, -, h3, h4, h5⟩ := Cond.arrayOver_spec h
  exact ⟨c, fun n z => ⟨fun k h => (by cases h), k, h3, comp, h4⟩, k, comp, h3, h4, h1, h5⟩
set_option maxRecDepth 20000 in
theorem s_nest : ∀ w ∈ nestW, w ∈ lw_tbl := by decide +kernel
set_option maxRecDepth 20000 in
theorem s_cast : ∀ w ∈ castW, w ∈ lw_tbl := by decide +kernel
set_option maxRecDepth 20000 in
theorem s_casO : ∀ w ∈ castO, w ∈ lw_tbl := by decide +kernel
set_option maxRecDepth 20000 in
theorem s_str : ∀ t ∈ strT, Cond.stringRef RX7 t.1 t.2 ∈ lw_tbl := by decide +kernel
set_option maxRecDepth 20000 in
theorem s_K {args : Array Value} {s : State} (hts : ∀ w ∈ lw_tbl, w.before args s = true) : ∃ (D : va_G) (y : Nat → ClassId), va_K D vwCl (TY y) s := by
  obtain ⟨c0, i0, k0⟩ := u_known (C := RJx00060) (T := TJx00060) (N := 6) (n := 6) hts q_Jx000600 (hts (.instantiable RJx00060 6) (by decide +kernel))
  obtain ⟨c1, i1, k1⟩ := u_known (C := RJx4a65c) (T := TJx4a65c) (N := 3) (n := 3) hts q_Jx4a65c0 (hts (.instantiable RJx4a65c 3) (by decide +kernel))
  obtain ⟨c2, i2, k2⟩ := u_known (C := RX0) (T := TX0) (N := 4) (n := 4) hts q_X00 (hts (.instantiable RX0 4) (by decide +kernel))
  obtain ⟨c3, i3, k3⟩ := u_known (C := RX1) (T := TX1) (N := 1) (n := 1) hts q_X10 (hts (.instantiable RX1 1) (by decide +kernel))
  obtain ⟨c4, i4, k4⟩ := u_known (C := RX2) (T := TX2) (N := 9) (n := 9) hts q_X20 (hts (.instantiable RX2 9) (by decide +kernel))
  obtain ⟨c5, i5, k5⟩ := u_known (C := RX3) (T := TX3) (N := 4) (n := 4) hts q_X30 (hts (.instantiable RX3 4) (by decide +kernel))
  obtain ⟨c6, i6, k6⟩ := u_known (C := RX4) (T := TX4) (N := 2) (n := 2) hts q_X40 (hts (.instantiable RX4 2) (by decide +kernel))
  obtain ⟨c7, i7, k7⟩ := u_known (C := RX5) (T := TX5) (N := 3) (n := 3) hts q_X50 (hts (.instantiable RX5 3) (by decide +kernel))
  obtain ⟨c8, i8, k8⟩ := u_known (C := RX6) (T := TX6) (N := 7) (n := 7) hts q_X60 (hts (.instantiable RX6 7) (by decide +kernel))
  obtain ⟨c9, i9, k9⟩ := u_known (C := RX7) (T := TX7) (N := 7) (n := 7) hts q_X70 (hts (.instantiable RX7 7) (by decide +kernel))
  obtain ⟨c10, i10, k10⟩ := u_known (C := RX8) (T := TX8) (N := 34) (n := 34) hts q_X80 (hts (.instantiable RX8 34) (by decide +kernel))
  obtain ⟨a0, h0, g0⟩ := s_arr (hts (.arrayClass .int) (by decide +kernel))
  obtain ⟨a1, h1, g1⟩ := s_arr (hts (.arrayClass .char) (by decide +kernel))
  obtain ⟨a2, h2, g2⟩ := s_arr (hts (.arrayClass .boolean) (by decide +kernel))
  obtain ⟨a3, h3, g3⟩ := s_arrO (hts (.arrayOver (.object "java/lang/Object")) (by decide +kernel))
  obtain ⟨a4, h4, g4⟩ := s_arr (hts (.arrayClass .long) (by decide +kernel))
  refine ⟨(fun k => [c0, c1, c2, c3, c4, c5, c6, c7, c8, c9, c10].getD k 0, fun k => [i0, i1, i2, i3, i4, i5, i6, i7, i8, i9, i10].getD k i0), fun k => [a0, a1, a2, a3, a4].getD k 0, fun k q hq => ?_, fun k q hq => ?_⟩
  · match k, hq with
    | 0, hq => cases hq; exact k0
    | 1, hq => cases hq; exact k1
    | 2, hq => cases hq; exact k2
    | 3, hq => cases hq; exact k3
    | 4, hq => cases hq; exact k4
    | 5, hq => cases hq; exact k5
    | 6, hq => cases hq; exact k6
    | 7, hq => cases hq; exact k7
    | 8, hq => cases hq; exact k8
    | 9, hq => cases hq; exact k9
    | 10, hq => cases hq; exact k10
    | k + 11, hq => simp [vwCl] at hq
  · match k, hq with
    | 0, hq => cases hq; exact ⟨h0, g0⟩
    | 1, hq => cases hq; exact ⟨h1, g1⟩
    | 2, hq => cases hq; exact ⟨h2, g2⟩
    | 3, hq => cases hq; exact ⟨h3, g3⟩
    | 4, hq => cases hq; exact ⟨h4, g4⟩
    | k + 5, hq => simp at hq
theorem s_new {s : State} : ∀ a : Nat, a < s.heap.size → ¬ (fun q : Nat => s.heap.size ≤ q) a := fun a h h2 => absurd h (Nat.not_lt.mpr h2)
set_option maxRecDepth 20000 in
theorem s_strx : ∀ t ∈ strT, Cond.exactly (.string RX7 t.1) "java/lang/String" ∈ flatC (Jvm.Cond.and given_1 narrow_1) := by decide +kernel
set_option maxRecDepth 20000 in
theorem s_T {args : Array Value} {s : State} (hts : ∀ w ∈ lw_tbl, w.before args s = true) (hg : (Jvm.Cond.and given_1 narrow_1).before args s = true) : ThP s.heap.size s := by
  have hs := flat_of_before _ hg
  refine ⟨vx_Zqof (hts (.laysStatic Bundle.tN "UNASSIGNED_STACK" Bundle.steD) (by decide +kernel)) (hts (.initialized Bundle.tN) (by decide +kernel)) (hs (.isRef (.static Bundle.tN "UNASSIGNED_STACK" Bundle.steD)) (by decide +kernel)) s_new, vx_Zqof (hts (.laysStatic Bundle.tN "SUPPRESSED_SENTINEL" Bundle.listD) (by decide +kernel)) (hts (.initialized Bundle.tN) (by decide +kernel)) (hs (.isRef (.static Bundle.tN "SUPPRESSED_SENTINEL" Bundle.listD)) (by decide +kernel)) s_new, fun w hw => va_Nw.of ((by decide +kernel : ∀ w ∈ castW, w.onTables = true) w hw) (hts w (s_cast w hw)), fun t ht => ?_⟩
  obtain ⟨a, c, cA, kA, q1, -⟩ := Cond.exactly_spec (args := args) (first := s) (o := none) (s := s) (idx := []) (t := .string RX7 t.1) (cls := "java/lang/String") (hs _ (s_strx t ht))
  exact ⟨a, vk_R.of (hts _ (s_str t ht)) q1⟩
set_option maxRecDepth 20000 in
theorem s_L {args : Array Value} {s : State} (hts : ∀ w ∈ lw_tbl, w.before args s = true) (hg : (Jvm.Cond.and given_1 narrow_1).before args s = true) : ∃ df mr, LsP s.heap.size df mr s := by
  have hs := flat_of_before _ hg
  obtain ⟨df, hd, hT⟩ := va_Tof (tm := .static "java/util/ArrayList" "DEFAULTCAPACITY_EMPTY_ELEMENTDATA" "[Ljava/lang/Object;") (ty := .object "java/lang/Object") (N := 0) (f := fun _ => .null) (A := fun q => s.heap.size ≤ q) (by decide) (hs (.arrayOf (.static "java/util/ArrayList" "DEFAULTCAPACITY_EMPTY_ELEMENTDATA" "[Ljava/lang/Object;") (.object "java/lang/Object")) (by decide +kernel)) (va_eqt (hs (.eq (.length (.static "java/util/ArrayList" "DEFAULTCAPACITY_EMPTY_ELEMENTDATA" "[Ljava/lang/Object;")) (.int 0)) (by decide +kernel))) (fun j hj => absurd hj (by omega)) s_new
  obtain ⟨mr, hm⟩ := va_Mi.of (C := "[Ljava/lang/Object;") (hs (.isRef (.mirror "[Ljava/lang/Object;")) (by decide +kernel))
  exact ⟨df, mr, va_Zof (hts (.laysStatic "java/util/ArrayList" "DEFAULTCAPACITY_EMPTY_ELEMENTDATA" "[Ljava/lang/Object;") (by decide +kernel)) (hts (.initialized "java/util/ArrayList") (by decide +kernel)) hd s_new, hT, va_AO.of (hts (.arrayOver (.object "java/lang/Object")) (by decide +kernel)), va_Dc.of (hts (.declares ⟨"java/lang/Object", "getClass", "()Ljava/lang/Class;"⟩) (by decide +kernel)), hm, fun w hw => va_Nw.of ((by decide +kernel : ∀ w ∈ castO, w.onTables = true) w hw) (hts w (s_casO w hw))⟩
set_option maxRecDepth 20000 in
theorem s_ncx : ∀ t ∈ ncT, Cond.not (.castable t.1 t.2) ∈ flatC (Jvm.Cond.and given_1 narrow_1) := by decide +kernel
theorem s_N {args : Array Value} {s : State} (hg : (Jvm.Cond.and given_1 narrow_1).before args s = true) : NcP s := fun t ht => va_Nc.of (flat_of_before _ hg _ (s_ncx t ht))
