/-! the refusals, and the calls that only read -/

set_option maxHeartbeats 4000000 in
set_option maxRecDepth 100000 in
/-- checkOwner -/
theorem c_X7_checkOwner (l : Launch) (hl0 : l.stackTraces = false) (D : va_G) (y : Nat → ClassId) (b0 : Nat) (ws : va_W) (a : Int32) : vx_Met l yX7_checkOwner wsX7_checkOwner ({ frames := 6, cells := 1, slots := 6, locals := 82 }) (va_Pc [.int a] (WdM D y b0 (ws))) (va_Qv (fun (u : va_W) => (0 ≤ a ∧ a ≤ 7) ∧ u = ws) (WB D b0) (fun q => b0 ≤ q)) (XX D b0 (ws) (fun k => k = 0 ∧ ¬ (0 ≤ a ∧ a ≤ 7))) 1 6 (fun q => b0 ≤ q) := by
  refine vx_ofW (cc := cX7_checkOwner) (maxL := 1) (ret := none) (by decide) rfl ?_
  intro p e s m args below meth c s₁ B hml hno hv
  obtain ⟨rfl, ⟨hP, hK, hN⟩, hD, hb0, hT⟩ := hv
  have hx := B.exec
  have hb := B.bytes
  have hr := B.returns
  have hts := atoms_spec (ws := wsX7_checkOwner) B.pre
  have hown : s.vm.findClass RX7 = some m.cls := findClass_of_methodNamed B.named
  have hlocks := B.notSynchronized
  have hS : va_S (fun q => b0 ≤ q) s.heap s.heap [] := va_S.rf
  have hl := lv_entry ([.int a]) (n := 1) (Nat.le_of_ble_eq_true rfl)
  rw [lg_entry_eq]
  generalize (lg_sl ([.int a]) ++ List.replicate (1 - (lg_sl ([.int a])).length) Slot.unset).toArray = ls at hl ⊢
  have hl : lv_has ls 1 [(0, .int a)] := hl
  refine lv_iload_n hx hb dX7_checkOwner_0 rfl (lv_at hl 0 rfl) ?_
  refine lv_iconst (v := 0) hx hb dX7_checkOwner_1 (by decide) ?_
  refine lv_bipush (v := 7) hx hb dX7_checkOwner_2 (by decide) ?_
  refine vp_callSi (va_Run.run (va_runS (As := [.int a, .int 0, .int 7]) (rest := []) ⟨hx, hb, hml, hown, hts⟩ (c_X7_isWithin l a 0 7) (va_cwS 3 hts gX7_checkOwner_X7_isWithin rfl rfl rfl (by decide +kernel) ⟨Nat.le_of_ble_eq_true rfl, Nat.le_of_ble_eq_true rfl⟩) ⟨fun _ _ _ _ q => q, fun U hU hW => ⟨rfl, trivial⟩⟩ rfl rfl hl.1 rfl (lv_room (Nat.le_of_ble_eq_true rfl)) dX7_checkOwner_4 ⟨(Nat.le_of_ble_eq_true rfl), (Nat.le_of_ble_eq_true rfl)⟩)) (fun r_4 hr_4 => ?_)
  refine lv_if_ne (tgt := 20) hx hb dX7_checkOwner_7 (by decide) (fun c_7 => ?_) (fun c_7 => ?_)
  · refine W.widen (k := 1) (n := 6) (Nat.le_of_ble_eq_true rfl) (Nat.le_of_ble_eq_true rfl) ?_
    exact vx_ret (W.vret hx hb hr (fun t ht hW => ⟨⟨ws, rfl, ⟨Decidable.byContradiction fun h => c_7 (by rw [hr_4]; exact wI_eq0.mpr h), rfl⟩, by rw [ht]; exact hP, hD⟩, hS.F ht⟩) hS.2.2 dX7_checkOwner_20)
  · exact pv_thr (text := "no such owner") hx hb hl0 0 ⟨rfl, wI_eq0.mp (by rw [← hr_4]; exact c_7)⟩ hts hown (by decide +kernel) (by decide +kernel) (by decide +kernel) (by decide +kernel) (by decide +kernel) thr_b0 (by decide +kernel) hT hP hS (hl.1.trans hml.symm) dX7_checkOwner_10 dX7_checkOwner_13 dX7_checkOwner_14 dX7_checkOwner_16 dX7_checkOwner_19 hno (Nat.le_of_ble_eq_true rfl) (Nat.le_of_ble_eq_true rfl) (Nat.le_of_ble_eq_true rfl) (Nat.le_of_ble_eq_true rfl) hlocks (Nat.le_of_ble_eq_true rfl) (Nat.le_of_ble_eq_true rfl)

set_option maxHeartbeats 4000000 in
set_option maxRecDepth 100000 in
/-- checkKind -/
theorem c_X7_checkKind (l : Launch) (hl0 : l.stackTraces = false) (D : va_G) (y : Nat → ClassId) (b0 : Nat) (ws : va_W) (a : Int32) : vx_Met l yX7_checkKind wsX7_checkKind ({ frames := 6, cells := 1, slots := 6, locals := 82 }) (va_Pc [.int a] (WdM D y b0 (ws))) (va_Qv (fun (u : va_W) => (0 ≤ a ∧ a ≤ 4) ∧ u = ws) (WB D b0) (fun q => b0 ≤ q)) (XX D b0 (ws) (fun k => k = 0 ∧ ¬ (0 ≤ a ∧ a ≤ 4))) 1 6 (fun q => b0 ≤ q) := by
  refine vx_ofW (cc := cX7_checkKind) (maxL := 1) (ret := none) (by decide) rfl ?_
  intro p e s m args below meth c s₁ B hml hno hv
  obtain ⟨rfl, ⟨hP, hK, hN⟩, hD, hb0, hT⟩ := hv
  have hx := B.exec
  have hb := B.bytes
  have hr := B.returns
  have hts := atoms_spec (ws := wsX7_checkKind) B.pre
  have hown : s.vm.findClass RX7 = some m.cls := findClass_of_methodNamed B.named
  have hlocks := B.notSynchronized
  have hS : va_S (fun q => b0 ≤ q) s.heap s.heap [] := va_S.rf
  have hl := lv_entry ([.int a]) (n := 1) (Nat.le_of_ble_eq_true rfl)
  rw [lg_entry_eq]
  generalize (lg_sl ([.int a]) ++ List.replicate (1 - (lg_sl ([.int a])).length) Slot.unset).toArray = ls at hl ⊢
  have hl : lv_has ls 1 [(0, .int a)] := hl
  refine lv_iload_n hx hb dX7_checkKind_0 rfl (lv_at hl 0 rfl) ?_
  refine lv_iconst (v := 0) hx hb dX7_checkKind_1 (by decide) ?_
  refine lv_iconst (v := 4) hx hb dX7_checkKind_2 (by decide) ?_
  refine vp_callSi (va_Run.run (va_runS (As := [.int a, .int 0, .int 4]) (rest := []) ⟨hx, hb, hml, hown, hts⟩ (c_X7_isWithin l a 0 4) (va_cwS 3 hts gX7_checkKind_X7_isWithin rfl rfl rfl (by decide +kernel) ⟨Nat.le_of_ble_eq_true rfl, Nat.le_of_ble_eq_true rfl⟩) ⟨fun _ _ _ _ q => q, fun U hU hW => ⟨rfl, trivial⟩⟩ rfl rfl hl.1 rfl (lv_room (Nat.le_of_ble_eq_true rfl)) dX7_checkKind_3 ⟨(Nat.le_of_ble_eq_true rfl), (Nat.le_of_ble_eq_true rfl)⟩)) (fun r_3 hr_3 => ?_)
  refine lv_if_ne (tgt := 19) hx hb dX7_checkKind_6 (by decide) (fun c_6 => ?_) (fun c_6 => ?_)
  · refine W.widen (k := 1) (n := 6) (Nat.le_of_ble_eq_true rfl) (Nat.le_of_ble_eq_true rfl) ?_
    exact vx_ret (W.vret hx hb hr (fun t ht hW => ⟨⟨ws, rfl, ⟨Decidable.byContradiction fun h => c_6 (by rw [hr_3]; exact wI_eq0.mpr h), rfl⟩, by rw [ht]; exact hP, hD⟩, hS.F ht⟩) hS.2.2 dX7_checkKind_19)
  · exact pv_thr (text := "no such class or kind") hx hb hl0 0 ⟨rfl, wI_eq0.mp (by rw [← hr_3]; exact c_6)⟩ hts hown (by decide +kernel) (by decide +kernel) (by decide +kernel) (by decide +kernel) (by decide +kernel) thr_b0 (by decide +kernel) hT hP hS (hl.1.trans hml.symm) dX7_checkKind_9 dX7_checkKind_12 dX7_checkKind_13 dX7_checkKind_15 dX7_checkKind_18 hno (Nat.le_of_ble_eq_true rfl) (Nat.le_of_ble_eq_true rfl) (Nat.le_of_ble_eq_true rfl) (Nat.le_of_ble_eq_true rfl) hlocks (Nat.le_of_ble_eq_true rfl) (Nat.le_of_ble_eq_true rfl)

set_option maxHeartbeats 4000000 in
set_option maxRecDepth 100000 in
/-- checkDay -/
theorem c_X7_checkDay (l : Launch) (hl0 : l.stackTraces = false) (D : va_G) (y : Nat → ClassId) (b0 : Nat) (ws : va_W) (a : Int32) : vx_Met l yX7_checkDay wsX7_checkDay ({ frames := 6, cells := 1, slots := 6, locals := 82 }) (va_Pc [.int a] (WdM D y b0 (ws))) (va_Qv (fun (u : va_W) => (0 ≤ a ∧ a ≤ 3599) ∧ u = ws) (WB D b0) (fun q => b0 ≤ q)) (XX D b0 (ws) (fun k => k = 0 ∧ ¬ (0 ≤ a ∧ a ≤ 3599))) 1 6 (fun q => b0 ≤ q) := by
  refine vx_ofW (cc := cX7_checkDay) (maxL := 1) (ret := none) (by decide) rfl ?_
  intro p e s m args below meth c s₁ B hml hno hv
  obtain ⟨rfl, ⟨hP, hK, hN⟩, hD, hb0, hT⟩ := hv
  have hx := B.exec
  have hb := B.bytes
  have hr := B.returns
  have hts := atoms_spec (ws := wsX7_checkDay) B.pre
  have hown : s.vm.findClass RX7 = some m.cls := findClass_of_methodNamed B.named
  have hlocks := B.notSynchronized
  have hS : va_S (fun q => b0 ≤ q) s.heap s.heap [] := va_S.rf
  have hl := lv_entry ([.int a]) (n := 1) (Nat.le_of_ble_eq_true rfl)
  rw [lg_entry_eq]
  generalize (lg_sl ([.int a]) ++ List.replicate (1 - (lg_sl ([.int a])).length) Slot.unset).toArray = ls at hl ⊢
  have hl : lv_has ls 1 [(0, .int a)] := hl
  refine lv_iload_n hx hb dX7_checkDay_0 rfl (lv_at hl 0 rfl) ?_
  refine lv_iconst (v := 0) hx hb dX7_checkDay_1 (by decide) ?_
  refine lv_sipush (v := 3599) hx hb dX7_checkDay_2 (by decide) ?_
  refine vp_callSi (va_Run.run (va_runS (As := [.int a, .int 0, .int 3599]) (rest := []) ⟨hx, hb, hml, hown, hts⟩ (c_X7_isWithin l a 0 3599) (va_cwS 3 hts gX7_checkDay_X7_isWithin rfl rfl rfl (by decide +kernel) ⟨Nat.le_of_ble_eq_true rfl, Nat.le_of_ble_eq_true rfl⟩) ⟨fun _ _ _ _ q => q, fun U hU hW => ⟨rfl, trivial⟩⟩ rfl rfl hl.1 rfl (lv_room (Nat.le_of_ble_eq_true rfl)) dX7_checkDay_5 ⟨(Nat.le_of_ble_eq_true rfl), (Nat.le_of_ble_eq_true rfl)⟩)) (fun r_5 hr_5 => ?_)
  refine lv_if_ne (tgt := 21) hx hb dX7_checkDay_8 (by decide) (fun c_8 => ?_) (fun c_8 => ?_)
  · refine W.widen (k := 1) (n := 6) (Nat.le_of_ble_eq_true rfl) (Nat.le_of_ble_eq_true rfl) ?_
    exact vx_ret (W.vret hx hb hr (fun t ht hW => ⟨⟨ws, rfl, ⟨Decidable.byContradiction fun h => c_8 (by rw [hr_5]; exact wI_eq0.mpr h), rfl⟩, by rw [ht]; exact hP, hD⟩, hS.F ht⟩) hS.2.2 dX7_checkDay_21)
  · exact pv_thr (text := "no such day") hx hb hl0 0 ⟨rfl, wI_eq0.mp (by rw [← hr_5]; exact c_8)⟩ hts hown (by decide +kernel) (by decide +kernel) (by decide +kernel) (by decide +kernel) (by decide +kernel) thr_b0 (by decide +kernel) hT hP hS (hl.1.trans hml.symm) dX7_checkDay_11 dX7_checkDay_14 dX7_checkDay_15 dX7_checkDay_17 dX7_checkDay_20 hno (Nat.le_of_ble_eq_true rfl) (Nat.le_of_ble_eq_true rfl) (Nat.le_of_ble_eq_true rfl) (Nat.le_of_ble_eq_true rfl) hlocks (Nat.le_of_ble_eq_true rfl) (Nat.le_of_ble_eq_true rfl)

set_option maxHeartbeats 4000000 in
set_option maxRecDepth 100000 in
/-- checkMonth -/
theorem c_X7_checkMonth (l : Launch) (hl0 : l.stackTraces = false) (D : va_G) (y : Nat → ClassId) (b0 : Nat) (ws : va_W) (a : Int32) : vx_Met l yX7_checkMonth wsX7_checkMonth ({ frames := 6, cells := 1, slots := 6, locals := 82 }) (va_Pc [.int a] (WdM D y b0 (ws))) (va_Qv (fun (u : va_W) => (0 ≤ a ∧ a ≤ 119) ∧ u = ws) (WB D b0) (fun q => b0 ≤ q)) (XX D b0 (ws) (fun k => k = 0 ∧ ¬ (0 ≤ a ∧ a ≤ 119))) 1 6 (fun q => b0 ≤ q) := by
  refine vx_ofW (cc := cX7_checkMonth) (maxL := 1) (ret := none) (by decide) rfl ?_
  intro p e s m args below meth c s₁ B hml hno hv
  obtain ⟨rfl, ⟨hP, hK, hN⟩, hD, hb0, hT⟩ := hv
  have hx := B.exec
  have hb := B.bytes
  have hr := B.returns
  have hts := atoms_spec (ws := wsX7_checkMonth) B.pre
  have hown : s.vm.findClass RX7 = some m.cls := findClass_of_methodNamed B.named
  have hlocks := B.notSynchronized
  have hS : va_S (fun q => b0 ≤ q) s.heap s.heap [] := va_S.rf
  have hl := lv_entry ([.int a]) (n := 1) (Nat.le_of_ble_eq_true rfl)
  rw [lg_entry_eq]
  generalize (lg_sl ([.int a]) ++ List.replicate (1 - (lg_sl ([.int a])).length) Slot.unset).toArray = ls at hl ⊢
  have hl : lv_has ls 1 [(0, .int a)] := hl
  refine lv_iload_n hx hb dX7_checkMonth_0 rfl (lv_at hl 0 rfl) ?_
  refine lv_iconst (v := 0) hx hb dX7_checkMonth_1 (by decide) ?_
  refine lv_bipush (v := 119) hx hb dX7_checkMonth_2 (by decide) ?_
  refine vp_callSi (va_Run.run (va_runS (As := [.int a, .int 0, .int 119]) (rest := []) ⟨hx, hb, hml, hown, hts⟩ (c_X7_isWithin l a 0 119) (va_cwS 3 hts gX7_checkMonth_X7_isWithin rfl rfl rfl (by decide +kernel) ⟨Nat.le_of_ble_eq_true rfl, Nat.le_of_ble_eq_true rfl⟩) ⟨fun _ _ _ _ q => q, fun U hU hW => ⟨rfl, trivial⟩⟩ rfl rfl hl.1 rfl (lv_room (Nat.le_of_ble_eq_true rfl)) dX7_checkMonth_4 ⟨(Nat.le_of_ble_eq_true rfl), (Nat.le_of_ble_eq_true rfl)⟩)) (fun r_4 hr_4 => ?_)
  refine lv_if_ne (tgt := 20) hx hb dX7_checkMonth_7 (by decide) (fun c_7 => ?_) (fun c_7 => ?_)
  · refine W.widen (k := 1) (n := 6) (Nat.le_of_ble_eq_true rfl) (Nat.le_of_ble_eq_true rfl) ?_
    exact vx_ret (W.vret hx hb hr (fun t ht hW => ⟨⟨ws, rfl, ⟨Decidable.byContradiction fun h => c_7 (by rw [hr_4]; exact wI_eq0.mpr h), rfl⟩, by rw [ht]; exact hP, hD⟩, hS.F ht⟩) hS.2.2 dX7_checkMonth_20)
  · exact pv_thr (text := "no such month") hx hb hl0 0 ⟨rfl, wI_eq0.mp (by rw [← hr_4]; exact c_7)⟩ hts hown (by decide +kernel) (by decide +kernel) (by decide +kernel) (by decide +kernel) (by decide +kernel) thr_b0 (by decide +kernel) hT hP hS (hl.1.trans hml.symm) dX7_checkMonth_10 dX7_checkMonth_13 dX7_checkMonth_14 dX7_checkMonth_16 dX7_checkMonth_19 hno (Nat.le_of_ble_eq_true rfl) (Nat.le_of_ble_eq_true rfl) (Nat.le_of_ble_eq_true rfl) (Nat.le_of_ble_eq_true rfl) hlocks (Nat.le_of_ble_eq_true rfl) (Nat.le_of_ble_eq_true rfl)

theorem sw2 (x : Int32) : (x.toInt < 0 ∨ 2 < x.toInt) ∨ x = 0 ∨ x = 1 ∨ x = 2 := by
  by_cases h0 : x < 0
  · exact Or.inl (Or.inl (Int32.lt_iff_toInt_lt.mp h0))
  · by_cases h1 : x ≤ nI 2
    · obtain ⟨j, hj, rfl⟩ := nI_of2 (M := nI 2) (n := 2) (nI_toInt (by decide)) h0 h1
      have hj2 : j = 0 ∨ j = 1 ∨ j = 2 := by omega
      rcases hj2 with rfl | rfl | rfl <;> simp [nI]
    · exact Or.inl (Or.inr (by have h2 := Int32.lt_iff_toInt_lt.mp (Int32.not_le.mp h1); rw [nI_toInt (by decide)] at h2; exact h2))

theorem sw6 (x : Int32) : (x.toInt < 0 ∨ 6 < x.toInt) ∨ x = 0 ∨ x = 1 ∨ x = 2 ∨ x = 3 ∨ x = 4 ∨ x = 5 ∨ x = 6 := by
  by_cases h0 : x < 0
  · exact Or.inl (Or.inl (Int32.lt_iff_toInt_lt.mp h0))
  · by_cases h1 : x ≤ nI 6
    · obtain ⟨j, hj, rfl⟩ := nI_of2 (M := nI 6) (n := 6) (nI_toInt (by decide)) h0 h1
      have hj2 : j = 0 ∨ j = 1 ∨ j = 2 ∨ j = 3 ∨ j = 4 ∨ j = 5 ∨ j = 6 := by omega
      rcases hj2 with rfl | rfl | rfl | rfl | rfl | rfl | rfl <;> simp [nI]
    · exact Or.inl (Or.inr (by have h2 := Int32.lt_iff_toInt_lt.mp (Int32.not_le.mp h1); rw [nI_toInt (by decide)] at h2; exact h2))

theorem sw16 (x : Int32) : (x.toInt < 0 ∨ 16 < x.toInt) ∨ x = 0 ∨ x = 1 ∨ x = 2 ∨ x = 3 ∨ x = 4 ∨ x = 5 ∨ x = 6 ∨ x = 7 ∨ x = 8 ∨ x = 9 ∨ x = 10 ∨ x = 11 ∨ x = 12 ∨ x = 13 ∨ x = 14 ∨ x = 15 ∨ x = 16 := by
  by_cases h0 : x < 0
  · exact Or.inl (Or.inl (Int32.lt_iff_toInt_lt.mp h0))
  · by_cases h1 : x ≤ nI 16
    · obtain ⟨j, hj, rfl⟩ := nI_of2 (M := nI 16) (n := 16) (nI_toInt (by decide)) h0 h1
      have hj2 : j = 0 ∨ j = 1 ∨ j = 2 ∨ j = 3 ∨ j = 4 ∨ j = 5 ∨ j = 6 ∨ j = 7 ∨ j = 8 ∨ j = 9 ∨ j = 10 ∨ j = 11 ∨ j = 12 ∨ j = 13 ∨ j = 14 ∨ j = 15 ∨ j = 16 := by omega
      rcases hj2 with rfl | rfl | rfl | rfl | rfl | rfl | rfl | rfl | rfl | rfl | rfl | rfl | rfl | rfl | rfl | rfl | rfl <;> simp [nI]
    · exact Or.inl (Or.inr (by have h2 := Int32.lt_iff_toInt_lt.mp (Int32.not_le.mp h1); rw [nI_toInt (by decide)] at h2; exact h2))

abbrev inR (a hi : Int32) : Prop := 0 ≤ a ∧ a ≤ hi

set_option maxHeartbeats 4000000 in
set_option maxRecDepth 100000 in
/-- checkUnit -/
theorem c_X7_checkUnit (l : Launch) (hl0 : l.stackTraces = false) (D : va_G) (y : Nat → ClassId) (b0 : Nat) (Ls : List Nat) (ad : Nat → Nat) (G : Nat → va_E) (ch dr : Nat) (hX : XAt Ls ad G ch dr) (nu : Nat) (uo : Nat → Int32) (uf ul : Nat → Nat) (ug : Nat → Int32) (ut : Nat → Nat) (uk ud : Nat → Nat → Int32) (hUs : UnitsAt y Ls ad G nu uo uf ul ug ut uk ud) (a : Int32) : vx_Met l yX7_checkUnit wsX7_checkUnit ({ frames := 6, cells := 1, slots := 6, locals := 82 }) (va_Pc [.ref (ad 0), .int a] (WdM D y b0 (wl Ls ad G))) (va_Qv (fun (u : va_W) => inR a (nI nu - 1) ∧ u = wl Ls ad G) (WB D b0) (fun q => b0 ≤ q)) (XX D b0 (wl Ls ad G) (fun k => k = 2 ∧ ¬ inR a (nI nu - 1))) 1 6 (fun q => b0 ≤ q) := by
  refine vx_ofW (cc := cX7_checkUnit) (maxL := 2) (ret := none) (by decide) rfl ?_
  intro p e s m args below meth c s₁ B hml hno hv
  obtain ⟨rfl, ⟨hP, hK, hN⟩, hD, hb0, hT⟩ := hv
  have hx := B.exec
  have hb := B.bytes
  have hr := B.returns
  have hts := atoms_spec (ws := wsX7_checkUnit) B.pre
  have hown : s.vm.findClass RX7 = some m.cls := findClass_of_methodNamed B.named
  have hlocks := B.notSynchronized
  have hS : va_S (fun q => b0 ≤ q) s.heap s.heap [] := va_S.rf
  have hinX7 : ∀ w ∈ wsX70, w ∈ wsX7_checkUnit := by decide +kernel
  obtain ⟨mc3, ea3, hj3, ej3, hn3, -⟩ := id hUs.1
  have hl := lv_entry ([.ref (ad 0), .int a]) (n := 2) (Nat.le_of_ble_eq_true rfl)
  rw [lg_entry_eq]
  generalize (lg_sl ([.ref (ad 0), .int a]) ++ List.replicate (2 - (lg_sl ([.ref (ad 0), .int a])).length) Slot.unset).toArray = ls at hl ⊢
  have hl : lv_has ls 2 [(0, .ref (ad 0)), (1, .int a)] := hl
  refine lv_iload_n hx hb dX7_checkUnit_0 rfl (lv_at hl 1 rfl) ?_
  refine lv_iconst (v := 0) hx hb dX7_checkUnit_1 (by decide) ?_
  refine lv_aload_n hx hb dX7_checkUnit_2 rfl (lv_at hl 0 rfl) ?_
  refine pv_get (ci := 9) (C := RX7) (T := TX7) (N := 7) hx hb hts hinX7 hown hK hP hX.1 hX.2 rfl 3 (by decide) (hts (.fieldLink RX7 29 "StorageCharge" "units" "Ljava/util/ArrayList;") (by decide +kernel)) (fun _ h9 => h9) rfl dX7_checkUnit_3 ?_
  refine vp_callSi (va_Run.run (va_runV (As := []) (rest := [.int 0, .int a]) ⟨hx, hb, hml, hown, hts⟩ (c_Jx4a65c_size_8abf5 l D y Ls ad G 3 nu (fun i => ad (1000 + 3 * i)) hUs.1) (cwV 0 hts gX7_checkUnit_Jx4a65c_size_8abf5 rfl rfl rfl (by decide +kernel) ⟨Nat.le_of_ble_eq_true rfl, Nat.le_of_ble_eq_true rfl⟩) ⟨Wd_blind, Wd_recv hK hP (ci := 1) rfl hj3 ej3, Wd_at hP hK hN⟩ rfl rfl hl.1 rfl (lv_room (Nat.le_of_ble_eq_true rfl)) dX7_checkUnit_6 ⟨(Nat.le_of_ble_eq_true rfl), (Nat.le_of_ble_eq_true rfl)⟩)) (fun r_6 hr_6 => ?_)
  refine lv_iconst (v := 1) hx hb dX7_checkUnit_9 (by decide) ?_
  refine lv_isub hx hb dX7_checkUnit_10 ?_
  refine vp_callSi (va_Run.run (va_runS (As := [.int a, .int 0, .int (r_6 - 1)]) (rest := []) ⟨hx, hb, hml, hown, hts⟩ (c_X7_isWithin l a 0 (r_6 - 1)) (va_cwS 3 hts gX7_checkUnit_X7_isWithin rfl rfl rfl (by decide +kernel) ⟨Nat.le_of_ble_eq_true rfl, Nat.le_of_ble_eq_true rfl⟩) ⟨fun _ _ _ _ q => q, fun U hU hW => ⟨rfl, trivial⟩⟩ rfl rfl hl.1 rfl (lv_room (Nat.le_of_ble_eq_true rfl)) dX7_checkUnit_11 ⟨(Nat.le_of_ble_eq_true rfl), (Nat.le_of_ble_eq_true rfl)⟩)) (fun r_11 hr_11 => ?_)
  refine lv_if_ne (tgt := 27) hx hb dX7_checkUnit_14 (by decide) (fun c_14 => ?_) (fun c_14 => ?_)
  · refine W.widen (k := 1) (n := 6) (Nat.le_of_ble_eq_true rfl) (Nat.le_of_ble_eq_true rfl) ?_
    exact vx_ret (W.vret hx hb hr (fun t ht hW => ⟨⟨wl Ls ad G, rfl, ⟨by rw [← hr_6]; exact Decidable.byContradiction fun h => c_14 (by rw [hr_11]; exact wI_eq0.mpr h), rfl⟩, by rw [ht]; exact hP, hD⟩, hS.F ht⟩) hS.2.2 dX7_checkUnit_27)
  · exact pv_thrN (text := "no such unit") hx hb hl0 2 ⟨rfl, by rw [← hr_6]; exact wI_eq0.mp (by rw [← hr_11]; exact c_14)⟩ hts hown (by decide +kernel) (by decide +kernel) (by decide +kernel) (by decide +kernel) (by decide +kernel) thr_b2 (by decide +kernel) hT hP hS (hl.1.trans hml.symm) dX7_checkUnit_17 dX7_checkUnit_20 dX7_checkUnit_21 dX7_checkUnit_23 dX7_checkUnit_26 hno (Nat.le_of_ble_eq_true rfl) (Nat.le_of_ble_eq_true rfl) (Nat.le_of_ble_eq_true rfl) (Nat.le_of_ble_eq_true rfl) hlocks (Nat.le_of_ble_eq_true rfl) (Nat.le_of_ble_eq_true rfl)

set_option maxHeartbeats 4000000 in
set_option maxRecDepth 100000 in
/-- checkGoesOn -/
theorem c_X7_checkGoesOn (l : Launch) (hl0 : l.stackTraces = false) (D : va_G) (y : Nat → ClassId) (b0 : Nat) (Ls : List Nat) (ad : Nat → Nat) (G : Nat → va_E) (u : Nat) (ow fd ld ig : Int32) (told : Nat) (kf df : Nat → Int32) (hU : UnitAt y Ls ad G u ow fd ld ig told kf df) (day : Int32) : vx_Met l yX7_checkGoesOn wsX7_checkGoesOn ({ frames := 6, cells := 1, slots := 6, locals := 82 }) (va_Pc [.ref (ad u), .int day] (WdM D y b0 (wl Ls ad G))) (va_Qv (fun (v : va_W) => (ig = 0 ∧ df (told - 1) ≤ day) ∧ v = wl Ls ad G) (WB D b0) (fun q => b0 ≤ q)) (XX D b0 (wl Ls ad G) (fun k => k = 3 ∧ (¬ ig = 0 ∨ day < df (told - 1)))) 1 6 (fun q => b0 ≤ q) := by
  refine vx_ofW (cc := cX7_checkGoesOn) (maxL := 2) (ret := none) (by decide) rfl ?_
  intro p e s m args below meth c s₁ B hml hno hv
  obtain ⟨rfl, ⟨hP, hK, hN⟩, hD, hb0, hT⟩ := hv
  have hx := B.exec
  have hb := B.bytes
  have hr := B.returns
  have hts := atoms_spec (ws := wsX7_checkGoesOn) B.pre
  have hown : s.vm.findClass RX7 = some m.cls := findClass_of_methodNamed B.named
  have hlocks := B.notSynchronized
  have hS : va_S (fun q => b0 ≤ q) s.heap s.heap [] := va_S.rf
  have hinX6 : ∀ w ∈ wsX60, w ∈ wsX7_checkGoesOn := by decide +kernel
  obtain ⟨hu, huk, hud, eu, euk, eud, h1, h9⟩ := id hU
  have hl := lv_entry ([.ref (ad u), .int day]) (n := 2) (Nat.le_of_ble_eq_true rfl)
  rw [lg_entry_eq]
  generalize (lg_sl ([.ref (ad u), .int day]) ++ List.replicate (2 - (lg_sl ([.ref (ad u), .int day])).length) Slot.unset).toArray = ls at hl ⊢
  have hl : lv_has ls 2 [(0, .ref (ad u)), (1, .int day)] := hl
  refine lv_aload_n hx hb dX7_checkGoesOn_0 rfl (lv_at hl 0 rfl) ?_
  refine pv_getN (ci := 8) (C := RX6) (T := TX6) (N := 7) hx hb hts hinX6 hown hK hP hu eu rfl 3 (by decide) hN (by decide +kernel : Cond.fieldLinkNest RX7 251 "StorageCharge$Unit" "isGone" "Z" "StorageCharge" ∈ nestW) (fun _ h9 => h9) rfl dX7_checkGoesOn_1 ?_
  refine lv_if_eq (tgt := 17) hx hb dX7_checkGoesOn_4 (by decide) (fun c_4 => ?_) (fun c_4 => ?_)
  · refine lv_iload_n hx hb dX7_checkGoesOn_17 rfl (lv_at hl 1 rfl) ?_
    refine lv_aload_n hx hb dX7_checkGoesOn_18 rfl (lv_at hl 0 rfl) ?_
    refine vp_callSi (va_Run.run (va_runV (As := []) (rest := [.int day]) ⟨hx, hb, hml, hown, hts⟩ (c_X6_dayToldLast l D y Ls ad G u ow fd ld ig told kf df hU) (cwV 0 hts gX7_checkGoesOn_X6_dayToldLast rfl rfl rfl (by decide +kernel) ⟨Nat.le_of_ble_eq_true rfl, Nat.le_of_ble_eq_true rfl⟩) ⟨Wd_blind, Wd_recv hK hP (ci := 8) rfl hu eu, Wd_at hP hK hN⟩ rfl rfl hl.1 rfl (lv_room (Nat.le_of_ble_eq_true rfl)) dX7_checkGoesOn_19 ⟨(Nat.le_of_ble_eq_true rfl), (Nat.le_of_ble_eq_true rfl)⟩)) (fun r_19 hr_19 => ?_)
    refine lv_icmp_ge (tgt := 36) hx hb dX7_checkGoesOn_22 (by decide) (fun c_22 => ?_) (fun c_22 => ?_)
    · refine W.widen (k := 1) (n := 6) (Nat.le_of_ble_eq_true rfl) (Nat.le_of_ble_eq_true rfl) ?_
      exact vx_ret (W.vret hx hb hr (fun t ht hW => ⟨⟨wl Ls ad G, rfl, ⟨⟨c_4, by rw [← hr_19]; exact c_22⟩, rfl⟩, by rw [ht]; exact hP, hD⟩, hS.F ht⟩) hS.2.2 dX7_checkGoesOn_36)
    · exact pv_thrW (text := "the day is before the last one told") hx hb hl0 3 ⟨rfl, Or.inr (by rw [← hr_19]; exact Int32.not_le.mp c_22)⟩ hts hown (by decide +kernel) (by decide +kernel) (by decide +kernel) (by decide +kernel) (by decide +kernel) thr_b3 (by decide +kernel) hT hP hS (hl.1.trans hml.symm) dX7_checkGoesOn_25 dX7_checkGoesOn_28 dX7_checkGoesOn_29 dX7_checkGoesOn_32 dX7_checkGoesOn_35 hno (Nat.le_of_ble_eq_true rfl) (Nat.le_of_ble_eq_true rfl) (Nat.le_of_ble_eq_true rfl) (Nat.le_of_ble_eq_true rfl) hlocks (Nat.le_of_ble_eq_true rfl) (Nat.le_of_ble_eq_true rfl)
  · exact pv_thr (text := "the unit is gone") hx hb hl0 3 ⟨rfl, Or.inl c_4⟩ hts hown (by decide +kernel) (by decide +kernel) (by decide +kernel) (by decide +kernel) (by decide +kernel) thr_b3 (by decide +kernel) hT hP hS (hl.1.trans hml.symm) dX7_checkGoesOn_7 dX7_checkGoesOn_10 dX7_checkGoesOn_11 dX7_checkGoesOn_13 dX7_checkGoesOn_16 hno (Nat.le_of_ble_eq_true rfl) (Nat.le_of_ble_eq_true rfl) (Nat.le_of_ble_eq_true rfl) (Nat.le_of_ble_eq_true rfl) hlocks (Nat.le_of_ble_eq_true rfl) (Nat.le_of_ble_eq_true rfl)

set_option maxHeartbeats 4000000 in
set_option maxRecDepth 100000 in
/-- sum -/
theorem c_X7_sum (l : Launch) (hl0 : l.stackTraces = false) (D : va_G) (y : Nat → ClassId) (b0 : Nat) (Ls : List Nat) (ad : Nat → Nat) (G : Nat → va_E) (ch dr : Nat) (hX : XAt Ls ad G ch dr) (st ha mi dO dD dP : Nat → Int32) (nd : Nat) (li ow : Int32) (hC : ChargesAt y Ls ad G ch st ha mi dO dD dP nd li ow) (nu : Nat) (uo : Nat → Int32) (uf ul : Nat → Nat) (ug : Nat → Int32) (ut : Nat → Nat) (uk ud : Nat → Nat → Int32) (hUs : UnitsAt y Ls ad G nu uo uf ul ug ut uk ud) (nm : Nat) (mo mk md mp : Nat → Int32) (hMs : MovesAt y Ls ad G nm mo mk md mp) (o mo0 : Int32) : vx_Met l yX7_sum wsX7_sum ({ frames := 7, cells := 2, slots := 12, locals := 142 }) (va_Pc [.ref (ad 0), .int o, .int mo0] (WdM D y b0 (wl Ls ad G))) (va_Qi (fun (r : Int32) (u : va_W) => inR o 7 ∧ (∃ m0, m0 < 120 ∧ mo0 = nI m0 ∧ r = sumX st ha mi dO dD dP nd nu uo uf ul ut uk ud nm mo mk md mp o o m0) ∧ u = wl Ls ad G) (WB D b0) (fun q => b0 ≤ q)) (XX D b0 (wl Ls ad G) (fun k => k = 0 ∧ ¬ (inR o 7 ∧ inR mo0 119))) 2 12 (fun q => b0 ≤ q) := by
  refine vx_ofW (cc := cX7_sum) (maxL := 3) (ret := (some .int)) (by decide) rfl ?_
  intro p e s m args below meth c s₁ B hml hno hv
  obtain ⟨rfl, ⟨hP, hK, hN⟩, hD, hb0, hT⟩ := hv
  have hx := B.exec
  have hb := B.bytes
  have hr := B.returns
  have hts := atoms_spec (ws := wsX7_sum) B.pre
  have hown : s.vm.findClass RX7 = some m.cls := findClass_of_methodNamed B.named
  have hlocks := B.notSynchronized
  have hS : va_S (fun q => b0 ≤ q) s.heap s.heap [] := va_S.rf
  have hl := lv_entry ([.ref (ad 0), .int o, .int mo0]) (n := 3) (Nat.le_of_ble_eq_true rfl)
  rw [lg_entry_eq]
  generalize (lg_sl ([.ref (ad 0), .int o, .int mo0]) ++ List.replicate (3 - (lg_sl ([.ref (ad 0), .int o, .int mo0])).length) Slot.unset).toArray = ls at hl ⊢
  have hl : lv_has ls 3 [(0, .ref (ad 0)), (1, .int o), (2, .int mo0)] := hl
  refine lv_iload_n hx hb dX7_sum_0 rfl (lv_at hl 1 rfl) ?_
  refine vx_callv (vx_runS (As := [.int o]) (rest := []) ⟨hx, hb, hml, hown, hts⟩ (c_X7_checkOwner l hl0 D y b0 (wl Ls ad G) o) (va_cwS 1 hts gX7_sum_X7_checkOwner rfl rfl rfl (by decide +kernel) ⟨(Nat.le_of_ble_eq_true rfl), (Nat.le_of_ble_eq_true rfl)⟩) ⟨WdM_blind, WdM_at hP hK hN hD hS hb0 hT⟩ rfl rfl hl.1 rfl (lv_room (Nat.le_of_ble_eq_true rfl)) dX7_sum_1 ⟨(Nat.le_of_ble_eq_true rfl), (Nat.le_of_ble_eq_true rfl)⟩) hS (fun _ _ h => h) (fun _ h => h) (fun _ _ h => h) (fun E9 ce9 q9 k9 t9 H9 locs9 ht9 hvm9 hp9 hB9 hz9 hk9 hS9 hce9 hcv9 hcl9 => pv_out (⟨hp9.1, fun h => hp9.2 h.1⟩) hB9 ht9 hS9 hno hlocks hce9 hcv9 hcl9 (Nat.le_of_ble_eq_true rfl) (Nat.le_of_ble_eq_true rfl)) (fun u1 t H locs ht hvm hw1 hB hz1 hk1 hS => ?_)
  obtain ⟨hP, hD⟩ := hB
  rw [ht] at hP
  obtain ⟨hw1, rfl⟩ := hw1
  refine lv_iload_n hx hb dX7_sum_4 rfl (lv_at hl 2 rfl) ?_
  refine vx_callv (vx_runS (As := [.int mo0]) (rest := []) ⟨hx, hb, hml, hown, hts⟩ (c_X7_checkMonth l hl0 D y b0 (wl Ls ad G) mo0) (va_cwS 1 hts gX7_sum_X7_checkMonth rfl rfl rfl (by decide +kernel) ⟨(Nat.le_of_ble_eq_true rfl), (Nat.le_of_ble_eq_true rfl)⟩) ⟨WdM_blind, WdM_at hP hK hN hD hS hb0 hT⟩ rfl rfl hl.1 rfl (lv_room (Nat.le_of_ble_eq_true rfl)) dX7_sum_5 ⟨(Nat.le_of_ble_eq_true rfl), (Nat.le_of_ble_eq_true rfl)⟩) hS (fun _ _ h => h) (fun _ h => h) (fun _ _ h => h) (fun E9 ce9 q9 k9 t9 H9 locs9 ht9 hvm9 hp9 hB9 hz9 hk9 hS9 hce9 hcv9 hcl9 => pv_out (⟨hp9.1, fun h => hp9.2 h.2⟩) hB9 ht9 hS9 hno hlocks hce9 hcv9 hcl9 (Nat.le_of_ble_eq_true rfl) (Nat.le_of_ble_eq_true rfl)) (fun u5 t H locs ht hvm hw5 hB hz1 hk1 hS => ?_)
  obtain ⟨hP, hD⟩ := hB
  rw [ht] at hP
  obtain ⟨hw5, rfl⟩ := hw5
  obtain ⟨m0, hm, rfl⟩ := within_nI (n := 120) (by decide) (by decide) hw5
  refine lv_aload_n hx hb dX7_sum_8 rfl (lv_at hl 0 rfl) ?_
  refine lv_iload_n hx hb dX7_sum_9 rfl (lv_at hl 1 rfl) ?_
  refine lv_iload_n hx hb dX7_sum_10 rfl (lv_at hl 1 rfl) ?_
  refine lv_iload_n hx hb dX7_sum_11 rfl (lv_at hl 2 rfl) ?_
  refine vp_callSi (va_Run.run (va_runV (As := [.int o, .int o, .int (nI m0)]) (rest := []) ⟨hx, hb, hml, hown, hts⟩ (c_X7_sumBy l D y Ls ad G ch dr hX st ha mi dO dD dP nd li ow hC nu uo uf ul ug ut uk ud hUs nm mo mk md mp hMs o o m0 hm) (cwV 3 hts gX7_sum_X7_sumBy rfl rfl rfl (by decide +kernel) ⟨Nat.le_of_ble_eq_true rfl, Nat.le_of_ble_eq_true rfl⟩) ⟨Wd_blind, Wd_recv hK hP (ci := 9) rfl hX.1 hX.2, Wd_at hP hK hN⟩ rfl rfl hl.1 rfl (lv_room (Nat.le_of_ble_eq_true rfl)) dX7_sum_12 ⟨(Nat.le_of_ble_eq_true rfl), (Nat.le_of_ble_eq_true rfl)⟩)) (fun r_12 hr_12 => ?_)
  refine W.widen (k := 2) (n := 12) (Nat.le_of_ble_eq_true rfl) (Nat.le_of_ble_eq_true rfl) ?_
  exact vx_ret (W.iret (v := r_12) hx hb hr (fun t ht hW => ⟨⟨r_12, wl Ls ad G, rfl, ⟨hw1, ⟨m0, hm, rfl, hr_12⟩, rfl⟩, by rw [ht]; exact hP, hD⟩, hS.F ht⟩) hS.2.2 dX7_sum_15)

set_option maxHeartbeats 4000000 in
set_option maxRecDepth 100000 in
/-- days -/
theorem c_X7_days (l : Launch) (hl0 : l.stackTraces = false) (D : va_G) (y : Nat → ClassId) (b0 : Nat) (Ls : List Nat) (ad : Nat → Nat) (G : Nat → va_E) (ch dr : Nat) (hX : XAt Ls ad G ch dr) (nu : Nat) (uo : Nat → Int32) (uf ul : Nat → Nat) (ug : Nat → Int32) (ut : Nat → Nat) (uk ud : Nat → Nat → Int32) (hUs : UnitsAt y Ls ad G nu uo uf ul ug ut uk ud) (o mo0 : Int32) : vx_Met l yX7_days wsX7_days ({ frames := 7, cells := 2, slots := 12, locals := 102 }) (va_Pc [.ref (ad 0), .int o, .int mo0] (WdM D y b0 (wl Ls ad G))) (va_Qi (fun (r : Int32) (u : va_W) => inR o 7 ∧ (∃ m0, m0 < 120 ∧ mo0 = nI m0 ∧ r = sumO uo o (fun q => dTh (nI m0) (uf q) (ul q)) nu) ∧ u = wl Ls ad G) (WB D b0) (fun q => b0 ≤ q)) (XX D b0 (wl Ls ad G) (fun k => k = 0 ∧ ¬ (inR o 7 ∧ inR mo0 119))) 2 12 (fun q => b0 ≤ q) := by
  refine vx_ofW (cc := cX7_days) (maxL := 3) (ret := (some .int)) (by decide) rfl ?_
  intro p e s m args below meth c s₁ B hml hno hv
  obtain ⟨rfl, ⟨hP, hK, hN⟩, hD, hb0, hT⟩ := hv
  have hx := B.exec
  have hb := B.bytes
  have hr := B.returns
  have hts := atoms_spec (ws := wsX7_days) B.pre
  have hown : s.vm.findClass RX7 = some m.cls := findClass_of_methodNamed B.named
  have hlocks := B.notSynchronized
  have hS : va_S (fun q => b0 ≤ q) s.heap s.heap [] := va_S.rf
  have hl := lv_entry ([.ref (ad 0), .int o, .int mo0]) (n := 3) (Nat.le_of_ble_eq_true rfl)
  rw [lg_entry_eq]
  generalize (lg_sl ([.ref (ad 0), .int o, .int mo0]) ++ List.replicate (3 - (lg_sl ([.ref (ad 0), .int o, .int mo0])).length) Slot.unset).toArray = ls at hl ⊢
  have hl : lv_has ls 3 [(0, .ref (ad 0)), (1, .int o), (2, .int mo0)] := hl
  refine lv_iload_n hx hb dX7_days_0 rfl (lv_at hl 1 rfl) ?_
  refine vx_callv (vx_runS (As := [.int o]) (rest := []) ⟨hx, hb, hml, hown, hts⟩ (c_X7_checkOwner l hl0 D y b0 (wl Ls ad G) o) (va_cwS 1 hts gX7_days_X7_checkOwner rfl rfl rfl (by decide +kernel) ⟨(Nat.le_of_ble_eq_true rfl), (Nat.le_of_ble_eq_true rfl)⟩) ⟨WdM_blind, WdM_at hP hK hN hD hS hb0 hT⟩ rfl rfl hl.1 rfl (lv_room (Nat.le_of_ble_eq_true rfl)) dX7_days_1 ⟨(Nat.le_of_ble_eq_true rfl), (Nat.le_of_ble_eq_true rfl)⟩) hS (fun _ _ h => h) (fun _ h => h) (fun _ _ h => h) (fun E9 ce9 q9 k9 t9 H9 locs9 ht9 hvm9 hp9 hB9 hz9 hk9 hS9 hce9 hcv9 hcl9 => pv_out (⟨hp9.1, fun h => hp9.2 h.1⟩) hB9 ht9 hS9 hno hlocks hce9 hcv9 hcl9 (Nat.le_of_ble_eq_true rfl) (Nat.le_of_ble_eq_true rfl)) (fun u1 t H locs ht hvm hw1 hB hz1 hk1 hS => ?_)
  obtain ⟨hP, hD⟩ := hB
  rw [ht] at hP
  obtain ⟨hw1, rfl⟩ := hw1
  refine lv_iload_n hx hb dX7_days_4 rfl (lv_at hl 2 rfl) ?_
  refine vx_callv (vx_runS (As := [.int mo0]) (rest := []) ⟨hx, hb, hml, hown, hts⟩ (c_X7_checkMonth l hl0 D y b0 (wl Ls ad G) mo0) (va_cwS 1 hts gX7_days_X7_checkMonth rfl rfl rfl (by decide +kernel) ⟨(Nat.le_of_ble_eq_true rfl), (Nat.le_of_ble_eq_true rfl)⟩) ⟨WdM_blind, WdM_at hP hK hN hD hS hb0 hT⟩ rfl rfl hl.1 rfl (lv_room (Nat.le_of_ble_eq_true rfl)) dX7_days_5 ⟨(Nat.le_of_ble_eq_true rfl), (Nat.le_of_ble_eq_true rfl)⟩) hS (fun _ _ h => h) (fun _ h => h) (fun _ _ h => h) (fun E9 ce9 q9 k9 t9 H9 locs9 ht9 hvm9 hp9 hB9 hz9 hk9 hS9 hce9 hcv9 hcl9 => pv_out (⟨hp9.1, fun h => hp9.2 h.2⟩) hB9 ht9 hS9 hno hlocks hce9 hcv9 hcl9 (Nat.le_of_ble_eq_true rfl) (Nat.le_of_ble_eq_true rfl)) (fun u5 t H locs ht hvm hw5 hB hz1 hk1 hS => ?_)
  obtain ⟨hP, hD⟩ := hB
  rw [ht] at hP
  obtain ⟨hw5, rfl⟩ := hw5
  obtain ⟨m0, hm, rfl⟩ := within_nI (n := 120) (by decide) (by decide) hw5
  refine lv_aload_n hx hb dX7_days_8 rfl (lv_at hl 0 rfl) ?_
  refine lv_iload_n hx hb dX7_days_9 rfl (lv_at hl 1 rfl) ?_
  refine lv_iload_n hx hb dX7_days_10 rfl (lv_at hl 2 rfl) ?_
  refine vp_callSi (va_Run.run (va_runV (As := [.int o, .int (nI m0)]) (rest := []) ⟨hx, hb, hml, hown, hts⟩ (c_X7_unitDays l D y Ls ad G ch dr hX nu uo uf ul ug ut uk ud hUs o (nI m0)) (cwV 2 hts gX7_days_X7_unitDays rfl rfl rfl (by decide +kernel) ⟨Nat.le_of_ble_eq_true rfl, Nat.le_of_ble_eq_true rfl⟩) ⟨Wd_blind, Wd_recv hK hP (ci := 9) rfl hX.1 hX.2, Wd_at hP hK hN⟩ rfl rfl hl.1 rfl (lv_room (Nat.le_of_ble_eq_true rfl)) dX7_days_11 ⟨(Nat.le_of_ble_eq_true rfl), (Nat.le_of_ble_eq_true rfl)⟩)) (fun r_11 hr_11 => ?_)
  refine W.widen (k := 2) (n := 12) (Nat.le_of_ble_eq_true rfl) (Nat.le_of_ble_eq_true rfl) ?_
  exact vx_ret (W.iret (v := r_11) hx hb hr (fun t ht hW => ⟨⟨r_11, wl Ls ad G, rfl, ⟨hw1, ⟨m0, hm, rfl, hr_11⟩, rfl⟩, by rw [ht]; exact hP, hD⟩, hS.F ht⟩) hS.2.2 dX7_days_14)

set_option maxHeartbeats 4000000 in
set_option maxRecDepth 100000 in
/-- average -/
theorem c_X7_average (l : Launch) (hl0 : l.stackTraces = false) (D : va_G) (y : Nat → ClassId) (b0 : Nat) (Ls : List Nat) (ad : Nat → Nat) (G : Nat → va_E) (ch dr : Nat) (hX : XAt Ls ad G ch dr) (st ha mi dO dD dP : Nat → Int32) (nd : Nat) (li ow : Int32) (hC : ChargesAt y Ls ad G ch st ha mi dO dD dP nd li ow) (nu : Nat) (uo : Nat → Int32) (uf ul : Nat → Nat) (ug : Nat → Int32) (ut : Nat → Nat) (uk ud : Nat → Nat → Int32) (hUs : UnitsAt y Ls ad G nu uo uf ul ug ut uk ud) (o mo0 : Int32) : vx_Met l yX7_average wsX7_average ({ frames := 7, cells := 3, slots := 18, locals := 118 }) (va_Pc [.ref (ad 0), .int o, .int mo0] (WdM D y b0 (wl Ls ad G))) (va_Qi (fun (r : Int32) (u : va_W) => inR o 7 ∧ (∃ m0, m0 < 120 ∧ mo0 = nI m0 ∧ ¬ sumO uo o (fun q => dTh (nI m0) (uf q) (ul q)) nu = 0 ∧ r = stoA st dO dD dP nd nu uo uf ul ut uk ud o o m0 / sumO uo o (fun q => dTh (nI m0) (uf q) (ul q)) nu) ∧ u = wl Ls ad G) (WB D b0) (fun q => b0 ≤ q)) (XX D b0 (wl Ls ad G) (fun k => (k = 0 ∧ ¬ (inR o 7 ∧ inR mo0 119)) ∨ (k = 4 ∧ inR o 7 ∧ ∃ m0, m0 < 120 ∧ mo0 = nI m0 ∧ sumO uo o (fun q => dTh (nI m0) (uf q) (ul q)) nu = 0))) 3 18 (fun q => b0 ≤ q) := by
  refine vx_ofW (cc := cX7_average) (maxL := 4) (ret := (some .int)) (by decide) rfl ?_
  intro p e s m args below meth c s₁ B hml hno hv
  obtain ⟨rfl, ⟨hP, hK, hN⟩, hD, hb0, hT⟩ := hv
  have hx := B.exec
  have hb := B.bytes
  have hr := B.returns
  have hts := atoms_spec (ws := wsX7_average) B.pre
  have hown : s.vm.findClass RX7 = some m.cls := findClass_of_methodNamed B.named
  have hlocks := B.notSynchronized
  have hS : va_S (fun q => b0 ≤ q) s.heap s.heap [] := va_S.rf
  have hl := lv_entry ([.ref (ad 0), .int o, .int mo0]) (n := 4) (Nat.le_of_ble_eq_true rfl)
  rw [lg_entry_eq]
  generalize (lg_sl ([.ref (ad 0), .int o, .int mo0]) ++ List.replicate (4 - (lg_sl ([.ref (ad 0), .int o, .int mo0])).length) Slot.unset).toArray = ls at hl ⊢
  have hl : lv_has ls 4 [(0, .ref (ad 0)), (1, .int o), (2, .int mo0)] := hl
  refine lv_iload_n hx hb dX7_average_0 rfl (lv_at hl 1 rfl) ?_
  refine vx_callv (vx_runS (As := [.int o]) (rest := []) ⟨hx, hb, hml, hown, hts⟩ (c_X7_checkOwner l hl0 D y b0 (wl Ls ad G) o) (va_cwS 1 hts gX7_average_X7_checkOwner rfl rfl rfl (by decide +kernel) ⟨(Nat.le_of_ble_eq_true rfl), (Nat.le_of_ble_eq_true rfl)⟩) ⟨WdM_blind, WdM_at hP hK hN hD hS hb0 hT⟩ rfl rfl hl.1 rfl (lv_room (Nat.le_of_ble_eq_true rfl)) dX7_average_1 ⟨(Nat.le_of_ble_eq_true rfl), (Nat.le_of_ble_eq_true rfl)⟩) hS (fun _ _ h => h) (fun _ h => h) (fun _ _ h => h) (fun E9 ce9 q9 k9 t9 H9 locs9 ht9 hvm9 hp9 hB9 hz9 hk9 hS9 hce9 hcv9 hcl9 => pv_out (Or.inl ⟨hp9.1, fun h => hp9.2 h.1⟩) hB9 ht9 hS9 hno hlocks hce9 hcv9 hcl9 (Nat.le_of_ble_eq_true rfl) (Nat.le_of_ble_eq_true rfl)) (fun u1 t H locs ht hvm hw1 hB hz1 hk1 hS => ?_)
  obtain ⟨hP, hD⟩ := hB
  rw [ht] at hP
  obtain ⟨hw1, rfl⟩ := hw1
  refine lv_iload_n hx hb dX7_average_4 rfl (lv_at hl 2 rfl) ?_
  refine vx_callv (vx_runS (As := [.int mo0]) (rest := []) ⟨hx, hb, hml, hown, hts⟩ (c_X7_checkMonth l hl0 D y b0 (wl Ls ad G) mo0) (va_cwS 1 hts gX7_average_X7_checkMonth rfl rfl rfl (by decide +kernel) ⟨(Nat.le_of_ble_eq_true rfl), (Nat.le_of_ble_eq_true rfl)⟩) ⟨WdM_blind, WdM_at hP hK hN hD hS hb0 hT⟩ rfl rfl hl.1 rfl (lv_room (Nat.le_of_ble_eq_true rfl)) dX7_average_5 ⟨(Nat.le_of_ble_eq_true rfl), (Nat.le_of_ble_eq_true rfl)⟩) hS (fun _ _ h => h) (fun _ h => h) (fun _ _ h => h) (fun E9 ce9 q9 k9 t9 H9 locs9 ht9 hvm9 hp9 hB9 hz9 hk9 hS9 hce9 hcv9 hcl9 => pv_out (Or.inl ⟨hp9.1, fun h => hp9.2 h.2⟩) hB9 ht9 hS9 hno hlocks hce9 hcv9 hcl9 (Nat.le_of_ble_eq_true rfl) (Nat.le_of_ble_eq_true rfl)) (fun u5 t H locs ht hvm hw5 hB hz1 hk1 hS => ?_)
  obtain ⟨hP, hD⟩ := hB
  rw [ht] at hP
  obtain ⟨hw5, rfl⟩ := hw5
  obtain ⟨m0, hm, rfl⟩ := within_nI (n := 120) (by decide) (by decide) hw5
  refine lv_aload_n hx hb dX7_average_8 rfl (lv_at hl 0 rfl) ?_
  refine lv_iload_n hx hb dX7_average_9 rfl (lv_at hl 1 rfl) ?_
  refine lv_iload_n hx hb dX7_average_10 rfl (lv_at hl 2 rfl) ?_
  refine vp_callSi (va_Run.run (va_runV (As := [.int o, .int (nI m0)]) (rest := []) ⟨hx, hb, hml, hown, hts⟩ (c_X7_unitDays l D y Ls ad G ch dr hX nu uo uf ul ug ut uk ud hUs o (nI m0)) (cwV 2 hts gX7_average_X7_unitDays rfl rfl rfl (by decide +kernel) ⟨Nat.le_of_ble_eq_true rfl, Nat.le_of_ble_eq_true rfl⟩) ⟨Wd_blind, Wd_recv hK hP (ci := 9) rfl hX.1 hX.2, Wd_at hP hK hN⟩ rfl rfl hl.1 rfl (lv_room (Nat.le_of_ble_eq_true rfl)) dX7_average_11 ⟨(Nat.le_of_ble_eq_true rfl), (Nat.le_of_ble_eq_true rfl)⟩)) (fun r_11 hr_11 => ?_)
  refine lv_istore_n (lv' := [(3, .int r_11), (0, .ref (ad 0)), (1, .int o), (2, .int (nI m0))]) hx hb dX7_average_14 rfl hl (by decide) rfl (fun ls hl => ?_)
  refine lv_iload_n hx hb dX7_average_15 rfl (lv_at hl 0 rfl) ?_
  refine lv_if_ne (tgt := 29) hx hb dX7_average_16 (by decide) (fun c_16 => ?_) (fun c_16 => ?_)
  · refine lv_aload_n hx hb dX7_average_29 rfl (lv_at hl 1 rfl) ?_
    refine lv_iload_n hx hb dX7_average_30 rfl (lv_at hl 2 rfl) ?_
    refine lv_iload_n hx hb dX7_average_31 rfl (lv_at hl 2 rfl) ?_
    refine lv_iload_n hx hb dX7_average_32 rfl (lv_at hl 3 rfl) ?_
    refine vp_callSi (va_Run.run (va_runV (As := [.int o, .int o, .int (nI m0)]) (rest := []) ⟨hx, hb, hml, hown, hts⟩ (c_X7_storageBy l D y Ls ad G ch dr hX st ha mi dO dD dP nd li ow hC nu uo uf ul ug ut uk ud hUs o o m0 hm) (cwV 3 hts gX7_average_X7_storageBy rfl rfl rfl (by decide +kernel) ⟨Nat.le_of_ble_eq_true rfl, Nat.le_of_ble_eq_true rfl⟩) ⟨Wd_blind, Wd_recv hK hP (ci := 9) rfl hX.1 hX.2, Wd_at hP hK hN⟩ rfl rfl hl.1 rfl (lv_room (Nat.le_of_ble_eq_true rfl)) dX7_average_33 ⟨(Nat.le_of_ble_eq_true rfl), (Nat.le_of_ble_eq_true rfl)⟩)) (fun r_33 hr_33 => ?_)
    refine lv_iload_n hx hb dX7_average_36 rfl (lv_at hl 0 rfl) ?_
    refine lv_idiv hx hb dX7_average_37 (c_16) ?_
    refine W.widen (k := 3) (n := 18) (Nat.le_of_ble_eq_true rfl) (Nat.le_of_ble_eq_true rfl) ?_
    exact vx_ret (W.iret (v := (r_33 / r_11)) hx hb hr (fun t ht hW => ⟨⟨(r_33 / r_11), wl Ls ad G, rfl, ⟨hw1, ⟨m0, hm, rfl, by rw [← hr_11]; exact c_16, by rw [hr_33, hr_11]⟩, rfl⟩, by rw [ht]; exact hP, hD⟩, hS.F ht⟩) hS.2.2 dX7_average_38)
  · exact pv_thr (text := "no unit-days") hx hb hl0 4 (Or.inr ⟨rfl, hw1, m0, hm, rfl, by rw [← hr_11]; exact c_16⟩) hts hown (by decide +kernel) (by decide +kernel) (by decide +kernel) (by decide +kernel) (by decide +kernel) thr_b4 (by decide +kernel) hT hP hS (hl.1.trans hml.symm) dX7_average_19 dX7_average_22 dX7_average_23 dX7_average_25 dX7_average_28 hno (Nat.le_of_ble_eq_true rfl) (Nat.le_of_ble_eq_true rfl) (Nat.le_of_ble_eq_true rfl) (Nat.le_of_ble_eq_true rfl) hlocks (Nat.le_of_ble_eq_true rfl) (Nat.le_of_ble_eq_true rfl)

set_option maxHeartbeats 4000000 in
set_option maxRecDepth 100000 in
/-- compare -/
theorem c_X7_compare (l : Launch) (hl0 : l.stackTraces = false) (D : va_G) (y : Nat → ClassId) (b0 : Nat) (Ls : List Nat) (ad : Nat → Nat) (G : Nat → va_E) (ch dr : Nat) (hX : XAt Ls ad G ch dr) (st ha mi dO dD dP : Nat → Int32) (nd : Nat) (li ow : Int32) (hC : ChargesAt y Ls ad G ch st ha mi dO dD dP nd li ow) (nu : Nat) (uo : Nat → Int32) (uf ul : Nat → Nat) (ug : Nat → Int32) (ut : Nat → Nat) (uk ud : Nat → Nat → Int32) (hUs : UnitsAt y Ls ad G nu uo uf ul ug ut uk ud) (nm : Nat) (mo mk md mp : Nat → Int32) (hMs : MovesAt y Ls ad G nm mo mk md mp) (o q mo0 : Int32) : vx_Met l yX7_compare wsX7_compare ({ frames := 7, cells := 3, slots := 18, locals := 142 }) (va_Pc [.ref (ad 0), .int o, .int q, .int mo0] (WdM D y b0 (wl Ls ad G))) (va_Qi (fun (r : Int32) (u : va_W) => inR o 7 ∧ inR q 7 ∧ (∃ m0, m0 < 120 ∧ mo0 = nI m0 ∧ r = sumX st ha mi dO dD dP nd nu uo uf ul ut uk ud nm mo mk md mp q o m0 - sumX st ha mi dO dD dP nd nu uo uf ul ut uk ud nm mo mk md mp o o m0) ∧ u = wl Ls ad G) (WB D b0) (fun q => b0 ≤ q)) (XX D b0 (wl Ls ad G) (fun k => k = 0 ∧ ¬ (inR o 7 ∧ inR q 7 ∧ inR mo0 119))) 3 18 (fun q => b0 ≤ q) := by
  refine vx_ofW (cc := cX7_compare) (maxL := 4) (ret := (some .int)) (by decide) rfl ?_
  intro p e s m args below meth c s₁ B hml hno hv
  obtain ⟨rfl, ⟨hP, hK, hN⟩, hD, hb0, hT⟩ := hv
  have hx := B.exec
  have hb := B.bytes
  have hr := B.returns
  have hts := atoms_spec (ws := wsX7_compare) B.pre
  have hown : s.vm.findClass RX7 = some m.cls := findClass_of_methodNamed B.named
  have hlocks := B.notSynchronized
  have hS : va_S (fun q => b0 ≤ q) s.heap s.heap [] := va_S.rf
  have hl := lv_entry ([.ref (ad 0), .int o, .int q, .int mo0]) (n := 4) (Nat.le_of_ble_eq_true rfl)
  rw [lg_entry_eq]
  generalize (lg_sl ([.ref (ad 0), .int o, .int q, .int mo0]) ++ List.replicate (4 - (lg_sl ([.ref (ad 0), .int o, .int q, .int mo0])).length) Slot.unset).toArray = ls at hl ⊢
  have hl : lv_has ls 4 [(0, .ref (ad 0)), (1, .int o), (2, .int q), (3, .int mo0)] := hl
  refine lv_iload_n hx hb dX7_compare_0 rfl (lv_at hl 1 rfl) ?_
  refine vx_callv (vx_runS (As := [.int o]) (rest := []) ⟨hx, hb, hml, hown, hts⟩ (c_X7_checkOwner l hl0 D y b0 (wl Ls ad G) o) (va_cwS 1 hts gX7_compare_X7_checkOwner rfl rfl rfl (by decide +kernel) ⟨(Nat.le_of_ble_eq_true rfl), (Nat.le_of_ble_eq_true rfl)⟩) ⟨WdM_blind, WdM_at hP hK hN hD hS hb0 hT⟩ rfl rfl hl.1 rfl (lv_room (Nat.le_of_ble_eq_true rfl)) dX7_compare_1 ⟨(Nat.le_of_ble_eq_true rfl), (Nat.le_of_ble_eq_true rfl)⟩) hS (fun _ _ h => h) (fun _ h => h) (fun _ _ h => h) (fun E9 ce9 q9 k9 t9 H9 locs9 ht9 hvm9 hp9 hB9 hz9 hk9 hS9 hce9 hcv9 hcl9 => pv_out (⟨hp9.1, fun h => hp9.2 h.1⟩) hB9 ht9 hS9 hno hlocks hce9 hcv9 hcl9 (Nat.le_of_ble_eq_true rfl) (Nat.le_of_ble_eq_true rfl)) (fun u1 t H locs ht hvm hw1 hB hz1 hk1 hS => ?_)
  obtain ⟨hP, hD⟩ := hB
  rw [ht] at hP
  obtain ⟨hw1, rfl⟩ := hw1
  refine lv_iload_n hx hb dX7_compare_4 rfl (lv_at hl 2 rfl) ?_
  refine vx_callv (vx_runS (As := [.int q]) (rest := []) ⟨hx, hb, hml, hown, hts⟩ (c_X7_checkOwner l hl0 D y b0 (wl Ls ad G) q) (va_cwS 1 hts gX7_compare_X7_checkOwner rfl rfl rfl (by decide +kernel) ⟨(Nat.le_of_ble_eq_true rfl), (Nat.le_of_ble_eq_true rfl)⟩) ⟨WdM_blind, WdM_at hP hK hN hD hS hb0 hT⟩ rfl rfl hl.1 rfl (lv_room (Nat.le_of_ble_eq_true rfl)) dX7_compare_5 ⟨(Nat.le_of_ble_eq_true rfl), (Nat.le_of_ble_eq_true rfl)⟩) hS (fun _ _ h => h) (fun _ h => h) (fun _ _ h => h) (fun E9 ce9 q9 k9 t9 H9 locs9 ht9 hvm9 hp9 hB9 hz9 hk9 hS9 hce9 hcv9 hcl9 => pv_out (⟨hp9.1, fun h => hp9.2 h.2.1⟩) hB9 ht9 hS9 hno hlocks hce9 hcv9 hcl9 (Nat.le_of_ble_eq_true rfl) (Nat.le_of_ble_eq_true rfl)) (fun u5 t H locs ht hvm hw5 hB hz1 hk1 hS => ?_)
  obtain ⟨hP, hD⟩ := hB
  rw [ht] at hP
  obtain ⟨hw5, rfl⟩ := hw5
  refine lv_iload_n hx hb dX7_compare_8 rfl (lv_at hl 3 rfl) ?_
  refine vx_callv (vx_runS (As := [.int mo0]) (rest := []) ⟨hx, hb, hml, hown, hts⟩ (c_X7_checkMonth l hl0 D y b0 (wl Ls ad G) mo0) (va_cwS 1 hts gX7_compare_X7_checkMonth rfl rfl rfl (by decide +kernel) ⟨(Nat.le_of_ble_eq_true rfl), (Nat.le_of_ble_eq_true rfl)⟩) ⟨WdM_blind, WdM_at hP hK hN hD hS hb0 hT⟩ rfl rfl hl.1 rfl (lv_room (Nat.le_of_ble_eq_true rfl)) dX7_compare_9 ⟨(Nat.le_of_ble_eq_true rfl), (Nat.le_of_ble_eq_true rfl)⟩) hS (fun _ _ h => h) (fun _ h => h) (fun _ _ h => h) (fun E9 ce9 q9 k9 t9 H9 locs9 ht9 hvm9 hp9 hB9 hz9 hk9 hS9 hce9 hcv9 hcl9 => pv_out (⟨hp9.1, fun h => hp9.2 h.2.2⟩) hB9 ht9 hS9 hno hlocks hce9 hcv9 hcl9 (Nat.le_of_ble_eq_true rfl) (Nat.le_of_ble_eq_true rfl)) (fun u9 t H locs ht hvm hw9 hB hz1 hk1 hS => ?_)
  obtain ⟨hP, hD⟩ := hB
  rw [ht] at hP
  obtain ⟨hw9, rfl⟩ := hw9
  obtain ⟨m0, hm, rfl⟩ := within_nI (n := 120) (by decide) (by decide) hw9
  refine lv_aload_n hx hb dX7_compare_12 rfl (lv_at hl 0 rfl) ?_
  refine lv_iload_n hx hb dX7_compare_13 rfl (lv_at hl 2 rfl) ?_
  refine lv_iload_n hx hb dX7_compare_14 rfl (lv_at hl 1 rfl) ?_
  refine lv_iload_n hx hb dX7_compare_15 rfl (lv_at hl 3 rfl) ?_
  refine vp_callSi (va_Run.run (va_runV (As := [.int q, .int o, .int (nI m0)]) (rest := []) ⟨hx, hb, hml, hown, hts⟩ (c_X7_sumBy l D y Ls ad G ch dr hX st ha mi dO dD dP nd li ow hC nu uo uf ul ug ut uk ud hUs nm mo mk md mp hMs q o m0 hm) (cwV 3 hts gX7_compare_X7_sumBy rfl rfl rfl (by decide +kernel) ⟨Nat.le_of_ble_eq_true rfl, Nat.le_of_ble_eq_true rfl⟩) ⟨Wd_blind, Wd_recv hK hP (ci := 9) rfl hX.1 hX.2, Wd_at hP hK hN⟩ rfl rfl hl.1 rfl (lv_room (Nat.le_of_ble_eq_true rfl)) dX7_compare_16 ⟨(Nat.le_of_ble_eq_true rfl), (Nat.le_of_ble_eq_true rfl)⟩)) (fun r_16 hr_16 => ?_)
  refine lv_aload_n hx hb dX7_compare_19 rfl (lv_at hl 0 rfl) ?_
  refine lv_iload_n hx hb dX7_compare_20 rfl (lv_at hl 1 rfl) ?_
  refine lv_iload_n hx hb dX7_compare_21 rfl (lv_at hl 1 rfl) ?_
  refine lv_iload_n hx hb dX7_compare_22 rfl (lv_at hl 3 rfl) ?_
  refine vp_callSi (va_Run.run (va_runV (As := [.int o, .int o, .int (nI m0)]) (rest := [.int r_16]) ⟨hx, hb, hml, hown, hts⟩ (c_X7_sumBy l D y Ls ad G ch dr hX st ha mi dO dD dP nd li ow hC nu uo uf ul ug ut uk ud hUs nm mo mk md mp hMs o o m0 hm) (cwV 3 hts gX7_compare_X7_sumBy rfl rfl rfl (by decide +kernel) ⟨Nat.le_of_ble_eq_true rfl, Nat.le_of_ble_eq_true rfl⟩) ⟨Wd_blind, Wd_recv hK hP (ci := 9) rfl hX.1 hX.2, Wd_at hP hK hN⟩ rfl rfl hl.1 rfl (lv_room (Nat.le_of_ble_eq_true rfl)) dX7_compare_23 ⟨(Nat.le_of_ble_eq_true rfl), (Nat.le_of_ble_eq_true rfl)⟩)) (fun r_23 hr_23 => ?_)
  refine lv_isub hx hb dX7_compare_26 ?_
  refine W.widen (k := 3) (n := 18) (Nat.le_of_ble_eq_true rfl) (Nat.le_of_ble_eq_true rfl) ?_
  exact vx_ret (W.iret (v := (r_16 - r_23)) hx hb hr (fun t ht hW => ⟨⟨(r_16 - r_23), wl Ls ad G, rfl, ⟨hw1, hw5, ⟨m0, hm, rfl, by rw [hr_16, hr_23]⟩, rfl⟩, by rw [ht]; exact hP, hD⟩, hS.F ht⟩) hS.2.2 dX7_compare_27)

set_option maxHeartbeats 4000000 in
set_option maxRecDepth 100000 in
/-- billed -/
theorem c_X7_billed (l : Launch) (hl0 : l.stackTraces = false) (D : va_G) (y : Nat → ClassId) (b0 : Nat) (Ls : List Nat) (ad : Nat → Nat) (G : Nat → va_E) (ch dr : Nat) (hX : XAt Ls ad G ch dr) (nl : Nat) (bo bm bc bi : Nat → Int32) (hBs : BillsAt y Ls ad G nl bo bm bc bi) (o : Int32) : vx_Met l yX7_billed wsX7_billed ({ frames := 7, cells := 1, slots := 6, locals := 102 }) (va_Pc [.ref (ad 0), .int o] (WdM D y b0 (wl Ls ad G))) (va_Qi (fun (r : Int32) (u : va_W) => inR o 7 ∧ r = sumO bo o bc nl ∧ u = wl Ls ad G) (WB D b0) (fun q => b0 ≤ q)) (XX D b0 (wl Ls ad G) (fun k => k = 0 ∧ ¬ inR o 7)) 1 6 (fun q => b0 ≤ q) := by
  refine vx_ofW (cc := cX7_billed) (maxL := 2) (ret := (some .int)) (by decide) rfl ?_
  intro p e s m args below meth c s₁ B hml hno hv
  obtain ⟨rfl, ⟨hP, hK, hN⟩, hD, hb0, hT⟩ := hv
  have hx := B.exec
  have hb := B.bytes
  have hr := B.returns
  have hts := atoms_spec (ws := wsX7_billed) B.pre
  have hown : s.vm.findClass RX7 = some m.cls := findClass_of_methodNamed B.named
  have hlocks := B.notSynchronized
  have hS : va_S (fun q => b0 ≤ q) s.heap s.heap [] := va_S.rf
  have hinX7 : ∀ w ∈ wsX70, w ∈ wsX7_billed := by decide +kernel
  have hl := lv_entry ([.ref (ad 0), .int o]) (n := 2) (Nat.le_of_ble_eq_true rfl)
  rw [lg_entry_eq]
  generalize (lg_sl ([.ref (ad 0), .int o]) ++ List.replicate (2 - (lg_sl ([.ref (ad 0), .int o])).length) Slot.unset).toArray = ls at hl ⊢
  have hl : lv_has ls 2 [(0, .ref (ad 0)), (1, .int o)] := hl
  refine lv_iload_n hx hb dX7_billed_0 rfl (lv_at hl 1 rfl) ?_
  refine vx_callv (vx_runS (As := [.int o]) (rest := []) ⟨hx, hb, hml, hown, hts⟩ (c_X7_checkOwner l hl0 D y b0 (wl Ls ad G) o) (va_cwS 1 hts gX7_billed_X7_checkOwner rfl rfl rfl (by decide +kernel) ⟨(Nat.le_of_ble_eq_true rfl), (Nat.le_of_ble_eq_true rfl)⟩) ⟨WdM_blind, WdM_at hP hK hN hD hS hb0 hT⟩ rfl rfl hl.1 rfl (lv_room (Nat.le_of_ble_eq_true rfl)) dX7_billed_1 ⟨(Nat.le_of_ble_eq_true rfl), (Nat.le_of_ble_eq_true rfl)⟩) hS (fun _ _ h => h) (fun _ h => h) (fun _ _ h => h) (fun E9 ce9 q9 k9 t9 H9 locs9 ht9 hvm9 hp9 hB9 hz9 hk9 hS9 hce9 hcv9 hcl9 => pv_out (⟨hp9.1, hp9.2⟩) hB9 ht9 hS9 hno hlocks hce9 hcv9 hcl9 (Nat.le_of_ble_eq_true rfl) (Nat.le_of_ble_eq_true rfl)) (fun u1 t H locs ht hvm hw1 hB hz1 hk1 hS => ?_)
  obtain ⟨hP, hD⟩ := hB
  rw [ht] at hP
  obtain ⟨hw1, rfl⟩ := hw1
  refine lv_aload_n hx hb dX7_billed_4 rfl (lv_at hl 0 rfl) ?_
  refine pv_get (ci := 9) (C := RX7) (T := TX7) (N := 7) hx hb hts hinX7 hown hK hP hX.1 hX.2 rfl 5 (by decide) (hts (.fieldLink RX7 39 "StorageCharge" "bills" "LStorageCharge$Bills;") (by decide +kernel)) (fun _ h9 => h9) rfl dX7_billed_5 ?_
  refine lv_iload_n hx hb dX7_billed_8 rfl (lv_at hl 1 rfl) ?_
  refine vp_callSi (va_Run.run (va_runV (As := [.int o]) (rest := []) ⟨hx, hb, hml, hown, hts⟩ (c_X1_centsOfOwner l D y Ls ad G nl bo bm bc bi hBs o) (cwV 1 hts gX7_billed_X1_centsOfOwner rfl rfl rfl (by decide +kernel) ⟨Nat.le_of_ble_eq_true rfl, Nat.le_of_ble_eq_true rfl⟩) ⟨Wd_blind, Wd_recv hK hP (ci := 3) rfl hBs.1.1 hBs.1.2, Wd_at hP hK hN⟩ rfl rfl hl.1 rfl (lv_room (Nat.le_of_ble_eq_true rfl)) dX7_billed_9 ⟨(Nat.le_of_ble_eq_true rfl), (Nat.le_of_ble_eq_true rfl)⟩)) (fun r_9 hr_9 => ?_)
  refine W.widen (k := 1) (n := 6) (Nat.le_of_ble_eq_true rfl) (Nat.le_of_ble_eq_true rfl) ?_
  exact vx_ret (W.iret (v := r_9) hx hb hr (fun t ht hW => ⟨⟨r_9, wl Ls ad G, rfl, ⟨hw1, hr_9, rfl⟩, by rw [ht]; exact hP, hD⟩, hS.F ht⟩) hS.2.2 dX7_billed_12)

set_option maxHeartbeats 4000000 in
set_option maxRecDepth 100000 in
/-- line -/
theorem c_X7_line (l : Launch) (hl0 : l.stackTraces = false) (D : va_G) (y : Nat → ClassId) (b0 : Nat) (Ls : List Nat) (ad : Nat → Nat) (G : Nat → va_E) (ch dr : Nat) (hX : XAt Ls ad G ch dr) (nl : Nat) (bo bm bc bi : Nat → Int32) (hBs : BillsAt y Ls ad G nl bo bm bc bi) (o q0 wh : Int32) : vx_Met l yX7_line wsX7_line ({ frames := 7, cells := 2, slots := 12, locals := 102 }) (va_Pc [.ref (ad 0), .int o, .int q0, .int wh] (WdM D y b0 (wl Ls ad G))) (va_Qi (fun (r : Int32) (u : va_W) => inR o 7 ∧ (∃ k0, k0 < nl ∧ bo k0 = o ∧ nI (cnt bo o k0) = q0 ∧ ((wh = 0 ∧ r = bm k0) ∨ (wh = 1 ∧ r = bc k0) ∨ (wh = 2 ∧ ((bi k0 = 0 ∧ r = 0) ∨ (¬ bi k0 = 0 ∧ r = 1))))) ∧ u = wl Ls ad G) (WB D b0) (fun q => b0 ≤ q)) (XX D b0 (wl Ls ad G) (fun k => (k = 0 ∧ ¬ inR o 7) ∨ (k = 2 ∧ inR o 7 ∧ ∀ k0, k0 < nl → bo k0 = o → nI (cnt bo o k0) ≠ q0) ∨ (k = 0 ∧ inR o 7 ∧ (wh.toInt < 0 ∨ 2 < wh.toInt) ∧ ∃ k0, k0 < nl ∧ bo k0 = o ∧ nI (cnt bo o k0) = q0))) 2 12 (fun q => b0 ≤ q) := by
  refine vx_ofW (cc := cX7_line) (maxL := 5) (ret := (some .int)) (by decide) rfl ?_
  intro p e s m args below meth c s₁ B hml hno hv
  obtain ⟨rfl, ⟨hP, hK, hN⟩, hD, hb0, hT⟩ := hv
  have hx := B.exec
  have hb := B.bytes
  have hr := B.returns
  have hts := atoms_spec (ws := wsX7_line) B.pre
  have hown : s.vm.findClass RX7 = some m.cls := findClass_of_methodNamed B.named
  have hlocks := B.notSynchronized
  have hS : va_S (fun q => b0 ≤ q) s.heap s.heap [] := va_S.rf
  have hinX0 : ∀ w ∈ wsX00, w ∈ wsX7_line := by decide +kernel
  have hinX7 : ∀ w ∈ wsX70, w ∈ wsX7_line := by decide +kernel
  have hl := lv_entry ([.ref (ad 0), .int o, .int q0, .int wh]) (n := 5) (Nat.le_of_ble_eq_true rfl)
  rw [lg_entry_eq]
  generalize (lg_sl ([.ref (ad 0), .int o, .int q0, .int wh]) ++ List.replicate (5 - (lg_sl ([.ref (ad 0), .int o, .int q0, .int wh])).length) Slot.unset).toArray = ls at hl ⊢
  have hl : lv_has ls 5 [(0, .ref (ad 0)), (1, .int o), (2, .int q0), (3, .int wh)] := hl
  refine lv_iload_n hx hb dX7_line_0 rfl (lv_at hl 1 rfl) ?_
  refine vx_callv (vx_runS (As := [.int o]) (rest := []) ⟨hx, hb, hml, hown, hts⟩ (c_X7_checkOwner l hl0 D y b0 (wl Ls ad G) o) (va_cwS 1 hts gX7_line_X7_checkOwner rfl rfl rfl (by decide +kernel) ⟨(Nat.le_of_ble_eq_true rfl), (Nat.le_of_ble_eq_true rfl)⟩) ⟨WdM_blind, WdM_at hP hK hN hD hS hb0 hT⟩ rfl rfl hl.1 rfl (lv_room (Nat.le_of_ble_eq_true rfl)) dX7_line_1 ⟨(Nat.le_of_ble_eq_true rfl), (Nat.le_of_ble_eq_true rfl)⟩) hS (fun _ _ h => h) (fun _ h => h) (fun _ _ h => h) (fun E9 ce9 q9 k9 t9 H9 locs9 ht9 hvm9 hp9 hB9 hz9 hk9 hS9 hce9 hcv9 hcl9 => pv_out (Or.inl ⟨hp9.1, fun h => hp9.2 h⟩) hB9 ht9 hS9 hno hlocks hce9 hcv9 hcl9 (Nat.le_of_ble_eq_true rfl) (Nat.le_of_ble_eq_true rfl)) (fun u1 t H locs ht hvm hw1 hB hz1 hk1 hS => ?_)
  obtain ⟨hP, hD⟩ := hB
  rw [ht] at hP
  obtain ⟨hw1, rfl⟩ := hw1
  refine lv_aload_n hx hb dX7_line_4 rfl (lv_at hl 0 rfl) ?_
  refine pv_get (ci := 9) (C := RX7) (T := TX7) (N := 7) hx hb hts hinX7 hown hK hP hX.1 hX.2 rfl 5 (by decide) (hts (.fieldLink RX7 39 "StorageCharge" "bills" "LStorageCharge$Bills;") (by decide +kernel)) (fun _ h9 => h9) rfl dX7_line_5 ?_
  refine lv_iload_n hx hb dX7_line_8 rfl (lv_at hl 1 rfl) ?_
  refine lv_iload_n hx hb dX7_line_9 rfl (lv_at hl 2 rfl) ?_
  refine va_csq (va_Run.run (va_runV (As := [.int o, .int q0]) (rest := []) ⟨hx, hb, hml, hown, hts⟩ (c_X1_find l D y Ls ad G nl bo bm bc bi hBs o q0) (cwV 2 hts gX7_line_X1_find rfl rfl rfl (by decide +kernel) ⟨Nat.le_of_ble_eq_true rfl, Nat.le_of_ble_eq_true rfl⟩) ⟨Wd_blind, Wd_recv hK hP (ci := 3) rfl hBs.1.1 hBs.1.2, Wd_at hP hK hN⟩ rfl rfl hl.1 rfl (lv_room (Nat.le_of_ble_eq_true rfl)) dX7_line_10 ⟨(Nat.le_of_ble_eq_true rfl), (Nat.le_of_ble_eq_true rfl)⟩)) (fun r_10 hr_10 => ?_)
  rcases hr_10 with ⟨k0, hk0, ho0, hq0, rfl⟩ | ⟨rfl, hno0⟩
  · show W _ _ _ _ _ _ _ _ _ _ _ _ _ _ _ (F0 m _ ls (.ref (ad (3000 + k0)) :: _))
    refine lv_astore (lv' := [(4, .ref (ad (3000 + k0))), (0, .ref (ad 0)), (1, .int o), (2, .int q0), (3, .int wh)]) hx hb dX7_line_13 hl (by decide) rfl (fun ls hl => ?_)
    refine lv_aload hx hb dX7_line_15 (lv_at hl 0 rfl) ?_
    refine lv_ifnonnull (tgt := 30) hx hb dX7_line_17 (by decide) ?_
    refine lv_iload_n hx hb dX7_line_30 rfl (lv_at hl 4 rfl) ?_
    rcases sw2 wh with hsw | hsw | hsw | hsw
    · refine lv_tableOut (tgt := 82) hx hb dX7_line_31 hsw (by decide) ?_
      exact pv_thr (text := "a line has no such number") hx hb hl0 0 (Or.inr (Or.inr ⟨rfl, hw1, hsw, k0, hk0, ho0, hq0⟩)) hts hown (by decide +kernel) (by decide +kernel) (by decide +kernel) (by decide +kernel) (by decide +kernel) thr_b0 (by decide +kernel) hT hP hS (hl.1.trans hml.symm) dX7_line_82 dX7_line_85 dX7_line_86 dX7_line_88 dX7_line_91 hno (Nat.le_of_ble_eq_true rfl) (Nat.le_of_ble_eq_true rfl) (Nat.le_of_ble_eq_true rfl) (Nat.le_of_ble_eq_true rfl) hlocks (Nat.le_of_ble_eq_true rfl) (Nat.le_of_ble_eq_true rfl)
    · refine lv_tableIn (tgt := 56) (off := 25) hx hb dX7_line_31 (by rw [hsw]; decide) (by rw [hsw]; decide) (by rw [hsw]; rfl) (by decide) ?_
      refine lv_aload hx hb dX7_line_56 (lv_at hl 0 rfl) ?_
      refine pv_getN (ci := 2) (C := RX0) (T := TX0) (N := 4) hx hb hts hinX0 hown hK hP (hBs.2.2 k0 hk0).1 (hBs.2.2 k0 hk0).2 rfl 1 (by decide) hN (by decide +kernel : Cond.fieldLinkNest RX7 198 "StorageCharge$BillLine" "month" "I" "StorageCharge" ∈ nestW) (fun _ h9 => h9) rfl dX7_line_58 ?_
      refine W.widen (k := 2) (n := 12) (Nat.le_of_ble_eq_true rfl) (Nat.le_of_ble_eq_true rfl) ?_
      exact vx_ret (W.iret (v := bm k0) hx hb hr (fun t ht hW => ⟨⟨bm k0, wl Ls ad G, rfl, ⟨hw1, ⟨k0, hk0, ho0, hq0, by first | exact Or.inl ⟨hsw, rfl⟩ | exact Or.inr (Or.inl ⟨hsw, rfl⟩) | exact Or.inr (Or.inr ⟨hsw, by first | exact Or.inl ⟨c_73, rfl⟩ | exact Or.inr ⟨c_73, rfl⟩⟩)⟩, rfl⟩, by rw [ht]; exact hP, hD⟩, hS.F ht⟩) hS.2.2 dX7_line_61)
    · refine lv_tableIn (tgt := 62) (off := 31) hx hb dX7_line_31 (by rw [hsw]; decide) (by rw [hsw]; decide) (by rw [hsw]; rfl) (by decide) ?_
      refine lv_aload hx hb dX7_line_62 (lv_at hl 0 rfl) ?_
      refine pv_getN (ci := 2) (C := RX0) (T := TX0) (N := 4) hx hb hts hinX0 hown hK hP (hBs.2.2 k0 hk0).1 (hBs.2.2 k0 hk0).2 rfl 2 (by decide) hN (by decide +kernel : Cond.fieldLinkNest RX7 201 "StorageCharge$BillLine" "cents" "I" "StorageCharge" ∈ nestW) (fun _ h9 => h9) rfl dX7_line_64 ?_
      refine W.widen (k := 2) (n := 12) (Nat.le_of_ble_eq_true rfl) (Nat.le_of_ble_eq_true rfl) ?_
      exact vx_ret (W.iret (v := bc k0) hx hb hr (fun t ht hW => ⟨⟨bc k0, wl Ls ad G, rfl, ⟨hw1, ⟨k0, hk0, ho0, hq0, by first | exact Or.inl ⟨hsw, rfl⟩ | exact Or.inr (Or.inl ⟨hsw, rfl⟩) | exact Or.inr (Or.inr ⟨hsw, by first | exact Or.inl ⟨c_73, rfl⟩ | exact Or.inr ⟨c_73, rfl⟩⟩)⟩, rfl⟩, by rw [ht]; exact hP, hD⟩, hS.F ht⟩) hS.2.2 dX7_line_67)
    · refine lv_tableIn (tgt := 68) (off := 37) hx hb dX7_line_31 (by rw [hsw]; decide) (by rw [hsw]; decide) (by rw [hsw]; rfl) (by decide) ?_
      refine lv_aload hx hb dX7_line_68 (lv_at hl 0 rfl) ?_
      refine pv_getN (ci := 2) (C := RX0) (T := TX0) (N := 4) hx hb hts hinX0 hown hK hP (hBs.2.2 k0 hk0).1 (hBs.2.2 k0 hk0).2 rfl 3 (by decide) hN (by decide +kernel : Cond.fieldLinkNest RX7 204 "StorageCharge$BillLine" "isCorrection" "Z" "StorageCharge" ∈ nestW) (fun _ h9 => h9) rfl dX7_line_70 ?_
      refine lv_if_eq (tgt := 80) hx hb dX7_line_73 (by decide) (fun c_73 => ?_) (fun c_73 => ?_)
      · refine lv_iconst (v := 0) hx hb dX7_line_80 (by decide) ?_
        refine W.widen (k := 2) (n := 12) (Nat.le_of_ble_eq_true rfl) (Nat.le_of_ble_eq_true rfl) ?_
        exact vx_ret (W.iret (v := 0) hx hb hr (fun t ht hW => ⟨⟨0, wl Ls ad G, rfl, ⟨hw1, ⟨k0, hk0, ho0, hq0, by first | exact Or.inl ⟨hsw, rfl⟩ | exact Or.inr (Or.inl ⟨hsw, rfl⟩) | exact Or.inr (Or.inr ⟨hsw, by first | exact Or.inl ⟨c_73, rfl⟩ | exact Or.inr ⟨c_73, rfl⟩⟩)⟩, rfl⟩, by rw [ht]; exact hP, hD⟩, hS.F ht⟩) hS.2.2 dX7_line_81)
      · refine lv_iconst (v := 1) hx hb dX7_line_76 (by decide) ?_
        refine lv_goto (tgt := 81) hx hb dX7_line_77 (by decide) ?_
        refine W.widen (k := 2) (n := 12) (Nat.le_of_ble_eq_true rfl) (Nat.le_of_ble_eq_true rfl) ?_
        exact vx_ret (W.iret (v := 1) hx hb hr (fun t ht hW => ⟨⟨1, wl Ls ad G, rfl, ⟨hw1, ⟨k0, hk0, ho0, hq0, by first | exact Or.inl ⟨hsw, rfl⟩ | exact Or.inr (Or.inl ⟨hsw, rfl⟩) | exact Or.inr (Or.inr ⟨hsw, by first | exact Or.inl ⟨c_73, rfl⟩ | exact Or.inr ⟨c_73, rfl⟩⟩)⟩, rfl⟩, by rw [ht]; exact hP, hD⟩, hS.F ht⟩) hS.2.2 dX7_line_81)
  · show W _ _ _ _ _ _ _ _ _ _ _ _ _ _ _ (F0 m _ ls (.null :: _))
    refine lv_astoreN (lv' := [(4, .null), (0, .ref (ad 0)), (1, .int o), (2, .int q0), (3, .int wh)]) hx hb dX7_line_13 hl (by decide) rfl (fun ls hl => ?_)
    refine lv_aloadN hx hb dX7_line_15 (lv_at hl 0 rfl) ?_
    refine lv_ifnonnullN hx hb dX7_line_17 ?_
    exact pv_thrN (text := "no such line") hx hb hl0 2 (Or.inr (Or.inl ⟨rfl, hw1, hno0⟩)) hts hown (by decide +kernel) (by decide +kernel) (by decide +kernel) (by decide +kernel) (by decide +kernel) thr_b2 (by decide +kernel) hT hP hS (hl.1.trans hml.symm) dX7_line_20 dX7_line_23 dX7_line_24 dX7_line_26 dX7_line_29 hno (Nat.le_of_ble_eq_true rfl) (Nat.le_of_ble_eq_true rfl) (Nat.le_of_ble_eq_true rfl) (Nat.le_of_ble_eq_true rfl) hlocks (Nat.le_of_ble_eq_true rfl) (Nat.le_of_ble_eq_true rfl)
