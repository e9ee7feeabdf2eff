/-! the refusals, and the calls that only read -/

set_option maxHeartbeats 4000000 in
set_option maxRecDepth 100000 in
/-- checkOwner -/
theorem c_X7_checkOwner (l : Launch) (hl0 : l.stackTraces = false) (D : va_G) (y : Nat → ClassId) (b0 : Nat) (ws : va_W) (a : Int32) : vx_Met l yX7_checkOwner wsX7_checkOwner ({ frames := 6, cells := 1, slots := 6, locals := 82 }) (va_Pc [.int a] (WdM D y b0 (ws))) (va_Qv (fun (u : va_W) => (0 ≤ a ∧ a ≤ 7) ∧ u = ws) (WB D b0) (fun q => b0 ≤ q)) (XX D b0 (ws) (fun k => k = 0 ∧ ¬ (0 ≤ a ∧ a ≤ 7))) 1 6 (fun q => b0 ≤ q) := by
  refine vx_ofW (cc := cX7_checkOwner) (maxL := 1) (ret := none) (by decide) rfl ?_
  intro p e s m args below meth c s₁ B hml hno hv
  obtain ⟨rfl, ⟨hP, hK, hN⟩, hD, hb0, hT⟩ := hv
  have hx := B.exec
  have hb := B.bytes
  have hr := B.returns
  have hts := atoms_spec (ws := wsX7_checkOwner) B.pre
  have hown : s.vm.findClass RX7 = some m.cls := findClass_of_methodNamed B.named
  have hlocks := B.notSynchronized
  have hS : va_S (fun q => b0 ≤ q) s.heap s.heap [] := va_S.rf
  have hl := lv_entry ([.int a]) (n := 1) (Nat.le_of_ble_eq_true rfl)
  rw [lg_entry_eq]
  generalize (lg_sl ([.int a]) ++ List.replicate (1 - (lg_sl ([.int a])).length) Slot.unset).toArray = ls at hl ⊢
  have hl : lv_has ls 1 [(0, .int a)] := hl
  refine lv_iload_n hx hb dX7_checkOwner_0 rfl (lv_at hl 0 rfl) ?_
  refine lv_iconst (v := 0) hx hb dX7_checkOwner_1 (by decide) ?_
  refine lv_bipush (v := 7) hx hb dX7_checkOwner_2 (by decide) ?_
  refine vp_callSi (va_Run.run (va_runS (As := [.int a, .int 0, .int 7]) (rest := []) ⟨hx, hb, hml, hown, hts⟩ (c_X7_isWithin l a 0 7) (va_cwS 3 hts gX7_checkOwner_X7_isWithin rfl rfl rfl (by decide +kernel) ⟨Nat.le_of_ble_eq_true rfl, Nat.le_of_ble_eq_true rfl⟩) ⟨fun _ _ _ _ q => q, fun U hU hW => ⟨rfl, trivial⟩⟩ rfl rfl hl.1 rfl (lv_room (Nat.le_of_ble_eq_true rfl)) dX7_checkOwner_4 ⟨(Nat.le_of_ble_eq_true rfl), (Nat.le_of_ble_eq_true rfl)⟩)) (fun r_4 hr_4 => ?_)
  refine lv_if_ne (tgt := 20) hx hb dX7_checkOwner_7 (by decide) (fun c_7 => ?_) (fun c_7 => ?_)
  · refine W.widen (k := 1) (n := 6) (Nat.le_of_ble_eq_true rfl) (Nat.le_of_ble_eq_true rfl) ?_
    exact vx_ret (W.vret hx hb hr (fun t ht hW => ⟨⟨ws, rfl, ⟨Decidable.byContradiction fun h => c_7 (by rw [hr_4]; exact wI_eq0.mpr h), rfl⟩, by rw [ht]; exact hP, hD⟩, hS.F ht⟩) hS.2.2 dX7_checkOwner_20)
  · exact pv_thr (text := "no such owner") hx hb hl0 0 ⟨rfl, wI_eq0.mp (by rw [← hr_4]; exact c_7)⟩ hts hown (by decide +kernel) (by decide +kernel) (by decide +kernel) (by decide +kernel) (by decide +kernel) thr_b0 (by decide +kernel) hT hP hS (hl.1.trans hml.symm) dX7_checkOwner_10 dX7_checkOwner_13 dX7_checkOwner_14 dX7_checkOwner_16 dX7_checkOwner_19 hno (Nat.le_of_ble_eq_true rfl) (Nat.le_of_ble_eq_true rfl) (Nat.le_of_ble_eq_true rfl) (Nat.le_of_ble_eq_true rfl) hlocks (Nat.le_of_ble_eq_true rfl) (Nat.le_of_ble_eq_true rfl)

set_option maxHeartbeats 4000000 in
set_option maxRecDepth 100000 in
/-- checkKind -/
theorem c_X7_checkKind (l : Launch) (hl0 : l.stackTraces = false) (D : va_G) (y : Nat → ClassId) (b0 : Nat) (ws : va_W) (a : Int32) : vx_Met l yX7_checkKind wsX7_checkKind ({ frames := 6, cells := 1, slots := 6, locals := 82 }) (va_Pc [.int a] (WdM D y b0 (ws))) (va_Qv (fun (u : va_W) => (0 ≤ a ∧ a ≤ 4) ∧ u = ws) (WB D b0) (fun q => b0 ≤ q)) (XX D b0 (ws) (fun k => k = 0 ∧ ¬ (0 ≤ a ∧ a ≤ 4))) 1 6 (fun q => b0 ≤ q) := by
  refine vx_ofW (cc := cX7_checkKind) (maxL := 1) (ret := none) (by decide) rfl ?_
  intro p e s m args below meth c s₁ B hml hno hv
  obtain ⟨rfl, ⟨hP, hK, hN⟩, hD, hb0, hT⟩ := hv
  have hx := B.exec
  have hb := B.bytes
  have hr := B.returns
  have hts := atoms_spec (ws := wsX7_checkKind) B.pre
  have hown : s.vm.findClass RX7 = some m.cls := findClass_of_methodNamed B.named
  have hlocks := B.notSynchronized
  have hS : va_S (fun q => b0 ≤ q) s.heap s.heap [] := va_S.rf
  have hl := lv_entry ([.int a]) (n := 1) (Nat.le_of_ble_eq_true rfl)
  rw [lg_entry_eq]
  generalize (lg_sl ([.int a]) ++ List.replicate (1 - (lg_sl ([.int a])).length) Slot.unset).toArray = ls at hl ⊢
  have hl : lv_has ls 1 [(0, .int a)] := hl
  refine lv_iload_n hx hb dX7_checkKind_0 rfl (lv_at hl 0 rfl) ?_
  refine lv_iconst (v := 0) hx hb dX7_checkKind_1 (by decide) ?_
  refine lv_iconst (v := 4) hx hb dX7_checkKind_2 (by decide) ?_
  refine vp_callSi (va_Run.run (va_runS (As := [.int a, .int 0, .int 4]) (rest := []) ⟨hx, hb, hml, hown, hts⟩ (c_X7_isWithin l a 0 4) (va_cwS 3 hts gX7_checkKind_X7_isWithin rfl rfl rfl (by decide +kernel) ⟨Nat.le_of_ble_eq_true rfl, Nat.le_of_ble_eq_true rfl⟩) ⟨fun _ _ _ _ q => q, fun U hU hW => ⟨rfl, trivial⟩⟩ rfl rfl hl.1 rfl (lv_room (Nat.le_of_ble_eq_true rfl)) dX7_checkKind_3 ⟨(Nat.le_of_ble_eq_true rfl), (Nat.le_of_ble_eq_true rfl)⟩)) (fun r_3 hr_3 => ?_)
  refine lv_if_ne (tgt := 19) hx hb dX7_checkKind_6 (by decide) (fun c_6 => ?_) (fun c_6 => ?_)
  · refine W.widen (k := 1) (n := 6) (Nat.le_of_ble_eq_true rfl) (Nat.le_of_ble_eq_true rfl) ?_
    exact vx_ret (W.vret hx hb hr (fun t ht hW => ⟨⟨ws, rfl, ⟨Decidable.byContradiction fun h => c_6 (by rw [hr_3]; exact wI_eq0.mpr h), rfl⟩, by rw [ht]; exact hP, hD⟩, hS.F ht⟩) hS.2.2 dX7_checkKind_19)
  · exact pv_thr (text := "no such class or kind") hx hb hl0 0 ⟨rfl, wI_eq0.mp (by rw [← hr_3]; exact c_6)⟩ hts hown (by decide +kernel) (by decide +kernel) (by decide +kernel) (by decide +kernel) (by decide +kernel) thr_b0 (by decide +kernel) hT hP hS (hl.1.trans hml.symm) dX7_checkKind_9 dX7_checkKind_12 dX7_checkKind_13 dX7_checkKind_15 dX7_checkKind_18 hno (Nat.le_of_ble_eq_true rfl) (Nat.le_of_ble_eq_true rfl) (Nat.le_of_ble_eq_true rfl) (Nat.le_of_ble_eq_true rfl) hlocks (Nat.le_of_ble_eq_true rfl) (Nat.le_of_ble_eq_true rfl)

set_option maxHeartbeats 4000000 in
set_option maxRecDepth 100000 in
/-- checkDay -/
theorem c_X7_checkDay (l : Launch) (hl0 : l.stackTraces = false) (D : va_G) (y : Nat → ClassId) (b0 : Nat) (ws : va_W) (a : Int32) : vx_Met l yX7_checkDay wsX7_checkDay ({ frames := 6, cells := 1, slots := 6, locals := 82 }) (va_Pc [.int a] (WdM D y b0 (ws))) (va_Qv (fun (u : va_W) => (0 ≤ a ∧ a ≤ 3599) ∧ u = ws) (WB D b0) (fun q => b0 ≤ q)) (XX D b0 (ws) (fun k => k = 0 ∧ ¬ (0 ≤ a ∧ a ≤ 3599))) 1 6 (fun q => b0 ≤ q) := by
  refine vx_ofW (cc := cX7_checkDay) (maxL := 1) (ret := none) (by decide) rfl ?_
  intro p e s m args below meth c s₁ B hml hno hv
  obtain ⟨rfl, ⟨hP, hK, hN⟩, hD, hb0, hT⟩ := hv
  have hx := B.exec
  have hb := B.bytes
  have hr := B.returns
  have hts := atoms_spec (ws := wsX7_checkDay) B.pre
  have hown : s.vm.findClass RX7 = some m.cls := findClass_of_methodNamed B.named
  have hlocks := B.notSynchronized
  have hS : va_S (fun q => b0 ≤ q) s.heap s.heap [] := va_S.rf
  have hl := lv_entry ([.int a]) (n := 1) (Nat.le_of_ble_eq_true rfl)
  rw [lg_entry_eq]
  generalize (lg_sl ([.int a]) ++ List.replicate (1 - (lg_sl ([.int a])).length) Slot.unset).toArray = ls at hl ⊢
  have hl : lv_has ls 1 [(0, .int a)] := hl
  refine lv_iload_n hx hb dX7_checkDay_0 rfl (lv_at hl 0 rfl) ?_
  refine lv_iconst (v := 0) hx hb dX7_checkDay_1 (by decide) ?_
  refine lv_sipush (v := 3599) hx hb dX7_checkDay_2 (by decide) ?_
  refine vp_callSi (va_Run.run (va_runS (As := [.int a, .int 0, .int 3599]) (rest := []) ⟨hx, hb, hml, hown, hts⟩ (c_X7_isWithin l a 0 3599) (va_cwS 3 hts gX7_checkDay_X7_isWithin rfl rfl rfl (by decide +kernel) ⟨Nat.le_of_ble_eq_true rfl, Nat.le_of_ble_eq_true rfl⟩) ⟨fun _ _ _ _ q => q, fun U hU hW => ⟨rfl, trivial⟩⟩ rfl rfl hl.1 rfl (lv_room (Nat.le_of_ble_eq_true rfl)) dX7_checkDay_5 ⟨(Nat.le_of_ble_eq_true rfl), (Nat.le_of_ble_eq_true rfl)⟩)) (fun r_5 hr_5 => ?_)
  refine lv_if_ne (tgt := 21) hx hb dX7_checkDay_8 (by decide) (fun c_8 => ?_) (fun c_8 => ?_)
  · refine W.widen (k := 1) (n := 6) (Nat.le_of_ble_eq_true rfl) (Nat.le_of_ble_eq_true rfl) ?_
    exact vx_ret (W.vret hx hb hr (fun t ht hW => ⟨⟨ws, rfl, ⟨Decidable.byContradiction fun h => c_8 (by rw [hr_5]; exact wI_eq0.mpr h), rfl⟩, by rw [ht]; exact hP, hD⟩, hS.F ht⟩) hS.2.2 dX7_checkDay_21)
  · exact pv_thr (text := "no such day") hx hb hl0 0 ⟨rfl, wI_eq0.mp (by rw [← hr_5]; exact c_8)⟩ hts hown (by decide +kernel) (by decide +kernel) (by decide +kernel) (by decide +kernel) (by decide +kernel) thr_b0 (by decide +kernel) hT hP hS (hl.1.trans hml.symm) dX7_checkDay_11 dX7_checkDay_14 dX7_checkDay_15 dX7_checkDay_17 dX7_checkDay_20 hno (Nat.le_of_ble_eq_true rfl) (Nat.le_of_ble_eq_true rfl) (Nat.le_of_ble_eq_true rfl) (Nat.le_of_ble_eq_true rfl) hlocks (Nat.le_of_ble_eq_true rfl) (Nat.le_of_ble_eq_true rfl)

set_option maxHeartbeats 4000000 in
set_option maxRecDepth 100000 in
/-- checkMonth -/
theorem c_X7_checkMonth (l : Launch) (hl0 : l.stackTraces = false) (D : va_G) (y : Nat → ClassId) (b0 : Nat) (ws : va_W) (a : Int32) : vx_Met l yX7_checkMonth wsX7_checkMonth ({ frames := 6, cells := 1, slots := 6, locals := 82 }) (va_Pc [.int a] (WdM D y b0 (ws))) (va_Qv (fun (u : va_W) => (0 ≤ a ∧ a ≤ 119) ∧ u = ws) (WB D b0) (fun q => b0 ≤ q)) (XX D b0 (ws) (fun k => k = 0 ∧ ¬ (0 ≤ a ∧ a ≤ 119))) 1 6 (fun q => b0 ≤ q) := by
  refine vx_ofW (cc := cX7_checkMonth) (maxL := 1) (ret := none) (by decide) rfl ?_
  intro p e s m args below meth c s₁ B hml hno hv
  obtain ⟨rfl, ⟨hP, hK, hN⟩, hD, hb0, hT⟩ := hv
  have hx := B.exec
  have hb := B.bytes
  have hr := B.returns
  have hts := atoms_spec (ws := wsX7_checkMonth) B.pre
  have hown : s.vm.findClass RX7 = some m.cls := findClass_of_methodNamed B.named
  have hlocks := B.notSynchronized
  have hS : va_S (fun q => b0 ≤ q) s.heap s.heap [] := va_S.rf
  have hl := lv_entry ([.int a]) (n := 1) (Nat.le_of_ble_eq_true rfl)
  rw [lg_entry_eq]
  generalize (lg_sl ([.int a]) ++ List.replicate (1 - (lg_sl ([.int a])).length) Slot.unset).toArray = ls at hl ⊢
  have hl : lv_has ls 1 [(0, .int a)] := hl
  refine lv_iload_n hx hb dX7_checkMonth_0 rfl (lv_at hl 0 rfl) ?_
  refine lv_iconst (v := 0) hx hb dX7_checkMonth_1 (by decide) ?_
  refine lv_bipush (v := 119) hx hb dX7_checkMonth_2 (by decide) ?_
  refine vp_callSi (va_Run.run (va_runS (As := [.int a, .int 0, .int 119]) (rest := []) ⟨hx, hb, hml, hown, hts⟩ (c_X7_isWithin l a 0 119) (va_cwS 3 hts gX7_checkMonth_X7_isWithin rfl rfl rfl (by decide +kernel) ⟨Nat.le_of_ble_eq_true rfl, Nat.le_of_ble_eq_true rfl⟩) ⟨fun _ _ _ _ q => q, fun U hU hW => ⟨rfl, trivial⟩⟩ rfl rfl hl.1 rfl (lv_room (Nat.le_of_ble_eq_true rfl)) dX7_checkMonth_4 ⟨(Nat.le_of_ble_eq_true rfl), (Nat.le_of_ble_eq_true rfl)⟩)) (fun r_4 hr_4 => ?_)
  refine lv_if_ne (tgt := 20) hx hb dX7_checkMonth_7 (by decide) (fun c_7 => ?_) (fun c_7 => ?_)
  · refine W.widen (k := 1) (n := 6) (Nat.le_of_ble_eq_true rfl) (Nat.le_of_ble_eq_true rfl) ?_
    exact vx_ret (W.vret hx hb hr (fun t ht hW => ⟨⟨ws, rfl, ⟨Decidable.byContradiction fun h => c_7 (by rw [hr_4]; exact wI_eq0.mpr h), rfl⟩, by rw [ht]; exact hP, hD⟩, hS.F ht⟩) hS.2.2 dX7_checkMonth_20)
  · exact pv_thr (text := "no such month") hx hb hl0 0 ⟨rfl, wI_eq0.mp (by rw [← hr_4]; exact c_7)⟩ hts hown (by decide +kernel) (by decide +kernel) (by decide +kernel) (by decide +kernel) (by decide +kernel) thr_b0 (by decide +kernel) hT hP hS (hl.1.trans hml.symm) dX7_checkMonth_10 dX7_checkMonth_13 dX7_checkMonth_14 dX7_checkMonth_16 dX7_checkMonth_19 hno (Nat.le_of_ble_eq_true rfl) (Nat.le_of_ble_eq_true rfl) (Nat.le_of_ble_eq_true rfl) (Nat.le_of_ble_eq_true rfl) hlocks (Nat.le_of_ble_eq_true rfl) (Nat.le_of_ble_eq_true rfl)
