/-! change and gone -/
theorem in_len {a : Int32} {n : Nat} (hn : n < 2 ^ 30) (h : inR a (nI n - 1)) : ∃ i, i < n ∧ a = nI i := by
  by_cases h0 : 1 ≤ n
  · rw [nI_p1 h0] at h
    exact within_nI h0 (by omega) h
  · obtain rfl : n = 0 := by omega
    have h2 : (0 : Int32) ≤ nI 0 - 1 := Int32.le_trans h.1 h.2
    exact absurd h2 (by decide)

set_option maxHeartbeats 4000000 in
set_option maxRecDepth 100000 in
/-- Unit.tell -/
theorem c_X6_tell (l : Launch) (hl0 : l.stackTraces = false) (D : va_G) (y : Nat → ClassId) (b0 : Nat) (Ls : List Nat) (ad : Nat → Nat) (G : Nat → va_E) (u : Nat) (ow fd ld ig : Int32) (told : Nat) (kf df : Nat → Int32) (hU : UnitAt y Ls ad G u ow fd ld ig told kf df) (kd da : Int32) (hlt : told < 9) : Met l yX6_tell wsX6_tell ({ frames := 1, cells := 0, slots := 0, locals := 20 }) (va_Pc [.ref (ad u), .int kd, .int da] (WdM D y b0 (wl Ls ad G))) (va_Qv (fun (v : va_W) => ∃ G2, v = wl Ls ad G2 ∧ UnitAt y Ls ad G2 u ow fd ld ig (told + 1) (upd kf told kd) (upd df told da) ∧ ∀ j, (j < u ∨ u + 2 < j) → G2 j = G j) (WB D b0) (fun q => b0 ≤ q)) 0 0 (fun q => b0 ≤ q) := by
  refine Met.ofW (cc := cX6_tell) (maxL := 3) (ret := none) (by decide) rfl ?_
  intro p e s m args below meth c s₁ B hml hv
  obtain ⟨rfl, ⟨hP, hK, hN⟩, hD, hb0, hT⟩ := hv
  have hx := B.exec
  have hb := B.bytes
  have hr := B.returns
  have hts := atoms_spec (ws := wsX6_tell) B.pre
  have hown : s.vm.findClass RX6 = some m.cls := findClass_of_methodNamed B.named
  have hlocks := B.notSynchronized
  have hS : va_S (fun q => b0 ≤ q) s.heap s.heap [] := va_S.rf
  have hinX6 : ∀ w ∈ wsX60, w ∈ wsX6_tell := by decide +kernel
  obtain ⟨hu, huk, hud, eu, euk, eud, h1, h9⟩ := id hU
  have hl := lv_entry ([.ref (ad u), .int kd, .int da]) (n := 3) (Nat.le_of_ble_eq_true rfl)
  rw [lg_entry_eq]
  generalize (lg_sl ([.ref (ad u), .int kd, .int da]) ++ List.replicate (3 - (lg_sl ([.ref (ad u), .int kd, .int da])).length) Slot.unset).toArray = ls at hl ⊢
  have hl : lv_has ls 3 [(0, .ref (ad u)), (1, .int kd), (2, .int da)] := hl
  refine lv_aload_n hx hb dX6_tell_0 rfl (lv_at hl 0 rfl) ?_
  refine vp_callSi (va_Run.run (va_runV (As := []) (rest := []) ⟨hx, hb, hml, hown, hts⟩ (c_X6_isFull l D y Ls ad G u ow fd ld ig told kf df hU) (cwV 0 hts gX6_tell_X6_isFull rfl rfl rfl (by decide +kernel) ⟨Nat.le_of_ble_eq_true rfl, Nat.le_of_ble_eq_true rfl⟩) ⟨Wd_blind, Wd_recv hK hP (ci := 8) rfl hu eu, Wd_at hP hK hN⟩ rfl rfl hl.1 rfl (lv_room (Nat.le_of_ble_eq_true rfl)) dX6_tell_1 ⟨(Nat.le_of_ble_eq_true rfl), (Nat.le_of_ble_eq_true rfl)⟩)) (fun r_1 hr_1 => ?_)
  refine lv_if_ne (tgt := 37) hx hb dX6_tell_4 (by decide) (fun c_4 => ?_) (fun c_4 => ?_)
  · exact absurd (by rw [hr_1, if_neg (by omega)]) c_4
  · refine lv_aload_n hx hb dX6_tell_7 rfl (lv_at hl 0 rfl) ?_
    refine pv_get (ci := 8) (C := RX6) (T := TX6) (N := 7) hx hb hts hinX6 hown hK hP hu eu rfl 4 (by decide) (hts (.fieldLink RX6 19 "StorageCharge$Unit" "toldKinds" "[I") (by decide +kernel)) (fun _ h9 => h9) rfl dX6_tell_8 ?_
    refine lv_aload_n hx hb dX6_tell_11 rfl (lv_at hl 0 rfl) ?_
    refine pv_get (ci := 8) (C := RX6) (T := TX6) (N := 7) hx hb hts hinX6 hown hK hP hu eu rfl 6 (by decide) (hts (.fieldLink RX6 26 "StorageCharge$Unit" "told" "I") (by decide +kernel)) (fun _ h9 => h9) rfl dX6_tell_12 ?_
    refine lv_iload_n hx hb dX6_tell_15 rfl (lv_at hl 1 rfl) ?_
    refine pv_iast hx hb hK hP hD hS huk 0 euk rfl (k := told) rfl (by omega) (by decide) dX6_tell_16 (fun H locs hP hD hS => ?_)
    obtain ⟨G_16, eG_16⟩ : ∃ gg9 : Nat → va_E, gg9 = va_up G (u + 1) (.inl (y 0, 9, .inl (upd kf told kd))) := ⟨_, rfl⟩
    have hP : va_P D vwCl (wl Ls ad G_16) H := by rw [eG_16]; exact hP
    have hD : va_D (fun q => b0 ≤ q) (wl Ls ad G_16) := by rw [eG_16]; exact hD
    have eu : G_16 u = .inr (8, [.int ow, .int fd, .int ld, .int ig, .ref (ad (u + 1)), .ref (ad (u + 2)), .int (nI told)]) := by rw [eG_16, va_up_ne _ _ (by omega)]; exact eu
    have eud : G_16 (u + 2) = .inl (y 0, 9, .inl df) := by rw [eG_16, va_up_ne _ _ (by omega)]; exact eud
    have euk : G_16 (u + 1) = .inl (y 0, 9, .inl (upd kf told kd)) := by rw [eG_16]; exact va_up_self _ _ _
    refine lv_aload_n hx hb dX6_tell_17 rfl (lv_at hl 0 rfl) ?_
    refine pv_get (ci := 8) (C := RX6) (T := TX6) (N := 7) hx hb hts hinX6 hown hK hP hu eu rfl 5 (by decide) (hts (.fieldLink RX6 23 "StorageCharge$Unit" "toldDays" "[I") (by decide +kernel)) (fun _ h9 => h9) rfl dX6_tell_18 ?_
    refine lv_aload_n hx hb dX6_tell_21 rfl (lv_at hl 0 rfl) ?_
    refine pv_get (ci := 8) (C := RX6) (T := TX6) (N := 7) hx hb hts hinX6 hown hK hP hu eu rfl 6 (by decide) (hts (.fieldLink RX6 26 "StorageCharge$Unit" "told" "I") (by decide +kernel)) (fun _ h9 => h9) rfl dX6_tell_22 ?_
    refine lv_iload_n hx hb dX6_tell_25 rfl (lv_at hl 2 rfl) ?_
    refine pv_iast hx hb hK hP hD hS hud 0 eud rfl (k := told) rfl (by omega) (by decide) dX6_tell_26 (fun H locs hP hD hS => ?_)
    obtain ⟨G_26, eG_26⟩ : ∃ gg9 : Nat → va_E, gg9 = va_up G_16 (u + 2) (.inl (y 0, 9, .inl (upd df told da))) := ⟨_, rfl⟩
    have hP : va_P D vwCl (wl Ls ad G_26) H := by rw [eG_26]; exact hP
    have hD : va_D (fun q => b0 ≤ q) (wl Ls ad G_26) := by rw [eG_26]; exact hD
    have eu : G_26 u = .inr (8, [.int ow, .int fd, .int ld, .int ig, .ref (ad (u + 1)), .ref (ad (u + 2)), .int (nI told)]) := by rw [eG_26, va_up_ne _ _ (by omega)]; exact eu
    have euk : G_26 (u + 1) = .inl (y 0, 9, .inl (upd kf told kd)) := by rw [eG_26, va_up_ne _ _ (by omega)]; exact euk
    have eud : G_26 (u + 2) = .inl (y 0, 9, .inl (upd df told da)) := by rw [eG_26]; exact va_up_self _ _ _
    refine lv_aload_n hx hb dX6_tell_27 rfl (lv_at hl 0 rfl) ?_
    refine lv_dup hx hb dX6_tell_28 rfl ?_
    refine pv_get (ci := 8) (C := RX6) (T := TX6) (N := 7) hx hb hts hinX6 hown hK hP hu eu rfl 6 (by decide) (hts (.fieldLink RX6 26 "StorageCharge$Unit" "told" "I") (by decide +kernel)) (fun _ h9 => h9) rfl dX6_tell_29 ?_
    refine lv_iconst (v := 1) hx hb dX6_tell_32 (by decide) ?_
    refine lv_iadd hx hb dX6_tell_33 ?_
    refine lv_topi (fun z9 ez9 => ?_)
    obtain rfl : z9 = nI (told + 1) := ez9.trans (nI_1 told)
    refine pv_put (ci := 8) (v := .int (nI (told + 1))) (ty := .int) (C := RX6) (T := TX6) (N := 7) hx hb hts hinX6 tyX6 tyX6_ok nmX6 hown hK hP hD hS hu eu rfl 6 (by decide) (hts (.fieldLink RX6 26 "StorageCharge$Unit" "told" "I") (by decide +kernel)) (fun _ h9 => h9) rfl (by decide +kernel) rfl rfl (Nat.le_of_ble_eq_true rfl) dX6_tell_34 (fun H locs hP hD hS => ?_)
    obtain ⟨G_34, eG_34⟩ : ∃ gg9 : Nat → va_E, gg9 = va_up G_26 u (.inr (8, [.int ow, .int fd, .int ld, .int ig, .ref (ad (u + 1)), .ref (ad (u + 2)), .int (nI (told + 1))])) := ⟨_, rfl⟩
    have hP : va_P D vwCl (wl Ls ad G_34) H := by rw [eG_34]; exact hP
    have hD : va_D (fun q => b0 ≤ q) (wl Ls ad G_34) := by rw [eG_34]; exact hD
    have euk : G_34 (u + 1) = .inl (y 0, 9, .inl (upd kf told kd)) := by rw [eG_34, va_up_ne _ _ (by omega)]; exact euk
    have eud : G_34 (u + 2) = .inl (y 0, 9, .inl (upd df told da)) := by rw [eG_34, va_up_ne _ _ (by omega)]; exact eud
    have eu : G_34 u = .inr (8, [.int ow, .int fd, .int ld, .int ig, .ref (ad (u + 1)), .ref (ad (u + 2)), .int (nI (told + 1))]) := by rw [eG_34]; exact va_up_self _ _ _
    refine W.widen (k := 0) (n := 0) (Nat.le_of_ble_eq_true rfl) (Nat.le_of_ble_eq_true rfl) ?_
    exact W.vret hx hb hr (fun t ht hW => ⟨⟨wl Ls ad G_34, rfl, ⟨G_34, rfl, ⟨hu, huk, hud, eu, euk, eud, by omega, by omega⟩, fun j h => by rw [eG_34, va_up_ne _ _ (by omega), eG_26, va_up_ne _ _ (by omega), eG_16, va_up_ne _ _ (by omega)]⟩, by rw [ht]; exact hP, hD⟩, hS.F ht⟩) hS.2.2 dX6_tell_37

set_option maxHeartbeats 4000000 in
set_option maxRecDepth 100000 in
/-- Unit.leave -/
theorem c_X6_leave (l : Launch) (hl0 : l.stackTraces = false) (D : va_G) (y : Nat → ClassId) (b0 : Nat) (Ls : List Nat) (ad : Nat → Nat) (G : Nat → va_E) (u : Nat) (ow fd ld ig : Int32) (told : Nat) (kf df : Nat → Int32) (hU : UnitAt y Ls ad G u ow fd ld ig told kf df) (da : Int32) : Met l yX6_leave wsX6_leave ({ frames := 0, cells := 0, slots := 0, locals := 0 }) (va_Pc [.ref (ad u), .int da] (WdM D y b0 (wl Ls ad G))) (va_Qv (fun (v : va_W) => ∃ G2, v = wl Ls ad G2 ∧ UnitAt y Ls ad G2 u ow fd da 1 told kf df ∧ ∀ j, (j < u ∨ u + 2 < j) → G2 j = G j) (WB D b0) (fun q => b0 ≤ q)) 0 0 (fun q => b0 ≤ q) := by
  refine Met.ofW (cc := cX6_leave) (maxL := 2) (ret := none) (by decide) rfl ?_
  intro p e s m args below meth c s₁ B hml hv
  obtain ⟨rfl, ⟨hP, hK, hN⟩, hD, hb0, hT⟩ := hv
  have hx := B.exec
  have hb := B.bytes
  have hr := B.returns
  have hts := atoms_spec (ws := wsX6_leave) B.pre
  have hown : s.vm.findClass RX6 = some m.cls := findClass_of_methodNamed B.named
  have hlocks := B.notSynchronized
  have hS : va_S (fun q => b0 ≤ q) s.heap s.heap [] := va_S.rf
  have hinX6 : ∀ w ∈ wsX60, w ∈ wsX6_leave := by decide +kernel
  obtain ⟨hu, huk, hud, eu, euk, eud, h1, h9⟩ := id hU
  have hl := lv_entry ([.ref (ad u), .int da]) (n := 2) (Nat.le_of_ble_eq_true rfl)
  rw [lg_entry_eq]
  generalize (lg_sl ([.ref (ad u), .int da]) ++ List.replicate (2 - (lg_sl ([.ref (ad u), .int da])).length) Slot.unset).toArray = ls at hl ⊢
  have hl : lv_has ls 2 [(0, .ref (ad u)), (1, .int da)] := hl
  refine lv_aload_n hx hb dX6_leave_0 rfl (lv_at hl 0 rfl) ?_
  refine lv_iload_n hx hb dX6_leave_1 rfl (lv_at hl 1 rfl) ?_
  refine pv_put (ci := 8) (v := .int da) (ty := .int) (C := RX6) (T := TX6) (N := 7) hx hb hts hinX6 tyX6 tyX6_ok nmX6 hown hK hP hD hS hu eu rfl 2 (by decide) (hts (.fieldLink RX6 9 "StorageCharge$Unit" "lastDay" "I") (by decide +kernel)) (fun _ h9 => h9) rfl (by decide +kernel) rfl rfl (Nat.le_of_ble_eq_true rfl) dX6_leave_2 (fun H locs hP hD hS => ?_)
  obtain ⟨G_2, eG_2⟩ : ∃ gg9 : Nat → va_E, gg9 = va_up G u (.inr (8, [.int ow, .int fd, .int da, .int ig, .ref (ad (u + 1)), .ref (ad (u + 2)), .int (nI told)])) := ⟨_, rfl⟩
  have hP : va_P D vwCl (wl Ls ad G_2) H := by rw [eG_2]; exact hP
  have hD : va_D (fun q => b0 ≤ q) (wl Ls ad G_2) := by rw [eG_2]; exact hD
  have euk : G_2 (u + 1) = .inl (y 0, 9, .inl kf) := by rw [eG_2, va_up_ne _ _ (by omega)]; exact euk
  have eud : G_2 (u + 2) = .inl (y 0, 9, .inl df) := by rw [eG_2, va_up_ne _ _ (by omega)]; exact eud
  have eu : G_2 u = .inr (8, [.int ow, .int fd, .int da, .int ig, .ref (ad (u + 1)), .ref (ad (u + 2)), .int (nI told)]) := by rw [eG_2]; exact va_up_self _ _ _
  refine lv_aload_n hx hb dX6_leave_5 rfl (lv_at hl 0 rfl) ?_
  refine lv_iconst (v := 1) hx hb dX6_leave_6 (by decide) ?_
  refine pv_put (ci := 8) (v := .int 1) (ty := .boolean) (C := RX6) (T := TX6) (N := 7) hx hb hts hinX6 tyX6 tyX6_ok nmX6 hown hK hP hD hS hu eu rfl 3 (by decide) (hts (.fieldLink RX6 15 "StorageCharge$Unit" "isGone" "Z") (by decide +kernel)) (fun _ h9 => h9) rfl (by decide +kernel) rfl rfl (Nat.le_of_ble_eq_true rfl) dX6_leave_7 (fun H locs hP hD hS => ?_)
  obtain ⟨G_7, eG_7⟩ : ∃ gg9 : Nat → va_E, gg9 = va_up G_2 u (.inr (8, [.int ow, .int fd, .int da, .int 1, .ref (ad (u + 1)), .ref (ad (u + 2)), .int (nI told)])) := ⟨_, rfl⟩
  have hP : va_P D vwCl (wl Ls ad G_7) H := by rw [eG_7]; exact hP
  have hD : va_D (fun q => b0 ≤ q) (wl Ls ad G_7) := by rw [eG_7]; exact hD
  have euk : G_7 (u + 1) = .inl (y 0, 9, .inl kf) := by rw [eG_7, va_up_ne _ _ (by omega)]; exact euk
  have eud : G_7 (u + 2) = .inl (y 0, 9, .inl df) := by rw [eG_7, va_up_ne _ _ (by omega)]; exact eud
  have eu : G_7 u = .inr (8, [.int ow, .int fd, .int da, .int 1, .ref (ad (u + 1)), .ref (ad (u + 2)), .int (nI told)]) := by rw [eG_7]; exact va_up_self _ _ _
  refine W.widen (k := 0) (n := 0) (Nat.le_of_ble_eq_true rfl) (Nat.le_of_ble_eq_true rfl) ?_
  exact W.vret hx hb hr (fun t ht hW => ⟨⟨wl Ls ad G_7, rfl, ⟨G_7, rfl, ⟨hu, huk, hud, eu, euk, eud, h1, h9⟩, fun j h => by rw [eG_7, va_up_ne _ _ (by omega), eG_2, va_up_ne _ _ (by omega)]⟩, by rw [ht]; exact hP, hD⟩, hS.F ht⟩) hS.2.2 dX6_leave_10

set_option maxHeartbeats 4000000 in
set_option maxRecDepth 100000 in
/-- change -/
theorem c_X7_change (l : Launch) (hl0 : l.stackTraces = false) (D : va_G) (y : Nat → ClassId) (b0 : Nat) (Ls : List Nat) (ad : Nat → Nat) (G : Nat → va_E) (ch dr : Nat) (hX : XAt Ls ad G ch dr) (nu : Nat) (uo : Nat → Int32) (uf ul : Nat → Nat) (ug : Nat → Int32) (ut : Nat → Nat) (uk ud : Nat → Nat → Int32) (hUs : UnitsAt y Ls ad G nu uo uf ul ug ut uk ud) (a kd da : Int32) : vx_Met l yX7_change wsX7_change ({ frames := 7, cells := 5, slots := 30, locals := 103 }) (va_Pc [.ref (ad 0), .int a, .int kd, .int da] (WdM D y b0 (wl Ls ad G))) (va_Qi (fun (r : Int32) (u : va_W) => ∃ i, i < nu ∧ a = nI i ∧ (inR kd 4 ∧ inR da 3599) ∧ (ug i = 0 ∧ ud i (ut i - 1) ≤ da) ∧ ut i < 9 ∧ ((r = 0 ∧ uk i (ut i - 1) = kd) ∨ (r = 1 ∧ ¬ uk i (ut i - 1) = kd)) ∧ ∃ G2, u = wl Ls ad G2 ∧ UnitAt y Ls ad G2 (1000 + 3 * i) (uo i) (nI (uf i)) (nI (ul i)) (ug i) (ut i + 1) (upd (uk i) (ut i) kd) (upd (ud i) (ut i) da) ∧ ∀ j, (j < 1000 + 3 * i ∨ 1000 + 3 * i + 2 < j) → G2 j = G j) (WB D b0) (fun q => b0 ≤ q)) (XX D b0 (wl Ls ad G) (fun k => (k = 2 ∧ ¬ inR a (nI nu - 1)) ∨ (k = 0 ∧ inR a (nI nu - 1) ∧ ¬ (inR kd 4 ∧ inR da 3599)) ∨ (k = 3 ∧ ∃ i, i < nu ∧ a = nI i ∧ (inR kd 4 ∧ inR da 3599) ∧ (¬ ug i = 0 ∨ da < ud i (ut i - 1))) ∨ (k = 1 ∧ ∃ i, i < nu ∧ a = nI i ∧ (inR kd 4 ∧ inR da 3599) ∧ (ug i = 0 ∧ ud i (ut i - 1) ≤ da) ∧ ut i = 9))) 5 30 (fun q => b0 ≤ q) := by
  refine vx_ofW (cc := cX7_change) (maxL := 6) (ret := (some .boolean)) (by decide) rfl ?_
  intro p e s m args below meth c s₁ B hml hno hv
  obtain ⟨rfl, ⟨hP, hK, hN⟩, hD, hb0, hT⟩ := hv
  have hx := B.exec
  have hb := B.bytes
  have hr := B.returns
  have hts := atoms_spec (ws := wsX7_change) B.pre
  have hown : s.vm.findClass RX7 = some m.cls := findClass_of_methodNamed B.named
  have hlocks := B.notSynchronized
  have hS : va_S (fun q => b0 ≤ q) s.heap s.heap [] := va_S.rf
  have hinX7 : ∀ w ∈ wsX70, w ∈ wsX7_change := by decide +kernel
  obtain ⟨hX0, eX0⟩ := id hX
  obtain ⟨mc3, ea3, hj3, ej3, hn3, -⟩ := id hUs.1
  have hl := lv_entry ([.ref (ad 0), .int a, .int kd, .int da]) (n := 6) (Nat.le_of_ble_eq_true rfl)
  rw [lg_entry_eq]
  generalize (lg_sl ([.ref (ad 0), .int a, .int kd, .int da]) ++ List.replicate (6 - (lg_sl ([.ref (ad 0), .int a, .int kd, .int da])).length) Slot.unset).toArray = ls at hl ⊢
  have hl : lv_has ls 6 [(0, .ref (ad 0)), (1, .int a), (2, .int kd), (3, .int da)] := hl
  refine lv_aload_n hx hb dX7_change_0 rfl (lv_at hl 0 rfl) ?_
  refine lv_iload_n hx hb dX7_change_1 rfl (lv_at hl 1 rfl) ?_
  refine vx_callv (vx_runV (As := [.int a]) (rest := []) ⟨hx, hb, hml, hown, hts⟩ (c_X7_checkUnit l hl0 D y b0 Ls ad G ch dr hX nu uo uf ul ug ut uk ud hUs a) (cwV 1 hts gX7_change_X7_checkUnit rfl rfl rfl (by decide +kernel) ⟨(Nat.le_of_ble_eq_true rfl), (Nat.le_of_ble_eq_true rfl)⟩) ⟨WdM_blind, Wd_recv hK hP (ci := 9) rfl hX0 eX0, WdM_at hP hK hN hD hS hb0 hT⟩ rfl rfl hl.1 rfl (lv_room (Nat.le_of_ble_eq_true rfl)) dX7_change_2 ⟨(Nat.le_of_ble_eq_true rfl), (Nat.le_of_ble_eq_true rfl)⟩) hS (fun _ _ h => h) (fun _ h => h) (fun _ _ h => h) (fun E9 ce9 q9 k9 t9 H9 locs9 ht9 hvm9 hp9 hB9 hz9 hk9 hS9 hce9 hcv9 hcl9 => pv_out (Or.inl ⟨hp9.1, hp9.2⟩) hB9 ht9 hS9 hno hlocks hce9 hcv9 hcl9 (Nat.le_of_ble_eq_true rfl) (Nat.le_of_ble_eq_true rfl)) (fun u2 t H locs ht hvm hw2 hB hz1 hk1 hS => ?_)
  obtain ⟨hP, hD⟩ := hB
  rw [ht] at hP
  obtain ⟨hw2, rfl⟩ := hw2
  obtain ⟨i, hi, rfl⟩ := in_len (by omega) hw2
  obtain ⟨hu, huk, hud, eu, euk, eud, h1, h9⟩ := (hUs.2 i hi).1
  refine lv_iload_n hx hb dX7_change_5 rfl (lv_at hl 2 rfl) ?_
  refine vx_callv (vx_runS (As := [.int kd]) (rest := []) ⟨hx, hb, hml, hown, hts⟩ (c_X7_checkKind l hl0 D y b0 (wl Ls ad G) kd) (va_cwS 1 hts gX7_change_X7_checkKind rfl rfl rfl (by decide +kernel) ⟨(Nat.le_of_ble_eq_true rfl), (Nat.le_of_ble_eq_true rfl)⟩) ⟨WdM_blind, WdM_at hP hK hN hD hS hb0 hT⟩ rfl rfl hl.1 rfl (lv_room (Nat.le_of_ble_eq_true rfl)) dX7_change_6 ⟨(Nat.le_of_ble_eq_true rfl), (Nat.le_of_ble_eq_true rfl)⟩) hS (fun _ _ h => h) (fun _ h => h) (fun _ _ h => h) (fun E9 ce9 q9 k9 t9 H9 locs9 ht9 hvm9 hp9 hB9 hz9 hk9 hS9 hce9 hcv9 hcl9 => pv_out (Or.inr (Or.inl ⟨hp9.1, hw2, fun h => hp9.2 h.1⟩)) hB9 ht9 hS9 hno hlocks hce9 hcv9 hcl9 (Nat.le_of_ble_eq_true rfl) (Nat.le_of_ble_eq_true rfl)) (fun u6 t H locs ht hvm hw6 hB hz1 hk1 hS => ?_)
  obtain ⟨hP, hD⟩ := hB
  rw [ht] at hP
  obtain ⟨hw6, rfl⟩ := hw6
  refine lv_iload_n hx hb dX7_change_9 rfl (lv_at hl 3 rfl) ?_
  refine vx_callv (vx_runS (As := [.int da]) (rest := []) ⟨hx, hb, hml, hown, hts⟩ (c_X7_checkDay l hl0 D y b0 (wl Ls ad G) da) (va_cwS 1 hts gX7_change_X7_checkDay rfl rfl rfl (by decide +kernel) ⟨(Nat.le_of_ble_eq_true rfl), (Nat.le_of_ble_eq_true rfl)⟩) ⟨WdM_blind, WdM_at hP hK hN hD hS hb0 hT⟩ rfl rfl hl.1 rfl (lv_room (Nat.le_of_ble_eq_true rfl)) dX7_change_10 ⟨(Nat.le_of_ble_eq_true rfl), (Nat.le_of_ble_eq_true rfl)⟩) hS (fun _ _ h => h) (fun _ h => h) (fun _ _ h => h) (fun E9 ce9 q9 k9 t9 H9 locs9 ht9 hvm9 hp9 hB9 hz9 hk9 hS9 hce9 hcv9 hcl9 => pv_out (Or.inr (Or.inl ⟨hp9.1, hw2, fun h => hp9.2 h.2⟩)) hB9 ht9 hS9 hno hlocks hce9 hcv9 hcl9 (Nat.le_of_ble_eq_true rfl) (Nat.le_of_ble_eq_true rfl)) (fun u10 t H locs ht hvm hw10 hB hz1 hk1 hS => ?_)
  obtain ⟨hP, hD⟩ := hB
  rw [ht] at hP
  obtain ⟨hw10, rfl⟩ := hw10
  refine lv_aload_n hx hb dX7_change_13 rfl (lv_at hl 0 rfl) ?_
  refine pv_get (ci := 9) (C := RX7) (T := TX7) (N := 7) hx hb hts hinX7 hown hK hP hX0 eX0 rfl 3 (by decide) (hts (.fieldLink RX7 29 "StorageCharge" "units" "Ljava/util/ArrayList;") (by decide +kernel)) (fun _ h9 => h9) rfl dX7_change_14 ?_
  refine lv_iload_n hx hb dX7_change_17 rfl (lv_at hl 1 rfl) ?_
  refine va_csr (va_Run.run (va_runV (As := [.int (nI i)]) (rest := []) ⟨hx, hb, hml, hown, hts⟩ (c_Jx4a65c_get_915e3 l D y Ls ad G 3 nu (fun i => ad (1000 + 3 * i)) hUs.1 i hi) (cwV 1 hts gX7_change_Jx4a65c_get_915e3 rfl rfl rfl (by decide +kernel) ⟨Nat.le_of_ble_eq_true rfl, Nat.le_of_ble_eq_true rfl⟩) ⟨Wd_blind, Wd_recv hK hP (ci := 1) rfl hj3 ej3, Wd_at hP hK hN⟩ rfl rfl hl.1 rfl (lv_room (Nat.le_of_ble_eq_true rfl)) dX7_change_18 ⟨(Nat.le_of_ble_eq_true rfl), (Nat.le_of_ble_eq_true rfl)⟩)) (fun r_18 hr_18 => ?_)
  subst hr_18
  refine va_castS hx hb hown (hts (.classLink RX7 100 "StorageCharge$Unit") (by decide +kernel)) (hK.1 8 _ rfl).2 (Wd_recv hK hP (ci := 8) rfl hu eu) dX7_change_21 ?_
  refine lv_astore (lv' := [(4, .ref (ad (1000 + 3 * i))), (0, .ref (ad 0)), (1, .int (nI i)), (2, .int kd), (3, .int da)]) hx hb dX7_change_24 hl (by decide) rfl (fun ls hl => ?_)
  refine lv_aload hx hb dX7_change_26 (lv_at hl 0 rfl) ?_
  refine lv_iload_n hx hb dX7_change_28 rfl (lv_at hl 4 rfl) ?_
  refine vx_callv (vx_runS (As := [.ref (ad (1000 + 3 * i)), .int da]) (rest := []) ⟨hx, hb, hml, hown, hts⟩ (c_X7_checkGoesOn l hl0 D y b0 Ls ad G (1000 + 3 * i) (uo i) (nI (uf i)) (nI (ul i)) (ug i) (ut i) (uk i) (ud i) (hUs.2 i hi).1 da) (va_cwS 2 hts gX7_change_X7_checkGoesOn rfl rfl rfl (by decide +kernel) ⟨(Nat.le_of_ble_eq_true rfl), (Nat.le_of_ble_eq_true rfl)⟩) ⟨WdM_blind, WdM_at hP hK hN hD hS hb0 hT⟩ rfl rfl hl.1 rfl (lv_room (Nat.le_of_ble_eq_true rfl)) dX7_change_29 ⟨(Nat.le_of_ble_eq_true rfl), (Nat.le_of_ble_eq_true rfl)⟩) hS (fun _ _ h => h) (fun _ h => h) (fun _ _ h => h) (fun E9 ce9 q9 k9 t9 H9 locs9 ht9 hvm9 hp9 hB9 hz9 hk9 hS9 hce9 hcv9 hcl9 => pv_out (Or.inr (Or.inr (Or.inl ⟨hp9.1, i, hi, rfl, ⟨hw6, hw10⟩, hp9.2⟩))) hB9 ht9 hS9 hno hlocks hce9 hcv9 hcl9 (Nat.le_of_ble_eq_true rfl) (Nat.le_of_ble_eq_true rfl)) (fun u29 t H locs ht hvm hw29 hB hz1 hk1 hS => ?_)
  obtain ⟨hP, hD⟩ := hB
  rw [ht] at hP
  obtain ⟨hw29, rfl⟩ := hw29
  refine lv_aload hx hb dX7_change_32 (lv_at hl 0 rfl) ?_
  refine vp_callSi (va_Run.run (va_runV (As := []) (rest := []) ⟨hx, hb, hml, hown, hts⟩ (c_X6_isFull l D y Ls ad G (1000 + 3 * i) (uo i) (nI (uf i)) (nI (ul i)) (ug i) (ut i) (uk i) (ud i) (hUs.2 i hi).1) (cwV 0 hts gX7_change_X6_isFull rfl rfl rfl (by decide +kernel) ⟨Nat.le_of_ble_eq_true rfl, Nat.le_of_ble_eq_true rfl⟩) ⟨Wd_blind, Wd_recv hK hP (ci := 8) rfl hu eu, Wd_at hP hK hN⟩ rfl rfl hl.1 rfl (lv_room (Nat.le_of_ble_eq_true rfl)) dX7_change_34 ⟨(Nat.le_of_ble_eq_true rfl), (Nat.le_of_ble_eq_true rfl)⟩)) (fun r_34 hr_34 => ?_)
  refine lv_if_eq (tgt := 50) hx hb dX7_change_37 (by decide) (fun c_37 => ?_) (fun c_37 => ?_)
  · have hlt9 : ut i < 9 := Nat.lt_of_not_le fun h => by
      rw [hr_34, if_pos h] at c_37
      exact absurd c_37 (by decide)
    refine lv_aload hx hb dX7_change_50 (lv_at hl 0 rfl) ?_
    refine vp_callSi (va_Run.run (va_runV (As := []) (rest := []) ⟨hx, hb, hml, hown, hts⟩ (c_X6_kindToldLast l D y Ls ad G (1000 + 3 * i) (uo i) (nI (uf i)) (nI (ul i)) (ug i) (ut i) (uk i) (ud i) (hUs.2 i hi).1) (cwV 0 hts gX7_change_X6_kindToldLast rfl rfl rfl (by decide +kernel) ⟨Nat.le_of_ble_eq_true rfl, Nat.le_of_ble_eq_true rfl⟩) ⟨Wd_blind, Wd_recv hK hP (ci := 8) rfl hu eu, Wd_at hP hK hN⟩ rfl rfl hl.1 rfl (lv_room (Nat.le_of_ble_eq_true rfl)) dX7_change_52 ⟨(Nat.le_of_ble_eq_true rfl), (Nat.le_of_ble_eq_true rfl)⟩)) (fun r_52 hr_52 => ?_)
    refine lv_iload_n hx hb dX7_change_55 rfl (lv_at hl 3 rfl) ?_
    refine lv_icmp_eq (tgt := 63) hx hb dX7_change_56 (by decide) (fun c_56 => ?_) (fun c_56 => ?_)
    · refine lv_iconst (v := 0) hx hb dX7_change_63 (by decide) ?_
      refine lv_istore (lv' := [(5, .int 0), (4, .ref (ad (1000 + 3 * i))), (0, .ref (ad 0)), (1, .int (nI i)), (2, .int kd), (3, .int da)]) hx hb dX7_change_64 hl (by decide) rfl (fun ls hl => ?_)
      refine lv_aload hx hb dX7_change_66 (lv_at hl 1 rfl) ?_
      refine lv_iload_n hx hb dX7_change_68 rfl (lv_at hl 4 rfl) ?_
      refine lv_iload_n hx hb dX7_change_69 rfl (lv_at hl 5 rfl) ?_
      refine va_callv (va_runV (As := [.int kd, .int da]) (rest := []) ⟨hx, hb, hml, hown, hts⟩ (c_X6_tell l hl0 D y b0 Ls ad G (1000 + 3 * i) (uo i) (nI (uf i)) (nI (ul i)) (ug i) (ut i) (uk i) (ud i) (hUs.2 i hi).1 kd da hlt9) (cwV 2 hts gX7_change_X6_tell rfl rfl rfl (by decide +kernel) ⟨(Nat.le_of_ble_eq_true rfl), (Nat.le_of_ble_eq_true rfl)⟩) ⟨WdM_blind, Wd_recv hK hP (ci := 8) rfl hu eu, WdM_at hP hK hN hD hS hb0 hT⟩ rfl rfl hl.1 rfl (lv_room (Nat.le_of_ble_eq_true rfl)) dX7_change_70 ⟨(Nat.le_of_ble_eq_true rfl), (Nat.le_of_ble_eq_true rfl)⟩) hS (fun _ _ h => h) (fun _ h => h) (fun u70 t H locs ht hvm hw70 hB hz1 hk1 hS => ?_)
      obtain ⟨hP, hD⟩ := hB
      rw [ht] at hP
      obtain ⟨g70, rfl, hU2, hfr2⟩ := hw70
      refine lv_iload hx hb dX7_change_73 (lv_at hl 0 rfl) ?_
      refine W.widen (k := 5) (n := 30) (Nat.le_of_ble_eq_true rfl) (Nat.le_of_ble_eq_true rfl) ?_
      exact vx_ret (W.zret (v := 0) hx hb hr (by first | rfl | decide | (simp [narrow]; done) | assumption) (fun t ht hW => ⟨⟨0, wl Ls ad g70, rfl, ⟨i, hi, rfl, ⟨hw6, hw10⟩, hw29, hlt9, Or.inl ⟨rfl, by rw [← hr_52]; exact c_56⟩, g70, rfl, hU2, hfr2⟩, by rw [ht]; exact hP, hD⟩, hS.F ht⟩) hS.2.2 dX7_change_75)
    · refine lv_iconst (v := 1) hx hb dX7_change_59 (by decide) ?_
      refine lv_goto (tgt := 64) hx hb dX7_change_60 (by decide) ?_
      refine lv_istore (lv' := [(5, .int 1), (4, .ref (ad (1000 + 3 * i))), (0, .ref (ad 0)), (1, .int (nI i)), (2, .int kd), (3, .int da)]) hx hb dX7_change_64 hl (by decide) rfl (fun ls hl => ?_)
      refine lv_aload hx hb dX7_change_66 (lv_at hl 1 rfl) ?_
      refine lv_iload_n hx hb dX7_change_68 rfl (lv_at hl 4 rfl) ?_
      refine lv_iload_n hx hb dX7_change_69 rfl (lv_at hl 5 rfl) ?_
      refine va_callv (va_runV (As := [.int kd, .int da]) (rest := []) ⟨hx, hb, hml, hown, hts⟩ (c_X6_tell l hl0 D y b0 Ls ad G (1000 + 3 * i) (uo i) (nI (uf i)) (nI (ul i)) (ug i) (ut i) (uk i) (ud i) (hUs.2 i hi).1 kd da hlt9) (cwV 2 hts gX7_change_X6_tell rfl rfl rfl (by decide +kernel) ⟨(Nat.le_of_ble_eq_true rfl), (Nat.le_of_ble_eq_true rfl)⟩) ⟨WdM_blind, Wd_recv hK hP (ci := 8) rfl hu eu, WdM_at hP hK hN hD hS hb0 hT⟩ rfl rfl hl.1 rfl (lv_room (Nat.le_of_ble_eq_true rfl)) dX7_change_70 ⟨(Nat.le_of_ble_eq_true rfl), (Nat.le_of_ble_eq_true rfl)⟩) hS (fun _ _ h => h) (fun _ h => h) (fun u70 t H locs ht hvm hw70 hB hz1 hk1 hS => ?_)
      obtain ⟨hP, hD⟩ := hB
      rw [ht] at hP
      obtain ⟨g70, rfl, hU2, hfr2⟩ := hw70
      refine lv_iload hx hb dX7_change_73 (lv_at hl 0 rfl) ?_
      refine W.widen (k := 5) (n := 30) (Nat.le_of_ble_eq_true rfl) (Nat.le_of_ble_eq_true rfl) ?_
      exact vx_ret (W.zret (v := 1) hx hb hr (by first | rfl | decide | (simp [narrow]; done) | assumption) (fun t ht hW => ⟨⟨1, wl Ls ad g70, rfl, ⟨i, hi, rfl, ⟨hw6, hw10⟩, hw29, hlt9, Or.inr ⟨rfl, by rw [← hr_52]; exact c_56⟩, g70, rfl, hU2, hfr2⟩, by rw [ht]; exact hP, hD⟩, hS.F ht⟩) hS.2.2 dX7_change_75)
  · have hf9 : ut i = 9 := by
      have h8 : 9 ≤ ut i := Decidable.byContradiction fun h => c_37 (by rw [hr_34, if_neg h])
      omega
    exact pv_thr (text := "no room for a change") hx hb hl0 1 (Or.inr (Or.inr (Or.inr ⟨rfl, i, hi, rfl, ⟨hw6, hw10⟩, hw29, hf9⟩))) hts hown (by decide +kernel) (by decide +kernel) (by decide +kernel) (by decide +kernel) (by decide +kernel) thr_b1 (by decide +kernel) hT hP hS (hl.1.trans hml.symm) dX7_change_40 dX7_change_43 dX7_change_44 dX7_change_46 dX7_change_49 hno (Nat.le_of_ble_eq_true rfl) (Nat.le_of_ble_eq_true rfl) (Nat.le_of_ble_eq_true rfl) (Nat.le_of_ble_eq_true rfl) hlocks (Nat.le_of_ble_eq_true rfl) (Nat.le_of_ble_eq_true rfl)

set_option maxHeartbeats 4000000 in
set_option maxRecDepth 100000 in
/-- gone -/
theorem c_X7_gone (l : Launch) (hl0 : l.stackTraces = false) (D : va_G) (y : Nat → ClassId) (b0 : Nat) (Ls : List Nat) (ad : Nat → Nat) (G : Nat → va_E) (ch dr : Nat) (hX : XAt Ls ad G ch dr) (nu : Nat) (uo : Nat → Int32) (uf ul : Nat → Nat) (ug : Nat → Int32) (ut : Nat → Nat) (uk ud : Nat → Nat → Int32) (hUs : UnitsAt y Ls ad G nu uo uf ul ug ut uk ud) (a da : Int32) : vx_Met l yX7_gone wsX7_gone ({ frames := 7, cells := 3, slots := 18, locals := 103 }) (va_Pc [.ref (ad 0), .int a, .int da] (WdM D y b0 (wl Ls ad G))) (va_Qi (fun (r : Int32) (u : va_W) => ∃ i, i < nu ∧ a = nI i ∧ inR da 3599 ∧ (ug i = 0 ∧ ud i (ut i - 1) ≤ da) ∧ r = mxI 0 (mnI 3599 da - mxI 0 (nI (uf i)) + 1) ∧ ∃ G2, u = wl Ls ad G2 ∧ UnitAt y Ls ad G2 (1000 + 3 * i) (uo i) (nI (uf i)) da 1 (ut i) (uk i) (ud i) ∧ ∀ j, (j < 1000 + 3 * i ∨ 1000 + 3 * i + 2 < j) → G2 j = G j) (WB D b0) (fun q => b0 ≤ q)) (XX D b0 (wl Ls ad G) (fun k => (k = 2 ∧ ¬ inR a (nI nu - 1)) ∨ (k = 0 ∧ inR a (nI nu - 1) ∧ ¬ inR da 3599) ∨ (k = 3 ∧ ∃ i, i < nu ∧ a = nI i ∧ inR da 3599 ∧ (¬ ug i = 0 ∨ da < ud i (ut i - 1))))) 3 18 (fun q => b0 ≤ q) := by
  refine vx_ofW (cc := cX7_gone) (maxL := 4) (ret := (some .int)) (by decide) rfl ?_
  intro p e s m args below meth c s₁ B hml hno hv
  obtain ⟨rfl, ⟨hP, hK, hN⟩, hD, hb0, hT⟩ := hv
  have hx := B.exec
  have hb := B.bytes
  have hr := B.returns
  have hts := atoms_spec (ws := wsX7_gone) B.pre
  have hown : s.vm.findClass RX7 = some m.cls := findClass_of_methodNamed B.named
  have hlocks := B.notSynchronized
  have hS : va_S (fun q => b0 ≤ q) s.heap s.heap [] := va_S.rf
  have hinX7 : ∀ w ∈ wsX70, w ∈ wsX7_gone := by decide +kernel
  obtain ⟨hX0, eX0⟩ := id hX
  obtain ⟨mc3, ea3, hj3, ej3, hn3, -⟩ := id hUs.1
  have hl := lv_entry ([.ref (ad 0), .int a, .int da]) (n := 4) (Nat.le_of_ble_eq_true rfl)
  rw [lg_entry_eq]
  generalize (lg_sl ([.ref (ad 0), .int a, .int da]) ++ List.replicate (4 - (lg_sl ([.ref (ad 0), .int a, .int da])).length) Slot.unset).toArray = ls at hl ⊢
  have hl : lv_has ls 4 [(0, .ref (ad 0)), (1, .int a), (2, .int da)] := hl
  refine lv_aload_n hx hb dX7_gone_0 rfl (lv_at hl 0 rfl) ?_
  refine lv_iload_n hx hb dX7_gone_1 rfl (lv_at hl 1 rfl) ?_
  refine vx_callv (vx_runV (As := [.int a]) (rest := []) ⟨hx, hb, hml, hown, hts⟩ (c_X7_checkUnit l hl0 D y b0 Ls ad G ch dr hX nu uo uf ul ug ut uk ud hUs a) (cwV 1 hts gX7_gone_X7_checkUnit rfl rfl rfl (by decide +kernel) ⟨(Nat.le_of_ble_eq_true rfl), (Nat.le_of_ble_eq_true rfl)⟩) ⟨WdM_blind, Wd_recv hK hP (ci := 9) rfl hX0 eX0, WdM_at hP hK hN hD hS hb0 hT⟩ rfl rfl hl.1 rfl (lv_room (Nat.le_of_ble_eq_true rfl)) dX7_gone_2 ⟨(Nat.le_of_ble_eq_true rfl), (Nat.le_of_ble_eq_true rfl)⟩) hS (fun _ _ h => h) (fun _ h => h) (fun _ _ h => h) (fun E9 ce9 q9 k9 t9 H9 locs9 ht9 hvm9 hp9 hB9 hz9 hk9 hS9 hce9 hcv9 hcl9 => pv_out (Or.inl ⟨hp9.1, hp9.2⟩) hB9 ht9 hS9 hno hlocks hce9 hcv9 hcl9 (Nat.le_of_ble_eq_true rfl) (Nat.le_of_ble_eq_true rfl)) (fun u2 t H locs ht hvm hw2 hB hz1 hk1 hS => ?_)
  obtain ⟨hP, hD⟩ := hB
  rw [ht] at hP
  obtain ⟨hw2, rfl⟩ := hw2
  obtain ⟨i, hi, rfl⟩ := in_len (by omega) hw2
  obtain ⟨hu, huk, hud, eu, euk, eud, h1, h9⟩ := (hUs.2 i hi).1
  refine lv_iload_n hx hb dX7_gone_5 rfl (lv_at hl 2 rfl) ?_
  refine vx_callv (vx_runS (As := [.int da]) (rest := []) ⟨hx, hb, hml, hown, hts⟩ (c_X7_checkDay l hl0 D y b0 (wl Ls ad G) da) (va_cwS 1 hts gX7_gone_X7_checkDay rfl rfl rfl (by decide +kernel) ⟨(Nat.le_of_ble_eq_true rfl), (Nat.le_of_ble_eq_true rfl)⟩) ⟨WdM_blind, WdM_at hP hK hN hD hS hb0 hT⟩ rfl rfl hl.1 rfl (lv_room (Nat.le_of_ble_eq_true rfl)) dX7_gone_6 ⟨(Nat.le_of_ble_eq_true rfl), (Nat.le_of_ble_eq_true rfl)⟩) hS (fun _ _ h => h) (fun _ h => h) (fun _ _ h => h) (fun E9 ce9 q9 k9 t9 H9 locs9 ht9 hvm9 hp9 hB9 hz9 hk9 hS9 hce9 hcv9 hcl9 => pv_out (Or.inr (Or.inl ⟨hp9.1, hw2, hp9.2⟩)) hB9 ht9 hS9 hno hlocks hce9 hcv9 hcl9 (Nat.le_of_ble_eq_true rfl) (Nat.le_of_ble_eq_true rfl)) (fun u6 t H locs ht hvm hw6 hB hz1 hk1 hS => ?_)
  obtain ⟨hP, hD⟩ := hB
  rw [ht] at hP
  obtain ⟨hw6, rfl⟩ := hw6
  refine lv_aload_n hx hb dX7_gone_9 rfl (lv_at hl 0 rfl) ?_
  refine pv_get (ci := 9) (C := RX7) (T := TX7) (N := 7) hx hb hts hinX7 hown hK hP hX0 eX0 rfl 3 (by decide) (hts (.fieldLink RX7 29 "StorageCharge" "units" "Ljava/util/ArrayList;") (by decide +kernel)) (fun _ h9 => h9) rfl dX7_gone_10 ?_
  refine lv_iload_n hx hb dX7_gone_13 rfl (lv_at hl 1 rfl) ?_
  refine va_csr (va_Run.run (va_runV (As := [.int (nI i)]) (rest := []) ⟨hx, hb, hml, hown, hts⟩ (c_Jx4a65c_get_915e3 l D y Ls ad G 3 nu (fun i => ad (1000 + 3 * i)) hUs.1 i hi) (cwV 1 hts gX7_gone_Jx4a65c_get_915e3 rfl rfl rfl (by decide +kernel) ⟨Nat.le_of_ble_eq_true rfl, Nat.le_of_ble_eq_true rfl⟩) ⟨Wd_blind, Wd_recv hK hP (ci := 1) rfl hj3 ej3, Wd_at hP hK hN⟩ rfl rfl hl.1 rfl (lv_room (Nat.le_of_ble_eq_true rfl)) dX7_gone_14 ⟨(Nat.le_of_ble_eq_true rfl), (Nat.le_of_ble_eq_true rfl)⟩)) (fun r_14 hr_14 => ?_)
  subst hr_14
  refine va_castS hx hb hown (hts (.classLink RX7 100 "StorageCharge$Unit") (by decide +kernel)) (hK.1 8 _ rfl).2 (Wd_recv hK hP (ci := 8) rfl hu eu) dX7_gone_17 ?_
  refine lv_astore_n (lv' := [(3, .ref (ad (1000 + 3 * i))), (0, .ref (ad 0)), (1, .int (nI i)), (2, .int da)]) hx hb dX7_gone_20 rfl hl (by decide) rfl (fun ls hl => ?_)
  refine lv_aload_n hx hb dX7_gone_21 rfl (lv_at hl 0 rfl) ?_
  refine lv_iload_n hx hb dX7_gone_22 rfl (lv_at hl 3 rfl) ?_
  refine vx_callv (vx_runS (As := [.ref (ad (1000 + 3 * i)), .int da]) (rest := []) ⟨hx, hb, hml, hown, hts⟩ (c_X7_checkGoesOn l hl0 D y b0 Ls ad G (1000 + 3 * i) (uo i) (nI (uf i)) (nI (ul i)) (ug i) (ut i) (uk i) (ud i) (hUs.2 i hi).1 da) (va_cwS 2 hts gX7_gone_X7_checkGoesOn rfl rfl rfl (by decide +kernel) ⟨(Nat.le_of_ble_eq_true rfl), (Nat.le_of_ble_eq_true rfl)⟩) ⟨WdM_blind, WdM_at hP hK hN hD hS hb0 hT⟩ rfl rfl hl.1 rfl (lv_room (Nat.le_of_ble_eq_true rfl)) dX7_gone_23 ⟨(Nat.le_of_ble_eq_true rfl), (Nat.le_of_ble_eq_true rfl)⟩) hS (fun _ _ h => h) (fun _ h => h) (fun _ _ h => h) (fun E9 ce9 q9 k9 t9 H9 locs9 ht9 hvm9 hp9 hB9 hz9 hk9 hS9 hce9 hcv9 hcl9 => pv_out (Or.inr (Or.inr ⟨hp9.1, i, hi, rfl, hw6, hp9.2⟩)) hB9 ht9 hS9 hno hlocks hce9 hcv9 hcl9 (Nat.le_of_ble_eq_true rfl) (Nat.le_of_ble_eq_true rfl)) (fun u23 t H locs ht hvm hw23 hB hz1 hk1 hS => ?_)
  obtain ⟨hP, hD⟩ := hB
  rw [ht] at hP
  obtain ⟨hw23, rfl⟩ := hw23
  refine lv_aload_n hx hb dX7_gone_26 rfl (lv_at hl 0 rfl) ?_
  refine lv_iload_n hx hb dX7_gone_27 rfl (lv_at hl 3 rfl) ?_
  refine va_callv (va_runV (As := [.int da]) (rest := []) ⟨hx, hb, hml, hown, hts⟩ (c_X6_leave l hl0 D y b0 Ls ad G (1000 + 3 * i) (uo i) (nI (uf i)) (nI (ul i)) (ug i) (ut i) (uk i) (ud i) (hUs.2 i hi).1 da) (cwV 1 hts gX7_gone_X6_leave rfl rfl rfl (by decide +kernel) ⟨(Nat.le_of_ble_eq_true rfl), (Nat.le_of_ble_eq_true rfl)⟩) ⟨WdM_blind, Wd_recv hK hP (ci := 8) rfl hu eu, WdM_at hP hK hN hD hS hb0 hT⟩ rfl rfl hl.1 rfl (lv_room (Nat.le_of_ble_eq_true rfl)) dX7_gone_28 ⟨(Nat.le_of_ble_eq_true rfl), (Nat.le_of_ble_eq_true rfl)⟩) hS (fun _ _ h => h) (fun _ h => h) (fun u28 t H locs ht hvm hw28 hB hz1 hk1 hS => ?_)
  obtain ⟨hP, hD⟩ := hB
  rw [ht] at hP
  obtain ⟨g28, rfl, hU2, hfr2⟩ := hw28
  obtain ⟨hu, huk, hud, eu, euk, eud, -⟩ := id hU2
  refine lv_aload_n hx hb dX7_gone_31 rfl (lv_at hl 0 rfl) ?_
  refine lv_iconst (v := 0) hx hb dX7_gone_32 (by decide) ?_
  refine lv_sipush (v := 3599) hx hb dX7_gone_33 (by decide) ?_
  refine vp_callSi (va_Run.run (va_runV (As := [.int 0, .int 3599]) (rest := []) ⟨hx, hb, hml, hown, hts⟩ (c_X6_daysThere l D y Ls ad g28 (1000 + 3 * i) (uo i) (nI (uf i)) da 1 (ut i) (uk i) (ud i) hU2 0 3599) (cwV 2 hts gX7_gone_X6_daysThere rfl rfl rfl (by decide +kernel) ⟨Nat.le_of_ble_eq_true rfl, Nat.le_of_ble_eq_true rfl⟩) ⟨Wd_blind, Wd_recv hK hP (ci := 8) rfl hu eu, Wd_at hP hK hN⟩ rfl rfl hl.1 rfl (lv_room (Nat.le_of_ble_eq_true rfl)) dX7_gone_36 ⟨(Nat.le_of_ble_eq_true rfl), (Nat.le_of_ble_eq_true rfl)⟩)) (fun r_36 hr_36 => ?_)
  refine W.widen (k := 3) (n := 18) (Nat.le_of_ble_eq_true rfl) (Nat.le_of_ble_eq_true rfl) ?_
  exact vx_ret (W.iret (v := r_36) hx hb hr (fun t ht hW => ⟨⟨r_36, wl Ls ad g28, rfl, ⟨i, hi, rfl, hw6, hw23, hr_36, g28, rfl, hU2, hfr2⟩, by rw [ht]; exact hP, hD⟩, hS.F ht⟩) hS.2.2 dX7_gone_39)
