/-! constructors of the small objects -/

set_option maxHeartbeats 4000000 in
set_option maxRecDepth 100000 in
/-- Move() -/
theorem c_X3_init (l : Launch) (hl0 : l.stackTraces = false) (D : va_G) (y : Nat → ClassId) (b0 : Nat) (w0 : va_W) (q : Nat) (o kd da pc0 : Int32) : Met l yX3_init wsX3_init ({ frames := 1, cells := 0, slots := 0, locals := 20 }) (va_Pc [.ref q, .int o, .int kd, .int da, .int pc0] (WdM D y b0 (w0 ++ [(q, .inr (5, [.int 0, .int 0, .int 0, .int 0]))]))) (va_Qv (fun (u : va_W) => u = w0 ++ [(q, .inr (5, [.int o, .int kd, .int da, .int pc0]))]) (WB D b0) (fun q => b0 ≤ q)) 0 0 (fun q => b0 ≤ q) := by
  refine Met.ofW (cc := cX3_init) (maxL := 5) (ret := none) (by decide) rfl ?_
  intro p e s m args below meth c s₁ B hml hv
  obtain ⟨rfl, ⟨hP, hK, hN⟩, hD, hb0, hT⟩ := hv
  have hx := B.exec
  have hb := B.bytes
  have hr := B.returns
  have hts := atoms_spec (ws := wsX3_init) B.pre
  have hown : s.vm.findClass RX3 = some m.cls := findClass_of_methodNamed B.named
  have hlocks := B.notSynchronized
  have hS : va_S (fun q => b0 ≤ q) s.heap s.heap [] := va_S.rf
  have hin : meth.name = "<init>" := (name_of_methodNamed B.named B.method).1
  have hinX3 : ∀ w ∈ wsX30, w ∈ wsX3_init := by decide +kernel
  have hA : ∀ q, s.heap.size ≤ q → (fun q => b0 ≤ q) q := fun q h => Nat.le_trans hb0 h
  have hl := lv_entry ([.ref q, .int o, .int kd, .int da, .int pc0]) (n := 5) (Nat.le_of_ble_eq_true rfl)
  rw [lg_entry_eq]
  generalize (lg_sl ([.ref q, .int o, .int kd, .int da, .int pc0]) ++ List.replicate (5 - (lg_sl ([.ref q, .int o, .int kd, .int da, .int pc0])).length) Slot.unset).toArray = ls at hl ⊢
  have hl : lv_has ls 5 [(0, .ref q), (1, .int o), (2, .int kd), (3, .int da), (4, .int pc0)] := hl
  refine lv_aload_n hx hb dX3_init_0 rfl (lv_at hl 0 rfl) ?_
  refine W.objInit hx hb hown (hts (.methodLink RX3 1 objectInit) (by decide +kernel)) (hts (.instanceMethod objectInit) (by decide +kernel)) (hts (.code objectInit ⟨#[0xb1]⟩ 1 none) (by decide +kernel)) rfl (by rw [hml]; exact hl.1) rfl dX3_init_1 (Nat.le_of_ble_eq_true rfl) (Nat.le_of_ble_eq_true rfl) ?_
  refine W.eq (g2 := F0 m 4 ls []) rfl ?_
  refine lv_aload_n hx hb dX3_init_4 rfl (lv_at hl 0 rfl) ?_
  refine lv_iload_n hx hb dX3_init_5 rfl (lv_at hl 1 rfl) ?_
  refine sx_putF (ci := 5) (v := .int o) (ty := .int) (C := RX3) (T := TX3) (N := 4) hx hb hts hinX3 tyX3 tyX3_ok nmX3 hown hK hP hD hS 0 rfl rfl 0 (by decide) (hts (.fieldLink RX3 7 "StorageCharge$Move" "owner" "I") (by decide +kernel)) (fun _ h9 => h9) rfl hin rfl (by decide +kernel) rfl rfl (Nat.le_of_ble_eq_true rfl) dX3_init_6 (fun H locs hP hD hS => ?_)
  have hP : va_P D vwCl (w0 ++ [(q, .inr (5, [.int o, .int 0, .int 0, .int 0]))]) H := hP
  have hD : va_D (fun q => b0 ≤ q) (w0 ++ [(q, .inr (5, [.int o, .int 0, .int 0, .int 0]))]) := hD
  refine lv_aload_n hx hb dX3_init_9 rfl (lv_at hl 0 rfl) ?_
  refine lv_iload_n hx hb dX3_init_10 rfl (lv_at hl 2 rfl) ?_
  refine sx_putF (ci := 5) (v := .int kd) (ty := .int) (C := RX3) (T := TX3) (N := 4) hx hb hts hinX3 tyX3 tyX3_ok nmX3 hown hK hP hD hS 0 rfl rfl 1 (by decide) (hts (.fieldLink RX3 13 "StorageCharge$Move" "kind" "I") (by decide +kernel)) (fun _ h9 => h9) rfl hin rfl (by decide +kernel) rfl rfl (Nat.le_of_ble_eq_true rfl) dX3_init_11 (fun H locs hP hD hS => ?_)
  have hP : va_P D vwCl (w0 ++ [(q, .inr (5, [.int o, .int kd, .int 0, .int 0]))]) H := hP
  have hD : va_D (fun q => b0 ≤ q) (w0 ++ [(q, .inr (5, [.int o, .int kd, .int 0, .int 0]))]) := hD
  refine lv_aload_n hx hb dX3_init_14 rfl (lv_at hl 0 rfl) ?_
  refine lv_iload_n hx hb dX3_init_15 rfl (lv_at hl 3 rfl) ?_
  refine sx_putF (ci := 5) (v := .int da) (ty := .int) (C := RX3) (T := TX3) (N := 4) hx hb hts hinX3 tyX3 tyX3_ok nmX3 hown hK hP hD hS 0 rfl rfl 2 (by decide) (hts (.fieldLink RX3 16 "StorageCharge$Move" "day" "I") (by decide +kernel)) (fun _ h9 => h9) rfl hin rfl (by decide +kernel) rfl rfl (Nat.le_of_ble_eq_true rfl) dX3_init_16 (fun H locs hP hD hS => ?_)
  have hP : va_P D vwCl (w0 ++ [(q, .inr (5, [.int o, .int kd, .int da, .int 0]))]) H := hP
  have hD : va_D (fun q => b0 ≤ q) (w0 ++ [(q, .inr (5, [.int o, .int kd, .int da, .int 0]))]) := hD
  refine lv_aload_n hx hb dX3_init_19 rfl (lv_at hl 0 rfl) ?_
  refine lv_iload hx hb dX3_init_20 (lv_at hl 4 rfl) ?_
  refine sx_putF (ci := 5) (v := .int pc0) (ty := .int) (C := RX3) (T := TX3) (N := 4) hx hb hts hinX3 tyX3 tyX3_ok nmX3 hown hK hP hD hS 0 rfl rfl 3 (by decide) (hts (.fieldLink RX3 19 "StorageCharge$Move" "pieces" "I") (by decide +kernel)) (fun _ h9 => h9) rfl hin rfl (by decide +kernel) rfl rfl (Nat.le_of_ble_eq_true rfl) dX3_init_22 (fun H locs hP hD hS => ?_)
  have hP : va_P D vwCl (w0 ++ [(q, .inr (5, [.int o, .int kd, .int da, .int pc0]))]) H := hP
  have hD : va_D (fun q => b0 ≤ q) (w0 ++ [(q, .inr (5, [.int o, .int kd, .int da, .int pc0]))]) := hD
  refine W.widen (k := 0) (n := 0) (Nat.le_of_ble_eq_true rfl) (Nat.le_of_ble_eq_true rfl) ?_
  exact W.vret hx hb hr (fun t ht hW => ⟨⟨w0 ++ [(q, .inr (5, [.int o, .int kd, .int da, .int pc0]))], rfl, rfl, by rw [ht]; exact hP, hD⟩, hS.F ht⟩) hS.2.2 dX3_init_25

set_option maxHeartbeats 4000000 in
set_option maxRecDepth 100000 in
/-- BillLine() -/
theorem c_X0_init (l : Launch) (hl0 : l.stackTraces = false) (D : va_G) (y : Nat → ClassId) (b0 : Nat) (w0 : va_W) (q : Nat) (o mo0 ce z0 : Int32) (hz1 : narrow .boolean (.int z0) = .int z0) (hz2 : fits .boolean (.int z0) = true) : Met l yX0_init wsX0_init ({ frames := 1, cells := 0, slots := 0, locals := 20 }) (va_Pc [.ref q, .int o, .int mo0, .int ce, .int z0] (WdM D y b0 (w0 ++ [(q, .inr (2, [.int 0, .int 0, .int 0, .int 0]))]))) (va_Qv (fun (u : va_W) => u = w0 ++ [(q, .inr (2, [.int o, .int mo0, .int ce, .int z0]))]) (WB D b0) (fun q => b0 ≤ q)) 0 0 (fun q => b0 ≤ q) := by
  refine Met.ofW (cc := cX0_init) (maxL := 5) (ret := none) (by decide) rfl ?_
  intro p e s m args below meth c s₁ B hml hv
  obtain ⟨rfl, ⟨hP, hK, hN⟩, hD, hb0, hT⟩ := hv
  have hx := B.exec
  have hb := B.bytes
  have hr := B.returns
  have hts := atoms_spec (ws := wsX0_init) B.pre
  have hown : s.vm.findClass RX0 = some m.cls := findClass_of_methodNamed B.named
  have hlocks := B.notSynchronized
  have hS : va_S (fun q => b0 ≤ q) s.heap s.heap [] := va_S.rf
  have hin : meth.name = "<init>" := (name_of_methodNamed B.named B.method).1
  have hinX0 : ∀ w ∈ wsX00, w ∈ wsX0_init := by decide +kernel
  have hA : ∀ q, s.heap.size ≤ q → (fun q => b0 ≤ q) q := fun q h => Nat.le_trans hb0 h
  have hl := lv_entry ([.ref q, .int o, .int mo0, .int ce, .int z0]) (n := 5) (Nat.le_of_ble_eq_true rfl)
  rw [lg_entry_eq]
  generalize (lg_sl ([.ref q, .int o, .int mo0, .int ce, .int z0]) ++ List.replicate (5 - (lg_sl ([.ref q, .int o, .int mo0, .int ce, .int z0])).length) Slot.unset).toArray = ls at hl ⊢
  have hl : lv_has ls 5 [(0, .ref q), (1, .int o), (2, .int mo0), (3, .int ce), (4, .int z0)] := hl
  refine lv_aload_n hx hb dX0_init_0 rfl (lv_at hl 0 rfl) ?_
  refine W.objInit hx hb hown (hts (.methodLink RX0 1 objectInit) (by decide +kernel)) (hts (.instanceMethod objectInit) (by decide +kernel)) (hts (.code objectInit ⟨#[0xb1]⟩ 1 none) (by decide +kernel)) rfl (by rw [hml]; exact hl.1) rfl dX0_init_1 (Nat.le_of_ble_eq_true rfl) (Nat.le_of_ble_eq_true rfl) ?_
  refine W.eq (g2 := F0 m 4 ls []) rfl ?_
  refine lv_aload_n hx hb dX0_init_4 rfl (lv_at hl 0 rfl) ?_
  refine lv_iload_n hx hb dX0_init_5 rfl (lv_at hl 1 rfl) ?_
  refine sx_putF (ci := 2) (v := .int o) (ty := .int) (C := RX0) (T := TX0) (N := 4) hx hb hts hinX0 tyX0 tyX0_ok nmX0 hown hK hP hD hS 0 rfl rfl 0 (by decide) (hts (.fieldLink RX0 7 "StorageCharge$BillLine" "owner" "I") (by decide +kernel)) (fun _ h9 => h9) rfl hin rfl (by decide +kernel) rfl rfl (Nat.le_of_ble_eq_true rfl) dX0_init_6 (fun H locs hP hD hS => ?_)
  have hP : va_P D vwCl (w0 ++ [(q, .inr (2, [.int o, .int 0, .int 0, .int 0]))]) H := hP
  have hD : va_D (fun q => b0 ≤ q) (w0 ++ [(q, .inr (2, [.int o, .int 0, .int 0, .int 0]))]) := hD
  refine lv_aload_n hx hb dX0_init_9 rfl (lv_at hl 0 rfl) ?_
  refine lv_iload_n hx hb dX0_init_10 rfl (lv_at hl 2 rfl) ?_
  refine sx_putF (ci := 2) (v := .int mo0) (ty := .int) (C := RX0) (T := TX0) (N := 4) hx hb hts hinX0 tyX0 tyX0_ok nmX0 hown hK hP hD hS 0 rfl rfl 1 (by decide) (hts (.fieldLink RX0 13 "StorageCharge$BillLine" "month" "I") (by decide +kernel)) (fun _ h9 => h9) rfl hin rfl (by decide +kernel) rfl rfl (Nat.le_of_ble_eq_true rfl) dX0_init_11 (fun H locs hP hD hS => ?_)
  have hP : va_P D vwCl (w0 ++ [(q, .inr (2, [.int o, .int mo0, .int 0, .int 0]))]) H := hP
  have hD : va_D (fun q => b0 ≤ q) (w0 ++ [(q, .inr (2, [.int o, .int mo0, .int 0, .int 0]))]) := hD
  refine lv_aload_n hx hb dX0_init_14 rfl (lv_at hl 0 rfl) ?_
  refine lv_iload_n hx hb dX0_init_15 rfl (lv_at hl 3 rfl) ?_
  refine sx_putF (ci := 2) (v := .int ce) (ty := .int) (C := RX0) (T := TX0) (N := 4) hx hb hts hinX0 tyX0 tyX0_ok nmX0 hown hK hP hD hS 0 rfl rfl 2 (by decide) (hts (.fieldLink RX0 16 "StorageCharge$BillLine" "cents" "I") (by decide +kernel)) (fun _ h9 => h9) rfl hin rfl (by decide +kernel) rfl rfl (Nat.le_of_ble_eq_true rfl) dX0_init_16 (fun H locs hP hD hS => ?_)
  have hP : va_P D vwCl (w0 ++ [(q, .inr (2, [.int o, .int mo0, .int ce, .int 0]))]) H := hP
  have hD : va_D (fun q => b0 ≤ q) (w0 ++ [(q, .inr (2, [.int o, .int mo0, .int ce, .int 0]))]) := hD
  refine lv_aload_n hx hb dX0_init_19 rfl (lv_at hl 0 rfl) ?_
  refine lv_iload hx hb dX0_init_20 (lv_at hl 4 rfl) ?_
  refine sx_putF (ci := 2) (v := .int z0) (ty := .boolean) (C := RX0) (T := TX0) (N := 4) hx hb hts hinX0 tyX0 tyX0_ok nmX0 hown hK hP hD hS 0 rfl rfl 3 (by decide) (hts (.fieldLink RX0 19 "StorageCharge$BillLine" "isCorrection" "Z") (by decide +kernel)) (fun _ h9 => h9) rfl hin rfl (by decide +kernel) hz1 hz2 (Nat.le_of_ble_eq_true rfl) dX0_init_22 (fun H locs hP hD hS => ?_)
  have hP : va_P D vwCl (w0 ++ [(q, .inr (2, [.int o, .int mo0, .int ce, .int z0]))]) H := hP
  have hD : va_D (fun q => b0 ≤ q) (w0 ++ [(q, .inr (2, [.int o, .int mo0, .int ce, .int z0]))]) := hD
  refine W.widen (k := 0) (n := 0) (Nat.le_of_ble_eq_true rfl) (Nat.le_of_ble_eq_true rfl) ?_
  exact W.vret hx hb hr (fun t ht hW => ⟨⟨w0 ++ [(q, .inr (2, [.int o, .int mo0, .int ce, .int z0]))], rfl, rfl, by rw [ht]; exact hP, hD⟩, hS.F ht⟩) hS.2.2 dX0_init_25

set_option maxHeartbeats 4000000 in
set_option maxRecDepth 100000 in
/-- Unit() -/
theorem c_X6_init (l : Launch) (hl0 : l.stackTraces = false) (D : va_G) (y : Nat → ClassId) (b0 : Nat) (w0 : va_W) (q : Nat) (o kd da : Int32) : Met l yX6_init wsX6_init ({ frames := 1, cells := 2, slots := 18, locals := 20 }) (va_Pc [.ref q, .int o, .int kd, .int da] (WdM D y b0 (w0 ++ [(q, .inr (8, [.int 0, .int 0, .int 0, .int 0, .null, .null, .int 0]))]))) (va_Qv (fun (u : va_W) => ∃ q1 q2, u = w0 ++ [(q, .inr (8, [.int o, .int da, .int 3599, .int 0, .ref q1, .ref q2, .int 1])), (q1, .inl (y 0, 9, .inl (upd (fun _ => 0) 0 kd))), (q2, .inl (y 0, 9, .inl (upd (fun _ => 0) 0 da)))]) (WB D b0) (fun q => b0 ≤ q)) 2 18 (fun q => b0 ≤ q) := by
  refine Met.ofW (cc := cX6_init) (maxL := 4) (ret := none) (by decide) rfl ?_
  intro p e s m args below meth c s₁ B hml hv
  obtain ⟨rfl, ⟨hP, hK, hN⟩, hD, hb0, hT⟩ := hv
  have hx := B.exec
  have hb := B.bytes
  have hr := B.returns
  have hts := atoms_spec (ws := wsX6_init) B.pre
  have hown : s.vm.findClass RX6 = some m.cls := findClass_of_methodNamed B.named
  have hlocks := B.notSynchronized
  have hS : va_S (fun q => b0 ≤ q) s.heap s.heap [] := va_S.rf
  have hin : meth.name = "<init>" := (name_of_methodNamed B.named B.method).1
  have hinX6 : ∀ w ∈ wsX60, w ∈ wsX6_init := by decide +kernel
  have hA : ∀ q, s.heap.size ≤ q → (fun q => b0 ≤ q) q := fun q h => Nat.le_trans hb0 h
  have hl := lv_entry ([.ref q, .int o, .int kd, .int da]) (n := 4) (Nat.le_of_ble_eq_true rfl)
  rw [lg_entry_eq]
  generalize (lg_sl ([.ref q, .int o, .int kd, .int da]) ++ List.replicate (4 - (lg_sl ([.ref q, .int o, .int kd, .int da])).length) Slot.unset).toArray = ls at hl ⊢
  have hl : lv_has ls 4 [(0, .ref q), (1, .int o), (2, .int kd), (3, .int da)] := hl
  refine lv_aload_n hx hb dX6_init_0 rfl (lv_at hl 0 rfl) ?_
  refine W.objInit hx hb hown (hts (.methodLink RX6 3 objectInit) (by decide +kernel)) (hts (.instanceMethod objectInit) (by decide +kernel)) (hts (.code objectInit ⟨#[0xb1]⟩ 1 none) (by decide +kernel)) rfl (by rw [hml]; exact hl.1) rfl dX6_init_1 (Nat.le_of_ble_eq_true rfl) (Nat.le_of_ble_eq_true rfl) ?_
  refine W.eq (g2 := F0 m 4 ls []) rfl ?_
  refine lv_aload_n hx hb dX6_init_4 rfl (lv_at hl 0 rfl) ?_
  refine lv_sipush (v := 3599) hx hb dX6_init_5 (by decide) ?_
  refine sx_put (ci := 8) (v := .int 3599) (ty := .int) (C := RX6) (T := TX6) (N := 7) hx hb hts hinX6 tyX6 tyX6_ok nmX6 hown hK hP hD hS 0 rfl rfl 2 (by decide) (hts (.fieldLink RX6 9 "StorageCharge$Unit" "lastDay" "I") (by decide +kernel)) (fun _ h9 => h9) rfl (by decide +kernel) rfl rfl (Nat.le_of_ble_eq_true rfl) dX6_init_8 (fun H locs hP hD hS => ?_)
  have hP : va_P D vwCl (w0 ++ [(q, .inr (8, [.int 0, .int 0, .int 3599, .int 0, .null, .null, .int 0]))]) H := hP
  have hD : va_D (fun q => b0 ≤ q) (w0 ++ [(q, .inr (8, [.int 0, .int 0, .int 3599, .int 0, .null, .null, .int 0]))]) := hD
  refine lv_aload_n hx hb dX6_init_11 rfl (lv_at hl 0 rfl) ?_
  refine lv_iconst (v := 0) hx hb dX6_init_12 (by decide) ?_
  refine sx_put (ci := 8) (v := .int 0) (ty := .boolean) (C := RX6) (T := TX6) (N := 7) hx hb hts hinX6 tyX6 tyX6_ok nmX6 hown hK hP hD hS 0 rfl rfl 3 (by decide) (hts (.fieldLink RX6 15 "StorageCharge$Unit" "isGone" "Z") (by decide +kernel)) (fun _ h9 => h9) rfl (by decide +kernel) rfl rfl (Nat.le_of_ble_eq_true rfl) dX6_init_13 (fun H locs hP hD hS => ?_)
  have hP : va_P D vwCl (w0 ++ [(q, .inr (8, [.int 0, .int 0, .int 3599, .int 0, .null, .null, .int 0]))]) H := hP
  have hD : va_D (fun q => b0 ≤ q) (w0 ++ [(q, .inr (8, [.int 0, .int 0, .int 3599, .int 0, .null, .null, .int 0]))]) := hD
  refine lv_aload_n hx hb dX6_init_16 rfl (lv_at hl 0 rfl) ?_
  refine lv_bipush (v := 9) hx hb dX6_init_17 (by decide) ?_
  refine sx_newi (y := y) hx hb (hts (.arrayClass .int) (by decide +kernel)) hK hP hD hS hA 9 (by decide) (by decide) (by decide) (Nat.le_of_ble_eq_true rfl) (Nat.le_of_ble_eq_true rfl) dX6_init_19 (fun q_19 H hP hD hS => ?_)
  have hP : va_P D vwCl (w0 ++ [(q, .inr (8, [.int 0, .int 0, .int 3599, .int 0, .null, .null, .int 0])), (q_19, .inl (y 0, 9, .inl (fun _ => 0)))]) H := hP
  have hD : va_D (fun q => b0 ≤ q) (w0 ++ [(q, .inr (8, [.int 0, .int 0, .int 3599, .int 0, .null, .null, .int 0])), (q_19, .inl (y 0, 9, .inl (fun _ => 0)))]) := hD
  refine sx_putF (ci := 8) (v := .ref q_19) (ty := .array .int) (C := RX6) (T := TX6) (N := 7) hx hb hts hinX6 tyX6 tyX6_ok nmX6 hown hK hP hD hS 0 rfl rfl 4 (by decide) (hts (.fieldLink RX6 19 "StorageCharge$Unit" "toldKinds" "[I") (by decide +kernel)) (fun _ h9 => h9) rfl hin rfl (by decide +kernel) rfl rfl (Nat.le_of_ble_eq_true rfl) dX6_init_21 (fun H locs hP hD hS => ?_)
  have hP : va_P D vwCl (w0 ++ [(q, .inr (8, [.int 0, .int 0, .int 3599, .int 0, .ref q_19, .null, .int 0])), (q_19, .inl (y 0, 9, .inl (fun _ => 0)))]) H := hP
  have hD : va_D (fun q => b0 ≤ q) (w0 ++ [(q, .inr (8, [.int 0, .int 0, .int 3599, .int 0, .ref q_19, .null, .int 0])), (q_19, .inl (y 0, 9, .inl (fun _ => 0)))]) := hD
  refine lv_aload_n hx hb dX6_init_24 rfl (lv_at hl 0 rfl) ?_
  refine lv_bipush (v := 9) hx hb dX6_init_25 (by decide) ?_
  refine sx_newi (y := y) hx hb (hts (.arrayClass .int) (by decide +kernel)) hK hP hD hS hA 9 (by decide) (by decide) (by decide) (Nat.le_of_ble_eq_true rfl) (Nat.le_of_ble_eq_true rfl) dX6_init_27 (fun q_27 H hP hD hS => ?_)
  have hP : va_P D vwCl (w0 ++ [(q, .inr (8, [.int 0, .int 0, .int 3599, .int 0, .ref q_19, .null, .int 0])), (q_19, .inl (y 0, 9, .inl (fun _ => 0))), (q_27, .inl (y 0, 9, .inl (fun _ => 0)))]) H := hP
  have hD : va_D (fun q => b0 ≤ q) (w0 ++ [(q, .inr (8, [.int 0, .int 0, .int 3599, .int 0, .ref q_19, .null, .int 0])), (q_19, .inl (y 0, 9, .inl (fun _ => 0))), (q_27, .inl (y 0, 9, .inl (fun _ => 0)))]) := hD
  refine sx_putF (ci := 8) (v := .ref q_27) (ty := .array .int) (C := RX6) (T := TX6) (N := 7) hx hb hts hinX6 tyX6 tyX6_ok nmX6 hown hK hP hD hS 0 rfl rfl 5 (by decide) (hts (.fieldLink RX6 23 "StorageCharge$Unit" "toldDays" "[I") (by decide +kernel)) (fun _ h9 => h9) rfl hin rfl (by decide +kernel) rfl rfl (Nat.le_of_ble_eq_true rfl) dX6_init_29 (fun H locs hP hD hS => ?_)
  have hP : va_P D vwCl (w0 ++ [(q, .inr (8, [.int 0, .int 0, .int 3599, .int 0, .ref q_19, .ref q_27, .int 0])), (q_19, .inl (y 0, 9, .inl (fun _ => 0))), (q_27, .inl (y 0, 9, .inl (fun _ => 0)))]) H := hP
  have hD : va_D (fun q => b0 ≤ q) (w0 ++ [(q, .inr (8, [.int 0, .int 0, .int 3599, .int 0, .ref q_19, .ref q_27, .int 0])), (q_19, .inl (y 0, 9, .inl (fun _ => 0))), (q_27, .inl (y 0, 9, .inl (fun _ => 0)))]) := hD
  refine lv_aload_n hx hb dX6_init_32 rfl (lv_at hl 0 rfl) ?_
  refine lv_iconst (v := 1) hx hb dX6_init_33 (by decide) ?_
  refine sx_put (ci := 8) (v := .int 1) (ty := .int) (C := RX6) (T := TX6) (N := 7) hx hb hts hinX6 tyX6 tyX6_ok nmX6 hown hK hP hD hS 0 rfl rfl 6 (by decide) (hts (.fieldLink RX6 26 "StorageCharge$Unit" "told" "I") (by decide +kernel)) (fun _ h9 => h9) rfl (by decide +kernel) rfl rfl (Nat.le_of_ble_eq_true rfl) dX6_init_34 (fun H locs hP hD hS => ?_)
  have hP : va_P D vwCl (w0 ++ [(q, .inr (8, [.int 0, .int 0, .int 3599, .int 0, .ref q_19, .ref q_27, .int 1])), (q_19, .inl (y 0, 9, .inl (fun _ => 0))), (q_27, .inl (y 0, 9, .inl (fun _ => 0)))]) H := hP
  have hD : va_D (fun q => b0 ≤ q) (w0 ++ [(q, .inr (8, [.int 0, .int 0, .int 3599, .int 0, .ref q_19, .ref q_27, .int 1])), (q_19, .inl (y 0, 9, .inl (fun _ => 0))), (q_27, .inl (y 0, 9, .inl (fun _ => 0)))]) := hD
  refine lv_aload_n hx hb dX6_init_37 rfl (lv_at hl 0 rfl) ?_
  refine lv_iload_n hx hb dX6_init_38 rfl (lv_at hl 1 rfl) ?_
  refine sx_putF (ci := 8) (v := .int o) (ty := .int) (C := RX6) (T := TX6) (N := 7) hx hb hts hinX6 tyX6 tyX6_ok nmX6 hown hK hP hD hS 0 rfl rfl 0 (by decide) (hts (.fieldLink RX6 29 "StorageCharge$Unit" "owner" "I") (by decide +kernel)) (fun _ h9 => h9) rfl hin rfl (by decide +kernel) rfl rfl (Nat.le_of_ble_eq_true rfl) dX6_init_39 (fun H locs hP hD hS => ?_)
  have hP : va_P D vwCl (w0 ++ [(q, .inr (8, [.int o, .int 0, .int 3599, .int 0, .ref q_19, .ref q_27, .int 1])), (q_19, .inl (y 0, 9, .inl (fun _ => 0))), (q_27, .inl (y 0, 9, .inl (fun _ => 0)))]) H := hP
  have hD : va_D (fun q => b0 ≤ q) (w0 ++ [(q, .inr (8, [.int o, .int 0, .int 3599, .int 0, .ref q_19, .ref q_27, .int 1])), (q_19, .inl (y 0, 9, .inl (fun _ => 0))), (q_27, .inl (y 0, 9, .inl (fun _ => 0)))]) := hD
  refine lv_aload_n hx hb dX6_init_42 rfl (lv_at hl 0 rfl) ?_
  refine lv_iload_n hx hb dX6_init_43 rfl (lv_at hl 3 rfl) ?_
  refine sx_putF (ci := 8) (v := .int da) (ty := .int) (C := RX6) (T := TX6) (N := 7) hx hb hts hinX6 tyX6 tyX6_ok nmX6 hown hK hP hD hS 0 rfl rfl 1 (by decide) (hts (.fieldLink RX6 32 "StorageCharge$Unit" "firstDay" "I") (by decide +kernel)) (fun _ h9 => h9) rfl hin rfl (by decide +kernel) rfl rfl (Nat.le_of_ble_eq_true rfl) dX6_init_44 (fun H locs hP hD hS => ?_)
  have hP : va_P D vwCl (w0 ++ [(q, .inr (8, [.int o, .int da, .int 3599, .int 0, .ref q_19, .ref q_27, .int 1])), (q_19, .inl (y 0, 9, .inl (fun _ => 0))), (q_27, .inl (y 0, 9, .inl (fun _ => 0)))]) H := hP
  have hD : va_D (fun q => b0 ≤ q) (w0 ++ [(q, .inr (8, [.int o, .int da, .int 3599, .int 0, .ref q_19, .ref q_27, .int 1])), (q_19, .inl (y 0, 9, .inl (fun _ => 0))), (q_27, .inl (y 0, 9, .inl (fun _ => 0)))]) := hD
  refine lv_aload_n hx hb dX6_init_47 rfl (lv_at hl 0 rfl) ?_
  refine va_get (ci := 8) (C := RX6) (T := TX6) (N := 7) hx hb hts hinX6 hown hK (va_Pr hP) 0 rfl rfl 4 (by decide) (hts (.fieldLink RX6 19 "StorageCharge$Unit" "toldKinds" "[I") (by decide +kernel)) (fun _ h9 => h9) rfl dX6_init_48 ?_
  refine lv_iconst (v := 0) hx hb dX6_init_51 (by decide) ?_
  refine lv_iload_n hx hb dX6_init_52 rfl (lv_at hl 2 rfl) ?_
  refine sx_iast hx hb hK hP hD hS 1 0 rfl rfl (k := 0) (by decide) (by decide) (by decide) dX6_init_53 (fun H locs hP hD hS => ?_)
  have hP : va_P D vwCl (w0 ++ [(q, .inr (8, [.int o, .int da, .int 3599, .int 0, .ref q_19, .ref q_27, .int 1])), (q_19, .inl (y 0, 9, .inl (upd (fun _ => 0) 0 kd))), (q_27, .inl (y 0, 9, .inl (fun _ => 0)))]) H := hP
  have hD : va_D (fun q => b0 ≤ q) (w0 ++ [(q, .inr (8, [.int o, .int da, .int 3599, .int 0, .ref q_19, .ref q_27, .int 1])), (q_19, .inl (y 0, 9, .inl (upd (fun _ => 0) 0 kd))), (q_27, .inl (y 0, 9, .inl (fun _ => 0)))]) := hD
  refine lv_aload_n hx hb dX6_init_54 rfl (lv_at hl 0 rfl) ?_
  refine va_get (ci := 8) (C := RX6) (T := TX6) (N := 7) hx hb hts hinX6 hown hK (va_Pr hP) 0 rfl rfl 5 (by decide) (hts (.fieldLink RX6 23 "StorageCharge$Unit" "toldDays" "[I") (by decide +kernel)) (fun _ h9 => h9) rfl dX6_init_55 ?_
  refine lv_iconst (v := 0) hx hb dX6_init_58 (by decide) ?_
  refine lv_iload_n hx hb dX6_init_59 rfl (lv_at hl 3 rfl) ?_
  refine sx_iast hx hb hK hP hD hS 2 0 rfl rfl (k := 0) (by decide) (by decide) (by decide) dX6_init_60 (fun H locs hP hD hS => ?_)
  have hP : va_P D vwCl (w0 ++ [(q, .inr (8, [.int o, .int da, .int 3599, .int 0, .ref q_19, .ref q_27, .int 1])), (q_19, .inl (y 0, 9, .inl (upd (fun _ => 0) 0 kd))), (q_27, .inl (y 0, 9, .inl (upd (fun _ => 0) 0 da)))]) H := hP
  have hD : va_D (fun q => b0 ≤ q) (w0 ++ [(q, .inr (8, [.int o, .int da, .int 3599, .int 0, .ref q_19, .ref q_27, .int 1])), (q_19, .inl (y 0, 9, .inl (upd (fun _ => 0) 0 kd))), (q_27, .inl (y 0, 9, .inl (upd (fun _ => 0) 0 da)))]) := hD
  refine W.widen (k := 2) (n := 18) (Nat.le_of_ble_eq_true rfl) (Nat.le_of_ble_eq_true rfl) ?_
  exact W.vret hx hb hr (fun t ht hW => ⟨⟨w0 ++ [(q, .inr (8, [.int o, .int da, .int 3599, .int 0, .ref q_19, .ref q_27, .int 1])), (q_19, .inl (y 0, 9, .inl (upd (fun _ => 0) 0 kd))), (q_27, .inl (y 0, 9, .inl (upd (fun _ => 0) 0 da)))], rfl, ⟨q_19, q_27, rfl⟩, by rw [ht]; exact hP, hD⟩, hS.F ht⟩) hS.2.2 dX6_init_61

set_option maxHeartbeats 4000000 in
set_option maxRecDepth 100000 in
/-- Text() -/
theorem c_X5_init (l : Launch) (hl0 : l.stackTraces = false) (D : va_G) (y : Nat → ClassId) (b0 : Nat) (w0 : va_W) (q : Nat) : Met l yX5_init wsX5_init ({ frames := 1, cells := 1, slots := 400, locals := 20 }) (va_Pc [.ref q] (WdM D y b0 (w0 ++ [(q, .inr (7, [.null, .int 0, .int 0]))]))) (va_Qv (fun (u : va_W) => ∃ q1, u = w0 ++ [(q, .inr (7, [.ref q1, .int 0, .int 0])), (q1, .inl (y 1, 400, .inl (fun _ => 0)))]) (WB D b0) (fun q => b0 ≤ q)) 1 400 (fun q => b0 ≤ q) := by
  refine Met.ofW (cc := cX5_init) (maxL := 1) (ret := none) (by decide) rfl ?_
  intro p e s m args below meth c s₁ B hml hv
  obtain ⟨rfl, ⟨hP, hK, hN⟩, hD, hb0, hT⟩ := hv
  have hx := B.exec
  have hb := B.bytes
  have hr := B.returns
  have hts := atoms_spec (ws := wsX5_init) B.pre
  have hown : s.vm.findClass RX5 = some m.cls := findClass_of_methodNamed B.named
  have hlocks := B.notSynchronized
  have hS : va_S (fun q => b0 ≤ q) s.heap s.heap [] := va_S.rf
  have hin : meth.name = "<init>" := (name_of_methodNamed B.named B.method).1
  have hinX5 : ∀ w ∈ wsX50, w ∈ wsX5_init := by decide +kernel
  have hA : ∀ q, s.heap.size ≤ q → (fun q => b0 ≤ q) q := fun q h => Nat.le_trans hb0 h
  have hl := lv_entry ([.ref q]) (n := 1) (Nat.le_of_ble_eq_true rfl)
  rw [lg_entry_eq]
  generalize (lg_sl ([.ref q]) ++ List.replicate (1 - (lg_sl ([.ref q])).length) Slot.unset).toArray = ls at hl ⊢
  have hl : lv_has ls 1 [(0, .ref q)] := hl
  refine lv_aload_n hx hb dX5_init_0 rfl (lv_at hl 0 rfl) ?_
  refine W.objInit hx hb hown (hts (.methodLink RX5 3 objectInit) (by decide +kernel)) (hts (.instanceMethod objectInit) (by decide +kernel)) (hts (.code objectInit ⟨#[0xb1]⟩ 1 none) (by decide +kernel)) rfl (by rw [hml]; exact hl.1) rfl dX5_init_1 (Nat.le_of_ble_eq_true rfl) (Nat.le_of_ble_eq_true rfl) ?_
  refine W.eq (g2 := F0 m 4 ls []) rfl ?_
  refine lv_aload_n hx hb dX5_init_4 rfl (lv_at hl 0 rfl) ?_
  refine lv_sipush (v := 400) hx hb dX5_init_5 (by decide) ?_
  refine sx_newc (y := y) hx hb (hts (.arrayClass .char) (by decide +kernel)) hK hP hD hS hA 400 (by decide) (by decide) (by decide) (Nat.le_of_ble_eq_true rfl) (Nat.le_of_ble_eq_true rfl) dX5_init_8 (fun q_8 H hP hD hS => ?_)
  have hP : va_P D vwCl (w0 ++ [(q, .inr (7, [.null, .int 0, .int 0])), (q_8, .inl (y 1, 400, .inl (fun _ => 0)))]) H := hP
  have hD : va_D (fun q => b0 ≤ q) (w0 ++ [(q, .inr (7, [.null, .int 0, .int 0])), (q_8, .inl (y 1, 400, .inl (fun _ => 0)))]) := hD
  refine sx_putF (ci := 7) (v := .ref q_8) (ty := .array .char) (C := RX5) (T := TX5) (N := 3) hx hb hts hinX5 tyX5 tyX5_ok nmX5 hown hK hP hD hS 0 rfl rfl 0 (by decide) (hts (.fieldLink RX5 9 "StorageCharge$Text" "signs" "[C") (by decide +kernel)) (fun _ h9 => h9) rfl hin rfl (by decide +kernel) rfl rfl (Nat.le_of_ble_eq_true rfl) dX5_init_10 (fun H locs hP hD hS => ?_)
  have hP : va_P D vwCl (w0 ++ [(q, .inr (7, [.ref q_8, .int 0, .int 0])), (q_8, .inl (y 1, 400, .inl (fun _ => 0)))]) H := hP
  have hD : va_D (fun q => b0 ≤ q) (w0 ++ [(q, .inr (7, [.ref q_8, .int 0, .int 0])), (q_8, .inl (y 1, 400, .inl (fun _ => 0)))]) := hD
  refine lv_aload_n hx hb dX5_init_13 rfl (lv_at hl 0 rfl) ?_
  refine lv_iconst (v := 0) hx hb dX5_init_14 (by decide) ?_
  refine sx_put (ci := 7) (v := .int 0) (ty := .int) (C := RX5) (T := TX5) (N := 3) hx hb hts hinX5 tyX5 tyX5_ok nmX5 hown hK hP hD hS 0 rfl rfl 1 (by decide) (hts (.fieldLink RX5 15 "StorageCharge$Text" "length" "I") (by decide +kernel)) (fun _ h9 => h9) rfl (by decide +kernel) rfl rfl (Nat.le_of_ble_eq_true rfl) dX5_init_15 (fun H locs hP hD hS => ?_)
  have hP : va_P D vwCl (w0 ++ [(q, .inr (7, [.ref q_8, .int 0, .int 0])), (q_8, .inl (y 1, 400, .inl (fun _ => 0)))]) H := hP
  have hD : va_D (fun q => b0 ≤ q) (w0 ++ [(q, .inr (7, [.ref q_8, .int 0, .int 0])), (q_8, .inl (y 1, 400, .inl (fun _ => 0)))]) := hD
  refine lv_aload_n hx hb dX5_init_18 rfl (lv_at hl 0 rfl) ?_
  refine lv_iconst (v := 0) hx hb dX5_init_19 (by decide) ?_
  refine sx_put (ci := 7) (v := .int 0) (ty := .int) (C := RX5) (T := TX5) (N := 3) hx hb hts hinX5 tyX5 tyX5_ok nmX5 hown hK hP hD hS 0 rfl rfl 2 (by decide) (hts (.fieldLink RX5 19 "StorageCharge$Text" "place" "I") (by decide +kernel)) (fun _ h9 => h9) rfl (by decide +kernel) rfl rfl (Nat.le_of_ble_eq_true rfl) dX5_init_20 (fun H locs hP hD hS => ?_)
  have hP : va_P D vwCl (w0 ++ [(q, .inr (7, [.ref q_8, .int 0, .int 0])), (q_8, .inl (y 1, 400, .inl (fun _ => 0)))]) H := hP
  have hD : va_D (fun q => b0 ≤ q) (w0 ++ [(q, .inr (7, [.ref q_8, .int 0, .int 0])), (q_8, .inl (y 1, 400, .inl (fun _ => 0)))]) := hD
  refine W.widen (k := 1) (n := 400) (Nat.le_of_ble_eq_true rfl) (Nat.le_of_ble_eq_true rfl) ?_
  exact W.vret hx hb hr (fun t ht hW => ⟨⟨w0 ++ [(q, .inr (7, [.ref q_8, .int 0, .int 0])), (q_8, .inl (y 1, 400, .inl (fun _ => 0)))], rfl, ⟨q_8, rfl⟩, by rw [ht]; exact hP, hD⟩, hS.F ht⟩) hS.2.2 dX5_init_23

set_option maxHeartbeats 4000000 in
set_option maxRecDepth 100000 in
/-- Paper() -/
theorem c_X4_init (l : Launch) (hl0 : l.stackTraces = false) (D : va_G) (y : Nat → ClassId) (b0 : Nat) (w0 : va_W) (q : Nat) : Met l yX4_init wsX4_init ({ frames := 1, cells := 1, slots := 8192, locals := 20 }) (va_Pc [.ref q] (WdM D y b0 (w0 ++ [(q, .inr (6, [.null, .int 0]))]))) (va_Qv (fun (u : va_W) => ∃ q1, u = w0 ++ [(q, .inr (6, [.ref q1, .int 0])), (q1, .inl (y 1, 8192, .inl (fun _ => 0)))]) (WB D b0) (fun q => b0 ≤ q)) 1 8192 (fun q => b0 ≤ q) := by
  refine Met.ofW (cc := cX4_init) (maxL := 1) (ret := none) (by decide) rfl ?_
  intro p e s m args below meth c s₁ B hml hv
  obtain ⟨rfl, ⟨hP, hK, hN⟩, hD, hb0, hT⟩ := hv
  have hx := B.exec
  have hb := B.bytes
  have hr := B.returns
  have hts := atoms_spec (ws := wsX4_init) B.pre
  have hown : s.vm.findClass RX4 = some m.cls := findClass_of_methodNamed B.named
  have hlocks := B.notSynchronized
  have hS : va_S (fun q => b0 ≤ q) s.heap s.heap [] := va_S.rf
  have hin : meth.name = "<init>" := (name_of_methodNamed B.named B.method).1
  have hinX4 : ∀ w ∈ wsX40, w ∈ wsX4_init := by decide +kernel
  have hA : ∀ q, s.heap.size ≤ q → (fun q => b0 ≤ q) q := fun q h => Nat.le_trans hb0 h
  have hl := lv_entry ([.ref q]) (n := 1) (Nat.le_of_ble_eq_true rfl)
  rw [lg_entry_eq]
  generalize (lg_sl ([.ref q]) ++ List.replicate (1 - (lg_sl ([.ref q])).length) Slot.unset).toArray = ls at hl ⊢
  have hl : lv_has ls 1 [(0, .ref q)] := hl
  refine lv_aload_n hx hb dX4_init_0 rfl (lv_at hl 0 rfl) ?_
  refine W.objInit hx hb hown (hts (.methodLink RX4 3 objectInit) (by decide +kernel)) (hts (.instanceMethod objectInit) (by decide +kernel)) (hts (.code objectInit ⟨#[0xb1]⟩ 1 none) (by decide +kernel)) rfl (by rw [hml]; exact hl.1) rfl dX4_init_1 (Nat.le_of_ble_eq_true rfl) (Nat.le_of_ble_eq_true rfl) ?_
  refine W.eq (g2 := F0 m 4 ls []) rfl ?_
  refine lv_aload_n hx hb dX4_init_4 rfl (lv_at hl 0 rfl) ?_
  refine lv_sipush (v := 8192) hx hb dX4_init_5 (by decide) ?_
  refine sx_newc (y := y) hx hb (hts (.arrayClass .char) (by decide +kernel)) hK hP hD hS hA 8192 (by decide) (by decide) (by decide) (Nat.le_of_ble_eq_true rfl) (Nat.le_of_ble_eq_true rfl) dX4_init_8 (fun q_8 H hP hD hS => ?_)
  have hP : va_P D vwCl (w0 ++ [(q, .inr (6, [.null, .int 0])), (q_8, .inl (y 1, 8192, .inl (fun _ => 0)))]) H := hP
  have hD : va_D (fun q => b0 ≤ q) (w0 ++ [(q, .inr (6, [.null, .int 0])), (q_8, .inl (y 1, 8192, .inl (fun _ => 0)))]) := hD
  refine sx_putF (ci := 6) (v := .ref q_8) (ty := .array .char) (C := RX4) (T := TX4) (N := 2) hx hb hts hinX4 tyX4 tyX4_ok nmX4 hown hK hP hD hS 0 rfl rfl 0 (by decide) (hts (.fieldLink RX4 9 "StorageCharge$Paper" "signs" "[C") (by decide +kernel)) (fun _ h9 => h9) rfl hin rfl (by decide +kernel) rfl rfl (Nat.le_of_ble_eq_true rfl) dX4_init_10 (fun H locs hP hD hS => ?_)
  have hP : va_P D vwCl (w0 ++ [(q, .inr (6, [.ref q_8, .int 0])), (q_8, .inl (y 1, 8192, .inl (fun _ => 0)))]) H := hP
  have hD : va_D (fun q => b0 ≤ q) (w0 ++ [(q, .inr (6, [.ref q_8, .int 0])), (q_8, .inl (y 1, 8192, .inl (fun _ => 0)))]) := hD
  refine lv_aload_n hx hb dX4_init_13 rfl (lv_at hl 0 rfl) ?_
  refine lv_iconst (v := 0) hx hb dX4_init_14 (by decide) ?_
  refine sx_put (ci := 6) (v := .int 0) (ty := .int) (C := RX4) (T := TX4) (N := 2) hx hb hts hinX4 tyX4 tyX4_ok nmX4 hown hK hP hD hS 0 rfl rfl 1 (by decide) (hts (.fieldLink RX4 15 "StorageCharge$Paper" "length" "I") (by decide +kernel)) (fun _ h9 => h9) rfl (by decide +kernel) rfl rfl (Nat.le_of_ble_eq_true rfl) dX4_init_15 (fun H locs hP hD hS => ?_)
  have hP : va_P D vwCl (w0 ++ [(q, .inr (6, [.ref q_8, .int 0])), (q_8, .inl (y 1, 8192, .inl (fun _ => 0)))]) H := hP
  have hD : va_D (fun q => b0 ≤ q) (w0 ++ [(q, .inr (6, [.ref q_8, .int 0])), (q_8, .inl (y 1, 8192, .inl (fun _ => 0)))]) := hD
  refine W.widen (k := 1) (n := 8192) (Nat.le_of_ble_eq_true rfl) (Nat.le_of_ble_eq_true rfl) ?_
  exact W.vret hx hb hr (fun t ht hW => ⟨⟨w0 ++ [(q, .inr (6, [.ref q_8, .int 0])), (q_8, .inl (y 1, 8192, .inl (fun _ => 0)))], rfl, ⟨q_8, rfl⟩, by rw [ht]; exact hP, hD⟩, hS.F ht⟩) hS.2.2 dX4_init_18
